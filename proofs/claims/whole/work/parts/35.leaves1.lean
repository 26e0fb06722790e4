/-! The law's calls, case by case. -/
def LI (J : SJ) (rd : Nat → Int) (pr : Nat → Nat) (M : SM) : Prop := JI J ∧ MJ J M ∧ RI rd ∧ ∀ j, pr j ≤ 100000
/-- what holds all along the law -/
def LX (p : Program) (l : Launch) (s : State) (m : MethodId) (meth : Method) (c : Code) (b L : Nat) (xs : Nat → Int32) (D : va_G) (cI cZ cL : ClassId) (A : Nat → Prop) : Prop :=
  l.stackTraces = false ∧ zC p s m meth c c_L_law 8 (some .boolean) n_L #[Value.ref b] TB ∧ va_X b L xs s s.heap ∧ b < s.heap.size ∧ va_K D classes (tysW cI cZ cL) s ∧ (∀ q : Nat, s.heap.size ≤ q → A q) ∧ ¬ A b ∧ (∀ (H : Heap) (locs : List Loc), va_S A s.heap H locs → zT s H) ∧ zS s ∧ L ≤ 2561
abbrev lwL (ad : Nat → Nat) (b i : Nat) : List (Nat × Value) := [(4, .int (iZ ((i : Nat) : Int))), (0, .ref (b)), (1, .ref (ad 0)), (2, .ref (ad 19)), (3, .ref (ad 33))]
/-- how the law goes on behind a call -/
def LK (p : Program) (l : Launch) (e : Env) (s : State) (m : MethodId) (below : List Frame) (meth : Method) (c : Code) (Q : State → Prop) (b : Nat) (D : va_G) (A : Nat → Prop) (ad : Nat → Nat) (cI cZ cL : ClassId) (i cells slots : Nat) : Prop :=
  ∀ (J : SJ) (rd : Nat → Int) (pr : Nat → Nat) (G : SH) (K : SK) (M : SM) (ov : Nat → Int64) (H : Heap) (locs : List Loc) (ls : Array Slot), LI J rd pr M → va_P D classes (wdC ad cI cZ cL J rd pr G K (wdM ad cI cZ cL J rd pr M ov)) H → va_D A (wdC ad cI cZ cL J rd pr G K (wdM ad cI cZ cL J rd pr M ov)) → va_S A s.heap H locs → lv_has ls 8 (lwL ad b i) →
    W p l e room_1 s m #[Value.ref b] below meth c H locs cells slots Q (F0 m 1598 ls [])
theorem pq_u {pr : Nat → Nat} (h : ∀ j, pr j ≤ 100000) {k v : Nat} (hv : v ≤ 100000) : ∀ j, nu pr k v j ≤ 100000 := fun j => by
  unfold nu
  split
  · exact hv
  · exact h j
section ZSL
variable {p : Program} {l : Launch} {e : Env} {R : Room} {s : State} {m : MethodId} {args : Array Value} {below : List Frame} {meth : Method} {c : Code} {H : Heap} {locs : List Loc} {cells slots : Nat} {Q : State → Prop}
variable {cc : ByteArray} {pc : Nat} {ls : Array Slot} {rest : List Value} {A : Nat → Prop} {H0 : Heap}
theorem z_sld (hx : p.tables.exec = Jvm.exec) (hb : c.code = cc) {b L : Nat} {xs : Nat → Int32} (hX : va_X b L xs s H0) (hbl : b < H0.size) (hbA : ¬ A b) (hS : va_S A H0 H locs) {z : Int} (k : Nat) (hk : z = (k : Int) ∧ k < L ∧ L < 2147483648) {v : Int32} (hv : xs k = v) (hdg : decode cc pc = .ok (.iaload, 1))
    (kk : W p l e R s m args below meth c H locs cells slots Q (F0 m (pc + 1) ls (.int v :: rest))) : W p l e R s m args below meth c H locs cells slots Q (F0 m pc ls (.int (iZ z) :: .ref b :: rest)) :=
  va_sld hx hb hX hbl hbA hS (iZ_in (by omega) hk.2.2) hdg (by rw [iZ_cl hk.1 (by omega), hv]; exact kk)
end ZSL
set_option maxHeartbeats 4000000 in
set_option maxRecDepth 100000 in
theorem lf_haul_x1 {p : Program} {l : Launch} {e : Env} {s : State} {m : MethodId} {below : List Frame} {meth : Method} {c : Code} {Q : State → Prop} {sb L : Nat} {xs : Nat → Int32} {D : va_G} {A : Nat → Prop} {ad : Nat → Nat} {cI cZ cL : ClassId} {J : SJ} {rd : Nat → Int} {pr : Nat → Nat} {G : SH} {K : SK} {M : SM} {ov : Nat → Int64} {H : Heap} {locs : List Loc} {cells slots i : Nat} {ls : Array Slot} (X : LX p l s m meth c sb L xs D cI cZ cL A) (hLI : LI J rd pr M) (hi : i + 4 < L) (hc : cells + 1 ≤ 1061 ∧ slots + 6 ≤ 9679) {a : Int} (h : z32 a ∧ (a < 0 ∨ 4 ≤ a)) (ha1 : xs (i + 1) = iZ (a)) (hP : va_P D classes (wdC ad cI cZ cL J rd pr G K (wdM ad cI cZ cL J rd pr M ov)) H) (hD : va_D A (wdC ad cI cZ cL J rd pr G K (wdM ad cI cZ cL J rd pr M ov))) (hS : va_S A s.heap H locs) (hl : lv_has ls 8 (lwL ad sb i)) (kk : LK p l e s m below meth c Q sb D A ad cI cZ cL i (cells + 1) (slots + 6)) : W p l e room_1 s m #[Value.ref sb] below meth c H locs cells slots Q (F0 m 152 ls []) := by
  obtain ⟨hl0, Z, hX, hbl, hK, hA, hbA, hTT, hSt, hL⟩ := X
  obtain ⟨hI, hM, hR, hpq⟩ := hLI
  obtain ⟨hx, hb, hr, hml, hown, hts, hE, hlocks⟩ := id Z
  have hn32 := hI.1
  have hk32 := hI.2.1
  have hl : lv_has ls 8 [(4, .int (iZ ((i : Nat) : Int))), (0, .ref (sb)), (1, .ref (ad 0)), (2, .ref (ad 19)), (3, .ref (ad 33))] := hl
  refine lv_aload_n hx hb d_L_law_152 rfl (lv_at hl 2 rfl) ?_
  refine lv_aload_n hx hb d_L_law_153 rfl (lv_at hl 1 rfl) ?_
  refine lv_iload hx hb d_L_law_154 (lv_at hl 0 rfl) ?_
  refine lv_iconst (v := iZ ((1 : Nat) : Int)) hx hb d_L_law_156 (by decide) ?_
  refine z_iaddN (u := i) (v := 1) hx hb d_L_law_157 ?_
  refine z_sld (v := iZ (a)) hx hb hX hbl hbA hS (i + 1) (by omega) ha1 d_L_law_158 ?_
  refine lv_aload_n hx hb d_L_law_159 rfl (lv_at hl 4 rfl) ?_
  refine z_kiW (z_runSW (As := [.ref (ad 0), .int (iZ (a)), .ref (ad 33)]) (rest := []) Z (k_L_haulx1 hl0 hI (a := a) h) ⟨ml_L_97, sm_L_haul, ini_L, co_L_haul⟩ zd_L_haul ⟨Nat.le_of_ble_eq_true rfl, Nat.le_of_ble_eq_true rfl⟩ hP hK hD (hTT _ _ hS) hSt hl.1 rfl (Nat.le_of_ble_eq_true rfl) d_L_law_160 ⟨hc.1, hc.2⟩) hD hS hA (fun r9 w9 H locs hp9 hP hD hS => ?_)
  obtain ⟨rfl, rfl⟩ := hp9
  have hP : va_P D classes (wdC ad cI cZ cL J rd pr G K (wdM ad cI cZ cL J rd pr M ov)) H := hP
  have hD : va_D A (wdC ad cI cZ cL J rd pr G K (wdM ad cI cZ cL J rd pr M ov)) := hD
  refine W.eq (g2 := F0 m 163 ls [.int (iZ ((1 : Nat) : Int))]) rfl ?_
  refine lv_istore (lv' := [(5, .int (iZ ((1 : Nat) : Int))), (4, .int (iZ ((i : Nat) : Int))), (0, .ref (sb)), (1, .ref (ad 0)), (2, .ref (ad 19)), (3, .ref (ad 33))]) hx hb d_L_law_163 hl (by decide) rfl (fun ls hl => ?_)
  refine lv_aload_n hx hb d_L_law_165 rfl (lv_at hl 4 rfl) ?_
  refine lv_aload_n hx hb d_L_law_166 rfl (lv_at hl 2 rfl) ?_
  refine lv_iload hx hb d_L_law_167 (lv_at hl 1 rfl) ?_
  refine lv_iconst (v := iZ ((1 : Nat) : Int)) hx hb d_L_law_169 (by decide) ?_
  refine z_iaddN (u := i) (v := 1) hx hb d_L_law_170 ?_
  refine z_sld (v := iZ (a)) hx hb hX hbl hbA hS (i + 1) (by omega) ha1 d_L_law_171 ?_
  refine z_ki (z_runV (As := [.int (iZ (a))]) (rest := []) zTB Z (k_M_haulx1 hI hM (a := a) h) ⟨ml_L_100, im_M_haul, se_M_haul, ini_M, co_M_haul⟩ zd_M_haul ⟨Nat.le_of_ble_eq_true rfl, Nat.le_of_ble_eq_true rfl⟩ hP hK hD (ci := 5) (q0 := 19) rfl rfl rfl hl.1 rfl (Nat.le_of_ble_eq_true rfl) d_L_law_172 ⟨hc.1, hc.2⟩) hD hS hA (fun r9 w9 H locs hp9 hP hD hS => ?_)
  obtain ⟨M1, rfl, hc1, hM1⟩ := hp9
  have hP : va_P D classes (wdC ad cI cZ cL J rd pr G K (wdM ad cI cZ cL J rd pr M1 ov)) H := hP
  have hD : va_D A (wdC ad cI cZ cL J rd pr G K (wdM ad cI cZ cL J rd pr M1 ov)) := hD
  refine W.eq (g2 := F0 m 175 ls [.int (r9)]) rfl ?_
  refine lv_istore (lv' := [(6, .int (r9)), (5, .int (iZ ((1 : Nat) : Int))), (4, .int (iZ ((i : Nat) : Int))), (0, .ref (sb)), (1, .ref (ad 0)), (2, .ref (ad 19)), (3, .ref (ad 33))]) hx hb d_L_law_175 hl (by decide) rfl (fun ls hl => ?_)
  refine lv_aload_n hx hb d_L_law_177 rfl (lv_at hl 5 rfl) ?_
  refine z_callVR (As := []) (rest := []) zTB Z (k_M_thrown) ⟨ml_L_101, im_M_thrown, se_M_thrown, ini_M, co_M_thrown⟩ zd_M_thrown ⟨Nat.le_of_ble_eq_true rfl, Nat.le_of_ble_eq_true rfl⟩ hP hK (ci := 5) (q0 := 19) rfl rfl rfl hl.1 rfl (Nat.le_of_ble_eq_true rfl) d_L_law_178 ⟨hc.1, hc.2⟩ ?_
  refine W.eq (g2 := F0 m 181 ls [.int (iZ ((M1.1 : Nat) : Int))]) rfl ?_
  refine z_topZ (b := ((1 : Nat) : Int)) (by rw [hc1]) ?_
  refine lv_iload hx hb d_L_law_181 (lv_at hl 1 rfl) ?_
  refine z_icmp_eq (a := ((1 : Nat) : Int)) (b := ((1 : Nat) : Int)) (tgt := 188) hx hb (by omega) d_L_law_183 (by decide) (fun q183 => ?_) (fun q183 => ?_)
  · skip
    refine lv_iload hx hb d_L_law_188 (lv_at hl 1 rfl) ?_
    refine z_if_ne (a := ((1 : Nat) : Int)) (tgt := 205) hx hb (by omega) d_L_law_190 (by decide) (fun q190 => ?_) (fun q190 => ?_)
    · skip
      refine lv_goto (tgt := 1598) hx hb d_L_law_205 (by decide) ?_
      exact kk J _ _ _ _ _ _ H locs ls ⟨hI, hM1, hR, hpq⟩ hP hD hS (lv_sub hl [2, 3, 4, 5, 6] rfl)
    · skip
      exfalso; omega
  · skip
    exfalso; omega

set_option maxHeartbeats 4000000 in
set_option maxRecDepth 100000 in
theorem lf_haul_x2 {p : Program} {l : Launch} {e : Env} {s : State} {m : MethodId} {below : List Frame} {meth : Method} {c : Code} {Q : State → Prop} {sb L : Nat} {xs : Nat → Int32} {D : va_G} {A : Nat → Prop} {ad : Nat → Nat} {cI cZ cL : ClassId} {J : SJ} {rd : Nat → Int} {pr : Nat → Nat} {G : SH} {K : SK} {M : SM} {ov : Nat → Int64} {H : Heap} {locs : List Loc} {cells slots i : Nat} {ls : Array Slot} (X : LX p l s m meth c sb L xs D cI cZ cL A) (hLI : LI J rd pr M) (hi : i + 4 < L) (hc : cells + 1 ≤ 1061 ∧ slots + 6 ≤ 9679) {sh : Nat} (h : sh < 4) (h2 : jn J = 32) (ha1 : xs (i + 1) = iZ ((sh : Nat) : Int)) (hP : va_P D classes (wdC ad cI cZ cL J rd pr G K (wdM ad cI cZ cL J rd pr M ov)) H) (hD : va_D A (wdC ad cI cZ cL J rd pr G K (wdM ad cI cZ cL J rd pr M ov))) (hS : va_S A s.heap H locs) (hl : lv_has ls 8 (lwL ad sb i)) (kk : LK p l e s m below meth c Q sb D A ad cI cZ cL i (cells + 1) (slots + 6)) : W p l e room_1 s m #[Value.ref sb] below meth c H locs cells slots Q (F0 m 152 ls []) := by
  obtain ⟨hl0, Z, hX, hbl, hK, hA, hbA, hTT, hSt, hL⟩ := X
  obtain ⟨hI, hM, hR, hpq⟩ := hLI
  obtain ⟨hx, hb, hr, hml, hown, hts, hE, hlocks⟩ := id Z
  have hn32 := hI.1
  have hk32 := hI.2.1
  have hl : lv_has ls 8 [(4, .int (iZ ((i : Nat) : Int))), (0, .ref (sb)), (1, .ref (ad 0)), (2, .ref (ad 19)), (3, .ref (ad 33))] := hl
  refine lv_aload_n hx hb d_L_law_152 rfl (lv_at hl 2 rfl) ?_
  refine lv_aload_n hx hb d_L_law_153 rfl (lv_at hl 1 rfl) ?_
  refine lv_iload hx hb d_L_law_154 (lv_at hl 0 rfl) ?_
  refine lv_iconst (v := iZ ((1 : Nat) : Int)) hx hb d_L_law_156 (by decide) ?_
  refine z_iaddN (u := i) (v := 1) hx hb d_L_law_157 ?_
  refine z_sld (v := iZ ((sh : Nat) : Int)) hx hb hX hbl hbA hS (i + 1) (by omega) ha1 d_L_law_158 ?_
  refine lv_aload_n hx hb d_L_law_159 rfl (lv_at hl 4 rfl) ?_
  refine z_kiW (z_runSW (As := [.ref (ad 0), .int (iZ ((sh : Nat) : Int)), .ref (ad 33)]) (rest := []) Z (k_L_haulx2 hl0 hI (sh := sh) h h2) ⟨ml_L_97, sm_L_haul, ini_L, co_L_haul⟩ zd_L_haul ⟨Nat.le_of_ble_eq_true rfl, Nat.le_of_ble_eq_true rfl⟩ hP hK hD (hTT _ _ hS) hSt hl.1 rfl (Nat.le_of_ble_eq_true rfl) d_L_law_160 ⟨hc.1, hc.2⟩) hD hS hA (fun r9 w9 H locs hp9 hP hD hS => ?_)
  obtain ⟨rfl, rfl⟩ := hp9
  have hP : va_P D classes (wdC ad cI cZ cL J rd pr G K (wdM ad cI cZ cL J rd pr M ov)) H := hP
  have hD : va_D A (wdC ad cI cZ cL J rd pr G K (wdM ad cI cZ cL J rd pr M ov)) := hD
  refine W.eq (g2 := F0 m 163 ls [.int (iZ ((2 : Nat) : Int))]) rfl ?_
  refine lv_istore (lv' := [(5, .int (iZ ((2 : Nat) : Int))), (4, .int (iZ ((i : Nat) : Int))), (0, .ref (sb)), (1, .ref (ad 0)), (2, .ref (ad 19)), (3, .ref (ad 33))]) hx hb d_L_law_163 hl (by decide) rfl (fun ls hl => ?_)
  refine lv_aload_n hx hb d_L_law_165 rfl (lv_at hl 4 rfl) ?_
  refine lv_aload_n hx hb d_L_law_166 rfl (lv_at hl 2 rfl) ?_
  refine lv_iload hx hb d_L_law_167 (lv_at hl 1 rfl) ?_
  refine lv_iconst (v := iZ ((1 : Nat) : Int)) hx hb d_L_law_169 (by decide) ?_
  refine z_iaddN (u := i) (v := 1) hx hb d_L_law_170 ?_
  refine z_sld (v := iZ ((sh : Nat) : Int)) hx hb hX hbl hbA hS (i + 1) (by omega) ha1 d_L_law_171 ?_
  refine z_ki (z_runV (As := [.int (iZ ((sh : Nat) : Int))]) (rest := []) zTB Z (k_M_haulx2 hI hM (sh := sh) h h2) ⟨ml_L_100, im_M_haul, se_M_haul, ini_M, co_M_haul⟩ zd_M_haul ⟨Nat.le_of_ble_eq_true rfl, Nat.le_of_ble_eq_true rfl⟩ hP hK hD (ci := 5) (q0 := 19) rfl rfl rfl hl.1 rfl (Nat.le_of_ble_eq_true rfl) d_L_law_172 ⟨hc.1, hc.2⟩) hD hS hA (fun r9 w9 H locs hp9 hP hD hS => ?_)
  obtain ⟨M1, rfl, hc1, hM1⟩ := hp9
  have hP : va_P D classes (wdC ad cI cZ cL J rd pr G K (wdM ad cI cZ cL J rd pr M1 ov)) H := hP
  have hD : va_D A (wdC ad cI cZ cL J rd pr G K (wdM ad cI cZ cL J rd pr M1 ov)) := hD
  refine W.eq (g2 := F0 m 175 ls [.int (r9)]) rfl ?_
  refine lv_istore (lv' := [(6, .int (r9)), (5, .int (iZ ((2 : Nat) : Int))), (4, .int (iZ ((i : Nat) : Int))), (0, .ref (sb)), (1, .ref (ad 0)), (2, .ref (ad 19)), (3, .ref (ad 33))]) hx hb d_L_law_175 hl (by decide) rfl (fun ls hl => ?_)
  refine lv_aload_n hx hb d_L_law_177 rfl (lv_at hl 5 rfl) ?_
  refine z_callVR (As := []) (rest := []) zTB Z (k_M_thrown) ⟨ml_L_101, im_M_thrown, se_M_thrown, ini_M, co_M_thrown⟩ zd_M_thrown ⟨Nat.le_of_ble_eq_true rfl, Nat.le_of_ble_eq_true rfl⟩ hP hK (ci := 5) (q0 := 19) rfl rfl rfl hl.1 rfl (Nat.le_of_ble_eq_true rfl) d_L_law_178 ⟨hc.1, hc.2⟩ ?_
  refine W.eq (g2 := F0 m 181 ls [.int (iZ ((M1.1 : Nat) : Int))]) rfl ?_
  refine z_topZ (b := ((2 : Nat) : Int)) (by rw [hc1]) ?_
  refine lv_iload hx hb d_L_law_181 (lv_at hl 1 rfl) ?_
  refine z_icmp_eq (a := ((2 : Nat) : Int)) (b := ((2 : Nat) : Int)) (tgt := 188) hx hb (by omega) d_L_law_183 (by decide) (fun q183 => ?_) (fun q183 => ?_)
  · skip
    refine lv_iload hx hb d_L_law_188 (lv_at hl 1 rfl) ?_
    refine z_if_ne (a := ((2 : Nat) : Int)) (tgt := 205) hx hb (by omega) d_L_law_190 (by decide) (fun q190 => ?_) (fun q190 => ?_)
    · skip
      refine lv_goto (tgt := 1598) hx hb d_L_law_205 (by decide) ?_
      exact kk J _ _ _ _ _ _ H locs ls ⟨hI, hM1, hR, hpq⟩ hP hD hS (lv_sub hl [2, 3, 4, 5, 6] rfl)
    · skip
      exfalso; omega
  · skip
    exfalso; omega

set_option maxHeartbeats 4000000 in
set_option maxRecDepth 100000 in
theorem lf_haul_1 {p : Program} {l : Launch} {e : Env} {s : State} {m : MethodId} {below : List Frame} {meth : Method} {c : Code} {Q : State → Prop} {sb L : Nat} {xs : Nat → Int32} {D : va_G} {A : Nat → Prop} {ad : Nat → Nat} {cI cZ cL : ClassId} {J : SJ} {rd : Nat → Int} {pr : Nat → Nat} {G : SH} {K : SK} {M : SM} {ov : Nat → Int64} {H : Heap} {locs : List Loc} {cells slots i : Nat} {ls : Array Slot} (X : LX p l s m meth c sb L xs D cI cZ cL A) (hLI : LI J rd pr M) (hi : i + 4 < L) (hc : cells + 1 ≤ 1061 ∧ slots + 6 ≤ 9679) {sh : Nat} (hsh : sh < 4) (hn : jn J < 32) (hop : jop J sh = -1) (he : mmy M sh % 2 = 0) (ha1 : xs (i + 1) = iZ ((sh : Nat) : Int)) (hP : va_P D classes (wdC ad cI cZ cL J rd pr G K (wdM ad cI cZ cL J rd pr M ov)) H) (hD : va_D A (wdC ad cI cZ cL J rd pr G K (wdM ad cI cZ cL J rd pr M ov))) (hS : va_S A s.heap H locs) (hl : lv_has ls 8 (lwL ad sb i)) (kk : LK p l e s m below meth c Q sb D A ad cI cZ cL i (cells + 1) (slots + 6)) : W p l e room_1 s m #[Value.ref sb] below meth c H locs cells slots Q (F0 m 152 ls []) := by
  obtain ⟨hl0, Z, hX, hbl, hK, hA, hbA, hTT, hSt, hL⟩ := X
  obtain ⟨hI, hM, hR, hpq⟩ := hLI
  obtain ⟨hx, hb, hr, hml, hown, hts, hE, hlocks⟩ := id Z
  have hn32 := hI.1
  have hk32 := hI.2.1
  have hl : lv_has ls 8 [(4, .int (iZ ((i : Nat) : Int))), (0, .ref (sb)), (1, .ref (ad 0)), (2, .ref (ad 19)), (3, .ref (ad 33))] := hl
  refine lv_aload_n hx hb d_L_law_152 rfl (lv_at hl 2 rfl) ?_
  refine lv_aload_n hx hb d_L_law_153 rfl (lv_at hl 1 rfl) ?_
  refine lv_iload hx hb d_L_law_154 (lv_at hl 0 rfl) ?_
  refine lv_iconst (v := iZ ((1 : Nat) : Int)) hx hb d_L_law_156 (by decide) ?_
  refine z_iaddN (u := i) (v := 1) hx hb d_L_law_157 ?_
  refine z_sld (v := iZ ((sh : Nat) : Int)) hx hb hX hbl hbA hS (i + 1) (by omega) ha1 d_L_law_158 ?_
  refine lv_aload_n hx hb d_L_law_159 rfl (lv_at hl 4 rfl) ?_
  refine z_kiW (z_runSW (As := [.ref (ad 0), .int (iZ ((sh : Nat) : Int)), .ref (ad 33)]) (rest := []) Z (k_L_haul1 hI (sh := sh) hsh hn hop) ⟨ml_L_97, sm_L_haul, ini_L, co_L_haul⟩ zd_L_haul ⟨Nat.le_of_ble_eq_true rfl, Nat.le_of_ble_eq_true rfl⟩ hP hK hD (hTT _ _ hS) hSt hl.1 rfl (Nat.le_of_ble_eq_true rfl) d_L_law_160 ⟨hc.1, hc.2⟩) hD hS hA (fun r9 w9 H locs hp9 hP hD hS => ?_)
  obtain ⟨rfl, rfl⟩ := hp9
  have hP : va_P D classes (wdC ad cI cZ cL (sH1 J sh) rd pr G K (wdM ad cI cZ cL J rd pr M (oU ov ((iZ ((jn J : Nat) : Int)).toInt64)))) H := hP
  have hD : va_D A (wdC ad cI cZ cL (sH1 J sh) rd pr G K (wdM ad cI cZ cL J rd pr M (oU ov ((iZ ((jn J : Nat) : Int)).toInt64)))) := hD
  refine W.eq (g2 := F0 m 163 ls [.int (iZ ((0 : Nat) : Int))]) rfl ?_
  refine lv_istore (lv' := [(5, .int (iZ ((0 : Nat) : Int))), (4, .int (iZ ((i : Nat) : Int))), (0, .ref (sb)), (1, .ref (ad 0)), (2, .ref (ad 19)), (3, .ref (ad 33))]) hx hb d_L_law_163 hl (by decide) rfl (fun ls hl => ?_)
  refine lv_aload_n hx hb d_L_law_165 rfl (lv_at hl 4 rfl) ?_
  refine lv_aload_n hx hb d_L_law_166 rfl (lv_at hl 2 rfl) ?_
  refine lv_iload hx hb d_L_law_167 (lv_at hl 1 rfl) ?_
  refine lv_iconst (v := iZ ((1 : Nat) : Int)) hx hb d_L_law_169 (by decide) ?_
  refine z_iaddN (u := i) (v := 1) hx hb d_L_law_170 ?_
  refine z_sld (v := iZ ((sh : Nat) : Int)) hx hb hX hbl hbA hS (i + 1) (by omega) ha1 d_L_law_171 ?_
  refine z_ki (z_runV (As := [.int (iZ ((sh : Nat) : Int))]) (rest := []) zTB Z (k_M_haul1 hI hM hsh hn he) ⟨ml_L_100, im_M_haul, se_M_haul, ini_M, co_M_haul⟩ zd_M_haul ⟨Nat.le_of_ble_eq_true rfl, Nat.le_of_ble_eq_true rfl⟩ hP hK hD (ci := 5) (q0 := 19) rfl rfl rfl hl.1 rfl (Nat.le_of_ble_eq_true rfl) d_L_law_172 ⟨hc.1, hc.2⟩) hD hS hA (fun r9 w9 H locs hp9 hP hD hS => ?_)
  obtain ⟨M1, rfl, rfl, hc1, hM1⟩ := hp9
  have hP : va_P D classes (wdC ad cI cZ cL (sH1 J sh) rd pr G K (wdM ad cI cZ cL (sH1 J sh) rd pr M1 (oU ov ((iZ ((jn J : Nat) : Int)).toInt64)))) H := hP
  have hD : va_D A (wdC ad cI cZ cL (sH1 J sh) rd pr G K (wdM ad cI cZ cL (sH1 J sh) rd pr M1 (oU ov ((iZ ((jn J : Nat) : Int)).toInt64)))) := hD
  refine W.eq (g2 := F0 m 175 ls [.int (iZ ((jn J : Nat) : Int))]) rfl ?_
  refine lv_istore (lv' := [(6, .int (iZ ((jn J : Nat) : Int))), (5, .int (iZ ((0 : Nat) : Int))), (4, .int (iZ ((i : Nat) : Int))), (0, .ref (sb)), (1, .ref (ad 0)), (2, .ref (ad 19)), (3, .ref (ad 33))]) hx hb d_L_law_175 hl (by decide) rfl (fun ls hl => ?_)
  refine lv_aload_n hx hb d_L_law_177 rfl (lv_at hl 5 rfl) ?_
  refine z_callVR (As := []) (rest := []) zTB Z (k_M_thrown) ⟨ml_L_101, im_M_thrown, se_M_thrown, ini_M, co_M_thrown⟩ zd_M_thrown ⟨Nat.le_of_ble_eq_true rfl, Nat.le_of_ble_eq_true rfl⟩ hP hK (ci := 5) (q0 := 19) rfl rfl rfl hl.1 rfl (Nat.le_of_ble_eq_true rfl) d_L_law_178 ⟨hc.1, hc.2⟩ ?_
  refine W.eq (g2 := F0 m 181 ls [.int (iZ ((M1.1 : Nat) : Int))]) rfl ?_
  refine z_topZ (b := ((0 : Nat) : Int)) (by rw [hc1]) ?_
  refine lv_iload hx hb d_L_law_181 (lv_at hl 1 rfl) ?_
  refine z_icmp_eq (a := ((0 : Nat) : Int)) (b := ((0 : Nat) : Int)) (tgt := 188) hx hb (by omega) d_L_law_183 (by decide) (fun q183 => ?_) (fun q183 => ?_)
  · skip
    refine lv_iload hx hb d_L_law_188 (lv_at hl 1 rfl) ?_
    refine z_if_ne (a := ((0 : Nat) : Int)) (tgt := 205) hx hb (by omega) d_L_law_190 (by decide) (fun q190 => ?_) (fun q190 => ?_)
    · skip
      exfalso; omega
    · skip
      refine lv_aload_n hx hb d_L_law_193 rfl (lv_at hl 6 rfl) ?_
      refine lv_iconst (v := iZ ((0 : Nat) : Int)) hx hb d_L_law_194 (by decide) ?_
      refine z_old (x := (iZ ((jn J : Nat) : Int)).toInt64) hx hb hK hP 33 2 rfl rfl d_L_law_195 ?_
      refine lv_iload hx hb d_L_law_196 (lv_at hl 0 rfl) ?_
      refine lv_i2l (v := (iZ ((jn J : Nat) : Int)).toInt64) hx hb d_L_law_198 rfl ?_
      refine z_lcmpR_eq (tgt := 205) (pc1 := 200) (pc4 := 203) hx hb d_L_law_199 rfl rfl d_L_law_200 (by decide) (fun q199 => ?_) (fun q199 => ?_)
      · skip
        refine lv_goto (tgt := 1598) hx hb d_L_law_205 (by decide) ?_
        exact kk (sH1 J sh) _ _ _ _ _ _ H locs ls ⟨JI_h1 hI hn, hM1, hR, hpq⟩ hP hD hS (lv_sub hl [2, 3, 4, 5, 6] rfl)
      · skip
        exact absurd rfl q199
  · skip
    exfalso; omega

set_option maxHeartbeats 4000000 in
set_option maxRecDepth 100000 in
theorem lf_haul_2 {p : Program} {l : Launch} {e : Env} {s : State} {m : MethodId} {below : List Frame} {meth : Method} {c : Code} {Q : State → Prop} {sb L : Nat} {xs : Nat → Int32} {D : va_G} {A : Nat → Prop} {ad : Nat → Nat} {cI cZ cL : ClassId} {J : SJ} {rd : Nat → Int} {pr : Nat → Nat} {G : SH} {K : SK} {M : SM} {ov : Nat → Int64} {H : Heap} {locs : List Loc} {cells slots i : Nat} {ls : Array Slot} (X : LX p l s m meth c sb L xs D cI cZ cL A) (hLI : LI J rd pr M) (hi : i + 4 < L) (hc : cells + 1 ≤ 1061 ∧ slots + 6 ≤ 9679) {sh : Nat} (hsh : sh < 4) (hn : jn J < 32) (hk : jk J < 16) (hop : jop J sh = ((mla M sh : Nat) : Int)) (hf : mla M sh < 32) (ho : mmy M sh % 2 = 1) (ha1 : xs (i + 1) = iZ ((sh : Nat) : Int)) (hP : va_P D classes (wdC ad cI cZ cL J rd pr G K (wdM ad cI cZ cL J rd pr M ov)) H) (hD : va_D A (wdC ad cI cZ cL J rd pr G K (wdM ad cI cZ cL J rd pr M ov))) (hS : va_S A s.heap H locs) (hl : lv_has ls 8 (lwL ad sb i)) (kk : LK p l e s m below meth c Q sb D A ad cI cZ cL i (cells + 1) (slots + 6)) : W p l e room_1 s m #[Value.ref sb] below meth c H locs cells slots Q (F0 m 152 ls []) := by
  obtain ⟨hl0, Z, hX, hbl, hK, hA, hbA, hTT, hSt, hL⟩ := X
  obtain ⟨hI, hM, hR, hpq⟩ := hLI
  obtain ⟨hx, hb, hr, hml, hown, hts, hE, hlocks⟩ := id Z
  have hn32 := hI.1
  have hk32 := hI.2.1
  have hl : lv_has ls 8 [(4, .int (iZ ((i : Nat) : Int))), (0, .ref (sb)), (1, .ref (ad 0)), (2, .ref (ad 19)), (3, .ref (ad 33))] := hl
  refine lv_aload_n hx hb d_L_law_152 rfl (lv_at hl 2 rfl) ?_
  refine lv_aload_n hx hb d_L_law_153 rfl (lv_at hl 1 rfl) ?_
  refine lv_iload hx hb d_L_law_154 (lv_at hl 0 rfl) ?_
  refine lv_iconst (v := iZ ((1 : Nat) : Int)) hx hb d_L_law_156 (by decide) ?_
  refine z_iaddN (u := i) (v := 1) hx hb d_L_law_157 ?_
  refine z_sld (v := iZ ((sh : Nat) : Int)) hx hb hX hbl hbA hS (i + 1) (by omega) ha1 d_L_law_158 ?_
  refine lv_aload_n hx hb d_L_law_159 rfl (lv_at hl 4 rfl) ?_
  refine z_kiW (z_runSW (As := [.ref (ad 0), .int (iZ ((sh : Nat) : Int)), .ref (ad 33)]) (rest := []) Z (k_L_haul2 hI (sh := sh) (f := mla M sh) hsh hn hk hop hf) ⟨ml_L_97, sm_L_haul, ini_L, co_L_haul⟩ zd_L_haul ⟨Nat.le_of_ble_eq_true rfl, Nat.le_of_ble_eq_true rfl⟩ hP hK hD (hTT _ _ hS) hSt hl.1 rfl (Nat.le_of_ble_eq_true rfl) d_L_law_160 ⟨hc.1, hc.2⟩) hD hS hA (fun r9 w9 H locs hp9 hP hD hS => ?_)
  obtain ⟨rfl, rfl⟩ := hp9
  have hP : va_P D classes (wdC ad cI cZ cL (sH2 J sh (mla M sh)) rd pr G K (wdM ad cI cZ cL J rd pr M (oU ov ((iZ ((jn J : Nat) : Int)).toInt64)))) H := hP
  have hD : va_D A (wdC ad cI cZ cL (sH2 J sh (mla M sh)) rd pr G K (wdM ad cI cZ cL J rd pr M (oU ov ((iZ ((jn J : Nat) : Int)).toInt64)))) := hD
  refine W.eq (g2 := F0 m 163 ls [.int (iZ ((0 : Nat) : Int))]) rfl ?_
  refine lv_istore (lv' := [(5, .int (iZ ((0 : Nat) : Int))), (4, .int (iZ ((i : Nat) : Int))), (0, .ref (sb)), (1, .ref (ad 0)), (2, .ref (ad 19)), (3, .ref (ad 33))]) hx hb d_L_law_163 hl (by decide) rfl (fun ls hl => ?_)
  refine lv_aload_n hx hb d_L_law_165 rfl (lv_at hl 4 rfl) ?_
  refine lv_aload_n hx hb d_L_law_166 rfl (lv_at hl 2 rfl) ?_
  refine lv_iload hx hb d_L_law_167 (lv_at hl 1 rfl) ?_
  refine lv_iconst (v := iZ ((1 : Nat) : Int)) hx hb d_L_law_169 (by decide) ?_
  refine z_iaddN (u := i) (v := 1) hx hb d_L_law_170 ?_
  refine z_sld (v := iZ ((sh : Nat) : Int)) hx hb hX hbl hbA hS (i + 1) (by omega) ha1 d_L_law_171 ?_
  refine z_ki (z_runV (As := [.int (iZ ((sh : Nat) : Int))]) (rest := []) zTB Z (k_M_haul2 hI hM hsh hn ho) ⟨ml_L_100, im_M_haul, se_M_haul, ini_M, co_M_haul⟩ zd_M_haul ⟨Nat.le_of_ble_eq_true rfl, Nat.le_of_ble_eq_true rfl⟩ hP hK hD (ci := 5) (q0 := 19) rfl rfl rfl hl.1 rfl (Nat.le_of_ble_eq_true rfl) d_L_law_172 ⟨hc.1, hc.2⟩) hD hS hA (fun r9 w9 H locs hp9 hP hD hS => ?_)
  obtain ⟨M1, rfl, rfl, hc1, hM1⟩ := hp9
  have hP : va_P D classes (wdC ad cI cZ cL (sH2 J sh (mla M sh)) rd pr G K (wdM ad cI cZ cL (sH2 J sh (mla M sh)) rd pr M1 (oU ov ((iZ ((jn J : Nat) : Int)).toInt64)))) H := hP
  have hD : va_D A (wdC ad cI cZ cL (sH2 J sh (mla M sh)) rd pr G K (wdM ad cI cZ cL (sH2 J sh (mla M sh)) rd pr M1 (oU ov ((iZ ((jn J : Nat) : Int)).toInt64)))) := hD
  refine W.eq (g2 := F0 m 175 ls [.int (iZ ((jn J : Nat) : Int))]) rfl ?_
  refine lv_istore (lv' := [(6, .int (iZ ((jn J : Nat) : Int))), (5, .int (iZ ((0 : Nat) : Int))), (4, .int (iZ ((i : Nat) : Int))), (0, .ref (sb)), (1, .ref (ad 0)), (2, .ref (ad 19)), (3, .ref (ad 33))]) hx hb d_L_law_175 hl (by decide) rfl (fun ls hl => ?_)
  refine lv_aload_n hx hb d_L_law_177 rfl (lv_at hl 5 rfl) ?_
  refine z_callVR (As := []) (rest := []) zTB Z (k_M_thrown) ⟨ml_L_101, im_M_thrown, se_M_thrown, ini_M, co_M_thrown⟩ zd_M_thrown ⟨Nat.le_of_ble_eq_true rfl, Nat.le_of_ble_eq_true rfl⟩ hP hK (ci := 5) (q0 := 19) rfl rfl rfl hl.1 rfl (Nat.le_of_ble_eq_true rfl) d_L_law_178 ⟨hc.1, hc.2⟩ ?_
  refine W.eq (g2 := F0 m 181 ls [.int (iZ ((M1.1 : Nat) : Int))]) rfl ?_
  refine z_topZ (b := ((0 : Nat) : Int)) (by rw [hc1]) ?_
  refine lv_iload hx hb d_L_law_181 (lv_at hl 1 rfl) ?_
  refine z_icmp_eq (a := ((0 : Nat) : Int)) (b := ((0 : Nat) : Int)) (tgt := 188) hx hb (by omega) d_L_law_183 (by decide) (fun q183 => ?_) (fun q183 => ?_)
  · skip
    refine lv_iload hx hb d_L_law_188 (lv_at hl 1 rfl) ?_
    refine z_if_ne (a := ((0 : Nat) : Int)) (tgt := 205) hx hb (by omega) d_L_law_190 (by decide) (fun q190 => ?_) (fun q190 => ?_)
    · skip
      exfalso; omega
    · skip
      refine lv_aload_n hx hb d_L_law_193 rfl (lv_at hl 6 rfl) ?_
      refine lv_iconst (v := iZ ((0 : Nat) : Int)) hx hb d_L_law_194 (by decide) ?_
      refine z_old (x := (iZ ((jn J : Nat) : Int)).toInt64) hx hb hK hP 33 2 rfl rfl d_L_law_195 ?_
      refine lv_iload hx hb d_L_law_196 (lv_at hl 0 rfl) ?_
      refine lv_i2l (v := (iZ ((jn J : Nat) : Int)).toInt64) hx hb d_L_law_198 rfl ?_
      refine z_lcmpR_eq (tgt := 205) (pc1 := 200) (pc4 := 203) hx hb d_L_law_199 rfl rfl d_L_law_200 (by decide) (fun q199 => ?_) (fun q199 => ?_)
      · skip
        refine lv_goto (tgt := 1598) hx hb d_L_law_205 (by decide) ?_
        exact kk (sH2 J sh (mla M sh)) _ _ _ _ _ _ H locs ls ⟨JI_h2 hI hn (MJ_o hM hsh ho) hsh ((hM.2.1 sh hsh).2.1 ho).2.1, hM1, hR, hpq⟩ hP hD hS (lv_sub hl [2, 3, 4, 5, 6] rfl)
      · skip
        exact absurd rfl q199
  · skip
    exfalso; omega

set_option maxHeartbeats 4000000 in
set_option maxRecDepth 100000 in
theorem lf_caught_x1 {p : Program} {l : Launch} {e : Env} {s : State} {m : MethodId} {below : List Frame} {meth : Method} {c : Code} {Q : State → Prop} {sb L : Nat} {xs : Nat → Int32} {D : va_G} {A : Nat → Prop} {ad : Nat → Nat} {cI cZ cL : ClassId} {J : SJ} {rd : Nat → Int} {pr : Nat → Nat} {G : SH} {K : SK} {M : SM} {ov : Nat → Int64} {H : Heap} {locs : List Loc} {cells slots i : Nat} {ls : Array Slot} (X : LX p l s m meth c sb L xs D cI cZ cL A) (hLI : LI J rd pr M) (hi : i + 4 < L) (hc : cells + 1 ≤ 1061 ∧ slots + 6 ≤ 9679) {a b c9 : Int} (h : z32 a ∧ (a < 0 ∨ ((jn J : Nat) : Int) ≤ a)) (hz : z32 b ∧ z32 c9) (ha1 : xs (i + 1) = iZ (a)) (ha2 : xs (i + 2) = iZ (b)) (ha3 : xs (i + 3) = iZ (c9)) (hP : va_P D classes (wdC ad cI cZ cL J rd pr G K (wdM ad cI cZ cL J rd pr M ov)) H) (hD : va_D A (wdC ad cI cZ cL J rd pr G K (wdM ad cI cZ cL J rd pr M ov))) (hS : va_S A s.heap H locs) (hl : lv_has ls 8 (lwL ad sb i)) (kk : LK p l e s m below meth c Q sb D A ad cI cZ cL i (cells + 1) (slots + 6)) : W p l e room_1 s m #[Value.ref sb] below meth c H locs cells slots Q (F0 m 208 ls []) := by
  obtain ⟨hl0, Z, hX, hbl, hK, hA, hbA, hTT, hSt, hL⟩ := X
  obtain ⟨hI, hM, hR, hpq⟩ := hLI
  obtain ⟨hx, hb, hr, hml, hown, hts, hE, hlocks⟩ := id Z
  have hn32 := hI.1
  have hk32 := hI.2.1
  have hl : lv_has ls 8 [(4, .int (iZ ((i : Nat) : Int))), (0, .ref (sb)), (1, .ref (ad 0)), (2, .ref (ad 19)), (3, .ref (ad 33))] := hl
  refine lv_aload_n hx hb d_L_law_208 rfl (lv_at hl 2 rfl) ?_
  refine lv_aload_n hx hb d_L_law_209 rfl (lv_at hl 1 rfl) ?_
  refine lv_iload hx hb d_L_law_210 (lv_at hl 0 rfl) ?_
  refine lv_iconst (v := iZ ((1 : Nat) : Int)) hx hb d_L_law_212 (by decide) ?_
  refine z_iaddN (u := i) (v := 1) hx hb d_L_law_213 ?_
  refine z_sld (v := iZ (a)) hx hb hX hbl hbA hS (i + 1) (by omega) ha1 d_L_law_214 ?_
  refine lv_aload_n hx hb d_L_law_215 rfl (lv_at hl 1 rfl) ?_
  refine lv_iload hx hb d_L_law_216 (lv_at hl 0 rfl) ?_
  refine lv_iconst (v := iZ ((2 : Nat) : Int)) hx hb d_L_law_218 (by decide) ?_
  refine z_iaddN (u := i) (v := 2) hx hb d_L_law_219 ?_
  refine z_sld (v := iZ (b)) hx hb hX hbl hbA hS (i + 2) (by omega) ha2 d_L_law_220 ?_
  refine lv_aload_n hx hb d_L_law_221 rfl (lv_at hl 1 rfl) ?_
  refine lv_iload hx hb d_L_law_222 (lv_at hl 0 rfl) ?_
  refine lv_iconst (v := iZ ((3 : Nat) : Int)) hx hb d_L_law_224 (by decide) ?_
  refine z_iaddN (u := i) (v := 3) hx hb d_L_law_225 ?_
  refine z_sld (v := iZ (c9)) hx hb hX hbl hbA hS (i + 3) (by omega) ha3 d_L_law_226 ?_
  refine lv_aload_n hx hb d_L_law_227 rfl (lv_at hl 4 rfl) ?_
  refine z_kiW (z_runSW (As := [.ref (ad 0), .int (iZ (a)), .int (iZ (b)), .int (iZ (c9)), .ref (ad 33)]) (rest := []) Z (k_L_caughtx1 hl0 hI (a := a) (b := b) (c9 := c9) h) ⟨ml_L_105, sm_L_caught, ini_L, co_L_caught⟩ zd_L_caught ⟨Nat.le_of_ble_eq_true rfl, Nat.le_of_ble_eq_true rfl⟩ hP hK hD (hTT _ _ hS) hSt hl.1 rfl (Nat.le_of_ble_eq_true rfl) d_L_law_228 ⟨hc.1, hc.2⟩) hD hS hA (fun r9 w9 H locs hp9 hP hD hS => ?_)
  obtain ⟨rfl, rfl⟩ := hp9
  have hP : va_P D classes (wdC ad cI cZ cL J rd pr G K (wdM ad cI cZ cL J rd pr M ov)) H := hP
  have hD : va_D A (wdC ad cI cZ cL J rd pr G K (wdM ad cI cZ cL J rd pr M ov)) := hD
  refine W.eq (g2 := F0 m 231 ls [.int (iZ ((1 : Nat) : Int))]) rfl ?_
  refine lv_istore (lv' := [(5, .int (iZ ((1 : Nat) : Int))), (4, .int (iZ ((i : Nat) : Int))), (0, .ref (sb)), (1, .ref (ad 0)), (2, .ref (ad 19)), (3, .ref (ad 33))]) hx hb d_L_law_231 hl (by decide) rfl (fun ls hl => ?_)
  refine lv_aload_n hx hb d_L_law_233 rfl (lv_at hl 4 rfl) ?_
  refine lv_aload_n hx hb d_L_law_234 rfl (lv_at hl 2 rfl) ?_
  refine lv_iload hx hb d_L_law_235 (lv_at hl 1 rfl) ?_
  refine lv_iconst (v := iZ ((1 : Nat) : Int)) hx hb d_L_law_237 (by decide) ?_
  refine z_iaddN (u := i) (v := 1) hx hb d_L_law_238 ?_
  refine z_sld (v := iZ (a)) hx hb hX hbl hbA hS (i + 1) (by omega) ha1 d_L_law_239 ?_
  refine lv_aload_n hx hb d_L_law_240 rfl (lv_at hl 2 rfl) ?_
  refine lv_iload hx hb d_L_law_241 (lv_at hl 1 rfl) ?_
  refine lv_iconst (v := iZ ((2 : Nat) : Int)) hx hb d_L_law_243 (by decide) ?_
  refine z_iaddN (u := i) (v := 2) hx hb d_L_law_244 ?_
  refine z_sld (v := iZ (b)) hx hb hX hbl hbA hS (i + 2) (by omega) ha2 d_L_law_245 ?_
  refine lv_aload_n hx hb d_L_law_246 rfl (lv_at hl 2 rfl) ?_
  refine lv_iload hx hb d_L_law_247 (lv_at hl 1 rfl) ?_
  refine lv_iconst (v := iZ ((3 : Nat) : Int)) hx hb d_L_law_249 (by decide) ?_
  refine z_iaddN (u := i) (v := 3) hx hb d_L_law_250 ?_
  refine z_sld (v := iZ (c9)) hx hb hX hbl hbA hS (i + 3) (by omega) ha3 d_L_law_251 ?_
  refine z_ki (z_runV (As := [.int (iZ (a)), .int (iZ (b)), .int (iZ (c9))]) (rest := []) zTB Z (k_M_caughtx1 hI hM (a := a) (b := b) (c9 := c9) (by omega)) ⟨ml_L_108, im_M_caught, se_M_caught, ini_M, co_M_caught⟩ zd_M_caught ⟨Nat.le_of_ble_eq_true rfl, Nat.le_of_ble_eq_true rfl⟩ hP hK hD (ci := 5) (q0 := 19) rfl rfl rfl hl.1 rfl (Nat.le_of_ble_eq_true rfl) d_L_law_252 ⟨hc.1, hc.2⟩) hD hS hA (fun r9 w9 H locs hp9 hP hD hS => ?_)
  obtain ⟨M1, rfl, hc1, hM1⟩ := hp9
  have hP : va_P D classes (wdC ad cI cZ cL J rd pr G K (wdM ad cI cZ cL J rd pr M1 ov)) H := hP
  have hD : va_D A (wdC ad cI cZ cL J rd pr G K (wdM ad cI cZ cL J rd pr M1 ov)) := hD
  refine W.eq (g2 := F0 m 255 ls [.int (r9)]) rfl ?_
  refine lv_istore (lv' := [(6, .int (r9)), (5, .int (iZ ((1 : Nat) : Int))), (4, .int (iZ ((i : Nat) : Int))), (0, .ref (sb)), (1, .ref (ad 0)), (2, .ref (ad 19)), (3, .ref (ad 33))]) hx hb d_L_law_255 hl (by decide) rfl (fun ls hl => ?_)
  refine lv_aload_n hx hb d_L_law_257 rfl (lv_at hl 5 rfl) ?_
  refine z_callVR (As := []) (rest := []) zTB Z (k_M_thrown) ⟨ml_L_101, im_M_thrown, se_M_thrown, ini_M, co_M_thrown⟩ zd_M_thrown ⟨Nat.le_of_ble_eq_true rfl, Nat.le_of_ble_eq_true rfl⟩ hP hK (ci := 5) (q0 := 19) rfl rfl rfl hl.1 rfl (Nat.le_of_ble_eq_true rfl) d_L_law_258 ⟨hc.1, hc.2⟩ ?_
  refine W.eq (g2 := F0 m 261 ls [.int (iZ ((M1.1 : Nat) : Int))]) rfl ?_
  refine z_topZ (b := ((1 : Nat) : Int)) (by rw [hc1]) ?_
  refine lv_iload hx hb d_L_law_261 (lv_at hl 1 rfl) ?_
  refine z_icmp_eq (a := ((1 : Nat) : Int)) (b := ((1 : Nat) : Int)) (tgt := 268) hx hb (by omega) d_L_law_263 (by decide) (fun q263 => ?_) (fun q263 => ?_)
  · skip
    refine lv_iload hx hb d_L_law_268 (lv_at hl 1 rfl) ?_
    refine z_if_ne (a := ((1 : Nat) : Int)) (tgt := 292) hx hb (by omega) d_L_law_270 (by decide) (fun q270 => ?_) (fun q270 => ?_)
    · skip
      refine lv_goto (tgt := 1598) hx hb d_L_law_292 (by decide) ?_
      exact kk J _ _ _ _ _ _ H locs ls ⟨hI, hM1, hR, hpq⟩ hP hD hS (lv_sub hl [2, 3, 4, 5, 6] rfl)
    · skip
      exfalso; omega
  · skip
    exfalso; omega

set_option maxHeartbeats 4000000 in
set_option maxRecDepth 100000 in
theorem lf_caught_x2 {p : Program} {l : Launch} {e : Env} {s : State} {m : MethodId} {below : List Frame} {meth : Method} {c : Code} {Q : State → Prop} {sb L : Nat} {xs : Nat → Int32} {D : va_G} {A : Nat → Prop} {ad : Nat → Nat} {cI cZ cL : ClassId} {J : SJ} {rd : Nat → Int} {pr : Nat → Nat} {G : SH} {K : SK} {M : SM} {ov : Nat → Int64} {H : Heap} {locs : List Loc} {cells slots i : Nat} {ls : Array Slot} (X : LX p l s m meth c sb L xs D cI cZ cL A) (hLI : LI J rd pr M) (hi : i + 4 < L) (hc : cells + 1 ≤ 1061 ∧ slots + 6 ≤ 9679) {h : Nat} {b c9 : Int} (hh : h < jn J) (h2 : z32 b ∧ (b < 0 ∨ 3 ≤ b)) (ha1 : xs (i + 1) = iZ ((h : Nat) : Int)) (ha2 : xs (i + 2) = iZ (b)) (ha3 : xs (i + 3) = iZ (c9)) (hP : va_P D classes (wdC ad cI cZ cL J rd pr G K (wdM ad cI cZ cL J rd pr M ov)) H) (hD : va_D A (wdC ad cI cZ cL J rd pr G K (wdM ad cI cZ cL J rd pr M ov))) (hS : va_S A s.heap H locs) (hl : lv_has ls 8 (lwL ad sb i)) (kk : LK p l e s m below meth c Q sb D A ad cI cZ cL i (cells + 1) (slots + 6)) : W p l e room_1 s m #[Value.ref sb] below meth c H locs cells slots Q (F0 m 208 ls []) := by
  obtain ⟨hl0, Z, hX, hbl, hK, hA, hbA, hTT, hSt, hL⟩ := X
  obtain ⟨hI, hM, hR, hpq⟩ := hLI
  obtain ⟨hx, hb, hr, hml, hown, hts, hE, hlocks⟩ := id Z
  have hn32 := hI.1
  have hk32 := hI.2.1
  have hl : lv_has ls 8 [(4, .int (iZ ((i : Nat) : Int))), (0, .ref (sb)), (1, .ref (ad 0)), (2, .ref (ad 19)), (3, .ref (ad 33))] := hl
  refine lv_aload_n hx hb d_L_law_208 rfl (lv_at hl 2 rfl) ?_
  refine lv_aload_n hx hb d_L_law_209 rfl (lv_at hl 1 rfl) ?_
  refine lv_iload hx hb d_L_law_210 (lv_at hl 0 rfl) ?_
  refine lv_iconst (v := iZ ((1 : Nat) : Int)) hx hb d_L_law_212 (by decide) ?_
  refine z_iaddN (u := i) (v := 1) hx hb d_L_law_213 ?_
  refine z_sld (v := iZ ((h : Nat) : Int)) hx hb hX hbl hbA hS (i + 1) (by omega) ha1 d_L_law_214 ?_
  refine lv_aload_n hx hb d_L_law_215 rfl (lv_at hl 1 rfl) ?_
  refine lv_iload hx hb d_L_law_216 (lv_at hl 0 rfl) ?_
  refine lv_iconst (v := iZ ((2 : Nat) : Int)) hx hb d_L_law_218 (by decide) ?_
  refine z_iaddN (u := i) (v := 2) hx hb d_L_law_219 ?_
  refine z_sld (v := iZ (b)) hx hb hX hbl hbA hS (i + 2) (by omega) ha2 d_L_law_220 ?_
  refine lv_aload_n hx hb d_L_law_221 rfl (lv_at hl 1 rfl) ?_
  refine lv_iload hx hb d_L_law_222 (lv_at hl 0 rfl) ?_
  refine lv_iconst (v := iZ ((3 : Nat) : Int)) hx hb d_L_law_224 (by decide) ?_
  refine z_iaddN (u := i) (v := 3) hx hb d_L_law_225 ?_
  refine z_sld (v := iZ (c9)) hx hb hX hbl hbA hS (i + 3) (by omega) ha3 d_L_law_226 ?_
  refine lv_aload_n hx hb d_L_law_227 rfl (lv_at hl 4 rfl) ?_
  refine z_kiW (z_runSW (As := [.ref (ad 0), .int (iZ ((h : Nat) : Int)), .int (iZ (b)), .int (iZ (c9)), .ref (ad 33)]) (rest := []) Z (k_L_caughtx2 hl0 hI (h := h) (b := b) (c9 := c9) hh h2) ⟨ml_L_105, sm_L_caught, ini_L, co_L_caught⟩ zd_L_caught ⟨Nat.le_of_ble_eq_true rfl, Nat.le_of_ble_eq_true rfl⟩ hP hK hD (hTT _ _ hS) hSt hl.1 rfl (Nat.le_of_ble_eq_true rfl) d_L_law_228 ⟨hc.1, hc.2⟩) hD hS hA (fun r9 w9 H locs hp9 hP hD hS => ?_)
  obtain ⟨rfl, rfl⟩ := hp9
  have hP : va_P D classes (wdC ad cI cZ cL J rd pr G K (wdM ad cI cZ cL J rd pr M ov)) H := hP
  have hD : va_D A (wdC ad cI cZ cL J rd pr G K (wdM ad cI cZ cL J rd pr M ov)) := hD
  refine W.eq (g2 := F0 m 231 ls [.int (iZ ((1 : Nat) : Int))]) rfl ?_
  refine lv_istore (lv' := [(5, .int (iZ ((1 : Nat) : Int))), (4, .int (iZ ((i : Nat) : Int))), (0, .ref (sb)), (1, .ref (ad 0)), (2, .ref (ad 19)), (3, .ref (ad 33))]) hx hb d_L_law_231 hl (by decide) rfl (fun ls hl => ?_)
  refine lv_aload_n hx hb d_L_law_233 rfl (lv_at hl 4 rfl) ?_
  refine lv_aload_n hx hb d_L_law_234 rfl (lv_at hl 2 rfl) ?_
  refine lv_iload hx hb d_L_law_235 (lv_at hl 1 rfl) ?_
  refine lv_iconst (v := iZ ((1 : Nat) : Int)) hx hb d_L_law_237 (by decide) ?_
  refine z_iaddN (u := i) (v := 1) hx hb d_L_law_238 ?_
  refine z_sld (v := iZ ((h : Nat) : Int)) hx hb hX hbl hbA hS (i + 1) (by omega) ha1 d_L_law_239 ?_
  refine lv_aload_n hx hb d_L_law_240 rfl (lv_at hl 2 rfl) ?_
  refine lv_iload hx hb d_L_law_241 (lv_at hl 1 rfl) ?_
  refine lv_iconst (v := iZ ((2 : Nat) : Int)) hx hb d_L_law_243 (by decide) ?_
  refine z_iaddN (u := i) (v := 2) hx hb d_L_law_244 ?_
  refine z_sld (v := iZ (b)) hx hb hX hbl hbA hS (i + 2) (by omega) ha2 d_L_law_245 ?_
  refine lv_aload_n hx hb d_L_law_246 rfl (lv_at hl 2 rfl) ?_
  refine lv_iload hx hb d_L_law_247 (lv_at hl 1 rfl) ?_
  refine lv_iconst (v := iZ ((3 : Nat) : Int)) hx hb d_L_law_249 (by decide) ?_
  refine z_iaddN (u := i) (v := 3) hx hb d_L_law_250 ?_
  refine z_sld (v := iZ (c9)) hx hb hX hbl hbA hS (i + 3) (by omega) ha3 d_L_law_251 ?_
  refine z_ki (z_runV (As := [.int (iZ ((h : Nat) : Int)), .int (iZ (b)), .int (iZ (c9))]) (rest := []) zTB Z (k_M_caughtx1 hI hM (a := ((h : Nat) : Int)) (b := b) (c9 := c9) (by omega)) ⟨ml_L_108, im_M_caught, se_M_caught, ini_M, co_M_caught⟩ zd_M_caught ⟨Nat.le_of_ble_eq_true rfl, Nat.le_of_ble_eq_true rfl⟩ hP hK hD (ci := 5) (q0 := 19) rfl rfl rfl hl.1 rfl (Nat.le_of_ble_eq_true rfl) d_L_law_252 ⟨hc.1, hc.2⟩) hD hS hA (fun r9 w9 H locs hp9 hP hD hS => ?_)
  obtain ⟨M1, rfl, hc1, hM1⟩ := hp9
  have hP : va_P D classes (wdC ad cI cZ cL J rd pr G K (wdM ad cI cZ cL J rd pr M1 ov)) H := hP
  have hD : va_D A (wdC ad cI cZ cL J rd pr G K (wdM ad cI cZ cL J rd pr M1 ov)) := hD
  refine W.eq (g2 := F0 m 255 ls [.int (r9)]) rfl ?_
  refine lv_istore (lv' := [(6, .int (r9)), (5, .int (iZ ((1 : Nat) : Int))), (4, .int (iZ ((i : Nat) : Int))), (0, .ref (sb)), (1, .ref (ad 0)), (2, .ref (ad 19)), (3, .ref (ad 33))]) hx hb d_L_law_255 hl (by decide) rfl (fun ls hl => ?_)
  refine lv_aload_n hx hb d_L_law_257 rfl (lv_at hl 5 rfl) ?_
  refine z_callVR (As := []) (rest := []) zTB Z (k_M_thrown) ⟨ml_L_101, im_M_thrown, se_M_thrown, ini_M, co_M_thrown⟩ zd_M_thrown ⟨Nat.le_of_ble_eq_true rfl, Nat.le_of_ble_eq_true rfl⟩ hP hK (ci := 5) (q0 := 19) rfl rfl rfl hl.1 rfl (Nat.le_of_ble_eq_true rfl) d_L_law_258 ⟨hc.1, hc.2⟩ ?_
  refine W.eq (g2 := F0 m 261 ls [.int (iZ ((M1.1 : Nat) : Int))]) rfl ?_
  refine z_topZ (b := ((1 : Nat) : Int)) (by rw [hc1]) ?_
  refine lv_iload hx hb d_L_law_261 (lv_at hl 1 rfl) ?_
  refine z_icmp_eq (a := ((1 : Nat) : Int)) (b := ((1 : Nat) : Int)) (tgt := 268) hx hb (by omega) d_L_law_263 (by decide) (fun q263 => ?_) (fun q263 => ?_)
  · skip
    refine lv_iload hx hb d_L_law_268 (lv_at hl 1 rfl) ?_
    refine z_if_ne (a := ((1 : Nat) : Int)) (tgt := 292) hx hb (by omega) d_L_law_270 (by decide) (fun q270 => ?_) (fun q270 => ?_)
    · skip
      refine lv_goto (tgt := 1598) hx hb d_L_law_292 (by decide) ?_
      exact kk J _ _ _ _ _ _ H locs ls ⟨hI, hM1, hR, hpq⟩ hP hD hS (lv_sub hl [2, 3, 4, 5, 6] rfl)
    · skip
      exfalso; omega
  · skip
    exfalso; omega

set_option maxHeartbeats 4000000 in
set_option maxRecDepth 100000 in
theorem lf_caught_x3 {p : Program} {l : Launch} {e : Env} {s : State} {m : MethodId} {below : List Frame} {meth : Method} {c : Code} {Q : State → Prop} {sb L : Nat} {xs : Nat → Int32} {D : va_G} {A : Nat → Prop} {ad : Nat → Nat} {cI cZ cL : ClassId} {J : SJ} {rd : Nat → Int} {pr : Nat → Nat} {G : SH} {K : SK} {M : SM} {ov : Nat → Int64} {H : Heap} {locs : List Loc} {cells slots i : Nat} {ls : Array Slot} (X : LX p l s m meth c sb L xs D cI cZ cL A) (hLI : LI J rd pr M) (hi : i + 4 < L) (hc : cells + 1 ≤ 1061 ∧ slots + 6 ≤ 9679) {h kd : Nat} {c9 : Int} (hh : h < jn J) (hkd : kd < 3) (h2 : z32 c9 ∧ (c9 < 0 ∨ 1000 < c9)) (ha1 : xs (i + 1) = iZ ((h : Nat) : Int)) (ha2 : xs (i + 2) = iZ ((kd : Nat) : Int)) (ha3 : xs (i + 3) = iZ (c9)) (hP : va_P D classes (wdC ad cI cZ cL J rd pr G K (wdM ad cI cZ cL J rd pr M ov)) H) (hD : va_D A (wdC ad cI cZ cL J rd pr G K (wdM ad cI cZ cL J rd pr M ov))) (hS : va_S A s.heap H locs) (hl : lv_has ls 8 (lwL ad sb i)) (kk : LK p l e s m below meth c Q sb D A ad cI cZ cL i (cells + 1) (slots + 6)) : W p l e room_1 s m #[Value.ref sb] below meth c H locs cells slots Q (F0 m 208 ls []) := by
  obtain ⟨hl0, Z, hX, hbl, hK, hA, hbA, hTT, hSt, hL⟩ := X
  obtain ⟨hI, hM, hR, hpq⟩ := hLI
  obtain ⟨hx, hb, hr, hml, hown, hts, hE, hlocks⟩ := id Z
  have hn32 := hI.1
  have hk32 := hI.2.1
  have hl : lv_has ls 8 [(4, .int (iZ ((i : Nat) : Int))), (0, .ref (sb)), (1, .ref (ad 0)), (2, .ref (ad 19)), (3, .ref (ad 33))] := hl
  refine lv_aload_n hx hb d_L_law_208 rfl (lv_at hl 2 rfl) ?_
  refine lv_aload_n hx hb d_L_law_209 rfl (lv_at hl 1 rfl) ?_
  refine lv_iload hx hb d_L_law_210 (lv_at hl 0 rfl) ?_
  refine lv_iconst (v := iZ ((1 : Nat) : Int)) hx hb d_L_law_212 (by decide) ?_
  refine z_iaddN (u := i) (v := 1) hx hb d_L_law_213 ?_
  refine z_sld (v := iZ ((h : Nat) : Int)) hx hb hX hbl hbA hS (i + 1) (by omega) ha1 d_L_law_214 ?_
  refine lv_aload_n hx hb d_L_law_215 rfl (lv_at hl 1 rfl) ?_
  refine lv_iload hx hb d_L_law_216 (lv_at hl 0 rfl) ?_
  refine lv_iconst (v := iZ ((2 : Nat) : Int)) hx hb d_L_law_218 (by decide) ?_
  refine z_iaddN (u := i) (v := 2) hx hb d_L_law_219 ?_
  refine z_sld (v := iZ ((kd : Nat) : Int)) hx hb hX hbl hbA hS (i + 2) (by omega) ha2 d_L_law_220 ?_
  refine lv_aload_n hx hb d_L_law_221 rfl (lv_at hl 1 rfl) ?_
  refine lv_iload hx hb d_L_law_222 (lv_at hl 0 rfl) ?_
  refine lv_iconst (v := iZ ((3 : Nat) : Int)) hx hb d_L_law_224 (by decide) ?_
  refine z_iaddN (u := i) (v := 3) hx hb d_L_law_225 ?_
  refine z_sld (v := iZ (c9)) hx hb hX hbl hbA hS (i + 3) (by omega) ha3 d_L_law_226 ?_
  refine lv_aload_n hx hb d_L_law_227 rfl (lv_at hl 4 rfl) ?_
  refine z_kiW (z_runSW (As := [.ref (ad 0), .int (iZ ((h : Nat) : Int)), .int (iZ ((kd : Nat) : Int)), .int (iZ (c9)), .ref (ad 33)]) (rest := []) Z (k_L_caughtx3 hl0 hI (h := h) (kd := kd) (c9 := c9) hh hkd h2) ⟨ml_L_105, sm_L_caught, ini_L, co_L_caught⟩ zd_L_caught ⟨Nat.le_of_ble_eq_true rfl, Nat.le_of_ble_eq_true rfl⟩ hP hK hD (hTT _ _ hS) hSt hl.1 rfl (Nat.le_of_ble_eq_true rfl) d_L_law_228 ⟨hc.1, hc.2⟩) hD hS hA (fun r9 w9 H locs hp9 hP hD hS => ?_)
  obtain ⟨rfl, rfl⟩ := hp9
  have hP : va_P D classes (wdC ad cI cZ cL J rd pr G K (wdM ad cI cZ cL J rd pr M ov)) H := hP
  have hD : va_D A (wdC ad cI cZ cL J rd pr G K (wdM ad cI cZ cL J rd pr M ov)) := hD
  refine W.eq (g2 := F0 m 231 ls [.int (iZ ((2 : Nat) : Int))]) rfl ?_
  refine lv_istore (lv' := [(5, .int (iZ ((2 : Nat) : Int))), (4, .int (iZ ((i : Nat) : Int))), (0, .ref (sb)), (1, .ref (ad 0)), (2, .ref (ad 19)), (3, .ref (ad 33))]) hx hb d_L_law_231 hl (by decide) rfl (fun ls hl => ?_)
  refine lv_aload_n hx hb d_L_law_233 rfl (lv_at hl 4 rfl) ?_
  refine lv_aload_n hx hb d_L_law_234 rfl (lv_at hl 2 rfl) ?_
  refine lv_iload hx hb d_L_law_235 (lv_at hl 1 rfl) ?_
  refine lv_iconst (v := iZ ((1 : Nat) : Int)) hx hb d_L_law_237 (by decide) ?_
  refine z_iaddN (u := i) (v := 1) hx hb d_L_law_238 ?_
  refine z_sld (v := iZ ((h : Nat) : Int)) hx hb hX hbl hbA hS (i + 1) (by omega) ha1 d_L_law_239 ?_
  refine lv_aload_n hx hb d_L_law_240 rfl (lv_at hl 2 rfl) ?_
  refine lv_iload hx hb d_L_law_241 (lv_at hl 1 rfl) ?_
  refine lv_iconst (v := iZ ((2 : Nat) : Int)) hx hb d_L_law_243 (by decide) ?_
  refine z_iaddN (u := i) (v := 2) hx hb d_L_law_244 ?_
  refine z_sld (v := iZ ((kd : Nat) : Int)) hx hb hX hbl hbA hS (i + 2) (by omega) ha2 d_L_law_245 ?_
  refine lv_aload_n hx hb d_L_law_246 rfl (lv_at hl 2 rfl) ?_
  refine lv_iload hx hb d_L_law_247 (lv_at hl 1 rfl) ?_
  refine lv_iconst (v := iZ ((3 : Nat) : Int)) hx hb d_L_law_249 (by decide) ?_
  refine z_iaddN (u := i) (v := 3) hx hb d_L_law_250 ?_
  refine z_sld (v := iZ (c9)) hx hb hX hbl hbA hS (i + 3) (by omega) ha3 d_L_law_251 ?_
  refine z_ki (z_runV (As := [.int (iZ ((h : Nat) : Int)), .int (iZ ((kd : Nat) : Int)), .int (iZ (c9))]) (rest := []) zTB Z (k_M_caughtx2 hI hM (h := h) (kd := kd) (c9 := c9) hh hkd h2) ⟨ml_L_108, im_M_caught, se_M_caught, ini_M, co_M_caught⟩ zd_M_caught ⟨Nat.le_of_ble_eq_true rfl, Nat.le_of_ble_eq_true rfl⟩ hP hK hD (ci := 5) (q0 := 19) rfl rfl rfl hl.1 rfl (Nat.le_of_ble_eq_true rfl) d_L_law_252 ⟨hc.1, hc.2⟩) hD hS hA (fun r9 w9 H locs hp9 hP hD hS => ?_)
  obtain ⟨M1, rfl, hc1, hM1⟩ := hp9
  have hP : va_P D classes (wdC ad cI cZ cL J rd pr G K (wdM ad cI cZ cL J rd pr M1 ov)) H := hP
  have hD : va_D A (wdC ad cI cZ cL J rd pr G K (wdM ad cI cZ cL J rd pr M1 ov)) := hD
  refine W.eq (g2 := F0 m 255 ls [.int (r9)]) rfl ?_
  refine lv_istore (lv' := [(6, .int (r9)), (5, .int (iZ ((2 : Nat) : Int))), (4, .int (iZ ((i : Nat) : Int))), (0, .ref (sb)), (1, .ref (ad 0)), (2, .ref (ad 19)), (3, .ref (ad 33))]) hx hb d_L_law_255 hl (by decide) rfl (fun ls hl => ?_)
  refine lv_aload_n hx hb d_L_law_257 rfl (lv_at hl 5 rfl) ?_
  refine z_callVR (As := []) (rest := []) zTB Z (k_M_thrown) ⟨ml_L_101, im_M_thrown, se_M_thrown, ini_M, co_M_thrown⟩ zd_M_thrown ⟨Nat.le_of_ble_eq_true rfl, Nat.le_of_ble_eq_true rfl⟩ hP hK (ci := 5) (q0 := 19) rfl rfl rfl hl.1 rfl (Nat.le_of_ble_eq_true rfl) d_L_law_258 ⟨hc.1, hc.2⟩ ?_
  refine W.eq (g2 := F0 m 261 ls [.int (iZ ((M1.1 : Nat) : Int))]) rfl ?_
  refine z_topZ (b := ((2 : Nat) : Int)) (by rw [hc1]) ?_
  refine lv_iload hx hb d_L_law_261 (lv_at hl 1 rfl) ?_
  refine z_icmp_eq (a := ((2 : Nat) : Int)) (b := ((2 : Nat) : Int)) (tgt := 268) hx hb (by omega) d_L_law_263 (by decide) (fun q263 => ?_) (fun q263 => ?_)
  · skip
    refine lv_iload hx hb d_L_law_268 (lv_at hl 1 rfl) ?_
    refine z_if_ne (a := ((2 : Nat) : Int)) (tgt := 292) hx hb (by omega) d_L_law_270 (by decide) (fun q270 => ?_) (fun q270 => ?_)
    · skip
      refine lv_goto (tgt := 1598) hx hb d_L_law_292 (by decide) ?_
      exact kk J _ _ _ _ _ _ H locs ls ⟨hI, hM1, hR, hpq⟩ hP hD hS (lv_sub hl [2, 3, 4, 5, 6] rfl)
    · skip
      exfalso; omega
  · skip
    exfalso; omega

set_option maxHeartbeats 4000000 in
set_option maxRecDepth 100000 in
theorem lf_caught_0 {p : Program} {l : Launch} {e : Env} {s : State} {m : MethodId} {below : List Frame} {meth : Method} {c : Code} {Q : State → Prop} {sb L : Nat} {xs : Nat → Int32} {D : va_G} {A : Nat → Prop} {ad : Nat → Nat} {cI cZ cL : ClassId} {J : SJ} {rd : Nat → Int} {pr : Nat → Nat} {G : SH} {K : SK} {M : SM} {ov : Nat → Int64} {H : Heap} {locs : List Loc} {cells slots i : Nat} {ls : Array Slot} (X : LX p l s m meth c sb L xs D cI cZ cL A) (hLI : LI J rd pr M) (hi : i + 4 < L) (hc : cells + 1 ≤ 1061 ∧ slots + 6 ≤ 9679) {h kd v : Nat} (hh : h < jn J) (hkd : kd < 3) (hv : v ≤ 1000) (ha1 : xs (i + 1) = iZ ((h : Nat) : Int)) (ha2 : xs (i + 2) = iZ ((kd : Nat) : Int)) (ha3 : xs (i + 3) = iZ ((v : Nat) : Int)) (hP : va_P D classes (wdC ad cI cZ cL J rd pr G K (wdM ad cI cZ cL J rd pr M ov)) H) (hD : va_D A (wdC ad cI cZ cL J rd pr G K (wdM ad cI cZ cL J rd pr M ov))) (hS : va_S A s.heap H locs) (hl : lv_has ls 8 (lwL ad sb i)) (kk : LK p l e s m below meth c Q sb D A ad cI cZ cL i (cells + 1) (slots + 6)) : W p l e room_1 s m #[Value.ref sb] below meth c H locs cells slots Q (F0 m 208 ls []) := by
  obtain ⟨hl0, Z, hX, hbl, hK, hA, hbA, hTT, hSt, hL⟩ := X
  obtain ⟨hI, hM, hR, hpq⟩ := hLI
  obtain ⟨hx, hb, hr, hml, hown, hts, hE, hlocks⟩ := id Z
  have hn32 := hI.1
  have hk32 := hI.2.1
  have hl : lv_has ls 8 [(4, .int (iZ ((i : Nat) : Int))), (0, .ref (sb)), (1, .ref (ad 0)), (2, .ref (ad 19)), (3, .ref (ad 33))] := hl
  refine lv_aload_n hx hb d_L_law_208 rfl (lv_at hl 2 rfl) ?_
  refine lv_aload_n hx hb d_L_law_209 rfl (lv_at hl 1 rfl) ?_
  refine lv_iload hx hb d_L_law_210 (lv_at hl 0 rfl) ?_
  refine lv_iconst (v := iZ ((1 : Nat) : Int)) hx hb d_L_law_212 (by decide) ?_
  refine z_iaddN (u := i) (v := 1) hx hb d_L_law_213 ?_
  refine z_sld (v := iZ ((h : Nat) : Int)) hx hb hX hbl hbA hS (i + 1) (by omega) ha1 d_L_law_214 ?_
  refine lv_aload_n hx hb d_L_law_215 rfl (lv_at hl 1 rfl) ?_
  refine lv_iload hx hb d_L_law_216 (lv_at hl 0 rfl) ?_
  refine lv_iconst (v := iZ ((2 : Nat) : Int)) hx hb d_L_law_218 (by decide) ?_
  refine z_iaddN (u := i) (v := 2) hx hb d_L_law_219 ?_
  refine z_sld (v := iZ ((kd : Nat) : Int)) hx hb hX hbl hbA hS (i + 2) (by omega) ha2 d_L_law_220 ?_
  refine lv_aload_n hx hb d_L_law_221 rfl (lv_at hl 1 rfl) ?_
  refine lv_iload hx hb d_L_law_222 (lv_at hl 0 rfl) ?_
  refine lv_iconst (v := iZ ((3 : Nat) : Int)) hx hb d_L_law_224 (by decide) ?_
  refine z_iaddN (u := i) (v := 3) hx hb d_L_law_225 ?_
  refine z_sld (v := iZ ((v : Nat) : Int)) hx hb hX hbl hbA hS (i + 3) (by omega) ha3 d_L_law_226 ?_
  refine lv_aload_n hx hb d_L_law_227 rfl (lv_at hl 4 rfl) ?_
  refine z_kiW (z_runSW (As := [.ref (ad 0), .int (iZ ((h : Nat) : Int)), .int (iZ ((kd : Nat) : Int)), .int (iZ ((v : Nat) : Int)), .ref (ad 33)]) (rest := []) Z (k_L_caught0 hI (h := h) (kd := kd) (v := v) hh hkd hv) ⟨ml_L_105, sm_L_caught, ini_L, co_L_caught⟩ zd_L_caught ⟨Nat.le_of_ble_eq_true rfl, Nat.le_of_ble_eq_true rfl⟩ hP hK hD (hTT _ _ hS) hSt hl.1 rfl (Nat.le_of_ble_eq_true rfl) d_L_law_228 ⟨hc.1, hc.2⟩) hD hS hA (fun r9 w9 H locs hp9 hP hD hS => ?_)
  obtain ⟨rfl, rfl⟩ := hp9
  have hP : va_P D classes (wdC ad cI cZ cL (sPC9 J (h * 3 + kd) v) rd pr G K (wdM ad cI cZ cL J rd pr M (oU ov (lZ (((if (decide (jct J (h * 3 + kd) ≠ v)) = true then 1 else 0 : Nat)) : Int))))) H := hP
  have hD : va_D A (wdC ad cI cZ cL (sPC9 J (h * 3 + kd) v) rd pr G K (wdM ad cI cZ cL J rd pr M (oU ov (lZ (((if (decide (jct J (h * 3 + kd) ≠ v)) = true then 1 else 0 : Nat)) : Int))))) := hD
  refine W.eq (g2 := F0 m 231 ls [.int (iZ ((0 : Nat) : Int))]) rfl ?_
  refine lv_istore (lv' := [(5, .int (iZ ((0 : Nat) : Int))), (4, .int (iZ ((i : Nat) : Int))), (0, .ref (sb)), (1, .ref (ad 0)), (2, .ref (ad 19)), (3, .ref (ad 33))]) hx hb d_L_law_231 hl (by decide) rfl (fun ls hl => ?_)
  refine lv_aload_n hx hb d_L_law_233 rfl (lv_at hl 4 rfl) ?_
  refine lv_aload_n hx hb d_L_law_234 rfl (lv_at hl 2 rfl) ?_
  refine lv_iload hx hb d_L_law_235 (lv_at hl 1 rfl) ?_
  refine lv_iconst (v := iZ ((1 : Nat) : Int)) hx hb d_L_law_237 (by decide) ?_
  refine z_iaddN (u := i) (v := 1) hx hb d_L_law_238 ?_
  refine z_sld (v := iZ ((h : Nat) : Int)) hx hb hX hbl hbA hS (i + 1) (by omega) ha1 d_L_law_239 ?_
  refine lv_aload_n hx hb d_L_law_240 rfl (lv_at hl 2 rfl) ?_
  refine lv_iload hx hb d_L_law_241 (lv_at hl 1 rfl) ?_
  refine lv_iconst (v := iZ ((2 : Nat) : Int)) hx hb d_L_law_243 (by decide) ?_
  refine z_iaddN (u := i) (v := 2) hx hb d_L_law_244 ?_
  refine z_sld (v := iZ ((kd : Nat) : Int)) hx hb hX hbl hbA hS (i + 2) (by omega) ha2 d_L_law_245 ?_
  refine lv_aload_n hx hb d_L_law_246 rfl (lv_at hl 2 rfl) ?_
  refine lv_iload hx hb d_L_law_247 (lv_at hl 1 rfl) ?_
  refine lv_iconst (v := iZ ((3 : Nat) : Int)) hx hb d_L_law_249 (by decide) ?_
  refine z_iaddN (u := i) (v := 3) hx hb d_L_law_250 ?_
  refine z_sld (v := iZ ((v : Nat) : Int)) hx hb hX hbl hbA hS (i + 3) (by omega) ha3 d_L_law_251 ?_
  refine z_ki (z_runV (As := [.int (iZ ((h : Nat) : Int)), .int (iZ ((kd : Nat) : Int)), .int (iZ ((v : Nat) : Int))]) (rest := []) zTB Z (k_M_caught0 hI hM hh hkd hv) ⟨ml_L_108, im_M_caught, se_M_caught, ini_M, co_M_caught⟩ zd_M_caught ⟨Nat.le_of_ble_eq_true rfl, Nat.le_of_ble_eq_true rfl⟩ hP hK hD (ci := 5) (q0 := 19) rfl rfl rfl hl.1 rfl (Nat.le_of_ble_eq_true rfl) d_L_law_252 ⟨hc.1, hc.2⟩) hD hS hA (fun r9 w9 H locs hp9 hP hD hS => ?_)
  obtain ⟨M1, rfl, rfl, hc1, hM1⟩ := hp9
  have hP : va_P D classes (wdC ad cI cZ cL (sPC9 J (h * 3 + kd) v) rd pr G K (wdM ad cI cZ cL (sPC9 J (h * 3 + kd) v) rd pr M1 (oU ov (lZ (((if (decide (jct J (h * 3 + kd) ≠ v)) = true then 1 else 0 : Nat)) : Int))))) H := hP
  have hD : va_D A (wdC ad cI cZ cL (sPC9 J (h * 3 + kd) v) rd pr G K (wdM ad cI cZ cL (sPC9 J (h * 3 + kd) v) rd pr M1 (oU ov (lZ (((if (decide (jct J (h * 3 + kd) ≠ v)) = true then 1 else 0 : Nat)) : Int))))) := hD
  refine W.eq (g2 := F0 m 255 ls [.int (bI (decide (jct J (h * 3 + kd) ≠ v)))]) rfl ?_
  refine lv_istore (lv' := [(6, .int (bI (decide (jct J (h * 3 + kd) ≠ v)))), (5, .int (iZ ((0 : Nat) : Int))), (4, .int (iZ ((i : Nat) : Int))), (0, .ref (sb)), (1, .ref (ad 0)), (2, .ref (ad 19)), (3, .ref (ad 33))]) hx hb d_L_law_255 hl (by decide) rfl (fun ls hl => ?_)
  refine lv_aload_n hx hb d_L_law_257 rfl (lv_at hl 5 rfl) ?_
  refine z_callVR (As := []) (rest := []) zTB Z (k_M_thrown) ⟨ml_L_101, im_M_thrown, se_M_thrown, ini_M, co_M_thrown⟩ zd_M_thrown ⟨Nat.le_of_ble_eq_true rfl, Nat.le_of_ble_eq_true rfl⟩ hP hK (ci := 5) (q0 := 19) rfl rfl rfl hl.1 rfl (Nat.le_of_ble_eq_true rfl) d_L_law_258 ⟨hc.1, hc.2⟩ ?_
  refine W.eq (g2 := F0 m 261 ls [.int (iZ ((M1.1 : Nat) : Int))]) rfl ?_
  refine z_topZ (b := ((0 : Nat) : Int)) (by rw [hc1]) ?_
  refine lv_iload hx hb d_L_law_261 (lv_at hl 1 rfl) ?_
  refine z_icmp_eq (a := ((0 : Nat) : Int)) (b := ((0 : Nat) : Int)) (tgt := 268) hx hb (by omega) d_L_law_263 (by decide) (fun q263 => ?_) (fun q263 => ?_)
  · skip
    refine lv_iload hx hb d_L_law_268 (lv_at hl 1 rfl) ?_
    refine z_if_ne (a := ((0 : Nat) : Int)) (tgt := 292) hx hb (by omega) d_L_law_270 (by decide) (fun q270 => ?_) (fun q270 => ?_)
    · skip
      exfalso; omega
    · skip
      refine lv_aload_n hx hb d_L_law_273 rfl (lv_at hl 6 rfl) ?_
      refine lv_iconst (v := iZ ((0 : Nat) : Int)) hx hb d_L_law_274 (by decide) ?_
      refine z_old (x := lZ (((if (decide (jct J (h * 3 + kd) ≠ v)) = true then 1 else 0 : Nat)) : Int)) hx hb hK hP 33 2 rfl rfl d_L_law_275 ?_
      refine lv_iload hx hb d_L_law_276 (lv_at hl 0 rfl) ?_
      refine z_if_eqB (b := decide (jct J (h * 3 + kd) ≠ v)) (tgt := 285) hx hb d_L_law_278 (by decide) (fun q278 => ?_) (fun q278 => ?_)
      · skip
        replace q278 := of_decide_eq_false q278
        refine lv_lconst (v := lZ ((0 : Nat) : Int)) hx hb d_L_law_285 (by decide) ?_
        refine z_lcmpR_eq (tgt := 292) (pc1 := 287) (pc4 := 290) hx hb d_L_law_286 rfl rfl d_L_law_287 (by decide) (fun q286 => ?_) (fun q286 => ?_)
        · skip
          refine lv_goto (tgt := 1598) hx hb d_L_law_292 (by decide) ?_
          exact kk (sPC9 J (h * 3 + kd) v) _ _ _ _ _ _ H locs ls ⟨JI_c hI hv, hM1, hR, hpq⟩ hP hD hS (lv_sub hl [2, 3, 4, 5, 6] rfl)
        · skip
          first | exact absurd (by rw [show (decide (jct J (h * 3 + kd) ≠ v)) = true from decide_eq_true q278]; rfl) q286 | exact absurd (by rw [show (decide (jct J (h * 3 + kd) ≠ v)) = false from decide_eq_false q278]; rfl) q286
      · skip
        replace q278 := of_decide_eq_true q278
        refine lv_lconst (v := lZ ((1 : Nat) : Int)) hx hb d_L_law_281 (by decide) ?_
        refine lv_goto (tgt := 286) hx hb d_L_law_282 (by decide) ?_
        refine z_lcmpR_eq (tgt := 292) (pc1 := 287) (pc4 := 290) hx hb d_L_law_286 rfl rfl d_L_law_287 (by decide) (fun q286 => ?_) (fun q286 => ?_)
        · skip
          refine lv_goto (tgt := 1598) hx hb d_L_law_292 (by decide) ?_
          exact kk (sPC9 J (h * 3 + kd) v) _ _ _ _ _ _ H locs ls ⟨JI_c hI hv, hM1, hR, hpq⟩ hP hD hS (lv_sub hl [2, 3, 4, 5, 6] rfl)
        · skip
          first | exact absurd (by rw [show (decide (jct J (h * 3 + kd) ≠ v)) = true from decide_eq_true q278]; rfl) q286 | exact absurd (by rw [show (decide (jct J (h * 3 + kd) ≠ v)) = false from decide_eq_false q278]; rfl) q286
  · skip
    exfalso; omega

set_option maxHeartbeats 4000000 in
set_option maxRecDepth 100000 in
theorem lf_out_x1true {p : Program} {l : Launch} {e : Env} {s : State} {m : MethodId} {below : List Frame} {meth : Method} {c : Code} {Q : State → Prop} {sb L : Nat} {xs : Nat → Int32} {D : va_G} {A : Nat → Prop} {ad : Nat → Nat} {cI cZ cL : ClassId} {J : SJ} {rd : Nat → Int} {pr : Nat → Nat} {G : SH} {K : SK} {M : SM} {ov : Nat → Int64} {H : Heap} {locs : List Loc} {cells slots i : Nat} {ls : Array Slot} (X : LX p l s m meth c sb L xs D cI cZ cL A) (hLI : LI J rd pr M) (hi : i + 4 < L) (hc : cells + 1 ≤ 1061 ∧ slots + 6 ≤ 9679) {a a2 : Int} (h : z32 a ∧ (a < 0 ∨ 4 ≤ a)) (hz2 : z32 a2 ∧ a2 ≠ 0) (ha1 : xs (i + 1) = iZ (a)) (ha2 : xs (i + 2) = iZ (a2)) (hP : va_P D classes (wdC ad cI cZ cL J rd pr G K (wdM ad cI cZ cL J rd pr M ov)) H) (hD : va_D A (wdC ad cI cZ cL J rd pr G K (wdM ad cI cZ cL J rd pr M ov))) (hS : va_S A s.heap H locs) (hl : lv_has ls 8 (lwL ad sb i)) (kk : LK p l e s m below meth c Q sb D A ad cI cZ cL i (cells + 1) (slots + 6)) : W p l e room_1 s m #[Value.ref sb] below meth c H locs cells slots Q (F0 m 295 ls []) := by
  obtain ⟨hl0, Z, hX, hbl, hK, hA, hbA, hTT, hSt, hL⟩ := X
  obtain ⟨hI, hM, hR, hpq⟩ := hLI
  obtain ⟨hx, hb, hr, hml, hown, hts, hE, hlocks⟩ := id Z
  have hn32 := hI.1
  have hk32 := hI.2.1
  have hl : lv_has ls 8 [(4, .int (iZ ((i : Nat) : Int))), (0, .ref (sb)), (1, .ref (ad 0)), (2, .ref (ad 19)), (3, .ref (ad 33))] := hl
  refine lv_aload_n hx hb d_L_law_295 rfl (lv_at hl 2 rfl) ?_
  refine lv_aload_n hx hb d_L_law_296 rfl (lv_at hl 1 rfl) ?_
  refine lv_iload hx hb d_L_law_297 (lv_at hl 0 rfl) ?_
  refine lv_iconst (v := iZ ((1 : Nat) : Int)) hx hb d_L_law_299 (by decide) ?_
  refine z_iaddN (u := i) (v := 1) hx hb d_L_law_300 ?_
  refine z_sld (v := iZ (a)) hx hb hX hbl hbA hS (i + 1) (by omega) ha1 d_L_law_301 ?_
  refine lv_aload_n hx hb d_L_law_302 rfl (lv_at hl 1 rfl) ?_
  refine lv_iload hx hb d_L_law_303 (lv_at hl 0 rfl) ?_
  refine lv_iconst (v := iZ ((2 : Nat) : Int)) hx hb d_L_law_305 (by decide) ?_
  refine z_iaddN (u := i) (v := 2) hx hb d_L_law_306 ?_
  refine z_sld (v := iZ (a2)) hx hb hX hbl hbA hS (i + 2) (by omega) ha2 d_L_law_307 ?_
  refine z_if_eq (a := a2) (tgt := 315) hx hb (by omega) d_L_law_308 (by decide) (fun q308 => ?_) (fun q308 => ?_)
  · skip
    exfalso; omega
  · skip
    refine lv_iconst (v := iZ ((1 : Nat) : Int)) hx hb d_L_law_311 (by decide) ?_
    refine lv_goto (tgt := 316) hx hb d_L_law_312 (by decide) ?_
    refine lv_aload_n hx hb d_L_law_316 rfl (lv_at hl 4 rfl) ?_
    refine W.eq (g2 := F0 m 317 ls [.ref (ad 33), .int (bI (true)), .int (iZ (a)), .ref (ad 0)]) rfl ?_
    refine z_kiW (z_runSW (As := [.ref (ad 0), .int (iZ (a)), .int (bI (true)), .ref (ad 33)]) (rest := []) Z (k_L_outx1 hl0 hI (a := a) (on := true) h) ⟨ml_L_109, sm_L_out, ini_L, co_L_out⟩ zd_L_out ⟨Nat.le_of_ble_eq_true rfl, Nat.le_of_ble_eq_true rfl⟩ hP hK hD (hTT _ _ hS) hSt hl.1 rfl (Nat.le_of_ble_eq_true rfl) d_L_law_317 ⟨hc.1, hc.2⟩) hD hS hA (fun r9 w9 H locs hp9 hP hD hS => ?_)
    obtain ⟨rfl, rfl⟩ := hp9
    have hP : va_P D classes (wdC ad cI cZ cL J rd pr G K (wdM ad cI cZ cL J rd pr M ov)) H := hP
    have hD : va_D A (wdC ad cI cZ cL J rd pr G K (wdM ad cI cZ cL J rd pr M ov)) := hD
    refine W.eq (g2 := F0 m 320 ls [.int (iZ ((1 : Nat) : Int))]) rfl ?_
    refine lv_istore (lv' := [(5, .int (iZ ((1 : Nat) : Int))), (4, .int (iZ ((i : Nat) : Int))), (0, .ref (sb)), (1, .ref (ad 0)), (2, .ref (ad 19)), (3, .ref (ad 33))]) hx hb d_L_law_320 hl (by decide) rfl (fun ls hl => ?_)
    refine lv_aload_n hx hb d_L_law_322 rfl (lv_at hl 4 rfl) ?_
    refine lv_aload_n hx hb d_L_law_323 rfl (lv_at hl 2 rfl) ?_
    refine lv_iload hx hb d_L_law_324 (lv_at hl 1 rfl) ?_
    refine lv_iconst (v := iZ ((1 : Nat) : Int)) hx hb d_L_law_326 (by decide) ?_
    refine z_iaddN (u := i) (v := 1) hx hb d_L_law_327 ?_
    refine z_sld (v := iZ (a)) hx hb hX hbl hbA hS (i + 1) (by omega) ha1 d_L_law_328 ?_
    refine lv_aload_n hx hb d_L_law_329 rfl (lv_at hl 2 rfl) ?_
    refine lv_iload hx hb d_L_law_330 (lv_at hl 1 rfl) ?_
    refine lv_iconst (v := iZ ((2 : Nat) : Int)) hx hb d_L_law_332 (by decide) ?_
    refine z_iaddN (u := i) (v := 2) hx hb d_L_law_333 ?_
    refine z_sld (v := iZ (a2)) hx hb hX hbl hbA hS (i + 2) (by omega) ha2 d_L_law_334 ?_
    refine z_if_eq (a := a2) (tgt := 342) hx hb (by omega) d_L_law_335 (by decide) (fun q335 => ?_) (fun q335 => ?_)
    · skip
      exfalso; omega
    · skip
      refine lv_iconst (v := iZ ((1 : Nat) : Int)) hx hb d_L_law_338 (by decide) ?_
      refine lv_goto (tgt := 343) hx hb d_L_law_339 (by decide) ?_
      refine W.eq (g2 := F0 m 343 ls [.int (bI (true)), .int (iZ (a)), .ref (ad 19)]) rfl ?_
      refine z_ki (z_runV (As := [.int (iZ (a)), .int (bI (true))]) (rest := []) zTB Z (k_M_outx1 hI hM (a := a) (on := true) h) ⟨ml_L_112, im_M_out, se_M_out, ini_M, co_M_out⟩ zd_M_out ⟨Nat.le_of_ble_eq_true rfl, Nat.le_of_ble_eq_true rfl⟩ hP hK hD (ci := 5) (q0 := 19) rfl rfl rfl hl.1 rfl (Nat.le_of_ble_eq_true rfl) d_L_law_343 ⟨hc.1, hc.2⟩) hD hS hA (fun r9 w9 H locs hp9 hP hD hS => ?_)
      obtain ⟨M1, rfl, hc1, hM1⟩ := hp9
      have hP : va_P D classes (wdC ad cI cZ cL J rd pr G K (wdM ad cI cZ cL J rd pr M1 ov)) H := hP
      have hD : va_D A (wdC ad cI cZ cL J rd pr G K (wdM ad cI cZ cL J rd pr M1 ov)) := hD
      refine W.eq (g2 := F0 m 346 ls [.int (r9)]) rfl ?_
      refine lv_istore (lv' := [(6, .int (r9)), (5, .int (iZ ((1 : Nat) : Int))), (4, .int (iZ ((i : Nat) : Int))), (0, .ref (sb)), (1, .ref (ad 0)), (2, .ref (ad 19)), (3, .ref (ad 33))]) hx hb d_L_law_346 hl (by decide) rfl (fun ls hl => ?_)
      refine lv_aload_n hx hb d_L_law_348 rfl (lv_at hl 5 rfl) ?_
      refine z_callVR (As := []) (rest := []) zTB Z (k_M_thrown) ⟨ml_L_101, im_M_thrown, se_M_thrown, ini_M, co_M_thrown⟩ zd_M_thrown ⟨Nat.le_of_ble_eq_true rfl, Nat.le_of_ble_eq_true rfl⟩ hP hK (ci := 5) (q0 := 19) rfl rfl rfl hl.1 rfl (Nat.le_of_ble_eq_true rfl) d_L_law_349 ⟨hc.1, hc.2⟩ ?_
      refine W.eq (g2 := F0 m 352 ls [.int (iZ ((M1.1 : Nat) : Int))]) rfl ?_
      refine z_topZ (b := ((1 : Nat) : Int)) (by rw [hc1]) ?_
      refine lv_iload hx hb d_L_law_352 (lv_at hl 1 rfl) ?_
      refine z_icmp_eq (a := ((1 : Nat) : Int)) (b := ((1 : Nat) : Int)) (tgt := 359) hx hb (by omega) d_L_law_354 (by decide) (fun q354 => ?_) (fun q354 => ?_)
      · skip
        refine lv_iload hx hb d_L_law_359 (lv_at hl 1 rfl) ?_
        refine z_if_ne (a := ((1 : Nat) : Int)) (tgt := 383) hx hb (by omega) d_L_law_361 (by decide) (fun q361 => ?_) (fun q361 => ?_)
        · skip
          refine lv_goto (tgt := 1598) hx hb d_L_law_383 (by decide) ?_
          exact kk J _ _ _ _ _ _ H locs ls ⟨hI, hM1, hR, hpq⟩ hP hD hS (lv_sub hl [2, 3, 4, 5, 6] rfl)
        · skip
          exfalso; omega
      · skip
        exfalso; omega

set_option maxHeartbeats 4000000 in
set_option maxRecDepth 100000 in
theorem lf_out_x1false {p : Program} {l : Launch} {e : Env} {s : State} {m : MethodId} {below : List Frame} {meth : Method} {c : Code} {Q : State → Prop} {sb L : Nat} {xs : Nat → Int32} {D : va_G} {A : Nat → Prop} {ad : Nat → Nat} {cI cZ cL : ClassId} {J : SJ} {rd : Nat → Int} {pr : Nat → Nat} {G : SH} {K : SK} {M : SM} {ov : Nat → Int64} {H : Heap} {locs : List Loc} {cells slots i : Nat} {ls : Array Slot} (X : LX p l s m meth c sb L xs D cI cZ cL A) (hLI : LI J rd pr M) (hi : i + 4 < L) (hc : cells + 1 ≤ 1061 ∧ slots + 6 ≤ 9679) {a a2 : Int} (h : z32 a ∧ (a < 0 ∨ 4 ≤ a)) (hz2 : z32 a2 ∧ a2 = 0) (ha1 : xs (i + 1) = iZ (a)) (ha2 : xs (i + 2) = iZ (a2)) (hP : va_P D classes (wdC ad cI cZ cL J rd pr G K (wdM ad cI cZ cL J rd pr M ov)) H) (hD : va_D A (wdC ad cI cZ cL J rd pr G K (wdM ad cI cZ cL J rd pr M ov))) (hS : va_S A s.heap H locs) (hl : lv_has ls 8 (lwL ad sb i)) (kk : LK p l e s m below meth c Q sb D A ad cI cZ cL i (cells + 1) (slots + 6)) : W p l e room_1 s m #[Value.ref sb] below meth c H locs cells slots Q (F0 m 295 ls []) := by
  obtain ⟨hl0, Z, hX, hbl, hK, hA, hbA, hTT, hSt, hL⟩ := X
  obtain ⟨hI, hM, hR, hpq⟩ := hLI
  obtain ⟨hx, hb, hr, hml, hown, hts, hE, hlocks⟩ := id Z
  have hn32 := hI.1
  have hk32 := hI.2.1
  have hl : lv_has ls 8 [(4, .int (iZ ((i : Nat) : Int))), (0, .ref (sb)), (1, .ref (ad 0)), (2, .ref (ad 19)), (3, .ref (ad 33))] := hl
  refine lv_aload_n hx hb d_L_law_295 rfl (lv_at hl 2 rfl) ?_
  refine lv_aload_n hx hb d_L_law_296 rfl (lv_at hl 1 rfl) ?_
  refine lv_iload hx hb d_L_law_297 (lv_at hl 0 rfl) ?_
  refine lv_iconst (v := iZ ((1 : Nat) : Int)) hx hb d_L_law_299 (by decide) ?_
  refine z_iaddN (u := i) (v := 1) hx hb d_L_law_300 ?_
  refine z_sld (v := iZ (a)) hx hb hX hbl hbA hS (i + 1) (by omega) ha1 d_L_law_301 ?_
  refine lv_aload_n hx hb d_L_law_302 rfl (lv_at hl 1 rfl) ?_
  refine lv_iload hx hb d_L_law_303 (lv_at hl 0 rfl) ?_
  refine lv_iconst (v := iZ ((2 : Nat) : Int)) hx hb d_L_law_305 (by decide) ?_
  refine z_iaddN (u := i) (v := 2) hx hb d_L_law_306 ?_
  refine z_sld (v := iZ (a2)) hx hb hX hbl hbA hS (i + 2) (by omega) ha2 d_L_law_307 ?_
  refine z_if_eq (a := a2) (tgt := 315) hx hb (by omega) d_L_law_308 (by decide) (fun q308 => ?_) (fun q308 => ?_)
  · skip
    refine lv_iconst (v := iZ ((0 : Nat) : Int)) hx hb d_L_law_315 (by decide) ?_
    refine lv_aload_n hx hb d_L_law_316 rfl (lv_at hl 4 rfl) ?_
    refine W.eq (g2 := F0 m 317 ls [.ref (ad 33), .int (bI (false)), .int (iZ (a)), .ref (ad 0)]) rfl ?_
    refine z_kiW (z_runSW (As := [.ref (ad 0), .int (iZ (a)), .int (bI (false)), .ref (ad 33)]) (rest := []) Z (k_L_outx1 hl0 hI (a := a) (on := false) h) ⟨ml_L_109, sm_L_out, ini_L, co_L_out⟩ zd_L_out ⟨Nat.le_of_ble_eq_true rfl, Nat.le_of_ble_eq_true rfl⟩ hP hK hD (hTT _ _ hS) hSt hl.1 rfl (Nat.le_of_ble_eq_true rfl) d_L_law_317 ⟨hc.1, hc.2⟩) hD hS hA (fun r9 w9 H locs hp9 hP hD hS => ?_)
    obtain ⟨rfl, rfl⟩ := hp9
    have hP : va_P D classes (wdC ad cI cZ cL J rd pr G K (wdM ad cI cZ cL J rd pr M ov)) H := hP
    have hD : va_D A (wdC ad cI cZ cL J rd pr G K (wdM ad cI cZ cL J rd pr M ov)) := hD
    refine W.eq (g2 := F0 m 320 ls [.int (iZ ((1 : Nat) : Int))]) rfl ?_
    refine lv_istore (lv' := [(5, .int (iZ ((1 : Nat) : Int))), (4, .int (iZ ((i : Nat) : Int))), (0, .ref (sb)), (1, .ref (ad 0)), (2, .ref (ad 19)), (3, .ref (ad 33))]) hx hb d_L_law_320 hl (by decide) rfl (fun ls hl => ?_)
    refine lv_aload_n hx hb d_L_law_322 rfl (lv_at hl 4 rfl) ?_
    refine lv_aload_n hx hb d_L_law_323 rfl (lv_at hl 2 rfl) ?_
    refine lv_iload hx hb d_L_law_324 (lv_at hl 1 rfl) ?_
    refine lv_iconst (v := iZ ((1 : Nat) : Int)) hx hb d_L_law_326 (by decide) ?_
    refine z_iaddN (u := i) (v := 1) hx hb d_L_law_327 ?_
    refine z_sld (v := iZ (a)) hx hb hX hbl hbA hS (i + 1) (by omega) ha1 d_L_law_328 ?_
    refine lv_aload_n hx hb d_L_law_329 rfl (lv_at hl 2 rfl) ?_
    refine lv_iload hx hb d_L_law_330 (lv_at hl 1 rfl) ?_
    refine lv_iconst (v := iZ ((2 : Nat) : Int)) hx hb d_L_law_332 (by decide) ?_
    refine z_iaddN (u := i) (v := 2) hx hb d_L_law_333 ?_
    refine z_sld (v := iZ (a2)) hx hb hX hbl hbA hS (i + 2) (by omega) ha2 d_L_law_334 ?_
    refine z_if_eq (a := a2) (tgt := 342) hx hb (by omega) d_L_law_335 (by decide) (fun q335 => ?_) (fun q335 => ?_)
    · skip
      refine lv_iconst (v := iZ ((0 : Nat) : Int)) hx hb d_L_law_342 (by decide) ?_
      refine W.eq (g2 := F0 m 343 ls [.int (bI (false)), .int (iZ (a)), .ref (ad 19)]) rfl ?_
      refine z_ki (z_runV (As := [.int (iZ (a)), .int (bI (false))]) (rest := []) zTB Z (k_M_outx1 hI hM (a := a) (on := false) h) ⟨ml_L_112, im_M_out, se_M_out, ini_M, co_M_out⟩ zd_M_out ⟨Nat.le_of_ble_eq_true rfl, Nat.le_of_ble_eq_true rfl⟩ hP hK hD (ci := 5) (q0 := 19) rfl rfl rfl hl.1 rfl (Nat.le_of_ble_eq_true rfl) d_L_law_343 ⟨hc.1, hc.2⟩) hD hS hA (fun r9 w9 H locs hp9 hP hD hS => ?_)
      obtain ⟨M1, rfl, hc1, hM1⟩ := hp9
      have hP : va_P D classes (wdC ad cI cZ cL J rd pr G K (wdM ad cI cZ cL J rd pr M1 ov)) H := hP
      have hD : va_D A (wdC ad cI cZ cL J rd pr G K (wdM ad cI cZ cL J rd pr M1 ov)) := hD
      refine W.eq (g2 := F0 m 346 ls [.int (r9)]) rfl ?_
      refine lv_istore (lv' := [(6, .int (r9)), (5, .int (iZ ((1 : Nat) : Int))), (4, .int (iZ ((i : Nat) : Int))), (0, .ref (sb)), (1, .ref (ad 0)), (2, .ref (ad 19)), (3, .ref (ad 33))]) hx hb d_L_law_346 hl (by decide) rfl (fun ls hl => ?_)
      refine lv_aload_n hx hb d_L_law_348 rfl (lv_at hl 5 rfl) ?_
      refine z_callVR (As := []) (rest := []) zTB Z (k_M_thrown) ⟨ml_L_101, im_M_thrown, se_M_thrown, ini_M, co_M_thrown⟩ zd_M_thrown ⟨Nat.le_of_ble_eq_true rfl, Nat.le_of_ble_eq_true rfl⟩ hP hK (ci := 5) (q0 := 19) rfl rfl rfl hl.1 rfl (Nat.le_of_ble_eq_true rfl) d_L_law_349 ⟨hc.1, hc.2⟩ ?_
      refine W.eq (g2 := F0 m 352 ls [.int (iZ ((M1.1 : Nat) : Int))]) rfl ?_
      refine z_topZ (b := ((1 : Nat) : Int)) (by rw [hc1]) ?_
      refine lv_iload hx hb d_L_law_352 (lv_at hl 1 rfl) ?_
      refine z_icmp_eq (a := ((1 : Nat) : Int)) (b := ((1 : Nat) : Int)) (tgt := 359) hx hb (by omega) d_L_law_354 (by decide) (fun q354 => ?_) (fun q354 => ?_)
      · skip
        refine lv_iload hx hb d_L_law_359 (lv_at hl 1 rfl) ?_
        refine z_if_ne (a := ((1 : Nat) : Int)) (tgt := 383) hx hb (by omega) d_L_law_361 (by decide) (fun q361 => ?_) (fun q361 => ?_)
        · skip
          refine lv_goto (tgt := 1598) hx hb d_L_law_383 (by decide) ?_
          exact kk J _ _ _ _ _ _ H locs ls ⟨hI, hM1, hR, hpq⟩ hP hD hS (lv_sub hl [2, 3, 4, 5, 6] rfl)
        · skip
          exfalso; omega
      · skip
        exfalso; omega
    · skip
      exfalso; omega
  · skip
    exfalso; omega

set_option maxHeartbeats 4000000 in
set_option maxRecDepth 100000 in
theorem lf_out_0true {p : Program} {l : Launch} {e : Env} {s : State} {m : MethodId} {below : List Frame} {meth : Method} {c : Code} {Q : State → Prop} {sb L : Nat} {xs : Nat → Int32} {D : va_G} {A : Nat → Prop} {ad : Nat → Nat} {cI cZ cL : ClassId} {J : SJ} {rd : Nat → Int} {pr : Nat → Nat} {G : SH} {K : SK} {M : SM} {ov : Nat → Int64} {H : Heap} {locs : List Loc} {cells slots i : Nat} {ls : Array Slot} (X : LX p l s m meth c sb L xs D cI cZ cL A) (hLI : LI J rd pr M) (hi : i + 4 < L) (hc : cells + 1 ≤ 1061 ∧ slots + 6 ≤ 9679) {sh : Nat} {a2 : Int} (hsh : sh < 4) (hz2 : z32 a2 ∧ a2 ≠ 0) (ha1 : xs (i + 1) = iZ ((sh : Nat) : Int)) (ha2 : xs (i + 2) = iZ (a2)) (hP : va_P D classes (wdC ad cI cZ cL J rd pr G K (wdM ad cI cZ cL J rd pr M ov)) H) (hD : va_D A (wdC ad cI cZ cL J rd pr G K (wdM ad cI cZ cL J rd pr M ov))) (hS : va_S A s.heap H locs) (hl : lv_has ls 8 (lwL ad sb i)) (kk : LK p l e s m below meth c Q sb D A ad cI cZ cL i (cells + 1) (slots + 6)) : W p l e room_1 s m #[Value.ref sb] below meth c H locs cells slots Q (F0 m 295 ls []) := by
  obtain ⟨hl0, Z, hX, hbl, hK, hA, hbA, hTT, hSt, hL⟩ := X
  obtain ⟨hI, hM, hR, hpq⟩ := hLI
  obtain ⟨hx, hb, hr, hml, hown, hts, hE, hlocks⟩ := id Z
  have hn32 := hI.1
  have hk32 := hI.2.1
  have hl : lv_has ls 8 [(4, .int (iZ ((i : Nat) : Int))), (0, .ref (sb)), (1, .ref (ad 0)), (2, .ref (ad 19)), (3, .ref (ad 33))] := hl
  refine lv_aload_n hx hb d_L_law_295 rfl (lv_at hl 2 rfl) ?_
  refine lv_aload_n hx hb d_L_law_296 rfl (lv_at hl 1 rfl) ?_
  refine lv_iload hx hb d_L_law_297 (lv_at hl 0 rfl) ?_
  refine lv_iconst (v := iZ ((1 : Nat) : Int)) hx hb d_L_law_299 (by decide) ?_
  refine z_iaddN (u := i) (v := 1) hx hb d_L_law_300 ?_
  refine z_sld (v := iZ ((sh : Nat) : Int)) hx hb hX hbl hbA hS (i + 1) (by omega) ha1 d_L_law_301 ?_
  refine lv_aload_n hx hb d_L_law_302 rfl (lv_at hl 1 rfl) ?_
  refine lv_iload hx hb d_L_law_303 (lv_at hl 0 rfl) ?_
  refine lv_iconst (v := iZ ((2 : Nat) : Int)) hx hb d_L_law_305 (by decide) ?_
  refine z_iaddN (u := i) (v := 2) hx hb d_L_law_306 ?_
  refine z_sld (v := iZ (a2)) hx hb hX hbl hbA hS (i + 2) (by omega) ha2 d_L_law_307 ?_
  refine z_if_eq (a := a2) (tgt := 315) hx hb (by omega) d_L_law_308 (by decide) (fun q308 => ?_) (fun q308 => ?_)
  · skip
    exfalso; omega
  · skip
    refine lv_iconst (v := iZ ((1 : Nat) : Int)) hx hb d_L_law_311 (by decide) ?_
    refine lv_goto (tgt := 316) hx hb d_L_law_312 (by decide) ?_
    refine lv_aload_n hx hb d_L_law_316 rfl (lv_at hl 4 rfl) ?_
    refine W.eq (g2 := F0 m 317 ls [.ref (ad 33), .int (bI (true)), .int (iZ ((sh : Nat) : Int)), .ref (ad 0)]) rfl ?_
    refine z_kiW (z_runSW (As := [.ref (ad 0), .int (iZ ((sh : Nat) : Int)), .int (bI (true)), .ref (ad 33)]) (rest := []) Z (k_L_out0 hI (sh := sh) (on := true) hsh) ⟨ml_L_109, sm_L_out, ini_L, co_L_out⟩ zd_L_out ⟨Nat.le_of_ble_eq_true rfl, Nat.le_of_ble_eq_true rfl⟩ hP hK hD (hTT _ _ hS) hSt hl.1 rfl (Nat.le_of_ble_eq_true rfl) d_L_law_317 ⟨hc.1, hc.2⟩) hD hS hA (fun r9 w9 H locs hp9 hP hD hS => ?_)
    obtain ⟨rfl, rfl⟩ := hp9
    have hP : va_P D classes (wdC ad cI cZ cL (sLO J sh true) rd pr G K (wdM ad cI cZ cL J rd pr M (oU ov (lZ (((if (jou J sh != true) = true then 1 else 0 : Nat)) : Int))))) H := hP
    have hD : va_D A (wdC ad cI cZ cL (sLO J sh true) rd pr G K (wdM ad cI cZ cL J rd pr M (oU ov (lZ (((if (jou J sh != true) = true then 1 else 0 : Nat)) : Int))))) := hD
    refine W.eq (g2 := F0 m 320 ls [.int (iZ ((0 : Nat) : Int))]) rfl ?_
    refine lv_istore (lv' := [(5, .int (iZ ((0 : Nat) : Int))), (4, .int (iZ ((i : Nat) : Int))), (0, .ref (sb)), (1, .ref (ad 0)), (2, .ref (ad 19)), (3, .ref (ad 33))]) hx hb d_L_law_320 hl (by decide) rfl (fun ls hl => ?_)
    refine lv_aload_n hx hb d_L_law_322 rfl (lv_at hl 4 rfl) ?_
    refine lv_aload_n hx hb d_L_law_323 rfl (lv_at hl 2 rfl) ?_
    refine lv_iload hx hb d_L_law_324 (lv_at hl 1 rfl) ?_
    refine lv_iconst (v := iZ ((1 : Nat) : Int)) hx hb d_L_law_326 (by decide) ?_
    refine z_iaddN (u := i) (v := 1) hx hb d_L_law_327 ?_
    refine z_sld (v := iZ ((sh : Nat) : Int)) hx hb hX hbl hbA hS (i + 1) (by omega) ha1 d_L_law_328 ?_
    refine lv_aload_n hx hb d_L_law_329 rfl (lv_at hl 2 rfl) ?_
    refine lv_iload hx hb d_L_law_330 (lv_at hl 1 rfl) ?_
    refine lv_iconst (v := iZ ((2 : Nat) : Int)) hx hb d_L_law_332 (by decide) ?_
    refine z_iaddN (u := i) (v := 2) hx hb d_L_law_333 ?_
    refine z_sld (v := iZ (a2)) hx hb hX hbl hbA hS (i + 2) (by omega) ha2 d_L_law_334 ?_
    refine z_if_eq (a := a2) (tgt := 342) hx hb (by omega) d_L_law_335 (by decide) (fun q335 => ?_) (fun q335 => ?_)
    · skip
      exfalso; omega
    · skip
      refine lv_iconst (v := iZ ((1 : Nat) : Int)) hx hb d_L_law_338 (by decide) ?_
      refine lv_goto (tgt := 343) hx hb d_L_law_339 (by decide) ?_
      refine W.eq (g2 := F0 m 343 ls [.int (bI (true)), .int (iZ ((sh : Nat) : Int)), .ref (ad 19)]) rfl ?_
      refine z_ki (z_runV (As := [.int (iZ ((sh : Nat) : Int)), .int (bI (true))]) (rest := []) zTB Z (k_M_out0 hI hM (sh := sh) (on := true) hsh) ⟨ml_L_112, im_M_out, se_M_out, ini_M, co_M_out⟩ zd_M_out ⟨Nat.le_of_ble_eq_true rfl, Nat.le_of_ble_eq_true rfl⟩ hP hK hD (ci := 5) (q0 := 19) rfl rfl rfl hl.1 rfl (Nat.le_of_ble_eq_true rfl) d_L_law_343 ⟨hc.1, hc.2⟩) hD hS hA (fun r9 w9 H locs hp9 hP hD hS => ?_)
      obtain ⟨M1, rfl, rfl, hc1, hM1⟩ := hp9
      have hP : va_P D classes (wdC ad cI cZ cL (sLO J sh true) rd pr G K (wdM ad cI cZ cL (sLO J sh true) rd pr M1 (oU ov (lZ (((if (jou J sh != true) = true then 1 else 0 : Nat)) : Int))))) H := hP
      have hD : va_D A (wdC ad cI cZ cL (sLO J sh true) rd pr G K (wdM ad cI cZ cL (sLO J sh true) rd pr M1 (oU ov (lZ (((if (jou J sh != true) = true then 1 else 0 : Nat)) : Int))))) := hD
      refine W.eq (g2 := F0 m 346 ls [.int (bI (jou J sh != true))]) rfl ?_
      refine lv_istore (lv' := [(6, .int (bI (jou J sh != true))), (5, .int (iZ ((0 : Nat) : Int))), (4, .int (iZ ((i : Nat) : Int))), (0, .ref (sb)), (1, .ref (ad 0)), (2, .ref (ad 19)), (3, .ref (ad 33))]) hx hb d_L_law_346 hl (by decide) rfl (fun ls hl => ?_)
      refine lv_aload_n hx hb d_L_law_348 rfl (lv_at hl 5 rfl) ?_
      refine z_callVR (As := []) (rest := []) zTB Z (k_M_thrown) ⟨ml_L_101, im_M_thrown, se_M_thrown, ini_M, co_M_thrown⟩ zd_M_thrown ⟨Nat.le_of_ble_eq_true rfl, Nat.le_of_ble_eq_true rfl⟩ hP hK (ci := 5) (q0 := 19) rfl rfl rfl hl.1 rfl (Nat.le_of_ble_eq_true rfl) d_L_law_349 ⟨hc.1, hc.2⟩ ?_
      refine W.eq (g2 := F0 m 352 ls [.int (iZ ((M1.1 : Nat) : Int))]) rfl ?_
      refine z_topZ (b := ((0 : Nat) : Int)) (by rw [hc1]) ?_
      refine lv_iload hx hb d_L_law_352 (lv_at hl 1 rfl) ?_
      refine z_icmp_eq (a := ((0 : Nat) : Int)) (b := ((0 : Nat) : Int)) (tgt := 359) hx hb (by omega) d_L_law_354 (by decide) (fun q354 => ?_) (fun q354 => ?_)
      · skip
        refine lv_iload hx hb d_L_law_359 (lv_at hl 1 rfl) ?_
        refine z_if_ne (a := ((0 : Nat) : Int)) (tgt := 383) hx hb (by omega) d_L_law_361 (by decide) (fun q361 => ?_) (fun q361 => ?_)
        · skip
          exfalso; omega
        · skip
          refine lv_aload_n hx hb d_L_law_364 rfl (lv_at hl 6 rfl) ?_
          refine lv_iconst (v := iZ ((0 : Nat) : Int)) hx hb d_L_law_365 (by decide) ?_
          refine z_old (x := lZ (((if (jou J sh != true) = true then 1 else 0 : Nat)) : Int)) hx hb hK hP 33 2 rfl rfl d_L_law_366 ?_
          refine lv_iload hx hb d_L_law_367 (lv_at hl 0 rfl) ?_
          refine z_if_eqB (b := jou J sh != true) (tgt := 376) hx hb d_L_law_369 (by decide) (fun q369 => ?_) (fun q369 => ?_)
          · skip
            refine lv_lconst (v := lZ ((0 : Nat) : Int)) hx hb d_L_law_376 (by decide) ?_
            refine z_lcmpR_eq (tgt := 383) (pc1 := 378) (pc4 := 381) hx hb d_L_law_377 rfl rfl d_L_law_378 (by decide) (fun q377 => ?_) (fun q377 => ?_)
            · skip
              refine lv_goto (tgt := 1598) hx hb d_L_law_383 (by decide) ?_
              exact kk (sLO J sh true) _ _ _ _ _ _ H locs ls ⟨hI, hM1, hR, hpq⟩ hP hD hS (lv_sub hl [2, 3, 4, 5, 6] rfl)
            · skip
              exact absurd (by rw [q369]; rfl) q377
          · skip
            refine lv_lconst (v := lZ ((1 : Nat) : Int)) hx hb d_L_law_372 (by decide) ?_
            refine lv_goto (tgt := 377) hx hb d_L_law_373 (by decide) ?_
            refine z_lcmpR_eq (tgt := 383) (pc1 := 378) (pc4 := 381) hx hb d_L_law_377 rfl rfl d_L_law_378 (by decide) (fun q377 => ?_) (fun q377 => ?_)
            · skip
              refine lv_goto (tgt := 1598) hx hb d_L_law_383 (by decide) ?_
              exact kk (sLO J sh true) _ _ _ _ _ _ H locs ls ⟨hI, hM1, hR, hpq⟩ hP hD hS (lv_sub hl [2, 3, 4, 5, 6] rfl)
            · skip
              exact absurd (by rw [q369]; rfl) q377
      · skip
        exfalso; omega

set_option maxHeartbeats 4000000 in
set_option maxRecDepth 100000 in
theorem lf_out_0false {p : Program} {l : Launch} {e : Env} {s : State} {m : MethodId} {below : List Frame} {meth : Method} {c : Code} {Q : State → Prop} {sb L : Nat} {xs : Nat → Int32} {D : va_G} {A : Nat → Prop} {ad : Nat → Nat} {cI cZ cL : ClassId} {J : SJ} {rd : Nat → Int} {pr : Nat → Nat} {G : SH} {K : SK} {M : SM} {ov : Nat → Int64} {H : Heap} {locs : List Loc} {cells slots i : Nat} {ls : Array Slot} (X : LX p l s m meth c sb L xs D cI cZ cL A) (hLI : LI J rd pr M) (hi : i + 4 < L) (hc : cells + 1 ≤ 1061 ∧ slots + 6 ≤ 9679) {sh : Nat} {a2 : Int} (hsh : sh < 4) (hz2 : z32 a2 ∧ a2 = 0) (ha1 : xs (i + 1) = iZ ((sh : Nat) : Int)) (ha2 : xs (i + 2) = iZ (a2)) (hP : va_P D classes (wdC ad cI cZ cL J rd pr G K (wdM ad cI cZ cL J rd pr M ov)) H) (hD : va_D A (wdC ad cI cZ cL J rd pr G K (wdM ad cI cZ cL J rd pr M ov))) (hS : va_S A s.heap H locs) (hl : lv_has ls 8 (lwL ad sb i)) (kk : LK p l e s m below meth c Q sb D A ad cI cZ cL i (cells + 1) (slots + 6)) : W p l e room_1 s m #[Value.ref sb] below meth c H locs cells slots Q (F0 m 295 ls []) := by
  obtain ⟨hl0, Z, hX, hbl, hK, hA, hbA, hTT, hSt, hL⟩ := X
  obtain ⟨hI, hM, hR, hpq⟩ := hLI
  obtain ⟨hx, hb, hr, hml, hown, hts, hE, hlocks⟩ := id Z
  have hn32 := hI.1
  have hk32 := hI.2.1
  have hl : lv_has ls 8 [(4, .int (iZ ((i : Nat) : Int))), (0, .ref (sb)), (1, .ref (ad 0)), (2, .ref (ad 19)), (3, .ref (ad 33))] := hl
  refine lv_aload_n hx hb d_L_law_295 rfl (lv_at hl 2 rfl) ?_
  refine lv_aload_n hx hb d_L_law_296 rfl (lv_at hl 1 rfl) ?_
  refine lv_iload hx hb d_L_law_297 (lv_at hl 0 rfl) ?_
  refine lv_iconst (v := iZ ((1 : Nat) : Int)) hx hb d_L_law_299 (by decide) ?_
  refine z_iaddN (u := i) (v := 1) hx hb d_L_law_300 ?_
  refine z_sld (v := iZ ((sh : Nat) : Int)) hx hb hX hbl hbA hS (i + 1) (by omega) ha1 d_L_law_301 ?_
  refine lv_aload_n hx hb d_L_law_302 rfl (lv_at hl 1 rfl) ?_
  refine lv_iload hx hb d_L_law_303 (lv_at hl 0 rfl) ?_
  refine lv_iconst (v := iZ ((2 : Nat) : Int)) hx hb d_L_law_305 (by decide) ?_
  refine z_iaddN (u := i) (v := 2) hx hb d_L_law_306 ?_
  refine z_sld (v := iZ (a2)) hx hb hX hbl hbA hS (i + 2) (by omega) ha2 d_L_law_307 ?_
  refine z_if_eq (a := a2) (tgt := 315) hx hb (by omega) d_L_law_308 (by decide) (fun q308 => ?_) (fun q308 => ?_)
  · skip
    refine lv_iconst (v := iZ ((0 : Nat) : Int)) hx hb d_L_law_315 (by decide) ?_
    refine lv_aload_n hx hb d_L_law_316 rfl (lv_at hl 4 rfl) ?_
    refine W.eq (g2 := F0 m 317 ls [.ref (ad 33), .int (bI (false)), .int (iZ ((sh : Nat) : Int)), .ref (ad 0)]) rfl ?_
    refine z_kiW (z_runSW (As := [.ref (ad 0), .int (iZ ((sh : Nat) : Int)), .int (bI (false)), .ref (ad 33)]) (rest := []) Z (k_L_out0 hI (sh := sh) (on := false) hsh) ⟨ml_L_109, sm_L_out, ini_L, co_L_out⟩ zd_L_out ⟨Nat.le_of_ble_eq_true rfl, Nat.le_of_ble_eq_true rfl⟩ hP hK hD (hTT _ _ hS) hSt hl.1 rfl (Nat.le_of_ble_eq_true rfl) d_L_law_317 ⟨hc.1, hc.2⟩) hD hS hA (fun r9 w9 H locs hp9 hP hD hS => ?_)
    obtain ⟨rfl, rfl⟩ := hp9
    have hP : va_P D classes (wdC ad cI cZ cL (sLO J sh false) rd pr G K (wdM ad cI cZ cL J rd pr M (oU ov (lZ (((if (jou J sh != false) = true then 1 else 0 : Nat)) : Int))))) H := hP
    have hD : va_D A (wdC ad cI cZ cL (sLO J sh false) rd pr G K (wdM ad cI cZ cL J rd pr M (oU ov (lZ (((if (jou J sh != false) = true then 1 else 0 : Nat)) : Int))))) := hD
    refine W.eq (g2 := F0 m 320 ls [.int (iZ ((0 : Nat) : Int))]) rfl ?_
    refine lv_istore (lv' := [(5, .int (iZ ((0 : Nat) : Int))), (4, .int (iZ ((i : Nat) : Int))), (0, .ref (sb)), (1, .ref (ad 0)), (2, .ref (ad 19)), (3, .ref (ad 33))]) hx hb d_L_law_320 hl (by decide) rfl (fun ls hl => ?_)
    refine lv_aload_n hx hb d_L_law_322 rfl (lv_at hl 4 rfl) ?_
    refine lv_aload_n hx hb d_L_law_323 rfl (lv_at hl 2 rfl) ?_
    refine lv_iload hx hb d_L_law_324 (lv_at hl 1 rfl) ?_
    refine lv_iconst (v := iZ ((1 : Nat) : Int)) hx hb d_L_law_326 (by decide) ?_
    refine z_iaddN (u := i) (v := 1) hx hb d_L_law_327 ?_
    refine z_sld (v := iZ ((sh : Nat) : Int)) hx hb hX hbl hbA hS (i + 1) (by omega) ha1 d_L_law_328 ?_
    refine lv_aload_n hx hb d_L_law_329 rfl (lv_at hl 2 rfl) ?_
    refine lv_iload hx hb d_L_law_330 (lv_at hl 1 rfl) ?_
    refine lv_iconst (v := iZ ((2 : Nat) : Int)) hx hb d_L_law_332 (by decide) ?_
    refine z_iaddN (u := i) (v := 2) hx hb d_L_law_333 ?_
    refine z_sld (v := iZ (a2)) hx hb hX hbl hbA hS (i + 2) (by omega) ha2 d_L_law_334 ?_
    refine z_if_eq (a := a2) (tgt := 342) hx hb (by omega) d_L_law_335 (by decide) (fun q335 => ?_) (fun q335 => ?_)
    · skip
      refine lv_iconst (v := iZ ((0 : Nat) : Int)) hx hb d_L_law_342 (by decide) ?_
      refine W.eq (g2 := F0 m 343 ls [.int (bI (false)), .int (iZ ((sh : Nat) : Int)), .ref (ad 19)]) rfl ?_
      refine z_ki (z_runV (As := [.int (iZ ((sh : Nat) : Int)), .int (bI (false))]) (rest := []) zTB Z (k_M_out0 hI hM (sh := sh) (on := false) hsh) ⟨ml_L_112, im_M_out, se_M_out, ini_M, co_M_out⟩ zd_M_out ⟨Nat.le_of_ble_eq_true rfl, Nat.le_of_ble_eq_true rfl⟩ hP hK hD (ci := 5) (q0 := 19) rfl rfl rfl hl.1 rfl (Nat.le_of_ble_eq_true rfl) d_L_law_343 ⟨hc.1, hc.2⟩) hD hS hA (fun r9 w9 H locs hp9 hP hD hS => ?_)
      obtain ⟨M1, rfl, rfl, hc1, hM1⟩ := hp9
      have hP : va_P D classes (wdC ad cI cZ cL (sLO J sh false) rd pr G K (wdM ad cI cZ cL (sLO J sh false) rd pr M1 (oU ov (lZ (((if (jou J sh != false) = true then 1 else 0 : Nat)) : Int))))) H := hP
      have hD : va_D A (wdC ad cI cZ cL (sLO J sh false) rd pr G K (wdM ad cI cZ cL (sLO J sh false) rd pr M1 (oU ov (lZ (((if (jou J sh != false) = true then 1 else 0 : Nat)) : Int))))) := hD
      refine W.eq (g2 := F0 m 346 ls [.int (bI (jou J sh != false))]) rfl ?_
      refine lv_istore (lv' := [(6, .int (bI (jou J sh != false))), (5, .int (iZ ((0 : Nat) : Int))), (4, .int (iZ ((i : Nat) : Int))), (0, .ref (sb)), (1, .ref (ad 0)), (2, .ref (ad 19)), (3, .ref (ad 33))]) hx hb d_L_law_346 hl (by decide) rfl (fun ls hl => ?_)
      refine lv_aload_n hx hb d_L_law_348 rfl (lv_at hl 5 rfl) ?_
      refine z_callVR (As := []) (rest := []) zTB Z (k_M_thrown) ⟨ml_L_101, im_M_thrown, se_M_thrown, ini_M, co_M_thrown⟩ zd_M_thrown ⟨Nat.le_of_ble_eq_true rfl, Nat.le_of_ble_eq_true rfl⟩ hP hK (ci := 5) (q0 := 19) rfl rfl rfl hl.1 rfl (Nat.le_of_ble_eq_true rfl) d_L_law_349 ⟨hc.1, hc.2⟩ ?_
      refine W.eq (g2 := F0 m 352 ls [.int (iZ ((M1.1 : Nat) : Int))]) rfl ?_
      refine z_topZ (b := ((0 : Nat) : Int)) (by rw [hc1]) ?_
      refine lv_iload hx hb d_L_law_352 (lv_at hl 1 rfl) ?_
      refine z_icmp_eq (a := ((0 : Nat) : Int)) (b := ((0 : Nat) : Int)) (tgt := 359) hx hb (by omega) d_L_law_354 (by decide) (fun q354 => ?_) (fun q354 => ?_)
      · skip
        refine lv_iload hx hb d_L_law_359 (lv_at hl 1 rfl) ?_
        refine z_if_ne (a := ((0 : Nat) : Int)) (tgt := 383) hx hb (by omega) d_L_law_361 (by decide) (fun q361 => ?_) (fun q361 => ?_)
        · skip
          exfalso; omega
        · skip
          refine lv_aload_n hx hb d_L_law_364 rfl (lv_at hl 6 rfl) ?_
          refine lv_iconst (v := iZ ((0 : Nat) : Int)) hx hb d_L_law_365 (by decide) ?_
          refine z_old (x := lZ (((if (jou J sh != false) = true then 1 else 0 : Nat)) : Int)) hx hb hK hP 33 2 rfl rfl d_L_law_366 ?_
          refine lv_iload hx hb d_L_law_367 (lv_at hl 0 rfl) ?_
          refine z_if_eqB (b := jou J sh != false) (tgt := 376) hx hb d_L_law_369 (by decide) (fun q369 => ?_) (fun q369 => ?_)
          · skip
            refine lv_lconst (v := lZ ((0 : Nat) : Int)) hx hb d_L_law_376 (by decide) ?_
            refine z_lcmpR_eq (tgt := 383) (pc1 := 378) (pc4 := 381) hx hb d_L_law_377 rfl rfl d_L_law_378 (by decide) (fun q377 => ?_) (fun q377 => ?_)
            · skip
              refine lv_goto (tgt := 1598) hx hb d_L_law_383 (by decide) ?_
              exact kk (sLO J sh false) _ _ _ _ _ _ H locs ls ⟨hI, hM1, hR, hpq⟩ hP hD hS (lv_sub hl [2, 3, 4, 5, 6] rfl)
            · skip
              exact absurd (by rw [q369]; rfl) q377
          · skip
            refine lv_lconst (v := lZ ((1 : Nat) : Int)) hx hb d_L_law_372 (by decide) ?_
            refine lv_goto (tgt := 377) hx hb d_L_law_373 (by decide) ?_
            refine z_lcmpR_eq (tgt := 383) (pc1 := 378) (pc4 := 381) hx hb d_L_law_377 rfl rfl d_L_law_378 (by decide) (fun q377 => ?_) (fun q377 => ?_)
            · skip
              refine lv_goto (tgt := 1598) hx hb d_L_law_383 (by decide) ?_
              exact kk (sLO J sh false) _ _ _ _ _ _ H locs ls ⟨hI, hM1, hR, hpq⟩ hP hD hS (lv_sub hl [2, 3, 4, 5, 6] rfl)
            · skip
              exact absurd (by rw [q369]; rfl) q377
      · skip
        exfalso; omega
    · skip
      exfalso; omega
  · skip
    exfalso; omega

set_option maxHeartbeats 4000000 in
set_option maxRecDepth 100000 in
theorem lf_arm_x1 {p : Program} {l : Launch} {e : Env} {s : State} {m : MethodId} {below : List Frame} {meth : Method} {c : Code} {Q : State → Prop} {sb L : Nat} {xs : Nat → Int32} {D : va_G} {A : Nat → Prop} {ad : Nat → Nat} {cI cZ cL : ClassId} {J : SJ} {rd : Nat → Int} {pr : Nat → Nat} {G : SH} {K : SK} {M : SM} {ov : Nat → Int64} {H : Heap} {locs : List Loc} {cells slots i : Nat} {ls : Array Slot} (X : LX p l s m meth c sb L xs D cI cZ cL A) (hLI : LI J rd pr M) (hi : i + 4 < L) (hc : cells + 1 ≤ 1061 ∧ slots + 6 ≤ 9679) {a : Int} (h : z32 a ∧ (a < 0 ∨ ((jn J : Nat) : Int) ≤ a)) (ha1 : xs (i + 1) = iZ (a)) (hP : va_P D classes (wdC ad cI cZ cL J rd pr G K (wdM ad cI cZ cL J rd pr M ov)) H) (hD : va_D A (wdC ad cI cZ cL J rd pr G K (wdM ad cI cZ cL J rd pr M ov))) (hS : va_S A s.heap H locs) (hl : lv_has ls 8 (lwL ad sb i)) (kk : LK p l e s m below meth c Q sb D A ad cI cZ cL i (cells + 1) (slots + 6)) : W p l e room_1 s m #[Value.ref sb] below meth c H locs cells slots Q (F0 m 386 ls []) := by
  obtain ⟨hl0, Z, hX, hbl, hK, hA, hbA, hTT, hSt, hL⟩ := X
  obtain ⟨hI, hM, hR, hpq⟩ := hLI
  obtain ⟨hx, hb, hr, hml, hown, hts, hE, hlocks⟩ := id Z
  have hn32 := hI.1
  have hk32 := hI.2.1
  have hl : lv_has ls 8 [(4, .int (iZ ((i : Nat) : Int))), (0, .ref (sb)), (1, .ref (ad 0)), (2, .ref (ad 19)), (3, .ref (ad 33))] := hl
  refine lv_aload_n hx hb d_L_law_386 rfl (lv_at hl 2 rfl) ?_
  refine lv_aload_n hx hb d_L_law_387 rfl (lv_at hl 1 rfl) ?_
  refine lv_iload hx hb d_L_law_388 (lv_at hl 0 rfl) ?_
  refine lv_iconst (v := iZ ((1 : Nat) : Int)) hx hb d_L_law_390 (by decide) ?_
  refine z_iaddN (u := i) (v := 1) hx hb d_L_law_391 ?_
  refine z_sld (v := iZ (a)) hx hb hX hbl hbA hS (i + 1) (by omega) ha1 d_L_law_392 ?_
  refine lv_aload_n hx hb d_L_law_393 rfl (lv_at hl 4 rfl) ?_
  refine z_kiW (z_runSW (As := [.ref (ad 0), .int (iZ (a)), .ref (ad 33)]) (rest := []) Z (k_L_armx1 hl0 hI (a := a) h) ⟨ml_L_113, sm_L_arm, ini_L, co_L_arm⟩ zd_L_arm ⟨Nat.le_of_ble_eq_true rfl, Nat.le_of_ble_eq_true rfl⟩ hP hK hD (hTT _ _ hS) hSt hl.1 rfl (Nat.le_of_ble_eq_true rfl) d_L_law_394 ⟨hc.1, hc.2⟩) hD hS hA (fun r9 w9 H locs hp9 hP hD hS => ?_)
  obtain ⟨rfl, rfl⟩ := hp9
  have hP : va_P D classes (wdC ad cI cZ cL J rd pr G K (wdM ad cI cZ cL J rd pr M ov)) H := hP
  have hD : va_D A (wdC ad cI cZ cL J rd pr G K (wdM ad cI cZ cL J rd pr M ov)) := hD
  refine W.eq (g2 := F0 m 397 ls [.int (iZ ((1 : Nat) : Int))]) rfl ?_
  refine lv_istore (lv' := [(5, .int (iZ ((1 : Nat) : Int))), (4, .int (iZ ((i : Nat) : Int))), (0, .ref (sb)), (1, .ref (ad 0)), (2, .ref (ad 19)), (3, .ref (ad 33))]) hx hb d_L_law_397 hl (by decide) rfl (fun ls hl => ?_)
  refine lv_aload_n hx hb d_L_law_399 rfl (lv_at hl 4 rfl) ?_
  refine lv_aload_n hx hb d_L_law_400 rfl (lv_at hl 2 rfl) ?_
  refine lv_iload hx hb d_L_law_401 (lv_at hl 1 rfl) ?_
  refine lv_iconst (v := iZ ((1 : Nat) : Int)) hx hb d_L_law_403 (by decide) ?_
  refine z_iaddN (u := i) (v := 1) hx hb d_L_law_404 ?_
  refine z_sld (v := iZ (a)) hx hb hX hbl hbA hS (i + 1) (by omega) ha1 d_L_law_405 ?_
  refine z_ki (z_runV (As := [.int (iZ (a))]) (rest := []) zTB Z (k_M_armx1 hI hM (a := a) h) ⟨ml_L_115, im_M_arm, se_M_arm, ini_M, co_M_arm⟩ zd_M_arm ⟨Nat.le_of_ble_eq_true rfl, Nat.le_of_ble_eq_true rfl⟩ hP hK hD (ci := 5) (q0 := 19) rfl rfl rfl hl.1 rfl (Nat.le_of_ble_eq_true rfl) d_L_law_406 ⟨hc.1, hc.2⟩) hD hS hA (fun r9 w9 H locs hp9 hP hD hS => ?_)
  obtain ⟨M1, rfl, hc1, hM1⟩ := hp9
  have hP : va_P D classes (wdC ad cI cZ cL J rd pr G K (wdM ad cI cZ cL J rd pr M1 ov)) H := hP
  have hD : va_D A (wdC ad cI cZ cL J rd pr G K (wdM ad cI cZ cL J rd pr M1 ov)) := hD
  refine W.eq (g2 := F0 m 409 ls [.int (r9)]) rfl ?_
  refine lv_istore (lv' := [(6, .int (r9)), (5, .int (iZ ((1 : Nat) : Int))), (4, .int (iZ ((i : Nat) : Int))), (0, .ref (sb)), (1, .ref (ad 0)), (2, .ref (ad 19)), (3, .ref (ad 33))]) hx hb d_L_law_409 hl (by decide) rfl (fun ls hl => ?_)
  refine lv_aload_n hx hb d_L_law_411 rfl (lv_at hl 5 rfl) ?_
  refine z_callVR (As := []) (rest := []) zTB Z (k_M_thrown) ⟨ml_L_101, im_M_thrown, se_M_thrown, ini_M, co_M_thrown⟩ zd_M_thrown ⟨Nat.le_of_ble_eq_true rfl, Nat.le_of_ble_eq_true rfl⟩ hP hK (ci := 5) (q0 := 19) rfl rfl rfl hl.1 rfl (Nat.le_of_ble_eq_true rfl) d_L_law_412 ⟨hc.1, hc.2⟩ ?_
  refine W.eq (g2 := F0 m 415 ls [.int (iZ ((M1.1 : Nat) : Int))]) rfl ?_
  refine z_topZ (b := ((1 : Nat) : Int)) (by rw [hc1]) ?_
  refine lv_iload hx hb d_L_law_415 (lv_at hl 1 rfl) ?_
  refine z_icmp_eq (a := ((1 : Nat) : Int)) (b := ((1 : Nat) : Int)) (tgt := 422) hx hb (by omega) d_L_law_417 (by decide) (fun q417 => ?_) (fun q417 => ?_)
  · skip
    refine lv_iload hx hb d_L_law_422 (lv_at hl 1 rfl) ?_
    refine z_if_ne (a := ((1 : Nat) : Int)) (tgt := 439) hx hb (by omega) d_L_law_424 (by decide) (fun q424 => ?_) (fun q424 => ?_)
    · skip
      refine lv_goto (tgt := 1598) hx hb d_L_law_439 (by decide) ?_
      exact kk J _ _ _ _ _ _ H locs ls ⟨hI, hM1, hR, hpq⟩ hP hD hS (lv_sub hl [2, 3, 4, 5, 6] rfl)
    · skip
      exfalso; omega
  · skip
    exfalso; omega

set_option maxHeartbeats 4000000 in
set_option maxRecDepth 100000 in
theorem lf_arm_0 {p : Program} {l : Launch} {e : Env} {s : State} {m : MethodId} {below : List Frame} {meth : Method} {c : Code} {Q : State → Prop} {sb L : Nat} {xs : Nat → Int32} {D : va_G} {A : Nat → Prop} {ad : Nat → Nat} {cI cZ cL : ClassId} {J : SJ} {rd : Nat → Int} {pr : Nat → Nat} {G : SH} {K : SK} {M : SM} {ov : Nat → Int64} {H : Heap} {locs : List Loc} {cells slots i : Nat} {ls : Array Slot} (X : LX p l s m meth c sb L xs D cI cZ cL A) (hLI : LI J rd pr M) (hi : i + 4 < L) (hc : cells + 1 ≤ 1061 ∧ slots + 6 ≤ 9679) {h : Nat} (hh : h < jn J) (ha1 : xs (i + 1) = iZ ((h : Nat) : Int)) (hP : va_P D classes (wdC ad cI cZ cL J rd pr G K (wdM ad cI cZ cL J rd pr M ov)) H) (hD : va_D A (wdC ad cI cZ cL J rd pr G K (wdM ad cI cZ cL J rd pr M ov))) (hS : va_S A s.heap H locs) (hl : lv_has ls 8 (lwL ad sb i)) (kk : LK p l e s m below meth c Q sb D A ad cI cZ cL i (cells + 1) (slots + 6)) : W p l e room_1 s m #[Value.ref sb] below meth c H locs cells slots Q (F0 m 386 ls []) := by
  obtain ⟨hl0, Z, hX, hbl, hK, hA, hbA, hTT, hSt, hL⟩ := X
  obtain ⟨hI, hM, hR, hpq⟩ := hLI
  obtain ⟨hx, hb, hr, hml, hown, hts, hE, hlocks⟩ := id Z
  have hn32 := hI.1
  have hk32 := hI.2.1
  have hl : lv_has ls 8 [(4, .int (iZ ((i : Nat) : Int))), (0, .ref (sb)), (1, .ref (ad 0)), (2, .ref (ad 19)), (3, .ref (ad 33))] := hl
  refine lv_aload_n hx hb d_L_law_386 rfl (lv_at hl 2 rfl) ?_
  refine lv_aload_n hx hb d_L_law_387 rfl (lv_at hl 1 rfl) ?_
  refine lv_iload hx hb d_L_law_388 (lv_at hl 0 rfl) ?_
  refine lv_iconst (v := iZ ((1 : Nat) : Int)) hx hb d_L_law_390 (by decide) ?_
  refine z_iaddN (u := i) (v := 1) hx hb d_L_law_391 ?_
  refine z_sld (v := iZ ((h : Nat) : Int)) hx hb hX hbl hbA hS (i + 1) (by omega) ha1 d_L_law_392 ?_
  refine lv_aload_n hx hb d_L_law_393 rfl (lv_at hl 4 rfl) ?_
  refine z_kiW (z_runSW (As := [.ref (ad 0), .int (iZ ((h : Nat) : Int)), .ref (ad 33)]) (rest := []) Z (k_L_arm0 hI (h := h) hh) ⟨ml_L_113, sm_L_arm, ini_L, co_L_arm⟩ zd_L_arm ⟨Nat.le_of_ble_eq_true rfl, Nat.le_of_ble_eq_true rfl⟩ hP hK hD (hTT _ _ hS) hSt hl.1 rfl (Nat.le_of_ble_eq_true rfl) d_L_law_394 ⟨hc.1, hc.2⟩) hD hS hA (fun r9 w9 H locs hp9 hP hD hS => ?_)
  obtain ⟨rfl, rfl⟩ := hp9
  have hP : va_P D classes (wdC ad cI cZ cL J rd pr G K (wdM ad cI cZ cL J rd pr M (oU ov ((iZ ((if jdv J h = true then 1 else 0 : Nat) : Int)).toInt64)))) H := hP
  have hD : va_D A (wdC ad cI cZ cL J rd pr G K (wdM ad cI cZ cL J rd pr M (oU ov ((iZ ((if jdv J h = true then 1 else 0 : Nat) : Int)).toInt64)))) := hD
  refine W.eq (g2 := F0 m 397 ls [.int (iZ ((0 : Nat) : Int))]) rfl ?_
  refine lv_istore (lv' := [(5, .int (iZ ((0 : Nat) : Int))), (4, .int (iZ ((i : Nat) : Int))), (0, .ref (sb)), (1, .ref (ad 0)), (2, .ref (ad 19)), (3, .ref (ad 33))]) hx hb d_L_law_397 hl (by decide) rfl (fun ls hl => ?_)
  refine lv_aload_n hx hb d_L_law_399 rfl (lv_at hl 4 rfl) ?_
  refine lv_aload_n hx hb d_L_law_400 rfl (lv_at hl 2 rfl) ?_
  refine lv_iload hx hb d_L_law_401 (lv_at hl 1 rfl) ?_
  refine lv_iconst (v := iZ ((1 : Nat) : Int)) hx hb d_L_law_403 (by decide) ?_
  refine z_iaddN (u := i) (v := 1) hx hb d_L_law_404 ?_
  refine z_sld (v := iZ ((h : Nat) : Int)) hx hb hX hbl hbA hS (i + 1) (by omega) ha1 d_L_law_405 ?_
  refine z_ki (z_runV (As := [.int (iZ ((h : Nat) : Int))]) (rest := []) zTB Z (k_M_arm0 hI hM hh) ⟨ml_L_115, im_M_arm, se_M_arm, ini_M, co_M_arm⟩ zd_M_arm ⟨Nat.le_of_ble_eq_true rfl, Nat.le_of_ble_eq_true rfl⟩ hP hK hD (ci := 5) (q0 := 19) rfl rfl rfl hl.1 rfl (Nat.le_of_ble_eq_true rfl) d_L_law_406 ⟨hc.1, hc.2⟩) hD hS hA (fun r9 w9 H locs hp9 hP hD hS => ?_)
  obtain ⟨M1, rfl, rfl, hc1, hM1⟩ := hp9
  have hP : va_P D classes (wdC ad cI cZ cL J rd pr G K (wdM ad cI cZ cL J rd pr M1 (oU ov ((iZ ((if jdv J h = true then 1 else 0 : Nat) : Int)).toInt64)))) H := hP
  have hD : va_D A (wdC ad cI cZ cL J rd pr G K (wdM ad cI cZ cL J rd pr M1 (oU ov ((iZ ((if jdv J h = true then 1 else 0 : Nat) : Int)).toInt64)))) := hD
  refine W.eq (g2 := F0 m 409 ls [.int (iZ ((if jdv J h = true then 1 else 0 : Nat) : Int))]) rfl ?_
  refine lv_istore (lv' := [(6, .int (iZ ((if jdv J h = true then 1 else 0 : Nat) : Int))), (5, .int (iZ ((0 : Nat) : Int))), (4, .int (iZ ((i : Nat) : Int))), (0, .ref (sb)), (1, .ref (ad 0)), (2, .ref (ad 19)), (3, .ref (ad 33))]) hx hb d_L_law_409 hl (by decide) rfl (fun ls hl => ?_)
  refine lv_aload_n hx hb d_L_law_411 rfl (lv_at hl 5 rfl) ?_
  refine z_callVR (As := []) (rest := []) zTB Z (k_M_thrown) ⟨ml_L_101, im_M_thrown, se_M_thrown, ini_M, co_M_thrown⟩ zd_M_thrown ⟨Nat.le_of_ble_eq_true rfl, Nat.le_of_ble_eq_true rfl⟩ hP hK (ci := 5) (q0 := 19) rfl rfl rfl hl.1 rfl (Nat.le_of_ble_eq_true rfl) d_L_law_412 ⟨hc.1, hc.2⟩ ?_
  refine W.eq (g2 := F0 m 415 ls [.int (iZ ((M1.1 : Nat) : Int))]) rfl ?_
  refine z_topZ (b := ((0 : Nat) : Int)) (by rw [hc1]) ?_
  refine lv_iload hx hb d_L_law_415 (lv_at hl 1 rfl) ?_
  refine z_icmp_eq (a := ((0 : Nat) : Int)) (b := ((0 : Nat) : Int)) (tgt := 422) hx hb (by omega) d_L_law_417 (by decide) (fun q417 => ?_) (fun q417 => ?_)
  · skip
    refine lv_iload hx hb d_L_law_422 (lv_at hl 1 rfl) ?_
    refine z_if_ne (a := ((0 : Nat) : Int)) (tgt := 439) hx hb (by omega) d_L_law_424 (by decide) (fun q424 => ?_) (fun q424 => ?_)
    · skip
      exfalso; omega
    · skip
      refine lv_aload_n hx hb d_L_law_427 rfl (lv_at hl 6 rfl) ?_
      refine lv_iconst (v := iZ ((0 : Nat) : Int)) hx hb d_L_law_428 (by decide) ?_
      refine z_old (x := (iZ ((if jdv J h = true then 1 else 0 : Nat) : Int)).toInt64) hx hb hK hP 33 2 rfl rfl d_L_law_429 ?_
      refine lv_iload hx hb d_L_law_430 (lv_at hl 0 rfl) ?_
      refine lv_i2l (v := (iZ ((if jdv J h = true then 1 else 0 : Nat) : Int)).toInt64) hx hb d_L_law_432 rfl ?_
      refine z_lcmpR_eq (tgt := 439) (pc1 := 434) (pc4 := 437) hx hb d_L_law_433 rfl rfl d_L_law_434 (by decide) (fun q433 => ?_) (fun q433 => ?_)
      · skip
        refine lv_goto (tgt := 1598) hx hb d_L_law_439 (by decide) ?_
        exact kk J _ _ _ _ _ _ H locs ls ⟨hI, hM1, hR, hpq⟩ hP hD hS (lv_sub hl [2, 3, 4, 5, 6] rfl)
      · skip
        exact absurd rfl q433
  · skip
    exfalso; omega

set_option maxHeartbeats 4000000 in
set_option maxRecDepth 100000 in
theorem lf_pair_x1 {p : Program} {l : Launch} {e : Env} {s : State} {m : MethodId} {below : List Frame} {meth : Method} {c : Code} {Q : State → Prop} {sb L : Nat} {xs : Nat → Int32} {D : va_G} {A : Nat → Prop} {ad : Nat → Nat} {cI cZ cL : ClassId} {J : SJ} {rd : Nat → Int} {pr : Nat → Nat} {G : SH} {K : SK} {M : SM} {ov : Nat → Int64} {H : Heap} {locs : List Loc} {cells slots i : Nat} {ls : Array Slot} (X : LX p l s m meth c sb L xs D cI cZ cL A) (hLI : LI J rd pr M) (hi : i + 4 < L) (hc : cells + 1 ≤ 1061 ∧ slots + 6 ≤ 9679) {a b : Int} (h : z32 a ∧ (a < 0 ∨ ((jk J : Nat) : Int) ≤ a)) (hz : z32 b) (ha1 : xs (i + 1) = iZ (a)) (ha2 : xs (i + 2) = iZ (b)) (hP : va_P D classes (wdC ad cI cZ cL J rd pr G K (wdM ad cI cZ cL J rd pr M ov)) H) (hD : va_D A (wdC ad cI cZ cL J rd pr G K (wdM ad cI cZ cL J rd pr M ov))) (hS : va_S A s.heap H locs) (hl : lv_has ls 8 (lwL ad sb i)) (kk : LK p l e s m below meth c Q sb D A ad cI cZ cL i (cells + 1) (slots + 6)) : W p l e room_1 s m #[Value.ref sb] below meth c H locs cells slots Q (F0 m 442 ls []) := by
  obtain ⟨hl0, Z, hX, hbl, hK, hA, hbA, hTT, hSt, hL⟩ := X
  obtain ⟨hI, hM, hR, hpq⟩ := hLI
  obtain ⟨hx, hb, hr, hml, hown, hts, hE, hlocks⟩ := id Z
  have hn32 := hI.1
  have hk32 := hI.2.1
  have hl : lv_has ls 8 [(4, .int (iZ ((i : Nat) : Int))), (0, .ref (sb)), (1, .ref (ad 0)), (2, .ref (ad 19)), (3, .ref (ad 33))] := hl
  refine lv_aload_n hx hb d_L_law_442 rfl (lv_at hl 2 rfl) ?_
  refine lv_aload_n hx hb d_L_law_443 rfl (lv_at hl 1 rfl) ?_
  refine lv_iload hx hb d_L_law_444 (lv_at hl 0 rfl) ?_
  refine lv_iconst (v := iZ ((1 : Nat) : Int)) hx hb d_L_law_446 (by decide) ?_
  refine z_iaddN (u := i) (v := 1) hx hb d_L_law_447 ?_
  refine z_sld (v := iZ (a)) hx hb hX hbl hbA hS (i + 1) (by omega) ha1 d_L_law_448 ?_
  refine lv_aload_n hx hb d_L_law_449 rfl (lv_at hl 1 rfl) ?_
  refine lv_iload hx hb d_L_law_450 (lv_at hl 0 rfl) ?_
  refine lv_iconst (v := iZ ((2 : Nat) : Int)) hx hb d_L_law_452 (by decide) ?_
  refine z_iaddN (u := i) (v := 2) hx hb d_L_law_453 ?_
  refine z_sld (v := iZ (b)) hx hb hX hbl hbA hS (i + 2) (by omega) ha2 d_L_law_454 ?_
  refine lv_aload_n hx hb d_L_law_455 rfl (lv_at hl 4 rfl) ?_
  refine z_kiW (z_runSW (As := [.ref (ad 0), .int (iZ (a)), .int (iZ (b)), .ref (ad 33)]) (rest := []) Z (k_L_pairx1 hl0 hI (a := a) (b := b) h) ⟨ml_L_116, sm_L_pair, ini_L, co_L_pair⟩ zd_L_pair ⟨Nat.le_of_ble_eq_true rfl, Nat.le_of_ble_eq_true rfl⟩ hP hK hD (hTT _ _ hS) hSt hl.1 rfl (Nat.le_of_ble_eq_true rfl) d_L_law_456 ⟨hc.1, hc.2⟩) hD hS hA (fun r9 w9 H locs hp9 hP hD hS => ?_)
  obtain ⟨rfl, rfl⟩ := hp9
  have hP : va_P D classes (wdC ad cI cZ cL J rd pr G K (wdM ad cI cZ cL J rd pr M ov)) H := hP
  have hD : va_D A (wdC ad cI cZ cL J rd pr G K (wdM ad cI cZ cL J rd pr M ov)) := hD
  refine W.eq (g2 := F0 m 459 ls [.int (iZ ((1 : Nat) : Int))]) rfl ?_
  refine lv_istore (lv' := [(5, .int (iZ ((1 : Nat) : Int))), (4, .int (iZ ((i : Nat) : Int))), (0, .ref (sb)), (1, .ref (ad 0)), (2, .ref (ad 19)), (3, .ref (ad 33))]) hx hb d_L_law_459 hl (by decide) rfl (fun ls hl => ?_)
  refine lv_aload_n hx hb d_L_law_461 rfl (lv_at hl 4 rfl) ?_
  refine lv_aload_n hx hb d_L_law_462 rfl (lv_at hl 2 rfl) ?_
  refine lv_iload hx hb d_L_law_463 (lv_at hl 1 rfl) ?_
  refine lv_iconst (v := iZ ((1 : Nat) : Int)) hx hb d_L_law_465 (by decide) ?_
  refine z_iaddN (u := i) (v := 1) hx hb d_L_law_466 ?_
  refine z_sld (v := iZ (a)) hx hb hX hbl hbA hS (i + 1) (by omega) ha1 d_L_law_467 ?_
  refine lv_aload_n hx hb d_L_law_468 rfl (lv_at hl 2 rfl) ?_
  refine lv_iload hx hb d_L_law_469 (lv_at hl 1 rfl) ?_
  refine lv_iconst (v := iZ ((2 : Nat) : Int)) hx hb d_L_law_471 (by decide) ?_
  refine z_iaddN (u := i) (v := 2) hx hb d_L_law_472 ?_
  refine z_sld (v := iZ (b)) hx hb hX hbl hbA hS (i + 2) (by omega) ha2 d_L_law_473 ?_
  refine z_ki (z_runV (As := [.int (iZ (a)), .int (iZ (b))]) (rest := []) zTB Z (k_M_pairx1 hI hM (a := a) (b := b) (by omega)) ⟨ml_L_119, im_M_pair, se_M_pair, ini_M, co_M_pair⟩ zd_M_pair ⟨Nat.le_of_ble_eq_true rfl, Nat.le_of_ble_eq_true rfl⟩ hP hK hD (ci := 5) (q0 := 19) rfl rfl rfl hl.1 rfl (Nat.le_of_ble_eq_true rfl) d_L_law_474 ⟨hc.1, hc.2⟩) hD hS hA (fun r9 w9 H locs hp9 hP hD hS => ?_)
  obtain ⟨M1, rfl, hc1, hM1⟩ := hp9
  have hP : va_P D classes (wdC ad cI cZ cL J rd pr G K (wdM ad cI cZ cL J rd pr M1 ov)) H := hP
  have hD : va_D A (wdC ad cI cZ cL J rd pr G K (wdM ad cI cZ cL J rd pr M1 ov)) := hD
  refine W.eq (g2 := F0 m 477 ls [.int (r9)]) rfl ?_
  refine lv_istore (lv' := [(6, .int (r9)), (5, .int (iZ ((1 : Nat) : Int))), (4, .int (iZ ((i : Nat) : Int))), (0, .ref (sb)), (1, .ref (ad 0)), (2, .ref (ad 19)), (3, .ref (ad 33))]) hx hb d_L_law_477 hl (by decide) rfl (fun ls hl => ?_)
  refine lv_aload_n hx hb d_L_law_479 rfl (lv_at hl 5 rfl) ?_
  refine z_callVR (As := []) (rest := []) zTB Z (k_M_thrown) ⟨ml_L_101, im_M_thrown, se_M_thrown, ini_M, co_M_thrown⟩ zd_M_thrown ⟨Nat.le_of_ble_eq_true rfl, Nat.le_of_ble_eq_true rfl⟩ hP hK (ci := 5) (q0 := 19) rfl rfl rfl hl.1 rfl (Nat.le_of_ble_eq_true rfl) d_L_law_480 ⟨hc.1, hc.2⟩ ?_
  refine W.eq (g2 := F0 m 483 ls [.int (iZ ((M1.1 : Nat) : Int))]) rfl ?_
  refine z_topZ (b := ((1 : Nat) : Int)) (by rw [hc1]) ?_
  refine lv_iload hx hb d_L_law_483 (lv_at hl 1 rfl) ?_
  refine z_icmp_eq (a := ((1 : Nat) : Int)) (b := ((1 : Nat) : Int)) (tgt := 490) hx hb (by omega) d_L_law_485 (by decide) (fun q485 => ?_) (fun q485 => ?_)
  · skip
    refine lv_iload hx hb d_L_law_490 (lv_at hl 1 rfl) ?_
    refine z_if_ne (a := ((1 : Nat) : Int)) (tgt := 507) hx hb (by omega) d_L_law_492 (by decide) (fun q492 => ?_) (fun q492 => ?_)
    · skip
      refine lv_goto (tgt := 1598) hx hb d_L_law_507 (by decide) ?_
      exact kk J _ _ _ _ _ _ H locs ls ⟨hI, hM1, hR, hpq⟩ hP hD hS (lv_sub hl [2, 3, 4, 5, 6] rfl)
    · skip
      exfalso; omega
  · skip
    exfalso; omega

set_option maxHeartbeats 4000000 in
set_option maxRecDepth 100000 in
theorem lf_pair_x2 {p : Program} {l : Launch} {e : Env} {s : State} {m : MethodId} {below : List Frame} {meth : Method} {c : Code} {Q : State → Prop} {sb L : Nat} {xs : Nat → Int32} {D : va_G} {A : Nat → Prop} {ad : Nat → Nat} {cI cZ cL : ClassId} {J : SJ} {rd : Nat → Int} {pr : Nat → Nat} {G : SH} {K : SK} {M : SM} {ov : Nat → Int64} {H : Heap} {locs : List Loc} {cells slots i : Nat} {ls : Array Slot} (X : LX p l s m meth c sb L xs D cI cZ cL A) (hLI : LI J rd pr M) (hi : i + 4 < L) (hc : cells + 1 ≤ 1061 ∧ slots + 6 ≤ 9679) {pp : Nat} {b : Int} (hp : pp < jk J) (h : z32 b ∧ (b < 0 ∨ 3 ≤ b)) (ha1 : xs (i + 1) = iZ ((pp : Nat) : Int)) (ha2 : xs (i + 2) = iZ (b)) (hP : va_P D classes (wdC ad cI cZ cL J rd pr G K (wdM ad cI cZ cL J rd pr M ov)) H) (hD : va_D A (wdC ad cI cZ cL J rd pr G K (wdM ad cI cZ cL J rd pr M ov))) (hS : va_S A s.heap H locs) (hl : lv_has ls 8 (lwL ad sb i)) (kk : LK p l e s m below meth c Q sb D A ad cI cZ cL i (cells + 1) (slots + 6)) : W p l e room_1 s m #[Value.ref sb] below meth c H locs cells slots Q (F0 m 442 ls []) := by
  obtain ⟨hl0, Z, hX, hbl, hK, hA, hbA, hTT, hSt, hL⟩ := X
  obtain ⟨hI, hM, hR, hpq⟩ := hLI
  obtain ⟨hx, hb, hr, hml, hown, hts, hE, hlocks⟩ := id Z
  have hn32 := hI.1
  have hk32 := hI.2.1
  have hl : lv_has ls 8 [(4, .int (iZ ((i : Nat) : Int))), (0, .ref (sb)), (1, .ref (ad 0)), (2, .ref (ad 19)), (3, .ref (ad 33))] := hl
  refine lv_aload_n hx hb d_L_law_442 rfl (lv_at hl 2 rfl) ?_
  refine lv_aload_n hx hb d_L_law_443 rfl (lv_at hl 1 rfl) ?_
  refine lv_iload hx hb d_L_law_444 (lv_at hl 0 rfl) ?_
  refine lv_iconst (v := iZ ((1 : Nat) : Int)) hx hb d_L_law_446 (by decide) ?_
  refine z_iaddN (u := i) (v := 1) hx hb d_L_law_447 ?_
  refine z_sld (v := iZ ((pp : Nat) : Int)) hx hb hX hbl hbA hS (i + 1) (by omega) ha1 d_L_law_448 ?_
  refine lv_aload_n hx hb d_L_law_449 rfl (lv_at hl 1 rfl) ?_
  refine lv_iload hx hb d_L_law_450 (lv_at hl 0 rfl) ?_
  refine lv_iconst (v := iZ ((2 : Nat) : Int)) hx hb d_L_law_452 (by decide) ?_
  refine z_iaddN (u := i) (v := 2) hx hb d_L_law_453 ?_
  refine z_sld (v := iZ (b)) hx hb hX hbl hbA hS (i + 2) (by omega) ha2 d_L_law_454 ?_
  refine lv_aload_n hx hb d_L_law_455 rfl (lv_at hl 4 rfl) ?_
  refine z_kiW (z_runSW (As := [.ref (ad 0), .int (iZ ((pp : Nat) : Int)), .int (iZ (b)), .ref (ad 33)]) (rest := []) Z (k_L_pairx2 hl0 hI (pp := pp) (b := b) hp h) ⟨ml_L_116, sm_L_pair, ini_L, co_L_pair⟩ zd_L_pair ⟨Nat.le_of_ble_eq_true rfl, Nat.le_of_ble_eq_true rfl⟩ hP hK hD (hTT _ _ hS) hSt hl.1 rfl (Nat.le_of_ble_eq_true rfl) d_L_law_456 ⟨hc.1, hc.2⟩) hD hS hA (fun r9 w9 H locs hp9 hP hD hS => ?_)
  obtain ⟨rfl, rfl⟩ := hp9
  have hP : va_P D classes (wdC ad cI cZ cL J rd pr G K (wdM ad cI cZ cL J rd pr M ov)) H := hP
  have hD : va_D A (wdC ad cI cZ cL J rd pr G K (wdM ad cI cZ cL J rd pr M ov)) := hD
  refine W.eq (g2 := F0 m 459 ls [.int (iZ ((1 : Nat) : Int))]) rfl ?_
  refine lv_istore (lv' := [(5, .int (iZ ((1 : Nat) : Int))), (4, .int (iZ ((i : Nat) : Int))), (0, .ref (sb)), (1, .ref (ad 0)), (2, .ref (ad 19)), (3, .ref (ad 33))]) hx hb d_L_law_459 hl (by decide) rfl (fun ls hl => ?_)
  refine lv_aload_n hx hb d_L_law_461 rfl (lv_at hl 4 rfl) ?_
  refine lv_aload_n hx hb d_L_law_462 rfl (lv_at hl 2 rfl) ?_
  refine lv_iload hx hb d_L_law_463 (lv_at hl 1 rfl) ?_
  refine lv_iconst (v := iZ ((1 : Nat) : Int)) hx hb d_L_law_465 (by decide) ?_
  refine z_iaddN (u := i) (v := 1) hx hb d_L_law_466 ?_
  refine z_sld (v := iZ ((pp : Nat) : Int)) hx hb hX hbl hbA hS (i + 1) (by omega) ha1 d_L_law_467 ?_
  refine lv_aload_n hx hb d_L_law_468 rfl (lv_at hl 2 rfl) ?_
  refine lv_iload hx hb d_L_law_469 (lv_at hl 1 rfl) ?_
  refine lv_iconst (v := iZ ((2 : Nat) : Int)) hx hb d_L_law_471 (by decide) ?_
  refine z_iaddN (u := i) (v := 2) hx hb d_L_law_472 ?_
  refine z_sld (v := iZ (b)) hx hb hX hbl hbA hS (i + 2) (by omega) ha2 d_L_law_473 ?_
  refine z_ki (z_runV (As := [.int (iZ ((pp : Nat) : Int)), .int (iZ (b))]) (rest := []) zTB Z (k_M_pairx1 hI hM (a := ((pp : Nat) : Int)) (b := b) (by omega)) ⟨ml_L_119, im_M_pair, se_M_pair, ini_M, co_M_pair⟩ zd_M_pair ⟨Nat.le_of_ble_eq_true rfl, Nat.le_of_ble_eq_true rfl⟩ hP hK hD (ci := 5) (q0 := 19) rfl rfl rfl hl.1 rfl (Nat.le_of_ble_eq_true rfl) d_L_law_474 ⟨hc.1, hc.2⟩) hD hS hA (fun r9 w9 H locs hp9 hP hD hS => ?_)
  obtain ⟨M1, rfl, hc1, hM1⟩ := hp9
  have hP : va_P D classes (wdC ad cI cZ cL J rd pr G K (wdM ad cI cZ cL J rd pr M1 ov)) H := hP
  have hD : va_D A (wdC ad cI cZ cL J rd pr G K (wdM ad cI cZ cL J rd pr M1 ov)) := hD
  refine W.eq (g2 := F0 m 477 ls [.int (r9)]) rfl ?_
  refine lv_istore (lv' := [(6, .int (r9)), (5, .int (iZ ((1 : Nat) : Int))), (4, .int (iZ ((i : Nat) : Int))), (0, .ref (sb)), (1, .ref (ad 0)), (2, .ref (ad 19)), (3, .ref (ad 33))]) hx hb d_L_law_477 hl (by decide) rfl (fun ls hl => ?_)
  refine lv_aload_n hx hb d_L_law_479 rfl (lv_at hl 5 rfl) ?_
  refine z_callVR (As := []) (rest := []) zTB Z (k_M_thrown) ⟨ml_L_101, im_M_thrown, se_M_thrown, ini_M, co_M_thrown⟩ zd_M_thrown ⟨Nat.le_of_ble_eq_true rfl, Nat.le_of_ble_eq_true rfl⟩ hP hK (ci := 5) (q0 := 19) rfl rfl rfl hl.1 rfl (Nat.le_of_ble_eq_true rfl) d_L_law_480 ⟨hc.1, hc.2⟩ ?_
  refine W.eq (g2 := F0 m 483 ls [.int (iZ ((M1.1 : Nat) : Int))]) rfl ?_
  refine z_topZ (b := ((1 : Nat) : Int)) (by rw [hc1]) ?_
  refine lv_iload hx hb d_L_law_483 (lv_at hl 1 rfl) ?_
  refine z_icmp_eq (a := ((1 : Nat) : Int)) (b := ((1 : Nat) : Int)) (tgt := 490) hx hb (by omega) d_L_law_485 (by decide) (fun q485 => ?_) (fun q485 => ?_)
  · skip
    refine lv_iload hx hb d_L_law_490 (lv_at hl 1 rfl) ?_
    refine z_if_ne (a := ((1 : Nat) : Int)) (tgt := 507) hx hb (by omega) d_L_law_492 (by decide) (fun q492 => ?_) (fun q492 => ?_)
    · skip
      refine lv_goto (tgt := 1598) hx hb d_L_law_507 (by decide) ?_
      exact kk J _ _ _ _ _ _ H locs ls ⟨hI, hM1, hR, hpq⟩ hP hD hS (lv_sub hl [2, 3, 4, 5, 6] rfl)
    · skip
      exfalso; omega
  · skip
    exfalso; omega

set_option maxHeartbeats 4000000 in
set_option maxRecDepth 100000 in
theorem lf_pair_0 {p : Program} {l : Launch} {e : Env} {s : State} {m : MethodId} {below : List Frame} {meth : Method} {c : Code} {Q : State → Prop} {sb L : Nat} {xs : Nat → Int32} {D : va_G} {A : Nat → Prop} {ad : Nat → Nat} {cI cZ cL : ClassId} {J : SJ} {rd : Nat → Int} {pr : Nat → Nat} {G : SH} {K : SK} {M : SM} {ov : Nat → Int64} {H : Heap} {locs : List Loc} {cells slots i : Nat} {ls : Array Slot} (X : LX p l s m meth c sb L xs D cI cZ cL A) (hLI : LI J rd pr M) (hi : i + 4 < L) (hc : cells + 1 ≤ 1061 ∧ slots + 6 ≤ 9679) {pp wh : Nat} (hp : pp < jk J) (hw : wh < 3) (ha1 : xs (i + 1) = iZ ((pp : Nat) : Int)) (ha2 : xs (i + 2) = iZ ((wh : Nat) : Int)) (hP : va_P D classes (wdC ad cI cZ cL J rd pr G K (wdM ad cI cZ cL J rd pr M ov)) H) (hD : va_D A (wdC ad cI cZ cL J rd pr G K (wdM ad cI cZ cL J rd pr M ov))) (hS : va_S A s.heap H locs) (hl : lv_has ls 8 (lwL ad sb i)) (kk : LK p l e s m below meth c Q sb D A ad cI cZ cL i (cells + 1) (slots + 6)) : W p l e room_1 s m #[Value.ref sb] below meth c H locs cells slots Q (F0 m 442 ls []) := by
  obtain ⟨hl0, Z, hX, hbl, hK, hA, hbA, hTT, hSt, hL⟩ := X
  obtain ⟨hI, hM, hR, hpq⟩ := hLI
  obtain ⟨hx, hb, hr, hml, hown, hts, hE, hlocks⟩ := id Z
  have hn32 := hI.1
  have hk32 := hI.2.1
  have hl : lv_has ls 8 [(4, .int (iZ ((i : Nat) : Int))), (0, .ref (sb)), (1, .ref (ad 0)), (2, .ref (ad 19)), (3, .ref (ad 33))] := hl
  refine lv_aload_n hx hb d_L_law_442 rfl (lv_at hl 2 rfl) ?_
  refine lv_aload_n hx hb d_L_law_443 rfl (lv_at hl 1 rfl) ?_
  refine lv_iload hx hb d_L_law_444 (lv_at hl 0 rfl) ?_
  refine lv_iconst (v := iZ ((1 : Nat) : Int)) hx hb d_L_law_446 (by decide) ?_
  refine z_iaddN (u := i) (v := 1) hx hb d_L_law_447 ?_
  refine z_sld (v := iZ ((pp : Nat) : Int)) hx hb hX hbl hbA hS (i + 1) (by omega) ha1 d_L_law_448 ?_
  refine lv_aload_n hx hb d_L_law_449 rfl (lv_at hl 1 rfl) ?_
  refine lv_iload hx hb d_L_law_450 (lv_at hl 0 rfl) ?_
  refine lv_iconst (v := iZ ((2 : Nat) : Int)) hx hb d_L_law_452 (by decide) ?_
  refine z_iaddN (u := i) (v := 2) hx hb d_L_law_453 ?_
  refine z_sld (v := iZ ((wh : Nat) : Int)) hx hb hX hbl hbA hS (i + 2) (by omega) ha2 d_L_law_454 ?_
  refine lv_aload_n hx hb d_L_law_455 rfl (lv_at hl 4 rfl) ?_
  refine z_kiW (z_runSW (As := [.ref (ad 0), .int (iZ ((pp : Nat) : Int)), .int (iZ ((wh : Nat) : Int)), .ref (ad 33)]) (rest := []) Z (k_L_pair0 hI (pp := pp) (wh := wh) hp hw) ⟨ml_L_116, sm_L_pair, ini_L, co_L_pair⟩ zd_L_pair ⟨Nat.le_of_ble_eq_true rfl, Nat.le_of_ble_eq_true rfl⟩ hP hK hD (hTT _ _ hS) hSt hl.1 rfl (Nat.le_of_ble_eq_true rfl) d_L_law_456 ⟨hc.1, hc.2⟩) hD hS hA (fun r9 w9 H locs hp9 hP hD hS => ?_)
  obtain ⟨rfl, rfl⟩ := hp9
  have hP : va_P D classes (wdC ad cI cZ cL J rd pr G K (wdM ad cI cZ cL J rd pr M (oU ov ((iZ ((sPr J pp wh : Nat) : Int)).toInt64)))) H := hP
  have hD : va_D A (wdC ad cI cZ cL J rd pr G K (wdM ad cI cZ cL J rd pr M (oU ov ((iZ ((sPr J pp wh : Nat) : Int)).toInt64)))) := hD
  refine W.eq (g2 := F0 m 459 ls [.int (iZ ((0 : Nat) : Int))]) rfl ?_
  refine lv_istore (lv' := [(5, .int (iZ ((0 : Nat) : Int))), (4, .int (iZ ((i : Nat) : Int))), (0, .ref (sb)), (1, .ref (ad 0)), (2, .ref (ad 19)), (3, .ref (ad 33))]) hx hb d_L_law_459 hl (by decide) rfl (fun ls hl => ?_)
  refine lv_aload_n hx hb d_L_law_461 rfl (lv_at hl 4 rfl) ?_
  refine lv_aload_n hx hb d_L_law_462 rfl (lv_at hl 2 rfl) ?_
  refine lv_iload hx hb d_L_law_463 (lv_at hl 1 rfl) ?_
  refine lv_iconst (v := iZ ((1 : Nat) : Int)) hx hb d_L_law_465 (by decide) ?_
  refine z_iaddN (u := i) (v := 1) hx hb d_L_law_466 ?_
  refine z_sld (v := iZ ((pp : Nat) : Int)) hx hb hX hbl hbA hS (i + 1) (by omega) ha1 d_L_law_467 ?_
  refine lv_aload_n hx hb d_L_law_468 rfl (lv_at hl 2 rfl) ?_
  refine lv_iload hx hb d_L_law_469 (lv_at hl 1 rfl) ?_
  refine lv_iconst (v := iZ ((2 : Nat) : Int)) hx hb d_L_law_471 (by decide) ?_
  refine z_iaddN (u := i) (v := 2) hx hb d_L_law_472 ?_
  refine z_sld (v := iZ ((wh : Nat) : Int)) hx hb hX hbl hbA hS (i + 2) (by omega) ha2 d_L_law_473 ?_
  refine z_ki (z_runV (As := [.int (iZ ((pp : Nat) : Int)), .int (iZ ((wh : Nat) : Int))]) (rest := []) zTB Z (k_M_pair0 hI hM hp hw) ⟨ml_L_119, im_M_pair, se_M_pair, ini_M, co_M_pair⟩ zd_M_pair ⟨Nat.le_of_ble_eq_true rfl, Nat.le_of_ble_eq_true rfl⟩ hP hK hD (ci := 5) (q0 := 19) rfl rfl rfl hl.1 rfl (Nat.le_of_ble_eq_true rfl) d_L_law_474 ⟨hc.1, hc.2⟩) hD hS hA (fun r9 w9 H locs hp9 hP hD hS => ?_)
  obtain ⟨M1, rfl, rfl, hc1, hM1⟩ := hp9
  have hP : va_P D classes (wdC ad cI cZ cL J rd pr G K (wdM ad cI cZ cL J rd pr M1 (oU ov ((iZ ((sPr J pp wh : Nat) : Int)).toInt64)))) H := hP
  have hD : va_D A (wdC ad cI cZ cL J rd pr G K (wdM ad cI cZ cL J rd pr M1 (oU ov ((iZ ((sPr J pp wh : Nat) : Int)).toInt64)))) := hD
  refine W.eq (g2 := F0 m 477 ls [.int (iZ ((sPr J pp wh : Nat) : Int))]) rfl ?_
  refine lv_istore (lv' := [(6, .int (iZ ((sPr J pp wh : Nat) : Int))), (5, .int (iZ ((0 : Nat) : Int))), (4, .int (iZ ((i : Nat) : Int))), (0, .ref (sb)), (1, .ref (ad 0)), (2, .ref (ad 19)), (3, .ref (ad 33))]) hx hb d_L_law_477 hl (by decide) rfl (fun ls hl => ?_)
  refine lv_aload_n hx hb d_L_law_479 rfl (lv_at hl 5 rfl) ?_
  refine z_callVR (As := []) (rest := []) zTB Z (k_M_thrown) ⟨ml_L_101, im_M_thrown, se_M_thrown, ini_M, co_M_thrown⟩ zd_M_thrown ⟨Nat.le_of_ble_eq_true rfl, Nat.le_of_ble_eq_true rfl⟩ hP hK (ci := 5) (q0 := 19) rfl rfl rfl hl.1 rfl (Nat.le_of_ble_eq_true rfl) d_L_law_480 ⟨hc.1, hc.2⟩ ?_
  refine W.eq (g2 := F0 m 483 ls [.int (iZ ((M1.1 : Nat) : Int))]) rfl ?_
  refine z_topZ (b := ((0 : Nat) : Int)) (by rw [hc1]) ?_
  refine lv_iload hx hb d_L_law_483 (lv_at hl 1 rfl) ?_
  refine z_icmp_eq (a := ((0 : Nat) : Int)) (b := ((0 : Nat) : Int)) (tgt := 490) hx hb (by omega) d_L_law_485 (by decide) (fun q485 => ?_) (fun q485 => ?_)
  · skip
    refine lv_iload hx hb d_L_law_490 (lv_at hl 1 rfl) ?_
    refine z_if_ne (a := ((0 : Nat) : Int)) (tgt := 507) hx hb (by omega) d_L_law_492 (by decide) (fun q492 => ?_) (fun q492 => ?_)
    · skip
      exfalso; omega
    · skip
      refine lv_aload_n hx hb d_L_law_495 rfl (lv_at hl 6 rfl) ?_
      refine lv_iconst (v := iZ ((0 : Nat) : Int)) hx hb d_L_law_496 (by decide) ?_
      refine z_old (x := (iZ ((sPr J pp wh : Nat) : Int)).toInt64) hx hb hK hP 33 2 rfl rfl d_L_law_497 ?_
      refine lv_iload hx hb d_L_law_498 (lv_at hl 0 rfl) ?_
      refine lv_i2l (v := (iZ ((sPr J pp wh : Nat) : Int)).toInt64) hx hb d_L_law_500 rfl ?_
      refine z_lcmpR_eq (tgt := 507) (pc1 := 502) (pc4 := 505) hx hb d_L_law_501 rfl rfl d_L_law_502 (by decide) (fun q501 => ?_) (fun q501 => ?_)
      · skip
        refine lv_goto (tgt := 1598) hx hb d_L_law_507 (by decide) ?_
        exact kk J _ _ _ _ _ _ H locs ls ⟨hI, hM1, hR, hpq⟩ hP hD hS (lv_sub hl [2, 3, 4, 5, 6] rfl)
      · skip
        exact absurd rfl q501
  · skip
    exfalso; omega

set_option maxHeartbeats 4000000 in
set_option maxRecDepth 100000 in
theorem lf_difference_x1 {p : Program} {l : Launch} {e : Env} {s : State} {m : MethodId} {below : List Frame} {meth : Method} {c : Code} {Q : State → Prop} {sb L : Nat} {xs : Nat → Int32} {D : va_G} {A : Nat → Prop} {ad : Nat → Nat} {cI cZ cL : ClassId} {J : SJ} {rd : Nat → Int} {pr : Nat → Nat} {G : SH} {K : SK} {M : SM} {ov : Nat → Int64} {H : Heap} {locs : List Loc} {cells slots i : Nat} {ls : Array Slot} (X : LX p l s m meth c sb L xs D cI cZ cL A) (hLI : LI J rd pr M) (hi : i + 4 < L) (hc : cells + 1 ≤ 1061 ∧ slots + 6 ≤ 9679) {a b : Int} (h : z32 a ∧ (a < 0 ∨ ((jk J : Nat) : Int) ≤ a)) (hz : z32 b) (ha1 : xs (i + 1) = iZ (a)) (ha2 : xs (i + 2) = iZ (b)) (hP : va_P D classes (wdC ad cI cZ cL J rd pr G K (wdM ad cI cZ cL J rd pr M ov)) H) (hD : va_D A (wdC ad cI cZ cL J rd pr G K (wdM ad cI cZ cL J rd pr M ov))) (hS : va_S A s.heap H locs) (hl : lv_has ls 8 (lwL ad sb i)) (kk : LK p l e s m below meth c Q sb D A ad cI cZ cL i (cells + 1) (slots + 6)) : W p l e room_1 s m #[Value.ref sb] below meth c H locs cells slots Q (F0 m 523 ls []) := by
  obtain ⟨hl0, Z, hX, hbl, hK, hA, hbA, hTT, hSt, hL⟩ := X
  obtain ⟨hI, hM, hR, hpq⟩ := hLI
  obtain ⟨hx, hb, hr, hml, hown, hts, hE, hlocks⟩ := id Z
  have hn32 := hI.1
  have hk32 := hI.2.1
  have hl : lv_has ls 8 [(4, .int (iZ ((i : Nat) : Int))), (0, .ref (sb)), (1, .ref (ad 0)), (2, .ref (ad 19)), (3, .ref (ad 33))] := hl
  refine lv_aload_n hx hb d_L_law_523 rfl (lv_at hl 2 rfl) ?_
  refine lv_aload_n hx hb d_L_law_524 rfl (lv_at hl 1 rfl) ?_
  refine lv_iload hx hb d_L_law_525 (lv_at hl 0 rfl) ?_
  refine lv_iconst (v := iZ ((1 : Nat) : Int)) hx hb d_L_law_527 (by decide) ?_
  refine z_iaddN (u := i) (v := 1) hx hb d_L_law_528 ?_
  refine z_sld (v := iZ (a)) hx hb hX hbl hbA hS (i + 1) (by omega) ha1 d_L_law_529 ?_
  refine lv_aload_n hx hb d_L_law_530 rfl (lv_at hl 1 rfl) ?_
  refine lv_iload hx hb d_L_law_531 (lv_at hl 0 rfl) ?_
  refine lv_iconst (v := iZ ((2 : Nat) : Int)) hx hb d_L_law_533 (by decide) ?_
  refine z_iaddN (u := i) (v := 2) hx hb d_L_law_534 ?_
  refine z_sld (v := iZ (b)) hx hb hX hbl hbA hS (i + 2) (by omega) ha2 d_L_law_535 ?_
  refine lv_aload_n hx hb d_L_law_536 rfl (lv_at hl 4 rfl) ?_
  refine z_kiW (z_runSW (As := [.ref (ad 0), .int (iZ (a)), .int (iZ (b)), .ref (ad 33)]) (rest := []) Z (k_L_differencex1 hl0 hI (a := a) (b := b) h) ⟨ml_L_124, sm_L_difference, ini_L, co_L_difference⟩ zd_L_difference ⟨Nat.le_of_ble_eq_true rfl, Nat.le_of_ble_eq_true rfl⟩ hP hK hD (hTT _ _ hS) hSt hl.1 rfl (Nat.le_of_ble_eq_true rfl) d_L_law_537 ⟨hc.1, hc.2⟩) hD hS hA (fun r9 w9 H locs hp9 hP hD hS => ?_)
  obtain ⟨rfl, rfl⟩ := hp9
  have hP : va_P D classes (wdC ad cI cZ cL J rd pr G K (wdM ad cI cZ cL J rd pr M ov)) H := hP
  have hD : va_D A (wdC ad cI cZ cL J rd pr G K (wdM ad cI cZ cL J rd pr M ov)) := hD
  refine W.eq (g2 := F0 m 540 ls [.int (iZ ((1 : Nat) : Int))]) rfl ?_
  refine lv_istore (lv' := [(5, .int (iZ ((1 : Nat) : Int))), (4, .int (iZ ((i : Nat) : Int))), (0, .ref (sb)), (1, .ref (ad 0)), (2, .ref (ad 19)), (3, .ref (ad 33))]) hx hb d_L_law_540 hl (by decide) rfl (fun ls hl => ?_)
  refine lv_aload_n hx hb d_L_law_542 rfl (lv_at hl 4 rfl) ?_
  refine lv_aload_n hx hb d_L_law_543 rfl (lv_at hl 2 rfl) ?_
  refine lv_iload hx hb d_L_law_544 (lv_at hl 1 rfl) ?_
  refine lv_iconst (v := iZ ((1 : Nat) : Int)) hx hb d_L_law_546 (by decide) ?_
  refine z_iaddN (u := i) (v := 1) hx hb d_L_law_547 ?_
  refine z_sld (v := iZ (a)) hx hb hX hbl hbA hS (i + 1) (by omega) ha1 d_L_law_548 ?_
  refine lv_aload_n hx hb d_L_law_549 rfl (lv_at hl 2 rfl) ?_
  refine lv_iload hx hb d_L_law_550 (lv_at hl 1 rfl) ?_
  refine lv_iconst (v := iZ ((2 : Nat) : Int)) hx hb d_L_law_552 (by decide) ?_
  refine z_iaddN (u := i) (v := 2) hx hb d_L_law_553 ?_
  refine z_sld (v := iZ (b)) hx hb hX hbl hbA hS (i + 2) (by omega) ha2 d_L_law_554 ?_
  refine z_ki (z_runV (As := [.int (iZ (a)), .int (iZ (b))]) (rest := []) zTB Z (k_M_differencex1 hI hM (a := a) (b := b) (by omega)) ⟨ml_L_126, im_M_difference, se_M_difference, ini_M, co_M_difference⟩ zd_M_difference ⟨Nat.le_of_ble_eq_true rfl, Nat.le_of_ble_eq_true rfl⟩ hP hK hD (ci := 5) (q0 := 19) rfl rfl rfl hl.1 rfl (Nat.le_of_ble_eq_true rfl) d_L_law_555 ⟨hc.1, hc.2⟩) hD hS hA (fun r9 w9 H locs hp9 hP hD hS => ?_)
  obtain ⟨M1, rfl, hc1, hM1⟩ := hp9
  have hP : va_P D classes (wdC ad cI cZ cL J rd pr G K (wdM ad cI cZ cL J rd pr M1 ov)) H := hP
  have hD : va_D A (wdC ad cI cZ cL J rd pr G K (wdM ad cI cZ cL J rd pr M1 ov)) := hD
  refine W.eq (g2 := F0 m 558 ls [.int (r9)]) rfl ?_
  refine lv_istore (lv' := [(6, .int (r9)), (5, .int (iZ ((1 : Nat) : Int))), (4, .int (iZ ((i : Nat) : Int))), (0, .ref (sb)), (1, .ref (ad 0)), (2, .ref (ad 19)), (3, .ref (ad 33))]) hx hb d_L_law_558 hl (by decide) rfl (fun ls hl => ?_)
  refine lv_aload_n hx hb d_L_law_560 rfl (lv_at hl 5 rfl) ?_
  refine z_callVR (As := []) (rest := []) zTB Z (k_M_thrown) ⟨ml_L_101, im_M_thrown, se_M_thrown, ini_M, co_M_thrown⟩ zd_M_thrown ⟨Nat.le_of_ble_eq_true rfl, Nat.le_of_ble_eq_true rfl⟩ hP hK (ci := 5) (q0 := 19) rfl rfl rfl hl.1 rfl (Nat.le_of_ble_eq_true rfl) d_L_law_561 ⟨hc.1, hc.2⟩ ?_
  refine W.eq (g2 := F0 m 564 ls [.int (iZ ((M1.1 : Nat) : Int))]) rfl ?_
  refine z_topZ (b := ((1 : Nat) : Int)) (by rw [hc1]) ?_
  refine lv_iload hx hb d_L_law_564 (lv_at hl 1 rfl) ?_
  refine z_icmp_eq (a := ((1 : Nat) : Int)) (b := ((1 : Nat) : Int)) (tgt := 571) hx hb (by omega) d_L_law_566 (by decide) (fun q566 => ?_) (fun q566 => ?_)
  · skip
    refine lv_iload hx hb d_L_law_571 (lv_at hl 1 rfl) ?_
    refine z_if_ne (a := ((1 : Nat) : Int)) (tgt := 588) hx hb (by omega) d_L_law_573 (by decide) (fun q573 => ?_) (fun q573 => ?_)
    · skip
      refine lv_goto (tgt := 1598) hx hb d_L_law_588 (by decide) ?_
      exact kk J _ _ _ _ _ _ H locs ls ⟨hI, hM1, hR, hpq⟩ hP hD hS (lv_sub hl [2, 3, 4, 5, 6] rfl)
    · skip
      exfalso; omega
  · skip
    exfalso; omega

set_option maxHeartbeats 4000000 in
set_option maxRecDepth 100000 in
theorem lf_difference_x2 {p : Program} {l : Launch} {e : Env} {s : State} {m : MethodId} {below : List Frame} {meth : Method} {c : Code} {Q : State → Prop} {sb L : Nat} {xs : Nat → Int32} {D : va_G} {A : Nat → Prop} {ad : Nat → Nat} {cI cZ cL : ClassId} {J : SJ} {rd : Nat → Int} {pr : Nat → Nat} {G : SH} {K : SK} {M : SM} {ov : Nat → Int64} {H : Heap} {locs : List Loc} {cells slots i : Nat} {ls : Array Slot} (X : LX p l s m meth c sb L xs D cI cZ cL A) (hLI : LI J rd pr M) (hi : i + 4 < L) (hc : cells + 1 ≤ 1061 ∧ slots + 6 ≤ 9679) {pp : Nat} {b : Int} (hp : pp < jk J) (h : z32 b ∧ (b < 0 ∨ 3 ≤ b)) (ha1 : xs (i + 1) = iZ ((pp : Nat) : Int)) (ha2 : xs (i + 2) = iZ (b)) (hP : va_P D classes (wdC ad cI cZ cL J rd pr G K (wdM ad cI cZ cL J rd pr M ov)) H) (hD : va_D A (wdC ad cI cZ cL J rd pr G K (wdM ad cI cZ cL J rd pr M ov))) (hS : va_S A s.heap H locs) (hl : lv_has ls 8 (lwL ad sb i)) (kk : LK p l e s m below meth c Q sb D A ad cI cZ cL i (cells + 1) (slots + 6)) : W p l e room_1 s m #[Value.ref sb] below meth c H locs cells slots Q (F0 m 523 ls []) := by
  obtain ⟨hl0, Z, hX, hbl, hK, hA, hbA, hTT, hSt, hL⟩ := X
  obtain ⟨hI, hM, hR, hpq⟩ := hLI
  obtain ⟨hx, hb, hr, hml, hown, hts, hE, hlocks⟩ := id Z
  have hn32 := hI.1
  have hk32 := hI.2.1
  have hl : lv_has ls 8 [(4, .int (iZ ((i : Nat) : Int))), (0, .ref (sb)), (1, .ref (ad 0)), (2, .ref (ad 19)), (3, .ref (ad 33))] := hl
  refine lv_aload_n hx hb d_L_law_523 rfl (lv_at hl 2 rfl) ?_
  refine lv_aload_n hx hb d_L_law_524 rfl (lv_at hl 1 rfl) ?_
  refine lv_iload hx hb d_L_law_525 (lv_at hl 0 rfl) ?_
  refine lv_iconst (v := iZ ((1 : Nat) : Int)) hx hb d_L_law_527 (by decide) ?_
  refine z_iaddN (u := i) (v := 1) hx hb d_L_law_528 ?_
  refine z_sld (v := iZ ((pp : Nat) : Int)) hx hb hX hbl hbA hS (i + 1) (by omega) ha1 d_L_law_529 ?_
  refine lv_aload_n hx hb d_L_law_530 rfl (lv_at hl 1 rfl) ?_
  refine lv_iload hx hb d_L_law_531 (lv_at hl 0 rfl) ?_
  refine lv_iconst (v := iZ ((2 : Nat) : Int)) hx hb d_L_law_533 (by decide) ?_
  refine z_iaddN (u := i) (v := 2) hx hb d_L_law_534 ?_
  refine z_sld (v := iZ (b)) hx hb hX hbl hbA hS (i + 2) (by omega) ha2 d_L_law_535 ?_
  refine lv_aload_n hx hb d_L_law_536 rfl (lv_at hl 4 rfl) ?_
  refine z_kiW (z_runSW (As := [.ref (ad 0), .int (iZ ((pp : Nat) : Int)), .int (iZ (b)), .ref (ad 33)]) (rest := []) Z (k_L_differencex2 hl0 hI (pp := pp) (b := b) hp h) ⟨ml_L_124, sm_L_difference, ini_L, co_L_difference⟩ zd_L_difference ⟨Nat.le_of_ble_eq_true rfl, Nat.le_of_ble_eq_true rfl⟩ hP hK hD (hTT _ _ hS) hSt hl.1 rfl (Nat.le_of_ble_eq_true rfl) d_L_law_537 ⟨hc.1, hc.2⟩) hD hS hA (fun r9 w9 H locs hp9 hP hD hS => ?_)
  obtain ⟨rfl, rfl⟩ := hp9
  have hP : va_P D classes (wdC ad cI cZ cL J rd pr G K (wdM ad cI cZ cL J rd pr M ov)) H := hP
  have hD : va_D A (wdC ad cI cZ cL J rd pr G K (wdM ad cI cZ cL J rd pr M ov)) := hD
  refine W.eq (g2 := F0 m 540 ls [.int (iZ ((1 : Nat) : Int))]) rfl ?_
  refine lv_istore (lv' := [(5, .int (iZ ((1 : Nat) : Int))), (4, .int (iZ ((i : Nat) : Int))), (0, .ref (sb)), (1, .ref (ad 0)), (2, .ref (ad 19)), (3, .ref (ad 33))]) hx hb d_L_law_540 hl (by decide) rfl (fun ls hl => ?_)
  refine lv_aload_n hx hb d_L_law_542 rfl (lv_at hl 4 rfl) ?_
  refine lv_aload_n hx hb d_L_law_543 rfl (lv_at hl 2 rfl) ?_
  refine lv_iload hx hb d_L_law_544 (lv_at hl 1 rfl) ?_
  refine lv_iconst (v := iZ ((1 : Nat) : Int)) hx hb d_L_law_546 (by decide) ?_
  refine z_iaddN (u := i) (v := 1) hx hb d_L_law_547 ?_
  refine z_sld (v := iZ ((pp : Nat) : Int)) hx hb hX hbl hbA hS (i + 1) (by omega) ha1 d_L_law_548 ?_
  refine lv_aload_n hx hb d_L_law_549 rfl (lv_at hl 2 rfl) ?_
  refine lv_iload hx hb d_L_law_550 (lv_at hl 1 rfl) ?_
  refine lv_iconst (v := iZ ((2 : Nat) : Int)) hx hb d_L_law_552 (by decide) ?_
  refine z_iaddN (u := i) (v := 2) hx hb d_L_law_553 ?_
  refine z_sld (v := iZ (b)) hx hb hX hbl hbA hS (i + 2) (by omega) ha2 d_L_law_554 ?_
  refine z_ki (z_runV (As := [.int (iZ ((pp : Nat) : Int)), .int (iZ (b))]) (rest := []) zTB Z (k_M_differencex1 hI hM (a := ((pp : Nat) : Int)) (b := b) (by omega)) ⟨ml_L_126, im_M_difference, se_M_difference, ini_M, co_M_difference⟩ zd_M_difference ⟨Nat.le_of_ble_eq_true rfl, Nat.le_of_ble_eq_true rfl⟩ hP hK hD (ci := 5) (q0 := 19) rfl rfl rfl hl.1 rfl (Nat.le_of_ble_eq_true rfl) d_L_law_555 ⟨hc.1, hc.2⟩) hD hS hA (fun r9 w9 H locs hp9 hP hD hS => ?_)
  obtain ⟨M1, rfl, hc1, hM1⟩ := hp9
  have hP : va_P D classes (wdC ad cI cZ cL J rd pr G K (wdM ad cI cZ cL J rd pr M1 ov)) H := hP
  have hD : va_D A (wdC ad cI cZ cL J rd pr G K (wdM ad cI cZ cL J rd pr M1 ov)) := hD
  refine W.eq (g2 := F0 m 558 ls [.int (r9)]) rfl ?_
  refine lv_istore (lv' := [(6, .int (r9)), (5, .int (iZ ((1 : Nat) : Int))), (4, .int (iZ ((i : Nat) : Int))), (0, .ref (sb)), (1, .ref (ad 0)), (2, .ref (ad 19)), (3, .ref (ad 33))]) hx hb d_L_law_558 hl (by decide) rfl (fun ls hl => ?_)
  refine lv_aload_n hx hb d_L_law_560 rfl (lv_at hl 5 rfl) ?_
  refine z_callVR (As := []) (rest := []) zTB Z (k_M_thrown) ⟨ml_L_101, im_M_thrown, se_M_thrown, ini_M, co_M_thrown⟩ zd_M_thrown ⟨Nat.le_of_ble_eq_true rfl, Nat.le_of_ble_eq_true rfl⟩ hP hK (ci := 5) (q0 := 19) rfl rfl rfl hl.1 rfl (Nat.le_of_ble_eq_true rfl) d_L_law_561 ⟨hc.1, hc.2⟩ ?_
  refine W.eq (g2 := F0 m 564 ls [.int (iZ ((M1.1 : Nat) : Int))]) rfl ?_
  refine z_topZ (b := ((1 : Nat) : Int)) (by rw [hc1]) ?_
  refine lv_iload hx hb d_L_law_564 (lv_at hl 1 rfl) ?_
  refine z_icmp_eq (a := ((1 : Nat) : Int)) (b := ((1 : Nat) : Int)) (tgt := 571) hx hb (by omega) d_L_law_566 (by decide) (fun q566 => ?_) (fun q566 => ?_)
  · skip
    refine lv_iload hx hb d_L_law_571 (lv_at hl 1 rfl) ?_
    refine z_if_ne (a := ((1 : Nat) : Int)) (tgt := 588) hx hb (by omega) d_L_law_573 (by decide) (fun q573 => ?_) (fun q573 => ?_)
    · skip
      refine lv_goto (tgt := 1598) hx hb d_L_law_588 (by decide) ?_
      exact kk J _ _ _ _ _ _ H locs ls ⟨hI, hM1, hR, hpq⟩ hP hD hS (lv_sub hl [2, 3, 4, 5, 6] rfl)
    · skip
      exfalso; omega
  · skip
    exfalso; omega

set_option maxHeartbeats 4000000 in
set_option maxRecDepth 100000 in
theorem lf_difference_0 {p : Program} {l : Launch} {e : Env} {s : State} {m : MethodId} {below : List Frame} {meth : Method} {c : Code} {Q : State → Prop} {sb L : Nat} {xs : Nat → Int32} {D : va_G} {A : Nat → Prop} {ad : Nat → Nat} {cI cZ cL : ClassId} {J : SJ} {rd : Nat → Int} {pr : Nat → Nat} {G : SH} {K : SK} {M : SM} {ov : Nat → Int64} {H : Heap} {locs : List Loc} {cells slots i : Nat} {ls : Array Slot} (X : LX p l s m meth c sb L xs D cI cZ cL A) (hLI : LI J rd pr M) (hi : i + 4 < L) (hc : cells + 1 ≤ 1061 ∧ slots + 6 ≤ 9679) {pp kd : Nat} (hp : pp < jk J) (hkd : kd < 3) (ha1 : xs (i + 1) = iZ ((pp : Nat) : Int)) (ha2 : xs (i + 2) = iZ ((kd : Nat) : Int)) (hP : va_P D classes (wdC ad cI cZ cL J rd pr G K (wdM ad cI cZ cL J rd pr M ov)) H) (hD : va_D A (wdC ad cI cZ cL J rd pr G K (wdM ad cI cZ cL J rd pr M ov))) (hS : va_S A s.heap H locs) (hl : lv_has ls 8 (lwL ad sb i)) (kk : LK p l e s m below meth c Q sb D A ad cI cZ cL i (cells + 1) (slots + 6)) : W p l e room_1 s m #[Value.ref sb] below meth c H locs cells slots Q (F0 m 523 ls []) := by
  obtain ⟨hl0, Z, hX, hbl, hK, hA, hbA, hTT, hSt, hL⟩ := X
  obtain ⟨hI, hM, hR, hpq⟩ := hLI
  obtain ⟨hx, hb, hr, hml, hown, hts, hE, hlocks⟩ := id Z
  have hn32 := hI.1
  have hk32 := hI.2.1
  have hl : lv_has ls 8 [(4, .int (iZ ((i : Nat) : Int))), (0, .ref (sb)), (1, .ref (ad 0)), (2, .ref (ad 19)), (3, .ref (ad 33))] := hl
  refine lv_aload_n hx hb d_L_law_523 rfl (lv_at hl 2 rfl) ?_
  refine lv_aload_n hx hb d_L_law_524 rfl (lv_at hl 1 rfl) ?_
  refine lv_iload hx hb d_L_law_525 (lv_at hl 0 rfl) ?_
  refine lv_iconst (v := iZ ((1 : Nat) : Int)) hx hb d_L_law_527 (by decide) ?_
  refine z_iaddN (u := i) (v := 1) hx hb d_L_law_528 ?_
  refine z_sld (v := iZ ((pp : Nat) : Int)) hx hb hX hbl hbA hS (i + 1) (by omega) ha1 d_L_law_529 ?_
  refine lv_aload_n hx hb d_L_law_530 rfl (lv_at hl 1 rfl) ?_
  refine lv_iload hx hb d_L_law_531 (lv_at hl 0 rfl) ?_
  refine lv_iconst (v := iZ ((2 : Nat) : Int)) hx hb d_L_law_533 (by decide) ?_
  refine z_iaddN (u := i) (v := 2) hx hb d_L_law_534 ?_
  refine z_sld (v := iZ ((kd : Nat) : Int)) hx hb hX hbl hbA hS (i + 2) (by omega) ha2 d_L_law_535 ?_
  refine lv_aload_n hx hb d_L_law_536 rfl (lv_at hl 4 rfl) ?_
  refine z_kiW (z_runSW (As := [.ref (ad 0), .int (iZ ((pp : Nat) : Int)), .int (iZ ((kd : Nat) : Int)), .ref (ad 33)]) (rest := []) Z (k_L_difference0 hI (pp := pp) (kd := kd) hp hkd) ⟨ml_L_124, sm_L_difference, ini_L, co_L_difference⟩ zd_L_difference ⟨Nat.le_of_ble_eq_true rfl, Nat.le_of_ble_eq_true rfl⟩ hP hK hD (hTT _ _ hS) hSt hl.1 rfl (Nat.le_of_ble_eq_true rfl) d_L_law_537 ⟨hc.1, hc.2⟩) hD hS hA (fun r9 w9 H locs hp9 hP hD hS => ?_)
  obtain ⟨rfl, rfl⟩ := hp9
  have hP : va_P D classes (wdC ad cI cZ cL J rd pr G K (wdM ad cI cZ cL J rd pr M (oU ov ((iZ (sDf J pp kd)).toInt64)))) H := hP
  have hD : va_D A (wdC ad cI cZ cL J rd pr G K (wdM ad cI cZ cL J rd pr M (oU ov ((iZ (sDf J pp kd)).toInt64)))) := hD
  refine W.eq (g2 := F0 m 540 ls [.int (iZ ((0 : Nat) : Int))]) rfl ?_
  refine lv_istore (lv' := [(5, .int (iZ ((0 : Nat) : Int))), (4, .int (iZ ((i : Nat) : Int))), (0, .ref (sb)), (1, .ref (ad 0)), (2, .ref (ad 19)), (3, .ref (ad 33))]) hx hb d_L_law_540 hl (by decide) rfl (fun ls hl => ?_)
  refine lv_aload_n hx hb d_L_law_542 rfl (lv_at hl 4 rfl) ?_
  refine lv_aload_n hx hb d_L_law_543 rfl (lv_at hl 2 rfl) ?_
  refine lv_iload hx hb d_L_law_544 (lv_at hl 1 rfl) ?_
  refine lv_iconst (v := iZ ((1 : Nat) : Int)) hx hb d_L_law_546 (by decide) ?_
  refine z_iaddN (u := i) (v := 1) hx hb d_L_law_547 ?_
  refine z_sld (v := iZ ((pp : Nat) : Int)) hx hb hX hbl hbA hS (i + 1) (by omega) ha1 d_L_law_548 ?_
  refine lv_aload_n hx hb d_L_law_549 rfl (lv_at hl 2 rfl) ?_
  refine lv_iload hx hb d_L_law_550 (lv_at hl 1 rfl) ?_
  refine lv_iconst (v := iZ ((2 : Nat) : Int)) hx hb d_L_law_552 (by decide) ?_
  refine z_iaddN (u := i) (v := 2) hx hb d_L_law_553 ?_
  refine z_sld (v := iZ ((kd : Nat) : Int)) hx hb hX hbl hbA hS (i + 2) (by omega) ha2 d_L_law_554 ?_
  refine z_ki (z_runV (As := [.int (iZ ((pp : Nat) : Int)), .int (iZ ((kd : Nat) : Int))]) (rest := []) zTB Z (k_M_difference0 hI hM hp hkd) ⟨ml_L_126, im_M_difference, se_M_difference, ini_M, co_M_difference⟩ zd_M_difference ⟨Nat.le_of_ble_eq_true rfl, Nat.le_of_ble_eq_true rfl⟩ hP hK hD (ci := 5) (q0 := 19) rfl rfl rfl hl.1 rfl (Nat.le_of_ble_eq_true rfl) d_L_law_555 ⟨hc.1, hc.2⟩) hD hS hA (fun r9 w9 H locs hp9 hP hD hS => ?_)
  obtain ⟨M1, rfl, rfl, hc1, hM1⟩ := hp9
  have hP : va_P D classes (wdC ad cI cZ cL J rd pr G K (wdM ad cI cZ cL J rd pr M1 (oU ov ((iZ (sDf J pp kd)).toInt64)))) H := hP
  have hD : va_D A (wdC ad cI cZ cL J rd pr G K (wdM ad cI cZ cL J rd pr M1 (oU ov ((iZ (sDf J pp kd)).toInt64)))) := hD
  refine W.eq (g2 := F0 m 558 ls [.int (iZ (sDf J pp kd))]) rfl ?_
  refine lv_istore (lv' := [(6, .int (iZ (sDf J pp kd))), (5, .int (iZ ((0 : Nat) : Int))), (4, .int (iZ ((i : Nat) : Int))), (0, .ref (sb)), (1, .ref (ad 0)), (2, .ref (ad 19)), (3, .ref (ad 33))]) hx hb d_L_law_558 hl (by decide) rfl (fun ls hl => ?_)
  refine lv_aload_n hx hb d_L_law_560 rfl (lv_at hl 5 rfl) ?_
  refine z_callVR (As := []) (rest := []) zTB Z (k_M_thrown) ⟨ml_L_101, im_M_thrown, se_M_thrown, ini_M, co_M_thrown⟩ zd_M_thrown ⟨Nat.le_of_ble_eq_true rfl, Nat.le_of_ble_eq_true rfl⟩ hP hK (ci := 5) (q0 := 19) rfl rfl rfl hl.1 rfl (Nat.le_of_ble_eq_true rfl) d_L_law_561 ⟨hc.1, hc.2⟩ ?_
  refine W.eq (g2 := F0 m 564 ls [.int (iZ ((M1.1 : Nat) : Int))]) rfl ?_
  refine z_topZ (b := ((0 : Nat) : Int)) (by rw [hc1]) ?_
  refine lv_iload hx hb d_L_law_564 (lv_at hl 1 rfl) ?_
  refine z_icmp_eq (a := ((0 : Nat) : Int)) (b := ((0 : Nat) : Int)) (tgt := 571) hx hb (by omega) d_L_law_566 (by decide) (fun q566 => ?_) (fun q566 => ?_)
  · skip
    refine lv_iload hx hb d_L_law_571 (lv_at hl 1 rfl) ?_
    refine z_if_ne (a := ((0 : Nat) : Int)) (tgt := 588) hx hb (by omega) d_L_law_573 (by decide) (fun q573 => ?_) (fun q573 => ?_)
    · skip
      exfalso; omega
    · skip
      refine lv_aload_n hx hb d_L_law_576 rfl (lv_at hl 6 rfl) ?_
      refine lv_iconst (v := iZ ((0 : Nat) : Int)) hx hb d_L_law_577 (by decide) ?_
      refine z_old (x := (iZ (sDf J pp kd)).toInt64) hx hb hK hP 33 2 rfl rfl d_L_law_578 ?_
      refine lv_iload hx hb d_L_law_579 (lv_at hl 0 rfl) ?_
      refine lv_i2l (v := (iZ (sDf J pp kd)).toInt64) hx hb d_L_law_581 rfl ?_
      refine z_lcmpR_eq (tgt := 588) (pc1 := 583) (pc4 := 586) hx hb d_L_law_582 rfl rfl d_L_law_583 (by decide) (fun q582 => ?_) (fun q582 => ?_)
      · skip
        refine lv_goto (tgt := 1598) hx hb d_L_law_588 (by decide) ?_
        exact kk J _ _ _ _ _ _ H locs ls ⟨hI, hM1, hR, hpq⟩ hP hD hS (lv_sub hl [2, 3, 4, 5, 6] rfl)
      · skip
        exact absurd rfl q582
  · skip
    exfalso; omega

set_option maxHeartbeats 4000000 in
set_option maxRecDepth 100000 in
theorem lf_rank_x1 {p : Program} {l : Launch} {e : Env} {s : State} {m : MethodId} {below : List Frame} {meth : Method} {c : Code} {Q : State → Prop} {sb L : Nat} {xs : Nat → Int32} {D : va_G} {A : Nat → Prop} {ad : Nat → Nat} {cI cZ cL : ClassId} {J : SJ} {rd : Nat → Int} {pr : Nat → Nat} {G : SH} {K : SK} {M : SM} {ov : Nat → Int64} {H : Heap} {locs : List Loc} {cells slots i : Nat} {ls : Array Slot} (X : LX p l s m meth c sb L xs D cI cZ cL A) (hLI : LI J rd pr M) (hi : i + 4 < L) (hc : cells + 1 ≤ 1061 ∧ slots + 6 ≤ 9679) {a b : Int} (h : z32 a ∧ (a < 0 ∨ ((jk J : Nat) : Int) ≤ a)) (hz : z32 b) (ha1 : xs (i + 1) = iZ (a)) (ha2 : xs (i + 2) = iZ (b)) (hP : va_P D classes (wdC ad cI cZ cL J rd pr G K (wdM ad cI cZ cL J rd pr M ov)) H) (hD : va_D A (wdC ad cI cZ cL J rd pr G K (wdM ad cI cZ cL J rd pr M ov))) (hS : va_S A s.heap H locs) (hl : lv_has ls 8 (lwL ad sb i)) (kk : LK p l e s m below meth c Q sb D A ad cI cZ cL i (cells + 1) (slots + 6)) : W p l e room_1 s m #[Value.ref sb] below meth c H locs cells slots Q (F0 m 770 ls []) := by
  obtain ⟨hl0, Z, hX, hbl, hK, hA, hbA, hTT, hSt, hL⟩ := X
  obtain ⟨hI, hM, hR, hpq⟩ := hLI
  obtain ⟨hx, hb, hr, hml, hown, hts, hE, hlocks⟩ := id Z
  have hn32 := hI.1
  have hk32 := hI.2.1
  have hl : lv_has ls 8 [(4, .int (iZ ((i : Nat) : Int))), (0, .ref (sb)), (1, .ref (ad 0)), (2, .ref (ad 19)), (3, .ref (ad 33))] := hl
  refine lv_aload_n hx hb d_L_law_770 rfl (lv_at hl 2 rfl) ?_
  refine lv_aload_n hx hb d_L_law_771 rfl (lv_at hl 1 rfl) ?_
  refine lv_iload hx hb d_L_law_772 (lv_at hl 0 rfl) ?_
  refine lv_iconst (v := iZ ((1 : Nat) : Int)) hx hb d_L_law_774 (by decide) ?_
  refine z_iaddN (u := i) (v := 1) hx hb d_L_law_775 ?_
  refine z_sld (v := iZ (a)) hx hb hX hbl hbA hS (i + 1) (by omega) ha1 d_L_law_776 ?_
  refine lv_aload_n hx hb d_L_law_777 rfl (lv_at hl 1 rfl) ?_
  refine lv_iload hx hb d_L_law_778 (lv_at hl 0 rfl) ?_
  refine lv_iconst (v := iZ ((2 : Nat) : Int)) hx hb d_L_law_780 (by decide) ?_
  refine z_iaddN (u := i) (v := 2) hx hb d_L_law_781 ?_
  refine z_sld (v := iZ (b)) hx hb hX hbl hbA hS (i + 2) (by omega) ha2 d_L_law_782 ?_
  refine lv_aload_n hx hb d_L_law_783 rfl (lv_at hl 4 rfl) ?_
  refine z_kiW (z_runSW (As := [.ref (ad 0), .int (iZ (a)), .int (iZ (b)), .ref (ad 33)]) (rest := []) Z (k_L_rankx1 hl0 hI (a := a) (b := b) h) ⟨ml_L_136, sm_L_rank, ini_L, co_L_rank⟩ zd_L_rank ⟨Nat.le_of_ble_eq_true rfl, Nat.le_of_ble_eq_true rfl⟩ hP hK hD (hTT _ _ hS) hSt hl.1 rfl (Nat.le_of_ble_eq_true rfl) d_L_law_784 ⟨hc.1, hc.2⟩) hD hS hA (fun r9 w9 H locs hp9 hP hD hS => ?_)
  obtain ⟨rfl, rfl⟩ := hp9
  have hP : va_P D classes (wdC ad cI cZ cL J rd pr G K (wdM ad cI cZ cL J rd pr M ov)) H := hP
  have hD : va_D A (wdC ad cI cZ cL J rd pr G K (wdM ad cI cZ cL J rd pr M ov)) := hD
  refine W.eq (g2 := F0 m 787 ls [.int (iZ ((1 : Nat) : Int))]) rfl ?_
  refine lv_istore (lv' := [(5, .int (iZ ((1 : Nat) : Int))), (4, .int (iZ ((i : Nat) : Int))), (0, .ref (sb)), (1, .ref (ad 0)), (2, .ref (ad 19)), (3, .ref (ad 33))]) hx hb d_L_law_787 hl (by decide) rfl (fun ls hl => ?_)
  refine lv_aload_n hx hb d_L_law_789 rfl (lv_at hl 4 rfl) ?_
  refine lv_aload_n hx hb d_L_law_790 rfl (lv_at hl 2 rfl) ?_
  refine lv_iload hx hb d_L_law_791 (lv_at hl 1 rfl) ?_
  refine lv_iconst (v := iZ ((1 : Nat) : Int)) hx hb d_L_law_793 (by decide) ?_
  refine z_iaddN (u := i) (v := 1) hx hb d_L_law_794 ?_
  refine z_sld (v := iZ (a)) hx hb hX hbl hbA hS (i + 1) (by omega) ha1 d_L_law_795 ?_
  refine lv_aload_n hx hb d_L_law_796 rfl (lv_at hl 2 rfl) ?_
  refine lv_iload hx hb d_L_law_797 (lv_at hl 1 rfl) ?_
  refine lv_iconst (v := iZ ((2 : Nat) : Int)) hx hb d_L_law_799 (by decide) ?_
  refine z_iaddN (u := i) (v := 2) hx hb d_L_law_800 ?_
  refine z_sld (v := iZ (b)) hx hb hX hbl hbA hS (i + 2) (by omega) ha2 d_L_law_801 ?_
  refine z_ki (z_runV (As := [.int (iZ (a)), .int (iZ (b))]) (rest := []) zTB Z (k_M_rankx1 hI hM (a := a) (b := b) (by omega)) ⟨ml_L_138, im_M_rank, se_M_rank, ini_M, co_M_rank⟩ zd_M_rank ⟨Nat.le_of_ble_eq_true rfl, Nat.le_of_ble_eq_true rfl⟩ hP hK hD (ci := 5) (q0 := 19) rfl rfl rfl hl.1 rfl (Nat.le_of_ble_eq_true rfl) d_L_law_802 ⟨hc.1, hc.2⟩) hD hS hA (fun r9 w9 H locs hp9 hP hD hS => ?_)
  obtain ⟨M1, rfl, hc1, hM1⟩ := hp9
  have hP : va_P D classes (wdC ad cI cZ cL J rd pr G K (wdM ad cI cZ cL J rd pr M1 ov)) H := hP
  have hD : va_D A (wdC ad cI cZ cL J rd pr G K (wdM ad cI cZ cL J rd pr M1 ov)) := hD
  refine W.eq (g2 := F0 m 805 ls [.int (r9)]) rfl ?_
  refine lv_istore (lv' := [(6, .int (r9)), (5, .int (iZ ((1 : Nat) : Int))), (4, .int (iZ ((i : Nat) : Int))), (0, .ref (sb)), (1, .ref (ad 0)), (2, .ref (ad 19)), (3, .ref (ad 33))]) hx hb d_L_law_805 hl (by decide) rfl (fun ls hl => ?_)
  refine lv_aload_n hx hb d_L_law_807 rfl (lv_at hl 5 rfl) ?_
  refine z_callVR (As := []) (rest := []) zTB Z (k_M_thrown) ⟨ml_L_101, im_M_thrown, se_M_thrown, ini_M, co_M_thrown⟩ zd_M_thrown ⟨Nat.le_of_ble_eq_true rfl, Nat.le_of_ble_eq_true rfl⟩ hP hK (ci := 5) (q0 := 19) rfl rfl rfl hl.1 rfl (Nat.le_of_ble_eq_true rfl) d_L_law_808 ⟨hc.1, hc.2⟩ ?_
  refine W.eq (g2 := F0 m 811 ls [.int (iZ ((M1.1 : Nat) : Int))]) rfl ?_
  refine z_topZ (b := ((1 : Nat) : Int)) (by rw [hc1]) ?_
  refine lv_iload hx hb d_L_law_811 (lv_at hl 1 rfl) ?_
  refine z_icmp_eq (a := ((1 : Nat) : Int)) (b := ((1 : Nat) : Int)) (tgt := 818) hx hb (by omega) d_L_law_813 (by decide) (fun q813 => ?_) (fun q813 => ?_)
  · skip
    refine lv_iload hx hb d_L_law_818 (lv_at hl 1 rfl) ?_
    refine z_if_ne (a := ((1 : Nat) : Int)) (tgt := 835) hx hb (by omega) d_L_law_820 (by decide) (fun q820 => ?_) (fun q820 => ?_)
    · skip
      refine lv_goto (tgt := 1598) hx hb d_L_law_835 (by decide) ?_
      exact kk J _ _ _ _ _ _ H locs ls ⟨hI, hM1, hR, hpq⟩ hP hD hS (lv_sub hl [2, 3, 4, 5, 6] rfl)
    · skip
      exfalso; omega
  · skip
    exfalso; omega

set_option maxHeartbeats 4000000 in
set_option maxRecDepth 100000 in
theorem lf_rank_x2 {p : Program} {l : Launch} {e : Env} {s : State} {m : MethodId} {below : List Frame} {meth : Method} {c : Code} {Q : State → Prop} {sb L : Nat} {xs : Nat → Int32} {D : va_G} {A : Nat → Prop} {ad : Nat → Nat} {cI cZ cL : ClassId} {J : SJ} {rd : Nat → Int} {pr : Nat → Nat} {G : SH} {K : SK} {M : SM} {ov : Nat → Int64} {H : Heap} {locs : List Loc} {cells slots i : Nat} {ls : Array Slot} (X : LX p l s m meth c sb L xs D cI cZ cL A) (hLI : LI J rd pr M) (hi : i + 4 < L) (hc : cells + 1 ≤ 1061 ∧ slots + 6 ≤ 9679) {pp : Nat} {b : Int} (hp : pp < jk J) (h : z32 b ∧ (b < 0 ∨ 3 ≤ b)) (ha1 : xs (i + 1) = iZ ((pp : Nat) : Int)) (ha2 : xs (i + 2) = iZ (b)) (hP : va_P D classes (wdC ad cI cZ cL J rd pr G K (wdM ad cI cZ cL J rd pr M ov)) H) (hD : va_D A (wdC ad cI cZ cL J rd pr G K (wdM ad cI cZ cL J rd pr M ov))) (hS : va_S A s.heap H locs) (hl : lv_has ls 8 (lwL ad sb i)) (kk : LK p l e s m below meth c Q sb D A ad cI cZ cL i (cells + 1) (slots + 6)) : W p l e room_1 s m #[Value.ref sb] below meth c H locs cells slots Q (F0 m 770 ls []) := by
  obtain ⟨hl0, Z, hX, hbl, hK, hA, hbA, hTT, hSt, hL⟩ := X
  obtain ⟨hI, hM, hR, hpq⟩ := hLI
  obtain ⟨hx, hb, hr, hml, hown, hts, hE, hlocks⟩ := id Z
  have hn32 := hI.1
  have hk32 := hI.2.1
  have hl : lv_has ls 8 [(4, .int (iZ ((i : Nat) : Int))), (0, .ref (sb)), (1, .ref (ad 0)), (2, .ref (ad 19)), (3, .ref (ad 33))] := hl
  refine lv_aload_n hx hb d_L_law_770 rfl (lv_at hl 2 rfl) ?_
  refine lv_aload_n hx hb d_L_law_771 rfl (lv_at hl 1 rfl) ?_
  refine lv_iload hx hb d_L_law_772 (lv_at hl 0 rfl) ?_
  refine lv_iconst (v := iZ ((1 : Nat) : Int)) hx hb d_L_law_774 (by decide) ?_
  refine z_iaddN (u := i) (v := 1) hx hb d_L_law_775 ?_
  refine z_sld (v := iZ ((pp : Nat) : Int)) hx hb hX hbl hbA hS (i + 1) (by omega) ha1 d_L_law_776 ?_
  refine lv_aload_n hx hb d_L_law_777 rfl (lv_at hl 1 rfl) ?_
  refine lv_iload hx hb d_L_law_778 (lv_at hl 0 rfl) ?_
  refine lv_iconst (v := iZ ((2 : Nat) : Int)) hx hb d_L_law_780 (by decide) ?_
  refine z_iaddN (u := i) (v := 2) hx hb d_L_law_781 ?_
  refine z_sld (v := iZ (b)) hx hb hX hbl hbA hS (i + 2) (by omega) ha2 d_L_law_782 ?_
  refine lv_aload_n hx hb d_L_law_783 rfl (lv_at hl 4 rfl) ?_
  refine z_kiW (z_runSW (As := [.ref (ad 0), .int (iZ ((pp : Nat) : Int)), .int (iZ (b)), .ref (ad 33)]) (rest := []) Z (k_L_rankx2 hl0 hI (pp := pp) (b := b) hp h) ⟨ml_L_136, sm_L_rank, ini_L, co_L_rank⟩ zd_L_rank ⟨Nat.le_of_ble_eq_true rfl, Nat.le_of_ble_eq_true rfl⟩ hP hK hD (hTT _ _ hS) hSt hl.1 rfl (Nat.le_of_ble_eq_true rfl) d_L_law_784 ⟨hc.1, hc.2⟩) hD hS hA (fun r9 w9 H locs hp9 hP hD hS => ?_)
  obtain ⟨rfl, rfl⟩ := hp9
  have hP : va_P D classes (wdC ad cI cZ cL J rd pr G K (wdM ad cI cZ cL J rd pr M ov)) H := hP
  have hD : va_D A (wdC ad cI cZ cL J rd pr G K (wdM ad cI cZ cL J rd pr M ov)) := hD
  refine W.eq (g2 := F0 m 787 ls [.int (iZ ((1 : Nat) : Int))]) rfl ?_
  refine lv_istore (lv' := [(5, .int (iZ ((1 : Nat) : Int))), (4, .int (iZ ((i : Nat) : Int))), (0, .ref (sb)), (1, .ref (ad 0)), (2, .ref (ad 19)), (3, .ref (ad 33))]) hx hb d_L_law_787 hl (by decide) rfl (fun ls hl => ?_)
  refine lv_aload_n hx hb d_L_law_789 rfl (lv_at hl 4 rfl) ?_
  refine lv_aload_n hx hb d_L_law_790 rfl (lv_at hl 2 rfl) ?_
  refine lv_iload hx hb d_L_law_791 (lv_at hl 1 rfl) ?_
  refine lv_iconst (v := iZ ((1 : Nat) : Int)) hx hb d_L_law_793 (by decide) ?_
  refine z_iaddN (u := i) (v := 1) hx hb d_L_law_794 ?_
  refine z_sld (v := iZ ((pp : Nat) : Int)) hx hb hX hbl hbA hS (i + 1) (by omega) ha1 d_L_law_795 ?_
  refine lv_aload_n hx hb d_L_law_796 rfl (lv_at hl 2 rfl) ?_
  refine lv_iload hx hb d_L_law_797 (lv_at hl 1 rfl) ?_
  refine lv_iconst (v := iZ ((2 : Nat) : Int)) hx hb d_L_law_799 (by decide) ?_
  refine z_iaddN (u := i) (v := 2) hx hb d_L_law_800 ?_
  refine z_sld (v := iZ (b)) hx hb hX hbl hbA hS (i + 2) (by omega) ha2 d_L_law_801 ?_
  refine z_ki (z_runV (As := [.int (iZ ((pp : Nat) : Int)), .int (iZ (b))]) (rest := []) zTB Z (k_M_rankx1 hI hM (a := ((pp : Nat) : Int)) (b := b) (by omega)) ⟨ml_L_138, im_M_rank, se_M_rank, ini_M, co_M_rank⟩ zd_M_rank ⟨Nat.le_of_ble_eq_true rfl, Nat.le_of_ble_eq_true rfl⟩ hP hK hD (ci := 5) (q0 := 19) rfl rfl rfl hl.1 rfl (Nat.le_of_ble_eq_true rfl) d_L_law_802 ⟨hc.1, hc.2⟩) hD hS hA (fun r9 w9 H locs hp9 hP hD hS => ?_)
  obtain ⟨M1, rfl, hc1, hM1⟩ := hp9
  have hP : va_P D classes (wdC ad cI cZ cL J rd pr G K (wdM ad cI cZ cL J rd pr M1 ov)) H := hP
  have hD : va_D A (wdC ad cI cZ cL J rd pr G K (wdM ad cI cZ cL J rd pr M1 ov)) := hD
  refine W.eq (g2 := F0 m 805 ls [.int (r9)]) rfl ?_
  refine lv_istore (lv' := [(6, .int (r9)), (5, .int (iZ ((1 : Nat) : Int))), (4, .int (iZ ((i : Nat) : Int))), (0, .ref (sb)), (1, .ref (ad 0)), (2, .ref (ad 19)), (3, .ref (ad 33))]) hx hb d_L_law_805 hl (by decide) rfl (fun ls hl => ?_)
  refine lv_aload_n hx hb d_L_law_807 rfl (lv_at hl 5 rfl) ?_
  refine z_callVR (As := []) (rest := []) zTB Z (k_M_thrown) ⟨ml_L_101, im_M_thrown, se_M_thrown, ini_M, co_M_thrown⟩ zd_M_thrown ⟨Nat.le_of_ble_eq_true rfl, Nat.le_of_ble_eq_true rfl⟩ hP hK (ci := 5) (q0 := 19) rfl rfl rfl hl.1 rfl (Nat.le_of_ble_eq_true rfl) d_L_law_808 ⟨hc.1, hc.2⟩ ?_
  refine W.eq (g2 := F0 m 811 ls [.int (iZ ((M1.1 : Nat) : Int))]) rfl ?_
  refine z_topZ (b := ((1 : Nat) : Int)) (by rw [hc1]) ?_
  refine lv_iload hx hb d_L_law_811 (lv_at hl 1 rfl) ?_
  refine z_icmp_eq (a := ((1 : Nat) : Int)) (b := ((1 : Nat) : Int)) (tgt := 818) hx hb (by omega) d_L_law_813 (by decide) (fun q813 => ?_) (fun q813 => ?_)
  · skip
    refine lv_iload hx hb d_L_law_818 (lv_at hl 1 rfl) ?_
    refine z_if_ne (a := ((1 : Nat) : Int)) (tgt := 835) hx hb (by omega) d_L_law_820 (by decide) (fun q820 => ?_) (fun q820 => ?_)
    · skip
      refine lv_goto (tgt := 1598) hx hb d_L_law_835 (by decide) ?_
      exact kk J _ _ _ _ _ _ H locs ls ⟨hI, hM1, hR, hpq⟩ hP hD hS (lv_sub hl [2, 3, 4, 5, 6] rfl)
    · skip
      exfalso; omega
  · skip
    exfalso; omega

set_option maxHeartbeats 4000000 in
set_option maxRecDepth 100000 in
theorem lf_rank_0 {p : Program} {l : Launch} {e : Env} {s : State} {m : MethodId} {below : List Frame} {meth : Method} {c : Code} {Q : State → Prop} {sb L : Nat} {xs : Nat → Int32} {D : va_G} {A : Nat → Prop} {ad : Nat → Nat} {cI cZ cL : ClassId} {J : SJ} {rd : Nat → Int} {pr : Nat → Nat} {G : SH} {K : SK} {M : SM} {ov : Nat → Int64} {H : Heap} {locs : List Loc} {cells slots i : Nat} {ls : Array Slot} (X : LX p l s m meth c sb L xs D cI cZ cL A) (hLI : LI J rd pr M) (hi : i + 4 < L) (hc : cells + 1 ≤ 1061 ∧ slots + 6 ≤ 9679) {pp kd : Nat} (hp : pp < jk J) (hkd : kd < 3) (ha1 : xs (i + 1) = iZ ((pp : Nat) : Int)) (ha2 : xs (i + 2) = iZ ((kd : Nat) : Int)) (hP : va_P D classes (wdC ad cI cZ cL J rd pr G K (wdM ad cI cZ cL J rd pr M ov)) H) (hD : va_D A (wdC ad cI cZ cL J rd pr G K (wdM ad cI cZ cL J rd pr M ov))) (hS : va_S A s.heap H locs) (hl : lv_has ls 8 (lwL ad sb i)) (kk : LK p l e s m below meth c Q sb D A ad cI cZ cL i (cells + 1) (slots + 6)) : W p l e room_1 s m #[Value.ref sb] below meth c H locs cells slots Q (F0 m 770 ls []) := by
  obtain ⟨hl0, Z, hX, hbl, hK, hA, hbA, hTT, hSt, hL⟩ := X
  obtain ⟨hI, hM, hR, hpq⟩ := hLI
  obtain ⟨hx, hb, hr, hml, hown, hts, hE, hlocks⟩ := id Z
  have hn32 := hI.1
  have hk32 := hI.2.1
  have hl : lv_has ls 8 [(4, .int (iZ ((i : Nat) : Int))), (0, .ref (sb)), (1, .ref (ad 0)), (2, .ref (ad 19)), (3, .ref (ad 33))] := hl
  refine lv_aload_n hx hb d_L_law_770 rfl (lv_at hl 2 rfl) ?_
  refine lv_aload_n hx hb d_L_law_771 rfl (lv_at hl 1 rfl) ?_
  refine lv_iload hx hb d_L_law_772 (lv_at hl 0 rfl) ?_
  refine lv_iconst (v := iZ ((1 : Nat) : Int)) hx hb d_L_law_774 (by decide) ?_
  refine z_iaddN (u := i) (v := 1) hx hb d_L_law_775 ?_
  refine z_sld (v := iZ ((pp : Nat) : Int)) hx hb hX hbl hbA hS (i + 1) (by omega) ha1 d_L_law_776 ?_
  refine lv_aload_n hx hb d_L_law_777 rfl (lv_at hl 1 rfl) ?_
  refine lv_iload hx hb d_L_law_778 (lv_at hl 0 rfl) ?_
  refine lv_iconst (v := iZ ((2 : Nat) : Int)) hx hb d_L_law_780 (by decide) ?_
  refine z_iaddN (u := i) (v := 2) hx hb d_L_law_781 ?_
  refine z_sld (v := iZ ((kd : Nat) : Int)) hx hb hX hbl hbA hS (i + 2) (by omega) ha2 d_L_law_782 ?_
  refine lv_aload_n hx hb d_L_law_783 rfl (lv_at hl 4 rfl) ?_
  refine z_kiW (z_runSW (As := [.ref (ad 0), .int (iZ ((pp : Nat) : Int)), .int (iZ ((kd : Nat) : Int)), .ref (ad 33)]) (rest := []) Z (k_L_rank0 hI (pp := pp) (kd := kd) hp hkd) ⟨ml_L_136, sm_L_rank, ini_L, co_L_rank⟩ zd_L_rank ⟨Nat.le_of_ble_eq_true rfl, Nat.le_of_ble_eq_true rfl⟩ hP hK hD (hTT _ _ hS) hSt hl.1 rfl (Nat.le_of_ble_eq_true rfl) d_L_law_784 ⟨hc.1, hc.2⟩) hD hS hA (fun r9 w9 H locs hp9 hP hD hS => ?_)
  obtain ⟨rfl, rfl⟩ := hp9
  have hP : va_P D classes (wdC ad cI cZ cL J rd pr G K (wdM ad cI cZ cL J rd pr M (oU ov ((iZ ((sRk J pp kd : Nat) : Int)).toInt64)))) H := hP
  have hD : va_D A (wdC ad cI cZ cL J rd pr G K (wdM ad cI cZ cL J rd pr M (oU ov ((iZ ((sRk J pp kd : Nat) : Int)).toInt64)))) := hD
  refine W.eq (g2 := F0 m 787 ls [.int (iZ ((0 : Nat) : Int))]) rfl ?_
  refine lv_istore (lv' := [(5, .int (iZ ((0 : Nat) : Int))), (4, .int (iZ ((i : Nat) : Int))), (0, .ref (sb)), (1, .ref (ad 0)), (2, .ref (ad 19)), (3, .ref (ad 33))]) hx hb d_L_law_787 hl (by decide) rfl (fun ls hl => ?_)
  refine lv_aload_n hx hb d_L_law_789 rfl (lv_at hl 4 rfl) ?_
  refine lv_aload_n hx hb d_L_law_790 rfl (lv_at hl 2 rfl) ?_
  refine lv_iload hx hb d_L_law_791 (lv_at hl 1 rfl) ?_
  refine lv_iconst (v := iZ ((1 : Nat) : Int)) hx hb d_L_law_793 (by decide) ?_
  refine z_iaddN (u := i) (v := 1) hx hb d_L_law_794 ?_
  refine z_sld (v := iZ ((pp : Nat) : Int)) hx hb hX hbl hbA hS (i + 1) (by omega) ha1 d_L_law_795 ?_
  refine lv_aload_n hx hb d_L_law_796 rfl (lv_at hl 2 rfl) ?_
  refine lv_iload hx hb d_L_law_797 (lv_at hl 1 rfl) ?_
  refine lv_iconst (v := iZ ((2 : Nat) : Int)) hx hb d_L_law_799 (by decide) ?_
  refine z_iaddN (u := i) (v := 2) hx hb d_L_law_800 ?_
  refine z_sld (v := iZ ((kd : Nat) : Int)) hx hb hX hbl hbA hS (i + 2) (by omega) ha2 d_L_law_801 ?_
  refine z_ki (z_runV (As := [.int (iZ ((pp : Nat) : Int)), .int (iZ ((kd : Nat) : Int))]) (rest := []) zTB Z (k_M_rank0 hI hM hp hkd) ⟨ml_L_138, im_M_rank, se_M_rank, ini_M, co_M_rank⟩ zd_M_rank ⟨Nat.le_of_ble_eq_true rfl, Nat.le_of_ble_eq_true rfl⟩ hP hK hD (ci := 5) (q0 := 19) rfl rfl rfl hl.1 rfl (Nat.le_of_ble_eq_true rfl) d_L_law_802 ⟨hc.1, hc.2⟩) hD hS hA (fun r9 w9 H locs hp9 hP hD hS => ?_)
  obtain ⟨M1, rfl, rfl, hc1, hM1⟩ := hp9
  have hP : va_P D classes (wdC ad cI cZ cL J rd pr G K (wdM ad cI cZ cL J rd pr M1 (oU ov ((iZ ((sRk J pp kd : Nat) : Int)).toInt64)))) H := hP
  have hD : va_D A (wdC ad cI cZ cL J rd pr G K (wdM ad cI cZ cL J rd pr M1 (oU ov ((iZ ((sRk J pp kd : Nat) : Int)).toInt64)))) := hD
  refine W.eq (g2 := F0 m 805 ls [.int (iZ ((sRk J pp kd : Nat) : Int))]) rfl ?_
  refine lv_istore (lv' := [(6, .int (iZ ((sRk J pp kd : Nat) : Int))), (5, .int (iZ ((0 : Nat) : Int))), (4, .int (iZ ((i : Nat) : Int))), (0, .ref (sb)), (1, .ref (ad 0)), (2, .ref (ad 19)), (3, .ref (ad 33))]) hx hb d_L_law_805 hl (by decide) rfl (fun ls hl => ?_)
  refine lv_aload_n hx hb d_L_law_807 rfl (lv_at hl 5 rfl) ?_
  refine z_callVR (As := []) (rest := []) zTB Z (k_M_thrown) ⟨ml_L_101, im_M_thrown, se_M_thrown, ini_M, co_M_thrown⟩ zd_M_thrown ⟨Nat.le_of_ble_eq_true rfl, Nat.le_of_ble_eq_true rfl⟩ hP hK (ci := 5) (q0 := 19) rfl rfl rfl hl.1 rfl (Nat.le_of_ble_eq_true rfl) d_L_law_808 ⟨hc.1, hc.2⟩ ?_
  refine W.eq (g2 := F0 m 811 ls [.int (iZ ((M1.1 : Nat) : Int))]) rfl ?_
  refine z_topZ (b := ((0 : Nat) : Int)) (by rw [hc1]) ?_
  refine lv_iload hx hb d_L_law_811 (lv_at hl 1 rfl) ?_
  refine z_icmp_eq (a := ((0 : Nat) : Int)) (b := ((0 : Nat) : Int)) (tgt := 818) hx hb (by omega) d_L_law_813 (by decide) (fun q813 => ?_) (fun q813 => ?_)
  · skip
    refine lv_iload hx hb d_L_law_818 (lv_at hl 1 rfl) ?_
    refine z_if_ne (a := ((0 : Nat) : Int)) (tgt := 835) hx hb (by omega) d_L_law_820 (by decide) (fun q820 => ?_) (fun q820 => ?_)
    · skip
      exfalso; omega
    · skip
      refine lv_aload_n hx hb d_L_law_823 rfl (lv_at hl 6 rfl) ?_
      refine lv_iconst (v := iZ ((0 : Nat) : Int)) hx hb d_L_law_824 (by decide) ?_
      refine z_old (x := (iZ ((sRk J pp kd : Nat) : Int)).toInt64) hx hb hK hP 33 2 rfl rfl d_L_law_825 ?_
      refine lv_iload hx hb d_L_law_826 (lv_at hl 0 rfl) ?_
      refine lv_i2l (v := (iZ ((sRk J pp kd : Nat) : Int)).toInt64) hx hb d_L_law_828 rfl ?_
      refine z_lcmpR_eq (tgt := 835) (pc1 := 830) (pc4 := 833) hx hb d_L_law_829 rfl rfl d_L_law_830 (by decide) (fun q829 => ?_) (fun q829 => ?_)
      · skip
        refine lv_goto (tgt := 1598) hx hb d_L_law_835 (by decide) ?_
        exact kk J _ _ _ _ _ _ H locs ls ⟨hI, hM1, hR, hpq⟩ hP hD hS (lv_sub hl [2, 3, 4, 5, 6] rfl)
      · skip
        exact absurd rfl q829
  · skip
    exfalso; omega

set_option maxHeartbeats 4000000 in
set_option maxRecDepth 100000 in
theorem lf_kept_x1 {p : Program} {l : Launch} {e : Env} {s : State} {m : MethodId} {below : List Frame} {meth : Method} {c : Code} {Q : State → Prop} {sb L : Nat} {xs : Nat → Int32} {D : va_G} {A : Nat → Prop} {ad : Nat → Nat} {cI cZ cL : ClassId} {J : SJ} {rd : Nat → Int} {pr : Nat → Nat} {G : SH} {K : SK} {M : SM} {ov : Nat → Int64} {H : Heap} {locs : List Loc} {cells slots i : Nat} {ls : Array Slot} (X : LX p l s m meth c sb L xs D cI cZ cL A) (hLI : LI J rd pr M) (hi : i + 4 < L) (hc : cells + 1 ≤ 1061 ∧ slots + 6 ≤ 9679) {a : Int} (h : z32 a ∧ (a < 0 ∨ 3 ≤ a)) (ha1 : xs (i + 1) = iZ (a)) (hP : va_P D classes (wdC ad cI cZ cL J rd pr G K (wdM ad cI cZ cL J rd pr M ov)) H) (hD : va_D A (wdC ad cI cZ cL J rd pr G K (wdM ad cI cZ cL J rd pr M ov))) (hS : va_S A s.heap H locs) (hl : lv_has ls 8 (lwL ad sb i)) (kk : LK p l e s m below meth c Q sb D A ad cI cZ cL i (cells + 1) (slots + 6)) : W p l e room_1 s m #[Value.ref sb] below meth c H locs cells slots Q (F0 m 591 ls []) := by
  obtain ⟨hl0, Z, hX, hbl, hK, hA, hbA, hTT, hSt, hL⟩ := X
  obtain ⟨hI, hM, hR, hpq⟩ := hLI
  obtain ⟨hx, hb, hr, hml, hown, hts, hE, hlocks⟩ := id Z
  have hn32 := hI.1
  have hk32 := hI.2.1
  have hl : lv_has ls 8 [(4, .int (iZ ((i : Nat) : Int))), (0, .ref (sb)), (1, .ref (ad 0)), (2, .ref (ad 19)), (3, .ref (ad 33))] := hl
  refine lv_aload_n hx hb d_L_law_591 rfl (lv_at hl 2 rfl) ?_
  refine lv_aload_n hx hb d_L_law_592 rfl (lv_at hl 1 rfl) ?_
  refine lv_iload hx hb d_L_law_593 (lv_at hl 0 rfl) ?_
  refine lv_iconst (v := iZ ((1 : Nat) : Int)) hx hb d_L_law_595 (by decide) ?_
  refine z_iaddN (u := i) (v := 1) hx hb d_L_law_596 ?_
  refine z_sld (v := iZ (a)) hx hb hX hbl hbA hS (i + 1) (by omega) ha1 d_L_law_597 ?_
  refine lv_aload_n hx hb d_L_law_598 rfl (lv_at hl 4 rfl) ?_
  refine z_kiW (z_runSW (As := [.ref (ad 0), .int (iZ (a)), .ref (ad 33)]) (rest := []) Z (k_L_keptx1 hl0 hI (a := a) h) ⟨ml_L_127, sm_L_kept, ini_L, co_L_kept⟩ zd_L_kept ⟨Nat.le_of_ble_eq_true rfl, Nat.le_of_ble_eq_true rfl⟩ hP hK hD (hTT _ _ hS) hSt hl.1 rfl (Nat.le_of_ble_eq_true rfl) d_L_law_599 ⟨hc.1, hc.2⟩) hD hS hA (fun r9 w9 H locs hp9 hP hD hS => ?_)
  obtain ⟨rfl, rfl⟩ := hp9
  have hP : va_P D classes (wdC ad cI cZ cL J rd pr G K (wdM ad cI cZ cL J rd pr M ov)) H := hP
  have hD : va_D A (wdC ad cI cZ cL J rd pr G K (wdM ad cI cZ cL J rd pr M ov)) := hD
  refine W.eq (g2 := F0 m 602 ls [.int (iZ ((1 : Nat) : Int))]) rfl ?_
  refine lv_istore (lv' := [(5, .int (iZ ((1 : Nat) : Int))), (4, .int (iZ ((i : Nat) : Int))), (0, .ref (sb)), (1, .ref (ad 0)), (2, .ref (ad 19)), (3, .ref (ad 33))]) hx hb d_L_law_602 hl (by decide) rfl (fun ls hl => ?_)
  refine lv_aload_n hx hb d_L_law_604 rfl (lv_at hl 4 rfl) ?_
  refine lv_aload_n hx hb d_L_law_605 rfl (lv_at hl 2 rfl) ?_
  refine lv_iload hx hb d_L_law_606 (lv_at hl 1 rfl) ?_
  refine lv_iconst (v := iZ ((1 : Nat) : Int)) hx hb d_L_law_608 (by decide) ?_
  refine z_iaddN (u := i) (v := 1) hx hb d_L_law_609 ?_
  refine z_sld (v := iZ (a)) hx hb hX hbl hbA hS (i + 1) (by omega) ha1 d_L_law_610 ?_
  refine z_ki (z_runV (As := [.int (iZ (a))]) (rest := []) zTB Z (k_M_keptx1 hI hM (a := a) h) ⟨ml_L_129, im_M_kept, se_M_kept, ini_M, co_M_kept⟩ zd_M_kept ⟨Nat.le_of_ble_eq_true rfl, Nat.le_of_ble_eq_true rfl⟩ hP hK hD (ci := 5) (q0 := 19) rfl rfl rfl hl.1 rfl (Nat.le_of_ble_eq_true rfl) d_L_law_611 ⟨hc.1, hc.2⟩) hD hS hA (fun r9 w9 H locs hp9 hP hD hS => ?_)
  obtain ⟨M1, rfl, hc1, hM1⟩ := hp9
  have hP : va_P D classes (wdC ad cI cZ cL J rd pr G K (wdM ad cI cZ cL J rd pr M1 ov)) H := hP
  have hD : va_D A (wdC ad cI cZ cL J rd pr G K (wdM ad cI cZ cL J rd pr M1 ov)) := hD
  refine W.eq (g2 := F0 m 614 ls [.int (r9)]) rfl ?_
  refine lv_istore (lv' := [(6, .int (r9)), (5, .int (iZ ((1 : Nat) : Int))), (4, .int (iZ ((i : Nat) : Int))), (0, .ref (sb)), (1, .ref (ad 0)), (2, .ref (ad 19)), (3, .ref (ad 33))]) hx hb d_L_law_614 hl (by decide) rfl (fun ls hl => ?_)
  refine lv_aload_n hx hb d_L_law_616 rfl (lv_at hl 5 rfl) ?_
  refine z_callVR (As := []) (rest := []) zTB Z (k_M_thrown) ⟨ml_L_101, im_M_thrown, se_M_thrown, ini_M, co_M_thrown⟩ zd_M_thrown ⟨Nat.le_of_ble_eq_true rfl, Nat.le_of_ble_eq_true rfl⟩ hP hK (ci := 5) (q0 := 19) rfl rfl rfl hl.1 rfl (Nat.le_of_ble_eq_true rfl) d_L_law_617 ⟨hc.1, hc.2⟩ ?_
  refine W.eq (g2 := F0 m 620 ls [.int (iZ ((M1.1 : Nat) : Int))]) rfl ?_
  refine z_topZ (b := ((1 : Nat) : Int)) (by rw [hc1]) ?_
  refine lv_iload hx hb d_L_law_620 (lv_at hl 1 rfl) ?_
  refine z_icmp_eq (a := ((1 : Nat) : Int)) (b := ((1 : Nat) : Int)) (tgt := 627) hx hb (by omega) d_L_law_622 (by decide) (fun q622 => ?_) (fun q622 => ?_)
  · skip
    refine lv_iload hx hb d_L_law_627 (lv_at hl 1 rfl) ?_
    refine z_if_ne (a := ((1 : Nat) : Int)) (tgt := 644) hx hb (by omega) d_L_law_629 (by decide) (fun q629 => ?_) (fun q629 => ?_)
    · skip
      refine lv_goto (tgt := 1598) hx hb d_L_law_644 (by decide) ?_
      exact kk J _ _ _ _ _ _ H locs ls ⟨hI, hM1, hR, hpq⟩ hP hD hS (lv_sub hl [2, 3, 4, 5, 6] rfl)
    · skip
      exfalso; omega
  · skip
    exfalso; omega

