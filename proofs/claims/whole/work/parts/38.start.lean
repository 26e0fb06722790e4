/-- rows of the Statement, found in its lists -/
theorem z4_1 : Cond.isRef (.static Bundle.tN "UNASSIGNED_STACK" Bundle.steD) ∈ flatC (Jvm.Cond.and given_1 narrow_1) := by decide +kernel
theorem z4_2 : Cond.isRef (.static Bundle.tN "SUPPRESSED_SENTINEL" Bundle.listD) ∈ flatC (Jvm.Cond.and given_1 narrow_1) := by decide +kernel
theorem z4_3 : Cond.laysStatic Bundle.tN "UNASSIGNED_STACK" Bundle.steD ∈ lw_tbl := by decide +kernel
theorem z4_4 : Cond.laysStatic Bundle.tN "SUPPRESSED_SENTINEL" Bundle.listD ∈ lw_tbl := by decide +kernel
theorem zR_1 : Cond.stringRef n_D 179 "there is no such one" ∈ lw_tbl := by decide +kernel
theorem zR_2 : Cond.stringRef n_D 52 "there are 32 hauls" ∈ lw_tbl := by decide +kernel
theorem zR_3 : Cond.stringRef n_D 184 "a number is not as said" ∈ lw_tbl := by decide +kernel
theorem zX_1 : Cond.exactly (.string n_D 179) "java/lang/String" ∈ flatC (Jvm.Cond.and given_1 narrow_1) := by decide +kernel
theorem zX_2 : Cond.exactly (.string n_D 52) "java/lang/String" ∈ flatC (Jvm.Cond.and given_1 narrow_1) := by decide +kernel
theorem zX_3 : Cond.exactly (.string n_D 184) "java/lang/String" ∈ flatC (Jvm.Cond.and given_1 narrow_1) := by decide +kernel
theorem zNot_in : ∀ w ∈ zNot, w ∈ flatC (Jvm.Cond.and given_1 narrow_1) := by decide +kernel
theorem zS_1 {s : State} {a : Array Value} {k : Nat} {t : String} (h1 : (Cond.stringRef n_D k t).before a s = true) (h2 : (Cond.exactly (.string n_D k) "java/lang/String").before a s = true) : ∃ q : Nat, vk_R n_D k t q s := by
  obtain ⟨q, c9, cell9, k9, h3, -⟩ := Cond.exactly_spec h2
  exact ⟨q, vk_R.of h1 h3⟩
/-! THE CLAIM OUT OF ONE WALK OF THE LAW'S BODY. Your part is whole_start (and what it stands on); all else here is the same for every law, but numbers. -/
def R_law : String := "DeviceTrialsLaw"
def lw_P (b : Addr) (xs : List Int32) (args : Array Value) (s : State) : Prop := args = #[.ref b] ∧ s.IntsAt b xs ∧ xs.length ≤ 2561 ∧ (Jvm.Cond.and given_1 narrow_1).before args s = true
def lw_Q (_ : Array Value) (s : State) (o : Outcome) (t : State) : Prop := o = .returned (some (.int 1)) ∧ Framed s o t [] 1061 9679
def lw_Z (below : List Frame) (a : Array Value) (s : State) : State → Prop := fun t => ∃ o, t.status = .running ∧ Ended t below o ∧ lw_Q a s o t
/-- the law's own end, with 1 on the stack, nothing written that was there before, its room as the claim has it -/
theorem lw_ret {p : Program} {l : Launch} {e : Env} {s : State} {m : MethodId} {below : List Frame} {meth : Method} {c : Code} {b : Nat} (hx : p.tables.exec = Jvm.exec) (hb : c.code = code) (hr : meth.sig.returnType = ret) (hlocks : meth.locks = false) {pc : Nat} {H : Heap} {ls : Array Slot} (hdg : decode code pc = .ok (.ireturn, 1)) : W p l e room_1 s m #[Value.ref b] below meth c H [] 1061 9679 (lw_Z below #[Value.ref b] s) (F0 m pc ls [.int 1]) := by
  intro T hT X
  obtain ⟨fs, hret, hrun, hended, hW, hframe⟩ := X.leave (v := some (.int 1)) (hlocks := hlocks) (fun h => by rw [hr] at h; cases h)
  have hmeth' : T.vm.method? m = some meth := X.method'
  refine ⟨T.setFrames fs, ?_, .returned (some (.int 1)), hrun, hended, rfl, ⟨_, rfl⟩, hW, hframe⟩
  jvm_step X.here [X.here.top, hx, hb, hdg, hmeth', hr, ret, narrow_b1]
  (try refine ⟨rfl, ?_⟩); (try refine ⟨rfl, ?_⟩)
  first | (intro acts; rw [hret _ acts rfl rfl rfl]) | rw [hret _ _ rfl rfl rfl]
  exact Steps.refl _
/-- what holds at the law's entry: the machine, the code, the tables' words (any of lw_tbl by 'hts w (by decide +kernel)'), the script of L ints xs at the cell b, what the Statement gives of the start (any of its parts by flat_of_before) -/
def lw_At (p : Program) (s : State) (m : MethodId) (meth : Method) (c : Code) (b L : Nat) (xs : Nat → Int32) : Prop :=
  p.tables.exec = Jvm.exec ∧ c.code = code ∧ meth.sig.returnType = ret ∧ c.maxLocals = 8 ∧ s.vm.findClass R_law = some m.cls ∧ (∀ w ∈ lw_tbl, w.before #[Value.ref b] s = true) ∧ va_X b L xs s s.heap ∧ b < s.heap.size ∧ meth.locks = false ∧ (Jvm.Cond.and given_1 narrow_1).before #[Value.ref b] s = true
set_option maxHeartbeats 4000000 in
set_option maxRecDepth 100000 in
/-- the law, from its entry -/
theorem whole_start {p : Program} {e : Env} {s : State} {m : MethodId} {below : List Frame} {meth : Method} {c : Code} (l : Launch) (hl0 : l.stackTraces = false) {b L : Nat} {xs : Nat → Int32} (hL : L ≤ 2561) (C0 : lw_At p s m meth c b L xs) : W p l e room_1 s m #[Value.ref b] below meth c s.heap [] 0 0 (lw_Z below #[Value.ref b] s) (entryFrame m ([Value.ref b] : List Value).toArray 8) := by
  obtain ⟨hx, hb, hr, hml, hown, hts0, hX, hbl, hlocks, hgv⟩ := id C0
  have hfl := flat_of_before _ hgv
  have hnot : ∀ w ∈ zNot, w.before #[Value.ref b] s = true := fun w hw => hfl w (zNot_in w hw)
  have hE : zE TB s := fun w hw a => by
    obtain ⟨h1, h2⟩ := List.mem_filter.mp hw
    exact zst_warm h2 (State.WarmedH.refl s) ((List.mem_append.mp h1).elim (fun q => hts0 w q) (fun q => hnot w q)) a
  have Z : zC p s m meth c c_L_law 8 (some .boolean) n_L #[Value.ref b] TB := ⟨hx, hb, hr, hml, hown, fun w hw => hE w hw _, hE, hlocks⟩
  obtain ⟨-, -, -, -, -, hts, -, -⟩ := id Z
  have hbA : ¬ (fun q : Nat => s.heap.size ≤ q) b := Nat.not_le.mpr hbl
  have h4 : ∀ w ∈ z4, w.before #[Value.ref b] s = true := List.forall_mem_cons.mpr ⟨hfl _ z4_1, List.forall_mem_cons.mpr ⟨hfl _ z4_2, List.forall_mem_cons.mpr ⟨hts0 _ z4_3, List.forall_mem_cons.mpr ⟨hts0 _ z4_4, fun _ h => absurd h List.not_mem_nil⟩⟩⟩⟩
  have hSt : zS s := List.forall_mem_cons.mpr ⟨zS_1 (hts0 _ zR_1) (hfl _ zX_1), List.forall_mem_cons.mpr ⟨zS_1 (hts0 _ zR_2) (hfl _ zX_2), List.forall_mem_cons.mpr ⟨zS_1 (hts0 _ zR_3) (hfl _ zX_3), fun _ h => absurd h List.not_mem_nil⟩⟩⟩
  obtain ⟨cI, hI1, hI2⟩ := arr_of (hts _ arr_int)
  obtain ⟨cZ, hZ1, hZ2⟩ := arr_of (hts _ arr_boolean)
  obtain ⟨cL, hL1, hL2⟩ := arr_of (hts _ arr_long)
  obtain ⟨c0, i0, hN0⟩ := u_known (C := n_D) (T := f_D) (N := 5) (n := 5) hts in_D (hts _ ins_D)
  obtain ⟨c1, i1, hN1⟩ := u_known (C := n_J) (T := f_J) (N := 10) (n := 10) hts in_J (hts _ ins_J)
  obtain ⟨c2, i2, hN2⟩ := u_known (C := n_C) (T := f_C) (N := 1) (n := 1) hts in_C (hts _ ins_C)
  obtain ⟨c3, i3, hN3⟩ := u_known (C := n_H) (T := f_H) (N := 6) (n := 6) hts in_H (hts _ ins_H)
  obtain ⟨c4, i4, hN4⟩ := u_known (C := n_K) (T := f_K) (N := 4) (n := 4) hts in_K (hts _ ins_K)
  obtain ⟨c5, i5, hN5⟩ := u_known (C := n_M) (T := f_M) (N := 17) (n := 17) hts in_M (hts _ ins_M)
  obtain ⟨D, hKc⟩ : ∃ D : va_G, ∀ (k : Nat) (q : vw_C), classes[k]? = some q → u_Kn s q.1 q.2.1 q.2.2 (D.1 k) (D.2 k) := by
    refine ⟨(fun k => if k = 0 then c0 else if k = 1 then c1 else if k = 2 then c2 else if k = 3 then c3 else if k = 4 then c4 else c5, fun k => if k = 0 then i0 else if k = 1 then i1 else if k = 2 then i2 else if k = 3 then i3 else if k = 4 then i4 else i5), ?_⟩
    intro k q hq
    match k, hq with
    | 0, hq => cases hq; exact hN0
    | 1, hq => cases hq; exact hN1
    | 2, hq => cases hq; exact hN2
    | 3, hq => cases hq; exact hN3
    | 4, hq => cases hq; exact hN4
    | 5, hq => cases hq; exact hN5
    | k + 6, hq => simp [classes] at hq
  have hK : va_K D classes (tysW cI cZ cL) s := ⟨hKc, fun k q hq => by
    match k, hq with
    | 0, hq => cases hq; exact ⟨hI1, hI2⟩
    | 1, hq => cases hq; exact ⟨hZ1, hZ2⟩
    | 2, hq => cases hq; exact ⟨hL1, hL2⟩
    | k + 3, hq => simp at hq⟩
  obtain ⟨A, hAe⟩ : ∃ A : Nat → Prop, A = fun q : Nat => s.heap.size ≤ q := ⟨_, rfl⟩
  have hA : ∀ q : Nat, s.heap.size ≤ q → A q := fun q h => by rw [hAe]; exact h
  rw [← hAe] at hbA
  have hX9 : LX p l s m meth c b L xs D cI cZ cL A := ⟨hl0, Z, hX, hbl, hK, hA, hbA, fun H locs hS => zT_of h4 (fun q hq => hS.2.1 q hq (by rw [hAe]; exact Nat.not_le.mpr hq)), hSt, hL⟩
  have hexit : ∀ (H : Heap) (locs : List Loc) (cells slots : Nat) (ls : Array Slot), va_S A s.heap H locs → cells ≤ 1061 → slots ≤ 9679 → W p l e room_1 s m #[Value.ref b] below meth c H locs cells slots (lw_Z below #[Value.ref b] s) (F0 m 1604 ls []) := by
    intro H locs cells slots ls hS h1 h2
    refine va_forget (fun q hq => by have := hS.2.2 q hq; rw [hAe] at this; exact this) ?_
    refine W.widen h1 h2 ?_
    refine lv_iconst (v := 1) hx hb d_L_law_1604 (by decide) ?_
    exact lw_ret hx hb hr hlocks d_L_law_1605
  have hS : va_S A s.heap s.heap [] := va_S.rf
  have hP : va_P D classes [] s.heap := fun k q h => by simp at h
  have hD : va_D A [] := ⟨fun i j p q h => by simp at h, fun k q h => by simp at h⟩
  have hsd := sd0_32 L xs
  have hl := lv_entry ([.ref b]) (n := 8) (Nat.le_of_ble_eq_true rfl)
  rw [lg_entry_eq]
  generalize (lg_sl ([.ref b]) ++ List.replicate (8 - (lg_sl ([.ref b])).length) Slot.unset).toArray = ls at hl ⊢
  have hl : lv_has ls 8 [(0, .ref (b))] := hl
  suffices K9 : ∀ (H : Heap) (locs : List Loc), va_P D classes [] H → va_D A [] → va_S A s.heap H locs → W p l e room_1 s m #[Value.ref b] below meth c H locs 0 0 (lw_Z below #[Value.ref b] s) (F0 m 0 ls []) from K9 s.heap [] hP hD hS
  clear hP hD hS
  intro H locs hP hD hS
  refine va_new (ci := 0) (fs := [.null, .null, .null, .null, .null]) (C := n_D) (T := f_D) (N := 5) hx hb hts in_D ty_D tyo_D hown (hts _ kl_L_8) (hts _ ins_D) (hts _ ini_D) hK hP hD hS hA rfl df_D (Nat.le_of_ble_eq_true rfl) (Nat.le_of_ble_eq_true rfl) d_L_law_0 (fun q0 H hP hD hS => ?_)
  have hP : va_P D classes [(q0, .inr (0, [.null, .null, .null, .null, .null]))] H := hP
  have hD : va_D A [(q0, .inr (0, [.null, .null, .null, .null, .null]))] := hD
  refine lv_dup hx hb d_L_law_3 rfl ?_
  refine lv_aload_n hx hb d_L_law_4 rfl (lv_at hl 0 rfl) ?_
  refine lv_iconst (v := iZ ((0 : Nat) : Int)) hx hb d_L_law_5 (by decide) ?_
  refine z_cell Z ml_L_85 hL hX hbl hbA hS ⟨Nat.le_of_ble_eq_true rfl, Nat.le_of_ble_eq_true rfl⟩ hl.1 (Nat.le_of_ble_eq_true rfl) d_L_law_6 ⟨Nat.le_of_ble_eq_true rfl, Nat.le_of_ble_eq_true rfl⟩ ?_
  have hPc := hP.sub (ws' := [(q0, .inr (0, [.null, .null, .null, .null, .null]))]) [0] rfl
  have hDc := hD.sub (ws' := [(q0, .inr (0, [.null, .null, .null, .null, .null]))]) [0] (by decide) rfl
  have hFc := va_free (wc := [(q0, .inr (0, [.null, .null, .null, .null, .null]))]) hD hS hA [0] rfl
  refine va_callv (z_runI (As := [.int (iZ (sd0 L xs))]) (rest := [.ref (q0)]) Z (k_D_init (sd := sd0 L xs) (by omega)) ⟨ml_L_91, im_D_init, ini_D, co_D_init⟩ rfl zd_D_init ⟨Nat.le_of_ble_eq_true rfl, Nat.le_of_ble_eq_true rfl⟩ hPc hK hDc hl.1 rfl (Nat.le_of_ble_eq_true rfl) d_L_law_9 ⟨Nat.le_of_ble_eq_true rfl, Nat.le_of_ble_eq_true rfl⟩) hS (fun q _ h => hFc q h) hFc (fun u9 t9 H1 locs ht9 hvm9 hw9 hB9 hz9 hk9 hS => ?_)
  obtain ⟨q1, q2, q3, q4, q5, q6, q7, q8, q9, q10, q11, q12, q13, q14, q15, q16, q17, q18, rfl⟩ := hw9
  obtain ⟨hP9, hD9⟩ := hB9
  rw [ht9] at hP9
  obtain ⟨hP, hD⟩ := va_join (wr := []) (w1 := [(q0, .inr (0, [.ref (q1), .ref (q9), .ref (q11), .ref (q16), .ref (q18)])), (q1, .inr (1, [.long (lZ (sd0 L xs)), .int (iZ ((0 : Nat) : Int)), .int (iZ ((0 : Nat) : Int)), .ref (q2), .ref (q3), .ref (q4), .ref (q5), .ref (q6), .ref (q7), .ref (q8)])), (q2, .inl (cI, 4, .inl (zA (rf 4)))), (q3, .inl (cZ, 4, .inl (zB (fun _ => false)))), (q4, .inl (cZ, 32, .inl (zB (fun _ => false)))), (q5, .inl (cI, 96, .inl (zN (fun _ => 0)))), (q6, .inl (cI, 16, .inl (zN (fun _ => 0)))), (q7, .inl (cI, 16, .inl (zN (fun _ => 0)))), (q8, .inl (cI, 16, .inl (zN (fun _ => 0)))), (q9, .inr (2, [.ref (q10)])), (q10, .inl (cI, 64, .inl (zA (rf 64)))), (q11, .inr (3, [.ref (q12), .int (iZ ((0 : Nat) : Int)), .int (iZ ((0 : Int))), .ref (q13), .ref (q14), .ref (q15)])), (q12, .inl (cI, 16, .inl (zA (fun _ => 0)))), (q13, .inl (cI, 256, .inl (zA (fun _ => 0)))), (q14, .inl (cI, 256, .inl (zA (fun _ => 0)))), (q15, .inl (cI, 256, .inl (zA (fun _ => 0)))), (q16, .inr (4, [.ref (q17), .int (iZ ((1 : Nat) : Int)), .long (lZ ((0 : Nat) : Int)), .long (lZ ((1 : Nat) : Int))])), (q17, .inl (cL, 33, .inr (.inl (zLN (fun _ => 0))))), (q18, .inl (cI, 3, .inl (zN (fun _ => 0))))]) hP hD [0] [] rfl rfl (by decide) (by decide) hk9 hFc hP9 hD9
  generalize H1 = H at hP hS ⊢
  have hP : va_P D classes [(q0, .inr (0, [.ref (q1), .ref (q9), .ref (q11), .ref (q16), .ref (q18)])), (q1, .inr (1, [.long (lZ (sd0 L xs)), .int (iZ ((0 : Nat) : Int)), .int (iZ ((0 : Nat) : Int)), .ref (q2), .ref (q3), .ref (q4), .ref (q5), .ref (q6), .ref (q7), .ref (q8)])), (q2, .inl (cI, 4, .inl (zA (rf 4)))), (q3, .inl (cZ, 4, .inl (zB (fun _ => false)))), (q4, .inl (cZ, 32, .inl (zB (fun _ => false)))), (q5, .inl (cI, 96, .inl (zN (fun _ => 0)))), (q6, .inl (cI, 16, .inl (zN (fun _ => 0)))), (q7, .inl (cI, 16, .inl (zN (fun _ => 0)))), (q8, .inl (cI, 16, .inl (zN (fun _ => 0)))), (q9, .inr (2, [.ref (q10)])), (q10, .inl (cI, 64, .inl (zA (rf 64)))), (q11, .inr (3, [.ref (q12), .int (iZ ((0 : Nat) : Int)), .int (iZ ((0 : Int))), .ref (q13), .ref (q14), .ref (q15)])), (q12, .inl (cI, 16, .inl (zA (fun _ => 0)))), (q13, .inl (cI, 256, .inl (zA (fun _ => 0)))), (q14, .inl (cI, 256, .inl (zA (fun _ => 0)))), (q15, .inl (cI, 256, .inl (zA (fun _ => 0)))), (q16, .inr (4, [.ref (q17), .int (iZ ((1 : Nat) : Int)), .long (lZ ((0 : Nat) : Int)), .long (lZ ((1 : Nat) : Int))])), (q17, .inl (cL, 33, .inr (.inl (zLN (fun _ => 0))))), (q18, .inl (cI, 3, .inl (zN (fun _ => 0))))] H := hP
  have hD : va_D A [(q0, .inr (0, [.ref (q1), .ref (q9), .ref (q11), .ref (q16), .ref (q18)])), (q1, .inr (1, [.long (lZ (sd0 L xs)), .int (iZ ((0 : Nat) : Int)), .int (iZ ((0 : Nat) : Int)), .ref (q2), .ref (q3), .ref (q4), .ref (q5), .ref (q6), .ref (q7), .ref (q8)])), (q2, .inl (cI, 4, .inl (zA (rf 4)))), (q3, .inl (cZ, 4, .inl (zB (fun _ => false)))), (q4, .inl (cZ, 32, .inl (zB (fun _ => false)))), (q5, .inl (cI, 96, .inl (zN (fun _ => 0)))), (q6, .inl (cI, 16, .inl (zN (fun _ => 0)))), (q7, .inl (cI, 16, .inl (zN (fun _ => 0)))), (q8, .inl (cI, 16, .inl (zN (fun _ => 0)))), (q9, .inr (2, [.ref (q10)])), (q10, .inl (cI, 64, .inl (zA (rf 64)))), (q11, .inr (3, [.ref (q12), .int (iZ ((0 : Nat) : Int)), .int (iZ ((0 : Int))), .ref (q13), .ref (q14), .ref (q15)])), (q12, .inl (cI, 16, .inl (zA (fun _ => 0)))), (q13, .inl (cI, 256, .inl (zA (fun _ => 0)))), (q14, .inl (cI, 256, .inl (zA (fun _ => 0)))), (q15, .inl (cI, 256, .inl (zA (fun _ => 0)))), (q16, .inr (4, [.ref (q17), .int (iZ ((1 : Nat) : Int)), .long (lZ ((0 : Nat) : Int)), .long (lZ ((1 : Nat) : Int))])), (q17, .inl (cL, 33, .inr (.inl (zLN (fun _ => 0))))), (q18, .inl (cI, 3, .inl (zN (fun _ => 0))))] := hD
  refine W.eq (g2 := F0 m 12 ls [.ref (q0)]) rfl ?_
  refine lv_astore_n (lv' := [(1, .ref (q0)), (0, .ref (b))]) hx hb d_L_law_12 rfl hl (by decide) rfl (fun ls hl => ?_)
  refine va_new (ci := 5) (fs := [.int 0, .long 0, .int 0, .null, .null, .null, .null, .null, .int 0, .null, .null, .null, .null, .null, .null, .null, .null]) (C := n_M) (T := f_M) (N := 17) hx hb hts in_M ty_M tyo_M hown (hts _ kl_L_94) (hts _ ins_M) (hts _ ini_M) hK hP hD hS hA rfl df_M (Nat.le_of_ble_eq_true rfl) (Nat.le_of_ble_eq_true rfl) d_L_law_13 (fun q19 H hP hD hS => ?_)
  have hP : va_P D classes [(q0, .inr (0, [.ref (q1), .ref (q9), .ref (q11), .ref (q16), .ref (q18)])), (q1, .inr (1, [.long (lZ (sd0 L xs)), .int (iZ ((0 : Nat) : Int)), .int (iZ ((0 : Nat) : Int)), .ref (q2), .ref (q3), .ref (q4), .ref (q5), .ref (q6), .ref (q7), .ref (q8)])), (q2, .inl (cI, 4, .inl (zA (rf 4)))), (q3, .inl (cZ, 4, .inl (zB (fun _ => false)))), (q4, .inl (cZ, 32, .inl (zB (fun _ => false)))), (q5, .inl (cI, 96, .inl (zN (fun _ => 0)))), (q6, .inl (cI, 16, .inl (zN (fun _ => 0)))), (q7, .inl (cI, 16, .inl (zN (fun _ => 0)))), (q8, .inl (cI, 16, .inl (zN (fun _ => 0)))), (q9, .inr (2, [.ref (q10)])), (q10, .inl (cI, 64, .inl (zA (rf 64)))), (q11, .inr (3, [.ref (q12), .int (iZ ((0 : Nat) : Int)), .int (iZ ((0 : Int))), .ref (q13), .ref (q14), .ref (q15)])), (q12, .inl (cI, 16, .inl (zA (fun _ => 0)))), (q13, .inl (cI, 256, .inl (zA (fun _ => 0)))), (q14, .inl (cI, 256, .inl (zA (fun _ => 0)))), (q15, .inl (cI, 256, .inl (zA (fun _ => 0)))), (q16, .inr (4, [.ref (q17), .int (iZ ((1 : Nat) : Int)), .long (lZ ((0 : Nat) : Int)), .long (lZ ((1 : Nat) : Int))])), (q17, .inl (cL, 33, .inr (.inl (zLN (fun _ => 0))))), (q18, .inl (cI, 3, .inl (zN (fun _ => 0)))), (q19, .inr (5, [.int 0, .long 0, .int 0, .null, .null, .null, .null, .null, .int 0, .null, .null, .null, .null, .null, .null, .null, .null]))] H := hP
  have hD : va_D A [(q0, .inr (0, [.ref (q1), .ref (q9), .ref (q11), .ref (q16), .ref (q18)])), (q1, .inr (1, [.long (lZ (sd0 L xs)), .int (iZ ((0 : Nat) : Int)), .int (iZ ((0 : Nat) : Int)), .ref (q2), .ref (q3), .ref (q4), .ref (q5), .ref (q6), .ref (q7), .ref (q8)])), (q2, .inl (cI, 4, .inl (zA (rf 4)))), (q3, .inl (cZ, 4, .inl (zB (fun _ => false)))), (q4, .inl (cZ, 32, .inl (zB (fun _ => false)))), (q5, .inl (cI, 96, .inl (zN (fun _ => 0)))), (q6, .inl (cI, 16, .inl (zN (fun _ => 0)))), (q7, .inl (cI, 16, .inl (zN (fun _ => 0)))), (q8, .inl (cI, 16, .inl (zN (fun _ => 0)))), (q9, .inr (2, [.ref (q10)])), (q10, .inl (cI, 64, .inl (zA (rf 64)))), (q11, .inr (3, [.ref (q12), .int (iZ ((0 : Nat) : Int)), .int (iZ ((0 : Int))), .ref (q13), .ref (q14), .ref (q15)])), (q12, .inl (cI, 16, .inl (zA (fun _ => 0)))), (q13, .inl (cI, 256, .inl (zA (fun _ => 0)))), (q14, .inl (cI, 256, .inl (zA (fun _ => 0)))), (q15, .inl (cI, 256, .inl (zA (fun _ => 0)))), (q16, .inr (4, [.ref (q17), .int (iZ ((1 : Nat) : Int)), .long (lZ ((0 : Nat) : Int)), .long (lZ ((1 : Nat) : Int))])), (q17, .inl (cL, 33, .inr (.inl (zLN (fun _ => 0))))), (q18, .inl (cI, 3, .inl (zN (fun _ => 0)))), (q19, .inr (5, [.int 0, .long 0, .int 0, .null, .null, .null, .null, .null, .int 0, .null, .null, .null, .null, .null, .null, .null, .null]))] := hD
  refine lv_dup hx hb d_L_law_16 rfl ?_
  refine lv_aload_n hx hb d_L_law_17 rfl (lv_at hl 1 rfl) ?_
  refine lv_iconst (v := iZ ((0 : Nat) : Int)) hx hb d_L_law_18 (by decide) ?_
  refine z_cell Z ml_L_85 hL hX hbl hbA hS ⟨Nat.le_of_ble_eq_true rfl, Nat.le_of_ble_eq_true rfl⟩ hl.1 (Nat.le_of_ble_eq_true rfl) d_L_law_19 ⟨Nat.le_of_ble_eq_true rfl, Nat.le_of_ble_eq_true rfl⟩ ?_
  have hPc := hP.sub (ws' := [(q19, .inr (5, [.int 0, .long 0, .int 0, .null, .null, .null, .null, .null, .int 0, .null, .null, .null, .null, .null, .null, .null, .null]))]) [19] rfl
  have hDc := hD.sub (ws' := [(q19, .inr (5, [.int 0, .long 0, .int 0, .null, .null, .null, .null, .null, .int 0, .null, .null, .null, .null, .null, .null, .null, .null]))]) [19] (by decide) rfl
  have hFc := va_free (wc := [(q19, .inr (5, [.int 0, .long 0, .int 0, .null, .null, .null, .null, .null, .int 0, .null, .null, .null, .null, .null, .null, .null, .null]))]) hD hS hA [19] rfl
  refine va_callv (z_runI (As := [.int (iZ (sd0 L xs))]) (rest := [.ref (q19)]) Z (k_M_init (sd := sd0 L xs) (by omega)) ⟨ml_L_96, im_M_init, ini_M, co_M_init⟩ rfl zd_M_init ⟨Nat.le_of_ble_eq_true rfl, Nat.le_of_ble_eq_true rfl⟩ hPc hK hDc hl.1 rfl (Nat.le_of_ble_eq_true rfl) d_L_law_22 ⟨Nat.le_of_ble_eq_true rfl, Nat.le_of_ble_eq_true rfl⟩) hS (fun q _ h => hFc q h) hFc (fun u9 t9 H1 locs ht9 hvm9 hw9 hB9 hz9 hk9 hS => ?_)
  obtain ⟨q20, q21, q22, q23, q24, q25, q26, q27, q28, q29, q30, q31, q32, rfl⟩ := hw9
  obtain ⟨hP9, hD9⟩ := hB9
  rw [ht9] at hP9
  obtain ⟨hP, hD⟩ := va_join (wr := [(q0, .inr (0, [.ref (q1), .ref (q9), .ref (q11), .ref (q16), .ref (q18)])), (q1, .inr (1, [.long (lZ (sd0 L xs)), .int (iZ ((0 : Nat) : Int)), .int (iZ ((0 : Nat) : Int)), .ref (q2), .ref (q3), .ref (q4), .ref (q5), .ref (q6), .ref (q7), .ref (q8)])), (q2, .inl (cI, 4, .inl (zA (rf 4)))), (q3, .inl (cZ, 4, .inl (zB (fun _ => false)))), (q4, .inl (cZ, 32, .inl (zB (fun _ => false)))), (q5, .inl (cI, 96, .inl (zN (fun _ => 0)))), (q6, .inl (cI, 16, .inl (zN (fun _ => 0)))), (q7, .inl (cI, 16, .inl (zN (fun _ => 0)))), (q8, .inl (cI, 16, .inl (zN (fun _ => 0)))), (q9, .inr (2, [.ref (q10)])), (q10, .inl (cI, 64, .inl (zA (rf 64)))), (q11, .inr (3, [.ref (q12), .int (iZ ((0 : Nat) : Int)), .int (iZ ((0 : Int))), .ref (q13), .ref (q14), .ref (q15)])), (q12, .inl (cI, 16, .inl (zA (fun _ => 0)))), (q13, .inl (cI, 256, .inl (zA (fun _ => 0)))), (q14, .inl (cI, 256, .inl (zA (fun _ => 0)))), (q15, .inl (cI, 256, .inl (zA (fun _ => 0)))), (q16, .inr (4, [.ref (q17), .int (iZ ((1 : Nat) : Int)), .long (lZ ((0 : Nat) : Int)), .long (lZ ((1 : Nat) : Int))])), (q17, .inl (cL, 33, .inr (.inl (zLN (fun _ => 0))))), (q18, .inl (cI, 3, .inl (zN (fun _ => 0))))]) (w1 := [(q19, .inr (5, [.int (iZ ((0 : Nat) : Int)), .long (lZ (sd0 L xs)), .int (iZ ((0 : Nat) : Int)), .ref (q20), .ref (q21), .ref (q22), .ref (q23), .ref (q24), .int (iZ ((0 : Nat) : Int)), .ref (q25), .ref (q26), .ref (q27), .ref (q28), .ref (q29), .ref (q30), .ref (q31), .ref (q32)])), (q20, .inl (cI, 32, .inl (zN (fun _ => 0)))), (q21, .inl (cZ, 32, .inl (zB (fun _ => false)))), (q22, .inl (cI, 96, .inl (zN (fun _ => 0)))), (q23, .inl (cI, 4, .inl (zN (fun _ => 0)))), (q24, .inl (cI, 4, .inl (zN (fun _ => 0)))), (q25, .inl (cI, 16, .inl (zN (fun _ => 0)))), (q26, .inl (cI, 16, .inl (zN (fun _ => 0)))), (q27, .inl (cZ, 4, .inl (zB (fun _ => false)))), (q28, .inl (cI, 64, .inl (zA (rf 64)))), (q29, .inl (cI, 3, .inl (zN (fun _ => 0)))), (q30, .inl (cI, 16, .inl (zA (rf 0)))), (q31, .inl (cL, 35, .inr (.inl (zLN (fun _ => 0))))), (q32, .inl (cL, 35, .inr (.inl (zLN (fun _ => 0)))))]) hP hD [19] [0, 1, 2, 3, 4, 5, 6, 7, 8, 9, 10, 11, 12, 13, 14, 15, 16, 17, 18] rfl rfl (by decide) (by decide) hk9 hFc hP9 hD9
  generalize H1 = H at hP hS ⊢
  have hP : va_P D classes [(q0, .inr (0, [.ref (q1), .ref (q9), .ref (q11), .ref (q16), .ref (q18)])), (q1, .inr (1, [.long (lZ (sd0 L xs)), .int (iZ ((0 : Nat) : Int)), .int (iZ ((0 : Nat) : Int)), .ref (q2), .ref (q3), .ref (q4), .ref (q5), .ref (q6), .ref (q7), .ref (q8)])), (q2, .inl (cI, 4, .inl (zA (rf 4)))), (q3, .inl (cZ, 4, .inl (zB (fun _ => false)))), (q4, .inl (cZ, 32, .inl (zB (fun _ => false)))), (q5, .inl (cI, 96, .inl (zN (fun _ => 0)))), (q6, .inl (cI, 16, .inl (zN (fun _ => 0)))), (q7, .inl (cI, 16, .inl (zN (fun _ => 0)))), (q8, .inl (cI, 16, .inl (zN (fun _ => 0)))), (q9, .inr (2, [.ref (q10)])), (q10, .inl (cI, 64, .inl (zA (rf 64)))), (q11, .inr (3, [.ref (q12), .int (iZ ((0 : Nat) : Int)), .int (iZ ((0 : Int))), .ref (q13), .ref (q14), .ref (q15)])), (q12, .inl (cI, 16, .inl (zA (fun _ => 0)))), (q13, .inl (cI, 256, .inl (zA (fun _ => 0)))), (q14, .inl (cI, 256, .inl (zA (fun _ => 0)))), (q15, .inl (cI, 256, .inl (zA (fun _ => 0)))), (q16, .inr (4, [.ref (q17), .int (iZ ((1 : Nat) : Int)), .long (lZ ((0 : Nat) : Int)), .long (lZ ((1 : Nat) : Int))])), (q17, .inl (cL, 33, .inr (.inl (zLN (fun _ => 0))))), (q18, .inl (cI, 3, .inl (zN (fun _ => 0)))), (q19, .inr (5, [.int (iZ ((0 : Nat) : Int)), .long (lZ (sd0 L xs)), .int (iZ ((0 : Nat) : Int)), .ref (q20), .ref (q21), .ref (q22), .ref (q23), .ref (q24), .int (iZ ((0 : Nat) : Int)), .ref (q25), .ref (q26), .ref (q27), .ref (q28), .ref (q29), .ref (q30), .ref (q31), .ref (q32)])), (q20, .inl (cI, 32, .inl (zN (fun _ => 0)))), (q21, .inl (cZ, 32, .inl (zB (fun _ => false)))), (q22, .inl (cI, 96, .inl (zN (fun _ => 0)))), (q23, .inl (cI, 4, .inl (zN (fun _ => 0)))), (q24, .inl (cI, 4, .inl (zN (fun _ => 0)))), (q25, .inl (cI, 16, .inl (zN (fun _ => 0)))), (q26, .inl (cI, 16, .inl (zN (fun _ => 0)))), (q27, .inl (cZ, 4, .inl (zB (fun _ => false)))), (q28, .inl (cI, 64, .inl (zA (rf 64)))), (q29, .inl (cI, 3, .inl (zN (fun _ => 0)))), (q30, .inl (cI, 16, .inl (zA (rf 0)))), (q31, .inl (cL, 35, .inr (.inl (zLN (fun _ => 0))))), (q32, .inl (cL, 35, .inr (.inl (zLN (fun _ => 0)))))] H := hP
  have hD : va_D A [(q0, .inr (0, [.ref (q1), .ref (q9), .ref (q11), .ref (q16), .ref (q18)])), (q1, .inr (1, [.long (lZ (sd0 L xs)), .int (iZ ((0 : Nat) : Int)), .int (iZ ((0 : Nat) : Int)), .ref (q2), .ref (q3), .ref (q4), .ref (q5), .ref (q6), .ref (q7), .ref (q8)])), (q2, .inl (cI, 4, .inl (zA (rf 4)))), (q3, .inl (cZ, 4, .inl (zB (fun _ => false)))), (q4, .inl (cZ, 32, .inl (zB (fun _ => false)))), (q5, .inl (cI, 96, .inl (zN (fun _ => 0)))), (q6, .inl (cI, 16, .inl (zN (fun _ => 0)))), (q7, .inl (cI, 16, .inl (zN (fun _ => 0)))), (q8, .inl (cI, 16, .inl (zN (fun _ => 0)))), (q9, .inr (2, [.ref (q10)])), (q10, .inl (cI, 64, .inl (zA (rf 64)))), (q11, .inr (3, [.ref (q12), .int (iZ ((0 : Nat) : Int)), .int (iZ ((0 : Int))), .ref (q13), .ref (q14), .ref (q15)])), (q12, .inl (cI, 16, .inl (zA (fun _ => 0)))), (q13, .inl (cI, 256, .inl (zA (fun _ => 0)))), (q14, .inl (cI, 256, .inl (zA (fun _ => 0)))), (q15, .inl (cI, 256, .inl (zA (fun _ => 0)))), (q16, .inr (4, [.ref (q17), .int (iZ ((1 : Nat) : Int)), .long (lZ ((0 : Nat) : Int)), .long (lZ ((1 : Nat) : Int))])), (q17, .inl (cL, 33, .inr (.inl (zLN (fun _ => 0))))), (q18, .inl (cI, 3, .inl (zN (fun _ => 0)))), (q19, .inr (5, [.int (iZ ((0 : Nat) : Int)), .long (lZ (sd0 L xs)), .int (iZ ((0 : Nat) : Int)), .ref (q20), .ref (q21), .ref (q22), .ref (q23), .ref (q24), .int (iZ ((0 : Nat) : Int)), .ref (q25), .ref (q26), .ref (q27), .ref (q28), .ref (q29), .ref (q30), .ref (q31), .ref (q32)])), (q20, .inl (cI, 32, .inl (zN (fun _ => 0)))), (q21, .inl (cZ, 32, .inl (zB (fun _ => false)))), (q22, .inl (cI, 96, .inl (zN (fun _ => 0)))), (q23, .inl (cI, 4, .inl (zN (fun _ => 0)))), (q24, .inl (cI, 4, .inl (zN (fun _ => 0)))), (q25, .inl (cI, 16, .inl (zN (fun _ => 0)))), (q26, .inl (cI, 16, .inl (zN (fun _ => 0)))), (q27, .inl (cZ, 4, .inl (zB (fun _ => false)))), (q28, .inl (cI, 64, .inl (zA (rf 64)))), (q29, .inl (cI, 3, .inl (zN (fun _ => 0)))), (q30, .inl (cI, 16, .inl (zA (rf 0)))), (q31, .inl (cL, 35, .inr (.inl (zLN (fun _ => 0))))), (q32, .inl (cL, 35, .inr (.inl (zLN (fun _ => 0)))))] := hD
  refine W.eq (g2 := F0 m 25 ls [.ref (q19)]) rfl ?_
  refine lv_astore_n (lv' := [(2, .ref (q19)), (1, .ref (q0)), (0, .ref (b))]) hx hb d_L_law_25 rfl hl (by decide) rfl (fun ls hl => ?_)
  refine lv_iconst (v := iZ ((1 : Nat) : Int)) hx hb d_L_law_26 (by decide) ?_
  refine z_newa (atype := .long) (ty := .long) (a0 := (1, .inr (.inl (zLN (fun _ => 0))))) hx hb (hts _ arr_long) rfl hK hP hD hS hA 2 rfl (fun _ h9 => h9) (ha_LN 1) (by decide) cb_long (by decide) (Nat.le_of_ble_eq_true rfl) (Nat.le_of_ble_eq_true rfl) d_L_law_27 (fun q33 H hP hD hS => ?_)
  have hP : va_P D classes [(q0, .inr (0, [.ref (q1), .ref (q9), .ref (q11), .ref (q16), .ref (q18)])), (q1, .inr (1, [.long (lZ (sd0 L xs)), .int (iZ ((0 : Nat) : Int)), .int (iZ ((0 : Nat) : Int)), .ref (q2), .ref (q3), .ref (q4), .ref (q5), .ref (q6), .ref (q7), .ref (q8)])), (q2, .inl (cI, 4, .inl (zA (rf 4)))), (q3, .inl (cZ, 4, .inl (zB (fun _ => false)))), (q4, .inl (cZ, 32, .inl (zB (fun _ => false)))), (q5, .inl (cI, 96, .inl (zN (fun _ => 0)))), (q6, .inl (cI, 16, .inl (zN (fun _ => 0)))), (q7, .inl (cI, 16, .inl (zN (fun _ => 0)))), (q8, .inl (cI, 16, .inl (zN (fun _ => 0)))), (q9, .inr (2, [.ref (q10)])), (q10, .inl (cI, 64, .inl (zA (rf 64)))), (q11, .inr (3, [.ref (q12), .int (iZ ((0 : Nat) : Int)), .int (iZ ((0 : Int))), .ref (q13), .ref (q14), .ref (q15)])), (q12, .inl (cI, 16, .inl (zA (fun _ => 0)))), (q13, .inl (cI, 256, .inl (zA (fun _ => 0)))), (q14, .inl (cI, 256, .inl (zA (fun _ => 0)))), (q15, .inl (cI, 256, .inl (zA (fun _ => 0)))), (q16, .inr (4, [.ref (q17), .int (iZ ((1 : Nat) : Int)), .long (lZ ((0 : Nat) : Int)), .long (lZ ((1 : Nat) : Int))])), (q17, .inl (cL, 33, .inr (.inl (zLN (fun _ => 0))))), (q18, .inl (cI, 3, .inl (zN (fun _ => 0)))), (q19, .inr (5, [.int (iZ ((0 : Nat) : Int)), .long (lZ (sd0 L xs)), .int (iZ ((0 : Nat) : Int)), .ref (q20), .ref (q21), .ref (q22), .ref (q23), .ref (q24), .int (iZ ((0 : Nat) : Int)), .ref (q25), .ref (q26), .ref (q27), .ref (q28), .ref (q29), .ref (q30), .ref (q31), .ref (q32)])), (q20, .inl (cI, 32, .inl (zN (fun _ => 0)))), (q21, .inl (cZ, 32, .inl (zB (fun _ => false)))), (q22, .inl (cI, 96, .inl (zN (fun _ => 0)))), (q23, .inl (cI, 4, .inl (zN (fun _ => 0)))), (q24, .inl (cI, 4, .inl (zN (fun _ => 0)))), (q25, .inl (cI, 16, .inl (zN (fun _ => 0)))), (q26, .inl (cI, 16, .inl (zN (fun _ => 0)))), (q27, .inl (cZ, 4, .inl (zB (fun _ => false)))), (q28, .inl (cI, 64, .inl (zA (rf 64)))), (q29, .inl (cI, 3, .inl (zN (fun _ => 0)))), (q30, .inl (cI, 16, .inl (zA (rf 0)))), (q31, .inl (cL, 35, .inr (.inl (zLN (fun _ => 0))))), (q32, .inl (cL, 35, .inr (.inl (zLN (fun _ => 0))))), (q33, .inl (cL, 1, .inr (.inl (zLN (fun _ => 0)))))] H := hP
  have hD : va_D A [(q0, .inr (0, [.ref (q1), .ref (q9), .ref (q11), .ref (q16), .ref (q18)])), (q1, .inr (1, [.long (lZ (sd0 L xs)), .int (iZ ((0 : Nat) : Int)), .int (iZ ((0 : Nat) : Int)), .ref (q2), .ref (q3), .ref (q4), .ref (q5), .ref (q6), .ref (q7), .ref (q8)])), (q2, .inl (cI, 4, .inl (zA (rf 4)))), (q3, .inl (cZ, 4, .inl (zB (fun _ => false)))), (q4, .inl (cZ, 32, .inl (zB (fun _ => false)))), (q5, .inl (cI, 96, .inl (zN (fun _ => 0)))), (q6, .inl (cI, 16, .inl (zN (fun _ => 0)))), (q7, .inl (cI, 16, .inl (zN (fun _ => 0)))), (q8, .inl (cI, 16, .inl (zN (fun _ => 0)))), (q9, .inr (2, [.ref (q10)])), (q10, .inl (cI, 64, .inl (zA (rf 64)))), (q11, .inr (3, [.ref (q12), .int (iZ ((0 : Nat) : Int)), .int (iZ ((0 : Int))), .ref (q13), .ref (q14), .ref (q15)])), (q12, .inl (cI, 16, .inl (zA (fun _ => 0)))), (q13, .inl (cI, 256, .inl (zA (fun _ => 0)))), (q14, .inl (cI, 256, .inl (zA (fun _ => 0)))), (q15, .inl (cI, 256, .inl (zA (fun _ => 0)))), (q16, .inr (4, [.ref (q17), .int (iZ ((1 : Nat) : Int)), .long (lZ ((0 : Nat) : Int)), .long (lZ ((1 : Nat) : Int))])), (q17, .inl (cL, 33, .inr (.inl (zLN (fun _ => 0))))), (q18, .inl (cI, 3, .inl (zN (fun _ => 0)))), (q19, .inr (5, [.int (iZ ((0 : Nat) : Int)), .long (lZ (sd0 L xs)), .int (iZ ((0 : Nat) : Int)), .ref (q20), .ref (q21), .ref (q22), .ref (q23), .ref (q24), .int (iZ ((0 : Nat) : Int)), .ref (q25), .ref (q26), .ref (q27), .ref (q28), .ref (q29), .ref (q30), .ref (q31), .ref (q32)])), (q20, .inl (cI, 32, .inl (zN (fun _ => 0)))), (q21, .inl (cZ, 32, .inl (zB (fun _ => false)))), (q22, .inl (cI, 96, .inl (zN (fun _ => 0)))), (q23, .inl (cI, 4, .inl (zN (fun _ => 0)))), (q24, .inl (cI, 4, .inl (zN (fun _ => 0)))), (q25, .inl (cI, 16, .inl (zN (fun _ => 0)))), (q26, .inl (cI, 16, .inl (zN (fun _ => 0)))), (q27, .inl (cZ, 4, .inl (zB (fun _ => false)))), (q28, .inl (cI, 64, .inl (zA (rf 64)))), (q29, .inl (cI, 3, .inl (zN (fun _ => 0)))), (q30, .inl (cI, 16, .inl (zA (rf 0)))), (q31, .inl (cL, 35, .inr (.inl (zLN (fun _ => 0))))), (q32, .inl (cL, 35, .inr (.inl (zLN (fun _ => 0))))), (q33, .inl (cL, 1, .inr (.inl (zLN (fun _ => 0)))))] := hD
  refine lv_astore_n (lv' := [(3, .ref (q33)), (2, .ref (q19)), (1, .ref (q0)), (0, .ref (b))]) hx hb d_L_law_29 rfl hl (by decide) rfl (fun ls hl => ?_)
  refine lv_iconst (v := iZ ((1 : Nat) : Int)) hx hb d_L_law_30 (by decide) ?_
  refine lv_istore (lv' := [(4, .int (iZ ((1 : Nat) : Int))), (3, .ref (q33)), (2, .ref (q19)), (1, .ref (q0)), (0, .ref (b))]) hx hb d_L_law_31 hl (by decide) rfl (fun ls hl => ?_)
  rw [w34 q0 q1 q2 q3 q4 q5 q6 q7 q8 q9 q10 q11 q12 q13 q14 q15 q16 q17 q18 q19 q20 q21 q22 q23 q24 q25 q26 q27 q28 q29 q30 q31 q32 q33] at hP hD
  refine W.widen (k := 34 + 0) (n := 1469 + 6 * 0) (by decide) (by decide) ?_
  exact law_loop hX9 hexit 514 0 _ _ _ _ _ _ _ H locs ls (by omega) (by omega) (LI_0 _) hP hD hS (lv_sub hl [0, 4, 3, 2, 1] rfl)
set_option maxHeartbeats 4000000 in
theorem lw_walk (l : Launch) (hl0 : l.stackTraces = false) (b : Addr) (xs : List Int32) : MetFree l x (headSpec (Jvm.Cond.code x code maxLocals ret :: tables_1) room_1) (lw_P b xs) (fun _ _ _ _ _ => True) lw_Q := by
  refine MetFree.of_bodyS (code := code) (maxLocals := maxLocals) (ret := ret) (by decide) ?_ ?_
  · intro args s m h hn
    obtain ⟨meth, c, h1, h2, h3, h4, h5, h6, -, -⟩ := Cond.code_spec hn (atoms_spec (ws := Jvm.Cond.code x code maxLocals ret :: tables_1) h _ List.mem_cons_self)
    exact ⟨meth, c, h1, h2, h3, h4, h5, h6⟩
  · intro p e s m args below meth c s₁ B hml0 hP _
    obtain ⟨rfl, hx, hbd, hgv⟩ := hP
    obtain ⟨scr, harrAt, hlist, hof, hsmall⟩ := hx
    obtain ⟨hcb, hkn, -, -⟩ := State.arrayAt?_spec harrAt
    have hown : s.vm.findClass R_law = some m.cls := findClass_of_methodNamed B.named
    have hts0 : ∀ c ∈ (Jvm.Cond.code x code maxLocals ret :: tables_1), c.before #[Value.ref b] s = true := atoms_spec (ws := Jvm.Cond.code x code maxLocals ret :: tables_1) B.pre
    have hts : ∀ w ∈ lw_tbl, w.before #[Value.ref b] s = true := k2_hts_sels lw_privs (fun w hw => hts0 w (List.mem_cons_of_mem _ hw)) lw_privs_ok
    have hml : c.maxLocals = 8 := B.maxLocals_eq (hts0 _ List.mem_cons_self)
    have X₀ : Stand p l e room_1 s m #[Value.ref b] below meth c s₁ [] 0 0 := Stand.of_body B
    have hh0 : s₁.heap = s.heap := by rw [B.state]; rfl
    have hsz : scr.slots.size = xs.length := by rw [← Array.length_toList, hlist, List.length_map]
    have hval : ∀ j : Nat, j < xs.length → scr.slots[j]? = some (.int (xs.getD j 0)) := fun j hj => by
      rw [← Array.getElem?_toList, hlist]
      simp [hj]
    have hbl : b < s.heap.size := (Array.getElem?_eq_some_iff.mp hcb).1
    have hX : va_X b xs.length (fun j => xs.getD j 0) s s.heap := ⟨scr, hcb, hof, hkn, hsz, hval⟩
    have K : W p l e room_1 s m #[Value.ref b] below meth c s₁.heap [] 0 0 (lw_Z below #[Value.ref b] s) (entryFrame m ([Value.ref b] : List Value).toArray 8) := by
      rw [hh0]
      exact whole_start l hl0 hbd ⟨B.exec, B.bytes, B.returns, hml, hown, hts, hX, hbl, B.notSynchronized, hgv⟩
    obtain ⟨t, a1, o, b1, b2, b3⟩ := K s₁ rfl X₀
    exact ⟨t, o, a1, b1, b2, b3⟩
theorem lw_pre_spec {args : Array Value} {s : State} (h : (Jvm.Cond.and given_1 narrow_1).before args s = true) (hr : rest_1_c.before args s = true) : ∃ (b : Addr) (xs : List Int32), lw_P b xs args s := by
  have hs := flat_of_before _ h
  have hq := flat_of_before _ hr
  have hc : (Cond.count 1).before args s = true := hs _ (by decide +kernel)
  have harr : (Cond.arrayOf (.arg 0) .int).before args s = true := hs _ (by decide +kernel)
  have hle : (Cond.le (.length (.arg 0)) (.int 2561)).before args s = true := hs _ (by decide +kernel)
  have hlen : (Cond.isInt (.length (.arg 0))).before args s = true := hq _ (by decide +kernel)
  have hall : (Cond.all (.arg 0) (.isInt (.elem (.arg 0) (.index 0)))).before args s = true := hq _ (by decide +kernel)
  obtain ⟨b, xs, hb, hx⟩ := State.ints_of_pre rfl harr hlen hall
  have hsm : xs.length < 2 ^ 31 := hx.choose_spec.2.2.2
  have hev : (Term.length (.arg 0)).eval args s none [] s = some (.int xs.length.toInt32) := hx.length_eval hb
  have hv := Cond.le_ints hev (show (Term.int 2561).eval args s none [] s = some (.int 2561) from rfl)
  have hd : xs.length.toInt32 ≤ 2561 := by
    simpa [Cond.before, Cond.holds, hv] using hle
  have hN : xs.length ≤ 2561 := (Int32.ofNat_le_ofNat hsm (by decide)).mp (show Int32.ofNat xs.length ≤ Int32.ofNat 2561 from hd)
  exact ⟨b, xs, Cond.one_arg hc (show args[0]? = some (.ref b) from hb), hx, hN, h⟩
theorem lw_comes (l : Launch) (hl0 : l.stackTraces = false) : Comes l x (Jvm.Cond.code x code maxLocals ret :: tables_1) room_1 (fun tb e args s => Calls_1 tb e args s ∧ rest_1 tb e args s ∧ Pre_1 tb e args s)
    (fun _ _ args s o t => lw_Q args s o t) := by
  intro p e ha hc hk s m args below hf hfit hheap happ hpre
  obtain ⟨b, xs, hP⟩ := lw_pre_spec hpre.2.2 hpre.2.1
  obtain ⟨k, o, h1, h2, h3, hQ⟩ := lw_walk l hl0 b xs p e ha hc hk s m args below hf ((Spec.applies_iff_loose hf).mp happ).1 hP trivial
  exact ⟨k, o, h1, h2, h3, hQ⟩
theorem lw_frame {s t : State} {o : Outcome} {args : Array Value} (h : Framed s o t [] 1061 9679) :
    Framed s o t (fieldLocs frame_1_writes args s ++ arrayLocs frame_1_arrays args s ++ staticLocs frame_1_statics s) 1061 9679 := h
theorem lw_limb (L : Cond) (hL : ∀ (args : Array Value) (s t : State), L.after args s (.returned (some (.int 1))) t = true) :
    ArmFor flags0 classFile x code maxLocals ret World_1 tables_1 room_1 Calls_1 rest_1 Pre_1
      (fun tb e a s o t => postC L tb e a s o t ∧ Framed s o t (fieldLocs frame_1_writes a s ++ arrayLocs frame_1_arrays a s ++ staticLocs frame_1_statics s) 1061 9679) := by
  intro l hfl _ _ p e ha hc hk s m args below hf hfit hheap happ hpre
  obtain ⟨k, o, h1, h2, h3, rfl, hF⟩ := lw_comes l (by unfold Launch.stackTraces; rw [hfl]; decide) p e ha hc hk s m args below hf hfit hheap happ hpre
  exact ⟨k, _, h1, h2, h3, hL args s _, lw_frame hF⟩
theorem i_vc : Claimed_1_1 ∧ Claimed_1_2 := ⟨lw_limb limb_1_1 (fun args s t => by simp [limb_1_1, Cond.after, Cond.holds, Cond.value]), lw_limb limb_1_2 (fun args s t => Cond.after_iff.mpr (by
  first | (rw [show limb_1_2 = Cond.eq .result (.int 1) from rfl, Cond.eq_ints (x := 1) (y := 1) rfl rfl]; simp; done) | (simp [limb_1_2, Cond.value, Term.eval]; done)))⟩
