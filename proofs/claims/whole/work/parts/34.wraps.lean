/-! The contracts of the law's own methods. -/
set_option maxHeartbeats 4000000 in
set_option maxRecDepth 100000 in
theorem k_L_haulx1 {l : Launch} {D : va_G} (hl0 : l.stackTraces = false) {ad : Nat → Nat} {cI cZ cL : ClassId} {J : SJ} {rd : Nat → Int} {pr : Nat → Nat} {G : SH} {K : SK} {M : SM} {ov : Nat → Int64} (hI : JI J) {a : Int} (h : z32 a ∧ (a < 0 ∨ 4 ≤ a)) : zMW l D (tysW cI cZ cL) y_L_haul w_L_haul 10 162 [.ref (ad 0), .int (iZ (a)), .ref (ad 33)] (wdC ad cI cZ cL J rd pr G K (wdM ad cI cZ cL J rd pr M ov)) (fun r w => r = iZ ((1 : Nat) : Int) ∧ w = wdC ad cI cZ cL J rd pr G K (wdM ad cI cZ cL J rd pr M ov)) := by
  refine z_ofW (by decide) (Nat.le_of_ble_eq_true rfl) ?_
  intro p e s m below meth c A ls Z htab hP hK hD hS hA hT hSt hl
  obtain ⟨hx, hb, hr, hml, hown, hts, hE, hlocks⟩ := id Z
  have hl : lv_has ls 4 [(0, .ref (ad 0)), (1, .int (iZ (a))), (2, .ref (ad 33))] := hl
  refine lv_aload_n hx hb d_L_haul_0 rfl (lv_at hl 2 rfl) ?_
  refine lv_iconst (v := iZ ((0 : Nat) : Int)) hx hb d_L_haul_1 (by decide) ?_
  refine lv_aload_n hx hb d_L_haul_2 rfl (lv_at hl 0 rfl) ?_
  refine lv_iload_n hx hb d_L_haul_3 rfl (lv_at hl 1 rfl) ?_
  refine z_xV (As := [.int (iZ (a))]) (rest := [.int (iZ ((0 : Nat) : Int)), .ref (ad 33)]) Z (x_D_haul1 hl0 hI (a := a) h) ⟨ml_L_7, im_D_haul, se_D_haul, ini_D, co_D_haul⟩ zd_D_haul ⟨Nat.le_of_ble_eq_true rfl, Nat.le_of_ble_eq_true rfl⟩ hP hK hT hSt (ci := 0) (q0 := 0) rfl rfl rfl hl.1 rfl (Nat.le_of_ble_eq_true rfl) d_L_haul_4 ⟨Nat.le_of_ble_eq_true rfl, Nat.le_of_ble_eq_true rfl⟩ (fun q9 ce9 H9 hz9 hk9 hc9 hv9 hcl9 => ?_)
  refine z_xk1 Z htab ⟨by decide, by decide⟩ (by decide) kl_L_13 ca_IndexOutOfBoundsException hc9 hv9 hcl9 ?_
  have hP := z_keepP hP hk9
  have hS := z_keepS hS hz9 hk9
  refine lv_astore_n (lv' := [(3, .ref (q9)), (0, .ref (ad 0)), (1, .int (iZ (a))), (2, .ref (ad 33))]) hx hb d_L_haul_12 rfl hl (by decide) rfl (fun ls hl => ?_)
  refine lv_iconst (v := iZ ((1 : Nat) : Int)) hx hb d_L_haul_13 (by decide) ?_
  exact z_iret Z hP hS d_L_haul_14 wdL_map ⟨rfl, rfl⟩

set_option maxHeartbeats 4000000 in
set_option maxRecDepth 100000 in
theorem k_L_haulx2 {l : Launch} {D : va_G} (hl0 : l.stackTraces = false) {ad : Nat → Nat} {cI cZ cL : ClassId} {J : SJ} {rd : Nat → Int} {pr : Nat → Nat} {G : SH} {K : SK} {M : SM} {ov : Nat → Int64} (hI : JI J) {sh : Nat} (h : sh < 4) (h2 : jn J = 32) : zMW l D (tysW cI cZ cL) y_L_haul w_L_haul 10 162 [.ref (ad 0), .int (iZ ((sh : Nat) : Int)), .ref (ad 33)] (wdC ad cI cZ cL J rd pr G K (wdM ad cI cZ cL J rd pr M ov)) (fun r w => r = iZ ((2 : Nat) : Int) ∧ w = wdC ad cI cZ cL J rd pr G K (wdM ad cI cZ cL J rd pr M ov)) := by
  refine z_ofW (by decide) (Nat.le_of_ble_eq_true rfl) ?_
  intro p e s m below meth c A ls Z htab hP hK hD hS hA hT hSt hl
  obtain ⟨hx, hb, hr, hml, hown, hts, hE, hlocks⟩ := id Z
  have hl : lv_has ls 4 [(0, .ref (ad 0)), (1, .int (iZ ((sh : Nat) : Int))), (2, .ref (ad 33))] := hl
  refine lv_aload_n hx hb d_L_haul_0 rfl (lv_at hl 2 rfl) ?_
  refine lv_iconst (v := iZ ((0 : Nat) : Int)) hx hb d_L_haul_1 (by decide) ?_
  refine lv_aload_n hx hb d_L_haul_2 rfl (lv_at hl 0 rfl) ?_
  refine lv_iload_n hx hb d_L_haul_3 rfl (lv_at hl 1 rfl) ?_
  refine z_xV (As := [.int (iZ ((sh : Nat) : Int))]) (rest := [.int (iZ ((0 : Nat) : Int)), .ref (ad 33)]) Z (x_D_haul2 hl0 hI (sh := sh) h h2) ⟨ml_L_7, im_D_haul, se_D_haul, ini_D, co_D_haul⟩ zd_D_haul ⟨Nat.le_of_ble_eq_true rfl, Nat.le_of_ble_eq_true rfl⟩ hP hK hT hSt (ci := 0) (q0 := 0) rfl rfl rfl hl.1 rfl (Nat.le_of_ble_eq_true rfl) d_L_haul_4 ⟨Nat.le_of_ble_eq_true rfl, Nat.le_of_ble_eq_true rfl⟩ (fun q9 ce9 H9 hz9 hk9 hc9 hv9 hcl9 => ?_)
  refine z_xk2 Z htab ⟨⟨by decide, by decide⟩, by decide, by decide⟩ ⟨by decide, by decide⟩ kl_L_13 nc_IllegalStateException_IndexOutOfBoundsException kl_L_15 ca_IllegalStateException hc9 hv9 hcl9 ?_
  have hP := z_keepP hP hk9
  have hS := z_keepS hS hz9 hk9
  refine lv_astore_n (lv' := [(3, .ref (q9)), (0, .ref (ad 0)), (1, .int (iZ ((sh : Nat) : Int))), (2, .ref (ad 33))]) hx hb d_L_haul_15 rfl hl (by decide) rfl (fun ls hl => ?_)
  refine lv_iconst (v := iZ ((2 : Nat) : Int)) hx hb d_L_haul_16 (by decide) ?_
  exact z_iret Z hP hS d_L_haul_17 wdL_map ⟨rfl, rfl⟩

set_option maxHeartbeats 4000000 in
set_option maxRecDepth 100000 in
theorem k_L_haul1 {l : Launch} {D : va_G} {ad : Nat → Nat} {cI cZ cL : ClassId} {J : SJ} {rd : Nat → Int} {pr : Nat → Nat} {G : SH} {K : SK} {M : SM} {ov : Nat → Int64} (hI : JI J) {sh : Nat} (hsh : sh < 4) (hn : jn J < 32) (hop : jop J sh = -1) : zMW l D (tysW cI cZ cL) y_L_haul w_L_haul 10 162 [.ref (ad 0), .int (iZ ((sh : Nat) : Int)), .ref (ad 33)] (wdC ad cI cZ cL J rd pr G K (wdM ad cI cZ cL J rd pr M ov)) (fun r w => r = iZ ((0 : Nat) : Int) ∧ w = wdC ad cI cZ cL (sH1 J sh) rd pr G K (wdM ad cI cZ cL J rd pr M (oU ov ((iZ ((jn J : Nat) : Int)).toInt64)))) := by
  refine z_ofW (by decide) (Nat.le_of_ble_eq_true rfl) ?_
  intro p e s m below meth c A ls Z htab hP hK hD hS hA hT hSt hl
  obtain ⟨hx, hb, hr, hml, hown, hts, hE, hlocks⟩ := id Z
  have hl : lv_has ls 4 [(0, .ref (ad 0)), (1, .int (iZ ((sh : Nat) : Int))), (2, .ref (ad 33))] := hl
  suffices K9 : ∀ (H : Heap) (locs : List Loc), va_P D classes (wdC ad cI cZ cL J rd pr G K (wdM ad cI cZ cL J rd pr M ov)) H → va_D A (wdC ad cI cZ cL J rd pr G K (wdM ad cI cZ cL J rd pr M ov)) → va_S A s.heap H locs → W p l e (zRx 10 162) s m ([.ref (ad 0), .int (iZ ((sh : Nat) : Int)), .ref (ad 33)] : List Value).toArray below meth c H locs 0 0 (MQ below (va_Qi (fun r w => r = iZ ((0 : Nat) : Int) ∧ w = wdC ad cI cZ cL (sH1 J sh) rd pr G K (wdM ad cI cZ cL J rd pr M (oU ov ((iZ ((jn J : Nat) : Int)).toInt64)))) (zB9 D classes (wdC ad cI cZ cL J rd pr G K (wdM ad cI cZ cL J rd pr M ov))) A) ([.ref (ad 0), .int (iZ ((sh : Nat) : Int)), .ref (ad 33)] : List Value).toArray s 1 6 A) (F0 m 0 ls []) from K9 s.heap [] hP hD hS
  clear hP hD hS
  intro H locs hP hD hS
  refine lv_aload_n hx hb d_L_haul_0 rfl (lv_at hl 2 rfl) ?_
  refine lv_iconst (v := iZ ((0 : Nat) : Int)) hx hb d_L_haul_1 (by decide) ?_
  refine lv_aload_n hx hb d_L_haul_2 rfl (lv_at hl 0 rfl) ?_
  refine lv_iload_n hx hb d_L_haul_3 rfl (lv_at hl 1 rfl) ?_
  refine z_ki (z_runV (As := [.int (iZ ((sh : Nat) : Int))]) (rest := [.int (iZ ((0 : Nat) : Int)), .ref (ad 33)]) zTB Z (k_D_haul1 hI hsh hn hop) ⟨ml_L_7, im_D_haul, se_D_haul, ini_D, co_D_haul⟩ zd_D_haul ⟨Nat.le_of_ble_eq_true rfl, Nat.le_of_ble_eq_true rfl⟩ hP hK hD (ci := 0) (q0 := 0) rfl rfl rfl hl.1 rfl (Nat.le_of_ble_eq_true rfl) d_L_haul_4 ⟨Nat.zero_le _, Nat.zero_le _⟩) hD hS hA (fun r9 w9 H locs hp9 hP hD hS => ?_)
  obtain ⟨rfl, rfl⟩ := hp9
  have hP : va_P D classes (wdC ad cI cZ cL (sH1 J sh) rd pr G K (wdM ad cI cZ cL J rd pr M ov)) H := hP
  have hD : va_D A (wdC ad cI cZ cL (sH1 J sh) rd pr G K (wdM ad cI cZ cL J rd pr M ov)) := hD
  refine W.eq (g2 := F0 m 7 ls [.int (iZ ((jn J : Nat) : Int)), .int (iZ ((0 : Nat) : Int)), .ref (ad 33)]) rfl ?_
  refine lv_i2l (v := (iZ ((jn J : Nat) : Int)).toInt64) hx hb d_L_haul_7 rfl ?_
  refine z_ost (x := (iZ ((jn J : Nat) : Int)).toInt64) hx hb hK hP hD hS 33 2 rfl rfl d_L_haul_8 (fun H locs hP hD hS => ?_)
  have hP : va_P D classes (wdC ad cI cZ cL (sH1 J sh) rd pr G K (wdM ad cI cZ cL J rd pr M (oU ov ((iZ ((jn J : Nat) : Int)).toInt64)))) H := hP
  have hD : va_D A (wdC ad cI cZ cL (sH1 J sh) rd pr G K (wdM ad cI cZ cL J rd pr M (oU ov ((iZ ((jn J : Nat) : Int)).toInt64)))) := hD
  refine lv_goto (tgt := 18) hx hb d_L_haul_9 (by decide) ?_
  refine lv_iconst (v := iZ ((0 : Nat) : Int)) hx hb d_L_haul_18 (by decide) ?_
  refine W.widen (k := 1) (n := 6) (by omega) (by omega) ?_
  exact z_iret Z hP hS d_L_haul_19 wdL_map (⟨rfl, rfl⟩)

set_option maxHeartbeats 4000000 in
set_option maxRecDepth 100000 in
theorem k_L_haul2 {l : Launch} {D : va_G} {ad : Nat → Nat} {cI cZ cL : ClassId} {J : SJ} {rd : Nat → Int} {pr : Nat → Nat} {G : SH} {K : SK} {M : SM} {ov : Nat → Int64} (hI : JI J) {sh f : Nat} (hsh : sh < 4) (hn : jn J < 32) (hk : jk J < 16) (hop : jop J sh = ((f : Nat) : Int)) (hf : f < 32) : zMW l D (tysW cI cZ cL) y_L_haul w_L_haul 10 162 [.ref (ad 0), .int (iZ ((sh : Nat) : Int)), .ref (ad 33)] (wdC ad cI cZ cL J rd pr G K (wdM ad cI cZ cL J rd pr M ov)) (fun r w => r = iZ ((0 : Nat) : Int) ∧ w = wdC ad cI cZ cL (sH2 J sh f) rd pr G K (wdM ad cI cZ cL J rd pr M (oU ov ((iZ ((jn J : Nat) : Int)).toInt64)))) := by
  refine z_ofW (by decide) (Nat.le_of_ble_eq_true rfl) ?_
  intro p e s m below meth c A ls Z htab hP hK hD hS hA hT hSt hl
  obtain ⟨hx, hb, hr, hml, hown, hts, hE, hlocks⟩ := id Z
  have hl : lv_has ls 4 [(0, .ref (ad 0)), (1, .int (iZ ((sh : Nat) : Int))), (2, .ref (ad 33))] := hl
  suffices K9 : ∀ (H : Heap) (locs : List Loc), va_P D classes (wdC ad cI cZ cL J rd pr G K (wdM ad cI cZ cL J rd pr M ov)) H → va_D A (wdC ad cI cZ cL J rd pr G K (wdM ad cI cZ cL J rd pr M ov)) → va_S A s.heap H locs → W p l e (zRx 10 162) s m ([.ref (ad 0), .int (iZ ((sh : Nat) : Int)), .ref (ad 33)] : List Value).toArray below meth c H locs 0 0 (MQ below (va_Qi (fun r w => r = iZ ((0 : Nat) : Int) ∧ w = wdC ad cI cZ cL (sH2 J sh f) rd pr G K (wdM ad cI cZ cL J rd pr M (oU ov ((iZ ((jn J : Nat) : Int)).toInt64)))) (zB9 D classes (wdC ad cI cZ cL J rd pr G K (wdM ad cI cZ cL J rd pr M ov))) A) ([.ref (ad 0), .int (iZ ((sh : Nat) : Int)), .ref (ad 33)] : List Value).toArray s 1 6 A) (F0 m 0 ls []) from K9 s.heap [] hP hD hS
  clear hP hD hS
  intro H locs hP hD hS
  refine lv_aload_n hx hb d_L_haul_0 rfl (lv_at hl 2 rfl) ?_
  refine lv_iconst (v := iZ ((0 : Nat) : Int)) hx hb d_L_haul_1 (by decide) ?_
  refine lv_aload_n hx hb d_L_haul_2 rfl (lv_at hl 0 rfl) ?_
  refine lv_iload_n hx hb d_L_haul_3 rfl (lv_at hl 1 rfl) ?_
  refine z_ki (z_runV (As := [.int (iZ ((sh : Nat) : Int))]) (rest := [.int (iZ ((0 : Nat) : Int)), .ref (ad 33)]) zTB Z (k_D_haul2 hI hsh hn hk hop hf) ⟨ml_L_7, im_D_haul, se_D_haul, ini_D, co_D_haul⟩ zd_D_haul ⟨Nat.le_of_ble_eq_true rfl, Nat.le_of_ble_eq_true rfl⟩ hP hK hD (ci := 0) (q0 := 0) rfl rfl rfl hl.1 rfl (Nat.le_of_ble_eq_true rfl) d_L_haul_4 ⟨Nat.zero_le _, Nat.zero_le _⟩) hD hS hA (fun r9 w9 H locs hp9 hP hD hS => ?_)
  obtain ⟨rfl, rfl⟩ := hp9
  have hP : va_P D classes (wdC ad cI cZ cL (sH2 J sh f) rd pr G K (wdM ad cI cZ cL J rd pr M ov)) H := hP
  have hD : va_D A (wdC ad cI cZ cL (sH2 J sh f) rd pr G K (wdM ad cI cZ cL J rd pr M ov)) := hD
  refine W.eq (g2 := F0 m 7 ls [.int (iZ ((jn J : Nat) : Int)), .int (iZ ((0 : Nat) : Int)), .ref (ad 33)]) rfl ?_
  refine lv_i2l (v := (iZ ((jn J : Nat) : Int)).toInt64) hx hb d_L_haul_7 rfl ?_
  refine z_ost (x := (iZ ((jn J : Nat) : Int)).toInt64) hx hb hK hP hD hS 33 2 rfl rfl d_L_haul_8 (fun H locs hP hD hS => ?_)
  have hP : va_P D classes (wdC ad cI cZ cL (sH2 J sh f) rd pr G K (wdM ad cI cZ cL J rd pr M (oU ov ((iZ ((jn J : Nat) : Int)).toInt64)))) H := hP
  have hD : va_D A (wdC ad cI cZ cL (sH2 J sh f) rd pr G K (wdM ad cI cZ cL J rd pr M (oU ov ((iZ ((jn J : Nat) : Int)).toInt64)))) := hD
  refine lv_goto (tgt := 18) hx hb d_L_haul_9 (by decide) ?_
  refine lv_iconst (v := iZ ((0 : Nat) : Int)) hx hb d_L_haul_18 (by decide) ?_
  refine W.widen (k := 1) (n := 6) (by omega) (by omega) ?_
  exact z_iret Z hP hS d_L_haul_19 wdL_map (⟨rfl, rfl⟩)

set_option maxHeartbeats 4000000 in
set_option maxRecDepth 100000 in
theorem k_L_caughtx1 {l : Launch} {D : va_G} (hl0 : l.stackTraces = false) {ad : Nat → Nat} {cI cZ cL : ClassId} {J : SJ} {rd : Nat → Int} {pr : Nat → Nat} {G : SH} {K : SK} {M : SM} {ov : Nat → Int64} (hI : JI J) {a b c9 : Int} (h : z32 a ∧ (a < 0 ∨ ((jn J : Nat) : Int) ≤ a)) : zMW l D (tysW cI cZ cL) y_L_caught w_L_caught 10 165 [.ref (ad 0), .int (iZ (a)), .int (iZ (b)), .int (iZ (c9)), .ref (ad 33)] (wdC ad cI cZ cL J rd pr G K (wdM ad cI cZ cL J rd pr M ov)) (fun r w => r = iZ ((1 : Nat) : Int) ∧ w = wdC ad cI cZ cL J rd pr G K (wdM ad cI cZ cL J rd pr M ov)) := by
  refine z_ofW (by decide) (Nat.le_of_ble_eq_true rfl) ?_
  intro p e s m below meth c A ls Z htab hP hK hD hS hA hT hSt hl
  obtain ⟨hx, hb, hr, hml, hown, hts, hE, hlocks⟩ := id Z
  have hl : lv_has ls 6 [(0, .ref (ad 0)), (1, .int (iZ (a))), (2, .int (iZ (b))), (3, .int (iZ (c9))), (4, .ref (ad 33))] := hl
  refine lv_aload hx hb d_L_caught_0 (lv_at hl 4 rfl) ?_
  refine lv_iconst (v := iZ ((0 : Nat) : Int)) hx hb d_L_caught_2 (by decide) ?_
  refine lv_aload_n hx hb d_L_caught_3 rfl (lv_at hl 0 rfl) ?_
  refine lv_iload_n hx hb d_L_caught_4 rfl (lv_at hl 1 rfl) ?_
  refine lv_iload_n hx hb d_L_caught_5 rfl (lv_at hl 2 rfl) ?_
  refine lv_iload_n hx hb d_L_caught_6 rfl (lv_at hl 3 rfl) ?_
  refine z_xV (As := [.int (iZ (a)), .int (iZ (b)), .int (iZ (c9))]) (rest := [.int (iZ ((0 : Nat) : Int)), .ref (ad 33)]) Z (x_D_caught1 hl0 hI (a := a) (b := b) (c9 := c9) h) ⟨ml_L_17, im_D_caught, se_D_caught, ini_D, co_D_caught⟩ zd_D_caught ⟨Nat.le_of_ble_eq_true rfl, Nat.le_of_ble_eq_true rfl⟩ hP hK hT hSt (ci := 0) (q0 := 0) rfl rfl rfl hl.1 rfl (Nat.le_of_ble_eq_true rfl) d_L_caught_7 ⟨Nat.le_of_ble_eq_true rfl, Nat.le_of_ble_eq_true rfl⟩ (fun q9 ce9 H9 hz9 hk9 hc9 hv9 hcl9 => ?_)
  refine z_xk1 Z htab ⟨by decide, by decide⟩ (by decide) kl_L_13 ca_IndexOutOfBoundsException hc9 hv9 hcl9 ?_
  have hP := z_keepP hP hk9
  have hS := z_keepS hS hz9 hk9
  refine lv_astore (lv' := [(5, .ref (q9)), (0, .ref (ad 0)), (1, .int (iZ (a))), (2, .int (iZ (b))), (3, .int (iZ (c9))), (4, .ref (ad 33))]) hx hb d_L_caught_22 hl (by decide) rfl (fun ls hl => ?_)
  refine lv_iconst (v := iZ ((1 : Nat) : Int)) hx hb d_L_caught_24 (by decide) ?_
  exact z_iret Z hP hS d_L_caught_25 wdL_map ⟨rfl, rfl⟩

set_option maxHeartbeats 4000000 in
set_option maxRecDepth 100000 in
theorem k_L_caughtx2 {l : Launch} {D : va_G} (hl0 : l.stackTraces = false) {ad : Nat → Nat} {cI cZ cL : ClassId} {J : SJ} {rd : Nat → Int} {pr : Nat → Nat} {G : SH} {K : SK} {M : SM} {ov : Nat → Int64} (hI : JI J) {h : Nat} {b c9 : Int} (hh : h < jn J) (h2 : z32 b ∧ (b < 0 ∨ 3 ≤ b)) : zMW l D (tysW cI cZ cL) y_L_caught w_L_caught 10 165 [.ref (ad 0), .int (iZ ((h : Nat) : Int)), .int (iZ (b)), .int (iZ (c9)), .ref (ad 33)] (wdC ad cI cZ cL J rd pr G K (wdM ad cI cZ cL J rd pr M ov)) (fun r w => r = iZ ((1 : Nat) : Int) ∧ w = wdC ad cI cZ cL J rd pr G K (wdM ad cI cZ cL J rd pr M ov)) := by
  refine z_ofW (by decide) (Nat.le_of_ble_eq_true rfl) ?_
  intro p e s m below meth c A ls Z htab hP hK hD hS hA hT hSt hl
  obtain ⟨hx, hb, hr, hml, hown, hts, hE, hlocks⟩ := id Z
  have hl : lv_has ls 6 [(0, .ref (ad 0)), (1, .int (iZ ((h : Nat) : Int))), (2, .int (iZ (b))), (3, .int (iZ (c9))), (4, .ref (ad 33))] := hl
  refine lv_aload hx hb d_L_caught_0 (lv_at hl 4 rfl) ?_
  refine lv_iconst (v := iZ ((0 : Nat) : Int)) hx hb d_L_caught_2 (by decide) ?_
  refine lv_aload_n hx hb d_L_caught_3 rfl (lv_at hl 0 rfl) ?_
  refine lv_iload_n hx hb d_L_caught_4 rfl (lv_at hl 1 rfl) ?_
  refine lv_iload_n hx hb d_L_caught_5 rfl (lv_at hl 2 rfl) ?_
  refine lv_iload_n hx hb d_L_caught_6 rfl (lv_at hl 3 rfl) ?_
  refine z_xV (As := [.int (iZ ((h : Nat) : Int)), .int (iZ (b)), .int (iZ (c9))]) (rest := [.int (iZ ((0 : Nat) : Int)), .ref (ad 33)]) Z (x_D_caught2 hl0 hI (h := h) (b := b) (c9 := c9) hh h2) ⟨ml_L_17, im_D_caught, se_D_caught, ini_D, co_D_caught⟩ zd_D_caught ⟨Nat.le_of_ble_eq_true rfl, Nat.le_of_ble_eq_true rfl⟩ hP hK hT hSt (ci := 0) (q0 := 0) rfl rfl rfl hl.1 rfl (Nat.le_of_ble_eq_true rfl) d_L_caught_7 ⟨Nat.le_of_ble_eq_true rfl, Nat.le_of_ble_eq_true rfl⟩ (fun q9 ce9 H9 hz9 hk9 hc9 hv9 hcl9 => ?_)
  refine z_xk1 Z htab ⟨by decide, by decide⟩ (by decide) kl_L_13 ca_IndexOutOfBoundsException hc9 hv9 hcl9 ?_
  have hP := z_keepP hP hk9
  have hS := z_keepS hS hz9 hk9
  refine lv_astore (lv' := [(5, .ref (q9)), (0, .ref (ad 0)), (1, .int (iZ ((h : Nat) : Int))), (2, .int (iZ (b))), (3, .int (iZ (c9))), (4, .ref (ad 33))]) hx hb d_L_caught_22 hl (by decide) rfl (fun ls hl => ?_)
  refine lv_iconst (v := iZ ((1 : Nat) : Int)) hx hb d_L_caught_24 (by decide) ?_
  exact z_iret Z hP hS d_L_caught_25 wdL_map ⟨rfl, rfl⟩

set_option maxHeartbeats 4000000 in
set_option maxRecDepth 100000 in
theorem k_L_caughtx3 {l : Launch} {D : va_G} (hl0 : l.stackTraces = false) {ad : Nat → Nat} {cI cZ cL : ClassId} {J : SJ} {rd : Nat → Int} {pr : Nat → Nat} {G : SH} {K : SK} {M : SM} {ov : Nat → Int64} (hI : JI J) {h kd : Nat} {c9 : Int} (hh : h < jn J) (hkd : kd < 3) (h2 : z32 c9 ∧ (c9 < 0 ∨ 1000 < c9)) : zMW l D (tysW cI cZ cL) y_L_caught w_L_caught 10 165 [.ref (ad 0), .int (iZ ((h : Nat) : Int)), .int (iZ ((kd : Nat) : Int)), .int (iZ (c9)), .ref (ad 33)] (wdC ad cI cZ cL J rd pr G K (wdM ad cI cZ cL J rd pr M ov)) (fun r w => r = iZ ((2 : Nat) : Int) ∧ w = wdC ad cI cZ cL J rd pr G K (wdM ad cI cZ cL J rd pr M ov)) := by
  refine z_ofW (by decide) (Nat.le_of_ble_eq_true rfl) ?_
  intro p e s m below meth c A ls Z htab hP hK hD hS hA hT hSt hl
  obtain ⟨hx, hb, hr, hml, hown, hts, hE, hlocks⟩ := id Z
  have hl : lv_has ls 6 [(0, .ref (ad 0)), (1, .int (iZ ((h : Nat) : Int))), (2, .int (iZ ((kd : Nat) : Int))), (3, .int (iZ (c9))), (4, .ref (ad 33))] := hl
  refine lv_aload hx hb d_L_caught_0 (lv_at hl 4 rfl) ?_
  refine lv_iconst (v := iZ ((0 : Nat) : Int)) hx hb d_L_caught_2 (by decide) ?_
  refine lv_aload_n hx hb d_L_caught_3 rfl (lv_at hl 0 rfl) ?_
  refine lv_iload_n hx hb d_L_caught_4 rfl (lv_at hl 1 rfl) ?_
  refine lv_iload_n hx hb d_L_caught_5 rfl (lv_at hl 2 rfl) ?_
  refine lv_iload_n hx hb d_L_caught_6 rfl (lv_at hl 3 rfl) ?_
  refine z_xV (As := [.int (iZ ((h : Nat) : Int)), .int (iZ ((kd : Nat) : Int)), .int (iZ (c9))]) (rest := [.int (iZ ((0 : Nat) : Int)), .ref (ad 33)]) Z (x_D_caught3 hl0 hI (h := h) (kd := kd) (c9 := c9) hh hkd h2) ⟨ml_L_17, im_D_caught, se_D_caught, ini_D, co_D_caught⟩ zd_D_caught ⟨Nat.le_of_ble_eq_true rfl, Nat.le_of_ble_eq_true rfl⟩ hP hK hT hSt (ci := 0) (q0 := 0) rfl rfl rfl hl.1 rfl (Nat.le_of_ble_eq_true rfl) d_L_caught_7 ⟨Nat.le_of_ble_eq_true rfl, Nat.le_of_ble_eq_true rfl⟩ (fun q9 ce9 H9 hz9 hk9 hc9 hv9 hcl9 => ?_)
  refine z_xk2 Z htab ⟨⟨by decide, by decide⟩, by decide, by decide⟩ ⟨by decide, by decide⟩ kl_L_13 nc_IllegalArgumentException_IndexOutOfBoundsException kl_L_21 ca_IllegalArgumentException hc9 hv9 hcl9 ?_
  have hP := z_keepP hP hk9
  have hS := z_keepS hS hz9 hk9
  refine lv_astore (lv' := [(5, .ref (q9)), (0, .ref (ad 0)), (1, .int (iZ ((h : Nat) : Int))), (2, .int (iZ ((kd : Nat) : Int))), (3, .int (iZ (c9))), (4, .ref (ad 33))]) hx hb d_L_caught_26 hl (by decide) rfl (fun ls hl => ?_)
  refine lv_iconst (v := iZ ((2 : Nat) : Int)) hx hb d_L_caught_28 (by decide) ?_
  exact z_iret Z hP hS d_L_caught_29 wdL_map ⟨rfl, rfl⟩

set_option maxHeartbeats 4000000 in
set_option maxRecDepth 100000 in
theorem k_L_caught0 {l : Launch} {D : va_G} {ad : Nat → Nat} {cI cZ cL : ClassId} {J : SJ} {rd : Nat → Int} {pr : Nat → Nat} {G : SH} {K : SK} {M : SM} {ov : Nat → Int64} (hI : JI J) {h kd v : Nat} (hh : h < jn J) (hkd : kd < 3) (hv : v ≤ 1000) : zMW l D (tysW cI cZ cL) y_L_caught w_L_caught 10 165 [.ref (ad 0), .int (iZ ((h : Nat) : Int)), .int (iZ ((kd : Nat) : Int)), .int (iZ ((v : Nat) : Int)), .ref (ad 33)] (wdC ad cI cZ cL J rd pr G K (wdM ad cI cZ cL J rd pr M ov)) (fun r w => r = iZ ((0 : Nat) : Int) ∧ w = wdC ad cI cZ cL (sPC9 J (h * 3 + kd) v) rd pr G K (wdM ad cI cZ cL J rd pr M (oU ov (lZ (((if (decide (jct J (h * 3 + kd) ≠ v)) = true then 1 else 0 : Nat)) : Int))))) := by
  refine z_ofW (by decide) (Nat.le_of_ble_eq_true rfl) ?_
  intro p e s m below meth c A ls Z htab hP hK hD hS hA hT hSt hl
  obtain ⟨hx, hb, hr, hml, hown, hts, hE, hlocks⟩ := id Z
  have hl : lv_has ls 6 [(0, .ref (ad 0)), (1, .int (iZ ((h : Nat) : Int))), (2, .int (iZ ((kd : Nat) : Int))), (3, .int (iZ ((v : Nat) : Int))), (4, .ref (ad 33))] := hl
  suffices K9 : ∀ (H : Heap) (locs : List Loc), va_P D classes (wdC ad cI cZ cL J rd pr G K (wdM ad cI cZ cL J rd pr M ov)) H → va_D A (wdC ad cI cZ cL J rd pr G K (wdM ad cI cZ cL J rd pr M ov)) → va_S A s.heap H locs → W p l e (zRx 10 165) s m ([.ref (ad 0), .int (iZ ((h : Nat) : Int)), .int (iZ ((kd : Nat) : Int)), .int (iZ ((v : Nat) : Int)), .ref (ad 33)] : List Value).toArray below meth c H locs 0 0 (MQ below (va_Qi (fun r w => r = iZ ((0 : Nat) : Int) ∧ w = wdC ad cI cZ cL (sPC9 J (h * 3 + kd) v) rd pr G K (wdM ad cI cZ cL J rd pr M (oU ov (lZ (((if (decide (jct J (h * 3 + kd) ≠ v)) = true then 1 else 0 : Nat)) : Int))))) (zB9 D classes (wdC ad cI cZ cL J rd pr G K (wdM ad cI cZ cL J rd pr M ov))) A) ([.ref (ad 0), .int (iZ ((h : Nat) : Int)), .int (iZ ((kd : Nat) : Int)), .int (iZ ((v : Nat) : Int)), .ref (ad 33)] : List Value).toArray s 1 6 A) (F0 m 0 ls []) from K9 s.heap [] hP hD hS
  clear hP hD hS
  intro H locs hP hD hS
  refine lv_aload hx hb d_L_caught_0 (lv_at hl 4 rfl) ?_
  refine lv_iconst (v := iZ ((0 : Nat) : Int)) hx hb d_L_caught_2 (by decide) ?_
  refine lv_aload_n hx hb d_L_caught_3 rfl (lv_at hl 0 rfl) ?_
  refine lv_iload_n hx hb d_L_caught_4 rfl (lv_at hl 1 rfl) ?_
  refine lv_iload_n hx hb d_L_caught_5 rfl (lv_at hl 2 rfl) ?_
  refine lv_iload_n hx hb d_L_caught_6 rfl (lv_at hl 3 rfl) ?_
  refine z_ki (z_runV (As := [.int (iZ ((h : Nat) : Int)), .int (iZ ((kd : Nat) : Int)), .int (iZ ((v : Nat) : Int))]) (rest := [.int (iZ ((0 : Nat) : Int)), .ref (ad 33)]) zTB Z (k_D_caught hI hh hkd hv) ⟨ml_L_17, im_D_caught, se_D_caught, ini_D, co_D_caught⟩ zd_D_caught ⟨Nat.le_of_ble_eq_true rfl, Nat.le_of_ble_eq_true rfl⟩ hP hK hD (ci := 0) (q0 := 0) rfl rfl rfl hl.1 rfl (Nat.le_of_ble_eq_true rfl) d_L_caught_7 ⟨Nat.zero_le _, Nat.zero_le _⟩) hD hS hA (fun r9 w9 H locs hp9 hP hD hS => ?_)
  obtain ⟨rfl, rfl⟩ := hp9
  have hP : va_P D classes (wdC ad cI cZ cL (sPC9 J (h * 3 + kd) v) rd pr G K (wdM ad cI cZ cL J rd pr M ov)) H := hP
  have hD : va_D A (wdC ad cI cZ cL (sPC9 J (h * 3 + kd) v) rd pr G K (wdM ad cI cZ cL J rd pr M ov)) := hD
  refine W.eq (g2 := F0 m 10 ls [.int (bI (decide (jct J (h * 3 + kd) ≠ v))), .int (iZ ((0 : Nat) : Int)), .ref (ad 33)]) rfl ?_
  refine z_if_eqB (b := decide (jct J (h * 3 + kd) ≠ v)) (tgt := 17) hx hb d_L_caught_10 (by decide) (fun q10 => ?_) (fun q10 => ?_)
  · skip
    replace q10 := of_decide_eq_false q10
    refine lv_lconst (v := lZ ((0 : Nat) : Int)) hx hb d_L_caught_17 (by decide) ?_
    refine z_ost (x := lZ ((0 : Nat) : Int)) hx hb hK hP hD hS 33 2 rfl rfl d_L_caught_18 (fun H locs hP hD hS => ?_)
    have hP : va_P D classes (wdC ad cI cZ cL (sPC9 J (h * 3 + kd) v) rd pr G K (wdM ad cI cZ cL J rd pr M (oU ov (lZ ((0 : Nat) : Int))))) H := hP
    have hD : va_D A (wdC ad cI cZ cL (sPC9 J (h * 3 + kd) v) rd pr G K (wdM ad cI cZ cL J rd pr M (oU ov (lZ ((0 : Nat) : Int))))) := hD
    refine lv_goto (tgt := 30) hx hb d_L_caught_19 (by decide) ?_
    refine lv_iconst (v := iZ ((0 : Nat) : Int)) hx hb d_L_caught_30 (by decide) ?_
    refine W.widen (k := 1) (n := 6) (by omega) (by omega) ?_
    exact z_iret Z hP hS d_L_caught_31 wdL_map (⟨rfl, by first | (rw [show (decide (jct J (h * 3 + kd) ≠ v)) = true from decide_eq_true q10]; rfl) | (rw [show (decide (jct J (h * 3 + kd) ≠ v)) = false from decide_eq_false q10]; rfl)⟩)
  · skip
    replace q10 := of_decide_eq_true q10
    refine lv_lconst (v := lZ ((1 : Nat) : Int)) hx hb d_L_caught_13 (by decide) ?_
    refine lv_goto (tgt := 18) hx hb d_L_caught_14 (by decide) ?_
    refine z_ost (x := lZ ((1 : Nat) : Int)) hx hb hK hP hD hS 33 2 rfl rfl d_L_caught_18 (fun H locs hP hD hS => ?_)
    have hP : va_P D classes (wdC ad cI cZ cL (sPC9 J (h * 3 + kd) v) rd pr G K (wdM ad cI cZ cL J rd pr M (oU ov (lZ ((1 : Nat) : Int))))) H := hP
    have hD : va_D A (wdC ad cI cZ cL (sPC9 J (h * 3 + kd) v) rd pr G K (wdM ad cI cZ cL J rd pr M (oU ov (lZ ((1 : Nat) : Int))))) := hD
    refine lv_goto (tgt := 30) hx hb d_L_caught_19 (by decide) ?_
    refine lv_iconst (v := iZ ((0 : Nat) : Int)) hx hb d_L_caught_30 (by decide) ?_
    refine W.widen (k := 1) (n := 6) (by omega) (by omega) ?_
    exact z_iret Z hP hS d_L_caught_31 wdL_map (⟨rfl, by first | (rw [show (decide (jct J (h * 3 + kd) ≠ v)) = true from decide_eq_true q10]; rfl) | (rw [show (decide (jct J (h * 3 + kd) ≠ v)) = false from decide_eq_false q10]; rfl)⟩)

set_option maxHeartbeats 4000000 in
set_option maxRecDepth 100000 in
theorem k_L_outx1 {l : Launch} {D : va_G} (hl0 : l.stackTraces = false) {ad : Nat → Nat} {cI cZ cL : ClassId} {J : SJ} {rd : Nat → Int} {pr : Nat → Nat} {G : SH} {K : SK} {M : SM} {ov : Nat → Int64} (hI : JI J) {a : Int} {on : Bool} (h : z32 a ∧ (a < 0 ∨ 4 ≤ a)) : zMW l D (tysW cI cZ cL) y_L_out w_L_out 10 163 [.ref (ad 0), .int (iZ (a)), .int (bI (on)), .ref (ad 33)] (wdC ad cI cZ cL J rd pr G K (wdM ad cI cZ cL J rd pr M ov)) (fun r w => r = iZ ((1 : Nat) : Int) ∧ w = wdC ad cI cZ cL J rd pr G K (wdM ad cI cZ cL J rd pr M ov)) := by
  refine z_ofW (by decide) (Nat.le_of_ble_eq_true rfl) ?_
  intro p e s m below meth c A ls Z htab hP hK hD hS hA hT hSt hl
  obtain ⟨hx, hb, hr, hml, hown, hts, hE, hlocks⟩ := id Z
  have hl : lv_has ls 5 [(0, .ref (ad 0)), (1, .int (iZ (a))), (2, .int (bI (on))), (3, .ref (ad 33))] := hl
  refine lv_aload_n hx hb d_L_out_0 rfl (lv_at hl 3 rfl) ?_
  refine lv_iconst (v := iZ ((0 : Nat) : Int)) hx hb d_L_out_1 (by decide) ?_
  refine lv_aload_n hx hb d_L_out_2 rfl (lv_at hl 0 rfl) ?_
  refine lv_iload_n hx hb d_L_out_3 rfl (lv_at hl 1 rfl) ?_
  refine lv_iload_n hx hb d_L_out_4 rfl (lv_at hl 2 rfl) ?_
  refine z_xV (As := [.int (iZ (a)), .int (bI (on))]) (rest := [.int (iZ ((0 : Nat) : Int)), .ref (ad 33)]) Z (x_D_out1 hl0 hI (a := a) (on := on) h) ⟨ml_L_23, im_D_out, se_D_out, ini_D, co_D_out⟩ zd_D_out ⟨Nat.le_of_ble_eq_true rfl, Nat.le_of_ble_eq_true rfl⟩ hP hK hT hSt (ci := 0) (q0 := 0) rfl rfl rfl hl.1 rfl (Nat.le_of_ble_eq_true rfl) d_L_out_5 ⟨Nat.le_of_ble_eq_true rfl, Nat.le_of_ble_eq_true rfl⟩ (fun q9 ce9 H9 hz9 hk9 hc9 hv9 hcl9 => ?_)
  refine z_xk1 Z htab ⟨by decide, by decide⟩ (by decide) kl_L_13 ca_IndexOutOfBoundsException hc9 hv9 hcl9 ?_
  have hP := z_keepP hP hk9
  have hS := z_keepS hS hz9 hk9
  refine lv_astore (lv' := [(4, .ref (q9)), (0, .ref (ad 0)), (1, .int (iZ (a))), (2, .int (bI (on))), (3, .ref (ad 33))]) hx hb d_L_out_20 hl (by decide) rfl (fun ls hl => ?_)
  refine lv_iconst (v := iZ ((1 : Nat) : Int)) hx hb d_L_out_22 (by decide) ?_
  exact z_iret Z hP hS d_L_out_23 wdL_map ⟨rfl, rfl⟩

set_option maxHeartbeats 4000000 in
set_option maxRecDepth 100000 in
theorem k_L_out0 {l : Launch} {D : va_G} {ad : Nat → Nat} {cI cZ cL : ClassId} {J : SJ} {rd : Nat → Int} {pr : Nat → Nat} {G : SH} {K : SK} {M : SM} {ov : Nat → Int64} (hI : JI J) {sh : Nat} {on : Bool} (hsh : sh < 4) : zMW l D (tysW cI cZ cL) y_L_out w_L_out 10 163 [.ref (ad 0), .int (iZ ((sh : Nat) : Int)), .int (bI (on)), .ref (ad 33)] (wdC ad cI cZ cL J rd pr G K (wdM ad cI cZ cL J rd pr M ov)) (fun r w => r = iZ ((0 : Nat) : Int) ∧ w = wdC ad cI cZ cL (sLO J sh on) rd pr G K (wdM ad cI cZ cL J rd pr M (oU ov (lZ (((if (jou J sh != on) = true then 1 else 0 : Nat)) : Int))))) := by
  refine z_ofW (by decide) (Nat.le_of_ble_eq_true rfl) ?_
  intro p e s m below meth c A ls Z htab hP hK hD hS hA hT hSt hl
  obtain ⟨hx, hb, hr, hml, hown, hts, hE, hlocks⟩ := id Z
  have hl : lv_has ls 5 [(0, .ref (ad 0)), (1, .int (iZ ((sh : Nat) : Int))), (2, .int (bI (on))), (3, .ref (ad 33))] := hl
  suffices K9 : ∀ (H : Heap) (locs : List Loc), va_P D classes (wdC ad cI cZ cL J rd pr G K (wdM ad cI cZ cL J rd pr M ov)) H → va_D A (wdC ad cI cZ cL J rd pr G K (wdM ad cI cZ cL J rd pr M ov)) → va_S A s.heap H locs → W p l e (zRx 10 163) s m ([.ref (ad 0), .int (iZ ((sh : Nat) : Int)), .int (bI (on)), .ref (ad 33)] : List Value).toArray below meth c H locs 0 0 (MQ below (va_Qi (fun r w => r = iZ ((0 : Nat) : Int) ∧ w = wdC ad cI cZ cL (sLO J sh on) rd pr G K (wdM ad cI cZ cL J rd pr M (oU ov (lZ (((if (jou J sh != on) = true then 1 else 0 : Nat)) : Int))))) (zB9 D classes (wdC ad cI cZ cL J rd pr G K (wdM ad cI cZ cL J rd pr M ov))) A) ([.ref (ad 0), .int (iZ ((sh : Nat) : Int)), .int (bI (on)), .ref (ad 33)] : List Value).toArray s 1 6 A) (F0 m 0 ls []) from K9 s.heap [] hP hD hS
  clear hP hD hS
  intro H locs hP hD hS
  refine lv_aload_n hx hb d_L_out_0 rfl (lv_at hl 3 rfl) ?_
  refine lv_iconst (v := iZ ((0 : Nat) : Int)) hx hb d_L_out_1 (by decide) ?_
  refine lv_aload_n hx hb d_L_out_2 rfl (lv_at hl 0 rfl) ?_
  refine lv_iload_n hx hb d_L_out_3 rfl (lv_at hl 1 rfl) ?_
  refine lv_iload_n hx hb d_L_out_4 rfl (lv_at hl 2 rfl) ?_
  refine z_ki (z_runV (As := [.int (iZ ((sh : Nat) : Int)), .int (bI (on))]) (rest := [.int (iZ ((0 : Nat) : Int)), .ref (ad 33)]) zTB Z (k_D_out (sh := sh) (on := on) hsh) ⟨ml_L_23, im_D_out, se_D_out, ini_D, co_D_out⟩ zd_D_out ⟨Nat.le_of_ble_eq_true rfl, Nat.le_of_ble_eq_true rfl⟩ hP hK hD (ci := 0) (q0 := 0) rfl rfl rfl hl.1 rfl (Nat.le_of_ble_eq_true rfl) d_L_out_5 ⟨Nat.zero_le _, Nat.zero_le _⟩) hD hS hA (fun r9 w9 H locs hp9 hP hD hS => ?_)
  obtain ⟨rfl, rfl⟩ := hp9
  have hP : va_P D classes (wdC ad cI cZ cL (sLO J sh on) rd pr G K (wdM ad cI cZ cL J rd pr M ov)) H := hP
  have hD : va_D A (wdC ad cI cZ cL (sLO J sh on) rd pr G K (wdM ad cI cZ cL J rd pr M ov)) := hD
  refine W.eq (g2 := F0 m 8 ls [.int (bI (jou J sh != on)), .int (iZ ((0 : Nat) : Int)), .ref (ad 33)]) rfl ?_
  refine z_if_eqB (b := jou J sh != on) (tgt := 15) hx hb d_L_out_8 (by decide) (fun q8 => ?_) (fun q8 => ?_)
  · skip
    refine lv_lconst (v := lZ ((0 : Nat) : Int)) hx hb d_L_out_15 (by decide) ?_
    refine z_ost (x := lZ ((0 : Nat) : Int)) hx hb hK hP hD hS 33 2 rfl rfl d_L_out_16 (fun H locs hP hD hS => ?_)
    have hP : va_P D classes (wdC ad cI cZ cL (sLO J sh on) rd pr G K (wdM ad cI cZ cL J rd pr M (oU ov (lZ ((0 : Nat) : Int))))) H := hP
    have hD : va_D A (wdC ad cI cZ cL (sLO J sh on) rd pr G K (wdM ad cI cZ cL J rd pr M (oU ov (lZ ((0 : Nat) : Int))))) := hD
    refine lv_goto (tgt := 24) hx hb d_L_out_17 (by decide) ?_
    refine lv_iconst (v := iZ ((0 : Nat) : Int)) hx hb d_L_out_24 (by decide) ?_
    refine W.widen (k := 1) (n := 6) (by omega) (by omega) ?_
    exact z_iret Z hP hS d_L_out_25 wdL_map (⟨rfl, by rw [q8]; rfl⟩)
  · skip
    refine lv_lconst (v := lZ ((1 : Nat) : Int)) hx hb d_L_out_11 (by decide) ?_
    refine lv_goto (tgt := 16) hx hb d_L_out_12 (by decide) ?_
    refine z_ost (x := lZ ((1 : Nat) : Int)) hx hb hK hP hD hS 33 2 rfl rfl d_L_out_16 (fun H locs hP hD hS => ?_)
    have hP : va_P D classes (wdC ad cI cZ cL (sLO J sh on) rd pr G K (wdM ad cI cZ cL J rd pr M (oU ov (lZ ((1 : Nat) : Int))))) H := hP
    have hD : va_D A (wdC ad cI cZ cL (sLO J sh on) rd pr G K (wdM ad cI cZ cL J rd pr M (oU ov (lZ ((1 : Nat) : Int))))) := hD
    refine lv_goto (tgt := 24) hx hb d_L_out_17 (by decide) ?_
    refine lv_iconst (v := iZ ((0 : Nat) : Int)) hx hb d_L_out_24 (by decide) ?_
    refine W.widen (k := 1) (n := 6) (by omega) (by omega) ?_
    exact z_iret Z hP hS d_L_out_25 wdL_map (⟨rfl, by rw [q8]; rfl⟩)

set_option maxHeartbeats 4000000 in
set_option maxRecDepth 100000 in
theorem k_L_armx1 {l : Launch} {D : va_G} (hl0 : l.stackTraces = false) {ad : Nat → Nat} {cI cZ cL : ClassId} {J : SJ} {rd : Nat → Int} {pr : Nat → Nat} {G : SH} {K : SK} {M : SM} {ov : Nat → Int64} (hI : JI J) {a : Int} (h : z32 a ∧ (a < 0 ∨ ((jn J : Nat) : Int) ≤ a)) : zMW l D (tysW cI cZ cL) y_L_arm w_L_arm 10 163 [.ref (ad 0), .int (iZ (a)), .ref (ad 33)] (wdC ad cI cZ cL J rd pr G K (wdM ad cI cZ cL J rd pr M ov)) (fun r w => r = iZ ((1 : Nat) : Int) ∧ w = wdC ad cI cZ cL J rd pr G K (wdM ad cI cZ cL J rd pr M ov)) := by
  refine z_ofW (by decide) (Nat.le_of_ble_eq_true rfl) ?_
  intro p e s m below meth c A ls Z htab hP hK hD hS hA hT hSt hl
  obtain ⟨hx, hb, hr, hml, hown, hts, hE, hlocks⟩ := id Z
  have hl : lv_has ls 4 [(0, .ref (ad 0)), (1, .int (iZ (a))), (2, .ref (ad 33))] := hl
  refine lv_aload_n hx hb d_L_arm_0 rfl (lv_at hl 2 rfl) ?_
  refine lv_iconst (v := iZ ((0 : Nat) : Int)) hx hb d_L_arm_1 (by decide) ?_
  refine lv_aload_n hx hb d_L_arm_2 rfl (lv_at hl 0 rfl) ?_
  refine lv_iload_n hx hb d_L_arm_3 rfl (lv_at hl 1 rfl) ?_
  refine z_xV (As := [.int (iZ (a))]) (rest := [.int (iZ ((0 : Nat) : Int)), .ref (ad 33)]) Z (x_D_arm1 hl0 hI (a := a) h) ⟨ml_L_27, im_D_arm, se_D_arm, ini_D, co_D_arm⟩ zd_D_arm ⟨Nat.le_of_ble_eq_true rfl, Nat.le_of_ble_eq_true rfl⟩ hP hK hT hSt (ci := 0) (q0 := 0) rfl rfl rfl hl.1 rfl (Nat.le_of_ble_eq_true rfl) d_L_arm_4 ⟨Nat.le_of_ble_eq_true rfl, Nat.le_of_ble_eq_true rfl⟩ (fun q9 ce9 H9 hz9 hk9 hc9 hv9 hcl9 => ?_)
  refine z_xk1 Z htab ⟨by decide, by decide⟩ (by decide) kl_L_13 ca_IndexOutOfBoundsException hc9 hv9 hcl9 ?_
  have hP := z_keepP hP hk9
  have hS := z_keepS hS hz9 hk9
  refine lv_astore_n (lv' := [(3, .ref (q9)), (0, .ref (ad 0)), (1, .int (iZ (a))), (2, .ref (ad 33))]) hx hb d_L_arm_12 rfl hl (by decide) rfl (fun ls hl => ?_)
  refine lv_iconst (v := iZ ((1 : Nat) : Int)) hx hb d_L_arm_13 (by decide) ?_
  exact z_iret Z hP hS d_L_arm_14 wdL_map ⟨rfl, rfl⟩

set_option maxHeartbeats 4000000 in
set_option maxRecDepth 100000 in
theorem k_L_arm0 {l : Launch} {D : va_G} {ad : Nat → Nat} {cI cZ cL : ClassId} {J : SJ} {rd : Nat → Int} {pr : Nat → Nat} {G : SH} {K : SK} {M : SM} {ov : Nat → Int64} (hI : JI J) {h : Nat} (hh : h < jn J) : zMW l D (tysW cI cZ cL) y_L_arm w_L_arm 10 163 [.ref (ad 0), .int (iZ ((h : Nat) : Int)), .ref (ad 33)] (wdC ad cI cZ cL J rd pr G K (wdM ad cI cZ cL J rd pr M ov)) (fun r w => r = iZ ((0 : Nat) : Int) ∧ w = wdC ad cI cZ cL J rd pr G K (wdM ad cI cZ cL J rd pr M (oU ov ((iZ ((if jdv J h = true then 1 else 0 : Nat) : Int)).toInt64)))) := by
  refine z_ofW (by decide) (Nat.le_of_ble_eq_true rfl) ?_
  intro p e s m below meth c A ls Z htab hP hK hD hS hA hT hSt hl
  obtain ⟨hx, hb, hr, hml, hown, hts, hE, hlocks⟩ := id Z
  have hl : lv_has ls 4 [(0, .ref (ad 0)), (1, .int (iZ ((h : Nat) : Int))), (2, .ref (ad 33))] := hl
  suffices K9 : ∀ (H : Heap) (locs : List Loc), va_P D classes (wdC ad cI cZ cL J rd pr G K (wdM ad cI cZ cL J rd pr M ov)) H → va_D A (wdC ad cI cZ cL J rd pr G K (wdM ad cI cZ cL J rd pr M ov)) → va_S A s.heap H locs → W p l e (zRx 10 163) s m ([.ref (ad 0), .int (iZ ((h : Nat) : Int)), .ref (ad 33)] : List Value).toArray below meth c H locs 0 0 (MQ below (va_Qi (fun r w => r = iZ ((0 : Nat) : Int) ∧ w = wdC ad cI cZ cL J rd pr G K (wdM ad cI cZ cL J rd pr M (oU ov ((iZ ((if jdv J h = true then 1 else 0 : Nat) : Int)).toInt64)))) (zB9 D classes (wdC ad cI cZ cL J rd pr G K (wdM ad cI cZ cL J rd pr M ov))) A) ([.ref (ad 0), .int (iZ ((h : Nat) : Int)), .ref (ad 33)] : List Value).toArray s 1 6 A) (F0 m 0 ls []) from K9 s.heap [] hP hD hS
  clear hP hD hS
  intro H locs hP hD hS
  refine lv_aload_n hx hb d_L_arm_0 rfl (lv_at hl 2 rfl) ?_
  refine lv_iconst (v := iZ ((0 : Nat) : Int)) hx hb d_L_arm_1 (by decide) ?_
  refine lv_aload_n hx hb d_L_arm_2 rfl (lv_at hl 0 rfl) ?_
  refine lv_iload_n hx hb d_L_arm_3 rfl (lv_at hl 1 rfl) ?_
  refine z_callVR (As := [.int (iZ ((h : Nat) : Int))]) (rest := [.int (iZ ((0 : Nat) : Int)), .ref (ad 33)]) zTB Z (k_D_arm hI hh) ⟨ml_L_27, im_D_arm, se_D_arm, ini_D, co_D_arm⟩ zd_D_arm ⟨Nat.le_of_ble_eq_true rfl, Nat.le_of_ble_eq_true rfl⟩ hP hK (ci := 0) (q0 := 0) rfl rfl rfl hl.1 rfl (Nat.le_of_ble_eq_true rfl) d_L_arm_4 ⟨Nat.zero_le _, Nat.zero_le _⟩ ?_
  refine W.eq (g2 := F0 m 7 ls [.int (iZ ((if jdv J h = true then 1 else 0 : Nat) : Int)), .int (iZ ((0 : Nat) : Int)), .ref (ad 33)]) rfl ?_
  refine lv_i2l (v := (iZ ((if jdv J h = true then 1 else 0 : Nat) : Int)).toInt64) hx hb d_L_arm_7 rfl ?_
  refine z_ost (x := (iZ ((if jdv J h = true then 1 else 0 : Nat) : Int)).toInt64) hx hb hK hP hD hS 33 2 rfl rfl d_L_arm_8 (fun H locs hP hD hS => ?_)
  have hP : va_P D classes (wdC ad cI cZ cL J rd pr G K (wdM ad cI cZ cL J rd pr M (oU ov ((iZ ((if jdv J h = true then 1 else 0 : Nat) : Int)).toInt64)))) H := hP
  have hD : va_D A (wdC ad cI cZ cL J rd pr G K (wdM ad cI cZ cL J rd pr M (oU ov ((iZ ((if jdv J h = true then 1 else 0 : Nat) : Int)).toInt64)))) := hD
  refine lv_goto (tgt := 15) hx hb d_L_arm_9 (by decide) ?_
  refine lv_iconst (v := iZ ((0 : Nat) : Int)) hx hb d_L_arm_15 (by decide) ?_
  refine W.widen (k := 1) (n := 6) (by omega) (by omega) ?_
  exact z_iret Z hP hS d_L_arm_16 wdL_map (⟨rfl, rfl⟩)

set_option maxHeartbeats 4000000 in
set_option maxRecDepth 100000 in
theorem k_L_pairx1 {l : Launch} {D : va_G} (hl0 : l.stackTraces = false) {ad : Nat → Nat} {cI cZ cL : ClassId} {J : SJ} {rd : Nat → Int} {pr : Nat → Nat} {G : SH} {K : SK} {M : SM} {ov : Nat → Int64} (hI : JI J) {a b : Int} (h : z32 a ∧ (a < 0 ∨ ((jk J : Nat) : Int) ≤ a)) : zMW l D (tysW cI cZ cL) y_L_pair w_L_pair 10 164 [.ref (ad 0), .int (iZ (a)), .int (iZ (b)), .ref (ad 33)] (wdC ad cI cZ cL J rd pr G K (wdM ad cI cZ cL J rd pr M ov)) (fun r w => r = iZ ((1 : Nat) : Int) ∧ w = wdC ad cI cZ cL J rd pr G K (wdM ad cI cZ cL J rd pr M ov)) := by
  refine z_ofW (by decide) (Nat.le_of_ble_eq_true rfl) ?_
  intro p e s m below meth c A ls Z htab hP hK hD hS hA hT hSt hl
  obtain ⟨hx, hb, hr, hml, hown, hts, hE, hlocks⟩ := id Z
  have hl : lv_has ls 5 [(0, .ref (ad 0)), (1, .int (iZ (a))), (2, .int (iZ (b))), (3, .ref (ad 33))] := hl
  refine lv_aload_n hx hb d_L_pair_0 rfl (lv_at hl 3 rfl) ?_
  refine lv_iconst (v := iZ ((0 : Nat) : Int)) hx hb d_L_pair_1 (by decide) ?_
  refine lv_aload_n hx hb d_L_pair_2 rfl (lv_at hl 0 rfl) ?_
  refine lv_iload_n hx hb d_L_pair_3 rfl (lv_at hl 1 rfl) ?_
  refine lv_iload_n hx hb d_L_pair_4 rfl (lv_at hl 2 rfl) ?_
  refine z_xV (As := [.int (iZ (a)), .int (iZ (b))]) (rest := [.int (iZ ((0 : Nat) : Int)), .ref (ad 33)]) Z (x_D_pair1 hl0 hI (a := a) (b := b) h) ⟨ml_L_30, im_D_pair, se_D_pair, ini_D, co_D_pair⟩ zd_D_pair ⟨Nat.le_of_ble_eq_true rfl, Nat.le_of_ble_eq_true rfl⟩ hP hK hT hSt (ci := 0) (q0 := 0) rfl rfl rfl hl.1 rfl (Nat.le_of_ble_eq_true rfl) d_L_pair_5 ⟨Nat.le_of_ble_eq_true rfl, Nat.le_of_ble_eq_true rfl⟩ (fun q9 ce9 H9 hz9 hk9 hc9 hv9 hcl9 => ?_)
  refine z_xk1 Z htab ⟨by decide, by decide⟩ (by decide) kl_L_13 ca_IndexOutOfBoundsException hc9 hv9 hcl9 ?_
  have hP := z_keepP hP hk9
  have hS := z_keepS hS hz9 hk9
  refine lv_astore (lv' := [(4, .ref (q9)), (0, .ref (ad 0)), (1, .int (iZ (a))), (2, .int (iZ (b))), (3, .ref (ad 33))]) hx hb d_L_pair_13 hl (by decide) rfl (fun ls hl => ?_)
  refine lv_iconst (v := iZ ((1 : Nat) : Int)) hx hb d_L_pair_15 (by decide) ?_
  exact z_iret Z hP hS d_L_pair_16 wdL_map ⟨rfl, rfl⟩

set_option maxHeartbeats 4000000 in
set_option maxRecDepth 100000 in
theorem k_L_pairx2 {l : Launch} {D : va_G} (hl0 : l.stackTraces = false) {ad : Nat → Nat} {cI cZ cL : ClassId} {J : SJ} {rd : Nat → Int} {pr : Nat → Nat} {G : SH} {K : SK} {M : SM} {ov : Nat → Int64} (hI : JI J) {pp : Nat} {b : Int} (hp : pp < jk J) (h : z32 b ∧ (b < 0 ∨ 3 ≤ b)) : zMW l D (tysW cI cZ cL) y_L_pair w_L_pair 10 164 [.ref (ad 0), .int (iZ ((pp : Nat) : Int)), .int (iZ (b)), .ref (ad 33)] (wdC ad cI cZ cL J rd pr G K (wdM ad cI cZ cL J rd pr M ov)) (fun r w => r = iZ ((1 : Nat) : Int) ∧ w = wdC ad cI cZ cL J rd pr G K (wdM ad cI cZ cL J rd pr M ov)) := by
  refine z_ofW (by decide) (Nat.le_of_ble_eq_true rfl) ?_
  intro p e s m below meth c A ls Z htab hP hK hD hS hA hT hSt hl
  obtain ⟨hx, hb, hr, hml, hown, hts, hE, hlocks⟩ := id Z
  have hl : lv_has ls 5 [(0, .ref (ad 0)), (1, .int (iZ ((pp : Nat) : Int))), (2, .int (iZ (b))), (3, .ref (ad 33))] := hl
  refine lv_aload_n hx hb d_L_pair_0 rfl (lv_at hl 3 rfl) ?_
  refine lv_iconst (v := iZ ((0 : Nat) : Int)) hx hb d_L_pair_1 (by decide) ?_
  refine lv_aload_n hx hb d_L_pair_2 rfl (lv_at hl 0 rfl) ?_
  refine lv_iload_n hx hb d_L_pair_3 rfl (lv_at hl 1 rfl) ?_
  refine lv_iload_n hx hb d_L_pair_4 rfl (lv_at hl 2 rfl) ?_
  refine z_xV (As := [.int (iZ ((pp : Nat) : Int)), .int (iZ (b))]) (rest := [.int (iZ ((0 : Nat) : Int)), .ref (ad 33)]) Z (x_D_pair2 hl0 hI (pp := pp) (b := b) hp h) ⟨ml_L_30, im_D_pair, se_D_pair, ini_D, co_D_pair⟩ zd_D_pair ⟨Nat.le_of_ble_eq_true rfl, Nat.le_of_ble_eq_true rfl⟩ hP hK hT hSt (ci := 0) (q0 := 0) rfl rfl rfl hl.1 rfl (Nat.le_of_ble_eq_true rfl) d_L_pair_5 ⟨Nat.le_of_ble_eq_true rfl, Nat.le_of_ble_eq_true rfl⟩ (fun q9 ce9 H9 hz9 hk9 hc9 hv9 hcl9 => ?_)
  refine z_xk1 Z htab ⟨by decide, by decide⟩ (by decide) kl_L_13 ca_IndexOutOfBoundsException hc9 hv9 hcl9 ?_
  have hP := z_keepP hP hk9
  have hS := z_keepS hS hz9 hk9
  refine lv_astore (lv' := [(4, .ref (q9)), (0, .ref (ad 0)), (1, .int (iZ ((pp : Nat) : Int))), (2, .int (iZ (b))), (3, .ref (ad 33))]) hx hb d_L_pair_13 hl (by decide) rfl (fun ls hl => ?_)
  refine lv_iconst (v := iZ ((1 : Nat) : Int)) hx hb d_L_pair_15 (by decide) ?_
  exact z_iret Z hP hS d_L_pair_16 wdL_map ⟨rfl, rfl⟩

set_option maxHeartbeats 4000000 in
set_option maxRecDepth 100000 in
theorem k_L_pair0 {l : Launch} {D : va_G} {ad : Nat → Nat} {cI cZ cL : ClassId} {J : SJ} {rd : Nat → Int} {pr : Nat → Nat} {G : SH} {K : SK} {M : SM} {ov : Nat → Int64} (hI : JI J) {pp wh : Nat} (hp : pp < jk J) (hw : wh < 3) : zMW l D (tysW cI cZ cL) y_L_pair w_L_pair 10 164 [.ref (ad 0), .int (iZ ((pp : Nat) : Int)), .int (iZ ((wh : Nat) : Int)), .ref (ad 33)] (wdC ad cI cZ cL J rd pr G K (wdM ad cI cZ cL J rd pr M ov)) (fun r w => r = iZ ((0 : Nat) : Int) ∧ w = wdC ad cI cZ cL J rd pr G K (wdM ad cI cZ cL J rd pr M (oU ov ((iZ ((sPr J pp wh : Nat) : Int)).toInt64)))) := by
  refine z_ofW (by decide) (Nat.le_of_ble_eq_true rfl) ?_
  intro p e s m below meth c A ls Z htab hP hK hD hS hA hT hSt hl
  obtain ⟨hx, hb, hr, hml, hown, hts, hE, hlocks⟩ := id Z
  have hl : lv_has ls 5 [(0, .ref (ad 0)), (1, .int (iZ ((pp : Nat) : Int))), (2, .int (iZ ((wh : Nat) : Int))), (3, .ref (ad 33))] := hl
  suffices K9 : ∀ (H : Heap) (locs : List Loc), va_P D classes (wdC ad cI cZ cL J rd pr G K (wdM ad cI cZ cL J rd pr M ov)) H → va_D A (wdC ad cI cZ cL J rd pr G K (wdM ad cI cZ cL J rd pr M ov)) → va_S A s.heap H locs → W p l e (zRx 10 164) s m ([.ref (ad 0), .int (iZ ((pp : Nat) : Int)), .int (iZ ((wh : Nat) : Int)), .ref (ad 33)] : List Value).toArray below meth c H locs 0 0 (MQ below (va_Qi (fun r w => r = iZ ((0 : Nat) : Int) ∧ w = wdC ad cI cZ cL J rd pr G K (wdM ad cI cZ cL J rd pr M (oU ov ((iZ ((sPr J pp wh : Nat) : Int)).toInt64)))) (zB9 D classes (wdC ad cI cZ cL J rd pr G K (wdM ad cI cZ cL J rd pr M ov))) A) ([.ref (ad 0), .int (iZ ((pp : Nat) : Int)), .int (iZ ((wh : Nat) : Int)), .ref (ad 33)] : List Value).toArray s 1 6 A) (F0 m 0 ls []) from K9 s.heap [] hP hD hS
  clear hP hD hS
  intro H locs hP hD hS
  refine lv_aload_n hx hb d_L_pair_0 rfl (lv_at hl 3 rfl) ?_
  refine lv_iconst (v := iZ ((0 : Nat) : Int)) hx hb d_L_pair_1 (by decide) ?_
  refine lv_aload_n hx hb d_L_pair_2 rfl (lv_at hl 0 rfl) ?_
  refine lv_iload_n hx hb d_L_pair_3 rfl (lv_at hl 1 rfl) ?_
  refine lv_iload_n hx hb d_L_pair_4 rfl (lv_at hl 2 rfl) ?_
  refine z_callVR (As := [.int (iZ ((pp : Nat) : Int)), .int (iZ ((wh : Nat) : Int))]) (rest := [.int (iZ ((0 : Nat) : Int)), .ref (ad 33)]) zTB Z (k_D_pair hI hp hw) ⟨ml_L_30, im_D_pair, se_D_pair, ini_D, co_D_pair⟩ zd_D_pair ⟨Nat.le_of_ble_eq_true rfl, Nat.le_of_ble_eq_true rfl⟩ hP hK (ci := 0) (q0 := 0) rfl rfl rfl hl.1 rfl (Nat.le_of_ble_eq_true rfl) d_L_pair_5 ⟨Nat.zero_le _, Nat.zero_le _⟩ ?_
  refine W.eq (g2 := F0 m 8 ls [.int (iZ ((sPr J pp wh : Nat) : Int)), .int (iZ ((0 : Nat) : Int)), .ref (ad 33)]) rfl ?_
  refine lv_i2l (v := (iZ ((sPr J pp wh : Nat) : Int)).toInt64) hx hb d_L_pair_8 rfl ?_
  refine z_ost (x := (iZ ((sPr J pp wh : Nat) : Int)).toInt64) hx hb hK hP hD hS 33 2 rfl rfl d_L_pair_9 (fun H locs hP hD hS => ?_)
  have hP : va_P D classes (wdC ad cI cZ cL J rd pr G K (wdM ad cI cZ cL J rd pr M (oU ov ((iZ ((sPr J pp wh : Nat) : Int)).toInt64)))) H := hP
  have hD : va_D A (wdC ad cI cZ cL J rd pr G K (wdM ad cI cZ cL J rd pr M (oU ov ((iZ ((sPr J pp wh : Nat) : Int)).toInt64)))) := hD
  refine lv_goto (tgt := 17) hx hb d_L_pair_10 (by decide) ?_
  refine lv_iconst (v := iZ ((0 : Nat) : Int)) hx hb d_L_pair_17 (by decide) ?_
  refine W.widen (k := 1) (n := 6) (by omega) (by omega) ?_
  exact z_iret Z hP hS d_L_pair_18 wdL_map (⟨rfl, rfl⟩)

set_option maxHeartbeats 4000000 in
set_option maxRecDepth 100000 in
theorem k_L_differencex1 {l : Launch} {D : va_G} (hl0 : l.stackTraces = false) {ad : Nat → Nat} {cI cZ cL : ClassId} {J : SJ} {rd : Nat → Int} {pr : Nat → Nat} {G : SH} {K : SK} {M : SM} {ov : Nat → Int64} (hI : JI J) {a b : Int} (h : z32 a ∧ (a < 0 ∨ ((jk J : Nat) : Int) ≤ a)) : zMW l D (tysW cI cZ cL) y_L_difference w_L_difference 10 164 [.ref (ad 0), .int (iZ (a)), .int (iZ (b)), .ref (ad 33)] (wdC ad cI cZ cL J rd pr G K (wdM ad cI cZ cL J rd pr M ov)) (fun r w => r = iZ ((1 : Nat) : Int) ∧ w = wdC ad cI cZ cL J rd pr G K (wdM ad cI cZ cL J rd pr M ov)) := by
  refine z_ofW (by decide) (Nat.le_of_ble_eq_true rfl) ?_
  intro p e s m below meth c A ls Z htab hP hK hD hS hA hT hSt hl
  obtain ⟨hx, hb, hr, hml, hown, hts, hE, hlocks⟩ := id Z
  have hl : lv_has ls 5 [(0, .ref (ad 0)), (1, .int (iZ (a))), (2, .int (iZ (b))), (3, .ref (ad 33))] := hl
  refine lv_aload_n hx hb d_L_difference_0 rfl (lv_at hl 3 rfl) ?_
  refine lv_iconst (v := iZ ((0 : Nat) : Int)) hx hb d_L_difference_1 (by decide) ?_
  refine lv_aload_n hx hb d_L_difference_2 rfl (lv_at hl 0 rfl) ?_
  refine lv_iload_n hx hb d_L_difference_3 rfl (lv_at hl 1 rfl) ?_
  refine lv_iload_n hx hb d_L_difference_4 rfl (lv_at hl 2 rfl) ?_
  refine z_xV (As := [.int (iZ (a)), .int (iZ (b))]) (rest := [.int (iZ ((0 : Nat) : Int)), .ref (ad 33)]) Z (x_D_difference1 hl0 hI (a := a) (b := b) h) ⟨ml_L_34, im_D_difference, se_D_difference, ini_D, co_D_difference⟩ zd_D_difference ⟨Nat.le_of_ble_eq_true rfl, Nat.le_of_ble_eq_true rfl⟩ hP hK hT hSt (ci := 0) (q0 := 0) rfl rfl rfl hl.1 rfl (Nat.le_of_ble_eq_true rfl) d_L_difference_5 ⟨Nat.le_of_ble_eq_true rfl, Nat.le_of_ble_eq_true rfl⟩ (fun q9 ce9 H9 hz9 hk9 hc9 hv9 hcl9 => ?_)
  refine z_xk1 Z htab ⟨by decide, by decide⟩ (by decide) kl_L_13 ca_IndexOutOfBoundsException hc9 hv9 hcl9 ?_
  have hP := z_keepP hP hk9
  have hS := z_keepS hS hz9 hk9
  refine lv_astore (lv' := [(4, .ref (q9)), (0, .ref (ad 0)), (1, .int (iZ (a))), (2, .int (iZ (b))), (3, .ref (ad 33))]) hx hb d_L_difference_13 hl (by decide) rfl (fun ls hl => ?_)
  refine lv_iconst (v := iZ ((1 : Nat) : Int)) hx hb d_L_difference_15 (by decide) ?_
  exact z_iret Z hP hS d_L_difference_16 wdL_map ⟨rfl, rfl⟩

set_option maxHeartbeats 4000000 in
set_option maxRecDepth 100000 in
theorem k_L_differencex2 {l : Launch} {D : va_G} (hl0 : l.stackTraces = false) {ad : Nat → Nat} {cI cZ cL : ClassId} {J : SJ} {rd : Nat → Int} {pr : Nat → Nat} {G : SH} {K : SK} {M : SM} {ov : Nat → Int64} (hI : JI J) {pp : Nat} {b : Int} (hp : pp < jk J) (h : z32 b ∧ (b < 0 ∨ 3 ≤ b)) : zMW l D (tysW cI cZ cL) y_L_difference w_L_difference 10 164 [.ref (ad 0), .int (iZ ((pp : Nat) : Int)), .int (iZ (b)), .ref (ad 33)] (wdC ad cI cZ cL J rd pr G K (wdM ad cI cZ cL J rd pr M ov)) (fun r w => r = iZ ((1 : Nat) : Int) ∧ w = wdC ad cI cZ cL J rd pr G K (wdM ad cI cZ cL J rd pr M ov)) := by
  refine z_ofW (by decide) (Nat.le_of_ble_eq_true rfl) ?_
  intro p e s m below meth c A ls Z htab hP hK hD hS hA hT hSt hl
  obtain ⟨hx, hb, hr, hml, hown, hts, hE, hlocks⟩ := id Z
  have hl : lv_has ls 5 [(0, .ref (ad 0)), (1, .int (iZ ((pp : Nat) : Int))), (2, .int (iZ (b))), (3, .ref (ad 33))] := hl
  refine lv_aload_n hx hb d_L_difference_0 rfl (lv_at hl 3 rfl) ?_
  refine lv_iconst (v := iZ ((0 : Nat) : Int)) hx hb d_L_difference_1 (by decide) ?_
  refine lv_aload_n hx hb d_L_difference_2 rfl (lv_at hl 0 rfl) ?_
  refine lv_iload_n hx hb d_L_difference_3 rfl (lv_at hl 1 rfl) ?_
  refine lv_iload_n hx hb d_L_difference_4 rfl (lv_at hl 2 rfl) ?_
  refine z_xV (As := [.int (iZ ((pp : Nat) : Int)), .int (iZ (b))]) (rest := [.int (iZ ((0 : Nat) : Int)), .ref (ad 33)]) Z (x_D_difference2 hl0 hI (pp := pp) (b := b) hp h) ⟨ml_L_34, im_D_difference, se_D_difference, ini_D, co_D_difference⟩ zd_D_difference ⟨Nat.le_of_ble_eq_true rfl, Nat.le_of_ble_eq_true rfl⟩ hP hK hT hSt (ci := 0) (q0 := 0) rfl rfl rfl hl.1 rfl (Nat.le_of_ble_eq_true rfl) d_L_difference_5 ⟨Nat.le_of_ble_eq_true rfl, Nat.le_of_ble_eq_true rfl⟩ (fun q9 ce9 H9 hz9 hk9 hc9 hv9 hcl9 => ?_)
  refine z_xk1 Z htab ⟨by decide, by decide⟩ (by decide) kl_L_13 ca_IndexOutOfBoundsException hc9 hv9 hcl9 ?_
  have hP := z_keepP hP hk9
  have hS := z_keepS hS hz9 hk9
  refine lv_astore (lv' := [(4, .ref (q9)), (0, .ref (ad 0)), (1, .int (iZ ((pp : Nat) : Int))), (2, .int (iZ (b))), (3, .ref (ad 33))]) hx hb d_L_difference_13 hl (by decide) rfl (fun ls hl => ?_)
  refine lv_iconst (v := iZ ((1 : Nat) : Int)) hx hb d_L_difference_15 (by decide) ?_
  exact z_iret Z hP hS d_L_difference_16 wdL_map ⟨rfl, rfl⟩

set_option maxHeartbeats 4000000 in
set_option maxRecDepth 100000 in
theorem k_L_difference0 {l : Launch} {D : va_G} {ad : Nat → Nat} {cI cZ cL : ClassId} {J : SJ} {rd : Nat → Int} {pr : Nat → Nat} {G : SH} {K : SK} {M : SM} {ov : Nat → Int64} (hI : JI J) {pp kd : Nat} (hp : pp < jk J) (hkd : kd < 3) : zMW l D (tysW cI cZ cL) y_L_difference w_L_difference 10 164 [.ref (ad 0), .int (iZ ((pp : Nat) : Int)), .int (iZ ((kd : Nat) : Int)), .ref (ad 33)] (wdC ad cI cZ cL J rd pr G K (wdM ad cI cZ cL J rd pr M ov)) (fun r w => r = iZ ((0 : Nat) : Int) ∧ w = wdC ad cI cZ cL J rd pr G K (wdM ad cI cZ cL J rd pr M (oU ov ((iZ (sDf J pp kd)).toInt64)))) := by
  refine z_ofW (by decide) (Nat.le_of_ble_eq_true rfl) ?_
  intro p e s m below meth c A ls Z htab hP hK hD hS hA hT hSt hl
  obtain ⟨hx, hb, hr, hml, hown, hts, hE, hlocks⟩ := id Z
  have hl : lv_has ls 5 [(0, .ref (ad 0)), (1, .int (iZ ((pp : Nat) : Int))), (2, .int (iZ ((kd : Nat) : Int))), (3, .ref (ad 33))] := hl
  suffices K9 : ∀ (H : Heap) (locs : List Loc), va_P D classes (wdC ad cI cZ cL J rd pr G K (wdM ad cI cZ cL J rd pr M ov)) H → va_D A (wdC ad cI cZ cL J rd pr G K (wdM ad cI cZ cL J rd pr M ov)) → va_S A s.heap H locs → W p l e (zRx 10 164) s m ([.ref (ad 0), .int (iZ ((pp : Nat) : Int)), .int (iZ ((kd : Nat) : Int)), .ref (ad 33)] : List Value).toArray below meth c H locs 0 0 (MQ below (va_Qi (fun r w => r = iZ ((0 : Nat) : Int) ∧ w = wdC ad cI cZ cL J rd pr G K (wdM ad cI cZ cL J rd pr M (oU ov ((iZ (sDf J pp kd)).toInt64)))) (zB9 D classes (wdC ad cI cZ cL J rd pr G K (wdM ad cI cZ cL J rd pr M ov))) A) ([.ref (ad 0), .int (iZ ((pp : Nat) : Int)), .int (iZ ((kd : Nat) : Int)), .ref (ad 33)] : List Value).toArray s 1 6 A) (F0 m 0 ls []) from K9 s.heap [] hP hD hS
  clear hP hD hS
  intro H locs hP hD hS
  refine lv_aload_n hx hb d_L_difference_0 rfl (lv_at hl 3 rfl) ?_
  refine lv_iconst (v := iZ ((0 : Nat) : Int)) hx hb d_L_difference_1 (by decide) ?_
  refine lv_aload_n hx hb d_L_difference_2 rfl (lv_at hl 0 rfl) ?_
  refine lv_iload_n hx hb d_L_difference_3 rfl (lv_at hl 1 rfl) ?_
  refine lv_iload_n hx hb d_L_difference_4 rfl (lv_at hl 2 rfl) ?_
  refine z_callVR (As := [.int (iZ ((pp : Nat) : Int)), .int (iZ ((kd : Nat) : Int))]) (rest := [.int (iZ ((0 : Nat) : Int)), .ref (ad 33)]) zTB Z (k_D_difference hI hp hkd) ⟨ml_L_34, im_D_difference, se_D_difference, ini_D, co_D_difference⟩ zd_D_difference ⟨Nat.le_of_ble_eq_true rfl, Nat.le_of_ble_eq_true rfl⟩ hP hK (ci := 0) (q0 := 0) rfl rfl rfl hl.1 rfl (Nat.le_of_ble_eq_true rfl) d_L_difference_5 ⟨Nat.zero_le _, Nat.zero_le _⟩ ?_
  refine W.eq (g2 := F0 m 8 ls [.int (iZ (sDf J pp kd)), .int (iZ ((0 : Nat) : Int)), .ref (ad 33)]) rfl ?_
  refine lv_i2l (v := (iZ (sDf J pp kd)).toInt64) hx hb d_L_difference_8 rfl ?_
  refine z_ost (x := (iZ (sDf J pp kd)).toInt64) hx hb hK hP hD hS 33 2 rfl rfl d_L_difference_9 (fun H locs hP hD hS => ?_)
  have hP : va_P D classes (wdC ad cI cZ cL J rd pr G K (wdM ad cI cZ cL J rd pr M (oU ov ((iZ (sDf J pp kd)).toInt64)))) H := hP
  have hD : va_D A (wdC ad cI cZ cL J rd pr G K (wdM ad cI cZ cL J rd pr M (oU ov ((iZ (sDf J pp kd)).toInt64)))) := hD
  refine lv_goto (tgt := 17) hx hb d_L_difference_10 (by decide) ?_
  refine lv_iconst (v := iZ ((0 : Nat) : Int)) hx hb d_L_difference_17 (by decide) ?_
  refine W.widen (k := 1) (n := 6) (by omega) (by omega) ?_
  exact z_iret Z hP hS d_L_difference_18 wdL_map (⟨rfl, rfl⟩)

set_option maxHeartbeats 4000000 in
set_option maxRecDepth 100000 in
theorem k_L_rankx1 {l : Launch} {D : va_G} (hl0 : l.stackTraces = false) {ad : Nat → Nat} {cI cZ cL : ClassId} {J : SJ} {rd : Nat → Int} {pr : Nat → Nat} {G : SH} {K : SK} {M : SM} {ov : Nat → Int64} (hI : JI J) {a b : Int} (h : z32 a ∧ (a < 0 ∨ ((jk J : Nat) : Int) ≤ a)) : zMW l D (tysW cI cZ cL) y_L_rank w_L_rank 10 164 [.ref (ad 0), .int (iZ (a)), .int (iZ (b)), .ref (ad 33)] (wdC ad cI cZ cL J rd pr G K (wdM ad cI cZ cL J rd pr M ov)) (fun r w => r = iZ ((1 : Nat) : Int) ∧ w = wdC ad cI cZ cL J rd pr G K (wdM ad cI cZ cL J rd pr M ov)) := by
  refine z_ofW (by decide) (Nat.le_of_ble_eq_true rfl) ?_
  intro p e s m below meth c A ls Z htab hP hK hD hS hA hT hSt hl
  obtain ⟨hx, hb, hr, hml, hown, hts, hE, hlocks⟩ := id Z
  have hl : lv_has ls 5 [(0, .ref (ad 0)), (1, .int (iZ (a))), (2, .int (iZ (b))), (3, .ref (ad 33))] := hl
  refine lv_aload_n hx hb d_L_rank_0 rfl (lv_at hl 3 rfl) ?_
  refine lv_iconst (v := iZ ((0 : Nat) : Int)) hx hb d_L_rank_1 (by decide) ?_
  refine lv_aload_n hx hb d_L_rank_2 rfl (lv_at hl 0 rfl) ?_
  refine lv_iload_n hx hb d_L_rank_3 rfl (lv_at hl 1 rfl) ?_
  refine lv_iload_n hx hb d_L_rank_4 rfl (lv_at hl 2 rfl) ?_
  refine z_xV (As := [.int (iZ (a)), .int (iZ (b))]) (rest := [.int (iZ ((0 : Nat) : Int)), .ref (ad 33)]) Z (x_D_rank1 hl0 hI (a := a) (b := b) h) ⟨ml_L_47, im_D_rank, se_D_rank, ini_D, co_D_rank⟩ zd_D_rank ⟨Nat.le_of_ble_eq_true rfl, Nat.le_of_ble_eq_true rfl⟩ hP hK hT hSt (ci := 0) (q0 := 0) rfl rfl rfl hl.1 rfl (Nat.le_of_ble_eq_true rfl) d_L_rank_5 ⟨Nat.le_of_ble_eq_true rfl, Nat.le_of_ble_eq_true rfl⟩ (fun q9 ce9 H9 hz9 hk9 hc9 hv9 hcl9 => ?_)
  refine z_xk1 Z htab ⟨by decide, by decide⟩ (by decide) kl_L_13 ca_IndexOutOfBoundsException hc9 hv9 hcl9 ?_
  have hP := z_keepP hP hk9
  have hS := z_keepS hS hz9 hk9
  refine lv_astore (lv' := [(4, .ref (q9)), (0, .ref (ad 0)), (1, .int (iZ (a))), (2, .int (iZ (b))), (3, .ref (ad 33))]) hx hb d_L_rank_13 hl (by decide) rfl (fun ls hl => ?_)
  refine lv_iconst (v := iZ ((1 : Nat) : Int)) hx hb d_L_rank_15 (by decide) ?_
  exact z_iret Z hP hS d_L_rank_16 wdL_map ⟨rfl, rfl⟩

set_option maxHeartbeats 4000000 in
set_option maxRecDepth 100000 in
theorem k_L_rankx2 {l : Launch} {D : va_G} (hl0 : l.stackTraces = false) {ad : Nat → Nat} {cI cZ cL : ClassId} {J : SJ} {rd : Nat → Int} {pr : Nat → Nat} {G : SH} {K : SK} {M : SM} {ov : Nat → Int64} (hI : JI J) {pp : Nat} {b : Int} (hp : pp < jk J) (h : z32 b ∧ (b < 0 ∨ 3 ≤ b)) : zMW l D (tysW cI cZ cL) y_L_rank w_L_rank 10 164 [.ref (ad 0), .int (iZ ((pp : Nat) : Int)), .int (iZ (b)), .ref (ad 33)] (wdC ad cI cZ cL J rd pr G K (wdM ad cI cZ cL J rd pr M ov)) (fun r w => r = iZ ((1 : Nat) : Int) ∧ w = wdC ad cI cZ cL J rd pr G K (wdM ad cI cZ cL J rd pr M ov)) := by
  refine z_ofW (by decide) (Nat.le_of_ble_eq_true rfl) ?_
  intro p e s m below meth c A ls Z htab hP hK hD hS hA hT hSt hl
  obtain ⟨hx, hb, hr, hml, hown, hts, hE, hlocks⟩ := id Z
  have hl : lv_has ls 5 [(0, .ref (ad 0)), (1, .int (iZ ((pp : Nat) : Int))), (2, .int (iZ (b))), (3, .ref (ad 33))] := hl
  refine lv_aload_n hx hb d_L_rank_0 rfl (lv_at hl 3 rfl) ?_
  refine lv_iconst (v := iZ ((0 : Nat) : Int)) hx hb d_L_rank_1 (by decide) ?_
  refine lv_aload_n hx hb d_L_rank_2 rfl (lv_at hl 0 rfl) ?_
  refine lv_iload_n hx hb d_L_rank_3 rfl (lv_at hl 1 rfl) ?_
  refine lv_iload_n hx hb d_L_rank_4 rfl (lv_at hl 2 rfl) ?_
  refine z_xV (As := [.int (iZ ((pp : Nat) : Int)), .int (iZ (b))]) (rest := [.int (iZ ((0 : Nat) : Int)), .ref (ad 33)]) Z (x_D_rank2 hl0 hI (pp := pp) (b := b) hp h) ⟨ml_L_47, im_D_rank, se_D_rank, ini_D, co_D_rank⟩ zd_D_rank ⟨Nat.le_of_ble_eq_true rfl, Nat.le_of_ble_eq_true rfl⟩ hP hK hT hSt (ci := 0) (q0 := 0) rfl rfl rfl hl.1 rfl (Nat.le_of_ble_eq_true rfl) d_L_rank_5 ⟨Nat.le_of_ble_eq_true rfl, Nat.le_of_ble_eq_true rfl⟩ (fun q9 ce9 H9 hz9 hk9 hc9 hv9 hcl9 => ?_)
  refine z_xk1 Z htab ⟨by decide, by decide⟩ (by decide) kl_L_13 ca_IndexOutOfBoundsException hc9 hv9 hcl9 ?_
  have hP := z_keepP hP hk9
  have hS := z_keepS hS hz9 hk9
  refine lv_astore (lv' := [(4, .ref (q9)), (0, .ref (ad 0)), (1, .int (iZ ((pp : Nat) : Int))), (2, .int (iZ (b))), (3, .ref (ad 33))]) hx hb d_L_rank_13 hl (by decide) rfl (fun ls hl => ?_)
  refine lv_iconst (v := iZ ((1 : Nat) : Int)) hx hb d_L_rank_15 (by decide) ?_
  exact z_iret Z hP hS d_L_rank_16 wdL_map ⟨rfl, rfl⟩

set_option maxHeartbeats 4000000 in
set_option maxRecDepth 100000 in
theorem k_L_rank0 {l : Launch} {D : va_G} {ad : Nat → Nat} {cI cZ cL : ClassId} {J : SJ} {rd : Nat → Int} {pr : Nat → Nat} {G : SH} {K : SK} {M : SM} {ov : Nat → Int64} (hI : JI J) {pp kd : Nat} (hp : pp < jk J) (hkd : kd < 3) : zMW l D (tysW cI cZ cL) y_L_rank w_L_rank 10 164 [.ref (ad 0), .int (iZ ((pp : Nat) : Int)), .int (iZ ((kd : Nat) : Int)), .ref (ad 33)] (wdC ad cI cZ cL J rd pr G K (wdM ad cI cZ cL J rd pr M ov)) (fun r w => r = iZ ((0 : Nat) : Int) ∧ w = wdC ad cI cZ cL J rd pr G K (wdM ad cI cZ cL J rd pr M (oU ov ((iZ ((sRk J pp kd : Nat) : Int)).toInt64)))) := by
  refine z_ofW (by decide) (Nat.le_of_ble_eq_true rfl) ?_
  intro p e s m below meth c A ls Z htab hP hK hD hS hA hT hSt hl
  obtain ⟨hx, hb, hr, hml, hown, hts, hE, hlocks⟩ := id Z
  have hl : lv_has ls 5 [(0, .ref (ad 0)), (1, .int (iZ ((pp : Nat) : Int))), (2, .int (iZ ((kd : Nat) : Int))), (3, .ref (ad 33))] := hl
  suffices K9 : ∀ (H : Heap) (locs : List Loc), va_P D classes (wdC ad cI cZ cL J rd pr G K (wdM ad cI cZ cL J rd pr M ov)) H → va_D A (wdC ad cI cZ cL J rd pr G K (wdM ad cI cZ cL J rd pr M ov)) → va_S A s.heap H locs → W p l e (zRx 10 164) s m ([.ref (ad 0), .int (iZ ((pp : Nat) : Int)), .int (iZ ((kd : Nat) : Int)), .ref (ad 33)] : List Value).toArray below meth c H locs 0 0 (MQ below (va_Qi (fun r w => r = iZ ((0 : Nat) : Int) ∧ w = wdC ad cI cZ cL J rd pr G K (wdM ad cI cZ cL J rd pr M (oU ov ((iZ ((sRk J pp kd : Nat) : Int)).toInt64)))) (zB9 D classes (wdC ad cI cZ cL J rd pr G K (wdM ad cI cZ cL J rd pr M ov))) A) ([.ref (ad 0), .int (iZ ((pp : Nat) : Int)), .int (iZ ((kd : Nat) : Int)), .ref (ad 33)] : List Value).toArray s 1 6 A) (F0 m 0 ls []) from K9 s.heap [] hP hD hS
  clear hP hD hS
  intro H locs hP hD hS
  refine lv_aload_n hx hb d_L_rank_0 rfl (lv_at hl 3 rfl) ?_
  refine lv_iconst (v := iZ ((0 : Nat) : Int)) hx hb d_L_rank_1 (by decide) ?_
  refine lv_aload_n hx hb d_L_rank_2 rfl (lv_at hl 0 rfl) ?_
  refine lv_iload_n hx hb d_L_rank_3 rfl (lv_at hl 1 rfl) ?_
  refine lv_iload_n hx hb d_L_rank_4 rfl (lv_at hl 2 rfl) ?_
  refine z_callVR (As := [.int (iZ ((pp : Nat) : Int)), .int (iZ ((kd : Nat) : Int))]) (rest := [.int (iZ ((0 : Nat) : Int)), .ref (ad 33)]) zTB Z (k_D_rank hI hp hkd) ⟨ml_L_47, im_D_rank, se_D_rank, ini_D, co_D_rank⟩ zd_D_rank ⟨Nat.le_of_ble_eq_true rfl, Nat.le_of_ble_eq_true rfl⟩ hP hK (ci := 0) (q0 := 0) rfl rfl rfl hl.1 rfl (Nat.le_of_ble_eq_true rfl) d_L_rank_5 ⟨Nat.zero_le _, Nat.zero_le _⟩ ?_
  refine W.eq (g2 := F0 m 8 ls [.int (iZ ((sRk J pp kd : Nat) : Int)), .int (iZ ((0 : Nat) : Int)), .ref (ad 33)]) rfl ?_
  refine lv_i2l (v := (iZ ((sRk J pp kd : Nat) : Int)).toInt64) hx hb d_L_rank_8 rfl ?_
  refine z_ost (x := (iZ ((sRk J pp kd : Nat) : Int)).toInt64) hx hb hK hP hD hS 33 2 rfl rfl d_L_rank_9 (fun H locs hP hD hS => ?_)
  have hP : va_P D classes (wdC ad cI cZ cL J rd pr G K (wdM ad cI cZ cL J rd pr M (oU ov ((iZ ((sRk J pp kd : Nat) : Int)).toInt64)))) H := hP
  have hD : va_D A (wdC ad cI cZ cL J rd pr G K (wdM ad cI cZ cL J rd pr M (oU ov ((iZ ((sRk J pp kd : Nat) : Int)).toInt64)))) := hD
  refine lv_goto (tgt := 17) hx hb d_L_rank_10 (by decide) ?_
  refine lv_iconst (v := iZ ((0 : Nat) : Int)) hx hb d_L_rank_17 (by decide) ?_
  refine W.widen (k := 1) (n := 6) (by omega) (by omega) ?_
  exact z_iret Z hP hS d_L_rank_18 wdL_map (⟨rfl, rfl⟩)

set_option maxHeartbeats 4000000 in
set_option maxRecDepth 100000 in
theorem k_L_keptx1 {l : Launch} {D : va_G} (hl0 : l.stackTraces = false) {ad : Nat → Nat} {cI cZ cL : ClassId} {J : SJ} {rd : Nat → Int} {pr : Nat → Nat} {G : SH} {K : SK} {M : SM} {ov : Nat → Int64} (hI : JI J) {a : Int} (h : z32 a ∧ (a < 0 ∨ 3 ≤ a)) : zMW l D (tysW cI cZ cL) y_L_kept w_L_kept 10 162 [.ref (ad 0), .int (iZ (a)), .ref (ad 33)] (wdC ad cI cZ cL J rd pr G K (wdM ad cI cZ cL J rd pr M ov)) (fun r w => r = iZ ((1 : Nat) : Int) ∧ w = wdC ad cI cZ cL J rd pr G K (wdM ad cI cZ cL J rd pr M ov)) := by
  refine z_ofW (by decide) (Nat.le_of_ble_eq_true rfl) ?_
  intro p e s m below meth c A ls Z htab hP hK hD hS hA hT hSt hl
  obtain ⟨hx, hb, hr, hml, hown, hts, hE, hlocks⟩ := id Z
  have hl : lv_has ls 4 [(0, .ref (ad 0)), (1, .int (iZ (a))), (2, .ref (ad 33))] := hl
  refine lv_aload_n hx hb d_L_kept_0 rfl (lv_at hl 2 rfl) ?_
  refine lv_iconst (v := iZ ((0 : Nat) : Int)) hx hb d_L_kept_1 (by decide) ?_
  refine lv_aload_n hx hb d_L_kept_2 rfl (lv_at hl 0 rfl) ?_
  refine lv_iload_n hx hb d_L_kept_3 rfl (lv_at hl 1 rfl) ?_
  refine z_xV (As := [.int (iZ (a))]) (rest := [.int (iZ ((0 : Nat) : Int)), .ref (ad 33)]) Z (x_D_kept1 hl0 hI (a := a) h) ⟨ml_L_37, im_D_kept, se_D_kept, ini_D, co_D_kept⟩ zd_D_kept ⟨Nat.le_of_ble_eq_true rfl, Nat.le_of_ble_eq_true rfl⟩ hP hK hT hSt (ci := 0) (q0 := 0) rfl rfl rfl hl.1 rfl (Nat.le_of_ble_eq_true rfl) d_L_kept_4 ⟨Nat.le_of_ble_eq_true rfl, Nat.le_of_ble_eq_true rfl⟩ (fun q9 ce9 H9 hz9 hk9 hc9 hv9 hcl9 => ?_)
  refine z_xk1 Z htab ⟨by decide, by decide⟩ (by decide) kl_L_13 ca_IndexOutOfBoundsException hc9 hv9 hcl9 ?_
  have hP := z_keepP hP hk9
  have hS := z_keepS hS hz9 hk9
  refine lv_astore_n (lv' := [(3, .ref (q9)), (0, .ref (ad 0)), (1, .int (iZ (a))), (2, .ref (ad 33))]) hx hb d_L_kept_12 rfl hl (by decide) rfl (fun ls hl => ?_)
  refine lv_iconst (v := iZ ((1 : Nat) : Int)) hx hb d_L_kept_13 (by decide) ?_
  exact z_iret Z hP hS d_L_kept_14 wdL_map ⟨rfl, rfl⟩

set_option maxHeartbeats 4000000 in
set_option maxRecDepth 100000 in
theorem k_L_kept0 {l : Launch} {D : va_G} {ad : Nat → Nat} {cI cZ cL : ClassId} {J : SJ} {rd : Nat → Int} {pr : Nat → Nat} {G : SH} {K : SK} {M : SM} {ov : Nat → Int64} (hI : JI J) {kd : Nat} (hkd : kd < 3) : zMW l D (tysW cI cZ cL) y_L_kept w_L_kept 10 162 [.ref (ad 0), .int (iZ ((kd : Nat) : Int)), .ref (ad 33)] (wdC ad cI cZ cL J rd pr G K (wdM ad cI cZ cL J rd pr M ov)) (fun r w => r = iZ ((0 : Nat) : Int) ∧ w = wdC ad cI cZ cL J rd pr G K (wdM ad cI cZ cL J rd pr M (oU ov ((iZ ((sKO J 4 kd (jk J) : Nat) : Int)).toInt64)))) := by
  refine z_ofW (by decide) (Nat.le_of_ble_eq_true rfl) ?_
  intro p e s m below meth c A ls Z htab hP hK hD hS hA hT hSt hl
  obtain ⟨hx, hb, hr, hml, hown, hts, hE, hlocks⟩ := id Z
  have hl : lv_has ls 4 [(0, .ref (ad 0)), (1, .int (iZ ((kd : Nat) : Int))), (2, .ref (ad 33))] := hl
  suffices K9 : ∀ (H : Heap) (locs : List Loc), va_P D classes (wdC ad cI cZ cL J rd pr G K (wdM ad cI cZ cL J rd pr M ov)) H → va_D A (wdC ad cI cZ cL J rd pr G K (wdM ad cI cZ cL J rd pr M ov)) → va_S A s.heap H locs → W p l e (zRx 10 162) s m ([.ref (ad 0), .int (iZ ((kd : Nat) : Int)), .ref (ad 33)] : List Value).toArray below meth c H locs 0 0 (MQ below (va_Qi (fun r w => r = iZ ((0 : Nat) : Int) ∧ w = wdC ad cI cZ cL J rd pr G K (wdM ad cI cZ cL J rd pr M (oU ov ((iZ ((sKO J 4 kd (jk J) : Nat) : Int)).toInt64)))) (zB9 D classes (wdC ad cI cZ cL J rd pr G K (wdM ad cI cZ cL J rd pr M ov))) A) ([.ref (ad 0), .int (iZ ((kd : Nat) : Int)), .ref (ad 33)] : List Value).toArray s 1 6 A) (F0 m 0 ls []) from K9 s.heap [] hP hD hS
  clear hP hD hS
  intro H locs hP hD hS
  refine lv_aload_n hx hb d_L_kept_0 rfl (lv_at hl 2 rfl) ?_
  refine lv_iconst (v := iZ ((0 : Nat) : Int)) hx hb d_L_kept_1 (by decide) ?_
  refine lv_aload_n hx hb d_L_kept_2 rfl (lv_at hl 0 rfl) ?_
  refine lv_iload_n hx hb d_L_kept_3 rfl (lv_at hl 1 rfl) ?_
  refine z_callVR (As := [.int (iZ ((kd : Nat) : Int))]) (rest := [.int (iZ ((0 : Nat) : Int)), .ref (ad 33)]) zTB Z (k_D_kept hI hkd) ⟨ml_L_37, im_D_kept, se_D_kept, ini_D, co_D_kept⟩ zd_D_kept ⟨Nat.le_of_ble_eq_true rfl, Nat.le_of_ble_eq_true rfl⟩ hP hK (ci := 0) (q0 := 0) rfl rfl rfl hl.1 rfl (Nat.le_of_ble_eq_true rfl) d_L_kept_4 ⟨Nat.zero_le _, Nat.zero_le _⟩ ?_
  refine W.eq (g2 := F0 m 7 ls [.int (iZ ((sKO J 4 kd (jk J) : Nat) : Int)), .int (iZ ((0 : Nat) : Int)), .ref (ad 33)]) rfl ?_
  refine lv_i2l (v := (iZ ((sKO J 4 kd (jk J) : Nat) : Int)).toInt64) hx hb d_L_kept_7 rfl ?_
  refine z_ost (x := (iZ ((sKO J 4 kd (jk J) : Nat) : Int)).toInt64) hx hb hK hP hD hS 33 2 rfl rfl d_L_kept_8 (fun H locs hP hD hS => ?_)
  have hP : va_P D classes (wdC ad cI cZ cL J rd pr G K (wdM ad cI cZ cL J rd pr M (oU ov ((iZ ((sKO J 4 kd (jk J) : Nat) : Int)).toInt64)))) H := hP
  have hD : va_D A (wdC ad cI cZ cL J rd pr G K (wdM ad cI cZ cL J rd pr M (oU ov ((iZ ((sKO J 4 kd (jk J) : Nat) : Int)).toInt64)))) := hD
  refine lv_goto (tgt := 15) hx hb d_L_kept_9 (by decide) ?_
  refine lv_iconst (v := iZ ((0 : Nat) : Int)) hx hb d_L_kept_15 (by decide) ?_
  refine W.widen (k := 1) (n := 6) (by omega) (by omega) ?_
  exact z_iret Z hP hS d_L_kept_16 wdL_map (⟨rfl, rfl⟩)

set_option maxHeartbeats 4000000 in
set_option maxRecDepth 100000 in
theorem k_L_sumx1 {l : Launch} {D : va_G} (hl0 : l.stackTraces = false) {ad : Nat → Nat} {cI cZ cL : ClassId} {J : SJ} {rd : Nat → Int} {pr : Nat → Nat} {G : SH} {K : SK} {M : SM} {ov : Nat → Int64} (hI : JI J) {a : Int} (h : z32 a ∧ (a < 0 ∨ 3 ≤ a)) : zMW l D (tysW cI cZ cL) y_L_sum w_L_sum 10 162 [.ref (ad 0), .int (iZ (a)), .ref (ad 33)] (wdC ad cI cZ cL J rd pr G K (wdM ad cI cZ cL J rd pr M ov)) (fun r w => r = iZ ((1 : Nat) : Int) ∧ w = wdC ad cI cZ cL J rd pr G K (wdM ad cI cZ cL J rd pr M ov)) := by
  refine z_ofW (by decide) (Nat.le_of_ble_eq_true rfl) ?_
  intro p e s m below meth c A ls Z htab hP hK hD hS hA hT hSt hl
  obtain ⟨hx, hb, hr, hml, hown, hts, hE, hlocks⟩ := id Z
  have hl : lv_has ls 4 [(0, .ref (ad 0)), (1, .int (iZ (a))), (2, .ref (ad 33))] := hl
  refine lv_aload_n hx hb d_L_sum_0 rfl (lv_at hl 2 rfl) ?_
  refine lv_iconst (v := iZ ((0 : Nat) : Int)) hx hb d_L_sum_1 (by decide) ?_
  refine lv_aload_n hx hb d_L_sum_2 rfl (lv_at hl 0 rfl) ?_
  refine lv_iload_n hx hb d_L_sum_3 rfl (lv_at hl 1 rfl) ?_
  refine z_xV (As := [.int (iZ (a))]) (rest := [.int (iZ ((0 : Nat) : Int)), .ref (ad 33)]) Z (x_D_sum1 hl0 hI (a := a) h) ⟨ml_L_40, im_D_sum, se_D_sum, ini_D, co_D_sum⟩ zd_D_sum ⟨Nat.le_of_ble_eq_true rfl, Nat.le_of_ble_eq_true rfl⟩ hP hK hT hSt (ci := 0) (q0 := 0) rfl rfl rfl hl.1 rfl (Nat.le_of_ble_eq_true rfl) d_L_sum_4 ⟨Nat.le_of_ble_eq_true rfl, Nat.le_of_ble_eq_true rfl⟩ (fun q9 ce9 H9 hz9 hk9 hc9 hv9 hcl9 => ?_)
  refine z_xk1 Z htab ⟨by decide, by decide⟩ (by decide) kl_L_13 ca_IndexOutOfBoundsException hc9 hv9 hcl9 ?_
  have hP := z_keepP hP hk9
  have hS := z_keepS hS hz9 hk9
  refine lv_astore_n (lv' := [(3, .ref (q9)), (0, .ref (ad 0)), (1, .int (iZ (a))), (2, .ref (ad 33))]) hx hb d_L_sum_12 rfl hl (by decide) rfl (fun ls hl => ?_)
  refine lv_iconst (v := iZ ((1 : Nat) : Int)) hx hb d_L_sum_13 (by decide) ?_
  exact z_iret Z hP hS d_L_sum_14 wdL_map ⟨rfl, rfl⟩

set_option maxHeartbeats 4000000 in
set_option maxRecDepth 100000 in
theorem k_L_sum0 {l : Launch} {D : va_G} {ad : Nat → Nat} {cI cZ cL : ClassId} {J : SJ} {rd : Nat → Int} {pr : Nat → Nat} {G : SH} {K : SK} {M : SM} {ov : Nat → Int64} (hI : JI J) {kd : Nat} (hkd : kd < 3) : zMW l D (tysW cI cZ cL) y_L_sum w_L_sum 10 162 [.ref (ad 0), .int (iZ ((kd : Nat) : Int)), .ref (ad 33)] (wdC ad cI cZ cL J rd pr G K (wdM ad cI cZ cL J rd pr M ov)) (fun r w => r = iZ ((0 : Nat) : Int) ∧ w = wdC ad cI cZ cL J rd pr G K (wdM ad cI cZ cL J rd pr M (oU ov ((iZ (sSO J 4 kd (jk J))).toInt64)))) := by
  refine z_ofW (by decide) (Nat.le_of_ble_eq_true rfl) ?_
  intro p e s m below meth c A ls Z htab hP hK hD hS hA hT hSt hl
  obtain ⟨hx, hb, hr, hml, hown, hts, hE, hlocks⟩ := id Z
  have hl : lv_has ls 4 [(0, .ref (ad 0)), (1, .int (iZ ((kd : Nat) : Int))), (2, .ref (ad 33))] := hl
  suffices K9 : ∀ (H : Heap) (locs : List Loc), va_P D classes (wdC ad cI cZ cL J rd pr G K (wdM ad cI cZ cL J rd pr M ov)) H → va_D A (wdC ad cI cZ cL J rd pr G K (wdM ad cI cZ cL J rd pr M ov)) → va_S A s.heap H locs → W p l e (zRx 10 162) s m ([.ref (ad 0), .int (iZ ((kd : Nat) : Int)), .ref (ad 33)] : List Value).toArray below meth c H locs 0 0 (MQ below (va_Qi (fun r w => r = iZ ((0 : Nat) : Int) ∧ w = wdC ad cI cZ cL J rd pr G K (wdM ad cI cZ cL J rd pr M (oU ov ((iZ (sSO J 4 kd (jk J))).toInt64)))) (zB9 D classes (wdC ad cI cZ cL J rd pr G K (wdM ad cI cZ cL J rd pr M ov))) A) ([.ref (ad 0), .int (iZ ((kd : Nat) : Int)), .ref (ad 33)] : List Value).toArray s 1 6 A) (F0 m 0 ls []) from K9 s.heap [] hP hD hS
  clear hP hD hS
  intro H locs hP hD hS
  refine lv_aload_n hx hb d_L_sum_0 rfl (lv_at hl 2 rfl) ?_
  refine lv_iconst (v := iZ ((0 : Nat) : Int)) hx hb d_L_sum_1 (by decide) ?_
  refine lv_aload_n hx hb d_L_sum_2 rfl (lv_at hl 0 rfl) ?_
  refine lv_iload_n hx hb d_L_sum_3 rfl (lv_at hl 1 rfl) ?_
  refine z_callVR (As := [.int (iZ ((kd : Nat) : Int))]) (rest := [.int (iZ ((0 : Nat) : Int)), .ref (ad 33)]) zTB Z (k_D_sum hI hkd) ⟨ml_L_40, im_D_sum, se_D_sum, ini_D, co_D_sum⟩ zd_D_sum ⟨Nat.le_of_ble_eq_true rfl, Nat.le_of_ble_eq_true rfl⟩ hP hK (ci := 0) (q0 := 0) rfl rfl rfl hl.1 rfl (Nat.le_of_ble_eq_true rfl) d_L_sum_4 ⟨Nat.zero_le _, Nat.zero_le _⟩ ?_
  refine W.eq (g2 := F0 m 7 ls [.int (iZ (sSO J 4 kd (jk J))), .int (iZ ((0 : Nat) : Int)), .ref (ad 33)]) rfl ?_
  refine lv_i2l (v := (iZ (sSO J 4 kd (jk J))).toInt64) hx hb d_L_sum_7 rfl ?_
  refine z_ost (x := (iZ (sSO J 4 kd (jk J))).toInt64) hx hb hK hP hD hS 33 2 rfl rfl d_L_sum_8 (fun H locs hP hD hS => ?_)
  have hP : va_P D classes (wdC ad cI cZ cL J rd pr G K (wdM ad cI cZ cL J rd pr M (oU ov ((iZ (sSO J 4 kd (jk J))).toInt64)))) H := hP
  have hD : va_D A (wdC ad cI cZ cL J rd pr G K (wdM ad cI cZ cL J rd pr M (oU ov ((iZ (sSO J 4 kd (jk J))).toInt64)))) := hD
  refine lv_goto (tgt := 15) hx hb d_L_sum_9 (by decide) ?_
  refine lv_iconst (v := iZ ((0 : Nat) : Int)) hx hb d_L_sum_15 (by decide) ?_
  refine W.widen (k := 1) (n := 6) (by omega) (by omega) ?_
  exact z_iret Z hP hS d_L_sum_16 wdL_map (⟨rfl, rfl⟩)

set_option maxHeartbeats 4000000 in
set_option maxRecDepth 100000 in
theorem k_L_oddsx1 {l : Launch} {D : va_G} (hl0 : l.stackTraces = false) {ad : Nat → Nat} {cI cZ cL : ClassId} {J : SJ} {rd : Nat → Int} {pr : Nat → Nat} {G : SH} {K : SK} {M : SM} {ov : Nat → Int64} (hI : JI J) {a b : Int} (h : z32 a ∧ (a < 0 ∨ 3 ≤ a)) : zMW l D (tysW cI cZ cL) y_L_odds w_L_odds 10 165 [.ref (ad 0), .int (iZ (a)), .int (iZ (b)), .ref (ad 33)] (wdC ad cI cZ cL J rd pr G K (wdM ad cI cZ cL J rd pr M ov)) (fun r w => r = iZ ((1 : Nat) : Int) ∧ w = wdC ad cI cZ cL J rd pr G K (wdM ad cI cZ cL J rd pr M ov)) := by
  refine z_ofW (by decide) (Nat.le_of_ble_eq_true rfl) ?_
  intro p e s m below meth c A ls Z htab hP hK hD hS hA hT hSt hl
  obtain ⟨hx, hb, hr, hml, hown, hts, hE, hlocks⟩ := id Z
  have hl : lv_has ls 5 [(0, .ref (ad 0)), (1, .int (iZ (a))), (2, .int (iZ (b))), (3, .ref (ad 33))] := hl
  refine lv_aload_n hx hb d_L_odds_0 rfl (lv_at hl 3 rfl) ?_
  refine lv_iconst (v := iZ ((0 : Nat) : Int)) hx hb d_L_odds_1 (by decide) ?_
  refine lv_aload_n hx hb d_L_odds_2 rfl (lv_at hl 0 rfl) ?_
  refine lv_iload_n hx hb d_L_odds_3 rfl (lv_at hl 1 rfl) ?_
  refine lv_iload_n hx hb d_L_odds_4 rfl (lv_at hl 2 rfl) ?_
  refine z_xV (As := [.int (iZ (a)), .int (iZ (b))]) (rest := [.int (iZ ((0 : Nat) : Int)), .ref (ad 33)]) Z (x_D_odds1 hl0 hI (a := a) (b := b) h) ⟨ml_L_43, im_D_odds, se_D_odds, ini_D, co_D_odds⟩ zd_D_odds ⟨Nat.le_of_ble_eq_true rfl, Nat.le_of_ble_eq_true rfl⟩ hP hK hT hSt (ci := 0) (q0 := 0) rfl rfl rfl hl.1 rfl (Nat.le_of_ble_eq_true rfl) d_L_odds_5 ⟨Nat.le_of_ble_eq_true rfl, Nat.le_of_ble_eq_true rfl⟩ (fun q9 ce9 H9 hz9 hk9 hc9 hv9 hcl9 => ?_)
  refine z_xk1 Z htab ⟨by decide, by decide⟩ (by decide) kl_L_13 ca_IndexOutOfBoundsException hc9 hv9 hcl9 ?_
  have hP := z_keepP hP hk9
  have hS := z_keepS hS hz9 hk9
  refine lv_astore (lv' := [(4, .ref (q9)), (0, .ref (ad 0)), (1, .int (iZ (a))), (2, .int (iZ (b))), (3, .ref (ad 33))]) hx hb d_L_odds_12 hl (by decide) rfl (fun ls hl => ?_)
  refine lv_iconst (v := iZ ((1 : Nat) : Int)) hx hb d_L_odds_14 (by decide) ?_
  exact z_iret Z hP hS d_L_odds_15 wdL_map ⟨rfl, rfl⟩

set_option maxHeartbeats 4000000 in
set_option maxRecDepth 100000 in
theorem k_L_oddsx2 {l : Launch} {D : va_G} (hl0 : l.stackTraces = false) {ad : Nat → Nat} {cI cZ cL : ClassId} {J : SJ} {rd : Nat → Int} {pr : Nat → Nat} {G : SH} {K : SK} {M : SM} {ov : Nat → Int64} (hI : JI J) {kd : Nat} {b : Int} (hkd : kd < 3) (h : z32 b ∧ (b < 0 ∨ 2 ≤ b)) : zMW l D (tysW cI cZ cL) y_L_odds w_L_odds 10 165 [.ref (ad 0), .int (iZ ((kd : Nat) : Int)), .int (iZ (b)), .ref (ad 33)] (wdC ad cI cZ cL J rd pr G K (wdM ad cI cZ cL J rd pr M ov)) (fun r w => r = iZ ((1 : Nat) : Int) ∧ w = wdC ad cI cZ cL J rd pr G K (wdM ad cI cZ cL J rd pr M ov)) := by
  refine z_ofW (by decide) (Nat.le_of_ble_eq_true rfl) ?_
  intro p e s m below meth c A ls Z htab hP hK hD hS hA hT hSt hl
  obtain ⟨hx, hb, hr, hml, hown, hts, hE, hlocks⟩ := id Z
  have hl : lv_has ls 5 [(0, .ref (ad 0)), (1, .int (iZ ((kd : Nat) : Int))), (2, .int (iZ (b))), (3, .ref (ad 33))] := hl
  refine lv_aload_n hx hb d_L_odds_0 rfl (lv_at hl 3 rfl) ?_
  refine lv_iconst (v := iZ ((0 : Nat) : Int)) hx hb d_L_odds_1 (by decide) ?_
  refine lv_aload_n hx hb d_L_odds_2 rfl (lv_at hl 0 rfl) ?_
  refine lv_iload_n hx hb d_L_odds_3 rfl (lv_at hl 1 rfl) ?_
  refine lv_iload_n hx hb d_L_odds_4 rfl (lv_at hl 2 rfl) ?_
  refine z_xV (As := [.int (iZ ((kd : Nat) : Int)), .int (iZ (b))]) (rest := [.int (iZ ((0 : Nat) : Int)), .ref (ad 33)]) Z (x_D_odds2 hl0 hI (kd := kd) (b := b) hkd h) ⟨ml_L_43, im_D_odds, se_D_odds, ini_D, co_D_odds⟩ zd_D_odds ⟨Nat.le_of_ble_eq_true rfl, Nat.le_of_ble_eq_true rfl⟩ hP hK hT hSt (ci := 0) (q0 := 0) rfl rfl rfl hl.1 rfl (Nat.le_of_ble_eq_true rfl) d_L_odds_5 ⟨Nat.le_of_ble_eq_true rfl, Nat.le_of_ble_eq_true rfl⟩ (fun q9 ce9 H9 hz9 hk9 hc9 hv9 hcl9 => ?_)
  refine z_xk1 Z htab ⟨by decide, by decide⟩ (by decide) kl_L_13 ca_IndexOutOfBoundsException hc9 hv9 hcl9 ?_
  have hP := z_keepP hP hk9
  have hS := z_keepS hS hz9 hk9
  refine lv_astore (lv' := [(4, .ref (q9)), (0, .ref (ad 0)), (1, .int (iZ ((kd : Nat) : Int))), (2, .int (iZ (b))), (3, .ref (ad 33))]) hx hb d_L_odds_12 hl (by decide) rfl (fun ls hl => ?_)
  refine lv_iconst (v := iZ ((1 : Nat) : Int)) hx hb d_L_odds_14 (by decide) ?_
  exact z_iret Z hP hS d_L_odds_15 wdL_map ⟨rfl, rfl⟩

set_option maxHeartbeats 4000000 in
set_option maxRecDepth 100000 in
theorem k_L_odds0 {l : Launch} {D : va_G} {ad : Nat → Nat} {cI cZ cL : ClassId} {J : SJ} {rd : Nat → Int} {pr : Nat → Nat} {G : SH} {K : SK} {M : SM} {ov : Nat → Int64} (hI : JI J) {kd pt : Nat} (hkd : kd < 3) (hpt : pt < 2) : zMW l D (tysW cI cZ cL) y_L_odds w_L_odds 10 165 [.ref (ad 0), .int (iZ ((kd : Nat) : Int)), .int (iZ ((pt : Nat) : Int)), .ref (ad 33)] (wdC ad cI cZ cL J rd pr G K (wdM ad cI cZ cL J rd pr M ov)) (fun r w => r = iZ ((0 : Nat) : Int) ∧ ∃ G2 : SH, w = wdC ad cI cZ cL J rd pr G2 K (wdM ad cI cZ cL J rd pr M (oU ov (lZ (sTP ((sOs J kd (jk J) (fun s => if s ≤ sOc J kd (jk J) then 1 else 0) : Nat) : Int) (2 ^ sKO J 4 kd (jk J)) pt))))) := by
  refine z_ofW (by decide) (Nat.le_of_ble_eq_true rfl) ?_
  intro p e s m below meth c A ls Z htab hP hK hD hS hA hT hSt hl
  obtain ⟨hx, hb, hr, hml, hown, hts, hE, hlocks⟩ := id Z
  have hl : lv_has ls 5 [(0, .ref (ad 0)), (1, .int (iZ ((kd : Nat) : Int))), (2, .int (iZ ((pt : Nat) : Int))), (3, .ref (ad 33))] := hl
  suffices K9 : ∀ (H : Heap) (locs : List Loc), va_P D classes (wdC ad cI cZ cL J rd pr G K (wdM ad cI cZ cL J rd pr M ov)) H → va_D A (wdC ad cI cZ cL J rd pr G K (wdM ad cI cZ cL J rd pr M ov)) → va_S A s.heap H locs → W p l e (zRx 10 165) s m ([.ref (ad 0), .int (iZ ((kd : Nat) : Int)), .int (iZ ((pt : Nat) : Int)), .ref (ad 33)] : List Value).toArray below meth c H locs 0 0 (MQ below (va_Qi (fun r w => r = iZ ((0 : Nat) : Int) ∧ ∃ G2 : SH, w = wdC ad cI cZ cL J rd pr G2 K (wdM ad cI cZ cL J rd pr M (oU ov (lZ (sTP ((sOs J kd (jk J) (fun s => if s ≤ sOc J kd (jk J) then 1 else 0) : Nat) : Int) (2 ^ sKO J 4 kd (jk J)) pt))))) (zB9 D classes (wdC ad cI cZ cL J rd pr G K (wdM ad cI cZ cL J rd pr M ov))) A) ([.ref (ad 0), .int (iZ ((kd : Nat) : Int)), .int (iZ ((pt : Nat) : Int)), .ref (ad 33)] : List Value).toArray s 1 6 A) (F0 m 0 ls []) from K9 s.heap [] hP hD hS
  clear hP hD hS
  intro H locs hP hD hS
  refine lv_aload_n hx hb d_L_odds_0 rfl (lv_at hl 3 rfl) ?_
  refine lv_iconst (v := iZ ((0 : Nat) : Int)) hx hb d_L_odds_1 (by decide) ?_
  refine lv_aload_n hx hb d_L_odds_2 rfl (lv_at hl 0 rfl) ?_
  refine lv_iload_n hx hb d_L_odds_3 rfl (lv_at hl 1 rfl) ?_
  refine lv_iload_n hx hb d_L_odds_4 rfl (lv_at hl 2 rfl) ?_
  refine z_kl (z_runV (As := [.int (iZ ((kd : Nat) : Int)), .int (iZ ((pt : Nat) : Int))]) (rest := [.int (iZ ((0 : Nat) : Int)), .ref (ad 33)]) zTB Z (k_D_odds hI hkd hpt) ⟨ml_L_43, im_D_odds, se_D_odds, ini_D, co_D_odds⟩ zd_D_odds ⟨Nat.le_of_ble_eq_true rfl, Nat.le_of_ble_eq_true rfl⟩ hP hK hD (ci := 0) (q0 := 0) rfl rfl rfl hl.1 rfl (Nat.le_of_ble_eq_true rfl) d_L_odds_5 ⟨Nat.zero_le _, Nat.zero_le _⟩) hD hS hA (fun r9 w9 H locs hp9 hP hD hS => ?_)
  obtain ⟨G2, rfl, rfl⟩ := hp9
  have hP : va_P D classes (wdC ad cI cZ cL J rd pr G2 K (wdM ad cI cZ cL J rd pr M ov)) H := hP
  have hD : va_D A (wdC ad cI cZ cL J rd pr G2 K (wdM ad cI cZ cL J rd pr M ov)) := hD
  refine W.eq (g2 := F0 m 8 ls [.long (lZ (sTP ((sOs J kd (jk J) (fun s => if s ≤ sOc J kd (jk J) then 1 else 0) : Nat) : Int) (2 ^ sKO J 4 kd (jk J)) pt)), .int (iZ ((0 : Nat) : Int)), .ref (ad 33)]) rfl ?_
  refine z_ost (x := lZ (sTP ((sOs J kd (jk J) (fun s => if s ≤ sOc J kd (jk J) then 1 else 0) : Nat) : Int) (2 ^ sKO J 4 kd (jk J)) pt)) hx hb hK hP hD hS 33 2 rfl rfl d_L_odds_8 (fun H locs hP hD hS => ?_)
  have hP : va_P D classes (wdC ad cI cZ cL J rd pr G2 K (wdM ad cI cZ cL J rd pr M (oU ov (lZ (sTP ((sOs J kd (jk J) (fun s => if s ≤ sOc J kd (jk J) then 1 else 0) : Nat) : Int) (2 ^ sKO J 4 kd (jk J)) pt))))) H := hP
  have hD : va_D A (wdC ad cI cZ cL J rd pr G2 K (wdM ad cI cZ cL J rd pr M (oU ov (lZ (sTP ((sOs J kd (jk J) (fun s => if s ≤ sOc J kd (jk J) then 1 else 0) : Nat) : Int) (2 ^ sKO J 4 kd (jk J)) pt))))) := hD
  refine lv_goto (tgt := 16) hx hb d_L_odds_9 (by decide) ?_
  refine lv_iconst (v := iZ ((0 : Nat) : Int)) hx hb d_L_odds_16 (by decide) ?_
  refine W.widen (k := 1) (n := 6) (by omega) (by omega) ?_
  exact z_iret Z hP hS d_L_odds_17 wdL_map (⟨rfl, G2, rfl⟩)

set_option maxHeartbeats 4000000 in
set_option maxRecDepth 100000 in
theorem k_L_rankOddsx1 {l : Launch} {D : va_G} (hl0 : l.stackTraces = false) {ad : Nat → Nat} {cI cZ cL : ClassId} {J : SJ} {rd : Nat → Int} {pr : Nat → Nat} {G : SH} {K : SK} {M : SM} {ov : Nat → Int64} (hI : JI J) {a b : Int} (h : z32 a ∧ (a < 0 ∨ 3 ≤ a)) : zMW l D (tysW cI cZ cL) y_L_rankOdds w_L_rankOdds 10 165 [.ref (ad 0), .int (iZ (a)), .int (iZ (b)), .ref (ad 33)] (wdC ad cI cZ cL J rd pr G K (wdM ad cI cZ cL J rd pr M ov)) (fun r w => r = iZ ((1 : Nat) : Int) ∧ w = wdC ad cI cZ cL J rd pr G K (wdM ad cI cZ cL J rd pr M ov)) := by
  refine z_ofW (by decide) (Nat.le_of_ble_eq_true rfl) ?_
  intro p e s m below meth c A ls Z htab hP hK hD hS hA hT hSt hl
  obtain ⟨hx, hb, hr, hml, hown, hts, hE, hlocks⟩ := id Z
  have hl : lv_has ls 5 [(0, .ref (ad 0)), (1, .int (iZ (a))), (2, .int (iZ (b))), (3, .ref (ad 33))] := hl
  refine lv_aload_n hx hb d_L_rankOdds_0 rfl (lv_at hl 3 rfl) ?_
  refine lv_iconst (v := iZ ((0 : Nat) : Int)) hx hb d_L_rankOdds_1 (by decide) ?_
  refine lv_aload_n hx hb d_L_rankOdds_2 rfl (lv_at hl 0 rfl) ?_
  refine lv_iload_n hx hb d_L_rankOdds_3 rfl (lv_at hl 1 rfl) ?_
  refine lv_iload_n hx hb d_L_rankOdds_4 rfl (lv_at hl 2 rfl) ?_
  refine z_xV (As := [.int (iZ (a)), .int (iZ (b))]) (rest := [.int (iZ ((0 : Nat) : Int)), .ref (ad 33)]) Z (x_D_rankOdds1 hl0 hI (a := a) (b := b) h) ⟨ml_L_50, im_D_rankOdds, se_D_rankOdds, ini_D, co_D_rankOdds⟩ zd_D_rankOdds ⟨Nat.le_of_ble_eq_true rfl, Nat.le_of_ble_eq_true rfl⟩ hP hK hT hSt (ci := 0) (q0 := 0) rfl rfl rfl hl.1 rfl (Nat.le_of_ble_eq_true rfl) d_L_rankOdds_5 ⟨Nat.le_of_ble_eq_true rfl, Nat.le_of_ble_eq_true rfl⟩ (fun q9 ce9 H9 hz9 hk9 hc9 hv9 hcl9 => ?_)
  refine z_xk1 Z htab ⟨by decide, by decide⟩ (by decide) kl_L_13 ca_IndexOutOfBoundsException hc9 hv9 hcl9 ?_
  have hP := z_keepP hP hk9
  have hS := z_keepS hS hz9 hk9
  refine lv_astore (lv' := [(4, .ref (q9)), (0, .ref (ad 0)), (1, .int (iZ (a))), (2, .int (iZ (b))), (3, .ref (ad 33))]) hx hb d_L_rankOdds_12 hl (by decide) rfl (fun ls hl => ?_)
  refine lv_iconst (v := iZ ((1 : Nat) : Int)) hx hb d_L_rankOdds_14 (by decide) ?_
  exact z_iret Z hP hS d_L_rankOdds_15 wdL_map ⟨rfl, rfl⟩

set_option maxHeartbeats 4000000 in
set_option maxRecDepth 100000 in
theorem k_L_rankOddsx2 {l : Launch} {D : va_G} (hl0 : l.stackTraces = false) {ad : Nat → Nat} {cI cZ cL : ClassId} {J : SJ} {rd : Nat → Int} {pr : Nat → Nat} {G : SH} {K : SK} {M : SM} {ov : Nat → Int64} (hI : JI J) {kd : Nat} {b : Int} (hkd : kd < 3) (h : z32 b ∧ (b < 0 ∨ 2 ≤ b)) : zMW l D (tysW cI cZ cL) y_L_rankOdds w_L_rankOdds 10 165 [.ref (ad 0), .int (iZ ((kd : Nat) : Int)), .int (iZ (b)), .ref (ad 33)] (wdC ad cI cZ cL J rd pr G K (wdM ad cI cZ cL J rd pr M ov)) (fun r w => r = iZ ((1 : Nat) : Int) ∧ w = wdC ad cI cZ cL J rd pr G K (wdM ad cI cZ cL J rd pr M ov)) := by
  refine z_ofW (by decide) (Nat.le_of_ble_eq_true rfl) ?_
  intro p e s m below meth c A ls Z htab hP hK hD hS hA hT hSt hl
  obtain ⟨hx, hb, hr, hml, hown, hts, hE, hlocks⟩ := id Z
  have hl : lv_has ls 5 [(0, .ref (ad 0)), (1, .int (iZ ((kd : Nat) : Int))), (2, .int (iZ (b))), (3, .ref (ad 33))] := hl
  refine lv_aload_n hx hb d_L_rankOdds_0 rfl (lv_at hl 3 rfl) ?_
  refine lv_iconst (v := iZ ((0 : Nat) : Int)) hx hb d_L_rankOdds_1 (by decide) ?_
  refine lv_aload_n hx hb d_L_rankOdds_2 rfl (lv_at hl 0 rfl) ?_
  refine lv_iload_n hx hb d_L_rankOdds_3 rfl (lv_at hl 1 rfl) ?_
  refine lv_iload_n hx hb d_L_rankOdds_4 rfl (lv_at hl 2 rfl) ?_
  refine z_xV (As := [.int (iZ ((kd : Nat) : Int)), .int (iZ (b))]) (rest := [.int (iZ ((0 : Nat) : Int)), .ref (ad 33)]) Z (x_D_rankOdds2 hl0 hI (kd := kd) (b := b) hkd h) ⟨ml_L_50, im_D_rankOdds, se_D_rankOdds, ini_D, co_D_rankOdds⟩ zd_D_rankOdds ⟨Nat.le_of_ble_eq_true rfl, Nat.le_of_ble_eq_true rfl⟩ hP hK hT hSt (ci := 0) (q0 := 0) rfl rfl rfl hl.1 rfl (Nat.le_of_ble_eq_true rfl) d_L_rankOdds_5 ⟨Nat.le_of_ble_eq_true rfl, Nat.le_of_ble_eq_true rfl⟩ (fun q9 ce9 H9 hz9 hk9 hc9 hv9 hcl9 => ?_)
  refine z_xk1 Z htab ⟨by decide, by decide⟩ (by decide) kl_L_13 ca_IndexOutOfBoundsException hc9 hv9 hcl9 ?_
  have hP := z_keepP hP hk9
  have hS := z_keepS hS hz9 hk9
  refine lv_astore (lv' := [(4, .ref (q9)), (0, .ref (ad 0)), (1, .int (iZ ((kd : Nat) : Int))), (2, .int (iZ (b))), (3, .ref (ad 33))]) hx hb d_L_rankOdds_12 hl (by decide) rfl (fun ls hl => ?_)
  refine lv_iconst (v := iZ ((1 : Nat) : Int)) hx hb d_L_rankOdds_14 (by decide) ?_
  exact z_iret Z hP hS d_L_rankOdds_15 wdL_map ⟨rfl, rfl⟩

set_option maxHeartbeats 4000000 in
set_option maxRecDepth 100000 in
theorem k_L_rankOdds0 {l : Launch} {D : va_G} {ad : Nat → Nat} {cI cZ cL : ClassId} {J : SJ} {rd : Nat → Int} {pr : Nat → Nat} {G : SH} {K : SK} {M : SM} {ov : Nat → Int64} (hI : JI J) {kd pt : Nat} (hkd : kd < 3) (hpt : pt < 2) : zMW l D (tysW cI cZ cL) y_L_rankOdds w_L_rankOdds 10 165 [.ref (ad 0), .int (iZ ((kd : Nat) : Int)), .int (iZ ((pt : Nat) : Int)), .ref (ad 33)] (wdC ad cI cZ cL J rd pr G K (wdM ad cI cZ cL J rd pr M ov)) (fun r w => r = iZ ((0 : Nat) : Int) ∧ ∃ G2 : SH, w = wdC ad cI cZ cL J rd pr G2 K (wdM ad cI cZ cL J rd pr M (oU ov (lZ (sTP ((sRo J kd (jk J) (fun s => if s ≤ sRc J kd (jk J) then 1 else 0) : Nat) : Int) (2 ^ sRn J kd (jk J)) pt))))) := by
  refine z_ofW (by decide) (Nat.le_of_ble_eq_true rfl) ?_
  intro p e s m below meth c A ls Z htab hP hK hD hS hA hT hSt hl
  obtain ⟨hx, hb, hr, hml, hown, hts, hE, hlocks⟩ := id Z
  have hl : lv_has ls 5 [(0, .ref (ad 0)), (1, .int (iZ ((kd : Nat) : Int))), (2, .int (iZ ((pt : Nat) : Int))), (3, .ref (ad 33))] := hl
  suffices K9 : ∀ (H : Heap) (locs : List Loc), va_P D classes (wdC ad cI cZ cL J rd pr G K (wdM ad cI cZ cL J rd pr M ov)) H → va_D A (wdC ad cI cZ cL J rd pr G K (wdM ad cI cZ cL J rd pr M ov)) → va_S A s.heap H locs → W p l e (zRx 10 165) s m ([.ref (ad 0), .int (iZ ((kd : Nat) : Int)), .int (iZ ((pt : Nat) : Int)), .ref (ad 33)] : List Value).toArray below meth c H locs 0 0 (MQ below (va_Qi (fun r w => r = iZ ((0 : Nat) : Int) ∧ ∃ G2 : SH, w = wdC ad cI cZ cL J rd pr G2 K (wdM ad cI cZ cL J rd pr M (oU ov (lZ (sTP ((sRo J kd (jk J) (fun s => if s ≤ sRc J kd (jk J) then 1 else 0) : Nat) : Int) (2 ^ sRn J kd (jk J)) pt))))) (zB9 D classes (wdC ad cI cZ cL J rd pr G K (wdM ad cI cZ cL J rd pr M ov))) A) ([.ref (ad 0), .int (iZ ((kd : Nat) : Int)), .int (iZ ((pt : Nat) : Int)), .ref (ad 33)] : List Value).toArray s 1 6 A) (F0 m 0 ls []) from K9 s.heap [] hP hD hS
  clear hP hD hS
  intro H locs hP hD hS
  refine lv_aload_n hx hb d_L_rankOdds_0 rfl (lv_at hl 3 rfl) ?_
  refine lv_iconst (v := iZ ((0 : Nat) : Int)) hx hb d_L_rankOdds_1 (by decide) ?_
  refine lv_aload_n hx hb d_L_rankOdds_2 rfl (lv_at hl 0 rfl) ?_
  refine lv_iload_n hx hb d_L_rankOdds_3 rfl (lv_at hl 1 rfl) ?_
  refine lv_iload_n hx hb d_L_rankOdds_4 rfl (lv_at hl 2 rfl) ?_
  refine z_kl (z_runV (As := [.int (iZ ((kd : Nat) : Int)), .int (iZ ((pt : Nat) : Int))]) (rest := [.int (iZ ((0 : Nat) : Int)), .ref (ad 33)]) zTB Z (k_D_rankOdds hI hkd hpt) ⟨ml_L_50, im_D_rankOdds, se_D_rankOdds, ini_D, co_D_rankOdds⟩ zd_D_rankOdds ⟨Nat.le_of_ble_eq_true rfl, Nat.le_of_ble_eq_true rfl⟩ hP hK hD (ci := 0) (q0 := 0) rfl rfl rfl hl.1 rfl (Nat.le_of_ble_eq_true rfl) d_L_rankOdds_5 ⟨Nat.zero_le _, Nat.zero_le _⟩) hD hS hA (fun r9 w9 H locs hp9 hP hD hS => ?_)
  obtain ⟨G2, rfl, rfl⟩ := hp9
  have hP : va_P D classes (wdC ad cI cZ cL J rd pr G2 K (wdM ad cI cZ cL J rd pr M ov)) H := hP
  have hD : va_D A (wdC ad cI cZ cL J rd pr G2 K (wdM ad cI cZ cL J rd pr M ov)) := hD
  refine W.eq (g2 := F0 m 8 ls [.long (lZ (sTP ((sRo J kd (jk J) (fun s => if s ≤ sRc J kd (jk J) then 1 else 0) : Nat) : Int) (2 ^ sRn J kd (jk J)) pt)), .int (iZ ((0 : Nat) : Int)), .ref (ad 33)]) rfl ?_
  refine z_ost (x := lZ (sTP ((sRo J kd (jk J) (fun s => if s ≤ sRc J kd (jk J) then 1 else 0) : Nat) : Int) (2 ^ sRn J kd (jk J)) pt)) hx hb hK hP hD hS 33 2 rfl rfl d_L_rankOdds_8 (fun H locs hP hD hS => ?_)
  have hP : va_P D classes (wdC ad cI cZ cL J rd pr G2 K (wdM ad cI cZ cL J rd pr M (oU ov (lZ (sTP ((sRo J kd (jk J) (fun s => if s ≤ sRc J kd (jk J) then 1 else 0) : Nat) : Int) (2 ^ sRn J kd (jk J)) pt))))) H := hP
  have hD : va_D A (wdC ad cI cZ cL J rd pr G2 K (wdM ad cI cZ cL J rd pr M (oU ov (lZ (sTP ((sRo J kd (jk J) (fun s => if s ≤ sRc J kd (jk J) then 1 else 0) : Nat) : Int) (2 ^ sRn J kd (jk J)) pt))))) := hD
  refine lv_goto (tgt := 16) hx hb d_L_rankOdds_9 (by decide) ?_
  refine lv_iconst (v := iZ ((0 : Nat) : Int)) hx hb d_L_rankOdds_16 (by decide) ?_
  refine W.widen (k := 1) (n := 6) (by omega) (by omega) ?_
  exact z_iret Z hP hS d_L_rankOdds_17 wdL_map (⟨rfl, G2, rfl⟩)

set_option maxHeartbeats 4000000 in
set_option maxRecDepth 100000 in
theorem k_L_joinedx1 {l : Launch} {D : va_G} (hl0 : l.stackTraces = false) {ad : Nat → Nat} {cI cZ cL : ClassId} {J : SJ} {rd : Nat → Int} {pr : Nat → Nat} {G : SH} {K : SK} {M : SM} {ov : Nat → Int64} (hI : JI J) {a b : Int} (h : z32 a ∧ (a < 0 ∨ 3 ≤ a)) : zMW l D (tysW cI cZ cL) y_L_joined w_L_joined 10 163 [.ref (ad 0), .int (iZ (a)), .int (iZ (b)), .ref (ad 33)] (wdC ad cI cZ cL J rd pr G K (wdM ad cI cZ cL J rd pr M ov)) (fun r w => r = iZ ((1 : Nat) : Int) ∧ w = wdC ad cI cZ cL J rd pr G K (wdM ad cI cZ cL J rd pr M ov)) := by
  refine z_ofW (by decide) (Nat.le_of_ble_eq_true rfl) ?_
  intro p e s m below meth c A ls Z htab hP hK hD hS hA hT hSt hl
  obtain ⟨hx, hb, hr, hml, hown, hts, hE, hlocks⟩ := id Z
  have hl : lv_has ls 5 [(0, .ref (ad 0)), (1, .int (iZ (a))), (2, .int (iZ (b))), (3, .ref (ad 33))] := hl
  refine lv_aload_n hx hb d_L_joined_0 rfl (lv_at hl 3 rfl) ?_
  refine lv_iconst (v := iZ ((0 : Nat) : Int)) hx hb d_L_joined_1 (by decide) ?_
  refine lv_aload_n hx hb d_L_joined_2 rfl (lv_at hl 0 rfl) ?_
  refine lv_iload_n hx hb d_L_joined_3 rfl (lv_at hl 1 rfl) ?_
  refine lv_iload_n hx hb d_L_joined_4 rfl (lv_at hl 2 rfl) ?_
  refine z_xV (As := [.int (iZ (a)), .int (iZ (b))]) (rest := [.int (iZ ((0 : Nat) : Int)), .ref (ad 33)]) Z (x_D_joined1 hl0 hI (a := a) (b := b) h) ⟨ml_L_72, im_D_joined, se_D_joined, ini_D, co_D_joined⟩ zd_D_joined ⟨Nat.le_of_ble_eq_true rfl, Nat.le_of_ble_eq_true rfl⟩ hP hK hT hSt (ci := 0) (q0 := 0) rfl rfl rfl hl.1 rfl (Nat.le_of_ble_eq_true rfl) d_L_joined_5 ⟨Nat.le_of_ble_eq_true rfl, Nat.le_of_ble_eq_true rfl⟩ (fun q9 ce9 H9 hz9 hk9 hc9 hv9 hcl9 => ?_)
  refine z_xk1 Z htab ⟨by decide, by decide⟩ (by decide) kl_L_13 ca_IndexOutOfBoundsException hc9 hv9 hcl9 ?_
  have hP := z_keepP hP hk9
  have hS := z_keepS hS hz9 hk9
  refine lv_astore (lv' := [(4, .ref (q9)), (0, .ref (ad 0)), (1, .int (iZ (a))), (2, .int (iZ (b))), (3, .ref (ad 33))]) hx hb d_L_joined_12 hl (by decide) rfl (fun ls hl => ?_)
  refine lv_iconst (v := iZ ((1 : Nat) : Int)) hx hb d_L_joined_14 (by decide) ?_
  exact z_iret Z hP hS d_L_joined_15 wdL_map ⟨rfl, rfl⟩

set_option maxHeartbeats 4000000 in
set_option maxRecDepth 100000 in
theorem k_L_joinedx2 {l : Launch} {D : va_G} (hl0 : l.stackTraces = false) {ad : Nat → Nat} {cI cZ cL : ClassId} {J : SJ} {rd : Nat → Int} {pr : Nat → Nat} {G : SH} {K : SK} {M : SM} {ov : Nat → Int64} (hI : JI J) {kd : Nat} {b : Int} (hkd : kd < 3) (h : z32 b ∧ (b < 0 ∨ 2 ≤ b)) : zMW l D (tysW cI cZ cL) y_L_joined w_L_joined 10 163 [.ref (ad 0), .int (iZ ((kd : Nat) : Int)), .int (iZ (b)), .ref (ad 33)] (wdC ad cI cZ cL J rd pr G K (wdM ad cI cZ cL J rd pr M ov)) (fun r w => r = iZ ((1 : Nat) : Int) ∧ w = wdC ad cI cZ cL J rd pr G K (wdM ad cI cZ cL J rd pr M ov)) := by
  refine z_ofW (by decide) (Nat.le_of_ble_eq_true rfl) ?_
  intro p e s m below meth c A ls Z htab hP hK hD hS hA hT hSt hl
  obtain ⟨hx, hb, hr, hml, hown, hts, hE, hlocks⟩ := id Z
  have hl : lv_has ls 5 [(0, .ref (ad 0)), (1, .int (iZ ((kd : Nat) : Int))), (2, .int (iZ (b))), (3, .ref (ad 33))] := hl
  refine lv_aload_n hx hb d_L_joined_0 rfl (lv_at hl 3 rfl) ?_
  refine lv_iconst (v := iZ ((0 : Nat) : Int)) hx hb d_L_joined_1 (by decide) ?_
  refine lv_aload_n hx hb d_L_joined_2 rfl (lv_at hl 0 rfl) ?_
  refine lv_iload_n hx hb d_L_joined_3 rfl (lv_at hl 1 rfl) ?_
  refine lv_iload_n hx hb d_L_joined_4 rfl (lv_at hl 2 rfl) ?_
  refine z_xV (As := [.int (iZ ((kd : Nat) : Int)), .int (iZ (b))]) (rest := [.int (iZ ((0 : Nat) : Int)), .ref (ad 33)]) Z (x_D_joined2 hl0 hI (kd := kd) (b := b) hkd h) ⟨ml_L_72, im_D_joined, se_D_joined, ini_D, co_D_joined⟩ zd_D_joined ⟨Nat.le_of_ble_eq_true rfl, Nat.le_of_ble_eq_true rfl⟩ hP hK hT hSt (ci := 0) (q0 := 0) rfl rfl rfl hl.1 rfl (Nat.le_of_ble_eq_true rfl) d_L_joined_5 ⟨Nat.le_of_ble_eq_true rfl, Nat.le_of_ble_eq_true rfl⟩ (fun q9 ce9 H9 hz9 hk9 hc9 hv9 hcl9 => ?_)
  refine z_xk1 Z htab ⟨by decide, by decide⟩ (by decide) kl_L_13 ca_IndexOutOfBoundsException hc9 hv9 hcl9 ?_
  have hP := z_keepP hP hk9
  have hS := z_keepS hS hz9 hk9
  refine lv_astore (lv' := [(4, .ref (q9)), (0, .ref (ad 0)), (1, .int (iZ ((kd : Nat) : Int))), (2, .int (iZ (b))), (3, .ref (ad 33))]) hx hb d_L_joined_12 hl (by decide) rfl (fun ls hl => ?_)
  refine lv_iconst (v := iZ ((1 : Nat) : Int)) hx hb d_L_joined_14 (by decide) ?_
  exact z_iret Z hP hS d_L_joined_15 wdL_map ⟨rfl, rfl⟩

set_option maxHeartbeats 4000000 in
set_option maxRecDepth 100000 in
theorem k_L_joined0 {l : Launch} {D : va_G} {ad : Nat → Nat} {cI cZ cL : ClassId} {J : SJ} {rd : Nat → Int} {pr : Nat → Nat} {G : SH} {K : SK} {M : SM} {ov : Nat → Int64} (hI : JI J) {kd pt : Nat} (hkd : kd < 3) (hpt : pt < 2) : zMW l D (tysW cI cZ cL) y_L_joined w_L_joined 10 163 [.ref (ad 0), .int (iZ ((kd : Nat) : Int)), .int (iZ ((pt : Nat) : Int)), .ref (ad 33)] (wdC ad cI cZ cL J rd pr G K (wdM ad cI cZ cL J rd pr M ov)) (fun r w => r = iZ ((0 : Nat) : Int) ∧ w = wdC ad cI cZ cL J rd pr G K (wdM ad cI cZ cL J rd pr M (oU ov (lZ (sTP (sSO J 4 kd (jk J)) (sKO J 4 kd (jk J)) pt))))) := by
  refine z_ofW (by decide) (Nat.le_of_ble_eq_true rfl) ?_
  intro p e s m below meth c A ls Z htab hP hK hD hS hA hT hSt hl
  obtain ⟨hx, hb, hr, hml, hown, hts, hE, hlocks⟩ := id Z
  have hl : lv_has ls 5 [(0, .ref (ad 0)), (1, .int (iZ ((kd : Nat) : Int))), (2, .int (iZ ((pt : Nat) : Int))), (3, .ref (ad 33))] := hl
  suffices K9 : ∀ (H : Heap) (locs : List Loc), va_P D classes (wdC ad cI cZ cL J rd pr G K (wdM ad cI cZ cL J rd pr M ov)) H → va_D A (wdC ad cI cZ cL J rd pr G K (wdM ad cI cZ cL J rd pr M ov)) → va_S A s.heap H locs → W p l e (zRx 10 163) s m ([.ref (ad 0), .int (iZ ((kd : Nat) : Int)), .int (iZ ((pt : Nat) : Int)), .ref (ad 33)] : List Value).toArray below meth c H locs 0 0 (MQ below (va_Qi (fun r w => r = iZ ((0 : Nat) : Int) ∧ w = wdC ad cI cZ cL J rd pr G K (wdM ad cI cZ cL J rd pr M (oU ov (lZ (sTP (sSO J 4 kd (jk J)) (sKO J 4 kd (jk J)) pt))))) (zB9 D classes (wdC ad cI cZ cL J rd pr G K (wdM ad cI cZ cL J rd pr M ov))) A) ([.ref (ad 0), .int (iZ ((kd : Nat) : Int)), .int (iZ ((pt : Nat) : Int)), .ref (ad 33)] : List Value).toArray s 1 6 A) (F0 m 0 ls []) from K9 s.heap [] hP hD hS
  clear hP hD hS
  intro H locs hP hD hS
  refine lv_aload_n hx hb d_L_joined_0 rfl (lv_at hl 3 rfl) ?_
  refine lv_iconst (v := iZ ((0 : Nat) : Int)) hx hb d_L_joined_1 (by decide) ?_
  refine lv_aload_n hx hb d_L_joined_2 rfl (lv_at hl 0 rfl) ?_
  refine lv_iload_n hx hb d_L_joined_3 rfl (lv_at hl 1 rfl) ?_
  refine lv_iload_n hx hb d_L_joined_4 rfl (lv_at hl 2 rfl) ?_
  refine z_callVR (As := [.int (iZ ((kd : Nat) : Int)), .int (iZ ((pt : Nat) : Int))]) (rest := [.int (iZ ((0 : Nat) : Int)), .ref (ad 33)]) zTB Z (k_D_joined hI hkd hpt) ⟨ml_L_72, im_D_joined, se_D_joined, ini_D, co_D_joined⟩ zd_D_joined ⟨Nat.le_of_ble_eq_true rfl, Nat.le_of_ble_eq_true rfl⟩ hP hK (ci := 0) (q0 := 0) rfl rfl rfl hl.1 rfl (Nat.le_of_ble_eq_true rfl) d_L_joined_5 ⟨Nat.zero_le _, Nat.zero_le _⟩ ?_
  refine W.eq (g2 := F0 m 8 ls [.long (lZ (sTP (sSO J 4 kd (jk J)) (sKO J 4 kd (jk J)) pt)), .int (iZ ((0 : Nat) : Int)), .ref (ad 33)]) rfl ?_
  refine z_ost (x := lZ (sTP (sSO J 4 kd (jk J)) (sKO J 4 kd (jk J)) pt)) hx hb hK hP hD hS 33 2 rfl rfl d_L_joined_8 (fun H locs hP hD hS => ?_)
  have hP : va_P D classes (wdC ad cI cZ cL J rd pr G K (wdM ad cI cZ cL J rd pr M (oU ov (lZ (sTP (sSO J 4 kd (jk J)) (sKO J 4 kd (jk J)) pt))))) H := hP
  have hD : va_D A (wdC ad cI cZ cL J rd pr G K (wdM ad cI cZ cL J rd pr M (oU ov (lZ (sTP (sSO J 4 kd (jk J)) (sKO J 4 kd (jk J)) pt))))) := hD
  refine lv_goto (tgt := 16) hx hb d_L_joined_9 (by decide) ?_
  refine lv_iconst (v := iZ ((0 : Nat) : Int)) hx hb d_L_joined_16 (by decide) ?_
  refine W.widen (k := 1) (n := 6) (by omega) (by omega) ?_
  exact z_iret Z hP hS d_L_joined_17 wdL_map (⟨rfl, rfl⟩)

set_option maxHeartbeats 4000000 in
set_option maxRecDepth 100000 in
theorem k_L_stoppedx1 {l : Launch} {D : va_G} (hl0 : l.stackTraces = false) {ad : Nat → Nat} {cI cZ cL : ClassId} {J : SJ} {rd : Nat → Int} {pr : Nat → Nat} {G : SH} {K : SK} {M : SM} {ov : Nat → Int64} (hI : JI J) {a b c9 : Int} (h : z32 a ∧ (a < 0 ∨ 3 ≤ a)) : zMW l D (tysW cI cZ cL) y_L_stopped w_L_stopped 10 168 [.ref (ad 0), .int (iZ (a)), .int (iZ (b)), .int (iZ (c9)), .ref (ad 33)] (wdC ad cI cZ cL J rd pr G K (wdM ad cI cZ cL J rd pr M ov)) (fun r w => r = iZ ((1 : Nat) : Int) ∧ w = wdC ad cI cZ cL J rd pr G K (wdM ad cI cZ cL J rd pr M ov)) := by
  refine z_ofW (by decide) (Nat.le_of_ble_eq_true rfl) ?_
  intro p e s m below meth c A ls Z htab hP hK hD hS hA hT hSt hl
  obtain ⟨hx, hb, hr, hml, hown, hts, hE, hlocks⟩ := id Z
  have hl : lv_has ls 6 [(0, .ref (ad 0)), (1, .int (iZ (a))), (2, .int (iZ (b))), (3, .int (iZ (c9))), (4, .ref (ad 33))] := hl
  refine lv_aload hx hb d_L_stopped_0 (lv_at hl 4 rfl) ?_
  refine lv_iconst (v := iZ ((0 : Nat) : Int)) hx hb d_L_stopped_2 (by decide) ?_
  refine lv_aload_n hx hb d_L_stopped_3 rfl (lv_at hl 0 rfl) ?_
  refine lv_iload_n hx hb d_L_stopped_4 rfl (lv_at hl 1 rfl) ?_
  refine lv_iload_n hx hb d_L_stopped_5 rfl (lv_at hl 2 rfl) ?_
  refine lv_iload_n hx hb d_L_stopped_6 rfl (lv_at hl 3 rfl) ?_
  refine z_xV (As := [.int (iZ (a)), .int (iZ (b)), .int (iZ (c9))]) (rest := [.int (iZ ((0 : Nat) : Int)), .ref (ad 33)]) Z (x_D_stopped1 hl0 hI (a := a) (b := b) (c9 := c9) h) ⟨ml_L_53, im_D_stopped, se_D_stopped, ini_D, co_D_stopped⟩ zd_D_stopped ⟨Nat.le_of_ble_eq_true rfl, Nat.le_of_ble_eq_true rfl⟩ hP hK hT hSt (ci := 0) (q0 := 0) rfl rfl rfl hl.1 rfl (Nat.le_of_ble_eq_true rfl) d_L_stopped_7 ⟨Nat.le_of_ble_eq_true rfl, Nat.le_of_ble_eq_true rfl⟩ (fun q9 ce9 H9 hz9 hk9 hc9 hv9 hcl9 => ?_)
  refine z_xk1 Z htab ⟨by decide, by decide⟩ (by decide) kl_L_13 ca_IndexOutOfBoundsException hc9 hv9 hcl9 ?_
  have hP := z_keepP hP hk9
  have hS := z_keepS hS hz9 hk9
  refine lv_astore (lv' := [(5, .ref (q9)), (0, .ref (ad 0)), (1, .int (iZ (a))), (2, .int (iZ (b))), (3, .int (iZ (c9))), (4, .ref (ad 33))]) hx hb d_L_stopped_15 hl (by decide) rfl (fun ls hl => ?_)
  refine lv_iconst (v := iZ ((1 : Nat) : Int)) hx hb d_L_stopped_17 (by decide) ?_
  exact z_iret Z hP hS d_L_stopped_18 wdL_map ⟨rfl, rfl⟩

set_option maxHeartbeats 4000000 in
set_option maxRecDepth 100000 in
theorem k_L_stoppedx2 {l : Launch} {D : va_G} (hl0 : l.stackTraces = false) {ad : Nat → Nat} {cI cZ cL : ClassId} {J : SJ} {rd : Nat → Int} {pr : Nat → Nat} {G : SH} {K : SK} {M : SM} {ov : Nat → Int64} (hI : JI J) {kd : Nat} {b c9 : Int} (hkd : kd < 3) (h : z32 b ∧ (b < 1 ∨ 16 < b)) : zMW l D (tysW cI cZ cL) y_L_stopped w_L_stopped 10 168 [.ref (ad 0), .int (iZ ((kd : Nat) : Int)), .int (iZ (b)), .int (iZ (c9)), .ref (ad 33)] (wdC ad cI cZ cL J rd pr G K (wdM ad cI cZ cL J rd pr M ov)) (fun r w => r = iZ ((2 : Nat) : Int) ∧ w = wdC ad cI cZ cL J rd pr G K (wdM ad cI cZ cL J rd pr M ov)) := by
  refine z_ofW (by decide) (Nat.le_of_ble_eq_true rfl) ?_
  intro p e s m below meth c A ls Z htab hP hK hD hS hA hT hSt hl
  obtain ⟨hx, hb, hr, hml, hown, hts, hE, hlocks⟩ := id Z
  have hl : lv_has ls 6 [(0, .ref (ad 0)), (1, .int (iZ ((kd : Nat) : Int))), (2, .int (iZ (b))), (3, .int (iZ (c9))), (4, .ref (ad 33))] := hl
  refine lv_aload hx hb d_L_stopped_0 (lv_at hl 4 rfl) ?_
  refine lv_iconst (v := iZ ((0 : Nat) : Int)) hx hb d_L_stopped_2 (by decide) ?_
  refine lv_aload_n hx hb d_L_stopped_3 rfl (lv_at hl 0 rfl) ?_
  refine lv_iload_n hx hb d_L_stopped_4 rfl (lv_at hl 1 rfl) ?_
  refine lv_iload_n hx hb d_L_stopped_5 rfl (lv_at hl 2 rfl) ?_
  refine lv_iload_n hx hb d_L_stopped_6 rfl (lv_at hl 3 rfl) ?_
  refine z_xV (As := [.int (iZ ((kd : Nat) : Int)), .int (iZ (b)), .int (iZ (c9))]) (rest := [.int (iZ ((0 : Nat) : Int)), .ref (ad 33)]) Z (x_D_stopped2 hl0 hI (kd := kd) (b := b) (c9 := c9) hkd h) ⟨ml_L_53, im_D_stopped, se_D_stopped, ini_D, co_D_stopped⟩ zd_D_stopped ⟨Nat.le_of_ble_eq_true rfl, Nat.le_of_ble_eq_true rfl⟩ hP hK hT hSt (ci := 0) (q0 := 0) rfl rfl rfl hl.1 rfl (Nat.le_of_ble_eq_true rfl) d_L_stopped_7 ⟨Nat.le_of_ble_eq_true rfl, Nat.le_of_ble_eq_true rfl⟩ (fun q9 ce9 H9 hz9 hk9 hc9 hv9 hcl9 => ?_)
  refine z_xk2 Z htab ⟨⟨by decide, by decide⟩, by decide, by decide⟩ ⟨by decide, by decide⟩ kl_L_13 nc_IllegalArgumentException_IndexOutOfBoundsException kl_L_21 ca_IllegalArgumentException hc9 hv9 hcl9 ?_
  have hP := z_keepP hP hk9
  have hS := z_keepS hS hz9 hk9
  refine lv_astore (lv' := [(5, .ref (q9)), (0, .ref (ad 0)), (1, .int (iZ ((kd : Nat) : Int))), (2, .int (iZ (b))), (3, .int (iZ (c9))), (4, .ref (ad 33))]) hx hb d_L_stopped_19 hl (by decide) rfl (fun ls hl => ?_)
  refine lv_iconst (v := iZ ((2 : Nat) : Int)) hx hb d_L_stopped_21 (by decide) ?_
  exact z_iret Z hP hS d_L_stopped_22 wdL_map ⟨rfl, rfl⟩

set_option maxHeartbeats 4000000 in
set_option maxRecDepth 100000 in
theorem k_L_stoppedx3 {l : Launch} {D : va_G} (hl0 : l.stackTraces = false) {ad : Nat → Nat} {cI cZ cL : ClassId} {J : SJ} {rd : Nat → Int} {pr : Nat → Nat} {G : SH} {K : SK} {M : SM} {ov : Nat → Int64} (hI : JI J) {kd : Nat} {b c9 : Int} (hkd : kd < 3) (h : 1 ≤ b ∧ b ≤ 16 ∧ z32 c9 ∧ (c9 < 1 ∨ 16 < c9)) : zMW l D (tysW cI cZ cL) y_L_stopped w_L_stopped 10 168 [.ref (ad 0), .int (iZ ((kd : Nat) : Int)), .int (iZ (b)), .int (iZ (c9)), .ref (ad 33)] (wdC ad cI cZ cL J rd pr G K (wdM ad cI cZ cL J rd pr M ov)) (fun r w => r = iZ ((2 : Nat) : Int) ∧ w = wdC ad cI cZ cL J rd pr G K (wdM ad cI cZ cL J rd pr M ov)) := by
  refine z_ofW (by decide) (Nat.le_of_ble_eq_true rfl) ?_
  intro p e s m below meth c A ls Z htab hP hK hD hS hA hT hSt hl
  obtain ⟨hx, hb, hr, hml, hown, hts, hE, hlocks⟩ := id Z
  have hl : lv_has ls 6 [(0, .ref (ad 0)), (1, .int (iZ ((kd : Nat) : Int))), (2, .int (iZ (b))), (3, .int (iZ (c9))), (4, .ref (ad 33))] := hl
  refine lv_aload hx hb d_L_stopped_0 (lv_at hl 4 rfl) ?_
  refine lv_iconst (v := iZ ((0 : Nat) : Int)) hx hb d_L_stopped_2 (by decide) ?_
  refine lv_aload_n hx hb d_L_stopped_3 rfl (lv_at hl 0 rfl) ?_
  refine lv_iload_n hx hb d_L_stopped_4 rfl (lv_at hl 1 rfl) ?_
  refine lv_iload_n hx hb d_L_stopped_5 rfl (lv_at hl 2 rfl) ?_
  refine lv_iload_n hx hb d_L_stopped_6 rfl (lv_at hl 3 rfl) ?_
  refine z_xV (As := [.int (iZ ((kd : Nat) : Int)), .int (iZ (b)), .int (iZ (c9))]) (rest := [.int (iZ ((0 : Nat) : Int)), .ref (ad 33)]) Z (x_D_stopped3 hl0 hI (kd := kd) (b := b) (c9 := c9) hkd h) ⟨ml_L_53, im_D_stopped, se_D_stopped, ini_D, co_D_stopped⟩ zd_D_stopped ⟨Nat.le_of_ble_eq_true rfl, Nat.le_of_ble_eq_true rfl⟩ hP hK hT hSt (ci := 0) (q0 := 0) rfl rfl rfl hl.1 rfl (Nat.le_of_ble_eq_true rfl) d_L_stopped_7 ⟨Nat.le_of_ble_eq_true rfl, Nat.le_of_ble_eq_true rfl⟩ (fun q9 ce9 H9 hz9 hk9 hc9 hv9 hcl9 => ?_)
  refine z_xk2 Z htab ⟨⟨by decide, by decide⟩, by decide, by decide⟩ ⟨by decide, by decide⟩ kl_L_13 nc_IllegalArgumentException_IndexOutOfBoundsException kl_L_21 ca_IllegalArgumentException hc9 hv9 hcl9 ?_
  have hP := z_keepP hP hk9
  have hS := z_keepS hS hz9 hk9
  refine lv_astore (lv' := [(5, .ref (q9)), (0, .ref (ad 0)), (1, .int (iZ ((kd : Nat) : Int))), (2, .int (iZ (b))), (3, .int (iZ (c9))), (4, .ref (ad 33))]) hx hb d_L_stopped_19 hl (by decide) rfl (fun ls hl => ?_)
  refine lv_iconst (v := iZ ((2 : Nat) : Int)) hx hb d_L_stopped_21 (by decide) ?_
  exact z_iret Z hP hS d_L_stopped_22 wdL_map ⟨rfl, rfl⟩

set_option maxHeartbeats 4000000 in
set_option maxRecDepth 100000 in
theorem k_L_stopped0 {l : Launch} {D : va_G} {ad : Nat → Nat} {cI cZ cL : ClassId} {J : SJ} {rd : Nat → Int} {pr : Nat → Nat} {G : SH} {K : SK} {M : SM} {ov : Nat → Int64} (hI : JI J) {kd up lo : Nat} (hkd : kd < 3) (hup : 1 ≤ up ∧ up ≤ 16) (hlo : 1 ≤ lo ∧ lo ≤ 16) : zMW l D (tysW cI cZ cL) y_L_stopped w_L_stopped 10 168 [.ref (ad 0), .int (iZ ((kd : Nat) : Int)), .int (iZ ((up : Nat) : Int)), .int (iZ ((lo : Nat) : Int)), .ref (ad 33)] (wdC ad cI cZ cL J rd pr G K (wdM ad cI cZ cL J rd pr M ov)) (fun r w => r = iZ ((0 : Nat) : Int) ∧ w = wdC ad cI cZ cL J rd pr G K (wdM ad cI cZ cL J rd pr M (oU ov ((iZ (sSt J kd up lo (jk J) 0)).toInt64)))) := by
  refine z_ofW (by decide) (Nat.le_of_ble_eq_true rfl) ?_
  intro p e s m below meth c A ls Z htab hP hK hD hS hA hT hSt hl
  obtain ⟨hx, hb, hr, hml, hown, hts, hE, hlocks⟩ := id Z
  have hl : lv_has ls 6 [(0, .ref (ad 0)), (1, .int (iZ ((kd : Nat) : Int))), (2, .int (iZ ((up : Nat) : Int))), (3, .int (iZ ((lo : Nat) : Int))), (4, .ref (ad 33))] := hl
  suffices K9 : ∀ (H : Heap) (locs : List Loc), va_P D classes (wdC ad cI cZ cL J rd pr G K (wdM ad cI cZ cL J rd pr M ov)) H → va_D A (wdC ad cI cZ cL J rd pr G K (wdM ad cI cZ cL J rd pr M ov)) → va_S A s.heap H locs → W p l e (zRx 10 168) s m ([.ref (ad 0), .int (iZ ((kd : Nat) : Int)), .int (iZ ((up : Nat) : Int)), .int (iZ ((lo : Nat) : Int)), .ref (ad 33)] : List Value).toArray below meth c H locs 0 0 (MQ below (va_Qi (fun r w => r = iZ ((0 : Nat) : Int) ∧ w = wdC ad cI cZ cL J rd pr G K (wdM ad cI cZ cL J rd pr M (oU ov ((iZ (sSt J kd up lo (jk J) 0)).toInt64)))) (zB9 D classes (wdC ad cI cZ cL J rd pr G K (wdM ad cI cZ cL J rd pr M ov))) A) ([.ref (ad 0), .int (iZ ((kd : Nat) : Int)), .int (iZ ((up : Nat) : Int)), .int (iZ ((lo : Nat) : Int)), .ref (ad 33)] : List Value).toArray s 1 6 A) (F0 m 0 ls []) from K9 s.heap [] hP hD hS
  clear hP hD hS
  intro H locs hP hD hS
  refine lv_aload hx hb d_L_stopped_0 (lv_at hl 4 rfl) ?_
  refine lv_iconst (v := iZ ((0 : Nat) : Int)) hx hb d_L_stopped_2 (by decide) ?_
  refine lv_aload_n hx hb d_L_stopped_3 rfl (lv_at hl 0 rfl) ?_
  refine lv_iload_n hx hb d_L_stopped_4 rfl (lv_at hl 1 rfl) ?_
  refine lv_iload_n hx hb d_L_stopped_5 rfl (lv_at hl 2 rfl) ?_
  refine lv_iload_n hx hb d_L_stopped_6 rfl (lv_at hl 3 rfl) ?_
  refine z_callVR (As := [.int (iZ ((kd : Nat) : Int)), .int (iZ ((up : Nat) : Int)), .int (iZ ((lo : Nat) : Int))]) (rest := [.int (iZ ((0 : Nat) : Int)), .ref (ad 33)]) zTB Z (k_D_stopped hI hkd hup hlo) ⟨ml_L_53, im_D_stopped, se_D_stopped, ini_D, co_D_stopped⟩ zd_D_stopped ⟨Nat.le_of_ble_eq_true rfl, Nat.le_of_ble_eq_true rfl⟩ hP hK (ci := 0) (q0 := 0) rfl rfl rfl hl.1 rfl (Nat.le_of_ble_eq_true rfl) d_L_stopped_7 ⟨Nat.zero_le _, Nat.zero_le _⟩ ?_
  refine W.eq (g2 := F0 m 10 ls [.int (iZ (sSt J kd up lo (jk J) 0)), .int (iZ ((0 : Nat) : Int)), .ref (ad 33)]) rfl ?_
  refine lv_i2l (v := (iZ (sSt J kd up lo (jk J) 0)).toInt64) hx hb d_L_stopped_10 rfl ?_
  refine z_ost (x := (iZ (sSt J kd up lo (jk J) 0)).toInt64) hx hb hK hP hD hS 33 2 rfl rfl d_L_stopped_11 (fun H locs hP hD hS => ?_)
  have hP : va_P D classes (wdC ad cI cZ cL J rd pr G K (wdM ad cI cZ cL J rd pr M (oU ov ((iZ (sSt J kd up lo (jk J) 0)).toInt64)))) H := hP
  have hD : va_D A (wdC ad cI cZ cL J rd pr G K (wdM ad cI cZ cL J rd pr M (oU ov ((iZ (sSt J kd up lo (jk J) 0)).toInt64)))) := hD
  refine lv_goto (tgt := 23) hx hb d_L_stopped_12 (by decide) ?_
  refine lv_iconst (v := iZ ((0 : Nat) : Int)) hx hb d_L_stopped_23 (by decide) ?_
  refine W.widen (k := 1) (n := 6) (by omega) (by omega) ?_
  exact z_iret Z hP hS d_L_stopped_24 wdL_map (⟨rfl, rfl⟩)

set_option maxHeartbeats 4000000 in
set_option maxRecDepth 100000 in
theorem k_L_crossingx1 {l : Launch} {D : va_G} (hl0 : l.stackTraces = false) {ad : Nat → Nat} {cI cZ cL : ClassId} {J : SJ} {rd : Nat → Int} {pr : Nat → Nat} {G : SH} {K : SK} {M : SM} {ov : Nat → Int64} (hI : JI J) {a b c9 d9 : Int} (h : z32 d9 ∧ (d9 < 0 ∨ 2 ≤ d9)) : zMW l D (tysW cI cZ cL) y_L_crossing w_L_crossing 10 168 [.ref (ad 0), .int (iZ (a)), .int (iZ (b)), .int (iZ (c9)), .int (iZ (d9)), .ref (ad 33)] (wdC ad cI cZ cL J rd pr G K (wdM ad cI cZ cL J rd pr M ov)) (fun r w => r = iZ ((1 : Nat) : Int) ∧ w = wdC ad cI cZ cL J rd pr G K (wdM ad cI cZ cL J rd pr M ov)) := by
  refine z_ofW (by decide) (Nat.le_of_ble_eq_true rfl) ?_
  intro p e s m below meth c A ls Z htab hP hK hD hS hA hT hSt hl
  obtain ⟨hx, hb, hr, hml, hown, hts, hE, hlocks⟩ := id Z
  have hl : lv_has ls 7 [(0, .ref (ad 0)), (1, .int (iZ (a))), (2, .int (iZ (b))), (3, .int (iZ (c9))), (4, .int (iZ (d9))), (5, .ref (ad 33))] := hl
  refine lv_aload hx hb d_L_crossing_0 (lv_at hl 5 rfl) ?_
  refine lv_iconst (v := iZ ((0 : Nat) : Int)) hx hb d_L_crossing_2 (by decide) ?_
  refine lv_aload_n hx hb d_L_crossing_3 rfl (lv_at hl 0 rfl) ?_
  refine lv_iload_n hx hb d_L_crossing_4 rfl (lv_at hl 1 rfl) ?_
  refine lv_iload_n hx hb d_L_crossing_5 rfl (lv_at hl 2 rfl) ?_
  refine lv_iload_n hx hb d_L_crossing_6 rfl (lv_at hl 3 rfl) ?_
  refine lv_iload hx hb d_L_crossing_7 (lv_at hl 4 rfl) ?_
  refine z_xV (As := [.int (iZ (a)), .int (iZ (b)), .int (iZ (c9)), .int (iZ (d9))]) (rest := [.int (iZ ((0 : Nat) : Int)), .ref (ad 33)]) Z (x_D_crossing1 hl0 hI (a := a) (b := b) (c9 := c9) (d9 := d9) h) ⟨ml_L_57, im_D_crossing, se_D_crossing, ini_D, co_D_crossing⟩ zd_D_crossing ⟨Nat.le_of_ble_eq_true rfl, Nat.le_of_ble_eq_true rfl⟩ hP hK hT hSt (ci := 0) (q0 := 0) rfl rfl rfl hl.1 rfl (Nat.le_of_ble_eq_true rfl) d_L_crossing_9 ⟨Nat.le_of_ble_eq_true rfl, Nat.le_of_ble_eq_true rfl⟩ (fun q9 ce9 H9 hz9 hk9 hc9 hv9 hcl9 => ?_)
  refine z_xk1 Z htab ⟨by decide, by decide⟩ (by decide) kl_L_13 ca_IndexOutOfBoundsException hc9 hv9 hcl9 ?_
  have hP := z_keepP hP hk9
  have hS := z_keepS hS hz9 hk9
  refine lv_astore (lv' := [(6, .ref (q9)), (0, .ref (ad 0)), (1, .int (iZ (a))), (2, .int (iZ (b))), (3, .int (iZ (c9))), (4, .int (iZ (d9))), (5, .ref (ad 33))]) hx hb d_L_crossing_16 hl (by decide) rfl (fun ls hl => ?_)
  refine lv_iconst (v := iZ ((1 : Nat) : Int)) hx hb d_L_crossing_18 (by decide) ?_
  exact z_iret Z hP hS d_L_crossing_19 wdL_map ⟨rfl, rfl⟩

set_option maxHeartbeats 4000000 in
set_option maxRecDepth 100000 in
theorem k_L_crossingx2 {l : Launch} {D : va_G} (hl0 : l.stackTraces = false) {ad : Nat → Nat} {cI cZ cL : ClassId} {J : SJ} {rd : Nat → Int} {pr : Nat → Nat} {G : SH} {K : SK} {M : SM} {ov : Nat → Int64} (hI : JI J) {a b c9 d9 : Int} (h : 0 ≤ d9 ∧ d9 < 2 ∧ z32 a ∧ (a < 0 ∨ 40 < a)) : zMW l D (tysW cI cZ cL) y_L_crossing w_L_crossing 10 168 [.ref (ad 0), .int (iZ (a)), .int (iZ (b)), .int (iZ (c9)), .int (iZ (d9)), .ref (ad 33)] (wdC ad cI cZ cL J rd pr G K (wdM ad cI cZ cL J rd pr M ov)) (fun r w => r = iZ ((2 : Nat) : Int) ∧ w = wdC ad cI cZ cL J rd pr G K (wdM ad cI cZ cL J rd pr M ov)) := by
  refine z_ofW (by decide) (Nat.le_of_ble_eq_true rfl) ?_
  intro p e s m below meth c A ls Z htab hP hK hD hS hA hT hSt hl
  obtain ⟨hx, hb, hr, hml, hown, hts, hE, hlocks⟩ := id Z
  have hl : lv_has ls 7 [(0, .ref (ad 0)), (1, .int (iZ (a))), (2, .int (iZ (b))), (3, .int (iZ (c9))), (4, .int (iZ (d9))), (5, .ref (ad 33))] := hl
  refine lv_aload hx hb d_L_crossing_0 (lv_at hl 5 rfl) ?_
  refine lv_iconst (v := iZ ((0 : Nat) : Int)) hx hb d_L_crossing_2 (by decide) ?_
  refine lv_aload_n hx hb d_L_crossing_3 rfl (lv_at hl 0 rfl) ?_
  refine lv_iload_n hx hb d_L_crossing_4 rfl (lv_at hl 1 rfl) ?_
  refine lv_iload_n hx hb d_L_crossing_5 rfl (lv_at hl 2 rfl) ?_
  refine lv_iload_n hx hb d_L_crossing_6 rfl (lv_at hl 3 rfl) ?_
  refine lv_iload hx hb d_L_crossing_7 (lv_at hl 4 rfl) ?_
  refine z_xV (As := [.int (iZ (a)), .int (iZ (b)), .int (iZ (c9)), .int (iZ (d9))]) (rest := [.int (iZ ((0 : Nat) : Int)), .ref (ad 33)]) Z (x_D_crossing2 hl0 hI (a := a) (b := b) (c9 := c9) (d9 := d9) h) ⟨ml_L_57, im_D_crossing, se_D_crossing, ini_D, co_D_crossing⟩ zd_D_crossing ⟨Nat.le_of_ble_eq_true rfl, Nat.le_of_ble_eq_true rfl⟩ hP hK hT hSt (ci := 0) (q0 := 0) rfl rfl rfl hl.1 rfl (Nat.le_of_ble_eq_true rfl) d_L_crossing_9 ⟨Nat.le_of_ble_eq_true rfl, Nat.le_of_ble_eq_true rfl⟩ (fun q9 ce9 H9 hz9 hk9 hc9 hv9 hcl9 => ?_)
  refine z_xk2 Z htab ⟨⟨by decide, by decide⟩, by decide, by decide⟩ ⟨by decide, by decide⟩ kl_L_13 nc_IllegalArgumentException_IndexOutOfBoundsException kl_L_21 ca_IllegalArgumentException hc9 hv9 hcl9 ?_
  have hP := z_keepP hP hk9
  have hS := z_keepS hS hz9 hk9
  refine lv_astore (lv' := [(6, .ref (q9)), (0, .ref (ad 0)), (1, .int (iZ (a))), (2, .int (iZ (b))), (3, .int (iZ (c9))), (4, .int (iZ (d9))), (5, .ref (ad 33))]) hx hb d_L_crossing_20 hl (by decide) rfl (fun ls hl => ?_)
  refine lv_iconst (v := iZ ((2 : Nat) : Int)) hx hb d_L_crossing_22 (by decide) ?_
  exact z_iret Z hP hS d_L_crossing_23 wdL_map ⟨rfl, rfl⟩

set_option maxHeartbeats 4000000 in
set_option maxRecDepth 100000 in
theorem k_L_crossingx3 {l : Launch} {D : va_G} (hl0 : l.stackTraces = false) {ad : Nat → Nat} {cI cZ cL : ClassId} {J : SJ} {rd : Nat → Int} {pr : Nat → Nat} {G : SH} {K : SK} {M : SM} {ov : Nat → Int64} (hI : JI J) {a b c9 d9 : Int} (h : 0 ≤ d9 ∧ d9 < 2 ∧ 0 ≤ a ∧ a ≤ 40 ∧ z32 b ∧ (b < 1 ∨ 16 < b)) : zMW l D (tysW cI cZ cL) y_L_crossing w_L_crossing 10 168 [.ref (ad 0), .int (iZ (a)), .int (iZ (b)), .int (iZ (c9)), .int (iZ (d9)), .ref (ad 33)] (wdC ad cI cZ cL J rd pr G K (wdM ad cI cZ cL J rd pr M ov)) (fun r w => r = iZ ((2 : Nat) : Int) ∧ w = wdC ad cI cZ cL J rd pr G K (wdM ad cI cZ cL J rd pr M ov)) := by
  refine z_ofW (by decide) (Nat.le_of_ble_eq_true rfl) ?_
  intro p e s m below meth c A ls Z htab hP hK hD hS hA hT hSt hl
  obtain ⟨hx, hb, hr, hml, hown, hts, hE, hlocks⟩ := id Z
  have hl : lv_has ls 7 [(0, .ref (ad 0)), (1, .int (iZ (a))), (2, .int (iZ (b))), (3, .int (iZ (c9))), (4, .int (iZ (d9))), (5, .ref (ad 33))] := hl
  refine lv_aload hx hb d_L_crossing_0 (lv_at hl 5 rfl) ?_
  refine lv_iconst (v := iZ ((0 : Nat) : Int)) hx hb d_L_crossing_2 (by decide) ?_
  refine lv_aload_n hx hb d_L_crossing_3 rfl (lv_at hl 0 rfl) ?_
  refine lv_iload_n hx hb d_L_crossing_4 rfl (lv_at hl 1 rfl) ?_
  refine lv_iload_n hx hb d_L_crossing_5 rfl (lv_at hl 2 rfl) ?_
  refine lv_iload_n hx hb d_L_crossing_6 rfl (lv_at hl 3 rfl) ?_
  refine lv_iload hx hb d_L_crossing_7 (lv_at hl 4 rfl) ?_
  refine z_xV (As := [.int (iZ (a)), .int (iZ (b)), .int (iZ (c9)), .int (iZ (d9))]) (rest := [.int (iZ ((0 : Nat) : Int)), .ref (ad 33)]) Z (x_D_crossing3 hl0 hI (a := a) (b := b) (c9 := c9) (d9 := d9) h) ⟨ml_L_57, im_D_crossing, se_D_crossing, ini_D, co_D_crossing⟩ zd_D_crossing ⟨Nat.le_of_ble_eq_true rfl, Nat.le_of_ble_eq_true rfl⟩ hP hK hT hSt (ci := 0) (q0 := 0) rfl rfl rfl hl.1 rfl (Nat.le_of_ble_eq_true rfl) d_L_crossing_9 ⟨Nat.le_of_ble_eq_true rfl, Nat.le_of_ble_eq_true rfl⟩ (fun q9 ce9 H9 hz9 hk9 hc9 hv9 hcl9 => ?_)
  refine z_xk2 Z htab ⟨⟨by decide, by decide⟩, by decide, by decide⟩ ⟨by decide, by decide⟩ kl_L_13 nc_IllegalArgumentException_IndexOutOfBoundsException kl_L_21 ca_IllegalArgumentException hc9 hv9 hcl9 ?_
  have hP := z_keepP hP hk9
  have hS := z_keepS hS hz9 hk9
  refine lv_astore (lv' := [(6, .ref (q9)), (0, .ref (ad 0)), (1, .int (iZ (a))), (2, .int (iZ (b))), (3, .int (iZ (c9))), (4, .int (iZ (d9))), (5, .ref (ad 33))]) hx hb d_L_crossing_20 hl (by decide) rfl (fun ls hl => ?_)
  refine lv_iconst (v := iZ ((2 : Nat) : Int)) hx hb d_L_crossing_22 (by decide) ?_
  exact z_iret Z hP hS d_L_crossing_23 wdL_map ⟨rfl, rfl⟩

set_option maxHeartbeats 4000000 in
set_option maxRecDepth 100000 in
theorem k_L_crossingx4 {l : Launch} {D : va_G} (hl0 : l.stackTraces = false) {ad : Nat → Nat} {cI cZ cL : ClassId} {J : SJ} {rd : Nat → Int} {pr : Nat → Nat} {G : SH} {K : SK} {M : SM} {ov : Nat → Int64} (hI : JI J) {a b c9 d9 : Int} (h : 0 ≤ d9 ∧ d9 < 2 ∧ 0 ≤ a ∧ a ≤ 40 ∧ 1 ≤ b ∧ b ≤ 16 ∧ z32 c9 ∧ (c9 < 1 ∨ 16 < c9)) : zMW l D (tysW cI cZ cL) y_L_crossing w_L_crossing 10 168 [.ref (ad 0), .int (iZ (a)), .int (iZ (b)), .int (iZ (c9)), .int (iZ (d9)), .ref (ad 33)] (wdC ad cI cZ cL J rd pr G K (wdM ad cI cZ cL J rd pr M ov)) (fun r w => r = iZ ((2 : Nat) : Int) ∧ w = wdC ad cI cZ cL J rd pr G K (wdM ad cI cZ cL J rd pr M ov)) := by
  refine z_ofW (by decide) (Nat.le_of_ble_eq_true rfl) ?_
  intro p e s m below meth c A ls Z htab hP hK hD hS hA hT hSt hl
  obtain ⟨hx, hb, hr, hml, hown, hts, hE, hlocks⟩ := id Z
  have hl : lv_has ls 7 [(0, .ref (ad 0)), (1, .int (iZ (a))), (2, .int (iZ (b))), (3, .int (iZ (c9))), (4, .int (iZ (d9))), (5, .ref (ad 33))] := hl
  refine lv_aload hx hb d_L_crossing_0 (lv_at hl 5 rfl) ?_
  refine lv_iconst (v := iZ ((0 : Nat) : Int)) hx hb d_L_crossing_2 (by decide) ?_
  refine lv_aload_n hx hb d_L_crossing_3 rfl (lv_at hl 0 rfl) ?_
  refine lv_iload_n hx hb d_L_crossing_4 rfl (lv_at hl 1 rfl) ?_
  refine lv_iload_n hx hb d_L_crossing_5 rfl (lv_at hl 2 rfl) ?_
  refine lv_iload_n hx hb d_L_crossing_6 rfl (lv_at hl 3 rfl) ?_
  refine lv_iload hx hb d_L_crossing_7 (lv_at hl 4 rfl) ?_
  refine z_xV (As := [.int (iZ (a)), .int (iZ (b)), .int (iZ (c9)), .int (iZ (d9))]) (rest := [.int (iZ ((0 : Nat) : Int)), .ref (ad 33)]) Z (x_D_crossing4 hl0 hI (a := a) (b := b) (c9 := c9) (d9 := d9) h) ⟨ml_L_57, im_D_crossing, se_D_crossing, ini_D, co_D_crossing⟩ zd_D_crossing ⟨Nat.le_of_ble_eq_true rfl, Nat.le_of_ble_eq_true rfl⟩ hP hK hT hSt (ci := 0) (q0 := 0) rfl rfl rfl hl.1 rfl (Nat.le_of_ble_eq_true rfl) d_L_crossing_9 ⟨Nat.le_of_ble_eq_true rfl, Nat.le_of_ble_eq_true rfl⟩ (fun q9 ce9 H9 hz9 hk9 hc9 hv9 hcl9 => ?_)
  refine z_xk2 Z htab ⟨⟨by decide, by decide⟩, by decide, by decide⟩ ⟨by decide, by decide⟩ kl_L_13 nc_IllegalArgumentException_IndexOutOfBoundsException kl_L_21 ca_IllegalArgumentException hc9 hv9 hcl9 ?_
  have hP := z_keepP hP hk9
  have hS := z_keepS hS hz9 hk9
  refine lv_astore (lv' := [(6, .ref (q9)), (0, .ref (ad 0)), (1, .int (iZ (a))), (2, .int (iZ (b))), (3, .int (iZ (c9))), (4, .int (iZ (d9))), (5, .ref (ad 33))]) hx hb d_L_crossing_20 hl (by decide) rfl (fun ls hl => ?_)
  refine lv_iconst (v := iZ ((2 : Nat) : Int)) hx hb d_L_crossing_22 (by decide) ?_
  exact z_iret Z hP hS d_L_crossing_23 wdL_map ⟨rfl, rfl⟩

set_option maxHeartbeats 4000000 in
set_option maxRecDepth 100000 in
theorem k_L_crossing0 {l : Launch} {D : va_G} {ad : Nat → Nat} {cI cZ cL : ClassId} {J : SJ} {rd : Nat → Int} {pr : Nat → Nat} {G : SH} {K : SK} {M : SM} {ov : Nat → Int64} (hI : JI J) {nn up lo pt : Nat} (hn : nn ≤ 40) (hup : 1 ≤ up ∧ up ≤ 16) (hlo : 1 ≤ lo ∧ lo ≤ 16) (hpt : pt < 2) : zMW l D (tysW cI cZ cL) y_L_crossing w_L_crossing 10 168 [.ref (ad 0), .int (iZ ((nn : Nat) : Int)), .int (iZ ((up : Nat) : Int)), .int (iZ ((lo : Nat) : Int)), .int (iZ ((pt : Nat) : Int)), .ref (ad 33)] (wdC ad cI cZ cL J rd pr G K (wdM ad cI cZ cL J rd pr M ov)) (fun r w => r = iZ ((0 : Nat) : Int) ∧ ∃ K2 : SK, w = wdC ad cI cZ cL J rd pr G K2 (wdM ad cI cZ cL J rd pr M (oU ov (lZ (sTP ((sCr up lo nn : Nat) : Int) (2 ^ nn) pt))))) := by
  refine z_ofW (by decide) (Nat.le_of_ble_eq_true rfl) ?_
  intro p e s m below meth c A ls Z htab hP hK hD hS hA hT hSt hl
  obtain ⟨hx, hb, hr, hml, hown, hts, hE, hlocks⟩ := id Z
  have hl : lv_has ls 7 [(0, .ref (ad 0)), (1, .int (iZ ((nn : Nat) : Int))), (2, .int (iZ ((up : Nat) : Int))), (3, .int (iZ ((lo : Nat) : Int))), (4, .int (iZ ((pt : Nat) : Int))), (5, .ref (ad 33))] := hl
  suffices K9 : ∀ (H : Heap) (locs : List Loc), va_P D classes (wdC ad cI cZ cL J rd pr G K (wdM ad cI cZ cL J rd pr M ov)) H → va_D A (wdC ad cI cZ cL J rd pr G K (wdM ad cI cZ cL J rd pr M ov)) → va_S A s.heap H locs → W p l e (zRx 10 168) s m ([.ref (ad 0), .int (iZ ((nn : Nat) : Int)), .int (iZ ((up : Nat) : Int)), .int (iZ ((lo : Nat) : Int)), .int (iZ ((pt : Nat) : Int)), .ref (ad 33)] : List Value).toArray below meth c H locs 0 0 (MQ below (va_Qi (fun r w => r = iZ ((0 : Nat) : Int) ∧ ∃ K2 : SK, w = wdC ad cI cZ cL J rd pr G K2 (wdM ad cI cZ cL J rd pr M (oU ov (lZ (sTP ((sCr up lo nn : Nat) : Int) (2 ^ nn) pt))))) (zB9 D classes (wdC ad cI cZ cL J rd pr G K (wdM ad cI cZ cL J rd pr M ov))) A) ([.ref (ad 0), .int (iZ ((nn : Nat) : Int)), .int (iZ ((up : Nat) : Int)), .int (iZ ((lo : Nat) : Int)), .int (iZ ((pt : Nat) : Int)), .ref (ad 33)] : List Value).toArray s 1 6 A) (F0 m 0 ls []) from K9 s.heap [] hP hD hS
  clear hP hD hS
  intro H locs hP hD hS
  refine lv_aload hx hb d_L_crossing_0 (lv_at hl 5 rfl) ?_
  refine lv_iconst (v := iZ ((0 : Nat) : Int)) hx hb d_L_crossing_2 (by decide) ?_
  refine lv_aload_n hx hb d_L_crossing_3 rfl (lv_at hl 0 rfl) ?_
  refine lv_iload_n hx hb d_L_crossing_4 rfl (lv_at hl 1 rfl) ?_
  refine lv_iload_n hx hb d_L_crossing_5 rfl (lv_at hl 2 rfl) ?_
  refine lv_iload_n hx hb d_L_crossing_6 rfl (lv_at hl 3 rfl) ?_
  refine lv_iload hx hb d_L_crossing_7 (lv_at hl 4 rfl) ?_
  refine z_kl (z_runV (As := [.int (iZ ((nn : Nat) : Int)), .int (iZ ((up : Nat) : Int)), .int (iZ ((lo : Nat) : Int)), .int (iZ ((pt : Nat) : Int))]) (rest := [.int (iZ ((0 : Nat) : Int)), .ref (ad 33)]) zTB Z (k_D_crossing hn hup hlo hpt) ⟨ml_L_57, im_D_crossing, se_D_crossing, ini_D, co_D_crossing⟩ zd_D_crossing ⟨Nat.le_of_ble_eq_true rfl, Nat.le_of_ble_eq_true rfl⟩ hP hK hD (ci := 0) (q0 := 0) rfl rfl rfl hl.1 rfl (Nat.le_of_ble_eq_true rfl) d_L_crossing_9 ⟨Nat.zero_le _, Nat.zero_le _⟩) hD hS hA (fun r9 w9 H locs hp9 hP hD hS => ?_)
  obtain ⟨K2, rfl, rfl⟩ := hp9
  have hP : va_P D classes (wdC ad cI cZ cL J rd pr G K2 (wdM ad cI cZ cL J rd pr M ov)) H := hP
  have hD : va_D A (wdC ad cI cZ cL J rd pr G K2 (wdM ad cI cZ cL J rd pr M ov)) := hD
  refine W.eq (g2 := F0 m 12 ls [.long (lZ (sTP ((sCr up lo nn : Nat) : Int) (2 ^ nn) pt)), .int (iZ ((0 : Nat) : Int)), .ref (ad 33)]) rfl ?_
  refine z_ost (x := lZ (sTP ((sCr up lo nn : Nat) : Int) (2 ^ nn) pt)) hx hb hK hP hD hS 33 2 rfl rfl d_L_crossing_12 (fun H locs hP hD hS => ?_)
  have hP : va_P D classes (wdC ad cI cZ cL J rd pr G K2 (wdM ad cI cZ cL J rd pr M (oU ov (lZ (sTP ((sCr up lo nn : Nat) : Int) (2 ^ nn) pt))))) H := hP
  have hD : va_D A (wdC ad cI cZ cL J rd pr G K2 (wdM ad cI cZ cL J rd pr M (oU ov (lZ (sTP ((sCr up lo nn : Nat) : Int) (2 ^ nn) pt))))) := hD
  refine lv_goto (tgt := 24) hx hb d_L_crossing_13 (by decide) ?_
  refine lv_iconst (v := iZ ((0 : Nat) : Int)) hx hb d_L_crossing_24 (by decide) ?_
  refine W.widen (k := 1) (n := 6) (by omega) (by omega) ?_
  exact z_iret Z hP hS d_L_crossing_25 wdL_map (⟨rfl, K2, rfl⟩)

set_option maxHeartbeats 4000000 in
set_option maxRecDepth 100000 in
theorem k_L_leastx1 {l : Launch} {D : va_G} (hl0 : l.stackTraces = false) {ad : Nat → Nat} {cI cZ cL : ClassId} {J : SJ} {rd : Nat → Int} {pr : Nat → Nat} {G : SH} {K : SK} {M : SM} {ov : Nat → Int64} (hI : JI J) {a b c9 d9 : Int} (h : z32 d9 ∧ (d9 < 1 ∨ 1000 < d9)) : zMW l D (tysW cI cZ cL) y_L_least w_L_least 10 168 [.ref (ad 0), .int (iZ (a)), .int (iZ (b)), .int (iZ (c9)), .int (iZ (d9)), .ref (ad 33)] (wdC ad cI cZ cL J rd pr G K (wdM ad cI cZ cL J rd pr M ov)) (fun r w => r = iZ ((1 : Nat) : Int) ∧ w = wdC ad cI cZ cL J rd pr G K (wdM ad cI cZ cL J rd pr M ov)) := by
  refine z_ofW (by decide) (Nat.le_of_ble_eq_true rfl) ?_
  intro p e s m below meth c A ls Z htab hP hK hD hS hA hT hSt hl
  obtain ⟨hx, hb, hr, hml, hown, hts, hE, hlocks⟩ := id Z
  have hl : lv_has ls 7 [(0, .ref (ad 0)), (1, .int (iZ (a))), (2, .int (iZ (b))), (3, .int (iZ (c9))), (4, .int (iZ (d9))), (5, .ref (ad 33))] := hl
  refine lv_aload hx hb d_L_least_0 (lv_at hl 5 rfl) ?_
  refine lv_iconst (v := iZ ((0 : Nat) : Int)) hx hb d_L_least_2 (by decide) ?_
  refine lv_aload_n hx hb d_L_least_3 rfl (lv_at hl 0 rfl) ?_
  refine lv_iload_n hx hb d_L_least_4 rfl (lv_at hl 1 rfl) ?_
  refine lv_iload_n hx hb d_L_least_5 rfl (lv_at hl 2 rfl) ?_
  refine lv_iload_n hx hb d_L_least_6 rfl (lv_at hl 3 rfl) ?_
  refine lv_iload hx hb d_L_least_7 (lv_at hl 4 rfl) ?_
  refine z_xV (As := [.int (iZ (a)), .int (iZ (b)), .int (iZ (c9)), .int (iZ (d9))]) (rest := [.int (iZ ((0 : Nat) : Int)), .ref (ad 33)]) Z (x_D_least1 hl0 hI (a := a) (b := b) (c9 := c9) (d9 := d9) h) ⟨ml_L_61, im_D_least, se_D_least, ini_D, co_D_least⟩ zd_D_least ⟨Nat.le_of_ble_eq_true rfl, Nat.le_of_ble_eq_true rfl⟩ hP hK hT hSt (ci := 0) (q0 := 0) rfl rfl rfl hl.1 rfl (Nat.le_of_ble_eq_true rfl) d_L_least_9 ⟨Nat.le_of_ble_eq_true rfl, Nat.le_of_ble_eq_true rfl⟩ (fun q9 ce9 H9 hz9 hk9 hc9 hv9 hcl9 => ?_)
  refine z_xk1 Z htab ⟨by decide, by decide⟩ (by decide) kl_L_21 ca_IllegalArgumentException hc9 hv9 hcl9 ?_
  have hP := z_keepP hP hk9
  have hS := z_keepS hS hz9 hk9
  refine lv_astore (lv' := [(6, .ref (q9)), (0, .ref (ad 0)), (1, .int (iZ (a))), (2, .int (iZ (b))), (3, .int (iZ (c9))), (4, .int (iZ (d9))), (5, .ref (ad 33))]) hx hb d_L_least_17 hl (by decide) rfl (fun ls hl => ?_)
  refine lv_iconst (v := iZ ((1 : Nat) : Int)) hx hb d_L_least_19 (by decide) ?_
  exact z_iret Z hP hS d_L_least_20 wdL_map ⟨rfl, rfl⟩

set_option maxHeartbeats 4000000 in
set_option maxRecDepth 100000 in
theorem k_L_leastx2 {l : Launch} {D : va_G} (hl0 : l.stackTraces = false) {ad : Nat → Nat} {cI cZ cL : ClassId} {J : SJ} {rd : Nat → Int} {pr : Nat → Nat} {G : SH} {K : SK} {M : SM} {ov : Nat → Int64} (hI : JI J) {a b c9 d9 : Int} (h : 1 ≤ d9 ∧ d9 ≤ 1000 ∧ z32 c9 ∧ (c9 < 0 ∨ d9 < c9)) : zMW l D (tysW cI cZ cL) y_L_least w_L_least 10 168 [.ref (ad 0), .int (iZ (a)), .int (iZ (b)), .int (iZ (c9)), .int (iZ (d9)), .ref (ad 33)] (wdC ad cI cZ cL J rd pr G K (wdM ad cI cZ cL J rd pr M ov)) (fun r w => r = iZ ((1 : Nat) : Int) ∧ w = wdC ad cI cZ cL J rd pr G K (wdM ad cI cZ cL J rd pr M ov)) := by
  refine z_ofW (by decide) (Nat.le_of_ble_eq_true rfl) ?_
  intro p e s m below meth c A ls Z htab hP hK hD hS hA hT hSt hl
  obtain ⟨hx, hb, hr, hml, hown, hts, hE, hlocks⟩ := id Z
  have hl : lv_has ls 7 [(0, .ref (ad 0)), (1, .int (iZ (a))), (2, .int (iZ (b))), (3, .int (iZ (c9))), (4, .int (iZ (d9))), (5, .ref (ad 33))] := hl
  refine lv_aload hx hb d_L_least_0 (lv_at hl 5 rfl) ?_
  refine lv_iconst (v := iZ ((0 : Nat) : Int)) hx hb d_L_least_2 (by decide) ?_
  refine lv_aload_n hx hb d_L_least_3 rfl (lv_at hl 0 rfl) ?_
  refine lv_iload_n hx hb d_L_least_4 rfl (lv_at hl 1 rfl) ?_
  refine lv_iload_n hx hb d_L_least_5 rfl (lv_at hl 2 rfl) ?_
  refine lv_iload_n hx hb d_L_least_6 rfl (lv_at hl 3 rfl) ?_
  refine lv_iload hx hb d_L_least_7 (lv_at hl 4 rfl) ?_
  refine z_xV (As := [.int (iZ (a)), .int (iZ (b)), .int (iZ (c9)), .int (iZ (d9))]) (rest := [.int (iZ ((0 : Nat) : Int)), .ref (ad 33)]) Z (x_D_least2 hl0 hI (a := a) (b := b) (c9 := c9) (d9 := d9) h) ⟨ml_L_61, im_D_least, se_D_least, ini_D, co_D_least⟩ zd_D_least ⟨Nat.le_of_ble_eq_true rfl, Nat.le_of_ble_eq_true rfl⟩ hP hK hT hSt (ci := 0) (q0 := 0) rfl rfl rfl hl.1 rfl (Nat.le_of_ble_eq_true rfl) d_L_least_9 ⟨Nat.le_of_ble_eq_true rfl, Nat.le_of_ble_eq_true rfl⟩ (fun q9 ce9 H9 hz9 hk9 hc9 hv9 hcl9 => ?_)
  refine z_xk1 Z htab ⟨by decide, by decide⟩ (by decide) kl_L_21 ca_IllegalArgumentException hc9 hv9 hcl9 ?_
  have hP := z_keepP hP hk9
  have hS := z_keepS hS hz9 hk9
  refine lv_astore (lv' := [(6, .ref (q9)), (0, .ref (ad 0)), (1, .int (iZ (a))), (2, .int (iZ (b))), (3, .int (iZ (c9))), (4, .int (iZ (d9))), (5, .ref (ad 33))]) hx hb d_L_least_17 hl (by decide) rfl (fun ls hl => ?_)
  refine lv_iconst (v := iZ ((1 : Nat) : Int)) hx hb d_L_least_19 (by decide) ?_
  exact z_iret Z hP hS d_L_least_20 wdL_map ⟨rfl, rfl⟩

set_option maxHeartbeats 4000000 in
set_option maxRecDepth 100000 in
theorem k_L_leastx3 {l : Launch} {D : va_G} (hl0 : l.stackTraces = false) {ad : Nat → Nat} {cI cZ cL : ClassId} {J : SJ} {rd : Nat → Int} {pr : Nat → Nat} {G : SH} {K : SK} {M : SM} {ov : Nat → Int64} (hI : JI J) {a b c9 d9 : Int} (h : 1 ≤ d9 ∧ d9 ≤ 1000 ∧ 0 ≤ c9 ∧ c9 ≤ d9 ∧ z32 a ∧ (a < 1 ∨ 16 < a)) : zMW l D (tysW cI cZ cL) y_L_least w_L_least 10 168 [.ref (ad 0), .int (iZ (a)), .int (iZ (b)), .int (iZ (c9)), .int (iZ (d9)), .ref (ad 33)] (wdC ad cI cZ cL J rd pr G K (wdM ad cI cZ cL J rd pr M ov)) (fun r w => r = iZ ((1 : Nat) : Int) ∧ w = wdC ad cI cZ cL J rd pr G K (wdM ad cI cZ cL J rd pr M ov)) := by
  refine z_ofW (by decide) (Nat.le_of_ble_eq_true rfl) ?_
  intro p e s m below meth c A ls Z htab hP hK hD hS hA hT hSt hl
  obtain ⟨hx, hb, hr, hml, hown, hts, hE, hlocks⟩ := id Z
  have hl : lv_has ls 7 [(0, .ref (ad 0)), (1, .int (iZ (a))), (2, .int (iZ (b))), (3, .int (iZ (c9))), (4, .int (iZ (d9))), (5, .ref (ad 33))] := hl
  refine lv_aload hx hb d_L_least_0 (lv_at hl 5 rfl) ?_
  refine lv_iconst (v := iZ ((0 : Nat) : Int)) hx hb d_L_least_2 (by decide) ?_
  refine lv_aload_n hx hb d_L_least_3 rfl (lv_at hl 0 rfl) ?_
  refine lv_iload_n hx hb d_L_least_4 rfl (lv_at hl 1 rfl) ?_
  refine lv_iload_n hx hb d_L_least_5 rfl (lv_at hl 2 rfl) ?_
  refine lv_iload_n hx hb d_L_least_6 rfl (lv_at hl 3 rfl) ?_
  refine lv_iload hx hb d_L_least_7 (lv_at hl 4 rfl) ?_
  refine z_xV (As := [.int (iZ (a)), .int (iZ (b)), .int (iZ (c9)), .int (iZ (d9))]) (rest := [.int (iZ ((0 : Nat) : Int)), .ref (ad 33)]) Z (x_D_least3 hl0 hI (a := a) (b := b) (c9 := c9) (d9 := d9) h) ⟨ml_L_61, im_D_least, se_D_least, ini_D, co_D_least⟩ zd_D_least ⟨Nat.le_of_ble_eq_true rfl, Nat.le_of_ble_eq_true rfl⟩ hP hK hT hSt (ci := 0) (q0 := 0) rfl rfl rfl hl.1 rfl (Nat.le_of_ble_eq_true rfl) d_L_least_9 ⟨Nat.le_of_ble_eq_true rfl, Nat.le_of_ble_eq_true rfl⟩ (fun q9 ce9 H9 hz9 hk9 hc9 hv9 hcl9 => ?_)
  refine z_xk1 Z htab ⟨by decide, by decide⟩ (by decide) kl_L_21 ca_IllegalArgumentException hc9 hv9 hcl9 ?_
  have hP := z_keepP hP hk9
  have hS := z_keepS hS hz9 hk9
  refine lv_astore (lv' := [(6, .ref (q9)), (0, .ref (ad 0)), (1, .int (iZ (a))), (2, .int (iZ (b))), (3, .int (iZ (c9))), (4, .int (iZ (d9))), (5, .ref (ad 33))]) hx hb d_L_least_17 hl (by decide) rfl (fun ls hl => ?_)
  refine lv_iconst (v := iZ ((1 : Nat) : Int)) hx hb d_L_least_19 (by decide) ?_
  exact z_iret Z hP hS d_L_least_20 wdL_map ⟨rfl, rfl⟩

set_option maxHeartbeats 4000000 in
set_option maxRecDepth 100000 in
theorem k_L_leastx4 {l : Launch} {D : va_G} (hl0 : l.stackTraces = false) {ad : Nat → Nat} {cI cZ cL : ClassId} {J : SJ} {rd : Nat → Int} {pr : Nat → Nat} {G : SH} {K : SK} {M : SM} {ov : Nat → Int64} (hI : JI J) {a b c9 d9 : Int} (h : 1 ≤ d9 ∧ d9 ≤ 1000 ∧ 0 ≤ c9 ∧ c9 ≤ d9 ∧ 1 ≤ a ∧ a ≤ 16 ∧ z32 b ∧ (b < 1 ∨ 16 < b)) : zMW l D (tysW cI cZ cL) y_L_least w_L_least 10 168 [.ref (ad 0), .int (iZ (a)), .int (iZ (b)), .int (iZ (c9)), .int (iZ (d9)), .ref (ad 33)] (wdC ad cI cZ cL J rd pr G K (wdM ad cI cZ cL J rd pr M ov)) (fun r w => r = iZ ((1 : Nat) : Int) ∧ w = wdC ad cI cZ cL J rd pr G K (wdM ad cI cZ cL J rd pr M ov)) := by
  refine z_ofW (by decide) (Nat.le_of_ble_eq_true rfl) ?_
  intro p e s m below meth c A ls Z htab hP hK hD hS hA hT hSt hl
  obtain ⟨hx, hb, hr, hml, hown, hts, hE, hlocks⟩ := id Z
  have hl : lv_has ls 7 [(0, .ref (ad 0)), (1, .int (iZ (a))), (2, .int (iZ (b))), (3, .int (iZ (c9))), (4, .int (iZ (d9))), (5, .ref (ad 33))] := hl
  refine lv_aload hx hb d_L_least_0 (lv_at hl 5 rfl) ?_
  refine lv_iconst (v := iZ ((0 : Nat) : Int)) hx hb d_L_least_2 (by decide) ?_
  refine lv_aload_n hx hb d_L_least_3 rfl (lv_at hl 0 rfl) ?_
  refine lv_iload_n hx hb d_L_least_4 rfl (lv_at hl 1 rfl) ?_
  refine lv_iload_n hx hb d_L_least_5 rfl (lv_at hl 2 rfl) ?_
  refine lv_iload_n hx hb d_L_least_6 rfl (lv_at hl 3 rfl) ?_
  refine lv_iload hx hb d_L_least_7 (lv_at hl 4 rfl) ?_
  refine z_xV (As := [.int (iZ (a)), .int (iZ (b)), .int (iZ (c9)), .int (iZ (d9))]) (rest := [.int (iZ ((0 : Nat) : Int)), .ref (ad 33)]) Z (x_D_least4 hl0 hI (a := a) (b := b) (c9 := c9) (d9 := d9) h) ⟨ml_L_61, im_D_least, se_D_least, ini_D, co_D_least⟩ zd_D_least ⟨Nat.le_of_ble_eq_true rfl, Nat.le_of_ble_eq_true rfl⟩ hP hK hT hSt (ci := 0) (q0 := 0) rfl rfl rfl hl.1 rfl (Nat.le_of_ble_eq_true rfl) d_L_least_9 ⟨Nat.le_of_ble_eq_true rfl, Nat.le_of_ble_eq_true rfl⟩ (fun q9 ce9 H9 hz9 hk9 hc9 hv9 hcl9 => ?_)
  refine z_xk1 Z htab ⟨by decide, by decide⟩ (by decide) kl_L_21 ca_IllegalArgumentException hc9 hv9 hcl9 ?_
  have hP := z_keepP hP hk9
  have hS := z_keepS hS hz9 hk9
  refine lv_astore (lv' := [(6, .ref (q9)), (0, .ref (ad 0)), (1, .int (iZ (a))), (2, .int (iZ (b))), (3, .int (iZ (c9))), (4, .int (iZ (d9))), (5, .ref (ad 33))]) hx hb d_L_least_17 hl (by decide) rfl (fun ls hl => ?_)
  refine lv_iconst (v := iZ ((1 : Nat) : Int)) hx hb d_L_least_19 (by decide) ?_
  exact z_iret Z hP hS d_L_least_20 wdL_map ⟨rfl, rfl⟩

set_option maxHeartbeats 4000000 in
set_option maxRecDepth 100000 in
theorem k_L_least0 {l : Launch} {D : va_G} {ad : Nat → Nat} {cI cZ cL : ClassId} {J : SJ} {rd : Nat → Int} {pr : Nat → Nat} {G : SH} {K : SK} {M : SM} {ov : Nat → Int64} (hI : JI J) {up lo ab be : Nat} (hup : 1 ≤ up ∧ up ≤ 16) (hlo : 1 ≤ lo ∧ lo ≤ 16) (hbe : 1 ≤ be ∧ be ≤ 1000) (hab : ab ≤ be) : zMW l D (tysW cI cZ cL) y_L_least w_L_least 10 168 [.ref (ad 0), .int (iZ ((up : Nat) : Int)), .int (iZ ((lo : Nat) : Int)), .int (iZ ((ab : Nat) : Int)), .int (iZ ((be : Nat) : Int)), .ref (ad 33)] (wdC ad cI cZ cL J rd pr G K (wdM ad cI cZ cL J rd pr M ov)) (fun r w => r = iZ ((0 : Nat) : Int) ∧ ∃ K2 : SK, w = wdC ad cI cZ cL J rd pr G K2 (wdM ad cI cZ cL J rd pr M (oU ov ((iZ (sLs up lo ab be 41 0)).toInt64)))) := by
  refine z_ofW (by decide) (Nat.le_of_ble_eq_true rfl) ?_
  intro p e s m below meth c A ls Z htab hP hK hD hS hA hT hSt hl
  obtain ⟨hx, hb, hr, hml, hown, hts, hE, hlocks⟩ := id Z
  have hl : lv_has ls 7 [(0, .ref (ad 0)), (1, .int (iZ ((up : Nat) : Int))), (2, .int (iZ ((lo : Nat) : Int))), (3, .int (iZ ((ab : Nat) : Int))), (4, .int (iZ ((be : Nat) : Int))), (5, .ref (ad 33))] := hl
  suffices K9 : ∀ (H : Heap) (locs : List Loc), va_P D classes (wdC ad cI cZ cL J rd pr G K (wdM ad cI cZ cL J rd pr M ov)) H → va_D A (wdC ad cI cZ cL J rd pr G K (wdM ad cI cZ cL J rd pr M ov)) → va_S A s.heap H locs → W p l e (zRx 10 168) s m ([.ref (ad 0), .int (iZ ((up : Nat) : Int)), .int (iZ ((lo : Nat) : Int)), .int (iZ ((ab : Nat) : Int)), .int (iZ ((be : Nat) : Int)), .ref (ad 33)] : List Value).toArray below meth c H locs 0 0 (MQ below (va_Qi (fun r w => r = iZ ((0 : Nat) : Int) ∧ ∃ K2 : SK, w = wdC ad cI cZ cL J rd pr G K2 (wdM ad cI cZ cL J rd pr M (oU ov ((iZ (sLs up lo ab be 41 0)).toInt64)))) (zB9 D classes (wdC ad cI cZ cL J rd pr G K (wdM ad cI cZ cL J rd pr M ov))) A) ([.ref (ad 0), .int (iZ ((up : Nat) : Int)), .int (iZ ((lo : Nat) : Int)), .int (iZ ((ab : Nat) : Int)), .int (iZ ((be : Nat) : Int)), .ref (ad 33)] : List Value).toArray s 1 6 A) (F0 m 0 ls []) from K9 s.heap [] hP hD hS
  clear hP hD hS
  intro H locs hP hD hS
  refine lv_aload hx hb d_L_least_0 (lv_at hl 5 rfl) ?_
  refine lv_iconst (v := iZ ((0 : Nat) : Int)) hx hb d_L_least_2 (by decide) ?_
  refine lv_aload_n hx hb d_L_least_3 rfl (lv_at hl 0 rfl) ?_
  refine lv_iload_n hx hb d_L_least_4 rfl (lv_at hl 1 rfl) ?_
  refine lv_iload_n hx hb d_L_least_5 rfl (lv_at hl 2 rfl) ?_
  refine lv_iload_n hx hb d_L_least_6 rfl (lv_at hl 3 rfl) ?_
  refine lv_iload hx hb d_L_least_7 (lv_at hl 4 rfl) ?_
  refine z_ki (z_runV (As := [.int (iZ ((up : Nat) : Int)), .int (iZ ((lo : Nat) : Int)), .int (iZ ((ab : Nat) : Int)), .int (iZ ((be : Nat) : Int))]) (rest := [.int (iZ ((0 : Nat) : Int)), .ref (ad 33)]) zTB Z (k_D_least hup hlo hbe hab) ⟨ml_L_61, im_D_least, se_D_least, ini_D, co_D_least⟩ zd_D_least ⟨Nat.le_of_ble_eq_true rfl, Nat.le_of_ble_eq_true rfl⟩ hP hK hD (ci := 0) (q0 := 0) rfl rfl rfl hl.1 rfl (Nat.le_of_ble_eq_true rfl) d_L_least_9 ⟨Nat.zero_le _, Nat.zero_le _⟩) hD hS hA (fun r9 w9 H locs hp9 hP hD hS => ?_)
  obtain ⟨K2, rfl, rfl⟩ := hp9
  have hP : va_P D classes (wdC ad cI cZ cL J rd pr G K2 (wdM ad cI cZ cL J rd pr M ov)) H := hP
  have hD : va_D A (wdC ad cI cZ cL J rd pr G K2 (wdM ad cI cZ cL J rd pr M ov)) := hD
  refine W.eq (g2 := F0 m 12 ls [.int (iZ (sLs up lo ab be 41 0)), .int (iZ ((0 : Nat) : Int)), .ref (ad 33)]) rfl ?_
  refine lv_i2l (v := (iZ (sLs up lo ab be 41 0)).toInt64) hx hb d_L_least_12 rfl ?_
  refine z_ost (x := (iZ (sLs up lo ab be 41 0)).toInt64) hx hb hK hP hD hS 33 2 rfl rfl d_L_least_13 (fun H locs hP hD hS => ?_)
  have hP : va_P D classes (wdC ad cI cZ cL J rd pr G K2 (wdM ad cI cZ cL J rd pr M (oU ov ((iZ (sLs up lo ab be 41 0)).toInt64)))) H := hP
  have hD : va_D A (wdC ad cI cZ cL J rd pr G K2 (wdM ad cI cZ cL J rd pr M (oU ov ((iZ (sLs up lo ab be 41 0)).toInt64)))) := hD
  refine lv_goto (tgt := 21) hx hb d_L_least_14 (by decide) ?_
  refine lv_iconst (v := iZ ((0 : Nat) : Int)) hx hb d_L_least_21 (by decide) ?_
  refine W.widen (k := 1) (n := 6) (by omega) (by omega) ?_
  exact z_iret Z hP hS d_L_least_22 wdL_map (⟨rfl, K2, rfl⟩)

set_option maxHeartbeats 4000000 in
set_option maxRecDepth 100000 in
theorem k_L_meanx1 {l : Launch} {D : va_G} (hl0 : l.stackTraces = false) {ad : Nat → Nat} {cI cZ cL : ClassId} {J : SJ} {rd : Nat → Int} {pr : Nat → Nat} {G : SH} {K : SK} {M : SM} {ov : Nat → Int64} (hI : JI J) {a b c9 : Int} (h : z32 a ∧ (a < 0 ∨ 4 ≤ a)) : zMW l D (tysW cI cZ cL) y_L_mean w_L_mean 10 164 [.ref (ad 0), .int (iZ (a)), .int (iZ (b)), .int (iZ (c9)), .ref (ad 33)] (wdC ad cI cZ cL J rd pr G K (wdM ad cI cZ cL J rd pr M ov)) (fun r w => r = iZ ((1 : Nat) : Int) ∧ w = wdC ad cI cZ cL J rd pr G K (wdM ad cI cZ cL J rd pr M ov)) := by
  refine z_ofW (by decide) (Nat.le_of_ble_eq_true rfl) ?_
  intro p e s m below meth c A ls Z htab hP hK hD hS hA hT hSt hl
  obtain ⟨hx, hb, hr, hml, hown, hts, hE, hlocks⟩ := id Z
  have hl : lv_has ls 6 [(0, .ref (ad 0)), (1, .int (iZ (a))), (2, .int (iZ (b))), (3, .int (iZ (c9))), (4, .ref (ad 33))] := hl
  refine lv_aload hx hb d_L_mean_0 (lv_at hl 4 rfl) ?_
  refine lv_iconst (v := iZ ((0 : Nat) : Int)) hx hb d_L_mean_2 (by decide) ?_
  refine lv_aload_n hx hb d_L_mean_3 rfl (lv_at hl 0 rfl) ?_
  refine lv_iload_n hx hb d_L_mean_4 rfl (lv_at hl 1 rfl) ?_
  refine lv_iload_n hx hb d_L_mean_5 rfl (lv_at hl 2 rfl) ?_
  refine lv_iload_n hx hb d_L_mean_6 rfl (lv_at hl 3 rfl) ?_
  refine z_xV (As := [.int (iZ (a)), .int (iZ (b)), .int (iZ (c9))]) (rest := [.int (iZ ((0 : Nat) : Int)), .ref (ad 33)]) Z (x_D_mean1 hl0 hI (a := a) (b := b) (c9 := c9) h) ⟨ml_L_65, im_D_mean, se_D_mean, ini_D, co_D_mean⟩ zd_D_mean ⟨Nat.le_of_ble_eq_true rfl, Nat.le_of_ble_eq_true rfl⟩ hP hK hT hSt (ci := 0) (q0 := 0) rfl rfl rfl hl.1 rfl (Nat.le_of_ble_eq_true rfl) d_L_mean_7 ⟨Nat.le_of_ble_eq_true rfl, Nat.le_of_ble_eq_true rfl⟩ (fun q9 ce9 H9 hz9 hk9 hc9 hv9 hcl9 => ?_)
  refine z_xk1 Z htab ⟨by decide, by decide⟩ (by decide) kl_L_13 ca_IndexOutOfBoundsException hc9 hv9 hcl9 ?_
  have hP := z_keepP hP hk9
  have hS := z_keepS hS hz9 hk9
  refine lv_astore (lv' := [(5, .ref (q9)), (0, .ref (ad 0)), (1, .int (iZ (a))), (2, .int (iZ (b))), (3, .int (iZ (c9))), (4, .ref (ad 33))]) hx hb d_L_mean_14 hl (by decide) rfl (fun ls hl => ?_)
  refine lv_iconst (v := iZ ((1 : Nat) : Int)) hx hb d_L_mean_16 (by decide) ?_
  exact z_iret Z hP hS d_L_mean_17 wdL_map ⟨rfl, rfl⟩

set_option maxHeartbeats 4000000 in
set_option maxRecDepth 100000 in
theorem k_L_meanx2 {l : Launch} {D : va_G} (hl0 : l.stackTraces = false) {ad : Nat → Nat} {cI cZ cL : ClassId} {J : SJ} {rd : Nat → Int} {pr : Nat → Nat} {G : SH} {K : SK} {M : SM} {ov : Nat → Int64} (hI : JI J) {sh : Nat} {b c9 : Int} (hsh : sh < 4) (h : z32 b ∧ (b < 0 ∨ 3 ≤ b)) : zMW l D (tysW cI cZ cL) y_L_mean w_L_mean 10 164 [.ref (ad 0), .int (iZ ((sh : Nat) : Int)), .int (iZ (b)), .int (iZ (c9)), .ref (ad 33)] (wdC ad cI cZ cL J rd pr G K (wdM ad cI cZ cL J rd pr M ov)) (fun r w => r = iZ ((1 : Nat) : Int) ∧ w = wdC ad cI cZ cL J rd pr G K (wdM ad cI cZ cL J rd pr M ov)) := by
  refine z_ofW (by decide) (Nat.le_of_ble_eq_true rfl) ?_
  intro p e s m below meth c A ls Z htab hP hK hD hS hA hT hSt hl
  obtain ⟨hx, hb, hr, hml, hown, hts, hE, hlocks⟩ := id Z
  have hl : lv_has ls 6 [(0, .ref (ad 0)), (1, .int (iZ ((sh : Nat) : Int))), (2, .int (iZ (b))), (3, .int (iZ (c9))), (4, .ref (ad 33))] := hl
  refine lv_aload hx hb d_L_mean_0 (lv_at hl 4 rfl) ?_
  refine lv_iconst (v := iZ ((0 : Nat) : Int)) hx hb d_L_mean_2 (by decide) ?_
  refine lv_aload_n hx hb d_L_mean_3 rfl (lv_at hl 0 rfl) ?_
  refine lv_iload_n hx hb d_L_mean_4 rfl (lv_at hl 1 rfl) ?_
  refine lv_iload_n hx hb d_L_mean_5 rfl (lv_at hl 2 rfl) ?_
  refine lv_iload_n hx hb d_L_mean_6 rfl (lv_at hl 3 rfl) ?_
  refine z_xV (As := [.int (iZ ((sh : Nat) : Int)), .int (iZ (b)), .int (iZ (c9))]) (rest := [.int (iZ ((0 : Nat) : Int)), .ref (ad 33)]) Z (x_D_mean2 hl0 hI (sh := sh) (b := b) (c9 := c9) hsh h) ⟨ml_L_65, im_D_mean, se_D_mean, ini_D, co_D_mean⟩ zd_D_mean ⟨Nat.le_of_ble_eq_true rfl, Nat.le_of_ble_eq_true rfl⟩ hP hK hT hSt (ci := 0) (q0 := 0) rfl rfl rfl hl.1 rfl (Nat.le_of_ble_eq_true rfl) d_L_mean_7 ⟨Nat.le_of_ble_eq_true rfl, Nat.le_of_ble_eq_true rfl⟩ (fun q9 ce9 H9 hz9 hk9 hc9 hv9 hcl9 => ?_)
  refine z_xk1 Z htab ⟨by decide, by decide⟩ (by decide) kl_L_13 ca_IndexOutOfBoundsException hc9 hv9 hcl9 ?_
  have hP := z_keepP hP hk9
  have hS := z_keepS hS hz9 hk9
  refine lv_astore (lv' := [(5, .ref (q9)), (0, .ref (ad 0)), (1, .int (iZ ((sh : Nat) : Int))), (2, .int (iZ (b))), (3, .int (iZ (c9))), (4, .ref (ad 33))]) hx hb d_L_mean_14 hl (by decide) rfl (fun ls hl => ?_)
  refine lv_iconst (v := iZ ((1 : Nat) : Int)) hx hb d_L_mean_16 (by decide) ?_
  exact z_iret Z hP hS d_L_mean_17 wdL_map ⟨rfl, rfl⟩

set_option maxHeartbeats 4000000 in
set_option maxRecDepth 100000 in
theorem k_L_meanx3 {l : Launch} {D : va_G} (hl0 : l.stackTraces = false) {ad : Nat → Nat} {cI cZ cL : ClassId} {J : SJ} {rd : Nat → Int} {pr : Nat → Nat} {G : SH} {K : SK} {M : SM} {ov : Nat → Int64} (hI : JI J) {sh kd : Nat} {c9 : Int} (hsh : sh < 4) (hkd : kd < 3) (h : z32 c9 ∧ (c9 < 0 ∨ 2 ≤ c9)) : zMW l D (tysW cI cZ cL) y_L_mean w_L_mean 10 164 [.ref (ad 0), .int (iZ ((sh : Nat) : Int)), .int (iZ ((kd : Nat) : Int)), .int (iZ (c9)), .ref (ad 33)] (wdC ad cI cZ cL J rd pr G K (wdM ad cI cZ cL J rd pr M ov)) (fun r w => r = iZ ((1 : Nat) : Int) ∧ w = wdC ad cI cZ cL J rd pr G K (wdM ad cI cZ cL J rd pr M ov)) := by
  refine z_ofW (by decide) (Nat.le_of_ble_eq_true rfl) ?_
  intro p e s m below meth c A ls Z htab hP hK hD hS hA hT hSt hl
  obtain ⟨hx, hb, hr, hml, hown, hts, hE, hlocks⟩ := id Z
  have hl : lv_has ls 6 [(0, .ref (ad 0)), (1, .int (iZ ((sh : Nat) : Int))), (2, .int (iZ ((kd : Nat) : Int))), (3, .int (iZ (c9))), (4, .ref (ad 33))] := hl
  refine lv_aload hx hb d_L_mean_0 (lv_at hl 4 rfl) ?_
  refine lv_iconst (v := iZ ((0 : Nat) : Int)) hx hb d_L_mean_2 (by decide) ?_
  refine lv_aload_n hx hb d_L_mean_3 rfl (lv_at hl 0 rfl) ?_
  refine lv_iload_n hx hb d_L_mean_4 rfl (lv_at hl 1 rfl) ?_
  refine lv_iload_n hx hb d_L_mean_5 rfl (lv_at hl 2 rfl) ?_
  refine lv_iload_n hx hb d_L_mean_6 rfl (lv_at hl 3 rfl) ?_
  refine z_xV (As := [.int (iZ ((sh : Nat) : Int)), .int (iZ ((kd : Nat) : Int)), .int (iZ (c9))]) (rest := [.int (iZ ((0 : Nat) : Int)), .ref (ad 33)]) Z (x_D_mean3 hl0 hI (sh := sh) (kd := kd) (c9 := c9) hsh hkd h) ⟨ml_L_65, im_D_mean, se_D_mean, ini_D, co_D_mean⟩ zd_D_mean ⟨Nat.le_of_ble_eq_true rfl, Nat.le_of_ble_eq_true rfl⟩ hP hK hT hSt (ci := 0) (q0 := 0) rfl rfl rfl hl.1 rfl (Nat.le_of_ble_eq_true rfl) d_L_mean_7 ⟨Nat.le_of_ble_eq_true rfl, Nat.le_of_ble_eq_true rfl⟩ (fun q9 ce9 H9 hz9 hk9 hc9 hv9 hcl9 => ?_)
  refine z_xk1 Z htab ⟨by decide, by decide⟩ (by decide) kl_L_13 ca_IndexOutOfBoundsException hc9 hv9 hcl9 ?_
  have hP := z_keepP hP hk9
  have hS := z_keepS hS hz9 hk9
  refine lv_astore (lv' := [(5, .ref (q9)), (0, .ref (ad 0)), (1, .int (iZ ((sh : Nat) : Int))), (2, .int (iZ ((kd : Nat) : Int))), (3, .int (iZ (c9))), (4, .ref (ad 33))]) hx hb d_L_mean_14 hl (by decide) rfl (fun ls hl => ?_)
  refine lv_iconst (v := iZ ((1 : Nat) : Int)) hx hb d_L_mean_16 (by decide) ?_
  exact z_iret Z hP hS d_L_mean_17 wdL_map ⟨rfl, rfl⟩

set_option maxHeartbeats 4000000 in
set_option maxRecDepth 100000 in
theorem k_L_mean0 {l : Launch} {D : va_G} {ad : Nat → Nat} {cI cZ cL : ClassId} {J : SJ} {rd : Nat → Int} {pr : Nat → Nat} {G : SH} {K : SK} {M : SM} {ov : Nat → Int64} (hI : JI J) {sh kd pt : Nat} (hsh : sh < 4) (hkd : kd < 3) (hpt : pt < 2) : zMW l D (tysW cI cZ cL) y_L_mean w_L_mean 10 164 [.ref (ad 0), .int (iZ ((sh : Nat) : Int)), .int (iZ ((kd : Nat) : Int)), .int (iZ ((pt : Nat) : Int)), .ref (ad 33)] (wdC ad cI cZ cL J rd pr G K (wdM ad cI cZ cL J rd pr M ov)) (fun r w => r = iZ ((0 : Nat) : Int) ∧ w = wdC ad cI cZ cL J rd pr G K (wdM ad cI cZ cL J rd pr M (oU ov (lZ (sTP (sSO J sh kd (jk J)) (sKO J sh kd (jk J)) pt))))) := by
  refine z_ofW (by decide) (Nat.le_of_ble_eq_true rfl) ?_
  intro p e s m below meth c A ls Z htab hP hK hD hS hA hT hSt hl
  obtain ⟨hx, hb, hr, hml, hown, hts, hE, hlocks⟩ := id Z
  have hl : lv_has ls 6 [(0, .ref (ad 0)), (1, .int (iZ ((sh : Nat) : Int))), (2, .int (iZ ((kd : Nat) : Int))), (3, .int (iZ ((pt : Nat) : Int))), (4, .ref (ad 33))] := hl
  suffices K9 : ∀ (H : Heap) (locs : List Loc), va_P D classes (wdC ad cI cZ cL J rd pr G K (wdM ad cI cZ cL J rd pr M ov)) H → va_D A (wdC ad cI cZ cL J rd pr G K (wdM ad cI cZ cL J rd pr M ov)) → va_S A s.heap H locs → W p l e (zRx 10 164) s m ([.ref (ad 0), .int (iZ ((sh : Nat) : Int)), .int (iZ ((kd : Nat) : Int)), .int (iZ ((pt : Nat) : Int)), .ref (ad 33)] : List Value).toArray below meth c H locs 0 0 (MQ below (va_Qi (fun r w => r = iZ ((0 : Nat) : Int) ∧ w = wdC ad cI cZ cL J rd pr G K (wdM ad cI cZ cL J rd pr M (oU ov (lZ (sTP (sSO J sh kd (jk J)) (sKO J sh kd (jk J)) pt))))) (zB9 D classes (wdC ad cI cZ cL J rd pr G K (wdM ad cI cZ cL J rd pr M ov))) A) ([.ref (ad 0), .int (iZ ((sh : Nat) : Int)), .int (iZ ((kd : Nat) : Int)), .int (iZ ((pt : Nat) : Int)), .ref (ad 33)] : List Value).toArray s 1 6 A) (F0 m 0 ls []) from K9 s.heap [] hP hD hS
  clear hP hD hS
  intro H locs hP hD hS
  refine lv_aload hx hb d_L_mean_0 (lv_at hl 4 rfl) ?_
  refine lv_iconst (v := iZ ((0 : Nat) : Int)) hx hb d_L_mean_2 (by decide) ?_
  refine lv_aload_n hx hb d_L_mean_3 rfl (lv_at hl 0 rfl) ?_
  refine lv_iload_n hx hb d_L_mean_4 rfl (lv_at hl 1 rfl) ?_
  refine lv_iload_n hx hb d_L_mean_5 rfl (lv_at hl 2 rfl) ?_
  refine lv_iload_n hx hb d_L_mean_6 rfl (lv_at hl 3 rfl) ?_
  refine z_callVR (As := [.int (iZ ((sh : Nat) : Int)), .int (iZ ((kd : Nat) : Int)), .int (iZ ((pt : Nat) : Int))]) (rest := [.int (iZ ((0 : Nat) : Int)), .ref (ad 33)]) zTB Z (k_D_mean hI hsh hkd hpt) ⟨ml_L_65, im_D_mean, se_D_mean, ini_D, co_D_mean⟩ zd_D_mean ⟨Nat.le_of_ble_eq_true rfl, Nat.le_of_ble_eq_true rfl⟩ hP hK (ci := 0) (q0 := 0) rfl rfl rfl hl.1 rfl (Nat.le_of_ble_eq_true rfl) d_L_mean_7 ⟨Nat.zero_le _, Nat.zero_le _⟩ ?_
  refine W.eq (g2 := F0 m 10 ls [.long (lZ (sTP (sSO J sh kd (jk J)) (sKO J sh kd (jk J)) pt)), .int (iZ ((0 : Nat) : Int)), .ref (ad 33)]) rfl ?_
  refine z_ost (x := lZ (sTP (sSO J sh kd (jk J)) (sKO J sh kd (jk J)) pt)) hx hb hK hP hD hS 33 2 rfl rfl d_L_mean_10 (fun H locs hP hD hS => ?_)
  have hP : va_P D classes (wdC ad cI cZ cL J rd pr G K (wdM ad cI cZ cL J rd pr M (oU ov (lZ (sTP (sSO J sh kd (jk J)) (sKO J sh kd (jk J)) pt))))) H := hP
  have hD : va_D A (wdC ad cI cZ cL J rd pr G K (wdM ad cI cZ cL J rd pr M (oU ov (lZ (sTP (sSO J sh kd (jk J)) (sKO J sh kd (jk J)) pt))))) := hD
  refine lv_goto (tgt := 18) hx hb d_L_mean_11 (by decide) ?_
  refine lv_iconst (v := iZ ((0 : Nat) : Int)) hx hb d_L_mean_18 (by decide) ?_
  refine W.widen (k := 1) (n := 6) (by omega) (by omega) ?_
  exact z_iret Z hP hS d_L_mean_19 wdL_map (⟨rfl, rfl⟩)

set_option maxHeartbeats 4000000 in
set_option maxRecDepth 100000 in
theorem k_L_weightx1 {l : Launch} {D : va_G} (hl0 : l.stackTraces = false) {ad : Nat → Nat} {cI cZ cL : ClassId} {J : SJ} {rd : Nat → Int} {pr : Nat → Nat} {G : SH} {K : SK} {M : SM} {ov : Nat → Int64} (hI : JI J) {a b c9 : Int} (h : z32 a ∧ (a < 0 ∨ 4 ≤ a)) : zMW l D (tysW cI cZ cL) y_L_weight w_L_weight 10 164 [.ref (ad 0), .int (iZ (a)), .int (iZ (b)), .int (iZ (c9)), .ref (ad 33)] (wdC ad cI cZ cL J rd pr G K (wdM ad cI cZ cL J rd pr M ov)) (fun r w => r = iZ ((1 : Nat) : Int) ∧ w = wdC ad cI cZ cL J rd pr G K (wdM ad cI cZ cL J rd pr M ov)) := by
  refine z_ofW (by decide) (Nat.le_of_ble_eq_true rfl) ?_
  intro p e s m below meth c A ls Z htab hP hK hD hS hA hT hSt hl
  obtain ⟨hx, hb, hr, hml, hown, hts, hE, hlocks⟩ := id Z
  have hl : lv_has ls 6 [(0, .ref (ad 0)), (1, .int (iZ (a))), (2, .int (iZ (b))), (3, .int (iZ (c9))), (4, .ref (ad 33))] := hl
  refine lv_aload hx hb d_L_weight_0 (lv_at hl 4 rfl) ?_
  refine lv_iconst (v := iZ ((0 : Nat) : Int)) hx hb d_L_weight_2 (by decide) ?_
  refine lv_aload_n hx hb d_L_weight_3 rfl (lv_at hl 0 rfl) ?_
  refine lv_iload_n hx hb d_L_weight_4 rfl (lv_at hl 1 rfl) ?_
  refine lv_iload_n hx hb d_L_weight_5 rfl (lv_at hl 2 rfl) ?_
  refine lv_iload_n hx hb d_L_weight_6 rfl (lv_at hl 3 rfl) ?_
  refine z_xV (As := [.int (iZ (a)), .int (iZ (b)), .int (iZ (c9))]) (rest := [.int (iZ ((0 : Nat) : Int)), .ref (ad 33)]) Z (x_D_weight1 hl0 hI (a := a) (b := b) (c9 := c9) h) ⟨ml_L_69, im_D_weight, se_D_weight, ini_D, co_D_weight⟩ zd_D_weight ⟨Nat.le_of_ble_eq_true rfl, Nat.le_of_ble_eq_true rfl⟩ hP hK hT hSt (ci := 0) (q0 := 0) rfl rfl rfl hl.1 rfl (Nat.le_of_ble_eq_true rfl) d_L_weight_7 ⟨Nat.le_of_ble_eq_true rfl, Nat.le_of_ble_eq_true rfl⟩ (fun q9 ce9 H9 hz9 hk9 hc9 hv9 hcl9 => ?_)
  refine z_xk1 Z htab ⟨by decide, by decide⟩ (by decide) kl_L_13 ca_IndexOutOfBoundsException hc9 hv9 hcl9 ?_
  have hP := z_keepP hP hk9
  have hS := z_keepS hS hz9 hk9
  refine lv_astore (lv' := [(5, .ref (q9)), (0, .ref (ad 0)), (1, .int (iZ (a))), (2, .int (iZ (b))), (3, .int (iZ (c9))), (4, .ref (ad 33))]) hx hb d_L_weight_14 hl (by decide) rfl (fun ls hl => ?_)
  refine lv_iconst (v := iZ ((1 : Nat) : Int)) hx hb d_L_weight_16 (by decide) ?_
  exact z_iret Z hP hS d_L_weight_17 wdL_map ⟨rfl, rfl⟩

set_option maxHeartbeats 4000000 in
set_option maxRecDepth 100000 in
theorem k_L_weightx2 {l : Launch} {D : va_G} (hl0 : l.stackTraces = false) {ad : Nat → Nat} {cI cZ cL : ClassId} {J : SJ} {rd : Nat → Int} {pr : Nat → Nat} {G : SH} {K : SK} {M : SM} {ov : Nat → Int64} (hI : JI J) {sh : Nat} {b c9 : Int} (hsh : sh < 4) (h : z32 b ∧ (b < 0 ∨ 3 ≤ b)) : zMW l D (tysW cI cZ cL) y_L_weight w_L_weight 10 164 [.ref (ad 0), .int (iZ ((sh : Nat) : Int)), .int (iZ (b)), .int (iZ (c9)), .ref (ad 33)] (wdC ad cI cZ cL J rd pr G K (wdM ad cI cZ cL J rd pr M ov)) (fun r w => r = iZ ((1 : Nat) : Int) ∧ w = wdC ad cI cZ cL J rd pr G K (wdM ad cI cZ cL J rd pr M ov)) := by
  refine z_ofW (by decide) (Nat.le_of_ble_eq_true rfl) ?_
  intro p e s m below meth c A ls Z htab hP hK hD hS hA hT hSt hl
  obtain ⟨hx, hb, hr, hml, hown, hts, hE, hlocks⟩ := id Z
  have hl : lv_has ls 6 [(0, .ref (ad 0)), (1, .int (iZ ((sh : Nat) : Int))), (2, .int (iZ (b))), (3, .int (iZ (c9))), (4, .ref (ad 33))] := hl
  refine lv_aload hx hb d_L_weight_0 (lv_at hl 4 rfl) ?_
  refine lv_iconst (v := iZ ((0 : Nat) : Int)) hx hb d_L_weight_2 (by decide) ?_
  refine lv_aload_n hx hb d_L_weight_3 rfl (lv_at hl 0 rfl) ?_
  refine lv_iload_n hx hb d_L_weight_4 rfl (lv_at hl 1 rfl) ?_
  refine lv_iload_n hx hb d_L_weight_5 rfl (lv_at hl 2 rfl) ?_
  refine lv_iload_n hx hb d_L_weight_6 rfl (lv_at hl 3 rfl) ?_
  refine z_xV (As := [.int (iZ ((sh : Nat) : Int)), .int (iZ (b)), .int (iZ (c9))]) (rest := [.int (iZ ((0 : Nat) : Int)), .ref (ad 33)]) Z (x_D_weight2 hl0 hI (sh := sh) (b := b) (c9 := c9) hsh h) ⟨ml_L_69, im_D_weight, se_D_weight, ini_D, co_D_weight⟩ zd_D_weight ⟨Nat.le_of_ble_eq_true rfl, Nat.le_of_ble_eq_true rfl⟩ hP hK hT hSt (ci := 0) (q0 := 0) rfl rfl rfl hl.1 rfl (Nat.le_of_ble_eq_true rfl) d_L_weight_7 ⟨Nat.le_of_ble_eq_true rfl, Nat.le_of_ble_eq_true rfl⟩ (fun q9 ce9 H9 hz9 hk9 hc9 hv9 hcl9 => ?_)
  refine z_xk1 Z htab ⟨by decide, by decide⟩ (by decide) kl_L_13 ca_IndexOutOfBoundsException hc9 hv9 hcl9 ?_
  have hP := z_keepP hP hk9
  have hS := z_keepS hS hz9 hk9
  refine lv_astore (lv' := [(5, .ref (q9)), (0, .ref (ad 0)), (1, .int (iZ ((sh : Nat) : Int))), (2, .int (iZ (b))), (3, .int (iZ (c9))), (4, .ref (ad 33))]) hx hb d_L_weight_14 hl (by decide) rfl (fun ls hl => ?_)
  refine lv_iconst (v := iZ ((1 : Nat) : Int)) hx hb d_L_weight_16 (by decide) ?_
  exact z_iret Z hP hS d_L_weight_17 wdL_map ⟨rfl, rfl⟩

set_option maxHeartbeats 4000000 in
set_option maxRecDepth 100000 in
theorem k_L_weightx3 {l : Launch} {D : va_G} (hl0 : l.stackTraces = false) {ad : Nat → Nat} {cI cZ cL : ClassId} {J : SJ} {rd : Nat → Int} {pr : Nat → Nat} {G : SH} {K : SK} {M : SM} {ov : Nat → Int64} (hI : JI J) {sh kd : Nat} {c9 : Int} (hsh : sh < 4) (hkd : kd < 3) (h : z32 c9 ∧ (c9 < 0 ∨ 2 ≤ c9)) : zMW l D (tysW cI cZ cL) y_L_weight w_L_weight 10 164 [.ref (ad 0), .int (iZ ((sh : Nat) : Int)), .int (iZ ((kd : Nat) : Int)), .int (iZ (c9)), .ref (ad 33)] (wdC ad cI cZ cL J rd pr G K (wdM ad cI cZ cL J rd pr M ov)) (fun r w => r = iZ ((1 : Nat) : Int) ∧ w = wdC ad cI cZ cL J rd pr G K (wdM ad cI cZ cL J rd pr M ov)) := by
  refine z_ofW (by decide) (Nat.le_of_ble_eq_true rfl) ?_
  intro p e s m below meth c A ls Z htab hP hK hD hS hA hT hSt hl
  obtain ⟨hx, hb, hr, hml, hown, hts, hE, hlocks⟩ := id Z
  have hl : lv_has ls 6 [(0, .ref (ad 0)), (1, .int (iZ ((sh : Nat) : Int))), (2, .int (iZ ((kd : Nat) : Int))), (3, .int (iZ (c9))), (4, .ref (ad 33))] := hl
  refine lv_aload hx hb d_L_weight_0 (lv_at hl 4 rfl) ?_
  refine lv_iconst (v := iZ ((0 : Nat) : Int)) hx hb d_L_weight_2 (by decide) ?_
  refine lv_aload_n hx hb d_L_weight_3 rfl (lv_at hl 0 rfl) ?_
  refine lv_iload_n hx hb d_L_weight_4 rfl (lv_at hl 1 rfl) ?_
  refine lv_iload_n hx hb d_L_weight_5 rfl (lv_at hl 2 rfl) ?_
  refine lv_iload_n hx hb d_L_weight_6 rfl (lv_at hl 3 rfl) ?_
  refine z_xV (As := [.int (iZ ((sh : Nat) : Int)), .int (iZ ((kd : Nat) : Int)), .int (iZ (c9))]) (rest := [.int (iZ ((0 : Nat) : Int)), .ref (ad 33)]) Z (x_D_weight3 hl0 hI (sh := sh) (kd := kd) (c9 := c9) hsh hkd h) ⟨ml_L_69, im_D_weight, se_D_weight, ini_D, co_D_weight⟩ zd_D_weight ⟨Nat.le_of_ble_eq_true rfl, Nat.le_of_ble_eq_true rfl⟩ hP hK hT hSt (ci := 0) (q0 := 0) rfl rfl rfl hl.1 rfl (Nat.le_of_ble_eq_true rfl) d_L_weight_7 ⟨Nat.le_of_ble_eq_true rfl, Nat.le_of_ble_eq_true rfl⟩ (fun q9 ce9 H9 hz9 hk9 hc9 hv9 hcl9 => ?_)
  refine z_xk1 Z htab ⟨by decide, by decide⟩ (by decide) kl_L_13 ca_IndexOutOfBoundsException hc9 hv9 hcl9 ?_
  have hP := z_keepP hP hk9
  have hS := z_keepS hS hz9 hk9
  refine lv_astore (lv' := [(5, .ref (q9)), (0, .ref (ad 0)), (1, .int (iZ ((sh : Nat) : Int))), (2, .int (iZ ((kd : Nat) : Int))), (3, .int (iZ (c9))), (4, .ref (ad 33))]) hx hb d_L_weight_14 hl (by decide) rfl (fun ls hl => ?_)
  refine lv_iconst (v := iZ ((1 : Nat) : Int)) hx hb d_L_weight_16 (by decide) ?_
  exact z_iret Z hP hS d_L_weight_17 wdL_map ⟨rfl, rfl⟩

set_option maxHeartbeats 4000000 in
set_option maxRecDepth 100000 in
theorem k_L_weight0 {l : Launch} {D : va_G} {ad : Nat → Nat} {cI cZ cL : ClassId} {J : SJ} {rd : Nat → Int} {pr : Nat → Nat} {G : SH} {K : SK} {M : SM} {ov : Nat → Int64} (hI : JI J) {sh kd pt : Nat} (hsh : sh < 4) (hkd : kd < 3) (hpt : pt < 2) : zMW l D (tysW cI cZ cL) y_L_weight w_L_weight 10 164 [.ref (ad 0), .int (iZ ((sh : Nat) : Int)), .int (iZ ((kd : Nat) : Int)), .int (iZ ((pt : Nat) : Int)), .ref (ad 33)] (wdC ad cI cZ cL J rd pr G K (wdM ad cI cZ cL J rd pr M ov)) (fun r w => r = iZ ((0 : Nat) : Int) ∧ w = wdC ad cI cZ cL J rd pr G K (wdM ad cI cZ cL J rd pr M (oU ov (lZ (sTP ((sKO J sh kd (jk J) : Nat) : Int) (sKO J 4 kd (jk J)) pt))))) := by
  refine z_ofW (by decide) (Nat.le_of_ble_eq_true rfl) ?_
  intro p e s m below meth c A ls Z htab hP hK hD hS hA hT hSt hl
  obtain ⟨hx, hb, hr, hml, hown, hts, hE, hlocks⟩ := id Z
  have hl : lv_has ls 6 [(0, .ref (ad 0)), (1, .int (iZ ((sh : Nat) : Int))), (2, .int (iZ ((kd : Nat) : Int))), (3, .int (iZ ((pt : Nat) : Int))), (4, .ref (ad 33))] := hl
  suffices K9 : ∀ (H : Heap) (locs : List Loc), va_P D classes (wdC ad cI cZ cL J rd pr G K (wdM ad cI cZ cL J rd pr M ov)) H → va_D A (wdC ad cI cZ cL J rd pr G K (wdM ad cI cZ cL J rd pr M ov)) → va_S A s.heap H locs → W p l e (zRx 10 164) s m ([.ref (ad 0), .int (iZ ((sh : Nat) : Int)), .int (iZ ((kd : Nat) : Int)), .int (iZ ((pt : Nat) : Int)), .ref (ad 33)] : List Value).toArray below meth c H locs 0 0 (MQ below (va_Qi (fun r w => r = iZ ((0 : Nat) : Int) ∧ w = wdC ad cI cZ cL J rd pr G K (wdM ad cI cZ cL J rd pr M (oU ov (lZ (sTP ((sKO J sh kd (jk J) : Nat) : Int) (sKO J 4 kd (jk J)) pt))))) (zB9 D classes (wdC ad cI cZ cL J rd pr G K (wdM ad cI cZ cL J rd pr M ov))) A) ([.ref (ad 0), .int (iZ ((sh : Nat) : Int)), .int (iZ ((kd : Nat) : Int)), .int (iZ ((pt : Nat) : Int)), .ref (ad 33)] : List Value).toArray s 1 6 A) (F0 m 0 ls []) from K9 s.heap [] hP hD hS
  clear hP hD hS
  intro H locs hP hD hS
  refine lv_aload hx hb d_L_weight_0 (lv_at hl 4 rfl) ?_
  refine lv_iconst (v := iZ ((0 : Nat) : Int)) hx hb d_L_weight_2 (by decide) ?_
  refine lv_aload_n hx hb d_L_weight_3 rfl (lv_at hl 0 rfl) ?_
  refine lv_iload_n hx hb d_L_weight_4 rfl (lv_at hl 1 rfl) ?_
  refine lv_iload_n hx hb d_L_weight_5 rfl (lv_at hl 2 rfl) ?_
  refine lv_iload_n hx hb d_L_weight_6 rfl (lv_at hl 3 rfl) ?_
  refine z_callVR (As := [.int (iZ ((sh : Nat) : Int)), .int (iZ ((kd : Nat) : Int)), .int (iZ ((pt : Nat) : Int))]) (rest := [.int (iZ ((0 : Nat) : Int)), .ref (ad 33)]) zTB Z (k_D_weight hI hsh hkd hpt) ⟨ml_L_69, im_D_weight, se_D_weight, ini_D, co_D_weight⟩ zd_D_weight ⟨Nat.le_of_ble_eq_true rfl, Nat.le_of_ble_eq_true rfl⟩ hP hK (ci := 0) (q0 := 0) rfl rfl rfl hl.1 rfl (Nat.le_of_ble_eq_true rfl) d_L_weight_7 ⟨Nat.zero_le _, Nat.zero_le _⟩ ?_
  refine W.eq (g2 := F0 m 10 ls [.long (lZ (sTP ((sKO J sh kd (jk J) : Nat) : Int) (sKO J 4 kd (jk J)) pt)), .int (iZ ((0 : Nat) : Int)), .ref (ad 33)]) rfl ?_
  refine z_ost (x := lZ (sTP ((sKO J sh kd (jk J) : Nat) : Int) (sKO J 4 kd (jk J)) pt)) hx hb hK hP hD hS 33 2 rfl rfl d_L_weight_10 (fun H locs hP hD hS => ?_)
  have hP : va_P D classes (wdC ad cI cZ cL J rd pr G K (wdM ad cI cZ cL J rd pr M (oU ov (lZ (sTP ((sKO J sh kd (jk J) : Nat) : Int) (sKO J 4 kd (jk J)) pt))))) H := hP
  have hD : va_D A (wdC ad cI cZ cL J rd pr G K (wdM ad cI cZ cL J rd pr M (oU ov (lZ (sTP ((sKO J sh kd (jk J) : Nat) : Int) (sKO J 4 kd (jk J)) pt))))) := hD
  refine lv_goto (tgt := 18) hx hb d_L_weight_11 (by decide) ?_
  refine lv_iconst (v := iZ ((0 : Nat) : Int)) hx hb d_L_weight_18 (by decide) ?_
  refine W.widen (k := 1) (n := 6) (by omega) (by omega) ?_
  exact z_iret Z hP hS d_L_weight_19 wdL_map (⟨rfl, rfl⟩)

set_option maxHeartbeats 4000000 in
set_option maxRecDepth 100000 in
theorem k_L_readerx1 {l : Launch} {D : va_G} (hl0 : l.stackTraces = false) {ad : Nat → Nat} {cI cZ cL : ClassId} {J : SJ} {rd : Nat → Int} {pr : Nat → Nat} {G : SH} {K : SK} {M : SM} {ov : Nat → Int64} (hI : JI J) {a b c9 : Int} (h : z32 a ∧ (a < 0 ∨ ((jn J : Nat) : Int) ≤ a)) : zMW l D (tysW cI cZ cL) y_L_reader w_L_reader 10 165 [.ref (ad 0), .int (iZ (a)), .int (iZ (b)), .int (iZ (c9)), .ref (ad 33)] (wdC ad cI cZ cL J rd pr G K (wdM ad cI cZ cL J rd pr M ov)) (fun r w => r = iZ ((1 : Nat) : Int) ∧ w = wdC ad cI cZ cL J rd pr G K (wdM ad cI cZ cL J rd pr M ov)) := by
  refine z_ofW (by decide) (Nat.le_of_ble_eq_true rfl) ?_
  intro p e s m below meth c A ls Z htab hP hK hD hS hA hT hSt hl
  obtain ⟨hx, hb, hr, hml, hown, hts, hE, hlocks⟩ := id Z
  have hl : lv_has ls 6 [(0, .ref (ad 0)), (1, .int (iZ (a))), (2, .int (iZ (b))), (3, .int (iZ (c9))), (4, .ref (ad 33))] := hl
  refine lv_aload hx hb d_L_reader_0 (lv_at hl 4 rfl) ?_
  refine lv_iconst (v := iZ ((0 : Nat) : Int)) hx hb d_L_reader_2 (by decide) ?_
  refine lv_aload_n hx hb d_L_reader_3 rfl (lv_at hl 0 rfl) ?_
  refine lv_iload_n hx hb d_L_reader_4 rfl (lv_at hl 1 rfl) ?_
  refine lv_iload_n hx hb d_L_reader_5 rfl (lv_at hl 2 rfl) ?_
  refine lv_iload_n hx hb d_L_reader_6 rfl (lv_at hl 3 rfl) ?_
  refine z_xV (As := [.int (iZ (a)), .int (iZ (b)), .int (iZ (c9))]) (rest := [.int (iZ ((0 : Nat) : Int)), .ref (ad 33)]) Z (x_D_reader1 hl0 hI (a := a) (b := b) (c9 := c9) h) ⟨ml_L_75, im_D_reader, se_D_reader, ini_D, co_D_reader⟩ zd_D_reader ⟨Nat.le_of_ble_eq_true rfl, Nat.le_of_ble_eq_true rfl⟩ hP hK hT hSt (ci := 0) (q0 := 0) rfl rfl rfl hl.1 rfl (Nat.le_of_ble_eq_true rfl) d_L_reader_7 ⟨Nat.le_of_ble_eq_true rfl, Nat.le_of_ble_eq_true rfl⟩ (fun q9 ce9 H9 hz9 hk9 hc9 hv9 hcl9 => ?_)
  refine z_xk1 Z htab ⟨by decide, by decide⟩ (by decide) kl_L_13 ca_IndexOutOfBoundsException hc9 hv9 hcl9 ?_
  have hP := z_keepP hP hk9
  have hS := z_keepS hS hz9 hk9
  refine lv_astore (lv' := [(5, .ref (q9)), (0, .ref (ad 0)), (1, .int (iZ (a))), (2, .int (iZ (b))), (3, .int (iZ (c9))), (4, .ref (ad 33))]) hx hb d_L_reader_22 hl (by decide) rfl (fun ls hl => ?_)
  refine lv_iconst (v := iZ ((1 : Nat) : Int)) hx hb d_L_reader_24 (by decide) ?_
  exact z_iret Z hP hS d_L_reader_25 wdL_map ⟨rfl, rfl⟩

set_option maxHeartbeats 4000000 in
set_option maxRecDepth 100000 in
theorem k_L_readerx2 {l : Launch} {D : va_G} (hl0 : l.stackTraces = false) {ad : Nat → Nat} {cI cZ cL : ClassId} {J : SJ} {rd : Nat → Int} {pr : Nat → Nat} {G : SH} {K : SK} {M : SM} {ov : Nat → Int64} (hI : JI J) {h : Nat} {b c9 : Int} (hh : h < jn J) (h2 : z32 b ∧ (b < 0 ∨ 2 ≤ b)) : zMW l D (tysW cI cZ cL) y_L_reader w_L_reader 10 165 [.ref (ad 0), .int (iZ ((h : Nat) : Int)), .int (iZ (b)), .int (iZ (c9)), .ref (ad 33)] (wdC ad cI cZ cL J rd pr G K (wdM ad cI cZ cL J rd pr M ov)) (fun r w => r = iZ ((1 : Nat) : Int) ∧ w = wdC ad cI cZ cL J rd pr G K (wdM ad cI cZ cL J rd pr M ov)) := by
  refine z_ofW (by decide) (Nat.le_of_ble_eq_true rfl) ?_
  intro p e s m below meth c A ls Z htab hP hK hD hS hA hT hSt hl
  obtain ⟨hx, hb, hr, hml, hown, hts, hE, hlocks⟩ := id Z
  have hl : lv_has ls 6 [(0, .ref (ad 0)), (1, .int (iZ ((h : Nat) : Int))), (2, .int (iZ (b))), (3, .int (iZ (c9))), (4, .ref (ad 33))] := hl
  refine lv_aload hx hb d_L_reader_0 (lv_at hl 4 rfl) ?_
  refine lv_iconst (v := iZ ((0 : Nat) : Int)) hx hb d_L_reader_2 (by decide) ?_
  refine lv_aload_n hx hb d_L_reader_3 rfl (lv_at hl 0 rfl) ?_
  refine lv_iload_n hx hb d_L_reader_4 rfl (lv_at hl 1 rfl) ?_
  refine lv_iload_n hx hb d_L_reader_5 rfl (lv_at hl 2 rfl) ?_
  refine lv_iload_n hx hb d_L_reader_6 rfl (lv_at hl 3 rfl) ?_
  refine z_xV (As := [.int (iZ ((h : Nat) : Int)), .int (iZ (b)), .int (iZ (c9))]) (rest := [.int (iZ ((0 : Nat) : Int)), .ref (ad 33)]) Z (x_D_reader2 hl0 hI (h := h) (b := b) (c9 := c9) hh h2) ⟨ml_L_75, im_D_reader, se_D_reader, ini_D, co_D_reader⟩ zd_D_reader ⟨Nat.le_of_ble_eq_true rfl, Nat.le_of_ble_eq_true rfl⟩ hP hK hT hSt (ci := 0) (q0 := 0) rfl rfl rfl hl.1 rfl (Nat.le_of_ble_eq_true rfl) d_L_reader_7 ⟨Nat.le_of_ble_eq_true rfl, Nat.le_of_ble_eq_true rfl⟩ (fun q9 ce9 H9 hz9 hk9 hc9 hv9 hcl9 => ?_)
  refine z_xk1 Z htab ⟨by decide, by decide⟩ (by decide) kl_L_13 ca_IndexOutOfBoundsException hc9 hv9 hcl9 ?_
  have hP := z_keepP hP hk9
  have hS := z_keepS hS hz9 hk9
  refine lv_astore (lv' := [(5, .ref (q9)), (0, .ref (ad 0)), (1, .int (iZ ((h : Nat) : Int))), (2, .int (iZ (b))), (3, .int (iZ (c9))), (4, .ref (ad 33))]) hx hb d_L_reader_22 hl (by decide) rfl (fun ls hl => ?_)
  refine lv_iconst (v := iZ ((1 : Nat) : Int)) hx hb d_L_reader_24 (by decide) ?_
  exact z_iret Z hP hS d_L_reader_25 wdL_map ⟨rfl, rfl⟩

set_option maxHeartbeats 4000000 in
set_option maxRecDepth 100000 in
theorem k_L_readerx3 {l : Launch} {D : va_G} (hl0 : l.stackTraces = false) {ad : Nat → Nat} {cI cZ cL : ClassId} {J : SJ} {rd : Nat → Int} {pr : Nat → Nat} {G : SH} {K : SK} {M : SM} {ov : Nat → Int64} (hI : JI J) {h rr : Nat} {c9 : Int} (hh : h < jn J) (hrr : rr < 2) (h2 : z32 c9 ∧ (c9 < 0 ∨ 100000 < c9)) : zMW l D (tysW cI cZ cL) y_L_reader w_L_reader 10 165 [.ref (ad 0), .int (iZ ((h : Nat) : Int)), .int (iZ ((rr : Nat) : Int)), .int (iZ (c9)), .ref (ad 33)] (wdC ad cI cZ cL J rd pr G K (wdM ad cI cZ cL J rd pr M ov)) (fun r w => r = iZ ((2 : Nat) : Int) ∧ w = wdC ad cI cZ cL J rd pr G K (wdM ad cI cZ cL J rd pr M ov)) := by
  refine z_ofW (by decide) (Nat.le_of_ble_eq_true rfl) ?_
  intro p e s m below meth c A ls Z htab hP hK hD hS hA hT hSt hl
  obtain ⟨hx, hb, hr, hml, hown, hts, hE, hlocks⟩ := id Z
  have hl : lv_has ls 6 [(0, .ref (ad 0)), (1, .int (iZ ((h : Nat) : Int))), (2, .int (iZ ((rr : Nat) : Int))), (3, .int (iZ (c9))), (4, .ref (ad 33))] := hl
  refine lv_aload hx hb d_L_reader_0 (lv_at hl 4 rfl) ?_
  refine lv_iconst (v := iZ ((0 : Nat) : Int)) hx hb d_L_reader_2 (by decide) ?_
  refine lv_aload_n hx hb d_L_reader_3 rfl (lv_at hl 0 rfl) ?_
  refine lv_iload_n hx hb d_L_reader_4 rfl (lv_at hl 1 rfl) ?_
  refine lv_iload_n hx hb d_L_reader_5 rfl (lv_at hl 2 rfl) ?_
  refine lv_iload_n hx hb d_L_reader_6 rfl (lv_at hl 3 rfl) ?_
  refine z_xV (As := [.int (iZ ((h : Nat) : Int)), .int (iZ ((rr : Nat) : Int)), .int (iZ (c9))]) (rest := [.int (iZ ((0 : Nat) : Int)), .ref (ad 33)]) Z (x_D_reader3 hl0 hI (h := h) (rr := rr) (c9 := c9) hh hrr h2) ⟨ml_L_75, im_D_reader, se_D_reader, ini_D, co_D_reader⟩ zd_D_reader ⟨Nat.le_of_ble_eq_true rfl, Nat.le_of_ble_eq_true rfl⟩ hP hK hT hSt (ci := 0) (q0 := 0) rfl rfl rfl hl.1 rfl (Nat.le_of_ble_eq_true rfl) d_L_reader_7 ⟨Nat.le_of_ble_eq_true rfl, Nat.le_of_ble_eq_true rfl⟩ (fun q9 ce9 H9 hz9 hk9 hc9 hv9 hcl9 => ?_)
  refine z_xk2 Z htab ⟨⟨by decide, by decide⟩, by decide, by decide⟩ ⟨by decide, by decide⟩ kl_L_13 nc_IllegalArgumentException_IndexOutOfBoundsException kl_L_21 ca_IllegalArgumentException hc9 hv9 hcl9 ?_
  have hP := z_keepP hP hk9
  have hS := z_keepS hS hz9 hk9
  refine lv_astore (lv' := [(5, .ref (q9)), (0, .ref (ad 0)), (1, .int (iZ ((h : Nat) : Int))), (2, .int (iZ ((rr : Nat) : Int))), (3, .int (iZ (c9))), (4, .ref (ad 33))]) hx hb d_L_reader_26 hl (by decide) rfl (fun ls hl => ?_)
  refine lv_iconst (v := iZ ((2 : Nat) : Int)) hx hb d_L_reader_28 (by decide) ?_
  exact z_iret Z hP hS d_L_reader_29 wdL_map ⟨rfl, rfl⟩

set_option maxHeartbeats 4000000 in
set_option maxRecDepth 100000 in
theorem k_L_reader0 {l : Launch} {D : va_G} {ad : Nat → Nat} {cI cZ cL : ClassId} {J : SJ} {rd : Nat → Int} {pr : Nat → Nat} {G : SH} {K : SK} {M : SM} {ov : Nat → Int64} (hI : JI J) {h rr v : Nat} (hR : RI rd) (hh : h < jn J) (hrr : rr < 2) (hv : v ≤ 100000) : zMW l D (tysW cI cZ cL) y_L_reader w_L_reader 10 165 [.ref (ad 0), .int (iZ ((h : Nat) : Int)), .int (iZ ((rr : Nat) : Int)), .int (iZ ((v : Nat) : Int)), .ref (ad 33)] (wdC ad cI cZ cL J rd pr G K (wdM ad cI cZ cL J rd pr M ov)) (fun r w => r = iZ ((0 : Nat) : Int) ∧ w = wdC ad cI cZ cL J (zu rd (h * 2 + rr) ((v : Nat) : Int)) pr G K (wdM ad cI cZ cL J rd pr M (oU ov (lZ (((if (sUn (zu rd (h * 2 + rr) ((v : Nat) : Int)) h) = true then 1 else 0 : Nat)) : Int))))) := by
  refine z_ofW (by decide) (Nat.le_of_ble_eq_true rfl) ?_
  intro p e s m below meth c A ls Z htab hP hK hD hS hA hT hSt hl
  obtain ⟨hx, hb, hr, hml, hown, hts, hE, hlocks⟩ := id Z
  have hl : lv_has ls 6 [(0, .ref (ad 0)), (1, .int (iZ ((h : Nat) : Int))), (2, .int (iZ ((rr : Nat) : Int))), (3, .int (iZ ((v : Nat) : Int))), (4, .ref (ad 33))] := hl
  suffices K9 : ∀ (H : Heap) (locs : List Loc), va_P D classes (wdC ad cI cZ cL J rd pr G K (wdM ad cI cZ cL J rd pr M ov)) H → va_D A (wdC ad cI cZ cL J rd pr G K (wdM ad cI cZ cL J rd pr M ov)) → va_S A s.heap H locs → W p l e (zRx 10 165) s m ([.ref (ad 0), .int (iZ ((h : Nat) : Int)), .int (iZ ((rr : Nat) : Int)), .int (iZ ((v : Nat) : Int)), .ref (ad 33)] : List Value).toArray below meth c H locs 0 0 (MQ below (va_Qi (fun r w => r = iZ ((0 : Nat) : Int) ∧ w = wdC ad cI cZ cL J (zu rd (h * 2 + rr) ((v : Nat) : Int)) pr G K (wdM ad cI cZ cL J rd pr M (oU ov (lZ (((if (sUn (zu rd (h * 2 + rr) ((v : Nat) : Int)) h) = true then 1 else 0 : Nat)) : Int))))) (zB9 D classes (wdC ad cI cZ cL J rd pr G K (wdM ad cI cZ cL J rd pr M ov))) A) ([.ref (ad 0), .int (iZ ((h : Nat) : Int)), .int (iZ ((rr : Nat) : Int)), .int (iZ ((v : Nat) : Int)), .ref (ad 33)] : List Value).toArray s 1 6 A) (F0 m 0 ls []) from K9 s.heap [] hP hD hS
  clear hP hD hS
  intro H locs hP hD hS
  refine lv_aload hx hb d_L_reader_0 (lv_at hl 4 rfl) ?_
  refine lv_iconst (v := iZ ((0 : Nat) : Int)) hx hb d_L_reader_2 (by decide) ?_
  refine lv_aload_n hx hb d_L_reader_3 rfl (lv_at hl 0 rfl) ?_
  refine lv_iload_n hx hb d_L_reader_4 rfl (lv_at hl 1 rfl) ?_
  refine lv_iload_n hx hb d_L_reader_5 rfl (lv_at hl 2 rfl) ?_
  refine lv_iload_n hx hb d_L_reader_6 rfl (lv_at hl 3 rfl) ?_
  refine z_ki (z_runV (As := [.int (iZ ((h : Nat) : Int)), .int (iZ ((rr : Nat) : Int)), .int (iZ ((v : Nat) : Int))]) (rest := [.int (iZ ((0 : Nat) : Int)), .ref (ad 33)]) zTB Z (k_D_reader hI hR hh hrr hv) ⟨ml_L_75, im_D_reader, se_D_reader, ini_D, co_D_reader⟩ zd_D_reader ⟨Nat.le_of_ble_eq_true rfl, Nat.le_of_ble_eq_true rfl⟩ hP hK hD (ci := 0) (q0 := 0) rfl rfl rfl hl.1 rfl (Nat.le_of_ble_eq_true rfl) d_L_reader_7 ⟨Nat.zero_le _, Nat.zero_le _⟩) hD hS hA (fun r9 w9 H locs hp9 hP hD hS => ?_)
  obtain ⟨rfl, rfl⟩ := hp9
  have hP : va_P D classes (wdC ad cI cZ cL J (zu rd (h * 2 + rr) ((v : Nat) : Int)) pr G K (wdM ad cI cZ cL J rd pr M ov)) H := hP
  have hD : va_D A (wdC ad cI cZ cL J (zu rd (h * 2 + rr) ((v : Nat) : Int)) pr G K (wdM ad cI cZ cL J rd pr M ov)) := hD
  refine W.eq (g2 := F0 m 10 ls [.int (bI (sUn (zu rd (h * 2 + rr) ((v : Nat) : Int)) h)), .int (iZ ((0 : Nat) : Int)), .ref (ad 33)]) rfl ?_
  refine z_if_eqB (b := sUn (zu rd (h * 2 + rr) ((v : Nat) : Int)) h) (tgt := 17) hx hb d_L_reader_10 (by decide) (fun q10 => ?_) (fun q10 => ?_)
  · skip
    refine lv_lconst (v := lZ ((0 : Nat) : Int)) hx hb d_L_reader_17 (by decide) ?_
    refine z_ost (x := lZ ((0 : Nat) : Int)) hx hb hK hP hD hS 33 2 rfl rfl d_L_reader_18 (fun H locs hP hD hS => ?_)
    have hP : va_P D classes (wdC ad cI cZ cL J (zu rd (h * 2 + rr) ((v : Nat) : Int)) pr G K (wdM ad cI cZ cL J rd pr M (oU ov (lZ ((0 : Nat) : Int))))) H := hP
    have hD : va_D A (wdC ad cI cZ cL J (zu rd (h * 2 + rr) ((v : Nat) : Int)) pr G K (wdM ad cI cZ cL J rd pr M (oU ov (lZ ((0 : Nat) : Int))))) := hD
    refine lv_goto (tgt := 30) hx hb d_L_reader_19 (by decide) ?_
    refine lv_iconst (v := iZ ((0 : Nat) : Int)) hx hb d_L_reader_30 (by decide) ?_
    refine W.widen (k := 1) (n := 6) (by omega) (by omega) ?_
    exact z_iret Z hP hS d_L_reader_31 wdL_map (⟨rfl, by rw [q10]; rfl⟩)
  · skip
    refine lv_lconst (v := lZ ((1 : Nat) : Int)) hx hb d_L_reader_13 (by decide) ?_
    refine lv_goto (tgt := 18) hx hb d_L_reader_14 (by decide) ?_
    refine z_ost (x := lZ ((1 : Nat) : Int)) hx hb hK hP hD hS 33 2 rfl rfl d_L_reader_18 (fun H locs hP hD hS => ?_)
    have hP : va_P D classes (wdC ad cI cZ cL J (zu rd (h * 2 + rr) ((v : Nat) : Int)) pr G K (wdM ad cI cZ cL J rd pr M (oU ov (lZ ((1 : Nat) : Int))))) H := hP
    have hD : va_D A (wdC ad cI cZ cL J (zu rd (h * 2 + rr) ((v : Nat) : Int)) pr G K (wdM ad cI cZ cL J rd pr M (oU ov (lZ ((1 : Nat) : Int))))) := hD
    refine lv_goto (tgt := 30) hx hb d_L_reader_19 (by decide) ?_
    refine lv_iconst (v := iZ ((0 : Nat) : Int)) hx hb d_L_reader_30 (by decide) ?_
    refine W.widen (k := 1) (n := 6) (by omega) (by omega) ?_
    exact z_iret Z hP hS d_L_reader_31 wdL_map (⟨rfl, by rw [q10]; rfl⟩)

set_option maxHeartbeats 4000000 in
set_option maxRecDepth 100000 in
theorem k_L_unlikex1 {l : Launch} {D : va_G} (hl0 : l.stackTraces = false) {ad : Nat → Nat} {cI cZ cL : ClassId} {J : SJ} {rd : Nat → Int} {pr : Nat → Nat} {G : SH} {K : SK} {M : SM} {ov : Nat → Int64} (hI : JI J) {a : Int} (h : z32 a ∧ (a < 0 ∨ ((jn J : Nat) : Int) < a)) : zMW l D (tysW cI cZ cL) y_L_unlike w_L_unlike 9 143 [.ref (ad 0), .int (iZ (a)), .ref (ad 33)] (wdC ad cI cZ cL J rd pr G K (wdM ad cI cZ cL J rd pr M ov)) (fun r w => r = iZ ((1 : Nat) : Int) ∧ w = wdC ad cI cZ cL J rd pr G K (wdM ad cI cZ cL J rd pr M ov)) := by
  refine z_ofW (by decide) (Nat.le_of_ble_eq_true rfl) ?_
  intro p e s m below meth c A ls Z htab hP hK hD hS hA hT hSt hl
  obtain ⟨hx, hb, hr, hml, hown, hts, hE, hlocks⟩ := id Z
  have hl : lv_has ls 4 [(0, .ref (ad 0)), (1, .int (iZ (a))), (2, .ref (ad 33))] := hl
  refine lv_aload_n hx hb d_L_unlike_0 rfl (lv_at hl 2 rfl) ?_
  refine lv_iconst (v := iZ ((0 : Nat) : Int)) hx hb d_L_unlike_1 (by decide) ?_
  refine lv_aload_n hx hb d_L_unlike_2 rfl (lv_at hl 0 rfl) ?_
  refine lv_iload_n hx hb d_L_unlike_3 rfl (lv_at hl 1 rfl) ?_
  refine z_xV (As := [.int (iZ (a))]) (rest := [.int (iZ ((0 : Nat) : Int)), .ref (ad 33)]) Z (x_D_unlike1 hl0 hI (a := a) h) ⟨ml_L_78, im_D_unlike, se_D_unlike, ini_D, co_D_unlike⟩ zd_D_unlike ⟨Nat.le_of_ble_eq_true rfl, Nat.le_of_ble_eq_true rfl⟩ hP hK hT hSt (ci := 0) (q0 := 0) rfl rfl rfl hl.1 rfl (Nat.le_of_ble_eq_true rfl) d_L_unlike_4 ⟨Nat.le_of_ble_eq_true rfl, Nat.le_of_ble_eq_true rfl⟩ (fun q9 ce9 H9 hz9 hk9 hc9 hv9 hcl9 => ?_)
  refine z_xk1 Z htab ⟨by decide, by decide⟩ (by decide) kl_L_13 ca_IndexOutOfBoundsException hc9 hv9 hcl9 ?_
  have hP := z_keepP hP hk9
  have hS := z_keepS hS hz9 hk9
  refine lv_astore_n (lv' := [(3, .ref (q9)), (0, .ref (ad 0)), (1, .int (iZ (a))), (2, .ref (ad 33))]) hx hb d_L_unlike_12 rfl hl (by decide) rfl (fun ls hl => ?_)
  refine lv_iconst (v := iZ ((1 : Nat) : Int)) hx hb d_L_unlike_13 (by decide) ?_
  exact z_iret Z hP hS d_L_unlike_14 wdL_map ⟨rfl, rfl⟩

set_option maxHeartbeats 4000000 in
set_option maxRecDepth 100000 in
theorem k_L_unlike0 {l : Launch} {D : va_G} {ad : Nat → Nat} {cI cZ cL : ClassId} {J : SJ} {rd : Nat → Int} {pr : Nat → Nat} {G : SH} {K : SK} {M : SM} {ov : Nat → Int64} (hI : JI J) {fm : Nat} (hR : RI rd) (hf : fm ≤ jn J) : zMW l D (tysW cI cZ cL) y_L_unlike w_L_unlike 9 143 [.ref (ad 0), .int (iZ ((fm : Nat) : Int)), .ref (ad 33)] (wdC ad cI cZ cL J rd pr G K (wdM ad cI cZ cL J rd pr M ov)) (fun r w => r = iZ ((0 : Nat) : Int) ∧ w = wdC ad cI cZ cL J rd pr G K (wdM ad cI cZ cL J rd pr M (oU ov ((iZ (sUl rd (jn J - fm) fm)).toInt64)))) := by
  refine z_ofW (by decide) (Nat.le_of_ble_eq_true rfl) ?_
  intro p e s m below meth c A ls Z htab hP hK hD hS hA hT hSt hl
  obtain ⟨hx, hb, hr, hml, hown, hts, hE, hlocks⟩ := id Z
  have hl : lv_has ls 4 [(0, .ref (ad 0)), (1, .int (iZ ((fm : Nat) : Int))), (2, .ref (ad 33))] := hl
  suffices K9 : ∀ (H : Heap) (locs : List Loc), va_P D classes (wdC ad cI cZ cL J rd pr G K (wdM ad cI cZ cL J rd pr M ov)) H → va_D A (wdC ad cI cZ cL J rd pr G K (wdM ad cI cZ cL J rd pr M ov)) → va_S A s.heap H locs → W p l e (zRx 9 143) s m ([.ref (ad 0), .int (iZ ((fm : Nat) : Int)), .ref (ad 33)] : List Value).toArray below meth c H locs 0 0 (MQ below (va_Qi (fun r w => r = iZ ((0 : Nat) : Int) ∧ w = wdC ad cI cZ cL J rd pr G K (wdM ad cI cZ cL J rd pr M (oU ov ((iZ (sUl rd (jn J - fm) fm)).toInt64)))) (zB9 D classes (wdC ad cI cZ cL J rd pr G K (wdM ad cI cZ cL J rd pr M ov))) A) ([.ref (ad 0), .int (iZ ((fm : Nat) : Int)), .ref (ad 33)] : List Value).toArray s 1 6 A) (F0 m 0 ls []) from K9 s.heap [] hP hD hS
  clear hP hD hS
  intro H locs hP hD hS
  refine lv_aload_n hx hb d_L_unlike_0 rfl (lv_at hl 2 rfl) ?_
  refine lv_iconst (v := iZ ((0 : Nat) : Int)) hx hb d_L_unlike_1 (by decide) ?_
  refine lv_aload_n hx hb d_L_unlike_2 rfl (lv_at hl 0 rfl) ?_
  refine lv_iload_n hx hb d_L_unlike_3 rfl (lv_at hl 1 rfl) ?_
  refine z_callVR (As := [.int (iZ ((fm : Nat) : Int))]) (rest := [.int (iZ ((0 : Nat) : Int)), .ref (ad 33)]) zTB Z (k_D_unlike hI hR hf) ⟨ml_L_78, im_D_unlike, se_D_unlike, ini_D, co_D_unlike⟩ zd_D_unlike ⟨Nat.le_of_ble_eq_true rfl, Nat.le_of_ble_eq_true rfl⟩ hP hK (ci := 0) (q0 := 0) rfl rfl rfl hl.1 rfl (Nat.le_of_ble_eq_true rfl) d_L_unlike_4 ⟨Nat.zero_le _, Nat.zero_le _⟩ ?_
  refine W.eq (g2 := F0 m 7 ls [.int (iZ (sUl rd (jn J - fm) fm)), .int (iZ ((0 : Nat) : Int)), .ref (ad 33)]) rfl ?_
  refine lv_i2l (v := (iZ (sUl rd (jn J - fm) fm)).toInt64) hx hb d_L_unlike_7 rfl ?_
  refine z_ost (x := (iZ (sUl rd (jn J - fm) fm)).toInt64) hx hb hK hP hD hS 33 2 rfl rfl d_L_unlike_8 (fun H locs hP hD hS => ?_)
  have hP : va_P D classes (wdC ad cI cZ cL J rd pr G K (wdM ad cI cZ cL J rd pr M (oU ov ((iZ (sUl rd (jn J - fm) fm)).toInt64)))) H := hP
  have hD : va_D A (wdC ad cI cZ cL J rd pr G K (wdM ad cI cZ cL J rd pr M (oU ov ((iZ (sUl rd (jn J - fm) fm)).toInt64)))) := hD
  refine lv_goto (tgt := 15) hx hb d_L_unlike_9 (by decide) ?_
  refine lv_iconst (v := iZ ((0 : Nat) : Int)) hx hb d_L_unlike_15 (by decide) ?_
  refine W.widen (k := 1) (n := 6) (by omega) (by omega) ?_
  exact z_iret Z hP hS d_L_unlike_16 wdL_map (⟨rfl, rfl⟩)

set_option maxHeartbeats 4000000 in
set_option maxRecDepth 100000 in
theorem k_L_pricex1 {l : Launch} {D : va_G} (hl0 : l.stackTraces = false) {ad : Nat → Nat} {cI cZ cL : ClassId} {J : SJ} {rd : Nat → Int} {pr : Nat → Nat} {G : SH} {K : SK} {M : SM} {ov : Nat → Int64} (hI : JI J) {a b : Int} (h : z32 a ∧ (a < 0 ∨ 3 ≤ a)) : zMW l D (tysW cI cZ cL) y_L_price w_L_price 10 163 [.ref (ad 0), .int (iZ (a)), .int (iZ (b))] (wdC ad cI cZ cL J rd pr G K (wdM ad cI cZ cL J rd pr M ov)) (fun r w => r = iZ ((1 : Nat) : Int) ∧ w = wdC ad cI cZ cL J rd pr G K (wdM ad cI cZ cL J rd pr M ov)) := by
  refine z_ofW (by decide) (Nat.le_of_ble_eq_true rfl) ?_
  intro p e s m below meth c A ls Z htab hP hK hD hS hA hT hSt hl
  obtain ⟨hx, hb, hr, hml, hown, hts, hE, hlocks⟩ := id Z
  have hl : lv_has ls 4 [(0, .ref (ad 0)), (1, .int (iZ (a))), (2, .int (iZ (b)))] := hl
  refine lv_aload_n hx hb d_L_price_0 rfl (lv_at hl 0 rfl) ?_
  refine lv_iload_n hx hb d_L_price_1 rfl (lv_at hl 1 rfl) ?_
  refine lv_iload_n hx hb d_L_price_2 rfl (lv_at hl 2 rfl) ?_
  refine z_xV (As := [.int (iZ (a)), .int (iZ (b))]) (rest := []) Z (x_D_price1 hl0 hI (a := a) (b := b) h) ⟨ml_L_81, im_D_price, se_D_price, ini_D, co_D_price⟩ zd_D_price ⟨Nat.le_of_ble_eq_true rfl, Nat.le_of_ble_eq_true rfl⟩ hP hK hT hSt (ci := 0) (q0 := 0) rfl rfl rfl hl.1 rfl (Nat.le_of_ble_eq_true rfl) d_L_price_3 ⟨Nat.le_of_ble_eq_true rfl, Nat.le_of_ble_eq_true rfl⟩ (fun q9 ce9 H9 hz9 hk9 hc9 hv9 hcl9 => ?_)
  refine z_xk1 Z htab ⟨by decide, by decide⟩ (by decide) kl_L_13 ca_IndexOutOfBoundsException hc9 hv9 hcl9 ?_
  have hP := z_keepP hP hk9
  have hS := z_keepS hS hz9 hk9
  refine lv_astore_n (lv' := [(3, .ref (q9)), (0, .ref (ad 0)), (1, .int (iZ (a))), (2, .int (iZ (b)))]) hx hb d_L_price_9 rfl hl (by decide) rfl (fun ls hl => ?_)
  refine lv_iconst (v := iZ ((1 : Nat) : Int)) hx hb d_L_price_10 (by decide) ?_
  exact z_iret Z hP hS d_L_price_11 wdL_map ⟨rfl, rfl⟩

set_option maxHeartbeats 4000000 in
set_option maxRecDepth 100000 in
theorem k_L_pricex2 {l : Launch} {D : va_G} (hl0 : l.stackTraces = false) {ad : Nat → Nat} {cI cZ cL : ClassId} {J : SJ} {rd : Nat → Int} {pr : Nat → Nat} {G : SH} {K : SK} {M : SM} {ov : Nat → Int64} (hI : JI J) {kd : Nat} {b : Int} (hkd : kd < 3) (h : z32 b ∧ (b < 0 ∨ 100000 < b)) : zMW l D (tysW cI cZ cL) y_L_price w_L_price 10 163 [.ref (ad 0), .int (iZ ((kd : Nat) : Int)), .int (iZ (b))] (wdC ad cI cZ cL J rd pr G K (wdM ad cI cZ cL J rd pr M ov)) (fun r w => r = iZ ((2 : Nat) : Int) ∧ w = wdC ad cI cZ cL J rd pr G K (wdM ad cI cZ cL J rd pr M ov)) := by
  refine z_ofW (by decide) (Nat.le_of_ble_eq_true rfl) ?_
  intro p e s m below meth c A ls Z htab hP hK hD hS hA hT hSt hl
  obtain ⟨hx, hb, hr, hml, hown, hts, hE, hlocks⟩ := id Z
  have hl : lv_has ls 4 [(0, .ref (ad 0)), (1, .int (iZ ((kd : Nat) : Int))), (2, .int (iZ (b)))] := hl
  refine lv_aload_n hx hb d_L_price_0 rfl (lv_at hl 0 rfl) ?_
  refine lv_iload_n hx hb d_L_price_1 rfl (lv_at hl 1 rfl) ?_
  refine lv_iload_n hx hb d_L_price_2 rfl (lv_at hl 2 rfl) ?_
  refine z_xV (As := [.int (iZ ((kd : Nat) : Int)), .int (iZ (b))]) (rest := []) Z (x_D_price2 hl0 hI (kd := kd) (b := b) hkd h) ⟨ml_L_81, im_D_price, se_D_price, ini_D, co_D_price⟩ zd_D_price ⟨Nat.le_of_ble_eq_true rfl, Nat.le_of_ble_eq_true rfl⟩ hP hK hT hSt (ci := 0) (q0 := 0) rfl rfl rfl hl.1 rfl (Nat.le_of_ble_eq_true rfl) d_L_price_3 ⟨Nat.le_of_ble_eq_true rfl, Nat.le_of_ble_eq_true rfl⟩ (fun q9 ce9 H9 hz9 hk9 hc9 hv9 hcl9 => ?_)
  refine z_xk2 Z htab ⟨⟨by decide, by decide⟩, by decide, by decide⟩ ⟨by decide, by decide⟩ kl_L_13 nc_IllegalArgumentException_IndexOutOfBoundsException kl_L_21 ca_IllegalArgumentException hc9 hv9 hcl9 ?_
  have hP := z_keepP hP hk9
  have hS := z_keepS hS hz9 hk9
  refine lv_astore_n (lv' := [(3, .ref (q9)), (0, .ref (ad 0)), (1, .int (iZ ((kd : Nat) : Int))), (2, .int (iZ (b)))]) hx hb d_L_price_12 rfl hl (by decide) rfl (fun ls hl => ?_)
  refine lv_iconst (v := iZ ((2 : Nat) : Int)) hx hb d_L_price_13 (by decide) ?_
  exact z_iret Z hP hS d_L_price_14 wdL_map ⟨rfl, rfl⟩

set_option maxHeartbeats 4000000 in
set_option maxRecDepth 100000 in
theorem k_L_price0 {l : Launch} {D : va_G} {ad : Nat → Nat} {cI cZ cL : ClassId} {J : SJ} {rd : Nat → Int} {pr : Nat → Nat} {G : SH} {K : SK} {M : SM} {ov : Nat → Int64} (hI : JI J) {kd v : Nat} (hkd : kd < 3) (hv : v ≤ 100000) : zMW l D (tysW cI cZ cL) y_L_price w_L_price 10 163 [.ref (ad 0), .int (iZ ((kd : Nat) : Int)), .int (iZ ((v : Nat) : Int))] (wdC ad cI cZ cL J rd pr G K (wdM ad cI cZ cL J rd pr M ov)) (fun r w => r = iZ ((0 : Nat) : Int) ∧ w = wdC ad cI cZ cL J rd (nu pr kd v) G K (wdM ad cI cZ cL J rd pr M ov)) := by
  refine z_ofW (by decide) (Nat.le_of_ble_eq_true rfl) ?_
  intro p e s m below meth c A ls Z htab hP hK hD hS hA hT hSt hl
  obtain ⟨hx, hb, hr, hml, hown, hts, hE, hlocks⟩ := id Z
  have hl : lv_has ls 4 [(0, .ref (ad 0)), (1, .int (iZ ((kd : Nat) : Int))), (2, .int (iZ ((v : Nat) : Int)))] := hl
  suffices K9 : ∀ (H : Heap) (locs : List Loc), va_P D classes (wdC ad cI cZ cL J rd pr G K (wdM ad cI cZ cL J rd pr M ov)) H → va_D A (wdC ad cI cZ cL J rd pr G K (wdM ad cI cZ cL J rd pr M ov)) → va_S A s.heap H locs → W p l e (zRx 10 163) s m ([.ref (ad 0), .int (iZ ((kd : Nat) : Int)), .int (iZ ((v : Nat) : Int))] : List Value).toArray below meth c H locs 0 0 (MQ below (va_Qi (fun r w => r = iZ ((0 : Nat) : Int) ∧ w = wdC ad cI cZ cL J rd (nu pr kd v) G K (wdM ad cI cZ cL J rd pr M ov)) (zB9 D classes (wdC ad cI cZ cL J rd pr G K (wdM ad cI cZ cL J rd pr M ov))) A) ([.ref (ad 0), .int (iZ ((kd : Nat) : Int)), .int (iZ ((v : Nat) : Int))] : List Value).toArray s 1 6 A) (F0 m 0 ls []) from K9 s.heap [] hP hD hS
  clear hP hD hS
  intro H locs hP hD hS
  refine lv_aload_n hx hb d_L_price_0 rfl (lv_at hl 0 rfl) ?_
  refine lv_iload_n hx hb d_L_price_1 rfl (lv_at hl 1 rfl) ?_
  refine lv_iload_n hx hb d_L_price_2 rfl (lv_at hl 2 rfl) ?_
  refine z_kv (z_runV (As := [.int (iZ ((kd : Nat) : Int)), .int (iZ ((v : Nat) : Int))]) (rest := []) zTB Z (k_D_price hkd hv) ⟨ml_L_81, im_D_price, se_D_price, ini_D, co_D_price⟩ zd_D_price ⟨Nat.le_of_ble_eq_true rfl, Nat.le_of_ble_eq_true rfl⟩ hP hK hD (ci := 0) (q0 := 0) rfl rfl rfl hl.1 rfl (Nat.le_of_ble_eq_true rfl) d_L_price_3 ⟨Nat.zero_le _, Nat.zero_le _⟩) hD hS hA (fun w9 H locs hp9 hP hD hS => ?_)
  obtain rfl := hp9
  have hP : va_P D classes (wdC ad cI cZ cL J rd (nu pr kd v) G K (wdM ad cI cZ cL J rd pr M ov)) H := hP
  have hD : va_D A (wdC ad cI cZ cL J rd (nu pr kd v) G K (wdM ad cI cZ cL J rd pr M ov)) := hD
  refine W.eq (g2 := F0 m 6 ls []) rfl ?_
  refine lv_goto (tgt := 15) hx hb d_L_price_6 (by decide) ?_
  refine lv_iconst (v := iZ ((0 : Nat) : Int)) hx hb d_L_price_15 (by decide) ?_
  refine W.widen (k := 1) (n := 6) (by omega) (by omega) ?_
  exact z_iret Z hP hS d_L_price_16 wdL_map (⟨rfl, rfl⟩)

