/-! The law's calls, on. -/
set_option maxHeartbeats 4000000 in
set_option maxRecDepth 100000 in
theorem lf_kept_0 {p : Program} {l : Launch} {e : Env} {s : State} {m : MethodId} {below : List Frame} {meth : Method} {c : Code} {Q : State → Prop} {sb L : Nat} {xs : Nat → Int32} {D : va_G} {A : Nat → Prop} {ad : Nat → Nat} {cI cZ cL : ClassId} {J : SJ} {rd : Nat → Int} {pr : Nat → Nat} {G : SH} {K : SK} {M : SM} {ov : Nat → Int64} {H : Heap} {locs : List Loc} {cells slots i : Nat} {ls : Array Slot} (X : LX p l s m meth c sb L xs D cI cZ cL A) (hLI : LI J rd pr M) (hi : i + 4 < L) (hc : cells + 1 ≤ 1061 ∧ slots + 6 ≤ 9679) {kd : Nat} (hkd : kd < 3) (ha1 : xs (i + 1) = iZ ((kd : Nat) : Int)) (hP : va_P D classes (wdC ad cI cZ cL J rd pr G K (wdM ad cI cZ cL J rd pr M ov)) H) (hD : va_D A (wdC ad cI cZ cL J rd pr G K (wdM ad cI cZ cL J rd pr M ov))) (hS : va_S A s.heap H locs) (hl : lv_has ls 8 (lwL ad sb i)) (kk : LK p l e s m below meth c Q sb D A ad cI cZ cL i (cells + 1) (slots + 6)) : W p l e room_1 s m #[Value.ref sb] below meth c H locs cells slots Q (F0 m 591 ls []) := by
  obtain ⟨hl0, Z, hX, hbl, hK, hA, hbA, hTT, hSt, hL⟩ := X
  obtain ⟨hI, hM, hR, hpq⟩ := hLI
  obtain ⟨hx, hb, hr, hml, hown, hts, hE, hlocks⟩ := id Z
  have hn32 := hI.1
  have hk32 := hI.2.1
  have hl : lv_has ls 8 [(4, .int (iZ ((i : Nat) : Int))), (0, .ref (sb)), (1, .ref (ad 0)), (2, .ref (ad 19)), (3, .ref (ad 33))] := hl
  refine lv_aload_n hx hb d_L_law_591 rfl (lv_at hl 2 rfl) ?_
  refine lv_aload_n hx hb d_L_law_592 rfl (lv_at hl 1 rfl) ?_
  refine lv_iload hx hb d_L_law_593 (lv_at hl 0 rfl) ?_
  refine lv_iconst (v := iZ ((1 : Nat) : Int)) hx hb d_L_law_595 (by decide) ?_
  refine z_iaddN (u := i) (v := 1) hx hb d_L_law_596 ?_
  refine z_sld (v := iZ ((kd : Nat) : Int)) hx hb hX hbl hbA hS (i + 1) (by omega) ha1 d_L_law_597 ?_
  refine lv_aload_n hx hb d_L_law_598 rfl (lv_at hl 4 rfl) ?_
  refine z_kiW (z_runSW (As := [.ref (ad 0), .int (iZ ((kd : Nat) : Int)), .ref (ad 33)]) (rest := []) Z (k_L_kept0 hI (kd := kd) hkd) ⟨ml_L_127, sm_L_kept, ini_L, co_L_kept⟩ zd_L_kept ⟨Nat.le_of_ble_eq_true rfl, Nat.le_of_ble_eq_true rfl⟩ hP hK hD (hTT _ _ hS) hSt hl.1 rfl (Nat.le_of_ble_eq_true rfl) d_L_law_599 ⟨hc.1, hc.2⟩) hD hS hA (fun r9 w9 H locs hp9 hP hD hS => ?_)
  obtain ⟨rfl, rfl⟩ := hp9
  have hP : va_P D classes (wdC ad cI cZ cL J rd pr G K (wdM ad cI cZ cL J rd pr M (oU ov ((iZ ((sKO J 4 kd (jk J) : Nat) : Int)).toInt64)))) H := hP
  have hD : va_D A (wdC ad cI cZ cL J rd pr G K (wdM ad cI cZ cL J rd pr M (oU ov ((iZ ((sKO J 4 kd (jk J) : Nat) : Int)).toInt64)))) := hD
  refine W.eq (g2 := F0 m 602 ls [.int (iZ ((0 : Nat) : Int))]) rfl ?_
  refine lv_istore (lv' := [(5, .int (iZ ((0 : Nat) : Int))), (4, .int (iZ ((i : Nat) : Int))), (0, .ref (sb)), (1, .ref (ad 0)), (2, .ref (ad 19)), (3, .ref (ad 33))]) hx hb d_L_law_602 hl (by decide) rfl (fun ls hl => ?_)
  refine lv_aload_n hx hb d_L_law_604 rfl (lv_at hl 4 rfl) ?_
  refine lv_aload_n hx hb d_L_law_605 rfl (lv_at hl 2 rfl) ?_
  refine lv_iload hx hb d_L_law_606 (lv_at hl 1 rfl) ?_
  refine lv_iconst (v := iZ ((1 : Nat) : Int)) hx hb d_L_law_608 (by decide) ?_
  refine z_iaddN (u := i) (v := 1) hx hb d_L_law_609 ?_
  refine z_sld (v := iZ ((kd : Nat) : Int)) hx hb hX hbl hbA hS (i + 1) (by omega) ha1 d_L_law_610 ?_
  refine z_ki (z_runV (As := [.int (iZ ((kd : Nat) : Int))]) (rest := []) zTB Z (k_M_kept0 hI hM hkd) ⟨ml_L_129, im_M_kept, se_M_kept, ini_M, co_M_kept⟩ zd_M_kept ⟨Nat.le_of_ble_eq_true rfl, Nat.le_of_ble_eq_true rfl⟩ hP hK hD (ci := 5) (q0 := 19) rfl rfl rfl hl.1 rfl (Nat.le_of_ble_eq_true rfl) d_L_law_611 ⟨hc.1, hc.2⟩) hD hS hA (fun r9 w9 H locs hp9 hP hD hS => ?_)
  obtain ⟨M1, rfl, rfl, hc1, hM1⟩ := hp9
  have hP : va_P D classes (wdC ad cI cZ cL J rd pr G K (wdM ad cI cZ cL J rd pr M1 (oU ov ((iZ ((sKO J 4 kd (jk J) : Nat) : Int)).toInt64)))) H := hP
  have hD : va_D A (wdC ad cI cZ cL J rd pr G K (wdM ad cI cZ cL J rd pr M1 (oU ov ((iZ ((sKO J 4 kd (jk J) : Nat) : Int)).toInt64)))) := hD
  refine W.eq (g2 := F0 m 614 ls [.int (iZ ((sKO J 4 kd (jk J) : Nat) : Int))]) rfl ?_
  refine lv_istore (lv' := [(6, .int (iZ ((sKO J 4 kd (jk J) : Nat) : Int))), (5, .int (iZ ((0 : Nat) : Int))), (4, .int (iZ ((i : Nat) : Int))), (0, .ref (sb)), (1, .ref (ad 0)), (2, .ref (ad 19)), (3, .ref (ad 33))]) hx hb d_L_law_614 hl (by decide) rfl (fun ls hl => ?_)
  refine lv_aload_n hx hb d_L_law_616 rfl (lv_at hl 5 rfl) ?_
  refine z_callVR (As := []) (rest := []) zTB Z (k_M_thrown) ⟨ml_L_101, im_M_thrown, se_M_thrown, ini_M, co_M_thrown⟩ zd_M_thrown ⟨Nat.le_of_ble_eq_true rfl, Nat.le_of_ble_eq_true rfl⟩ hP hK (ci := 5) (q0 := 19) rfl rfl rfl hl.1 rfl (Nat.le_of_ble_eq_true rfl) d_L_law_617 ⟨hc.1, hc.2⟩ ?_
  refine W.eq (g2 := F0 m 620 ls [.int (iZ ((M1.1 : Nat) : Int))]) rfl ?_
  refine z_topZ (b := ((0 : Nat) : Int)) (by rw [hc1]) ?_
  refine lv_iload hx hb d_L_law_620 (lv_at hl 1 rfl) ?_
  refine z_icmp_eq (a := ((0 : Nat) : Int)) (b := ((0 : Nat) : Int)) (tgt := 627) hx hb (by omega) d_L_law_622 (by decide) (fun q622 => ?_) (fun q622 => ?_)
  · skip
    refine lv_iload hx hb d_L_law_627 (lv_at hl 1 rfl) ?_
    refine z_if_ne (a := ((0 : Nat) : Int)) (tgt := 644) hx hb (by omega) d_L_law_629 (by decide) (fun q629 => ?_) (fun q629 => ?_)
    · skip
      exfalso; omega
    · skip
      refine lv_aload_n hx hb d_L_law_632 rfl (lv_at hl 6 rfl) ?_
      refine lv_iconst (v := iZ ((0 : Nat) : Int)) hx hb d_L_law_633 (by decide) ?_
      refine z_old (x := (iZ ((sKO J 4 kd (jk J) : Nat) : Int)).toInt64) hx hb hK hP 33 2 rfl rfl d_L_law_634 ?_
      refine lv_iload hx hb d_L_law_635 (lv_at hl 0 rfl) ?_
      refine lv_i2l (v := (iZ ((sKO J 4 kd (jk J) : Nat) : Int)).toInt64) hx hb d_L_law_637 rfl ?_
      refine z_lcmpR_eq (tgt := 644) (pc1 := 639) (pc4 := 642) hx hb d_L_law_638 rfl rfl d_L_law_639 (by decide) (fun q638 => ?_) (fun q638 => ?_)
      · skip
        refine lv_goto (tgt := 1598) hx hb d_L_law_644 (by decide) ?_
        exact kk J _ _ _ _ _ _ H locs ls ⟨hI, hM1, hR, hpq⟩ hP hD hS (lv_sub hl [2, 3, 4, 5, 6] rfl)
      · skip
        exact absurd rfl q638
  · skip
    exfalso; omega

set_option maxHeartbeats 4000000 in
set_option maxRecDepth 100000 in
theorem lf_sum_x1 {p : Program} {l : Launch} {e : Env} {s : State} {m : MethodId} {below : List Frame} {meth : Method} {c : Code} {Q : State → Prop} {sb L : Nat} {xs : Nat → Int32} {D : va_G} {A : Nat → Prop} {ad : Nat → Nat} {cI cZ cL : ClassId} {J : SJ} {rd : Nat → Int} {pr : Nat → Nat} {G : SH} {K : SK} {M : SM} {ov : Nat → Int64} {H : Heap} {locs : List Loc} {cells slots i : Nat} {ls : Array Slot} (X : LX p l s m meth c sb L xs D cI cZ cL A) (hLI : LI J rd pr M) (hi : i + 4 < L) (hc : cells + 1 ≤ 1061 ∧ slots + 6 ≤ 9679) {a : Int} (h : z32 a ∧ (a < 0 ∨ 3 ≤ a)) (ha1 : xs (i + 1) = iZ (a)) (hP : va_P D classes (wdC ad cI cZ cL J rd pr G K (wdM ad cI cZ cL J rd pr M ov)) H) (hD : va_D A (wdC ad cI cZ cL J rd pr G K (wdM ad cI cZ cL J rd pr M ov))) (hS : va_S A s.heap H locs) (hl : lv_has ls 8 (lwL ad sb i)) (kk : LK p l e s m below meth c Q sb D A ad cI cZ cL i (cells + 1) (slots + 6)) : W p l e room_1 s m #[Value.ref sb] below meth c H locs cells slots Q (F0 m 647 ls []) := by
  obtain ⟨hl0, Z, hX, hbl, hK, hA, hbA, hTT, hSt, hL⟩ := X
  obtain ⟨hI, hM, hR, hpq⟩ := hLI
  obtain ⟨hx, hb, hr, hml, hown, hts, hE, hlocks⟩ := id Z
  have hn32 := hI.1
  have hk32 := hI.2.1
  have hl : lv_has ls 8 [(4, .int (iZ ((i : Nat) : Int))), (0, .ref (sb)), (1, .ref (ad 0)), (2, .ref (ad 19)), (3, .ref (ad 33))] := hl
  refine lv_aload_n hx hb d_L_law_647 rfl (lv_at hl 2 rfl) ?_
  refine lv_aload_n hx hb d_L_law_648 rfl (lv_at hl 1 rfl) ?_
  refine lv_iload hx hb d_L_law_649 (lv_at hl 0 rfl) ?_
  refine lv_iconst (v := iZ ((1 : Nat) : Int)) hx hb d_L_law_651 (by decide) ?_
  refine z_iaddN (u := i) (v := 1) hx hb d_L_law_652 ?_
  refine z_sld (v := iZ (a)) hx hb hX hbl hbA hS (i + 1) (by omega) ha1 d_L_law_653 ?_
  refine lv_aload_n hx hb d_L_law_654 rfl (lv_at hl 4 rfl) ?_
  refine z_kiW (z_runSW (As := [.ref (ad 0), .int (iZ (a)), .ref (ad 33)]) (rest := []) Z (k_L_sumx1 hl0 hI (a := a) h) ⟨ml_L_130, sm_L_sum, ini_L, co_L_sum⟩ zd_L_sum ⟨Nat.le_of_ble_eq_true rfl, Nat.le_of_ble_eq_true rfl⟩ hP hK hD (hTT _ _ hS) hSt hl.1 rfl (Nat.le_of_ble_eq_true rfl) d_L_law_655 ⟨hc.1, hc.2⟩) hD hS hA (fun r9 w9 H locs hp9 hP hD hS => ?_)
  obtain ⟨rfl, rfl⟩ := hp9
  have hP : va_P D classes (wdC ad cI cZ cL J rd pr G K (wdM ad cI cZ cL J rd pr M ov)) H := hP
  have hD : va_D A (wdC ad cI cZ cL J rd pr G K (wdM ad cI cZ cL J rd pr M ov)) := hD
  refine W.eq (g2 := F0 m 658 ls [.int (iZ ((1 : Nat) : Int))]) rfl ?_
  refine lv_istore (lv' := [(5, .int (iZ ((1 : Nat) : Int))), (4, .int (iZ ((i : Nat) : Int))), (0, .ref (sb)), (1, .ref (ad 0)), (2, .ref (ad 19)), (3, .ref (ad 33))]) hx hb d_L_law_658 hl (by decide) rfl (fun ls hl => ?_)
  refine lv_aload_n hx hb d_L_law_660 rfl (lv_at hl 4 rfl) ?_
  refine lv_aload_n hx hb d_L_law_661 rfl (lv_at hl 2 rfl) ?_
  refine lv_iload hx hb d_L_law_662 (lv_at hl 1 rfl) ?_
  refine lv_iconst (v := iZ ((1 : Nat) : Int)) hx hb d_L_law_664 (by decide) ?_
  refine z_iaddN (u := i) (v := 1) hx hb d_L_law_665 ?_
  refine z_sld (v := iZ (a)) hx hb hX hbl hbA hS (i + 1) (by omega) ha1 d_L_law_666 ?_
  refine z_ki (z_runV (As := [.int (iZ (a))]) (rest := []) zTB Z (k_M_sumx1 hI hM (a := a) h) ⟨ml_L_132, im_M_sum, se_M_sum, ini_M, co_M_sum⟩ zd_M_sum ⟨Nat.le_of_ble_eq_true rfl, Nat.le_of_ble_eq_true rfl⟩ hP hK hD (ci := 5) (q0 := 19) rfl rfl rfl hl.1 rfl (Nat.le_of_ble_eq_true rfl) d_L_law_667 ⟨hc.1, hc.2⟩) hD hS hA (fun r9 w9 H locs hp9 hP hD hS => ?_)
  obtain ⟨M1, rfl, hc1, hM1⟩ := hp9
  have hP : va_P D classes (wdC ad cI cZ cL J rd pr G K (wdM ad cI cZ cL J rd pr M1 ov)) H := hP
  have hD : va_D A (wdC ad cI cZ cL J rd pr G K (wdM ad cI cZ cL J rd pr M1 ov)) := hD
  refine W.eq (g2 := F0 m 670 ls [.int (r9)]) rfl ?_
  refine lv_istore (lv' := [(6, .int (r9)), (5, .int (iZ ((1 : Nat) : Int))), (4, .int (iZ ((i : Nat) : Int))), (0, .ref (sb)), (1, .ref (ad 0)), (2, .ref (ad 19)), (3, .ref (ad 33))]) hx hb d_L_law_670 hl (by decide) rfl (fun ls hl => ?_)
  refine lv_aload_n hx hb d_L_law_672 rfl (lv_at hl 5 rfl) ?_
  refine z_callVR (As := []) (rest := []) zTB Z (k_M_thrown) ⟨ml_L_101, im_M_thrown, se_M_thrown, ini_M, co_M_thrown⟩ zd_M_thrown ⟨Nat.le_of_ble_eq_true rfl, Nat.le_of_ble_eq_true rfl⟩ hP hK (ci := 5) (q0 := 19) rfl rfl rfl hl.1 rfl (Nat.le_of_ble_eq_true rfl) d_L_law_673 ⟨hc.1, hc.2⟩ ?_
  refine W.eq (g2 := F0 m 676 ls [.int (iZ ((M1.1 : Nat) : Int))]) rfl ?_
  refine z_topZ (b := ((1 : Nat) : Int)) (by rw [hc1]) ?_
  refine lv_iload hx hb d_L_law_676 (lv_at hl 1 rfl) ?_
  refine z_icmp_eq (a := ((1 : Nat) : Int)) (b := ((1 : Nat) : Int)) (tgt := 683) hx hb (by omega) d_L_law_678 (by decide) (fun q678 => ?_) (fun q678 => ?_)
  · skip
    refine lv_iload hx hb d_L_law_683 (lv_at hl 1 rfl) ?_
    refine z_if_ne (a := ((1 : Nat) : Int)) (tgt := 700) hx hb (by omega) d_L_law_685 (by decide) (fun q685 => ?_) (fun q685 => ?_)
    · skip
      refine lv_goto (tgt := 1598) hx hb d_L_law_700 (by decide) ?_
      exact kk J _ _ _ _ _ _ H locs ls ⟨hI, hM1, hR, hpq⟩ hP hD hS (lv_sub hl [2, 3, 4, 5, 6] rfl)
    · skip
      exfalso; omega
  · skip
    exfalso; omega

set_option maxHeartbeats 4000000 in
set_option maxRecDepth 100000 in
theorem lf_sum_0 {p : Program} {l : Launch} {e : Env} {s : State} {m : MethodId} {below : List Frame} {meth : Method} {c : Code} {Q : State → Prop} {sb L : Nat} {xs : Nat → Int32} {D : va_G} {A : Nat → Prop} {ad : Nat → Nat} {cI cZ cL : ClassId} {J : SJ} {rd : Nat → Int} {pr : Nat → Nat} {G : SH} {K : SK} {M : SM} {ov : Nat → Int64} {H : Heap} {locs : List Loc} {cells slots i : Nat} {ls : Array Slot} (X : LX p l s m meth c sb L xs D cI cZ cL A) (hLI : LI J rd pr M) (hi : i + 4 < L) (hc : cells + 1 ≤ 1061 ∧ slots + 6 ≤ 9679) {kd : Nat} (hkd : kd < 3) (ha1 : xs (i + 1) = iZ ((kd : Nat) : Int)) (hP : va_P D classes (wdC ad cI cZ cL J rd pr G K (wdM ad cI cZ cL J rd pr M ov)) H) (hD : va_D A (wdC ad cI cZ cL J rd pr G K (wdM ad cI cZ cL J rd pr M ov))) (hS : va_S A s.heap H locs) (hl : lv_has ls 8 (lwL ad sb i)) (kk : LK p l e s m below meth c Q sb D A ad cI cZ cL i (cells + 1) (slots + 6)) : W p l e room_1 s m #[Value.ref sb] below meth c H locs cells slots Q (F0 m 647 ls []) := by
  obtain ⟨hl0, Z, hX, hbl, hK, hA, hbA, hTT, hSt, hL⟩ := X
  obtain ⟨hI, hM, hR, hpq⟩ := hLI
  obtain ⟨hx, hb, hr, hml, hown, hts, hE, hlocks⟩ := id Z
  have hn32 := hI.1
  have hk32 := hI.2.1
  have hl : lv_has ls 8 [(4, .int (iZ ((i : Nat) : Int))), (0, .ref (sb)), (1, .ref (ad 0)), (2, .ref (ad 19)), (3, .ref (ad 33))] := hl
  refine lv_aload_n hx hb d_L_law_647 rfl (lv_at hl 2 rfl) ?_
  refine lv_aload_n hx hb d_L_law_648 rfl (lv_at hl 1 rfl) ?_
  refine lv_iload hx hb d_L_law_649 (lv_at hl 0 rfl) ?_
  refine lv_iconst (v := iZ ((1 : Nat) : Int)) hx hb d_L_law_651 (by decide) ?_
  refine z_iaddN (u := i) (v := 1) hx hb d_L_law_652 ?_
  refine z_sld (v := iZ ((kd : Nat) : Int)) hx hb hX hbl hbA hS (i + 1) (by omega) ha1 d_L_law_653 ?_
  refine lv_aload_n hx hb d_L_law_654 rfl (lv_at hl 4 rfl) ?_
  refine z_kiW (z_runSW (As := [.ref (ad 0), .int (iZ ((kd : Nat) : Int)), .ref (ad 33)]) (rest := []) Z (k_L_sum0 hI (kd := kd) hkd) ⟨ml_L_130, sm_L_sum, ini_L, co_L_sum⟩ zd_L_sum ⟨Nat.le_of_ble_eq_true rfl, Nat.le_of_ble_eq_true rfl⟩ hP hK hD (hTT _ _ hS) hSt hl.1 rfl (Nat.le_of_ble_eq_true rfl) d_L_law_655 ⟨hc.1, hc.2⟩) hD hS hA (fun r9 w9 H locs hp9 hP hD hS => ?_)
  obtain ⟨rfl, rfl⟩ := hp9
  have hP : va_P D classes (wdC ad cI cZ cL J rd pr G K (wdM ad cI cZ cL J rd pr M (oU ov ((iZ (sSO J 4 kd (jk J))).toInt64)))) H := hP
  have hD : va_D A (wdC ad cI cZ cL J rd pr G K (wdM ad cI cZ cL J rd pr M (oU ov ((iZ (sSO J 4 kd (jk J))).toInt64)))) := hD
  refine W.eq (g2 := F0 m 658 ls [.int (iZ ((0 : Nat) : Int))]) rfl ?_
  refine lv_istore (lv' := [(5, .int (iZ ((0 : Nat) : Int))), (4, .int (iZ ((i : Nat) : Int))), (0, .ref (sb)), (1, .ref (ad 0)), (2, .ref (ad 19)), (3, .ref (ad 33))]) hx hb d_L_law_658 hl (by decide) rfl (fun ls hl => ?_)
  refine lv_aload_n hx hb d_L_law_660 rfl (lv_at hl 4 rfl) ?_
  refine lv_aload_n hx hb d_L_law_661 rfl (lv_at hl 2 rfl) ?_
  refine lv_iload hx hb d_L_law_662 (lv_at hl 1 rfl) ?_
  refine lv_iconst (v := iZ ((1 : Nat) : Int)) hx hb d_L_law_664 (by decide) ?_
  refine z_iaddN (u := i) (v := 1) hx hb d_L_law_665 ?_
  refine z_sld (v := iZ ((kd : Nat) : Int)) hx hb hX hbl hbA hS (i + 1) (by omega) ha1 d_L_law_666 ?_
  refine z_ki (z_runV (As := [.int (iZ ((kd : Nat) : Int))]) (rest := []) zTB Z (k_M_sum0 hI hM hkd) ⟨ml_L_132, im_M_sum, se_M_sum, ini_M, co_M_sum⟩ zd_M_sum ⟨Nat.le_of_ble_eq_true rfl, Nat.le_of_ble_eq_true rfl⟩ hP hK hD (ci := 5) (q0 := 19) rfl rfl rfl hl.1 rfl (Nat.le_of_ble_eq_true rfl) d_L_law_667 ⟨hc.1, hc.2⟩) hD hS hA (fun r9 w9 H locs hp9 hP hD hS => ?_)
  obtain ⟨M1, rfl, rfl, hc1, hM1⟩ := hp9
  have hP : va_P D classes (wdC ad cI cZ cL J rd pr G K (wdM ad cI cZ cL J rd pr M1 (oU ov ((iZ (sSO J 4 kd (jk J))).toInt64)))) H := hP
  have hD : va_D A (wdC ad cI cZ cL J rd pr G K (wdM ad cI cZ cL J rd pr M1 (oU ov ((iZ (sSO J 4 kd (jk J))).toInt64)))) := hD
  refine W.eq (g2 := F0 m 670 ls [.int (iZ (sSO J 4 kd (jk J)))]) rfl ?_
  refine lv_istore (lv' := [(6, .int (iZ (sSO J 4 kd (jk J)))), (5, .int (iZ ((0 : Nat) : Int))), (4, .int (iZ ((i : Nat) : Int))), (0, .ref (sb)), (1, .ref (ad 0)), (2, .ref (ad 19)), (3, .ref (ad 33))]) hx hb d_L_law_670 hl (by decide) rfl (fun ls hl => ?_)
  refine lv_aload_n hx hb d_L_law_672 rfl (lv_at hl 5 rfl) ?_
  refine z_callVR (As := []) (rest := []) zTB Z (k_M_thrown) ⟨ml_L_101, im_M_thrown, se_M_thrown, ini_M, co_M_thrown⟩ zd_M_thrown ⟨Nat.le_of_ble_eq_true rfl, Nat.le_of_ble_eq_true rfl⟩ hP hK (ci := 5) (q0 := 19) rfl rfl rfl hl.1 rfl (Nat.le_of_ble_eq_true rfl) d_L_law_673 ⟨hc.1, hc.2⟩ ?_
  refine W.eq (g2 := F0 m 676 ls [.int (iZ ((M1.1 : Nat) : Int))]) rfl ?_
  refine z_topZ (b := ((0 : Nat) : Int)) (by rw [hc1]) ?_
  refine lv_iload hx hb d_L_law_676 (lv_at hl 1 rfl) ?_
  refine z_icmp_eq (a := ((0 : Nat) : Int)) (b := ((0 : Nat) : Int)) (tgt := 683) hx hb (by omega) d_L_law_678 (by decide) (fun q678 => ?_) (fun q678 => ?_)
  · skip
    refine lv_iload hx hb d_L_law_683 (lv_at hl 1 rfl) ?_
    refine z_if_ne (a := ((0 : Nat) : Int)) (tgt := 700) hx hb (by omega) d_L_law_685 (by decide) (fun q685 => ?_) (fun q685 => ?_)
    · skip
      exfalso; omega
    · skip
      refine lv_aload_n hx hb d_L_law_688 rfl (lv_at hl 6 rfl) ?_
      refine lv_iconst (v := iZ ((0 : Nat) : Int)) hx hb d_L_law_689 (by decide) ?_
      refine z_old (x := (iZ (sSO J 4 kd (jk J))).toInt64) hx hb hK hP 33 2 rfl rfl d_L_law_690 ?_
      refine lv_iload hx hb d_L_law_691 (lv_at hl 0 rfl) ?_
      refine lv_i2l (v := (iZ (sSO J 4 kd (jk J))).toInt64) hx hb d_L_law_693 rfl ?_
      refine z_lcmpR_eq (tgt := 700) (pc1 := 695) (pc4 := 698) hx hb d_L_law_694 rfl rfl d_L_law_695 (by decide) (fun q694 => ?_) (fun q694 => ?_)
      · skip
        refine lv_goto (tgt := 1598) hx hb d_L_law_700 (by decide) ?_
        exact kk J _ _ _ _ _ _ H locs ls ⟨hI, hM1, hR, hpq⟩ hP hD hS (lv_sub hl [2, 3, 4, 5, 6] rfl)
      · skip
        exact absurd rfl q694
  · skip
    exfalso; omega

set_option maxHeartbeats 4000000 in
set_option maxRecDepth 100000 in
theorem lf_odds_x1 {p : Program} {l : Launch} {e : Env} {s : State} {m : MethodId} {below : List Frame} {meth : Method} {c : Code} {Q : State → Prop} {sb L : Nat} {xs : Nat → Int32} {D : va_G} {A : Nat → Prop} {ad : Nat → Nat} {cI cZ cL : ClassId} {J : SJ} {rd : Nat → Int} {pr : Nat → Nat} {G : SH} {K : SK} {M : SM} {ov : Nat → Int64} {H : Heap} {locs : List Loc} {cells slots i : Nat} {ls : Array Slot} (X : LX p l s m meth c sb L xs D cI cZ cL A) (hLI : LI J rd pr M) (hi : i + 4 < L) (hc : cells + 1 ≤ 1061 ∧ slots + 6 ≤ 9679) {a b : Int} (h : z32 a ∧ (a < 0 ∨ 3 ≤ a)) (hz : z32 b) (ha1 : xs (i + 1) = iZ (a)) (ha2 : xs (i + 2) = iZ (b)) (hP : va_P D classes (wdC ad cI cZ cL J rd pr G K (wdM ad cI cZ cL J rd pr M ov)) H) (hD : va_D A (wdC ad cI cZ cL J rd pr G K (wdM ad cI cZ cL J rd pr M ov))) (hS : va_S A s.heap H locs) (hl : lv_has ls 8 (lwL ad sb i)) (kk : LK p l e s m below meth c Q sb D A ad cI cZ cL i (cells + 1) (slots + 6)) : W p l e room_1 s m #[Value.ref sb] below meth c H locs cells slots Q (F0 m 703 ls []) := by
  obtain ⟨hl0, Z, hX, hbl, hK, hA, hbA, hTT, hSt, hL⟩ := X
  obtain ⟨hI, hM, hR, hpq⟩ := hLI
  obtain ⟨hx, hb, hr, hml, hown, hts, hE, hlocks⟩ := id Z
  have hn32 := hI.1
  have hk32 := hI.2.1
  have hl : lv_has ls 8 [(4, .int (iZ ((i : Nat) : Int))), (0, .ref (sb)), (1, .ref (ad 0)), (2, .ref (ad 19)), (3, .ref (ad 33))] := hl
  refine lv_aload_n hx hb d_L_law_703 rfl (lv_at hl 2 rfl) ?_
  refine lv_aload_n hx hb d_L_law_704 rfl (lv_at hl 1 rfl) ?_
  refine lv_iload hx hb d_L_law_705 (lv_at hl 0 rfl) ?_
  refine lv_iconst (v := iZ ((1 : Nat) : Int)) hx hb d_L_law_707 (by decide) ?_
  refine z_iaddN (u := i) (v := 1) hx hb d_L_law_708 ?_
  refine z_sld (v := iZ (a)) hx hb hX hbl hbA hS (i + 1) (by omega) ha1 d_L_law_709 ?_
  refine lv_aload_n hx hb d_L_law_710 rfl (lv_at hl 1 rfl) ?_
  refine lv_iload hx hb d_L_law_711 (lv_at hl 0 rfl) ?_
  refine lv_iconst (v := iZ ((2 : Nat) : Int)) hx hb d_L_law_713 (by decide) ?_
  refine z_iaddN (u := i) (v := 2) hx hb d_L_law_714 ?_
  refine z_sld (v := iZ (b)) hx hb hX hbl hbA hS (i + 2) (by omega) ha2 d_L_law_715 ?_
  refine lv_aload_n hx hb d_L_law_716 rfl (lv_at hl 4 rfl) ?_
  refine z_kiW (z_runSW (As := [.ref (ad 0), .int (iZ (a)), .int (iZ (b)), .ref (ad 33)]) (rest := []) Z (k_L_oddsx1 hl0 hI (a := a) (b := b) h) ⟨ml_L_133, sm_L_odds, ini_L, co_L_odds⟩ zd_L_odds ⟨Nat.le_of_ble_eq_true rfl, Nat.le_of_ble_eq_true rfl⟩ hP hK hD (hTT _ _ hS) hSt hl.1 rfl (Nat.le_of_ble_eq_true rfl) d_L_law_717 ⟨hc.1, hc.2⟩) hD hS hA (fun r9 w9 H locs hp9 hP hD hS => ?_)
  obtain ⟨rfl, rfl⟩ := hp9
  have hP : va_P D classes (wdC ad cI cZ cL J rd pr G K (wdM ad cI cZ cL J rd pr M ov)) H := hP
  have hD : va_D A (wdC ad cI cZ cL J rd pr G K (wdM ad cI cZ cL J rd pr M ov)) := hD
  refine W.eq (g2 := F0 m 720 ls [.int (iZ ((1 : Nat) : Int))]) rfl ?_
  refine lv_istore (lv' := [(5, .int (iZ ((1 : Nat) : Int))), (4, .int (iZ ((i : Nat) : Int))), (0, .ref (sb)), (1, .ref (ad 0)), (2, .ref (ad 19)), (3, .ref (ad 33))]) hx hb d_L_law_720 hl (by decide) rfl (fun ls hl => ?_)
  refine lv_aload_n hx hb d_L_law_722 rfl (lv_at hl 4 rfl) ?_
  refine lv_aload_n hx hb d_L_law_723 rfl (lv_at hl 2 rfl) ?_
  refine lv_iload hx hb d_L_law_724 (lv_at hl 1 rfl) ?_
  refine lv_iconst (v := iZ ((1 : Nat) : Int)) hx hb d_L_law_726 (by decide) ?_
  refine z_iaddN (u := i) (v := 1) hx hb d_L_law_727 ?_
  refine z_sld (v := iZ (a)) hx hb hX hbl hbA hS (i + 1) (by omega) ha1 d_L_law_728 ?_
  refine lv_aload_n hx hb d_L_law_729 rfl (lv_at hl 2 rfl) ?_
  refine lv_iload hx hb d_L_law_730 (lv_at hl 1 rfl) ?_
  refine lv_iconst (v := iZ ((2 : Nat) : Int)) hx hb d_L_law_732 (by decide) ?_
  refine z_iaddN (u := i) (v := 2) hx hb d_L_law_733 ?_
  refine z_sld (v := iZ (b)) hx hb hX hbl hbA hS (i + 2) (by omega) ha2 d_L_law_734 ?_
  refine z_kl (z_runV (As := [.int (iZ (a)), .int (iZ (b))]) (rest := []) zTB Z (k_M_oddsx1 hI hM (a := a) (b := b) (by omega)) ⟨ml_L_135, im_M_odds, se_M_odds, ini_M, co_M_odds⟩ zd_M_odds ⟨Nat.le_of_ble_eq_true rfl, Nat.le_of_ble_eq_true rfl⟩ hP hK hD (ci := 5) (q0 := 19) rfl rfl rfl hl.1 rfl (Nat.le_of_ble_eq_true rfl) d_L_law_735 ⟨hc.1, hc.2⟩) hD hS hA (fun r9 w9 H locs hp9 hP hD hS => ?_)
  obtain ⟨M1, rfl, hc1, hM1⟩ := hp9
  have hP : va_P D classes (wdC ad cI cZ cL J rd pr G K (wdM ad cI cZ cL J rd pr M1 ov)) H := hP
  have hD : va_D A (wdC ad cI cZ cL J rd pr G K (wdM ad cI cZ cL J rd pr M1 ov)) := hD
  refine W.eq (g2 := F0 m 738 ls [.long (r9)]) rfl ?_
  refine lv_lstore (lv' := [(6, .long (r9)), (5, .int (iZ ((1 : Nat) : Int))), (4, .int (iZ ((i : Nat) : Int))), (0, .ref (sb)), (1, .ref (ad 0)), (2, .ref (ad 19)), (3, .ref (ad 33))]) hx hb d_L_law_738 hl (by decide) rfl (fun ls hl => ?_)
  refine lv_aload_n hx hb d_L_law_740 rfl (lv_at hl 5 rfl) ?_
  refine z_callVR (As := []) (rest := []) zTB Z (k_M_thrown) ⟨ml_L_101, im_M_thrown, se_M_thrown, ini_M, co_M_thrown⟩ zd_M_thrown ⟨Nat.le_of_ble_eq_true rfl, Nat.le_of_ble_eq_true rfl⟩ hP hK (ci := 5) (q0 := 19) rfl rfl rfl hl.1 rfl (Nat.le_of_ble_eq_true rfl) d_L_law_741 ⟨hc.1, hc.2⟩ ?_
  refine W.eq (g2 := F0 m 744 ls [.int (iZ ((M1.1 : Nat) : Int))]) rfl ?_
  refine z_topZ (b := ((1 : Nat) : Int)) (by rw [hc1]) ?_
  refine lv_iload hx hb d_L_law_744 (lv_at hl 1 rfl) ?_
  refine z_icmp_eq (a := ((1 : Nat) : Int)) (b := ((1 : Nat) : Int)) (tgt := 751) hx hb (by omega) d_L_law_746 (by decide) (fun q746 => ?_) (fun q746 => ?_)
  · skip
    refine lv_iload hx hb d_L_law_751 (lv_at hl 1 rfl) ?_
    refine z_if_ne (a := ((1 : Nat) : Int)) (tgt := 767) hx hb (by omega) d_L_law_753 (by decide) (fun q753 => ?_) (fun q753 => ?_)
    · skip
      refine lv_goto (tgt := 1598) hx hb d_L_law_767 (by decide) ?_
      exact kk J _ _ _ _ _ _ H locs ls ⟨hI, hM1, hR, hpq⟩ hP hD hS (lv_sub hl [2, 3, 4, 5, 6] rfl)
    · skip
      exfalso; omega
  · skip
    exfalso; omega

set_option maxHeartbeats 4000000 in
set_option maxRecDepth 100000 in
theorem lf_odds_x2 {p : Program} {l : Launch} {e : Env} {s : State} {m : MethodId} {below : List Frame} {meth : Method} {c : Code} {Q : State → Prop} {sb L : Nat} {xs : Nat → Int32} {D : va_G} {A : Nat → Prop} {ad : Nat → Nat} {cI cZ cL : ClassId} {J : SJ} {rd : Nat → Int} {pr : Nat → Nat} {G : SH} {K : SK} {M : SM} {ov : Nat → Int64} {H : Heap} {locs : List Loc} {cells slots i : Nat} {ls : Array Slot} (X : LX p l s m meth c sb L xs D cI cZ cL A) (hLI : LI J rd pr M) (hi : i + 4 < L) (hc : cells + 1 ≤ 1061 ∧ slots + 6 ≤ 9679) {kd : Nat} {b : Int} (hkd : kd < 3) (h : z32 b ∧ (b < 0 ∨ 2 ≤ b)) (ha1 : xs (i + 1) = iZ ((kd : Nat) : Int)) (ha2 : xs (i + 2) = iZ (b)) (hP : va_P D classes (wdC ad cI cZ cL J rd pr G K (wdM ad cI cZ cL J rd pr M ov)) H) (hD : va_D A (wdC ad cI cZ cL J rd pr G K (wdM ad cI cZ cL J rd pr M ov))) (hS : va_S A s.heap H locs) (hl : lv_has ls 8 (lwL ad sb i)) (kk : LK p l e s m below meth c Q sb D A ad cI cZ cL i (cells + 1) (slots + 6)) : W p l e room_1 s m #[Value.ref sb] below meth c H locs cells slots Q (F0 m 703 ls []) := by
  obtain ⟨hl0, Z, hX, hbl, hK, hA, hbA, hTT, hSt, hL⟩ := X
  obtain ⟨hI, hM, hR, hpq⟩ := hLI
  obtain ⟨hx, hb, hr, hml, hown, hts, hE, hlocks⟩ := id Z
  have hn32 := hI.1
  have hk32 := hI.2.1
  have hl : lv_has ls 8 [(4, .int (iZ ((i : Nat) : Int))), (0, .ref (sb)), (1, .ref (ad 0)), (2, .ref (ad 19)), (3, .ref (ad 33))] := hl
  refine lv_aload_n hx hb d_L_law_703 rfl (lv_at hl 2 rfl) ?_
  refine lv_aload_n hx hb d_L_law_704 rfl (lv_at hl 1 rfl) ?_
  refine lv_iload hx hb d_L_law_705 (lv_at hl 0 rfl) ?_
  refine lv_iconst (v := iZ ((1 : Nat) : Int)) hx hb d_L_law_707 (by decide) ?_
  refine z_iaddN (u := i) (v := 1) hx hb d_L_law_708 ?_
  refine z_sld (v := iZ ((kd : Nat) : Int)) hx hb hX hbl hbA hS (i + 1) (by omega) ha1 d_L_law_709 ?_
  refine lv_aload_n hx hb d_L_law_710 rfl (lv_at hl 1 rfl) ?_
  refine lv_iload hx hb d_L_law_711 (lv_at hl 0 rfl) ?_
  refine lv_iconst (v := iZ ((2 : Nat) : Int)) hx hb d_L_law_713 (by decide) ?_
  refine z_iaddN (u := i) (v := 2) hx hb d_L_law_714 ?_
  refine z_sld (v := iZ (b)) hx hb hX hbl hbA hS (i + 2) (by omega) ha2 d_L_law_715 ?_
  refine lv_aload_n hx hb d_L_law_716 rfl (lv_at hl 4 rfl) ?_
  refine z_kiW (z_runSW (As := [.ref (ad 0), .int (iZ ((kd : Nat) : Int)), .int (iZ (b)), .ref (ad 33)]) (rest := []) Z (k_L_oddsx2 hl0 hI (kd := kd) (b := b) hkd h) ⟨ml_L_133, sm_L_odds, ini_L, co_L_odds⟩ zd_L_odds ⟨Nat.le_of_ble_eq_true rfl, Nat.le_of_ble_eq_true rfl⟩ hP hK hD (hTT _ _ hS) hSt hl.1 rfl (Nat.le_of_ble_eq_true rfl) d_L_law_717 ⟨hc.1, hc.2⟩) hD hS hA (fun r9 w9 H locs hp9 hP hD hS => ?_)
  obtain ⟨rfl, rfl⟩ := hp9
  have hP : va_P D classes (wdC ad cI cZ cL J rd pr G K (wdM ad cI cZ cL J rd pr M ov)) H := hP
  have hD : va_D A (wdC ad cI cZ cL J rd pr G K (wdM ad cI cZ cL J rd pr M ov)) := hD
  refine W.eq (g2 := F0 m 720 ls [.int (iZ ((1 : Nat) : Int))]) rfl ?_
  refine lv_istore (lv' := [(5, .int (iZ ((1 : Nat) : Int))), (4, .int (iZ ((i : Nat) : Int))), (0, .ref (sb)), (1, .ref (ad 0)), (2, .ref (ad 19)), (3, .ref (ad 33))]) hx hb d_L_law_720 hl (by decide) rfl (fun ls hl => ?_)
  refine lv_aload_n hx hb d_L_law_722 rfl (lv_at hl 4 rfl) ?_
  refine lv_aload_n hx hb d_L_law_723 rfl (lv_at hl 2 rfl) ?_
  refine lv_iload hx hb d_L_law_724 (lv_at hl 1 rfl) ?_
  refine lv_iconst (v := iZ ((1 : Nat) : Int)) hx hb d_L_law_726 (by decide) ?_
  refine z_iaddN (u := i) (v := 1) hx hb d_L_law_727 ?_
  refine z_sld (v := iZ ((kd : Nat) : Int)) hx hb hX hbl hbA hS (i + 1) (by omega) ha1 d_L_law_728 ?_
  refine lv_aload_n hx hb d_L_law_729 rfl (lv_at hl 2 rfl) ?_
  refine lv_iload hx hb d_L_law_730 (lv_at hl 1 rfl) ?_
  refine lv_iconst (v := iZ ((2 : Nat) : Int)) hx hb d_L_law_732 (by decide) ?_
  refine z_iaddN (u := i) (v := 2) hx hb d_L_law_733 ?_
  refine z_sld (v := iZ (b)) hx hb hX hbl hbA hS (i + 2) (by omega) ha2 d_L_law_734 ?_
  refine z_kl (z_runV (As := [.int (iZ ((kd : Nat) : Int)), .int (iZ (b))]) (rest := []) zTB Z (k_M_oddsx1 hI hM (a := ((kd : Nat) : Int)) (b := b) (by omega)) ⟨ml_L_135, im_M_odds, se_M_odds, ini_M, co_M_odds⟩ zd_M_odds ⟨Nat.le_of_ble_eq_true rfl, Nat.le_of_ble_eq_true rfl⟩ hP hK hD (ci := 5) (q0 := 19) rfl rfl rfl hl.1 rfl (Nat.le_of_ble_eq_true rfl) d_L_law_735 ⟨hc.1, hc.2⟩) hD hS hA (fun r9 w9 H locs hp9 hP hD hS => ?_)
  obtain ⟨M1, rfl, hc1, hM1⟩ := hp9
  have hP : va_P D classes (wdC ad cI cZ cL J rd pr G K (wdM ad cI cZ cL J rd pr M1 ov)) H := hP
  have hD : va_D A (wdC ad cI cZ cL J rd pr G K (wdM ad cI cZ cL J rd pr M1 ov)) := hD
  refine W.eq (g2 := F0 m 738 ls [.long (r9)]) rfl ?_
  refine lv_lstore (lv' := [(6, .long (r9)), (5, .int (iZ ((1 : Nat) : Int))), (4, .int (iZ ((i : Nat) : Int))), (0, .ref (sb)), (1, .ref (ad 0)), (2, .ref (ad 19)), (3, .ref (ad 33))]) hx hb d_L_law_738 hl (by decide) rfl (fun ls hl => ?_)
  refine lv_aload_n hx hb d_L_law_740 rfl (lv_at hl 5 rfl) ?_
  refine z_callVR (As := []) (rest := []) zTB Z (k_M_thrown) ⟨ml_L_101, im_M_thrown, se_M_thrown, ini_M, co_M_thrown⟩ zd_M_thrown ⟨Nat.le_of_ble_eq_true rfl, Nat.le_of_ble_eq_true rfl⟩ hP hK (ci := 5) (q0 := 19) rfl rfl rfl hl.1 rfl (Nat.le_of_ble_eq_true rfl) d_L_law_741 ⟨hc.1, hc.2⟩ ?_
  refine W.eq (g2 := F0 m 744 ls [.int (iZ ((M1.1 : Nat) : Int))]) rfl ?_
  refine z_topZ (b := ((1 : Nat) : Int)) (by rw [hc1]) ?_
  refine lv_iload hx hb d_L_law_744 (lv_at hl 1 rfl) ?_
  refine z_icmp_eq (a := ((1 : Nat) : Int)) (b := ((1 : Nat) : Int)) (tgt := 751) hx hb (by omega) d_L_law_746 (by decide) (fun q746 => ?_) (fun q746 => ?_)
  · skip
    refine lv_iload hx hb d_L_law_751 (lv_at hl 1 rfl) ?_
    refine z_if_ne (a := ((1 : Nat) : Int)) (tgt := 767) hx hb (by omega) d_L_law_753 (by decide) (fun q753 => ?_) (fun q753 => ?_)
    · skip
      refine lv_goto (tgt := 1598) hx hb d_L_law_767 (by decide) ?_
      exact kk J _ _ _ _ _ _ H locs ls ⟨hI, hM1, hR, hpq⟩ hP hD hS (lv_sub hl [2, 3, 4, 5, 6] rfl)
    · skip
      exfalso; omega
  · skip
    exfalso; omega

set_option maxHeartbeats 4000000 in
set_option maxRecDepth 100000 in
theorem lf_odds_0 {p : Program} {l : Launch} {e : Env} {s : State} {m : MethodId} {below : List Frame} {meth : Method} {c : Code} {Q : State → Prop} {sb L : Nat} {xs : Nat → Int32} {D : va_G} {A : Nat → Prop} {ad : Nat → Nat} {cI cZ cL : ClassId} {J : SJ} {rd : Nat → Int} {pr : Nat → Nat} {G : SH} {K : SK} {M : SM} {ov : Nat → Int64} {H : Heap} {locs : List Loc} {cells slots i : Nat} {ls : Array Slot} (X : LX p l s m meth c sb L xs D cI cZ cL A) (hLI : LI J rd pr M) (hi : i + 4 < L) (hc : cells + 1 ≤ 1061 ∧ slots + 6 ≤ 9679) {kd pt : Nat} (hkd : kd < 3) (hpt : pt < 2) (ha1 : xs (i + 1) = iZ ((kd : Nat) : Int)) (ha2 : xs (i + 2) = iZ ((pt : Nat) : Int)) (hP : va_P D classes (wdC ad cI cZ cL J rd pr G K (wdM ad cI cZ cL J rd pr M ov)) H) (hD : va_D A (wdC ad cI cZ cL J rd pr G K (wdM ad cI cZ cL J rd pr M ov))) (hS : va_S A s.heap H locs) (hl : lv_has ls 8 (lwL ad sb i)) (kk : LK p l e s m below meth c Q sb D A ad cI cZ cL i (cells + 1) (slots + 6)) : W p l e room_1 s m #[Value.ref sb] below meth c H locs cells slots Q (F0 m 703 ls []) := by
  obtain ⟨hl0, Z, hX, hbl, hK, hA, hbA, hTT, hSt, hL⟩ := X
  obtain ⟨hI, hM, hR, hpq⟩ := hLI
  obtain ⟨hx, hb, hr, hml, hown, hts, hE, hlocks⟩ := id Z
  have hn32 := hI.1
  have hk32 := hI.2.1
  have hl : lv_has ls 8 [(4, .int (iZ ((i : Nat) : Int))), (0, .ref (sb)), (1, .ref (ad 0)), (2, .ref (ad 19)), (3, .ref (ad 33))] := hl
  refine lv_aload_n hx hb d_L_law_703 rfl (lv_at hl 2 rfl) ?_
  refine lv_aload_n hx hb d_L_law_704 rfl (lv_at hl 1 rfl) ?_
  refine lv_iload hx hb d_L_law_705 (lv_at hl 0 rfl) ?_
  refine lv_iconst (v := iZ ((1 : Nat) : Int)) hx hb d_L_law_707 (by decide) ?_
  refine z_iaddN (u := i) (v := 1) hx hb d_L_law_708 ?_
  refine z_sld (v := iZ ((kd : Nat) : Int)) hx hb hX hbl hbA hS (i + 1) (by omega) ha1 d_L_law_709 ?_
  refine lv_aload_n hx hb d_L_law_710 rfl (lv_at hl 1 rfl) ?_
  refine lv_iload hx hb d_L_law_711 (lv_at hl 0 rfl) ?_
  refine lv_iconst (v := iZ ((2 : Nat) : Int)) hx hb d_L_law_713 (by decide) ?_
  refine z_iaddN (u := i) (v := 2) hx hb d_L_law_714 ?_
  refine z_sld (v := iZ ((pt : Nat) : Int)) hx hb hX hbl hbA hS (i + 2) (by omega) ha2 d_L_law_715 ?_
  refine lv_aload_n hx hb d_L_law_716 rfl (lv_at hl 4 rfl) ?_
  refine z_kiW (z_runSW (As := [.ref (ad 0), .int (iZ ((kd : Nat) : Int)), .int (iZ ((pt : Nat) : Int)), .ref (ad 33)]) (rest := []) Z (k_L_odds0 hI (kd := kd) (pt := pt) hkd hpt) ⟨ml_L_133, sm_L_odds, ini_L, co_L_odds⟩ zd_L_odds ⟨Nat.le_of_ble_eq_true rfl, Nat.le_of_ble_eq_true rfl⟩ hP hK hD (hTT _ _ hS) hSt hl.1 rfl (Nat.le_of_ble_eq_true rfl) d_L_law_717 ⟨hc.1, hc.2⟩) hD hS hA (fun r9 w9 H locs hp9 hP hD hS => ?_)
  obtain ⟨rfl, G2, rfl⟩ := hp9
  have hP : va_P D classes (wdC ad cI cZ cL J rd pr G2 K (wdM ad cI cZ cL J rd pr M (oU ov (lZ (sTP ((sOs J kd (jk J) (fun s => if s ≤ sOc J kd (jk J) then 1 else 0) : Nat) : Int) (2 ^ sKO J 4 kd (jk J)) pt))))) H := hP
  have hD : va_D A (wdC ad cI cZ cL J rd pr G2 K (wdM ad cI cZ cL J rd pr M (oU ov (lZ (sTP ((sOs J kd (jk J) (fun s => if s ≤ sOc J kd (jk J) then 1 else 0) : Nat) : Int) (2 ^ sKO J 4 kd (jk J)) pt))))) := hD
  refine W.eq (g2 := F0 m 720 ls [.int (iZ ((0 : Nat) : Int))]) rfl ?_
  refine lv_istore (lv' := [(5, .int (iZ ((0 : Nat) : Int))), (4, .int (iZ ((i : Nat) : Int))), (0, .ref (sb)), (1, .ref (ad 0)), (2, .ref (ad 19)), (3, .ref (ad 33))]) hx hb d_L_law_720 hl (by decide) rfl (fun ls hl => ?_)
  refine lv_aload_n hx hb d_L_law_722 rfl (lv_at hl 4 rfl) ?_
  refine lv_aload_n hx hb d_L_law_723 rfl (lv_at hl 2 rfl) ?_
  refine lv_iload hx hb d_L_law_724 (lv_at hl 1 rfl) ?_
  refine lv_iconst (v := iZ ((1 : Nat) : Int)) hx hb d_L_law_726 (by decide) ?_
  refine z_iaddN (u := i) (v := 1) hx hb d_L_law_727 ?_
  refine z_sld (v := iZ ((kd : Nat) : Int)) hx hb hX hbl hbA hS (i + 1) (by omega) ha1 d_L_law_728 ?_
  refine lv_aload_n hx hb d_L_law_729 rfl (lv_at hl 2 rfl) ?_
  refine lv_iload hx hb d_L_law_730 (lv_at hl 1 rfl) ?_
  refine lv_iconst (v := iZ ((2 : Nat) : Int)) hx hb d_L_law_732 (by decide) ?_
  refine z_iaddN (u := i) (v := 2) hx hb d_L_law_733 ?_
  refine z_sld (v := iZ ((pt : Nat) : Int)) hx hb hX hbl hbA hS (i + 2) (by omega) ha2 d_L_law_734 ?_
  refine z_kl (z_runV (As := [.int (iZ ((kd : Nat) : Int)), .int (iZ ((pt : Nat) : Int))]) (rest := []) zTB Z (k_M_odds0 hI hM hkd hpt) ⟨ml_L_135, im_M_odds, se_M_odds, ini_M, co_M_odds⟩ zd_M_odds ⟨Nat.le_of_ble_eq_true rfl, Nat.le_of_ble_eq_true rfl⟩ hP hK hD (ci := 5) (q0 := 19) rfl rfl rfl hl.1 rfl (Nat.le_of_ble_eq_true rfl) d_L_law_735 ⟨hc.1, hc.2⟩) hD hS hA (fun r9 w9 H locs hp9 hP hD hS => ?_)
  obtain ⟨M1, rfl, rfl, hc1, hM1⟩ := hp9
  have hP : va_P D classes (wdC ad cI cZ cL J rd pr G2 K (wdM ad cI cZ cL J rd pr M1 (oU ov (lZ (sTP ((sOs J kd (jk J) (fun s => if s ≤ sOc J kd (jk J) then 1 else 0) : Nat) : Int) (2 ^ sKO J 4 kd (jk J)) pt))))) H := hP
  have hD : va_D A (wdC ad cI cZ cL J rd pr G2 K (wdM ad cI cZ cL J rd pr M1 (oU ov (lZ (sTP ((sOs J kd (jk J) (fun s => if s ≤ sOc J kd (jk J) then 1 else 0) : Nat) : Int) (2 ^ sKO J 4 kd (jk J)) pt))))) := hD
  refine W.eq (g2 := F0 m 738 ls [.long (lZ (sTP ((sOs J kd (jk J) (fun s => if s ≤ sOc J kd (jk J) then 1 else 0) : Nat) : Int) (2 ^ sKO J 4 kd (jk J)) pt))]) rfl ?_
  refine lv_lstore (lv' := [(6, .long (lZ (sTP ((sOs J kd (jk J) (fun s => if s ≤ sOc J kd (jk J) then 1 else 0) : Nat) : Int) (2 ^ sKO J 4 kd (jk J)) pt))), (5, .int (iZ ((0 : Nat) : Int))), (4, .int (iZ ((i : Nat) : Int))), (0, .ref (sb)), (1, .ref (ad 0)), (2, .ref (ad 19)), (3, .ref (ad 33))]) hx hb d_L_law_738 hl (by decide) rfl (fun ls hl => ?_)
  refine lv_aload_n hx hb d_L_law_740 rfl (lv_at hl 5 rfl) ?_
  refine z_callVR (As := []) (rest := []) zTB Z (k_M_thrown) ⟨ml_L_101, im_M_thrown, se_M_thrown, ini_M, co_M_thrown⟩ zd_M_thrown ⟨Nat.le_of_ble_eq_true rfl, Nat.le_of_ble_eq_true rfl⟩ hP hK (ci := 5) (q0 := 19) rfl rfl rfl hl.1 rfl (Nat.le_of_ble_eq_true rfl) d_L_law_741 ⟨hc.1, hc.2⟩ ?_
  refine W.eq (g2 := F0 m 744 ls [.int (iZ ((M1.1 : Nat) : Int))]) rfl ?_
  refine z_topZ (b := ((0 : Nat) : Int)) (by rw [hc1]) ?_
  refine lv_iload hx hb d_L_law_744 (lv_at hl 1 rfl) ?_
  refine z_icmp_eq (a := ((0 : Nat) : Int)) (b := ((0 : Nat) : Int)) (tgt := 751) hx hb (by omega) d_L_law_746 (by decide) (fun q746 => ?_) (fun q746 => ?_)
  · skip
    refine lv_iload hx hb d_L_law_751 (lv_at hl 1 rfl) ?_
    refine z_if_ne (a := ((0 : Nat) : Int)) (tgt := 767) hx hb (by omega) d_L_law_753 (by decide) (fun q753 => ?_) (fun q753 => ?_)
    · skip
      exfalso; omega
    · skip
      refine lv_aload_n hx hb d_L_law_756 rfl (lv_at hl 6 rfl) ?_
      refine lv_iconst (v := iZ ((0 : Nat) : Int)) hx hb d_L_law_757 (by decide) ?_
      refine z_old (x := lZ (sTP ((sOs J kd (jk J) (fun s => if s ≤ sOc J kd (jk J) then 1 else 0) : Nat) : Int) (2 ^ sKO J 4 kd (jk J)) pt)) hx hb hK hP 33 2 rfl rfl d_L_law_758 ?_
      refine lv_lload hx hb d_L_law_759 (lv_at hl 0 rfl) ?_
      refine z_lcmpR_eq (tgt := 767) (pc1 := 762) (pc4 := 765) hx hb d_L_law_761 rfl rfl d_L_law_762 (by decide) (fun q761 => ?_) (fun q761 => ?_)
      · skip
        refine lv_goto (tgt := 1598) hx hb d_L_law_767 (by decide) ?_
        exact kk J _ _ _ _ _ _ H locs ls ⟨hI, hM1, hR, hpq⟩ hP hD hS (lv_sub hl [2, 3, 4, 5, 6] rfl)
      · skip
        exact absurd rfl q761
  · skip
    exfalso; omega

set_option maxHeartbeats 4000000 in
set_option maxRecDepth 100000 in
theorem lf_rankOdds_x1 {p : Program} {l : Launch} {e : Env} {s : State} {m : MethodId} {below : List Frame} {meth : Method} {c : Code} {Q : State → Prop} {sb L : Nat} {xs : Nat → Int32} {D : va_G} {A : Nat → Prop} {ad : Nat → Nat} {cI cZ cL : ClassId} {J : SJ} {rd : Nat → Int} {pr : Nat → Nat} {G : SH} {K : SK} {M : SM} {ov : Nat → Int64} {H : Heap} {locs : List Loc} {cells slots i : Nat} {ls : Array Slot} (X : LX p l s m meth c sb L xs D cI cZ cL A) (hLI : LI J rd pr M) (hi : i + 4 < L) (hc : cells + 1 ≤ 1061 ∧ slots + 6 ≤ 9679) {a b : Int} (h : z32 a ∧ (a < 0 ∨ 3 ≤ a)) (hz : z32 b) (ha1 : xs (i + 1) = iZ (a)) (ha2 : xs (i + 2) = iZ (b)) (hP : va_P D classes (wdC ad cI cZ cL J rd pr G K (wdM ad cI cZ cL J rd pr M ov)) H) (hD : va_D A (wdC ad cI cZ cL J rd pr G K (wdM ad cI cZ cL J rd pr M ov))) (hS : va_S A s.heap H locs) (hl : lv_has ls 8 (lwL ad sb i)) (kk : LK p l e s m below meth c Q sb D A ad cI cZ cL i (cells + 1) (slots + 6)) : W p l e room_1 s m #[Value.ref sb] below meth c H locs cells slots Q (F0 m 838 ls []) := by
  obtain ⟨hl0, Z, hX, hbl, hK, hA, hbA, hTT, hSt, hL⟩ := X
  obtain ⟨hI, hM, hR, hpq⟩ := hLI
  obtain ⟨hx, hb, hr, hml, hown, hts, hE, hlocks⟩ := id Z
  have hn32 := hI.1
  have hk32 := hI.2.1
  have hl : lv_has ls 8 [(4, .int (iZ ((i : Nat) : Int))), (0, .ref (sb)), (1, .ref (ad 0)), (2, .ref (ad 19)), (3, .ref (ad 33))] := hl
  refine lv_aload_n hx hb d_L_law_838 rfl (lv_at hl 2 rfl) ?_
  refine lv_aload_n hx hb d_L_law_839 rfl (lv_at hl 1 rfl) ?_
  refine lv_iload hx hb d_L_law_840 (lv_at hl 0 rfl) ?_
  refine lv_iconst (v := iZ ((1 : Nat) : Int)) hx hb d_L_law_842 (by decide) ?_
  refine z_iaddN (u := i) (v := 1) hx hb d_L_law_843 ?_
  refine z_sld (v := iZ (a)) hx hb hX hbl hbA hS (i + 1) (by omega) ha1 d_L_law_844 ?_
  refine lv_aload_n hx hb d_L_law_845 rfl (lv_at hl 1 rfl) ?_
  refine lv_iload hx hb d_L_law_846 (lv_at hl 0 rfl) ?_
  refine lv_iconst (v := iZ ((2 : Nat) : Int)) hx hb d_L_law_848 (by decide) ?_
  refine z_iaddN (u := i) (v := 2) hx hb d_L_law_849 ?_
  refine z_sld (v := iZ (b)) hx hb hX hbl hbA hS (i + 2) (by omega) ha2 d_L_law_850 ?_
  refine lv_aload_n hx hb d_L_law_851 rfl (lv_at hl 4 rfl) ?_
  refine z_kiW (z_runSW (As := [.ref (ad 0), .int (iZ (a)), .int (iZ (b)), .ref (ad 33)]) (rest := []) Z (k_L_rankOddsx1 hl0 hI (a := a) (b := b) h) ⟨ml_L_139, sm_L_rankOdds, ini_L, co_L_rankOdds⟩ zd_L_rankOdds ⟨Nat.le_of_ble_eq_true rfl, Nat.le_of_ble_eq_true rfl⟩ hP hK hD (hTT _ _ hS) hSt hl.1 rfl (Nat.le_of_ble_eq_true rfl) d_L_law_852 ⟨hc.1, hc.2⟩) hD hS hA (fun r9 w9 H locs hp9 hP hD hS => ?_)
  obtain ⟨rfl, rfl⟩ := hp9
  have hP : va_P D classes (wdC ad cI cZ cL J rd pr G K (wdM ad cI cZ cL J rd pr M ov)) H := hP
  have hD : va_D A (wdC ad cI cZ cL J rd pr G K (wdM ad cI cZ cL J rd pr M ov)) := hD
  refine W.eq (g2 := F0 m 855 ls [.int (iZ ((1 : Nat) : Int))]) rfl ?_
  refine lv_istore (lv' := [(5, .int (iZ ((1 : Nat) : Int))), (4, .int (iZ ((i : Nat) : Int))), (0, .ref (sb)), (1, .ref (ad 0)), (2, .ref (ad 19)), (3, .ref (ad 33))]) hx hb d_L_law_855 hl (by decide) rfl (fun ls hl => ?_)
  refine lv_aload_n hx hb d_L_law_857 rfl (lv_at hl 4 rfl) ?_
  refine lv_aload_n hx hb d_L_law_858 rfl (lv_at hl 2 rfl) ?_
  refine lv_iload hx hb d_L_law_859 (lv_at hl 1 rfl) ?_
  refine lv_iconst (v := iZ ((1 : Nat) : Int)) hx hb d_L_law_861 (by decide) ?_
  refine z_iaddN (u := i) (v := 1) hx hb d_L_law_862 ?_
  refine z_sld (v := iZ (a)) hx hb hX hbl hbA hS (i + 1) (by omega) ha1 d_L_law_863 ?_
  refine lv_aload_n hx hb d_L_law_864 rfl (lv_at hl 2 rfl) ?_
  refine lv_iload hx hb d_L_law_865 (lv_at hl 1 rfl) ?_
  refine lv_iconst (v := iZ ((2 : Nat) : Int)) hx hb d_L_law_867 (by decide) ?_
  refine z_iaddN (u := i) (v := 2) hx hb d_L_law_868 ?_
  refine z_sld (v := iZ (b)) hx hb hX hbl hbA hS (i + 2) (by omega) ha2 d_L_law_869 ?_
  refine z_kl (z_runV (As := [.int (iZ (a)), .int (iZ (b))]) (rest := []) zTB Z (k_M_rankOddsx1 hI hM (a := a) (b := b) (by omega)) ⟨ml_L_141, im_M_rankOdds, se_M_rankOdds, ini_M, co_M_rankOdds⟩ zd_M_rankOdds ⟨Nat.le_of_ble_eq_true rfl, Nat.le_of_ble_eq_true rfl⟩ hP hK hD (ci := 5) (q0 := 19) rfl rfl rfl hl.1 rfl (Nat.le_of_ble_eq_true rfl) d_L_law_870 ⟨hc.1, hc.2⟩) hD hS hA (fun r9 w9 H locs hp9 hP hD hS => ?_)
  obtain ⟨M1, rfl, hc1, hM1⟩ := hp9
  have hP : va_P D classes (wdC ad cI cZ cL J rd pr G K (wdM ad cI cZ cL J rd pr M1 ov)) H := hP
  have hD : va_D A (wdC ad cI cZ cL J rd pr G K (wdM ad cI cZ cL J rd pr M1 ov)) := hD
  refine W.eq (g2 := F0 m 873 ls [.long (r9)]) rfl ?_
  refine lv_lstore (lv' := [(6, .long (r9)), (5, .int (iZ ((1 : Nat) : Int))), (4, .int (iZ ((i : Nat) : Int))), (0, .ref (sb)), (1, .ref (ad 0)), (2, .ref (ad 19)), (3, .ref (ad 33))]) hx hb d_L_law_873 hl (by decide) rfl (fun ls hl => ?_)
  refine lv_aload_n hx hb d_L_law_875 rfl (lv_at hl 5 rfl) ?_
  refine z_callVR (As := []) (rest := []) zTB Z (k_M_thrown) ⟨ml_L_101, im_M_thrown, se_M_thrown, ini_M, co_M_thrown⟩ zd_M_thrown ⟨Nat.le_of_ble_eq_true rfl, Nat.le_of_ble_eq_true rfl⟩ hP hK (ci := 5) (q0 := 19) rfl rfl rfl hl.1 rfl (Nat.le_of_ble_eq_true rfl) d_L_law_876 ⟨hc.1, hc.2⟩ ?_
  refine W.eq (g2 := F0 m 879 ls [.int (iZ ((M1.1 : Nat) : Int))]) rfl ?_
  refine z_topZ (b := ((1 : Nat) : Int)) (by rw [hc1]) ?_
  refine lv_iload hx hb d_L_law_879 (lv_at hl 1 rfl) ?_
  refine z_icmp_eq (a := ((1 : Nat) : Int)) (b := ((1 : Nat) : Int)) (tgt := 886) hx hb (by omega) d_L_law_881 (by decide) (fun q881 => ?_) (fun q881 => ?_)
  · skip
    refine lv_iload hx hb d_L_law_886 (lv_at hl 1 rfl) ?_
    refine z_if_ne (a := ((1 : Nat) : Int)) (tgt := 902) hx hb (by omega) d_L_law_888 (by decide) (fun q888 => ?_) (fun q888 => ?_)
    · skip
      refine lv_goto (tgt := 1598) hx hb d_L_law_902 (by decide) ?_
      exact kk J _ _ _ _ _ _ H locs ls ⟨hI, hM1, hR, hpq⟩ hP hD hS (lv_sub hl [2, 3, 4, 5, 6] rfl)
    · skip
      exfalso; omega
  · skip
    exfalso; omega

set_option maxHeartbeats 4000000 in
set_option maxRecDepth 100000 in
theorem lf_rankOdds_x2 {p : Program} {l : Launch} {e : Env} {s : State} {m : MethodId} {below : List Frame} {meth : Method} {c : Code} {Q : State → Prop} {sb L : Nat} {xs : Nat → Int32} {D : va_G} {A : Nat → Prop} {ad : Nat → Nat} {cI cZ cL : ClassId} {J : SJ} {rd : Nat → Int} {pr : Nat → Nat} {G : SH} {K : SK} {M : SM} {ov : Nat → Int64} {H : Heap} {locs : List Loc} {cells slots i : Nat} {ls : Array Slot} (X : LX p l s m meth c sb L xs D cI cZ cL A) (hLI : LI J rd pr M) (hi : i + 4 < L) (hc : cells + 1 ≤ 1061 ∧ slots + 6 ≤ 9679) {kd : Nat} {b : Int} (hkd : kd < 3) (h : z32 b ∧ (b < 0 ∨ 2 ≤ b)) (ha1 : xs (i + 1) = iZ ((kd : Nat) : Int)) (ha2 : xs (i + 2) = iZ (b)) (hP : va_P D classes (wdC ad cI cZ cL J rd pr G K (wdM ad cI cZ cL J rd pr M ov)) H) (hD : va_D A (wdC ad cI cZ cL J rd pr G K (wdM ad cI cZ cL J rd pr M ov))) (hS : va_S A s.heap H locs) (hl : lv_has ls 8 (lwL ad sb i)) (kk : LK p l e s m below meth c Q sb D A ad cI cZ cL i (cells + 1) (slots + 6)) : W p l e room_1 s m #[Value.ref sb] below meth c H locs cells slots Q (F0 m 838 ls []) := by
  obtain ⟨hl0, Z, hX, hbl, hK, hA, hbA, hTT, hSt, hL⟩ := X
  obtain ⟨hI, hM, hR, hpq⟩ := hLI
  obtain ⟨hx, hb, hr, hml, hown, hts, hE, hlocks⟩ := id Z
  have hn32 := hI.1
  have hk32 := hI.2.1
  have hl : lv_has ls 8 [(4, .int (iZ ((i : Nat) : Int))), (0, .ref (sb)), (1, .ref (ad 0)), (2, .ref (ad 19)), (3, .ref (ad 33))] := hl
  refine lv_aload_n hx hb d_L_law_838 rfl (lv_at hl 2 rfl) ?_
  refine lv_aload_n hx hb d_L_law_839 rfl (lv_at hl 1 rfl) ?_
  refine lv_iload hx hb d_L_law_840 (lv_at hl 0 rfl) ?_
  refine lv_iconst (v := iZ ((1 : Nat) : Int)) hx hb d_L_law_842 (by decide) ?_
  refine z_iaddN (u := i) (v := 1) hx hb d_L_law_843 ?_
  refine z_sld (v := iZ ((kd : Nat) : Int)) hx hb hX hbl hbA hS (i + 1) (by omega) ha1 d_L_law_844 ?_
  refine lv_aload_n hx hb d_L_law_845 rfl (lv_at hl 1 rfl) ?_
  refine lv_iload hx hb d_L_law_846 (lv_at hl 0 rfl) ?_
  refine lv_iconst (v := iZ ((2 : Nat) : Int)) hx hb d_L_law_848 (by decide) ?_
  refine z_iaddN (u := i) (v := 2) hx hb d_L_law_849 ?_
  refine z_sld (v := iZ (b)) hx hb hX hbl hbA hS (i + 2) (by omega) ha2 d_L_law_850 ?_
  refine lv_aload_n hx hb d_L_law_851 rfl (lv_at hl 4 rfl) ?_
  refine z_kiW (z_runSW (As := [.ref (ad 0), .int (iZ ((kd : Nat) : Int)), .int (iZ (b)), .ref (ad 33)]) (rest := []) Z (k_L_rankOddsx2 hl0 hI (kd := kd) (b := b) hkd h) ⟨ml_L_139, sm_L_rankOdds, ini_L, co_L_rankOdds⟩ zd_L_rankOdds ⟨Nat.le_of_ble_eq_true rfl, Nat.le_of_ble_eq_true rfl⟩ hP hK hD (hTT _ _ hS) hSt hl.1 rfl (Nat.le_of_ble_eq_true rfl) d_L_law_852 ⟨hc.1, hc.2⟩) hD hS hA (fun r9 w9 H locs hp9 hP hD hS => ?_)
  obtain ⟨rfl, rfl⟩ := hp9
  have hP : va_P D classes (wdC ad cI cZ cL J rd pr G K (wdM ad cI cZ cL J rd pr M ov)) H := hP
  have hD : va_D A (wdC ad cI cZ cL J rd pr G K (wdM ad cI cZ cL J rd pr M ov)) := hD
  refine W.eq (g2 := F0 m 855 ls [.int (iZ ((1 : Nat) : Int))]) rfl ?_
  refine lv_istore (lv' := [(5, .int (iZ ((1 : Nat) : Int))), (4, .int (iZ ((i : Nat) : Int))), (0, .ref (sb)), (1, .ref (ad 0)), (2, .ref (ad 19)), (3, .ref (ad 33))]) hx hb d_L_law_855 hl (by decide) rfl (fun ls hl => ?_)
  refine lv_aload_n hx hb d_L_law_857 rfl (lv_at hl 4 rfl) ?_
  refine lv_aload_n hx hb d_L_law_858 rfl (lv_at hl 2 rfl) ?_
  refine lv_iload hx hb d_L_law_859 (lv_at hl 1 rfl) ?_
  refine lv_iconst (v := iZ ((1 : Nat) : Int)) hx hb d_L_law_861 (by decide) ?_
  refine z_iaddN (u := i) (v := 1) hx hb d_L_law_862 ?_
  refine z_sld (v := iZ ((kd : Nat) : Int)) hx hb hX hbl hbA hS (i + 1) (by omega) ha1 d_L_law_863 ?_
  refine lv_aload_n hx hb d_L_law_864 rfl (lv_at hl 2 rfl) ?_
  refine lv_iload hx hb d_L_law_865 (lv_at hl 1 rfl) ?_
  refine lv_iconst (v := iZ ((2 : Nat) : Int)) hx hb d_L_law_867 (by decide) ?_
  refine z_iaddN (u := i) (v := 2) hx hb d_L_law_868 ?_
  refine z_sld (v := iZ (b)) hx hb hX hbl hbA hS (i + 2) (by omega) ha2 d_L_law_869 ?_
  refine z_kl (z_runV (As := [.int (iZ ((kd : Nat) : Int)), .int (iZ (b))]) (rest := []) zTB Z (k_M_rankOddsx1 hI hM (a := ((kd : Nat) : Int)) (b := b) (by omega)) ⟨ml_L_141, im_M_rankOdds, se_M_rankOdds, ini_M, co_M_rankOdds⟩ zd_M_rankOdds ⟨Nat.le_of_ble_eq_true rfl, Nat.le_of_ble_eq_true rfl⟩ hP hK hD (ci := 5) (q0 := 19) rfl rfl rfl hl.1 rfl (Nat.le_of_ble_eq_true rfl) d_L_law_870 ⟨hc.1, hc.2⟩) hD hS hA (fun r9 w9 H locs hp9 hP hD hS => ?_)
  obtain ⟨M1, rfl, hc1, hM1⟩ := hp9
  have hP : va_P D classes (wdC ad cI cZ cL J rd pr G K (wdM ad cI cZ cL J rd pr M1 ov)) H := hP
  have hD : va_D A (wdC ad cI cZ cL J rd pr G K (wdM ad cI cZ cL J rd pr M1 ov)) := hD
  refine W.eq (g2 := F0 m 873 ls [.long (r9)]) rfl ?_
  refine lv_lstore (lv' := [(6, .long (r9)), (5, .int (iZ ((1 : Nat) : Int))), (4, .int (iZ ((i : Nat) : Int))), (0, .ref (sb)), (1, .ref (ad 0)), (2, .ref (ad 19)), (3, .ref (ad 33))]) hx hb d_L_law_873 hl (by decide) rfl (fun ls hl => ?_)
  refine lv_aload_n hx hb d_L_law_875 rfl (lv_at hl 5 rfl) ?_
  refine z_callVR (As := []) (rest := []) zTB Z (k_M_thrown) ⟨ml_L_101, im_M_thrown, se_M_thrown, ini_M, co_M_thrown⟩ zd_M_thrown ⟨Nat.le_of_ble_eq_true rfl, Nat.le_of_ble_eq_true rfl⟩ hP hK (ci := 5) (q0 := 19) rfl rfl rfl hl.1 rfl (Nat.le_of_ble_eq_true rfl) d_L_law_876 ⟨hc.1, hc.2⟩ ?_
  refine W.eq (g2 := F0 m 879 ls [.int (iZ ((M1.1 : Nat) : Int))]) rfl ?_
  refine z_topZ (b := ((1 : Nat) : Int)) (by rw [hc1]) ?_
  refine lv_iload hx hb d_L_law_879 (lv_at hl 1 rfl) ?_
  refine z_icmp_eq (a := ((1 : Nat) : Int)) (b := ((1 : Nat) : Int)) (tgt := 886) hx hb (by omega) d_L_law_881 (by decide) (fun q881 => ?_) (fun q881 => ?_)
  · skip
    refine lv_iload hx hb d_L_law_886 (lv_at hl 1 rfl) ?_
    refine z_if_ne (a := ((1 : Nat) : Int)) (tgt := 902) hx hb (by omega) d_L_law_888 (by decide) (fun q888 => ?_) (fun q888 => ?_)
    · skip
      refine lv_goto (tgt := 1598) hx hb d_L_law_902 (by decide) ?_
      exact kk J _ _ _ _ _ _ H locs ls ⟨hI, hM1, hR, hpq⟩ hP hD hS (lv_sub hl [2, 3, 4, 5, 6] rfl)
    · skip
      exfalso; omega
  · skip
    exfalso; omega

set_option maxHeartbeats 4000000 in
set_option maxRecDepth 100000 in
theorem lf_rankOdds_0 {p : Program} {l : Launch} {e : Env} {s : State} {m : MethodId} {below : List Frame} {meth : Method} {c : Code} {Q : State → Prop} {sb L : Nat} {xs : Nat → Int32} {D : va_G} {A : Nat → Prop} {ad : Nat → Nat} {cI cZ cL : ClassId} {J : SJ} {rd : Nat → Int} {pr : Nat → Nat} {G : SH} {K : SK} {M : SM} {ov : Nat → Int64} {H : Heap} {locs : List Loc} {cells slots i : Nat} {ls : Array Slot} (X : LX p l s m meth c sb L xs D cI cZ cL A) (hLI : LI J rd pr M) (hi : i + 4 < L) (hc : cells + 1 ≤ 1061 ∧ slots + 6 ≤ 9679) {kd pt : Nat} (hkd : kd < 3) (hpt : pt < 2) (ha1 : xs (i + 1) = iZ ((kd : Nat) : Int)) (ha2 : xs (i + 2) = iZ ((pt : Nat) : Int)) (hP : va_P D classes (wdC ad cI cZ cL J rd pr G K (wdM ad cI cZ cL J rd pr M ov)) H) (hD : va_D A (wdC ad cI cZ cL J rd pr G K (wdM ad cI cZ cL J rd pr M ov))) (hS : va_S A s.heap H locs) (hl : lv_has ls 8 (lwL ad sb i)) (kk : LK p l e s m below meth c Q sb D A ad cI cZ cL i (cells + 1) (slots + 6)) : W p l e room_1 s m #[Value.ref sb] below meth c H locs cells slots Q (F0 m 838 ls []) := by
  obtain ⟨hl0, Z, hX, hbl, hK, hA, hbA, hTT, hSt, hL⟩ := X
  obtain ⟨hI, hM, hR, hpq⟩ := hLI
  obtain ⟨hx, hb, hr, hml, hown, hts, hE, hlocks⟩ := id Z
  have hn32 := hI.1
  have hk32 := hI.2.1
  have hl : lv_has ls 8 [(4, .int (iZ ((i : Nat) : Int))), (0, .ref (sb)), (1, .ref (ad 0)), (2, .ref (ad 19)), (3, .ref (ad 33))] := hl
  refine lv_aload_n hx hb d_L_law_838 rfl (lv_at hl 2 rfl) ?_
  refine lv_aload_n hx hb d_L_law_839 rfl (lv_at hl 1 rfl) ?_
  refine lv_iload hx hb d_L_law_840 (lv_at hl 0 rfl) ?_
  refine lv_iconst (v := iZ ((1 : Nat) : Int)) hx hb d_L_law_842 (by decide) ?_
  refine z_iaddN (u := i) (v := 1) hx hb d_L_law_843 ?_
  refine z_sld (v := iZ ((kd : Nat) : Int)) hx hb hX hbl hbA hS (i + 1) (by omega) ha1 d_L_law_844 ?_
  refine lv_aload_n hx hb d_L_law_845 rfl (lv_at hl 1 rfl) ?_
  refine lv_iload hx hb d_L_law_846 (lv_at hl 0 rfl) ?_
  refine lv_iconst (v := iZ ((2 : Nat) : Int)) hx hb d_L_law_848 (by decide) ?_
  refine z_iaddN (u := i) (v := 2) hx hb d_L_law_849 ?_
  refine z_sld (v := iZ ((pt : Nat) : Int)) hx hb hX hbl hbA hS (i + 2) (by omega) ha2 d_L_law_850 ?_
  refine lv_aload_n hx hb d_L_law_851 rfl (lv_at hl 4 rfl) ?_
  refine z_kiW (z_runSW (As := [.ref (ad 0), .int (iZ ((kd : Nat) : Int)), .int (iZ ((pt : Nat) : Int)), .ref (ad 33)]) (rest := []) Z (k_L_rankOdds0 hI (kd := kd) (pt := pt) hkd hpt) ⟨ml_L_139, sm_L_rankOdds, ini_L, co_L_rankOdds⟩ zd_L_rankOdds ⟨Nat.le_of_ble_eq_true rfl, Nat.le_of_ble_eq_true rfl⟩ hP hK hD (hTT _ _ hS) hSt hl.1 rfl (Nat.le_of_ble_eq_true rfl) d_L_law_852 ⟨hc.1, hc.2⟩) hD hS hA (fun r9 w9 H locs hp9 hP hD hS => ?_)
  obtain ⟨rfl, G2, rfl⟩ := hp9
  have hP : va_P D classes (wdC ad cI cZ cL J rd pr G2 K (wdM ad cI cZ cL J rd pr M (oU ov (lZ (sTP ((sRo J kd (jk J) (fun s => if s ≤ sRc J kd (jk J) then 1 else 0) : Nat) : Int) (2 ^ sRn J kd (jk J)) pt))))) H := hP
  have hD : va_D A (wdC ad cI cZ cL J rd pr G2 K (wdM ad cI cZ cL J rd pr M (oU ov (lZ (sTP ((sRo J kd (jk J) (fun s => if s ≤ sRc J kd (jk J) then 1 else 0) : Nat) : Int) (2 ^ sRn J kd (jk J)) pt))))) := hD
  refine W.eq (g2 := F0 m 855 ls [.int (iZ ((0 : Nat) : Int))]) rfl ?_
  refine lv_istore (lv' := [(5, .int (iZ ((0 : Nat) : Int))), (4, .int (iZ ((i : Nat) : Int))), (0, .ref (sb)), (1, .ref (ad 0)), (2, .ref (ad 19)), (3, .ref (ad 33))]) hx hb d_L_law_855 hl (by decide) rfl (fun ls hl => ?_)
  refine lv_aload_n hx hb d_L_law_857 rfl (lv_at hl 4 rfl) ?_
  refine lv_aload_n hx hb d_L_law_858 rfl (lv_at hl 2 rfl) ?_
  refine lv_iload hx hb d_L_law_859 (lv_at hl 1 rfl) ?_
  refine lv_iconst (v := iZ ((1 : Nat) : Int)) hx hb d_L_law_861 (by decide) ?_
  refine z_iaddN (u := i) (v := 1) hx hb d_L_law_862 ?_
  refine z_sld (v := iZ ((kd : Nat) : Int)) hx hb hX hbl hbA hS (i + 1) (by omega) ha1 d_L_law_863 ?_
  refine lv_aload_n hx hb d_L_law_864 rfl (lv_at hl 2 rfl) ?_
  refine lv_iload hx hb d_L_law_865 (lv_at hl 1 rfl) ?_
  refine lv_iconst (v := iZ ((2 : Nat) : Int)) hx hb d_L_law_867 (by decide) ?_
  refine z_iaddN (u := i) (v := 2) hx hb d_L_law_868 ?_
  refine z_sld (v := iZ ((pt : Nat) : Int)) hx hb hX hbl hbA hS (i + 2) (by omega) ha2 d_L_law_869 ?_
  refine z_kl (z_runV (As := [.int (iZ ((kd : Nat) : Int)), .int (iZ ((pt : Nat) : Int))]) (rest := []) zTB Z (k_M_rankOdds0 hI hM hkd hpt) ⟨ml_L_141, im_M_rankOdds, se_M_rankOdds, ini_M, co_M_rankOdds⟩ zd_M_rankOdds ⟨Nat.le_of_ble_eq_true rfl, Nat.le_of_ble_eq_true rfl⟩ hP hK hD (ci := 5) (q0 := 19) rfl rfl rfl hl.1 rfl (Nat.le_of_ble_eq_true rfl) d_L_law_870 ⟨hc.1, hc.2⟩) hD hS hA (fun r9 w9 H locs hp9 hP hD hS => ?_)
  obtain ⟨M1, rfl, rfl, hc1, hM1⟩ := hp9
  have hP : va_P D classes (wdC ad cI cZ cL J rd pr G2 K (wdM ad cI cZ cL J rd pr M1 (oU ov (lZ (sTP ((sRo J kd (jk J) (fun s => if s ≤ sRc J kd (jk J) then 1 else 0) : Nat) : Int) (2 ^ sRn J kd (jk J)) pt))))) H := hP
  have hD : va_D A (wdC ad cI cZ cL J rd pr G2 K (wdM ad cI cZ cL J rd pr M1 (oU ov (lZ (sTP ((sRo J kd (jk J) (fun s => if s ≤ sRc J kd (jk J) then 1 else 0) : Nat) : Int) (2 ^ sRn J kd (jk J)) pt))))) := hD
  refine W.eq (g2 := F0 m 873 ls [.long (lZ (sTP ((sRo J kd (jk J) (fun s => if s ≤ sRc J kd (jk J) then 1 else 0) : Nat) : Int) (2 ^ sRn J kd (jk J)) pt))]) rfl ?_
  refine lv_lstore (lv' := [(6, .long (lZ (sTP ((sRo J kd (jk J) (fun s => if s ≤ sRc J kd (jk J) then 1 else 0) : Nat) : Int) (2 ^ sRn J kd (jk J)) pt))), (5, .int (iZ ((0 : Nat) : Int))), (4, .int (iZ ((i : Nat) : Int))), (0, .ref (sb)), (1, .ref (ad 0)), (2, .ref (ad 19)), (3, .ref (ad 33))]) hx hb d_L_law_873 hl (by decide) rfl (fun ls hl => ?_)
  refine lv_aload_n hx hb d_L_law_875 rfl (lv_at hl 5 rfl) ?_
  refine z_callVR (As := []) (rest := []) zTB Z (k_M_thrown) ⟨ml_L_101, im_M_thrown, se_M_thrown, ini_M, co_M_thrown⟩ zd_M_thrown ⟨Nat.le_of_ble_eq_true rfl, Nat.le_of_ble_eq_true rfl⟩ hP hK (ci := 5) (q0 := 19) rfl rfl rfl hl.1 rfl (Nat.le_of_ble_eq_true rfl) d_L_law_876 ⟨hc.1, hc.2⟩ ?_
  refine W.eq (g2 := F0 m 879 ls [.int (iZ ((M1.1 : Nat) : Int))]) rfl ?_
  refine z_topZ (b := ((0 : Nat) : Int)) (by rw [hc1]) ?_
  refine lv_iload hx hb d_L_law_879 (lv_at hl 1 rfl) ?_
  refine z_icmp_eq (a := ((0 : Nat) : Int)) (b := ((0 : Nat) : Int)) (tgt := 886) hx hb (by omega) d_L_law_881 (by decide) (fun q881 => ?_) (fun q881 => ?_)
  · skip
    refine lv_iload hx hb d_L_law_886 (lv_at hl 1 rfl) ?_
    refine z_if_ne (a := ((0 : Nat) : Int)) (tgt := 902) hx hb (by omega) d_L_law_888 (by decide) (fun q888 => ?_) (fun q888 => ?_)
    · skip
      exfalso; omega
    · skip
      refine lv_aload_n hx hb d_L_law_891 rfl (lv_at hl 6 rfl) ?_
      refine lv_iconst (v := iZ ((0 : Nat) : Int)) hx hb d_L_law_892 (by decide) ?_
      refine z_old (x := lZ (sTP ((sRo J kd (jk J) (fun s => if s ≤ sRc J kd (jk J) then 1 else 0) : Nat) : Int) (2 ^ sRn J kd (jk J)) pt)) hx hb hK hP 33 2 rfl rfl d_L_law_893 ?_
      refine lv_lload hx hb d_L_law_894 (lv_at hl 0 rfl) ?_
      refine z_lcmpR_eq (tgt := 902) (pc1 := 897) (pc4 := 900) hx hb d_L_law_896 rfl rfl d_L_law_897 (by decide) (fun q896 => ?_) (fun q896 => ?_)
      · skip
        refine lv_goto (tgt := 1598) hx hb d_L_law_902 (by decide) ?_
        exact kk J _ _ _ _ _ _ H locs ls ⟨hI, hM1, hR, hpq⟩ hP hD hS (lv_sub hl [2, 3, 4, 5, 6] rfl)
      · skip
        exact absurd rfl q896
  · skip
    exfalso; omega

set_option maxHeartbeats 4000000 in
set_option maxRecDepth 100000 in
theorem lf_joined_x1 {p : Program} {l : Launch} {e : Env} {s : State} {m : MethodId} {below : List Frame} {meth : Method} {c : Code} {Q : State → Prop} {sb L : Nat} {xs : Nat → Int32} {D : va_G} {A : Nat → Prop} {ad : Nat → Nat} {cI cZ cL : ClassId} {J : SJ} {rd : Nat → Int} {pr : Nat → Nat} {G : SH} {K : SK} {M : SM} {ov : Nat → Int64} {H : Heap} {locs : List Loc} {cells slots i : Nat} {ls : Array Slot} (X : LX p l s m meth c sb L xs D cI cZ cL A) (hLI : LI J rd pr M) (hi : i + 4 < L) (hc : cells + 1 ≤ 1061 ∧ slots + 6 ≤ 9679) {a b : Int} (h : z32 a ∧ (a < 0 ∨ 3 ≤ a)) (hz : z32 b) (ha1 : xs (i + 1) = iZ (a)) (ha2 : xs (i + 2) = iZ (b)) (hP : va_P D classes (wdC ad cI cZ cL J rd pr G K (wdM ad cI cZ cL J rd pr M ov)) H) (hD : va_D A (wdC ad cI cZ cL J rd pr G K (wdM ad cI cZ cL J rd pr M ov))) (hS : va_S A s.heap H locs) (hl : lv_has ls 8 (lwL ad sb i)) (kk : LK p l e s m below meth c Q sb D A ad cI cZ cL i (cells + 1) (slots + 6)) : W p l e room_1 s m #[Value.ref sb] below meth c H locs cells slots Q (F0 m 1326 ls []) := by
  obtain ⟨hl0, Z, hX, hbl, hK, hA, hbA, hTT, hSt, hL⟩ := X
  obtain ⟨hI, hM, hR, hpq⟩ := hLI
  obtain ⟨hx, hb, hr, hml, hown, hts, hE, hlocks⟩ := id Z
  have hn32 := hI.1
  have hk32 := hI.2.1
  have hl : lv_has ls 8 [(4, .int (iZ ((i : Nat) : Int))), (0, .ref (sb)), (1, .ref (ad 0)), (2, .ref (ad 19)), (3, .ref (ad 33))] := hl
  refine lv_aload_n hx hb d_L_law_1326 rfl (lv_at hl 2 rfl) ?_
  refine lv_aload_n hx hb d_L_law_1327 rfl (lv_at hl 1 rfl) ?_
  refine lv_iload hx hb d_L_law_1328 (lv_at hl 0 rfl) ?_
  refine lv_iconst (v := iZ ((1 : Nat) : Int)) hx hb d_L_law_1330 (by decide) ?_
  refine z_iaddN (u := i) (v := 1) hx hb d_L_law_1331 ?_
  refine z_sld (v := iZ (a)) hx hb hX hbl hbA hS (i + 1) (by omega) ha1 d_L_law_1332 ?_
  refine lv_aload_n hx hb d_L_law_1333 rfl (lv_at hl 1 rfl) ?_
  refine lv_iload hx hb d_L_law_1334 (lv_at hl 0 rfl) ?_
  refine lv_iconst (v := iZ ((2 : Nat) : Int)) hx hb d_L_law_1336 (by decide) ?_
  refine z_iaddN (u := i) (v := 2) hx hb d_L_law_1337 ?_
  refine z_sld (v := iZ (b)) hx hb hX hbl hbA hS (i + 2) (by omega) ha2 d_L_law_1338 ?_
  refine lv_aload_n hx hb d_L_law_1339 rfl (lv_at hl 4 rfl) ?_
  refine z_kiW (z_runSW (As := [.ref (ad 0), .int (iZ (a)), .int (iZ (b)), .ref (ad 33)]) (rest := []) Z (k_L_joinedx1 hl0 hI (a := a) (b := b) h) ⟨ml_L_158, sm_L_joined, ini_L, co_L_joined⟩ zd_L_joined ⟨Nat.le_of_ble_eq_true rfl, Nat.le_of_ble_eq_true rfl⟩ hP hK hD (hTT _ _ hS) hSt hl.1 rfl (Nat.le_of_ble_eq_true rfl) d_L_law_1340 ⟨hc.1, hc.2⟩) hD hS hA (fun r9 w9 H locs hp9 hP hD hS => ?_)
  obtain ⟨rfl, rfl⟩ := hp9
  have hP : va_P D classes (wdC ad cI cZ cL J rd pr G K (wdM ad cI cZ cL J rd pr M ov)) H := hP
  have hD : va_D A (wdC ad cI cZ cL J rd pr G K (wdM ad cI cZ cL J rd pr M ov)) := hD
  refine W.eq (g2 := F0 m 1343 ls [.int (iZ ((1 : Nat) : Int))]) rfl ?_
  refine lv_istore (lv' := [(5, .int (iZ ((1 : Nat) : Int))), (4, .int (iZ ((i : Nat) : Int))), (0, .ref (sb)), (1, .ref (ad 0)), (2, .ref (ad 19)), (3, .ref (ad 33))]) hx hb d_L_law_1343 hl (by decide) rfl (fun ls hl => ?_)
  refine lv_aload_n hx hb d_L_law_1345 rfl (lv_at hl 4 rfl) ?_
  refine lv_aload_n hx hb d_L_law_1346 rfl (lv_at hl 2 rfl) ?_
  refine lv_iload hx hb d_L_law_1347 (lv_at hl 1 rfl) ?_
  refine lv_iconst (v := iZ ((1 : Nat) : Int)) hx hb d_L_law_1349 (by decide) ?_
  refine z_iaddN (u := i) (v := 1) hx hb d_L_law_1350 ?_
  refine z_sld (v := iZ (a)) hx hb hX hbl hbA hS (i + 1) (by omega) ha1 d_L_law_1351 ?_
  refine lv_aload_n hx hb d_L_law_1352 rfl (lv_at hl 2 rfl) ?_
  refine lv_iload hx hb d_L_law_1353 (lv_at hl 1 rfl) ?_
  refine lv_iconst (v := iZ ((2 : Nat) : Int)) hx hb d_L_law_1355 (by decide) ?_
  refine z_iaddN (u := i) (v := 2) hx hb d_L_law_1356 ?_
  refine z_sld (v := iZ (b)) hx hb hX hbl hbA hS (i + 2) (by omega) ha2 d_L_law_1357 ?_
  refine z_kl (z_runV (As := [.int (iZ (a)), .int (iZ (b))]) (rest := []) zTB Z (k_M_joinedx1 hI hM (a := a) (b := b) (by omega)) ⟨ml_L_160, im_M_joined, se_M_joined, ini_M, co_M_joined⟩ zd_M_joined ⟨Nat.le_of_ble_eq_true rfl, Nat.le_of_ble_eq_true rfl⟩ hP hK hD (ci := 5) (q0 := 19) rfl rfl rfl hl.1 rfl (Nat.le_of_ble_eq_true rfl) d_L_law_1358 ⟨hc.1, hc.2⟩) hD hS hA (fun r9 w9 H locs hp9 hP hD hS => ?_)
  obtain ⟨M1, rfl, hc1, hM1⟩ := hp9
  have hP : va_P D classes (wdC ad cI cZ cL J rd pr G K (wdM ad cI cZ cL J rd pr M1 ov)) H := hP
  have hD : va_D A (wdC ad cI cZ cL J rd pr G K (wdM ad cI cZ cL J rd pr M1 ov)) := hD
  refine W.eq (g2 := F0 m 1361 ls [.long (r9)]) rfl ?_
  refine lv_lstore (lv' := [(6, .long (r9)), (5, .int (iZ ((1 : Nat) : Int))), (4, .int (iZ ((i : Nat) : Int))), (0, .ref (sb)), (1, .ref (ad 0)), (2, .ref (ad 19)), (3, .ref (ad 33))]) hx hb d_L_law_1361 hl (by decide) rfl (fun ls hl => ?_)
  refine lv_aload_n hx hb d_L_law_1363 rfl (lv_at hl 5 rfl) ?_
  refine z_callVR (As := []) (rest := []) zTB Z (k_M_thrown) ⟨ml_L_101, im_M_thrown, se_M_thrown, ini_M, co_M_thrown⟩ zd_M_thrown ⟨Nat.le_of_ble_eq_true rfl, Nat.le_of_ble_eq_true rfl⟩ hP hK (ci := 5) (q0 := 19) rfl rfl rfl hl.1 rfl (Nat.le_of_ble_eq_true rfl) d_L_law_1364 ⟨hc.1, hc.2⟩ ?_
  refine W.eq (g2 := F0 m 1367 ls [.int (iZ ((M1.1 : Nat) : Int))]) rfl ?_
  refine z_topZ (b := ((1 : Nat) : Int)) (by rw [hc1]) ?_
  refine lv_iload hx hb d_L_law_1367 (lv_at hl 1 rfl) ?_
  refine z_icmp_eq (a := ((1 : Nat) : Int)) (b := ((1 : Nat) : Int)) (tgt := 1374) hx hb (by omega) d_L_law_1369 (by decide) (fun q1369 => ?_) (fun q1369 => ?_)
  · skip
    refine lv_iload hx hb d_L_law_1374 (lv_at hl 1 rfl) ?_
    refine z_if_ne (a := ((1 : Nat) : Int)) (tgt := 1390) hx hb (by omega) d_L_law_1376 (by decide) (fun q1376 => ?_) (fun q1376 => ?_)
    · skip
      refine lv_goto (tgt := 1598) hx hb d_L_law_1390 (by decide) ?_
      exact kk J _ _ _ _ _ _ H locs ls ⟨hI, hM1, hR, hpq⟩ hP hD hS (lv_sub hl [2, 3, 4, 5, 6] rfl)
    · skip
      exfalso; omega
  · skip
    exfalso; omega

set_option maxHeartbeats 4000000 in
set_option maxRecDepth 100000 in
theorem lf_joined_x2 {p : Program} {l : Launch} {e : Env} {s : State} {m : MethodId} {below : List Frame} {meth : Method} {c : Code} {Q : State → Prop} {sb L : Nat} {xs : Nat → Int32} {D : va_G} {A : Nat → Prop} {ad : Nat → Nat} {cI cZ cL : ClassId} {J : SJ} {rd : Nat → Int} {pr : Nat → Nat} {G : SH} {K : SK} {M : SM} {ov : Nat → Int64} {H : Heap} {locs : List Loc} {cells slots i : Nat} {ls : Array Slot} (X : LX p l s m meth c sb L xs D cI cZ cL A) (hLI : LI J rd pr M) (hi : i + 4 < L) (hc : cells + 1 ≤ 1061 ∧ slots + 6 ≤ 9679) {kd : Nat} {b : Int} (hkd : kd < 3) (h : z32 b ∧ (b < 0 ∨ 2 ≤ b)) (ha1 : xs (i + 1) = iZ ((kd : Nat) : Int)) (ha2 : xs (i + 2) = iZ (b)) (hP : va_P D classes (wdC ad cI cZ cL J rd pr G K (wdM ad cI cZ cL J rd pr M ov)) H) (hD : va_D A (wdC ad cI cZ cL J rd pr G K (wdM ad cI cZ cL J rd pr M ov))) (hS : va_S A s.heap H locs) (hl : lv_has ls 8 (lwL ad sb i)) (kk : LK p l e s m below meth c Q sb D A ad cI cZ cL i (cells + 1) (slots + 6)) : W p l e room_1 s m #[Value.ref sb] below meth c H locs cells slots Q (F0 m 1326 ls []) := by
  obtain ⟨hl0, Z, hX, hbl, hK, hA, hbA, hTT, hSt, hL⟩ := X
  obtain ⟨hI, hM, hR, hpq⟩ := hLI
  obtain ⟨hx, hb, hr, hml, hown, hts, hE, hlocks⟩ := id Z
  have hn32 := hI.1
  have hk32 := hI.2.1
  have hl : lv_has ls 8 [(4, .int (iZ ((i : Nat) : Int))), (0, .ref (sb)), (1, .ref (ad 0)), (2, .ref (ad 19)), (3, .ref (ad 33))] := hl
  refine lv_aload_n hx hb d_L_law_1326 rfl (lv_at hl 2 rfl) ?_
  refine lv_aload_n hx hb d_L_law_1327 rfl (lv_at hl 1 rfl) ?_
  refine lv_iload hx hb d_L_law_1328 (lv_at hl 0 rfl) ?_
  refine lv_iconst (v := iZ ((1 : Nat) : Int)) hx hb d_L_law_1330 (by decide) ?_
  refine z_iaddN (u := i) (v := 1) hx hb d_L_law_1331 ?_
  refine z_sld (v := iZ ((kd : Nat) : Int)) hx hb hX hbl hbA hS (i + 1) (by omega) ha1 d_L_law_1332 ?_
  refine lv_aload_n hx hb d_L_law_1333 rfl (lv_at hl 1 rfl) ?_
  refine lv_iload hx hb d_L_law_1334 (lv_at hl 0 rfl) ?_
  refine lv_iconst (v := iZ ((2 : Nat) : Int)) hx hb d_L_law_1336 (by decide) ?_
  refine z_iaddN (u := i) (v := 2) hx hb d_L_law_1337 ?_
  refine z_sld (v := iZ (b)) hx hb hX hbl hbA hS (i + 2) (by omega) ha2 d_L_law_1338 ?_
  refine lv_aload_n hx hb d_L_law_1339 rfl (lv_at hl 4 rfl) ?_
  refine z_kiW (z_runSW (As := [.ref (ad 0), .int (iZ ((kd : Nat) : Int)), .int (iZ (b)), .ref (ad 33)]) (rest := []) Z (k_L_joinedx2 hl0 hI (kd := kd) (b := b) hkd h) ⟨ml_L_158, sm_L_joined, ini_L, co_L_joined⟩ zd_L_joined ⟨Nat.le_of_ble_eq_true rfl, Nat.le_of_ble_eq_true rfl⟩ hP hK hD (hTT _ _ hS) hSt hl.1 rfl (Nat.le_of_ble_eq_true rfl) d_L_law_1340 ⟨hc.1, hc.2⟩) hD hS hA (fun r9 w9 H locs hp9 hP hD hS => ?_)
  obtain ⟨rfl, rfl⟩ := hp9
  have hP : va_P D classes (wdC ad cI cZ cL J rd pr G K (wdM ad cI cZ cL J rd pr M ov)) H := hP
  have hD : va_D A (wdC ad cI cZ cL J rd pr G K (wdM ad cI cZ cL J rd pr M ov)) := hD
  refine W.eq (g2 := F0 m 1343 ls [.int (iZ ((1 : Nat) : Int))]) rfl ?_
  refine lv_istore (lv' := [(5, .int (iZ ((1 : Nat) : Int))), (4, .int (iZ ((i : Nat) : Int))), (0, .ref (sb)), (1, .ref (ad 0)), (2, .ref (ad 19)), (3, .ref (ad 33))]) hx hb d_L_law_1343 hl (by decide) rfl (fun ls hl => ?_)
  refine lv_aload_n hx hb d_L_law_1345 rfl (lv_at hl 4 rfl) ?_
  refine lv_aload_n hx hb d_L_law_1346 rfl (lv_at hl 2 rfl) ?_
  refine lv_iload hx hb d_L_law_1347 (lv_at hl 1 rfl) ?_
  refine lv_iconst (v := iZ ((1 : Nat) : Int)) hx hb d_L_law_1349 (by decide) ?_
  refine z_iaddN (u := i) (v := 1) hx hb d_L_law_1350 ?_
  refine z_sld (v := iZ ((kd : Nat) : Int)) hx hb hX hbl hbA hS (i + 1) (by omega) ha1 d_L_law_1351 ?_
  refine lv_aload_n hx hb d_L_law_1352 rfl (lv_at hl 2 rfl) ?_
  refine lv_iload hx hb d_L_law_1353 (lv_at hl 1 rfl) ?_
  refine lv_iconst (v := iZ ((2 : Nat) : Int)) hx hb d_L_law_1355 (by decide) ?_
  refine z_iaddN (u := i) (v := 2) hx hb d_L_law_1356 ?_
  refine z_sld (v := iZ (b)) hx hb hX hbl hbA hS (i + 2) (by omega) ha2 d_L_law_1357 ?_
  refine z_kl (z_runV (As := [.int (iZ ((kd : Nat) : Int)), .int (iZ (b))]) (rest := []) zTB Z (k_M_joinedx1 hI hM (a := ((kd : Nat) : Int)) (b := b) (by omega)) ⟨ml_L_160, im_M_joined, se_M_joined, ini_M, co_M_joined⟩ zd_M_joined ⟨Nat.le_of_ble_eq_true rfl, Nat.le_of_ble_eq_true rfl⟩ hP hK hD (ci := 5) (q0 := 19) rfl rfl rfl hl.1 rfl (Nat.le_of_ble_eq_true rfl) d_L_law_1358 ⟨hc.1, hc.2⟩) hD hS hA (fun r9 w9 H locs hp9 hP hD hS => ?_)
  obtain ⟨M1, rfl, hc1, hM1⟩ := hp9
  have hP : va_P D classes (wdC ad cI cZ cL J rd pr G K (wdM ad cI cZ cL J rd pr M1 ov)) H := hP
  have hD : va_D A (wdC ad cI cZ cL J rd pr G K (wdM ad cI cZ cL J rd pr M1 ov)) := hD
  refine W.eq (g2 := F0 m 1361 ls [.long (r9)]) rfl ?_
  refine lv_lstore (lv' := [(6, .long (r9)), (5, .int (iZ ((1 : Nat) : Int))), (4, .int (iZ ((i : Nat) : Int))), (0, .ref (sb)), (1, .ref (ad 0)), (2, .ref (ad 19)), (3, .ref (ad 33))]) hx hb d_L_law_1361 hl (by decide) rfl (fun ls hl => ?_)
  refine lv_aload_n hx hb d_L_law_1363 rfl (lv_at hl 5 rfl) ?_
  refine z_callVR (As := []) (rest := []) zTB Z (k_M_thrown) ⟨ml_L_101, im_M_thrown, se_M_thrown, ini_M, co_M_thrown⟩ zd_M_thrown ⟨Nat.le_of_ble_eq_true rfl, Nat.le_of_ble_eq_true rfl⟩ hP hK (ci := 5) (q0 := 19) rfl rfl rfl hl.1 rfl (Nat.le_of_ble_eq_true rfl) d_L_law_1364 ⟨hc.1, hc.2⟩ ?_
  refine W.eq (g2 := F0 m 1367 ls [.int (iZ ((M1.1 : Nat) : Int))]) rfl ?_
  refine z_topZ (b := ((1 : Nat) : Int)) (by rw [hc1]) ?_
  refine lv_iload hx hb d_L_law_1367 (lv_at hl 1 rfl) ?_
  refine z_icmp_eq (a := ((1 : Nat) : Int)) (b := ((1 : Nat) : Int)) (tgt := 1374) hx hb (by omega) d_L_law_1369 (by decide) (fun q1369 => ?_) (fun q1369 => ?_)
  · skip
    refine lv_iload hx hb d_L_law_1374 (lv_at hl 1 rfl) ?_
    refine z_if_ne (a := ((1 : Nat) : Int)) (tgt := 1390) hx hb (by omega) d_L_law_1376 (by decide) (fun q1376 => ?_) (fun q1376 => ?_)
    · skip
      refine lv_goto (tgt := 1598) hx hb d_L_law_1390 (by decide) ?_
      exact kk J _ _ _ _ _ _ H locs ls ⟨hI, hM1, hR, hpq⟩ hP hD hS (lv_sub hl [2, 3, 4, 5, 6] rfl)
    · skip
      exfalso; omega
  · skip
    exfalso; omega

set_option maxHeartbeats 4000000 in
set_option maxRecDepth 100000 in
theorem lf_joined_0 {p : Program} {l : Launch} {e : Env} {s : State} {m : MethodId} {below : List Frame} {meth : Method} {c : Code} {Q : State → Prop} {sb L : Nat} {xs : Nat → Int32} {D : va_G} {A : Nat → Prop} {ad : Nat → Nat} {cI cZ cL : ClassId} {J : SJ} {rd : Nat → Int} {pr : Nat → Nat} {G : SH} {K : SK} {M : SM} {ov : Nat → Int64} {H : Heap} {locs : List Loc} {cells slots i : Nat} {ls : Array Slot} (X : LX p l s m meth c sb L xs D cI cZ cL A) (hLI : LI J rd pr M) (hi : i + 4 < L) (hc : cells + 1 ≤ 1061 ∧ slots + 6 ≤ 9679) {kd pt : Nat} (hkd : kd < 3) (hpt : pt < 2) (ha1 : xs (i + 1) = iZ ((kd : Nat) : Int)) (ha2 : xs (i + 2) = iZ ((pt : Nat) : Int)) (hP : va_P D classes (wdC ad cI cZ cL J rd pr G K (wdM ad cI cZ cL J rd pr M ov)) H) (hD : va_D A (wdC ad cI cZ cL J rd pr G K (wdM ad cI cZ cL J rd pr M ov))) (hS : va_S A s.heap H locs) (hl : lv_has ls 8 (lwL ad sb i)) (kk : LK p l e s m below meth c Q sb D A ad cI cZ cL i (cells + 1) (slots + 6)) : W p l e room_1 s m #[Value.ref sb] below meth c H locs cells slots Q (F0 m 1326 ls []) := by
  obtain ⟨hl0, Z, hX, hbl, hK, hA, hbA, hTT, hSt, hL⟩ := X
  obtain ⟨hI, hM, hR, hpq⟩ := hLI
  obtain ⟨hx, hb, hr, hml, hown, hts, hE, hlocks⟩ := id Z
  have hn32 := hI.1
  have hk32 := hI.2.1
  have hl : lv_has ls 8 [(4, .int (iZ ((i : Nat) : Int))), (0, .ref (sb)), (1, .ref (ad 0)), (2, .ref (ad 19)), (3, .ref (ad 33))] := hl
  refine lv_aload_n hx hb d_L_law_1326 rfl (lv_at hl 2 rfl) ?_
  refine lv_aload_n hx hb d_L_law_1327 rfl (lv_at hl 1 rfl) ?_
  refine lv_iload hx hb d_L_law_1328 (lv_at hl 0 rfl) ?_
  refine lv_iconst (v := iZ ((1 : Nat) : Int)) hx hb d_L_law_1330 (by decide) ?_
  refine z_iaddN (u := i) (v := 1) hx hb d_L_law_1331 ?_
  refine z_sld (v := iZ ((kd : Nat) : Int)) hx hb hX hbl hbA hS (i + 1) (by omega) ha1 d_L_law_1332 ?_
  refine lv_aload_n hx hb d_L_law_1333 rfl (lv_at hl 1 rfl) ?_
  refine lv_iload hx hb d_L_law_1334 (lv_at hl 0 rfl) ?_
  refine lv_iconst (v := iZ ((2 : Nat) : Int)) hx hb d_L_law_1336 (by decide) ?_
  refine z_iaddN (u := i) (v := 2) hx hb d_L_law_1337 ?_
  refine z_sld (v := iZ ((pt : Nat) : Int)) hx hb hX hbl hbA hS (i + 2) (by omega) ha2 d_L_law_1338 ?_
  refine lv_aload_n hx hb d_L_law_1339 rfl (lv_at hl 4 rfl) ?_
  refine z_kiW (z_runSW (As := [.ref (ad 0), .int (iZ ((kd : Nat) : Int)), .int (iZ ((pt : Nat) : Int)), .ref (ad 33)]) (rest := []) Z (k_L_joined0 hI (kd := kd) (pt := pt) hkd hpt) ⟨ml_L_158, sm_L_joined, ini_L, co_L_joined⟩ zd_L_joined ⟨Nat.le_of_ble_eq_true rfl, Nat.le_of_ble_eq_true rfl⟩ hP hK hD (hTT _ _ hS) hSt hl.1 rfl (Nat.le_of_ble_eq_true rfl) d_L_law_1340 ⟨hc.1, hc.2⟩) hD hS hA (fun r9 w9 H locs hp9 hP hD hS => ?_)
  obtain ⟨rfl, rfl⟩ := hp9
  have hP : va_P D classes (wdC ad cI cZ cL J rd pr G K (wdM ad cI cZ cL J rd pr M (oU ov (lZ (sTP (sSO J 4 kd (jk J)) (sKO J 4 kd (jk J)) pt))))) H := hP
  have hD : va_D A (wdC ad cI cZ cL J rd pr G K (wdM ad cI cZ cL J rd pr M (oU ov (lZ (sTP (sSO J 4 kd (jk J)) (sKO J 4 kd (jk J)) pt))))) := hD
  refine W.eq (g2 := F0 m 1343 ls [.int (iZ ((0 : Nat) : Int))]) rfl ?_
  refine lv_istore (lv' := [(5, .int (iZ ((0 : Nat) : Int))), (4, .int (iZ ((i : Nat) : Int))), (0, .ref (sb)), (1, .ref (ad 0)), (2, .ref (ad 19)), (3, .ref (ad 33))]) hx hb d_L_law_1343 hl (by decide) rfl (fun ls hl => ?_)
  refine lv_aload_n hx hb d_L_law_1345 rfl (lv_at hl 4 rfl) ?_
  refine lv_aload_n hx hb d_L_law_1346 rfl (lv_at hl 2 rfl) ?_
  refine lv_iload hx hb d_L_law_1347 (lv_at hl 1 rfl) ?_
  refine lv_iconst (v := iZ ((1 : Nat) : Int)) hx hb d_L_law_1349 (by decide) ?_
  refine z_iaddN (u := i) (v := 1) hx hb d_L_law_1350 ?_
  refine z_sld (v := iZ ((kd : Nat) : Int)) hx hb hX hbl hbA hS (i + 1) (by omega) ha1 d_L_law_1351 ?_
  refine lv_aload_n hx hb d_L_law_1352 rfl (lv_at hl 2 rfl) ?_
  refine lv_iload hx hb d_L_law_1353 (lv_at hl 1 rfl) ?_
  refine lv_iconst (v := iZ ((2 : Nat) : Int)) hx hb d_L_law_1355 (by decide) ?_
  refine z_iaddN (u := i) (v := 2) hx hb d_L_law_1356 ?_
  refine z_sld (v := iZ ((pt : Nat) : Int)) hx hb hX hbl hbA hS (i + 2) (by omega) ha2 d_L_law_1357 ?_
  refine z_kl (z_runV (As := [.int (iZ ((kd : Nat) : Int)), .int (iZ ((pt : Nat) : Int))]) (rest := []) zTB Z (k_M_joined0 hI hM hkd hpt) ⟨ml_L_160, im_M_joined, se_M_joined, ini_M, co_M_joined⟩ zd_M_joined ⟨Nat.le_of_ble_eq_true rfl, Nat.le_of_ble_eq_true rfl⟩ hP hK hD (ci := 5) (q0 := 19) rfl rfl rfl hl.1 rfl (Nat.le_of_ble_eq_true rfl) d_L_law_1358 ⟨hc.1, hc.2⟩) hD hS hA (fun r9 w9 H locs hp9 hP hD hS => ?_)
  obtain ⟨M1, rfl, rfl, hc1, hM1⟩ := hp9
  have hP : va_P D classes (wdC ad cI cZ cL J rd pr G K (wdM ad cI cZ cL J rd pr M1 (oU ov (lZ (sTP (sSO J 4 kd (jk J)) (sKO J 4 kd (jk J)) pt))))) H := hP
  have hD : va_D A (wdC ad cI cZ cL J rd pr G K (wdM ad cI cZ cL J rd pr M1 (oU ov (lZ (sTP (sSO J 4 kd (jk J)) (sKO J 4 kd (jk J)) pt))))) := hD
  refine W.eq (g2 := F0 m 1361 ls [.long (lZ (sTP (sSO J 4 kd (jk J)) (sKO J 4 kd (jk J)) pt))]) rfl ?_
  refine lv_lstore (lv' := [(6, .long (lZ (sTP (sSO J 4 kd (jk J)) (sKO J 4 kd (jk J)) pt))), (5, .int (iZ ((0 : Nat) : Int))), (4, .int (iZ ((i : Nat) : Int))), (0, .ref (sb)), (1, .ref (ad 0)), (2, .ref (ad 19)), (3, .ref (ad 33))]) hx hb d_L_law_1361 hl (by decide) rfl (fun ls hl => ?_)
  refine lv_aload_n hx hb d_L_law_1363 rfl (lv_at hl 5 rfl) ?_
  refine z_callVR (As := []) (rest := []) zTB Z (k_M_thrown) ⟨ml_L_101, im_M_thrown, se_M_thrown, ini_M, co_M_thrown⟩ zd_M_thrown ⟨Nat.le_of_ble_eq_true rfl, Nat.le_of_ble_eq_true rfl⟩ hP hK (ci := 5) (q0 := 19) rfl rfl rfl hl.1 rfl (Nat.le_of_ble_eq_true rfl) d_L_law_1364 ⟨hc.1, hc.2⟩ ?_
  refine W.eq (g2 := F0 m 1367 ls [.int (iZ ((M1.1 : Nat) : Int))]) rfl ?_
  refine z_topZ (b := ((0 : Nat) : Int)) (by rw [hc1]) ?_
  refine lv_iload hx hb d_L_law_1367 (lv_at hl 1 rfl) ?_
  refine z_icmp_eq (a := ((0 : Nat) : Int)) (b := ((0 : Nat) : Int)) (tgt := 1374) hx hb (by omega) d_L_law_1369 (by decide) (fun q1369 => ?_) (fun q1369 => ?_)
  · skip
    refine lv_iload hx hb d_L_law_1374 (lv_at hl 1 rfl) ?_
    refine z_if_ne (a := ((0 : Nat) : Int)) (tgt := 1390) hx hb (by omega) d_L_law_1376 (by decide) (fun q1376 => ?_) (fun q1376 => ?_)
    · skip
      exfalso; omega
    · skip
      refine lv_aload_n hx hb d_L_law_1379 rfl (lv_at hl 6 rfl) ?_
      refine lv_iconst (v := iZ ((0 : Nat) : Int)) hx hb d_L_law_1380 (by decide) ?_
      refine z_old (x := lZ (sTP (sSO J 4 kd (jk J)) (sKO J 4 kd (jk J)) pt)) hx hb hK hP 33 2 rfl rfl d_L_law_1381 ?_
      refine lv_lload hx hb d_L_law_1382 (lv_at hl 0 rfl) ?_
      refine z_lcmpR_eq (tgt := 1390) (pc1 := 1385) (pc4 := 1388) hx hb d_L_law_1384 rfl rfl d_L_law_1385 (by decide) (fun q1384 => ?_) (fun q1384 => ?_)
      · skip
        refine lv_goto (tgt := 1598) hx hb d_L_law_1390 (by decide) ?_
        exact kk J _ _ _ _ _ _ H locs ls ⟨hI, hM1, hR, hpq⟩ hP hD hS (lv_sub hl [2, 3, 4, 5, 6] rfl)
      · skip
        exact absurd rfl q1384
  · skip
    exfalso; omega

set_option maxHeartbeats 4000000 in
set_option maxRecDepth 100000 in
theorem lf_stopped_x1 {p : Program} {l : Launch} {e : Env} {s : State} {m : MethodId} {below : List Frame} {meth : Method} {c : Code} {Q : State → Prop} {sb L : Nat} {xs : Nat → Int32} {D : va_G} {A : Nat → Prop} {ad : Nat → Nat} {cI cZ cL : ClassId} {J : SJ} {rd : Nat → Int} {pr : Nat → Nat} {G : SH} {K : SK} {M : SM} {ov : Nat → Int64} {H : Heap} {locs : List Loc} {cells slots i : Nat} {ls : Array Slot} (X : LX p l s m meth c sb L xs D cI cZ cL A) (hLI : LI J rd pr M) (hi : i + 4 < L) (hc : cells + 1 ≤ 1061 ∧ slots + 6 ≤ 9679) {a b c9 : Int} (h : z32 a ∧ (a < 0 ∨ 3 ≤ a)) (ha1 : xs (i + 1) = iZ (a)) (ha2 : xs (i + 2) = iZ (b)) (ha3 : xs (i + 3) = iZ (c9)) (hP : va_P D classes (wdC ad cI cZ cL J rd pr G K (wdM ad cI cZ cL J rd pr M ov)) H) (hD : va_D A (wdC ad cI cZ cL J rd pr G K (wdM ad cI cZ cL J rd pr M ov))) (hS : va_S A s.heap H locs) (hl : lv_has ls 8 (lwL ad sb i)) (kk : LK p l e s m below meth c Q sb D A ad cI cZ cL i (cells + 1) (slots + 6)) : W p l e room_1 s m #[Value.ref sb] below meth c H locs cells slots Q (F0 m 905 ls []) := by
  obtain ⟨hl0, Z, hX, hbl, hK, hA, hbA, hTT, hSt, hL⟩ := X
  obtain ⟨hI, hM, hR, hpq⟩ := hLI
  obtain ⟨hx, hb, hr, hml, hown, hts, hE, hlocks⟩ := id Z
  have hn32 := hI.1
  have hk32 := hI.2.1
  have hl : lv_has ls 8 [(4, .int (iZ ((i : Nat) : Int))), (0, .ref (sb)), (1, .ref (ad 0)), (2, .ref (ad 19)), (3, .ref (ad 33))] := hl
  refine lv_aload_n hx hb d_L_law_905 rfl (lv_at hl 2 rfl) ?_
  refine lv_aload_n hx hb d_L_law_906 rfl (lv_at hl 1 rfl) ?_
  refine lv_iload hx hb d_L_law_907 (lv_at hl 0 rfl) ?_
  refine lv_iconst (v := iZ ((1 : Nat) : Int)) hx hb d_L_law_909 (by decide) ?_
  refine z_iaddN (u := i) (v := 1) hx hb d_L_law_910 ?_
  refine z_sld (v := iZ (a)) hx hb hX hbl hbA hS (i + 1) (by omega) ha1 d_L_law_911 ?_
  refine lv_aload_n hx hb d_L_law_912 rfl (lv_at hl 1 rfl) ?_
  refine lv_iload hx hb d_L_law_913 (lv_at hl 0 rfl) ?_
  refine lv_iconst (v := iZ ((2 : Nat) : Int)) hx hb d_L_law_915 (by decide) ?_
  refine z_iaddN (u := i) (v := 2) hx hb d_L_law_916 ?_
  refine z_sld (v := iZ (b)) hx hb hX hbl hbA hS (i + 2) (by omega) ha2 d_L_law_917 ?_
  refine lv_aload_n hx hb d_L_law_918 rfl (lv_at hl 1 rfl) ?_
  refine lv_iload hx hb d_L_law_919 (lv_at hl 0 rfl) ?_
  refine lv_iconst (v := iZ ((3 : Nat) : Int)) hx hb d_L_law_921 (by decide) ?_
  refine z_iaddN (u := i) (v := 3) hx hb d_L_law_922 ?_
  refine z_sld (v := iZ (c9)) hx hb hX hbl hbA hS (i + 3) (by omega) ha3 d_L_law_923 ?_
  refine lv_aload_n hx hb d_L_law_924 rfl (lv_at hl 4 rfl) ?_
  refine z_kiW (z_runSW (As := [.ref (ad 0), .int (iZ (a)), .int (iZ (b)), .int (iZ (c9)), .ref (ad 33)]) (rest := []) Z (k_L_stoppedx1 hl0 hI (a := a) (b := b) (c9 := c9) h) ⟨ml_L_142, sm_L_stopped, ini_L, co_L_stopped⟩ zd_L_stopped ⟨Nat.le_of_ble_eq_true rfl, Nat.le_of_ble_eq_true rfl⟩ hP hK hD (hTT _ _ hS) hSt hl.1 rfl (Nat.le_of_ble_eq_true rfl) d_L_law_925 ⟨hc.1, hc.2⟩) hD hS hA (fun r9 w9 H locs hp9 hP hD hS => ?_)
  obtain ⟨rfl, rfl⟩ := hp9
  have hP : va_P D classes (wdC ad cI cZ cL J rd pr G K (wdM ad cI cZ cL J rd pr M ov)) H := hP
  have hD : va_D A (wdC ad cI cZ cL J rd pr G K (wdM ad cI cZ cL J rd pr M ov)) := hD
  refine W.eq (g2 := F0 m 928 ls [.int (iZ ((1 : Nat) : Int))]) rfl ?_
  refine lv_istore (lv' := [(5, .int (iZ ((1 : Nat) : Int))), (4, .int (iZ ((i : Nat) : Int))), (0, .ref (sb)), (1, .ref (ad 0)), (2, .ref (ad 19)), (3, .ref (ad 33))]) hx hb d_L_law_928 hl (by decide) rfl (fun ls hl => ?_)
  refine lv_aload_n hx hb d_L_law_930 rfl (lv_at hl 4 rfl) ?_
  refine lv_aload_n hx hb d_L_law_931 rfl (lv_at hl 2 rfl) ?_
  refine lv_iload hx hb d_L_law_932 (lv_at hl 1 rfl) ?_
  refine lv_iconst (v := iZ ((1 : Nat) : Int)) hx hb d_L_law_934 (by decide) ?_
  refine z_iaddN (u := i) (v := 1) hx hb d_L_law_935 ?_
  refine z_sld (v := iZ (a)) hx hb hX hbl hbA hS (i + 1) (by omega) ha1 d_L_law_936 ?_
  refine lv_aload_n hx hb d_L_law_937 rfl (lv_at hl 2 rfl) ?_
  refine lv_iload hx hb d_L_law_938 (lv_at hl 1 rfl) ?_
  refine lv_iconst (v := iZ ((2 : Nat) : Int)) hx hb d_L_law_940 (by decide) ?_
  refine z_iaddN (u := i) (v := 2) hx hb d_L_law_941 ?_
  refine z_sld (v := iZ (b)) hx hb hX hbl hbA hS (i + 2) (by omega) ha2 d_L_law_942 ?_
  refine lv_aload_n hx hb d_L_law_943 rfl (lv_at hl 2 rfl) ?_
  refine lv_iload hx hb d_L_law_944 (lv_at hl 1 rfl) ?_
  refine lv_iconst (v := iZ ((3 : Nat) : Int)) hx hb d_L_law_946 (by decide) ?_
  refine z_iaddN (u := i) (v := 3) hx hb d_L_law_947 ?_
  refine z_sld (v := iZ (c9)) hx hb hX hbl hbA hS (i + 3) (by omega) ha3 d_L_law_948 ?_
  refine z_ki (z_runV (As := [.int (iZ (a)), .int (iZ (b)), .int (iZ (c9))]) (rest := []) zTB Z (k_M_stoppedx1 hI hM (a := a) (b := b) (c9 := c9) h) ⟨ml_L_144, im_M_stopped, se_M_stopped, ini_M, co_M_stopped⟩ zd_M_stopped ⟨Nat.le_of_ble_eq_true rfl, Nat.le_of_ble_eq_true rfl⟩ hP hK hD (ci := 5) (q0 := 19) rfl rfl rfl hl.1 rfl (Nat.le_of_ble_eq_true rfl) d_L_law_949 ⟨hc.1, hc.2⟩) hD hS hA (fun r9 w9 H locs hp9 hP hD hS => ?_)
  obtain ⟨M1, rfl, hc1, hM1⟩ := hp9
  have hP : va_P D classes (wdC ad cI cZ cL J rd pr G K (wdM ad cI cZ cL J rd pr M1 ov)) H := hP
  have hD : va_D A (wdC ad cI cZ cL J rd pr G K (wdM ad cI cZ cL J rd pr M1 ov)) := hD
  refine W.eq (g2 := F0 m 952 ls [.int (r9)]) rfl ?_
  refine lv_istore (lv' := [(6, .int (r9)), (5, .int (iZ ((1 : Nat) : Int))), (4, .int (iZ ((i : Nat) : Int))), (0, .ref (sb)), (1, .ref (ad 0)), (2, .ref (ad 19)), (3, .ref (ad 33))]) hx hb d_L_law_952 hl (by decide) rfl (fun ls hl => ?_)
  refine lv_aload_n hx hb d_L_law_954 rfl (lv_at hl 5 rfl) ?_
  refine z_callVR (As := []) (rest := []) zTB Z (k_M_thrown) ⟨ml_L_101, im_M_thrown, se_M_thrown, ini_M, co_M_thrown⟩ zd_M_thrown ⟨Nat.le_of_ble_eq_true rfl, Nat.le_of_ble_eq_true rfl⟩ hP hK (ci := 5) (q0 := 19) rfl rfl rfl hl.1 rfl (Nat.le_of_ble_eq_true rfl) d_L_law_955 ⟨hc.1, hc.2⟩ ?_
  refine W.eq (g2 := F0 m 958 ls [.int (iZ ((M1.1 : Nat) : Int))]) rfl ?_
  refine z_topZ (b := ((1 : Nat) : Int)) (by rw [hc1]) ?_
  refine lv_iload hx hb d_L_law_958 (lv_at hl 1 rfl) ?_
  refine z_icmp_eq (a := ((1 : Nat) : Int)) (b := ((1 : Nat) : Int)) (tgt := 965) hx hb (by omega) d_L_law_960 (by decide) (fun q960 => ?_) (fun q960 => ?_)
  · skip
    refine lv_iload hx hb d_L_law_965 (lv_at hl 1 rfl) ?_
    refine z_if_ne (a := ((1 : Nat) : Int)) (tgt := 982) hx hb (by omega) d_L_law_967 (by decide) (fun q967 => ?_) (fun q967 => ?_)
    · skip
      refine lv_goto (tgt := 1598) hx hb d_L_law_982 (by decide) ?_
      exact kk J _ _ _ _ _ _ H locs ls ⟨hI, hM1, hR, hpq⟩ hP hD hS (lv_sub hl [2, 3, 4, 5, 6] rfl)
    · skip
      exfalso; omega
  · skip
    exfalso; omega

set_option maxHeartbeats 4000000 in
set_option maxRecDepth 100000 in
theorem lf_stopped_x2 {p : Program} {l : Launch} {e : Env} {s : State} {m : MethodId} {below : List Frame} {meth : Method} {c : Code} {Q : State → Prop} {sb L : Nat} {xs : Nat → Int32} {D : va_G} {A : Nat → Prop} {ad : Nat → Nat} {cI cZ cL : ClassId} {J : SJ} {rd : Nat → Int} {pr : Nat → Nat} {G : SH} {K : SK} {M : SM} {ov : Nat → Int64} {H : Heap} {locs : List Loc} {cells slots i : Nat} {ls : Array Slot} (X : LX p l s m meth c sb L xs D cI cZ cL A) (hLI : LI J rd pr M) (hi : i + 4 < L) (hc : cells + 1 ≤ 1061 ∧ slots + 6 ≤ 9679) {kd : Nat} {b c9 : Int} (hkd : kd < 3) (h : z32 b ∧ (b < 1 ∨ 16 < b)) (hz : z32 c9) (ha1 : xs (i + 1) = iZ ((kd : Nat) : Int)) (ha2 : xs (i + 2) = iZ (b)) (ha3 : xs (i + 3) = iZ (c9)) (hP : va_P D classes (wdC ad cI cZ cL J rd pr G K (wdM ad cI cZ cL J rd pr M ov)) H) (hD : va_D A (wdC ad cI cZ cL J rd pr G K (wdM ad cI cZ cL J rd pr M ov))) (hS : va_S A s.heap H locs) (hl : lv_has ls 8 (lwL ad sb i)) (kk : LK p l e s m below meth c Q sb D A ad cI cZ cL i (cells + 1) (slots + 6)) : W p l e room_1 s m #[Value.ref sb] below meth c H locs cells slots Q (F0 m 905 ls []) := by
  obtain ⟨hl0, Z, hX, hbl, hK, hA, hbA, hTT, hSt, hL⟩ := X
  obtain ⟨hI, hM, hR, hpq⟩ := hLI
  obtain ⟨hx, hb, hr, hml, hown, hts, hE, hlocks⟩ := id Z
  have hn32 := hI.1
  have hk32 := hI.2.1
  have hl : lv_has ls 8 [(4, .int (iZ ((i : Nat) : Int))), (0, .ref (sb)), (1, .ref (ad 0)), (2, .ref (ad 19)), (3, .ref (ad 33))] := hl
  refine lv_aload_n hx hb d_L_law_905 rfl (lv_at hl 2 rfl) ?_
  refine lv_aload_n hx hb d_L_law_906 rfl (lv_at hl 1 rfl) ?_
  refine lv_iload hx hb d_L_law_907 (lv_at hl 0 rfl) ?_
  refine lv_iconst (v := iZ ((1 : Nat) : Int)) hx hb d_L_law_909 (by decide) ?_
  refine z_iaddN (u := i) (v := 1) hx hb d_L_law_910 ?_
  refine z_sld (v := iZ ((kd : Nat) : Int)) hx hb hX hbl hbA hS (i + 1) (by omega) ha1 d_L_law_911 ?_
  refine lv_aload_n hx hb d_L_law_912 rfl (lv_at hl 1 rfl) ?_
  refine lv_iload hx hb d_L_law_913 (lv_at hl 0 rfl) ?_
  refine lv_iconst (v := iZ ((2 : Nat) : Int)) hx hb d_L_law_915 (by decide) ?_
  refine z_iaddN (u := i) (v := 2) hx hb d_L_law_916 ?_
  refine z_sld (v := iZ (b)) hx hb hX hbl hbA hS (i + 2) (by omega) ha2 d_L_law_917 ?_
  refine lv_aload_n hx hb d_L_law_918 rfl (lv_at hl 1 rfl) ?_
  refine lv_iload hx hb d_L_law_919 (lv_at hl 0 rfl) ?_
  refine lv_iconst (v := iZ ((3 : Nat) : Int)) hx hb d_L_law_921 (by decide) ?_
  refine z_iaddN (u := i) (v := 3) hx hb d_L_law_922 ?_
  refine z_sld (v := iZ (c9)) hx hb hX hbl hbA hS (i + 3) (by omega) ha3 d_L_law_923 ?_
  refine lv_aload_n hx hb d_L_law_924 rfl (lv_at hl 4 rfl) ?_
  refine z_kiW (z_runSW (As := [.ref (ad 0), .int (iZ ((kd : Nat) : Int)), .int (iZ (b)), .int (iZ (c9)), .ref (ad 33)]) (rest := []) Z (k_L_stoppedx2 hl0 hI (kd := kd) (b := b) (c9 := c9) hkd h) ⟨ml_L_142, sm_L_stopped, ini_L, co_L_stopped⟩ zd_L_stopped ⟨Nat.le_of_ble_eq_true rfl, Nat.le_of_ble_eq_true rfl⟩ hP hK hD (hTT _ _ hS) hSt hl.1 rfl (Nat.le_of_ble_eq_true rfl) d_L_law_925 ⟨hc.1, hc.2⟩) hD hS hA (fun r9 w9 H locs hp9 hP hD hS => ?_)
  obtain ⟨rfl, rfl⟩ := hp9
  have hP : va_P D classes (wdC ad cI cZ cL J rd pr G K (wdM ad cI cZ cL J rd pr M ov)) H := hP
  have hD : va_D A (wdC ad cI cZ cL J rd pr G K (wdM ad cI cZ cL J rd pr M ov)) := hD
  refine W.eq (g2 := F0 m 928 ls [.int (iZ ((2 : Nat) : Int))]) rfl ?_
  refine lv_istore (lv' := [(5, .int (iZ ((2 : Nat) : Int))), (4, .int (iZ ((i : Nat) : Int))), (0, .ref (sb)), (1, .ref (ad 0)), (2, .ref (ad 19)), (3, .ref (ad 33))]) hx hb d_L_law_928 hl (by decide) rfl (fun ls hl => ?_)
  refine lv_aload_n hx hb d_L_law_930 rfl (lv_at hl 4 rfl) ?_
  refine lv_aload_n hx hb d_L_law_931 rfl (lv_at hl 2 rfl) ?_
  refine lv_iload hx hb d_L_law_932 (lv_at hl 1 rfl) ?_
  refine lv_iconst (v := iZ ((1 : Nat) : Int)) hx hb d_L_law_934 (by decide) ?_
  refine z_iaddN (u := i) (v := 1) hx hb d_L_law_935 ?_
  refine z_sld (v := iZ ((kd : Nat) : Int)) hx hb hX hbl hbA hS (i + 1) (by omega) ha1 d_L_law_936 ?_
  refine lv_aload_n hx hb d_L_law_937 rfl (lv_at hl 2 rfl) ?_
  refine lv_iload hx hb d_L_law_938 (lv_at hl 1 rfl) ?_
  refine lv_iconst (v := iZ ((2 : Nat) : Int)) hx hb d_L_law_940 (by decide) ?_
  refine z_iaddN (u := i) (v := 2) hx hb d_L_law_941 ?_
  refine z_sld (v := iZ (b)) hx hb hX hbl hbA hS (i + 2) (by omega) ha2 d_L_law_942 ?_
  refine lv_aload_n hx hb d_L_law_943 rfl (lv_at hl 2 rfl) ?_
  refine lv_iload hx hb d_L_law_944 (lv_at hl 1 rfl) ?_
  refine lv_iconst (v := iZ ((3 : Nat) : Int)) hx hb d_L_law_946 (by decide) ?_
  refine z_iaddN (u := i) (v := 3) hx hb d_L_law_947 ?_
  refine z_sld (v := iZ (c9)) hx hb hX hbl hbA hS (i + 3) (by omega) ha3 d_L_law_948 ?_
  refine z_ki (z_runV (As := [.int (iZ ((kd : Nat) : Int)), .int (iZ (b)), .int (iZ (c9))]) (rest := []) zTB Z (k_M_stoppedx2 hI hM (kd := kd) (b := b) (c9 := c9) hkd (by omega)) ⟨ml_L_144, im_M_stopped, se_M_stopped, ini_M, co_M_stopped⟩ zd_M_stopped ⟨Nat.le_of_ble_eq_true rfl, Nat.le_of_ble_eq_true rfl⟩ hP hK hD (ci := 5) (q0 := 19) rfl rfl rfl hl.1 rfl (Nat.le_of_ble_eq_true rfl) d_L_law_949 ⟨hc.1, hc.2⟩) hD hS hA (fun r9 w9 H locs hp9 hP hD hS => ?_)
  obtain ⟨M1, rfl, hc1, hM1⟩ := hp9
  have hP : va_P D classes (wdC ad cI cZ cL J rd pr G K (wdM ad cI cZ cL J rd pr M1 ov)) H := hP
  have hD : va_D A (wdC ad cI cZ cL J rd pr G K (wdM ad cI cZ cL J rd pr M1 ov)) := hD
  refine W.eq (g2 := F0 m 952 ls [.int (r9)]) rfl ?_
  refine lv_istore (lv' := [(6, .int (r9)), (5, .int (iZ ((2 : Nat) : Int))), (4, .int (iZ ((i : Nat) : Int))), (0, .ref (sb)), (1, .ref (ad 0)), (2, .ref (ad 19)), (3, .ref (ad 33))]) hx hb d_L_law_952 hl (by decide) rfl (fun ls hl => ?_)
  refine lv_aload_n hx hb d_L_law_954 rfl (lv_at hl 5 rfl) ?_
  refine z_callVR (As := []) (rest := []) zTB Z (k_M_thrown) ⟨ml_L_101, im_M_thrown, se_M_thrown, ini_M, co_M_thrown⟩ zd_M_thrown ⟨Nat.le_of_ble_eq_true rfl, Nat.le_of_ble_eq_true rfl⟩ hP hK (ci := 5) (q0 := 19) rfl rfl rfl hl.1 rfl (Nat.le_of_ble_eq_true rfl) d_L_law_955 ⟨hc.1, hc.2⟩ ?_
  refine W.eq (g2 := F0 m 958 ls [.int (iZ ((M1.1 : Nat) : Int))]) rfl ?_
  refine z_topZ (b := ((2 : Nat) : Int)) (by rw [hc1]) ?_
  refine lv_iload hx hb d_L_law_958 (lv_at hl 1 rfl) ?_
  refine z_icmp_eq (a := ((2 : Nat) : Int)) (b := ((2 : Nat) : Int)) (tgt := 965) hx hb (by omega) d_L_law_960 (by decide) (fun q960 => ?_) (fun q960 => ?_)
  · skip
    refine lv_iload hx hb d_L_law_965 (lv_at hl 1 rfl) ?_
    refine z_if_ne (a := ((2 : Nat) : Int)) (tgt := 982) hx hb (by omega) d_L_law_967 (by decide) (fun q967 => ?_) (fun q967 => ?_)
    · skip
      refine lv_goto (tgt := 1598) hx hb d_L_law_982 (by decide) ?_
      exact kk J _ _ _ _ _ _ H locs ls ⟨hI, hM1, hR, hpq⟩ hP hD hS (lv_sub hl [2, 3, 4, 5, 6] rfl)
    · skip
      exfalso; omega
  · skip
    exfalso; omega

set_option maxHeartbeats 4000000 in
set_option maxRecDepth 100000 in
theorem lf_stopped_x3 {p : Program} {l : Launch} {e : Env} {s : State} {m : MethodId} {below : List Frame} {meth : Method} {c : Code} {Q : State → Prop} {sb L : Nat} {xs : Nat → Int32} {D : va_G} {A : Nat → Prop} {ad : Nat → Nat} {cI cZ cL : ClassId} {J : SJ} {rd : Nat → Int} {pr : Nat → Nat} {G : SH} {K : SK} {M : SM} {ov : Nat → Int64} {H : Heap} {locs : List Loc} {cells slots i : Nat} {ls : Array Slot} (X : LX p l s m meth c sb L xs D cI cZ cL A) (hLI : LI J rd pr M) (hi : i + 4 < L) (hc : cells + 1 ≤ 1061 ∧ slots + 6 ≤ 9679) {kd : Nat} {b c9 : Int} (hkd : kd < 3) (h : 1 ≤ b ∧ b ≤ 16 ∧ z32 c9 ∧ (c9 < 1 ∨ 16 < c9)) (ha1 : xs (i + 1) = iZ ((kd : Nat) : Int)) (ha2 : xs (i + 2) = iZ (b)) (ha3 : xs (i + 3) = iZ (c9)) (hP : va_P D classes (wdC ad cI cZ cL J rd pr G K (wdM ad cI cZ cL J rd pr M ov)) H) (hD : va_D A (wdC ad cI cZ cL J rd pr G K (wdM ad cI cZ cL J rd pr M ov))) (hS : va_S A s.heap H locs) (hl : lv_has ls 8 (lwL ad sb i)) (kk : LK p l e s m below meth c Q sb D A ad cI cZ cL i (cells + 1) (slots + 6)) : W p l e room_1 s m #[Value.ref sb] below meth c H locs cells slots Q (F0 m 905 ls []) := by
  obtain ⟨hl0, Z, hX, hbl, hK, hA, hbA, hTT, hSt, hL⟩ := X
  obtain ⟨hI, hM, hR, hpq⟩ := hLI
  obtain ⟨hx, hb, hr, hml, hown, hts, hE, hlocks⟩ := id Z
  have hn32 := hI.1
  have hk32 := hI.2.1
  have hl : lv_has ls 8 [(4, .int (iZ ((i : Nat) : Int))), (0, .ref (sb)), (1, .ref (ad 0)), (2, .ref (ad 19)), (3, .ref (ad 33))] := hl
  refine lv_aload_n hx hb d_L_law_905 rfl (lv_at hl 2 rfl) ?_
  refine lv_aload_n hx hb d_L_law_906 rfl (lv_at hl 1 rfl) ?_
  refine lv_iload hx hb d_L_law_907 (lv_at hl 0 rfl) ?_
  refine lv_iconst (v := iZ ((1 : Nat) : Int)) hx hb d_L_law_909 (by decide) ?_
  refine z_iaddN (u := i) (v := 1) hx hb d_L_law_910 ?_
  refine z_sld (v := iZ ((kd : Nat) : Int)) hx hb hX hbl hbA hS (i + 1) (by omega) ha1 d_L_law_911 ?_
  refine lv_aload_n hx hb d_L_law_912 rfl (lv_at hl 1 rfl) ?_
  refine lv_iload hx hb d_L_law_913 (lv_at hl 0 rfl) ?_
  refine lv_iconst (v := iZ ((2 : Nat) : Int)) hx hb d_L_law_915 (by decide) ?_
  refine z_iaddN (u := i) (v := 2) hx hb d_L_law_916 ?_
  refine z_sld (v := iZ (b)) hx hb hX hbl hbA hS (i + 2) (by omega) ha2 d_L_law_917 ?_
  refine lv_aload_n hx hb d_L_law_918 rfl (lv_at hl 1 rfl) ?_
  refine lv_iload hx hb d_L_law_919 (lv_at hl 0 rfl) ?_
  refine lv_iconst (v := iZ ((3 : Nat) : Int)) hx hb d_L_law_921 (by decide) ?_
  refine z_iaddN (u := i) (v := 3) hx hb d_L_law_922 ?_
  refine z_sld (v := iZ (c9)) hx hb hX hbl hbA hS (i + 3) (by omega) ha3 d_L_law_923 ?_
  refine lv_aload_n hx hb d_L_law_924 rfl (lv_at hl 4 rfl) ?_
  refine z_kiW (z_runSW (As := [.ref (ad 0), .int (iZ ((kd : Nat) : Int)), .int (iZ (b)), .int (iZ (c9)), .ref (ad 33)]) (rest := []) Z (k_L_stoppedx3 hl0 hI (kd := kd) (b := b) (c9 := c9) hkd h) ⟨ml_L_142, sm_L_stopped, ini_L, co_L_stopped⟩ zd_L_stopped ⟨Nat.le_of_ble_eq_true rfl, Nat.le_of_ble_eq_true rfl⟩ hP hK hD (hTT _ _ hS) hSt hl.1 rfl (Nat.le_of_ble_eq_true rfl) d_L_law_925 ⟨hc.1, hc.2⟩) hD hS hA (fun r9 w9 H locs hp9 hP hD hS => ?_)
  obtain ⟨rfl, rfl⟩ := hp9
  have hP : va_P D classes (wdC ad cI cZ cL J rd pr G K (wdM ad cI cZ cL J rd pr M ov)) H := hP
  have hD : va_D A (wdC ad cI cZ cL J rd pr G K (wdM ad cI cZ cL J rd pr M ov)) := hD
  refine W.eq (g2 := F0 m 928 ls [.int (iZ ((2 : Nat) : Int))]) rfl ?_
  refine lv_istore (lv' := [(5, .int (iZ ((2 : Nat) : Int))), (4, .int (iZ ((i : Nat) : Int))), (0, .ref (sb)), (1, .ref (ad 0)), (2, .ref (ad 19)), (3, .ref (ad 33))]) hx hb d_L_law_928 hl (by decide) rfl (fun ls hl => ?_)
  refine lv_aload_n hx hb d_L_law_930 rfl (lv_at hl 4 rfl) ?_
  refine lv_aload_n hx hb d_L_law_931 rfl (lv_at hl 2 rfl) ?_
  refine lv_iload hx hb d_L_law_932 (lv_at hl 1 rfl) ?_
  refine lv_iconst (v := iZ ((1 : Nat) : Int)) hx hb d_L_law_934 (by decide) ?_
  refine z_iaddN (u := i) (v := 1) hx hb d_L_law_935 ?_
  refine z_sld (v := iZ ((kd : Nat) : Int)) hx hb hX hbl hbA hS (i + 1) (by omega) ha1 d_L_law_936 ?_
  refine lv_aload_n hx hb d_L_law_937 rfl (lv_at hl 2 rfl) ?_
  refine lv_iload hx hb d_L_law_938 (lv_at hl 1 rfl) ?_
  refine lv_iconst (v := iZ ((2 : Nat) : Int)) hx hb d_L_law_940 (by decide) ?_
  refine z_iaddN (u := i) (v := 2) hx hb d_L_law_941 ?_
  refine z_sld (v := iZ (b)) hx hb hX hbl hbA hS (i + 2) (by omega) ha2 d_L_law_942 ?_
  refine lv_aload_n hx hb d_L_law_943 rfl (lv_at hl 2 rfl) ?_
  refine lv_iload hx hb d_L_law_944 (lv_at hl 1 rfl) ?_
  refine lv_iconst (v := iZ ((3 : Nat) : Int)) hx hb d_L_law_946 (by decide) ?_
  refine z_iaddN (u := i) (v := 3) hx hb d_L_law_947 ?_
  refine z_sld (v := iZ (c9)) hx hb hX hbl hbA hS (i + 3) (by omega) ha3 d_L_law_948 ?_
  refine z_ki (z_runV (As := [.int (iZ ((kd : Nat) : Int)), .int (iZ (b)), .int (iZ (c9))]) (rest := []) zTB Z (k_M_stoppedx2 hI hM (kd := kd) (b := b) (c9 := c9) hkd (by omega)) ⟨ml_L_144, im_M_stopped, se_M_stopped, ini_M, co_M_stopped⟩ zd_M_stopped ⟨Nat.le_of_ble_eq_true rfl, Nat.le_of_ble_eq_true rfl⟩ hP hK hD (ci := 5) (q0 := 19) rfl rfl rfl hl.1 rfl (Nat.le_of_ble_eq_true rfl) d_L_law_949 ⟨hc.1, hc.2⟩) hD hS hA (fun r9 w9 H locs hp9 hP hD hS => ?_)
  obtain ⟨M1, rfl, hc1, hM1⟩ := hp9
  have hP : va_P D classes (wdC ad cI cZ cL J rd pr G K (wdM ad cI cZ cL J rd pr M1 ov)) H := hP
  have hD : va_D A (wdC ad cI cZ cL J rd pr G K (wdM ad cI cZ cL J rd pr M1 ov)) := hD
  refine W.eq (g2 := F0 m 952 ls [.int (r9)]) rfl ?_
  refine lv_istore (lv' := [(6, .int (r9)), (5, .int (iZ ((2 : Nat) : Int))), (4, .int (iZ ((i : Nat) : Int))), (0, .ref (sb)), (1, .ref (ad 0)), (2, .ref (ad 19)), (3, .ref (ad 33))]) hx hb d_L_law_952 hl (by decide) rfl (fun ls hl => ?_)
  refine lv_aload_n hx hb d_L_law_954 rfl (lv_at hl 5 rfl) ?_
  refine z_callVR (As := []) (rest := []) zTB Z (k_M_thrown) ⟨ml_L_101, im_M_thrown, se_M_thrown, ini_M, co_M_thrown⟩ zd_M_thrown ⟨Nat.le_of_ble_eq_true rfl, Nat.le_of_ble_eq_true rfl⟩ hP hK (ci := 5) (q0 := 19) rfl rfl rfl hl.1 rfl (Nat.le_of_ble_eq_true rfl) d_L_law_955 ⟨hc.1, hc.2⟩ ?_
  refine W.eq (g2 := F0 m 958 ls [.int (iZ ((M1.1 : Nat) : Int))]) rfl ?_
  refine z_topZ (b := ((2 : Nat) : Int)) (by rw [hc1]) ?_
  refine lv_iload hx hb d_L_law_958 (lv_at hl 1 rfl) ?_
  refine z_icmp_eq (a := ((2 : Nat) : Int)) (b := ((2 : Nat) : Int)) (tgt := 965) hx hb (by omega) d_L_law_960 (by decide) (fun q960 => ?_) (fun q960 => ?_)
  · skip
    refine lv_iload hx hb d_L_law_965 (lv_at hl 1 rfl) ?_
    refine z_if_ne (a := ((2 : Nat) : Int)) (tgt := 982) hx hb (by omega) d_L_law_967 (by decide) (fun q967 => ?_) (fun q967 => ?_)
    · skip
      refine lv_goto (tgt := 1598) hx hb d_L_law_982 (by decide) ?_
      exact kk J _ _ _ _ _ _ H locs ls ⟨hI, hM1, hR, hpq⟩ hP hD hS (lv_sub hl [2, 3, 4, 5, 6] rfl)
    · skip
      exfalso; omega
  · skip
    exfalso; omega

set_option maxHeartbeats 4000000 in
set_option maxRecDepth 100000 in
theorem lf_stopped_0 {p : Program} {l : Launch} {e : Env} {s : State} {m : MethodId} {below : List Frame} {meth : Method} {c : Code} {Q : State → Prop} {sb L : Nat} {xs : Nat → Int32} {D : va_G} {A : Nat → Prop} {ad : Nat → Nat} {cI cZ cL : ClassId} {J : SJ} {rd : Nat → Int} {pr : Nat → Nat} {G : SH} {K : SK} {M : SM} {ov : Nat → Int64} {H : Heap} {locs : List Loc} {cells slots i : Nat} {ls : Array Slot} (X : LX p l s m meth c sb L xs D cI cZ cL A) (hLI : LI J rd pr M) (hi : i + 4 < L) (hc : cells + 1 ≤ 1061 ∧ slots + 6 ≤ 9679) {kd up lo : Nat} (hkd : kd < 3) (hup : 1 ≤ up ∧ up ≤ 16) (hlo : 1 ≤ lo ∧ lo ≤ 16) (ha1 : xs (i + 1) = iZ ((kd : Nat) : Int)) (ha2 : xs (i + 2) = iZ ((up : Nat) : Int)) (ha3 : xs (i + 3) = iZ ((lo : Nat) : Int)) (hP : va_P D classes (wdC ad cI cZ cL J rd pr G K (wdM ad cI cZ cL J rd pr M ov)) H) (hD : va_D A (wdC ad cI cZ cL J rd pr G K (wdM ad cI cZ cL J rd pr M ov))) (hS : va_S A s.heap H locs) (hl : lv_has ls 8 (lwL ad sb i)) (kk : LK p l e s m below meth c Q sb D A ad cI cZ cL i (cells + 1) (slots + 6)) : W p l e room_1 s m #[Value.ref sb] below meth c H locs cells slots Q (F0 m 905 ls []) := by
  obtain ⟨hl0, Z, hX, hbl, hK, hA, hbA, hTT, hSt, hL⟩ := X
  obtain ⟨hI, hM, hR, hpq⟩ := hLI
  obtain ⟨hx, hb, hr, hml, hown, hts, hE, hlocks⟩ := id Z
  have hn32 := hI.1
  have hk32 := hI.2.1
  have hl : lv_has ls 8 [(4, .int (iZ ((i : Nat) : Int))), (0, .ref (sb)), (1, .ref (ad 0)), (2, .ref (ad 19)), (3, .ref (ad 33))] := hl
  refine lv_aload_n hx hb d_L_law_905 rfl (lv_at hl 2 rfl) ?_
  refine lv_aload_n hx hb d_L_law_906 rfl (lv_at hl 1 rfl) ?_
  refine lv_iload hx hb d_L_law_907 (lv_at hl 0 rfl) ?_
  refine lv_iconst (v := iZ ((1 : Nat) : Int)) hx hb d_L_law_909 (by decide) ?_
  refine z_iaddN (u := i) (v := 1) hx hb d_L_law_910 ?_
  refine z_sld (v := iZ ((kd : Nat) : Int)) hx hb hX hbl hbA hS (i + 1) (by omega) ha1 d_L_law_911 ?_
  refine lv_aload_n hx hb d_L_law_912 rfl (lv_at hl 1 rfl) ?_
  refine lv_iload hx hb d_L_law_913 (lv_at hl 0 rfl) ?_
  refine lv_iconst (v := iZ ((2 : Nat) : Int)) hx hb d_L_law_915 (by decide) ?_
  refine z_iaddN (u := i) (v := 2) hx hb d_L_law_916 ?_
  refine z_sld (v := iZ ((up : Nat) : Int)) hx hb hX hbl hbA hS (i + 2) (by omega) ha2 d_L_law_917 ?_
  refine lv_aload_n hx hb d_L_law_918 rfl (lv_at hl 1 rfl) ?_
  refine lv_iload hx hb d_L_law_919 (lv_at hl 0 rfl) ?_
  refine lv_iconst (v := iZ ((3 : Nat) : Int)) hx hb d_L_law_921 (by decide) ?_
  refine z_iaddN (u := i) (v := 3) hx hb d_L_law_922 ?_
  refine z_sld (v := iZ ((lo : Nat) : Int)) hx hb hX hbl hbA hS (i + 3) (by omega) ha3 d_L_law_923 ?_
  refine lv_aload_n hx hb d_L_law_924 rfl (lv_at hl 4 rfl) ?_
  refine z_kiW (z_runSW (As := [.ref (ad 0), .int (iZ ((kd : Nat) : Int)), .int (iZ ((up : Nat) : Int)), .int (iZ ((lo : Nat) : Int)), .ref (ad 33)]) (rest := []) Z (k_L_stopped0 hI (kd := kd) (up := up) (lo := lo) hkd hup hlo) ⟨ml_L_142, sm_L_stopped, ini_L, co_L_stopped⟩ zd_L_stopped ⟨Nat.le_of_ble_eq_true rfl, Nat.le_of_ble_eq_true rfl⟩ hP hK hD (hTT _ _ hS) hSt hl.1 rfl (Nat.le_of_ble_eq_true rfl) d_L_law_925 ⟨hc.1, hc.2⟩) hD hS hA (fun r9 w9 H locs hp9 hP hD hS => ?_)
  obtain ⟨rfl, rfl⟩ := hp9
  have hP : va_P D classes (wdC ad cI cZ cL J rd pr G K (wdM ad cI cZ cL J rd pr M (oU ov ((iZ (sSt J kd up lo (jk J) 0)).toInt64)))) H := hP
  have hD : va_D A (wdC ad cI cZ cL J rd pr G K (wdM ad cI cZ cL J rd pr M (oU ov ((iZ (sSt J kd up lo (jk J) 0)).toInt64)))) := hD
  refine W.eq (g2 := F0 m 928 ls [.int (iZ ((0 : Nat) : Int))]) rfl ?_
  refine lv_istore (lv' := [(5, .int (iZ ((0 : Nat) : Int))), (4, .int (iZ ((i : Nat) : Int))), (0, .ref (sb)), (1, .ref (ad 0)), (2, .ref (ad 19)), (3, .ref (ad 33))]) hx hb d_L_law_928 hl (by decide) rfl (fun ls hl => ?_)
  refine lv_aload_n hx hb d_L_law_930 rfl (lv_at hl 4 rfl) ?_
  refine lv_aload_n hx hb d_L_law_931 rfl (lv_at hl 2 rfl) ?_
  refine lv_iload hx hb d_L_law_932 (lv_at hl 1 rfl) ?_
  refine lv_iconst (v := iZ ((1 : Nat) : Int)) hx hb d_L_law_934 (by decide) ?_
  refine z_iaddN (u := i) (v := 1) hx hb d_L_law_935 ?_
  refine z_sld (v := iZ ((kd : Nat) : Int)) hx hb hX hbl hbA hS (i + 1) (by omega) ha1 d_L_law_936 ?_
  refine lv_aload_n hx hb d_L_law_937 rfl (lv_at hl 2 rfl) ?_
  refine lv_iload hx hb d_L_law_938 (lv_at hl 1 rfl) ?_
  refine lv_iconst (v := iZ ((2 : Nat) : Int)) hx hb d_L_law_940 (by decide) ?_
  refine z_iaddN (u := i) (v := 2) hx hb d_L_law_941 ?_
  refine z_sld (v := iZ ((up : Nat) : Int)) hx hb hX hbl hbA hS (i + 2) (by omega) ha2 d_L_law_942 ?_
  refine lv_aload_n hx hb d_L_law_943 rfl (lv_at hl 2 rfl) ?_
  refine lv_iload hx hb d_L_law_944 (lv_at hl 1 rfl) ?_
  refine lv_iconst (v := iZ ((3 : Nat) : Int)) hx hb d_L_law_946 (by decide) ?_
  refine z_iaddN (u := i) (v := 3) hx hb d_L_law_947 ?_
  refine z_sld (v := iZ ((lo : Nat) : Int)) hx hb hX hbl hbA hS (i + 3) (by omega) ha3 d_L_law_948 ?_
  refine z_ki (z_runV (As := [.int (iZ ((kd : Nat) : Int)), .int (iZ ((up : Nat) : Int)), .int (iZ ((lo : Nat) : Int))]) (rest := []) zTB Z (k_M_stopped0 hI hM hkd hup hlo) ⟨ml_L_144, im_M_stopped, se_M_stopped, ini_M, co_M_stopped⟩ zd_M_stopped ⟨Nat.le_of_ble_eq_true rfl, Nat.le_of_ble_eq_true rfl⟩ hP hK hD (ci := 5) (q0 := 19) rfl rfl rfl hl.1 rfl (Nat.le_of_ble_eq_true rfl) d_L_law_949 ⟨hc.1, hc.2⟩) hD hS hA (fun r9 w9 H locs hp9 hP hD hS => ?_)
  obtain ⟨M1, rfl, rfl, hc1, hM1⟩ := hp9
  have hP : va_P D classes (wdC ad cI cZ cL J rd pr G K (wdM ad cI cZ cL J rd pr M1 (oU ov ((iZ (sSt J kd up lo (jk J) 0)).toInt64)))) H := hP
  have hD : va_D A (wdC ad cI cZ cL J rd pr G K (wdM ad cI cZ cL J rd pr M1 (oU ov ((iZ (sSt J kd up lo (jk J) 0)).toInt64)))) := hD
  refine W.eq (g2 := F0 m 952 ls [.int (iZ (sSt J kd up lo (jk J) 0))]) rfl ?_
  refine lv_istore (lv' := [(6, .int (iZ (sSt J kd up lo (jk J) 0))), (5, .int (iZ ((0 : Nat) : Int))), (4, .int (iZ ((i : Nat) : Int))), (0, .ref (sb)), (1, .ref (ad 0)), (2, .ref (ad 19)), (3, .ref (ad 33))]) hx hb d_L_law_952 hl (by decide) rfl (fun ls hl => ?_)
  refine lv_aload_n hx hb d_L_law_954 rfl (lv_at hl 5 rfl) ?_
  refine z_callVR (As := []) (rest := []) zTB Z (k_M_thrown) ⟨ml_L_101, im_M_thrown, se_M_thrown, ini_M, co_M_thrown⟩ zd_M_thrown ⟨Nat.le_of_ble_eq_true rfl, Nat.le_of_ble_eq_true rfl⟩ hP hK (ci := 5) (q0 := 19) rfl rfl rfl hl.1 rfl (Nat.le_of_ble_eq_true rfl) d_L_law_955 ⟨hc.1, hc.2⟩ ?_
  refine W.eq (g2 := F0 m 958 ls [.int (iZ ((M1.1 : Nat) : Int))]) rfl ?_
  refine z_topZ (b := ((0 : Nat) : Int)) (by rw [hc1]) ?_
  refine lv_iload hx hb d_L_law_958 (lv_at hl 1 rfl) ?_
  refine z_icmp_eq (a := ((0 : Nat) : Int)) (b := ((0 : Nat) : Int)) (tgt := 965) hx hb (by omega) d_L_law_960 (by decide) (fun q960 => ?_) (fun q960 => ?_)
  · skip
    refine lv_iload hx hb d_L_law_965 (lv_at hl 1 rfl) ?_
    refine z_if_ne (a := ((0 : Nat) : Int)) (tgt := 982) hx hb (by omega) d_L_law_967 (by decide) (fun q967 => ?_) (fun q967 => ?_)
    · skip
      exfalso; omega
    · skip
      refine lv_aload_n hx hb d_L_law_970 rfl (lv_at hl 6 rfl) ?_
      refine lv_iconst (v := iZ ((0 : Nat) : Int)) hx hb d_L_law_971 (by decide) ?_
      refine z_old (x := (iZ (sSt J kd up lo (jk J) 0)).toInt64) hx hb hK hP 33 2 rfl rfl d_L_law_972 ?_
      refine lv_iload hx hb d_L_law_973 (lv_at hl 0 rfl) ?_
      refine lv_i2l (v := (iZ (sSt J kd up lo (jk J) 0)).toInt64) hx hb d_L_law_975 rfl ?_
      refine z_lcmpR_eq (tgt := 982) (pc1 := 977) (pc4 := 980) hx hb d_L_law_976 rfl rfl d_L_law_977 (by decide) (fun q976 => ?_) (fun q976 => ?_)
      · skip
        refine lv_goto (tgt := 1598) hx hb d_L_law_982 (by decide) ?_
        exact kk J _ _ _ _ _ _ H locs ls ⟨hI, hM1, hR, hpq⟩ hP hD hS (lv_sub hl [2, 3, 4, 5, 6] rfl)
      · skip
        exact absurd rfl q976
  · skip
    exfalso; omega

set_option maxHeartbeats 4000000 in
set_option maxRecDepth 100000 in
theorem lf_crossing_x1 {p : Program} {l : Launch} {e : Env} {s : State} {m : MethodId} {below : List Frame} {meth : Method} {c : Code} {Q : State → Prop} {sb L : Nat} {xs : Nat → Int32} {D : va_G} {A : Nat → Prop} {ad : Nat → Nat} {cI cZ cL : ClassId} {J : SJ} {rd : Nat → Int} {pr : Nat → Nat} {G : SH} {K : SK} {M : SM} {ov : Nat → Int64} {H : Heap} {locs : List Loc} {cells slots i : Nat} {ls : Array Slot} (X : LX p l s m meth c sb L xs D cI cZ cL A) (hLI : LI J rd pr M) (hi : i + 4 < L) (hc : cells + 1 ≤ 1061 ∧ slots + 6 ≤ 9679) {a b c9 d9 : Int} (h : z32 d9 ∧ (d9 < 0 ∨ 2 ≤ d9)) (ha1 : xs (i + 1) = iZ (a)) (ha2 : xs (i + 2) = iZ (b)) (ha3 : xs (i + 3) = iZ (c9)) (ha4 : xs (i + 4) = iZ (d9)) (hP : va_P D classes (wdC ad cI cZ cL J rd pr G K (wdM ad cI cZ cL J rd pr M ov)) H) (hD : va_D A (wdC ad cI cZ cL J rd pr G K (wdM ad cI cZ cL J rd pr M ov))) (hS : va_S A s.heap H locs) (hl : lv_has ls 8 (lwL ad sb i)) (kk : LK p l e s m below meth c Q sb D A ad cI cZ cL i (cells + 1) (slots + 6)) : W p l e room_1 s m #[Value.ref sb] below meth c H locs cells slots Q (F0 m 985 ls []) := by
  obtain ⟨hl0, Z, hX, hbl, hK, hA, hbA, hTT, hSt, hL⟩ := X
  obtain ⟨hI, hM, hR, hpq⟩ := hLI
  obtain ⟨hx, hb, hr, hml, hown, hts, hE, hlocks⟩ := id Z
  have hn32 := hI.1
  have hk32 := hI.2.1
  have hl : lv_has ls 8 [(4, .int (iZ ((i : Nat) : Int))), (0, .ref (sb)), (1, .ref (ad 0)), (2, .ref (ad 19)), (3, .ref (ad 33))] := hl
  refine lv_aload_n hx hb d_L_law_985 rfl (lv_at hl 2 rfl) ?_
  refine lv_aload_n hx hb d_L_law_986 rfl (lv_at hl 1 rfl) ?_
  refine lv_iload hx hb d_L_law_987 (lv_at hl 0 rfl) ?_
  refine lv_iconst (v := iZ ((1 : Nat) : Int)) hx hb d_L_law_989 (by decide) ?_
  refine z_iaddN (u := i) (v := 1) hx hb d_L_law_990 ?_
  refine z_sld (v := iZ (a)) hx hb hX hbl hbA hS (i + 1) (by omega) ha1 d_L_law_991 ?_
  refine lv_aload_n hx hb d_L_law_992 rfl (lv_at hl 1 rfl) ?_
  refine lv_iload hx hb d_L_law_993 (lv_at hl 0 rfl) ?_
  refine lv_iconst (v := iZ ((2 : Nat) : Int)) hx hb d_L_law_995 (by decide) ?_
  refine z_iaddN (u := i) (v := 2) hx hb d_L_law_996 ?_
  refine z_sld (v := iZ (b)) hx hb hX hbl hbA hS (i + 2) (by omega) ha2 d_L_law_997 ?_
  refine lv_aload_n hx hb d_L_law_998 rfl (lv_at hl 1 rfl) ?_
  refine lv_iload hx hb d_L_law_999 (lv_at hl 0 rfl) ?_
  refine lv_iconst (v := iZ ((3 : Nat) : Int)) hx hb d_L_law_1001 (by decide) ?_
  refine z_iaddN (u := i) (v := 3) hx hb d_L_law_1002 ?_
  refine z_sld (v := iZ (c9)) hx hb hX hbl hbA hS (i + 3) (by omega) ha3 d_L_law_1003 ?_
  refine lv_aload_n hx hb d_L_law_1004 rfl (lv_at hl 1 rfl) ?_
  refine lv_iload hx hb d_L_law_1005 (lv_at hl 0 rfl) ?_
  refine lv_iconst (v := iZ ((4 : Nat) : Int)) hx hb d_L_law_1007 (by decide) ?_
  refine z_iaddN (u := i) (v := 4) hx hb d_L_law_1008 ?_
  refine z_sld (v := iZ (d9)) hx hb hX hbl hbA hS (i + 4) (by omega) ha4 d_L_law_1009 ?_
  refine lv_aload_n hx hb d_L_law_1010 rfl (lv_at hl 4 rfl) ?_
  refine z_kiW (z_runSW (As := [.ref (ad 0), .int (iZ (a)), .int (iZ (b)), .int (iZ (c9)), .int (iZ (d9)), .ref (ad 33)]) (rest := []) Z (k_L_crossingx1 hl0 hI (a := a) (b := b) (c9 := c9) (d9 := d9) h) ⟨ml_L_145, sm_L_crossing, ini_L, co_L_crossing⟩ zd_L_crossing ⟨Nat.le_of_ble_eq_true rfl, Nat.le_of_ble_eq_true rfl⟩ hP hK hD (hTT _ _ hS) hSt hl.1 rfl (Nat.le_of_ble_eq_true rfl) d_L_law_1011 ⟨hc.1, hc.2⟩) hD hS hA (fun r9 w9 H locs hp9 hP hD hS => ?_)
  obtain ⟨rfl, rfl⟩ := hp9
  have hP : va_P D classes (wdC ad cI cZ cL J rd pr G K (wdM ad cI cZ cL J rd pr M ov)) H := hP
  have hD : va_D A (wdC ad cI cZ cL J rd pr G K (wdM ad cI cZ cL J rd pr M ov)) := hD
  refine W.eq (g2 := F0 m 1014 ls [.int (iZ ((1 : Nat) : Int))]) rfl ?_
  refine lv_istore (lv' := [(5, .int (iZ ((1 : Nat) : Int))), (4, .int (iZ ((i : Nat) : Int))), (0, .ref (sb)), (1, .ref (ad 0)), (2, .ref (ad 19)), (3, .ref (ad 33))]) hx hb d_L_law_1014 hl (by decide) rfl (fun ls hl => ?_)
  refine lv_aload_n hx hb d_L_law_1016 rfl (lv_at hl 4 rfl) ?_
  refine lv_aload_n hx hb d_L_law_1017 rfl (lv_at hl 2 rfl) ?_
  refine lv_iload hx hb d_L_law_1018 (lv_at hl 1 rfl) ?_
  refine lv_iconst (v := iZ ((1 : Nat) : Int)) hx hb d_L_law_1020 (by decide) ?_
  refine z_iaddN (u := i) (v := 1) hx hb d_L_law_1021 ?_
  refine z_sld (v := iZ (a)) hx hb hX hbl hbA hS (i + 1) (by omega) ha1 d_L_law_1022 ?_
  refine lv_aload_n hx hb d_L_law_1023 rfl (lv_at hl 2 rfl) ?_
  refine lv_iload hx hb d_L_law_1024 (lv_at hl 1 rfl) ?_
  refine lv_iconst (v := iZ ((2 : Nat) : Int)) hx hb d_L_law_1026 (by decide) ?_
  refine z_iaddN (u := i) (v := 2) hx hb d_L_law_1027 ?_
  refine z_sld (v := iZ (b)) hx hb hX hbl hbA hS (i + 2) (by omega) ha2 d_L_law_1028 ?_
  refine lv_aload_n hx hb d_L_law_1029 rfl (lv_at hl 2 rfl) ?_
  refine lv_iload hx hb d_L_law_1030 (lv_at hl 1 rfl) ?_
  refine lv_iconst (v := iZ ((3 : Nat) : Int)) hx hb d_L_law_1032 (by decide) ?_
  refine z_iaddN (u := i) (v := 3) hx hb d_L_law_1033 ?_
  refine z_sld (v := iZ (c9)) hx hb hX hbl hbA hS (i + 3) (by omega) ha3 d_L_law_1034 ?_
  refine lv_aload_n hx hb d_L_law_1035 rfl (lv_at hl 2 rfl) ?_
  refine lv_iload hx hb d_L_law_1036 (lv_at hl 1 rfl) ?_
  refine lv_iconst (v := iZ ((4 : Nat) : Int)) hx hb d_L_law_1038 (by decide) ?_
  refine z_iaddN (u := i) (v := 4) hx hb d_L_law_1039 ?_
  refine z_sld (v := iZ (d9)) hx hb hX hbl hbA hS (i + 4) (by omega) ha4 d_L_law_1040 ?_
  refine z_kl (z_runV (As := [.int (iZ (a)), .int (iZ (b)), .int (iZ (c9)), .int (iZ (d9))]) (rest := []) zTB Z (k_M_crossingx1 hI hM (a := a) (b := b) (c9 := c9) (d9 := d9) h) ⟨ml_L_148, im_M_crossing, se_M_crossing, ini_M, co_M_crossing⟩ zd_M_crossing ⟨Nat.le_of_ble_eq_true rfl, Nat.le_of_ble_eq_true rfl⟩ hP hK hD (ci := 5) (q0 := 19) rfl rfl rfl hl.1 rfl (Nat.le_of_ble_eq_true rfl) d_L_law_1041 ⟨hc.1, hc.2⟩) hD hS hA (fun r9 w9 H locs hp9 hP hD hS => ?_)
  obtain ⟨M1, rfl, hc1, hM1⟩ := hp9
  have hP : va_P D classes (wdC ad cI cZ cL J rd pr G K (wdM ad cI cZ cL J rd pr M1 ov)) H := hP
  have hD : va_D A (wdC ad cI cZ cL J rd pr G K (wdM ad cI cZ cL J rd pr M1 ov)) := hD
  refine W.eq (g2 := F0 m 1044 ls [.long (r9)]) rfl ?_
  refine lv_lstore (lv' := [(6, .long (r9)), (5, .int (iZ ((1 : Nat) : Int))), (4, .int (iZ ((i : Nat) : Int))), (0, .ref (sb)), (1, .ref (ad 0)), (2, .ref (ad 19)), (3, .ref (ad 33))]) hx hb d_L_law_1044 hl (by decide) rfl (fun ls hl => ?_)
  refine lv_aload_n hx hb d_L_law_1046 rfl (lv_at hl 5 rfl) ?_
  refine z_callVR (As := []) (rest := []) zTB Z (k_M_thrown) ⟨ml_L_101, im_M_thrown, se_M_thrown, ini_M, co_M_thrown⟩ zd_M_thrown ⟨Nat.le_of_ble_eq_true rfl, Nat.le_of_ble_eq_true rfl⟩ hP hK (ci := 5) (q0 := 19) rfl rfl rfl hl.1 rfl (Nat.le_of_ble_eq_true rfl) d_L_law_1047 ⟨hc.1, hc.2⟩ ?_
  refine W.eq (g2 := F0 m 1050 ls [.int (iZ ((M1.1 : Nat) : Int))]) rfl ?_
  refine z_topZ (b := ((1 : Nat) : Int)) (by rw [hc1]) ?_
  refine lv_iload hx hb d_L_law_1050 (lv_at hl 1 rfl) ?_
  refine z_icmp_eq (a := ((1 : Nat) : Int)) (b := ((1 : Nat) : Int)) (tgt := 1057) hx hb (by omega) d_L_law_1052 (by decide) (fun q1052 => ?_) (fun q1052 => ?_)
  · skip
    refine lv_iload hx hb d_L_law_1057 (lv_at hl 1 rfl) ?_
    refine z_if_ne (a := ((1 : Nat) : Int)) (tgt := 1073) hx hb (by omega) d_L_law_1059 (by decide) (fun q1059 => ?_) (fun q1059 => ?_)
    · skip
      refine lv_goto (tgt := 1598) hx hb d_L_law_1073 (by decide) ?_
      exact kk J _ _ _ _ _ _ H locs ls ⟨hI, hM1, hR, hpq⟩ hP hD hS (lv_sub hl [2, 3, 4, 5, 6] rfl)
    · skip
      exfalso; omega
  · skip
    exfalso; omega

set_option maxHeartbeats 4000000 in
set_option maxRecDepth 100000 in
theorem lf_crossing_x2 {p : Program} {l : Launch} {e : Env} {s : State} {m : MethodId} {below : List Frame} {meth : Method} {c : Code} {Q : State → Prop} {sb L : Nat} {xs : Nat → Int32} {D : va_G} {A : Nat → Prop} {ad : Nat → Nat} {cI cZ cL : ClassId} {J : SJ} {rd : Nat → Int} {pr : Nat → Nat} {G : SH} {K : SK} {M : SM} {ov : Nat → Int64} {H : Heap} {locs : List Loc} {cells slots i : Nat} {ls : Array Slot} (X : LX p l s m meth c sb L xs D cI cZ cL A) (hLI : LI J rd pr M) (hi : i + 4 < L) (hc : cells + 1 ≤ 1061 ∧ slots + 6 ≤ 9679) {a b c9 d9 : Int} (h : 0 ≤ d9 ∧ d9 < 2 ∧ z32 a ∧ (a < 0 ∨ 40 < a)) (hz : z32 b ∧ z32 c9) (ha1 : xs (i + 1) = iZ (a)) (ha2 : xs (i + 2) = iZ (b)) (ha3 : xs (i + 3) = iZ (c9)) (ha4 : xs (i + 4) = iZ (d9)) (hP : va_P D classes (wdC ad cI cZ cL J rd pr G K (wdM ad cI cZ cL J rd pr M ov)) H) (hD : va_D A (wdC ad cI cZ cL J rd pr G K (wdM ad cI cZ cL J rd pr M ov))) (hS : va_S A s.heap H locs) (hl : lv_has ls 8 (lwL ad sb i)) (kk : LK p l e s m below meth c Q sb D A ad cI cZ cL i (cells + 1) (slots + 6)) : W p l e room_1 s m #[Value.ref sb] below meth c H locs cells slots Q (F0 m 985 ls []) := by
  obtain ⟨hl0, Z, hX, hbl, hK, hA, hbA, hTT, hSt, hL⟩ := X
  obtain ⟨hI, hM, hR, hpq⟩ := hLI
  obtain ⟨hx, hb, hr, hml, hown, hts, hE, hlocks⟩ := id Z
  have hn32 := hI.1
  have hk32 := hI.2.1
  have hl : lv_has ls 8 [(4, .int (iZ ((i : Nat) : Int))), (0, .ref (sb)), (1, .ref (ad 0)), (2, .ref (ad 19)), (3, .ref (ad 33))] := hl
  refine lv_aload_n hx hb d_L_law_985 rfl (lv_at hl 2 rfl) ?_
  refine lv_aload_n hx hb d_L_law_986 rfl (lv_at hl 1 rfl) ?_
  refine lv_iload hx hb d_L_law_987 (lv_at hl 0 rfl) ?_
  refine lv_iconst (v := iZ ((1 : Nat) : Int)) hx hb d_L_law_989 (by decide) ?_
  refine z_iaddN (u := i) (v := 1) hx hb d_L_law_990 ?_
  refine z_sld (v := iZ (a)) hx hb hX hbl hbA hS (i + 1) (by omega) ha1 d_L_law_991 ?_
  refine lv_aload_n hx hb d_L_law_992 rfl (lv_at hl 1 rfl) ?_
  refine lv_iload hx hb d_L_law_993 (lv_at hl 0 rfl) ?_
  refine lv_iconst (v := iZ ((2 : Nat) : Int)) hx hb d_L_law_995 (by decide) ?_
  refine z_iaddN (u := i) (v := 2) hx hb d_L_law_996 ?_
  refine z_sld (v := iZ (b)) hx hb hX hbl hbA hS (i + 2) (by omega) ha2 d_L_law_997 ?_
  refine lv_aload_n hx hb d_L_law_998 rfl (lv_at hl 1 rfl) ?_
  refine lv_iload hx hb d_L_law_999 (lv_at hl 0 rfl) ?_
  refine lv_iconst (v := iZ ((3 : Nat) : Int)) hx hb d_L_law_1001 (by decide) ?_
  refine z_iaddN (u := i) (v := 3) hx hb d_L_law_1002 ?_
  refine z_sld (v := iZ (c9)) hx hb hX hbl hbA hS (i + 3) (by omega) ha3 d_L_law_1003 ?_
  refine lv_aload_n hx hb d_L_law_1004 rfl (lv_at hl 1 rfl) ?_
  refine lv_iload hx hb d_L_law_1005 (lv_at hl 0 rfl) ?_
  refine lv_iconst (v := iZ ((4 : Nat) : Int)) hx hb d_L_law_1007 (by decide) ?_
  refine z_iaddN (u := i) (v := 4) hx hb d_L_law_1008 ?_
  refine z_sld (v := iZ (d9)) hx hb hX hbl hbA hS (i + 4) (by omega) ha4 d_L_law_1009 ?_
  refine lv_aload_n hx hb d_L_law_1010 rfl (lv_at hl 4 rfl) ?_
  refine z_kiW (z_runSW (As := [.ref (ad 0), .int (iZ (a)), .int (iZ (b)), .int (iZ (c9)), .int (iZ (d9)), .ref (ad 33)]) (rest := []) Z (k_L_crossingx2 hl0 hI (a := a) (b := b) (c9 := c9) (d9 := d9) h) ⟨ml_L_145, sm_L_crossing, ini_L, co_L_crossing⟩ zd_L_crossing ⟨Nat.le_of_ble_eq_true rfl, Nat.le_of_ble_eq_true rfl⟩ hP hK hD (hTT _ _ hS) hSt hl.1 rfl (Nat.le_of_ble_eq_true rfl) d_L_law_1011 ⟨hc.1, hc.2⟩) hD hS hA (fun r9 w9 H locs hp9 hP hD hS => ?_)
  obtain ⟨rfl, rfl⟩ := hp9
  have hP : va_P D classes (wdC ad cI cZ cL J rd pr G K (wdM ad cI cZ cL J rd pr M ov)) H := hP
  have hD : va_D A (wdC ad cI cZ cL J rd pr G K (wdM ad cI cZ cL J rd pr M ov)) := hD
  refine W.eq (g2 := F0 m 1014 ls [.int (iZ ((2 : Nat) : Int))]) rfl ?_
  refine lv_istore (lv' := [(5, .int (iZ ((2 : Nat) : Int))), (4, .int (iZ ((i : Nat) : Int))), (0, .ref (sb)), (1, .ref (ad 0)), (2, .ref (ad 19)), (3, .ref (ad 33))]) hx hb d_L_law_1014 hl (by decide) rfl (fun ls hl => ?_)
  refine lv_aload_n hx hb d_L_law_1016 rfl (lv_at hl 4 rfl) ?_
  refine lv_aload_n hx hb d_L_law_1017 rfl (lv_at hl 2 rfl) ?_
  refine lv_iload hx hb d_L_law_1018 (lv_at hl 1 rfl) ?_
  refine lv_iconst (v := iZ ((1 : Nat) : Int)) hx hb d_L_law_1020 (by decide) ?_
  refine z_iaddN (u := i) (v := 1) hx hb d_L_law_1021 ?_
  refine z_sld (v := iZ (a)) hx hb hX hbl hbA hS (i + 1) (by omega) ha1 d_L_law_1022 ?_
  refine lv_aload_n hx hb d_L_law_1023 rfl (lv_at hl 2 rfl) ?_
  refine lv_iload hx hb d_L_law_1024 (lv_at hl 1 rfl) ?_
  refine lv_iconst (v := iZ ((2 : Nat) : Int)) hx hb d_L_law_1026 (by decide) ?_
  refine z_iaddN (u := i) (v := 2) hx hb d_L_law_1027 ?_
  refine z_sld (v := iZ (b)) hx hb hX hbl hbA hS (i + 2) (by omega) ha2 d_L_law_1028 ?_
  refine lv_aload_n hx hb d_L_law_1029 rfl (lv_at hl 2 rfl) ?_
  refine lv_iload hx hb d_L_law_1030 (lv_at hl 1 rfl) ?_
  refine lv_iconst (v := iZ ((3 : Nat) : Int)) hx hb d_L_law_1032 (by decide) ?_
  refine z_iaddN (u := i) (v := 3) hx hb d_L_law_1033 ?_
  refine z_sld (v := iZ (c9)) hx hb hX hbl hbA hS (i + 3) (by omega) ha3 d_L_law_1034 ?_
  refine lv_aload_n hx hb d_L_law_1035 rfl (lv_at hl 2 rfl) ?_
  refine lv_iload hx hb d_L_law_1036 (lv_at hl 1 rfl) ?_
  refine lv_iconst (v := iZ ((4 : Nat) : Int)) hx hb d_L_law_1038 (by decide) ?_
  refine z_iaddN (u := i) (v := 4) hx hb d_L_law_1039 ?_
  refine z_sld (v := iZ (d9)) hx hb hX hbl hbA hS (i + 4) (by omega) ha4 d_L_law_1040 ?_
  refine z_kl (z_runV (As := [.int (iZ (a)), .int (iZ (b)), .int (iZ (c9)), .int (iZ (d9))]) (rest := []) zTB Z (k_M_crossingx2 hI hM (a := a) (b := b) (c9 := c9) (d9 := d9) (by omega)) ⟨ml_L_148, im_M_crossing, se_M_crossing, ini_M, co_M_crossing⟩ zd_M_crossing ⟨Nat.le_of_ble_eq_true rfl, Nat.le_of_ble_eq_true rfl⟩ hP hK hD (ci := 5) (q0 := 19) rfl rfl rfl hl.1 rfl (Nat.le_of_ble_eq_true rfl) d_L_law_1041 ⟨hc.1, hc.2⟩) hD hS hA (fun r9 w9 H locs hp9 hP hD hS => ?_)
  obtain ⟨M1, rfl, hc1, hM1⟩ := hp9
  have hP : va_P D classes (wdC ad cI cZ cL J rd pr G K (wdM ad cI cZ cL J rd pr M1 ov)) H := hP
  have hD : va_D A (wdC ad cI cZ cL J rd pr G K (wdM ad cI cZ cL J rd pr M1 ov)) := hD
  refine W.eq (g2 := F0 m 1044 ls [.long (r9)]) rfl ?_
  refine lv_lstore (lv' := [(6, .long (r9)), (5, .int (iZ ((2 : Nat) : Int))), (4, .int (iZ ((i : Nat) : Int))), (0, .ref (sb)), (1, .ref (ad 0)), (2, .ref (ad 19)), (3, .ref (ad 33))]) hx hb d_L_law_1044 hl (by decide) rfl (fun ls hl => ?_)
  refine lv_aload_n hx hb d_L_law_1046 rfl (lv_at hl 5 rfl) ?_
  refine z_callVR (As := []) (rest := []) zTB Z (k_M_thrown) ⟨ml_L_101, im_M_thrown, se_M_thrown, ini_M, co_M_thrown⟩ zd_M_thrown ⟨Nat.le_of_ble_eq_true rfl, Nat.le_of_ble_eq_true rfl⟩ hP hK (ci := 5) (q0 := 19) rfl rfl rfl hl.1 rfl (Nat.le_of_ble_eq_true rfl) d_L_law_1047 ⟨hc.1, hc.2⟩ ?_
  refine W.eq (g2 := F0 m 1050 ls [.int (iZ ((M1.1 : Nat) : Int))]) rfl ?_
  refine z_topZ (b := ((2 : Nat) : Int)) (by rw [hc1]) ?_
  refine lv_iload hx hb d_L_law_1050 (lv_at hl 1 rfl) ?_
  refine z_icmp_eq (a := ((2 : Nat) : Int)) (b := ((2 : Nat) : Int)) (tgt := 1057) hx hb (by omega) d_L_law_1052 (by decide) (fun q1052 => ?_) (fun q1052 => ?_)
  · skip
    refine lv_iload hx hb d_L_law_1057 (lv_at hl 1 rfl) ?_
    refine z_if_ne (a := ((2 : Nat) : Int)) (tgt := 1073) hx hb (by omega) d_L_law_1059 (by decide) (fun q1059 => ?_) (fun q1059 => ?_)
    · skip
      refine lv_goto (tgt := 1598) hx hb d_L_law_1073 (by decide) ?_
      exact kk J _ _ _ _ _ _ H locs ls ⟨hI, hM1, hR, hpq⟩ hP hD hS (lv_sub hl [2, 3, 4, 5, 6] rfl)
    · skip
      exfalso; omega
  · skip
    exfalso; omega

set_option maxHeartbeats 4000000 in
set_option maxRecDepth 100000 in
theorem lf_crossing_x3 {p : Program} {l : Launch} {e : Env} {s : State} {m : MethodId} {below : List Frame} {meth : Method} {c : Code} {Q : State → Prop} {sb L : Nat} {xs : Nat → Int32} {D : va_G} {A : Nat → Prop} {ad : Nat → Nat} {cI cZ cL : ClassId} {J : SJ} {rd : Nat → Int} {pr : Nat → Nat} {G : SH} {K : SK} {M : SM} {ov : Nat → Int64} {H : Heap} {locs : List Loc} {cells slots i : Nat} {ls : Array Slot} (X : LX p l s m meth c sb L xs D cI cZ cL A) (hLI : LI J rd pr M) (hi : i + 4 < L) (hc : cells + 1 ≤ 1061 ∧ slots + 6 ≤ 9679) {a b c9 d9 : Int} (h : 0 ≤ d9 ∧ d9 < 2 ∧ 0 ≤ a ∧ a ≤ 40 ∧ z32 b ∧ (b < 1 ∨ 16 < b)) (hz : z32 c9) (ha1 : xs (i + 1) = iZ (a)) (ha2 : xs (i + 2) = iZ (b)) (ha3 : xs (i + 3) = iZ (c9)) (ha4 : xs (i + 4) = iZ (d9)) (hP : va_P D classes (wdC ad cI cZ cL J rd pr G K (wdM ad cI cZ cL J rd pr M ov)) H) (hD : va_D A (wdC ad cI cZ cL J rd pr G K (wdM ad cI cZ cL J rd pr M ov))) (hS : va_S A s.heap H locs) (hl : lv_has ls 8 (lwL ad sb i)) (kk : LK p l e s m below meth c Q sb D A ad cI cZ cL i (cells + 1) (slots + 6)) : W p l e room_1 s m #[Value.ref sb] below meth c H locs cells slots Q (F0 m 985 ls []) := by
  obtain ⟨hl0, Z, hX, hbl, hK, hA, hbA, hTT, hSt, hL⟩ := X
  obtain ⟨hI, hM, hR, hpq⟩ := hLI
  obtain ⟨hx, hb, hr, hml, hown, hts, hE, hlocks⟩ := id Z
  have hn32 := hI.1
  have hk32 := hI.2.1
  have hl : lv_has ls 8 [(4, .int (iZ ((i : Nat) : Int))), (0, .ref (sb)), (1, .ref (ad 0)), (2, .ref (ad 19)), (3, .ref (ad 33))] := hl
  refine lv_aload_n hx hb d_L_law_985 rfl (lv_at hl 2 rfl) ?_
  refine lv_aload_n hx hb d_L_law_986 rfl (lv_at hl 1 rfl) ?_
  refine lv_iload hx hb d_L_law_987 (lv_at hl 0 rfl) ?_
  refine lv_iconst (v := iZ ((1 : Nat) : Int)) hx hb d_L_law_989 (by decide) ?_
  refine z_iaddN (u := i) (v := 1) hx hb d_L_law_990 ?_
  refine z_sld (v := iZ (a)) hx hb hX hbl hbA hS (i + 1) (by omega) ha1 d_L_law_991 ?_
  refine lv_aload_n hx hb d_L_law_992 rfl (lv_at hl 1 rfl) ?_
  refine lv_iload hx hb d_L_law_993 (lv_at hl 0 rfl) ?_
  refine lv_iconst (v := iZ ((2 : Nat) : Int)) hx hb d_L_law_995 (by decide) ?_
  refine z_iaddN (u := i) (v := 2) hx hb d_L_law_996 ?_
  refine z_sld (v := iZ (b)) hx hb hX hbl hbA hS (i + 2) (by omega) ha2 d_L_law_997 ?_
  refine lv_aload_n hx hb d_L_law_998 rfl (lv_at hl 1 rfl) ?_
  refine lv_iload hx hb d_L_law_999 (lv_at hl 0 rfl) ?_
  refine lv_iconst (v := iZ ((3 : Nat) : Int)) hx hb d_L_law_1001 (by decide) ?_
  refine z_iaddN (u := i) (v := 3) hx hb d_L_law_1002 ?_
  refine z_sld (v := iZ (c9)) hx hb hX hbl hbA hS (i + 3) (by omega) ha3 d_L_law_1003 ?_
  refine lv_aload_n hx hb d_L_law_1004 rfl (lv_at hl 1 rfl) ?_
  refine lv_iload hx hb d_L_law_1005 (lv_at hl 0 rfl) ?_
  refine lv_iconst (v := iZ ((4 : Nat) : Int)) hx hb d_L_law_1007 (by decide) ?_
  refine z_iaddN (u := i) (v := 4) hx hb d_L_law_1008 ?_
  refine z_sld (v := iZ (d9)) hx hb hX hbl hbA hS (i + 4) (by omega) ha4 d_L_law_1009 ?_
  refine lv_aload_n hx hb d_L_law_1010 rfl (lv_at hl 4 rfl) ?_
  refine z_kiW (z_runSW (As := [.ref (ad 0), .int (iZ (a)), .int (iZ (b)), .int (iZ (c9)), .int (iZ (d9)), .ref (ad 33)]) (rest := []) Z (k_L_crossingx3 hl0 hI (a := a) (b := b) (c9 := c9) (d9 := d9) h) ⟨ml_L_145, sm_L_crossing, ini_L, co_L_crossing⟩ zd_L_crossing ⟨Nat.le_of_ble_eq_true rfl, Nat.le_of_ble_eq_true rfl⟩ hP hK hD (hTT _ _ hS) hSt hl.1 rfl (Nat.le_of_ble_eq_true rfl) d_L_law_1011 ⟨hc.1, hc.2⟩) hD hS hA (fun r9 w9 H locs hp9 hP hD hS => ?_)
  obtain ⟨rfl, rfl⟩ := hp9
  have hP : va_P D classes (wdC ad cI cZ cL J rd pr G K (wdM ad cI cZ cL J rd pr M ov)) H := hP
  have hD : va_D A (wdC ad cI cZ cL J rd pr G K (wdM ad cI cZ cL J rd pr M ov)) := hD
  refine W.eq (g2 := F0 m 1014 ls [.int (iZ ((2 : Nat) : Int))]) rfl ?_
  refine lv_istore (lv' := [(5, .int (iZ ((2 : Nat) : Int))), (4, .int (iZ ((i : Nat) : Int))), (0, .ref (sb)), (1, .ref (ad 0)), (2, .ref (ad 19)), (3, .ref (ad 33))]) hx hb d_L_law_1014 hl (by decide) rfl (fun ls hl => ?_)
  refine lv_aload_n hx hb d_L_law_1016 rfl (lv_at hl 4 rfl) ?_
  refine lv_aload_n hx hb d_L_law_1017 rfl (lv_at hl 2 rfl) ?_
  refine lv_iload hx hb d_L_law_1018 (lv_at hl 1 rfl) ?_
  refine lv_iconst (v := iZ ((1 : Nat) : Int)) hx hb d_L_law_1020 (by decide) ?_
  refine z_iaddN (u := i) (v := 1) hx hb d_L_law_1021 ?_
  refine z_sld (v := iZ (a)) hx hb hX hbl hbA hS (i + 1) (by omega) ha1 d_L_law_1022 ?_
  refine lv_aload_n hx hb d_L_law_1023 rfl (lv_at hl 2 rfl) ?_
  refine lv_iload hx hb d_L_law_1024 (lv_at hl 1 rfl) ?_
  refine lv_iconst (v := iZ ((2 : Nat) : Int)) hx hb d_L_law_1026 (by decide) ?_
  refine z_iaddN (u := i) (v := 2) hx hb d_L_law_1027 ?_
  refine z_sld (v := iZ (b)) hx hb hX hbl hbA hS (i + 2) (by omega) ha2 d_L_law_1028 ?_
  refine lv_aload_n hx hb d_L_law_1029 rfl (lv_at hl 2 rfl) ?_
  refine lv_iload hx hb d_L_law_1030 (lv_at hl 1 rfl) ?_
  refine lv_iconst (v := iZ ((3 : Nat) : Int)) hx hb d_L_law_1032 (by decide) ?_
  refine z_iaddN (u := i) (v := 3) hx hb d_L_law_1033 ?_
  refine z_sld (v := iZ (c9)) hx hb hX hbl hbA hS (i + 3) (by omega) ha3 d_L_law_1034 ?_
  refine lv_aload_n hx hb d_L_law_1035 rfl (lv_at hl 2 rfl) ?_
  refine lv_iload hx hb d_L_law_1036 (lv_at hl 1 rfl) ?_
  refine lv_iconst (v := iZ ((4 : Nat) : Int)) hx hb d_L_law_1038 (by decide) ?_
  refine z_iaddN (u := i) (v := 4) hx hb d_L_law_1039 ?_
  refine z_sld (v := iZ (d9)) hx hb hX hbl hbA hS (i + 4) (by omega) ha4 d_L_law_1040 ?_
  refine z_kl (z_runV (As := [.int (iZ (a)), .int (iZ (b)), .int (iZ (c9)), .int (iZ (d9))]) (rest := []) zTB Z (k_M_crossingx2 hI hM (a := a) (b := b) (c9 := c9) (d9 := d9) (by omega)) ⟨ml_L_148, im_M_crossing, se_M_crossing, ini_M, co_M_crossing⟩ zd_M_crossing ⟨Nat.le_of_ble_eq_true rfl, Nat.le_of_ble_eq_true rfl⟩ hP hK hD (ci := 5) (q0 := 19) rfl rfl rfl hl.1 rfl (Nat.le_of_ble_eq_true rfl) d_L_law_1041 ⟨hc.1, hc.2⟩) hD hS hA (fun r9 w9 H locs hp9 hP hD hS => ?_)
  obtain ⟨M1, rfl, hc1, hM1⟩ := hp9
  have hP : va_P D classes (wdC ad cI cZ cL J rd pr G K (wdM ad cI cZ cL J rd pr M1 ov)) H := hP
  have hD : va_D A (wdC ad cI cZ cL J rd pr G K (wdM ad cI cZ cL J rd pr M1 ov)) := hD
  refine W.eq (g2 := F0 m 1044 ls [.long (r9)]) rfl ?_
  refine lv_lstore (lv' := [(6, .long (r9)), (5, .int (iZ ((2 : Nat) : Int))), (4, .int (iZ ((i : Nat) : Int))), (0, .ref (sb)), (1, .ref (ad 0)), (2, .ref (ad 19)), (3, .ref (ad 33))]) hx hb d_L_law_1044 hl (by decide) rfl (fun ls hl => ?_)
  refine lv_aload_n hx hb d_L_law_1046 rfl (lv_at hl 5 rfl) ?_
  refine z_callVR (As := []) (rest := []) zTB Z (k_M_thrown) ⟨ml_L_101, im_M_thrown, se_M_thrown, ini_M, co_M_thrown⟩ zd_M_thrown ⟨Nat.le_of_ble_eq_true rfl, Nat.le_of_ble_eq_true rfl⟩ hP hK (ci := 5) (q0 := 19) rfl rfl rfl hl.1 rfl (Nat.le_of_ble_eq_true rfl) d_L_law_1047 ⟨hc.1, hc.2⟩ ?_
  refine W.eq (g2 := F0 m 1050 ls [.int (iZ ((M1.1 : Nat) : Int))]) rfl ?_
  refine z_topZ (b := ((2 : Nat) : Int)) (by rw [hc1]) ?_
  refine lv_iload hx hb d_L_law_1050 (lv_at hl 1 rfl) ?_
  refine z_icmp_eq (a := ((2 : Nat) : Int)) (b := ((2 : Nat) : Int)) (tgt := 1057) hx hb (by omega) d_L_law_1052 (by decide) (fun q1052 => ?_) (fun q1052 => ?_)
  · skip
    refine lv_iload hx hb d_L_law_1057 (lv_at hl 1 rfl) ?_
    refine z_if_ne (a := ((2 : Nat) : Int)) (tgt := 1073) hx hb (by omega) d_L_law_1059 (by decide) (fun q1059 => ?_) (fun q1059 => ?_)
    · skip
      refine lv_goto (tgt := 1598) hx hb d_L_law_1073 (by decide) ?_
      exact kk J _ _ _ _ _ _ H locs ls ⟨hI, hM1, hR, hpq⟩ hP hD hS (lv_sub hl [2, 3, 4, 5, 6] rfl)
    · skip
      exfalso; omega
  · skip
    exfalso; omega

set_option maxHeartbeats 4000000 in
set_option maxRecDepth 100000 in
theorem lf_crossing_x4 {p : Program} {l : Launch} {e : Env} {s : State} {m : MethodId} {below : List Frame} {meth : Method} {c : Code} {Q : State → Prop} {sb L : Nat} {xs : Nat → Int32} {D : va_G} {A : Nat → Prop} {ad : Nat → Nat} {cI cZ cL : ClassId} {J : SJ} {rd : Nat → Int} {pr : Nat → Nat} {G : SH} {K : SK} {M : SM} {ov : Nat → Int64} {H : Heap} {locs : List Loc} {cells slots i : Nat} {ls : Array Slot} (X : LX p l s m meth c sb L xs D cI cZ cL A) (hLI : LI J rd pr M) (hi : i + 4 < L) (hc : cells + 1 ≤ 1061 ∧ slots + 6 ≤ 9679) {a b c9 d9 : Int} (h : 0 ≤ d9 ∧ d9 < 2 ∧ 0 ≤ a ∧ a ≤ 40 ∧ 1 ≤ b ∧ b ≤ 16 ∧ z32 c9 ∧ (c9 < 1 ∨ 16 < c9)) (ha1 : xs (i + 1) = iZ (a)) (ha2 : xs (i + 2) = iZ (b)) (ha3 : xs (i + 3) = iZ (c9)) (ha4 : xs (i + 4) = iZ (d9)) (hP : va_P D classes (wdC ad cI cZ cL J rd pr G K (wdM ad cI cZ cL J rd pr M ov)) H) (hD : va_D A (wdC ad cI cZ cL J rd pr G K (wdM ad cI cZ cL J rd pr M ov))) (hS : va_S A s.heap H locs) (hl : lv_has ls 8 (lwL ad sb i)) (kk : LK p l e s m below meth c Q sb D A ad cI cZ cL i (cells + 1) (slots + 6)) : W p l e room_1 s m #[Value.ref sb] below meth c H locs cells slots Q (F0 m 985 ls []) := by
  obtain ⟨hl0, Z, hX, hbl, hK, hA, hbA, hTT, hSt, hL⟩ := X
  obtain ⟨hI, hM, hR, hpq⟩ := hLI
  obtain ⟨hx, hb, hr, hml, hown, hts, hE, hlocks⟩ := id Z
  have hn32 := hI.1
  have hk32 := hI.2.1
  have hl : lv_has ls 8 [(4, .int (iZ ((i : Nat) : Int))), (0, .ref (sb)), (1, .ref (ad 0)), (2, .ref (ad 19)), (3, .ref (ad 33))] := hl
  refine lv_aload_n hx hb d_L_law_985 rfl (lv_at hl 2 rfl) ?_
  refine lv_aload_n hx hb d_L_law_986 rfl (lv_at hl 1 rfl) ?_
  refine lv_iload hx hb d_L_law_987 (lv_at hl 0 rfl) ?_
  refine lv_iconst (v := iZ ((1 : Nat) : Int)) hx hb d_L_law_989 (by decide) ?_
  refine z_iaddN (u := i) (v := 1) hx hb d_L_law_990 ?_
  refine z_sld (v := iZ (a)) hx hb hX hbl hbA hS (i + 1) (by omega) ha1 d_L_law_991 ?_
  refine lv_aload_n hx hb d_L_law_992 rfl (lv_at hl 1 rfl) ?_
  refine lv_iload hx hb d_L_law_993 (lv_at hl 0 rfl) ?_
  refine lv_iconst (v := iZ ((2 : Nat) : Int)) hx hb d_L_law_995 (by decide) ?_
  refine z_iaddN (u := i) (v := 2) hx hb d_L_law_996 ?_
  refine z_sld (v := iZ (b)) hx hb hX hbl hbA hS (i + 2) (by omega) ha2 d_L_law_997 ?_
  refine lv_aload_n hx hb d_L_law_998 rfl (lv_at hl 1 rfl) ?_
  refine lv_iload hx hb d_L_law_999 (lv_at hl 0 rfl) ?_
  refine lv_iconst (v := iZ ((3 : Nat) : Int)) hx hb d_L_law_1001 (by decide) ?_
  refine z_iaddN (u := i) (v := 3) hx hb d_L_law_1002 ?_
  refine z_sld (v := iZ (c9)) hx hb hX hbl hbA hS (i + 3) (by omega) ha3 d_L_law_1003 ?_
  refine lv_aload_n hx hb d_L_law_1004 rfl (lv_at hl 1 rfl) ?_
  refine lv_iload hx hb d_L_law_1005 (lv_at hl 0 rfl) ?_
  refine lv_iconst (v := iZ ((4 : Nat) : Int)) hx hb d_L_law_1007 (by decide) ?_
  refine z_iaddN (u := i) (v := 4) hx hb d_L_law_1008 ?_
  refine z_sld (v := iZ (d9)) hx hb hX hbl hbA hS (i + 4) (by omega) ha4 d_L_law_1009 ?_
  refine lv_aload_n hx hb d_L_law_1010 rfl (lv_at hl 4 rfl) ?_
  refine z_kiW (z_runSW (As := [.ref (ad 0), .int (iZ (a)), .int (iZ (b)), .int (iZ (c9)), .int (iZ (d9)), .ref (ad 33)]) (rest := []) Z (k_L_crossingx4 hl0 hI (a := a) (b := b) (c9 := c9) (d9 := d9) h) ⟨ml_L_145, sm_L_crossing, ini_L, co_L_crossing⟩ zd_L_crossing ⟨Nat.le_of_ble_eq_true rfl, Nat.le_of_ble_eq_true rfl⟩ hP hK hD (hTT _ _ hS) hSt hl.1 rfl (Nat.le_of_ble_eq_true rfl) d_L_law_1011 ⟨hc.1, hc.2⟩) hD hS hA (fun r9 w9 H locs hp9 hP hD hS => ?_)
  obtain ⟨rfl, rfl⟩ := hp9
  have hP : va_P D classes (wdC ad cI cZ cL J rd pr G K (wdM ad cI cZ cL J rd pr M ov)) H := hP
  have hD : va_D A (wdC ad cI cZ cL J rd pr G K (wdM ad cI cZ cL J rd pr M ov)) := hD
  refine W.eq (g2 := F0 m 1014 ls [.int (iZ ((2 : Nat) : Int))]) rfl ?_
  refine lv_istore (lv' := [(5, .int (iZ ((2 : Nat) : Int))), (4, .int (iZ ((i : Nat) : Int))), (0, .ref (sb)), (1, .ref (ad 0)), (2, .ref (ad 19)), (3, .ref (ad 33))]) hx hb d_L_law_1014 hl (by decide) rfl (fun ls hl => ?_)
  refine lv_aload_n hx hb d_L_law_1016 rfl (lv_at hl 4 rfl) ?_
  refine lv_aload_n hx hb d_L_law_1017 rfl (lv_at hl 2 rfl) ?_
  refine lv_iload hx hb d_L_law_1018 (lv_at hl 1 rfl) ?_
  refine lv_iconst (v := iZ ((1 : Nat) : Int)) hx hb d_L_law_1020 (by decide) ?_
  refine z_iaddN (u := i) (v := 1) hx hb d_L_law_1021 ?_
  refine z_sld (v := iZ (a)) hx hb hX hbl hbA hS (i + 1) (by omega) ha1 d_L_law_1022 ?_
  refine lv_aload_n hx hb d_L_law_1023 rfl (lv_at hl 2 rfl) ?_
  refine lv_iload hx hb d_L_law_1024 (lv_at hl 1 rfl) ?_
  refine lv_iconst (v := iZ ((2 : Nat) : Int)) hx hb d_L_law_1026 (by decide) ?_
  refine z_iaddN (u := i) (v := 2) hx hb d_L_law_1027 ?_
  refine z_sld (v := iZ (b)) hx hb hX hbl hbA hS (i + 2) (by omega) ha2 d_L_law_1028 ?_
  refine lv_aload_n hx hb d_L_law_1029 rfl (lv_at hl 2 rfl) ?_
  refine lv_iload hx hb d_L_law_1030 (lv_at hl 1 rfl) ?_
  refine lv_iconst (v := iZ ((3 : Nat) : Int)) hx hb d_L_law_1032 (by decide) ?_
  refine z_iaddN (u := i) (v := 3) hx hb d_L_law_1033 ?_
  refine z_sld (v := iZ (c9)) hx hb hX hbl hbA hS (i + 3) (by omega) ha3 d_L_law_1034 ?_
  refine lv_aload_n hx hb d_L_law_1035 rfl (lv_at hl 2 rfl) ?_
  refine lv_iload hx hb d_L_law_1036 (lv_at hl 1 rfl) ?_
  refine lv_iconst (v := iZ ((4 : Nat) : Int)) hx hb d_L_law_1038 (by decide) ?_
  refine z_iaddN (u := i) (v := 4) hx hb d_L_law_1039 ?_
  refine z_sld (v := iZ (d9)) hx hb hX hbl hbA hS (i + 4) (by omega) ha4 d_L_law_1040 ?_
  refine z_kl (z_runV (As := [.int (iZ (a)), .int (iZ (b)), .int (iZ (c9)), .int (iZ (d9))]) (rest := []) zTB Z (k_M_crossingx2 hI hM (a := a) (b := b) (c9 := c9) (d9 := d9) (by omega)) ⟨ml_L_148, im_M_crossing, se_M_crossing, ini_M, co_M_crossing⟩ zd_M_crossing ⟨Nat.le_of_ble_eq_true rfl, Nat.le_of_ble_eq_true rfl⟩ hP hK hD (ci := 5) (q0 := 19) rfl rfl rfl hl.1 rfl (Nat.le_of_ble_eq_true rfl) d_L_law_1041 ⟨hc.1, hc.2⟩) hD hS hA (fun r9 w9 H locs hp9 hP hD hS => ?_)
  obtain ⟨M1, rfl, hc1, hM1⟩ := hp9
  have hP : va_P D classes (wdC ad cI cZ cL J rd pr G K (wdM ad cI cZ cL J rd pr M1 ov)) H := hP
  have hD : va_D A (wdC ad cI cZ cL J rd pr G K (wdM ad cI cZ cL J rd pr M1 ov)) := hD
  refine W.eq (g2 := F0 m 1044 ls [.long (r9)]) rfl ?_
  refine lv_lstore (lv' := [(6, .long (r9)), (5, .int (iZ ((2 : Nat) : Int))), (4, .int (iZ ((i : Nat) : Int))), (0, .ref (sb)), (1, .ref (ad 0)), (2, .ref (ad 19)), (3, .ref (ad 33))]) hx hb d_L_law_1044 hl (by decide) rfl (fun ls hl => ?_)
  refine lv_aload_n hx hb d_L_law_1046 rfl (lv_at hl 5 rfl) ?_
  refine z_callVR (As := []) (rest := []) zTB Z (k_M_thrown) ⟨ml_L_101, im_M_thrown, se_M_thrown, ini_M, co_M_thrown⟩ zd_M_thrown ⟨Nat.le_of_ble_eq_true rfl, Nat.le_of_ble_eq_true rfl⟩ hP hK (ci := 5) (q0 := 19) rfl rfl rfl hl.1 rfl (Nat.le_of_ble_eq_true rfl) d_L_law_1047 ⟨hc.1, hc.2⟩ ?_
  refine W.eq (g2 := F0 m 1050 ls [.int (iZ ((M1.1 : Nat) : Int))]) rfl ?_
  refine z_topZ (b := ((2 : Nat) : Int)) (by rw [hc1]) ?_
  refine lv_iload hx hb d_L_law_1050 (lv_at hl 1 rfl) ?_
  refine z_icmp_eq (a := ((2 : Nat) : Int)) (b := ((2 : Nat) : Int)) (tgt := 1057) hx hb (by omega) d_L_law_1052 (by decide) (fun q1052 => ?_) (fun q1052 => ?_)
  · skip
    refine lv_iload hx hb d_L_law_1057 (lv_at hl 1 rfl) ?_
    refine z_if_ne (a := ((2 : Nat) : Int)) (tgt := 1073) hx hb (by omega) d_L_law_1059 (by decide) (fun q1059 => ?_) (fun q1059 => ?_)
    · skip
      refine lv_goto (tgt := 1598) hx hb d_L_law_1073 (by decide) ?_
      exact kk J _ _ _ _ _ _ H locs ls ⟨hI, hM1, hR, hpq⟩ hP hD hS (lv_sub hl [2, 3, 4, 5, 6] rfl)
    · skip
      exfalso; omega
  · skip
    exfalso; omega

set_option maxHeartbeats 4000000 in
set_option maxRecDepth 100000 in
theorem lf_crossing_0 {p : Program} {l : Launch} {e : Env} {s : State} {m : MethodId} {below : List Frame} {meth : Method} {c : Code} {Q : State → Prop} {sb L : Nat} {xs : Nat → Int32} {D : va_G} {A : Nat → Prop} {ad : Nat → Nat} {cI cZ cL : ClassId} {J : SJ} {rd : Nat → Int} {pr : Nat → Nat} {G : SH} {K : SK} {M : SM} {ov : Nat → Int64} {H : Heap} {locs : List Loc} {cells slots i : Nat} {ls : Array Slot} (X : LX p l s m meth c sb L xs D cI cZ cL A) (hLI : LI J rd pr M) (hi : i + 4 < L) (hc : cells + 1 ≤ 1061 ∧ slots + 6 ≤ 9679) {nn up lo pt : Nat} (hn : nn ≤ 40) (hup : 1 ≤ up ∧ up ≤ 16) (hlo : 1 ≤ lo ∧ lo ≤ 16) (hpt : pt < 2) (ha1 : xs (i + 1) = iZ ((nn : Nat) : Int)) (ha2 : xs (i + 2) = iZ ((up : Nat) : Int)) (ha3 : xs (i + 3) = iZ ((lo : Nat) : Int)) (ha4 : xs (i + 4) = iZ ((pt : Nat) : Int)) (hP : va_P D classes (wdC ad cI cZ cL J rd pr G K (wdM ad cI cZ cL J rd pr M ov)) H) (hD : va_D A (wdC ad cI cZ cL J rd pr G K (wdM ad cI cZ cL J rd pr M ov))) (hS : va_S A s.heap H locs) (hl : lv_has ls 8 (lwL ad sb i)) (kk : LK p l e s m below meth c Q sb D A ad cI cZ cL i (cells + 1) (slots + 6)) : W p l e room_1 s m #[Value.ref sb] below meth c H locs cells slots Q (F0 m 985 ls []) := by
  obtain ⟨hl0, Z, hX, hbl, hK, hA, hbA, hTT, hSt, hL⟩ := X
  obtain ⟨hI, hM, hR, hpq⟩ := hLI
  obtain ⟨hx, hb, hr, hml, hown, hts, hE, hlocks⟩ := id Z
  have hn32 := hI.1
  have hk32 := hI.2.1
  have hl : lv_has ls 8 [(4, .int (iZ ((i : Nat) : Int))), (0, .ref (sb)), (1, .ref (ad 0)), (2, .ref (ad 19)), (3, .ref (ad 33))] := hl
  refine lv_aload_n hx hb d_L_law_985 rfl (lv_at hl 2 rfl) ?_
  refine lv_aload_n hx hb d_L_law_986 rfl (lv_at hl 1 rfl) ?_
  refine lv_iload hx hb d_L_law_987 (lv_at hl 0 rfl) ?_
  refine lv_iconst (v := iZ ((1 : Nat) : Int)) hx hb d_L_law_989 (by decide) ?_
  refine z_iaddN (u := i) (v := 1) hx hb d_L_law_990 ?_
  refine z_sld (v := iZ ((nn : Nat) : Int)) hx hb hX hbl hbA hS (i + 1) (by omega) ha1 d_L_law_991 ?_
  refine lv_aload_n hx hb d_L_law_992 rfl (lv_at hl 1 rfl) ?_
  refine lv_iload hx hb d_L_law_993 (lv_at hl 0 rfl) ?_
  refine lv_iconst (v := iZ ((2 : Nat) : Int)) hx hb d_L_law_995 (by decide) ?_
  refine z_iaddN (u := i) (v := 2) hx hb d_L_law_996 ?_
  refine z_sld (v := iZ ((up : Nat) : Int)) hx hb hX hbl hbA hS (i + 2) (by omega) ha2 d_L_law_997 ?_
  refine lv_aload_n hx hb d_L_law_998 rfl (lv_at hl 1 rfl) ?_
  refine lv_iload hx hb d_L_law_999 (lv_at hl 0 rfl) ?_
  refine lv_iconst (v := iZ ((3 : Nat) : Int)) hx hb d_L_law_1001 (by decide) ?_
  refine z_iaddN (u := i) (v := 3) hx hb d_L_law_1002 ?_
  refine z_sld (v := iZ ((lo : Nat) : Int)) hx hb hX hbl hbA hS (i + 3) (by omega) ha3 d_L_law_1003 ?_
  refine lv_aload_n hx hb d_L_law_1004 rfl (lv_at hl 1 rfl) ?_
  refine lv_iload hx hb d_L_law_1005 (lv_at hl 0 rfl) ?_
  refine lv_iconst (v := iZ ((4 : Nat) : Int)) hx hb d_L_law_1007 (by decide) ?_
  refine z_iaddN (u := i) (v := 4) hx hb d_L_law_1008 ?_
  refine z_sld (v := iZ ((pt : Nat) : Int)) hx hb hX hbl hbA hS (i + 4) (by omega) ha4 d_L_law_1009 ?_
  refine lv_aload_n hx hb d_L_law_1010 rfl (lv_at hl 4 rfl) ?_
  refine z_kiW (z_runSW (As := [.ref (ad 0), .int (iZ ((nn : Nat) : Int)), .int (iZ ((up : Nat) : Int)), .int (iZ ((lo : Nat) : Int)), .int (iZ ((pt : Nat) : Int)), .ref (ad 33)]) (rest := []) Z (k_L_crossing0 hI (nn := nn) (up := up) (lo := lo) (pt := pt) hn hup hlo hpt) ⟨ml_L_145, sm_L_crossing, ini_L, co_L_crossing⟩ zd_L_crossing ⟨Nat.le_of_ble_eq_true rfl, Nat.le_of_ble_eq_true rfl⟩ hP hK hD (hTT _ _ hS) hSt hl.1 rfl (Nat.le_of_ble_eq_true rfl) d_L_law_1011 ⟨hc.1, hc.2⟩) hD hS hA (fun r9 w9 H locs hp9 hP hD hS => ?_)
  obtain ⟨rfl, K2, rfl⟩ := hp9
  have hP : va_P D classes (wdC ad cI cZ cL J rd pr G K2 (wdM ad cI cZ cL J rd pr M (oU ov (lZ (sTP ((sCr up lo nn : Nat) : Int) (2 ^ nn) pt))))) H := hP
  have hD : va_D A (wdC ad cI cZ cL J rd pr G K2 (wdM ad cI cZ cL J rd pr M (oU ov (lZ (sTP ((sCr up lo nn : Nat) : Int) (2 ^ nn) pt))))) := hD
  refine W.eq (g2 := F0 m 1014 ls [.int (iZ ((0 : Nat) : Int))]) rfl ?_
  refine lv_istore (lv' := [(5, .int (iZ ((0 : Nat) : Int))), (4, .int (iZ ((i : Nat) : Int))), (0, .ref (sb)), (1, .ref (ad 0)), (2, .ref (ad 19)), (3, .ref (ad 33))]) hx hb d_L_law_1014 hl (by decide) rfl (fun ls hl => ?_)
  refine lv_aload_n hx hb d_L_law_1016 rfl (lv_at hl 4 rfl) ?_
  refine lv_aload_n hx hb d_L_law_1017 rfl (lv_at hl 2 rfl) ?_
  refine lv_iload hx hb d_L_law_1018 (lv_at hl 1 rfl) ?_
  refine lv_iconst (v := iZ ((1 : Nat) : Int)) hx hb d_L_law_1020 (by decide) ?_
  refine z_iaddN (u := i) (v := 1) hx hb d_L_law_1021 ?_
  refine z_sld (v := iZ ((nn : Nat) : Int)) hx hb hX hbl hbA hS (i + 1) (by omega) ha1 d_L_law_1022 ?_
  refine lv_aload_n hx hb d_L_law_1023 rfl (lv_at hl 2 rfl) ?_
  refine lv_iload hx hb d_L_law_1024 (lv_at hl 1 rfl) ?_
  refine lv_iconst (v := iZ ((2 : Nat) : Int)) hx hb d_L_law_1026 (by decide) ?_
  refine z_iaddN (u := i) (v := 2) hx hb d_L_law_1027 ?_
  refine z_sld (v := iZ ((up : Nat) : Int)) hx hb hX hbl hbA hS (i + 2) (by omega) ha2 d_L_law_1028 ?_
  refine lv_aload_n hx hb d_L_law_1029 rfl (lv_at hl 2 rfl) ?_
  refine lv_iload hx hb d_L_law_1030 (lv_at hl 1 rfl) ?_
  refine lv_iconst (v := iZ ((3 : Nat) : Int)) hx hb d_L_law_1032 (by decide) ?_
  refine z_iaddN (u := i) (v := 3) hx hb d_L_law_1033 ?_
  refine z_sld (v := iZ ((lo : Nat) : Int)) hx hb hX hbl hbA hS (i + 3) (by omega) ha3 d_L_law_1034 ?_
  refine lv_aload_n hx hb d_L_law_1035 rfl (lv_at hl 2 rfl) ?_
  refine lv_iload hx hb d_L_law_1036 (lv_at hl 1 rfl) ?_
  refine lv_iconst (v := iZ ((4 : Nat) : Int)) hx hb d_L_law_1038 (by decide) ?_
  refine z_iaddN (u := i) (v := 4) hx hb d_L_law_1039 ?_
  refine z_sld (v := iZ ((pt : Nat) : Int)) hx hb hX hbl hbA hS (i + 4) (by omega) ha4 d_L_law_1040 ?_
  refine z_kl (z_runV (As := [.int (iZ ((nn : Nat) : Int)), .int (iZ ((up : Nat) : Int)), .int (iZ ((lo : Nat) : Int)), .int (iZ ((pt : Nat) : Int))]) (rest := []) zTB Z (k_M_crossing0 hI hM hn hup hlo hpt) ⟨ml_L_148, im_M_crossing, se_M_crossing, ini_M, co_M_crossing⟩ zd_M_crossing ⟨Nat.le_of_ble_eq_true rfl, Nat.le_of_ble_eq_true rfl⟩ hP hK hD (ci := 5) (q0 := 19) rfl rfl rfl hl.1 rfl (Nat.le_of_ble_eq_true rfl) d_L_law_1041 ⟨hc.1, hc.2⟩) hD hS hA (fun r9 w9 H locs hp9 hP hD hS => ?_)
  obtain ⟨M1, rfl, rfl, hc1, hM1⟩ := hp9
  have hP : va_P D classes (wdC ad cI cZ cL J rd pr G K2 (wdM ad cI cZ cL J rd pr M1 (oU ov (lZ (sTP ((sCr up lo nn : Nat) : Int) (2 ^ nn) pt))))) H := hP
  have hD : va_D A (wdC ad cI cZ cL J rd pr G K2 (wdM ad cI cZ cL J rd pr M1 (oU ov (lZ (sTP ((sCr up lo nn : Nat) : Int) (2 ^ nn) pt))))) := hD
  refine W.eq (g2 := F0 m 1044 ls [.long (lZ (sTP ((sCr up lo nn : Nat) : Int) (2 ^ nn) pt))]) rfl ?_
  refine lv_lstore (lv' := [(6, .long (lZ (sTP ((sCr up lo nn : Nat) : Int) (2 ^ nn) pt))), (5, .int (iZ ((0 : Nat) : Int))), (4, .int (iZ ((i : Nat) : Int))), (0, .ref (sb)), (1, .ref (ad 0)), (2, .ref (ad 19)), (3, .ref (ad 33))]) hx hb d_L_law_1044 hl (by decide) rfl (fun ls hl => ?_)
  refine lv_aload_n hx hb d_L_law_1046 rfl (lv_at hl 5 rfl) ?_
  refine z_callVR (As := []) (rest := []) zTB Z (k_M_thrown) ⟨ml_L_101, im_M_thrown, se_M_thrown, ini_M, co_M_thrown⟩ zd_M_thrown ⟨Nat.le_of_ble_eq_true rfl, Nat.le_of_ble_eq_true rfl⟩ hP hK (ci := 5) (q0 := 19) rfl rfl rfl hl.1 rfl (Nat.le_of_ble_eq_true rfl) d_L_law_1047 ⟨hc.1, hc.2⟩ ?_
  refine W.eq (g2 := F0 m 1050 ls [.int (iZ ((M1.1 : Nat) : Int))]) rfl ?_
  refine z_topZ (b := ((0 : Nat) : Int)) (by rw [hc1]) ?_
  refine lv_iload hx hb d_L_law_1050 (lv_at hl 1 rfl) ?_
  refine z_icmp_eq (a := ((0 : Nat) : Int)) (b := ((0 : Nat) : Int)) (tgt := 1057) hx hb (by omega) d_L_law_1052 (by decide) (fun q1052 => ?_) (fun q1052 => ?_)
  · skip
    refine lv_iload hx hb d_L_law_1057 (lv_at hl 1 rfl) ?_
    refine z_if_ne (a := ((0 : Nat) : Int)) (tgt := 1073) hx hb (by omega) d_L_law_1059 (by decide) (fun q1059 => ?_) (fun q1059 => ?_)
    · skip
      exfalso; omega
    · skip
      refine lv_aload_n hx hb d_L_law_1062 rfl (lv_at hl 6 rfl) ?_
      refine lv_iconst (v := iZ ((0 : Nat) : Int)) hx hb d_L_law_1063 (by decide) ?_
      refine z_old (x := lZ (sTP ((sCr up lo nn : Nat) : Int) (2 ^ nn) pt)) hx hb hK hP 33 2 rfl rfl d_L_law_1064 ?_
      refine lv_lload hx hb d_L_law_1065 (lv_at hl 0 rfl) ?_
      refine z_lcmpR_eq (tgt := 1073) (pc1 := 1068) (pc4 := 1071) hx hb d_L_law_1067 rfl rfl d_L_law_1068 (by decide) (fun q1067 => ?_) (fun q1067 => ?_)
      · skip
        refine lv_goto (tgt := 1598) hx hb d_L_law_1073 (by decide) ?_
        exact kk J _ _ _ _ _ _ H locs ls ⟨hI, hM1, hR, hpq⟩ hP hD hS (lv_sub hl [2, 3, 4, 5, 6] rfl)
      · skip
        exact absurd rfl q1067
  · skip
    exfalso; omega

set_option maxHeartbeats 4000000 in
set_option maxRecDepth 100000 in
theorem lf_least_x1 {p : Program} {l : Launch} {e : Env} {s : State} {m : MethodId} {below : List Frame} {meth : Method} {c : Code} {Q : State → Prop} {sb L : Nat} {xs : Nat → Int32} {D : va_G} {A : Nat → Prop} {ad : Nat → Nat} {cI cZ cL : ClassId} {J : SJ} {rd : Nat → Int} {pr : Nat → Nat} {G : SH} {K : SK} {M : SM} {ov : Nat → Int64} {H : Heap} {locs : List Loc} {cells slots i : Nat} {ls : Array Slot} (X : LX p l s m meth c sb L xs D cI cZ cL A) (hLI : LI J rd pr M) (hi : i + 4 < L) (hc : cells + 1 ≤ 1061 ∧ slots + 6 ≤ 9679) {a b c9 d9 : Int} (h : z32 d9 ∧ (d9 < 1 ∨ 1000 < d9)) (hz : z32 a ∧ z32 b ∧ z32 c9) (ha1 : xs (i + 1) = iZ (a)) (ha2 : xs (i + 2) = iZ (b)) (ha3 : xs (i + 3) = iZ (c9)) (ha4 : xs (i + 4) = iZ (d9)) (hP : va_P D classes (wdC ad cI cZ cL J rd pr G K (wdM ad cI cZ cL J rd pr M ov)) H) (hD : va_D A (wdC ad cI cZ cL J rd pr G K (wdM ad cI cZ cL J rd pr M ov))) (hS : va_S A s.heap H locs) (hl : lv_has ls 8 (lwL ad sb i)) (kk : LK p l e s m below meth c Q sb D A ad cI cZ cL i (cells + 1) (slots + 6)) : W p l e room_1 s m #[Value.ref sb] below meth c H locs cells slots Q (F0 m 1076 ls []) := by
  obtain ⟨hl0, Z, hX, hbl, hK, hA, hbA, hTT, hSt, hL⟩ := X
  obtain ⟨hI, hM, hR, hpq⟩ := hLI
  obtain ⟨hx, hb, hr, hml, hown, hts, hE, hlocks⟩ := id Z
  have hn32 := hI.1
  have hk32 := hI.2.1
  have hl : lv_has ls 8 [(4, .int (iZ ((i : Nat) : Int))), (0, .ref (sb)), (1, .ref (ad 0)), (2, .ref (ad 19)), (3, .ref (ad 33))] := hl
  refine lv_aload_n hx hb d_L_law_1076 rfl (lv_at hl 2 rfl) ?_
  refine lv_aload_n hx hb d_L_law_1077 rfl (lv_at hl 1 rfl) ?_
  refine lv_iload hx hb d_L_law_1078 (lv_at hl 0 rfl) ?_
  refine lv_iconst (v := iZ ((1 : Nat) : Int)) hx hb d_L_law_1080 (by decide) ?_
  refine z_iaddN (u := i) (v := 1) hx hb d_L_law_1081 ?_
  refine z_sld (v := iZ (a)) hx hb hX hbl hbA hS (i + 1) (by omega) ha1 d_L_law_1082 ?_
  refine lv_aload_n hx hb d_L_law_1083 rfl (lv_at hl 1 rfl) ?_
  refine lv_iload hx hb d_L_law_1084 (lv_at hl 0 rfl) ?_
  refine lv_iconst (v := iZ ((2 : Nat) : Int)) hx hb d_L_law_1086 (by decide) ?_
  refine z_iaddN (u := i) (v := 2) hx hb d_L_law_1087 ?_
  refine z_sld (v := iZ (b)) hx hb hX hbl hbA hS (i + 2) (by omega) ha2 d_L_law_1088 ?_
  refine lv_aload_n hx hb d_L_law_1089 rfl (lv_at hl 1 rfl) ?_
  refine lv_iload hx hb d_L_law_1090 (lv_at hl 0 rfl) ?_
  refine lv_iconst (v := iZ ((3 : Nat) : Int)) hx hb d_L_law_1092 (by decide) ?_
  refine z_iaddN (u := i) (v := 3) hx hb d_L_law_1093 ?_
  refine z_sld (v := iZ (c9)) hx hb hX hbl hbA hS (i + 3) (by omega) ha3 d_L_law_1094 ?_
  refine lv_aload_n hx hb d_L_law_1095 rfl (lv_at hl 1 rfl) ?_
  refine lv_iload hx hb d_L_law_1096 (lv_at hl 0 rfl) ?_
  refine lv_iconst (v := iZ ((4 : Nat) : Int)) hx hb d_L_law_1098 (by decide) ?_
  refine z_iaddN (u := i) (v := 4) hx hb d_L_law_1099 ?_
  refine z_sld (v := iZ (d9)) hx hb hX hbl hbA hS (i + 4) (by omega) ha4 d_L_law_1100 ?_
  refine lv_aload_n hx hb d_L_law_1101 rfl (lv_at hl 4 rfl) ?_
  refine z_kiW (z_runSW (As := [.ref (ad 0), .int (iZ (a)), .int (iZ (b)), .int (iZ (c9)), .int (iZ (d9)), .ref (ad 33)]) (rest := []) Z (k_L_leastx1 hl0 hI (a := a) (b := b) (c9 := c9) (d9 := d9) h) ⟨ml_L_149, sm_L_least, ini_L, co_L_least⟩ zd_L_least ⟨Nat.le_of_ble_eq_true rfl, Nat.le_of_ble_eq_true rfl⟩ hP hK hD (hTT _ _ hS) hSt hl.1 rfl (Nat.le_of_ble_eq_true rfl) d_L_law_1102 ⟨hc.1, hc.2⟩) hD hS hA (fun r9 w9 H locs hp9 hP hD hS => ?_)
  obtain ⟨rfl, rfl⟩ := hp9
  have hP : va_P D classes (wdC ad cI cZ cL J rd pr G K (wdM ad cI cZ cL J rd pr M ov)) H := hP
  have hD : va_D A (wdC ad cI cZ cL J rd pr G K (wdM ad cI cZ cL J rd pr M ov)) := hD
  refine W.eq (g2 := F0 m 1105 ls [.int (iZ ((1 : Nat) : Int))]) rfl ?_
  refine lv_istore (lv' := [(5, .int (iZ ((1 : Nat) : Int))), (4, .int (iZ ((i : Nat) : Int))), (0, .ref (sb)), (1, .ref (ad 0)), (2, .ref (ad 19)), (3, .ref (ad 33))]) hx hb d_L_law_1105 hl (by decide) rfl (fun ls hl => ?_)
  refine lv_aload_n hx hb d_L_law_1107 rfl (lv_at hl 4 rfl) ?_
  refine lv_aload_n hx hb d_L_law_1108 rfl (lv_at hl 2 rfl) ?_
  refine lv_iload hx hb d_L_law_1109 (lv_at hl 1 rfl) ?_
  refine lv_iconst (v := iZ ((1 : Nat) : Int)) hx hb d_L_law_1111 (by decide) ?_
  refine z_iaddN (u := i) (v := 1) hx hb d_L_law_1112 ?_
  refine z_sld (v := iZ (a)) hx hb hX hbl hbA hS (i + 1) (by omega) ha1 d_L_law_1113 ?_
  refine lv_aload_n hx hb d_L_law_1114 rfl (lv_at hl 2 rfl) ?_
  refine lv_iload hx hb d_L_law_1115 (lv_at hl 1 rfl) ?_
  refine lv_iconst (v := iZ ((2 : Nat) : Int)) hx hb d_L_law_1117 (by decide) ?_
  refine z_iaddN (u := i) (v := 2) hx hb d_L_law_1118 ?_
  refine z_sld (v := iZ (b)) hx hb hX hbl hbA hS (i + 2) (by omega) ha2 d_L_law_1119 ?_
  refine lv_aload_n hx hb d_L_law_1120 rfl (lv_at hl 2 rfl) ?_
  refine lv_iload hx hb d_L_law_1121 (lv_at hl 1 rfl) ?_
  refine lv_iconst (v := iZ ((3 : Nat) : Int)) hx hb d_L_law_1123 (by decide) ?_
  refine z_iaddN (u := i) (v := 3) hx hb d_L_law_1124 ?_
  refine z_sld (v := iZ (c9)) hx hb hX hbl hbA hS (i + 3) (by omega) ha3 d_L_law_1125 ?_
  refine lv_aload_n hx hb d_L_law_1126 rfl (lv_at hl 2 rfl) ?_
  refine lv_iload hx hb d_L_law_1127 (lv_at hl 1 rfl) ?_
  refine lv_iconst (v := iZ ((4 : Nat) : Int)) hx hb d_L_law_1129 (by decide) ?_
  refine z_iaddN (u := i) (v := 4) hx hb d_L_law_1130 ?_
  refine z_sld (v := iZ (d9)) hx hb hX hbl hbA hS (i + 4) (by omega) ha4 d_L_law_1131 ?_
  refine z_ki (z_runV (As := [.int (iZ (a)), .int (iZ (b)), .int (iZ (c9)), .int (iZ (d9))]) (rest := []) zTB Z (k_M_leastx1 hI hM (a := a) (b := b) (c9 := c9) (d9 := d9) (by omega)) ⟨ml_L_151, im_M_least, se_M_least, ini_M, co_M_least⟩ zd_M_least ⟨Nat.le_of_ble_eq_true rfl, Nat.le_of_ble_eq_true rfl⟩ hP hK hD (ci := 5) (q0 := 19) rfl rfl rfl hl.1 rfl (Nat.le_of_ble_eq_true rfl) d_L_law_1132 ⟨hc.1, hc.2⟩) hD hS hA (fun r9 w9 H locs hp9 hP hD hS => ?_)
  obtain ⟨M1, rfl, hc1, hM1⟩ := hp9
  have hP : va_P D classes (wdC ad cI cZ cL J rd pr G K (wdM ad cI cZ cL J rd pr M1 ov)) H := hP
  have hD : va_D A (wdC ad cI cZ cL J rd pr G K (wdM ad cI cZ cL J rd pr M1 ov)) := hD
  refine W.eq (g2 := F0 m 1135 ls [.int (r9)]) rfl ?_
  refine lv_istore (lv' := [(6, .int (r9)), (5, .int (iZ ((1 : Nat) : Int))), (4, .int (iZ ((i : Nat) : Int))), (0, .ref (sb)), (1, .ref (ad 0)), (2, .ref (ad 19)), (3, .ref (ad 33))]) hx hb d_L_law_1135 hl (by decide) rfl (fun ls hl => ?_)
  refine lv_aload_n hx hb d_L_law_1137 rfl (lv_at hl 5 rfl) ?_
  refine z_callVR (As := []) (rest := []) zTB Z (k_M_thrown) ⟨ml_L_101, im_M_thrown, se_M_thrown, ini_M, co_M_thrown⟩ zd_M_thrown ⟨Nat.le_of_ble_eq_true rfl, Nat.le_of_ble_eq_true rfl⟩ hP hK (ci := 5) (q0 := 19) rfl rfl rfl hl.1 rfl (Nat.le_of_ble_eq_true rfl) d_L_law_1138 ⟨hc.1, hc.2⟩ ?_
  refine W.eq (g2 := F0 m 1141 ls [.int (iZ ((M1.1 : Nat) : Int))]) rfl ?_
  refine z_topZ (b := ((1 : Nat) : Int)) (by rw [hc1]) ?_
  refine lv_iload hx hb d_L_law_1141 (lv_at hl 1 rfl) ?_
  refine z_icmp_eq (a := ((1 : Nat) : Int)) (b := ((1 : Nat) : Int)) (tgt := 1148) hx hb (by omega) d_L_law_1143 (by decide) (fun q1143 => ?_) (fun q1143 => ?_)
  · skip
    refine lv_iload hx hb d_L_law_1148 (lv_at hl 1 rfl) ?_
    refine z_if_ne (a := ((1 : Nat) : Int)) (tgt := 1165) hx hb (by omega) d_L_law_1150 (by decide) (fun q1150 => ?_) (fun q1150 => ?_)
    · skip
      refine lv_goto (tgt := 1598) hx hb d_L_law_1165 (by decide) ?_
      exact kk J _ _ _ _ _ _ H locs ls ⟨hI, hM1, hR, hpq⟩ hP hD hS (lv_sub hl [2, 3, 4, 5, 6] rfl)
    · skip
      exfalso; omega
  · skip
    exfalso; omega

