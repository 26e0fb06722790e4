/-! The law's calls, on. -/
set_option maxHeartbeats 4000000 in
set_option maxRecDepth 100000 in
theorem lf_least_x2 {p : Program} {l : Launch} {e : Env} {s : State} {m : MethodId} {below : List Frame} {meth : Method} {c : Code} {Q : State → Prop} {sb L : Nat} {xs : Nat → Int32} {D : va_G} {A : Nat → Prop} {ad : Nat → Nat} {cI cZ cL : ClassId} {J : SJ} {rd : Nat → Int} {pr : Nat → Nat} {G : SH} {K : SK} {M : SM} {ov : Nat → Int64} {H : Heap} {locs : List Loc} {cells slots i : Nat} {ls : Array Slot} (X : LX p l s m meth c sb L xs D cI cZ cL A) (hLI : LI J rd pr M) (hi : i + 4 < L) (hc : cells + 1 ≤ 1061 ∧ slots + 6 ≤ 9679) {a b c9 d9 : Int} (h : 1 ≤ d9 ∧ d9 ≤ 1000 ∧ z32 c9 ∧ (c9 < 0 ∨ d9 < c9)) (hz : z32 a ∧ z32 b) (ha1 : xs (i + 1) = iZ (a)) (ha2 : xs (i + 2) = iZ (b)) (ha3 : xs (i + 3) = iZ (c9)) (ha4 : xs (i + 4) = iZ (d9)) (hP : va_P D classes (wdC ad cI cZ cL J rd pr G K (wdM ad cI cZ cL J rd pr M ov)) H) (hD : va_D A (wdC ad cI cZ cL J rd pr G K (wdM ad cI cZ cL J rd pr M ov))) (hS : va_S A s.heap H locs) (hl : lv_has ls 8 (lwL ad sb i)) (kk : LK p l e s m below meth c Q sb D A ad cI cZ cL i (cells + 1) (slots + 6)) : W p l e room_1 s m #[Value.ref sb] below meth c H locs cells slots Q (F0 m 1076 ls []) := by
  obtain ⟨hl0, Z, hX, hbl, hK, hA, hbA, hTT, hSt, hL⟩ := X
  obtain ⟨hI, hM, hR, hpq⟩ := hLI
  obtain ⟨hx, hb, hr, hml, hown, hts, hE, hlocks⟩ := id Z
  have hn32 := hI.1
  have hk32 := hI.2.1
  have hl : lv_has ls 8 [(4, .int (iZ ((i : Nat) : Int))), (0, .ref (sb)), (1, .ref (ad 0)), (2, .ref (ad 19)), (3, .ref (ad 33))] := hl
  refine lv_aload_n hx hb d_L_law_1076 rfl (lv_at hl 2 rfl) ?_
  refine lv_aload_n hx hb d_L_law_1077 rfl (lv_at hl 1 rfl) ?_
  refine lv_iload hx hb d_L_law_1078 (lv_at hl 0 rfl) ?_
  refine lv_iconst (v := iZ ((1 : Nat) : Int)) hx hb d_L_law_1080 (by decide) ?_
  refine z_iaddN (u := i) (v := 1) hx hb d_L_law_1081 ?_
  refine z_sld (v := iZ (a)) hx hb hX hbl hbA hS (i + 1) (by omega) ha1 d_L_law_1082 ?_
  refine lv_aload_n hx hb d_L_law_1083 rfl (lv_at hl 1 rfl) ?_
  refine lv_iload hx hb d_L_law_1084 (lv_at hl 0 rfl) ?_
  refine lv_iconst (v := iZ ((2 : Nat) : Int)) hx hb d_L_law_1086 (by decide) ?_
  refine z_iaddN (u := i) (v := 2) hx hb d_L_law_1087 ?_
  refine z_sld (v := iZ (b)) hx hb hX hbl hbA hS (i + 2) (by omega) ha2 d_L_law_1088 ?_
  refine lv_aload_n hx hb d_L_law_1089 rfl (lv_at hl 1 rfl) ?_
  refine lv_iload hx hb d_L_law_1090 (lv_at hl 0 rfl) ?_
  refine lv_iconst (v := iZ ((3 : Nat) : Int)) hx hb d_L_law_1092 (by decide) ?_
  refine z_iaddN (u := i) (v := 3) hx hb d_L_law_1093 ?_
  refine z_sld (v := iZ (c9)) hx hb hX hbl hbA hS (i + 3) (by omega) ha3 d_L_law_1094 ?_
  refine lv_aload_n hx hb d_L_law_1095 rfl (lv_at hl 1 rfl) ?_
  refine lv_iload hx hb d_L_law_1096 (lv_at hl 0 rfl) ?_
  refine lv_iconst (v := iZ ((4 : Nat) : Int)) hx hb d_L_law_1098 (by decide) ?_
  refine z_iaddN (u := i) (v := 4) hx hb d_L_law_1099 ?_
  refine z_sld (v := iZ (d9)) hx hb hX hbl hbA hS (i + 4) (by omega) ha4 d_L_law_1100 ?_
  refine lv_aload_n hx hb d_L_law_1101 rfl (lv_at hl 4 rfl) ?_
  refine z_kiW (z_runSW (As := [.ref (ad 0), .int (iZ (a)), .int (iZ (b)), .int (iZ (c9)), .int (iZ (d9)), .ref (ad 33)]) (rest := []) Z (k_L_leastx2 hl0 hI (a := a) (b := b) (c9 := c9) (d9 := d9) h) ⟨ml_L_149, sm_L_least, ini_L, co_L_least⟩ zd_L_least ⟨Nat.le_of_ble_eq_true rfl, Nat.le_of_ble_eq_true rfl⟩ hP hK hD (hTT _ _ hS) hSt hl.1 rfl (Nat.le_of_ble_eq_true rfl) d_L_law_1102 ⟨hc.1, hc.2⟩) hD hS hA (fun r9 w9 H locs hp9 hP hD hS => ?_)
  obtain ⟨rfl, rfl⟩ := hp9
  have hP : va_P D classes (wdC ad cI cZ cL J rd pr G K (wdM ad cI cZ cL J rd pr M ov)) H := hP
  have hD : va_D A (wdC ad cI cZ cL J rd pr G K (wdM ad cI cZ cL J rd pr M ov)) := hD
  refine W.eq (g2 := F0 m 1105 ls [.int (iZ ((1 : Nat) : Int))]) rfl ?_
  refine lv_istore (lv' := [(5, .int (iZ ((1 : Nat) : Int))), (4, .int (iZ ((i : Nat) : Int))), (0, .ref (sb)), (1, .ref (ad 0)), (2, .ref (ad 19)), (3, .ref (ad 33))]) hx hb d_L_law_1105 hl (by decide) rfl (fun ls hl => ?_)
  refine lv_aload_n hx hb d_L_law_1107 rfl (lv_at hl 4 rfl) ?_
  refine lv_aload_n hx hb d_L_law_1108 rfl (lv_at hl 2 rfl) ?_
  refine lv_iload hx hb d_L_law_1109 (lv_at hl 1 rfl) ?_
  refine lv_iconst (v := iZ ((1 : Nat) : Int)) hx hb d_L_law_1111 (by decide) ?_
  refine z_iaddN (u := i) (v := 1) hx hb d_L_law_1112 ?_
  refine z_sld (v := iZ (a)) hx hb hX hbl hbA hS (i + 1) (by omega) ha1 d_L_law_1113 ?_
  refine lv_aload_n hx hb d_L_law_1114 rfl (lv_at hl 2 rfl) ?_
  refine lv_iload hx hb d_L_law_1115 (lv_at hl 1 rfl) ?_
  refine lv_iconst (v := iZ ((2 : Nat) : Int)) hx hb d_L_law_1117 (by decide) ?_
  refine z_iaddN (u := i) (v := 2) hx hb d_L_law_1118 ?_
  refine z_sld (v := iZ (b)) hx hb hX hbl hbA hS (i + 2) (by omega) ha2 d_L_law_1119 ?_
  refine lv_aload_n hx hb d_L_law_1120 rfl (lv_at hl 2 rfl) ?_
  refine lv_iload hx hb d_L_law_1121 (lv_at hl 1 rfl) ?_
  refine lv_iconst (v := iZ ((3 : Nat) : Int)) hx hb d_L_law_1123 (by decide) ?_
  refine z_iaddN (u := i) (v := 3) hx hb d_L_law_1124 ?_
  refine z_sld (v := iZ (c9)) hx hb hX hbl hbA hS (i + 3) (by omega) ha3 d_L_law_1125 ?_
  refine lv_aload_n hx hb d_L_law_1126 rfl (lv_at hl 2 rfl) ?_
  refine lv_iload hx hb d_L_law_1127 (lv_at hl 1 rfl) ?_
  refine lv_iconst (v := iZ ((4 : Nat) : Int)) hx hb d_L_law_1129 (by decide) ?_
  refine z_iaddN (u := i) (v := 4) hx hb d_L_law_1130 ?_
  refine z_sld (v := iZ (d9)) hx hb hX hbl hbA hS (i + 4) (by omega) ha4 d_L_law_1131 ?_
  refine z_ki (z_runV (As := [.int (iZ (a)), .int (iZ (b)), .int (iZ (c9)), .int (iZ (d9))]) (rest := []) zTB Z (k_M_leastx1 hI hM (a := a) (b := b) (c9 := c9) (d9 := d9) (by omega)) ⟨ml_L_151, im_M_least, se_M_least, ini_M, co_M_least⟩ zd_M_least ⟨Nat.le_of_ble_eq_true rfl, Nat.le_of_ble_eq_true rfl⟩ hP hK hD (ci := 5) (q0 := 19) rfl rfl rfl hl.1 rfl (Nat.le_of_ble_eq_true rfl) d_L_law_1132 ⟨hc.1, hc.2⟩) hD hS hA (fun r9 w9 H locs hp9 hP hD hS => ?_)
  obtain ⟨M1, rfl, hc1, hM1⟩ := hp9
  have hP : va_P D classes (wdC ad cI cZ cL J rd pr G K (wdM ad cI cZ cL J rd pr M1 ov)) H := hP
  have hD : va_D A (wdC ad cI cZ cL J rd pr G K (wdM ad cI cZ cL J rd pr M1 ov)) := hD
  refine W.eq (g2 := F0 m 1135 ls [.int (r9)]) rfl ?_
  refine lv_istore (lv' := [(6, .int (r9)), (5, .int (iZ ((1 : Nat) : Int))), (4, .int (iZ ((i : Nat) : Int))), (0, .ref (sb)), (1, .ref (ad 0)), (2, .ref (ad 19)), (3, .ref (ad 33))]) hx hb d_L_law_1135 hl (by decide) rfl (fun ls hl => ?_)
  refine lv_aload_n hx hb d_L_law_1137 rfl (lv_at hl 5 rfl) ?_
  refine z_callVR (As := []) (rest := []) zTB Z (k_M_thrown) ⟨ml_L_101, im_M_thrown, se_M_thrown, ini_M, co_M_thrown⟩ zd_M_thrown ⟨Nat.le_of_ble_eq_true rfl, Nat.le_of_ble_eq_true rfl⟩ hP hK (ci := 5) (q0 := 19) rfl rfl rfl hl.1 rfl (Nat.le_of_ble_eq_true rfl) d_L_law_1138 ⟨hc.1, hc.2⟩ ?_
  refine W.eq (g2 := F0 m 1141 ls [.int (iZ ((M1.1 : Nat) : Int))]) rfl ?_
  refine z_topZ (b := ((1 : Nat) : Int)) (by rw [hc1]) ?_
  refine lv_iload hx hb d_L_law_1141 (lv_at hl 1 rfl) ?_
  refine z_icmp_eq (a := ((1 : Nat) : Int)) (b := ((1 : Nat) : Int)) (tgt := 1148) hx hb (by omega) d_L_law_1143 (by decide) (fun q1143 => ?_) (fun q1143 => ?_)
  · skip
    refine lv_iload hx hb d_L_law_1148 (lv_at hl 1 rfl) ?_
    refine z_if_ne (a := ((1 : Nat) : Int)) (tgt := 1165) hx hb (by omega) d_L_law_1150 (by decide) (fun q1150 => ?_) (fun q1150 => ?_)
    · skip
      refine lv_goto (tgt := 1598) hx hb d_L_law_1165 (by decide) ?_
      exact kk J _ _ _ _ _ _ H locs ls ⟨hI, hM1, hR, hpq⟩ hP hD hS (lv_sub hl [2, 3, 4, 5, 6] rfl)
    · skip
      exfalso; omega
  · skip
    exfalso; omega

set_option maxHeartbeats 4000000 in
set_option maxRecDepth 100000 in
theorem lf_least_x3 {p : Program} {l : Launch} {e : Env} {s : State} {m : MethodId} {below : List Frame} {meth : Method} {c : Code} {Q : State → Prop} {sb L : Nat} {xs : Nat → Int32} {D : va_G} {A : Nat → Prop} {ad : Nat → Nat} {cI cZ cL : ClassId} {J : SJ} {rd : Nat → Int} {pr : Nat → Nat} {G : SH} {K : SK} {M : SM} {ov : Nat → Int64} {H : Heap} {locs : List Loc} {cells slots i : Nat} {ls : Array Slot} (X : LX p l s m meth c sb L xs D cI cZ cL A) (hLI : LI J rd pr M) (hi : i + 4 < L) (hc : cells + 1 ≤ 1061 ∧ slots + 6 ≤ 9679) {a b c9 d9 : Int} (h : 1 ≤ d9 ∧ d9 ≤ 1000 ∧ 0 ≤ c9 ∧ c9 ≤ d9 ∧ z32 a ∧ (a < 1 ∨ 16 < a)) (hz : z32 b) (ha1 : xs (i + 1) = iZ (a)) (ha2 : xs (i + 2) = iZ (b)) (ha3 : xs (i + 3) = iZ (c9)) (ha4 : xs (i + 4) = iZ (d9)) (hP : va_P D classes (wdC ad cI cZ cL J rd pr G K (wdM ad cI cZ cL J rd pr M ov)) H) (hD : va_D A (wdC ad cI cZ cL J rd pr G K (wdM ad cI cZ cL J rd pr M ov))) (hS : va_S A s.heap H locs) (hl : lv_has ls 8 (lwL ad sb i)) (kk : LK p l e s m below meth c Q sb D A ad cI cZ cL i (cells + 1) (slots + 6)) : W p l e room_1 s m #[Value.ref sb] below meth c H locs cells slots Q (F0 m 1076 ls []) := by
  obtain ⟨hl0, Z, hX, hbl, hK, hA, hbA, hTT, hSt, hL⟩ := X
  obtain ⟨hI, hM, hR, hpq⟩ := hLI
  obtain ⟨hx, hb, hr, hml, hown, hts, hE, hlocks⟩ := id Z
  have hn32 := hI.1
  have hk32 := hI.2.1
  have hl : lv_has ls 8 [(4, .int (iZ ((i : Nat) : Int))), (0, .ref (sb)), (1, .ref (ad 0)), (2, .ref (ad 19)), (3, .ref (ad 33))] := hl
  refine lv_aload_n hx hb d_L_law_1076 rfl (lv_at hl 2 rfl) ?_
  refine lv_aload_n hx hb d_L_law_1077 rfl (lv_at hl 1 rfl) ?_
  refine lv_iload hx hb d_L_law_1078 (lv_at hl 0 rfl) ?_
  refine lv_iconst (v := iZ ((1 : Nat) : Int)) hx hb d_L_law_1080 (by decide) ?_
  refine z_iaddN (u := i) (v := 1) hx hb d_L_law_1081 ?_
  refine z_sld (v := iZ (a)) hx hb hX hbl hbA hS (i + 1) (by omega) ha1 d_L_law_1082 ?_
  refine lv_aload_n hx hb d_L_law_1083 rfl (lv_at hl 1 rfl) ?_
  refine lv_iload hx hb d_L_law_1084 (lv_at hl 0 rfl) ?_
  refine lv_iconst (v := iZ ((2 : Nat) : Int)) hx hb d_L_law_1086 (by decide) ?_
  refine z_iaddN (u := i) (v := 2) hx hb d_L_law_1087 ?_
  refine z_sld (v := iZ (b)) hx hb hX hbl hbA hS (i + 2) (by omega) ha2 d_L_law_1088 ?_
  refine lv_aload_n hx hb d_L_law_1089 rfl (lv_at hl 1 rfl) ?_
  refine lv_iload hx hb d_L_law_1090 (lv_at hl 0 rfl) ?_
  refine lv_iconst (v := iZ ((3 : Nat) : Int)) hx hb d_L_law_1092 (by decide) ?_
  refine z_iaddN (u := i) (v := 3) hx hb d_L_law_1093 ?_
  refine z_sld (v := iZ (c9)) hx hb hX hbl hbA hS (i + 3) (by omega) ha3 d_L_law_1094 ?_
  refine lv_aload_n hx hb d_L_law_1095 rfl (lv_at hl 1 rfl) ?_
  refine lv_iload hx hb d_L_law_1096 (lv_at hl 0 rfl) ?_
  refine lv_iconst (v := iZ ((4 : Nat) : Int)) hx hb d_L_law_1098 (by decide) ?_
  refine z_iaddN (u := i) (v := 4) hx hb d_L_law_1099 ?_
  refine z_sld (v := iZ (d9)) hx hb hX hbl hbA hS (i + 4) (by omega) ha4 d_L_law_1100 ?_
  refine lv_aload_n hx hb d_L_law_1101 rfl (lv_at hl 4 rfl) ?_
  refine z_kiW (z_runSW (As := [.ref (ad 0), .int (iZ (a)), .int (iZ (b)), .int (iZ (c9)), .int (iZ (d9)), .ref (ad 33)]) (rest := []) Z (k_L_leastx3 hl0 hI (a := a) (b := b) (c9 := c9) (d9 := d9) h) ⟨ml_L_149, sm_L_least, ini_L, co_L_least⟩ zd_L_least ⟨Nat.le_of_ble_eq_true rfl, Nat.le_of_ble_eq_true rfl⟩ hP hK hD (hTT _ _ hS) hSt hl.1 rfl (Nat.le_of_ble_eq_true rfl) d_L_law_1102 ⟨hc.1, hc.2⟩) hD hS hA (fun r9 w9 H locs hp9 hP hD hS => ?_)
  obtain ⟨rfl, rfl⟩ := hp9
  have hP : va_P D classes (wdC ad cI cZ cL J rd pr G K (wdM ad cI cZ cL J rd pr M ov)) H := hP
  have hD : va_D A (wdC ad cI cZ cL J rd pr G K (wdM ad cI cZ cL J rd pr M ov)) := hD
  refine W.eq (g2 := F0 m 1105 ls [.int (iZ ((1 : Nat) : Int))]) rfl ?_
  refine lv_istore (lv' := [(5, .int (iZ ((1 : Nat) : Int))), (4, .int (iZ ((i : Nat) : Int))), (0, .ref (sb)), (1, .ref (ad 0)), (2, .ref (ad 19)), (3, .ref (ad 33))]) hx hb d_L_law_1105 hl (by decide) rfl (fun ls hl => ?_)
  refine lv_aload_n hx hb d_L_law_1107 rfl (lv_at hl 4 rfl) ?_
  refine lv_aload_n hx hb d_L_law_1108 rfl (lv_at hl 2 rfl) ?_
  refine lv_iload hx hb d_L_law_1109 (lv_at hl 1 rfl) ?_
  refine lv_iconst (v := iZ ((1 : Nat) : Int)) hx hb d_L_law_1111 (by decide) ?_
  refine z_iaddN (u := i) (v := 1) hx hb d_L_law_1112 ?_
  refine z_sld (v := iZ (a)) hx hb hX hbl hbA hS (i + 1) (by omega) ha1 d_L_law_1113 ?_
  refine lv_aload_n hx hb d_L_law_1114 rfl (lv_at hl 2 rfl) ?_
  refine lv_iload hx hb d_L_law_1115 (lv_at hl 1 rfl) ?_
  refine lv_iconst (v := iZ ((2 : Nat) : Int)) hx hb d_L_law_1117 (by decide) ?_
  refine z_iaddN (u := i) (v := 2) hx hb d_L_law_1118 ?_
  refine z_sld (v := iZ (b)) hx hb hX hbl hbA hS (i + 2) (by omega) ha2 d_L_law_1119 ?_
  refine lv_aload_n hx hb d_L_law_1120 rfl (lv_at hl 2 rfl) ?_
  refine lv_iload hx hb d_L_law_1121 (lv_at hl 1 rfl) ?_
  refine lv_iconst (v := iZ ((3 : Nat) : Int)) hx hb d_L_law_1123 (by decide) ?_
  refine z_iaddN (u := i) (v := 3) hx hb d_L_law_1124 ?_
  refine z_sld (v := iZ (c9)) hx hb hX hbl hbA hS (i + 3) (by omega) ha3 d_L_law_1125 ?_
  refine lv_aload_n hx hb d_L_law_1126 rfl (lv_at hl 2 rfl) ?_
  refine lv_iload hx hb d_L_law_1127 (lv_at hl 1 rfl) ?_
  refine lv_iconst (v := iZ ((4 : Nat) : Int)) hx hb d_L_law_1129 (by decide) ?_
  refine z_iaddN (u := i) (v := 4) hx hb d_L_law_1130 ?_
  refine z_sld (v := iZ (d9)) hx hb hX hbl hbA hS (i + 4) (by omega) ha4 d_L_law_1131 ?_
  refine z_ki (z_runV (As := [.int (iZ (a)), .int (iZ (b)), .int (iZ (c9)), .int (iZ (d9))]) (rest := []) zTB Z (k_M_leastx1 hI hM (a := a) (b := b) (c9 := c9) (d9 := d9) (by omega)) ⟨ml_L_151, im_M_least, se_M_least, ini_M, co_M_least⟩ zd_M_least ⟨Nat.le_of_ble_eq_true rfl, Nat.le_of_ble_eq_true rfl⟩ hP hK hD (ci := 5) (q0 := 19) rfl rfl rfl hl.1 rfl (Nat.le_of_ble_eq_true rfl) d_L_law_1132 ⟨hc.1, hc.2⟩) hD hS hA (fun r9 w9 H locs hp9 hP hD hS => ?_)
  obtain ⟨M1, rfl, hc1, hM1⟩ := hp9
  have hP : va_P D classes (wdC ad cI cZ cL J rd pr G K (wdM ad cI cZ cL J rd pr M1 ov)) H := hP
  have hD : va_D A (wdC ad cI cZ cL J rd pr G K (wdM ad cI cZ cL J rd pr M1 ov)) := hD
  refine W.eq (g2 := F0 m 1135 ls [.int (r9)]) rfl ?_
  refine lv_istore (lv' := [(6, .int (r9)), (5, .int (iZ ((1 : Nat) : Int))), (4, .int (iZ ((i : Nat) : Int))), (0, .ref (sb)), (1, .ref (ad 0)), (2, .ref (ad 19)), (3, .ref (ad 33))]) hx hb d_L_law_1135 hl (by decide) rfl (fun ls hl => ?_)
  refine lv_aload_n hx hb d_L_law_1137 rfl (lv_at hl 5 rfl) ?_
  refine z_callVR (As := []) (rest := []) zTB Z (k_M_thrown) ⟨ml_L_101, im_M_thrown, se_M_thrown, ini_M, co_M_thrown⟩ zd_M_thrown ⟨Nat.le_of_ble_eq_true rfl, Nat.le_of_ble_eq_true rfl⟩ hP hK (ci := 5) (q0 := 19) rfl rfl rfl hl.1 rfl (Nat.le_of_ble_eq_true rfl) d_L_law_1138 ⟨hc.1, hc.2⟩ ?_
  refine W.eq (g2 := F0 m 1141 ls [.int (iZ ((M1.1 : Nat) : Int))]) rfl ?_
  refine z_topZ (b := ((1 : Nat) : Int)) (by rw [hc1]) ?_
  refine lv_iload hx hb d_L_law_1141 (lv_at hl 1 rfl) ?_
  refine z_icmp_eq (a := ((1 : Nat) : Int)) (b := ((1 : Nat) : Int)) (tgt := 1148) hx hb (by omega) d_L_law_1143 (by decide) (fun q1143 => ?_) (fun q1143 => ?_)
  · skip
    refine lv_iload hx hb d_L_law_1148 (lv_at hl 1 rfl) ?_
    refine z_if_ne (a := ((1 : Nat) : Int)) (tgt := 1165) hx hb (by omega) d_L_law_1150 (by decide) (fun q1150 => ?_) (fun q1150 => ?_)
    · skip
      refine lv_goto (tgt := 1598) hx hb d_L_law_1165 (by decide) ?_
      exact kk J _ _ _ _ _ _ H locs ls ⟨hI, hM1, hR, hpq⟩ hP hD hS (lv_sub hl [2, 3, 4, 5, 6] rfl)
    · skip
      exfalso; omega
  · skip
    exfalso; omega

set_option maxHeartbeats 4000000 in
set_option maxRecDepth 100000 in
theorem lf_least_x4 {p : Program} {l : Launch} {e : Env} {s : State} {m : MethodId} {below : List Frame} {meth : Method} {c : Code} {Q : State → Prop} {sb L : Nat} {xs : Nat → Int32} {D : va_G} {A : Nat → Prop} {ad : Nat → Nat} {cI cZ cL : ClassId} {J : SJ} {rd : Nat → Int} {pr : Nat → Nat} {G : SH} {K : SK} {M : SM} {ov : Nat → Int64} {H : Heap} {locs : List Loc} {cells slots i : Nat} {ls : Array Slot} (X : LX p l s m meth c sb L xs D cI cZ cL A) (hLI : LI J rd pr M) (hi : i + 4 < L) (hc : cells + 1 ≤ 1061 ∧ slots + 6 ≤ 9679) {a b c9 d9 : Int} (h : 1 ≤ d9 ∧ d9 ≤ 1000 ∧ 0 ≤ c9 ∧ c9 ≤ d9 ∧ 1 ≤ a ∧ a ≤ 16 ∧ z32 b ∧ (b < 1 ∨ 16 < b)) (ha1 : xs (i + 1) = iZ (a)) (ha2 : xs (i + 2) = iZ (b)) (ha3 : xs (i + 3) = iZ (c9)) (ha4 : xs (i + 4) = iZ (d9)) (hP : va_P D classes (wdC ad cI cZ cL J rd pr G K (wdM ad cI cZ cL J rd pr M ov)) H) (hD : va_D A (wdC ad cI cZ cL J rd pr G K (wdM ad cI cZ cL J rd pr M ov))) (hS : va_S A s.heap H locs) (hl : lv_has ls 8 (lwL ad sb i)) (kk : LK p l e s m below meth c Q sb D A ad cI cZ cL i (cells + 1) (slots + 6)) : W p l e room_1 s m #[Value.ref sb] below meth c H locs cells slots Q (F0 m 1076 ls []) := by
  obtain ⟨hl0, Z, hX, hbl, hK, hA, hbA, hTT, hSt, hL⟩ := X
  obtain ⟨hI, hM, hR, hpq⟩ := hLI
  obtain ⟨hx, hb, hr, hml, hown, hts, hE, hlocks⟩ := id Z
  have hn32 := hI.1
  have hk32 := hI.2.1
  have hl : lv_has ls 8 [(4, .int (iZ ((i : Nat) : Int))), (0, .ref (sb)), (1, .ref (ad 0)), (2, .ref (ad 19)), (3, .ref (ad 33))] := hl
  refine lv_aload_n hx hb d_L_law_1076 rfl (lv_at hl 2 rfl) ?_
  refine lv_aload_n hx hb d_L_law_1077 rfl (lv_at hl 1 rfl) ?_
  refine lv_iload hx hb d_L_law_1078 (lv_at hl 0 rfl) ?_
  refine lv_iconst (v := iZ ((1 : Nat) : Int)) hx hb d_L_law_1080 (by decide) ?_
  refine z_iaddN (u := i) (v := 1) hx hb d_L_law_1081 ?_
  refine z_sld (v := iZ (a)) hx hb hX hbl hbA hS (i + 1) (by omega) ha1 d_L_law_1082 ?_
  refine lv_aload_n hx hb d_L_law_1083 rfl (lv_at hl 1 rfl) ?_
  refine lv_iload hx hb d_L_law_1084 (lv_at hl 0 rfl) ?_
  refine lv_iconst (v := iZ ((2 : Nat) : Int)) hx hb d_L_law_1086 (by decide) ?_
  refine z_iaddN (u := i) (v := 2) hx hb d_L_law_1087 ?_
  refine z_sld (v := iZ (b)) hx hb hX hbl hbA hS (i + 2) (by omega) ha2 d_L_law_1088 ?_
  refine lv_aload_n hx hb d_L_law_1089 rfl (lv_at hl 1 rfl) ?_
  refine lv_iload hx hb d_L_law_1090 (lv_at hl 0 rfl) ?_
  refine lv_iconst (v := iZ ((3 : Nat) : Int)) hx hb d_L_law_1092 (by decide) ?_
  refine z_iaddN (u := i) (v := 3) hx hb d_L_law_1093 ?_
  refine z_sld (v := iZ (c9)) hx hb hX hbl hbA hS (i + 3) (by omega) ha3 d_L_law_1094 ?_
  refine lv_aload_n hx hb d_L_law_1095 rfl (lv_at hl 1 rfl) ?_
  refine lv_iload hx hb d_L_law_1096 (lv_at hl 0 rfl) ?_
  refine lv_iconst (v := iZ ((4 : Nat) : Int)) hx hb d_L_law_1098 (by decide) ?_
  refine z_iaddN (u := i) (v := 4) hx hb d_L_law_1099 ?_
  refine z_sld (v := iZ (d9)) hx hb hX hbl hbA hS (i + 4) (by omega) ha4 d_L_law_1100 ?_
  refine lv_aload_n hx hb d_L_law_1101 rfl (lv_at hl 4 rfl) ?_
  refine z_kiW (z_runSW (As := [.ref (ad 0), .int (iZ (a)), .int (iZ (b)), .int (iZ (c9)), .int (iZ (d9)), .ref (ad 33)]) (rest := []) Z (k_L_leastx4 hl0 hI (a := a) (b := b) (c9 := c9) (d9 := d9) h) ⟨ml_L_149, sm_L_least, ini_L, co_L_least⟩ zd_L_least ⟨Nat.le_of_ble_eq_true rfl, Nat.le_of_ble_eq_true rfl⟩ hP hK hD (hTT _ _ hS) hSt hl.1 rfl (Nat.le_of_ble_eq_true rfl) d_L_law_1102 ⟨hc.1, hc.2⟩) hD hS hA (fun r9 w9 H locs hp9 hP hD hS => ?_)
  obtain ⟨rfl, rfl⟩ := hp9
  have hP : va_P D classes (wdC ad cI cZ cL J rd pr G K (wdM ad cI cZ cL J rd pr M ov)) H := hP
  have hD : va_D A (wdC ad cI cZ cL J rd pr G K (wdM ad cI cZ cL J rd pr M ov)) := hD
  refine W.eq (g2 := F0 m 1105 ls [.int (iZ ((1 : Nat) : Int))]) rfl ?_
  refine lv_istore (lv' := [(5, .int (iZ ((1 : Nat) : Int))), (4, .int (iZ ((i : Nat) : Int))), (0, .ref (sb)), (1, .ref (ad 0)), (2, .ref (ad 19)), (3, .ref (ad 33))]) hx hb d_L_law_1105 hl (by decide) rfl (fun ls hl => ?_)
  refine lv_aload_n hx hb d_L_law_1107 rfl (lv_at hl 4 rfl) ?_
  refine lv_aload_n hx hb d_L_law_1108 rfl (lv_at hl 2 rfl) ?_
  refine lv_iload hx hb d_L_law_1109 (lv_at hl 1 rfl) ?_
  refine lv_iconst (v := iZ ((1 : Nat) : Int)) hx hb d_L_law_1111 (by decide) ?_
  refine z_iaddN (u := i) (v := 1) hx hb d_L_law_1112 ?_
  refine z_sld (v := iZ (a)) hx hb hX hbl hbA hS (i + 1) (by omega) ha1 d_L_law_1113 ?_
  refine lv_aload_n hx hb d_L_law_1114 rfl (lv_at hl 2 rfl) ?_
  refine lv_iload hx hb d_L_law_1115 (lv_at hl 1 rfl) ?_
  refine lv_iconst (v := iZ ((2 : Nat) : Int)) hx hb d_L_law_1117 (by decide) ?_
  refine z_iaddN (u := i) (v := 2) hx hb d_L_law_1118 ?_
  refine z_sld (v := iZ (b)) hx hb hX hbl hbA hS (i + 2) (by omega) ha2 d_L_law_1119 ?_
  refine lv_aload_n hx hb d_L_law_1120 rfl (lv_at hl 2 rfl) ?_
  refine lv_iload hx hb d_L_law_1121 (lv_at hl 1 rfl) ?_
  refine lv_iconst (v := iZ ((3 : Nat) : Int)) hx hb d_L_law_1123 (by decide) ?_
  refine z_iaddN (u := i) (v := 3) hx hb d_L_law_1124 ?_
  refine z_sld (v := iZ (c9)) hx hb hX hbl hbA hS (i + 3) (by omega) ha3 d_L_law_1125 ?_
  refine lv_aload_n hx hb d_L_law_1126 rfl (lv_at hl 2 rfl) ?_
  refine lv_iload hx hb d_L_law_1127 (lv_at hl 1 rfl) ?_
  refine lv_iconst (v := iZ ((4 : Nat) : Int)) hx hb d_L_law_1129 (by decide) ?_
  refine z_iaddN (u := i) (v := 4) hx hb d_L_law_1130 ?_
  refine z_sld (v := iZ (d9)) hx hb hX hbl hbA hS (i + 4) (by omega) ha4 d_L_law_1131 ?_
  refine z_ki (z_runV (As := [.int (iZ (a)), .int (iZ (b)), .int (iZ (c9)), .int (iZ (d9))]) (rest := []) zTB Z (k_M_leastx1 hI hM (a := a) (b := b) (c9 := c9) (d9 := d9) (by omega)) ⟨ml_L_151, im_M_least, se_M_least, ini_M, co_M_least⟩ zd_M_least ⟨Nat.le_of_ble_eq_true rfl, Nat.le_of_ble_eq_true rfl⟩ hP hK hD (ci := 5) (q0 := 19) rfl rfl rfl hl.1 rfl (Nat.le_of_ble_eq_true rfl) d_L_law_1132 ⟨hc.1, hc.2⟩) hD hS hA (fun r9 w9 H locs hp9 hP hD hS => ?_)
  obtain ⟨M1, rfl, hc1, hM1⟩ := hp9
  have hP : va_P D classes (wdC ad cI cZ cL J rd pr G K (wdM ad cI cZ cL J rd pr M1 ov)) H := hP
  have hD : va_D A (wdC ad cI cZ cL J rd pr G K (wdM ad cI cZ cL J rd pr M1 ov)) := hD
  refine W.eq (g2 := F0 m 1135 ls [.int (r9)]) rfl ?_
  refine lv_istore (lv' := [(6, .int (r9)), (5, .int (iZ ((1 : Nat) : Int))), (4, .int (iZ ((i : Nat) : Int))), (0, .ref (sb)), (1, .ref (ad 0)), (2, .ref (ad 19)), (3, .ref (ad 33))]) hx hb d_L_law_1135 hl (by decide) rfl (fun ls hl => ?_)
  refine lv_aload_n hx hb d_L_law_1137 rfl (lv_at hl 5 rfl) ?_
  refine z_callVR (As := []) (rest := []) zTB Z (k_M_thrown) ⟨ml_L_101, im_M_thrown, se_M_thrown, ini_M, co_M_thrown⟩ zd_M_thrown ⟨Nat.le_of_ble_eq_true rfl, Nat.le_of_ble_eq_true rfl⟩ hP hK (ci := 5) (q0 := 19) rfl rfl rfl hl.1 rfl (Nat.le_of_ble_eq_true rfl) d_L_law_1138 ⟨hc.1, hc.2⟩ ?_
  refine W.eq (g2 := F0 m 1141 ls [.int (iZ ((M1.1 : Nat) : Int))]) rfl ?_
  refine z_topZ (b := ((1 : Nat) : Int)) (by rw [hc1]) ?_
  refine lv_iload hx hb d_L_law_1141 (lv_at hl 1 rfl) ?_
  refine z_icmp_eq (a := ((1 : Nat) : Int)) (b := ((1 : Nat) : Int)) (tgt := 1148) hx hb (by omega) d_L_law_1143 (by decide) (fun q1143 => ?_) (fun q1143 => ?_)
  · skip
    refine lv_iload hx hb d_L_law_1148 (lv_at hl 1 rfl) ?_
    refine z_if_ne (a := ((1 : Nat) : Int)) (tgt := 1165) hx hb (by omega) d_L_law_1150 (by decide) (fun q1150 => ?_) (fun q1150 => ?_)
    · skip
      refine lv_goto (tgt := 1598) hx hb d_L_law_1165 (by decide) ?_
      exact kk J _ _ _ _ _ _ H locs ls ⟨hI, hM1, hR, hpq⟩ hP hD hS (lv_sub hl [2, 3, 4, 5, 6] rfl)
    · skip
      exfalso; omega
  · skip
    exfalso; omega

set_option maxHeartbeats 4000000 in
set_option maxRecDepth 100000 in
theorem lf_least_0 {p : Program} {l : Launch} {e : Env} {s : State} {m : MethodId} {below : List Frame} {meth : Method} {c : Code} {Q : State → Prop} {sb L : Nat} {xs : Nat → Int32} {D : va_G} {A : Nat → Prop} {ad : Nat → Nat} {cI cZ cL : ClassId} {J : SJ} {rd : Nat → Int} {pr : Nat → Nat} {G : SH} {K : SK} {M : SM} {ov : Nat → Int64} {H : Heap} {locs : List Loc} {cells slots i : Nat} {ls : Array Slot} (X : LX p l s m meth c sb L xs D cI cZ cL A) (hLI : LI J rd pr M) (hi : i + 4 < L) (hc : cells + 1 ≤ 1061 ∧ slots + 6 ≤ 9679) {up lo ab be : Nat} (hup : 1 ≤ up ∧ up ≤ 16) (hlo : 1 ≤ lo ∧ lo ≤ 16) (hbe : 1 ≤ be ∧ be ≤ 1000) (hab : ab ≤ be) (ha1 : xs (i + 1) = iZ ((up : Nat) : Int)) (ha2 : xs (i + 2) = iZ ((lo : Nat) : Int)) (ha3 : xs (i + 3) = iZ ((ab : Nat) : Int)) (ha4 : xs (i + 4) = iZ ((be : Nat) : Int)) (hP : va_P D classes (wdC ad cI cZ cL J rd pr G K (wdM ad cI cZ cL J rd pr M ov)) H) (hD : va_D A (wdC ad cI cZ cL J rd pr G K (wdM ad cI cZ cL J rd pr M ov))) (hS : va_S A s.heap H locs) (hl : lv_has ls 8 (lwL ad sb i)) (kk : LK p l e s m below meth c Q sb D A ad cI cZ cL i (cells + 1) (slots + 6)) : W p l e room_1 s m #[Value.ref sb] below meth c H locs cells slots Q (F0 m 1076 ls []) := by
  obtain ⟨hl0, Z, hX, hbl, hK, hA, hbA, hTT, hSt, hL⟩ := X
  obtain ⟨hI, hM, hR, hpq⟩ := hLI
  obtain ⟨hx, hb, hr, hml, hown, hts, hE, hlocks⟩ := id Z
  have hn32 := hI.1
  have hk32 := hI.2.1
  have hl : lv_has ls 8 [(4, .int (iZ ((i : Nat) : Int))), (0, .ref (sb)), (1, .ref (ad 0)), (2, .ref (ad 19)), (3, .ref (ad 33))] := hl
  refine lv_aload_n hx hb d_L_law_1076 rfl (lv_at hl 2 rfl) ?_
  refine lv_aload_n hx hb d_L_law_1077 rfl (lv_at hl 1 rfl) ?_
  refine lv_iload hx hb d_L_law_1078 (lv_at hl 0 rfl) ?_
  refine lv_iconst (v := iZ ((1 : Nat) : Int)) hx hb d_L_law_1080 (by decide) ?_
  refine z_iaddN (u := i) (v := 1) hx hb d_L_law_1081 ?_
  refine z_sld (v := iZ ((up : Nat) : Int)) hx hb hX hbl hbA hS (i + 1) (by omega) ha1 d_L_law_1082 ?_
  refine lv_aload_n hx hb d_L_law_1083 rfl (lv_at hl 1 rfl) ?_
  refine lv_iload hx hb d_L_law_1084 (lv_at hl 0 rfl) ?_
  refine lv_iconst (v := iZ ((2 : Nat) : Int)) hx hb d_L_law_1086 (by decide) ?_
  refine z_iaddN (u := i) (v := 2) hx hb d_L_law_1087 ?_
  refine z_sld (v := iZ ((lo : Nat) : Int)) hx hb hX hbl hbA hS (i + 2) (by omega) ha2 d_L_law_1088 ?_
  refine lv_aload_n hx hb d_L_law_1089 rfl (lv_at hl 1 rfl) ?_
  refine lv_iload hx hb d_L_law_1090 (lv_at hl 0 rfl) ?_
  refine lv_iconst (v := iZ ((3 : Nat) : Int)) hx hb d_L_law_1092 (by decide) ?_
  refine z_iaddN (u := i) (v := 3) hx hb d_L_law_1093 ?_
  refine z_sld (v := iZ ((ab : Nat) : Int)) hx hb hX hbl hbA hS (i + 3) (by omega) ha3 d_L_law_1094 ?_
  refine lv_aload_n hx hb d_L_law_1095 rfl (lv_at hl 1 rfl) ?_
  refine lv_iload hx hb d_L_law_1096 (lv_at hl 0 rfl) ?_
  refine lv_iconst (v := iZ ((4 : Nat) : Int)) hx hb d_L_law_1098 (by decide) ?_
  refine z_iaddN (u := i) (v := 4) hx hb d_L_law_1099 ?_
  refine z_sld (v := iZ ((be : Nat) : Int)) hx hb hX hbl hbA hS (i + 4) (by omega) ha4 d_L_law_1100 ?_
  refine lv_aload_n hx hb d_L_law_1101 rfl (lv_at hl 4 rfl) ?_
  refine z_kiW (z_runSW (As := [.ref (ad 0), .int (iZ ((up : Nat) : Int)), .int (iZ ((lo : Nat) : Int)), .int (iZ ((ab : Nat) : Int)), .int (iZ ((be : Nat) : Int)), .ref (ad 33)]) (rest := []) Z (k_L_least0 hI (up := up) (lo := lo) (ab := ab) (be := be) hup hlo hbe hab) ⟨ml_L_149, sm_L_least, ini_L, co_L_least⟩ zd_L_least ⟨Nat.le_of_ble_eq_true rfl, Nat.le_of_ble_eq_true rfl⟩ hP hK hD (hTT _ _ hS) hSt hl.1 rfl (Nat.le_of_ble_eq_true rfl) d_L_law_1102 ⟨hc.1, hc.2⟩) hD hS hA (fun r9 w9 H locs hp9 hP hD hS => ?_)
  obtain ⟨rfl, K2, rfl⟩ := hp9
  have hP : va_P D classes (wdC ad cI cZ cL J rd pr G K2 (wdM ad cI cZ cL J rd pr M (oU ov ((iZ (sLs up lo ab be 41 0)).toInt64)))) H := hP
  have hD : va_D A (wdC ad cI cZ cL J rd pr G K2 (wdM ad cI cZ cL J rd pr M (oU ov ((iZ (sLs up lo ab be 41 0)).toInt64)))) := hD
  refine W.eq (g2 := F0 m 1105 ls [.int (iZ ((0 : Nat) : Int))]) rfl ?_
  refine lv_istore (lv' := [(5, .int (iZ ((0 : Nat) : Int))), (4, .int (iZ ((i : Nat) : Int))), (0, .ref (sb)), (1, .ref (ad 0)), (2, .ref (ad 19)), (3, .ref (ad 33))]) hx hb d_L_law_1105 hl (by decide) rfl (fun ls hl => ?_)
  refine lv_aload_n hx hb d_L_law_1107 rfl (lv_at hl 4 rfl) ?_
  refine lv_aload_n hx hb d_L_law_1108 rfl (lv_at hl 2 rfl) ?_
  refine lv_iload hx hb d_L_law_1109 (lv_at hl 1 rfl) ?_
  refine lv_iconst (v := iZ ((1 : Nat) : Int)) hx hb d_L_law_1111 (by decide) ?_
  refine z_iaddN (u := i) (v := 1) hx hb d_L_law_1112 ?_
  refine z_sld (v := iZ ((up : Nat) : Int)) hx hb hX hbl hbA hS (i + 1) (by omega) ha1 d_L_law_1113 ?_
  refine lv_aload_n hx hb d_L_law_1114 rfl (lv_at hl 2 rfl) ?_
  refine lv_iload hx hb d_L_law_1115 (lv_at hl 1 rfl) ?_
  refine lv_iconst (v := iZ ((2 : Nat) : Int)) hx hb d_L_law_1117 (by decide) ?_
  refine z_iaddN (u := i) (v := 2) hx hb d_L_law_1118 ?_
  refine z_sld (v := iZ ((lo : Nat) : Int)) hx hb hX hbl hbA hS (i + 2) (by omega) ha2 d_L_law_1119 ?_
  refine lv_aload_n hx hb d_L_law_1120 rfl (lv_at hl 2 rfl) ?_
  refine lv_iload hx hb d_L_law_1121 (lv_at hl 1 rfl) ?_
  refine lv_iconst (v := iZ ((3 : Nat) : Int)) hx hb d_L_law_1123 (by decide) ?_
  refine z_iaddN (u := i) (v := 3) hx hb d_L_law_1124 ?_
  refine z_sld (v := iZ ((ab : Nat) : Int)) hx hb hX hbl hbA hS (i + 3) (by omega) ha3 d_L_law_1125 ?_
  refine lv_aload_n hx hb d_L_law_1126 rfl (lv_at hl 2 rfl) ?_
  refine lv_iload hx hb d_L_law_1127 (lv_at hl 1 rfl) ?_
  refine lv_iconst (v := iZ ((4 : Nat) : Int)) hx hb d_L_law_1129 (by decide) ?_
  refine z_iaddN (u := i) (v := 4) hx hb d_L_law_1130 ?_
  refine z_sld (v := iZ ((be : Nat) : Int)) hx hb hX hbl hbA hS (i + 4) (by omega) ha4 d_L_law_1131 ?_
  refine z_ki (z_runV (As := [.int (iZ ((up : Nat) : Int)), .int (iZ ((lo : Nat) : Int)), .int (iZ ((ab : Nat) : Int)), .int (iZ ((be : Nat) : Int))]) (rest := []) zTB Z (k_M_least0 hI hM hup hlo hbe hab) ⟨ml_L_151, im_M_least, se_M_least, ini_M, co_M_least⟩ zd_M_least ⟨Nat.le_of_ble_eq_true rfl, Nat.le_of_ble_eq_true rfl⟩ hP hK hD (ci := 5) (q0 := 19) rfl rfl rfl hl.1 rfl (Nat.le_of_ble_eq_true rfl) d_L_law_1132 ⟨hc.1, hc.2⟩) hD hS hA (fun r9 w9 H locs hp9 hP hD hS => ?_)
  obtain ⟨M1, rfl, rfl, hc1, hM1⟩ := hp9
  have hP : va_P D classes (wdC ad cI cZ cL J rd pr G K2 (wdM ad cI cZ cL J rd pr M1 (oU ov ((iZ (sLs up lo ab be 41 0)).toInt64)))) H := hP
  have hD : va_D A (wdC ad cI cZ cL J rd pr G K2 (wdM ad cI cZ cL J rd pr M1 (oU ov ((iZ (sLs up lo ab be 41 0)).toInt64)))) := hD
  refine W.eq (g2 := F0 m 1135 ls [.int (iZ (sLs up lo ab be 41 0))]) rfl ?_
  refine lv_istore (lv' := [(6, .int (iZ (sLs up lo ab be 41 0))), (5, .int (iZ ((0 : Nat) : Int))), (4, .int (iZ ((i : Nat) : Int))), (0, .ref (sb)), (1, .ref (ad 0)), (2, .ref (ad 19)), (3, .ref (ad 33))]) hx hb d_L_law_1135 hl (by decide) rfl (fun ls hl => ?_)
  refine lv_aload_n hx hb d_L_law_1137 rfl (lv_at hl 5 rfl) ?_
  refine z_callVR (As := []) (rest := []) zTB Z (k_M_thrown) ⟨ml_L_101, im_M_thrown, se_M_thrown, ini_M, co_M_thrown⟩ zd_M_thrown ⟨Nat.le_of_ble_eq_true rfl, Nat.le_of_ble_eq_true rfl⟩ hP hK (ci := 5) (q0 := 19) rfl rfl rfl hl.1 rfl (Nat.le_of_ble_eq_true rfl) d_L_law_1138 ⟨hc.1, hc.2⟩ ?_
  refine W.eq (g2 := F0 m 1141 ls [.int (iZ ((M1.1 : Nat) : Int))]) rfl ?_
  refine z_topZ (b := ((0 : Nat) : Int)) (by rw [hc1]) ?_
  refine lv_iload hx hb d_L_law_1141 (lv_at hl 1 rfl) ?_
  refine z_icmp_eq (a := ((0 : Nat) : Int)) (b := ((0 : Nat) : Int)) (tgt := 1148) hx hb (by omega) d_L_law_1143 (by decide) (fun q1143 => ?_) (fun q1143 => ?_)
  · skip
    refine lv_iload hx hb d_L_law_1148 (lv_at hl 1 rfl) ?_
    refine z_if_ne (a := ((0 : Nat) : Int)) (tgt := 1165) hx hb (by omega) d_L_law_1150 (by decide) (fun q1150 => ?_) (fun q1150 => ?_)
    · skip
      exfalso; omega
    · skip
      refine lv_aload_n hx hb d_L_law_1153 rfl (lv_at hl 6 rfl) ?_
      refine lv_iconst (v := iZ ((0 : Nat) : Int)) hx hb d_L_law_1154 (by decide) ?_
      refine z_old (x := (iZ (sLs up lo ab be 41 0)).toInt64) hx hb hK hP 33 2 rfl rfl d_L_law_1155 ?_
      refine lv_iload hx hb d_L_law_1156 (lv_at hl 0 rfl) ?_
      refine lv_i2l (v := (iZ (sLs up lo ab be 41 0)).toInt64) hx hb d_L_law_1158 rfl ?_
      refine z_lcmpR_eq (tgt := 1165) (pc1 := 1160) (pc4 := 1163) hx hb d_L_law_1159 rfl rfl d_L_law_1160 (by decide) (fun q1159 => ?_) (fun q1159 => ?_)
      · skip
        refine lv_goto (tgt := 1598) hx hb d_L_law_1165 (by decide) ?_
        exact kk J _ _ _ _ _ _ H locs ls ⟨hI, hM1, hR, hpq⟩ hP hD hS (lv_sub hl [2, 3, 4, 5, 6] rfl)
      · skip
        exact absurd rfl q1159
  · skip
    exfalso; omega

set_option maxHeartbeats 4000000 in
set_option maxRecDepth 100000 in
theorem lf_mean_x1 {p : Program} {l : Launch} {e : Env} {s : State} {m : MethodId} {below : List Frame} {meth : Method} {c : Code} {Q : State → Prop} {sb L : Nat} {xs : Nat → Int32} {D : va_G} {A : Nat → Prop} {ad : Nat → Nat} {cI cZ cL : ClassId} {J : SJ} {rd : Nat → Int} {pr : Nat → Nat} {G : SH} {K : SK} {M : SM} {ov : Nat → Int64} {H : Heap} {locs : List Loc} {cells slots i : Nat} {ls : Array Slot} (X : LX p l s m meth c sb L xs D cI cZ cL A) (hLI : LI J rd pr M) (hi : i + 4 < L) (hc : cells + 1 ≤ 1061 ∧ slots + 6 ≤ 9679) {a b c9 : Int} (h : z32 a ∧ (a < 0 ∨ 4 ≤ a)) (hz : z32 b ∧ z32 c9) (ha1 : xs (i + 1) = iZ (a)) (ha2 : xs (i + 2) = iZ (b)) (ha3 : xs (i + 3) = iZ (c9)) (hP : va_P D classes (wdC ad cI cZ cL J rd pr G K (wdM ad cI cZ cL J rd pr M ov)) H) (hD : va_D A (wdC ad cI cZ cL J rd pr G K (wdM ad cI cZ cL J rd pr M ov))) (hS : va_S A s.heap H locs) (hl : lv_has ls 8 (lwL ad sb i)) (kk : LK p l e s m below meth c Q sb D A ad cI cZ cL i (cells + 1) (slots + 6)) : W p l e room_1 s m #[Value.ref sb] below meth c H locs cells slots Q (F0 m 1168 ls []) := by
  obtain ⟨hl0, Z, hX, hbl, hK, hA, hbA, hTT, hSt, hL⟩ := X
  obtain ⟨hI, hM, hR, hpq⟩ := hLI
  obtain ⟨hx, hb, hr, hml, hown, hts, hE, hlocks⟩ := id Z
  have hn32 := hI.1
  have hk32 := hI.2.1
  have hl : lv_has ls 8 [(4, .int (iZ ((i : Nat) : Int))), (0, .ref (sb)), (1, .ref (ad 0)), (2, .ref (ad 19)), (3, .ref (ad 33))] := hl
  refine lv_aload_n hx hb d_L_law_1168 rfl (lv_at hl 2 rfl) ?_
  refine lv_aload_n hx hb d_L_law_1169 rfl (lv_at hl 1 rfl) ?_
  refine lv_iload hx hb d_L_law_1170 (lv_at hl 0 rfl) ?_
  refine lv_iconst (v := iZ ((1 : Nat) : Int)) hx hb d_L_law_1172 (by decide) ?_
  refine z_iaddN (u := i) (v := 1) hx hb d_L_law_1173 ?_
  refine z_sld (v := iZ (a)) hx hb hX hbl hbA hS (i + 1) (by omega) ha1 d_L_law_1174 ?_
  refine lv_aload_n hx hb d_L_law_1175 rfl (lv_at hl 1 rfl) ?_
  refine lv_iload hx hb d_L_law_1176 (lv_at hl 0 rfl) ?_
  refine lv_iconst (v := iZ ((2 : Nat) : Int)) hx hb d_L_law_1178 (by decide) ?_
  refine z_iaddN (u := i) (v := 2) hx hb d_L_law_1179 ?_
  refine z_sld (v := iZ (b)) hx hb hX hbl hbA hS (i + 2) (by omega) ha2 d_L_law_1180 ?_
  refine lv_aload_n hx hb d_L_law_1181 rfl (lv_at hl 1 rfl) ?_
  refine lv_iload hx hb d_L_law_1182 (lv_at hl 0 rfl) ?_
  refine lv_iconst (v := iZ ((3 : Nat) : Int)) hx hb d_L_law_1184 (by decide) ?_
  refine z_iaddN (u := i) (v := 3) hx hb d_L_law_1185 ?_
  refine z_sld (v := iZ (c9)) hx hb hX hbl hbA hS (i + 3) (by omega) ha3 d_L_law_1186 ?_
  refine lv_aload_n hx hb d_L_law_1187 rfl (lv_at hl 4 rfl) ?_
  refine z_kiW (z_runSW (As := [.ref (ad 0), .int (iZ (a)), .int (iZ (b)), .int (iZ (c9)), .ref (ad 33)]) (rest := []) Z (k_L_meanx1 hl0 hI (a := a) (b := b) (c9 := c9) h) ⟨ml_L_152, sm_L_mean, ini_L, co_L_mean⟩ zd_L_mean ⟨Nat.le_of_ble_eq_true rfl, Nat.le_of_ble_eq_true rfl⟩ hP hK hD (hTT _ _ hS) hSt hl.1 rfl (Nat.le_of_ble_eq_true rfl) d_L_law_1188 ⟨hc.1, hc.2⟩) hD hS hA (fun r9 w9 H locs hp9 hP hD hS => ?_)
  obtain ⟨rfl, rfl⟩ := hp9
  have hP : va_P D classes (wdC ad cI cZ cL J rd pr G K (wdM ad cI cZ cL J rd pr M ov)) H := hP
  have hD : va_D A (wdC ad cI cZ cL J rd pr G K (wdM ad cI cZ cL J rd pr M ov)) := hD
  refine W.eq (g2 := F0 m 1191 ls [.int (iZ ((1 : Nat) : Int))]) rfl ?_
  refine lv_istore (lv' := [(5, .int (iZ ((1 : Nat) : Int))), (4, .int (iZ ((i : Nat) : Int))), (0, .ref (sb)), (1, .ref (ad 0)), (2, .ref (ad 19)), (3, .ref (ad 33))]) hx hb d_L_law_1191 hl (by decide) rfl (fun ls hl => ?_)
  refine lv_aload_n hx hb d_L_law_1193 rfl (lv_at hl 4 rfl) ?_
  refine lv_aload_n hx hb d_L_law_1194 rfl (lv_at hl 2 rfl) ?_
  refine lv_iload hx hb d_L_law_1195 (lv_at hl 1 rfl) ?_
  refine lv_iconst (v := iZ ((1 : Nat) : Int)) hx hb d_L_law_1197 (by decide) ?_
  refine z_iaddN (u := i) (v := 1) hx hb d_L_law_1198 ?_
  refine z_sld (v := iZ (a)) hx hb hX hbl hbA hS (i + 1) (by omega) ha1 d_L_law_1199 ?_
  refine lv_aload_n hx hb d_L_law_1200 rfl (lv_at hl 2 rfl) ?_
  refine lv_iload hx hb d_L_law_1201 (lv_at hl 1 rfl) ?_
  refine lv_iconst (v := iZ ((2 : Nat) : Int)) hx hb d_L_law_1203 (by decide) ?_
  refine z_iaddN (u := i) (v := 2) hx hb d_L_law_1204 ?_
  refine z_sld (v := iZ (b)) hx hb hX hbl hbA hS (i + 2) (by omega) ha2 d_L_law_1205 ?_
  refine lv_aload_n hx hb d_L_law_1206 rfl (lv_at hl 2 rfl) ?_
  refine lv_iload hx hb d_L_law_1207 (lv_at hl 1 rfl) ?_
  refine lv_iconst (v := iZ ((3 : Nat) : Int)) hx hb d_L_law_1209 (by decide) ?_
  refine z_iaddN (u := i) (v := 3) hx hb d_L_law_1210 ?_
  refine z_sld (v := iZ (c9)) hx hb hX hbl hbA hS (i + 3) (by omega) ha3 d_L_law_1211 ?_
  refine z_kl (z_runV (As := [.int (iZ (a)), .int (iZ (b)), .int (iZ (c9))]) (rest := []) zTB Z (k_M_meanx1 hI hM (a := a) (b := b) (c9 := c9) (by omega)) ⟨ml_L_154, im_M_mean, se_M_mean, ini_M, co_M_mean⟩ zd_M_mean ⟨Nat.le_of_ble_eq_true rfl, Nat.le_of_ble_eq_true rfl⟩ hP hK hD (ci := 5) (q0 := 19) rfl rfl rfl hl.1 rfl (Nat.le_of_ble_eq_true rfl) d_L_law_1212 ⟨hc.1, hc.2⟩) hD hS hA (fun r9 w9 H locs hp9 hP hD hS => ?_)
  obtain ⟨M1, rfl, hc1, hM1⟩ := hp9
  have hP : va_P D classes (wdC ad cI cZ cL J rd pr G K (wdM ad cI cZ cL J rd pr M1 ov)) H := hP
  have hD : va_D A (wdC ad cI cZ cL J rd pr G K (wdM ad cI cZ cL J rd pr M1 ov)) := hD
  refine W.eq (g2 := F0 m 1215 ls [.long (r9)]) rfl ?_
  refine lv_lstore (lv' := [(6, .long (r9)), (5, .int (iZ ((1 : Nat) : Int))), (4, .int (iZ ((i : Nat) : Int))), (0, .ref (sb)), (1, .ref (ad 0)), (2, .ref (ad 19)), (3, .ref (ad 33))]) hx hb d_L_law_1215 hl (by decide) rfl (fun ls hl => ?_)
  refine lv_aload_n hx hb d_L_law_1217 rfl (lv_at hl 5 rfl) ?_
  refine z_callVR (As := []) (rest := []) zTB Z (k_M_thrown) ⟨ml_L_101, im_M_thrown, se_M_thrown, ini_M, co_M_thrown⟩ zd_M_thrown ⟨Nat.le_of_ble_eq_true rfl, Nat.le_of_ble_eq_true rfl⟩ hP hK (ci := 5) (q0 := 19) rfl rfl rfl hl.1 rfl (Nat.le_of_ble_eq_true rfl) d_L_law_1218 ⟨hc.1, hc.2⟩ ?_
  refine W.eq (g2 := F0 m 1221 ls [.int (iZ ((M1.1 : Nat) : Int))]) rfl ?_
  refine z_topZ (b := ((1 : Nat) : Int)) (by rw [hc1]) ?_
  refine lv_iload hx hb d_L_law_1221 (lv_at hl 1 rfl) ?_
  refine z_icmp_eq (a := ((1 : Nat) : Int)) (b := ((1 : Nat) : Int)) (tgt := 1228) hx hb (by omega) d_L_law_1223 (by decide) (fun q1223 => ?_) (fun q1223 => ?_)
  · skip
    refine lv_iload hx hb d_L_law_1228 (lv_at hl 1 rfl) ?_
    refine z_if_ne (a := ((1 : Nat) : Int)) (tgt := 1244) hx hb (by omega) d_L_law_1230 (by decide) (fun q1230 => ?_) (fun q1230 => ?_)
    · skip
      refine lv_goto (tgt := 1598) hx hb d_L_law_1244 (by decide) ?_
      exact kk J _ _ _ _ _ _ H locs ls ⟨hI, hM1, hR, hpq⟩ hP hD hS (lv_sub hl [2, 3, 4, 5, 6] rfl)
    · skip
      exfalso; omega
  · skip
    exfalso; omega

set_option maxHeartbeats 4000000 in
set_option maxRecDepth 100000 in
theorem lf_mean_x2 {p : Program} {l : Launch} {e : Env} {s : State} {m : MethodId} {below : List Frame} {meth : Method} {c : Code} {Q : State → Prop} {sb L : Nat} {xs : Nat → Int32} {D : va_G} {A : Nat → Prop} {ad : Nat → Nat} {cI cZ cL : ClassId} {J : SJ} {rd : Nat → Int} {pr : Nat → Nat} {G : SH} {K : SK} {M : SM} {ov : Nat → Int64} {H : Heap} {locs : List Loc} {cells slots i : Nat} {ls : Array Slot} (X : LX p l s m meth c sb L xs D cI cZ cL A) (hLI : LI J rd pr M) (hi : i + 4 < L) (hc : cells + 1 ≤ 1061 ∧ slots + 6 ≤ 9679) {sh : Nat} {b c9 : Int} (hsh : sh < 4) (h : z32 b ∧ (b < 0 ∨ 3 ≤ b)) (hz : z32 c9) (ha1 : xs (i + 1) = iZ ((sh : Nat) : Int)) (ha2 : xs (i + 2) = iZ (b)) (ha3 : xs (i + 3) = iZ (c9)) (hP : va_P D classes (wdC ad cI cZ cL J rd pr G K (wdM ad cI cZ cL J rd pr M ov)) H) (hD : va_D A (wdC ad cI cZ cL J rd pr G K (wdM ad cI cZ cL J rd pr M ov))) (hS : va_S A s.heap H locs) (hl : lv_has ls 8 (lwL ad sb i)) (kk : LK p l e s m below meth c Q sb D A ad cI cZ cL i (cells + 1) (slots + 6)) : W p l e room_1 s m #[Value.ref sb] below meth c H locs cells slots Q (F0 m 1168 ls []) := by
  obtain ⟨hl0, Z, hX, hbl, hK, hA, hbA, hTT, hSt, hL⟩ := X
  obtain ⟨hI, hM, hR, hpq⟩ := hLI
  obtain ⟨hx, hb, hr, hml, hown, hts, hE, hlocks⟩ := id Z
  have hn32 := hI.1
  have hk32 := hI.2.1
  have hl : lv_has ls 8 [(4, .int (iZ ((i : Nat) : Int))), (0, .ref (sb)), (1, .ref (ad 0)), (2, .ref (ad 19)), (3, .ref (ad 33))] := hl
  refine lv_aload_n hx hb d_L_law_1168 rfl (lv_at hl 2 rfl) ?_
  refine lv_aload_n hx hb d_L_law_1169 rfl (lv_at hl 1 rfl) ?_
  refine lv_iload hx hb d_L_law_1170 (lv_at hl 0 rfl) ?_
  refine lv_iconst (v := iZ ((1 : Nat) : Int)) hx hb d_L_law_1172 (by decide) ?_
  refine z_iaddN (u := i) (v := 1) hx hb d_L_law_1173 ?_
  refine z_sld (v := iZ ((sh : Nat) : Int)) hx hb hX hbl hbA hS (i + 1) (by omega) ha1 d_L_law_1174 ?_
  refine lv_aload_n hx hb d_L_law_1175 rfl (lv_at hl 1 rfl) ?_
  refine lv_iload hx hb d_L_law_1176 (lv_at hl 0 rfl) ?_
  refine lv_iconst (v := iZ ((2 : Nat) : Int)) hx hb d_L_law_1178 (by decide) ?_
  refine z_iaddN (u := i) (v := 2) hx hb d_L_law_1179 ?_
  refine z_sld (v := iZ (b)) hx hb hX hbl hbA hS (i + 2) (by omega) ha2 d_L_law_1180 ?_
  refine lv_aload_n hx hb d_L_law_1181 rfl (lv_at hl 1 rfl) ?_
  refine lv_iload hx hb d_L_law_1182 (lv_at hl 0 rfl) ?_
  refine lv_iconst (v := iZ ((3 : Nat) : Int)) hx hb d_L_law_1184 (by decide) ?_
  refine z_iaddN (u := i) (v := 3) hx hb d_L_law_1185 ?_
  refine z_sld (v := iZ (c9)) hx hb hX hbl hbA hS (i + 3) (by omega) ha3 d_L_law_1186 ?_
  refine lv_aload_n hx hb d_L_law_1187 rfl (lv_at hl 4 rfl) ?_
  refine z_kiW (z_runSW (As := [.ref (ad 0), .int (iZ ((sh : Nat) : Int)), .int (iZ (b)), .int (iZ (c9)), .ref (ad 33)]) (rest := []) Z (k_L_meanx2 hl0 hI (sh := sh) (b := b) (c9 := c9) hsh h) ⟨ml_L_152, sm_L_mean, ini_L, co_L_mean⟩ zd_L_mean ⟨Nat.le_of_ble_eq_true rfl, Nat.le_of_ble_eq_true rfl⟩ hP hK hD (hTT _ _ hS) hSt hl.1 rfl (Nat.le_of_ble_eq_true rfl) d_L_law_1188 ⟨hc.1, hc.2⟩) hD hS hA (fun r9 w9 H locs hp9 hP hD hS => ?_)
  obtain ⟨rfl, rfl⟩ := hp9
  have hP : va_P D classes (wdC ad cI cZ cL J rd pr G K (wdM ad cI cZ cL J rd pr M ov)) H := hP
  have hD : va_D A (wdC ad cI cZ cL J rd pr G K (wdM ad cI cZ cL J rd pr M ov)) := hD
  refine W.eq (g2 := F0 m 1191 ls [.int (iZ ((1 : Nat) : Int))]) rfl ?_
  refine lv_istore (lv' := [(5, .int (iZ ((1 : Nat) : Int))), (4, .int (iZ ((i : Nat) : Int))), (0, .ref (sb)), (1, .ref (ad 0)), (2, .ref (ad 19)), (3, .ref (ad 33))]) hx hb d_L_law_1191 hl (by decide) rfl (fun ls hl => ?_)
  refine lv_aload_n hx hb d_L_law_1193 rfl (lv_at hl 4 rfl) ?_
  refine lv_aload_n hx hb d_L_law_1194 rfl (lv_at hl 2 rfl) ?_
  refine lv_iload hx hb d_L_law_1195 (lv_at hl 1 rfl) ?_
  refine lv_iconst (v := iZ ((1 : Nat) : Int)) hx hb d_L_law_1197 (by decide) ?_
  refine z_iaddN (u := i) (v := 1) hx hb d_L_law_1198 ?_
  refine z_sld (v := iZ ((sh : Nat) : Int)) hx hb hX hbl hbA hS (i + 1) (by omega) ha1 d_L_law_1199 ?_
  refine lv_aload_n hx hb d_L_law_1200 rfl (lv_at hl 2 rfl) ?_
  refine lv_iload hx hb d_L_law_1201 (lv_at hl 1 rfl) ?_
  refine lv_iconst (v := iZ ((2 : Nat) : Int)) hx hb d_L_law_1203 (by decide) ?_
  refine z_iaddN (u := i) (v := 2) hx hb d_L_law_1204 ?_
  refine z_sld (v := iZ (b)) hx hb hX hbl hbA hS (i + 2) (by omega) ha2 d_L_law_1205 ?_
  refine lv_aload_n hx hb d_L_law_1206 rfl (lv_at hl 2 rfl) ?_
  refine lv_iload hx hb d_L_law_1207 (lv_at hl 1 rfl) ?_
  refine lv_iconst (v := iZ ((3 : Nat) : Int)) hx hb d_L_law_1209 (by decide) ?_
  refine z_iaddN (u := i) (v := 3) hx hb d_L_law_1210 ?_
  refine z_sld (v := iZ (c9)) hx hb hX hbl hbA hS (i + 3) (by omega) ha3 d_L_law_1211 ?_
  refine z_kl (z_runV (As := [.int (iZ ((sh : Nat) : Int)), .int (iZ (b)), .int (iZ (c9))]) (rest := []) zTB Z (k_M_meanx1 hI hM (a := ((sh : Nat) : Int)) (b := b) (c9 := c9) (by omega)) ⟨ml_L_154, im_M_mean, se_M_mean, ini_M, co_M_mean⟩ zd_M_mean ⟨Nat.le_of_ble_eq_true rfl, Nat.le_of_ble_eq_true rfl⟩ hP hK hD (ci := 5) (q0 := 19) rfl rfl rfl hl.1 rfl (Nat.le_of_ble_eq_true rfl) d_L_law_1212 ⟨hc.1, hc.2⟩) hD hS hA (fun r9 w9 H locs hp9 hP hD hS => ?_)
  obtain ⟨M1, rfl, hc1, hM1⟩ := hp9
  have hP : va_P D classes (wdC ad cI cZ cL J rd pr G K (wdM ad cI cZ cL J rd pr M1 ov)) H := hP
  have hD : va_D A (wdC ad cI cZ cL J rd pr G K (wdM ad cI cZ cL J rd pr M1 ov)) := hD
  refine W.eq (g2 := F0 m 1215 ls [.long (r9)]) rfl ?_
  refine lv_lstore (lv' := [(6, .long (r9)), (5, .int (iZ ((1 : Nat) : Int))), (4, .int (iZ ((i : Nat) : Int))), (0, .ref (sb)), (1, .ref (ad 0)), (2, .ref (ad 19)), (3, .ref (ad 33))]) hx hb d_L_law_1215 hl (by decide) rfl (fun ls hl => ?_)
  refine lv_aload_n hx hb d_L_law_1217 rfl (lv_at hl 5 rfl) ?_
  refine z_callVR (As := []) (rest := []) zTB Z (k_M_thrown) ⟨ml_L_101, im_M_thrown, se_M_thrown, ini_M, co_M_thrown⟩ zd_M_thrown ⟨Nat.le_of_ble_eq_true rfl, Nat.le_of_ble_eq_true rfl⟩ hP hK (ci := 5) (q0 := 19) rfl rfl rfl hl.1 rfl (Nat.le_of_ble_eq_true rfl) d_L_law_1218 ⟨hc.1, hc.2⟩ ?_
  refine W.eq (g2 := F0 m 1221 ls [.int (iZ ((M1.1 : Nat) : Int))]) rfl ?_
  refine z_topZ (b := ((1 : Nat) : Int)) (by rw [hc1]) ?_
  refine lv_iload hx hb d_L_law_1221 (lv_at hl 1 rfl) ?_
  refine z_icmp_eq (a := ((1 : Nat) : Int)) (b := ((1 : Nat) : Int)) (tgt := 1228) hx hb (by omega) d_L_law_1223 (by decide) (fun q1223 => ?_) (fun q1223 => ?_)
  · skip
    refine lv_iload hx hb d_L_law_1228 (lv_at hl 1 rfl) ?_
    refine z_if_ne (a := ((1 : Nat) : Int)) (tgt := 1244) hx hb (by omega) d_L_law_1230 (by decide) (fun q1230 => ?_) (fun q1230 => ?_)
    · skip
      refine lv_goto (tgt := 1598) hx hb d_L_law_1244 (by decide) ?_
      exact kk J _ _ _ _ _ _ H locs ls ⟨hI, hM1, hR, hpq⟩ hP hD hS (lv_sub hl [2, 3, 4, 5, 6] rfl)
    · skip
      exfalso; omega
  · skip
    exfalso; omega

set_option maxHeartbeats 4000000 in
set_option maxRecDepth 100000 in
theorem lf_mean_x3 {p : Program} {l : Launch} {e : Env} {s : State} {m : MethodId} {below : List Frame} {meth : Method} {c : Code} {Q : State → Prop} {sb L : Nat} {xs : Nat → Int32} {D : va_G} {A : Nat → Prop} {ad : Nat → Nat} {cI cZ cL : ClassId} {J : SJ} {rd : Nat → Int} {pr : Nat → Nat} {G : SH} {K : SK} {M : SM} {ov : Nat → Int64} {H : Heap} {locs : List Loc} {cells slots i : Nat} {ls : Array Slot} (X : LX p l s m meth c sb L xs D cI cZ cL A) (hLI : LI J rd pr M) (hi : i + 4 < L) (hc : cells + 1 ≤ 1061 ∧ slots + 6 ≤ 9679) {sh kd : Nat} {c9 : Int} (hsh : sh < 4) (hkd : kd < 3) (h : z32 c9 ∧ (c9 < 0 ∨ 2 ≤ c9)) (ha1 : xs (i + 1) = iZ ((sh : Nat) : Int)) (ha2 : xs (i + 2) = iZ ((kd : Nat) : Int)) (ha3 : xs (i + 3) = iZ (c9)) (hP : va_P D classes (wdC ad cI cZ cL J rd pr G K (wdM ad cI cZ cL J rd pr M ov)) H) (hD : va_D A (wdC ad cI cZ cL J rd pr G K (wdM ad cI cZ cL J rd pr M ov))) (hS : va_S A s.heap H locs) (hl : lv_has ls 8 (lwL ad sb i)) (kk : LK p l e s m below meth c Q sb D A ad cI cZ cL i (cells + 1) (slots + 6)) : W p l e room_1 s m #[Value.ref sb] below meth c H locs cells slots Q (F0 m 1168 ls []) := by
  obtain ⟨hl0, Z, hX, hbl, hK, hA, hbA, hTT, hSt, hL⟩ := X
  obtain ⟨hI, hM, hR, hpq⟩ := hLI
  obtain ⟨hx, hb, hr, hml, hown, hts, hE, hlocks⟩ := id Z
  have hn32 := hI.1
  have hk32 := hI.2.1
  have hl : lv_has ls 8 [(4, .int (iZ ((i : Nat) : Int))), (0, .ref (sb)), (1, .ref (ad 0)), (2, .ref (ad 19)), (3, .ref (ad 33))] := hl
  refine lv_aload_n hx hb d_L_law_1168 rfl (lv_at hl 2 rfl) ?_
  refine lv_aload_n hx hb d_L_law_1169 rfl (lv_at hl 1 rfl) ?_
  refine lv_iload hx hb d_L_law_1170 (lv_at hl 0 rfl) ?_
  refine lv_iconst (v := iZ ((1 : Nat) : Int)) hx hb d_L_law_1172 (by decide) ?_
  refine z_iaddN (u := i) (v := 1) hx hb d_L_law_1173 ?_
  refine z_sld (v := iZ ((sh : Nat) : Int)) hx hb hX hbl hbA hS (i + 1) (by omega) ha1 d_L_law_1174 ?_
  refine lv_aload_n hx hb d_L_law_1175 rfl (lv_at hl 1 rfl) ?_
  refine lv_iload hx hb d_L_law_1176 (lv_at hl 0 rfl) ?_
  refine lv_iconst (v := iZ ((2 : Nat) : Int)) hx hb d_L_law_1178 (by decide) ?_
  refine z_iaddN (u := i) (v := 2) hx hb d_L_law_1179 ?_
  refine z_sld (v := iZ ((kd : Nat) : Int)) hx hb hX hbl hbA hS (i + 2) (by omega) ha2 d_L_law_1180 ?_
  refine lv_aload_n hx hb d_L_law_1181 rfl (lv_at hl 1 rfl) ?_
  refine lv_iload hx hb d_L_law_1182 (lv_at hl 0 rfl) ?_
  refine lv_iconst (v := iZ ((3 : Nat) : Int)) hx hb d_L_law_1184 (by decide) ?_
  refine z_iaddN (u := i) (v := 3) hx hb d_L_law_1185 ?_
  refine z_sld (v := iZ (c9)) hx hb hX hbl hbA hS (i + 3) (by omega) ha3 d_L_law_1186 ?_
  refine lv_aload_n hx hb d_L_law_1187 rfl (lv_at hl 4 rfl) ?_
  refine z_kiW (z_runSW (As := [.ref (ad 0), .int (iZ ((sh : Nat) : Int)), .int (iZ ((kd : Nat) : Int)), .int (iZ (c9)), .ref (ad 33)]) (rest := []) Z (k_L_meanx3 hl0 hI (sh := sh) (kd := kd) (c9 := c9) hsh hkd h) ⟨ml_L_152, sm_L_mean, ini_L, co_L_mean⟩ zd_L_mean ⟨Nat.le_of_ble_eq_true rfl, Nat.le_of_ble_eq_true rfl⟩ hP hK hD (hTT _ _ hS) hSt hl.1 rfl (Nat.le_of_ble_eq_true rfl) d_L_law_1188 ⟨hc.1, hc.2⟩) hD hS hA (fun r9 w9 H locs hp9 hP hD hS => ?_)
  obtain ⟨rfl, rfl⟩ := hp9
  have hP : va_P D classes (wdC ad cI cZ cL J rd pr G K (wdM ad cI cZ cL J rd pr M ov)) H := hP
  have hD : va_D A (wdC ad cI cZ cL J rd pr G K (wdM ad cI cZ cL J rd pr M ov)) := hD
  refine W.eq (g2 := F0 m 1191 ls [.int (iZ ((1 : Nat) : Int))]) rfl ?_
  refine lv_istore (lv' := [(5, .int (iZ ((1 : Nat) : Int))), (4, .int (iZ ((i : Nat) : Int))), (0, .ref (sb)), (1, .ref (ad 0)), (2, .ref (ad 19)), (3, .ref (ad 33))]) hx hb d_L_law_1191 hl (by decide) rfl (fun ls hl => ?_)
  refine lv_aload_n hx hb d_L_law_1193 rfl (lv_at hl 4 rfl) ?_
  refine lv_aload_n hx hb d_L_law_1194 rfl (lv_at hl 2 rfl) ?_
  refine lv_iload hx hb d_L_law_1195 (lv_at hl 1 rfl) ?_
  refine lv_iconst (v := iZ ((1 : Nat) : Int)) hx hb d_L_law_1197 (by decide) ?_
  refine z_iaddN (u := i) (v := 1) hx hb d_L_law_1198 ?_
  refine z_sld (v := iZ ((sh : Nat) : Int)) hx hb hX hbl hbA hS (i + 1) (by omega) ha1 d_L_law_1199 ?_
  refine lv_aload_n hx hb d_L_law_1200 rfl (lv_at hl 2 rfl) ?_
  refine lv_iload hx hb d_L_law_1201 (lv_at hl 1 rfl) ?_
  refine lv_iconst (v := iZ ((2 : Nat) : Int)) hx hb d_L_law_1203 (by decide) ?_
  refine z_iaddN (u := i) (v := 2) hx hb d_L_law_1204 ?_
  refine z_sld (v := iZ ((kd : Nat) : Int)) hx hb hX hbl hbA hS (i + 2) (by omega) ha2 d_L_law_1205 ?_
  refine lv_aload_n hx hb d_L_law_1206 rfl (lv_at hl 2 rfl) ?_
  refine lv_iload hx hb d_L_law_1207 (lv_at hl 1 rfl) ?_
  refine lv_iconst (v := iZ ((3 : Nat) : Int)) hx hb d_L_law_1209 (by decide) ?_
  refine z_iaddN (u := i) (v := 3) hx hb d_L_law_1210 ?_
  refine z_sld (v := iZ (c9)) hx hb hX hbl hbA hS (i + 3) (by omega) ha3 d_L_law_1211 ?_
  refine z_kl (z_runV (As := [.int (iZ ((sh : Nat) : Int)), .int (iZ ((kd : Nat) : Int)), .int (iZ (c9))]) (rest := []) zTB Z (k_M_meanx1 hI hM (a := ((sh : Nat) : Int)) (b := ((kd : Nat) : Int)) (c9 := c9) (by omega)) ⟨ml_L_154, im_M_mean, se_M_mean, ini_M, co_M_mean⟩ zd_M_mean ⟨Nat.le_of_ble_eq_true rfl, Nat.le_of_ble_eq_true rfl⟩ hP hK hD (ci := 5) (q0 := 19) rfl rfl rfl hl.1 rfl (Nat.le_of_ble_eq_true rfl) d_L_law_1212 ⟨hc.1, hc.2⟩) hD hS hA (fun r9 w9 H locs hp9 hP hD hS => ?_)
  obtain ⟨M1, rfl, hc1, hM1⟩ := hp9
  have hP : va_P D classes (wdC ad cI cZ cL J rd pr G K (wdM ad cI cZ cL J rd pr M1 ov)) H := hP
  have hD : va_D A (wdC ad cI cZ cL J rd pr G K (wdM ad cI cZ cL J rd pr M1 ov)) := hD
  refine W.eq (g2 := F0 m 1215 ls [.long (r9)]) rfl ?_
  refine lv_lstore (lv' := [(6, .long (r9)), (5, .int (iZ ((1 : Nat) : Int))), (4, .int (iZ ((i : Nat) : Int))), (0, .ref (sb)), (1, .ref (ad 0)), (2, .ref (ad 19)), (3, .ref (ad 33))]) hx hb d_L_law_1215 hl (by decide) rfl (fun ls hl => ?_)
  refine lv_aload_n hx hb d_L_law_1217 rfl (lv_at hl 5 rfl) ?_
  refine z_callVR (As := []) (rest := []) zTB Z (k_M_thrown) ⟨ml_L_101, im_M_thrown, se_M_thrown, ini_M, co_M_thrown⟩ zd_M_thrown ⟨Nat.le_of_ble_eq_true rfl, Nat.le_of_ble_eq_true rfl⟩ hP hK (ci := 5) (q0 := 19) rfl rfl rfl hl.1 rfl (Nat.le_of_ble_eq_true rfl) d_L_law_1218 ⟨hc.1, hc.2⟩ ?_
  refine W.eq (g2 := F0 m 1221 ls [.int (iZ ((M1.1 : Nat) : Int))]) rfl ?_
  refine z_topZ (b := ((1 : Nat) : Int)) (by rw [hc1]) ?_
  refine lv_iload hx hb d_L_law_1221 (lv_at hl 1 rfl) ?_
  refine z_icmp_eq (a := ((1 : Nat) : Int)) (b := ((1 : Nat) : Int)) (tgt := 1228) hx hb (by omega) d_L_law_1223 (by decide) (fun q1223 => ?_) (fun q1223 => ?_)
  · skip
    refine lv_iload hx hb d_L_law_1228 (lv_at hl 1 rfl) ?_
    refine z_if_ne (a := ((1 : Nat) : Int)) (tgt := 1244) hx hb (by omega) d_L_law_1230 (by decide) (fun q1230 => ?_) (fun q1230 => ?_)
    · skip
      refine lv_goto (tgt := 1598) hx hb d_L_law_1244 (by decide) ?_
      exact kk J _ _ _ _ _ _ H locs ls ⟨hI, hM1, hR, hpq⟩ hP hD hS (lv_sub hl [2, 3, 4, 5, 6] rfl)
    · skip
      exfalso; omega
  · skip
    exfalso; omega

set_option maxHeartbeats 4000000 in
set_option maxRecDepth 100000 in
theorem lf_mean_0 {p : Program} {l : Launch} {e : Env} {s : State} {m : MethodId} {below : List Frame} {meth : Method} {c : Code} {Q : State → Prop} {sb L : Nat} {xs : Nat → Int32} {D : va_G} {A : Nat → Prop} {ad : Nat → Nat} {cI cZ cL : ClassId} {J : SJ} {rd : Nat → Int} {pr : Nat → Nat} {G : SH} {K : SK} {M : SM} {ov : Nat → Int64} {H : Heap} {locs : List Loc} {cells slots i : Nat} {ls : Array Slot} (X : LX p l s m meth c sb L xs D cI cZ cL A) (hLI : LI J rd pr M) (hi : i + 4 < L) (hc : cells + 1 ≤ 1061 ∧ slots + 6 ≤ 9679) {sh kd pt : Nat} (hsh : sh < 4) (hkd : kd < 3) (hpt : pt < 2) (ha1 : xs (i + 1) = iZ ((sh : Nat) : Int)) (ha2 : xs (i + 2) = iZ ((kd : Nat) : Int)) (ha3 : xs (i + 3) = iZ ((pt : Nat) : Int)) (hP : va_P D classes (wdC ad cI cZ cL J rd pr G K (wdM ad cI cZ cL J rd pr M ov)) H) (hD : va_D A (wdC ad cI cZ cL J rd pr G K (wdM ad cI cZ cL J rd pr M ov))) (hS : va_S A s.heap H locs) (hl : lv_has ls 8 (lwL ad sb i)) (kk : LK p l e s m below meth c Q sb D A ad cI cZ cL i (cells + 1) (slots + 6)) : W p l e room_1 s m #[Value.ref sb] below meth c H locs cells slots Q (F0 m 1168 ls []) := by
  obtain ⟨hl0, Z, hX, hbl, hK, hA, hbA, hTT, hSt, hL⟩ := X
  obtain ⟨hI, hM, hR, hpq⟩ := hLI
  obtain ⟨hx, hb, hr, hml, hown, hts, hE, hlocks⟩ := id Z
  have hn32 := hI.1
  have hk32 := hI.2.1
  have hl : lv_has ls 8 [(4, .int (iZ ((i : Nat) : Int))), (0, .ref (sb)), (1, .ref (ad 0)), (2, .ref (ad 19)), (3, .ref (ad 33))] := hl
  refine lv_aload_n hx hb d_L_law_1168 rfl (lv_at hl 2 rfl) ?_
  refine lv_aload_n hx hb d_L_law_1169 rfl (lv_at hl 1 rfl) ?_
  refine lv_iload hx hb d_L_law_1170 (lv_at hl 0 rfl) ?_
  refine lv_iconst (v := iZ ((1 : Nat) : Int)) hx hb d_L_law_1172 (by decide) ?_
  refine z_iaddN (u := i) (v := 1) hx hb d_L_law_1173 ?_
  refine z_sld (v := iZ ((sh : Nat) : Int)) hx hb hX hbl hbA hS (i + 1) (by omega) ha1 d_L_law_1174 ?_
  refine lv_aload_n hx hb d_L_law_1175 rfl (lv_at hl 1 rfl) ?_
  refine lv_iload hx hb d_L_law_1176 (lv_at hl 0 rfl) ?_
  refine lv_iconst (v := iZ ((2 : Nat) : Int)) hx hb d_L_law_1178 (by decide) ?_
  refine z_iaddN (u := i) (v := 2) hx hb d_L_law_1179 ?_
  refine z_sld (v := iZ ((kd : Nat) : Int)) hx hb hX hbl hbA hS (i + 2) (by omega) ha2 d_L_law_1180 ?_
  refine lv_aload_n hx hb d_L_law_1181 rfl (lv_at hl 1 rfl) ?_
  refine lv_iload hx hb d_L_law_1182 (lv_at hl 0 rfl) ?_
  refine lv_iconst (v := iZ ((3 : Nat) : Int)) hx hb d_L_law_1184 (by decide) ?_
  refine z_iaddN (u := i) (v := 3) hx hb d_L_law_1185 ?_
  refine z_sld (v := iZ ((pt : Nat) : Int)) hx hb hX hbl hbA hS (i + 3) (by omega) ha3 d_L_law_1186 ?_
  refine lv_aload_n hx hb d_L_law_1187 rfl (lv_at hl 4 rfl) ?_
  refine z_kiW (z_runSW (As := [.ref (ad 0), .int (iZ ((sh : Nat) : Int)), .int (iZ ((kd : Nat) : Int)), .int (iZ ((pt : Nat) : Int)), .ref (ad 33)]) (rest := []) Z (k_L_mean0 hI (sh := sh) (kd := kd) (pt := pt) hsh hkd hpt) ⟨ml_L_152, sm_L_mean, ini_L, co_L_mean⟩ zd_L_mean ⟨Nat.le_of_ble_eq_true rfl, Nat.le_of_ble_eq_true rfl⟩ hP hK hD (hTT _ _ hS) hSt hl.1 rfl (Nat.le_of_ble_eq_true rfl) d_L_law_1188 ⟨hc.1, hc.2⟩) hD hS hA (fun r9 w9 H locs hp9 hP hD hS => ?_)
  obtain ⟨rfl, rfl⟩ := hp9
  have hP : va_P D classes (wdC ad cI cZ cL J rd pr G K (wdM ad cI cZ cL J rd pr M (oU ov (lZ (sTP (sSO J sh kd (jk J)) (sKO J sh kd (jk J)) pt))))) H := hP
  have hD : va_D A (wdC ad cI cZ cL J rd pr G K (wdM ad cI cZ cL J rd pr M (oU ov (lZ (sTP (sSO J sh kd (jk J)) (sKO J sh kd (jk J)) pt))))) := hD
  refine W.eq (g2 := F0 m 1191 ls [.int (iZ ((0 : Nat) : Int))]) rfl ?_
  refine lv_istore (lv' := [(5, .int (iZ ((0 : Nat) : Int))), (4, .int (iZ ((i : Nat) : Int))), (0, .ref (sb)), (1, .ref (ad 0)), (2, .ref (ad 19)), (3, .ref (ad 33))]) hx hb d_L_law_1191 hl (by decide) rfl (fun ls hl => ?_)
  refine lv_aload_n hx hb d_L_law_1193 rfl (lv_at hl 4 rfl) ?_
  refine lv_aload_n hx hb d_L_law_1194 rfl (lv_at hl 2 rfl) ?_
  refine lv_iload hx hb d_L_law_1195 (lv_at hl 1 rfl) ?_
  refine lv_iconst (v := iZ ((1 : Nat) : Int)) hx hb d_L_law_1197 (by decide) ?_
  refine z_iaddN (u := i) (v := 1) hx hb d_L_law_1198 ?_
  refine z_sld (v := iZ ((sh : Nat) : Int)) hx hb hX hbl hbA hS (i + 1) (by omega) ha1 d_L_law_1199 ?_
  refine lv_aload_n hx hb d_L_law_1200 rfl (lv_at hl 2 rfl) ?_
  refine lv_iload hx hb d_L_law_1201 (lv_at hl 1 rfl) ?_
  refine lv_iconst (v := iZ ((2 : Nat) : Int)) hx hb d_L_law_1203 (by decide) ?_
  refine z_iaddN (u := i) (v := 2) hx hb d_L_law_1204 ?_
  refine z_sld (v := iZ ((kd : Nat) : Int)) hx hb hX hbl hbA hS (i + 2) (by omega) ha2 d_L_law_1205 ?_
  refine lv_aload_n hx hb d_L_law_1206 rfl (lv_at hl 2 rfl) ?_
  refine lv_iload hx hb d_L_law_1207 (lv_at hl 1 rfl) ?_
  refine lv_iconst (v := iZ ((3 : Nat) : Int)) hx hb d_L_law_1209 (by decide) ?_
  refine z_iaddN (u := i) (v := 3) hx hb d_L_law_1210 ?_
  refine z_sld (v := iZ ((pt : Nat) : Int)) hx hb hX hbl hbA hS (i + 3) (by omega) ha3 d_L_law_1211 ?_
  refine z_kl (z_runV (As := [.int (iZ ((sh : Nat) : Int)), .int (iZ ((kd : Nat) : Int)), .int (iZ ((pt : Nat) : Int))]) (rest := []) zTB Z (k_M_mean0 hI hM hsh hkd hpt) ⟨ml_L_154, im_M_mean, se_M_mean, ini_M, co_M_mean⟩ zd_M_mean ⟨Nat.le_of_ble_eq_true rfl, Nat.le_of_ble_eq_true rfl⟩ hP hK hD (ci := 5) (q0 := 19) rfl rfl rfl hl.1 rfl (Nat.le_of_ble_eq_true rfl) d_L_law_1212 ⟨hc.1, hc.2⟩) hD hS hA (fun r9 w9 H locs hp9 hP hD hS => ?_)
  obtain ⟨M1, rfl, rfl, hc1, hM1⟩ := hp9
  have hP : va_P D classes (wdC ad cI cZ cL J rd pr G K (wdM ad cI cZ cL J rd pr M1 (oU ov (lZ (sTP (sSO J sh kd (jk J)) (sKO J sh kd (jk J)) pt))))) H := hP
  have hD : va_D A (wdC ad cI cZ cL J rd pr G K (wdM ad cI cZ cL J rd pr M1 (oU ov (lZ (sTP (sSO J sh kd (jk J)) (sKO J sh kd (jk J)) pt))))) := hD
  refine W.eq (g2 := F0 m 1215 ls [.long (lZ (sTP (sSO J sh kd (jk J)) (sKO J sh kd (jk J)) pt))]) rfl ?_
  refine lv_lstore (lv' := [(6, .long (lZ (sTP (sSO J sh kd (jk J)) (sKO J sh kd (jk J)) pt))), (5, .int (iZ ((0 : Nat) : Int))), (4, .int (iZ ((i : Nat) : Int))), (0, .ref (sb)), (1, .ref (ad 0)), (2, .ref (ad 19)), (3, .ref (ad 33))]) hx hb d_L_law_1215 hl (by decide) rfl (fun ls hl => ?_)
  refine lv_aload_n hx hb d_L_law_1217 rfl (lv_at hl 5 rfl) ?_
  refine z_callVR (As := []) (rest := []) zTB Z (k_M_thrown) ⟨ml_L_101, im_M_thrown, se_M_thrown, ini_M, co_M_thrown⟩ zd_M_thrown ⟨Nat.le_of_ble_eq_true rfl, Nat.le_of_ble_eq_true rfl⟩ hP hK (ci := 5) (q0 := 19) rfl rfl rfl hl.1 rfl (Nat.le_of_ble_eq_true rfl) d_L_law_1218 ⟨hc.1, hc.2⟩ ?_
  refine W.eq (g2 := F0 m 1221 ls [.int (iZ ((M1.1 : Nat) : Int))]) rfl ?_
  refine z_topZ (b := ((0 : Nat) : Int)) (by rw [hc1]) ?_
  refine lv_iload hx hb d_L_law_1221 (lv_at hl 1 rfl) ?_
  refine z_icmp_eq (a := ((0 : Nat) : Int)) (b := ((0 : Nat) : Int)) (tgt := 1228) hx hb (by omega) d_L_law_1223 (by decide) (fun q1223 => ?_) (fun q1223 => ?_)
  · skip
    refine lv_iload hx hb d_L_law_1228 (lv_at hl 1 rfl) ?_
    refine z_if_ne (a := ((0 : Nat) : Int)) (tgt := 1244) hx hb (by omega) d_L_law_1230 (by decide) (fun q1230 => ?_) (fun q1230 => ?_)
    · skip
      exfalso; omega
    · skip
      refine lv_aload_n hx hb d_L_law_1233 rfl (lv_at hl 6 rfl) ?_
      refine lv_iconst (v := iZ ((0 : Nat) : Int)) hx hb d_L_law_1234 (by decide) ?_
      refine z_old (x := lZ (sTP (sSO J sh kd (jk J)) (sKO J sh kd (jk J)) pt)) hx hb hK hP 33 2 rfl rfl d_L_law_1235 ?_
      refine lv_lload hx hb d_L_law_1236 (lv_at hl 0 rfl) ?_
      refine z_lcmpR_eq (tgt := 1244) (pc1 := 1239) (pc4 := 1242) hx hb d_L_law_1238 rfl rfl d_L_law_1239 (by decide) (fun q1238 => ?_) (fun q1238 => ?_)
      · skip
        refine lv_goto (tgt := 1598) hx hb d_L_law_1244 (by decide) ?_
        exact kk J _ _ _ _ _ _ H locs ls ⟨hI, hM1, hR, hpq⟩ hP hD hS (lv_sub hl [2, 3, 4, 5, 6] rfl)
      · skip
        exact absurd rfl q1238
  · skip
    exfalso; omega

set_option maxHeartbeats 4000000 in
set_option maxRecDepth 100000 in
theorem lf_weight_x1 {p : Program} {l : Launch} {e : Env} {s : State} {m : MethodId} {below : List Frame} {meth : Method} {c : Code} {Q : State → Prop} {sb L : Nat} {xs : Nat → Int32} {D : va_G} {A : Nat → Prop} {ad : Nat → Nat} {cI cZ cL : ClassId} {J : SJ} {rd : Nat → Int} {pr : Nat → Nat} {G : SH} {K : SK} {M : SM} {ov : Nat → Int64} {H : Heap} {locs : List Loc} {cells slots i : Nat} {ls : Array Slot} (X : LX p l s m meth c sb L xs D cI cZ cL A) (hLI : LI J rd pr M) (hi : i + 4 < L) (hc : cells + 1 ≤ 1061 ∧ slots + 6 ≤ 9679) {a b c9 : Int} (h : z32 a ∧ (a < 0 ∨ 4 ≤ a)) (hz : z32 b ∧ z32 c9) (ha1 : xs (i + 1) = iZ (a)) (ha2 : xs (i + 2) = iZ (b)) (ha3 : xs (i + 3) = iZ (c9)) (hP : va_P D classes (wdC ad cI cZ cL J rd pr G K (wdM ad cI cZ cL J rd pr M ov)) H) (hD : va_D A (wdC ad cI cZ cL J rd pr G K (wdM ad cI cZ cL J rd pr M ov))) (hS : va_S A s.heap H locs) (hl : lv_has ls 8 (lwL ad sb i)) (kk : LK p l e s m below meth c Q sb D A ad cI cZ cL i (cells + 1) (slots + 6)) : W p l e room_1 s m #[Value.ref sb] below meth c H locs cells slots Q (F0 m 1247 ls []) := by
  obtain ⟨hl0, Z, hX, hbl, hK, hA, hbA, hTT, hSt, hL⟩ := X
  obtain ⟨hI, hM, hR, hpq⟩ := hLI
  obtain ⟨hx, hb, hr, hml, hown, hts, hE, hlocks⟩ := id Z
  have hn32 := hI.1
  have hk32 := hI.2.1
  have hl : lv_has ls 8 [(4, .int (iZ ((i : Nat) : Int))), (0, .ref (sb)), (1, .ref (ad 0)), (2, .ref (ad 19)), (3, .ref (ad 33))] := hl
  refine lv_aload_n hx hb d_L_law_1247 rfl (lv_at hl 2 rfl) ?_
  refine lv_aload_n hx hb d_L_law_1248 rfl (lv_at hl 1 rfl) ?_
  refine lv_iload hx hb d_L_law_1249 (lv_at hl 0 rfl) ?_
  refine lv_iconst (v := iZ ((1 : Nat) : Int)) hx hb d_L_law_1251 (by decide) ?_
  refine z_iaddN (u := i) (v := 1) hx hb d_L_law_1252 ?_
  refine z_sld (v := iZ (a)) hx hb hX hbl hbA hS (i + 1) (by omega) ha1 d_L_law_1253 ?_
  refine lv_aload_n hx hb d_L_law_1254 rfl (lv_at hl 1 rfl) ?_
  refine lv_iload hx hb d_L_law_1255 (lv_at hl 0 rfl) ?_
  refine lv_iconst (v := iZ ((2 : Nat) : Int)) hx hb d_L_law_1257 (by decide) ?_
  refine z_iaddN (u := i) (v := 2) hx hb d_L_law_1258 ?_
  refine z_sld (v := iZ (b)) hx hb hX hbl hbA hS (i + 2) (by omega) ha2 d_L_law_1259 ?_
  refine lv_aload_n hx hb d_L_law_1260 rfl (lv_at hl 1 rfl) ?_
  refine lv_iload hx hb d_L_law_1261 (lv_at hl 0 rfl) ?_
  refine lv_iconst (v := iZ ((3 : Nat) : Int)) hx hb d_L_law_1263 (by decide) ?_
  refine z_iaddN (u := i) (v := 3) hx hb d_L_law_1264 ?_
  refine z_sld (v := iZ (c9)) hx hb hX hbl hbA hS (i + 3) (by omega) ha3 d_L_law_1265 ?_
  refine lv_aload_n hx hb d_L_law_1266 rfl (lv_at hl 4 rfl) ?_
  refine z_kiW (z_runSW (As := [.ref (ad 0), .int (iZ (a)), .int (iZ (b)), .int (iZ (c9)), .ref (ad 33)]) (rest := []) Z (k_L_weightx1 hl0 hI (a := a) (b := b) (c9 := c9) h) ⟨ml_L_155, sm_L_weight, ini_L, co_L_weight⟩ zd_L_weight ⟨Nat.le_of_ble_eq_true rfl, Nat.le_of_ble_eq_true rfl⟩ hP hK hD (hTT _ _ hS) hSt hl.1 rfl (Nat.le_of_ble_eq_true rfl) d_L_law_1267 ⟨hc.1, hc.2⟩) hD hS hA (fun r9 w9 H locs hp9 hP hD hS => ?_)
  obtain ⟨rfl, rfl⟩ := hp9
  have hP : va_P D classes (wdC ad cI cZ cL J rd pr G K (wdM ad cI cZ cL J rd pr M ov)) H := hP
  have hD : va_D A (wdC ad cI cZ cL J rd pr G K (wdM ad cI cZ cL J rd pr M ov)) := hD
  refine W.eq (g2 := F0 m 1270 ls [.int (iZ ((1 : Nat) : Int))]) rfl ?_
  refine lv_istore (lv' := [(5, .int (iZ ((1 : Nat) : Int))), (4, .int (iZ ((i : Nat) : Int))), (0, .ref (sb)), (1, .ref (ad 0)), (2, .ref (ad 19)), (3, .ref (ad 33))]) hx hb d_L_law_1270 hl (by decide) rfl (fun ls hl => ?_)
  refine lv_aload_n hx hb d_L_law_1272 rfl (lv_at hl 4 rfl) ?_
  refine lv_aload_n hx hb d_L_law_1273 rfl (lv_at hl 2 rfl) ?_
  refine lv_iload hx hb d_L_law_1274 (lv_at hl 1 rfl) ?_
  refine lv_iconst (v := iZ ((1 : Nat) : Int)) hx hb d_L_law_1276 (by decide) ?_
  refine z_iaddN (u := i) (v := 1) hx hb d_L_law_1277 ?_
  refine z_sld (v := iZ (a)) hx hb hX hbl hbA hS (i + 1) (by omega) ha1 d_L_law_1278 ?_
  refine lv_aload_n hx hb d_L_law_1279 rfl (lv_at hl 2 rfl) ?_
  refine lv_iload hx hb d_L_law_1280 (lv_at hl 1 rfl) ?_
  refine lv_iconst (v := iZ ((2 : Nat) : Int)) hx hb d_L_law_1282 (by decide) ?_
  refine z_iaddN (u := i) (v := 2) hx hb d_L_law_1283 ?_
  refine z_sld (v := iZ (b)) hx hb hX hbl hbA hS (i + 2) (by omega) ha2 d_L_law_1284 ?_
  refine lv_aload_n hx hb d_L_law_1285 rfl (lv_at hl 2 rfl) ?_
  refine lv_iload hx hb d_L_law_1286 (lv_at hl 1 rfl) ?_
  refine lv_iconst (v := iZ ((3 : Nat) : Int)) hx hb d_L_law_1288 (by decide) ?_
  refine z_iaddN (u := i) (v := 3) hx hb d_L_law_1289 ?_
  refine z_sld (v := iZ (c9)) hx hb hX hbl hbA hS (i + 3) (by omega) ha3 d_L_law_1290 ?_
  refine z_kl (z_runV (As := [.int (iZ (a)), .int (iZ (b)), .int (iZ (c9))]) (rest := []) zTB Z (k_M_weightx1 hI hM (a := a) (b := b) (c9 := c9) (by omega)) ⟨ml_L_157, im_M_weight, se_M_weight, ini_M, co_M_weight⟩ zd_M_weight ⟨Nat.le_of_ble_eq_true rfl, Nat.le_of_ble_eq_true rfl⟩ hP hK hD (ci := 5) (q0 := 19) rfl rfl rfl hl.1 rfl (Nat.le_of_ble_eq_true rfl) d_L_law_1291 ⟨hc.1, hc.2⟩) hD hS hA (fun r9 w9 H locs hp9 hP hD hS => ?_)
  obtain ⟨M1, rfl, hc1, hM1⟩ := hp9
  have hP : va_P D classes (wdC ad cI cZ cL J rd pr G K (wdM ad cI cZ cL J rd pr M1 ov)) H := hP
  have hD : va_D A (wdC ad cI cZ cL J rd pr G K (wdM ad cI cZ cL J rd pr M1 ov)) := hD
  refine W.eq (g2 := F0 m 1294 ls [.long (r9)]) rfl ?_
  refine lv_lstore (lv' := [(6, .long (r9)), (5, .int (iZ ((1 : Nat) : Int))), (4, .int (iZ ((i : Nat) : Int))), (0, .ref (sb)), (1, .ref (ad 0)), (2, .ref (ad 19)), (3, .ref (ad 33))]) hx hb d_L_law_1294 hl (by decide) rfl (fun ls hl => ?_)
  refine lv_aload_n hx hb d_L_law_1296 rfl (lv_at hl 5 rfl) ?_
  refine z_callVR (As := []) (rest := []) zTB Z (k_M_thrown) ⟨ml_L_101, im_M_thrown, se_M_thrown, ini_M, co_M_thrown⟩ zd_M_thrown ⟨Nat.le_of_ble_eq_true rfl, Nat.le_of_ble_eq_true rfl⟩ hP hK (ci := 5) (q0 := 19) rfl rfl rfl hl.1 rfl (Nat.le_of_ble_eq_true rfl) d_L_law_1297 ⟨hc.1, hc.2⟩ ?_
  refine W.eq (g2 := F0 m 1300 ls [.int (iZ ((M1.1 : Nat) : Int))]) rfl ?_
  refine z_topZ (b := ((1 : Nat) : Int)) (by rw [hc1]) ?_
  refine lv_iload hx hb d_L_law_1300 (lv_at hl 1 rfl) ?_
  refine z_icmp_eq (a := ((1 : Nat) : Int)) (b := ((1 : Nat) : Int)) (tgt := 1307) hx hb (by omega) d_L_law_1302 (by decide) (fun q1302 => ?_) (fun q1302 => ?_)
  · skip
    refine lv_iload hx hb d_L_law_1307 (lv_at hl 1 rfl) ?_
    refine z_if_ne (a := ((1 : Nat) : Int)) (tgt := 1323) hx hb (by omega) d_L_law_1309 (by decide) (fun q1309 => ?_) (fun q1309 => ?_)
    · skip
      refine lv_goto (tgt := 1598) hx hb d_L_law_1323 (by decide) ?_
      exact kk J _ _ _ _ _ _ H locs ls ⟨hI, hM1, hR, hpq⟩ hP hD hS (lv_sub hl [2, 3, 4, 5, 6] rfl)
    · skip
      exfalso; omega
  · skip
    exfalso; omega

set_option maxHeartbeats 4000000 in
set_option maxRecDepth 100000 in
theorem lf_weight_x2 {p : Program} {l : Launch} {e : Env} {s : State} {m : MethodId} {below : List Frame} {meth : Method} {c : Code} {Q : State → Prop} {sb L : Nat} {xs : Nat → Int32} {D : va_G} {A : Nat → Prop} {ad : Nat → Nat} {cI cZ cL : ClassId} {J : SJ} {rd : Nat → Int} {pr : Nat → Nat} {G : SH} {K : SK} {M : SM} {ov : Nat → Int64} {H : Heap} {locs : List Loc} {cells slots i : Nat} {ls : Array Slot} (X : LX p l s m meth c sb L xs D cI cZ cL A) (hLI : LI J rd pr M) (hi : i + 4 < L) (hc : cells + 1 ≤ 1061 ∧ slots + 6 ≤ 9679) {sh : Nat} {b c9 : Int} (hsh : sh < 4) (h : z32 b ∧ (b < 0 ∨ 3 ≤ b)) (hz : z32 c9) (ha1 : xs (i + 1) = iZ ((sh : Nat) : Int)) (ha2 : xs (i + 2) = iZ (b)) (ha3 : xs (i + 3) = iZ (c9)) (hP : va_P D classes (wdC ad cI cZ cL J rd pr G K (wdM ad cI cZ cL J rd pr M ov)) H) (hD : va_D A (wdC ad cI cZ cL J rd pr G K (wdM ad cI cZ cL J rd pr M ov))) (hS : va_S A s.heap H locs) (hl : lv_has ls 8 (lwL ad sb i)) (kk : LK p l e s m below meth c Q sb D A ad cI cZ cL i (cells + 1) (slots + 6)) : W p l e room_1 s m #[Value.ref sb] below meth c H locs cells slots Q (F0 m 1247 ls []) := by
  obtain ⟨hl0, Z, hX, hbl, hK, hA, hbA, hTT, hSt, hL⟩ := X
  obtain ⟨hI, hM, hR, hpq⟩ := hLI
  obtain ⟨hx, hb, hr, hml, hown, hts, hE, hlocks⟩ := id Z
  have hn32 := hI.1
  have hk32 := hI.2.1
  have hl : lv_has ls 8 [(4, .int (iZ ((i : Nat) : Int))), (0, .ref (sb)), (1, .ref (ad 0)), (2, .ref (ad 19)), (3, .ref (ad 33))] := hl
  refine lv_aload_n hx hb d_L_law_1247 rfl (lv_at hl 2 rfl) ?_
  refine lv_aload_n hx hb d_L_law_1248 rfl (lv_at hl 1 rfl) ?_
  refine lv_iload hx hb d_L_law_1249 (lv_at hl 0 rfl) ?_
  refine lv_iconst (v := iZ ((1 : Nat) : Int)) hx hb d_L_law_1251 (by decide) ?_
  refine z_iaddN (u := i) (v := 1) hx hb d_L_law_1252 ?_
  refine z_sld (v := iZ ((sh : Nat) : Int)) hx hb hX hbl hbA hS (i + 1) (by omega) ha1 d_L_law_1253 ?_
  refine lv_aload_n hx hb d_L_law_1254 rfl (lv_at hl 1 rfl) ?_
  refine lv_iload hx hb d_L_law_1255 (lv_at hl 0 rfl) ?_
  refine lv_iconst (v := iZ ((2 : Nat) : Int)) hx hb d_L_law_1257 (by decide) ?_
  refine z_iaddN (u := i) (v := 2) hx hb d_L_law_1258 ?_
  refine z_sld (v := iZ (b)) hx hb hX hbl hbA hS (i + 2) (by omega) ha2 d_L_law_1259 ?_
  refine lv_aload_n hx hb d_L_law_1260 rfl (lv_at hl 1 rfl) ?_
  refine lv_iload hx hb d_L_law_1261 (lv_at hl 0 rfl) ?_
  refine lv_iconst (v := iZ ((3 : Nat) : Int)) hx hb d_L_law_1263 (by decide) ?_
  refine z_iaddN (u := i) (v := 3) hx hb d_L_law_1264 ?_
  refine z_sld (v := iZ (c9)) hx hb hX hbl hbA hS (i + 3) (by omega) ha3 d_L_law_1265 ?_
  refine lv_aload_n hx hb d_L_law_1266 rfl (lv_at hl 4 rfl) ?_
  refine z_kiW (z_runSW (As := [.ref (ad 0), .int (iZ ((sh : Nat) : Int)), .int (iZ (b)), .int (iZ (c9)), .ref (ad 33)]) (rest := []) Z (k_L_weightx2 hl0 hI (sh := sh) (b := b) (c9 := c9) hsh h) ⟨ml_L_155, sm_L_weight, ini_L, co_L_weight⟩ zd_L_weight ⟨Nat.le_of_ble_eq_true rfl, Nat.le_of_ble_eq_true rfl⟩ hP hK hD (hTT _ _ hS) hSt hl.1 rfl (Nat.le_of_ble_eq_true rfl) d_L_law_1267 ⟨hc.1, hc.2⟩) hD hS hA (fun r9 w9 H locs hp9 hP hD hS => ?_)
  obtain ⟨rfl, rfl⟩ := hp9
  have hP : va_P D classes (wdC ad cI cZ cL J rd pr G K (wdM ad cI cZ cL J rd pr M ov)) H := hP
  have hD : va_D A (wdC ad cI cZ cL J rd pr G K (wdM ad cI cZ cL J rd pr M ov)) := hD
  refine W.eq (g2 := F0 m 1270 ls [.int (iZ ((1 : Nat) : Int))]) rfl ?_
  refine lv_istore (lv' := [(5, .int (iZ ((1 : Nat) : Int))), (4, .int (iZ ((i : Nat) : Int))), (0, .ref (sb)), (1, .ref (ad 0)), (2, .ref (ad 19)), (3, .ref (ad 33))]) hx hb d_L_law_1270 hl (by decide) rfl (fun ls hl => ?_)
  refine lv_aload_n hx hb d_L_law_1272 rfl (lv_at hl 4 rfl) ?_
  refine lv_aload_n hx hb d_L_law_1273 rfl (lv_at hl 2 rfl) ?_
  refine lv_iload hx hb d_L_law_1274 (lv_at hl 1 rfl) ?_
  refine lv_iconst (v := iZ ((1 : Nat) : Int)) hx hb d_L_law_1276 (by decide) ?_
  refine z_iaddN (u := i) (v := 1) hx hb d_L_law_1277 ?_
  refine z_sld (v := iZ ((sh : Nat) : Int)) hx hb hX hbl hbA hS (i + 1) (by omega) ha1 d_L_law_1278 ?_
  refine lv_aload_n hx hb d_L_law_1279 rfl (lv_at hl 2 rfl) ?_
  refine lv_iload hx hb d_L_law_1280 (lv_at hl 1 rfl) ?_
  refine lv_iconst (v := iZ ((2 : Nat) : Int)) hx hb d_L_law_1282 (by decide) ?_
  refine z_iaddN (u := i) (v := 2) hx hb d_L_law_1283 ?_
  refine z_sld (v := iZ (b)) hx hb hX hbl hbA hS (i + 2) (by omega) ha2 d_L_law_1284 ?_
  refine lv_aload_n hx hb d_L_law_1285 rfl (lv_at hl 2 rfl) ?_
  refine lv_iload hx hb d_L_law_1286 (lv_at hl 1 rfl) ?_
  refine lv_iconst (v := iZ ((3 : Nat) : Int)) hx hb d_L_law_1288 (by decide) ?_
  refine z_iaddN (u := i) (v := 3) hx hb d_L_law_1289 ?_
  refine z_sld (v := iZ (c9)) hx hb hX hbl hbA hS (i + 3) (by omega) ha3 d_L_law_1290 ?_
  refine z_kl (z_runV (As := [.int (iZ ((sh : Nat) : Int)), .int (iZ (b)), .int (iZ (c9))]) (rest := []) zTB Z (k_M_weightx1 hI hM (a := ((sh : Nat) : Int)) (b := b) (c9 := c9) (by omega)) ⟨ml_L_157, im_M_weight, se_M_weight, ini_M, co_M_weight⟩ zd_M_weight ⟨Nat.le_of_ble_eq_true rfl, Nat.le_of_ble_eq_true rfl⟩ hP hK hD (ci := 5) (q0 := 19) rfl rfl rfl hl.1 rfl (Nat.le_of_ble_eq_true rfl) d_L_law_1291 ⟨hc.1, hc.2⟩) hD hS hA (fun r9 w9 H locs hp9 hP hD hS => ?_)
  obtain ⟨M1, rfl, hc1, hM1⟩ := hp9
  have hP : va_P D classes (wdC ad cI cZ cL J rd pr G K (wdM ad cI cZ cL J rd pr M1 ov)) H := hP
  have hD : va_D A (wdC ad cI cZ cL J rd pr G K (wdM ad cI cZ cL J rd pr M1 ov)) := hD
  refine W.eq (g2 := F0 m 1294 ls [.long (r9)]) rfl ?_
  refine lv_lstore (lv' := [(6, .long (r9)), (5, .int (iZ ((1 : Nat) : Int))), (4, .int (iZ ((i : Nat) : Int))), (0, .ref (sb)), (1, .ref (ad 0)), (2, .ref (ad 19)), (3, .ref (ad 33))]) hx hb d_L_law_1294 hl (by decide) rfl (fun ls hl => ?_)
  refine lv_aload_n hx hb d_L_law_1296 rfl (lv_at hl 5 rfl) ?_
  refine z_callVR (As := []) (rest := []) zTB Z (k_M_thrown) ⟨ml_L_101, im_M_thrown, se_M_thrown, ini_M, co_M_thrown⟩ zd_M_thrown ⟨Nat.le_of_ble_eq_true rfl, Nat.le_of_ble_eq_true rfl⟩ hP hK (ci := 5) (q0 := 19) rfl rfl rfl hl.1 rfl (Nat.le_of_ble_eq_true rfl) d_L_law_1297 ⟨hc.1, hc.2⟩ ?_
  refine W.eq (g2 := F0 m 1300 ls [.int (iZ ((M1.1 : Nat) : Int))]) rfl ?_
  refine z_topZ (b := ((1 : Nat) : Int)) (by rw [hc1]) ?_
  refine lv_iload hx hb d_L_law_1300 (lv_at hl 1 rfl) ?_
  refine z_icmp_eq (a := ((1 : Nat) : Int)) (b := ((1 : Nat) : Int)) (tgt := 1307) hx hb (by omega) d_L_law_1302 (by decide) (fun q1302 => ?_) (fun q1302 => ?_)
  · skip
    refine lv_iload hx hb d_L_law_1307 (lv_at hl 1 rfl) ?_
    refine z_if_ne (a := ((1 : Nat) : Int)) (tgt := 1323) hx hb (by omega) d_L_law_1309 (by decide) (fun q1309 => ?_) (fun q1309 => ?_)
    · skip
      refine lv_goto (tgt := 1598) hx hb d_L_law_1323 (by decide) ?_
      exact kk J _ _ _ _ _ _ H locs ls ⟨hI, hM1, hR, hpq⟩ hP hD hS (lv_sub hl [2, 3, 4, 5, 6] rfl)
    · skip
      exfalso; omega
  · skip
    exfalso; omega

set_option maxHeartbeats 4000000 in
set_option maxRecDepth 100000 in
theorem lf_weight_x3 {p : Program} {l : Launch} {e : Env} {s : State} {m : MethodId} {below : List Frame} {meth : Method} {c : Code} {Q : State → Prop} {sb L : Nat} {xs : Nat → Int32} {D : va_G} {A : Nat → Prop} {ad : Nat → Nat} {cI cZ cL : ClassId} {J : SJ} {rd : Nat → Int} {pr : Nat → Nat} {G : SH} {K : SK} {M : SM} {ov : Nat → Int64} {H : Heap} {locs : List Loc} {cells slots i : Nat} {ls : Array Slot} (X : LX p l s m meth c sb L xs D cI cZ cL A) (hLI : LI J rd pr M) (hi : i + 4 < L) (hc : cells + 1 ≤ 1061 ∧ slots + 6 ≤ 9679) {sh kd : Nat} {c9 : Int} (hsh : sh < 4) (hkd : kd < 3) (h : z32 c9 ∧ (c9 < 0 ∨ 2 ≤ c9)) (ha1 : xs (i + 1) = iZ ((sh : Nat) : Int)) (ha2 : xs (i + 2) = iZ ((kd : Nat) : Int)) (ha3 : xs (i + 3) = iZ (c9)) (hP : va_P D classes (wdC ad cI cZ cL J rd pr G K (wdM ad cI cZ cL J rd pr M ov)) H) (hD : va_D A (wdC ad cI cZ cL J rd pr G K (wdM ad cI cZ cL J rd pr M ov))) (hS : va_S A s.heap H locs) (hl : lv_has ls 8 (lwL ad sb i)) (kk : LK p l e s m below meth c Q sb D A ad cI cZ cL i (cells + 1) (slots + 6)) : W p l e room_1 s m #[Value.ref sb] below meth c H locs cells slots Q (F0 m 1247 ls []) := by
  obtain ⟨hl0, Z, hX, hbl, hK, hA, hbA, hTT, hSt, hL⟩ := X
  obtain ⟨hI, hM, hR, hpq⟩ := hLI
  obtain ⟨hx, hb, hr, hml, hown, hts, hE, hlocks⟩ := id Z
  have hn32 := hI.1
  have hk32 := hI.2.1
  have hl : lv_has ls 8 [(4, .int (iZ ((i : Nat) : Int))), (0, .ref (sb)), (1, .ref (ad 0)), (2, .ref (ad 19)), (3, .ref (ad 33))] := hl
  refine lv_aload_n hx hb d_L_law_1247 rfl (lv_at hl 2 rfl) ?_
  refine lv_aload_n hx hb d_L_law_1248 rfl (lv_at hl 1 rfl) ?_
  refine lv_iload hx hb d_L_law_1249 (lv_at hl 0 rfl) ?_
  refine lv_iconst (v := iZ ((1 : Nat) : Int)) hx hb d_L_law_1251 (by decide) ?_
  refine z_iaddN (u := i) (v := 1) hx hb d_L_law_1252 ?_
  refine z_sld (v := iZ ((sh : Nat) : Int)) hx hb hX hbl hbA hS (i + 1) (by omega) ha1 d_L_law_1253 ?_
  refine lv_aload_n hx hb d_L_law_1254 rfl (lv_at hl 1 rfl) ?_
  refine lv_iload hx hb d_L_law_1255 (lv_at hl 0 rfl) ?_
  refine lv_iconst (v := iZ ((2 : Nat) : Int)) hx hb d_L_law_1257 (by decide) ?_
  refine z_iaddN (u := i) (v := 2) hx hb d_L_law_1258 ?_
  refine z_sld (v := iZ ((kd : Nat) : Int)) hx hb hX hbl hbA hS (i + 2) (by omega) ha2 d_L_law_1259 ?_
  refine lv_aload_n hx hb d_L_law_1260 rfl (lv_at hl 1 rfl) ?_
  refine lv_iload hx hb d_L_law_1261 (lv_at hl 0 rfl) ?_
  refine lv_iconst (v := iZ ((3 : Nat) : Int)) hx hb d_L_law_1263 (by decide) ?_
  refine z_iaddN (u := i) (v := 3) hx hb d_L_law_1264 ?_
  refine z_sld (v := iZ (c9)) hx hb hX hbl hbA hS (i + 3) (by omega) ha3 d_L_law_1265 ?_
  refine lv_aload_n hx hb d_L_law_1266 rfl (lv_at hl 4 rfl) ?_
  refine z_kiW (z_runSW (As := [.ref (ad 0), .int (iZ ((sh : Nat) : Int)), .int (iZ ((kd : Nat) : Int)), .int (iZ (c9)), .ref (ad 33)]) (rest := []) Z (k_L_weightx3 hl0 hI (sh := sh) (kd := kd) (c9 := c9) hsh hkd h) ⟨ml_L_155, sm_L_weight, ini_L, co_L_weight⟩ zd_L_weight ⟨Nat.le_of_ble_eq_true rfl, Nat.le_of_ble_eq_true rfl⟩ hP hK hD (hTT _ _ hS) hSt hl.1 rfl (Nat.le_of_ble_eq_true rfl) d_L_law_1267 ⟨hc.1, hc.2⟩) hD hS hA (fun r9 w9 H locs hp9 hP hD hS => ?_)
  obtain ⟨rfl, rfl⟩ := hp9
  have hP : va_P D classes (wdC ad cI cZ cL J rd pr G K (wdM ad cI cZ cL J rd pr M ov)) H := hP
  have hD : va_D A (wdC ad cI cZ cL J rd pr G K (wdM ad cI cZ cL J rd pr M ov)) := hD
  refine W.eq (g2 := F0 m 1270 ls [.int (iZ ((1 : Nat) : Int))]) rfl ?_
  refine lv_istore (lv' := [(5, .int (iZ ((1 : Nat) : Int))), (4, .int (iZ ((i : Nat) : Int))), (0, .ref (sb)), (1, .ref (ad 0)), (2, .ref (ad 19)), (3, .ref (ad 33))]) hx hb d_L_law_1270 hl (by decide) rfl (fun ls hl => ?_)
  refine lv_aload_n hx hb d_L_law_1272 rfl (lv_at hl 4 rfl) ?_
  refine lv_aload_n hx hb d_L_law_1273 rfl (lv_at hl 2 rfl) ?_
  refine lv_iload hx hb d_L_law_1274 (lv_at hl 1 rfl) ?_
  refine lv_iconst (v := iZ ((1 : Nat) : Int)) hx hb d_L_law_1276 (by decide) ?_
  refine z_iaddN (u := i) (v := 1) hx hb d_L_law_1277 ?_
  refine z_sld (v := iZ ((sh : Nat) : Int)) hx hb hX hbl hbA hS (i + 1) (by omega) ha1 d_L_law_1278 ?_
  refine lv_aload_n hx hb d_L_law_1279 rfl (lv_at hl 2 rfl) ?_
  refine lv_iload hx hb d_L_law_1280 (lv_at hl 1 rfl) ?_
  refine lv_iconst (v := iZ ((2 : Nat) : Int)) hx hb d_L_law_1282 (by decide) ?_
  refine z_iaddN (u := i) (v := 2) hx hb d_L_law_1283 ?_
  refine z_sld (v := iZ ((kd : Nat) : Int)) hx hb hX hbl hbA hS (i + 2) (by omega) ha2 d_L_law_1284 ?_
  refine lv_aload_n hx hb d_L_law_1285 rfl (lv_at hl 2 rfl) ?_
  refine lv_iload hx hb d_L_law_1286 (lv_at hl 1 rfl) ?_
  refine lv_iconst (v := iZ ((3 : Nat) : Int)) hx hb d_L_law_1288 (by decide) ?_
  refine z_iaddN (u := i) (v := 3) hx hb d_L_law_1289 ?_
  refine z_sld (v := iZ (c9)) hx hb hX hbl hbA hS (i + 3) (by omega) ha3 d_L_law_1290 ?_
  refine z_kl (z_runV (As := [.int (iZ ((sh : Nat) : Int)), .int (iZ ((kd : Nat) : Int)), .int (iZ (c9))]) (rest := []) zTB Z (k_M_weightx1 hI hM (a := ((sh : Nat) : Int)) (b := ((kd : Nat) : Int)) (c9 := c9) (by omega)) ⟨ml_L_157, im_M_weight, se_M_weight, ini_M, co_M_weight⟩ zd_M_weight ⟨Nat.le_of_ble_eq_true rfl, Nat.le_of_ble_eq_true rfl⟩ hP hK hD (ci := 5) (q0 := 19) rfl rfl rfl hl.1 rfl (Nat.le_of_ble_eq_true rfl) d_L_law_1291 ⟨hc.1, hc.2⟩) hD hS hA (fun r9 w9 H locs hp9 hP hD hS => ?_)
  obtain ⟨M1, rfl, hc1, hM1⟩ := hp9
  have hP : va_P D classes (wdC ad cI cZ cL J rd pr G K (wdM ad cI cZ cL J rd pr M1 ov)) H := hP
  have hD : va_D A (wdC ad cI cZ cL J rd pr G K (wdM ad cI cZ cL J rd pr M1 ov)) := hD
  refine W.eq (g2 := F0 m 1294 ls [.long (r9)]) rfl ?_
  refine lv_lstore (lv' := [(6, .long (r9)), (5, .int (iZ ((1 : Nat) : Int))), (4, .int (iZ ((i : Nat) : Int))), (0, .ref (sb)), (1, .ref (ad 0)), (2, .ref (ad 19)), (3, .ref (ad 33))]) hx hb d_L_law_1294 hl (by decide) rfl (fun ls hl => ?_)
  refine lv_aload_n hx hb d_L_law_1296 rfl (lv_at hl 5 rfl) ?_
  refine z_callVR (As := []) (rest := []) zTB Z (k_M_thrown) ⟨ml_L_101, im_M_thrown, se_M_thrown, ini_M, co_M_thrown⟩ zd_M_thrown ⟨Nat.le_of_ble_eq_true rfl, Nat.le_of_ble_eq_true rfl⟩ hP hK (ci := 5) (q0 := 19) rfl rfl rfl hl.1 rfl (Nat.le_of_ble_eq_true rfl) d_L_law_1297 ⟨hc.1, hc.2⟩ ?_
  refine W.eq (g2 := F0 m 1300 ls [.int (iZ ((M1.1 : Nat) : Int))]) rfl ?_
  refine z_topZ (b := ((1 : Nat) : Int)) (by rw [hc1]) ?_
  refine lv_iload hx hb d_L_law_1300 (lv_at hl 1 rfl) ?_
  refine z_icmp_eq (a := ((1 : Nat) : Int)) (b := ((1 : Nat) : Int)) (tgt := 1307) hx hb (by omega) d_L_law_1302 (by decide) (fun q1302 => ?_) (fun q1302 => ?_)
  · skip
    refine lv_iload hx hb d_L_law_1307 (lv_at hl 1 rfl) ?_
    refine z_if_ne (a := ((1 : Nat) : Int)) (tgt := 1323) hx hb (by omega) d_L_law_1309 (by decide) (fun q1309 => ?_) (fun q1309 => ?_)
    · skip
      refine lv_goto (tgt := 1598) hx hb d_L_law_1323 (by decide) ?_
      exact kk J _ _ _ _ _ _ H locs ls ⟨hI, hM1, hR, hpq⟩ hP hD hS (lv_sub hl [2, 3, 4, 5, 6] rfl)
    · skip
      exfalso; omega
  · skip
    exfalso; omega

set_option maxHeartbeats 4000000 in
set_option maxRecDepth 100000 in
theorem lf_weight_0 {p : Program} {l : Launch} {e : Env} {s : State} {m : MethodId} {below : List Frame} {meth : Method} {c : Code} {Q : State → Prop} {sb L : Nat} {xs : Nat → Int32} {D : va_G} {A : Nat → Prop} {ad : Nat → Nat} {cI cZ cL : ClassId} {J : SJ} {rd : Nat → Int} {pr : Nat → Nat} {G : SH} {K : SK} {M : SM} {ov : Nat → Int64} {H : Heap} {locs : List Loc} {cells slots i : Nat} {ls : Array Slot} (X : LX p l s m meth c sb L xs D cI cZ cL A) (hLI : LI J rd pr M) (hi : i + 4 < L) (hc : cells + 1 ≤ 1061 ∧ slots + 6 ≤ 9679) {sh kd pt : Nat} (hsh : sh < 4) (hkd : kd < 3) (hpt : pt < 2) (ha1 : xs (i + 1) = iZ ((sh : Nat) : Int)) (ha2 : xs (i + 2) = iZ ((kd : Nat) : Int)) (ha3 : xs (i + 3) = iZ ((pt : Nat) : Int)) (hP : va_P D classes (wdC ad cI cZ cL J rd pr G K (wdM ad cI cZ cL J rd pr M ov)) H) (hD : va_D A (wdC ad cI cZ cL J rd pr G K (wdM ad cI cZ cL J rd pr M ov))) (hS : va_S A s.heap H locs) (hl : lv_has ls 8 (lwL ad sb i)) (kk : LK p l e s m below meth c Q sb D A ad cI cZ cL i (cells + 1) (slots + 6)) : W p l e room_1 s m #[Value.ref sb] below meth c H locs cells slots Q (F0 m 1247 ls []) := by
  obtain ⟨hl0, Z, hX, hbl, hK, hA, hbA, hTT, hSt, hL⟩ := X
  obtain ⟨hI, hM, hR, hpq⟩ := hLI
  obtain ⟨hx, hb, hr, hml, hown, hts, hE, hlocks⟩ := id Z
  have hn32 := hI.1
  have hk32 := hI.2.1
  have hl : lv_has ls 8 [(4, .int (iZ ((i : Nat) : Int))), (0, .ref (sb)), (1, .ref (ad 0)), (2, .ref (ad 19)), (3, .ref (ad 33))] := hl
  refine lv_aload_n hx hb d_L_law_1247 rfl (lv_at hl 2 rfl) ?_
  refine lv_aload_n hx hb d_L_law_1248 rfl (lv_at hl 1 rfl) ?_
  refine lv_iload hx hb d_L_law_1249 (lv_at hl 0 rfl) ?_
  refine lv_iconst (v := iZ ((1 : Nat) : Int)) hx hb d_L_law_1251 (by decide) ?_
  refine z_iaddN (u := i) (v := 1) hx hb d_L_law_1252 ?_
  refine z_sld (v := iZ ((sh : Nat) : Int)) hx hb hX hbl hbA hS (i + 1) (by omega) ha1 d_L_law_1253 ?_
  refine lv_aload_n hx hb d_L_law_1254 rfl (lv_at hl 1 rfl) ?_
  refine lv_iload hx hb d_L_law_1255 (lv_at hl 0 rfl) ?_
  refine lv_iconst (v := iZ ((2 : Nat) : Int)) hx hb d_L_law_1257 (by decide) ?_
  refine z_iaddN (u := i) (v := 2) hx hb d_L_law_1258 ?_
  refine z_sld (v := iZ ((kd : Nat) : Int)) hx hb hX hbl hbA hS (i + 2) (by omega) ha2 d_L_law_1259 ?_
  refine lv_aload_n hx hb d_L_law_1260 rfl (lv_at hl 1 rfl) ?_
  refine lv_iload hx hb d_L_law_1261 (lv_at hl 0 rfl) ?_
  refine lv_iconst (v := iZ ((3 : Nat) : Int)) hx hb d_L_law_1263 (by decide) ?_
  refine z_iaddN (u := i) (v := 3) hx hb d_L_law_1264 ?_
  refine z_sld (v := iZ ((pt : Nat) : Int)) hx hb hX hbl hbA hS (i + 3) (by omega) ha3 d_L_law_1265 ?_
  refine lv_aload_n hx hb d_L_law_1266 rfl (lv_at hl 4 rfl) ?_
  refine z_kiW (z_runSW (As := [.ref (ad 0), .int (iZ ((sh : Nat) : Int)), .int (iZ ((kd : Nat) : Int)), .int (iZ ((pt : Nat) : Int)), .ref (ad 33)]) (rest := []) Z (k_L_weight0 hI (sh := sh) (kd := kd) (pt := pt) hsh hkd hpt) ⟨ml_L_155, sm_L_weight, ini_L, co_L_weight⟩ zd_L_weight ⟨Nat.le_of_ble_eq_true rfl, Nat.le_of_ble_eq_true rfl⟩ hP hK hD (hTT _ _ hS) hSt hl.1 rfl (Nat.le_of_ble_eq_true rfl) d_L_law_1267 ⟨hc.1, hc.2⟩) hD hS hA (fun r9 w9 H locs hp9 hP hD hS => ?_)
  obtain ⟨rfl, rfl⟩ := hp9
  have hP : va_P D classes (wdC ad cI cZ cL J rd pr G K (wdM ad cI cZ cL J rd pr M (oU ov (lZ (sTP ((sKO J sh kd (jk J) : Nat) : Int) (sKO J 4 kd (jk J)) pt))))) H := hP
  have hD : va_D A (wdC ad cI cZ cL J rd pr G K (wdM ad cI cZ cL J rd pr M (oU ov (lZ (sTP ((sKO J sh kd (jk J) : Nat) : Int) (sKO J 4 kd (jk J)) pt))))) := hD
  refine W.eq (g2 := F0 m 1270 ls [.int (iZ ((0 : Nat) : Int))]) rfl ?_
  refine lv_istore (lv' := [(5, .int (iZ ((0 : Nat) : Int))), (4, .int (iZ ((i : Nat) : Int))), (0, .ref (sb)), (1, .ref (ad 0)), (2, .ref (ad 19)), (3, .ref (ad 33))]) hx hb d_L_law_1270 hl (by decide) rfl (fun ls hl => ?_)
  refine lv_aload_n hx hb d_L_law_1272 rfl (lv_at hl 4 rfl) ?_
  refine lv_aload_n hx hb d_L_law_1273 rfl (lv_at hl 2 rfl) ?_
  refine lv_iload hx hb d_L_law_1274 (lv_at hl 1 rfl) ?_
  refine lv_iconst (v := iZ ((1 : Nat) : Int)) hx hb d_L_law_1276 (by decide) ?_
  refine z_iaddN (u := i) (v := 1) hx hb d_L_law_1277 ?_
  refine z_sld (v := iZ ((sh : Nat) : Int)) hx hb hX hbl hbA hS (i + 1) (by omega) ha1 d_L_law_1278 ?_
  refine lv_aload_n hx hb d_L_law_1279 rfl (lv_at hl 2 rfl) ?_
  refine lv_iload hx hb d_L_law_1280 (lv_at hl 1 rfl) ?_
  refine lv_iconst (v := iZ ((2 : Nat) : Int)) hx hb d_L_law_1282 (by decide) ?_
  refine z_iaddN (u := i) (v := 2) hx hb d_L_law_1283 ?_
  refine z_sld (v := iZ ((kd : Nat) : Int)) hx hb hX hbl hbA hS (i + 2) (by omega) ha2 d_L_law_1284 ?_
  refine lv_aload_n hx hb d_L_law_1285 rfl (lv_at hl 2 rfl) ?_
  refine lv_iload hx hb d_L_law_1286 (lv_at hl 1 rfl) ?_
  refine lv_iconst (v := iZ ((3 : Nat) : Int)) hx hb d_L_law_1288 (by decide) ?_
  refine z_iaddN (u := i) (v := 3) hx hb d_L_law_1289 ?_
  refine z_sld (v := iZ ((pt : Nat) : Int)) hx hb hX hbl hbA hS (i + 3) (by omega) ha3 d_L_law_1290 ?_
  refine z_kl (z_runV (As := [.int (iZ ((sh : Nat) : Int)), .int (iZ ((kd : Nat) : Int)), .int (iZ ((pt : Nat) : Int))]) (rest := []) zTB Z (k_M_weight0 hI hM hsh hkd hpt) ⟨ml_L_157, im_M_weight, se_M_weight, ini_M, co_M_weight⟩ zd_M_weight ⟨Nat.le_of_ble_eq_true rfl, Nat.le_of_ble_eq_true rfl⟩ hP hK hD (ci := 5) (q0 := 19) rfl rfl rfl hl.1 rfl (Nat.le_of_ble_eq_true rfl) d_L_law_1291 ⟨hc.1, hc.2⟩) hD hS hA (fun r9 w9 H locs hp9 hP hD hS => ?_)
  obtain ⟨M1, rfl, rfl, hc1, hM1⟩ := hp9
  have hP : va_P D classes (wdC ad cI cZ cL J rd pr G K (wdM ad cI cZ cL J rd pr M1 (oU ov (lZ (sTP ((sKO J sh kd (jk J) : Nat) : Int) (sKO J 4 kd (jk J)) pt))))) H := hP
  have hD : va_D A (wdC ad cI cZ cL J rd pr G K (wdM ad cI cZ cL J rd pr M1 (oU ov (lZ (sTP ((sKO J sh kd (jk J) : Nat) : Int) (sKO J 4 kd (jk J)) pt))))) := hD
  refine W.eq (g2 := F0 m 1294 ls [.long (lZ (sTP ((sKO J sh kd (jk J) : Nat) : Int) (sKO J 4 kd (jk J)) pt))]) rfl ?_
  refine lv_lstore (lv' := [(6, .long (lZ (sTP ((sKO J sh kd (jk J) : Nat) : Int) (sKO J 4 kd (jk J)) pt))), (5, .int (iZ ((0 : Nat) : Int))), (4, .int (iZ ((i : Nat) : Int))), (0, .ref (sb)), (1, .ref (ad 0)), (2, .ref (ad 19)), (3, .ref (ad 33))]) hx hb d_L_law_1294 hl (by decide) rfl (fun ls hl => ?_)
  refine lv_aload_n hx hb d_L_law_1296 rfl (lv_at hl 5 rfl) ?_
  refine z_callVR (As := []) (rest := []) zTB Z (k_M_thrown) ⟨ml_L_101, im_M_thrown, se_M_thrown, ini_M, co_M_thrown⟩ zd_M_thrown ⟨Nat.le_of_ble_eq_true rfl, Nat.le_of_ble_eq_true rfl⟩ hP hK (ci := 5) (q0 := 19) rfl rfl rfl hl.1 rfl (Nat.le_of_ble_eq_true rfl) d_L_law_1297 ⟨hc.1, hc.2⟩ ?_
  refine W.eq (g2 := F0 m 1300 ls [.int (iZ ((M1.1 : Nat) : Int))]) rfl ?_
  refine z_topZ (b := ((0 : Nat) : Int)) (by rw [hc1]) ?_
  refine lv_iload hx hb d_L_law_1300 (lv_at hl 1 rfl) ?_
  refine z_icmp_eq (a := ((0 : Nat) : Int)) (b := ((0 : Nat) : Int)) (tgt := 1307) hx hb (by omega) d_L_law_1302 (by decide) (fun q1302 => ?_) (fun q1302 => ?_)
  · skip
    refine lv_iload hx hb d_L_law_1307 (lv_at hl 1 rfl) ?_
    refine z_if_ne (a := ((0 : Nat) : Int)) (tgt := 1323) hx hb (by omega) d_L_law_1309 (by decide) (fun q1309 => ?_) (fun q1309 => ?_)
    · skip
      exfalso; omega
    · skip
      refine lv_aload_n hx hb d_L_law_1312 rfl (lv_at hl 6 rfl) ?_
      refine lv_iconst (v := iZ ((0 : Nat) : Int)) hx hb d_L_law_1313 (by decide) ?_
      refine z_old (x := lZ (sTP ((sKO J sh kd (jk J) : Nat) : Int) (sKO J 4 kd (jk J)) pt)) hx hb hK hP 33 2 rfl rfl d_L_law_1314 ?_
      refine lv_lload hx hb d_L_law_1315 (lv_at hl 0 rfl) ?_
      refine z_lcmpR_eq (tgt := 1323) (pc1 := 1318) (pc4 := 1321) hx hb d_L_law_1317 rfl rfl d_L_law_1318 (by decide) (fun q1317 => ?_) (fun q1317 => ?_)
      · skip
        refine lv_goto (tgt := 1598) hx hb d_L_law_1323 (by decide) ?_
        exact kk J _ _ _ _ _ _ H locs ls ⟨hI, hM1, hR, hpq⟩ hP hD hS (lv_sub hl [2, 3, 4, 5, 6] rfl)
      · skip
        exact absurd rfl q1317
  · skip
    exfalso; omega

set_option maxHeartbeats 4000000 in
set_option maxRecDepth 100000 in
theorem lf_reader_x1 {p : Program} {l : Launch} {e : Env} {s : State} {m : MethodId} {below : List Frame} {meth : Method} {c : Code} {Q : State → Prop} {sb L : Nat} {xs : Nat → Int32} {D : va_G} {A : Nat → Prop} {ad : Nat → Nat} {cI cZ cL : ClassId} {J : SJ} {rd : Nat → Int} {pr : Nat → Nat} {G : SH} {K : SK} {M : SM} {ov : Nat → Int64} {H : Heap} {locs : List Loc} {cells slots i : Nat} {ls : Array Slot} (X : LX p l s m meth c sb L xs D cI cZ cL A) (hLI : LI J rd pr M) (hi : i + 4 < L) (hc : cells + 1 ≤ 1061 ∧ slots + 6 ≤ 9679) {a b c9 : Int} (h : z32 a ∧ (a < 0 ∨ ((jn J : Nat) : Int) ≤ a)) (hz : z32 b ∧ z32 c9) (ha1 : xs (i + 1) = iZ (a)) (ha2 : xs (i + 2) = iZ (b)) (ha3 : xs (i + 3) = iZ (c9)) (hP : va_P D classes (wdC ad cI cZ cL J rd pr G K (wdM ad cI cZ cL J rd pr M ov)) H) (hD : va_D A (wdC ad cI cZ cL J rd pr G K (wdM ad cI cZ cL J rd pr M ov))) (hS : va_S A s.heap H locs) (hl : lv_has ls 8 (lwL ad sb i)) (kk : LK p l e s m below meth c Q sb D A ad cI cZ cL i (cells + 1) (slots + 6)) : W p l e room_1 s m #[Value.ref sb] below meth c H locs cells slots Q (F0 m 1393 ls []) := by
  obtain ⟨hl0, Z, hX, hbl, hK, hA, hbA, hTT, hSt, hL⟩ := X
  obtain ⟨hI, hM, hR, hpq⟩ := hLI
  obtain ⟨hx, hb, hr, hml, hown, hts, hE, hlocks⟩ := id Z
  have hn32 := hI.1
  have hk32 := hI.2.1
  have hl : lv_has ls 8 [(4, .int (iZ ((i : Nat) : Int))), (0, .ref (sb)), (1, .ref (ad 0)), (2, .ref (ad 19)), (3, .ref (ad 33))] := hl
  refine lv_aload_n hx hb d_L_law_1393 rfl (lv_at hl 2 rfl) ?_
  refine lv_aload_n hx hb d_L_law_1394 rfl (lv_at hl 1 rfl) ?_
  refine lv_iload hx hb d_L_law_1395 (lv_at hl 0 rfl) ?_
  refine lv_iconst (v := iZ ((1 : Nat) : Int)) hx hb d_L_law_1397 (by decide) ?_
  refine z_iaddN (u := i) (v := 1) hx hb d_L_law_1398 ?_
  refine z_sld (v := iZ (a)) hx hb hX hbl hbA hS (i + 1) (by omega) ha1 d_L_law_1399 ?_
  refine lv_aload_n hx hb d_L_law_1400 rfl (lv_at hl 1 rfl) ?_
  refine lv_iload hx hb d_L_law_1401 (lv_at hl 0 rfl) ?_
  refine lv_iconst (v := iZ ((2 : Nat) : Int)) hx hb d_L_law_1403 (by decide) ?_
  refine z_iaddN (u := i) (v := 2) hx hb d_L_law_1404 ?_
  refine z_sld (v := iZ (b)) hx hb hX hbl hbA hS (i + 2) (by omega) ha2 d_L_law_1405 ?_
  refine lv_aload_n hx hb d_L_law_1406 rfl (lv_at hl 1 rfl) ?_
  refine lv_iload hx hb d_L_law_1407 (lv_at hl 0 rfl) ?_
  refine lv_iconst (v := iZ ((3 : Nat) : Int)) hx hb d_L_law_1409 (by decide) ?_
  refine z_iaddN (u := i) (v := 3) hx hb d_L_law_1410 ?_
  refine z_sld (v := iZ (c9)) hx hb hX hbl hbA hS (i + 3) (by omega) ha3 d_L_law_1411 ?_
  refine lv_aload_n hx hb d_L_law_1412 rfl (lv_at hl 4 rfl) ?_
  refine z_kiW (z_runSW (As := [.ref (ad 0), .int (iZ (a)), .int (iZ (b)), .int (iZ (c9)), .ref (ad 33)]) (rest := []) Z (k_L_readerx1 hl0 hI (a := a) (b := b) (c9 := c9) h) ⟨ml_L_161, sm_L_reader, ini_L, co_L_reader⟩ zd_L_reader ⟨Nat.le_of_ble_eq_true rfl, Nat.le_of_ble_eq_true rfl⟩ hP hK hD (hTT _ _ hS) hSt hl.1 rfl (Nat.le_of_ble_eq_true rfl) d_L_law_1413 ⟨hc.1, hc.2⟩) hD hS hA (fun r9 w9 H locs hp9 hP hD hS => ?_)
  obtain ⟨rfl, rfl⟩ := hp9
  have hP : va_P D classes (wdC ad cI cZ cL J rd pr G K (wdM ad cI cZ cL J rd pr M ov)) H := hP
  have hD : va_D A (wdC ad cI cZ cL J rd pr G K (wdM ad cI cZ cL J rd pr M ov)) := hD
  refine W.eq (g2 := F0 m 1416 ls [.int (iZ ((1 : Nat) : Int))]) rfl ?_
  refine lv_istore (lv' := [(5, .int (iZ ((1 : Nat) : Int))), (4, .int (iZ ((i : Nat) : Int))), (0, .ref (sb)), (1, .ref (ad 0)), (2, .ref (ad 19)), (3, .ref (ad 33))]) hx hb d_L_law_1416 hl (by decide) rfl (fun ls hl => ?_)
  refine lv_aload_n hx hb d_L_law_1418 rfl (lv_at hl 4 rfl) ?_
  refine lv_aload_n hx hb d_L_law_1419 rfl (lv_at hl 2 rfl) ?_
  refine lv_iload hx hb d_L_law_1420 (lv_at hl 1 rfl) ?_
  refine lv_iconst (v := iZ ((1 : Nat) : Int)) hx hb d_L_law_1422 (by decide) ?_
  refine z_iaddN (u := i) (v := 1) hx hb d_L_law_1423 ?_
  refine z_sld (v := iZ (a)) hx hb hX hbl hbA hS (i + 1) (by omega) ha1 d_L_law_1424 ?_
  refine lv_aload_n hx hb d_L_law_1425 rfl (lv_at hl 2 rfl) ?_
  refine lv_iload hx hb d_L_law_1426 (lv_at hl 1 rfl) ?_
  refine lv_iconst (v := iZ ((2 : Nat) : Int)) hx hb d_L_law_1428 (by decide) ?_
  refine z_iaddN (u := i) (v := 2) hx hb d_L_law_1429 ?_
  refine z_sld (v := iZ (b)) hx hb hX hbl hbA hS (i + 2) (by omega) ha2 d_L_law_1430 ?_
  refine lv_aload_n hx hb d_L_law_1431 rfl (lv_at hl 2 rfl) ?_
  refine lv_iload hx hb d_L_law_1432 (lv_at hl 1 rfl) ?_
  refine lv_iconst (v := iZ ((3 : Nat) : Int)) hx hb d_L_law_1434 (by decide) ?_
  refine z_iaddN (u := i) (v := 3) hx hb d_L_law_1435 ?_
  refine z_sld (v := iZ (c9)) hx hb hX hbl hbA hS (i + 3) (by omega) ha3 d_L_law_1436 ?_
  refine z_ki (z_runV (As := [.int (iZ (a)), .int (iZ (b)), .int (iZ (c9))]) (rest := []) zTB Z (k_M_readerx1 hI hM (a := a) (b := b) (c9 := c9) (by omega)) ⟨ml_L_163, im_M_reader, se_M_reader, ini_M, co_M_reader⟩ zd_M_reader ⟨Nat.le_of_ble_eq_true rfl, Nat.le_of_ble_eq_true rfl⟩ hP hK hD (ci := 5) (q0 := 19) rfl rfl rfl hl.1 rfl (Nat.le_of_ble_eq_true rfl) d_L_law_1437 ⟨hc.1, hc.2⟩) hD hS hA (fun r9 w9 H locs hp9 hP hD hS => ?_)
  obtain ⟨M1, rfl, hc1, hM1⟩ := hp9
  have hP : va_P D classes (wdC ad cI cZ cL J rd pr G K (wdM ad cI cZ cL J rd pr M1 ov)) H := hP
  have hD : va_D A (wdC ad cI cZ cL J rd pr G K (wdM ad cI cZ cL J rd pr M1 ov)) := hD
  refine W.eq (g2 := F0 m 1440 ls [.int (r9)]) rfl ?_
  refine lv_istore (lv' := [(6, .int (r9)), (5, .int (iZ ((1 : Nat) : Int))), (4, .int (iZ ((i : Nat) : Int))), (0, .ref (sb)), (1, .ref (ad 0)), (2, .ref (ad 19)), (3, .ref (ad 33))]) hx hb d_L_law_1440 hl (by decide) rfl (fun ls hl => ?_)
  refine lv_aload_n hx hb d_L_law_1442 rfl (lv_at hl 5 rfl) ?_
  refine z_callVR (As := []) (rest := []) zTB Z (k_M_thrown) ⟨ml_L_101, im_M_thrown, se_M_thrown, ini_M, co_M_thrown⟩ zd_M_thrown ⟨Nat.le_of_ble_eq_true rfl, Nat.le_of_ble_eq_true rfl⟩ hP hK (ci := 5) (q0 := 19) rfl rfl rfl hl.1 rfl (Nat.le_of_ble_eq_true rfl) d_L_law_1443 ⟨hc.1, hc.2⟩ ?_
  refine W.eq (g2 := F0 m 1446 ls [.int (iZ ((M1.1 : Nat) : Int))]) rfl ?_
  refine z_topZ (b := ((1 : Nat) : Int)) (by rw [hc1]) ?_
  refine lv_iload hx hb d_L_law_1446 (lv_at hl 1 rfl) ?_
  refine z_icmp_eq (a := ((1 : Nat) : Int)) (b := ((1 : Nat) : Int)) (tgt := 1453) hx hb (by omega) d_L_law_1448 (by decide) (fun q1448 => ?_) (fun q1448 => ?_)
  · skip
    refine lv_iload hx hb d_L_law_1453 (lv_at hl 1 rfl) ?_
    refine z_if_ne (a := ((1 : Nat) : Int)) (tgt := 1477) hx hb (by omega) d_L_law_1455 (by decide) (fun q1455 => ?_) (fun q1455 => ?_)
    · skip
      refine lv_goto (tgt := 1598) hx hb d_L_law_1477 (by decide) ?_
      exact kk J _ _ _ _ _ _ H locs ls ⟨hI, hM1, hR, hpq⟩ hP hD hS (lv_sub hl [2, 3, 4, 5, 6] rfl)
    · skip
      exfalso; omega
  · skip
    exfalso; omega

set_option maxHeartbeats 4000000 in
set_option maxRecDepth 100000 in
theorem lf_reader_x2 {p : Program} {l : Launch} {e : Env} {s : State} {m : MethodId} {below : List Frame} {meth : Method} {c : Code} {Q : State → Prop} {sb L : Nat} {xs : Nat → Int32} {D : va_G} {A : Nat → Prop} {ad : Nat → Nat} {cI cZ cL : ClassId} {J : SJ} {rd : Nat → Int} {pr : Nat → Nat} {G : SH} {K : SK} {M : SM} {ov : Nat → Int64} {H : Heap} {locs : List Loc} {cells slots i : Nat} {ls : Array Slot} (X : LX p l s m meth c sb L xs D cI cZ cL A) (hLI : LI J rd pr M) (hi : i + 4 < L) (hc : cells + 1 ≤ 1061 ∧ slots + 6 ≤ 9679) {h : Nat} {b c9 : Int} (hh : h < jn J) (h2 : z32 b ∧ (b < 0 ∨ 2 ≤ b)) (ha1 : xs (i + 1) = iZ ((h : Nat) : Int)) (ha2 : xs (i + 2) = iZ (b)) (ha3 : xs (i + 3) = iZ (c9)) (hP : va_P D classes (wdC ad cI cZ cL J rd pr G K (wdM ad cI cZ cL J rd pr M ov)) H) (hD : va_D A (wdC ad cI cZ cL J rd pr G K (wdM ad cI cZ cL J rd pr M ov))) (hS : va_S A s.heap H locs) (hl : lv_has ls 8 (lwL ad sb i)) (kk : LK p l e s m below meth c Q sb D A ad cI cZ cL i (cells + 1) (slots + 6)) : W p l e room_1 s m #[Value.ref sb] below meth c H locs cells slots Q (F0 m 1393 ls []) := by
  obtain ⟨hl0, Z, hX, hbl, hK, hA, hbA, hTT, hSt, hL⟩ := X
  obtain ⟨hI, hM, hR, hpq⟩ := hLI
  obtain ⟨hx, hb, hr, hml, hown, hts, hE, hlocks⟩ := id Z
  have hn32 := hI.1
  have hk32 := hI.2.1
  have hl : lv_has ls 8 [(4, .int (iZ ((i : Nat) : Int))), (0, .ref (sb)), (1, .ref (ad 0)), (2, .ref (ad 19)), (3, .ref (ad 33))] := hl
  refine lv_aload_n hx hb d_L_law_1393 rfl (lv_at hl 2 rfl) ?_
  refine lv_aload_n hx hb d_L_law_1394 rfl (lv_at hl 1 rfl) ?_
  refine lv_iload hx hb d_L_law_1395 (lv_at hl 0 rfl) ?_
  refine lv_iconst (v := iZ ((1 : Nat) : Int)) hx hb d_L_law_1397 (by decide) ?_
  refine z_iaddN (u := i) (v := 1) hx hb d_L_law_1398 ?_
  refine z_sld (v := iZ ((h : Nat) : Int)) hx hb hX hbl hbA hS (i + 1) (by omega) ha1 d_L_law_1399 ?_
  refine lv_aload_n hx hb d_L_law_1400 rfl (lv_at hl 1 rfl) ?_
  refine lv_iload hx hb d_L_law_1401 (lv_at hl 0 rfl) ?_
  refine lv_iconst (v := iZ ((2 : Nat) : Int)) hx hb d_L_law_1403 (by decide) ?_
  refine z_iaddN (u := i) (v := 2) hx hb d_L_law_1404 ?_
  refine z_sld (v := iZ (b)) hx hb hX hbl hbA hS (i + 2) (by omega) ha2 d_L_law_1405 ?_
  refine lv_aload_n hx hb d_L_law_1406 rfl (lv_at hl 1 rfl) ?_
  refine lv_iload hx hb d_L_law_1407 (lv_at hl 0 rfl) ?_
  refine lv_iconst (v := iZ ((3 : Nat) : Int)) hx hb d_L_law_1409 (by decide) ?_
  refine z_iaddN (u := i) (v := 3) hx hb d_L_law_1410 ?_
  refine z_sld (v := iZ (c9)) hx hb hX hbl hbA hS (i + 3) (by omega) ha3 d_L_law_1411 ?_
  refine lv_aload_n hx hb d_L_law_1412 rfl (lv_at hl 4 rfl) ?_
  refine z_kiW (z_runSW (As := [.ref (ad 0), .int (iZ ((h : Nat) : Int)), .int (iZ (b)), .int (iZ (c9)), .ref (ad 33)]) (rest := []) Z (k_L_readerx2 hl0 hI (h := h) (b := b) (c9 := c9) hh h2) ⟨ml_L_161, sm_L_reader, ini_L, co_L_reader⟩ zd_L_reader ⟨Nat.le_of_ble_eq_true rfl, Nat.le_of_ble_eq_true rfl⟩ hP hK hD (hTT _ _ hS) hSt hl.1 rfl (Nat.le_of_ble_eq_true rfl) d_L_law_1413 ⟨hc.1, hc.2⟩) hD hS hA (fun r9 w9 H locs hp9 hP hD hS => ?_)
  obtain ⟨rfl, rfl⟩ := hp9
  have hP : va_P D classes (wdC ad cI cZ cL J rd pr G K (wdM ad cI cZ cL J rd pr M ov)) H := hP
  have hD : va_D A (wdC ad cI cZ cL J rd pr G K (wdM ad cI cZ cL J rd pr M ov)) := hD
  refine W.eq (g2 := F0 m 1416 ls [.int (iZ ((1 : Nat) : Int))]) rfl ?_
  refine lv_istore (lv' := [(5, .int (iZ ((1 : Nat) : Int))), (4, .int (iZ ((i : Nat) : Int))), (0, .ref (sb)), (1, .ref (ad 0)), (2, .ref (ad 19)), (3, .ref (ad 33))]) hx hb d_L_law_1416 hl (by decide) rfl (fun ls hl => ?_)
  refine lv_aload_n hx hb d_L_law_1418 rfl (lv_at hl 4 rfl) ?_
  refine lv_aload_n hx hb d_L_law_1419 rfl (lv_at hl 2 rfl) ?_
  refine lv_iload hx hb d_L_law_1420 (lv_at hl 1 rfl) ?_
  refine lv_iconst (v := iZ ((1 : Nat) : Int)) hx hb d_L_law_1422 (by decide) ?_
  refine z_iaddN (u := i) (v := 1) hx hb d_L_law_1423 ?_
  refine z_sld (v := iZ ((h : Nat) : Int)) hx hb hX hbl hbA hS (i + 1) (by omega) ha1 d_L_law_1424 ?_
  refine lv_aload_n hx hb d_L_law_1425 rfl (lv_at hl 2 rfl) ?_
  refine lv_iload hx hb d_L_law_1426 (lv_at hl 1 rfl) ?_
  refine lv_iconst (v := iZ ((2 : Nat) : Int)) hx hb d_L_law_1428 (by decide) ?_
  refine z_iaddN (u := i) (v := 2) hx hb d_L_law_1429 ?_
  refine z_sld (v := iZ (b)) hx hb hX hbl hbA hS (i + 2) (by omega) ha2 d_L_law_1430 ?_
  refine lv_aload_n hx hb d_L_law_1431 rfl (lv_at hl 2 rfl) ?_
  refine lv_iload hx hb d_L_law_1432 (lv_at hl 1 rfl) ?_
  refine lv_iconst (v := iZ ((3 : Nat) : Int)) hx hb d_L_law_1434 (by decide) ?_
  refine z_iaddN (u := i) (v := 3) hx hb d_L_law_1435 ?_
  refine z_sld (v := iZ (c9)) hx hb hX hbl hbA hS (i + 3) (by omega) ha3 d_L_law_1436 ?_
  refine z_ki (z_runV (As := [.int (iZ ((h : Nat) : Int)), .int (iZ (b)), .int (iZ (c9))]) (rest := []) zTB Z (k_M_readerx1 hI hM (a := ((h : Nat) : Int)) (b := b) (c9 := c9) (by omega)) ⟨ml_L_163, im_M_reader, se_M_reader, ini_M, co_M_reader⟩ zd_M_reader ⟨Nat.le_of_ble_eq_true rfl, Nat.le_of_ble_eq_true rfl⟩ hP hK hD (ci := 5) (q0 := 19) rfl rfl rfl hl.1 rfl (Nat.le_of_ble_eq_true rfl) d_L_law_1437 ⟨hc.1, hc.2⟩) hD hS hA (fun r9 w9 H locs hp9 hP hD hS => ?_)
  obtain ⟨M1, rfl, hc1, hM1⟩ := hp9
  have hP : va_P D classes (wdC ad cI cZ cL J rd pr G K (wdM ad cI cZ cL J rd pr M1 ov)) H := hP
  have hD : va_D A (wdC ad cI cZ cL J rd pr G K (wdM ad cI cZ cL J rd pr M1 ov)) := hD
  refine W.eq (g2 := F0 m 1440 ls [.int (r9)]) rfl ?_
  refine lv_istore (lv' := [(6, .int (r9)), (5, .int (iZ ((1 : Nat) : Int))), (4, .int (iZ ((i : Nat) : Int))), (0, .ref (sb)), (1, .ref (ad 0)), (2, .ref (ad 19)), (3, .ref (ad 33))]) hx hb d_L_law_1440 hl (by decide) rfl (fun ls hl => ?_)
  refine lv_aload_n hx hb d_L_law_1442 rfl (lv_at hl 5 rfl) ?_
  refine z_callVR (As := []) (rest := []) zTB Z (k_M_thrown) ⟨ml_L_101, im_M_thrown, se_M_thrown, ini_M, co_M_thrown⟩ zd_M_thrown ⟨Nat.le_of_ble_eq_true rfl, Nat.le_of_ble_eq_true rfl⟩ hP hK (ci := 5) (q0 := 19) rfl rfl rfl hl.1 rfl (Nat.le_of_ble_eq_true rfl) d_L_law_1443 ⟨hc.1, hc.2⟩ ?_
  refine W.eq (g2 := F0 m 1446 ls [.int (iZ ((M1.1 : Nat) : Int))]) rfl ?_
  refine z_topZ (b := ((1 : Nat) : Int)) (by rw [hc1]) ?_
  refine lv_iload hx hb d_L_law_1446 (lv_at hl 1 rfl) ?_
  refine z_icmp_eq (a := ((1 : Nat) : Int)) (b := ((1 : Nat) : Int)) (tgt := 1453) hx hb (by omega) d_L_law_1448 (by decide) (fun q1448 => ?_) (fun q1448 => ?_)
  · skip
    refine lv_iload hx hb d_L_law_1453 (lv_at hl 1 rfl) ?_
    refine z_if_ne (a := ((1 : Nat) : Int)) (tgt := 1477) hx hb (by omega) d_L_law_1455 (by decide) (fun q1455 => ?_) (fun q1455 => ?_)
    · skip
      refine lv_goto (tgt := 1598) hx hb d_L_law_1477 (by decide) ?_
      exact kk J _ _ _ _ _ _ H locs ls ⟨hI, hM1, hR, hpq⟩ hP hD hS (lv_sub hl [2, 3, 4, 5, 6] rfl)
    · skip
      exfalso; omega
  · skip
    exfalso; omega

set_option maxHeartbeats 4000000 in
set_option maxRecDepth 100000 in
theorem lf_reader_x3 {p : Program} {l : Launch} {e : Env} {s : State} {m : MethodId} {below : List Frame} {meth : Method} {c : Code} {Q : State → Prop} {sb L : Nat} {xs : Nat → Int32} {D : va_G} {A : Nat → Prop} {ad : Nat → Nat} {cI cZ cL : ClassId} {J : SJ} {rd : Nat → Int} {pr : Nat → Nat} {G : SH} {K : SK} {M : SM} {ov : Nat → Int64} {H : Heap} {locs : List Loc} {cells slots i : Nat} {ls : Array Slot} (X : LX p l s m meth c sb L xs D cI cZ cL A) (hLI : LI J rd pr M) (hi : i + 4 < L) (hc : cells + 1 ≤ 1061 ∧ slots + 6 ≤ 9679) {h rr : Nat} {c9 : Int} (hh : h < jn J) (hrr : rr < 2) (h2 : z32 c9 ∧ (c9 < 0 ∨ 100000 < c9)) (ha1 : xs (i + 1) = iZ ((h : Nat) : Int)) (ha2 : xs (i + 2) = iZ ((rr : Nat) : Int)) (ha3 : xs (i + 3) = iZ (c9)) (hP : va_P D classes (wdC ad cI cZ cL J rd pr G K (wdM ad cI cZ cL J rd pr M ov)) H) (hD : va_D A (wdC ad cI cZ cL J rd pr G K (wdM ad cI cZ cL J rd pr M ov))) (hS : va_S A s.heap H locs) (hl : lv_has ls 8 (lwL ad sb i)) (kk : LK p l e s m below meth c Q sb D A ad cI cZ cL i (cells + 1) (slots + 6)) : W p l e room_1 s m #[Value.ref sb] below meth c H locs cells slots Q (F0 m 1393 ls []) := by
  obtain ⟨hl0, Z, hX, hbl, hK, hA, hbA, hTT, hSt, hL⟩ := X
  obtain ⟨hI, hM, hR, hpq⟩ := hLI
  obtain ⟨hx, hb, hr, hml, hown, hts, hE, hlocks⟩ := id Z
  have hn32 := hI.1
  have hk32 := hI.2.1
  have hl : lv_has ls 8 [(4, .int (iZ ((i : Nat) : Int))), (0, .ref (sb)), (1, .ref (ad 0)), (2, .ref (ad 19)), (3, .ref (ad 33))] := hl
  refine lv_aload_n hx hb d_L_law_1393 rfl (lv_at hl 2 rfl) ?_
  refine lv_aload_n hx hb d_L_law_1394 rfl (lv_at hl 1 rfl) ?_
  refine lv_iload hx hb d_L_law_1395 (lv_at hl 0 rfl) ?_
  refine lv_iconst (v := iZ ((1 : Nat) : Int)) hx hb d_L_law_1397 (by decide) ?_
  refine z_iaddN (u := i) (v := 1) hx hb d_L_law_1398 ?_
  refine z_sld (v := iZ ((h : Nat) : Int)) hx hb hX hbl hbA hS (i + 1) (by omega) ha1 d_L_law_1399 ?_
  refine lv_aload_n hx hb d_L_law_1400 rfl (lv_at hl 1 rfl) ?_
  refine lv_iload hx hb d_L_law_1401 (lv_at hl 0 rfl) ?_
  refine lv_iconst (v := iZ ((2 : Nat) : Int)) hx hb d_L_law_1403 (by decide) ?_
  refine z_iaddN (u := i) (v := 2) hx hb d_L_law_1404 ?_
  refine z_sld (v := iZ ((rr : Nat) : Int)) hx hb hX hbl hbA hS (i + 2) (by omega) ha2 d_L_law_1405 ?_
  refine lv_aload_n hx hb d_L_law_1406 rfl (lv_at hl 1 rfl) ?_
  refine lv_iload hx hb d_L_law_1407 (lv_at hl 0 rfl) ?_
  refine lv_iconst (v := iZ ((3 : Nat) : Int)) hx hb d_L_law_1409 (by decide) ?_
  refine z_iaddN (u := i) (v := 3) hx hb d_L_law_1410 ?_
  refine z_sld (v := iZ (c9)) hx hb hX hbl hbA hS (i + 3) (by omega) ha3 d_L_law_1411 ?_
  refine lv_aload_n hx hb d_L_law_1412 rfl (lv_at hl 4 rfl) ?_
  refine z_kiW (z_runSW (As := [.ref (ad 0), .int (iZ ((h : Nat) : Int)), .int (iZ ((rr : Nat) : Int)), .int (iZ (c9)), .ref (ad 33)]) (rest := []) Z (k_L_readerx3 hl0 hI (h := h) (rr := rr) (c9 := c9) hh hrr h2) ⟨ml_L_161, sm_L_reader, ini_L, co_L_reader⟩ zd_L_reader ⟨Nat.le_of_ble_eq_true rfl, Nat.le_of_ble_eq_true rfl⟩ hP hK hD (hTT _ _ hS) hSt hl.1 rfl (Nat.le_of_ble_eq_true rfl) d_L_law_1413 ⟨hc.1, hc.2⟩) hD hS hA (fun r9 w9 H locs hp9 hP hD hS => ?_)
  obtain ⟨rfl, rfl⟩ := hp9
  have hP : va_P D classes (wdC ad cI cZ cL J rd pr G K (wdM ad cI cZ cL J rd pr M ov)) H := hP
  have hD : va_D A (wdC ad cI cZ cL J rd pr G K (wdM ad cI cZ cL J rd pr M ov)) := hD
  refine W.eq (g2 := F0 m 1416 ls [.int (iZ ((2 : Nat) : Int))]) rfl ?_
  refine lv_istore (lv' := [(5, .int (iZ ((2 : Nat) : Int))), (4, .int (iZ ((i : Nat) : Int))), (0, .ref (sb)), (1, .ref (ad 0)), (2, .ref (ad 19)), (3, .ref (ad 33))]) hx hb d_L_law_1416 hl (by decide) rfl (fun ls hl => ?_)
  refine lv_aload_n hx hb d_L_law_1418 rfl (lv_at hl 4 rfl) ?_
  refine lv_aload_n hx hb d_L_law_1419 rfl (lv_at hl 2 rfl) ?_
  refine lv_iload hx hb d_L_law_1420 (lv_at hl 1 rfl) ?_
  refine lv_iconst (v := iZ ((1 : Nat) : Int)) hx hb d_L_law_1422 (by decide) ?_
  refine z_iaddN (u := i) (v := 1) hx hb d_L_law_1423 ?_
  refine z_sld (v := iZ ((h : Nat) : Int)) hx hb hX hbl hbA hS (i + 1) (by omega) ha1 d_L_law_1424 ?_
  refine lv_aload_n hx hb d_L_law_1425 rfl (lv_at hl 2 rfl) ?_
  refine lv_iload hx hb d_L_law_1426 (lv_at hl 1 rfl) ?_
  refine lv_iconst (v := iZ ((2 : Nat) : Int)) hx hb d_L_law_1428 (by decide) ?_
  refine z_iaddN (u := i) (v := 2) hx hb d_L_law_1429 ?_
  refine z_sld (v := iZ ((rr : Nat) : Int)) hx hb hX hbl hbA hS (i + 2) (by omega) ha2 d_L_law_1430 ?_
  refine lv_aload_n hx hb d_L_law_1431 rfl (lv_at hl 2 rfl) ?_
  refine lv_iload hx hb d_L_law_1432 (lv_at hl 1 rfl) ?_
  refine lv_iconst (v := iZ ((3 : Nat) : Int)) hx hb d_L_law_1434 (by decide) ?_
  refine z_iaddN (u := i) (v := 3) hx hb d_L_law_1435 ?_
  refine z_sld (v := iZ (c9)) hx hb hX hbl hbA hS (i + 3) (by omega) ha3 d_L_law_1436 ?_
  refine z_ki (z_runV (As := [.int (iZ ((h : Nat) : Int)), .int (iZ ((rr : Nat) : Int)), .int (iZ (c9))]) (rest := []) zTB Z (k_M_readerx2 hI hM (h := h) (rr := rr) (c9 := c9) hh hrr h2) ⟨ml_L_163, im_M_reader, se_M_reader, ini_M, co_M_reader⟩ zd_M_reader ⟨Nat.le_of_ble_eq_true rfl, Nat.le_of_ble_eq_true rfl⟩ hP hK hD (ci := 5) (q0 := 19) rfl rfl rfl hl.1 rfl (Nat.le_of_ble_eq_true rfl) d_L_law_1437 ⟨hc.1, hc.2⟩) hD hS hA (fun r9 w9 H locs hp9 hP hD hS => ?_)
  obtain ⟨M1, rfl, hc1, hM1⟩ := hp9
  have hP : va_P D classes (wdC ad cI cZ cL J rd pr G K (wdM ad cI cZ cL J rd pr M1 ov)) H := hP
  have hD : va_D A (wdC ad cI cZ cL J rd pr G K (wdM ad cI cZ cL J rd pr M1 ov)) := hD
  refine W.eq (g2 := F0 m 1440 ls [.int (r9)]) rfl ?_
  refine lv_istore (lv' := [(6, .int (r9)), (5, .int (iZ ((2 : Nat) : Int))), (4, .int (iZ ((i : Nat) : Int))), (0, .ref (sb)), (1, .ref (ad 0)), (2, .ref (ad 19)), (3, .ref (ad 33))]) hx hb d_L_law_1440 hl (by decide) rfl (fun ls hl => ?_)
  refine lv_aload_n hx hb d_L_law_1442 rfl (lv_at hl 5 rfl) ?_
  refine z_callVR (As := []) (rest := []) zTB Z (k_M_thrown) ⟨ml_L_101, im_M_thrown, se_M_thrown, ini_M, co_M_thrown⟩ zd_M_thrown ⟨Nat.le_of_ble_eq_true rfl, Nat.le_of_ble_eq_true rfl⟩ hP hK (ci := 5) (q0 := 19) rfl rfl rfl hl.1 rfl (Nat.le_of_ble_eq_true rfl) d_L_law_1443 ⟨hc.1, hc.2⟩ ?_
  refine W.eq (g2 := F0 m 1446 ls [.int (iZ ((M1.1 : Nat) : Int))]) rfl ?_
  refine z_topZ (b := ((2 : Nat) : Int)) (by rw [hc1]) ?_
  refine lv_iload hx hb d_L_law_1446 (lv_at hl 1 rfl) ?_
  refine z_icmp_eq (a := ((2 : Nat) : Int)) (b := ((2 : Nat) : Int)) (tgt := 1453) hx hb (by omega) d_L_law_1448 (by decide) (fun q1448 => ?_) (fun q1448 => ?_)
  · skip
    refine lv_iload hx hb d_L_law_1453 (lv_at hl 1 rfl) ?_
    refine z_if_ne (a := ((2 : Nat) : Int)) (tgt := 1477) hx hb (by omega) d_L_law_1455 (by decide) (fun q1455 => ?_) (fun q1455 => ?_)
    · skip
      refine lv_goto (tgt := 1598) hx hb d_L_law_1477 (by decide) ?_
      exact kk J _ _ _ _ _ _ H locs ls ⟨hI, hM1, hR, hpq⟩ hP hD hS (lv_sub hl [2, 3, 4, 5, 6] rfl)
    · skip
      exfalso; omega
  · skip
    exfalso; omega

set_option maxHeartbeats 4000000 in
set_option maxRecDepth 100000 in
theorem lf_reader_0 {p : Program} {l : Launch} {e : Env} {s : State} {m : MethodId} {below : List Frame} {meth : Method} {c : Code} {Q : State → Prop} {sb L : Nat} {xs : Nat → Int32} {D : va_G} {A : Nat → Prop} {ad : Nat → Nat} {cI cZ cL : ClassId} {J : SJ} {rd : Nat → Int} {pr : Nat → Nat} {G : SH} {K : SK} {M : SM} {ov : Nat → Int64} {H : Heap} {locs : List Loc} {cells slots i : Nat} {ls : Array Slot} (X : LX p l s m meth c sb L xs D cI cZ cL A) (hLI : LI J rd pr M) (hi : i + 4 < L) (hc : cells + 1 ≤ 1061 ∧ slots + 6 ≤ 9679) {h rr v : Nat} (hh : h < jn J) (hrr : rr < 2) (hv : v ≤ 100000) (ha1 : xs (i + 1) = iZ ((h : Nat) : Int)) (ha2 : xs (i + 2) = iZ ((rr : Nat) : Int)) (ha3 : xs (i + 3) = iZ ((v : Nat) : Int)) (hP : va_P D classes (wdC ad cI cZ cL J rd pr G K (wdM ad cI cZ cL J rd pr M ov)) H) (hD : va_D A (wdC ad cI cZ cL J rd pr G K (wdM ad cI cZ cL J rd pr M ov))) (hS : va_S A s.heap H locs) (hl : lv_has ls 8 (lwL ad sb i)) (kk : LK p l e s m below meth c Q sb D A ad cI cZ cL i (cells + 1) (slots + 6)) : W p l e room_1 s m #[Value.ref sb] below meth c H locs cells slots Q (F0 m 1393 ls []) := by
  obtain ⟨hl0, Z, hX, hbl, hK, hA, hbA, hTT, hSt, hL⟩ := X
  obtain ⟨hI, hM, hR, hpq⟩ := hLI
  obtain ⟨hx, hb, hr, hml, hown, hts, hE, hlocks⟩ := id Z
  have hn32 := hI.1
  have hk32 := hI.2.1
  have hl : lv_has ls 8 [(4, .int (iZ ((i : Nat) : Int))), (0, .ref (sb)), (1, .ref (ad 0)), (2, .ref (ad 19)), (3, .ref (ad 33))] := hl
  refine lv_aload_n hx hb d_L_law_1393 rfl (lv_at hl 2 rfl) ?_
  refine lv_aload_n hx hb d_L_law_1394 rfl (lv_at hl 1 rfl) ?_
  refine lv_iload hx hb d_L_law_1395 (lv_at hl 0 rfl) ?_
  refine lv_iconst (v := iZ ((1 : Nat) : Int)) hx hb d_L_law_1397 (by decide) ?_
  refine z_iaddN (u := i) (v := 1) hx hb d_L_law_1398 ?_
  refine z_sld (v := iZ ((h : Nat) : Int)) hx hb hX hbl hbA hS (i + 1) (by omega) ha1 d_L_law_1399 ?_
  refine lv_aload_n hx hb d_L_law_1400 rfl (lv_at hl 1 rfl) ?_
  refine lv_iload hx hb d_L_law_1401 (lv_at hl 0 rfl) ?_
  refine lv_iconst (v := iZ ((2 : Nat) : Int)) hx hb d_L_law_1403 (by decide) ?_
  refine z_iaddN (u := i) (v := 2) hx hb d_L_law_1404 ?_
  refine z_sld (v := iZ ((rr : Nat) : Int)) hx hb hX hbl hbA hS (i + 2) (by omega) ha2 d_L_law_1405 ?_
  refine lv_aload_n hx hb d_L_law_1406 rfl (lv_at hl 1 rfl) ?_
  refine lv_iload hx hb d_L_law_1407 (lv_at hl 0 rfl) ?_
  refine lv_iconst (v := iZ ((3 : Nat) : Int)) hx hb d_L_law_1409 (by decide) ?_
  refine z_iaddN (u := i) (v := 3) hx hb d_L_law_1410 ?_
  refine z_sld (v := iZ ((v : Nat) : Int)) hx hb hX hbl hbA hS (i + 3) (by omega) ha3 d_L_law_1411 ?_
  refine lv_aload_n hx hb d_L_law_1412 rfl (lv_at hl 4 rfl) ?_
  refine z_kiW (z_runSW (As := [.ref (ad 0), .int (iZ ((h : Nat) : Int)), .int (iZ ((rr : Nat) : Int)), .int (iZ ((v : Nat) : Int)), .ref (ad 33)]) (rest := []) Z (k_L_reader0 hI (h := h) (rr := rr) (v := v) hR hh hrr hv) ⟨ml_L_161, sm_L_reader, ini_L, co_L_reader⟩ zd_L_reader ⟨Nat.le_of_ble_eq_true rfl, Nat.le_of_ble_eq_true rfl⟩ hP hK hD (hTT _ _ hS) hSt hl.1 rfl (Nat.le_of_ble_eq_true rfl) d_L_law_1413 ⟨hc.1, hc.2⟩) hD hS hA (fun r9 w9 H locs hp9 hP hD hS => ?_)
  obtain ⟨rfl, rfl⟩ := hp9
  have hP : va_P D classes (wdC ad cI cZ cL J (zu rd (h * 2 + rr) ((v : Nat) : Int)) pr G K (wdM ad cI cZ cL J rd pr M (oU ov (lZ (((if (sUn (zu rd (h * 2 + rr) ((v : Nat) : Int)) h) = true then 1 else 0 : Nat)) : Int))))) H := hP
  have hD : va_D A (wdC ad cI cZ cL J (zu rd (h * 2 + rr) ((v : Nat) : Int)) pr G K (wdM ad cI cZ cL J rd pr M (oU ov (lZ (((if (sUn (zu rd (h * 2 + rr) ((v : Nat) : Int)) h) = true then 1 else 0 : Nat)) : Int))))) := hD
  refine W.eq (g2 := F0 m 1416 ls [.int (iZ ((0 : Nat) : Int))]) rfl ?_
  refine lv_istore (lv' := [(5, .int (iZ ((0 : Nat) : Int))), (4, .int (iZ ((i : Nat) : Int))), (0, .ref (sb)), (1, .ref (ad 0)), (2, .ref (ad 19)), (3, .ref (ad 33))]) hx hb d_L_law_1416 hl (by decide) rfl (fun ls hl => ?_)
  refine lv_aload_n hx hb d_L_law_1418 rfl (lv_at hl 4 rfl) ?_
  refine lv_aload_n hx hb d_L_law_1419 rfl (lv_at hl 2 rfl) ?_
  refine lv_iload hx hb d_L_law_1420 (lv_at hl 1 rfl) ?_
  refine lv_iconst (v := iZ ((1 : Nat) : Int)) hx hb d_L_law_1422 (by decide) ?_
  refine z_iaddN (u := i) (v := 1) hx hb d_L_law_1423 ?_
  refine z_sld (v := iZ ((h : Nat) : Int)) hx hb hX hbl hbA hS (i + 1) (by omega) ha1 d_L_law_1424 ?_
  refine lv_aload_n hx hb d_L_law_1425 rfl (lv_at hl 2 rfl) ?_
  refine lv_iload hx hb d_L_law_1426 (lv_at hl 1 rfl) ?_
  refine lv_iconst (v := iZ ((2 : Nat) : Int)) hx hb d_L_law_1428 (by decide) ?_
  refine z_iaddN (u := i) (v := 2) hx hb d_L_law_1429 ?_
  refine z_sld (v := iZ ((rr : Nat) : Int)) hx hb hX hbl hbA hS (i + 2) (by omega) ha2 d_L_law_1430 ?_
  refine lv_aload_n hx hb d_L_law_1431 rfl (lv_at hl 2 rfl) ?_
  refine lv_iload hx hb d_L_law_1432 (lv_at hl 1 rfl) ?_
  refine lv_iconst (v := iZ ((3 : Nat) : Int)) hx hb d_L_law_1434 (by decide) ?_
  refine z_iaddN (u := i) (v := 3) hx hb d_L_law_1435 ?_
  refine z_sld (v := iZ ((v : Nat) : Int)) hx hb hX hbl hbA hS (i + 3) (by omega) ha3 d_L_law_1436 ?_
  refine z_ki (z_runV (As := [.int (iZ ((h : Nat) : Int)), .int (iZ ((rr : Nat) : Int)), .int (iZ ((v : Nat) : Int))]) (rest := []) zTB Z (k_M_reader0 hI hM hR hh hrr hv) ⟨ml_L_163, im_M_reader, se_M_reader, ini_M, co_M_reader⟩ zd_M_reader ⟨Nat.le_of_ble_eq_true rfl, Nat.le_of_ble_eq_true rfl⟩ hP hK hD (ci := 5) (q0 := 19) rfl rfl rfl hl.1 rfl (Nat.le_of_ble_eq_true rfl) d_L_law_1437 ⟨hc.1, hc.2⟩) hD hS hA (fun r9 w9 H locs hp9 hP hD hS => ?_)
  obtain ⟨M1, rfl, rfl, hc1, hM1⟩ := hp9
  have hP : va_P D classes (wdC ad cI cZ cL J (zu rd (h * 2 + rr) ((v : Nat) : Int)) pr G K (wdM ad cI cZ cL J (zu rd (h * 2 + rr) ((v : Nat) : Int)) pr M1 (oU ov (lZ (((if (sUn (zu rd (h * 2 + rr) ((v : Nat) : Int)) h) = true then 1 else 0 : Nat)) : Int))))) H := hP
  have hD : va_D A (wdC ad cI cZ cL J (zu rd (h * 2 + rr) ((v : Nat) : Int)) pr G K (wdM ad cI cZ cL J (zu rd (h * 2 + rr) ((v : Nat) : Int)) pr M1 (oU ov (lZ (((if (sUn (zu rd (h * 2 + rr) ((v : Nat) : Int)) h) = true then 1 else 0 : Nat)) : Int))))) := hD
  refine W.eq (g2 := F0 m 1440 ls [.int (bI (sUn (zu rd (h * 2 + rr) ((v : Nat) : Int)) h))]) rfl ?_
  refine lv_istore (lv' := [(6, .int (bI (sUn (zu rd (h * 2 + rr) ((v : Nat) : Int)) h))), (5, .int (iZ ((0 : Nat) : Int))), (4, .int (iZ ((i : Nat) : Int))), (0, .ref (sb)), (1, .ref (ad 0)), (2, .ref (ad 19)), (3, .ref (ad 33))]) hx hb d_L_law_1440 hl (by decide) rfl (fun ls hl => ?_)
  refine lv_aload_n hx hb d_L_law_1442 rfl (lv_at hl 5 rfl) ?_
  refine z_callVR (As := []) (rest := []) zTB Z (k_M_thrown) ⟨ml_L_101, im_M_thrown, se_M_thrown, ini_M, co_M_thrown⟩ zd_M_thrown ⟨Nat.le_of_ble_eq_true rfl, Nat.le_of_ble_eq_true rfl⟩ hP hK (ci := 5) (q0 := 19) rfl rfl rfl hl.1 rfl (Nat.le_of_ble_eq_true rfl) d_L_law_1443 ⟨hc.1, hc.2⟩ ?_
  refine W.eq (g2 := F0 m 1446 ls [.int (iZ ((M1.1 : Nat) : Int))]) rfl ?_
  refine z_topZ (b := ((0 : Nat) : Int)) (by rw [hc1]) ?_
  refine lv_iload hx hb d_L_law_1446 (lv_at hl 1 rfl) ?_
  refine z_icmp_eq (a := ((0 : Nat) : Int)) (b := ((0 : Nat) : Int)) (tgt := 1453) hx hb (by omega) d_L_law_1448 (by decide) (fun q1448 => ?_) (fun q1448 => ?_)
  · skip
    refine lv_iload hx hb d_L_law_1453 (lv_at hl 1 rfl) ?_
    refine z_if_ne (a := ((0 : Nat) : Int)) (tgt := 1477) hx hb (by omega) d_L_law_1455 (by decide) (fun q1455 => ?_) (fun q1455 => ?_)
    · skip
      exfalso; omega
    · skip
      refine lv_aload_n hx hb d_L_law_1458 rfl (lv_at hl 6 rfl) ?_
      refine lv_iconst (v := iZ ((0 : Nat) : Int)) hx hb d_L_law_1459 (by decide) ?_
      refine z_old (x := lZ (((if (sUn (zu rd (h * 2 + rr) ((v : Nat) : Int)) h) = true then 1 else 0 : Nat)) : Int)) hx hb hK hP 33 2 rfl rfl d_L_law_1460 ?_
      refine lv_iload hx hb d_L_law_1461 (lv_at hl 0 rfl) ?_
      refine z_if_eqB (b := sUn (zu rd (h * 2 + rr) ((v : Nat) : Int)) h) (tgt := 1470) hx hb d_L_law_1463 (by decide) (fun q1463 => ?_) (fun q1463 => ?_)
      · skip
        refine lv_lconst (v := lZ ((0 : Nat) : Int)) hx hb d_L_law_1470 (by decide) ?_
        refine z_lcmpR_eq (tgt := 1477) (pc1 := 1472) (pc4 := 1475) hx hb d_L_law_1471 rfl rfl d_L_law_1472 (by decide) (fun q1471 => ?_) (fun q1471 => ?_)
        · skip
          refine lv_goto (tgt := 1598) hx hb d_L_law_1477 (by decide) ?_
          exact kk J _ _ _ _ _ _ H locs ls ⟨hI, hM1, RI_u hR (by omega), hpq⟩ hP hD hS (lv_sub hl [2, 3, 4, 5, 6] rfl)
        · skip
          exact absurd (by rw [q1463]; rfl) q1471
      · skip
        refine lv_lconst (v := lZ ((1 : Nat) : Int)) hx hb d_L_law_1466 (by decide) ?_
        refine lv_goto (tgt := 1471) hx hb d_L_law_1467 (by decide) ?_
        refine z_lcmpR_eq (tgt := 1477) (pc1 := 1472) (pc4 := 1475) hx hb d_L_law_1471 rfl rfl d_L_law_1472 (by decide) (fun q1471 => ?_) (fun q1471 => ?_)
        · skip
          refine lv_goto (tgt := 1598) hx hb d_L_law_1477 (by decide) ?_
          exact kk J _ _ _ _ _ _ H locs ls ⟨hI, hM1, RI_u hR (by omega), hpq⟩ hP hD hS (lv_sub hl [2, 3, 4, 5, 6] rfl)
        · skip
          exact absurd (by rw [q1463]; rfl) q1471
  · skip
    exfalso; omega

set_option maxHeartbeats 4000000 in
set_option maxRecDepth 100000 in
theorem lf_unlike_x1 {p : Program} {l : Launch} {e : Env} {s : State} {m : MethodId} {below : List Frame} {meth : Method} {c : Code} {Q : State → Prop} {sb L : Nat} {xs : Nat → Int32} {D : va_G} {A : Nat → Prop} {ad : Nat → Nat} {cI cZ cL : ClassId} {J : SJ} {rd : Nat → Int} {pr : Nat → Nat} {G : SH} {K : SK} {M : SM} {ov : Nat → Int64} {H : Heap} {locs : List Loc} {cells slots i : Nat} {ls : Array Slot} (X : LX p l s m meth c sb L xs D cI cZ cL A) (hLI : LI J rd pr M) (hi : i + 4 < L) (hc : cells + 1 ≤ 1061 ∧ slots + 6 ≤ 9679) {a : Int} (h : z32 a ∧ (a < 0 ∨ ((jn J : Nat) : Int) < a)) (ha1 : xs (i + 1) = iZ (a)) (hP : va_P D classes (wdC ad cI cZ cL J rd pr G K (wdM ad cI cZ cL J rd pr M ov)) H) (hD : va_D A (wdC ad cI cZ cL J rd pr G K (wdM ad cI cZ cL J rd pr M ov))) (hS : va_S A s.heap H locs) (hl : lv_has ls 8 (lwL ad sb i)) (kk : LK p l e s m below meth c Q sb D A ad cI cZ cL i (cells + 1) (slots + 6)) : W p l e room_1 s m #[Value.ref sb] below meth c H locs cells slots Q (F0 m 1480 ls []) := by
  obtain ⟨hl0, Z, hX, hbl, hK, hA, hbA, hTT, hSt, hL⟩ := X
  obtain ⟨hI, hM, hR, hpq⟩ := hLI
  obtain ⟨hx, hb, hr, hml, hown, hts, hE, hlocks⟩ := id Z
  have hn32 := hI.1
  have hk32 := hI.2.1
  have hl : lv_has ls 8 [(4, .int (iZ ((i : Nat) : Int))), (0, .ref (sb)), (1, .ref (ad 0)), (2, .ref (ad 19)), (3, .ref (ad 33))] := hl
  refine lv_aload_n hx hb d_L_law_1480 rfl (lv_at hl 2 rfl) ?_
  refine lv_aload_n hx hb d_L_law_1481 rfl (lv_at hl 1 rfl) ?_
  refine lv_iload hx hb d_L_law_1482 (lv_at hl 0 rfl) ?_
  refine lv_iconst (v := iZ ((1 : Nat) : Int)) hx hb d_L_law_1484 (by decide) ?_
  refine z_iaddN (u := i) (v := 1) hx hb d_L_law_1485 ?_
  refine z_sld (v := iZ (a)) hx hb hX hbl hbA hS (i + 1) (by omega) ha1 d_L_law_1486 ?_
  refine lv_aload_n hx hb d_L_law_1487 rfl (lv_at hl 4 rfl) ?_
  refine z_kiW (z_runSW (As := [.ref (ad 0), .int (iZ (a)), .ref (ad 33)]) (rest := []) Z (k_L_unlikex1 hl0 hI (a := a) h) ⟨ml_L_164, sm_L_unlike, ini_L, co_L_unlike⟩ zd_L_unlike ⟨Nat.le_of_ble_eq_true rfl, Nat.le_of_ble_eq_true rfl⟩ hP hK hD (hTT _ _ hS) hSt hl.1 rfl (Nat.le_of_ble_eq_true rfl) d_L_law_1488 ⟨hc.1, hc.2⟩) hD hS hA (fun r9 w9 H locs hp9 hP hD hS => ?_)
  obtain ⟨rfl, rfl⟩ := hp9
  have hP : va_P D classes (wdC ad cI cZ cL J rd pr G K (wdM ad cI cZ cL J rd pr M ov)) H := hP
  have hD : va_D A (wdC ad cI cZ cL J rd pr G K (wdM ad cI cZ cL J rd pr M ov)) := hD
  refine W.eq (g2 := F0 m 1491 ls [.int (iZ ((1 : Nat) : Int))]) rfl ?_
  refine lv_istore (lv' := [(5, .int (iZ ((1 : Nat) : Int))), (4, .int (iZ ((i : Nat) : Int))), (0, .ref (sb)), (1, .ref (ad 0)), (2, .ref (ad 19)), (3, .ref (ad 33))]) hx hb d_L_law_1491 hl (by decide) rfl (fun ls hl => ?_)
  refine lv_aload_n hx hb d_L_law_1493 rfl (lv_at hl 4 rfl) ?_
  refine lv_aload_n hx hb d_L_law_1494 rfl (lv_at hl 2 rfl) ?_
  refine lv_iload hx hb d_L_law_1495 (lv_at hl 1 rfl) ?_
  refine lv_iconst (v := iZ ((1 : Nat) : Int)) hx hb d_L_law_1497 (by decide) ?_
  refine z_iaddN (u := i) (v := 1) hx hb d_L_law_1498 ?_
  refine z_sld (v := iZ (a)) hx hb hX hbl hbA hS (i + 1) (by omega) ha1 d_L_law_1499 ?_
  refine z_ki (z_runV (As := [.int (iZ (a))]) (rest := []) zTB Z (k_M_unlikex1 hI hM (a := a) h) ⟨ml_L_166, im_M_unlike, se_M_unlike, ini_M, co_M_unlike⟩ zd_M_unlike ⟨Nat.le_of_ble_eq_true rfl, Nat.le_of_ble_eq_true rfl⟩ hP hK hD (ci := 5) (q0 := 19) rfl rfl rfl hl.1 rfl (Nat.le_of_ble_eq_true rfl) d_L_law_1500 ⟨hc.1, hc.2⟩) hD hS hA (fun r9 w9 H locs hp9 hP hD hS => ?_)
  obtain ⟨M1, rfl, hc1, hM1⟩ := hp9
  have hP : va_P D classes (wdC ad cI cZ cL J rd pr G K (wdM ad cI cZ cL J rd pr M1 ov)) H := hP
  have hD : va_D A (wdC ad cI cZ cL J rd pr G K (wdM ad cI cZ cL J rd pr M1 ov)) := hD
  refine W.eq (g2 := F0 m 1503 ls [.int (r9)]) rfl ?_
  refine lv_istore (lv' := [(6, .int (r9)), (5, .int (iZ ((1 : Nat) : Int))), (4, .int (iZ ((i : Nat) : Int))), (0, .ref (sb)), (1, .ref (ad 0)), (2, .ref (ad 19)), (3, .ref (ad 33))]) hx hb d_L_law_1503 hl (by decide) rfl (fun ls hl => ?_)
  refine lv_aload_n hx hb d_L_law_1505 rfl (lv_at hl 5 rfl) ?_
  refine z_callVR (As := []) (rest := []) zTB Z (k_M_thrown) ⟨ml_L_101, im_M_thrown, se_M_thrown, ini_M, co_M_thrown⟩ zd_M_thrown ⟨Nat.le_of_ble_eq_true rfl, Nat.le_of_ble_eq_true rfl⟩ hP hK (ci := 5) (q0 := 19) rfl rfl rfl hl.1 rfl (Nat.le_of_ble_eq_true rfl) d_L_law_1506 ⟨hc.1, hc.2⟩ ?_
  refine W.eq (g2 := F0 m 1509 ls [.int (iZ ((M1.1 : Nat) : Int))]) rfl ?_
  refine z_topZ (b := ((1 : Nat) : Int)) (by rw [hc1]) ?_
  refine lv_iload hx hb d_L_law_1509 (lv_at hl 1 rfl) ?_
  refine z_icmp_eq (a := ((1 : Nat) : Int)) (b := ((1 : Nat) : Int)) (tgt := 1516) hx hb (by omega) d_L_law_1511 (by decide) (fun q1511 => ?_) (fun q1511 => ?_)
  · skip
    refine lv_iload hx hb d_L_law_1516 (lv_at hl 1 rfl) ?_
    refine z_if_ne (a := ((1 : Nat) : Int)) (tgt := 1533) hx hb (by omega) d_L_law_1518 (by decide) (fun q1518 => ?_) (fun q1518 => ?_)
    · skip
      refine lv_goto (tgt := 1598) hx hb d_L_law_1533 (by decide) ?_
      exact kk J _ _ _ _ _ _ H locs ls ⟨hI, hM1, hR, hpq⟩ hP hD hS (lv_sub hl [2, 3, 4, 5, 6] rfl)
    · skip
      exfalso; omega
  · skip
    exfalso; omega

set_option maxHeartbeats 4000000 in
set_option maxRecDepth 100000 in
theorem lf_unlike_0 {p : Program} {l : Launch} {e : Env} {s : State} {m : MethodId} {below : List Frame} {meth : Method} {c : Code} {Q : State → Prop} {sb L : Nat} {xs : Nat → Int32} {D : va_G} {A : Nat → Prop} {ad : Nat → Nat} {cI cZ cL : ClassId} {J : SJ} {rd : Nat → Int} {pr : Nat → Nat} {G : SH} {K : SK} {M : SM} {ov : Nat → Int64} {H : Heap} {locs : List Loc} {cells slots i : Nat} {ls : Array Slot} (X : LX p l s m meth c sb L xs D cI cZ cL A) (hLI : LI J rd pr M) (hi : i + 4 < L) (hc : cells + 1 ≤ 1061 ∧ slots + 6 ≤ 9679) {fm : Nat} (hf : fm ≤ jn J) (ha1 : xs (i + 1) = iZ ((fm : Nat) : Int)) (hP : va_P D classes (wdC ad cI cZ cL J rd pr G K (wdM ad cI cZ cL J rd pr M ov)) H) (hD : va_D A (wdC ad cI cZ cL J rd pr G K (wdM ad cI cZ cL J rd pr M ov))) (hS : va_S A s.heap H locs) (hl : lv_has ls 8 (lwL ad sb i)) (kk : LK p l e s m below meth c Q sb D A ad cI cZ cL i (cells + 1) (slots + 6)) : W p l e room_1 s m #[Value.ref sb] below meth c H locs cells slots Q (F0 m 1480 ls []) := by
  obtain ⟨hl0, Z, hX, hbl, hK, hA, hbA, hTT, hSt, hL⟩ := X
  obtain ⟨hI, hM, hR, hpq⟩ := hLI
  obtain ⟨hx, hb, hr, hml, hown, hts, hE, hlocks⟩ := id Z
  have hn32 := hI.1
  have hk32 := hI.2.1
  have hl : lv_has ls 8 [(4, .int (iZ ((i : Nat) : Int))), (0, .ref (sb)), (1, .ref (ad 0)), (2, .ref (ad 19)), (3, .ref (ad 33))] := hl
  refine lv_aload_n hx hb d_L_law_1480 rfl (lv_at hl 2 rfl) ?_
  refine lv_aload_n hx hb d_L_law_1481 rfl (lv_at hl 1 rfl) ?_
  refine lv_iload hx hb d_L_law_1482 (lv_at hl 0 rfl) ?_
  refine lv_iconst (v := iZ ((1 : Nat) : Int)) hx hb d_L_law_1484 (by decide) ?_
  refine z_iaddN (u := i) (v := 1) hx hb d_L_law_1485 ?_
  refine z_sld (v := iZ ((fm : Nat) : Int)) hx hb hX hbl hbA hS (i + 1) (by omega) ha1 d_L_law_1486 ?_
  refine lv_aload_n hx hb d_L_law_1487 rfl (lv_at hl 4 rfl) ?_
  refine z_kiW (z_runSW (As := [.ref (ad 0), .int (iZ ((fm : Nat) : Int)), .ref (ad 33)]) (rest := []) Z (k_L_unlike0 hI (fm := fm) hR hf) ⟨ml_L_164, sm_L_unlike, ini_L, co_L_unlike⟩ zd_L_unlike ⟨Nat.le_of_ble_eq_true rfl, Nat.le_of_ble_eq_true rfl⟩ hP hK hD (hTT _ _ hS) hSt hl.1 rfl (Nat.le_of_ble_eq_true rfl) d_L_law_1488 ⟨hc.1, hc.2⟩) hD hS hA (fun r9 w9 H locs hp9 hP hD hS => ?_)
  obtain ⟨rfl, rfl⟩ := hp9
  have hP : va_P D classes (wdC ad cI cZ cL J rd pr G K (wdM ad cI cZ cL J rd pr M (oU ov ((iZ (sUl rd (jn J - fm) fm)).toInt64)))) H := hP
  have hD : va_D A (wdC ad cI cZ cL J rd pr G K (wdM ad cI cZ cL J rd pr M (oU ov ((iZ (sUl rd (jn J - fm) fm)).toInt64)))) := hD
  refine W.eq (g2 := F0 m 1491 ls [.int (iZ ((0 : Nat) : Int))]) rfl ?_
  refine lv_istore (lv' := [(5, .int (iZ ((0 : Nat) : Int))), (4, .int (iZ ((i : Nat) : Int))), (0, .ref (sb)), (1, .ref (ad 0)), (2, .ref (ad 19)), (3, .ref (ad 33))]) hx hb d_L_law_1491 hl (by decide) rfl (fun ls hl => ?_)
  refine lv_aload_n hx hb d_L_law_1493 rfl (lv_at hl 4 rfl) ?_
  refine lv_aload_n hx hb d_L_law_1494 rfl (lv_at hl 2 rfl) ?_
  refine lv_iload hx hb d_L_law_1495 (lv_at hl 1 rfl) ?_
  refine lv_iconst (v := iZ ((1 : Nat) : Int)) hx hb d_L_law_1497 (by decide) ?_
  refine z_iaddN (u := i) (v := 1) hx hb d_L_law_1498 ?_
  refine z_sld (v := iZ ((fm : Nat) : Int)) hx hb hX hbl hbA hS (i + 1) (by omega) ha1 d_L_law_1499 ?_
  refine z_ki (z_runV (As := [.int (iZ ((fm : Nat) : Int))]) (rest := []) zTB Z (k_M_unlike0 hI hM hR hf) ⟨ml_L_166, im_M_unlike, se_M_unlike, ini_M, co_M_unlike⟩ zd_M_unlike ⟨Nat.le_of_ble_eq_true rfl, Nat.le_of_ble_eq_true rfl⟩ hP hK hD (ci := 5) (q0 := 19) rfl rfl rfl hl.1 rfl (Nat.le_of_ble_eq_true rfl) d_L_law_1500 ⟨hc.1, hc.2⟩) hD hS hA (fun r9 w9 H locs hp9 hP hD hS => ?_)
  obtain ⟨M1, rfl, rfl, hc1, hM1⟩ := hp9
  have hP : va_P D classes (wdC ad cI cZ cL J rd pr G K (wdM ad cI cZ cL J rd pr M1 (oU ov ((iZ (sUl rd (jn J - fm) fm)).toInt64)))) H := hP
  have hD : va_D A (wdC ad cI cZ cL J rd pr G K (wdM ad cI cZ cL J rd pr M1 (oU ov ((iZ (sUl rd (jn J - fm) fm)).toInt64)))) := hD
  refine W.eq (g2 := F0 m 1503 ls [.int (iZ (sUl rd (jn J - fm) fm))]) rfl ?_
  refine lv_istore (lv' := [(6, .int (iZ (sUl rd (jn J - fm) fm))), (5, .int (iZ ((0 : Nat) : Int))), (4, .int (iZ ((i : Nat) : Int))), (0, .ref (sb)), (1, .ref (ad 0)), (2, .ref (ad 19)), (3, .ref (ad 33))]) hx hb d_L_law_1503 hl (by decide) rfl (fun ls hl => ?_)
  refine lv_aload_n hx hb d_L_law_1505 rfl (lv_at hl 5 rfl) ?_
  refine z_callVR (As := []) (rest := []) zTB Z (k_M_thrown) ⟨ml_L_101, im_M_thrown, se_M_thrown, ini_M, co_M_thrown⟩ zd_M_thrown ⟨Nat.le_of_ble_eq_true rfl, Nat.le_of_ble_eq_true rfl⟩ hP hK (ci := 5) (q0 := 19) rfl rfl rfl hl.1 rfl (Nat.le_of_ble_eq_true rfl) d_L_law_1506 ⟨hc.1, hc.2⟩ ?_
  refine W.eq (g2 := F0 m 1509 ls [.int (iZ ((M1.1 : Nat) : Int))]) rfl ?_
  refine z_topZ (b := ((0 : Nat) : Int)) (by rw [hc1]) ?_
  refine lv_iload hx hb d_L_law_1509 (lv_at hl 1 rfl) ?_
  refine z_icmp_eq (a := ((0 : Nat) : Int)) (b := ((0 : Nat) : Int)) (tgt := 1516) hx hb (by omega) d_L_law_1511 (by decide) (fun q1511 => ?_) (fun q1511 => ?_)
  · skip
    refine lv_iload hx hb d_L_law_1516 (lv_at hl 1 rfl) ?_
    refine z_if_ne (a := ((0 : Nat) : Int)) (tgt := 1533) hx hb (by omega) d_L_law_1518 (by decide) (fun q1518 => ?_) (fun q1518 => ?_)
    · skip
      exfalso; omega
    · skip
      refine lv_aload_n hx hb d_L_law_1521 rfl (lv_at hl 6 rfl) ?_
      refine lv_iconst (v := iZ ((0 : Nat) : Int)) hx hb d_L_law_1522 (by decide) ?_
      refine z_old (x := (iZ (sUl rd (jn J - fm) fm)).toInt64) hx hb hK hP 33 2 rfl rfl d_L_law_1523 ?_
      refine lv_iload hx hb d_L_law_1524 (lv_at hl 0 rfl) ?_
      refine lv_i2l (v := (iZ (sUl rd (jn J - fm) fm)).toInt64) hx hb d_L_law_1526 rfl ?_
      refine z_lcmpR_eq (tgt := 1533) (pc1 := 1528) (pc4 := 1531) hx hb d_L_law_1527 rfl rfl d_L_law_1528 (by decide) (fun q1527 => ?_) (fun q1527 => ?_)
      · skip
        refine lv_goto (tgt := 1598) hx hb d_L_law_1533 (by decide) ?_
        exact kk J _ _ _ _ _ _ H locs ls ⟨hI, hM1, hR, hpq⟩ hP hD hS (lv_sub hl [2, 3, 4, 5, 6] rfl)
      · skip
        exact absurd rfl q1527
  · skip
    exfalso; omega

set_option maxHeartbeats 4000000 in
set_option maxRecDepth 100000 in
theorem lf_price_x1 {p : Program} {l : Launch} {e : Env} {s : State} {m : MethodId} {below : List Frame} {meth : Method} {c : Code} {Q : State → Prop} {sb L : Nat} {xs : Nat → Int32} {D : va_G} {A : Nat → Prop} {ad : Nat → Nat} {cI cZ cL : ClassId} {J : SJ} {rd : Nat → Int} {pr : Nat → Nat} {G : SH} {K : SK} {M : SM} {ov : Nat → Int64} {H : Heap} {locs : List Loc} {cells slots i : Nat} {ls : Array Slot} (X : LX p l s m meth c sb L xs D cI cZ cL A) (hLI : LI J rd pr M) (hi : i + 4 < L) (hc : cells + 1 ≤ 1061 ∧ slots + 6 ≤ 9679) {a b : Int} (h : z32 a ∧ (a < 0 ∨ 3 ≤ a)) (hz : z32 b) (ha1 : xs (i + 1) = iZ (a)) (ha2 : xs (i + 2) = iZ (b)) (hP : va_P D classes (wdC ad cI cZ cL J rd pr G K (wdM ad cI cZ cL J rd pr M ov)) H) (hD : va_D A (wdC ad cI cZ cL J rd pr G K (wdM ad cI cZ cL J rd pr M ov))) (hS : va_S A s.heap H locs) (hl : lv_has ls 8 (lwL ad sb i)) (kk : LK p l e s m below meth c Q sb D A ad cI cZ cL i (cells + 1) (slots + 6)) : W p l e room_1 s m #[Value.ref sb] below meth c H locs cells slots Q (F0 m 1536 ls []) := by
  obtain ⟨hl0, Z, hX, hbl, hK, hA, hbA, hTT, hSt, hL⟩ := X
  obtain ⟨hI, hM, hR, hpq⟩ := hLI
  obtain ⟨hx, hb, hr, hml, hown, hts, hE, hlocks⟩ := id Z
  have hn32 := hI.1
  have hk32 := hI.2.1
  have hl : lv_has ls 8 [(4, .int (iZ ((i : Nat) : Int))), (0, .ref (sb)), (1, .ref (ad 0)), (2, .ref (ad 19)), (3, .ref (ad 33))] := hl
  refine lv_aload_n hx hb d_L_law_1536 rfl (lv_at hl 2 rfl) ?_
  refine lv_aload_n hx hb d_L_law_1537 rfl (lv_at hl 1 rfl) ?_
  refine lv_iload hx hb d_L_law_1538 (lv_at hl 0 rfl) ?_
  refine lv_iconst (v := iZ ((1 : Nat) : Int)) hx hb d_L_law_1540 (by decide) ?_
  refine z_iaddN (u := i) (v := 1) hx hb d_L_law_1541 ?_
  refine z_sld (v := iZ (a)) hx hb hX hbl hbA hS (i + 1) (by omega) ha1 d_L_law_1542 ?_
  refine lv_aload_n hx hb d_L_law_1543 rfl (lv_at hl 1 rfl) ?_
  refine lv_iload hx hb d_L_law_1544 (lv_at hl 0 rfl) ?_
  refine lv_iconst (v := iZ ((2 : Nat) : Int)) hx hb d_L_law_1546 (by decide) ?_
  refine z_iaddN (u := i) (v := 2) hx hb d_L_law_1547 ?_
  refine z_sld (v := iZ (b)) hx hb hX hbl hbA hS (i + 2) (by omega) ha2 d_L_law_1548 ?_
  refine z_kiW (z_runSW (As := [.ref (ad 0), .int (iZ (a)), .int (iZ (b))]) (rest := []) Z (k_L_pricex1 hl0 hI (a := a) (b := b) h) ⟨ml_L_167, sm_L_price, ini_L, co_L_price⟩ zd_L_price ⟨Nat.le_of_ble_eq_true rfl, Nat.le_of_ble_eq_true rfl⟩ hP hK hD (hTT _ _ hS) hSt hl.1 rfl (Nat.le_of_ble_eq_true rfl) d_L_law_1549 ⟨hc.1, hc.2⟩) hD hS hA (fun r9 w9 H locs hp9 hP hD hS => ?_)
  obtain ⟨rfl, rfl⟩ := hp9
  have hP : va_P D classes (wdC ad cI cZ cL J rd pr G K (wdM ad cI cZ cL J rd pr M ov)) H := hP
  have hD : va_D A (wdC ad cI cZ cL J rd pr G K (wdM ad cI cZ cL J rd pr M ov)) := hD
  refine W.eq (g2 := F0 m 1552 ls [.int (iZ ((1 : Nat) : Int))]) rfl ?_
  refine lv_istore (lv' := [(5, .int (iZ ((1 : Nat) : Int))), (4, .int (iZ ((i : Nat) : Int))), (0, .ref (sb)), (1, .ref (ad 0)), (2, .ref (ad 19)), (3, .ref (ad 33))]) hx hb d_L_law_1552 hl (by decide) rfl (fun ls hl => ?_)
  refine lv_aload_n hx hb d_L_law_1554 rfl (lv_at hl 4 rfl) ?_
  refine lv_aload_n hx hb d_L_law_1555 rfl (lv_at hl 2 rfl) ?_
  refine lv_iload hx hb d_L_law_1556 (lv_at hl 1 rfl) ?_
  refine lv_iconst (v := iZ ((1 : Nat) : Int)) hx hb d_L_law_1558 (by decide) ?_
  refine z_iaddN (u := i) (v := 1) hx hb d_L_law_1559 ?_
  refine z_sld (v := iZ (a)) hx hb hX hbl hbA hS (i + 1) (by omega) ha1 d_L_law_1560 ?_
  refine lv_aload_n hx hb d_L_law_1561 rfl (lv_at hl 2 rfl) ?_
  refine lv_iload hx hb d_L_law_1562 (lv_at hl 1 rfl) ?_
  refine lv_iconst (v := iZ ((2 : Nat) : Int)) hx hb d_L_law_1564 (by decide) ?_
  refine z_iaddN (u := i) (v := 2) hx hb d_L_law_1565 ?_
  refine z_sld (v := iZ (b)) hx hb hX hbl hbA hS (i + 2) (by omega) ha2 d_L_law_1566 ?_
  refine z_kv (z_runV (As := [.int (iZ (a)), .int (iZ (b))]) (rest := []) zTB Z (k_M_pricex1 hI hM (a := a) (b := b) h) ⟨ml_L_170, im_M_price, se_M_price, ini_M, co_M_price⟩ zd_M_price ⟨Nat.le_of_ble_eq_true rfl, Nat.le_of_ble_eq_true rfl⟩ hP hK hD (ci := 5) (q0 := 19) rfl rfl rfl hl.1 rfl (Nat.le_of_ble_eq_true rfl) d_L_law_1567 ⟨hc.1, hc.2⟩) hD hS hA (fun w9 H locs hp9 hP hD hS => ?_)
  obtain ⟨M1, rfl, hc1, hM1⟩ := hp9
  have hP : va_P D classes (wdC ad cI cZ cL J rd pr G K (wdM ad cI cZ cL J rd pr M1 ov)) H := hP
  have hD : va_D A (wdC ad cI cZ cL J rd pr G K (wdM ad cI cZ cL J rd pr M1 ov)) := hD
  refine W.eq (g2 := F0 m 1570 ls []) rfl ?_
  refine lv_aload_n hx hb d_L_law_1570 rfl (lv_at hl 4 rfl) ?_
  refine z_callVR (As := []) (rest := []) zTB Z (k_M_thrown) ⟨ml_L_101, im_M_thrown, se_M_thrown, ini_M, co_M_thrown⟩ zd_M_thrown ⟨Nat.le_of_ble_eq_true rfl, Nat.le_of_ble_eq_true rfl⟩ hP hK (ci := 5) (q0 := 19) rfl rfl rfl hl.1 rfl (Nat.le_of_ble_eq_true rfl) d_L_law_1571 ⟨hc.1, hc.2⟩ ?_
  refine W.eq (g2 := F0 m 1574 ls [.int (iZ ((M1.1 : Nat) : Int))]) rfl ?_
  refine z_topZ (b := ((1 : Nat) : Int)) (by rw [hc1]) ?_
  refine lv_iload hx hb d_L_law_1574 (lv_at hl 0 rfl) ?_
  refine z_icmp_eq (a := ((1 : Nat) : Int)) (b := ((1 : Nat) : Int)) (tgt := 1581) hx hb (by omega) d_L_law_1576 (by decide) (fun q1576 => ?_) (fun q1576 => ?_)
  · skip
    refine lv_goto (tgt := 1598) hx hb d_L_law_1581 (by decide) ?_
    exact kk J _ _ _ _ _ _ H locs ls ⟨hI, hM1, hR, hpq⟩ hP hD hS (lv_sub hl [1, 2, 3, 4, 5] rfl)
  · skip
    exfalso; omega

set_option maxHeartbeats 4000000 in
set_option maxRecDepth 100000 in
theorem lf_price_x2 {p : Program} {l : Launch} {e : Env} {s : State} {m : MethodId} {below : List Frame} {meth : Method} {c : Code} {Q : State → Prop} {sb L : Nat} {xs : Nat → Int32} {D : va_G} {A : Nat → Prop} {ad : Nat → Nat} {cI cZ cL : ClassId} {J : SJ} {rd : Nat → Int} {pr : Nat → Nat} {G : SH} {K : SK} {M : SM} {ov : Nat → Int64} {H : Heap} {locs : List Loc} {cells slots i : Nat} {ls : Array Slot} (X : LX p l s m meth c sb L xs D cI cZ cL A) (hLI : LI J rd pr M) (hi : i + 4 < L) (hc : cells + 1 ≤ 1061 ∧ slots + 6 ≤ 9679) {kd : Nat} {b : Int} (hkd : kd < 3) (h : z32 b ∧ (b < 0 ∨ 100000 < b)) (ha1 : xs (i + 1) = iZ ((kd : Nat) : Int)) (ha2 : xs (i + 2) = iZ (b)) (hP : va_P D classes (wdC ad cI cZ cL J rd pr G K (wdM ad cI cZ cL J rd pr M ov)) H) (hD : va_D A (wdC ad cI cZ cL J rd pr G K (wdM ad cI cZ cL J rd pr M ov))) (hS : va_S A s.heap H locs) (hl : lv_has ls 8 (lwL ad sb i)) (kk : LK p l e s m below meth c Q sb D A ad cI cZ cL i (cells + 1) (slots + 6)) : W p l e room_1 s m #[Value.ref sb] below meth c H locs cells slots Q (F0 m 1536 ls []) := by
  obtain ⟨hl0, Z, hX, hbl, hK, hA, hbA, hTT, hSt, hL⟩ := X
  obtain ⟨hI, hM, hR, hpq⟩ := hLI
  obtain ⟨hx, hb, hr, hml, hown, hts, hE, hlocks⟩ := id Z
  have hn32 := hI.1
  have hk32 := hI.2.1
  have hl : lv_has ls 8 [(4, .int (iZ ((i : Nat) : Int))), (0, .ref (sb)), (1, .ref (ad 0)), (2, .ref (ad 19)), (3, .ref (ad 33))] := hl
  refine lv_aload_n hx hb d_L_law_1536 rfl (lv_at hl 2 rfl) ?_
  refine lv_aload_n hx hb d_L_law_1537 rfl (lv_at hl 1 rfl) ?_
  refine lv_iload hx hb d_L_law_1538 (lv_at hl 0 rfl) ?_
  refine lv_iconst (v := iZ ((1 : Nat) : Int)) hx hb d_L_law_1540 (by decide) ?_
  refine z_iaddN (u := i) (v := 1) hx hb d_L_law_1541 ?_
  refine z_sld (v := iZ ((kd : Nat) : Int)) hx hb hX hbl hbA hS (i + 1) (by omega) ha1 d_L_law_1542 ?_
  refine lv_aload_n hx hb d_L_law_1543 rfl (lv_at hl 1 rfl) ?_
  refine lv_iload hx hb d_L_law_1544 (lv_at hl 0 rfl) ?_
  refine lv_iconst (v := iZ ((2 : Nat) : Int)) hx hb d_L_law_1546 (by decide) ?_
  refine z_iaddN (u := i) (v := 2) hx hb d_L_law_1547 ?_
  refine z_sld (v := iZ (b)) hx hb hX hbl hbA hS (i + 2) (by omega) ha2 d_L_law_1548 ?_
  refine z_kiW (z_runSW (As := [.ref (ad 0), .int (iZ ((kd : Nat) : Int)), .int (iZ (b))]) (rest := []) Z (k_L_pricex2 hl0 hI (kd := kd) (b := b) hkd h) ⟨ml_L_167, sm_L_price, ini_L, co_L_price⟩ zd_L_price ⟨Nat.le_of_ble_eq_true rfl, Nat.le_of_ble_eq_true rfl⟩ hP hK hD (hTT _ _ hS) hSt hl.1 rfl (Nat.le_of_ble_eq_true rfl) d_L_law_1549 ⟨hc.1, hc.2⟩) hD hS hA (fun r9 w9 H locs hp9 hP hD hS => ?_)
  obtain ⟨rfl, rfl⟩ := hp9
  have hP : va_P D classes (wdC ad cI cZ cL J rd pr G K (wdM ad cI cZ cL J rd pr M ov)) H := hP
  have hD : va_D A (wdC ad cI cZ cL J rd pr G K (wdM ad cI cZ cL J rd pr M ov)) := hD
  refine W.eq (g2 := F0 m 1552 ls [.int (iZ ((2 : Nat) : Int))]) rfl ?_
  refine lv_istore (lv' := [(5, .int (iZ ((2 : Nat) : Int))), (4, .int (iZ ((i : Nat) : Int))), (0, .ref (sb)), (1, .ref (ad 0)), (2, .ref (ad 19)), (3, .ref (ad 33))]) hx hb d_L_law_1552 hl (by decide) rfl (fun ls hl => ?_)
  refine lv_aload_n hx hb d_L_law_1554 rfl (lv_at hl 4 rfl) ?_
  refine lv_aload_n hx hb d_L_law_1555 rfl (lv_at hl 2 rfl) ?_
  refine lv_iload hx hb d_L_law_1556 (lv_at hl 1 rfl) ?_
  refine lv_iconst (v := iZ ((1 : Nat) : Int)) hx hb d_L_law_1558 (by decide) ?_
  refine z_iaddN (u := i) (v := 1) hx hb d_L_law_1559 ?_
  refine z_sld (v := iZ ((kd : Nat) : Int)) hx hb hX hbl hbA hS (i + 1) (by omega) ha1 d_L_law_1560 ?_
  refine lv_aload_n hx hb d_L_law_1561 rfl (lv_at hl 2 rfl) ?_
  refine lv_iload hx hb d_L_law_1562 (lv_at hl 1 rfl) ?_
  refine lv_iconst (v := iZ ((2 : Nat) : Int)) hx hb d_L_law_1564 (by decide) ?_
  refine z_iaddN (u := i) (v := 2) hx hb d_L_law_1565 ?_
  refine z_sld (v := iZ (b)) hx hb hX hbl hbA hS (i + 2) (by omega) ha2 d_L_law_1566 ?_
  refine z_kv (z_runV (As := [.int (iZ ((kd : Nat) : Int)), .int (iZ (b))]) (rest := []) zTB Z (k_M_pricex2 hI hM (kd := kd) (b := b) hkd h) ⟨ml_L_170, im_M_price, se_M_price, ini_M, co_M_price⟩ zd_M_price ⟨Nat.le_of_ble_eq_true rfl, Nat.le_of_ble_eq_true rfl⟩ hP hK hD (ci := 5) (q0 := 19) rfl rfl rfl hl.1 rfl (Nat.le_of_ble_eq_true rfl) d_L_law_1567 ⟨hc.1, hc.2⟩) hD hS hA (fun w9 H locs hp9 hP hD hS => ?_)
  obtain ⟨M1, rfl, hc1, hM1⟩ := hp9
  have hP : va_P D classes (wdC ad cI cZ cL J rd pr G K (wdM ad cI cZ cL J rd pr M1 ov)) H := hP
  have hD : va_D A (wdC ad cI cZ cL J rd pr G K (wdM ad cI cZ cL J rd pr M1 ov)) := hD
  refine W.eq (g2 := F0 m 1570 ls []) rfl ?_
  refine lv_aload_n hx hb d_L_law_1570 rfl (lv_at hl 4 rfl) ?_
  refine z_callVR (As := []) (rest := []) zTB Z (k_M_thrown) ⟨ml_L_101, im_M_thrown, se_M_thrown, ini_M, co_M_thrown⟩ zd_M_thrown ⟨Nat.le_of_ble_eq_true rfl, Nat.le_of_ble_eq_true rfl⟩ hP hK (ci := 5) (q0 := 19) rfl rfl rfl hl.1 rfl (Nat.le_of_ble_eq_true rfl) d_L_law_1571 ⟨hc.1, hc.2⟩ ?_
  refine W.eq (g2 := F0 m 1574 ls [.int (iZ ((M1.1 : Nat) : Int))]) rfl ?_
  refine z_topZ (b := ((2 : Nat) : Int)) (by rw [hc1]) ?_
  refine lv_iload hx hb d_L_law_1574 (lv_at hl 0 rfl) ?_
  refine z_icmp_eq (a := ((2 : Nat) : Int)) (b := ((2 : Nat) : Int)) (tgt := 1581) hx hb (by omega) d_L_law_1576 (by decide) (fun q1576 => ?_) (fun q1576 => ?_)
  · skip
    refine lv_goto (tgt := 1598) hx hb d_L_law_1581 (by decide) ?_
    exact kk J _ _ _ _ _ _ H locs ls ⟨hI, hM1, hR, hpq⟩ hP hD hS (lv_sub hl [1, 2, 3, 4, 5] rfl)
  · skip
    exfalso; omega

set_option maxHeartbeats 4000000 in
set_option maxRecDepth 100000 in
theorem lf_price_0 {p : Program} {l : Launch} {e : Env} {s : State} {m : MethodId} {below : List Frame} {meth : Method} {c : Code} {Q : State → Prop} {sb L : Nat} {xs : Nat → Int32} {D : va_G} {A : Nat → Prop} {ad : Nat → Nat} {cI cZ cL : ClassId} {J : SJ} {rd : Nat → Int} {pr : Nat → Nat} {G : SH} {K : SK} {M : SM} {ov : Nat → Int64} {H : Heap} {locs : List Loc} {cells slots i : Nat} {ls : Array Slot} (X : LX p l s m meth c sb L xs D cI cZ cL A) (hLI : LI J rd pr M) (hi : i + 4 < L) (hc : cells + 1 ≤ 1061 ∧ slots + 6 ≤ 9679) {kd v : Nat} (hkd : kd < 3) (hv : v ≤ 100000) (ha1 : xs (i + 1) = iZ ((kd : Nat) : Int)) (ha2 : xs (i + 2) = iZ ((v : Nat) : Int)) (hP : va_P D classes (wdC ad cI cZ cL J rd pr G K (wdM ad cI cZ cL J rd pr M ov)) H) (hD : va_D A (wdC ad cI cZ cL J rd pr G K (wdM ad cI cZ cL J rd pr M ov))) (hS : va_S A s.heap H locs) (hl : lv_has ls 8 (lwL ad sb i)) (kk : LK p l e s m below meth c Q sb D A ad cI cZ cL i (cells + 1) (slots + 6)) : W p l e room_1 s m #[Value.ref sb] below meth c H locs cells slots Q (F0 m 1536 ls []) := by
  obtain ⟨hl0, Z, hX, hbl, hK, hA, hbA, hTT, hSt, hL⟩ := X
  obtain ⟨hI, hM, hR, hpq⟩ := hLI
  obtain ⟨hx, hb, hr, hml, hown, hts, hE, hlocks⟩ := id Z
  have hn32 := hI.1
  have hk32 := hI.2.1
  have hl : lv_has ls 8 [(4, .int (iZ ((i : Nat) : Int))), (0, .ref (sb)), (1, .ref (ad 0)), (2, .ref (ad 19)), (3, .ref (ad 33))] := hl
  refine lv_aload_n hx hb d_L_law_1536 rfl (lv_at hl 2 rfl) ?_
  refine lv_aload_n hx hb d_L_law_1537 rfl (lv_at hl 1 rfl) ?_
  refine lv_iload hx hb d_L_law_1538 (lv_at hl 0 rfl) ?_
  refine lv_iconst (v := iZ ((1 : Nat) : Int)) hx hb d_L_law_1540 (by decide) ?_
  refine z_iaddN (u := i) (v := 1) hx hb d_L_law_1541 ?_
  refine z_sld (v := iZ ((kd : Nat) : Int)) hx hb hX hbl hbA hS (i + 1) (by omega) ha1 d_L_law_1542 ?_
  refine lv_aload_n hx hb d_L_law_1543 rfl (lv_at hl 1 rfl) ?_
  refine lv_iload hx hb d_L_law_1544 (lv_at hl 0 rfl) ?_
  refine lv_iconst (v := iZ ((2 : Nat) : Int)) hx hb d_L_law_1546 (by decide) ?_
  refine z_iaddN (u := i) (v := 2) hx hb d_L_law_1547 ?_
  refine z_sld (v := iZ ((v : Nat) : Int)) hx hb hX hbl hbA hS (i + 2) (by omega) ha2 d_L_law_1548 ?_
  refine z_kiW (z_runSW (As := [.ref (ad 0), .int (iZ ((kd : Nat) : Int)), .int (iZ ((v : Nat) : Int))]) (rest := []) Z (k_L_price0 hI (kd := kd) (v := v) hkd hv) ⟨ml_L_167, sm_L_price, ini_L, co_L_price⟩ zd_L_price ⟨Nat.le_of_ble_eq_true rfl, Nat.le_of_ble_eq_true rfl⟩ hP hK hD (hTT _ _ hS) hSt hl.1 rfl (Nat.le_of_ble_eq_true rfl) d_L_law_1549 ⟨hc.1, hc.2⟩) hD hS hA (fun r9 w9 H locs hp9 hP hD hS => ?_)
  obtain ⟨rfl, rfl⟩ := hp9
  have hP : va_P D classes (wdC ad cI cZ cL J rd (nu pr kd v) G K (wdM ad cI cZ cL J rd pr M ov)) H := hP
  have hD : va_D A (wdC ad cI cZ cL J rd (nu pr kd v) G K (wdM ad cI cZ cL J rd pr M ov)) := hD
  refine W.eq (g2 := F0 m 1552 ls [.int (iZ ((0 : Nat) : Int))]) rfl ?_
  refine lv_istore (lv' := [(5, .int (iZ ((0 : Nat) : Int))), (4, .int (iZ ((i : Nat) : Int))), (0, .ref (sb)), (1, .ref (ad 0)), (2, .ref (ad 19)), (3, .ref (ad 33))]) hx hb d_L_law_1552 hl (by decide) rfl (fun ls hl => ?_)
  refine lv_aload_n hx hb d_L_law_1554 rfl (lv_at hl 4 rfl) ?_
  refine lv_aload_n hx hb d_L_law_1555 rfl (lv_at hl 2 rfl) ?_
  refine lv_iload hx hb d_L_law_1556 (lv_at hl 1 rfl) ?_
  refine lv_iconst (v := iZ ((1 : Nat) : Int)) hx hb d_L_law_1558 (by decide) ?_
  refine z_iaddN (u := i) (v := 1) hx hb d_L_law_1559 ?_
  refine z_sld (v := iZ ((kd : Nat) : Int)) hx hb hX hbl hbA hS (i + 1) (by omega) ha1 d_L_law_1560 ?_
  refine lv_aload_n hx hb d_L_law_1561 rfl (lv_at hl 2 rfl) ?_
  refine lv_iload hx hb d_L_law_1562 (lv_at hl 1 rfl) ?_
  refine lv_iconst (v := iZ ((2 : Nat) : Int)) hx hb d_L_law_1564 (by decide) ?_
  refine z_iaddN (u := i) (v := 2) hx hb d_L_law_1565 ?_
  refine z_sld (v := iZ ((v : Nat) : Int)) hx hb hX hbl hbA hS (i + 2) (by omega) ha2 d_L_law_1566 ?_
  refine z_kv (z_runV (As := [.int (iZ ((kd : Nat) : Int)), .int (iZ ((v : Nat) : Int))]) (rest := []) zTB Z (k_M_price0 hI hM hkd hv) ⟨ml_L_170, im_M_price, se_M_price, ini_M, co_M_price⟩ zd_M_price ⟨Nat.le_of_ble_eq_true rfl, Nat.le_of_ble_eq_true rfl⟩ hP hK hD (ci := 5) (q0 := 19) rfl rfl rfl hl.1 rfl (Nat.le_of_ble_eq_true rfl) d_L_law_1567 ⟨hc.1, hc.2⟩) hD hS hA (fun w9 H locs hp9 hP hD hS => ?_)
  obtain ⟨M1, rfl, hc1, hM1⟩ := hp9
  have hP : va_P D classes (wdC ad cI cZ cL J rd (nu pr kd v) G K (wdM ad cI cZ cL J rd (nu pr kd v) M1 ov)) H := hP
  have hD : va_D A (wdC ad cI cZ cL J rd (nu pr kd v) G K (wdM ad cI cZ cL J rd (nu pr kd v) M1 ov)) := hD
  refine W.eq (g2 := F0 m 1570 ls []) rfl ?_
  refine lv_aload_n hx hb d_L_law_1570 rfl (lv_at hl 4 rfl) ?_
  refine z_callVR (As := []) (rest := []) zTB Z (k_M_thrown) ⟨ml_L_101, im_M_thrown, se_M_thrown, ini_M, co_M_thrown⟩ zd_M_thrown ⟨Nat.le_of_ble_eq_true rfl, Nat.le_of_ble_eq_true rfl⟩ hP hK (ci := 5) (q0 := 19) rfl rfl rfl hl.1 rfl (Nat.le_of_ble_eq_true rfl) d_L_law_1571 ⟨hc.1, hc.2⟩ ?_
  refine W.eq (g2 := F0 m 1574 ls [.int (iZ ((M1.1 : Nat) : Int))]) rfl ?_
  refine z_topZ (b := ((0 : Nat) : Int)) (by rw [hc1]) ?_
  refine lv_iload hx hb d_L_law_1574 (lv_at hl 0 rfl) ?_
  refine z_icmp_eq (a := ((0 : Nat) : Int)) (b := ((0 : Nat) : Int)) (tgt := 1581) hx hb (by omega) d_L_law_1576 (by decide) (fun q1576 => ?_) (fun q1576 => ?_)
  · skip
    refine lv_goto (tgt := 1598) hx hb d_L_law_1581 (by decide) ?_
    exact kk J _ _ _ _ _ _ H locs ls ⟨hI, hM1, hR, pq_u hpq hv⟩ hP hD hS (lv_sub hl [1, 2, 3, 4, 5] rfl)
  · skip
    exfalso; omega

set_option maxHeartbeats 4000000 in
set_option maxRecDepth 100000 in
theorem lf_pairs_0 {p : Program} {l : Launch} {e : Env} {s : State} {m : MethodId} {below : List Frame} {meth : Method} {c : Code} {Q : State → Prop} {sb L : Nat} {xs : Nat → Int32} {D : va_G} {A : Nat → Prop} {ad : Nat → Nat} {cI cZ cL : ClassId} {J : SJ} {rd : Nat → Int} {pr : Nat → Nat} {G : SH} {K : SK} {M : SM} {ov : Nat → Int64} {H : Heap} {locs : List Loc} {cells slots i : Nat} {ls : Array Slot} (X : LX p l s m meth c sb L xs D cI cZ cL A) (hLI : LI J rd pr M) (hi : i + 4 < L) (hc : cells + 1 ≤ 1061 ∧ slots + 6 ≤ 9679)    (hP : va_P D classes (wdC ad cI cZ cL J rd pr G K (wdM ad cI cZ cL J rd pr M ov)) H) (hD : va_D A (wdC ad cI cZ cL J rd pr G K (wdM ad cI cZ cL J rd pr M ov))) (hS : va_S A s.heap H locs) (hl : lv_has ls 8 (lwL ad sb i)) (kk : LK p l e s m below meth c Q sb D A ad cI cZ cL i (cells + 1) (slots + 6)) : W p l e room_1 s m #[Value.ref sb] below meth c H locs cells slots Q (F0 m 510 ls []) := by
  obtain ⟨hl0, Z, hX, hbl, hK, hA, hbA, hTT, hSt, hL⟩ := X
  obtain ⟨hI, hM, hR, hpq⟩ := hLI
  obtain ⟨hx, hb, hr, hml, hown, hts, hE, hlocks⟩ := id Z
  have hn32 := hI.1
  have hk32 := hI.2.1
  have hl : lv_has ls 8 [(4, .int (iZ ((i : Nat) : Int))), (0, .ref (sb)), (1, .ref (ad 0)), (2, .ref (ad 19)), (3, .ref (ad 33))] := hl
  refine lv_aload_n hx hb d_L_law_510 rfl (lv_at hl 2 rfl) ?_
  refine z_callVR (As := []) (rest := []) zTB Z (k_D_pairs) ⟨ml_L_120, im_D_pairs, se_D_pairs, ini_D, co_D_pairs⟩ zd_D_pairs ⟨Nat.le_of_ble_eq_true rfl, Nat.le_of_ble_eq_true rfl⟩ hP hK (ci := 0) (q0 := 0) rfl rfl rfl hl.1 rfl (Nat.le_of_ble_eq_true rfl) d_L_law_511 ⟨Nat.le_trans (Nat.le_succ _) hc.1, Nat.le_trans (Nat.le_add_right _ 6) hc.2⟩ ?_
  refine W.eq (g2 := F0 m 514 ls [.int (iZ ((jk J : Nat) : Int))]) rfl ?_
  refine lv_aload_n hx hb d_L_law_514 rfl (lv_at hl 3 rfl) ?_
  refine z_ki (z_runV (As := []) (rest := [.int (iZ ((jk J : Nat) : Int))]) zTB Z (k_M_pairs0 hI hM) ⟨ml_L_123, im_M_pairs, se_M_pairs, ini_M, co_M_pairs⟩ zd_M_pairs ⟨Nat.le_of_ble_eq_true rfl, Nat.le_of_ble_eq_true rfl⟩ hP hK hD (ci := 5) (q0 := 19) rfl rfl rfl hl.1 rfl (Nat.le_of_ble_eq_true rfl) d_L_law_515 ⟨Nat.le_trans (Nat.le_succ _) hc.1, Nat.le_trans (Nat.le_add_right _ 6) hc.2⟩) hD hS hA (fun r9 w9 H locs hp9 hP hD hS => ?_)
  obtain ⟨M1, rfl, rfl, hc1, hM1⟩ := hp9
  have hP : va_P D classes (wdC ad cI cZ cL J rd pr G K (wdM ad cI cZ cL J rd pr M1 ov)) H := hP
  have hD : va_D A (wdC ad cI cZ cL J rd pr G K (wdM ad cI cZ cL J rd pr M1 ov)) := hD
  refine W.eq (g2 := F0 m 518 ls [.int (iZ ((jk J : Nat) : Int)), .int (iZ ((jk J : Nat) : Int))]) rfl ?_
  refine z_icmp_eq (a := ((jk J : Nat) : Int)) (b := ((jk J : Nat) : Int)) (tgt := 1598) hx hb (by omega) d_L_law_518 (by decide) (fun q518 => ?_) (fun q518 => ?_)
  · skip
    refine W.widen (k := cells + 1) (n := slots + 6) (by omega) (by omega) ?_
    exact kk J _ _ _ _ _ _ H locs ls ⟨hI, hM1, hR, hpq⟩ hP hD hS (lv_sub hl [0, 1, 2, 3, 4] rfl)
  · skip
    exfalso; omega

set_option maxHeartbeats 4000000 in
set_option maxRecDepth 100000 in
theorem lf_lost_0 {p : Program} {l : Launch} {e : Env} {s : State} {m : MethodId} {below : List Frame} {meth : Method} {c : Code} {Q : State → Prop} {sb L : Nat} {xs : Nat → Int32} {D : va_G} {A : Nat → Prop} {ad : Nat → Nat} {cI cZ cL : ClassId} {J : SJ} {rd : Nat → Int} {pr : Nat → Nat} {G : SH} {K : SK} {M : SM} {ov : Nat → Int64} {H : Heap} {locs : List Loc} {cells slots i : Nat} {ls : Array Slot} (X : LX p l s m meth c sb L xs D cI cZ cL A) (hLI : LI J rd pr M) (hi : i + 4 < L) (hc : cells + 1 ≤ 1061 ∧ slots + 6 ≤ 9679)    (hP : va_P D classes (wdC ad cI cZ cL J rd pr G K (wdM ad cI cZ cL J rd pr M ov)) H) (hD : va_D A (wdC ad cI cZ cL J rd pr G K (wdM ad cI cZ cL J rd pr M ov))) (hS : va_S A s.heap H locs) (hl : lv_has ls 8 (lwL ad sb i)) (kk : LK p l e s m below meth c Q sb D A ad cI cZ cL i (cells + 1) (slots + 6)) : W p l e room_1 s m #[Value.ref sb] below meth c H locs cells slots Q (F0 m 1584 ls []) := by
  obtain ⟨hl0, Z, hX, hbl, hK, hA, hbA, hTT, hSt, hL⟩ := X
  obtain ⟨hI, hM, hR, hpq⟩ := hLI
  obtain ⟨hx, hb, hr, hml, hown, hts, hE, hlocks⟩ := id Z
  have hn32 := hI.1
  have hk32 := hI.2.1
  have hl : lv_has ls 8 [(4, .int (iZ ((i : Nat) : Int))), (0, .ref (sb)), (1, .ref (ad 0)), (2, .ref (ad 19)), (3, .ref (ad 33))] := hl
  refine lv_aload_n hx hb d_L_law_1584 rfl (lv_at hl 2 rfl) ?_
  refine z_callVR (As := []) (rest := []) zTB Z (k_D_lost hI hpq) ⟨ml_L_171, im_D_lost, se_D_lost, ini_D, co_D_lost⟩ zd_D_lost ⟨Nat.le_of_ble_eq_true rfl, Nat.le_of_ble_eq_true rfl⟩ hP hK (ci := 0) (q0 := 0) rfl rfl rfl hl.1 rfl (Nat.le_of_ble_eq_true rfl) d_L_law_1585 ⟨Nat.le_trans (Nat.le_succ _) hc.1, Nat.le_trans (Nat.le_add_right _ 6) hc.2⟩ ?_
  refine W.eq (g2 := F0 m 1588 ls [.long (lZ (sLo J pr 3))]) rfl ?_
  refine lv_aload_n hx hb d_L_law_1588 rfl (lv_at hl 3 rfl) ?_
  refine z_kl (z_runV (As := []) (rest := [.long (lZ (sLo J pr 3))]) zTB Z (k_M_lost0 hI hM hpq) ⟨ml_L_175, im_M_lost, se_M_lost, ini_M, co_M_lost⟩ zd_M_lost ⟨Nat.le_of_ble_eq_true rfl, Nat.le_of_ble_eq_true rfl⟩ hP hK hD (ci := 5) (q0 := 19) rfl rfl rfl hl.1 rfl (Nat.le_of_ble_eq_true rfl) d_L_law_1589 ⟨Nat.le_trans (Nat.le_succ _) hc.1, Nat.le_trans (Nat.le_add_right _ 6) hc.2⟩) hD hS hA (fun r9 w9 H locs hp9 hP hD hS => ?_)
  obtain ⟨M1, rfl, rfl, hc1, hM1⟩ := hp9
  have hP : va_P D classes (wdC ad cI cZ cL J rd pr G K (wdM ad cI cZ cL J rd pr M1 ov)) H := hP
  have hD : va_D A (wdC ad cI cZ cL J rd pr G K (wdM ad cI cZ cL J rd pr M1 ov)) := hD
  refine W.eq (g2 := F0 m 1592 ls [.long (lZ (sLo J pr 3)), .long (lZ (sLo J pr 3))]) rfl ?_
  refine z_lcmpR_eq (tgt := 1598) (pc1 := 1593) (pc4 := 1596) hx hb d_L_law_1592 rfl rfl d_L_law_1593 (by decide) (fun q1592 => ?_) (fun q1592 => ?_)
  · skip
    refine W.widen (k := cells + 1) (n := slots + 6) (by omega) (by omega) ?_
    exact kk J _ _ _ _ _ _ H locs ls ⟨hI, hM1, hR, hpq⟩ hP hD hS (lv_sub hl [0, 1, 2, 3, 4] rfl)
  · skip
    exfalso; exact absurd rfl q1592

