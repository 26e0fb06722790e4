/-! Integer.signum; the camera; the face's reading methods. -/
def y_sg : MethodName := ⟨"java/lang/Integer", "signum", "(I)I"⟩
abbrev c_sg : ByteArray := prog_12_method_56_code
theorem d_sg_0 : decode c_sg 0 = .ok (.iload_n 0, 1) := by decide +kernel
theorem d_sg_1 : decode c_sg 1 = .ok (.bipush 31, 2) := by decide +kernel
theorem d_sg_3 : decode c_sg 3 = .ok (.ishr, 1) := by decide +kernel
theorem d_sg_4 : decode c_sg 4 = .ok (.iload_n 0, 1) := by decide +kernel
theorem d_sg_5 : decode c_sg 5 = .ok (.ineg, 1) := by decide +kernel
theorem d_sg_6 : decode c_sg 6 = .ok (.bipush 31, 2) := by decide +kernel
theorem d_sg_8 : decode c_sg 8 = .ok (.iushr, 1) := by decide +kernel
theorem d_sg_9 : decode c_sg 9 = .ok (.ior, 1) := by decide +kernel
theorem d_sg_10 : decode c_sg 10 = .ok (.ireturn, 1) := by decide +kernel
theorem sg_tn (z : Int) : (iZ z).toBitVec.toNat = (z % 4294967296).toNat := BitVec.toNat_ofInt z
theorem sg_eq {a : Int} (h : z32 a) : (iZ a >>> ((31 : Int32) &&& 31)) ||| ((-iZ a).toUInt32 >>> ((31 : Int32).toUInt32 &&& Int32.toUInt32 31)).toInt32 = iZ a.sign := by
  have h1 : (iZ a >>> ((31 : Int32) &&& 31)).toInt = (iZ a).toInt >>> 31 := pk_shr (iZ a) ((31 : Int32) &&& 31) 31 (by decide)
  rw [iZ_t h, Int.shiftRight_eq_div_pow] at h1
  have h2 := pk_ushr (-iZ a) 31 31 (by decide)
  rw [iZ_neg, sg_tn] at h2
  rw [iZ_neg]
  generalize hB : ((iZ (-a)).toUInt32 >>> ((31 : Int32).toUInt32 &&& Int32.toUInt32 31)).toInt32 = B at h2 ⊢
  generalize hA : iZ a >>> ((31 : Int32) &&& 31) = A9 at h1 ⊢
  rcases Int.lt_trichotomy a 0 with q | q | q
  · have e1 : A9 = -1 := Int32.toInt_inj.mp (by rw [h1]; show a / 2147483648 = -1; omega)
    rw [e1, Int.sign_eq_neg_one_of_neg q]
    exact Int32.toBitVec_inj.mp (BitVec.allOnes_or)
  · subst q
    have e1 : A9 = 0 := Int32.toInt_inj.mp (by rw [h1]; decide)
    have e2 : B = 0 := Int32.toBitVec_inj.mp (BitVec.eq_of_toNat_eq (by rw [h2]; decide))
    rw [e1, e2]; rfl
  · have e1 : A9 = 0 := Int32.toInt_inj.mp (by rw [h1]; show a / 2147483648 = 0; omega)
    have e2 : B = 1 := Int32.toBitVec_inj.mp (BitVec.eq_of_toNat_eq (by
      rw [h2]
      have e3 : (-a % 4294967296).toNat = (4294967296 - a).toNat := by omega
      rw [e3]
      show (4294967296 - a).toNat / 2147483648 = 1
      omega))
    rw [e1, e2, Int.sign_eq_one_of_pos q]; rfl
set_option maxHeartbeats 4000000 in
set_option maxRecDepth 100000 in
theorem k_sg {l : Launch} {D : va_G} {cI cZ cL : ClassId} {ws : va_W} {a : Int} (h : z32 a) : zMr l TB D classes (tysW cI cZ cL) y_sg (.code y_sg c_sg 1 (some .int)) 0 0 [.int (iZ a)] ws (some (.int (iZ a.sign))) := by
  refine z_ofR (by decide) (Nat.le_of_ble_eq_true rfl) ?_
  intro p e s m below meth c ls Z hP hK hl
  obtain ⟨hx, hb, hr, hml, hown, hts, hE, hlocks⟩ := id Z
  have hl : lv_has ls 1 [(0, .int (iZ a))] := hl
  refine lv_iload_n hx hb d_sg_0 rfl (lv_at hl 0 rfl) ?_
  refine lv_bipush (v := 31) hx hb d_sg_1 (by decide) ?_
  refine lv_ishr hx hb d_sg_3 ?_
  refine lv_iload_n hx hb d_sg_4 rfl (lv_at hl 0 rfl) ?_
  refine lv_ineg hx hb d_sg_5 ?_
  refine lv_bipush (v := 31) hx hb d_sg_6 (by decide) ?_
  refine lv_iushr hx hb d_sg_8 rfl ?_
  refine lv_ior hx hb d_sg_9 ?_
  exact z_iretR Z d_sg_10 (by rw [sg_eq h])
theorem co_sg : Cond.code y_sg c_sg 1 (some .int) ∈ TB := zmem 488 (by decide +kernel) (by decide +kernel)
theorem zd_sg : zdY y_sg 1 := by decide +kernel
/-- what holds of the readers' row -/
def RI (rd : Nat → Int) : Prop := ∀ j, -1 ≤ rd j ∧ rd j ≤ 100000
def sUn (rd : Nat → Int) (h : Nat) : Bool := decide (rd (h * 2) ≠ -1 ∧ rd (h * 2 + 1) ≠ -1 ∧ rd (h * 2) + rd (h * 2 + 1) < 10 * (((rd (h * 2) - rd (h * 2 + 1)).natAbs : Nat) : Int))
def sUl (rd : Nat → Int) : Nat → Nat → Int
  | 0, _ => -1
  | r + 1, h => if sUn rd h = true then ((h : Nat) : Int) else sUl rd r (h + 1)
def sPr (J : SJ) (pp wh : Nat) : Nat := if wh = 0 then jdh J pp else if wh = 1 then jph J pp else jsp J pp
def sHt (J : SJ) (kd : Nat) : Nat → Int
  | 0 => 0
  | i + 1 => sHt J kd i - (sKd J i kd).sign
def sSt (J : SJ) (kd : Nat) (up lo : Nat) : Nat → Nat → Int
  | 0, _ => -1
  | r + 1, i => if sHt J kd (i + 1) = ((up : Nat) : Int) then ((2 * i : Nat) : Int) else if sHt J kd (i + 1) = -((lo : Nat) : Int) then ((2 * i + 1 : Nat) : Int) else sSt J kd up lo r (i + 1)
theorem sHt_b (J : SJ) (kd i : Nat) : -(i : Int) ≤ sHt J kd i ∧ sHt J kd i ≤ (i : Int) := by
  induction i with
  | zero => exact ⟨by show -((0 : Nat) : Int) ≤ 0; omega, by show (0 : Int) ≤ ((0 : Nat) : Int); omega⟩
  | succ i ih =>
    show -((i + 1 : Nat) : Int) ≤ sHt J kd i - (sKd J i kd).sign ∧ sHt J kd i - (sKd J i kd).sign ≤ ((i + 1 : Nat) : Int)
    rcases Int.lt_trichotomy (sKd J i kd) 0 with q | q | q
    · rw [Int.sign_eq_neg_one_of_neg q]; omega
    · rw [q, Int.sign_zero]; omega
    · rw [Int.sign_eq_one_of_pos q]; omega
def sLo (J : SJ) (pr : Nat → Nat) : Nat → Int
  | 0 => 0
  | k + 1 => sLo J pr k - ((pr k : Nat) : Int) * sSO J 4 k (jk J)
theorem sg_b (a : Int) : -1 ≤ a.sign ∧ a.sign ≤ 1 := by
  rcases Int.lt_trichotomy a 0 with q | q | q
  · rw [Int.sign_eq_neg_one_of_neg q]; omega
  · rw [q, Int.sign_zero]; omega
  · rw [Int.sign_eq_one_of_pos q]; omega
set_option maxHeartbeats 4000000 in
set_option maxRecDepth 100000 in
theorem k_C_differs {l : Launch} {D : va_G} {ad : Nat → Nat} {cI cZ cL : ClassId} {J : SJ} {rd : Nat → Int} {pr : Nat → Nat} {G : SH} {K : SK} {tl : va_W} (hR : RI rd) {h : Nat} (hh : h < 32) : zMr l TB D classes (tysW cI cZ cL) y_C_differs w_C_differs 1 40 [.ref (ad 9), .int (iZ ((h : Nat) : Int))] (wdC ad cI cZ cL J rd pr G K tl) (some (.int (bI (sUn rd h)))) := by
  refine z_ofR (by decide) (Nat.le_of_ble_eq_true rfl) ?_
  intro p e s m below meth c ls Z hP hK hl
  obtain ⟨hx, hb, hr, hml, hown, hts, hE, hlocks⟩ := id Z
  have hl : lv_has ls 4 [(0, .ref (ad 9)), (1, .int (iZ ((h : Nat) : Int)))] := hl
  have hr1 := hR (h * 2)
  have hr2 := hR (h * 2 + 1)
  refine lv_aload_n hx hb d_C_differs_0 rfl (lv_at hl 0 rfl) ?_
  refine va_get (D := D) (ci := 2) (v := .ref (ad 10)) (C := n_C) (T := f_C) (N := 1) hx hb hts in_C hown hK hP 9 rfl rfl 0 (by decide) (hts _ fl_C_9) (fun _ h9 => h9) rfl d_C_differs_1 ?_
  refine lv_iload_n hx hb d_C_differs_4 rfl (lv_at hl 1 rfl) ?_
  refine lv_iconst (v := iZ ((2 : Nat) : Int)) hx hb d_C_differs_5 (by decide) ?_
  refine z_imulN (u := h) (v := 2) hx hb d_C_differs_6 ?_
  refine z_iald (f := rd) hx hb hK hP 10 0 rfl rfl (h * 2) (by omega) d_C_differs_7 ?_
  refine lv_istore_n (lv' := [(2, .int (iZ (rd (h * 2)))), (0, .ref (ad 9)), (1, .int (iZ ((h : Nat) : Int)))]) hx hb d_C_differs_8 rfl hl (by decide) rfl (fun ls hl => ?_)
  refine lv_aload_n hx hb d_C_differs_9 rfl (lv_at hl 1 rfl) ?_
  refine va_get (D := D) (ci := 2) (v := .ref (ad 10)) (C := n_C) (T := f_C) (N := 1) hx hb hts in_C hown hK hP 9 rfl rfl 0 (by decide) (hts _ fl_C_9) (fun _ h9 => h9) rfl d_C_differs_10 ?_
  refine lv_iload_n hx hb d_C_differs_13 rfl (lv_at hl 2 rfl) ?_
  refine lv_iconst (v := iZ ((2 : Nat) : Int)) hx hb d_C_differs_14 (by decide) ?_
  refine z_imulN (u := h) (v := 2) hx hb d_C_differs_15 ?_
  refine lv_iconst (v := iZ ((1 : Nat) : Int)) hx hb d_C_differs_16 (by decide) ?_
  refine z_iaddN (u := h * 2) (v := 1) hx hb d_C_differs_17 ?_
  refine z_iald (f := rd) hx hb hK hP 10 0 rfl rfl ((h * 2) + 1) (by omega) d_C_differs_18 ?_
  refine lv_istore_n (lv' := [(3, .int (iZ (rd ((h * 2) + 1)))), (2, .int (iZ (rd (h * 2)))), (0, .ref (ad 9)), (1, .int (iZ ((h : Nat) : Int)))]) hx hb d_C_differs_19 rfl hl (by decide) rfl (fun ls hl => ?_)
  refine lv_iload_n hx hb d_C_differs_20 rfl (lv_at hl 1 rfl) ?_
  refine lv_iconst (v := iZ ((-1 : Int))) hx hb d_C_differs_21 (by decide) ?_
  refine z_icmp_eq (a := rd (h * 2)) (b := (-1 : Int)) (tgt := 49) hx hb (by omega) d_C_differs_22 (by decide) (fun q22 => ?_) (fun q22 => ?_)
  · skip
    refine lv_iconst (v := iZ ((0 : Nat) : Int)) hx hb d_C_differs_49 (by decide) ?_
    refine W.eq (g2 := F0 m 50 ls [.int (bI false)]) rfl ?_
    exact z_zretR Z d_C_differs_50 (bret (by unfold sUn; first | exact (decide_eq_true (by omega)).symm | exact (decide_eq_false (by omega)).symm))
  · skip
    refine lv_iload_n hx hb d_C_differs_25 rfl (lv_at hl 0 rfl) ?_
    refine lv_iconst (v := iZ ((-1 : Int))) hx hb d_C_differs_26 (by decide) ?_
    refine z_icmp_eq (a := rd ((h * 2) + 1)) (b := (-1 : Int)) (tgt := 49) hx hb (by omega) d_C_differs_27 (by decide) (fun q27 => ?_) (fun q27 => ?_)
    · skip
      refine lv_iconst (v := iZ ((0 : Nat) : Int)) hx hb d_C_differs_49 (by decide) ?_
      refine W.eq (g2 := F0 m 50 ls [.int (bI false)]) rfl ?_
      exact z_zretR Z d_C_differs_50 (bret (by unfold sUn; first | exact (decide_eq_true (by omega)).symm | exact (decide_eq_false (by omega)).symm))
    · skip
      refine lv_bipush (v := iZ ((10 : Nat) : Int)) hx hb d_C_differs_30 (by decide) ?_
      refine lv_iload_n hx hb d_C_differs_32 rfl (lv_at hl 1 rfl) ?_
      refine lv_iload_n hx hb d_C_differs_33 rfl (lv_at hl 0 rfl) ?_
      refine z_isub (a := rd (h * 2)) (b := rd ((h * 2) + 1)) hx hb d_C_differs_34 ?_
      refine va_mabs hx hb (Z.2.2.2.1.trans hl.1.symm) hown (hts _ ml9_C_15) (hts _ sm_Math_abs9) (hts _ ini_Math) (hts _ co_Math_abs9) (Nat.le_of_ble_eq_true rfl) (Nat.le_of_ble_eq_true rfl) (Nat.zero_le _) (Nat.zero_le _) d_C_differs_35 ?_
      refine z_topI (b := iZ ((((rd (h * 2)) - (rd ((h * 2) + 1))).natAbs : Nat) : Int)) (z_abs (by omega)) ?_
      refine W.eq (g2 := F0 m 38 ls [.int (iZ ((((rd (h * 2)) - (rd ((h * 2) + 1))).natAbs : Nat) : Int)), .int (iZ ((10 : Nat) : Int))]) rfl ?_
      refine z_imulN (u := 10) (v := ((rd (h * 2)) - (rd ((h * 2) + 1))).natAbs) hx hb d_C_differs_38 ?_
      refine lv_iload_n hx hb d_C_differs_39 rfl (lv_at hl 1 rfl) ?_
      refine lv_iload_n hx hb d_C_differs_40 rfl (lv_at hl 0 rfl) ?_
      refine z_iadd (a := rd (h * 2)) (b := rd ((h * 2) + 1)) hx hb d_C_differs_41 ?_
      refine z_icmp_le (a := ((10 * (((rd (h * 2)) - (rd ((h * 2) + 1))).natAbs) : Nat) : Int)) (b := (rd (h * 2)) + (rd ((h * 2) + 1))) (tgt := 49) hx hb (by omega) d_C_differs_42 (by decide) (fun q42 => ?_) (fun q42 => ?_)
      · skip
        refine lv_iconst (v := iZ ((0 : Nat) : Int)) hx hb d_C_differs_49 (by decide) ?_
        refine W.eq (g2 := F0 m 50 ls [.int (bI false)]) rfl ?_
        exact z_zretR Z d_C_differs_50 (bret (by unfold sUn; first | exact (decide_eq_true (by omega)).symm | exact (decide_eq_false (by omega)).symm))
      · skip
        refine lv_iconst (v := iZ ((1 : Nat) : Int)) hx hb d_C_differs_45 (by decide) ?_
        refine lv_goto (tgt := 50) hx hb d_C_differs_46 (by decide) ?_
        refine W.eq (g2 := F0 m 50 ls [.int (bI true)]) rfl ?_
        exact z_zretR Z d_C_differs_50 (bret (by unfold sUn; first | exact (decide_eq_true (by omega)).symm | exact (decide_eq_false (by omega)).symm))

set_option maxHeartbeats 4000000 in
set_option maxRecDepth 100000 in
theorem k_D_arm {l : Launch} {D : va_G} {ad : Nat → Nat} {cI cZ cL : ClassId} {J : SJ} {rd : Nat → Int} {pr : Nat → Nat} {G : SH} {K : SK} {tl : va_W} (hI : JI J) {h : Nat} (hh : h < jn J) : zMr l TB D classes (tysW cI cZ cL) y_D_arm w_D_arm 3 82 [.ref (ad 0), .int (iZ ((h : Nat) : Int))] (wdC ad cI cZ cL J rd pr G K tl) (some (.int (iZ (((if jdv J h = true then 1 else 0 : Nat)) : Int)))) := by
  refine z_ofR (by decide) (Nat.le_of_ble_eq_true rfl) ?_
  intro p e s m below meth c ls Z hP hK hl
  obtain ⟨hx, hb, hr, hml, hown, hts, hE, hlocks⟩ := id Z
  have hl : lv_has ls 2 [(0, .ref (ad 0)), (1, .int (iZ ((h : Nat) : Int)))] := hl
  obtain ⟨hn32, hk2, hpr, hct⟩ := id hI
  refine lv_aload_n hx hb d_D_arm_0 rfl (lv_at hl 0 rfl) ?_
  refine lv_iload_n hx hb d_D_arm_1 rfl (lv_at hl 1 rfl) ?_
  refine z_callVR (As := [.int (iZ ((h : Nat) : Int))]) (rest := []) zTB Z (k_D_needHaul (a := ((h : Nat) : Int)) (by omega)) ⟨ml_D_61, im_D_needHaul, se_D_needHaul, ini_D, co_D_needHaul⟩ zd_D_needHaul ⟨Nat.le_of_ble_eq_true rfl, Nat.le_of_ble_eq_true rfl⟩ hP hK (ci := 0) (q0 := 0) rfl rfl rfl hl.1 rfl (Nat.le_of_ble_eq_true rfl) d_D_arm_2 ⟨Nat.zero_le _, Nat.zero_le _⟩ ?_
  refine W.eq (g2 := F0 m 5 ls []) rfl ?_
  refine lv_aload_n hx hb d_D_arm_5 rfl (lv_at hl 0 rfl) ?_
  refine va_get (D := D) (ci := 0) (v := .ref (ad 1)) (C := n_D) (T := f_D) (N := 5) hx hb hts in_D hown hK hP 0 rfl rfl 0 (by decide) (hts _ fl_D_14) (fun _ h9 => h9) rfl d_D_arm_6 ?_
  refine va_getN (D := D) (ci := 1) (v := .ref (ad 4)) (C := n_J) (T := f_J) (N := 10) hx hb hts in_J hown hK hP 1 rfl rfl 5 (by decide) (hts _ fl_D_79) (fun _ h9 => h9) rfl d_D_arm_9 ?_
  refine lv_iload_n hx hb d_D_arm_12 rfl (lv_at hl 1 rfl) ?_
  refine z_zald (f := jdv J) hx hb hK hP 4 1 rfl rfl (h) (by omega) d_D_arm_13 ?_
  refine z_if_eqB (b := (jdv J) (h)) (tgt := 21) hx hb d_D_arm_14 (by decide) (fun q14 => ?_) (fun q14 => ?_)
  · skip
    refine lv_iconst (v := iZ ((0 : Nat) : Int)) hx hb d_D_arm_21 (by decide) ?_
    exact z_iretR Z d_D_arm_22 (iretN (by simp [q14]))
  · skip
    refine lv_iconst (v := iZ ((1 : Nat) : Int)) hx hb d_D_arm_17 (by decide) ?_
    refine lv_goto (tgt := 22) hx hb d_D_arm_18 (by decide) ?_
    exact z_iretR Z d_D_arm_22 (iretN (by simp [q14]))

set_option maxHeartbeats 4000000 in
set_option maxRecDepth 100000 in
theorem k_D_pair {l : Launch} {D : va_G} {ad : Nat → Nat} {cI cZ cL : ClassId} {J : SJ} {rd : Nat → Int} {pr : Nat → Nat} {G : SH} {K : SK} {tl : va_W} (hI : JI J) {pp wh : Nat} (hp : pp < jk J) (hw : wh < 3) : zMr l TB D classes (tysW cI cZ cL) y_D_pair w_D_pair 3 82 [.ref (ad 0), .int (iZ ((pp : Nat) : Int)), .int (iZ ((wh : Nat) : Int))] (wdC ad cI cZ cL J rd pr G K tl) (some (.int (iZ ((sPr J pp wh : Nat) : Int)))) := by
  refine z_ofR (by decide) (Nat.le_of_ble_eq_true rfl) ?_
  intro p e s m below meth c ls Z hP hK hl
  obtain ⟨hx, hb, hr, hml, hown, hts, hE, hlocks⟩ := id Z
  have hl : lv_has ls 3 [(0, .ref (ad 0)), (1, .int (iZ ((pp : Nat) : Int))), (2, .int (iZ ((wh : Nat) : Int)))] := hl
  obtain ⟨hn32, hk2, hpr, hct⟩ := id hI
  refine lv_aload_n hx hb d_D_pair_0 rfl (lv_at hl 0 rfl) ?_
  refine lv_iload_n hx hb d_D_pair_1 rfl (lv_at hl 1 rfl) ?_
  refine z_callVR (As := [.int (iZ ((pp : Nat) : Int))]) (rest := []) zTB Z (k_D_needPair (a := ((pp : Nat) : Int)) (by omega)) ⟨ml_D_83, im_D_needPair, se_D_needPair, ini_D, co_D_needPair⟩ zd_D_needPair ⟨Nat.le_of_ble_eq_true rfl, Nat.le_of_ble_eq_true rfl⟩ hP hK (ci := 0) (q0 := 0) rfl rfl rfl hl.1 rfl (Nat.le_of_ble_eq_true rfl) d_D_pair_2 ⟨Nat.zero_le _, Nat.zero_le _⟩ ?_
  refine W.eq (g2 := F0 m 5 ls []) rfl ?_
  refine lv_iload_n hx hb d_D_pair_5 rfl (lv_at hl 2 rfl) ?_
  refine lv_iconst (v := iZ ((3 : Nat) : Int)) hx hb d_D_pair_6 (by decide) ?_
  refine z_callSR (As := [.int (iZ ((wh : Nat) : Int)), .int (iZ ((3 : Nat) : Int))]) (rest := []) zTB Z (k_D_needIndex (a := ((wh : Nat) : Int)) (b := ((3 : Nat) : Int)) (by omega)) ⟨ml_D_86, sm_D_needIndex, ini_D, co_D_needIndex⟩ zd_D_needIndex ⟨Nat.le_of_ble_eq_true rfl, Nat.le_of_ble_eq_true rfl⟩ hP hK hl.1 rfl (Nat.le_of_ble_eq_true rfl) d_D_pair_7 ⟨Nat.zero_le _, Nat.zero_le _⟩ ?_
  refine W.eq (g2 := F0 m 10 ls []) rfl ?_
  refine lv_iload_n hx hb d_D_pair_10 rfl (lv_at hl 2 rfl) ?_
  refine z_if_ne (a := ((wh : Nat) : Int)) (tgt := 24) hx hb (by omega) d_D_pair_11 (by decide) (fun q11 => ?_) (fun q11 => ?_)
  · skip
    refine lv_iload_n hx hb d_D_pair_24 rfl (lv_at hl 2 rfl) ?_
    refine lv_iconst (v := iZ ((1 : Nat) : Int)) hx hb d_D_pair_25 (by decide) ?_
    refine z_icmp_ne (a := ((wh : Nat) : Int)) (b := ((1 : Nat) : Int)) (tgt := 41) hx hb (by omega) d_D_pair_26 (by decide) (fun q26 => ?_) (fun q26 => ?_)
    · skip
      refine lv_aload_n hx hb d_D_pair_41 rfl (lv_at hl 0 rfl) ?_
      refine va_get (D := D) (ci := 0) (v := .ref (ad 1)) (C := n_D) (T := f_D) (N := 5) hx hb hts in_D hown hK hP 0 rfl rfl 0 (by decide) (hts _ fl_D_14) (fun _ h9 => h9) rfl d_D_pair_42 ?_
      refine va_getN (D := D) (ci := 1) (v := .ref (ad 8)) (C := n_J) (T := f_J) (N := 10) hx hb hts in_J hown hK hP 1 rfl rfl 9 (by decide) (hts _ fl_D_96) (fun _ h9 => h9) rfl d_D_pair_45 ?_
      refine lv_iload_n hx hb d_D_pair_48 rfl (lv_at hl 1 rfl) ?_
      refine z_ialdN (f := jsp J) hx hb hK hP 8 0 rfl rfl (pp) (by omega) d_D_pair_49 ?_
      exact z_iretR Z d_D_pair_50 (iretN (by unfold sPr; first | rw [if_pos (by omega)] | rw [if_neg (by omega), if_pos (by omega)] | rw [if_neg (by omega), if_neg (by omega)]))
    · skip
      refine lv_aload_n hx hb d_D_pair_29 rfl (lv_at hl 0 rfl) ?_
      refine va_get (D := D) (ci := 0) (v := .ref (ad 1)) (C := n_D) (T := f_D) (N := 5) hx hb hts in_D hown hK hP 0 rfl rfl 0 (by decide) (hts _ fl_D_14) (fun _ h9 => h9) rfl d_D_pair_30 ?_
      refine va_getN (D := D) (ci := 1) (v := .ref (ad 7)) (C := n_J) (T := f_J) (N := 10) hx hb hts in_J hown hK hP 1 rfl rfl 8 (by decide) (hts _ fl_D_93) (fun _ h9 => h9) rfl d_D_pair_33 ?_
      refine lv_iload_n hx hb d_D_pair_36 rfl (lv_at hl 1 rfl) ?_
      refine z_ialdN (f := jph J) hx hb hK hP 7 0 rfl rfl (pp) (by omega) d_D_pair_37 ?_
      refine lv_goto (tgt := 50) hx hb d_D_pair_38 (by decide) ?_
      exact z_iretR Z d_D_pair_50 (iretN (by unfold sPr; first | rw [if_pos (by omega)] | rw [if_neg (by omega), if_pos (by omega)] | rw [if_neg (by omega), if_neg (by omega)]))
  · skip
    refine lv_aload_n hx hb d_D_pair_14 rfl (lv_at hl 0 rfl) ?_
    refine va_get (D := D) (ci := 0) (v := .ref (ad 1)) (C := n_D) (T := f_D) (N := 5) hx hb hts in_D hown hK hP 0 rfl rfl 0 (by decide) (hts _ fl_D_14) (fun _ h9 => h9) rfl d_D_pair_15 ?_
    refine va_getN (D := D) (ci := 1) (v := .ref (ad 6)) (C := n_J) (T := f_J) (N := 10) hx hb hts in_J hown hK hP 1 rfl rfl 7 (by decide) (hts _ fl_D_90) (fun _ h9 => h9) rfl d_D_pair_18 ?_
    refine lv_iload_n hx hb d_D_pair_21 rfl (lv_at hl 1 rfl) ?_
    refine z_ialdN (f := jdh J) hx hb hK hP 6 0 rfl rfl (pp) (by omega) d_D_pair_22 ?_
    exact z_iretR Z d_D_pair_23 (iretN (by unfold sPr; first | rw [if_pos (by omega)] | rw [if_neg (by omega), if_pos (by omega)] | rw [if_neg (by omega), if_neg (by omega)]))

set_option maxHeartbeats 4000000 in
set_option maxRecDepth 100000 in
theorem k_D_pairs {l : Launch} {D : va_G} {ad : Nat → Nat} {cI cZ cL : ClassId} {J : SJ} {rd : Nat → Int} {pr : Nat → Nat} {G : SH} {K : SK} {tl : va_W} : zMr l TB D classes (tysW cI cZ cL) y_D_pairs w_D_pairs 0 0 [.ref (ad 0)] (wdC ad cI cZ cL J rd pr G K tl) (some (.int (iZ ((jk J : Nat) : Int)))) := by
  refine z_ofR (by decide) (Nat.le_of_ble_eq_true rfl) ?_
  intro p e s m below meth c ls Z hP hK hl
  obtain ⟨hx, hb, hr, hml, hown, hts, hE, hlocks⟩ := id Z
  have hl : lv_has ls 1 [(0, .ref (ad 0))] := hl
  refine lv_aload_n hx hb d_D_pairs_0 rfl (lv_at hl 0 rfl) ?_
  refine va_get (D := D) (ci := 0) (v := .ref (ad 1)) (C := n_D) (T := f_D) (N := 5) hx hb hts in_D hown hK hP 0 rfl rfl 0 (by decide) (hts _ fl_D_14) (fun _ h9 => h9) rfl d_D_pairs_1 ?_
  refine va_getN (D := D) (ci := 1) (v := .int (iZ ((jk J : Nat) : Int))) (C := n_J) (T := f_J) (N := 10) hx hb hts in_J hown hK hP 1 rfl rfl 2 (by decide) (hts _ fl_D_99) (fun _ h9 => h9) rfl d_D_pairs_4 ?_
  exact z_iretR Z d_D_pairs_7 (rfl)

set_option maxHeartbeats 4000000 in
set_option maxRecDepth 100000 in
theorem k_D_difference {l : Launch} {D : va_G} {ad : Nat → Nat} {cI cZ cL : ClassId} {J : SJ} {rd : Nat → Int} {pr : Nat → Nat} {G : SH} {K : SK} {tl : va_W} (hI : JI J) {pp kd : Nat} (hp : pp < jk J) (hkd : kd < 3) : zMr l TB D classes (tysW cI cZ cL) y_D_difference w_D_difference 3 82 [.ref (ad 0), .int (iZ ((pp : Nat) : Int)), .int (iZ ((kd : Nat) : Int))] (wdC ad cI cZ cL J rd pr G K tl) (some (.int (iZ (sDf J pp kd)))) := by
  refine z_ofR (by decide) (Nat.le_of_ble_eq_true rfl) ?_
  intro p e s m below meth c ls Z hP hK hl
  obtain ⟨hx, hb, hr, hml, hown, hts, hE, hlocks⟩ := id Z
  have hl : lv_has ls 3 [(0, .ref (ad 0)), (1, .int (iZ ((pp : Nat) : Int))), (2, .int (iZ ((kd : Nat) : Int)))] := hl
  obtain ⟨hn32, hk2, hpr, hct⟩ := id hI
  refine lv_aload_n hx hb d_D_difference_0 rfl (lv_at hl 0 rfl) ?_
  refine lv_iload_n hx hb d_D_difference_1 rfl (lv_at hl 1 rfl) ?_
  refine z_callVR (As := [.int (iZ ((pp : Nat) : Int))]) (rest := []) zTB Z (k_D_needPair (a := ((pp : Nat) : Int)) (by omega)) ⟨ml_D_83, im_D_needPair, se_D_needPair, ini_D, co_D_needPair⟩ zd_D_needPair ⟨Nat.le_of_ble_eq_true rfl, Nat.le_of_ble_eq_true rfl⟩ hP hK (ci := 0) (q0 := 0) rfl rfl rfl hl.1 rfl (Nat.le_of_ble_eq_true rfl) d_D_difference_2 ⟨Nat.zero_le _, Nat.zero_le _⟩ ?_
  refine W.eq (g2 := F0 m 5 ls []) rfl ?_
  refine lv_iload_n hx hb d_D_difference_5 rfl (lv_at hl 2 rfl) ?_
  refine z_callSR (As := [.int (iZ ((kd : Nat) : Int))]) (rest := []) zTB Z (k_D_needKind (a := ((kd : Nat) : Int)) (by omega)) ⟨ml_D_64, sm_D_needKind, ini_D, co_D_needKind⟩ zd_D_needKind ⟨Nat.le_of_ble_eq_true rfl, Nat.le_of_ble_eq_true rfl⟩ hP hK hl.1 rfl (Nat.le_of_ble_eq_true rfl) d_D_difference_6 ⟨Nat.zero_le _, Nat.zero_le _⟩ ?_
  refine W.eq (g2 := F0 m 9 ls []) rfl ?_
  refine lv_aload_n hx hb d_D_difference_9 rfl (lv_at hl 0 rfl) ?_
  refine va_get (D := D) (ci := 0) (v := .ref (ad 1)) (C := n_D) (T := f_D) (N := 5) hx hb hts in_D hown hK hP 0 rfl rfl 0 (by decide) (hts _ fl_D_14) (fun _ h9 => h9) rfl d_D_difference_10 ?_
  refine lv_iload_n hx hb d_D_difference_13 rfl (lv_at hl 1 rfl) ?_
  refine lv_iload_n hx hb d_D_difference_14 rfl (lv_at hl 2 rfl) ?_
  refine z_callVR (As := [.int (iZ ((pp : Nat) : Int)), .int (iZ ((kd : Nat) : Int))]) (rest := []) zTB Z (k_J_differenceOf hI (pp := pp) (kd := kd) (by omega) (by omega)) ⟨ml_D_102, im_J_differenceOf, se_J_differenceOf, ini_J, co_J_differenceOf⟩ zd_J_differenceOf ⟨Nat.le_of_ble_eq_true rfl, Nat.le_of_ble_eq_true rfl⟩ hP hK (ci := 1) (q0 := 1) rfl rfl rfl hl.1 rfl (Nat.le_of_ble_eq_true rfl) d_D_difference_15 ⟨Nat.zero_le _, Nat.zero_le _⟩ ?_
  refine W.eq (g2 := F0 m 18 ls [.int (iZ (sDf J pp kd))]) rfl ?_
  exact z_iretR Z d_D_difference_18 (rfl)

set_option maxHeartbeats 4000000 in
set_option maxRecDepth 100000 in
theorem k_D_rank {l : Launch} {D : va_G} {ad : Nat → Nat} {cI cZ cL : ClassId} {J : SJ} {rd : Nat → Int} {pr : Nat → Nat} {G : SH} {K : SK} {tl : va_W} (hI : JI J) {pp kd : Nat} (hp : pp < jk J) (hkd : kd < 3) : zMr l TB D classes (tysW cI cZ cL) y_D_rank w_D_rank 4 93 [.ref (ad 0), .int (iZ ((pp : Nat) : Int)), .int (iZ ((kd : Nat) : Int))] (wdC ad cI cZ cL J rd pr G K tl) (some (.int (iZ ((sRk J pp kd : Nat) : Int)))) := by
  refine z_ofR (by decide) (Nat.le_of_ble_eq_true rfl) ?_
  intro p e s m below meth c ls Z hP hK hl
  obtain ⟨hx, hb, hr, hml, hown, hts, hE, hlocks⟩ := id Z
  have hl : lv_has ls 3 [(0, .ref (ad 0)), (1, .int (iZ ((pp : Nat) : Int))), (2, .int (iZ ((kd : Nat) : Int)))] := hl
  obtain ⟨hn32, hk2, hpr, hct⟩ := id hI
  refine lv_aload_n hx hb d_D_rank_0 rfl (lv_at hl 0 rfl) ?_
  refine lv_iload_n hx hb d_D_rank_1 rfl (lv_at hl 1 rfl) ?_
  refine z_callVR (As := [.int (iZ ((pp : Nat) : Int))]) (rest := []) zTB Z (k_D_needPair (a := ((pp : Nat) : Int)) (by omega)) ⟨ml_D_83, im_D_needPair, se_D_needPair, ini_D, co_D_needPair⟩ zd_D_needPair ⟨Nat.le_of_ble_eq_true rfl, Nat.le_of_ble_eq_true rfl⟩ hP hK (ci := 0) (q0 := 0) rfl rfl rfl hl.1 rfl (Nat.le_of_ble_eq_true rfl) d_D_rank_2 ⟨Nat.zero_le _, Nat.zero_le _⟩ ?_
  refine W.eq (g2 := F0 m 5 ls []) rfl ?_
  refine lv_iload_n hx hb d_D_rank_5 rfl (lv_at hl 2 rfl) ?_
  refine z_callSR (As := [.int (iZ ((kd : Nat) : Int))]) (rest := []) zTB Z (k_D_needKind (a := ((kd : Nat) : Int)) (by omega)) ⟨ml_D_64, sm_D_needKind, ini_D, co_D_needKind⟩ zd_D_needKind ⟨Nat.le_of_ble_eq_true rfl, Nat.le_of_ble_eq_true rfl⟩ hP hK hl.1 rfl (Nat.le_of_ble_eq_true rfl) d_D_rank_6 ⟨Nat.zero_le _, Nat.zero_le _⟩ ?_
  refine W.eq (g2 := F0 m 9 ls []) rfl ?_
  refine lv_aload_n hx hb d_D_rank_9 rfl (lv_at hl 0 rfl) ?_
  refine va_get (D := D) (ci := 0) (v := .ref (ad 1)) (C := n_D) (T := f_D) (N := 5) hx hb hts in_D hown hK hP 0 rfl rfl 0 (by decide) (hts _ fl_D_14) (fun _ h9 => h9) rfl d_D_rank_10 ?_
  refine lv_iload_n hx hb d_D_rank_13 rfl (lv_at hl 1 rfl) ?_
  refine lv_iload_n hx hb d_D_rank_14 rfl (lv_at hl 2 rfl) ?_
  refine z_callVR (As := [.int (iZ ((pp : Nat) : Int)), .int (iZ ((kd : Nat) : Int))]) (rest := []) zTB Z (k_J_rankOf hI (pp := pp) (kd := kd) (by omega) (by omega)) ⟨ml_D_142, im_J_rankOf, se_J_rankOf, ini_J, co_J_rankOf⟩ zd_J_rankOf ⟨Nat.le_of_ble_eq_true rfl, Nat.le_of_ble_eq_true rfl⟩ hP hK (ci := 1) (q0 := 1) rfl rfl rfl hl.1 rfl (Nat.le_of_ble_eq_true rfl) d_D_rank_15 ⟨Nat.zero_le _, Nat.zero_le _⟩ ?_
  refine W.eq (g2 := F0 m 18 ls [.int (iZ ((sRk J pp kd : Nat) : Int))]) rfl ?_
  exact z_iretR Z d_D_rank_18 (rfl)

set_option maxHeartbeats 4000000 in
set_option maxRecDepth 100000 in
theorem k_D_kept {l : Launch} {D : va_G} {ad : Nat → Nat} {cI cZ cL : ClassId} {J : SJ} {rd : Nat → Int} {pr : Nat → Nat} {G : SH} {K : SK} {tl : va_W} (hI : JI J) {kd : Nat} (hkd : kd < 3) : zMr l TB D classes (tysW cI cZ cL) y_D_kept w_D_kept 3 81 [.ref (ad 0), .int (iZ ((kd : Nat) : Int))] (wdC ad cI cZ cL J rd pr G K tl) (some (.int (iZ ((sKO J 4 kd (jk J) : Nat) : Int)))) := by
  refine z_ofR (by decide) (Nat.le_of_ble_eq_true rfl) ?_
  intro p e s m below meth c ls Z hP hK hl
  obtain ⟨hx, hb, hr, hml, hown, hts, hE, hlocks⟩ := id Z
  have hl : lv_has ls 2 [(0, .ref (ad 0)), (1, .int (iZ ((kd : Nat) : Int)))] := hl
  obtain ⟨hn32, hk2, hpr, hct⟩ := id hI
  refine lv_iload_n hx hb d_D_kept_0 rfl (lv_at hl 1 rfl) ?_
  refine z_callSR (As := [.int (iZ ((kd : Nat) : Int))]) (rest := []) zTB Z (k_D_needKind (a := ((kd : Nat) : Int)) (by omega)) ⟨ml_D_64, sm_D_needKind, ini_D, co_D_needKind⟩ zd_D_needKind ⟨Nat.le_of_ble_eq_true rfl, Nat.le_of_ble_eq_true rfl⟩ hP hK hl.1 rfl (Nat.le_of_ble_eq_true rfl) d_D_kept_1 ⟨Nat.zero_le _, Nat.zero_le _⟩ ?_
  refine W.eq (g2 := F0 m 4 ls []) rfl ?_
  refine lv_aload_n hx hb d_D_kept_4 rfl (lv_at hl 0 rfl) ?_
  refine va_get (D := D) (ci := 0) (v := .ref (ad 1)) (C := n_D) (T := f_D) (N := 5) hx hb hts in_D hown hK hP 0 rfl rfl 0 (by decide) (hts _ fl_D_14) (fun _ h9 => h9) rfl d_D_kept_5 ?_
  refine lv_iconst (v := iZ ((4 : Nat) : Int)) hx hb d_D_kept_8 (by decide) ?_
  refine lv_iload_n hx hb d_D_kept_9 rfl (lv_at hl 1 rfl) ?_
  refine z_callVR (As := [.int (iZ ((4 : Nat) : Int)), .int (iZ ((kd : Nat) : Int))]) (rest := []) zTB Z (k_J_keptOf hI (sh := 4) (kd := kd) (by omega) (by omega)) ⟨ml_D_106, im_J_keptOf, se_J_keptOf, ini_J, co_J_keptOf⟩ zd_J_keptOf ⟨Nat.le_of_ble_eq_true rfl, Nat.le_of_ble_eq_true rfl⟩ hP hK (ci := 1) (q0 := 1) rfl rfl rfl hl.1 rfl (Nat.le_of_ble_eq_true rfl) d_D_kept_10 ⟨Nat.zero_le _, Nat.zero_le _⟩ ?_
  refine W.eq (g2 := F0 m 13 ls [.int (iZ ((sKO J 4 kd (jk J) : Nat) : Int))]) rfl ?_
  exact z_iretR Z d_D_kept_13 (rfl)

set_option maxHeartbeats 4000000 in
set_option maxRecDepth 100000 in
theorem k_D_sum {l : Launch} {D : va_G} {ad : Nat → Nat} {cI cZ cL : ClassId} {J : SJ} {rd : Nat → Int} {pr : Nat → Nat} {G : SH} {K : SK} {tl : va_W} (hI : JI J) {kd : Nat} (hkd : kd < 3) : zMr l TB D classes (tysW cI cZ cL) y_D_sum w_D_sum 4 91 [.ref (ad 0), .int (iZ ((kd : Nat) : Int))] (wdC ad cI cZ cL J rd pr G K tl) (some (.int (iZ (sSO J 4 kd (jk J))))) := by
  refine z_ofR (by decide) (Nat.le_of_ble_eq_true rfl) ?_
  intro p e s m below meth c ls Z hP hK hl
  obtain ⟨hx, hb, hr, hml, hown, hts, hE, hlocks⟩ := id Z
  have hl : lv_has ls 2 [(0, .ref (ad 0)), (1, .int (iZ ((kd : Nat) : Int)))] := hl
  obtain ⟨hn32, hk2, hpr, hct⟩ := id hI
  refine lv_iload_n hx hb d_D_sum_0 rfl (lv_at hl 1 rfl) ?_
  refine z_callSR (As := [.int (iZ ((kd : Nat) : Int))]) (rest := []) zTB Z (k_D_needKind (a := ((kd : Nat) : Int)) (by omega)) ⟨ml_D_64, sm_D_needKind, ini_D, co_D_needKind⟩ zd_D_needKind ⟨Nat.le_of_ble_eq_true rfl, Nat.le_of_ble_eq_true rfl⟩ hP hK hl.1 rfl (Nat.le_of_ble_eq_true rfl) d_D_sum_1 ⟨Nat.zero_le _, Nat.zero_le _⟩ ?_
  refine W.eq (g2 := F0 m 4 ls []) rfl ?_
  refine lv_aload_n hx hb d_D_sum_4 rfl (lv_at hl 0 rfl) ?_
  refine va_get (D := D) (ci := 0) (v := .ref (ad 1)) (C := n_D) (T := f_D) (N := 5) hx hb hts in_D hown hK hP 0 rfl rfl 0 (by decide) (hts _ fl_D_14) (fun _ h9 => h9) rfl d_D_sum_5 ?_
  refine lv_iconst (v := iZ ((4 : Nat) : Int)) hx hb d_D_sum_8 (by decide) ?_
  refine lv_iload_n hx hb d_D_sum_9 rfl (lv_at hl 1 rfl) ?_
  refine z_callVR (As := [.int (iZ ((4 : Nat) : Int)), .int (iZ ((kd : Nat) : Int))]) (rest := []) zTB Z (k_J_sumOf hI (sh := 4) (kd := kd) (by omega) (by omega)) ⟨ml_D_109, im_J_sumOf, se_J_sumOf, ini_J, co_J_sumOf⟩ zd_J_sumOf ⟨Nat.le_of_ble_eq_true rfl, Nat.le_of_ble_eq_true rfl⟩ hP hK (ci := 1) (q0 := 1) rfl rfl rfl hl.1 rfl (Nat.le_of_ble_eq_true rfl) d_D_sum_10 ⟨Nat.zero_le _, Nat.zero_le _⟩ ?_
  refine W.eq (g2 := F0 m 13 ls [.int (iZ (sSO J 4 kd (jk J)))]) rfl ?_
  exact z_iretR Z d_D_sum_13 (rfl)

set_option maxHeartbeats 4000000 in
set_option maxRecDepth 100000 in
theorem k_D_mean {l : Launch} {D : va_G} {ad : Nat → Nat} {cI cZ cL : ClassId} {J : SJ} {rd : Nat → Int} {pr : Nat → Nat} {G : SH} {K : SK} {tl : va_W} (hI : JI J) {sh kd pt : Nat} (hsh : sh < 4) (hkd : kd < 3) (hpt : pt < 2) : zMr l TB D classes (tysW cI cZ cL) y_D_mean w_D_mean 4 91 [.ref (ad 0), .int (iZ ((sh : Nat) : Int)), .int (iZ ((kd : Nat) : Int)), .int (iZ ((pt : Nat) : Int))] (wdC ad cI cZ cL J rd pr G K tl) (some (.long (lZ (sTP (sSO J sh kd (jk J)) (sKO J sh kd (jk J)) pt)))) := by
  refine z_ofR (by decide) (Nat.le_of_ble_eq_true rfl) ?_
  intro p e s m below meth c ls Z hP hK hl
  obtain ⟨hx, hb, hr, hml, hown, hts, hE, hlocks⟩ := id Z
  have hl : lv_has ls 4 [(0, .ref (ad 0)), (1, .int (iZ ((sh : Nat) : Int))), (2, .int (iZ ((kd : Nat) : Int))), (3, .int (iZ ((pt : Nat) : Int)))] := hl
  obtain ⟨hn32, hk2, hpr, hct⟩ := id hI
  have hb1 := sSO_b hI sh kd (jk J)
  have hb2 := sKO_le (J := J) sh kd (jk J)
  have hb3 := sSO_b hI 4 kd (jk J)
  have hb4 := sKO_le (J := J) 4 kd (jk J)
  refine lv_iload_n hx hb d_D_mean_0 rfl (lv_at hl 1 rfl) ?_
  refine z_callSR (As := [.int (iZ ((sh : Nat) : Int))]) (rest := []) zTB Z (k_D_needShip (a := ((sh : Nat) : Int)) (by omega)) ⟨ml_D_43, sm_D_needShip, ini_D, co_D_needShip⟩ zd_D_needShip ⟨Nat.le_of_ble_eq_true rfl, Nat.le_of_ble_eq_true rfl⟩ hP hK hl.1 rfl (Nat.le_of_ble_eq_true rfl) d_D_mean_1 ⟨Nat.zero_le _, Nat.zero_le _⟩ ?_
  refine W.eq (g2 := F0 m 4 ls []) rfl ?_
  refine lv_iload_n hx hb d_D_mean_4 rfl (lv_at hl 2 rfl) ?_
  refine z_callSR (As := [.int (iZ ((kd : Nat) : Int))]) (rest := []) zTB Z (k_D_needKind (a := ((kd : Nat) : Int)) (by omega)) ⟨ml_D_64, sm_D_needKind, ini_D, co_D_needKind⟩ zd_D_needKind ⟨Nat.le_of_ble_eq_true rfl, Nat.le_of_ble_eq_true rfl⟩ hP hK hl.1 rfl (Nat.le_of_ble_eq_true rfl) d_D_mean_5 ⟨Nat.zero_le _, Nat.zero_le _⟩ ?_
  refine W.eq (g2 := F0 m 8 ls []) rfl ?_
  refine lv_iload_n hx hb d_D_mean_8 rfl (lv_at hl 3 rfl) ?_
  refine z_callSR (As := [.int (iZ ((pt : Nat) : Int))]) (rest := []) zTB Z (k_D_needPart (a := ((pt : Nat) : Int)) (by omega)) ⟨ml_D_112, sm_D_needPart, ini_D, co_D_needPart⟩ zd_D_needPart ⟨Nat.le_of_ble_eq_true rfl, Nat.le_of_ble_eq_true rfl⟩ hP hK hl.1 rfl (Nat.le_of_ble_eq_true rfl) d_D_mean_9 ⟨Nat.zero_le _, Nat.zero_le _⟩ ?_
  refine W.eq (g2 := F0 m 12 ls []) rfl ?_
  refine lv_aload_n hx hb d_D_mean_12 rfl (lv_at hl 0 rfl) ?_
  refine va_get (D := D) (ci := 0) (v := .ref (ad 1)) (C := n_D) (T := f_D) (N := 5) hx hb hts in_D hown hK hP 0 rfl rfl 0 (by decide) (hts _ fl_D_14) (fun _ h9 => h9) rfl d_D_mean_13 ?_
  refine lv_iload_n hx hb d_D_mean_16 rfl (lv_at hl 1 rfl) ?_
  refine lv_iload_n hx hb d_D_mean_17 rfl (lv_at hl 2 rfl) ?_
  refine z_callVR (As := [.int (iZ ((sh : Nat) : Int)), .int (iZ ((kd : Nat) : Int))]) (rest := []) zTB Z (k_J_sumOf hI (sh := sh) (kd := kd) (by omega) (by omega)) ⟨ml_D_109, im_J_sumOf, se_J_sumOf, ini_J, co_J_sumOf⟩ zd_J_sumOf ⟨Nat.le_of_ble_eq_true rfl, Nat.le_of_ble_eq_true rfl⟩ hP hK (ci := 1) (q0 := 1) rfl rfl rfl hl.1 rfl (Nat.le_of_ble_eq_true rfl) d_D_mean_18 ⟨Nat.zero_le _, Nat.zero_le _⟩ ?_
  refine W.eq (g2 := F0 m 21 ls [.int (iZ (sSO J sh kd (jk J)))]) rfl ?_
  refine z_i2l (a := sSO J sh kd (jk J)) hx hb (by omega) d_D_mean_21 ?_
  refine lv_aload_n hx hb d_D_mean_22 rfl (lv_at hl 0 rfl) ?_
  refine va_get (D := D) (ci := 0) (v := .ref (ad 1)) (C := n_D) (T := f_D) (N := 5) hx hb hts in_D hown hK hP 0 rfl rfl 0 (by decide) (hts _ fl_D_14) (fun _ h9 => h9) rfl d_D_mean_23 ?_
  refine lv_iload_n hx hb d_D_mean_26 rfl (lv_at hl 1 rfl) ?_
  refine lv_iload_n hx hb d_D_mean_27 rfl (lv_at hl 2 rfl) ?_
  refine z_callVR (As := [.int (iZ ((sh : Nat) : Int)), .int (iZ ((kd : Nat) : Int))]) (rest := [.long (lZ (sSO J sh kd (jk J)))]) zTB Z (k_J_keptOf hI (sh := sh) (kd := kd) (by omega) (by omega)) ⟨ml_D_106, im_J_keptOf, se_J_keptOf, ini_J, co_J_keptOf⟩ zd_J_keptOf ⟨Nat.le_of_ble_eq_true rfl, Nat.le_of_ble_eq_true rfl⟩ hP hK (ci := 1) (q0 := 1) rfl rfl rfl hl.1 rfl (Nat.le_of_ble_eq_true rfl) d_D_mean_28 ⟨Nat.zero_le _, Nat.zero_le _⟩ ?_
  refine W.eq (g2 := F0 m 31 ls [.int (iZ ((sKO J sh kd (jk J) : Nat) : Int)), .long (lZ (sSO J sh kd (jk J)))]) rfl ?_
  refine z_i2l (a := ((sKO J sh kd (jk J) : Nat) : Int)) hx hb (by omega) d_D_mean_31 ?_
  refine lv_iload_n hx hb d_D_mean_32 rfl (lv_at hl 3 rfl) ?_
  refine z_callSR (As := [.long (lZ (sSO J sh kd (jk J))), .long (lZ ((sKO J sh kd (jk J) : Nat) : Int)), .int (iZ ((pt : Nat) : Int))]) (rest := []) zTB Z (k_D_toldPart (a := sSO J sh kd (jk J)) (bl := sKO J sh kd (jk J)) (pt := pt) (by omega)) ⟨ml_D_138, sm_D_toldPart, ini_D, co_D_toldPart⟩ zd_D_toldPart ⟨Nat.le_of_ble_eq_true rfl, Nat.le_of_ble_eq_true rfl⟩ hP hK hl.1 rfl (Nat.le_of_ble_eq_true rfl) d_D_mean_33 ⟨Nat.zero_le _, Nat.zero_le _⟩ ?_
  refine W.eq (g2 := F0 m 36 ls [.long (lZ (sTP (sSO J sh kd (jk J)) (sKO J sh kd (jk J)) pt))]) rfl ?_
  exact z_lretR Z d_D_mean_36 (rfl)

set_option maxHeartbeats 4000000 in
set_option maxRecDepth 100000 in
theorem k_D_weight {l : Launch} {D : va_G} {ad : Nat → Nat} {cI cZ cL : ClassId} {J : SJ} {rd : Nat → Int} {pr : Nat → Nat} {G : SH} {K : SK} {tl : va_W} (hI : JI J) {sh kd pt : Nat} (hsh : sh < 4) (hkd : kd < 3) (hpt : pt < 2) : zMr l TB D classes (tysW cI cZ cL) y_D_weight w_D_weight 3 81 [.ref (ad 0), .int (iZ ((sh : Nat) : Int)), .int (iZ ((kd : Nat) : Int)), .int (iZ ((pt : Nat) : Int))] (wdC ad cI cZ cL J rd pr G K tl) (some (.long (lZ (sTP ((sKO J sh kd (jk J) : Nat) : Int) (sKO J 4 kd (jk J)) pt)))) := by
  refine z_ofR (by decide) (Nat.le_of_ble_eq_true rfl) ?_
  intro p e s m below meth c ls Z hP hK hl
  obtain ⟨hx, hb, hr, hml, hown, hts, hE, hlocks⟩ := id Z
  have hl : lv_has ls 4 [(0, .ref (ad 0)), (1, .int (iZ ((sh : Nat) : Int))), (2, .int (iZ ((kd : Nat) : Int))), (3, .int (iZ ((pt : Nat) : Int)))] := hl
  obtain ⟨hn32, hk2, hpr, hct⟩ := id hI
  have hb1 := sSO_b hI sh kd (jk J)
  have hb2 := sKO_le (J := J) sh kd (jk J)
  have hb3 := sSO_b hI 4 kd (jk J)
  have hb4 := sKO_le (J := J) 4 kd (jk J)
  refine lv_iload_n hx hb d_D_weight_0 rfl (lv_at hl 1 rfl) ?_
  refine z_callSR (As := [.int (iZ ((sh : Nat) : Int))]) (rest := []) zTB Z (k_D_needShip (a := ((sh : Nat) : Int)) (by omega)) ⟨ml_D_43, sm_D_needShip, ini_D, co_D_needShip⟩ zd_D_needShip ⟨Nat.le_of_ble_eq_true rfl, Nat.le_of_ble_eq_true rfl⟩ hP hK hl.1 rfl (Nat.le_of_ble_eq_true rfl) d_D_weight_1 ⟨Nat.zero_le _, Nat.zero_le _⟩ ?_
  refine W.eq (g2 := F0 m 4 ls []) rfl ?_
  refine lv_iload_n hx hb d_D_weight_4 rfl (lv_at hl 2 rfl) ?_
  refine z_callSR (As := [.int (iZ ((kd : Nat) : Int))]) (rest := []) zTB Z (k_D_needKind (a := ((kd : Nat) : Int)) (by omega)) ⟨ml_D_64, sm_D_needKind, ini_D, co_D_needKind⟩ zd_D_needKind ⟨Nat.le_of_ble_eq_true rfl, Nat.le_of_ble_eq_true rfl⟩ hP hK hl.1 rfl (Nat.le_of_ble_eq_true rfl) d_D_weight_5 ⟨Nat.zero_le _, Nat.zero_le _⟩ ?_
  refine W.eq (g2 := F0 m 8 ls []) rfl ?_
  refine lv_iload_n hx hb d_D_weight_8 rfl (lv_at hl 3 rfl) ?_
  refine z_callSR (As := [.int (iZ ((pt : Nat) : Int))]) (rest := []) zTB Z (k_D_needPart (a := ((pt : Nat) : Int)) (by omega)) ⟨ml_D_112, sm_D_needPart, ini_D, co_D_needPart⟩ zd_D_needPart ⟨Nat.le_of_ble_eq_true rfl, Nat.le_of_ble_eq_true rfl⟩ hP hK hl.1 rfl (Nat.le_of_ble_eq_true rfl) d_D_weight_9 ⟨Nat.zero_le _, Nat.zero_le _⟩ ?_
  refine W.eq (g2 := F0 m 12 ls []) rfl ?_
  refine lv_aload_n hx hb d_D_weight_12 rfl (lv_at hl 0 rfl) ?_
  refine va_get (D := D) (ci := 0) (v := .ref (ad 1)) (C := n_D) (T := f_D) (N := 5) hx hb hts in_D hown hK hP 0 rfl rfl 0 (by decide) (hts _ fl_D_14) (fun _ h9 => h9) rfl d_D_weight_13 ?_
  refine lv_iload_n hx hb d_D_weight_16 rfl (lv_at hl 1 rfl) ?_
  refine lv_iload_n hx hb d_D_weight_17 rfl (lv_at hl 2 rfl) ?_
  refine z_callVR (As := [.int (iZ ((sh : Nat) : Int)), .int (iZ ((kd : Nat) : Int))]) (rest := []) zTB Z (k_J_keptOf hI (sh := sh) (kd := kd) (by omega) (by omega)) ⟨ml_D_106, im_J_keptOf, se_J_keptOf, ini_J, co_J_keptOf⟩ zd_J_keptOf ⟨Nat.le_of_ble_eq_true rfl, Nat.le_of_ble_eq_true rfl⟩ hP hK (ci := 1) (q0 := 1) rfl rfl rfl hl.1 rfl (Nat.le_of_ble_eq_true rfl) d_D_weight_18 ⟨Nat.zero_le _, Nat.zero_le _⟩ ?_
  refine W.eq (g2 := F0 m 21 ls [.int (iZ ((sKO J sh kd (jk J) : Nat) : Int))]) rfl ?_
  refine z_i2l (a := ((sKO J sh kd (jk J) : Nat) : Int)) hx hb (by omega) d_D_weight_21 ?_
  refine lv_aload_n hx hb d_D_weight_22 rfl (lv_at hl 0 rfl) ?_
  refine va_get (D := D) (ci := 0) (v := .ref (ad 1)) (C := n_D) (T := f_D) (N := 5) hx hb hts in_D hown hK hP 0 rfl rfl 0 (by decide) (hts _ fl_D_14) (fun _ h9 => h9) rfl d_D_weight_23 ?_
  refine lv_iconst (v := iZ ((4 : Nat) : Int)) hx hb d_D_weight_26 (by decide) ?_
  refine lv_iload_n hx hb d_D_weight_27 rfl (lv_at hl 2 rfl) ?_
  refine z_callVR (As := [.int (iZ ((4 : Nat) : Int)), .int (iZ ((kd : Nat) : Int))]) (rest := [.long (lZ ((sKO J sh kd (jk J) : Nat) : Int))]) zTB Z (k_J_keptOf hI (sh := 4) (kd := kd) (by omega) (by omega)) ⟨ml_D_106, im_J_keptOf, se_J_keptOf, ini_J, co_J_keptOf⟩ zd_J_keptOf ⟨Nat.le_of_ble_eq_true rfl, Nat.le_of_ble_eq_true rfl⟩ hP hK (ci := 1) (q0 := 1) rfl rfl rfl hl.1 rfl (Nat.le_of_ble_eq_true rfl) d_D_weight_28 ⟨Nat.zero_le _, Nat.zero_le _⟩ ?_
  refine W.eq (g2 := F0 m 31 ls [.int (iZ ((sKO J 4 kd (jk J) : Nat) : Int)), .long (lZ ((sKO J sh kd (jk J) : Nat) : Int))]) rfl ?_
  refine z_i2l (a := ((sKO J 4 kd (jk J) : Nat) : Int)) hx hb (by omega) d_D_weight_31 ?_
  refine lv_iload_n hx hb d_D_weight_32 rfl (lv_at hl 3 rfl) ?_
  refine z_callSR (As := [.long (lZ ((sKO J sh kd (jk J) : Nat) : Int)), .long (lZ ((sKO J 4 kd (jk J) : Nat) : Int)), .int (iZ ((pt : Nat) : Int))]) (rest := []) zTB Z (k_D_toldPart (a := ((sKO J sh kd (jk J) : Nat) : Int)) (bl := sKO J 4 kd (jk J)) (pt := pt) (by omega)) ⟨ml_D_138, sm_D_toldPart, ini_D, co_D_toldPart⟩ zd_D_toldPart ⟨Nat.le_of_ble_eq_true rfl, Nat.le_of_ble_eq_true rfl⟩ hP hK hl.1 rfl (Nat.le_of_ble_eq_true rfl) d_D_weight_33 ⟨Nat.zero_le _, Nat.zero_le _⟩ ?_
  refine W.eq (g2 := F0 m 36 ls [.long (lZ (sTP ((sKO J sh kd (jk J) : Nat) : Int) (sKO J 4 kd (jk J)) pt))]) rfl ?_
  exact z_lretR Z d_D_weight_36 (rfl)

set_option maxHeartbeats 4000000 in
set_option maxRecDepth 100000 in
theorem k_D_joined {l : Launch} {D : va_G} {ad : Nat → Nat} {cI cZ cL : ClassId} {J : SJ} {rd : Nat → Int} {pr : Nat → Nat} {G : SH} {K : SK} {tl : va_W} (hI : JI J) {kd pt : Nat} (hkd : kd < 3) (hpt : pt < 2) : zMr l TB D classes (tysW cI cZ cL) y_D_joined w_D_joined 4 91 [.ref (ad 0), .int (iZ ((kd : Nat) : Int)), .int (iZ ((pt : Nat) : Int))] (wdC ad cI cZ cL J rd pr G K tl) (some (.long (lZ (sTP (sSO J 4 kd (jk J)) (sKO J 4 kd (jk J)) pt)))) := by
  refine z_ofR (by decide) (Nat.le_of_ble_eq_true rfl) ?_
  intro p e s m below meth c ls Z hP hK hl
  obtain ⟨hx, hb, hr, hml, hown, hts, hE, hlocks⟩ := id Z
  have hl : lv_has ls 3 [(0, .ref (ad 0)), (1, .int (iZ ((kd : Nat) : Int))), (2, .int (iZ ((pt : Nat) : Int)))] := hl
  obtain ⟨hn32, hk2, hpr, hct⟩ := id hI
  have hb1 := sSO_b hI 4 kd (jk J)
  have hb2 := sKO_le (J := J) 4 kd (jk J)
  have hb3 := sSO_b hI 4 kd (jk J)
  have hb4 := sKO_le (J := J) 4 kd (jk J)
  refine lv_iload_n hx hb d_D_joined_0 rfl (lv_at hl 1 rfl) ?_
  refine z_callSR (As := [.int (iZ ((kd : Nat) : Int))]) (rest := []) zTB Z (k_D_needKind (a := ((kd : Nat) : Int)) (by omega)) ⟨ml_D_64, sm_D_needKind, ini_D, co_D_needKind⟩ zd_D_needKind ⟨Nat.le_of_ble_eq_true rfl, Nat.le_of_ble_eq_true rfl⟩ hP hK hl.1 rfl (Nat.le_of_ble_eq_true rfl) d_D_joined_1 ⟨Nat.zero_le _, Nat.zero_le _⟩ ?_
  refine W.eq (g2 := F0 m 4 ls []) rfl ?_
  refine lv_iload_n hx hb d_D_joined_4 rfl (lv_at hl 2 rfl) ?_
  refine z_callSR (As := [.int (iZ ((pt : Nat) : Int))]) (rest := []) zTB Z (k_D_needPart (a := ((pt : Nat) : Int)) (by omega)) ⟨ml_D_112, sm_D_needPart, ini_D, co_D_needPart⟩ zd_D_needPart ⟨Nat.le_of_ble_eq_true rfl, Nat.le_of_ble_eq_true rfl⟩ hP hK hl.1 rfl (Nat.le_of_ble_eq_true rfl) d_D_joined_5 ⟨Nat.zero_le _, Nat.zero_le _⟩ ?_
  refine W.eq (g2 := F0 m 8 ls []) rfl ?_
  refine lv_aload_n hx hb d_D_joined_8 rfl (lv_at hl 0 rfl) ?_
  refine va_get (D := D) (ci := 0) (v := .ref (ad 1)) (C := n_D) (T := f_D) (N := 5) hx hb hts in_D hown hK hP 0 rfl rfl 0 (by decide) (hts _ fl_D_14) (fun _ h9 => h9) rfl d_D_joined_9 ?_
  refine lv_iconst (v := iZ ((4 : Nat) : Int)) hx hb d_D_joined_12 (by decide) ?_
  refine lv_iload_n hx hb d_D_joined_13 rfl (lv_at hl 1 rfl) ?_
  refine z_callVR (As := [.int (iZ ((4 : Nat) : Int)), .int (iZ ((kd : Nat) : Int))]) (rest := []) zTB Z (k_J_sumOf hI (sh := 4) (kd := kd) (by omega) (by omega)) ⟨ml_D_109, im_J_sumOf, se_J_sumOf, ini_J, co_J_sumOf⟩ zd_J_sumOf ⟨Nat.le_of_ble_eq_true rfl, Nat.le_of_ble_eq_true rfl⟩ hP hK (ci := 1) (q0 := 1) rfl rfl rfl hl.1 rfl (Nat.le_of_ble_eq_true rfl) d_D_joined_14 ⟨Nat.zero_le _, Nat.zero_le _⟩ ?_
  refine W.eq (g2 := F0 m 17 ls [.int (iZ (sSO J 4 kd (jk J)))]) rfl ?_
  refine z_i2l (a := sSO J 4 kd (jk J)) hx hb (by omega) d_D_joined_17 ?_
  refine lv_aload_n hx hb d_D_joined_18 rfl (lv_at hl 0 rfl) ?_
  refine va_get (D := D) (ci := 0) (v := .ref (ad 1)) (C := n_D) (T := f_D) (N := 5) hx hb hts in_D hown hK hP 0 rfl rfl 0 (by decide) (hts _ fl_D_14) (fun _ h9 => h9) rfl d_D_joined_19 ?_
  refine lv_iconst (v := iZ ((4 : Nat) : Int)) hx hb d_D_joined_22 (by decide) ?_
  refine lv_iload_n hx hb d_D_joined_23 rfl (lv_at hl 1 rfl) ?_
  refine z_callVR (As := [.int (iZ ((4 : Nat) : Int)), .int (iZ ((kd : Nat) : Int))]) (rest := [.long (lZ (sSO J 4 kd (jk J)))]) zTB Z (k_J_keptOf hI (sh := 4) (kd := kd) (by omega) (by omega)) ⟨ml_D_106, im_J_keptOf, se_J_keptOf, ini_J, co_J_keptOf⟩ zd_J_keptOf ⟨Nat.le_of_ble_eq_true rfl, Nat.le_of_ble_eq_true rfl⟩ hP hK (ci := 1) (q0 := 1) rfl rfl rfl hl.1 rfl (Nat.le_of_ble_eq_true rfl) d_D_joined_24 ⟨Nat.zero_le _, Nat.zero_le _⟩ ?_
  refine W.eq (g2 := F0 m 27 ls [.int (iZ ((sKO J 4 kd (jk J) : Nat) : Int)), .long (lZ (sSO J 4 kd (jk J)))]) rfl ?_
  refine z_i2l (a := ((sKO J 4 kd (jk J) : Nat) : Int)) hx hb (by omega) d_D_joined_27 ?_
  refine lv_iload_n hx hb d_D_joined_28 rfl (lv_at hl 2 rfl) ?_
  refine z_callSR (As := [.long (lZ (sSO J 4 kd (jk J))), .long (lZ ((sKO J 4 kd (jk J) : Nat) : Int)), .int (iZ ((pt : Nat) : Int))]) (rest := []) zTB Z (k_D_toldPart (a := sSO J 4 kd (jk J)) (bl := sKO J 4 kd (jk J)) (pt := pt) (by omega)) ⟨ml_D_138, sm_D_toldPart, ini_D, co_D_toldPart⟩ zd_D_toldPart ⟨Nat.le_of_ble_eq_true rfl, Nat.le_of_ble_eq_true rfl⟩ hP hK hl.1 rfl (Nat.le_of_ble_eq_true rfl) d_D_joined_29 ⟨Nat.zero_le _, Nat.zero_le _⟩ ?_
  refine W.eq (g2 := F0 m 32 ls [.long (lZ (sTP (sSO J 4 kd (jk J)) (sKO J 4 kd (jk J)) pt))]) rfl ?_
  exact z_lretR Z d_D_joined_32 (rfl)

set_option maxHeartbeats 4000000 in
set_option maxRecDepth 100000 in
theorem k_D_stopped {l : Launch} {D : va_G} {ad : Nat → Nat} {cI cZ cL : ClassId} {J : SJ} {rd : Nat → Int} {pr : Nat → Nat} {G : SH} {K : SK} {tl : va_W} (hI : JI J) {kd up lo : Nat} (hkd : kd < 3) (hup : 1 ≤ up ∧ up ≤ 16) (hlo : 1 ≤ lo ∧ lo ≤ 16) : zMr l TB D classes (tysW cI cZ cL) y_D_stopped w_D_stopped 3 83 [.ref (ad 0), .int (iZ ((kd : Nat) : Int)), .int (iZ ((up : Nat) : Int)), .int (iZ ((lo : Nat) : Int))] (wdC ad cI cZ cL J rd pr G K tl) (some (.int (iZ (sSt J kd up lo (jk J) 0)))) := by
  refine z_ofR (by decide) (Nat.le_of_ble_eq_true rfl) ?_
  intro p e s m below meth c ls Z hP hK hl
  obtain ⟨hx, hb, hr, hml, hown, hts, hE, hlocks⟩ := id Z
  have hl : lv_has ls 6 [(0, .ref (ad 0)), (1, .int (iZ ((kd : Nat) : Int))), (2, .int (iZ ((up : Nat) : Int))), (3, .int (iZ ((lo : Nat) : Int)))] := hl
  obtain ⟨hn32, hk2, hpr, hct⟩ := id hI
  refine lv_iload_n hx hb d_D_stopped_0 rfl (lv_at hl 1 rfl) ?_
  refine z_callSR (As := [.int (iZ ((kd : Nat) : Int))]) (rest := []) zTB Z (k_D_needKind (a := ((kd : Nat) : Int)) (by omega)) ⟨ml_D_64, sm_D_needKind, ini_D, co_D_needKind⟩ zd_D_needKind ⟨Nat.le_of_ble_eq_true rfl, Nat.le_of_ble_eq_true rfl⟩ hP hK hl.1 rfl (Nat.le_of_ble_eq_true rfl) d_D_stopped_1 ⟨Nat.zero_le _, Nat.zero_le _⟩ ?_
  refine W.eq (g2 := F0 m 4 ls []) rfl ?_
  refine lv_iload_n hx hb d_D_stopped_4 rfl (lv_at hl 2 rfl) ?_
  refine lv_iload_n hx hb d_D_stopped_5 rfl (lv_at hl 3 rfl) ?_
  refine z_callSR (As := [.int (iZ ((up : Nat) : Int)), .int (iZ ((lo : Nat) : Int))]) (rest := []) zTB Z (k_D_needBounds (a := ((up : Nat) : Int)) (b := ((lo : Nat) : Int)) (by omega)) ⟨ml_D_145, sm_D_needBounds, ini_D, co_D_needBounds⟩ zd_D_needBounds ⟨Nat.le_of_ble_eq_true rfl, Nat.le_of_ble_eq_true rfl⟩ hP hK hl.1 rfl (Nat.le_of_ble_eq_true rfl) d_D_stopped_6 ⟨Nat.zero_le _, Nat.zero_le _⟩ ?_
  refine W.eq (g2 := F0 m 9 ls []) rfl ?_
  refine lv_iconst (v := iZ ((0 : Nat) : Int)) hx hb d_D_stopped_9 (by decide) ?_
  refine lv_istore (lv' := [(4, .int (iZ ((0 : Nat) : Int))), (0, .ref (ad 0)), (1, .int (iZ ((kd : Nat) : Int))), (2, .int (iZ ((up : Nat) : Int))), (3, .int (iZ ((lo : Nat) : Int)))]) hx hb d_D_stopped_10 hl (by decide) rfl (fun ls hl => ?_)
  refine lv_iconst (v := iZ ((0 : Nat) : Int)) hx hb d_D_stopped_12 (by decide) ?_
  refine lv_istore (lv' := [(5, .int (iZ ((0 : Nat) : Int))), (4, .int (iZ ((0 : Nat) : Int))), (0, .ref (ad 0)), (1, .int (iZ ((kd : Nat) : Int))), (2, .int (iZ ((up : Nat) : Int))), (3, .int (iZ ((lo : Nat) : Int)))]) hx hb d_D_stopped_13 hl (by decide) rfl (fun ls hl => ?_)
  have L15 : ∀ (N15 : Nat) (i : Nat) (ls : Array Slot), (i ≤ jk J) → (sSt J kd up lo (jk J) 0 = sSt J kd up lo (jk J - i) i) → jk J - i < N15 → lv_has ls 6 [(0, .ref (ad 0)), (1, .int (iZ ((kd : Nat) : Int))), (2, .int (iZ ((up : Nat) : Int))), (3, .int (iZ ((lo : Nat) : Int))), (4, .int (iZ (sHt J kd i))), (5, .int (iZ ((i : Nat) : Int)))] → W p l e (zRm 3 83) s m ([.ref (ad 0), .int (iZ ((kd : Nat) : Int)), .int (iZ ((up : Nat) : Int)), .int (iZ ((lo : Nat) : Int))] : List Value).toArray below meth c s.heap [] 0 0 (MQ below (zQr (some (.int (iZ (sSt J kd up lo (jk J) 0))))) ([.ref (ad 0), .int (iZ ((kd : Nat) : Int)), .int (iZ ((up : Nat) : Int)), .int (iZ ((lo : Nat) : Int))] : List Value).toArray s 0 0 (fun _ => False)) (F0 m 15 ls []) := by
    intro N15
    induction N15 with
    | zero =>
      intro i ls hi hv hN15 hl
      exact absurd hN15 (Nat.not_lt_zero _)
    | succ N15 ih15 =>
      intro i ls hi hv hN15 hl
      have hle := sHt_b J kd i
      have hb1 := sKd_b hI i kd
      have hb2 := sg_b (sKd J i kd)
      refine lv_iload hx hb d_D_stopped_15 (lv_at hl 5 rfl) ?_
      refine lv_aload_n hx hb d_D_stopped_17 rfl (lv_at hl 0 rfl) ?_
      refine va_get (D := D) (ci := 0) (v := .ref (ad 1)) (C := n_D) (T := f_D) (N := 5) hx hb hts in_D hown hK hP 0 rfl rfl 0 (by decide) (hts _ fl_D_14) (fun _ h9 => h9) rfl d_D_stopped_18 ?_
      refine va_getN (D := D) (ci := 1) (v := .int (iZ ((jk J : Nat) : Int))) (C := n_J) (T := f_J) (N := 10) hx hb hts in_J hown hK hP 1 rfl rfl 2 (by decide) (hts _ fl_D_99) (fun _ h9 => h9) rfl d_D_stopped_21 ?_
      refine z_icmp_ge (a := ((i : Nat) : Int)) (b := ((jk J : Nat) : Int)) (tgt := 76) hx hb (by omega) d_D_stopped_24 (by decide) (fun q24 => ?_) (fun q24 => ?_)
      · skip
        refine lv_iconst (v := iZ ((-1 : Int))) hx hb d_D_stopped_76 (by decide) ?_
        exact z_iretR Z d_D_stopped_77 (iretZ (by rw [hv, show jk J - i = 0 by omega]; rfl))
      · skip
        have hr1 : jk J - i = (jk J - i - 1) + 1 := by omega
        refine lv_iload hx hb d_D_stopped_27 (lv_at hl 4 rfl) ?_
        refine lv_aload_n hx hb d_D_stopped_29 rfl (lv_at hl 0 rfl) ?_
        refine va_get (D := D) (ci := 0) (v := .ref (ad 1)) (C := n_D) (T := f_D) (N := 5) hx hb hts in_D hown hK hP 0 rfl rfl 0 (by decide) (hts _ fl_D_14) (fun _ h9 => h9) rfl d_D_stopped_30 ?_
        refine lv_iload hx hb d_D_stopped_33 (lv_at hl 5 rfl) ?_
        refine lv_iload_n hx hb d_D_stopped_35 rfl (lv_at hl 1 rfl) ?_
        refine z_callVR (As := [.int (iZ ((i : Nat) : Int)), .int (iZ ((kd : Nat) : Int))]) (rest := [.int (iZ (sHt J kd i))]) zTB Z (k_J_keptDifference hI (pp := i) (kd := kd) (by omega) (by omega)) ⟨ml_D_148, im_J_keptDifference, se_J_keptDifference, ini_J, co_J_keptDifference⟩ zd_J_keptDifference ⟨Nat.le_of_ble_eq_true rfl, Nat.le_of_ble_eq_true rfl⟩ hP hK (ci := 1) (q0 := 1) rfl rfl rfl hl.1 rfl (Nat.le_of_ble_eq_true rfl) d_D_stopped_36 ⟨Nat.zero_le _, Nat.zero_le _⟩ ?_
        refine W.eq (g2 := F0 m 39 ls [.int (iZ (sKd J i kd)), .int (iZ (sHt J kd i))]) rfl ?_
        refine z_callSR (As := [.int (iZ (sKd J i kd))]) (rest := [.int (iZ (sHt J kd i))]) zTB Z (k_sg (a := sKd J i kd) (by omega)) ⟨ml_D_151, sm_Integer_signum, ini_Integer, co_sg⟩ zd_sg ⟨Nat.le_of_ble_eq_true rfl, Nat.le_of_ble_eq_true rfl⟩ hP hK hl.1 rfl (Nat.le_of_ble_eq_true rfl) d_D_stopped_39 ⟨Nat.zero_le _, Nat.zero_le _⟩ ?_
        refine W.eq (g2 := F0 m 42 ls [.int (iZ ((sKd J i kd).sign)), .int (iZ (sHt J kd i))]) rfl ?_
        refine z_isub (a := sHt J kd i) (b := (sKd J i kd).sign) hx hb d_D_stopped_42 ?_
        refine lv_istore (lv' := [(4, .int (iZ ((sHt J kd i) - ((sKd J i kd).sign)))), (0, .ref (ad 0)), (1, .int (iZ ((kd : Nat) : Int))), (2, .int (iZ ((up : Nat) : Int))), (3, .int (iZ ((lo : Nat) : Int))), (5, .int (iZ ((i : Nat) : Int)))]) hx hb d_D_stopped_43 hl (by decide) rfl (fun ls hl => ?_)
        refine lv_iload hx hb d_D_stopped_45 (lv_at hl 0 rfl) ?_
        refine lv_iload_n hx hb d_D_stopped_47 rfl (lv_at hl 3 rfl) ?_
        refine z_icmp_ne (a := (sHt J kd i) - ((sKd J i kd).sign)) (b := ((up : Nat) : Int)) (tgt := 56) hx hb (by omega) d_D_stopped_48 (by decide) (fun q48 => ?_) (fun q48 => ?_)
        · skip
          refine lv_iload hx hb d_D_stopped_56 (lv_at hl 0 rfl) ?_
          refine lv_iload_n hx hb d_D_stopped_58 rfl (lv_at hl 4 rfl) ?_
          refine z_ineg (a := ((lo : Nat) : Int)) hx hb d_D_stopped_59 ?_
          refine z_icmp_ne (a := (sHt J kd i) - ((sKd J i kd).sign)) (b := -((lo : Nat) : Int)) (tgt := 70) hx hb (by omega) d_D_stopped_60 (by decide) (fun q60 => ?_) (fun q60 => ?_)
          · skip
            refine lv_iinc (v := iZ ((i + 1 : Nat) : Int)) (lv' := [(5, .int (iZ ((i + 1 : Nat) : Int))), (4, .int (iZ ((sHt J kd i) - ((sKd J i kd).sign)))), (0, .ref (ad 0)), (1, .int (iZ ((kd : Nat) : Int))), (2, .int (iZ ((up : Nat) : Int))), (3, .int (iZ ((lo : Nat) : Int)))]) hx hb d_D_stopped_70 hl (k := 5) rfl (iZ_inc (i) 1) (by decide) rfl (fun ls hl => ?_)
            refine lv_goto (tgt := 15) hx hb d_D_stopped_73 (by decide) ?_
            exact ih15 (i + 1) ls (by omega) (by rw [hv, hr1]; show (if _ then _ else if _ then _ else _) = _; rw [if_neg (show ¬ sHt J kd (i + 1) = ((up : Nat) : Int) from q48), if_neg (show ¬ sHt J kd (i + 1) = -((lo : Nat) : Int) from q60), show jk J - i - 1 = jk J - (i + 1) by omega]) (by omega) (lv_sub hl [2, 3, 4, 5, 1, 0] rfl)
          · skip
            refine lv_iconst (v := iZ ((2 : Nat) : Int)) hx hb d_D_stopped_63 (by decide) ?_
            refine lv_iload hx hb d_D_stopped_64 (lv_at hl 5 rfl) ?_
            refine z_imulN (u := 2) (v := i) hx hb d_D_stopped_66 ?_
            refine lv_iconst (v := iZ ((1 : Nat) : Int)) hx hb d_D_stopped_67 (by decide) ?_
            refine z_iaddN (u := 2 * i) (v := 1) hx hb d_D_stopped_68 ?_
            exact z_iretR Z d_D_stopped_69 (iretZ (by rw [hv, hr1]; show ((2 * i + 1 : Nat) : Int) = (if sHt J kd i - (sKd J i kd).sign = _ then _ else if sHt J kd i - (sKd J i kd).sign = _ then _ else _); rw [if_neg (by omega), if_pos (by omega)]))
        · skip
          refine lv_iconst (v := iZ ((2 : Nat) : Int)) hx hb d_D_stopped_51 (by decide) ?_
          refine lv_iload hx hb d_D_stopped_52 (lv_at hl 5 rfl) ?_
          refine z_imulN (u := 2) (v := i) hx hb d_D_stopped_54 ?_
          exact z_iretR Z d_D_stopped_55 (iretZ (by rw [hv, hr1]; show ((2 * i : Nat) : Int) = (if sHt J kd i - (sKd J i kd).sign = _ then _ else _); rw [if_pos (by omega)]))
  exact L15 (jk J - 0 + 1) 0 ls (Nat.zero_le _) rfl (by omega) (lv_sub hl [2, 3, 4, 5, 1, 0] rfl)

set_option maxHeartbeats 4000000 in
set_option maxRecDepth 100000 in
theorem k_D_unlike {l : Launch} {D : va_G} {ad : Nat → Nat} {cI cZ cL : ClassId} {J : SJ} {rd : Nat → Int} {pr : Nat → Nat} {G : SH} {K : SK} {tl : va_W} (hI : JI J) (hR : RI rd) {fm : Nat} (hf : fm ≤ jn J) : zMr l TB D classes (tysW cI cZ cL) y_D_unlike w_D_unlike 2 63 [.ref (ad 0), .int (iZ ((fm : Nat) : Int))] (wdC ad cI cZ cL J rd pr G K tl) (some (.int (iZ (sUl rd (jn J - fm) fm)))) := by
  refine z_ofR (by decide) (Nat.le_of_ble_eq_true rfl) ?_
  intro p e s m below meth c ls Z hP hK hl
  obtain ⟨hx, hb, hr, hml, hown, hts, hE, hlocks⟩ := id Z
  have hl : lv_has ls 3 [(0, .ref (ad 0)), (1, .int (iZ ((fm : Nat) : Int)))] := hl
  obtain ⟨hn32, hk2, hpr, hct⟩ := id hI
  refine lv_iload_n hx hb d_D_unlike_0 rfl (lv_at hl 1 rfl) ?_
  refine lv_aload_n hx hb d_D_unlike_1 rfl (lv_at hl 0 rfl) ?_
  refine va_get (D := D) (ci := 0) (v := .ref (ad 1)) (C := n_D) (T := f_D) (N := 5) hx hb hts in_D hown hK hP 0 rfl rfl 0 (by decide) (hts _ fl_D_14) (fun _ h9 => h9) rfl d_D_unlike_2 ?_
  refine va_getN (D := D) (ci := 1) (v := .int (iZ ((jn J : Nat) : Int))) (C := n_J) (T := f_J) (N := 10) hx hb hts in_J hown hK hP 1 rfl rfl 1 (by decide) (hts _ fl_D_46) (fun _ h9 => h9) rfl d_D_unlike_5 ?_
  refine lv_iconst (v := iZ ((1 : Nat) : Int)) hx hb d_D_unlike_8 (by decide) ?_
  refine z_iaddN (u := jn J) (v := 1) hx hb d_D_unlike_9 ?_
  refine z_callSR (As := [.int (iZ ((fm : Nat) : Int)), .int (iZ (((jn J) + 1 : Nat) : Int))]) (rest := []) zTB Z (k_D_needIndex (a := ((fm : Nat) : Int)) (b := (((jn J) + 1 : Nat) : Int)) (by omega)) ⟨ml_D_86, sm_D_needIndex, ini_D, co_D_needIndex⟩ zd_D_needIndex ⟨Nat.le_of_ble_eq_true rfl, Nat.le_of_ble_eq_true rfl⟩ hP hK hl.1 rfl (Nat.le_of_ble_eq_true rfl) d_D_unlike_10 ⟨Nat.zero_le _, Nat.zero_le _⟩ ?_
  refine W.eq (g2 := F0 m 13 ls []) rfl ?_
  refine lv_iload_n hx hb d_D_unlike_13 rfl (lv_at hl 1 rfl) ?_
  refine lv_istore_n (lv' := [(2, .int (iZ ((fm : Nat) : Int))), (0, .ref (ad 0)), (1, .int (iZ ((fm : Nat) : Int)))]) hx hb d_D_unlike_14 rfl hl (by decide) rfl (fun ls hl => ?_)
  have L15 : ∀ (N15 : Nat) (i : Nat) (ls : Array Slot), (i ≤ jn J) → (sUl rd (jn J - fm) fm = sUl rd (jn J - i) i) → jn J - i < N15 → lv_has ls 3 [(0, .ref (ad 0)), (1, .int (iZ ((fm : Nat) : Int))), (2, .int (iZ ((i : Nat) : Int)))] → W p l e (zRm 2 63) s m ([.ref (ad 0), .int (iZ ((fm : Nat) : Int))] : List Value).toArray below meth c s.heap [] 0 0 (MQ below (zQr (some (.int (iZ (sUl rd (jn J - fm) fm))))) ([.ref (ad 0), .int (iZ ((fm : Nat) : Int))] : List Value).toArray s 0 0 (fun _ => False)) (F0 m 15 ls []) := by
    intro N15
    induction N15 with
    | zero =>
      intro i ls hi hv hN15 hl
      exact absurd hN15 (Nat.not_lt_zero _)
    | succ N15 ih15 =>
      intro i ls hi hv hN15 hl
      refine lv_iload_n hx hb d_D_unlike_15 rfl (lv_at hl 2 rfl) ?_
      refine lv_aload_n hx hb d_D_unlike_16 rfl (lv_at hl 0 rfl) ?_
      refine va_get (D := D) (ci := 0) (v := .ref (ad 1)) (C := n_D) (T := f_D) (N := 5) hx hb hts in_D hown hK hP 0 rfl rfl 0 (by decide) (hts _ fl_D_14) (fun _ h9 => h9) rfl d_D_unlike_17 ?_
      refine va_getN (D := D) (ci := 1) (v := .int (iZ ((jn J : Nat) : Int))) (C := n_J) (T := f_J) (N := 10) hx hb hts in_J hown hK hP 1 rfl rfl 1 (by decide) (hts _ fl_D_46) (fun _ h9 => h9) rfl d_D_unlike_20 ?_
      refine z_icmp_ge (a := ((i : Nat) : Int)) (b := ((jn J : Nat) : Int)) (tgt := 45) hx hb (by omega) d_D_unlike_23 (by decide) (fun q23 => ?_) (fun q23 => ?_)
      · skip
        refine lv_iconst (v := iZ ((-1 : Int))) hx hb d_D_unlike_45 (by decide) ?_
        exact z_iretR Z d_D_unlike_46 (iretZ (by rw [hv, show jn J - i = 0 by omega]; rfl))
      · skip
        have hr1 : jn J - i = (jn J - i - 1) + 1 := by omega
        refine lv_aload_n hx hb d_D_unlike_26 rfl (lv_at hl 0 rfl) ?_
        refine va_get (D := D) (ci := 0) (v := .ref (ad 9)) (C := n_D) (T := f_D) (N := 5) hx hb hts in_D hown hK hP 0 rfl rfl 1 (by decide) (hts _ fl_D_21) (fun _ h9 => h9) rfl d_D_unlike_27 ?_
        refine lv_iload_n hx hb d_D_unlike_30 rfl (lv_at hl 2 rfl) ?_
        refine z_callVR (As := [.int (iZ ((i : Nat) : Int))]) (rest := []) zTB Z (k_C_differs hR (h := i) (by omega)) ⟨ml_D_173, im_C_differs, se_C_differs, ini_C, co_C_differs⟩ zd_C_differs ⟨Nat.le_of_ble_eq_true rfl, Nat.le_of_ble_eq_true rfl⟩ hP hK (ci := 2) (q0 := 9) rfl rfl rfl hl.1 rfl (Nat.le_of_ble_eq_true rfl) d_D_unlike_31 ⟨Nat.zero_le _, Nat.zero_le _⟩ ?_
        refine W.eq (g2 := F0 m 34 ls [.int (bI (sUn rd i))]) rfl ?_
        refine z_if_eqB (b := sUn rd i) (tgt := 39) hx hb d_D_unlike_34 (by decide) (fun q34 => ?_) (fun q34 => ?_)
        · skip
          refine lv_iinc (v := iZ ((i + 1 : Nat) : Int)) (lv' := [(2, .int (iZ ((i + 1 : Nat) : Int))), (0, .ref (ad 0)), (1, .int (iZ ((fm : Nat) : Int)))]) hx hb d_D_unlike_39 hl (k := 2) rfl (iZ_inc (i) 1) (by decide) rfl (fun ls hl => ?_)
          refine lv_goto (tgt := 15) hx hb d_D_unlike_42 (by decide) ?_
          exact ih15 (i + 1) ls (by omega) (by rw [hv, hr1]; show (if _ then _ else _) = _; rw [if_neg (by rw [q34]; decide), show jn J - i - 1 = jn J - (i + 1) by omega]) (by omega) (lv_sub hl [1, 2, 0] rfl)
        · skip
          refine lv_iload_n hx hb d_D_unlike_37 rfl (lv_at hl 2 rfl) ?_
          exact z_iretR Z d_D_unlike_38 (iretZ (by rw [hv, hr1]; show ((i : Nat) : Int) = (if _ then _ else _); rw [if_pos q34]))
  exact L15 (jn J - fm + 1) fm ls hf rfl (by omega) (lv_sub hl [1, 2, 0] rfl)

set_option maxHeartbeats 4000000 in
set_option maxRecDepth 100000 in
theorem k_D_lost {l : Launch} {D : va_G} {ad : Nat → Nat} {cI cZ cL : ClassId} {J : SJ} {rd : Nat → Int} {pr : Nat → Nat} {G : SH} {K : SK} {tl : va_W} (hI : JI J) (hpq : ∀ j, pr j ≤ 100000) : zMr l TB D classes (tysW cI cZ cL) y_D_lost w_D_lost 4 91 [.ref (ad 0)] (wdC ad cI cZ cL J rd pr G K tl) (some (.long (lZ (sLo J pr 3)))) := by
  refine z_ofR (by decide) (Nat.le_of_ble_eq_true rfl) ?_
  intro p e s m below meth c ls Z hP hK hl
  obtain ⟨hx, hb, hr, hml, hown, hts, hE, hlocks⟩ := id Z
  have hl : lv_has ls 4 [(0, .ref (ad 0))] := hl
  obtain ⟨hn32, hk2, hpr, hct⟩ := id hI
  refine lv_lconst (v := lZ ((0 : Nat) : Int)) hx hb d_D_lost_0 (by decide) ?_
  refine lv_lstore_n (lv' := [(1, .long (lZ ((0 : Nat) : Int))), (0, .ref (ad 0))]) hx hb d_D_lost_1 rfl hl (by decide) rfl (fun ls hl => ?_)
  refine lv_iconst (v := iZ ((0 : Nat) : Int)) hx hb d_D_lost_2 (by decide) ?_
  refine lv_istore_n (lv' := [(3, .int (iZ ((0 : Nat) : Int))), (1, .long (lZ ((0 : Nat) : Int))), (0, .ref (ad 0))]) hx hb d_D_lost_3 rfl hl (by decide) rfl (fun ls hl => ?_)
  have L4 : ∀ (N4 : Nat) (i : Nat) (ls : Array Slot), (i ≤ 3) → 3 - i < N4 → lv_has ls 4 [(0, .ref (ad 0)), (1, .long (lZ (sLo J pr i))), (3, .int (iZ ((i : Nat) : Int)))] → W p l e (zRm 4 91) s m ([.ref (ad 0)] : List Value).toArray below meth c s.heap [] 0 0 (MQ below (zQr (some (.long (lZ (sLo J pr 3))))) ([.ref (ad 0)] : List Value).toArray s 0 0 (fun _ => False)) (F0 m 4 ls []) := by
    intro N4
    induction N4 with
    | zero =>
      intro i ls hi hN4 hl
      exact absurd hN4 (Nat.not_lt_zero _)
    | succ N4 ih4 =>
      intro i ls hi hN4 hl
      have hb1 := sSO_b hI 4 i (jk J)
      have hb2 := hpq i
      refine lv_iload_n hx hb d_D_lost_4 rfl (lv_at hl 2 rfl) ?_
      refine lv_iconst (v := iZ ((3 : Nat) : Int)) hx hb d_D_lost_5 (by decide) ?_
      refine z_icmp_ge (a := ((i : Nat) : Int)) (b := ((3 : Nat) : Int)) (tgt := 36) hx hb (by omega) d_D_lost_6 (by decide) (fun q6 => ?_) (fun q6 => ?_)
      · skip
        refine lv_lload_n hx hb d_D_lost_36 rfl (lv_at hl 1 rfl) ?_
        exact z_lretR Z d_D_lost_37 (lretZ (by rw [show i = 3 by omega]))
      · skip
        refine lv_lload_n hx hb d_D_lost_9 rfl (lv_at hl 1 rfl) ?_
        refine lv_aload_n hx hb d_D_lost_10 rfl (lv_at hl 0 rfl) ?_
        refine va_get (D := D) (ci := 0) (v := .ref (ad 18)) (C := n_D) (T := f_D) (N := 5) hx hb hts in_D hown hK hP 0 rfl rfl 4 (by decide) (hts _ fl_D_39) (fun _ h9 => h9) rfl d_D_lost_11 ?_
        refine lv_iload_n hx hb d_D_lost_14 rfl (lv_at hl 2 rfl) ?_
        refine z_ialdN (f := pr) hx hb hK hP 18 0 rfl rfl (i) (by omega) d_D_lost_15 ?_
        refine z_i2l (a := ((pr (i) : Nat) : Int)) hx hb (by omega) d_D_lost_16 ?_
        refine lv_aload_n hx hb d_D_lost_17 rfl (lv_at hl 0 rfl) ?_
        refine va_get (D := D) (ci := 0) (v := .ref (ad 1)) (C := n_D) (T := f_D) (N := 5) hx hb hts in_D hown hK hP 0 rfl rfl 0 (by decide) (hts _ fl_D_14) (fun _ h9 => h9) rfl d_D_lost_18 ?_
        refine lv_iconst (v := iZ ((4 : Nat) : Int)) hx hb d_D_lost_21 (by decide) ?_
        refine lv_iload_n hx hb d_D_lost_22 rfl (lv_at hl 2 rfl) ?_
        refine z_callVR (As := [.int (iZ ((4 : Nat) : Int)), .int (iZ ((i : Nat) : Int))]) (rest := [.long (lZ ((pr (i) : Nat) : Int)), .long (lZ (sLo J pr i))]) zTB Z (k_J_sumOf hI (sh := 4) (kd := i) (by omega) (by omega)) ⟨ml_D_109, im_J_sumOf, se_J_sumOf, ini_J, co_J_sumOf⟩ zd_J_sumOf ⟨Nat.le_of_ble_eq_true rfl, Nat.le_of_ble_eq_true rfl⟩ hP hK (ci := 1) (q0 := 1) rfl rfl rfl hl.1 rfl (Nat.le_of_ble_eq_true rfl) d_D_lost_23 ⟨Nat.zero_le _, Nat.zero_le _⟩ ?_
        refine W.eq (g2 := F0 m 26 ls [.int (iZ (sSO J 4 i (jk J))), .long (lZ ((pr (i) : Nat) : Int)), .long (lZ (sLo J pr i))]) rfl ?_
        refine z_i2l (a := sSO J 4 i (jk J)) hx hb (by omega) d_D_lost_26 ?_
        refine z_lmul (a := ((pr (i) : Nat) : Int)) (b := sSO J 4 i (jk J)) hx hb d_D_lost_27 ?_
        refine z_lsub (a := sLo J pr i) (b := ((pr (i) : Nat) : Int) * (sSO J 4 i (jk J))) hx hb d_D_lost_28 ?_
        refine lv_lstore_n (lv' := [(1, .long (lZ ((sLo J pr i) - (((pr (i) : Nat) : Int) * (sSO J 4 i (jk J)))))), (0, .ref (ad 0)), (3, .int (iZ ((i : Nat) : Int)))]) hx hb d_D_lost_29 rfl hl (by decide) rfl (fun ls hl => ?_)
        refine lv_iinc (v := iZ ((i + 1 : Nat) : Int)) (lv' := [(3, .int (iZ ((i + 1 : Nat) : Int))), (1, .long (lZ ((sLo J pr i) - (((pr (i) : Nat) : Int) * (sSO J 4 i (jk J)))))), (0, .ref (ad 0))]) hx hb d_D_lost_30 hl (k := 2) rfl (iZ_inc (i) 1) (by decide) rfl (fun ls hl => ?_)
        refine lv_goto (tgt := 4) hx hb d_D_lost_33 (by decide) ?_
        exact ih4 (i + 1) ls (by omega) (by omega) (lv_sub hl [2, 1, 0] (by rw [show (sLo J pr (i + 1)) = ((sLo J pr i) - (((pr (i) : Nat) : Int) * (sSO J 4 i (jk J)))) from rfl]; rfl))
  exact L4 (3 - 0 + 1) 0 ls (Nat.zero_le _) (by omega) (lv_sub hl [2, 1, 0] rfl)

