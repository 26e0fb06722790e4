/-! The journal's reading methods. -/
/-- what holds of a journal at all times -/
def JI (J : SJ) : Prop := jn J ≤ 32 ∧ 2 * jk J ≤ jn J ∧ (∀ p, p < jk J → jdh J p < jn J ∧ jph J p < jn J ∧ jsp J p < 4) ∧ (∀ j, jct J j ≤ 1000)
def sDC (J : SJ) (p kd : Nat) : Nat := jct J (jdh J p * 3 + kd)
def sPC (J : SJ) (p kd : Nat) : Nat := jct J (jph J p * 3 + kd)
def sDf (J : SJ) (p kd : Nat) : Int := ((sDC J p kd : Nat) : Int) - ((sPC J p kd : Nat) : Int)
def sKp (J : SJ) (p kd : Nat) : Bool := !(decide (sDC J p kd = 0) && decide (sPC J p kd = 0)) && !(jou J (jsp J p))
def sKd (J : SJ) (p kd : Nat) : Int := if sKp J p kd = true then sDf J p kd else 0
def sOf (J : SJ) (p sh : Nat) : Bool := decide (sh = 4) || decide (jsp J p = sh)
def sKO (J : SJ) (sh kd : Nat) : Nat → Nat
  | 0 => 0
  | i + 1 => sKO J sh kd i + (if (sOf J i sh && sKp J i kd) = true then 1 else 0)
def sSO (J : SJ) (sh kd : Nat) : Nat → Int
  | 0 => 0
  | i + 1 => sSO J sh kd i + (if sOf J i sh = true then sKd J i kd else 0)
def sR1 (J : SJ) (p kd : Nat) (i : Nat) : Nat := if (sKd J i kd).natAbs = (sKd J p kd).natAbs then 1 else if 0 < (sKd J i kd).natAbs ∧ (sKd J i kd).natAbs < (sKd J p kd).natAbs then 2 else 0
def sRs (J : SJ) (p kd : Nat) : Nat → Nat
  | 0 => 1
  | i + 1 => sRs J p kd i + sR1 J p kd i
def sRk (J : SJ) (p kd : Nat) : Nat := if (sKd J p kd).natAbs = 0 then 0 else sRs J p kd (jk J)
theorem sDC_le {J : SJ} (hI : JI J) (p kd : Nat) : sDC J p kd ≤ 1000 := hI.2.2.2 _
theorem sPC_le {J : SJ} (hI : JI J) (p kd : Nat) : sPC J p kd ≤ 1000 := hI.2.2.2 _
theorem sDf_b {J : SJ} (hI : JI J) (p kd : Nat) : -1000 ≤ sDf J p kd ∧ sDf J p kd ≤ 1000 := by
  have h1 := sDC_le hI p kd
  have h2 := sPC_le hI p kd
  unfold sDf
  omega
theorem sKd_b {J : SJ} (hI : JI J) (p kd : Nat) : -1000 ≤ sKd J p kd ∧ sKd J p kd ≤ 1000 := by
  have h := sDf_b hI p kd
  unfold sKd
  split <;> omega
theorem sKO_le {J : SJ} (sh kd i : Nat) : sKO J sh kd i ≤ i := by
  induction i with
  | zero => exact Nat.le_refl 0
  | succ i ih =>
    show sKO J sh kd i + _ ≤ i + 1
    split <;> omega
theorem sSO_b {J : SJ} (hI : JI J) (sh kd i : Nat) : -(1000 * (i : Int)) ≤ sSO J sh kd i ∧ sSO J sh kd i ≤ 1000 * (i : Int) := by
  induction i with
  | zero => exact ⟨by show -(1000 * ((0 : Nat) : Int)) ≤ 0; omega, by show (0 : Int) ≤ 1000 * ((0 : Nat) : Int); omega⟩
  | succ i ih =>
    have h := sKd_b hI i kd
    show -(1000 * ((i + 1 : Nat) : Int)) ≤ sSO J sh kd i + _ ∧ sSO J sh kd i + _ ≤ 1000 * ((i + 1 : Nat) : Int)
    split <;> omega
theorem sR1_le (J : SJ) (p kd i : Nat) : sR1 J p kd i ≤ 2 := by
  unfold sR1
  split
  · omega
  · split <;> omega
theorem sRs_le (J : SJ) (p kd i : Nat) : sRs J p kd i ≤ 1 + 2 * i := by
  induction i with
  | zero => exact Nat.le_refl 1
  | succ i ih =>
    have h := sR1_le J p kd i
    show sRs J p kd i + sR1 J p kd i ≤ _
    omega
theorem bret {a b : Bool} (h : a = b) : some (Value.int (bI a)) = some (Value.int (bI b)) := by rw [h]
theorem iretN {a b : Nat} (h : a = b) : some (Value.int (iZ ((a : Nat) : Int))) = some (Value.int (iZ ((b : Nat) : Int))) := by rw [h]
theorem iretZ {a b : Int} (h : a = b) : some (Value.int (iZ a)) = some (Value.int (iZ b)) := by rw [h]
set_option maxHeartbeats 4000000 in
set_option maxRecDepth 100000 in
theorem k_J_deviceCount {l : Launch} {D : va_G} {ad : Nat → Nat} {cI cZ cL : ClassId} {J : SJ} {rd : Nat → Int} {pr : Nat → Nat} {G : SH} {K : SK} {tl : va_W} (hI : JI J) {pp kd : Nat} (hp : pp < jk J) (hkd : kd < 3) : zMr l TB D classes (tysW cI cZ cL) y_J_deviceCount w_J_deviceCount 0 0 [.ref (ad 1), .int (iZ ((pp : Nat) : Int)), .int (iZ ((kd : Nat) : Int))] (wdC ad cI cZ cL J rd pr G K tl) (some (.int (iZ ((sDC J pp kd : Nat) : Int)))) := by
  refine z_ofR (by decide) (Nat.le_of_ble_eq_true rfl) ?_
  intro p e s m below meth c ls Z hP hK hl
  obtain ⟨hx, hb, hr, hml, hown, hts, hE, hlocks⟩ := id Z
  have hl : lv_has ls 3 [(0, .ref (ad 1)), (1, .int (iZ ((pp : Nat) : Int))), (2, .int (iZ ((kd : Nat) : Int)))] := hl
  obtain ⟨hn32, hk2, hpr, hct⟩ := id hI
  have hp9 := hpr pp hp
  refine lv_aload_n hx hb d_J_deviceCount_0 rfl (lv_at hl 0 rfl) ?_
  refine va_get (D := D) (ci := 1) (v := .ref (ad 5)) (C := n_J) (T := f_J) (N := 10) hx hb hts in_J hown hK hP 1 rfl rfl 6 (by decide) (hts _ fl_J_33) (fun _ h9 => h9) rfl d_J_deviceCount_1 ?_
  refine lv_aload_n hx hb d_J_deviceCount_4 rfl (lv_at hl 0 rfl) ?_
  refine va_get (D := D) (ci := 1) (v := .ref (ad 6)) (C := n_J) (T := f_J) (N := 10) hx hb hts in_J hown hK hP 1 rfl rfl 7 (by decide) (hts _ fl_J_36) (fun _ h9 => h9) rfl d_J_deviceCount_5 ?_
  refine lv_iload_n hx hb d_J_deviceCount_8 rfl (lv_at hl 1 rfl) ?_
  refine z_ialdN (f := jdh J) hx hb hK hP 6 0 rfl rfl (pp) (by omega) d_J_deviceCount_9 ?_
  refine lv_iconst (v := iZ ((3 : Nat) : Int)) hx hb d_J_deviceCount_10 (by decide) ?_
  refine z_imulN (u := (jdh J) (pp)) (v := 3) hx hb d_J_deviceCount_11 ?_
  refine lv_iload_n hx hb d_J_deviceCount_12 rfl (lv_at hl 2 rfl) ?_
  refine z_iaddN (u := ((jdh J) (pp)) * 3) (v := kd) hx hb d_J_deviceCount_13 ?_
  refine z_ialdN (f := jct J) hx hb hK hP 5 0 rfl rfl ((((jdh J) (pp)) * 3) + kd) (by omega) d_J_deviceCount_14 ?_
  exact z_iretR Z d_J_deviceCount_15 (rfl)

set_option maxHeartbeats 4000000 in
set_option maxRecDepth 100000 in
theorem k_J_plainCount {l : Launch} {D : va_G} {ad : Nat → Nat} {cI cZ cL : ClassId} {J : SJ} {rd : Nat → Int} {pr : Nat → Nat} {G : SH} {K : SK} {tl : va_W} (hI : JI J) {pp kd : Nat} (hp : pp < jk J) (hkd : kd < 3) : zMr l TB D classes (tysW cI cZ cL) y_J_plainCount w_J_plainCount 0 0 [.ref (ad 1), .int (iZ ((pp : Nat) : Int)), .int (iZ ((kd : Nat) : Int))] (wdC ad cI cZ cL J rd pr G K tl) (some (.int (iZ ((sPC J pp kd : Nat) : Int)))) := by
  refine z_ofR (by decide) (Nat.le_of_ble_eq_true rfl) ?_
  intro p e s m below meth c ls Z hP hK hl
  obtain ⟨hx, hb, hr, hml, hown, hts, hE, hlocks⟩ := id Z
  have hl : lv_has ls 3 [(0, .ref (ad 1)), (1, .int (iZ ((pp : Nat) : Int))), (2, .int (iZ ((kd : Nat) : Int)))] := hl
  obtain ⟨hn32, hk2, hpr, hct⟩ := id hI
  have hp9 := hpr pp hp
  refine lv_aload_n hx hb d_J_plainCount_0 rfl (lv_at hl 0 rfl) ?_
  refine va_get (D := D) (ci := 1) (v := .ref (ad 5)) (C := n_J) (T := f_J) (N := 10) hx hb hts in_J hown hK hP 1 rfl rfl 6 (by decide) (hts _ fl_J_33) (fun _ h9 => h9) rfl d_J_plainCount_1 ?_
  refine lv_aload_n hx hb d_J_plainCount_4 rfl (lv_at hl 0 rfl) ?_
  refine va_get (D := D) (ci := 1) (v := .ref (ad 7)) (C := n_J) (T := f_J) (N := 10) hx hb hts in_J hown hK hP 1 rfl rfl 8 (by decide) (hts _ fl_J_39) (fun _ h9 => h9) rfl d_J_plainCount_5 ?_
  refine lv_iload_n hx hb d_J_plainCount_8 rfl (lv_at hl 1 rfl) ?_
  refine z_ialdN (f := jph J) hx hb hK hP 7 0 rfl rfl (pp) (by omega) d_J_plainCount_9 ?_
  refine lv_iconst (v := iZ ((3 : Nat) : Int)) hx hb d_J_plainCount_10 (by decide) ?_
  refine z_imulN (u := (jph J) (pp)) (v := 3) hx hb d_J_plainCount_11 ?_
  refine lv_iload_n hx hb d_J_plainCount_12 rfl (lv_at hl 2 rfl) ?_
  refine z_iaddN (u := ((jph J) (pp)) * 3) (v := kd) hx hb d_J_plainCount_13 ?_
  refine z_ialdN (f := jct J) hx hb hK hP 5 0 rfl rfl ((((jph J) (pp)) * 3) + kd) (by omega) d_J_plainCount_14 ?_
  exact z_iretR Z d_J_plainCount_15 (rfl)

set_option maxHeartbeats 4000000 in
set_option maxRecDepth 100000 in
theorem k_J_differenceOf {l : Launch} {D : va_G} {ad : Nat → Nat} {cI cZ cL : ClassId} {J : SJ} {rd : Nat → Int} {pr : Nat → Nat} {G : SH} {K : SK} {tl : va_W} (hI : JI J) {pp kd : Nat} (hp : pp < jk J) (hkd : kd < 3) : zMr l TB D classes (tysW cI cZ cL) y_J_differenceOf w_J_differenceOf 1 22 [.ref (ad 1), .int (iZ ((pp : Nat) : Int)), .int (iZ ((kd : Nat) : Int))] (wdC ad cI cZ cL J rd pr G K tl) (some (.int (iZ (sDf J pp kd)))) := by
  refine z_ofR (by decide) (Nat.le_of_ble_eq_true rfl) ?_
  intro p e s m below meth c ls Z hP hK hl
  obtain ⟨hx, hb, hr, hml, hown, hts, hE, hlocks⟩ := id Z
  have hl : lv_has ls 3 [(0, .ref (ad 1)), (1, .int (iZ ((pp : Nat) : Int))), (2, .int (iZ ((kd : Nat) : Int)))] := hl
  refine lv_aload_n hx hb d_J_differenceOf_0 rfl (lv_at hl 0 rfl) ?_
  refine lv_iload_n hx hb d_J_differenceOf_1 rfl (lv_at hl 1 rfl) ?_
  refine lv_iload_n hx hb d_J_differenceOf_2 rfl (lv_at hl 2 rfl) ?_
  refine z_callVR (As := [.int (iZ ((pp : Nat) : Int)), .int (iZ ((kd : Nat) : Int))]) (rest := []) zTB Z (k_J_deviceCount hI (pp := pp) (kd := kd) (by omega) (by omega)) ⟨ml_J_57, im_J_deviceCount, se_J_deviceCount, ini_J, co_J_deviceCount⟩ zd_J_deviceCount ⟨Nat.le_of_ble_eq_true rfl, Nat.le_of_ble_eq_true rfl⟩ hP hK (ci := 1) (q0 := 1) rfl rfl rfl hl.1 rfl (Nat.le_of_ble_eq_true rfl) d_J_differenceOf_3 ⟨Nat.zero_le _, Nat.zero_le _⟩ ?_
  refine W.eq (g2 := F0 m 6 ls [.int (iZ ((sDC J pp kd : Nat) : Int))]) rfl ?_
  refine lv_aload_n hx hb d_J_differenceOf_6 rfl (lv_at hl 0 rfl) ?_
  refine lv_iload_n hx hb d_J_differenceOf_7 rfl (lv_at hl 1 rfl) ?_
  refine lv_iload_n hx hb d_J_differenceOf_8 rfl (lv_at hl 2 rfl) ?_
  refine z_callVR (As := [.int (iZ ((pp : Nat) : Int)), .int (iZ ((kd : Nat) : Int))]) (rest := [.int (iZ ((sDC J pp kd : Nat) : Int))]) zTB Z (k_J_plainCount hI (pp := pp) (kd := kd) (by omega) (by omega)) ⟨ml_J_61, im_J_plainCount, se_J_plainCount, ini_J, co_J_plainCount⟩ zd_J_plainCount ⟨Nat.le_of_ble_eq_true rfl, Nat.le_of_ble_eq_true rfl⟩ hP hK (ci := 1) (q0 := 1) rfl rfl rfl hl.1 rfl (Nat.le_of_ble_eq_true rfl) d_J_differenceOf_9 ⟨Nat.zero_le _, Nat.zero_le _⟩ ?_
  refine W.eq (g2 := F0 m 12 ls [.int (iZ ((sPC J pp kd : Nat) : Int)), .int (iZ ((sDC J pp kd : Nat) : Int))]) rfl ?_
  refine z_isub (a := ((sDC J pp kd : Nat) : Int)) (b := ((sPC J pp kd : Nat) : Int)) hx hb d_J_differenceOf_12 ?_
  exact z_iretR Z d_J_differenceOf_13 (rfl)

set_option maxHeartbeats 4000000 in
set_option maxRecDepth 100000 in
theorem k_J_keeps {l : Launch} {D : va_G} {ad : Nat → Nat} {cI cZ cL : ClassId} {J : SJ} {rd : Nat → Int} {pr : Nat → Nat} {G : SH} {K : SK} {tl : va_W} (hI : JI J) {pp kd : Nat} (hp : pp < jk J) (hkd : kd < 3) : zMr l TB D classes (tysW cI cZ cL) y_J_keeps w_J_keeps 1 22 [.ref (ad 1), .int (iZ ((pp : Nat) : Int)), .int (iZ ((kd : Nat) : Int))] (wdC ad cI cZ cL J rd pr G K tl) (some (.int (bI (sKp J pp kd)))) := by
  refine z_ofR (by decide) (Nat.le_of_ble_eq_true rfl) ?_
  intro p e s m below meth c ls Z hP hK hl
  obtain ⟨hx, hb, hr, hml, hown, hts, hE, hlocks⟩ := id Z
  have hl : lv_has ls 4 [(0, .ref (ad 1)), (1, .int (iZ ((pp : Nat) : Int))), (2, .int (iZ ((kd : Nat) : Int)))] := hl
  obtain ⟨hn32, hk2, hpr, hct⟩ := id hI
  have hp9 := hpr pp hp
  have h1 := sDC_le hI pp kd
  have h2 := sPC_le hI pp kd
  refine lv_aload_n hx hb d_J_keeps_0 rfl (lv_at hl 0 rfl) ?_
  refine lv_iload_n hx hb d_J_keeps_1 rfl (lv_at hl 1 rfl) ?_
  refine lv_iload_n hx hb d_J_keeps_2 rfl (lv_at hl 2 rfl) ?_
  refine z_callVR (As := [.int (iZ ((pp : Nat) : Int)), .int (iZ ((kd : Nat) : Int))]) (rest := []) zTB Z (k_J_deviceCount hI (pp := pp) (kd := kd) (by omega) (by omega)) ⟨ml_J_57, im_J_deviceCount, se_J_deviceCount, ini_J, co_J_deviceCount⟩ zd_J_deviceCount ⟨Nat.le_of_ble_eq_true rfl, Nat.le_of_ble_eq_true rfl⟩ hP hK (ci := 1) (q0 := 1) rfl rfl rfl hl.1 rfl (Nat.le_of_ble_eq_true rfl) d_J_keeps_3 ⟨Nat.zero_le _, Nat.zero_le _⟩ ?_
  refine W.eq (g2 := F0 m 6 ls [.int (iZ ((sDC J pp kd : Nat) : Int))]) rfl ?_
  refine z_if_ne (a := ((sDC J pp kd : Nat) : Int)) (tgt := 22) hx hb (by omega) d_J_keeps_6 (by decide) (fun q6 => ?_) (fun q6 => ?_)
  · skip
    refine lv_iconst (v := iZ ((0 : Nat) : Int)) hx hb d_J_keeps_22 (by decide) ?_
    refine lv_istore_n (lv' := [(3, .int (iZ ((0 : Nat) : Int))), (0, .ref (ad 1)), (1, .int (iZ ((pp : Nat) : Int))), (2, .int (iZ ((kd : Nat) : Int)))]) hx hb d_J_keeps_23 rfl hl (by decide) rfl (fun ls hl => ?_)
    refine lv_iload_n hx hb d_J_keeps_24 rfl (lv_at hl 0 rfl) ?_
    refine z_if_ne (a := ((0 : Nat) : Int)) (tgt := 46) hx hb (by omega) d_J_keeps_25 (by decide) (fun q25 => ?_) (fun q25 => ?_)
    · skip
      exfalso; omega
    · skip
      refine lv_aload_n hx hb d_J_keeps_28 rfl (lv_at hl 1 rfl) ?_
      refine va_get (D := D) (ci := 1) (v := .ref (ad 3)) (C := n_J) (T := f_J) (N := 10) hx hb hts in_J hown hK hP 1 rfl rfl 4 (by decide) (hts _ fl_J_26) (fun _ h9 => h9) rfl d_J_keeps_29 ?_
      refine lv_aload_n hx hb d_J_keeps_32 rfl (lv_at hl 1 rfl) ?_
      refine va_get (D := D) (ci := 1) (v := .ref (ad 8)) (C := n_J) (T := f_J) (N := 10) hx hb hts in_J hown hK hP 1 rfl rfl 9 (by decide) (hts _ fl_J_42) (fun _ h9 => h9) rfl d_J_keeps_33 ?_
      refine lv_iload_n hx hb d_J_keeps_36 rfl (lv_at hl 2 rfl) ?_
      refine z_ialdN (f := jsp J) hx hb hK hP 8 0 rfl rfl (pp) (by omega) d_J_keeps_37 ?_
      refine z_zald (f := jou J) hx hb hK hP 3 1 rfl rfl ((jsp J) (pp)) (by omega) d_J_keeps_38 ?_
      refine z_if_neB (b := (jou J) ((jsp J) (pp))) (tgt := 46) hx hb d_J_keeps_39 (by decide) (fun q39 => ?_) (fun q39 => ?_)
      · skip
        refine lv_iconst (v := iZ ((0 : Nat) : Int)) hx hb d_J_keeps_46 (by decide) ?_
        refine W.eq (g2 := F0 m 47 ls [.int (bI false)]) rfl ?_
        exact z_zretR Z d_J_keeps_47 (bret (by simp_all [sKp]))
      · skip
        refine lv_iconst (v := iZ ((1 : Nat) : Int)) hx hb d_J_keeps_42 (by decide) ?_
        refine lv_goto (tgt := 47) hx hb d_J_keeps_43 (by decide) ?_
        refine W.eq (g2 := F0 m 47 ls [.int (bI true)]) rfl ?_
        exact z_zretR Z d_J_keeps_47 (bret (by simp_all [sKp]))
  · skip
    refine lv_aload_n hx hb d_J_keeps_9 rfl (lv_at hl 0 rfl) ?_
    refine lv_iload_n hx hb d_J_keeps_10 rfl (lv_at hl 1 rfl) ?_
    refine lv_iload_n hx hb d_J_keeps_11 rfl (lv_at hl 2 rfl) ?_
    refine z_callVR (As := [.int (iZ ((pp : Nat) : Int)), .int (iZ ((kd : Nat) : Int))]) (rest := []) zTB Z (k_J_plainCount hI (pp := pp) (kd := kd) (by omega) (by omega)) ⟨ml_J_61, im_J_plainCount, se_J_plainCount, ini_J, co_J_plainCount⟩ zd_J_plainCount ⟨Nat.le_of_ble_eq_true rfl, Nat.le_of_ble_eq_true rfl⟩ hP hK (ci := 1) (q0 := 1) rfl rfl rfl hl.1 rfl (Nat.le_of_ble_eq_true rfl) d_J_keeps_12 ⟨Nat.zero_le _, Nat.zero_le _⟩ ?_
    refine W.eq (g2 := F0 m 15 ls [.int (iZ ((sPC J pp kd : Nat) : Int))]) rfl ?_
    refine z_if_ne (a := ((sPC J pp kd : Nat) : Int)) (tgt := 22) hx hb (by omega) d_J_keeps_15 (by decide) (fun q15 => ?_) (fun q15 => ?_)
    · skip
      refine lv_iconst (v := iZ ((0 : Nat) : Int)) hx hb d_J_keeps_22 (by decide) ?_
      refine lv_istore_n (lv' := [(3, .int (iZ ((0 : Nat) : Int))), (0, .ref (ad 1)), (1, .int (iZ ((pp : Nat) : Int))), (2, .int (iZ ((kd : Nat) : Int)))]) hx hb d_J_keeps_23 rfl hl (by decide) rfl (fun ls hl => ?_)
      refine lv_iload_n hx hb d_J_keeps_24 rfl (lv_at hl 0 rfl) ?_
      refine z_if_ne (a := ((0 : Nat) : Int)) (tgt := 46) hx hb (by omega) d_J_keeps_25 (by decide) (fun q25 => ?_) (fun q25 => ?_)
      · skip
        exfalso; omega
      · skip
        refine lv_aload_n hx hb d_J_keeps_28 rfl (lv_at hl 1 rfl) ?_
        refine va_get (D := D) (ci := 1) (v := .ref (ad 3)) (C := n_J) (T := f_J) (N := 10) hx hb hts in_J hown hK hP 1 rfl rfl 4 (by decide) (hts _ fl_J_26) (fun _ h9 => h9) rfl d_J_keeps_29 ?_
        refine lv_aload_n hx hb d_J_keeps_32 rfl (lv_at hl 1 rfl) ?_
        refine va_get (D := D) (ci := 1) (v := .ref (ad 8)) (C := n_J) (T := f_J) (N := 10) hx hb hts in_J hown hK hP 1 rfl rfl 9 (by decide) (hts _ fl_J_42) (fun _ h9 => h9) rfl d_J_keeps_33 ?_
        refine lv_iload_n hx hb d_J_keeps_36 rfl (lv_at hl 2 rfl) ?_
        refine z_ialdN (f := jsp J) hx hb hK hP 8 0 rfl rfl (pp) (by omega) d_J_keeps_37 ?_
        refine z_zald (f := jou J) hx hb hK hP 3 1 rfl rfl ((jsp J) (pp)) (by omega) d_J_keeps_38 ?_
        refine z_if_neB (b := (jou J) ((jsp J) (pp))) (tgt := 46) hx hb d_J_keeps_39 (by decide) (fun q39 => ?_) (fun q39 => ?_)
        · skip
          refine lv_iconst (v := iZ ((0 : Nat) : Int)) hx hb d_J_keeps_46 (by decide) ?_
          refine W.eq (g2 := F0 m 47 ls [.int (bI false)]) rfl ?_
          exact z_zretR Z d_J_keeps_47 (bret (by simp_all [sKp]))
        · skip
          refine lv_iconst (v := iZ ((1 : Nat) : Int)) hx hb d_J_keeps_42 (by decide) ?_
          refine lv_goto (tgt := 47) hx hb d_J_keeps_43 (by decide) ?_
          refine W.eq (g2 := F0 m 47 ls [.int (bI true)]) rfl ?_
          exact z_zretR Z d_J_keeps_47 (bret (by simp_all [sKp]))
    · skip
      refine lv_iconst (v := iZ ((1 : Nat) : Int)) hx hb d_J_keeps_18 (by decide) ?_
      refine lv_goto (tgt := 23) hx hb d_J_keeps_19 (by decide) ?_
      refine lv_istore_n (lv' := [(3, .int (iZ ((1 : Nat) : Int))), (0, .ref (ad 1)), (1, .int (iZ ((pp : Nat) : Int))), (2, .int (iZ ((kd : Nat) : Int)))]) hx hb d_J_keeps_23 rfl hl (by decide) rfl (fun ls hl => ?_)
      refine lv_iload_n hx hb d_J_keeps_24 rfl (lv_at hl 0 rfl) ?_
      refine z_if_ne (a := ((1 : Nat) : Int)) (tgt := 46) hx hb (by omega) d_J_keeps_25 (by decide) (fun q25 => ?_) (fun q25 => ?_)
      · skip
        refine lv_iconst (v := iZ ((0 : Nat) : Int)) hx hb d_J_keeps_46 (by decide) ?_
        refine W.eq (g2 := F0 m 47 ls [.int (bI false)]) rfl ?_
        exact z_zretR Z d_J_keeps_47 (bret (by simp_all [sKp]))
      · skip
        exfalso; omega

set_option maxHeartbeats 4000000 in
set_option maxRecDepth 100000 in
theorem k_J_keptDifference {l : Launch} {D : va_G} {ad : Nat → Nat} {cI cZ cL : ClassId} {J : SJ} {rd : Nat → Int} {pr : Nat → Nat} {G : SH} {K : SK} {tl : va_W} (hI : JI J) {pp kd : Nat} (hp : pp < jk J) (hkd : kd < 3) : zMr l TB D classes (tysW cI cZ cL) y_J_keptDifference w_J_keptDifference 2 45 [.ref (ad 1), .int (iZ ((pp : Nat) : Int)), .int (iZ ((kd : Nat) : Int))] (wdC ad cI cZ cL J rd pr G K tl) (some (.int (iZ (sKd J pp kd)))) := by
  refine z_ofR (by decide) (Nat.le_of_ble_eq_true rfl) ?_
  intro p e s m below meth c ls Z hP hK hl
  obtain ⟨hx, hb, hr, hml, hown, hts, hE, hlocks⟩ := id Z
  have hl : lv_has ls 3 [(0, .ref (ad 1)), (1, .int (iZ ((pp : Nat) : Int))), (2, .int (iZ ((kd : Nat) : Int)))] := hl
  refine lv_aload_n hx hb d_J_keptDifference_0 rfl (lv_at hl 0 rfl) ?_
  refine lv_iload_n hx hb d_J_keptDifference_1 rfl (lv_at hl 1 rfl) ?_
  refine lv_iload_n hx hb d_J_keptDifference_2 rfl (lv_at hl 2 rfl) ?_
  refine z_callVR (As := [.int (iZ ((pp : Nat) : Int)), .int (iZ ((kd : Nat) : Int))]) (rest := []) zTB Z (k_J_keeps hI (pp := pp) (kd := kd) (by omega) (by omega)) ⟨ml_J_64, im_J_keeps, se_J_keeps, ini_J, co_J_keeps⟩ zd_J_keeps ⟨Nat.le_of_ble_eq_true rfl, Nat.le_of_ble_eq_true rfl⟩ hP hK (ci := 1) (q0 := 1) rfl rfl rfl hl.1 rfl (Nat.le_of_ble_eq_true rfl) d_J_keptDifference_3 ⟨Nat.zero_le _, Nat.zero_le _⟩ ?_
  refine W.eq (g2 := F0 m 6 ls [.int (bI (sKp J pp kd))]) rfl ?_
  refine z_if_eqB (b := sKp J pp kd) (tgt := 18) hx hb d_J_keptDifference_6 (by decide) (fun q6 => ?_) (fun q6 => ?_)
  · skip
    refine lv_iconst (v := iZ ((0 : Nat) : Int)) hx hb d_J_keptDifference_18 (by decide) ?_
    exact z_iretR Z d_J_keptDifference_19 (iretZ (by simp [sKd, q6]))
  · skip
    refine lv_aload_n hx hb d_J_keptDifference_9 rfl (lv_at hl 0 rfl) ?_
    refine lv_iload_n hx hb d_J_keptDifference_10 rfl (lv_at hl 1 rfl) ?_
    refine lv_iload_n hx hb d_J_keptDifference_11 rfl (lv_at hl 2 rfl) ?_
    refine z_callVR (As := [.int (iZ ((pp : Nat) : Int)), .int (iZ ((kd : Nat) : Int))]) (rest := []) zTB Z (k_J_differenceOf hI (pp := pp) (kd := kd) (by omega) (by omega)) ⟨ml_J_68, im_J_differenceOf, se_J_differenceOf, ini_J, co_J_differenceOf⟩ zd_J_differenceOf ⟨Nat.le_of_ble_eq_true rfl, Nat.le_of_ble_eq_true rfl⟩ hP hK (ci := 1) (q0 := 1) rfl rfl rfl hl.1 rfl (Nat.le_of_ble_eq_true rfl) d_J_keptDifference_12 ⟨Nat.zero_le _, Nat.zero_le _⟩ ?_
    refine W.eq (g2 := F0 m 15 ls [.int (iZ (sDf J pp kd))]) rfl ?_
    refine lv_goto (tgt := 19) hx hb d_J_keptDifference_15 (by decide) ?_
    exact z_iretR Z d_J_keptDifference_19 (iretZ (by simp [sKd, q6]))

set_option maxHeartbeats 4000000 in
set_option maxRecDepth 100000 in
theorem k_J_isOf {l : Launch} {D : va_G} {ad : Nat → Nat} {cI cZ cL : ClassId} {J : SJ} {rd : Nat → Int} {pr : Nat → Nat} {G : SH} {K : SK} {tl : va_W} (hI : JI J) {pp sh : Nat} (hp : pp < jk J) (hsh : sh ≤ 4) : zMr l TB D classes (tysW cI cZ cL) y_J_isOf w_J_isOf 0 0 [.ref (ad 1), .int (iZ ((pp : Nat) : Int)), .int (iZ ((sh : Nat) : Int))] (wdC ad cI cZ cL J rd pr G K tl) (some (.int (bI (sOf J pp sh)))) := by
  refine z_ofR (by decide) (Nat.le_of_ble_eq_true rfl) ?_
  intro p e s m below meth c ls Z hP hK hl
  obtain ⟨hx, hb, hr, hml, hown, hts, hE, hlocks⟩ := id Z
  have hl : lv_has ls 3 [(0, .ref (ad 1)), (1, .int (iZ ((pp : Nat) : Int))), (2, .int (iZ ((sh : Nat) : Int)))] := hl
  obtain ⟨hn32, hk2, hpr, hct⟩ := id hI
  have hp9 := hpr pp hp
  refine lv_iload_n hx hb d_J_isOf_0 rfl (lv_at hl 2 rfl) ?_
  refine lv_iconst (v := iZ ((4 : Nat) : Int)) hx hb d_J_isOf_1 (by decide) ?_
  refine z_icmp_eq (a := ((sh : Nat) : Int)) (b := ((4 : Nat) : Int)) (tgt := 15) hx hb (by omega) d_J_isOf_2 (by decide) (fun q2 => ?_) (fun q2 => ?_)
  · skip
    refine lv_iconst (v := iZ ((1 : Nat) : Int)) hx hb d_J_isOf_15 (by decide) ?_
    refine lv_goto (tgt := 20) hx hb d_J_isOf_16 (by decide) ?_
    refine W.eq (g2 := F0 m 20 ls [.int (bI true)]) rfl ?_
    exact z_zretR Z d_J_isOf_20 (bret (by simp_all [sOf] <;> omega))
  · skip
    refine lv_aload_n hx hb d_J_isOf_5 rfl (lv_at hl 0 rfl) ?_
    refine va_get (D := D) (ci := 1) (v := .ref (ad 8)) (C := n_J) (T := f_J) (N := 10) hx hb hts in_J hown hK hP 1 rfl rfl 9 (by decide) (hts _ fl_J_42) (fun _ h9 => h9) rfl d_J_isOf_6 ?_
    refine lv_iload_n hx hb d_J_isOf_9 rfl (lv_at hl 1 rfl) ?_
    refine z_ialdN (f := jsp J) hx hb hK hP 8 0 rfl rfl (pp) (by omega) d_J_isOf_10 ?_
    refine lv_iload_n hx hb d_J_isOf_11 rfl (lv_at hl 2 rfl) ?_
    refine z_icmp_ne (a := (((jsp J) (pp) : Nat) : Int)) (b := ((sh : Nat) : Int)) (tgt := 19) hx hb (by omega) d_J_isOf_12 (by decide) (fun q12 => ?_) (fun q12 => ?_)
    · skip
      refine lv_iconst (v := iZ ((0 : Nat) : Int)) hx hb d_J_isOf_19 (by decide) ?_
      refine W.eq (g2 := F0 m 20 ls [.int (bI false)]) rfl ?_
      exact z_zretR Z d_J_isOf_20 (bret (by simp_all [sOf] <;> omega))
    · skip
      refine lv_iconst (v := iZ ((1 : Nat) : Int)) hx hb d_J_isOf_15 (by decide) ?_
      refine lv_goto (tgt := 20) hx hb d_J_isOf_16 (by decide) ?_
      refine W.eq (g2 := F0 m 20 ls [.int (bI true)]) rfl ?_
      exact z_zretR Z d_J_isOf_20 (bret (by simp_all [sOf] <;> omega))

set_option maxHeartbeats 4000000 in
set_option maxRecDepth 100000 in
theorem k_J_keptOf {l : Launch} {D : va_G} {ad : Nat → Nat} {cI cZ cL : ClassId} {J : SJ} {rd : Nat → Int} {pr : Nat → Nat} {G : SH} {K : SK} {tl : va_W} (hI : JI J) {sh kd : Nat} (hsh : sh ≤ 4) (hkd : kd < 3) : zMr l TB D classes (tysW cI cZ cL) y_J_keptOf w_J_keptOf 2 45 [.ref (ad 1), .int (iZ ((sh : Nat) : Int)), .int (iZ ((kd : Nat) : Int))] (wdC ad cI cZ cL J rd pr G K tl) (some (.int (iZ ((sKO J sh kd (jk J) : Nat) : Int)))) := by
  refine z_ofR (by decide) (Nat.le_of_ble_eq_true rfl) ?_
  intro p e s m below meth c ls Z hP hK hl
  obtain ⟨hx, hb, hr, hml, hown, hts, hE, hlocks⟩ := id Z
  have hl : lv_has ls 5 [(0, .ref (ad 1)), (1, .int (iZ ((sh : Nat) : Int))), (2, .int (iZ ((kd : Nat) : Int)))] := hl
  obtain ⟨hn32, hk2, hpr, hct⟩ := id hI
  refine lv_iconst (v := iZ ((0 : Nat) : Int)) hx hb d_J_keptOf_0 (by decide) ?_
  refine lv_istore_n (lv' := [(3, .int (iZ ((0 : Nat) : Int))), (0, .ref (ad 1)), (1, .int (iZ ((sh : Nat) : Int))), (2, .int (iZ ((kd : Nat) : Int)))]) hx hb d_J_keptOf_1 rfl hl (by decide) rfl (fun ls hl => ?_)
  refine lv_iconst (v := iZ ((0 : Nat) : Int)) hx hb d_J_keptOf_2 (by decide) ?_
  refine lv_istore (lv' := [(4, .int (iZ ((0 : Nat) : Int))), (3, .int (iZ ((0 : Nat) : Int))), (0, .ref (ad 1)), (1, .int (iZ ((sh : Nat) : Int))), (2, .int (iZ ((kd : Nat) : Int)))]) hx hb d_J_keptOf_3 hl (by decide) rfl (fun ls hl => ?_)
  have L5 : ∀ (N5 : Nat) (i : Nat) (ls : Array Slot), (i ≤ jk J) → jk J - i < N5 → lv_has ls 5 [(0, .ref (ad 1)), (1, .int (iZ ((sh : Nat) : Int))), (2, .int (iZ ((kd : Nat) : Int))), (3, .int (iZ ((sKO J sh kd i : Nat) : Int))), (4, .int (iZ ((i : Nat) : Int)))] → W p l e (zRm 2 45) s m ([.ref (ad 1), .int (iZ ((sh : Nat) : Int)), .int (iZ ((kd : Nat) : Int))] : List Value).toArray below meth c s.heap [] 0 0 (MQ below (zQr (some (.int (iZ ((sKO J sh kd (jk J) : Nat) : Int))))) ([.ref (ad 1), .int (iZ ((sh : Nat) : Int)), .int (iZ ((kd : Nat) : Int))] : List Value).toArray s 0 0 (fun _ => False)) (F0 m 5 ls []) := by
    intro N5
    induction N5 with
    | zero =>
      intro i ls hi hN5 hl
      exact absurd hN5 (Nat.not_lt_zero _)
    | succ N5 ih5 =>
      intro i ls hi hN5 hl
      have hle := sKO_le (J := J) sh kd i
      refine lv_iload hx hb d_J_keptOf_5 (lv_at hl 4 rfl) ?_
      refine lv_aload_n hx hb d_J_keptOf_7 rfl (lv_at hl 0 rfl) ?_
      refine va_get (D := D) (ci := 1) (v := .int (iZ ((jk J : Nat) : Int))) (C := n_J) (T := f_J) (N := 10) hx hb hts in_J hown hK hP 1 rfl rfl 2 (by decide) (hts _ fl_J_19) (fun _ h9 => h9) rfl d_J_keptOf_8 ?_
      refine z_icmp_ge (a := ((i : Nat) : Int)) (b := ((jk J : Nat) : Int)) (tgt := 43) hx hb (by omega) d_J_keptOf_11 (by decide) (fun q11 => ?_) (fun q11 => ?_)
      · skip
        refine lv_iload_n hx hb d_J_keptOf_43 rfl (lv_at hl 3 rfl) ?_
        exact z_iretR Z d_J_keptOf_44 (iretN (by rw [show i = jk J by omega]))
      · skip
        refine lv_aload_n hx hb d_J_keptOf_14 rfl (lv_at hl 0 rfl) ?_
        refine lv_iload hx hb d_J_keptOf_15 (lv_at hl 4 rfl) ?_
        refine lv_iload_n hx hb d_J_keptOf_17 rfl (lv_at hl 1 rfl) ?_
        refine z_callVR (As := [.int (iZ ((i : Nat) : Int)), .int (iZ ((sh : Nat) : Int))]) (rest := []) zTB Z (k_J_isOf hI (pp := i) (sh := sh) (by omega) (by omega)) ⟨ml_J_71, im_J_isOf, se_J_isOf, ini_J, co_J_isOf⟩ zd_J_isOf ⟨Nat.le_of_ble_eq_true rfl, Nat.le_of_ble_eq_true rfl⟩ hP hK (ci := 1) (q0 := 1) rfl rfl rfl hl.1 rfl (Nat.le_of_ble_eq_true rfl) d_J_keptOf_18 ⟨Nat.zero_le _, Nat.zero_le _⟩ ?_
        refine W.eq (g2 := F0 m 21 ls [.int (bI (sOf J i sh))]) rfl ?_
        refine z_if_eqB (b := sOf J i sh) (tgt := 37) hx hb d_J_keptOf_21 (by decide) (fun q21 => ?_) (fun q21 => ?_)
        · skip
          refine lv_iinc (v := iZ ((i + 1 : Nat) : Int)) (lv' := [(4, .int (iZ ((i + 1 : Nat) : Int))), (0, .ref (ad 1)), (1, .int (iZ ((sh : Nat) : Int))), (2, .int (iZ ((kd : Nat) : Int))), (3, .int (iZ ((sKO J sh kd i : Nat) : Int)))]) hx hb d_J_keptOf_37 hl (k := 4) rfl (iZ_inc (i) 1) (by decide) rfl (fun ls hl => ?_)
          refine lv_goto (tgt := 5) hx hb d_J_keptOf_40 (by decide) ?_
          exact ih5 (i + 1) ls (by omega) (by omega) (lv_sub hl [1, 2, 3, 4, 0] (by rw [show (sKO J sh kd (i + 1)) = (sKO J sh kd i) from by simp [sKO, q11, q21]]; rfl))
        · skip
          refine lv_aload_n hx hb d_J_keptOf_24 rfl (lv_at hl 0 rfl) ?_
          refine lv_iload hx hb d_J_keptOf_25 (lv_at hl 4 rfl) ?_
          refine lv_iload_n hx hb d_J_keptOf_27 rfl (lv_at hl 2 rfl) ?_
          refine z_callVR (As := [.int (iZ ((i : Nat) : Int)), .int (iZ ((kd : Nat) : Int))]) (rest := []) zTB Z (k_J_keeps hI (pp := i) (kd := kd) (by omega) (by omega)) ⟨ml_J_64, im_J_keeps, se_J_keeps, ini_J, co_J_keeps⟩ zd_J_keeps ⟨Nat.le_of_ble_eq_true rfl, Nat.le_of_ble_eq_true rfl⟩ hP hK (ci := 1) (q0 := 1) rfl rfl rfl hl.1 rfl (Nat.le_of_ble_eq_true rfl) d_J_keptOf_28 ⟨Nat.zero_le _, Nat.zero_le _⟩ ?_
          refine W.eq (g2 := F0 m 31 ls [.int (bI (sKp J i kd))]) rfl ?_
          refine z_if_eqB (b := sKp J i kd) (tgt := 37) hx hb d_J_keptOf_31 (by decide) (fun q31 => ?_) (fun q31 => ?_)
          · skip
            refine lv_iinc (v := iZ ((i + 1 : Nat) : Int)) (lv' := [(4, .int (iZ ((i + 1 : Nat) : Int))), (0, .ref (ad 1)), (1, .int (iZ ((sh : Nat) : Int))), (2, .int (iZ ((kd : Nat) : Int))), (3, .int (iZ ((sKO J sh kd i : Nat) : Int)))]) hx hb d_J_keptOf_37 hl (k := 4) rfl (iZ_inc (i) 1) (by decide) rfl (fun ls hl => ?_)
            refine lv_goto (tgt := 5) hx hb d_J_keptOf_40 (by decide) ?_
            exact ih5 (i + 1) ls (by omega) (by omega) (lv_sub hl [1, 2, 3, 4, 0] (by rw [show (sKO J sh kd (i + 1)) = (sKO J sh kd i) from by simp [sKO, q11, q21, q31]]; rfl))
          · skip
            refine lv_iinc (v := iZ ((sKO J sh kd i + 1 : Nat) : Int)) (lv' := [(3, .int (iZ ((sKO J sh kd i + 1 : Nat) : Int))), (0, .ref (ad 1)), (1, .int (iZ ((sh : Nat) : Int))), (2, .int (iZ ((kd : Nat) : Int))), (4, .int (iZ ((i : Nat) : Int)))]) hx hb d_J_keptOf_34 hl (k := 3) rfl (iZ_inc (sKO J sh kd i) 1) (by decide) rfl (fun ls hl => ?_)
            refine lv_iinc (v := iZ ((i + 1 : Nat) : Int)) (lv' := [(4, .int (iZ ((i + 1 : Nat) : Int))), (3, .int (iZ ((sKO J sh kd i + 1 : Nat) : Int))), (0, .ref (ad 1)), (1, .int (iZ ((sh : Nat) : Int))), (2, .int (iZ ((kd : Nat) : Int)))]) hx hb d_J_keptOf_37 hl (k := 4) rfl (iZ_inc (i) 1) (by decide) rfl (fun ls hl => ?_)
            refine lv_goto (tgt := 5) hx hb d_J_keptOf_40 (by decide) ?_
            exact ih5 (i + 1) ls (by omega) (by omega) (lv_sub hl [2, 3, 4, 1, 0] (by rw [show (sKO J sh kd (i + 1)) = (sKO J sh kd i + 1) from by simp [sKO, q11, q21, q31]]; rfl))
  exact L5 (jk J - 0 + 1) 0 ls (Nat.zero_le _) (by omega) (lv_sub hl [2, 3, 4, 1, 0] rfl)

set_option maxHeartbeats 4000000 in
set_option maxRecDepth 100000 in
theorem k_J_sumOf {l : Launch} {D : va_G} {ad : Nat → Nat} {cI cZ cL : ClassId} {J : SJ} {rd : Nat → Int} {pr : Nat → Nat} {G : SH} {K : SK} {tl : va_W} (hI : JI J) {sh kd : Nat} (hsh : sh ≤ 4) (hkd : kd < 3) : zMr l TB D classes (tysW cI cZ cL) y_J_sumOf w_J_sumOf 3 67 [.ref (ad 1), .int (iZ ((sh : Nat) : Int)), .int (iZ ((kd : Nat) : Int))] (wdC ad cI cZ cL J rd pr G K tl) (some (.int (iZ (sSO J sh kd (jk J))))) := by
  refine z_ofR (by decide) (Nat.le_of_ble_eq_true rfl) ?_
  intro p e s m below meth c ls Z hP hK hl
  obtain ⟨hx, hb, hr, hml, hown, hts, hE, hlocks⟩ := id Z
  have hl : lv_has ls 5 [(0, .ref (ad 1)), (1, .int (iZ ((sh : Nat) : Int))), (2, .int (iZ ((kd : Nat) : Int)))] := hl
  obtain ⟨hn32, hk2, hpr, hct⟩ := id hI
  refine lv_iconst (v := iZ ((0 : Nat) : Int)) hx hb d_J_sumOf_0 (by decide) ?_
  refine lv_istore_n (lv' := [(3, .int (iZ ((0 : Nat) : Int))), (0, .ref (ad 1)), (1, .int (iZ ((sh : Nat) : Int))), (2, .int (iZ ((kd : Nat) : Int)))]) hx hb d_J_sumOf_1 rfl hl (by decide) rfl (fun ls hl => ?_)
  refine lv_iconst (v := iZ ((0 : Nat) : Int)) hx hb d_J_sumOf_2 (by decide) ?_
  refine lv_istore (lv' := [(4, .int (iZ ((0 : Nat) : Int))), (3, .int (iZ ((0 : Nat) : Int))), (0, .ref (ad 1)), (1, .int (iZ ((sh : Nat) : Int))), (2, .int (iZ ((kd : Nat) : Int)))]) hx hb d_J_sumOf_3 hl (by decide) rfl (fun ls hl => ?_)
  have L5 : ∀ (N5 : Nat) (i : Nat) (ls : Array Slot), (i ≤ jk J) → jk J - i < N5 → lv_has ls 5 [(0, .ref (ad 1)), (1, .int (iZ ((sh : Nat) : Int))), (2, .int (iZ ((kd : Nat) : Int))), (3, .int (iZ (sSO J sh kd i))), (4, .int (iZ ((i : Nat) : Int)))] → W p l e (zRm 3 67) s m ([.ref (ad 1), .int (iZ ((sh : Nat) : Int)), .int (iZ ((kd : Nat) : Int))] : List Value).toArray below meth c s.heap [] 0 0 (MQ below (zQr (some (.int (iZ (sSO J sh kd (jk J)))))) ([.ref (ad 1), .int (iZ ((sh : Nat) : Int)), .int (iZ ((kd : Nat) : Int))] : List Value).toArray s 0 0 (fun _ => False)) (F0 m 5 ls []) := by
    intro N5
    induction N5 with
    | zero =>
      intro i ls hi hN5 hl
      exact absurd hN5 (Nat.not_lt_zero _)
    | succ N5 ih5 =>
      intro i ls hi hN5 hl
      have hle := sSO_b hI sh kd i
      refine lv_iload hx hb d_J_sumOf_5 (lv_at hl 4 rfl) ?_
      refine lv_aload_n hx hb d_J_sumOf_7 rfl (lv_at hl 0 rfl) ?_
      refine va_get (D := D) (ci := 1) (v := .int (iZ ((jk J : Nat) : Int))) (C := n_J) (T := f_J) (N := 10) hx hb hts in_J hown hK hP 1 rfl rfl 2 (by decide) (hts _ fl_J_19) (fun _ h9 => h9) rfl d_J_sumOf_8 ?_
      refine z_icmp_ge (a := ((i : Nat) : Int)) (b := ((jk J : Nat) : Int)) (tgt := 40) hx hb (by omega) d_J_sumOf_11 (by decide) (fun q11 => ?_) (fun q11 => ?_)
      · skip
        refine lv_iload_n hx hb d_J_sumOf_40 rfl (lv_at hl 3 rfl) ?_
        exact z_iretR Z d_J_sumOf_41 (iretZ (by rw [show i = jk J by omega]))
      · skip
        refine lv_aload_n hx hb d_J_sumOf_14 rfl (lv_at hl 0 rfl) ?_
        refine lv_iload hx hb d_J_sumOf_15 (lv_at hl 4 rfl) ?_
        refine lv_iload_n hx hb d_J_sumOf_17 rfl (lv_at hl 1 rfl) ?_
        refine z_callVR (As := [.int (iZ ((i : Nat) : Int)), .int (iZ ((sh : Nat) : Int))]) (rest := []) zTB Z (k_J_isOf hI (pp := i) (sh := sh) (by omega) (by omega)) ⟨ml_J_71, im_J_isOf, se_J_isOf, ini_J, co_J_isOf⟩ zd_J_isOf ⟨Nat.le_of_ble_eq_true rfl, Nat.le_of_ble_eq_true rfl⟩ hP hK (ci := 1) (q0 := 1) rfl rfl rfl hl.1 rfl (Nat.le_of_ble_eq_true rfl) d_J_sumOf_18 ⟨Nat.zero_le _, Nat.zero_le _⟩ ?_
        refine W.eq (g2 := F0 m 21 ls [.int (bI (sOf J i sh))]) rfl ?_
        refine z_if_eqB (b := sOf J i sh) (tgt := 34) hx hb d_J_sumOf_21 (by decide) (fun q21 => ?_) (fun q21 => ?_)
        · skip
          refine lv_iinc (v := iZ ((i + 1 : Nat) : Int)) (lv' := [(4, .int (iZ ((i + 1 : Nat) : Int))), (0, .ref (ad 1)), (1, .int (iZ ((sh : Nat) : Int))), (2, .int (iZ ((kd : Nat) : Int))), (3, .int (iZ (sSO J sh kd i)))]) hx hb d_J_sumOf_34 hl (k := 4) rfl (iZ_inc (i) 1) (by decide) rfl (fun ls hl => ?_)
          refine lv_goto (tgt := 5) hx hb d_J_sumOf_37 (by decide) ?_
          exact ih5 (i + 1) ls (by omega) (by omega) (lv_sub hl [1, 2, 3, 4, 0] (by rw [show (sSO J sh kd (i + 1)) = (sSO J sh kd i) from by simp [sSO, q11, q21]]; rfl))
        · skip
          refine lv_iload_n hx hb d_J_sumOf_24 rfl (lv_at hl 3 rfl) ?_
          refine lv_aload_n hx hb d_J_sumOf_25 rfl (lv_at hl 0 rfl) ?_
          refine lv_iload hx hb d_J_sumOf_26 (lv_at hl 4 rfl) ?_
          refine lv_iload_n hx hb d_J_sumOf_28 rfl (lv_at hl 2 rfl) ?_
          refine z_callVR (As := [.int (iZ ((i : Nat) : Int)), .int (iZ ((kd : Nat) : Int))]) (rest := [.int (iZ (sSO J sh kd i))]) zTB Z (k_J_keptDifference hI (pp := i) (kd := kd) (by omega) (by omega)) ⟨ml_J_74, im_J_keptDifference, se_J_keptDifference, ini_J, co_J_keptDifference⟩ zd_J_keptDifference ⟨Nat.le_of_ble_eq_true rfl, Nat.le_of_ble_eq_true rfl⟩ hP hK (ci := 1) (q0 := 1) rfl rfl rfl hl.1 rfl (Nat.le_of_ble_eq_true rfl) d_J_sumOf_29 ⟨Nat.zero_le _, Nat.zero_le _⟩ ?_
          refine W.eq (g2 := F0 m 32 ls [.int (iZ (sKd J i kd)), .int (iZ (sSO J sh kd i))]) rfl ?_
          refine z_iadd (a := sSO J sh kd i) (b := sKd J i kd) hx hb d_J_sumOf_32 ?_
          refine lv_istore_n (lv' := [(3, .int (iZ ((sSO J sh kd i) + (sKd J i kd)))), (0, .ref (ad 1)), (1, .int (iZ ((sh : Nat) : Int))), (2, .int (iZ ((kd : Nat) : Int))), (4, .int (iZ ((i : Nat) : Int)))]) hx hb d_J_sumOf_33 rfl hl (by decide) rfl (fun ls hl => ?_)
          refine lv_iinc (v := iZ ((i + 1 : Nat) : Int)) (lv' := [(4, .int (iZ ((i + 1 : Nat) : Int))), (3, .int (iZ ((sSO J sh kd i) + (sKd J i kd)))), (0, .ref (ad 1)), (1, .int (iZ ((sh : Nat) : Int))), (2, .int (iZ ((kd : Nat) : Int)))]) hx hb d_J_sumOf_34 hl (k := 4) rfl (iZ_inc (i) 1) (by decide) rfl (fun ls hl => ?_)
          refine lv_goto (tgt := 5) hx hb d_J_sumOf_37 (by decide) ?_
          exact ih5 (i + 1) ls (by omega) (by omega) (lv_sub hl [2, 3, 4, 1, 0] (by rw [show (sSO J sh kd (i + 1)) = ((sSO J sh kd i) + (sKd J i kd)) from by simp [sSO, q11, q21]]; rfl))
  exact L5 (jk J - 0 + 1) 0 ls (Nat.zero_le _) (by omega) (lv_sub hl [2, 3, 4, 1, 0] rfl)

set_option maxHeartbeats 4000000 in
set_option maxRecDepth 100000 in
theorem k_J_rankOf {l : Launch} {D : va_G} {ad : Nat → Nat} {cI cZ cL : ClassId} {J : SJ} {rd : Nat → Int} {pr : Nat → Nat} {G : SH} {K : SK} {tl : va_W} (hI : JI J) {pp kd : Nat} (hp : pp < jk J) (hkd : kd < 3) : zMr l TB D classes (tysW cI cZ cL) y_J_rankOf w_J_rankOf 3 67 [.ref (ad 1), .int (iZ ((pp : Nat) : Int)), .int (iZ ((kd : Nat) : Int))] (wdC ad cI cZ cL J rd pr G K tl) (some (.int (iZ ((sRk J pp kd : Nat) : Int)))) := by
  refine z_ofR (by decide) (Nat.le_of_ble_eq_true rfl) ?_
  intro p e s m below meth c ls Z hP hK hl
  obtain ⟨hx, hb, hr, hml, hown, hts, hE, hlocks⟩ := id Z
  have hl : lv_has ls 7 [(0, .ref (ad 1)), (1, .int (iZ ((pp : Nat) : Int))), (2, .int (iZ ((kd : Nat) : Int)))] := hl
  obtain ⟨hn32, hk2, hpr, hct⟩ := id hI
  have hb0 := sKd_b hI pp kd
  refine lv_aload_n hx hb d_J_rankOf_0 rfl (lv_at hl 0 rfl) ?_
  refine lv_iload_n hx hb d_J_rankOf_1 rfl (lv_at hl 1 rfl) ?_
  refine lv_iload_n hx hb d_J_rankOf_2 rfl (lv_at hl 2 rfl) ?_
  refine z_callVR (As := [.int (iZ ((pp : Nat) : Int)), .int (iZ ((kd : Nat) : Int))]) (rest := []) zTB Z (k_J_keptDifference hI (pp := pp) (kd := kd) (by omega) (by omega)) ⟨ml_J_74, im_J_keptDifference, se_J_keptDifference, ini_J, co_J_keptDifference⟩ zd_J_keptDifference ⟨Nat.le_of_ble_eq_true rfl, Nat.le_of_ble_eq_true rfl⟩ hP hK (ci := 1) (q0 := 1) rfl rfl rfl hl.1 rfl (Nat.le_of_ble_eq_true rfl) d_J_rankOf_3 ⟨Nat.zero_le _, Nat.zero_le _⟩ ?_
  refine W.eq (g2 := F0 m 6 ls [.int (iZ (sKd J pp kd))]) rfl ?_
  refine va_mabs hx hb (Z.2.2.2.1.trans hl.1.symm) hown (hts _ ml9_J_77) (hts _ sm_Math_abs9) (hts _ ini_Math) (hts _ co_Math_abs9) (Nat.le_of_ble_eq_true rfl) (Nat.le_of_ble_eq_true rfl) (Nat.zero_le _) (Nat.zero_le _) d_J_rankOf_6 ?_
  refine z_topI (b := iZ (((sKd J pp kd).natAbs : Nat) : Int)) (z_abs (by omega)) ?_
  refine W.eq (g2 := F0 m 9 ls [.int (iZ (((sKd J pp kd).natAbs : Nat) : Int))]) rfl ?_
  refine lv_istore_n (lv' := [(3, .int (iZ (((sKd J pp kd).natAbs : Nat) : Int))), (0, .ref (ad 1)), (1, .int (iZ ((pp : Nat) : Int))), (2, .int (iZ ((kd : Nat) : Int)))]) hx hb d_J_rankOf_9 rfl hl (by decide) rfl (fun ls hl => ?_)
  refine lv_iload_n hx hb d_J_rankOf_10 rfl (lv_at hl 0 rfl) ?_
  refine z_if_ne (a := (((sKd J pp kd).natAbs : Nat) : Int)) (tgt := 16) hx hb (by omega) d_J_rankOf_11 (by decide) (fun q11 => ?_) (fun q11 => ?_)
  · skip
    refine lv_iconst (v := iZ ((1 : Nat) : Int)) hx hb d_J_rankOf_16 (by decide) ?_
    refine lv_istore (lv' := [(4, .int (iZ ((1 : Nat) : Int))), (3, .int (iZ (((sKd J pp kd).natAbs : Nat) : Int))), (0, .ref (ad 1)), (1, .int (iZ ((pp : Nat) : Int))), (2, .int (iZ ((kd : Nat) : Int)))]) hx hb d_J_rankOf_17 hl (by decide) rfl (fun ls hl => ?_)
    refine lv_iconst (v := iZ ((0 : Nat) : Int)) hx hb d_J_rankOf_19 (by decide) ?_
    refine lv_istore (lv' := [(5, .int (iZ ((0 : Nat) : Int))), (4, .int (iZ ((1 : Nat) : Int))), (3, .int (iZ (((sKd J pp kd).natAbs : Nat) : Int))), (0, .ref (ad 1)), (1, .int (iZ ((pp : Nat) : Int))), (2, .int (iZ ((kd : Nat) : Int)))]) hx hb d_J_rankOf_20 hl (by decide) rfl (fun ls hl => ?_)
    have L22 : ∀ (N22 : Nat) (i : Nat) (ls : Array Slot), (i ≤ jk J) → jk J - i < N22 → lv_has ls 7 [(0, .ref (ad 1)), (1, .int (iZ ((pp : Nat) : Int))), (2, .int (iZ ((kd : Nat) : Int))), (3, .int (iZ (((sKd J pp kd).natAbs : Nat) : Int))), (4, .int (iZ ((sRs J pp kd i : Nat) : Int))), (5, .int (iZ ((i : Nat) : Int)))] → W p l e (zRm 3 67) s m ([.ref (ad 1), .int (iZ ((pp : Nat) : Int)), .int (iZ ((kd : Nat) : Int))] : List Value).toArray below meth c s.heap [] 0 0 (MQ below (zQr (some (.int (iZ ((sRk J pp kd : Nat) : Int))))) ([.ref (ad 1), .int (iZ ((pp : Nat) : Int)), .int (iZ ((kd : Nat) : Int))] : List Value).toArray s 0 0 (fun _ => False)) (F0 m 22 ls []) := by
      intro N22
      induction N22 with
      | zero =>
        intro i ls hi hN22 hl
        exact absurd hN22 (Nat.not_lt_zero _)
      | succ N22 ih22 =>
        intro i ls hi hN22 hl
        have hle := sRs_le J pp kd i
        have hb1 := sKd_b hI i kd
        refine lv_iload hx hb d_J_rankOf_22 (lv_at hl 5 rfl) ?_
        refine lv_aload_n hx hb d_J_rankOf_24 rfl (lv_at hl 0 rfl) ?_
        refine va_get (D := D) (ci := 1) (v := .int (iZ ((jk J : Nat) : Int))) (C := n_J) (T := f_J) (N := 10) hx hb hts in_J hown hK hP 1 rfl rfl 2 (by decide) (hts _ fl_J_19) (fun _ h9 => h9) rfl d_J_rankOf_25 ?_
        refine z_icmp_ge (a := ((i : Nat) : Int)) (b := ((jk J : Nat) : Int)) (tgt := 75) hx hb (by omega) d_J_rankOf_28 (by decide) (fun q28 => ?_) (fun q28 => ?_)
        · skip
          refine lv_iload hx hb d_J_rankOf_75 (lv_at hl 4 rfl) ?_
          exact z_iretR Z d_J_rankOf_77 (iretN (by unfold sRk; rw [if_neg (by omega), show i = jk J by omega]))
        · skip
          refine lv_aload_n hx hb d_J_rankOf_31 rfl (lv_at hl 0 rfl) ?_
          refine lv_iload hx hb d_J_rankOf_32 (lv_at hl 5 rfl) ?_
          refine lv_iload_n hx hb d_J_rankOf_34 rfl (lv_at hl 2 rfl) ?_
          refine z_callVR (As := [.int (iZ ((i : Nat) : Int)), .int (iZ ((kd : Nat) : Int))]) (rest := []) zTB Z (k_J_keptDifference hI (pp := i) (kd := kd) (by omega) (by omega)) ⟨ml_J_74, im_J_keptDifference, se_J_keptDifference, ini_J, co_J_keptDifference⟩ zd_J_keptDifference ⟨Nat.le_of_ble_eq_true rfl, Nat.le_of_ble_eq_true rfl⟩ hP hK (ci := 1) (q0 := 1) rfl rfl rfl hl.1 rfl (Nat.le_of_ble_eq_true rfl) d_J_rankOf_35 ⟨Nat.zero_le _, Nat.zero_le _⟩ ?_
          refine W.eq (g2 := F0 m 38 ls [.int (iZ (sKd J i kd))]) rfl ?_
          refine va_mabs hx hb (Z.2.2.2.1.trans hl.1.symm) hown (hts _ ml9_J_77) (hts _ sm_Math_abs9) (hts _ ini_Math) (hts _ co_Math_abs9) (Nat.le_of_ble_eq_true rfl) (Nat.le_of_ble_eq_true rfl) (Nat.zero_le _) (Nat.zero_le _) d_J_rankOf_38 ?_
          refine z_topI (b := iZ (((sKd J i kd).natAbs : Nat) : Int)) (z_abs (by omega)) ?_
          refine W.eq (g2 := F0 m 41 ls [.int (iZ (((sKd J i kd).natAbs : Nat) : Int))]) rfl ?_
          refine lv_istore (lv' := [(6, .int (iZ (((sKd J i kd).natAbs : Nat) : Int))), (0, .ref (ad 1)), (1, .int (iZ ((pp : Nat) : Int))), (2, .int (iZ ((kd : Nat) : Int))), (3, .int (iZ (((sKd J pp kd).natAbs : Nat) : Int))), (4, .int (iZ ((sRs J pp kd i : Nat) : Int))), (5, .int (iZ ((i : Nat) : Int)))]) hx hb d_J_rankOf_41 hl (by decide) rfl (fun ls hl => ?_)
          refine lv_iload hx hb d_J_rankOf_43 (lv_at hl 0 rfl) ?_
          refine lv_iload_n hx hb d_J_rankOf_45 rfl (lv_at hl 4 rfl) ?_
          refine z_icmp_ne (a := (((sKd J i kd).natAbs : Nat) : Int)) (b := (((sKd J pp kd).natAbs : Nat) : Int)) (tgt := 55) hx hb (by omega) d_J_rankOf_46 (by decide) (fun q46 => ?_) (fun q46 => ?_)
          · skip
            refine lv_iload hx hb d_J_rankOf_55 (lv_at hl 0 rfl) ?_
            refine z_if_le (a := (((sKd J i kd).natAbs : Nat) : Int)) (tgt := 69) hx hb (by omega) d_J_rankOf_57 (by decide) (fun q57 => ?_) (fun q57 => ?_)
            · skip
              refine lv_iinc (v := iZ ((i + 1 : Nat) : Int)) (lv' := [(5, .int (iZ ((i + 1 : Nat) : Int))), (6, .int (iZ (((sKd J i kd).natAbs : Nat) : Int))), (0, .ref (ad 1)), (1, .int (iZ ((pp : Nat) : Int))), (2, .int (iZ ((kd : Nat) : Int))), (3, .int (iZ (((sKd J pp kd).natAbs : Nat) : Int))), (4, .int (iZ ((sRs J pp kd i : Nat) : Int)))]) hx hb d_J_rankOf_69 hl (k := 6) rfl (iZ_inc (i) 1) (by decide) rfl (fun ls hl => ?_)
              refine lv_goto (tgt := 22) hx hb d_J_rankOf_72 (by decide) ?_
              exact ih22 (i + 1) ls (by omega) (by omega) (lv_sub hl [2, 3, 4, 5, 6, 0] (by rw [show (sRs J pp kd (i + 1)) = (sRs J pp kd i) from by show sRs J pp kd i + sR1 J pp kd i = _; unfold sR1; split <;> first | omega | (split <;> omega)]; rfl))
            · skip
              refine lv_iload hx hb d_J_rankOf_60 (lv_at hl 0 rfl) ?_
              refine lv_iload_n hx hb d_J_rankOf_62 rfl (lv_at hl 4 rfl) ?_
              refine z_icmp_ge (a := (((sKd J i kd).natAbs : Nat) : Int)) (b := (((sKd J pp kd).natAbs : Nat) : Int)) (tgt := 69) hx hb (by omega) d_J_rankOf_63 (by decide) (fun q63 => ?_) (fun q63 => ?_)
              · skip
                refine lv_iinc (v := iZ ((i + 1 : Nat) : Int)) (lv' := [(5, .int (iZ ((i + 1 : Nat) : Int))), (6, .int (iZ (((sKd J i kd).natAbs : Nat) : Int))), (0, .ref (ad 1)), (1, .int (iZ ((pp : Nat) : Int))), (2, .int (iZ ((kd : Nat) : Int))), (3, .int (iZ (((sKd J pp kd).natAbs : Nat) : Int))), (4, .int (iZ ((sRs J pp kd i : Nat) : Int)))]) hx hb d_J_rankOf_69 hl (k := 6) rfl (iZ_inc (i) 1) (by decide) rfl (fun ls hl => ?_)
                refine lv_goto (tgt := 22) hx hb d_J_rankOf_72 (by decide) ?_
                exact ih22 (i + 1) ls (by omega) (by omega) (lv_sub hl [2, 3, 4, 5, 6, 0] (by rw [show (sRs J pp kd (i + 1)) = (sRs J pp kd i) from by show sRs J pp kd i + sR1 J pp kd i = _; unfold sR1; split <;> first | omega | (split <;> omega)]; rfl))
              · skip
                refine lv_iinc (v := iZ ((sRs J pp kd i + 2 : Nat) : Int)) (lv' := [(4, .int (iZ ((sRs J pp kd i + 2 : Nat) : Int))), (6, .int (iZ (((sKd J i kd).natAbs : Nat) : Int))), (0, .ref (ad 1)), (1, .int (iZ ((pp : Nat) : Int))), (2, .int (iZ ((kd : Nat) : Int))), (3, .int (iZ (((sKd J pp kd).natAbs : Nat) : Int))), (5, .int (iZ ((i : Nat) : Int)))]) hx hb d_J_rankOf_66 hl (k := 5) rfl (iZ_inc (sRs J pp kd i) 2) (by decide) rfl (fun ls hl => ?_)
                refine lv_iinc (v := iZ ((i + 1 : Nat) : Int)) (lv' := [(5, .int (iZ ((i + 1 : Nat) : Int))), (4, .int (iZ ((sRs J pp kd i + 2 : Nat) : Int))), (6, .int (iZ (((sKd J i kd).natAbs : Nat) : Int))), (0, .ref (ad 1)), (1, .int (iZ ((pp : Nat) : Int))), (2, .int (iZ ((kd : Nat) : Int))), (3, .int (iZ (((sKd J pp kd).natAbs : Nat) : Int)))]) hx hb d_J_rankOf_69 hl (k := 6) rfl (iZ_inc (i) 1) (by decide) rfl (fun ls hl => ?_)
                refine lv_goto (tgt := 22) hx hb d_J_rankOf_72 (by decide) ?_
                exact ih22 (i + 1) ls (by omega) (by omega) (lv_sub hl [3, 4, 5, 6, 1, 0] (by rw [show (sRs J pp kd (i + 1)) = (sRs J pp kd i + 2) from by show sRs J pp kd i + sR1 J pp kd i = _; unfold sR1; split <;> first | omega | (split <;> omega)]; rfl))
          · skip
            refine lv_iinc (v := iZ ((sRs J pp kd i + 1 : Nat) : Int)) (lv' := [(4, .int (iZ ((sRs J pp kd i + 1 : Nat) : Int))), (6, .int (iZ (((sKd J i kd).natAbs : Nat) : Int))), (0, .ref (ad 1)), (1, .int (iZ ((pp : Nat) : Int))), (2, .int (iZ ((kd : Nat) : Int))), (3, .int (iZ (((sKd J pp kd).natAbs : Nat) : Int))), (5, .int (iZ ((i : Nat) : Int)))]) hx hb d_J_rankOf_49 hl (k := 5) rfl (iZ_inc (sRs J pp kd i) 1) (by decide) rfl (fun ls hl => ?_)
            refine lv_goto (tgt := 69) hx hb d_J_rankOf_52 (by decide) ?_
            refine lv_iinc (v := iZ ((i + 1 : Nat) : Int)) (lv' := [(5, .int (iZ ((i + 1 : Nat) : Int))), (4, .int (iZ ((sRs J pp kd i + 1 : Nat) : Int))), (6, .int (iZ (((sKd J i kd).natAbs : Nat) : Int))), (0, .ref (ad 1)), (1, .int (iZ ((pp : Nat) : Int))), (2, .int (iZ ((kd : Nat) : Int))), (3, .int (iZ (((sKd J pp kd).natAbs : Nat) : Int)))]) hx hb d_J_rankOf_69 hl (k := 6) rfl (iZ_inc (i) 1) (by decide) rfl (fun ls hl => ?_)
            refine lv_goto (tgt := 22) hx hb d_J_rankOf_72 (by decide) ?_
            exact ih22 (i + 1) ls (by omega) (by omega) (lv_sub hl [3, 4, 5, 6, 1, 0] (by rw [show (sRs J pp kd (i + 1)) = (sRs J pp kd i + 1) from by show sRs J pp kd i + sR1 J pp kd i = _; unfold sR1; split <;> first | omega | (split <;> omega)]; rfl))
    exact L22 (jk J - 0 + 1) 0 ls (Nat.zero_le _) (by omega) (lv_sub hl [3, 4, 5, 2, 1, 0] rfl)
  · skip
    refine lv_iconst (v := iZ ((0 : Nat) : Int)) hx hb d_J_rankOf_14 (by decide) ?_
    exact z_iretR Z d_J_rankOf_15 (iretN (by unfold sRk; rw [if_pos (by omega)]))

