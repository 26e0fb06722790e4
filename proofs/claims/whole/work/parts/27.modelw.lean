/-! The reference's answering methods. -/
theorem sPr_0t {J : SJ} {M : SM} {p wh : Nat} (h : MP J M p) (hw : wh = 0) (q : iZ ((1 : Nat) : Int) = bI (jdv J (mse M p))) : sPr J p wh = mse M p := by
  obtain ⟨-, -, -, h4, h5, h6⟩ := h
  unfold sPr
  rw [if_pos hw, h5]
  rw [h4] at q
  cases e : jdv J (mfi M p) with
  | true => rw [e] at q; exact absurd q (by decide)
  | false => rfl
theorem sPr_0f {J : SJ} {M : SM} {p wh : Nat} (h : MP J M p) (hw : wh = 0) (q : ¬ iZ ((1 : Nat) : Int) = bI (jdv J (mse M p))) : sPr J p wh = mfi M p := by
  obtain ⟨-, -, -, h4, h5, h6⟩ := h
  unfold sPr
  rw [if_pos hw, h5]
  rw [h4] at q
  cases e : jdv J (mfi M p) with
  | true => rfl
  | false => rw [e] at q; exact absurd rfl q
theorem sPr_1t {J : SJ} {M : SM} {p wh : Nat} (h : MP J M p) (hw : wh = 1) (q : iZ ((0 : Nat) : Int) = bI (jdv J (mse M p))) : sPr J p wh = mse M p := by
  obtain ⟨-, -, -, h4, h5, h6⟩ := h
  unfold sPr
  rw [if_neg (by omega), if_pos hw, h6]
  rw [h4] at q
  cases e : jdv J (mfi M p) with
  | true => rfl
  | false => rw [e] at q; exact absurd q (by decide)
theorem sPr_1f {J : SJ} {M : SM} {p wh : Nat} (h : MP J M p) (hw : wh = 1) (q : ¬ iZ ((0 : Nat) : Int) = bI (jdv J (mse M p))) : sPr J p wh = mfi M p := by
  obtain ⟨-, -, -, h4, h5, h6⟩ := h
  unfold sPr
  rw [if_neg (by omega), if_pos hw, h6]
  rw [h4] at q
  cases e : jdv J (mfi M p) with
  | true => rw [e] at q; exact absurd rfl q
  | false => rfl
theorem sPr_2 {J : SJ} {M : SM} {p wh : Nat} (h : MP J M p) (hw : wh = 2) : sPr J p wh = msh M (mfi M p) := by
  unfold sPr
  rw [if_neg (by omega), if_neg (by omega), h.2.2.1]
theorem iN {a b : Nat} (h : a = b) : iZ ((b : Nat) : Int) = iZ ((a : Nat) : Int) := by rw [h]
theorem sTP_0 {a : Int} {bl pt : Nat} (h : bl = 0) (hp : pt < 2) : lZ ((pt : Nat) : Int) = lZ (sTP a bl pt) := by
  unfold sTP
  rw [if_pos (by omega)]
  have h9 : pt = 0 ∨ pt = 1 := by omega
  rcases h9 with rfl | rfl <;> rfl
set_option maxHeartbeats 4000000 in
set_option maxRecDepth 100000 in
theorem k_M_haulx1 {l : Launch} {D : va_G} {ad : Nat → Nat} {cI cZ cL : ClassId} {J J0 : SJ} {rd rd0 : Nat → Int} {pr pr0 : Nat → Nat} {G0 : SH} {K0 : SK} {M : SM} {ov : Nat → Int64} (hI : JI J) (hM : MJ J M) {a : Int} (h : z32 a ∧ (a < 0 ∨ 4 ≤ a)) : zMi l TB D classes (tysW cI cZ cL) y_M_haul w_M_haul 1 21 [.ref (ad 19), .int (iZ (a))] (wdC ad cI cZ cL J0 rd0 pr0 G0 K0 (wdM ad cI cZ cL J rd pr M ov)) (fun r w => ∃ M1 : SM, w = wdC ad cI cZ cL J0 rd0 pr0 G0 K0 (wdM ad cI cZ cL J rd pr M1 ov) ∧ M1.1 = 1 ∧ MJ J M1) := by
  refine z_of (Qc := fun A => va_Qi (fun r w => ∃ M1 : SM, w = wdC ad cI cZ cL J0 rd0 pr0 G0 K0 (wdM ad cI cZ cL J rd pr M1 ov) ∧ M1.1 = 1 ∧ MJ J M1) (zB9 D classes (wdC ad cI cZ cL J0 rd0 pr0 G0 K0 (wdM ad cI cZ cL J rd pr M ov))) A) (by decide) (Nat.le_of_ble_eq_true rfl) ?_
  intro p e s m below meth c A ls Z hP hK hD hS hA hl
  obtain ⟨hx, hb, hr, hml, hown, hts, hE, hlocks⟩ := id Z
  have hl : lv_has ls 2 [(0, .ref (ad 19)), (1, .int (iZ (a)))] := hl
  obtain ⟨hn32, hk2, hpr, hct⟩ := id hI
  suffices K9 : ∀ (H : Heap) (locs : List Loc) (ls : Array Slot), va_P D classes (wdC ad cI cZ cL J0 rd0 pr0 G0 K0 (wdM ad cI cZ cL J rd pr M ov)) H → va_D A (wdC ad cI cZ cL J0 rd0 pr0 G0 K0 (wdM ad cI cZ cL J rd pr M ov)) → va_S A s.heap H locs → lv_has ls 2 [(0, .ref (ad 19)), (1, .int (iZ (a)))] → W p l e (zRm 1 21) s m ([.ref (ad 19), .int (iZ (a))] : List Value).toArray below meth c H locs 0 0 (MQ below (va_Qi (fun r w => ∃ M1 : SM, w = wdC ad cI cZ cL J0 rd0 pr0 G0 K0 (wdM ad cI cZ cL J rd pr M1 ov) ∧ M1.1 = 1 ∧ MJ J M1) (zB9 D classes (wdC ad cI cZ cL J0 rd0 pr0 G0 K0 (wdM ad cI cZ cL J rd pr M ov))) A) ([.ref (ad 19), .int (iZ (a))] : List Value).toArray s 0 0 A) (F0 m 0 ls []) from K9 s.heap [] ls hP hD hS hl
  clear hP hD hS hl
  intro H locs ls hP hD hS hl
  refine lv_aload_n hx hb d_M_haul_0 rfl (lv_at hl 0 rfl) ?_
  refine lv_iload_n hx hb d_M_haul_1 rfl (lv_at hl 1 rfl) ?_
  refine lv_iconst (v := iZ ((4 : Nat) : Int)) hx hb d_M_haul_2 (by decide) ?_
  refine z_callSR (As := [.int (iZ (a)), .int (iZ ((4 : Nat) : Int))]) (rest := [.ref (ad 19)]) zTB Z (k_M_isIn (a := a) (b := ((4 : Nat) : Int)) (by omega)) ⟨ml_M_59, sm_M_isIn, ini_M, co_M_isIn⟩ zd_M_isIn ⟨Nat.le_of_ble_eq_true rfl, Nat.le_of_ble_eq_true rfl⟩ hP hK hl.1 rfl (Nat.le_of_ble_eq_true rfl) d_M_haul_3 ⟨Nat.zero_le _, Nat.zero_le _⟩ ?_
  refine W.eq (g2 := F0 m 6 ls [.int (bI (decide (0 ≤ a ∧ a < ((4 : Nat) : Int)))), .ref (ad 19)]) rfl ?_
  refine z_if_neB (b := decide (0 ≤ a ∧ a < ((4 : Nat) : Int))) (tgt := 13) hx hb d_M_haul_6 (by decide) (fun q6 => ?_) (fun q6 => ?_)
  · skip
    replace q6 := of_decide_eq_true q6
    refine lv_aload_n hx hb d_M_haul_13 rfl (lv_at hl 0 rfl) ?_
    refine va_get (D := D) (ci := 5) (v := .int (iZ ((jn J : Nat) : Int))) (C := n_M) (T := f_M) (N := 17) hx hb hts in_M hown hK hP 19 rfl rfl 2 (by decide) (hts _ fl_M_63) (fun _ h9 => h9) rfl d_M_haul_14 ?_
    refine lv_bipush (v := iZ ((32 : Nat) : Int)) hx hb d_M_haul_17 (by decide) ?_
    refine z_icmp_ne (a := ((jn J : Nat) : Int)) (b := ((32 : Nat) : Int)) (tgt := 26) hx hb (by omega) d_M_haul_19 (by decide) (fun q19 => ?_) (fun q19 => ?_)
    · skip
      exfalso; omega
    · skip
      exfalso; omega
  · skip
    replace q6 := of_decide_eq_false q6
    refine lv_iconst (v := iZ ((1 : Nat) : Int)) hx hb d_M_haul_9 (by decide) ?_
    refine lv_goto (tgt := 27) hx hb d_M_haul_10 (by decide) ?_
    refine va_put (D := D) (ci := 5) (v := .int (iZ ((1 : Nat) : Int))) (ty := .int) (C := n_M) (T := f_M) (N := 17) hx hb hts in_M ty_M tyo_M nm_M hown hK hP hD hS 19 rfl rfl 0 (by decide) (hts _ fl_M_55) (fun _ h9 => h9) rfl (by decide +kernel) rfl rfl (Nat.le_of_ble_eq_true rfl) d_M_haul_27 (fun H locs hP hD hS => ?_)
    have hP : va_P D classes (wdC ad cI cZ cL J0 rd0 pr0 G0 K0 (wdM ad cI cZ cL J rd pr (1, M.2) ov)) H := hP
    have hD : va_D A (wdC ad cI cZ cL J0 rd0 pr0 G0 K0 (wdM ad cI cZ cL J rd pr (1, M.2) ov)) := hD
    refine lv_aload_n hx hb d_M_haul_30 rfl (lv_at hl 0 rfl) ?_
    refine va_get (D := D) (ci := 5) (v := .int (iZ ((1 : Nat) : Int))) (C := n_M) (T := f_M) (N := 17) hx hb hts in_M hown hK hP 19 rfl rfl 0 (by decide) (hts _ fl_M_55) (fun _ h9 => h9) rfl d_M_haul_31 ?_
    refine z_if_le (a := ((1 : Nat) : Int)) (tgt := 39) hx hb (by omega) d_M_haul_34 (by decide) (fun q34 => ?_) (fun q34 => ?_)
    · skip
      exfalso; omega
    · skip
      refine lv_iconst (v := iZ ((0 : Nat) : Int)) hx hb d_M_haul_37 (by decide) ?_
      exact z_iret Z hP hS d_M_haul_38 wdM_map (⟨_, rfl, rfl, hM⟩)

set_option maxHeartbeats 4000000 in
set_option maxRecDepth 100000 in
theorem k_M_haulx2 {l : Launch} {D : va_G} {ad : Nat → Nat} {cI cZ cL : ClassId} {J J0 : SJ} {rd rd0 : Nat → Int} {pr pr0 : Nat → Nat} {G0 : SH} {K0 : SK} {M : SM} {ov : Nat → Int64} (hI : JI J) (hM : MJ J M) {sh : Nat} (h : sh < 4) (h2 : jn J = 32) : zMi l TB D classes (tysW cI cZ cL) y_M_haul w_M_haul 1 21 [.ref (ad 19), .int (iZ ((sh : Nat) : Int))] (wdC ad cI cZ cL J0 rd0 pr0 G0 K0 (wdM ad cI cZ cL J rd pr M ov)) (fun r w => ∃ M1 : SM, w = wdC ad cI cZ cL J0 rd0 pr0 G0 K0 (wdM ad cI cZ cL J rd pr M1 ov) ∧ M1.1 = 2 ∧ MJ J M1) := by
  refine z_of (Qc := fun A => va_Qi (fun r w => ∃ M1 : SM, w = wdC ad cI cZ cL J0 rd0 pr0 G0 K0 (wdM ad cI cZ cL J rd pr M1 ov) ∧ M1.1 = 2 ∧ MJ J M1) (zB9 D classes (wdC ad cI cZ cL J0 rd0 pr0 G0 K0 (wdM ad cI cZ cL J rd pr M ov))) A) (by decide) (Nat.le_of_ble_eq_true rfl) ?_
  intro p e s m below meth c A ls Z hP hK hD hS hA hl
  obtain ⟨hx, hb, hr, hml, hown, hts, hE, hlocks⟩ := id Z
  have hl : lv_has ls 2 [(0, .ref (ad 19)), (1, .int (iZ ((sh : Nat) : Int)))] := hl
  obtain ⟨hn32, hk2, hpr, hct⟩ := id hI
  suffices K9 : ∀ (H : Heap) (locs : List Loc) (ls : Array Slot), va_P D classes (wdC ad cI cZ cL J0 rd0 pr0 G0 K0 (wdM ad cI cZ cL J rd pr M ov)) H → va_D A (wdC ad cI cZ cL J0 rd0 pr0 G0 K0 (wdM ad cI cZ cL J rd pr M ov)) → va_S A s.heap H locs → lv_has ls 2 [(0, .ref (ad 19)), (1, .int (iZ ((sh : Nat) : Int)))] → W p l e (zRm 1 21) s m ([.ref (ad 19), .int (iZ ((sh : Nat) : Int))] : List Value).toArray below meth c H locs 0 0 (MQ below (va_Qi (fun r w => ∃ M1 : SM, w = wdC ad cI cZ cL J0 rd0 pr0 G0 K0 (wdM ad cI cZ cL J rd pr M1 ov) ∧ M1.1 = 2 ∧ MJ J M1) (zB9 D classes (wdC ad cI cZ cL J0 rd0 pr0 G0 K0 (wdM ad cI cZ cL J rd pr M ov))) A) ([.ref (ad 19), .int (iZ ((sh : Nat) : Int))] : List Value).toArray s 0 0 A) (F0 m 0 ls []) from K9 s.heap [] ls hP hD hS hl
  clear hP hD hS hl
  intro H locs ls hP hD hS hl
  refine lv_aload_n hx hb d_M_haul_0 rfl (lv_at hl 0 rfl) ?_
  refine lv_iload_n hx hb d_M_haul_1 rfl (lv_at hl 1 rfl) ?_
  refine lv_iconst (v := iZ ((4 : Nat) : Int)) hx hb d_M_haul_2 (by decide) ?_
  refine z_callSR (As := [.int (iZ ((sh : Nat) : Int)), .int (iZ ((4 : Nat) : Int))]) (rest := [.ref (ad 19)]) zTB Z (k_M_isIn (a := ((sh : Nat) : Int)) (b := ((4 : Nat) : Int)) (by omega)) ⟨ml_M_59, sm_M_isIn, ini_M, co_M_isIn⟩ zd_M_isIn ⟨Nat.le_of_ble_eq_true rfl, Nat.le_of_ble_eq_true rfl⟩ hP hK hl.1 rfl (Nat.le_of_ble_eq_true rfl) d_M_haul_3 ⟨Nat.zero_le _, Nat.zero_le _⟩ ?_
  refine W.eq (g2 := F0 m 6 ls [.int (bI (decide (0 ≤ ((sh : Nat) : Int) ∧ ((sh : Nat) : Int) < ((4 : Nat) : Int)))), .ref (ad 19)]) rfl ?_
  refine z_if_neB (b := decide (0 ≤ ((sh : Nat) : Int) ∧ ((sh : Nat) : Int) < ((4 : Nat) : Int))) (tgt := 13) hx hb d_M_haul_6 (by decide) (fun q6 => ?_) (fun q6 => ?_)
  · skip
    replace q6 := of_decide_eq_true q6
    refine lv_aload_n hx hb d_M_haul_13 rfl (lv_at hl 0 rfl) ?_
    refine va_get (D := D) (ci := 5) (v := .int (iZ ((jn J : Nat) : Int))) (C := n_M) (T := f_M) (N := 17) hx hb hts in_M hown hK hP 19 rfl rfl 2 (by decide) (hts _ fl_M_63) (fun _ h9 => h9) rfl d_M_haul_14 ?_
    refine lv_bipush (v := iZ ((32 : Nat) : Int)) hx hb d_M_haul_17 (by decide) ?_
    refine z_icmp_ne (a := ((jn J : Nat) : Int)) (b := ((32 : Nat) : Int)) (tgt := 26) hx hb (by omega) d_M_haul_19 (by decide) (fun q19 => ?_) (fun q19 => ?_)
    · skip
      exfalso; omega
    · skip
      refine lv_iconst (v := iZ ((2 : Nat) : Int)) hx hb d_M_haul_22 (by decide) ?_
      refine lv_goto (tgt := 27) hx hb d_M_haul_23 (by decide) ?_
      refine va_put (D := D) (ci := 5) (v := .int (iZ ((2 : Nat) : Int))) (ty := .int) (C := n_M) (T := f_M) (N := 17) hx hb hts in_M ty_M tyo_M nm_M hown hK hP hD hS 19 rfl rfl 0 (by decide) (hts _ fl_M_55) (fun _ h9 => h9) rfl (by decide +kernel) rfl rfl (Nat.le_of_ble_eq_true rfl) d_M_haul_27 (fun H locs hP hD hS => ?_)
      have hP : va_P D classes (wdC ad cI cZ cL J0 rd0 pr0 G0 K0 (wdM ad cI cZ cL J rd pr (2, M.2) ov)) H := hP
      have hD : va_D A (wdC ad cI cZ cL J0 rd0 pr0 G0 K0 (wdM ad cI cZ cL J rd pr (2, M.2) ov)) := hD
      refine lv_aload_n hx hb d_M_haul_30 rfl (lv_at hl 0 rfl) ?_
      refine va_get (D := D) (ci := 5) (v := .int (iZ ((2 : Nat) : Int))) (C := n_M) (T := f_M) (N := 17) hx hb hts in_M hown hK hP 19 rfl rfl 0 (by decide) (hts _ fl_M_55) (fun _ h9 => h9) rfl d_M_haul_31 ?_
      refine z_if_le (a := ((2 : Nat) : Int)) (tgt := 39) hx hb (by omega) d_M_haul_34 (by decide) (fun q34 => ?_) (fun q34 => ?_)
      · skip
        exfalso; omega
      · skip
        refine lv_iconst (v := iZ ((0 : Nat) : Int)) hx hb d_M_haul_37 (by decide) ?_
        exact z_iret Z hP hS d_M_haul_38 wdM_map (⟨_, rfl, rfl, hM⟩)
  · skip
    replace q6 := of_decide_eq_false q6
    exfalso; omega

set_option maxHeartbeats 4000000 in
set_option maxRecDepth 100000 in
theorem k_M_haul1 {l : Launch} {D : va_G} {ad : Nat → Nat} {cI cZ cL : ClassId} {J J0 : SJ} {rd rd0 : Nat → Int} {pr pr0 : Nat → Nat} {G0 : SH} {K0 : SK} {M : SM} {ov : Nat → Int64} (hI : JI J) (hM : MJ J M) {sh : Nat} (hsh : sh < 4) (hn : jn J < 32) (he : mmy M sh % 2 = 0) : zMi l TB D classes (tysW cI cZ cL) y_M_haul w_M_haul 1 21 [.ref (ad 19), .int (iZ ((sh : Nat) : Int))] (wdC ad cI cZ cL J0 rd0 pr0 G0 K0 (wdM ad cI cZ cL J rd pr M ov)) (fun r w => ∃ M1 : SM, r = iZ ((jn J : Nat) : Int) ∧ w = wdC ad cI cZ cL J0 rd0 pr0 G0 K0 (wdM ad cI cZ cL (sH1 J sh) rd pr M1 ov) ∧ M1.1 = 0 ∧ MJ (sH1 J sh) M1) := by
  refine z_of (Qc := fun A => va_Qi (fun r w => ∃ M1 : SM, r = iZ ((jn J : Nat) : Int) ∧ w = wdC ad cI cZ cL J0 rd0 pr0 G0 K0 (wdM ad cI cZ cL (sH1 J sh) rd pr M1 ov) ∧ M1.1 = 0 ∧ MJ (sH1 J sh) M1) (zB9 D classes (wdC ad cI cZ cL J0 rd0 pr0 G0 K0 (wdM ad cI cZ cL J rd pr M ov))) A) (by decide) (Nat.le_of_ble_eq_true rfl) ?_
  intro p e s m below meth c A ls Z hP hK hD hS hA hl
  obtain ⟨hx, hb, hr, hml, hown, hts, hE, hlocks⟩ := id Z
  have hl : lv_has ls 2 [(0, .ref (ad 19)), (1, .int (iZ ((sh : Nat) : Int)))] := hl
  obtain ⟨hn32, hk2, hpr, hct⟩ := id hI
  have hMO := hM.2.1 sh hsh
  have hMy := hMO.2.2
  suffices K9 : ∀ (H : Heap) (locs : List Loc) (ls : Array Slot), va_P D classes (wdC ad cI cZ cL J0 rd0 pr0 G0 K0 (wdM ad cI cZ cL J rd pr M ov)) H → va_D A (wdC ad cI cZ cL J0 rd0 pr0 G0 K0 (wdM ad cI cZ cL J rd pr M ov)) → va_S A s.heap H locs → lv_has ls 2 [(0, .ref (ad 19)), (1, .int (iZ ((sh : Nat) : Int)))] → W p l e (zRm 1 21) s m ([.ref (ad 19), .int (iZ ((sh : Nat) : Int))] : List Value).toArray below meth c H locs 0 0 (MQ below (va_Qi (fun r w => ∃ M1 : SM, r = iZ ((jn J : Nat) : Int) ∧ w = wdC ad cI cZ cL J0 rd0 pr0 G0 K0 (wdM ad cI cZ cL (sH1 J sh) rd pr M1 ov) ∧ M1.1 = 0 ∧ MJ (sH1 J sh) M1) (zB9 D classes (wdC ad cI cZ cL J0 rd0 pr0 G0 K0 (wdM ad cI cZ cL J rd pr M ov))) A) ([.ref (ad 19), .int (iZ ((sh : Nat) : Int))] : List Value).toArray s 0 0 A) (F0 m 0 ls []) from K9 s.heap [] ls hP hD hS hl
  clear hP hD hS hl
  intro H locs ls hP hD hS hl
  refine lv_aload_n hx hb d_M_haul_0 rfl (lv_at hl 0 rfl) ?_
  refine lv_iload_n hx hb d_M_haul_1 rfl (lv_at hl 1 rfl) ?_
  refine lv_iconst (v := iZ ((4 : Nat) : Int)) hx hb d_M_haul_2 (by decide) ?_
  refine z_callSR (As := [.int (iZ ((sh : Nat) : Int)), .int (iZ ((4 : Nat) : Int))]) (rest := [.ref (ad 19)]) zTB Z (k_M_isIn (a := ((sh : Nat) : Int)) (b := ((4 : Nat) : Int)) (by omega)) ⟨ml_M_59, sm_M_isIn, ini_M, co_M_isIn⟩ zd_M_isIn ⟨Nat.le_of_ble_eq_true rfl, Nat.le_of_ble_eq_true rfl⟩ hP hK hl.1 rfl (Nat.le_of_ble_eq_true rfl) d_M_haul_3 ⟨Nat.zero_le _, Nat.zero_le _⟩ ?_
  refine W.eq (g2 := F0 m 6 ls [.int (bI (decide (0 ≤ ((sh : Nat) : Int) ∧ ((sh : Nat) : Int) < ((4 : Nat) : Int)))), .ref (ad 19)]) rfl ?_
  refine z_if_neB (b := decide (0 ≤ ((sh : Nat) : Int) ∧ ((sh : Nat) : Int) < ((4 : Nat) : Int))) (tgt := 13) hx hb d_M_haul_6 (by decide) (fun q6 => ?_) (fun q6 => ?_)
  · skip
    replace q6 := of_decide_eq_true q6
    refine lv_aload_n hx hb d_M_haul_13 rfl (lv_at hl 0 rfl) ?_
    refine va_get (D := D) (ci := 5) (v := .int (iZ ((jn J : Nat) : Int))) (C := n_M) (T := f_M) (N := 17) hx hb hts in_M hown hK hP 19 rfl rfl 2 (by decide) (hts _ fl_M_63) (fun _ h9 => h9) rfl d_M_haul_14 ?_
    refine lv_bipush (v := iZ ((32 : Nat) : Int)) hx hb d_M_haul_17 (by decide) ?_
    refine z_icmp_ne (a := ((jn J : Nat) : Int)) (b := ((32 : Nat) : Int)) (tgt := 26) hx hb (by omega) d_M_haul_19 (by decide) (fun q19 => ?_) (fun q19 => ?_)
    · skip
      refine lv_iconst (v := iZ ((0 : Nat) : Int)) hx hb d_M_haul_26 (by decide) ?_
      refine va_put (D := D) (ci := 5) (v := .int (iZ ((0 : Nat) : Int))) (ty := .int) (C := n_M) (T := f_M) (N := 17) hx hb hts in_M ty_M tyo_M nm_M hown hK hP hD hS 19 rfl rfl 0 (by decide) (hts _ fl_M_55) (fun _ h9 => h9) rfl (by decide +kernel) rfl rfl (Nat.le_of_ble_eq_true rfl) d_M_haul_27 (fun H locs hP hD hS => ?_)
      have hP : va_P D classes (wdC ad cI cZ cL J0 rd0 pr0 G0 K0 (wdM ad cI cZ cL J rd pr (0, M.2) ov)) H := hP
      have hD : va_D A (wdC ad cI cZ cL J0 rd0 pr0 G0 K0 (wdM ad cI cZ cL J rd pr (0, M.2) ov)) := hD
      refine lv_aload_n hx hb d_M_haul_30 rfl (lv_at hl 0 rfl) ?_
      refine va_get (D := D) (ci := 5) (v := .int (iZ ((0 : Nat) : Int))) (C := n_M) (T := f_M) (N := 17) hx hb hts in_M hown hK hP 19 rfl rfl 0 (by decide) (hts _ fl_M_55) (fun _ h9 => h9) rfl d_M_haul_31 ?_
      refine z_if_le (a := ((0 : Nat) : Int)) (tgt := 39) hx hb (by omega) d_M_haul_34 (by decide) (fun q34 => ?_) (fun q34 => ?_)
      · skip
        refine lv_aload_n hx hb d_M_haul_39 rfl (lv_at hl 0 rfl) ?_
        refine va_get (D := D) (ci := 5) (v := .ref (ad 20)) (C := n_M) (T := f_M) (N := 17) hx hb hts in_M hown hK hP 19 rfl rfl 3 (by decide) (hts _ fl_M_7) (fun _ h9 => h9) rfl d_M_haul_40 ?_
        refine lv_aload_n hx hb d_M_haul_43 rfl (lv_at hl 0 rfl) ?_
        refine va_get (D := D) (ci := 5) (v := .int (iZ ((jn J : Nat) : Int))) (C := n_M) (T := f_M) (N := 17) hx hb hts in_M hown hK hP 19 rfl rfl 2 (by decide) (hts _ fl_M_63) (fun _ h9 => h9) rfl d_M_haul_44 ?_
        refine lv_iload_n hx hb d_M_haul_47 rfl (lv_at hl 1 rfl) ?_
        refine z_iastN (f := msh M) (v := sh) hx hb hK hP hD hS 20 0 rfl rfl (jn J) (by omega) d_M_haul_48 (fun H locs hP hD hS => ?_)
        have hP : va_P D classes (wdC ad cI cZ cL J0 rd0 pr0 G0 K0 (wdM ad cI cZ cL J rd pr (0, (nu (msh M) (jn J) sh), mmy M, mla M, mfi M, mse M, mrw M, mwy M, mnx M) ov)) H := hP
        have hD : va_D A (wdC ad cI cZ cL J0 rd0 pr0 G0 K0 (wdM ad cI cZ cL J rd pr (0, (nu (msh M) (jn J) sh), mmy M, mla M, mfi M, mse M, mrw M, mwy M, mnx M) ov)) := hD
        refine lv_aload_n hx hb d_M_haul_49 rfl (lv_at hl 0 rfl) ?_
        refine va_get (D := D) (ci := 5) (v := .ref (ad 23)) (C := n_M) (T := f_M) (N := 17) hx hb hts in_M hown hK hP 19 rfl rfl 6 (by decide) (hts _ fl_M_20) (fun _ h9 => h9) rfl d_M_haul_50 ?_
        refine lv_iload_n hx hb d_M_haul_53 rfl (lv_at hl 1 rfl) ?_
        refine z_ialdN (f := mmy M) hx hb hK hP 23 0 rfl rfl (sh) (by omega) d_M_haul_54 ?_
        refine lv_iconst (v := iZ ((2 : Nat) : Int)) hx hb d_M_haul_55 (by decide) ?_
        refine z_iremN (u := (mmy M) (sh)) (v := 2) hx hb (by omega) d_M_haul_56 ?_
        refine z_if_ne (a := ((((mmy M) (sh)) % 2 : Nat) : Int)) (tgt := 107) hx hb (by omega) d_M_haul_57 (by decide) (fun q57 => ?_) (fun q57 => ?_)
        · skip
          exfalso; omega
        · skip
          refine lv_aload_n hx hb d_M_haul_60 rfl (lv_at hl 0 rfl) ?_
          refine lv_aload_n hx hb d_M_haul_61 rfl (lv_at hl 0 rfl) ?_
          refine va_get (D := D) (ci := 5) (v := .long (jx J)) (C := n_M) (T := f_M) (N := 17) hx hb hts in_M hown hK hP 19 rfl rfl 1 (by decide) (hts _ fl_M_51) (fun _ h9 => h9) rfl d_M_haul_62 ?_
          refine lv_ldc2 (v := (6364136223846793005 : Int64)) hx hb hown (hts _ ck9_M_66) d_M_haul_65 ?_
          refine lv_lmul hx hb d_M_haul_68 ?_
          refine lv_ldc2 (v := (1442695040888963407 : Int64)) hx hb hown (hts _ ck9_M_68) d_M_haul_69 ?_
          refine lv_ladd hx hb d_M_haul_72 ?_
          refine z_topL (b := sDr (jx J)) (rfl) ?_
          refine va_put (D := D) (ci := 5) (v := .long (sDr (jx J))) (ty := .long) (C := n_M) (T := f_M) (N := 17) hx hb hts in_M ty_M tyo_M nm_M hown hK hP hD hS 19 rfl rfl 1 (by decide) (hts _ fl_M_51) (fun _ h9 => h9) rfl (by decide +kernel) rfl rfl (Nat.le_of_ble_eq_true rfl) d_M_haul_73 (fun H locs hP hD hS => ?_)
          have hP : va_P D classes (wdC ad cI cZ cL J0 rd0 pr0 G0 K0 (wdM ad cI cZ cL ((sDr (jx J)), jn J, jk J, jop J, jou J, jdv J, jct J, jdh J, jph J, jsp J) rd pr (0, (nu (msh M) (jn J) sh), mmy M, mla M, mfi M, mse M, mrw M, mwy M, mnx M) ov)) H := hP
          have hD : va_D A (wdC ad cI cZ cL J0 rd0 pr0 G0 K0 (wdM ad cI cZ cL ((sDr (jx J)), jn J, jk J, jop J, jou J, jdv J, jct J, jdh J, jph J, jsp J) rd pr (0, (nu (msh M) (jn J) sh), mmy M, mla M, mfi M, mse M, mrw M, mwy M, mnx M) ov)) := hD
          refine lv_aload_n hx hb d_M_haul_76 rfl (lv_at hl 0 rfl) ?_
          refine va_get (D := D) (ci := 5) (v := .ref (ad 21)) (C := n_M) (T := f_M) (N := 17) hx hb hts in_M hown hK hP 19 rfl rfl 4 (by decide) (hts _ fl_M_13) (fun _ h9 => h9) rfl d_M_haul_77 ?_
          refine lv_aload_n hx hb d_M_haul_80 rfl (lv_at hl 0 rfl) ?_
          refine va_get (D := D) (ci := 5) (v := .int (iZ ((jn J : Nat) : Int))) (C := n_M) (T := f_M) (N := 17) hx hb hts in_M hown hK hP 19 rfl rfl 2 (by decide) (hts _ fl_M_63) (fun _ h9 => h9) rfl d_M_haul_81 ?_
          refine lv_aload_n hx hb d_M_haul_84 rfl (lv_at hl 0 rfl) ?_
          refine va_get (D := D) (ci := 5) (v := .long ((sDr (jx J)))) (C := n_M) (T := f_M) (N := 17) hx hb hts in_M hown hK hP 19 rfl rfl 1 (by decide) (hts _ fl_M_51) (fun _ h9 => h9) rfl d_M_haul_85 ?_
          refine lv_bipush (v := iZ ((40 : Nat) : Int)) hx hb d_M_haul_88 (by decide) ?_
          refine lv_lshr (v := (sDr (jx J)) >>> ((iZ ((40 : Nat) : Int)).toInt64 &&& 63)) hx hb d_M_haul_90 rfl ?_
          refine lv_lconst (v := lZ ((1 : Nat) : Int)) hx hb d_M_haul_91 (by decide) ?_
          refine lv_land hx hb d_M_haul_92 ?_
          refine lv_lconst (v := lZ ((1 : Nat) : Int)) hx hb d_M_haul_93 (by decide) ?_
          refine z_lcmpR_ne (tgt := 102) (pc1 := 95) (pc4 := 98) hx hb d_M_haul_94 rfl rfl d_M_haul_95 (by decide) (fun q94 => ?_) (fun q94 => ?_)
          · skip
            refine lv_iconst (v := iZ ((0 : Nat) : Int)) hx hb d_M_haul_102 (by decide) ?_
            refine W.eq (g2 := F0 m 103 ls [.int (bI (false)), .int (iZ ((jn J : Nat) : Int)), .ref (ad 21)]) rfl ?_
            refine z_zast (f := jdv J) (v := false) hx hb hK hP hD hS 21 1 rfl rfl (jn J) (by omega) d_M_haul_103 (fun H locs hP hD hS => ?_)
            have hP : va_P D classes (wdC ad cI cZ cL J0 rd0 pr0 G0 K0 (wdM ad cI cZ cL ((sDr (jx J)), jn J, jk J, jop J, jou J, (zub (jdv J) (jn J) false), jct J, jdh J, jph J, jsp J) rd pr (0, (nu (msh M) (jn J) sh), mmy M, mla M, mfi M, mse M, mrw M, mwy M, mnx M) ov)) H := hP
            have hD : va_D A (wdC ad cI cZ cL J0 rd0 pr0 G0 K0 (wdM ad cI cZ cL ((sDr (jx J)), jn J, jk J, jop J, jou J, (zub (jdv J) (jn J) false), jct J, jdh J, jph J, jsp J) rd pr (0, (nu (msh M) (jn J) sh), mmy M, mla M, mfi M, mse M, mrw M, mwy M, mnx M) ov)) := hD
            refine lv_goto (tgt := 173) hx hb d_M_haul_104 (by decide) ?_
            refine lv_aload_n hx hb d_M_haul_173 rfl (lv_at hl 0 rfl) ?_
            refine va_get (D := D) (ci := 5) (v := .ref (ad 24)) (C := n_M) (T := f_M) (N := 17) hx hb hts in_M hown hK hP 19 rfl rfl 7 (by decide) (hts _ fl_M_23) (fun _ h9 => h9) rfl d_M_haul_174 ?_
            refine lv_iload_n hx hb d_M_haul_177 rfl (lv_at hl 1 rfl) ?_
            refine lv_aload_n hx hb d_M_haul_178 rfl (lv_at hl 0 rfl) ?_
            refine va_get (D := D) (ci := 5) (v := .int (iZ ((jn J : Nat) : Int))) (C := n_M) (T := f_M) (N := 17) hx hb hts in_M hown hK hP 19 rfl rfl 2 (by decide) (hts _ fl_M_63) (fun _ h9 => h9) rfl d_M_haul_179 ?_
            refine z_iastN (f := mla M) (v := jn J) hx hb hK hP hD hS 24 0 rfl rfl (sh) (by omega) d_M_haul_182 (fun H locs hP hD hS => ?_)
            have hP : va_P D classes (wdC ad cI cZ cL J0 rd0 pr0 G0 K0 (wdM ad cI cZ cL ((sDr (jx J)), jn J, jk J, jop J, jou J, (zub (jdv J) (jn J) false), jct J, jdh J, jph J, jsp J) rd pr (0, (nu (msh M) (jn J) sh), mmy M, (nu (mla M) (sh) (jn J)), mfi M, mse M, mrw M, mwy M, mnx M) ov)) H := hP
            have hD : va_D A (wdC ad cI cZ cL J0 rd0 pr0 G0 K0 (wdM ad cI cZ cL ((sDr (jx J)), jn J, jk J, jop J, jou J, (zub (jdv J) (jn J) false), jct J, jdh J, jph J, jsp J) rd pr (0, (nu (msh M) (jn J) sh), mmy M, (nu (mla M) (sh) (jn J)), mfi M, mse M, mrw M, mwy M, mnx M) ov)) := hD
            refine lv_aload_n hx hb d_M_haul_183 rfl (lv_at hl 0 rfl) ?_
            refine va_get (D := D) (ci := 5) (v := .ref (ad 23)) (C := n_M) (T := f_M) (N := 17) hx hb hts in_M hown hK hP 19 rfl rfl 6 (by decide) (hts _ fl_M_20) (fun _ h9 => h9) rfl d_M_haul_184 ?_
            refine lv_iload_n hx hb d_M_haul_187 rfl (lv_at hl 1 rfl) ?_
            refine lv_dup2_11 hx hb d_M_haul_188 rfl rfl ?_
            refine z_ialdN (f := mmy M) hx hb hK hP 23 0 rfl rfl (sh) (by omega) d_M_haul_189 ?_
            refine lv_iconst (v := iZ ((1 : Nat) : Int)) hx hb d_M_haul_190 (by decide) ?_
            refine z_iaddN (u := (mmy M) (sh)) (v := 1) hx hb d_M_haul_191 ?_
            refine z_iastN (f := mmy M) (v := ((mmy M) (sh)) + 1) hx hb hK hP hD hS 23 0 rfl rfl (sh) (by omega) d_M_haul_192 (fun H locs hP hD hS => ?_)
            have hP : va_P D classes (wdC ad cI cZ cL J0 rd0 pr0 G0 K0 (wdM ad cI cZ cL ((sDr (jx J)), jn J, jk J, jop J, jou J, (zub (jdv J) (jn J) false), jct J, jdh J, jph J, jsp J) rd pr (0, (nu (msh M) (jn J) sh), (nu (mmy M) (sh) (((mmy M) (sh)) + 1)), (nu (mla M) (sh) (jn J)), mfi M, mse M, mrw M, mwy M, mnx M) ov)) H := hP
            have hD : va_D A (wdC ad cI cZ cL J0 rd0 pr0 G0 K0 (wdM ad cI cZ cL ((sDr (jx J)), jn J, jk J, jop J, jou J, (zub (jdv J) (jn J) false), jct J, jdh J, jph J, jsp J) rd pr (0, (nu (msh M) (jn J) sh), (nu (mmy M) (sh) (((mmy M) (sh)) + 1)), (nu (mla M) (sh) (jn J)), mfi M, mse M, mrw M, mwy M, mnx M) ov)) := hD
            refine lv_aload_n hx hb d_M_haul_193 rfl (lv_at hl 0 rfl) ?_
            refine lv_dup hx hb d_M_haul_194 rfl ?_
            refine va_get (D := D) (ci := 5) (v := .int (iZ ((jn J : Nat) : Int))) (C := n_M) (T := f_M) (N := 17) hx hb hts in_M hown hK hP 19 rfl rfl 2 (by decide) (hts _ fl_M_63) (fun _ h9 => h9) rfl d_M_haul_195 ?_
            refine lv_iconst (v := iZ ((1 : Nat) : Int)) hx hb d_M_haul_198 (by decide) ?_
            refine z_iaddN (u := jn J) (v := 1) hx hb d_M_haul_199 ?_
            refine va_put (D := D) (ci := 5) (v := .int (iZ (((jn J) + 1 : Nat) : Int))) (ty := .int) (C := n_M) (T := f_M) (N := 17) hx hb hts in_M ty_M tyo_M nm_M hown hK hP hD hS 19 rfl rfl 2 (by decide) (hts _ fl_M_63) (fun _ h9 => h9) rfl (by decide +kernel) rfl rfl (Nat.le_of_ble_eq_true rfl) d_M_haul_200 (fun H locs hP hD hS => ?_)
            have hP : va_P D classes (wdC ad cI cZ cL J0 rd0 pr0 G0 K0 (wdM ad cI cZ cL ((sDr (jx J)), ((jn J) + 1), jk J, jop J, jou J, (zub (jdv J) (jn J) false), jct J, jdh J, jph J, jsp J) rd pr (0, (nu (msh M) (jn J) sh), (nu (mmy M) (sh) (((mmy M) (sh)) + 1)), (nu (mla M) (sh) (jn J)), mfi M, mse M, mrw M, mwy M, mnx M) ov)) H := hP
            have hD : va_D A (wdC ad cI cZ cL J0 rd0 pr0 G0 K0 (wdM ad cI cZ cL ((sDr (jx J)), ((jn J) + 1), jk J, jop J, jou J, (zub (jdv J) (jn J) false), jct J, jdh J, jph J, jsp J) rd pr (0, (nu (msh M) (jn J) sh), (nu (mmy M) (sh) (((mmy M) (sh)) + 1)), (nu (mla M) (sh) (jn J)), mfi M, mse M, mrw M, mwy M, mnx M) ov)) := hD
            refine lv_aload_n hx hb d_M_haul_203 rfl (lv_at hl 0 rfl) ?_
            refine va_get (D := D) (ci := 5) (v := .int (iZ ((((jn J) + 1) : Nat) : Int))) (C := n_M) (T := f_M) (N := 17) hx hb hts in_M hown hK hP 19 rfl rfl 2 (by decide) (hts _ fl_M_63) (fun _ h9 => h9) rfl d_M_haul_204 ?_
            refine lv_iconst (v := iZ ((1 : Nat) : Int)) hx hb d_M_haul_207 (by decide) ?_
            refine z_isub (a := ((((jn J) + 1) : Nat) : Int)) (b := ((1 : Nat) : Int)) hx hb d_M_haul_208 ?_
            exact z_iret Z hP hS d_M_haul_209 wdM_map (by first | exact ⟨_, congrArg iZ (by omega), by unfold sH1; rw [show sBt (sDr (jx J)) = true from (sBt_r _).mp q94], rfl, MJ_h1 hM hsh he⟩ | exact ⟨_, congrArg iZ (by omega), by unfold sH1; rw [show sBt (sDr (jx J)) = false from Bool.eq_false_iff.mpr (fun z => q94 ((sBt_r _).mpr z))], rfl, MJ_h1 hM hsh he⟩)
          · skip
            refine lv_iconst (v := iZ ((1 : Nat) : Int)) hx hb d_M_haul_98 (by decide) ?_
            refine lv_goto (tgt := 103) hx hb d_M_haul_99 (by decide) ?_
            refine W.eq (g2 := F0 m 103 ls [.int (bI (true)), .int (iZ ((jn J : Nat) : Int)), .ref (ad 21)]) rfl ?_
            refine z_zast (f := jdv J) (v := true) hx hb hK hP hD hS 21 1 rfl rfl (jn J) (by omega) d_M_haul_103 (fun H locs hP hD hS => ?_)
            have hP : va_P D classes (wdC ad cI cZ cL J0 rd0 pr0 G0 K0 (wdM ad cI cZ cL ((sDr (jx J)), jn J, jk J, jop J, jou J, (zub (jdv J) (jn J) true), jct J, jdh J, jph J, jsp J) rd pr (0, (nu (msh M) (jn J) sh), mmy M, mla M, mfi M, mse M, mrw M, mwy M, mnx M) ov)) H := hP
            have hD : va_D A (wdC ad cI cZ cL J0 rd0 pr0 G0 K0 (wdM ad cI cZ cL ((sDr (jx J)), jn J, jk J, jop J, jou J, (zub (jdv J) (jn J) true), jct J, jdh J, jph J, jsp J) rd pr (0, (nu (msh M) (jn J) sh), mmy M, mla M, mfi M, mse M, mrw M, mwy M, mnx M) ov)) := hD
            refine lv_goto (tgt := 173) hx hb d_M_haul_104 (by decide) ?_
            refine lv_aload_n hx hb d_M_haul_173 rfl (lv_at hl 0 rfl) ?_
            refine va_get (D := D) (ci := 5) (v := .ref (ad 24)) (C := n_M) (T := f_M) (N := 17) hx hb hts in_M hown hK hP 19 rfl rfl 7 (by decide) (hts _ fl_M_23) (fun _ h9 => h9) rfl d_M_haul_174 ?_
            refine lv_iload_n hx hb d_M_haul_177 rfl (lv_at hl 1 rfl) ?_
            refine lv_aload_n hx hb d_M_haul_178 rfl (lv_at hl 0 rfl) ?_
            refine va_get (D := D) (ci := 5) (v := .int (iZ ((jn J : Nat) : Int))) (C := n_M) (T := f_M) (N := 17) hx hb hts in_M hown hK hP 19 rfl rfl 2 (by decide) (hts _ fl_M_63) (fun _ h9 => h9) rfl d_M_haul_179 ?_
            refine z_iastN (f := mla M) (v := jn J) hx hb hK hP hD hS 24 0 rfl rfl (sh) (by omega) d_M_haul_182 (fun H locs hP hD hS => ?_)
            have hP : va_P D classes (wdC ad cI cZ cL J0 rd0 pr0 G0 K0 (wdM ad cI cZ cL ((sDr (jx J)), jn J, jk J, jop J, jou J, (zub (jdv J) (jn J) true), jct J, jdh J, jph J, jsp J) rd pr (0, (nu (msh M) (jn J) sh), mmy M, (nu (mla M) (sh) (jn J)), mfi M, mse M, mrw M, mwy M, mnx M) ov)) H := hP
            have hD : va_D A (wdC ad cI cZ cL J0 rd0 pr0 G0 K0 (wdM ad cI cZ cL ((sDr (jx J)), jn J, jk J, jop J, jou J, (zub (jdv J) (jn J) true), jct J, jdh J, jph J, jsp J) rd pr (0, (nu (msh M) (jn J) sh), mmy M, (nu (mla M) (sh) (jn J)), mfi M, mse M, mrw M, mwy M, mnx M) ov)) := hD
            refine lv_aload_n hx hb d_M_haul_183 rfl (lv_at hl 0 rfl) ?_
            refine va_get (D := D) (ci := 5) (v := .ref (ad 23)) (C := n_M) (T := f_M) (N := 17) hx hb hts in_M hown hK hP 19 rfl rfl 6 (by decide) (hts _ fl_M_20) (fun _ h9 => h9) rfl d_M_haul_184 ?_
            refine lv_iload_n hx hb d_M_haul_187 rfl (lv_at hl 1 rfl) ?_
            refine lv_dup2_11 hx hb d_M_haul_188 rfl rfl ?_
            refine z_ialdN (f := mmy M) hx hb hK hP 23 0 rfl rfl (sh) (by omega) d_M_haul_189 ?_
            refine lv_iconst (v := iZ ((1 : Nat) : Int)) hx hb d_M_haul_190 (by decide) ?_
            refine z_iaddN (u := (mmy M) (sh)) (v := 1) hx hb d_M_haul_191 ?_
            refine z_iastN (f := mmy M) (v := ((mmy M) (sh)) + 1) hx hb hK hP hD hS 23 0 rfl rfl (sh) (by omega) d_M_haul_192 (fun H locs hP hD hS => ?_)
            have hP : va_P D classes (wdC ad cI cZ cL J0 rd0 pr0 G0 K0 (wdM ad cI cZ cL ((sDr (jx J)), jn J, jk J, jop J, jou J, (zub (jdv J) (jn J) true), jct J, jdh J, jph J, jsp J) rd pr (0, (nu (msh M) (jn J) sh), (nu (mmy M) (sh) (((mmy M) (sh)) + 1)), (nu (mla M) (sh) (jn J)), mfi M, mse M, mrw M, mwy M, mnx M) ov)) H := hP
            have hD : va_D A (wdC ad cI cZ cL J0 rd0 pr0 G0 K0 (wdM ad cI cZ cL ((sDr (jx J)), jn J, jk J, jop J, jou J, (zub (jdv J) (jn J) true), jct J, jdh J, jph J, jsp J) rd pr (0, (nu (msh M) (jn J) sh), (nu (mmy M) (sh) (((mmy M) (sh)) + 1)), (nu (mla M) (sh) (jn J)), mfi M, mse M, mrw M, mwy M, mnx M) ov)) := hD
            refine lv_aload_n hx hb d_M_haul_193 rfl (lv_at hl 0 rfl) ?_
            refine lv_dup hx hb d_M_haul_194 rfl ?_
            refine va_get (D := D) (ci := 5) (v := .int (iZ ((jn J : Nat) : Int))) (C := n_M) (T := f_M) (N := 17) hx hb hts in_M hown hK hP 19 rfl rfl 2 (by decide) (hts _ fl_M_63) (fun _ h9 => h9) rfl d_M_haul_195 ?_
            refine lv_iconst (v := iZ ((1 : Nat) : Int)) hx hb d_M_haul_198 (by decide) ?_
            refine z_iaddN (u := jn J) (v := 1) hx hb d_M_haul_199 ?_
            refine va_put (D := D) (ci := 5) (v := .int (iZ (((jn J) + 1 : Nat) : Int))) (ty := .int) (C := n_M) (T := f_M) (N := 17) hx hb hts in_M ty_M tyo_M nm_M hown hK hP hD hS 19 rfl rfl 2 (by decide) (hts _ fl_M_63) (fun _ h9 => h9) rfl (by decide +kernel) rfl rfl (Nat.le_of_ble_eq_true rfl) d_M_haul_200 (fun H locs hP hD hS => ?_)
            have hP : va_P D classes (wdC ad cI cZ cL J0 rd0 pr0 G0 K0 (wdM ad cI cZ cL ((sDr (jx J)), ((jn J) + 1), jk J, jop J, jou J, (zub (jdv J) (jn J) true), jct J, jdh J, jph J, jsp J) rd pr (0, (nu (msh M) (jn J) sh), (nu (mmy M) (sh) (((mmy M) (sh)) + 1)), (nu (mla M) (sh) (jn J)), mfi M, mse M, mrw M, mwy M, mnx M) ov)) H := hP
            have hD : va_D A (wdC ad cI cZ cL J0 rd0 pr0 G0 K0 (wdM ad cI cZ cL ((sDr (jx J)), ((jn J) + 1), jk J, jop J, jou J, (zub (jdv J) (jn J) true), jct J, jdh J, jph J, jsp J) rd pr (0, (nu (msh M) (jn J) sh), (nu (mmy M) (sh) (((mmy M) (sh)) + 1)), (nu (mla M) (sh) (jn J)), mfi M, mse M, mrw M, mwy M, mnx M) ov)) := hD
            refine lv_aload_n hx hb d_M_haul_203 rfl (lv_at hl 0 rfl) ?_
            refine va_get (D := D) (ci := 5) (v := .int (iZ ((((jn J) + 1) : Nat) : Int))) (C := n_M) (T := f_M) (N := 17) hx hb hts in_M hown hK hP 19 rfl rfl 2 (by decide) (hts _ fl_M_63) (fun _ h9 => h9) rfl d_M_haul_204 ?_
            refine lv_iconst (v := iZ ((1 : Nat) : Int)) hx hb d_M_haul_207 (by decide) ?_
            refine z_isub (a := ((((jn J) + 1) : Nat) : Int)) (b := ((1 : Nat) : Int)) hx hb d_M_haul_208 ?_
            exact z_iret Z hP hS d_M_haul_209 wdM_map (by first | exact ⟨_, congrArg iZ (by omega), by unfold sH1; rw [show sBt (sDr (jx J)) = true from (sBt_r _).mp q94], rfl, MJ_h1 hM hsh he⟩ | exact ⟨_, congrArg iZ (by omega), by unfold sH1; rw [show sBt (sDr (jx J)) = false from Bool.eq_false_iff.mpr (fun z => q94 ((sBt_r _).mpr z))], rfl, MJ_h1 hM hsh he⟩)
      · skip
        exfalso; omega
    · skip
      exfalso; omega
  · skip
    replace q6 := of_decide_eq_false q6
    exfalso; omega

set_option maxHeartbeats 4000000 in
set_option maxRecDepth 100000 in
theorem k_M_haul2 {l : Launch} {D : va_G} {ad : Nat → Nat} {cI cZ cL : ClassId} {J J0 : SJ} {rd rd0 : Nat → Int} {pr pr0 : Nat → Nat} {G0 : SH} {K0 : SK} {M : SM} {ov : Nat → Int64} (hI : JI J) (hM : MJ J M) {sh : Nat} (hsh : sh < 4) (hn : jn J < 32) (ho : mmy M sh % 2 = 1) : zMi l TB D classes (tysW cI cZ cL) y_M_haul w_M_haul 1 21 [.ref (ad 19), .int (iZ ((sh : Nat) : Int))] (wdC ad cI cZ cL J0 rd0 pr0 G0 K0 (wdM ad cI cZ cL J rd pr M ov)) (fun r w => ∃ M1 : SM, r = iZ ((jn J : Nat) : Int) ∧ w = wdC ad cI cZ cL J0 rd0 pr0 G0 K0 (wdM ad cI cZ cL (sH2 J sh (mla M sh)) rd pr M1 ov) ∧ M1.1 = 0 ∧ MJ (sH2 J sh (mla M sh)) M1) := by
  refine z_of (Qc := fun A => va_Qi (fun r w => ∃ M1 : SM, r = iZ ((jn J : Nat) : Int) ∧ w = wdC ad cI cZ cL J0 rd0 pr0 G0 K0 (wdM ad cI cZ cL (sH2 J sh (mla M sh)) rd pr M1 ov) ∧ M1.1 = 0 ∧ MJ (sH2 J sh (mla M sh)) M1) (zB9 D classes (wdC ad cI cZ cL J0 rd0 pr0 G0 K0 (wdM ad cI cZ cL J rd pr M ov))) A) (by decide) (Nat.le_of_ble_eq_true rfl) ?_
  intro p e s m below meth c A ls Z hP hK hD hS hA hl
  obtain ⟨hx, hb, hr, hml, hown, hts, hE, hlocks⟩ := id Z
  have hl : lv_has ls 2 [(0, .ref (ad 19)), (1, .int (iZ ((sh : Nat) : Int)))] := hl
  obtain ⟨hn32, hk2, hpr, hct⟩ := id hI
  have hMO := hM.2.1 sh hsh
  have hMy := hMO.2.2
  have hk16 := MJ_o hM hsh ho
  obtain ⟨ho1, ho2, ho3⟩ := hMO.2.1 ho
  suffices K9 : ∀ (H : Heap) (locs : List Loc) (ls : Array Slot), va_P D classes (wdC ad cI cZ cL J0 rd0 pr0 G0 K0 (wdM ad cI cZ cL J rd pr M ov)) H → va_D A (wdC ad cI cZ cL J0 rd0 pr0 G0 K0 (wdM ad cI cZ cL J rd pr M ov)) → va_S A s.heap H locs → lv_has ls 2 [(0, .ref (ad 19)), (1, .int (iZ ((sh : Nat) : Int)))] → W p l e (zRm 1 21) s m ([.ref (ad 19), .int (iZ ((sh : Nat) : Int))] : List Value).toArray below meth c H locs 0 0 (MQ below (va_Qi (fun r w => ∃ M1 : SM, r = iZ ((jn J : Nat) : Int) ∧ w = wdC ad cI cZ cL J0 rd0 pr0 G0 K0 (wdM ad cI cZ cL (sH2 J sh (mla M sh)) rd pr M1 ov) ∧ M1.1 = 0 ∧ MJ (sH2 J sh (mla M sh)) M1) (zB9 D classes (wdC ad cI cZ cL J0 rd0 pr0 G0 K0 (wdM ad cI cZ cL J rd pr M ov))) A) ([.ref (ad 19), .int (iZ ((sh : Nat) : Int))] : List Value).toArray s 0 0 A) (F0 m 0 ls []) from K9 s.heap [] ls hP hD hS hl
  clear hP hD hS hl
  intro H locs ls hP hD hS hl
  refine lv_aload_n hx hb d_M_haul_0 rfl (lv_at hl 0 rfl) ?_
  refine lv_iload_n hx hb d_M_haul_1 rfl (lv_at hl 1 rfl) ?_
  refine lv_iconst (v := iZ ((4 : Nat) : Int)) hx hb d_M_haul_2 (by decide) ?_
  refine z_callSR (As := [.int (iZ ((sh : Nat) : Int)), .int (iZ ((4 : Nat) : Int))]) (rest := [.ref (ad 19)]) zTB Z (k_M_isIn (a := ((sh : Nat) : Int)) (b := ((4 : Nat) : Int)) (by omega)) ⟨ml_M_59, sm_M_isIn, ini_M, co_M_isIn⟩ zd_M_isIn ⟨Nat.le_of_ble_eq_true rfl, Nat.le_of_ble_eq_true rfl⟩ hP hK hl.1 rfl (Nat.le_of_ble_eq_true rfl) d_M_haul_3 ⟨Nat.zero_le _, Nat.zero_le _⟩ ?_
  refine W.eq (g2 := F0 m 6 ls [.int (bI (decide (0 ≤ ((sh : Nat) : Int) ∧ ((sh : Nat) : Int) < ((4 : Nat) : Int)))), .ref (ad 19)]) rfl ?_
  refine z_if_neB (b := decide (0 ≤ ((sh : Nat) : Int) ∧ ((sh : Nat) : Int) < ((4 : Nat) : Int))) (tgt := 13) hx hb d_M_haul_6 (by decide) (fun q6 => ?_) (fun q6 => ?_)
  · skip
    replace q6 := of_decide_eq_true q6
    refine lv_aload_n hx hb d_M_haul_13 rfl (lv_at hl 0 rfl) ?_
    refine va_get (D := D) (ci := 5) (v := .int (iZ ((jn J : Nat) : Int))) (C := n_M) (T := f_M) (N := 17) hx hb hts in_M hown hK hP 19 rfl rfl 2 (by decide) (hts _ fl_M_63) (fun _ h9 => h9) rfl d_M_haul_14 ?_
    refine lv_bipush (v := iZ ((32 : Nat) : Int)) hx hb d_M_haul_17 (by decide) ?_
    refine z_icmp_ne (a := ((jn J : Nat) : Int)) (b := ((32 : Nat) : Int)) (tgt := 26) hx hb (by omega) d_M_haul_19 (by decide) (fun q19 => ?_) (fun q19 => ?_)
    · skip
      refine lv_iconst (v := iZ ((0 : Nat) : Int)) hx hb d_M_haul_26 (by decide) ?_
      refine va_put (D := D) (ci := 5) (v := .int (iZ ((0 : Nat) : Int))) (ty := .int) (C := n_M) (T := f_M) (N := 17) hx hb hts in_M ty_M tyo_M nm_M hown hK hP hD hS 19 rfl rfl 0 (by decide) (hts _ fl_M_55) (fun _ h9 => h9) rfl (by decide +kernel) rfl rfl (Nat.le_of_ble_eq_true rfl) d_M_haul_27 (fun H locs hP hD hS => ?_)
      have hP : va_P D classes (wdC ad cI cZ cL J0 rd0 pr0 G0 K0 (wdM ad cI cZ cL J rd pr (0, M.2) ov)) H := hP
      have hD : va_D A (wdC ad cI cZ cL J0 rd0 pr0 G0 K0 (wdM ad cI cZ cL J rd pr (0, M.2) ov)) := hD
      refine lv_aload_n hx hb d_M_haul_30 rfl (lv_at hl 0 rfl) ?_
      refine va_get (D := D) (ci := 5) (v := .int (iZ ((0 : Nat) : Int))) (C := n_M) (T := f_M) (N := 17) hx hb hts in_M hown hK hP 19 rfl rfl 0 (by decide) (hts _ fl_M_55) (fun _ h9 => h9) rfl d_M_haul_31 ?_
      refine z_if_le (a := ((0 : Nat) : Int)) (tgt := 39) hx hb (by omega) d_M_haul_34 (by decide) (fun q34 => ?_) (fun q34 => ?_)
      · skip
        refine lv_aload_n hx hb d_M_haul_39 rfl (lv_at hl 0 rfl) ?_
        refine va_get (D := D) (ci := 5) (v := .ref (ad 20)) (C := n_M) (T := f_M) (N := 17) hx hb hts in_M hown hK hP 19 rfl rfl 3 (by decide) (hts _ fl_M_7) (fun _ h9 => h9) rfl d_M_haul_40 ?_
        refine lv_aload_n hx hb d_M_haul_43 rfl (lv_at hl 0 rfl) ?_
        refine va_get (D := D) (ci := 5) (v := .int (iZ ((jn J : Nat) : Int))) (C := n_M) (T := f_M) (N := 17) hx hb hts in_M hown hK hP 19 rfl rfl 2 (by decide) (hts _ fl_M_63) (fun _ h9 => h9) rfl d_M_haul_44 ?_
        refine lv_iload_n hx hb d_M_haul_47 rfl (lv_at hl 1 rfl) ?_
        refine z_iastN (f := msh M) (v := sh) hx hb hK hP hD hS 20 0 rfl rfl (jn J) (by omega) d_M_haul_48 (fun H locs hP hD hS => ?_)
        have hP : va_P D classes (wdC ad cI cZ cL J0 rd0 pr0 G0 K0 (wdM ad cI cZ cL J rd pr (0, (nu (msh M) (jn J) sh), mmy M, mla M, mfi M, mse M, mrw M, mwy M, mnx M) ov)) H := hP
        have hD : va_D A (wdC ad cI cZ cL J0 rd0 pr0 G0 K0 (wdM ad cI cZ cL J rd pr (0, (nu (msh M) (jn J) sh), mmy M, mla M, mfi M, mse M, mrw M, mwy M, mnx M) ov)) := hD
        refine lv_aload_n hx hb d_M_haul_49 rfl (lv_at hl 0 rfl) ?_
        refine va_get (D := D) (ci := 5) (v := .ref (ad 23)) (C := n_M) (T := f_M) (N := 17) hx hb hts in_M hown hK hP 19 rfl rfl 6 (by decide) (hts _ fl_M_20) (fun _ h9 => h9) rfl d_M_haul_50 ?_
        refine lv_iload_n hx hb d_M_haul_53 rfl (lv_at hl 1 rfl) ?_
        refine z_ialdN (f := mmy M) hx hb hK hP 23 0 rfl rfl (sh) (by omega) d_M_haul_54 ?_
        refine lv_iconst (v := iZ ((2 : Nat) : Int)) hx hb d_M_haul_55 (by decide) ?_
        refine z_iremN (u := (mmy M) (sh)) (v := 2) hx hb (by omega) d_M_haul_56 ?_
        refine z_if_ne (a := ((((mmy M) (sh)) % 2 : Nat) : Int)) (tgt := 107) hx hb (by omega) d_M_haul_57 (by decide) (fun q57 => ?_) (fun q57 => ?_)
        · skip
          refine lv_aload_n hx hb d_M_haul_107 rfl (lv_at hl 0 rfl) ?_
          refine va_get (D := D) (ci := 5) (v := .ref (ad 21)) (C := n_M) (T := f_M) (N := 17) hx hb hts in_M hown hK hP 19 rfl rfl 4 (by decide) (hts _ fl_M_13) (fun _ h9 => h9) rfl d_M_haul_108 ?_
          refine lv_aload_n hx hb d_M_haul_111 rfl (lv_at hl 0 rfl) ?_
          refine va_get (D := D) (ci := 5) (v := .int (iZ ((jn J : Nat) : Int))) (C := n_M) (T := f_M) (N := 17) hx hb hts in_M hown hK hP 19 rfl rfl 2 (by decide) (hts _ fl_M_63) (fun _ h9 => h9) rfl d_M_haul_112 ?_
          refine lv_aload_n hx hb d_M_haul_115 rfl (lv_at hl 0 rfl) ?_
          refine va_get (D := D) (ci := 5) (v := .ref (ad 21)) (C := n_M) (T := f_M) (N := 17) hx hb hts in_M hown hK hP 19 rfl rfl 4 (by decide) (hts _ fl_M_13) (fun _ h9 => h9) rfl d_M_haul_116 ?_
          refine lv_aload_n hx hb d_M_haul_119 rfl (lv_at hl 0 rfl) ?_
          refine va_get (D := D) (ci := 5) (v := .ref (ad 24)) (C := n_M) (T := f_M) (N := 17) hx hb hts in_M hown hK hP 19 rfl rfl 7 (by decide) (hts _ fl_M_23) (fun _ h9 => h9) rfl d_M_haul_120 ?_
          refine lv_iload_n hx hb d_M_haul_123 rfl (lv_at hl 1 rfl) ?_
          refine z_ialdN (f := mla M) hx hb hK hP 24 0 rfl rfl (sh) (by omega) d_M_haul_124 ?_
          refine z_zald (f := jdv J) hx hb hK hP 21 1 rfl rfl ((mla M) (sh)) (by omega) d_M_haul_125 ?_
          refine z_if_neB (b := (jdv J) ((mla M) (sh))) (tgt := 133) hx hb d_M_haul_126 (by decide) (fun q126 => ?_) (fun q126 => ?_)
          · skip
            refine lv_iconst (v := iZ ((0 : Nat) : Int)) hx hb d_M_haul_133 (by decide) ?_
            refine W.eq (g2 := F0 m 134 ls [.int (bI (false)), .int (iZ ((jn J : Nat) : Int)), .ref (ad 21)]) rfl ?_
            refine z_zast (f := jdv J) (v := false) hx hb hK hP hD hS 21 1 rfl rfl (jn J) (by omega) d_M_haul_134 (fun H locs hP hD hS => ?_)
            have hP : va_P D classes (wdC ad cI cZ cL J0 rd0 pr0 G0 K0 (wdM ad cI cZ cL (jx J, jn J, jk J, jop J, jou J, (zub (jdv J) (jn J) false), jct J, jdh J, jph J, jsp J) rd pr (0, (nu (msh M) (jn J) sh), mmy M, mla M, mfi M, mse M, mrw M, mwy M, mnx M) ov)) H := hP
            have hD : va_D A (wdC ad cI cZ cL J0 rd0 pr0 G0 K0 (wdM ad cI cZ cL (jx J, jn J, jk J, jop J, jou J, (zub (jdv J) (jn J) false), jct J, jdh J, jph J, jsp J) rd pr (0, (nu (msh M) (jn J) sh), mmy M, mla M, mfi M, mse M, mrw M, mwy M, mnx M) ov)) := hD
            refine lv_aload_n hx hb d_M_haul_135 rfl (lv_at hl 0 rfl) ?_
            refine va_get (D := D) (ci := 5) (v := .ref (ad 25)) (C := n_M) (T := f_M) (N := 17) hx hb hts in_M hown hK hP 19 rfl rfl 9 (by decide) (hts _ fl_M_26) (fun _ h9 => h9) rfl d_M_haul_136 ?_
            refine lv_aload_n hx hb d_M_haul_139 rfl (lv_at hl 0 rfl) ?_
            refine va_get (D := D) (ci := 5) (v := .int (iZ ((jk J : Nat) : Int))) (C := n_M) (T := f_M) (N := 17) hx hb hts in_M hown hK hP 19 rfl rfl 8 (by decide) (hts _ fl_M_70) (fun _ h9 => h9) rfl d_M_haul_140 ?_
            refine lv_aload_n hx hb d_M_haul_143 rfl (lv_at hl 0 rfl) ?_
            refine va_get (D := D) (ci := 5) (v := .ref (ad 24)) (C := n_M) (T := f_M) (N := 17) hx hb hts in_M hown hK hP 19 rfl rfl 7 (by decide) (hts _ fl_M_23) (fun _ h9 => h9) rfl d_M_haul_144 ?_
            refine lv_iload_n hx hb d_M_haul_147 rfl (lv_at hl 1 rfl) ?_
            refine z_ialdN (f := mla M) hx hb hK hP 24 0 rfl rfl (sh) (by omega) d_M_haul_148 ?_
            refine z_iastN (f := mfi M) (v := (mla M) (sh)) hx hb hK hP hD hS 25 0 rfl rfl (jk J) (by omega) d_M_haul_149 (fun H locs hP hD hS => ?_)
            have hP : va_P D classes (wdC ad cI cZ cL J0 rd0 pr0 G0 K0 (wdM ad cI cZ cL (jx J, jn J, jk J, jop J, jou J, (zub (jdv J) (jn J) false), jct J, jdh J, jph J, jsp J) rd pr (0, (nu (msh M) (jn J) sh), mmy M, mla M, (nu (mfi M) (jk J) ((mla M) (sh))), mse M, mrw M, mwy M, mnx M) ov)) H := hP
            have hD : va_D A (wdC ad cI cZ cL J0 rd0 pr0 G0 K0 (wdM ad cI cZ cL (jx J, jn J, jk J, jop J, jou J, (zub (jdv J) (jn J) false), jct J, jdh J, jph J, jsp J) rd pr (0, (nu (msh M) (jn J) sh), mmy M, mla M, (nu (mfi M) (jk J) ((mla M) (sh))), mse M, mrw M, mwy M, mnx M) ov)) := hD
            refine lv_aload_n hx hb d_M_haul_150 rfl (lv_at hl 0 rfl) ?_
            refine va_get (D := D) (ci := 5) (v := .ref (ad 26)) (C := n_M) (T := f_M) (N := 17) hx hb hts in_M hown hK hP 19 rfl rfl 10 (by decide) (hts _ fl_M_29) (fun _ h9 => h9) rfl d_M_haul_151 ?_
            refine lv_aload_n hx hb d_M_haul_154 rfl (lv_at hl 0 rfl) ?_
            refine va_get (D := D) (ci := 5) (v := .int (iZ ((jk J : Nat) : Int))) (C := n_M) (T := f_M) (N := 17) hx hb hts in_M hown hK hP 19 rfl rfl 8 (by decide) (hts _ fl_M_70) (fun _ h9 => h9) rfl d_M_haul_155 ?_
            refine lv_aload_n hx hb d_M_haul_158 rfl (lv_at hl 0 rfl) ?_
            refine va_get (D := D) (ci := 5) (v := .int (iZ ((jn J : Nat) : Int))) (C := n_M) (T := f_M) (N := 17) hx hb hts in_M hown hK hP 19 rfl rfl 2 (by decide) (hts _ fl_M_63) (fun _ h9 => h9) rfl d_M_haul_159 ?_
            refine z_iastN (f := mse M) (v := jn J) hx hb hK hP hD hS 26 0 rfl rfl (jk J) (by omega) d_M_haul_162 (fun H locs hP hD hS => ?_)
            have hP : va_P D classes (wdC ad cI cZ cL J0 rd0 pr0 G0 K0 (wdM ad cI cZ cL (jx J, jn J, jk J, jop J, jou J, (zub (jdv J) (jn J) false), jct J, jdh J, jph J, jsp J) rd pr (0, (nu (msh M) (jn J) sh), mmy M, mla M, (nu (mfi M) (jk J) ((mla M) (sh))), (nu (mse M) (jk J) (jn J)), mrw M, mwy M, mnx M) ov)) H := hP
            have hD : va_D A (wdC ad cI cZ cL J0 rd0 pr0 G0 K0 (wdM ad cI cZ cL (jx J, jn J, jk J, jop J, jou J, (zub (jdv J) (jn J) false), jct J, jdh J, jph J, jsp J) rd pr (0, (nu (msh M) (jn J) sh), mmy M, mla M, (nu (mfi M) (jk J) ((mla M) (sh))), (nu (mse M) (jk J) (jn J)), mrw M, mwy M, mnx M) ov)) := hD
            refine lv_aload_n hx hb d_M_haul_163 rfl (lv_at hl 0 rfl) ?_
            refine lv_dup hx hb d_M_haul_164 rfl ?_
            refine va_get (D := D) (ci := 5) (v := .int (iZ ((jk J : Nat) : Int))) (C := n_M) (T := f_M) (N := 17) hx hb hts in_M hown hK hP 19 rfl rfl 8 (by decide) (hts _ fl_M_70) (fun _ h9 => h9) rfl d_M_haul_165 ?_
            refine lv_iconst (v := iZ ((1 : Nat) : Int)) hx hb d_M_haul_168 (by decide) ?_
            refine z_iaddN (u := jk J) (v := 1) hx hb d_M_haul_169 ?_
            refine va_put (D := D) (ci := 5) (v := .int (iZ (((jk J) + 1 : Nat) : Int))) (ty := .int) (C := n_M) (T := f_M) (N := 17) hx hb hts in_M ty_M tyo_M nm_M hown hK hP hD hS 19 rfl rfl 8 (by decide) (hts _ fl_M_70) (fun _ h9 => h9) rfl (by decide +kernel) rfl rfl (Nat.le_of_ble_eq_true rfl) d_M_haul_170 (fun H locs hP hD hS => ?_)
            have hP : va_P D classes (wdC ad cI cZ cL J0 rd0 pr0 G0 K0 (wdM ad cI cZ cL (jx J, jn J, ((jk J) + 1), jop J, jou J, (zub (jdv J) (jn J) false), jct J, jdh J, jph J, jsp J) rd pr (0, (nu (msh M) (jn J) sh), mmy M, mla M, (nu (mfi M) (jk J) ((mla M) (sh))), (nu (mse M) (jk J) (jn J)), mrw M, mwy M, mnx M) ov)) H := hP
            have hD : va_D A (wdC ad cI cZ cL J0 rd0 pr0 G0 K0 (wdM ad cI cZ cL (jx J, jn J, ((jk J) + 1), jop J, jou J, (zub (jdv J) (jn J) false), jct J, jdh J, jph J, jsp J) rd pr (0, (nu (msh M) (jn J) sh), mmy M, mla M, (nu (mfi M) (jk J) ((mla M) (sh))), (nu (mse M) (jk J) (jn J)), mrw M, mwy M, mnx M) ov)) := hD
            refine lv_aload_n hx hb d_M_haul_173 rfl (lv_at hl 0 rfl) ?_
            refine va_get (D := D) (ci := 5) (v := .ref (ad 24)) (C := n_M) (T := f_M) (N := 17) hx hb hts in_M hown hK hP 19 rfl rfl 7 (by decide) (hts _ fl_M_23) (fun _ h9 => h9) rfl d_M_haul_174 ?_
            refine lv_iload_n hx hb d_M_haul_177 rfl (lv_at hl 1 rfl) ?_
            refine lv_aload_n hx hb d_M_haul_178 rfl (lv_at hl 0 rfl) ?_
            refine va_get (D := D) (ci := 5) (v := .int (iZ ((jn J : Nat) : Int))) (C := n_M) (T := f_M) (N := 17) hx hb hts in_M hown hK hP 19 rfl rfl 2 (by decide) (hts _ fl_M_63) (fun _ h9 => h9) rfl d_M_haul_179 ?_
            refine z_iastN (f := mla M) (v := jn J) hx hb hK hP hD hS 24 0 rfl rfl (sh) (by omega) d_M_haul_182 (fun H locs hP hD hS => ?_)
            have hP : va_P D classes (wdC ad cI cZ cL J0 rd0 pr0 G0 K0 (wdM ad cI cZ cL (jx J, jn J, ((jk J) + 1), jop J, jou J, (zub (jdv J) (jn J) false), jct J, jdh J, jph J, jsp J) rd pr (0, (nu (msh M) (jn J) sh), mmy M, (nu (mla M) (sh) (jn J)), (nu (mfi M) (jk J) ((mla M) (sh))), (nu (mse M) (jk J) (jn J)), mrw M, mwy M, mnx M) ov)) H := hP
            have hD : va_D A (wdC ad cI cZ cL J0 rd0 pr0 G0 K0 (wdM ad cI cZ cL (jx J, jn J, ((jk J) + 1), jop J, jou J, (zub (jdv J) (jn J) false), jct J, jdh J, jph J, jsp J) rd pr (0, (nu (msh M) (jn J) sh), mmy M, (nu (mla M) (sh) (jn J)), (nu (mfi M) (jk J) ((mla M) (sh))), (nu (mse M) (jk J) (jn J)), mrw M, mwy M, mnx M) ov)) := hD
            refine lv_aload_n hx hb d_M_haul_183 rfl (lv_at hl 0 rfl) ?_
            refine va_get (D := D) (ci := 5) (v := .ref (ad 23)) (C := n_M) (T := f_M) (N := 17) hx hb hts in_M hown hK hP 19 rfl rfl 6 (by decide) (hts _ fl_M_20) (fun _ h9 => h9) rfl d_M_haul_184 ?_
            refine lv_iload_n hx hb d_M_haul_187 rfl (lv_at hl 1 rfl) ?_
            refine lv_dup2_11 hx hb d_M_haul_188 rfl rfl ?_
            refine z_ialdN (f := mmy M) hx hb hK hP 23 0 rfl rfl (sh) (by omega) d_M_haul_189 ?_
            refine lv_iconst (v := iZ ((1 : Nat) : Int)) hx hb d_M_haul_190 (by decide) ?_
            refine z_iaddN (u := (mmy M) (sh)) (v := 1) hx hb d_M_haul_191 ?_
            refine z_iastN (f := mmy M) (v := ((mmy M) (sh)) + 1) hx hb hK hP hD hS 23 0 rfl rfl (sh) (by omega) d_M_haul_192 (fun H locs hP hD hS => ?_)
            have hP : va_P D classes (wdC ad cI cZ cL J0 rd0 pr0 G0 K0 (wdM ad cI cZ cL (jx J, jn J, ((jk J) + 1), jop J, jou J, (zub (jdv J) (jn J) false), jct J, jdh J, jph J, jsp J) rd pr (0, (nu (msh M) (jn J) sh), (nu (mmy M) (sh) (((mmy M) (sh)) + 1)), (nu (mla M) (sh) (jn J)), (nu (mfi M) (jk J) ((mla M) (sh))), (nu (mse M) (jk J) (jn J)), mrw M, mwy M, mnx M) ov)) H := hP
            have hD : va_D A (wdC ad cI cZ cL J0 rd0 pr0 G0 K0 (wdM ad cI cZ cL (jx J, jn J, ((jk J) + 1), jop J, jou J, (zub (jdv J) (jn J) false), jct J, jdh J, jph J, jsp J) rd pr (0, (nu (msh M) (jn J) sh), (nu (mmy M) (sh) (((mmy M) (sh)) + 1)), (nu (mla M) (sh) (jn J)), (nu (mfi M) (jk J) ((mla M) (sh))), (nu (mse M) (jk J) (jn J)), mrw M, mwy M, mnx M) ov)) := hD
            refine lv_aload_n hx hb d_M_haul_193 rfl (lv_at hl 0 rfl) ?_
            refine lv_dup hx hb d_M_haul_194 rfl ?_
            refine va_get (D := D) (ci := 5) (v := .int (iZ ((jn J : Nat) : Int))) (C := n_M) (T := f_M) (N := 17) hx hb hts in_M hown hK hP 19 rfl rfl 2 (by decide) (hts _ fl_M_63) (fun _ h9 => h9) rfl d_M_haul_195 ?_
            refine lv_iconst (v := iZ ((1 : Nat) : Int)) hx hb d_M_haul_198 (by decide) ?_
            refine z_iaddN (u := jn J) (v := 1) hx hb d_M_haul_199 ?_
            refine va_put (D := D) (ci := 5) (v := .int (iZ (((jn J) + 1 : Nat) : Int))) (ty := .int) (C := n_M) (T := f_M) (N := 17) hx hb hts in_M ty_M tyo_M nm_M hown hK hP hD hS 19 rfl rfl 2 (by decide) (hts _ fl_M_63) (fun _ h9 => h9) rfl (by decide +kernel) rfl rfl (Nat.le_of_ble_eq_true rfl) d_M_haul_200 (fun H locs hP hD hS => ?_)
            have hP : va_P D classes (wdC ad cI cZ cL J0 rd0 pr0 G0 K0 (wdM ad cI cZ cL (jx J, ((jn J) + 1), ((jk J) + 1), jop J, jou J, (zub (jdv J) (jn J) false), jct J, jdh J, jph J, jsp J) rd pr (0, (nu (msh M) (jn J) sh), (nu (mmy M) (sh) (((mmy M) (sh)) + 1)), (nu (mla M) (sh) (jn J)), (nu (mfi M) (jk J) ((mla M) (sh))), (nu (mse M) (jk J) (jn J)), mrw M, mwy M, mnx M) ov)) H := hP
            have hD : va_D A (wdC ad cI cZ cL J0 rd0 pr0 G0 K0 (wdM ad cI cZ cL (jx J, ((jn J) + 1), ((jk J) + 1), jop J, jou J, (zub (jdv J) (jn J) false), jct J, jdh J, jph J, jsp J) rd pr (0, (nu (msh M) (jn J) sh), (nu (mmy M) (sh) (((mmy M) (sh)) + 1)), (nu (mla M) (sh) (jn J)), (nu (mfi M) (jk J) ((mla M) (sh))), (nu (mse M) (jk J) (jn J)), mrw M, mwy M, mnx M) ov)) := hD
            refine lv_aload_n hx hb d_M_haul_203 rfl (lv_at hl 0 rfl) ?_
            refine va_get (D := D) (ci := 5) (v := .int (iZ ((((jn J) + 1) : Nat) : Int))) (C := n_M) (T := f_M) (N := 17) hx hb hts in_M hown hK hP 19 rfl rfl 2 (by decide) (hts _ fl_M_63) (fun _ h9 => h9) rfl d_M_haul_204 ?_
            refine lv_iconst (v := iZ ((1 : Nat) : Int)) hx hb d_M_haul_207 (by decide) ?_
            refine z_isub (a := ((((jn J) + 1) : Nat) : Int)) (b := ((1 : Nat) : Int)) hx hb d_M_haul_208 ?_
            exact z_iret Z hP hS d_M_haul_209 wdM_map (⟨_, congrArg iZ (by omega), by unfold sH2 sAP; rw [q126]; rfl, rfl, MJ_h2 hM hsh ho⟩)
          · skip
            refine lv_iconst (v := iZ ((1 : Nat) : Int)) hx hb d_M_haul_129 (by decide) ?_
            refine lv_goto (tgt := 134) hx hb d_M_haul_130 (by decide) ?_
            refine W.eq (g2 := F0 m 134 ls [.int (bI (true)), .int (iZ ((jn J : Nat) : Int)), .ref (ad 21)]) rfl ?_
            refine z_zast (f := jdv J) (v := true) hx hb hK hP hD hS 21 1 rfl rfl (jn J) (by omega) d_M_haul_134 (fun H locs hP hD hS => ?_)
            have hP : va_P D classes (wdC ad cI cZ cL J0 rd0 pr0 G0 K0 (wdM ad cI cZ cL (jx J, jn J, jk J, jop J, jou J, (zub (jdv J) (jn J) true), jct J, jdh J, jph J, jsp J) rd pr (0, (nu (msh M) (jn J) sh), mmy M, mla M, mfi M, mse M, mrw M, mwy M, mnx M) ov)) H := hP
            have hD : va_D A (wdC ad cI cZ cL J0 rd0 pr0 G0 K0 (wdM ad cI cZ cL (jx J, jn J, jk J, jop J, jou J, (zub (jdv J) (jn J) true), jct J, jdh J, jph J, jsp J) rd pr (0, (nu (msh M) (jn J) sh), mmy M, mla M, mfi M, mse M, mrw M, mwy M, mnx M) ov)) := hD
            refine lv_aload_n hx hb d_M_haul_135 rfl (lv_at hl 0 rfl) ?_
            refine va_get (D := D) (ci := 5) (v := .ref (ad 25)) (C := n_M) (T := f_M) (N := 17) hx hb hts in_M hown hK hP 19 rfl rfl 9 (by decide) (hts _ fl_M_26) (fun _ h9 => h9) rfl d_M_haul_136 ?_
            refine lv_aload_n hx hb d_M_haul_139 rfl (lv_at hl 0 rfl) ?_
            refine va_get (D := D) (ci := 5) (v := .int (iZ ((jk J : Nat) : Int))) (C := n_M) (T := f_M) (N := 17) hx hb hts in_M hown hK hP 19 rfl rfl 8 (by decide) (hts _ fl_M_70) (fun _ h9 => h9) rfl d_M_haul_140 ?_
            refine lv_aload_n hx hb d_M_haul_143 rfl (lv_at hl 0 rfl) ?_
            refine va_get (D := D) (ci := 5) (v := .ref (ad 24)) (C := n_M) (T := f_M) (N := 17) hx hb hts in_M hown hK hP 19 rfl rfl 7 (by decide) (hts _ fl_M_23) (fun _ h9 => h9) rfl d_M_haul_144 ?_
            refine lv_iload_n hx hb d_M_haul_147 rfl (lv_at hl 1 rfl) ?_
            refine z_ialdN (f := mla M) hx hb hK hP 24 0 rfl rfl (sh) (by omega) d_M_haul_148 ?_
            refine z_iastN (f := mfi M) (v := (mla M) (sh)) hx hb hK hP hD hS 25 0 rfl rfl (jk J) (by omega) d_M_haul_149 (fun H locs hP hD hS => ?_)
            have hP : va_P D classes (wdC ad cI cZ cL J0 rd0 pr0 G0 K0 (wdM ad cI cZ cL (jx J, jn J, jk J, jop J, jou J, (zub (jdv J) (jn J) true), jct J, jdh J, jph J, jsp J) rd pr (0, (nu (msh M) (jn J) sh), mmy M, mla M, (nu (mfi M) (jk J) ((mla M) (sh))), mse M, mrw M, mwy M, mnx M) ov)) H := hP
            have hD : va_D A (wdC ad cI cZ cL J0 rd0 pr0 G0 K0 (wdM ad cI cZ cL (jx J, jn J, jk J, jop J, jou J, (zub (jdv J) (jn J) true), jct J, jdh J, jph J, jsp J) rd pr (0, (nu (msh M) (jn J) sh), mmy M, mla M, (nu (mfi M) (jk J) ((mla M) (sh))), mse M, mrw M, mwy M, mnx M) ov)) := hD
            refine lv_aload_n hx hb d_M_haul_150 rfl (lv_at hl 0 rfl) ?_
            refine va_get (D := D) (ci := 5) (v := .ref (ad 26)) (C := n_M) (T := f_M) (N := 17) hx hb hts in_M hown hK hP 19 rfl rfl 10 (by decide) (hts _ fl_M_29) (fun _ h9 => h9) rfl d_M_haul_151 ?_
            refine lv_aload_n hx hb d_M_haul_154 rfl (lv_at hl 0 rfl) ?_
            refine va_get (D := D) (ci := 5) (v := .int (iZ ((jk J : Nat) : Int))) (C := n_M) (T := f_M) (N := 17) hx hb hts in_M hown hK hP 19 rfl rfl 8 (by decide) (hts _ fl_M_70) (fun _ h9 => h9) rfl d_M_haul_155 ?_
            refine lv_aload_n hx hb d_M_haul_158 rfl (lv_at hl 0 rfl) ?_
            refine va_get (D := D) (ci := 5) (v := .int (iZ ((jn J : Nat) : Int))) (C := n_M) (T := f_M) (N := 17) hx hb hts in_M hown hK hP 19 rfl rfl 2 (by decide) (hts _ fl_M_63) (fun _ h9 => h9) rfl d_M_haul_159 ?_
            refine z_iastN (f := mse M) (v := jn J) hx hb hK hP hD hS 26 0 rfl rfl (jk J) (by omega) d_M_haul_162 (fun H locs hP hD hS => ?_)
            have hP : va_P D classes (wdC ad cI cZ cL J0 rd0 pr0 G0 K0 (wdM ad cI cZ cL (jx J, jn J, jk J, jop J, jou J, (zub (jdv J) (jn J) true), jct J, jdh J, jph J, jsp J) rd pr (0, (nu (msh M) (jn J) sh), mmy M, mla M, (nu (mfi M) (jk J) ((mla M) (sh))), (nu (mse M) (jk J) (jn J)), mrw M, mwy M, mnx M) ov)) H := hP
            have hD : va_D A (wdC ad cI cZ cL J0 rd0 pr0 G0 K0 (wdM ad cI cZ cL (jx J, jn J, jk J, jop J, jou J, (zub (jdv J) (jn J) true), jct J, jdh J, jph J, jsp J) rd pr (0, (nu (msh M) (jn J) sh), mmy M, mla M, (nu (mfi M) (jk J) ((mla M) (sh))), (nu (mse M) (jk J) (jn J)), mrw M, mwy M, mnx M) ov)) := hD
            refine lv_aload_n hx hb d_M_haul_163 rfl (lv_at hl 0 rfl) ?_
            refine lv_dup hx hb d_M_haul_164 rfl ?_
            refine va_get (D := D) (ci := 5) (v := .int (iZ ((jk J : Nat) : Int))) (C := n_M) (T := f_M) (N := 17) hx hb hts in_M hown hK hP 19 rfl rfl 8 (by decide) (hts _ fl_M_70) (fun _ h9 => h9) rfl d_M_haul_165 ?_
            refine lv_iconst (v := iZ ((1 : Nat) : Int)) hx hb d_M_haul_168 (by decide) ?_
            refine z_iaddN (u := jk J) (v := 1) hx hb d_M_haul_169 ?_
            refine va_put (D := D) (ci := 5) (v := .int (iZ (((jk J) + 1 : Nat) : Int))) (ty := .int) (C := n_M) (T := f_M) (N := 17) hx hb hts in_M ty_M tyo_M nm_M hown hK hP hD hS 19 rfl rfl 8 (by decide) (hts _ fl_M_70) (fun _ h9 => h9) rfl (by decide +kernel) rfl rfl (Nat.le_of_ble_eq_true rfl) d_M_haul_170 (fun H locs hP hD hS => ?_)
            have hP : va_P D classes (wdC ad cI cZ cL J0 rd0 pr0 G0 K0 (wdM ad cI cZ cL (jx J, jn J, ((jk J) + 1), jop J, jou J, (zub (jdv J) (jn J) true), jct J, jdh J, jph J, jsp J) rd pr (0, (nu (msh M) (jn J) sh), mmy M, mla M, (nu (mfi M) (jk J) ((mla M) (sh))), (nu (mse M) (jk J) (jn J)), mrw M, mwy M, mnx M) ov)) H := hP
            have hD : va_D A (wdC ad cI cZ cL J0 rd0 pr0 G0 K0 (wdM ad cI cZ cL (jx J, jn J, ((jk J) + 1), jop J, jou J, (zub (jdv J) (jn J) true), jct J, jdh J, jph J, jsp J) rd pr (0, (nu (msh M) (jn J) sh), mmy M, mla M, (nu (mfi M) (jk J) ((mla M) (sh))), (nu (mse M) (jk J) (jn J)), mrw M, mwy M, mnx M) ov)) := hD
            refine lv_aload_n hx hb d_M_haul_173 rfl (lv_at hl 0 rfl) ?_
            refine va_get (D := D) (ci := 5) (v := .ref (ad 24)) (C := n_M) (T := f_M) (N := 17) hx hb hts in_M hown hK hP 19 rfl rfl 7 (by decide) (hts _ fl_M_23) (fun _ h9 => h9) rfl d_M_haul_174 ?_
            refine lv_iload_n hx hb d_M_haul_177 rfl (lv_at hl 1 rfl) ?_
            refine lv_aload_n hx hb d_M_haul_178 rfl (lv_at hl 0 rfl) ?_
            refine va_get (D := D) (ci := 5) (v := .int (iZ ((jn J : Nat) : Int))) (C := n_M) (T := f_M) (N := 17) hx hb hts in_M hown hK hP 19 rfl rfl 2 (by decide) (hts _ fl_M_63) (fun _ h9 => h9) rfl d_M_haul_179 ?_
            refine z_iastN (f := mla M) (v := jn J) hx hb hK hP hD hS 24 0 rfl rfl (sh) (by omega) d_M_haul_182 (fun H locs hP hD hS => ?_)
            have hP : va_P D classes (wdC ad cI cZ cL J0 rd0 pr0 G0 K0 (wdM ad cI cZ cL (jx J, jn J, ((jk J) + 1), jop J, jou J, (zub (jdv J) (jn J) true), jct J, jdh J, jph J, jsp J) rd pr (0, (nu (msh M) (jn J) sh), mmy M, (nu (mla M) (sh) (jn J)), (nu (mfi M) (jk J) ((mla M) (sh))), (nu (mse M) (jk J) (jn J)), mrw M, mwy M, mnx M) ov)) H := hP
            have hD : va_D A (wdC ad cI cZ cL J0 rd0 pr0 G0 K0 (wdM ad cI cZ cL (jx J, jn J, ((jk J) + 1), jop J, jou J, (zub (jdv J) (jn J) true), jct J, jdh J, jph J, jsp J) rd pr (0, (nu (msh M) (jn J) sh), mmy M, (nu (mla M) (sh) (jn J)), (nu (mfi M) (jk J) ((mla M) (sh))), (nu (mse M) (jk J) (jn J)), mrw M, mwy M, mnx M) ov)) := hD
            refine lv_aload_n hx hb d_M_haul_183 rfl (lv_at hl 0 rfl) ?_
            refine va_get (D := D) (ci := 5) (v := .ref (ad 23)) (C := n_M) (T := f_M) (N := 17) hx hb hts in_M hown hK hP 19 rfl rfl 6 (by decide) (hts _ fl_M_20) (fun _ h9 => h9) rfl d_M_haul_184 ?_
            refine lv_iload_n hx hb d_M_haul_187 rfl (lv_at hl 1 rfl) ?_
            refine lv_dup2_11 hx hb d_M_haul_188 rfl rfl ?_
            refine z_ialdN (f := mmy M) hx hb hK hP 23 0 rfl rfl (sh) (by omega) d_M_haul_189 ?_
            refine lv_iconst (v := iZ ((1 : Nat) : Int)) hx hb d_M_haul_190 (by decide) ?_
            refine z_iaddN (u := (mmy M) (sh)) (v := 1) hx hb d_M_haul_191 ?_
            refine z_iastN (f := mmy M) (v := ((mmy M) (sh)) + 1) hx hb hK hP hD hS 23 0 rfl rfl (sh) (by omega) d_M_haul_192 (fun H locs hP hD hS => ?_)
            have hP : va_P D classes (wdC ad cI cZ cL J0 rd0 pr0 G0 K0 (wdM ad cI cZ cL (jx J, jn J, ((jk J) + 1), jop J, jou J, (zub (jdv J) (jn J) true), jct J, jdh J, jph J, jsp J) rd pr (0, (nu (msh M) (jn J) sh), (nu (mmy M) (sh) (((mmy M) (sh)) + 1)), (nu (mla M) (sh) (jn J)), (nu (mfi M) (jk J) ((mla M) (sh))), (nu (mse M) (jk J) (jn J)), mrw M, mwy M, mnx M) ov)) H := hP
            have hD : va_D A (wdC ad cI cZ cL J0 rd0 pr0 G0 K0 (wdM ad cI cZ cL (jx J, jn J, ((jk J) + 1), jop J, jou J, (zub (jdv J) (jn J) true), jct J, jdh J, jph J, jsp J) rd pr (0, (nu (msh M) (jn J) sh), (nu (mmy M) (sh) (((mmy M) (sh)) + 1)), (nu (mla M) (sh) (jn J)), (nu (mfi M) (jk J) ((mla M) (sh))), (nu (mse M) (jk J) (jn J)), mrw M, mwy M, mnx M) ov)) := hD
            refine lv_aload_n hx hb d_M_haul_193 rfl (lv_at hl 0 rfl) ?_
            refine lv_dup hx hb d_M_haul_194 rfl ?_
            refine va_get (D := D) (ci := 5) (v := .int (iZ ((jn J : Nat) : Int))) (C := n_M) (T := f_M) (N := 17) hx hb hts in_M hown hK hP 19 rfl rfl 2 (by decide) (hts _ fl_M_63) (fun _ h9 => h9) rfl d_M_haul_195 ?_
            refine lv_iconst (v := iZ ((1 : Nat) : Int)) hx hb d_M_haul_198 (by decide) ?_
            refine z_iaddN (u := jn J) (v := 1) hx hb d_M_haul_199 ?_
            refine va_put (D := D) (ci := 5) (v := .int (iZ (((jn J) + 1 : Nat) : Int))) (ty := .int) (C := n_M) (T := f_M) (N := 17) hx hb hts in_M ty_M tyo_M nm_M hown hK hP hD hS 19 rfl rfl 2 (by decide) (hts _ fl_M_63) (fun _ h9 => h9) rfl (by decide +kernel) rfl rfl (Nat.le_of_ble_eq_true rfl) d_M_haul_200 (fun H locs hP hD hS => ?_)
            have hP : va_P D classes (wdC ad cI cZ cL J0 rd0 pr0 G0 K0 (wdM ad cI cZ cL (jx J, ((jn J) + 1), ((jk J) + 1), jop J, jou J, (zub (jdv J) (jn J) true), jct J, jdh J, jph J, jsp J) rd pr (0, (nu (msh M) (jn J) sh), (nu (mmy M) (sh) (((mmy M) (sh)) + 1)), (nu (mla M) (sh) (jn J)), (nu (mfi M) (jk J) ((mla M) (sh))), (nu (mse M) (jk J) (jn J)), mrw M, mwy M, mnx M) ov)) H := hP
            have hD : va_D A (wdC ad cI cZ cL J0 rd0 pr0 G0 K0 (wdM ad cI cZ cL (jx J, ((jn J) + 1), ((jk J) + 1), jop J, jou J, (zub (jdv J) (jn J) true), jct J, jdh J, jph J, jsp J) rd pr (0, (nu (msh M) (jn J) sh), (nu (mmy M) (sh) (((mmy M) (sh)) + 1)), (nu (mla M) (sh) (jn J)), (nu (mfi M) (jk J) ((mla M) (sh))), (nu (mse M) (jk J) (jn J)), mrw M, mwy M, mnx M) ov)) := hD
            refine lv_aload_n hx hb d_M_haul_203 rfl (lv_at hl 0 rfl) ?_
            refine va_get (D := D) (ci := 5) (v := .int (iZ ((((jn J) + 1) : Nat) : Int))) (C := n_M) (T := f_M) (N := 17) hx hb hts in_M hown hK hP 19 rfl rfl 2 (by decide) (hts _ fl_M_63) (fun _ h9 => h9) rfl d_M_haul_204 ?_
            refine lv_iconst (v := iZ ((1 : Nat) : Int)) hx hb d_M_haul_207 (by decide) ?_
            refine z_isub (a := ((((jn J) + 1) : Nat) : Int)) (b := ((1 : Nat) : Int)) hx hb d_M_haul_208 ?_
            exact z_iret Z hP hS d_M_haul_209 wdM_map (⟨_, congrArg iZ (by omega), by unfold sH2 sAP; rw [q126]; rfl, rfl, MJ_h2 hM hsh ho⟩)
        · skip
          exfalso; omega
      · skip
        exfalso; omega
    · skip
      exfalso; omega
  · skip
    replace q6 := of_decide_eq_false q6
    exfalso; omega

set_option maxHeartbeats 4000000 in
set_option maxRecDepth 100000 in
theorem k_M_caughtx1 {l : Launch} {D : va_G} {ad : Nat → Nat} {cI cZ cL : ClassId} {J J0 : SJ} {rd rd0 : Nat → Int} {pr pr0 : Nat → Nat} {G0 : SH} {K0 : SK} {M : SM} {ov : Nat → Int64} (hI : JI J) (hM : MJ J M) {a b c9 : Int} (h : z32 a ∧ z32 b ∧ (a < 0 ∨ ((jn J : Nat) : Int) ≤ a ∨ b < 0 ∨ 3 ≤ b)) : zMi l TB D classes (tysW cI cZ cL) y_M_caught w_M_caught 1 21 [.ref (ad 19), .int (iZ (a)), .int (iZ (b)), .int (iZ (c9))] (wdC ad cI cZ cL J0 rd0 pr0 G0 K0 (wdM ad cI cZ cL J rd pr M ov)) (fun r w => ∃ M1 : SM, w = wdC ad cI cZ cL J0 rd0 pr0 G0 K0 (wdM ad cI cZ cL J rd pr M1 ov) ∧ M1.1 = 1 ∧ MJ J M1) := by
  refine z_of (Qc := fun A => va_Qi (fun r w => ∃ M1 : SM, w = wdC ad cI cZ cL J0 rd0 pr0 G0 K0 (wdM ad cI cZ cL J rd pr M1 ov) ∧ M1.1 = 1 ∧ MJ J M1) (zB9 D classes (wdC ad cI cZ cL J0 rd0 pr0 G0 K0 (wdM ad cI cZ cL J rd pr M ov))) A) (by decide) (Nat.le_of_ble_eq_true rfl) ?_
  intro p e s m below meth c A ls Z hP hK hD hS hA hl
  obtain ⟨hx, hb, hr, hml, hown, hts, hE, hlocks⟩ := id Z
  have hl : lv_has ls 5 [(0, .ref (ad 19)), (1, .int (iZ (a))), (2, .int (iZ (b))), (3, .int (iZ (c9)))] := hl
  obtain ⟨hn32, hk2, hpr, hct⟩ := id hI
  suffices K9 : ∀ (H : Heap) (locs : List Loc) (ls : Array Slot), va_P D classes (wdC ad cI cZ cL J0 rd0 pr0 G0 K0 (wdM ad cI cZ cL J rd pr M ov)) H → va_D A (wdC ad cI cZ cL J0 rd0 pr0 G0 K0 (wdM ad cI cZ cL J rd pr M ov)) → va_S A s.heap H locs → lv_has ls 5 [(0, .ref (ad 19)), (1, .int (iZ (a))), (2, .int (iZ (b))), (3, .int (iZ (c9)))] → W p l e (zRm 1 21) s m ([.ref (ad 19), .int (iZ (a)), .int (iZ (b)), .int (iZ (c9))] : List Value).toArray below meth c H locs 0 0 (MQ below (va_Qi (fun r w => ∃ M1 : SM, w = wdC ad cI cZ cL J0 rd0 pr0 G0 K0 (wdM ad cI cZ cL J rd pr M1 ov) ∧ M1.1 = 1 ∧ MJ J M1) (zB9 D classes (wdC ad cI cZ cL J0 rd0 pr0 G0 K0 (wdM ad cI cZ cL J rd pr M ov))) A) ([.ref (ad 19), .int (iZ (a)), .int (iZ (b)), .int (iZ (c9))] : List Value).toArray s 0 0 A) (F0 m 0 ls []) from K9 s.heap [] ls hP hD hS hl
  clear hP hD hS hl
  intro H locs ls hP hD hS hl
  refine lv_aload_n hx hb d_M_caught_0 rfl (lv_at hl 0 rfl) ?_
  refine lv_iload_n hx hb d_M_caught_1 rfl (lv_at hl 1 rfl) ?_
  refine lv_aload_n hx hb d_M_caught_2 rfl (lv_at hl 0 rfl) ?_
  refine va_get (D := D) (ci := 5) (v := .int (iZ ((jn J : Nat) : Int))) (C := n_M) (T := f_M) (N := 17) hx hb hts in_M hown hK hP 19 rfl rfl 2 (by decide) (hts _ fl_M_63) (fun _ h9 => h9) rfl d_M_caught_3 ?_
  refine z_callSR (As := [.int (iZ (a)), .int (iZ ((jn J : Nat) : Int))]) (rest := [.ref (ad 19)]) zTB Z (k_M_isIn (a := a) (b := ((jn J : Nat) : Int)) (by omega)) ⟨ml_M_59, sm_M_isIn, ini_M, co_M_isIn⟩ zd_M_isIn ⟨Nat.le_of_ble_eq_true rfl, Nat.le_of_ble_eq_true rfl⟩ hP hK hl.1 rfl (Nat.le_of_ble_eq_true rfl) d_M_caught_6 ⟨Nat.zero_le _, Nat.zero_le _⟩ ?_
  refine W.eq (g2 := F0 m 9 ls [.int (bI (decide (0 ≤ a ∧ a < ((jn J : Nat) : Int)))), .ref (ad 19)]) rfl ?_
  refine z_if_eqB (b := decide (0 ≤ a ∧ a < ((jn J : Nat) : Int))) (tgt := 20) hx hb d_M_caught_9 (by decide) (fun q9 => ?_) (fun q9 => ?_)
  · skip
    replace q9 := of_decide_eq_false q9
    refine lv_iconst (v := iZ ((1 : Nat) : Int)) hx hb d_M_caught_20 (by decide) ?_
    refine lv_goto (tgt := 40) hx hb d_M_caught_21 (by decide) ?_
    refine va_put (D := D) (ci := 5) (v := .int (iZ ((1 : Nat) : Int))) (ty := .int) (C := n_M) (T := f_M) (N := 17) hx hb hts in_M ty_M tyo_M nm_M hown hK hP hD hS 19 rfl rfl 0 (by decide) (hts _ fl_M_55) (fun _ h9 => h9) rfl (by decide +kernel) rfl rfl (Nat.le_of_ble_eq_true rfl) d_M_caught_40 (fun H locs hP hD hS => ?_)
    have hP : va_P D classes (wdC ad cI cZ cL J0 rd0 pr0 G0 K0 (wdM ad cI cZ cL J rd pr (1, M.2) ov)) H := hP
    have hD : va_D A (wdC ad cI cZ cL J0 rd0 pr0 G0 K0 (wdM ad cI cZ cL J rd pr (1, M.2) ov)) := hD
    refine lv_aload_n hx hb d_M_caught_43 rfl (lv_at hl 0 rfl) ?_
    refine va_get (D := D) (ci := 5) (v := .int (iZ ((1 : Nat) : Int))) (C := n_M) (T := f_M) (N := 17) hx hb hts in_M hown hK hP 19 rfl rfl 0 (by decide) (hts _ fl_M_55) (fun _ h9 => h9) rfl d_M_caught_44 ?_
    refine z_if_le (a := ((1 : Nat) : Int)) (tgt := 52) hx hb (by omega) d_M_caught_47 (by decide) (fun q47 => ?_) (fun q47 => ?_)
    · skip
      exfalso; omega
    · skip
      refine lv_iconst (v := iZ ((0 : Nat) : Int)) hx hb d_M_caught_50 (by decide) ?_
      refine W.eq (g2 := F0 m 51 ls [.int (bI false)]) rfl ?_
      exact z_zret Z hP hS d_M_caught_51 wdM_map (⟨_, rfl, rfl, hM⟩)
  · skip
    replace q9 := of_decide_eq_true q9
    refine lv_iload_n hx hb d_M_caught_12 rfl (lv_at hl 2 rfl) ?_
    refine lv_iconst (v := iZ ((3 : Nat) : Int)) hx hb d_M_caught_13 (by decide) ?_
    refine z_callSR (As := [.int (iZ (b)), .int (iZ ((3 : Nat) : Int))]) (rest := [.ref (ad 19)]) zTB Z (k_M_isIn (a := b) (b := ((3 : Nat) : Int)) (by omega)) ⟨ml_M_59, sm_M_isIn, ini_M, co_M_isIn⟩ zd_M_isIn ⟨Nat.le_of_ble_eq_true rfl, Nat.le_of_ble_eq_true rfl⟩ hP hK hl.1 rfl (Nat.le_of_ble_eq_true rfl) d_M_caught_14 ⟨Nat.zero_le _, Nat.zero_le _⟩ ?_
    refine W.eq (g2 := F0 m 17 ls [.int (bI (decide (0 ≤ b ∧ b < ((3 : Nat) : Int)))), .ref (ad 19)]) rfl ?_
    refine z_if_neB (b := decide (0 ≤ b ∧ b < ((3 : Nat) : Int))) (tgt := 24) hx hb d_M_caught_17 (by decide) (fun q17 => ?_) (fun q17 => ?_)
    · skip
      replace q17 := of_decide_eq_true q17
      refine lv_iload_n hx hb d_M_caught_24 rfl (lv_at hl 3 rfl) ?_
      refine z_if_lt (a := c9) (tgt := 35) hx hb (by omega) d_M_caught_25 (by decide) (fun q25 => ?_) (fun q25 => ?_)
      · skip
        exfalso; omega
      · skip
        refine lv_iload_n hx hb d_M_caught_28 rfl (lv_at hl 3 rfl) ?_
        refine lv_sipush (v := iZ ((1000 : Nat) : Int)) hx hb d_M_caught_29 (by decide) ?_
        refine z_icmp_le (a := c9) (b := ((1000 : Nat) : Int)) (tgt := 39) hx hb (by omega) d_M_caught_32 (by decide) (fun q32 => ?_) (fun q32 => ?_)
        · skip
          exfalso; omega
        · skip
          exfalso; omega
    · skip
      replace q17 := of_decide_eq_false q17
      refine lv_iconst (v := iZ ((1 : Nat) : Int)) hx hb d_M_caught_20 (by decide) ?_
      refine lv_goto (tgt := 40) hx hb d_M_caught_21 (by decide) ?_
      refine va_put (D := D) (ci := 5) (v := .int (iZ ((1 : Nat) : Int))) (ty := .int) (C := n_M) (T := f_M) (N := 17) hx hb hts in_M ty_M tyo_M nm_M hown hK hP hD hS 19 rfl rfl 0 (by decide) (hts _ fl_M_55) (fun _ h9 => h9) rfl (by decide +kernel) rfl rfl (Nat.le_of_ble_eq_true rfl) d_M_caught_40 (fun H locs hP hD hS => ?_)
      have hP : va_P D classes (wdC ad cI cZ cL J0 rd0 pr0 G0 K0 (wdM ad cI cZ cL J rd pr (1, M.2) ov)) H := hP
      have hD : va_D A (wdC ad cI cZ cL J0 rd0 pr0 G0 K0 (wdM ad cI cZ cL J rd pr (1, M.2) ov)) := hD
      refine lv_aload_n hx hb d_M_caught_43 rfl (lv_at hl 0 rfl) ?_
      refine va_get (D := D) (ci := 5) (v := .int (iZ ((1 : Nat) : Int))) (C := n_M) (T := f_M) (N := 17) hx hb hts in_M hown hK hP 19 rfl rfl 0 (by decide) (hts _ fl_M_55) (fun _ h9 => h9) rfl d_M_caught_44 ?_
      refine z_if_le (a := ((1 : Nat) : Int)) (tgt := 52) hx hb (by omega) d_M_caught_47 (by decide) (fun q47 => ?_) (fun q47 => ?_)
      · skip
        exfalso; omega
      · skip
        refine lv_iconst (v := iZ ((0 : Nat) : Int)) hx hb d_M_caught_50 (by decide) ?_
        refine W.eq (g2 := F0 m 51 ls [.int (bI false)]) rfl ?_
        exact z_zret Z hP hS d_M_caught_51 wdM_map (⟨_, rfl, rfl, hM⟩)

set_option maxHeartbeats 4000000 in
set_option maxRecDepth 100000 in
theorem k_M_caughtx2 {l : Launch} {D : va_G} {ad : Nat → Nat} {cI cZ cL : ClassId} {J J0 : SJ} {rd rd0 : Nat → Int} {pr pr0 : Nat → Nat} {G0 : SH} {K0 : SK} {M : SM} {ov : Nat → Int64} (hI : JI J) (hM : MJ J M) {h kd : Nat} {c9 : Int} (hh : h < jn J) (hkd : kd < 3) (h2 : z32 c9 ∧ (c9 < 0 ∨ 1000 < c9)) : zMi l TB D classes (tysW cI cZ cL) y_M_caught w_M_caught 1 21 [.ref (ad 19), .int (iZ ((h : Nat) : Int)), .int (iZ ((kd : Nat) : Int)), .int (iZ (c9))] (wdC ad cI cZ cL J0 rd0 pr0 G0 K0 (wdM ad cI cZ cL J rd pr M ov)) (fun r w => ∃ M1 : SM, w = wdC ad cI cZ cL J0 rd0 pr0 G0 K0 (wdM ad cI cZ cL J rd pr M1 ov) ∧ M1.1 = 2 ∧ MJ J M1) := by
  refine z_of (Qc := fun A => va_Qi (fun r w => ∃ M1 : SM, w = wdC ad cI cZ cL J0 rd0 pr0 G0 K0 (wdM ad cI cZ cL J rd pr M1 ov) ∧ M1.1 = 2 ∧ MJ J M1) (zB9 D classes (wdC ad cI cZ cL J0 rd0 pr0 G0 K0 (wdM ad cI cZ cL J rd pr M ov))) A) (by decide) (Nat.le_of_ble_eq_true rfl) ?_
  intro p e s m below meth c A ls Z hP hK hD hS hA hl
  obtain ⟨hx, hb, hr, hml, hown, hts, hE, hlocks⟩ := id Z
  have hl : lv_has ls 5 [(0, .ref (ad 19)), (1, .int (iZ ((h : Nat) : Int))), (2, .int (iZ ((kd : Nat) : Int))), (3, .int (iZ (c9)))] := hl
  obtain ⟨hn32, hk2, hpr, hct⟩ := id hI
  suffices K9 : ∀ (H : Heap) (locs : List Loc) (ls : Array Slot), va_P D classes (wdC ad cI cZ cL J0 rd0 pr0 G0 K0 (wdM ad cI cZ cL J rd pr M ov)) H → va_D A (wdC ad cI cZ cL J0 rd0 pr0 G0 K0 (wdM ad cI cZ cL J rd pr M ov)) → va_S A s.heap H locs → lv_has ls 5 [(0, .ref (ad 19)), (1, .int (iZ ((h : Nat) : Int))), (2, .int (iZ ((kd : Nat) : Int))), (3, .int (iZ (c9)))] → W p l e (zRm 1 21) s m ([.ref (ad 19), .int (iZ ((h : Nat) : Int)), .int (iZ ((kd : Nat) : Int)), .int (iZ (c9))] : List Value).toArray below meth c H locs 0 0 (MQ below (va_Qi (fun r w => ∃ M1 : SM, w = wdC ad cI cZ cL J0 rd0 pr0 G0 K0 (wdM ad cI cZ cL J rd pr M1 ov) ∧ M1.1 = 2 ∧ MJ J M1) (zB9 D classes (wdC ad cI cZ cL J0 rd0 pr0 G0 K0 (wdM ad cI cZ cL J rd pr M ov))) A) ([.ref (ad 19), .int (iZ ((h : Nat) : Int)), .int (iZ ((kd : Nat) : Int)), .int (iZ (c9))] : List Value).toArray s 0 0 A) (F0 m 0 ls []) from K9 s.heap [] ls hP hD hS hl
  clear hP hD hS hl
  intro H locs ls hP hD hS hl
  refine lv_aload_n hx hb d_M_caught_0 rfl (lv_at hl 0 rfl) ?_
  refine lv_iload_n hx hb d_M_caught_1 rfl (lv_at hl 1 rfl) ?_
  refine lv_aload_n hx hb d_M_caught_2 rfl (lv_at hl 0 rfl) ?_
  refine va_get (D := D) (ci := 5) (v := .int (iZ ((jn J : Nat) : Int))) (C := n_M) (T := f_M) (N := 17) hx hb hts in_M hown hK hP 19 rfl rfl 2 (by decide) (hts _ fl_M_63) (fun _ h9 => h9) rfl d_M_caught_3 ?_
  refine z_callSR (As := [.int (iZ ((h : Nat) : Int)), .int (iZ ((jn J : Nat) : Int))]) (rest := [.ref (ad 19)]) zTB Z (k_M_isIn (a := ((h : Nat) : Int)) (b := ((jn J : Nat) : Int)) (by omega)) ⟨ml_M_59, sm_M_isIn, ini_M, co_M_isIn⟩ zd_M_isIn ⟨Nat.le_of_ble_eq_true rfl, Nat.le_of_ble_eq_true rfl⟩ hP hK hl.1 rfl (Nat.le_of_ble_eq_true rfl) d_M_caught_6 ⟨Nat.zero_le _, Nat.zero_le _⟩ ?_
  refine W.eq (g2 := F0 m 9 ls [.int (bI (decide (0 ≤ ((h : Nat) : Int) ∧ ((h : Nat) : Int) < ((jn J : Nat) : Int)))), .ref (ad 19)]) rfl ?_
  refine z_if_eqB (b := decide (0 ≤ ((h : Nat) : Int) ∧ ((h : Nat) : Int) < ((jn J : Nat) : Int))) (tgt := 20) hx hb d_M_caught_9 (by decide) (fun q9 => ?_) (fun q9 => ?_)
  · skip
    replace q9 := of_decide_eq_false q9
    exfalso; omega
  · skip
    replace q9 := of_decide_eq_true q9
    refine lv_iload_n hx hb d_M_caught_12 rfl (lv_at hl 2 rfl) ?_
    refine lv_iconst (v := iZ ((3 : Nat) : Int)) hx hb d_M_caught_13 (by decide) ?_
    refine z_callSR (As := [.int (iZ ((kd : Nat) : Int)), .int (iZ ((3 : Nat) : Int))]) (rest := [.ref (ad 19)]) zTB Z (k_M_isIn (a := ((kd : Nat) : Int)) (b := ((3 : Nat) : Int)) (by omega)) ⟨ml_M_59, sm_M_isIn, ini_M, co_M_isIn⟩ zd_M_isIn ⟨Nat.le_of_ble_eq_true rfl, Nat.le_of_ble_eq_true rfl⟩ hP hK hl.1 rfl (Nat.le_of_ble_eq_true rfl) d_M_caught_14 ⟨Nat.zero_le _, Nat.zero_le _⟩ ?_
    refine W.eq (g2 := F0 m 17 ls [.int (bI (decide (0 ≤ ((kd : Nat) : Int) ∧ ((kd : Nat) : Int) < ((3 : Nat) : Int)))), .ref (ad 19)]) rfl ?_
    refine z_if_neB (b := decide (0 ≤ ((kd : Nat) : Int) ∧ ((kd : Nat) : Int) < ((3 : Nat) : Int))) (tgt := 24) hx hb d_M_caught_17 (by decide) (fun q17 => ?_) (fun q17 => ?_)
    · skip
      replace q17 := of_decide_eq_true q17
      refine lv_iload_n hx hb d_M_caught_24 rfl (lv_at hl 3 rfl) ?_
      refine z_if_lt (a := c9) (tgt := 35) hx hb (by omega) d_M_caught_25 (by decide) (fun q25 => ?_) (fun q25 => ?_)
      · skip
        refine lv_iconst (v := iZ ((2 : Nat) : Int)) hx hb d_M_caught_35 (by decide) ?_
        refine lv_goto (tgt := 40) hx hb d_M_caught_36 (by decide) ?_
        refine va_put (D := D) (ci := 5) (v := .int (iZ ((2 : Nat) : Int))) (ty := .int) (C := n_M) (T := f_M) (N := 17) hx hb hts in_M ty_M tyo_M nm_M hown hK hP hD hS 19 rfl rfl 0 (by decide) (hts _ fl_M_55) (fun _ h9 => h9) rfl (by decide +kernel) rfl rfl (Nat.le_of_ble_eq_true rfl) d_M_caught_40 (fun H locs hP hD hS => ?_)
        have hP : va_P D classes (wdC ad cI cZ cL J0 rd0 pr0 G0 K0 (wdM ad cI cZ cL J rd pr (2, M.2) ov)) H := hP
        have hD : va_D A (wdC ad cI cZ cL J0 rd0 pr0 G0 K0 (wdM ad cI cZ cL J rd pr (2, M.2) ov)) := hD
        refine lv_aload_n hx hb d_M_caught_43 rfl (lv_at hl 0 rfl) ?_
        refine va_get (D := D) (ci := 5) (v := .int (iZ ((2 : Nat) : Int))) (C := n_M) (T := f_M) (N := 17) hx hb hts in_M hown hK hP 19 rfl rfl 0 (by decide) (hts _ fl_M_55) (fun _ h9 => h9) rfl d_M_caught_44 ?_
        refine z_if_le (a := ((2 : Nat) : Int)) (tgt := 52) hx hb (by omega) d_M_caught_47 (by decide) (fun q47 => ?_) (fun q47 => ?_)
        · skip
          exfalso; omega
        · skip
          refine lv_iconst (v := iZ ((0 : Nat) : Int)) hx hb d_M_caught_50 (by decide) ?_
          refine W.eq (g2 := F0 m 51 ls [.int (bI false)]) rfl ?_
          exact z_zret Z hP hS d_M_caught_51 wdM_map (⟨_, rfl, rfl, hM⟩)
      · skip
        refine lv_iload_n hx hb d_M_caught_28 rfl (lv_at hl 3 rfl) ?_
        refine lv_sipush (v := iZ ((1000 : Nat) : Int)) hx hb d_M_caught_29 (by decide) ?_
        refine z_icmp_le (a := c9) (b := ((1000 : Nat) : Int)) (tgt := 39) hx hb (by omega) d_M_caught_32 (by decide) (fun q32 => ?_) (fun q32 => ?_)
        · skip
          exfalso; omega
        · skip
          refine lv_iconst (v := iZ ((2 : Nat) : Int)) hx hb d_M_caught_35 (by decide) ?_
          refine lv_goto (tgt := 40) hx hb d_M_caught_36 (by decide) ?_
          refine va_put (D := D) (ci := 5) (v := .int (iZ ((2 : Nat) : Int))) (ty := .int) (C := n_M) (T := f_M) (N := 17) hx hb hts in_M ty_M tyo_M nm_M hown hK hP hD hS 19 rfl rfl 0 (by decide) (hts _ fl_M_55) (fun _ h9 => h9) rfl (by decide +kernel) rfl rfl (Nat.le_of_ble_eq_true rfl) d_M_caught_40 (fun H locs hP hD hS => ?_)
          have hP : va_P D classes (wdC ad cI cZ cL J0 rd0 pr0 G0 K0 (wdM ad cI cZ cL J rd pr (2, M.2) ov)) H := hP
          have hD : va_D A (wdC ad cI cZ cL J0 rd0 pr0 G0 K0 (wdM ad cI cZ cL J rd pr (2, M.2) ov)) := hD
          refine lv_aload_n hx hb d_M_caught_43 rfl (lv_at hl 0 rfl) ?_
          refine va_get (D := D) (ci := 5) (v := .int (iZ ((2 : Nat) : Int))) (C := n_M) (T := f_M) (N := 17) hx hb hts in_M hown hK hP 19 rfl rfl 0 (by decide) (hts _ fl_M_55) (fun _ h9 => h9) rfl d_M_caught_44 ?_
          refine z_if_le (a := ((2 : Nat) : Int)) (tgt := 52) hx hb (by omega) d_M_caught_47 (by decide) (fun q47 => ?_) (fun q47 => ?_)
          · skip
            exfalso; omega
          · skip
            refine lv_iconst (v := iZ ((0 : Nat) : Int)) hx hb d_M_caught_50 (by decide) ?_
            refine W.eq (g2 := F0 m 51 ls [.int (bI false)]) rfl ?_
            exact z_zret Z hP hS d_M_caught_51 wdM_map (⟨_, rfl, rfl, hM⟩)
    · skip
      replace q17 := of_decide_eq_false q17
      exfalso; omega

set_option maxHeartbeats 4000000 in
set_option maxRecDepth 100000 in
theorem k_M_caught0 {l : Launch} {D : va_G} {ad : Nat → Nat} {cI cZ cL : ClassId} {J J0 : SJ} {rd rd0 : Nat → Int} {pr pr0 : Nat → Nat} {G0 : SH} {K0 : SK} {M : SM} {ov : Nat → Int64} (hI : JI J) (hM : MJ J M) {h kd v : Nat} (hh : h < jn J) (hkd : kd < 3) (hv : v ≤ 1000) : zMi l TB D classes (tysW cI cZ cL) y_M_caught w_M_caught 1 21 [.ref (ad 19), .int (iZ ((h : Nat) : Int)), .int (iZ ((kd : Nat) : Int)), .int (iZ ((v : Nat) : Int))] (wdC ad cI cZ cL J0 rd0 pr0 G0 K0 (wdM ad cI cZ cL J rd pr M ov)) (fun r w => ∃ M1 : SM, r = bI (decide (jct J (h * 3 + kd) ≠ v)) ∧ w = wdC ad cI cZ cL J0 rd0 pr0 G0 K0 (wdM ad cI cZ cL (sPC9 J (h * 3 + kd) v) rd pr M1 ov) ∧ M1.1 = 0 ∧ MJ (sPC9 J (h * 3 + kd) v) M1) := by
  refine z_of (Qc := fun A => va_Qi (fun r w => ∃ M1 : SM, r = bI (decide (jct J (h * 3 + kd) ≠ v)) ∧ w = wdC ad cI cZ cL J0 rd0 pr0 G0 K0 (wdM ad cI cZ cL (sPC9 J (h * 3 + kd) v) rd pr M1 ov) ∧ M1.1 = 0 ∧ MJ (sPC9 J (h * 3 + kd) v) M1) (zB9 D classes (wdC ad cI cZ cL J0 rd0 pr0 G0 K0 (wdM ad cI cZ cL J rd pr M ov))) A) (by decide) (Nat.le_of_ble_eq_true rfl) ?_
  intro p e s m below meth c A ls Z hP hK hD hS hA hl
  obtain ⟨hx, hb, hr, hml, hown, hts, hE, hlocks⟩ := id Z
  have hl : lv_has ls 5 [(0, .ref (ad 19)), (1, .int (iZ ((h : Nat) : Int))), (2, .int (iZ ((kd : Nat) : Int))), (3, .int (iZ ((v : Nat) : Int)))] := hl
  obtain ⟨hn32, hk2, hpr, hct⟩ := id hI
  have hc9 := hct (h * 3 + kd)
  suffices K9 : ∀ (H : Heap) (locs : List Loc) (ls : Array Slot), va_P D classes (wdC ad cI cZ cL J0 rd0 pr0 G0 K0 (wdM ad cI cZ cL J rd pr M ov)) H → va_D A (wdC ad cI cZ cL J0 rd0 pr0 G0 K0 (wdM ad cI cZ cL J rd pr M ov)) → va_S A s.heap H locs → lv_has ls 5 [(0, .ref (ad 19)), (1, .int (iZ ((h : Nat) : Int))), (2, .int (iZ ((kd : Nat) : Int))), (3, .int (iZ ((v : Nat) : Int)))] → W p l e (zRm 1 21) s m ([.ref (ad 19), .int (iZ ((h : Nat) : Int)), .int (iZ ((kd : Nat) : Int)), .int (iZ ((v : Nat) : Int))] : List Value).toArray below meth c H locs 0 0 (MQ below (va_Qi (fun r w => ∃ M1 : SM, r = bI (decide (jct J (h * 3 + kd) ≠ v)) ∧ w = wdC ad cI cZ cL J0 rd0 pr0 G0 K0 (wdM ad cI cZ cL (sPC9 J (h * 3 + kd) v) rd pr M1 ov) ∧ M1.1 = 0 ∧ MJ (sPC9 J (h * 3 + kd) v) M1) (zB9 D classes (wdC ad cI cZ cL J0 rd0 pr0 G0 K0 (wdM ad cI cZ cL J rd pr M ov))) A) ([.ref (ad 19), .int (iZ ((h : Nat) : Int)), .int (iZ ((kd : Nat) : Int)), .int (iZ ((v : Nat) : Int))] : List Value).toArray s 0 0 A) (F0 m 0 ls []) from K9 s.heap [] ls hP hD hS hl
  clear hP hD hS hl
  intro H locs ls hP hD hS hl
  refine lv_aload_n hx hb d_M_caught_0 rfl (lv_at hl 0 rfl) ?_
  refine lv_iload_n hx hb d_M_caught_1 rfl (lv_at hl 1 rfl) ?_
  refine lv_aload_n hx hb d_M_caught_2 rfl (lv_at hl 0 rfl) ?_
  refine va_get (D := D) (ci := 5) (v := .int (iZ ((jn J : Nat) : Int))) (C := n_M) (T := f_M) (N := 17) hx hb hts in_M hown hK hP 19 rfl rfl 2 (by decide) (hts _ fl_M_63) (fun _ h9 => h9) rfl d_M_caught_3 ?_
  refine z_callSR (As := [.int (iZ ((h : Nat) : Int)), .int (iZ ((jn J : Nat) : Int))]) (rest := [.ref (ad 19)]) zTB Z (k_M_isIn (a := ((h : Nat) : Int)) (b := ((jn J : Nat) : Int)) (by omega)) ⟨ml_M_59, sm_M_isIn, ini_M, co_M_isIn⟩ zd_M_isIn ⟨Nat.le_of_ble_eq_true rfl, Nat.le_of_ble_eq_true rfl⟩ hP hK hl.1 rfl (Nat.le_of_ble_eq_true rfl) d_M_caught_6 ⟨Nat.zero_le _, Nat.zero_le _⟩ ?_
  refine W.eq (g2 := F0 m 9 ls [.int (bI (decide (0 ≤ ((h : Nat) : Int) ∧ ((h : Nat) : Int) < ((jn J : Nat) : Int)))), .ref (ad 19)]) rfl ?_
  refine z_if_eqB (b := decide (0 ≤ ((h : Nat) : Int) ∧ ((h : Nat) : Int) < ((jn J : Nat) : Int))) (tgt := 20) hx hb d_M_caught_9 (by decide) (fun q9 => ?_) (fun q9 => ?_)
  · skip
    replace q9 := of_decide_eq_false q9
    exfalso; omega
  · skip
    replace q9 := of_decide_eq_true q9
    refine lv_iload_n hx hb d_M_caught_12 rfl (lv_at hl 2 rfl) ?_
    refine lv_iconst (v := iZ ((3 : Nat) : Int)) hx hb d_M_caught_13 (by decide) ?_
    refine z_callSR (As := [.int (iZ ((kd : Nat) : Int)), .int (iZ ((3 : Nat) : Int))]) (rest := [.ref (ad 19)]) zTB Z (k_M_isIn (a := ((kd : Nat) : Int)) (b := ((3 : Nat) : Int)) (by omega)) ⟨ml_M_59, sm_M_isIn, ini_M, co_M_isIn⟩ zd_M_isIn ⟨Nat.le_of_ble_eq_true rfl, Nat.le_of_ble_eq_true rfl⟩ hP hK hl.1 rfl (Nat.le_of_ble_eq_true rfl) d_M_caught_14 ⟨Nat.zero_le _, Nat.zero_le _⟩ ?_
    refine W.eq (g2 := F0 m 17 ls [.int (bI (decide (0 ≤ ((kd : Nat) : Int) ∧ ((kd : Nat) : Int) < ((3 : Nat) : Int)))), .ref (ad 19)]) rfl ?_
    refine z_if_neB (b := decide (0 ≤ ((kd : Nat) : Int) ∧ ((kd : Nat) : Int) < ((3 : Nat) : Int))) (tgt := 24) hx hb d_M_caught_17 (by decide) (fun q17 => ?_) (fun q17 => ?_)
    · skip
      replace q17 := of_decide_eq_true q17
      refine lv_iload_n hx hb d_M_caught_24 rfl (lv_at hl 3 rfl) ?_
      refine z_if_lt (a := ((v : Nat) : Int)) (tgt := 35) hx hb (by omega) d_M_caught_25 (by decide) (fun q25 => ?_) (fun q25 => ?_)
      · skip
        exfalso; omega
      · skip
        refine lv_iload_n hx hb d_M_caught_28 rfl (lv_at hl 3 rfl) ?_
        refine lv_sipush (v := iZ ((1000 : Nat) : Int)) hx hb d_M_caught_29 (by decide) ?_
        refine z_icmp_le (a := ((v : Nat) : Int)) (b := ((1000 : Nat) : Int)) (tgt := 39) hx hb (by omega) d_M_caught_32 (by decide) (fun q32 => ?_) (fun q32 => ?_)
        · skip
          refine lv_iconst (v := iZ ((0 : Nat) : Int)) hx hb d_M_caught_39 (by decide) ?_
          refine va_put (D := D) (ci := 5) (v := .int (iZ ((0 : Nat) : Int))) (ty := .int) (C := n_M) (T := f_M) (N := 17) hx hb hts in_M ty_M tyo_M nm_M hown hK hP hD hS 19 rfl rfl 0 (by decide) (hts _ fl_M_55) (fun _ h9 => h9) rfl (by decide +kernel) rfl rfl (Nat.le_of_ble_eq_true rfl) d_M_caught_40 (fun H locs hP hD hS => ?_)
          have hP : va_P D classes (wdC ad cI cZ cL J0 rd0 pr0 G0 K0 (wdM ad cI cZ cL J rd pr (0, M.2) ov)) H := hP
          have hD : va_D A (wdC ad cI cZ cL J0 rd0 pr0 G0 K0 (wdM ad cI cZ cL J rd pr (0, M.2) ov)) := hD
          refine lv_aload_n hx hb d_M_caught_43 rfl (lv_at hl 0 rfl) ?_
          refine va_get (D := D) (ci := 5) (v := .int (iZ ((0 : Nat) : Int))) (C := n_M) (T := f_M) (N := 17) hx hb hts in_M hown hK hP 19 rfl rfl 0 (by decide) (hts _ fl_M_55) (fun _ h9 => h9) rfl d_M_caught_44 ?_
          refine z_if_le (a := ((0 : Nat) : Int)) (tgt := 52) hx hb (by omega) d_M_caught_47 (by decide) (fun q47 => ?_) (fun q47 => ?_)
          · skip
            refine lv_aload_n hx hb d_M_caught_52 rfl (lv_at hl 0 rfl) ?_
            refine va_get (D := D) (ci := 5) (v := .ref (ad 22)) (C := n_M) (T := f_M) (N := 17) hx hb hts in_M hown hK hP 19 rfl rfl 5 (by decide) (hts _ fl_M_17) (fun _ h9 => h9) rfl d_M_caught_53 ?_
            refine lv_iconst (v := iZ ((3 : Nat) : Int)) hx hb d_M_caught_56 (by decide) ?_
            refine lv_iload_n hx hb d_M_caught_57 rfl (lv_at hl 1 rfl) ?_
            refine z_imulN (u := 3) (v := h) hx hb d_M_caught_58 ?_
            refine lv_iload_n hx hb d_M_caught_59 rfl (lv_at hl 2 rfl) ?_
            refine z_iaddN (u := 3 * h) (v := kd) hx hb d_M_caught_60 ?_
            refine z_ialdN (f := jct J) hx hb hK hP 22 0 rfl rfl (h * 3 + kd) (by omega) d_M_caught_61 ?_
            refine lv_iload_n hx hb d_M_caught_62 rfl (lv_at hl 3 rfl) ?_
            refine z_icmp_eq (a := (((jct J) (h * 3 + kd) : Nat) : Int)) (b := ((v : Nat) : Int)) (tgt := 70) hx hb (by omega) d_M_caught_63 (by decide) (fun q63 => ?_) (fun q63 => ?_)
            · skip
              refine lv_iconst (v := iZ ((0 : Nat) : Int)) hx hb d_M_caught_70 (by decide) ?_
              refine lv_istore (lv' := [(4, .int (iZ ((0 : Nat) : Int))), (0, .ref (ad 19)), (1, .int (iZ ((h : Nat) : Int))), (2, .int (iZ ((kd : Nat) : Int))), (3, .int (iZ ((v : Nat) : Int)))]) hx hb d_M_caught_71 hl (by decide) rfl (fun ls hl => ?_)
              refine lv_aload_n hx hb d_M_caught_73 rfl (lv_at hl 1 rfl) ?_
              refine va_get (D := D) (ci := 5) (v := .ref (ad 22)) (C := n_M) (T := f_M) (N := 17) hx hb hts in_M hown hK hP 19 rfl rfl 5 (by decide) (hts _ fl_M_17) (fun _ h9 => h9) rfl d_M_caught_74 ?_
              refine lv_iconst (v := iZ ((3 : Nat) : Int)) hx hb d_M_caught_77 (by decide) ?_
              refine lv_iload_n hx hb d_M_caught_78 rfl (lv_at hl 2 rfl) ?_
              refine z_imulN (u := 3) (v := h) hx hb d_M_caught_79 ?_
              refine lv_iload_n hx hb d_M_caught_80 rfl (lv_at hl 3 rfl) ?_
              refine z_iaddN (u := 3 * h) (v := kd) hx hb d_M_caught_81 ?_
              refine lv_iload_n hx hb d_M_caught_82 rfl (lv_at hl 4 rfl) ?_
              refine z_iastN (f := jct J) (v := v) hx hb hK hP hD hS 22 0 rfl rfl (h * 3 + kd) (by omega) d_M_caught_83 (fun H locs hP hD hS => ?_)
              have hP : va_P D classes (wdC ad cI cZ cL J0 rd0 pr0 G0 K0 (wdM ad cI cZ cL (jx J, jn J, jk J, jop J, jou J, jdv J, (nu (jct J) (h * 3 + kd) v), jdh J, jph J, jsp J) rd pr (0, M.2) ov)) H := hP
              have hD : va_D A (wdC ad cI cZ cL J0 rd0 pr0 G0 K0 (wdM ad cI cZ cL (jx J, jn J, jk J, jop J, jou J, jdv J, (nu (jct J) (h * 3 + kd) v), jdh J, jph J, jsp J) rd pr (0, M.2) ov)) := hD
              refine lv_iload hx hb d_M_caught_84 (lv_at hl 0 rfl) ?_
              refine W.eq (g2 := F0 m 86 ls [.int (bI false)]) rfl ?_
              exact z_zret Z hP hS d_M_caught_86 wdM_map (⟨_, by first | rw [show decide (jct J (h * 3 + kd) ≠ v) = true from decide_eq_true (by omega)] | rw [show decide (jct J (h * 3 + kd) ≠ v) = false from decide_eq_false (by omega)], rfl, rfl, hM⟩)
            · skip
              refine lv_iconst (v := iZ ((1 : Nat) : Int)) hx hb d_M_caught_66 (by decide) ?_
              refine lv_goto (tgt := 71) hx hb d_M_caught_67 (by decide) ?_
              refine lv_istore (lv' := [(4, .int (iZ ((1 : Nat) : Int))), (0, .ref (ad 19)), (1, .int (iZ ((h : Nat) : Int))), (2, .int (iZ ((kd : Nat) : Int))), (3, .int (iZ ((v : Nat) : Int)))]) hx hb d_M_caught_71 hl (by decide) rfl (fun ls hl => ?_)
              refine lv_aload_n hx hb d_M_caught_73 rfl (lv_at hl 1 rfl) ?_
              refine va_get (D := D) (ci := 5) (v := .ref (ad 22)) (C := n_M) (T := f_M) (N := 17) hx hb hts in_M hown hK hP 19 rfl rfl 5 (by decide) (hts _ fl_M_17) (fun _ h9 => h9) rfl d_M_caught_74 ?_
              refine lv_iconst (v := iZ ((3 : Nat) : Int)) hx hb d_M_caught_77 (by decide) ?_
              refine lv_iload_n hx hb d_M_caught_78 rfl (lv_at hl 2 rfl) ?_
              refine z_imulN (u := 3) (v := h) hx hb d_M_caught_79 ?_
              refine lv_iload_n hx hb d_M_caught_80 rfl (lv_at hl 3 rfl) ?_
              refine z_iaddN (u := 3 * h) (v := kd) hx hb d_M_caught_81 ?_
              refine lv_iload_n hx hb d_M_caught_82 rfl (lv_at hl 4 rfl) ?_
              refine z_iastN (f := jct J) (v := v) hx hb hK hP hD hS 22 0 rfl rfl (h * 3 + kd) (by omega) d_M_caught_83 (fun H locs hP hD hS => ?_)
              have hP : va_P D classes (wdC ad cI cZ cL J0 rd0 pr0 G0 K0 (wdM ad cI cZ cL (jx J, jn J, jk J, jop J, jou J, jdv J, (nu (jct J) (h * 3 + kd) v), jdh J, jph J, jsp J) rd pr (0, M.2) ov)) H := hP
              have hD : va_D A (wdC ad cI cZ cL J0 rd0 pr0 G0 K0 (wdM ad cI cZ cL (jx J, jn J, jk J, jop J, jou J, jdv J, (nu (jct J) (h * 3 + kd) v), jdh J, jph J, jsp J) rd pr (0, M.2) ov)) := hD
              refine lv_iload hx hb d_M_caught_84 (lv_at hl 0 rfl) ?_
              refine W.eq (g2 := F0 m 86 ls [.int (bI true)]) rfl ?_
              exact z_zret Z hP hS d_M_caught_86 wdM_map (⟨_, by first | rw [show decide (jct J (h * 3 + kd) ≠ v) = true from decide_eq_true (by omega)] | rw [show decide (jct J (h * 3 + kd) ≠ v) = false from decide_eq_false (by omega)], rfl, rfl, hM⟩)
          · skip
            exfalso; omega
        · skip
          exfalso; omega
    · skip
      replace q17 := of_decide_eq_false q17
      exfalso; omega

set_option maxHeartbeats 4000000 in
set_option maxRecDepth 100000 in
theorem k_M_outx1 {l : Launch} {D : va_G} {ad : Nat → Nat} {cI cZ cL : ClassId} {J J0 : SJ} {rd rd0 : Nat → Int} {pr pr0 : Nat → Nat} {G0 : SH} {K0 : SK} {M : SM} {ov : Nat → Int64} (hI : JI J) (hM : MJ J M) {a : Int} {on : Bool} (h : z32 a ∧ (a < 0 ∨ 4 ≤ a)) : zMi l TB D classes (tysW cI cZ cL) y_M_out w_M_out 1 21 [.ref (ad 19), .int (iZ (a)), .int (bI (on))] (wdC ad cI cZ cL J0 rd0 pr0 G0 K0 (wdM ad cI cZ cL J rd pr M ov)) (fun r w => ∃ M1 : SM, w = wdC ad cI cZ cL J0 rd0 pr0 G0 K0 (wdM ad cI cZ cL J rd pr M1 ov) ∧ M1.1 = 1 ∧ MJ J M1) := by
  refine z_of (Qc := fun A => va_Qi (fun r w => ∃ M1 : SM, w = wdC ad cI cZ cL J0 rd0 pr0 G0 K0 (wdM ad cI cZ cL J rd pr M1 ov) ∧ M1.1 = 1 ∧ MJ J M1) (zB9 D classes (wdC ad cI cZ cL J0 rd0 pr0 G0 K0 (wdM ad cI cZ cL J rd pr M ov))) A) (by decide) (Nat.le_of_ble_eq_true rfl) ?_
  intro p e s m below meth c A ls Z hP hK hD hS hA hl
  obtain ⟨hx, hb, hr, hml, hown, hts, hE, hlocks⟩ := id Z
  have hl : lv_has ls 4 [(0, .ref (ad 19)), (1, .int (iZ (a))), (2, .int (bI (on)))] := hl
  obtain ⟨hn32, hk2, hpr, hct⟩ := id hI
  suffices K9 : ∀ (H : Heap) (locs : List Loc) (ls : Array Slot), va_P D classes (wdC ad cI cZ cL J0 rd0 pr0 G0 K0 (wdM ad cI cZ cL J rd pr M ov)) H → va_D A (wdC ad cI cZ cL J0 rd0 pr0 G0 K0 (wdM ad cI cZ cL J rd pr M ov)) → va_S A s.heap H locs → lv_has ls 4 [(0, .ref (ad 19)), (1, .int (iZ (a))), (2, .int (bI (on)))] → W p l e (zRm 1 21) s m ([.ref (ad 19), .int (iZ (a)), .int (bI (on))] : List Value).toArray below meth c H locs 0 0 (MQ below (va_Qi (fun r w => ∃ M1 : SM, w = wdC ad cI cZ cL J0 rd0 pr0 G0 K0 (wdM ad cI cZ cL J rd pr M1 ov) ∧ M1.1 = 1 ∧ MJ J M1) (zB9 D classes (wdC ad cI cZ cL J0 rd0 pr0 G0 K0 (wdM ad cI cZ cL J rd pr M ov))) A) ([.ref (ad 19), .int (iZ (a)), .int (bI (on))] : List Value).toArray s 0 0 A) (F0 m 0 ls []) from K9 s.heap [] ls hP hD hS hl
  clear hP hD hS hl
  intro H locs ls hP hD hS hl
  refine lv_aload_n hx hb d_M_out_0 rfl (lv_at hl 0 rfl) ?_
  refine lv_iload_n hx hb d_M_out_1 rfl (lv_at hl 1 rfl) ?_
  refine lv_iconst (v := iZ ((4 : Nat) : Int)) hx hb d_M_out_2 (by decide) ?_
  refine z_callSR (As := [.int (iZ (a)), .int (iZ ((4 : Nat) : Int))]) (rest := [.ref (ad 19)]) zTB Z (k_M_isIn (a := a) (b := ((4 : Nat) : Int)) (by omega)) ⟨ml_M_59, sm_M_isIn, ini_M, co_M_isIn⟩ zd_M_isIn ⟨Nat.le_of_ble_eq_true rfl, Nat.le_of_ble_eq_true rfl⟩ hP hK hl.1 rfl (Nat.le_of_ble_eq_true rfl) d_M_out_3 ⟨Nat.zero_le _, Nat.zero_le _⟩ ?_
  refine W.eq (g2 := F0 m 6 ls [.int (bI (decide (0 ≤ a ∧ a < ((4 : Nat) : Int)))), .ref (ad 19)]) rfl ?_
  refine z_if_eqB (b := decide (0 ≤ a ∧ a < ((4 : Nat) : Int))) (tgt := 13) hx hb d_M_out_6 (by decide) (fun q6 => ?_) (fun q6 => ?_)
  · skip
    replace q6 := of_decide_eq_false q6
    refine lv_iconst (v := iZ ((1 : Nat) : Int)) hx hb d_M_out_13 (by decide) ?_
    refine va_put (D := D) (ci := 5) (v := .int (iZ ((1 : Nat) : Int))) (ty := .int) (C := n_M) (T := f_M) (N := 17) hx hb hts in_M ty_M tyo_M nm_M hown hK hP hD hS 19 rfl rfl 0 (by decide) (hts _ fl_M_55) (fun _ h9 => h9) rfl (by decide +kernel) rfl rfl (Nat.le_of_ble_eq_true rfl) d_M_out_14 (fun H locs hP hD hS => ?_)
    have hP : va_P D classes (wdC ad cI cZ cL J0 rd0 pr0 G0 K0 (wdM ad cI cZ cL J rd pr (1, M.2) ov)) H := hP
    have hD : va_D A (wdC ad cI cZ cL J0 rd0 pr0 G0 K0 (wdM ad cI cZ cL J rd pr (1, M.2) ov)) := hD
    refine lv_aload_n hx hb d_M_out_17 rfl (lv_at hl 0 rfl) ?_
    refine va_get (D := D) (ci := 5) (v := .int (iZ ((1 : Nat) : Int))) (C := n_M) (T := f_M) (N := 17) hx hb hts in_M hown hK hP 19 rfl rfl 0 (by decide) (hts _ fl_M_55) (fun _ h9 => h9) rfl d_M_out_18 ?_
    refine z_if_le (a := ((1 : Nat) : Int)) (tgt := 26) hx hb (by omega) d_M_out_21 (by decide) (fun q21 => ?_) (fun q21 => ?_)
    · skip
      exfalso; omega
    · skip
      refine lv_iconst (v := iZ ((0 : Nat) : Int)) hx hb d_M_out_24 (by decide) ?_
      refine W.eq (g2 := F0 m 25 ls [.int (bI false)]) rfl ?_
      exact z_zret Z hP hS d_M_out_25 wdM_map (⟨_, rfl, rfl, hM⟩)
  · skip
    replace q6 := of_decide_eq_true q6
    exfalso; omega

set_option maxHeartbeats 4000000 in
set_option maxRecDepth 100000 in
theorem k_M_out0 {l : Launch} {D : va_G} {ad : Nat → Nat} {cI cZ cL : ClassId} {J J0 : SJ} {rd rd0 : Nat → Int} {pr pr0 : Nat → Nat} {G0 : SH} {K0 : SK} {M : SM} {ov : Nat → Int64} (hI : JI J) (hM : MJ J M) {sh : Nat} {on : Bool} (hsh : sh < 4) : zMi l TB D classes (tysW cI cZ cL) y_M_out w_M_out 1 21 [.ref (ad 19), .int (iZ ((sh : Nat) : Int)), .int (bI (on))] (wdC ad cI cZ cL J0 rd0 pr0 G0 K0 (wdM ad cI cZ cL J rd pr M ov)) (fun r w => ∃ M1 : SM, r = bI (jou J sh != on) ∧ w = wdC ad cI cZ cL J0 rd0 pr0 G0 K0 (wdM ad cI cZ cL (sLO J sh on) rd pr M1 ov) ∧ M1.1 = 0 ∧ MJ (sLO J sh on) M1) := by
  refine z_of (Qc := fun A => va_Qi (fun r w => ∃ M1 : SM, r = bI (jou J sh != on) ∧ w = wdC ad cI cZ cL J0 rd0 pr0 G0 K0 (wdM ad cI cZ cL (sLO J sh on) rd pr M1 ov) ∧ M1.1 = 0 ∧ MJ (sLO J sh on) M1) (zB9 D classes (wdC ad cI cZ cL J0 rd0 pr0 G0 K0 (wdM ad cI cZ cL J rd pr M ov))) A) (by decide) (Nat.le_of_ble_eq_true rfl) ?_
  intro p e s m below meth c A ls Z hP hK hD hS hA hl
  obtain ⟨hx, hb, hr, hml, hown, hts, hE, hlocks⟩ := id Z
  have hl : lv_has ls 4 [(0, .ref (ad 19)), (1, .int (iZ ((sh : Nat) : Int))), (2, .int (bI (on)))] := hl
  obtain ⟨hn32, hk2, hpr, hct⟩ := id hI
  suffices K9 : ∀ (H : Heap) (locs : List Loc) (ls : Array Slot), va_P D classes (wdC ad cI cZ cL J0 rd0 pr0 G0 K0 (wdM ad cI cZ cL J rd pr M ov)) H → va_D A (wdC ad cI cZ cL J0 rd0 pr0 G0 K0 (wdM ad cI cZ cL J rd pr M ov)) → va_S A s.heap H locs → lv_has ls 4 [(0, .ref (ad 19)), (1, .int (iZ ((sh : Nat) : Int))), (2, .int (bI (on)))] → W p l e (zRm 1 21) s m ([.ref (ad 19), .int (iZ ((sh : Nat) : Int)), .int (bI (on))] : List Value).toArray below meth c H locs 0 0 (MQ below (va_Qi (fun r w => ∃ M1 : SM, r = bI (jou J sh != on) ∧ w = wdC ad cI cZ cL J0 rd0 pr0 G0 K0 (wdM ad cI cZ cL (sLO J sh on) rd pr M1 ov) ∧ M1.1 = 0 ∧ MJ (sLO J sh on) M1) (zB9 D classes (wdC ad cI cZ cL J0 rd0 pr0 G0 K0 (wdM ad cI cZ cL J rd pr M ov))) A) ([.ref (ad 19), .int (iZ ((sh : Nat) : Int)), .int (bI (on))] : List Value).toArray s 0 0 A) (F0 m 0 ls []) from K9 s.heap [] ls hP hD hS hl
  clear hP hD hS hl
  intro H locs ls hP hD hS hl
  refine lv_aload_n hx hb d_M_out_0 rfl (lv_at hl 0 rfl) ?_
  refine lv_iload_n hx hb d_M_out_1 rfl (lv_at hl 1 rfl) ?_
  refine lv_iconst (v := iZ ((4 : Nat) : Int)) hx hb d_M_out_2 (by decide) ?_
  refine z_callSR (As := [.int (iZ ((sh : Nat) : Int)), .int (iZ ((4 : Nat) : Int))]) (rest := [.ref (ad 19)]) zTB Z (k_M_isIn (a := ((sh : Nat) : Int)) (b := ((4 : Nat) : Int)) (by omega)) ⟨ml_M_59, sm_M_isIn, ini_M, co_M_isIn⟩ zd_M_isIn ⟨Nat.le_of_ble_eq_true rfl, Nat.le_of_ble_eq_true rfl⟩ hP hK hl.1 rfl (Nat.le_of_ble_eq_true rfl) d_M_out_3 ⟨Nat.zero_le _, Nat.zero_le _⟩ ?_
  refine W.eq (g2 := F0 m 6 ls [.int (bI (decide (0 ≤ ((sh : Nat) : Int) ∧ ((sh : Nat) : Int) < ((4 : Nat) : Int)))), .ref (ad 19)]) rfl ?_
  refine z_if_eqB (b := decide (0 ≤ ((sh : Nat) : Int) ∧ ((sh : Nat) : Int) < ((4 : Nat) : Int))) (tgt := 13) hx hb d_M_out_6 (by decide) (fun q6 => ?_) (fun q6 => ?_)
  · skip
    replace q6 := of_decide_eq_false q6
    exfalso; omega
  · skip
    replace q6 := of_decide_eq_true q6
    refine lv_iconst (v := iZ ((0 : Nat) : Int)) hx hb d_M_out_9 (by decide) ?_
    refine lv_goto (tgt := 14) hx hb d_M_out_10 (by decide) ?_
    refine va_put (D := D) (ci := 5) (v := .int (iZ ((0 : Nat) : Int))) (ty := .int) (C := n_M) (T := f_M) (N := 17) hx hb hts in_M ty_M tyo_M nm_M hown hK hP hD hS 19 rfl rfl 0 (by decide) (hts _ fl_M_55) (fun _ h9 => h9) rfl (by decide +kernel) rfl rfl (Nat.le_of_ble_eq_true rfl) d_M_out_14 (fun H locs hP hD hS => ?_)
    have hP : va_P D classes (wdC ad cI cZ cL J0 rd0 pr0 G0 K0 (wdM ad cI cZ cL J rd pr (0, M.2) ov)) H := hP
    have hD : va_D A (wdC ad cI cZ cL J0 rd0 pr0 G0 K0 (wdM ad cI cZ cL J rd pr (0, M.2) ov)) := hD
    refine lv_aload_n hx hb d_M_out_17 rfl (lv_at hl 0 rfl) ?_
    refine va_get (D := D) (ci := 5) (v := .int (iZ ((0 : Nat) : Int))) (C := n_M) (T := f_M) (N := 17) hx hb hts in_M hown hK hP 19 rfl rfl 0 (by decide) (hts _ fl_M_55) (fun _ h9 => h9) rfl d_M_out_18 ?_
    refine z_if_le (a := ((0 : Nat) : Int)) (tgt := 26) hx hb (by omega) d_M_out_21 (by decide) (fun q21 => ?_) (fun q21 => ?_)
    · skip
      refine lv_aload_n hx hb d_M_out_26 rfl (lv_at hl 0 rfl) ?_
      refine va_get (D := D) (ci := 5) (v := .ref (ad 27)) (C := n_M) (T := f_M) (N := 17) hx hb hts in_M hown hK hP 19 rfl rfl 11 (by decide) (hts _ fl_M_32) (fun _ h9 => h9) rfl d_M_out_27 ?_
      refine lv_iload_n hx hb d_M_out_30 rfl (lv_at hl 1 rfl) ?_
      refine z_zald (f := jou J) hx hb hK hP 27 1 rfl rfl (sh) (by omega) d_M_out_31 ?_
      refine lv_iload_n hx hb d_M_out_32 rfl (lv_at hl 2 rfl) ?_
      refine lv_icmp_eq (tgt := 40) hx hb d_M_out_33 (by decide) (fun q33 => ?_) (fun q33 => ?_)
      · skip
        refine lv_iconst (v := iZ ((0 : Nat) : Int)) hx hb d_M_out_40 (by decide) ?_
        refine lv_istore_n (lv' := [(3, .int (iZ ((0 : Nat) : Int))), (0, .ref (ad 19)), (1, .int (iZ ((sh : Nat) : Int))), (2, .int (bI (on)))]) hx hb d_M_out_41 rfl hl (by decide) rfl (fun ls hl => ?_)
        refine lv_aload_n hx hb d_M_out_42 rfl (lv_at hl 1 rfl) ?_
        refine va_get (D := D) (ci := 5) (v := .ref (ad 27)) (C := n_M) (T := f_M) (N := 17) hx hb hts in_M hown hK hP 19 rfl rfl 11 (by decide) (hts _ fl_M_32) (fun _ h9 => h9) rfl d_M_out_43 ?_
        refine lv_iload_n hx hb d_M_out_46 rfl (lv_at hl 2 rfl) ?_
        refine lv_iload_n hx hb d_M_out_47 rfl (lv_at hl 3 rfl) ?_
        refine z_zast (f := jou J) (v := on) hx hb hK hP hD hS 27 1 rfl rfl (sh) (by omega) d_M_out_48 (fun H locs hP hD hS => ?_)
        have hP : va_P D classes (wdC ad cI cZ cL J0 rd0 pr0 G0 K0 (wdM ad cI cZ cL (jx J, jn J, jk J, jop J, (zub (jou J) (sh) on), jdv J, jct J, jdh J, jph J, jsp J) rd pr (0, M.2) ov)) H := hP
        have hD : va_D A (wdC ad cI cZ cL J0 rd0 pr0 G0 K0 (wdM ad cI cZ cL (jx J, jn J, jk J, jop J, (zub (jou J) (sh) on), jdv J, jct J, jdh J, jph J, jsp J) rd pr (0, M.2) ov)) := hD
        refine lv_iload_n hx hb d_M_out_49 rfl (lv_at hl 0 rfl) ?_
        refine W.eq (g2 := F0 m 50 ls [.int (bI false)]) rfl ?_
        exact z_zret Z hP hS d_M_out_50 wdM_map (⟨_, by first | rw [show (jou J sh != on) = true from bI_ne q33] | rw [show (jou J sh != on) = false from bI_eq q33], rfl, rfl, hM⟩)
      · skip
        refine lv_iconst (v := iZ ((1 : Nat) : Int)) hx hb d_M_out_36 (by decide) ?_
        refine lv_goto (tgt := 41) hx hb d_M_out_37 (by decide) ?_
        refine lv_istore_n (lv' := [(3, .int (iZ ((1 : Nat) : Int))), (0, .ref (ad 19)), (1, .int (iZ ((sh : Nat) : Int))), (2, .int (bI (on)))]) hx hb d_M_out_41 rfl hl (by decide) rfl (fun ls hl => ?_)
        refine lv_aload_n hx hb d_M_out_42 rfl (lv_at hl 1 rfl) ?_
        refine va_get (D := D) (ci := 5) (v := .ref (ad 27)) (C := n_M) (T := f_M) (N := 17) hx hb hts in_M hown hK hP 19 rfl rfl 11 (by decide) (hts _ fl_M_32) (fun _ h9 => h9) rfl d_M_out_43 ?_
        refine lv_iload_n hx hb d_M_out_46 rfl (lv_at hl 2 rfl) ?_
        refine lv_iload_n hx hb d_M_out_47 rfl (lv_at hl 3 rfl) ?_
        refine z_zast (f := jou J) (v := on) hx hb hK hP hD hS 27 1 rfl rfl (sh) (by omega) d_M_out_48 (fun H locs hP hD hS => ?_)
        have hP : va_P D classes (wdC ad cI cZ cL J0 rd0 pr0 G0 K0 (wdM ad cI cZ cL (jx J, jn J, jk J, jop J, (zub (jou J) (sh) on), jdv J, jct J, jdh J, jph J, jsp J) rd pr (0, M.2) ov)) H := hP
        have hD : va_D A (wdC ad cI cZ cL J0 rd0 pr0 G0 K0 (wdM ad cI cZ cL (jx J, jn J, jk J, jop J, (zub (jou J) (sh) on), jdv J, jct J, jdh J, jph J, jsp J) rd pr (0, M.2) ov)) := hD
        refine lv_iload_n hx hb d_M_out_49 rfl (lv_at hl 0 rfl) ?_
        refine W.eq (g2 := F0 m 50 ls [.int (bI true)]) rfl ?_
        exact z_zret Z hP hS d_M_out_50 wdM_map (⟨_, by first | rw [show (jou J sh != on) = true from bI_ne q33] | rw [show (jou J sh != on) = false from bI_eq q33], rfl, rfl, hM⟩)
    · skip
      exfalso; omega

set_option maxHeartbeats 4000000 in
set_option maxRecDepth 100000 in
theorem k_M_armx1 {l : Launch} {D : va_G} {ad : Nat → Nat} {cI cZ cL : ClassId} {J J0 : SJ} {rd rd0 : Nat → Int} {pr pr0 : Nat → Nat} {G0 : SH} {K0 : SK} {M : SM} {ov : Nat → Int64} (hI : JI J) (hM : MJ J M) {a : Int} (h : z32 a ∧ (a < 0 ∨ ((jn J : Nat) : Int) ≤ a)) : zMi l TB D classes (tysW cI cZ cL) y_M_arm w_M_arm 1 21 [.ref (ad 19), .int (iZ (a))] (wdC ad cI cZ cL J0 rd0 pr0 G0 K0 (wdM ad cI cZ cL J rd pr M ov)) (fun r w => ∃ M1 : SM, w = wdC ad cI cZ cL J0 rd0 pr0 G0 K0 (wdM ad cI cZ cL J rd pr M1 ov) ∧ M1.1 = 1 ∧ MJ J M1) := by
  refine z_of (Qc := fun A => va_Qi (fun r w => ∃ M1 : SM, w = wdC ad cI cZ cL J0 rd0 pr0 G0 K0 (wdM ad cI cZ cL J rd pr M1 ov) ∧ M1.1 = 1 ∧ MJ J M1) (zB9 D classes (wdC ad cI cZ cL J0 rd0 pr0 G0 K0 (wdM ad cI cZ cL J rd pr M ov))) A) (by decide) (Nat.le_of_ble_eq_true rfl) ?_
  intro p e s m below meth c A ls Z hP hK hD hS hA hl
  obtain ⟨hx, hb, hr, hml, hown, hts, hE, hlocks⟩ := id Z
  have hl : lv_has ls 2 [(0, .ref (ad 19)), (1, .int (iZ (a)))] := hl
  obtain ⟨hn32, hk2, hpr, hct⟩ := id hI
  suffices K9 : ∀ (H : Heap) (locs : List Loc) (ls : Array Slot), va_P D classes (wdC ad cI cZ cL J0 rd0 pr0 G0 K0 (wdM ad cI cZ cL J rd pr M ov)) H → va_D A (wdC ad cI cZ cL J0 rd0 pr0 G0 K0 (wdM ad cI cZ cL J rd pr M ov)) → va_S A s.heap H locs → lv_has ls 2 [(0, .ref (ad 19)), (1, .int (iZ (a)))] → W p l e (zRm 1 21) s m ([.ref (ad 19), .int (iZ (a))] : List Value).toArray below meth c H locs 0 0 (MQ below (va_Qi (fun r w => ∃ M1 : SM, w = wdC ad cI cZ cL J0 rd0 pr0 G0 K0 (wdM ad cI cZ cL J rd pr M1 ov) ∧ M1.1 = 1 ∧ MJ J M1) (zB9 D classes (wdC ad cI cZ cL J0 rd0 pr0 G0 K0 (wdM ad cI cZ cL J rd pr M ov))) A) ([.ref (ad 19), .int (iZ (a))] : List Value).toArray s 0 0 A) (F0 m 0 ls []) from K9 s.heap [] ls hP hD hS hl
  clear hP hD hS hl
  intro H locs ls hP hD hS hl
  refine lv_aload_n hx hb d_M_arm_0 rfl (lv_at hl 0 rfl) ?_
  refine lv_iload_n hx hb d_M_arm_1 rfl (lv_at hl 1 rfl) ?_
  refine lv_aload_n hx hb d_M_arm_2 rfl (lv_at hl 0 rfl) ?_
  refine va_get (D := D) (ci := 5) (v := .int (iZ ((jn J : Nat) : Int))) (C := n_M) (T := f_M) (N := 17) hx hb hts in_M hown hK hP 19 rfl rfl 2 (by decide) (hts _ fl_M_63) (fun _ h9 => h9) rfl d_M_arm_3 ?_
  refine z_callSR (As := [.int (iZ (a)), .int (iZ ((jn J : Nat) : Int))]) (rest := [.ref (ad 19)]) zTB Z (k_M_isIn (a := a) (b := ((jn J : Nat) : Int)) (by omega)) ⟨ml_M_59, sm_M_isIn, ini_M, co_M_isIn⟩ zd_M_isIn ⟨Nat.le_of_ble_eq_true rfl, Nat.le_of_ble_eq_true rfl⟩ hP hK hl.1 rfl (Nat.le_of_ble_eq_true rfl) d_M_arm_6 ⟨Nat.zero_le _, Nat.zero_le _⟩ ?_
  refine W.eq (g2 := F0 m 9 ls [.int (bI (decide (0 ≤ a ∧ a < ((jn J : Nat) : Int)))), .ref (ad 19)]) rfl ?_
  refine z_if_eqB (b := decide (0 ≤ a ∧ a < ((jn J : Nat) : Int))) (tgt := 16) hx hb d_M_arm_9 (by decide) (fun q9 => ?_) (fun q9 => ?_)
  · skip
    replace q9 := of_decide_eq_false q9
    refine lv_iconst (v := iZ ((1 : Nat) : Int)) hx hb d_M_arm_16 (by decide) ?_
    refine va_put (D := D) (ci := 5) (v := .int (iZ ((1 : Nat) : Int))) (ty := .int) (C := n_M) (T := f_M) (N := 17) hx hb hts in_M ty_M tyo_M nm_M hown hK hP hD hS 19 rfl rfl 0 (by decide) (hts _ fl_M_55) (fun _ h9 => h9) rfl (by decide +kernel) rfl rfl (Nat.le_of_ble_eq_true rfl) d_M_arm_17 (fun H locs hP hD hS => ?_)
    have hP : va_P D classes (wdC ad cI cZ cL J0 rd0 pr0 G0 K0 (wdM ad cI cZ cL J rd pr (1, M.2) ov)) H := hP
    have hD : va_D A (wdC ad cI cZ cL J0 rd0 pr0 G0 K0 (wdM ad cI cZ cL J rd pr (1, M.2) ov)) := hD
    refine lv_aload_n hx hb d_M_arm_20 rfl (lv_at hl 0 rfl) ?_
    refine va_get (D := D) (ci := 5) (v := .int (iZ ((1 : Nat) : Int))) (C := n_M) (T := f_M) (N := 17) hx hb hts in_M hown hK hP 19 rfl rfl 0 (by decide) (hts _ fl_M_55) (fun _ h9 => h9) rfl d_M_arm_21 ?_
    refine z_if_ne (a := ((1 : Nat) : Int)) (tgt := 40) hx hb (by omega) d_M_arm_24 (by decide) (fun q24 => ?_) (fun q24 => ?_)
    · skip
      refine lv_iconst (v := iZ ((0 : Nat) : Int)) hx hb d_M_arm_40 (by decide) ?_
      exact z_iret Z hP hS d_M_arm_41 wdM_map (⟨_, rfl, rfl, hM⟩)
    · skip
      exfalso; omega
  · skip
    replace q9 := of_decide_eq_true q9
    exfalso; omega

set_option maxHeartbeats 4000000 in
set_option maxRecDepth 100000 in
theorem k_M_arm0 {l : Launch} {D : va_G} {ad : Nat → Nat} {cI cZ cL : ClassId} {J J0 : SJ} {rd rd0 : Nat → Int} {pr pr0 : Nat → Nat} {G0 : SH} {K0 : SK} {M : SM} {ov : Nat → Int64} (hI : JI J) (hM : MJ J M) {h : Nat} (hh : h < jn J) : zMi l TB D classes (tysW cI cZ cL) y_M_arm w_M_arm 1 21 [.ref (ad 19), .int (iZ ((h : Nat) : Int))] (wdC ad cI cZ cL J0 rd0 pr0 G0 K0 (wdM ad cI cZ cL J rd pr M ov)) (fun r w => ∃ M1 : SM, r = iZ (((if jdv J h = true then 1 else 0 : Nat)) : Int) ∧ w = wdC ad cI cZ cL J0 rd0 pr0 G0 K0 (wdM ad cI cZ cL J rd pr M1 ov) ∧ M1.1 = 0 ∧ MJ J M1) := by
  refine z_of (Qc := fun A => va_Qi (fun r w => ∃ M1 : SM, r = iZ (((if jdv J h = true then 1 else 0 : Nat)) : Int) ∧ w = wdC ad cI cZ cL J0 rd0 pr0 G0 K0 (wdM ad cI cZ cL J rd pr M1 ov) ∧ M1.1 = 0 ∧ MJ J M1) (zB9 D classes (wdC ad cI cZ cL J0 rd0 pr0 G0 K0 (wdM ad cI cZ cL J rd pr M ov))) A) (by decide) (Nat.le_of_ble_eq_true rfl) ?_
  intro p e s m below meth c A ls Z hP hK hD hS hA hl
  obtain ⟨hx, hb, hr, hml, hown, hts, hE, hlocks⟩ := id Z
  have hl : lv_has ls 2 [(0, .ref (ad 19)), (1, .int (iZ ((h : Nat) : Int)))] := hl
  obtain ⟨hn32, hk2, hpr, hct⟩ := id hI
  suffices K9 : ∀ (H : Heap) (locs : List Loc) (ls : Array Slot), va_P D classes (wdC ad cI cZ cL J0 rd0 pr0 G0 K0 (wdM ad cI cZ cL J rd pr M ov)) H → va_D A (wdC ad cI cZ cL J0 rd0 pr0 G0 K0 (wdM ad cI cZ cL J rd pr M ov)) → va_S A s.heap H locs → lv_has ls 2 [(0, .ref (ad 19)), (1, .int (iZ ((h : Nat) : Int)))] → W p l e (zRm 1 21) s m ([.ref (ad 19), .int (iZ ((h : Nat) : Int))] : List Value).toArray below meth c H locs 0 0 (MQ below (va_Qi (fun r w => ∃ M1 : SM, r = iZ (((if jdv J h = true then 1 else 0 : Nat)) : Int) ∧ w = wdC ad cI cZ cL J0 rd0 pr0 G0 K0 (wdM ad cI cZ cL J rd pr M1 ov) ∧ M1.1 = 0 ∧ MJ J M1) (zB9 D classes (wdC ad cI cZ cL J0 rd0 pr0 G0 K0 (wdM ad cI cZ cL J rd pr M ov))) A) ([.ref (ad 19), .int (iZ ((h : Nat) : Int))] : List Value).toArray s 0 0 A) (F0 m 0 ls []) from K9 s.heap [] ls hP hD hS hl
  clear hP hD hS hl
  intro H locs ls hP hD hS hl
  refine lv_aload_n hx hb d_M_arm_0 rfl (lv_at hl 0 rfl) ?_
  refine lv_iload_n hx hb d_M_arm_1 rfl (lv_at hl 1 rfl) ?_
  refine lv_aload_n hx hb d_M_arm_2 rfl (lv_at hl 0 rfl) ?_
  refine va_get (D := D) (ci := 5) (v := .int (iZ ((jn J : Nat) : Int))) (C := n_M) (T := f_M) (N := 17) hx hb hts in_M hown hK hP 19 rfl rfl 2 (by decide) (hts _ fl_M_63) (fun _ h9 => h9) rfl d_M_arm_3 ?_
  refine z_callSR (As := [.int (iZ ((h : Nat) : Int)), .int (iZ ((jn J : Nat) : Int))]) (rest := [.ref (ad 19)]) zTB Z (k_M_isIn (a := ((h : Nat) : Int)) (b := ((jn J : Nat) : Int)) (by omega)) ⟨ml_M_59, sm_M_isIn, ini_M, co_M_isIn⟩ zd_M_isIn ⟨Nat.le_of_ble_eq_true rfl, Nat.le_of_ble_eq_true rfl⟩ hP hK hl.1 rfl (Nat.le_of_ble_eq_true rfl) d_M_arm_6 ⟨Nat.zero_le _, Nat.zero_le _⟩ ?_
  refine W.eq (g2 := F0 m 9 ls [.int (bI (decide (0 ≤ ((h : Nat) : Int) ∧ ((h : Nat) : Int) < ((jn J : Nat) : Int)))), .ref (ad 19)]) rfl ?_
  refine z_if_eqB (b := decide (0 ≤ ((h : Nat) : Int) ∧ ((h : Nat) : Int) < ((jn J : Nat) : Int))) (tgt := 16) hx hb d_M_arm_9 (by decide) (fun q9 => ?_) (fun q9 => ?_)
  · skip
    replace q9 := of_decide_eq_false q9
    exfalso; omega
  · skip
    replace q9 := of_decide_eq_true q9
    refine lv_iconst (v := iZ ((0 : Nat) : Int)) hx hb d_M_arm_12 (by decide) ?_
    refine lv_goto (tgt := 17) hx hb d_M_arm_13 (by decide) ?_
    refine va_put (D := D) (ci := 5) (v := .int (iZ ((0 : Nat) : Int))) (ty := .int) (C := n_M) (T := f_M) (N := 17) hx hb hts in_M ty_M tyo_M nm_M hown hK hP hD hS 19 rfl rfl 0 (by decide) (hts _ fl_M_55) (fun _ h9 => h9) rfl (by decide +kernel) rfl rfl (Nat.le_of_ble_eq_true rfl) d_M_arm_17 (fun H locs hP hD hS => ?_)
    have hP : va_P D classes (wdC ad cI cZ cL J0 rd0 pr0 G0 K0 (wdM ad cI cZ cL J rd pr (0, M.2) ov)) H := hP
    have hD : va_D A (wdC ad cI cZ cL J0 rd0 pr0 G0 K0 (wdM ad cI cZ cL J rd pr (0, M.2) ov)) := hD
    refine lv_aload_n hx hb d_M_arm_20 rfl (lv_at hl 0 rfl) ?_
    refine va_get (D := D) (ci := 5) (v := .int (iZ ((0 : Nat) : Int))) (C := n_M) (T := f_M) (N := 17) hx hb hts in_M hown hK hP 19 rfl rfl 0 (by decide) (hts _ fl_M_55) (fun _ h9 => h9) rfl d_M_arm_21 ?_
    refine z_if_ne (a := ((0 : Nat) : Int)) (tgt := 40) hx hb (by omega) d_M_arm_24 (by decide) (fun q24 => ?_) (fun q24 => ?_)
    · skip
      exfalso; omega
    · skip
      refine lv_aload_n hx hb d_M_arm_27 rfl (lv_at hl 0 rfl) ?_
      refine va_get (D := D) (ci := 5) (v := .ref (ad 21)) (C := n_M) (T := f_M) (N := 17) hx hb hts in_M hown hK hP 19 rfl rfl 4 (by decide) (hts _ fl_M_13) (fun _ h9 => h9) rfl d_M_arm_28 ?_
      refine lv_iload_n hx hb d_M_arm_31 rfl (lv_at hl 1 rfl) ?_
      refine z_zald (f := jdv J) hx hb hK hP 21 1 rfl rfl (h) (by omega) d_M_arm_32 ?_
      refine z_if_eqB (b := (jdv J) (h)) (tgt := 40) hx hb d_M_arm_33 (by decide) (fun q33 => ?_) (fun q33 => ?_)
      · skip
        refine lv_iconst (v := iZ ((0 : Nat) : Int)) hx hb d_M_arm_40 (by decide) ?_
        exact z_iret Z hP hS d_M_arm_41 wdM_map (⟨_, by simp [q33], rfl, rfl, hM⟩)
      · skip
        refine lv_iconst (v := iZ ((1 : Nat) : Int)) hx hb d_M_arm_36 (by decide) ?_
        refine lv_goto (tgt := 41) hx hb d_M_arm_37 (by decide) ?_
        exact z_iret Z hP hS d_M_arm_41 wdM_map (⟨_, by simp [q33], rfl, rfl, hM⟩)

set_option maxHeartbeats 4000000 in
set_option maxRecDepth 100000 in
theorem k_M_pairx1 {l : Launch} {D : va_G} {ad : Nat → Nat} {cI cZ cL : ClassId} {J J0 : SJ} {rd rd0 : Nat → Int} {pr pr0 : Nat → Nat} {G0 : SH} {K0 : SK} {M : SM} {ov : Nat → Int64} (hI : JI J) (hM : MJ J M) {a b : Int} (h : z32 a ∧ z32 b ∧ (a < 0 ∨ ((jk J : Nat) : Int) ≤ a ∨ b < 0 ∨ 3 ≤ b)) : zMi l TB D classes (tysW cI cZ cL) y_M_pair w_M_pair 1 21 [.ref (ad 19), .int (iZ (a)), .int (iZ (b))] (wdC ad cI cZ cL J0 rd0 pr0 G0 K0 (wdM ad cI cZ cL J rd pr M ov)) (fun r w => ∃ M1 : SM, w = wdC ad cI cZ cL J0 rd0 pr0 G0 K0 (wdM ad cI cZ cL J rd pr M1 ov) ∧ M1.1 = 1 ∧ MJ J M1) := by
  refine z_of (Qc := fun A => va_Qi (fun r w => ∃ M1 : SM, w = wdC ad cI cZ cL J0 rd0 pr0 G0 K0 (wdM ad cI cZ cL J rd pr M1 ov) ∧ M1.1 = 1 ∧ MJ J M1) (zB9 D classes (wdC ad cI cZ cL J0 rd0 pr0 G0 K0 (wdM ad cI cZ cL J rd pr M ov))) A) (by decide) (Nat.le_of_ble_eq_true rfl) ?_
  intro p e s m below meth c A ls Z hP hK hD hS hA hl
  obtain ⟨hx, hb, hr, hml, hown, hts, hE, hlocks⟩ := id Z
  have hl : lv_has ls 4 [(0, .ref (ad 19)), (1, .int (iZ (a))), (2, .int (iZ (b)))] := hl
  obtain ⟨hn32, hk2, hpr, hct⟩ := id hI
  suffices K9 : ∀ (H : Heap) (locs : List Loc) (ls : Array Slot), va_P D classes (wdC ad cI cZ cL J0 rd0 pr0 G0 K0 (wdM ad cI cZ cL J rd pr M ov)) H → va_D A (wdC ad cI cZ cL J0 rd0 pr0 G0 K0 (wdM ad cI cZ cL J rd pr M ov)) → va_S A s.heap H locs → lv_has ls 4 [(0, .ref (ad 19)), (1, .int (iZ (a))), (2, .int (iZ (b)))] → W p l e (zRm 1 21) s m ([.ref (ad 19), .int (iZ (a)), .int (iZ (b))] : List Value).toArray below meth c H locs 0 0 (MQ below (va_Qi (fun r w => ∃ M1 : SM, w = wdC ad cI cZ cL J0 rd0 pr0 G0 K0 (wdM ad cI cZ cL J rd pr M1 ov) ∧ M1.1 = 1 ∧ MJ J M1) (zB9 D classes (wdC ad cI cZ cL J0 rd0 pr0 G0 K0 (wdM ad cI cZ cL J rd pr M ov))) A) ([.ref (ad 19), .int (iZ (a)), .int (iZ (b))] : List Value).toArray s 0 0 A) (F0 m 0 ls []) from K9 s.heap [] ls hP hD hS hl
  clear hP hD hS hl
  intro H locs ls hP hD hS hl
  refine lv_aload_n hx hb d_M_pair_0 rfl (lv_at hl 0 rfl) ?_
  refine lv_iload_n hx hb d_M_pair_1 rfl (lv_at hl 1 rfl) ?_
  refine lv_aload_n hx hb d_M_pair_2 rfl (lv_at hl 0 rfl) ?_
  refine va_get (D := D) (ci := 5) (v := .int (iZ ((jk J : Nat) : Int))) (C := n_M) (T := f_M) (N := 17) hx hb hts in_M hown hK hP 19 rfl rfl 8 (by decide) (hts _ fl_M_70) (fun _ h9 => h9) rfl d_M_pair_3 ?_
  refine z_callSR (As := [.int (iZ (a)), .int (iZ ((jk J : Nat) : Int))]) (rest := [.ref (ad 19)]) zTB Z (k_M_isIn (a := a) (b := ((jk J : Nat) : Int)) (by omega)) ⟨ml_M_59, sm_M_isIn, ini_M, co_M_isIn⟩ zd_M_isIn ⟨Nat.le_of_ble_eq_true rfl, Nat.le_of_ble_eq_true rfl⟩ hP hK hl.1 rfl (Nat.le_of_ble_eq_true rfl) d_M_pair_6 ⟨Nat.zero_le _, Nat.zero_le _⟩ ?_
  refine W.eq (g2 := F0 m 9 ls [.int (bI (decide (0 ≤ a ∧ a < ((jk J : Nat) : Int)))), .ref (ad 19)]) rfl ?_
  refine z_if_eqB (b := decide (0 ≤ a ∧ a < ((jk J : Nat) : Int))) (tgt := 24) hx hb d_M_pair_9 (by decide) (fun q9 => ?_) (fun q9 => ?_)
  · skip
    replace q9 := of_decide_eq_false q9
    refine lv_iconst (v := iZ ((1 : Nat) : Int)) hx hb d_M_pair_24 (by decide) ?_
    refine va_put (D := D) (ci := 5) (v := .int (iZ ((1 : Nat) : Int))) (ty := .int) (C := n_M) (T := f_M) (N := 17) hx hb hts in_M ty_M tyo_M nm_M hown hK hP hD hS 19 rfl rfl 0 (by decide) (hts _ fl_M_55) (fun _ h9 => h9) rfl (by decide +kernel) rfl rfl (Nat.le_of_ble_eq_true rfl) d_M_pair_25 (fun H locs hP hD hS => ?_)
    have hP : va_P D classes (wdC ad cI cZ cL J0 rd0 pr0 G0 K0 (wdM ad cI cZ cL J rd pr (1, M.2) ov)) H := hP
    have hD : va_D A (wdC ad cI cZ cL J0 rd0 pr0 G0 K0 (wdM ad cI cZ cL J rd pr (1, M.2) ov)) := hD
    refine lv_aload_n hx hb d_M_pair_28 rfl (lv_at hl 0 rfl) ?_
    refine va_get (D := D) (ci := 5) (v := .int (iZ ((1 : Nat) : Int))) (C := n_M) (T := f_M) (N := 17) hx hb hts in_M hown hK hP 19 rfl rfl 0 (by decide) (hts _ fl_M_55) (fun _ h9 => h9) rfl d_M_pair_29 ?_
    refine z_if_le (a := ((1 : Nat) : Int)) (tgt := 37) hx hb (by omega) d_M_pair_32 (by decide) (fun q32 => ?_) (fun q32 => ?_)
    · skip
      exfalso; omega
    · skip
      refine lv_iconst (v := iZ ((0 : Nat) : Int)) hx hb d_M_pair_35 (by decide) ?_
      exact z_iret Z hP hS d_M_pair_36 wdM_map (⟨_, rfl, rfl, hM⟩)
  · skip
    replace q9 := of_decide_eq_true q9
    refine lv_iload_n hx hb d_M_pair_12 rfl (lv_at hl 2 rfl) ?_
    refine lv_iconst (v := iZ ((3 : Nat) : Int)) hx hb d_M_pair_13 (by decide) ?_
    refine z_callSR (As := [.int (iZ (b)), .int (iZ ((3 : Nat) : Int))]) (rest := [.ref (ad 19)]) zTB Z (k_M_isIn (a := b) (b := ((3 : Nat) : Int)) (by omega)) ⟨ml_M_59, sm_M_isIn, ini_M, co_M_isIn⟩ zd_M_isIn ⟨Nat.le_of_ble_eq_true rfl, Nat.le_of_ble_eq_true rfl⟩ hP hK hl.1 rfl (Nat.le_of_ble_eq_true rfl) d_M_pair_14 ⟨Nat.zero_le _, Nat.zero_le _⟩ ?_
    refine W.eq (g2 := F0 m 17 ls [.int (bI (decide (0 ≤ b ∧ b < ((3 : Nat) : Int)))), .ref (ad 19)]) rfl ?_
    refine z_if_eqB (b := decide (0 ≤ b ∧ b < ((3 : Nat) : Int))) (tgt := 24) hx hb d_M_pair_17 (by decide) (fun q17 => ?_) (fun q17 => ?_)
    · skip
      replace q17 := of_decide_eq_false q17
      refine lv_iconst (v := iZ ((1 : Nat) : Int)) hx hb d_M_pair_24 (by decide) ?_
      refine va_put (D := D) (ci := 5) (v := .int (iZ ((1 : Nat) : Int))) (ty := .int) (C := n_M) (T := f_M) (N := 17) hx hb hts in_M ty_M tyo_M nm_M hown hK hP hD hS 19 rfl rfl 0 (by decide) (hts _ fl_M_55) (fun _ h9 => h9) rfl (by decide +kernel) rfl rfl (Nat.le_of_ble_eq_true rfl) d_M_pair_25 (fun H locs hP hD hS => ?_)
      have hP : va_P D classes (wdC ad cI cZ cL J0 rd0 pr0 G0 K0 (wdM ad cI cZ cL J rd pr (1, M.2) ov)) H := hP
      have hD : va_D A (wdC ad cI cZ cL J0 rd0 pr0 G0 K0 (wdM ad cI cZ cL J rd pr (1, M.2) ov)) := hD
      refine lv_aload_n hx hb d_M_pair_28 rfl (lv_at hl 0 rfl) ?_
      refine va_get (D := D) (ci := 5) (v := .int (iZ ((1 : Nat) : Int))) (C := n_M) (T := f_M) (N := 17) hx hb hts in_M hown hK hP 19 rfl rfl 0 (by decide) (hts _ fl_M_55) (fun _ h9 => h9) rfl d_M_pair_29 ?_
      refine z_if_le (a := ((1 : Nat) : Int)) (tgt := 37) hx hb (by omega) d_M_pair_32 (by decide) (fun q32 => ?_) (fun q32 => ?_)
      · skip
        exfalso; omega
      · skip
        refine lv_iconst (v := iZ ((0 : Nat) : Int)) hx hb d_M_pair_35 (by decide) ?_
        exact z_iret Z hP hS d_M_pair_36 wdM_map (⟨_, rfl, rfl, hM⟩)
    · skip
      replace q17 := of_decide_eq_true q17
      exfalso; omega

set_option maxHeartbeats 4000000 in
set_option maxRecDepth 100000 in
theorem k_M_pair0 {l : Launch} {D : va_G} {ad : Nat → Nat} {cI cZ cL : ClassId} {J J0 : SJ} {rd rd0 : Nat → Int} {pr pr0 : Nat → Nat} {G0 : SH} {K0 : SK} {M : SM} {ov : Nat → Int64} (hI : JI J) (hM : MJ J M) {pp wh : Nat} (hp : pp < jk J) (hw : wh < 3) : zMi l TB D classes (tysW cI cZ cL) y_M_pair w_M_pair 1 21 [.ref (ad 19), .int (iZ ((pp : Nat) : Int)), .int (iZ ((wh : Nat) : Int))] (wdC ad cI cZ cL J0 rd0 pr0 G0 K0 (wdM ad cI cZ cL J rd pr M ov)) (fun r w => ∃ M1 : SM, r = iZ ((sPr J pp wh : Nat) : Int) ∧ w = wdC ad cI cZ cL J0 rd0 pr0 G0 K0 (wdM ad cI cZ cL J rd pr M1 ov) ∧ M1.1 = 0 ∧ MJ J M1) := by
  refine z_of (Qc := fun A => va_Qi (fun r w => ∃ M1 : SM, r = iZ ((sPr J pp wh : Nat) : Int) ∧ w = wdC ad cI cZ cL J0 rd0 pr0 G0 K0 (wdM ad cI cZ cL J rd pr M1 ov) ∧ M1.1 = 0 ∧ MJ J M1) (zB9 D classes (wdC ad cI cZ cL J0 rd0 pr0 G0 K0 (wdM ad cI cZ cL J rd pr M ov))) A) (by decide) (Nat.le_of_ble_eq_true rfl) ?_
  intro p e s m below meth c A ls Z hP hK hD hS hA hl
  obtain ⟨hx, hb, hr, hml, hown, hts, hE, hlocks⟩ := id Z
  have hl : lv_has ls 4 [(0, .ref (ad 19)), (1, .int (iZ ((pp : Nat) : Int))), (2, .int (iZ ((wh : Nat) : Int)))] := hl
  obtain ⟨hn32, hk2, hpr, hct⟩ := id hI
  have hMp := hM.1 pp hp
  have hf1 := hMp.1
  have hf2 := hMp.2.1
  suffices K9 : ∀ (H : Heap) (locs : List Loc) (ls : Array Slot), va_P D classes (wdC ad cI cZ cL J0 rd0 pr0 G0 K0 (wdM ad cI cZ cL J rd pr M ov)) H → va_D A (wdC ad cI cZ cL J0 rd0 pr0 G0 K0 (wdM ad cI cZ cL J rd pr M ov)) → va_S A s.heap H locs → lv_has ls 4 [(0, .ref (ad 19)), (1, .int (iZ ((pp : Nat) : Int))), (2, .int (iZ ((wh : Nat) : Int)))] → W p l e (zRm 1 21) s m ([.ref (ad 19), .int (iZ ((pp : Nat) : Int)), .int (iZ ((wh : Nat) : Int))] : List Value).toArray below meth c H locs 0 0 (MQ below (va_Qi (fun r w => ∃ M1 : SM, r = iZ ((sPr J pp wh : Nat) : Int) ∧ w = wdC ad cI cZ cL J0 rd0 pr0 G0 K0 (wdM ad cI cZ cL J rd pr M1 ov) ∧ M1.1 = 0 ∧ MJ J M1) (zB9 D classes (wdC ad cI cZ cL J0 rd0 pr0 G0 K0 (wdM ad cI cZ cL J rd pr M ov))) A) ([.ref (ad 19), .int (iZ ((pp : Nat) : Int)), .int (iZ ((wh : Nat) : Int))] : List Value).toArray s 0 0 A) (F0 m 0 ls []) from K9 s.heap [] ls hP hD hS hl
  clear hP hD hS hl
  intro H locs ls hP hD hS hl
  refine lv_aload_n hx hb d_M_pair_0 rfl (lv_at hl 0 rfl) ?_
  refine lv_iload_n hx hb d_M_pair_1 rfl (lv_at hl 1 rfl) ?_
  refine lv_aload_n hx hb d_M_pair_2 rfl (lv_at hl 0 rfl) ?_
  refine va_get (D := D) (ci := 5) (v := .int (iZ ((jk J : Nat) : Int))) (C := n_M) (T := f_M) (N := 17) hx hb hts in_M hown hK hP 19 rfl rfl 8 (by decide) (hts _ fl_M_70) (fun _ h9 => h9) rfl d_M_pair_3 ?_
  refine z_callSR (As := [.int (iZ ((pp : Nat) : Int)), .int (iZ ((jk J : Nat) : Int))]) (rest := [.ref (ad 19)]) zTB Z (k_M_isIn (a := ((pp : Nat) : Int)) (b := ((jk J : Nat) : Int)) (by omega)) ⟨ml_M_59, sm_M_isIn, ini_M, co_M_isIn⟩ zd_M_isIn ⟨Nat.le_of_ble_eq_true rfl, Nat.le_of_ble_eq_true rfl⟩ hP hK hl.1 rfl (Nat.le_of_ble_eq_true rfl) d_M_pair_6 ⟨Nat.zero_le _, Nat.zero_le _⟩ ?_
  refine W.eq (g2 := F0 m 9 ls [.int (bI (decide (0 ≤ ((pp : Nat) : Int) ∧ ((pp : Nat) : Int) < ((jk J : Nat) : Int)))), .ref (ad 19)]) rfl ?_
  refine z_if_eqB (b := decide (0 ≤ ((pp : Nat) : Int) ∧ ((pp : Nat) : Int) < ((jk J : Nat) : Int))) (tgt := 24) hx hb d_M_pair_9 (by decide) (fun q9 => ?_) (fun q9 => ?_)
  · skip
    replace q9 := of_decide_eq_false q9
    exfalso; omega
  · skip
    replace q9 := of_decide_eq_true q9
    refine lv_iload_n hx hb d_M_pair_12 rfl (lv_at hl 2 rfl) ?_
    refine lv_iconst (v := iZ ((3 : Nat) : Int)) hx hb d_M_pair_13 (by decide) ?_
    refine z_callSR (As := [.int (iZ ((wh : Nat) : Int)), .int (iZ ((3 : Nat) : Int))]) (rest := [.ref (ad 19)]) zTB Z (k_M_isIn (a := ((wh : Nat) : Int)) (b := ((3 : Nat) : Int)) (by omega)) ⟨ml_M_59, sm_M_isIn, ini_M, co_M_isIn⟩ zd_M_isIn ⟨Nat.le_of_ble_eq_true rfl, Nat.le_of_ble_eq_true rfl⟩ hP hK hl.1 rfl (Nat.le_of_ble_eq_true rfl) d_M_pair_14 ⟨Nat.zero_le _, Nat.zero_le _⟩ ?_
    refine W.eq (g2 := F0 m 17 ls [.int (bI (decide (0 ≤ ((wh : Nat) : Int) ∧ ((wh : Nat) : Int) < ((3 : Nat) : Int)))), .ref (ad 19)]) rfl ?_
    refine z_if_eqB (b := decide (0 ≤ ((wh : Nat) : Int) ∧ ((wh : Nat) : Int) < ((3 : Nat) : Int))) (tgt := 24) hx hb d_M_pair_17 (by decide) (fun q17 => ?_) (fun q17 => ?_)
    · skip
      replace q17 := of_decide_eq_false q17
      exfalso; omega
    · skip
      replace q17 := of_decide_eq_true q17
      refine lv_iconst (v := iZ ((0 : Nat) : Int)) hx hb d_M_pair_20 (by decide) ?_
      refine lv_goto (tgt := 25) hx hb d_M_pair_21 (by decide) ?_
      refine va_put (D := D) (ci := 5) (v := .int (iZ ((0 : Nat) : Int))) (ty := .int) (C := n_M) (T := f_M) (N := 17) hx hb hts in_M ty_M tyo_M nm_M hown hK hP hD hS 19 rfl rfl 0 (by decide) (hts _ fl_M_55) (fun _ h9 => h9) rfl (by decide +kernel) rfl rfl (Nat.le_of_ble_eq_true rfl) d_M_pair_25 (fun H locs hP hD hS => ?_)
      have hP : va_P D classes (wdC ad cI cZ cL J0 rd0 pr0 G0 K0 (wdM ad cI cZ cL J rd pr (0, M.2) ov)) H := hP
      have hD : va_D A (wdC ad cI cZ cL J0 rd0 pr0 G0 K0 (wdM ad cI cZ cL J rd pr (0, M.2) ov)) := hD
      refine lv_aload_n hx hb d_M_pair_28 rfl (lv_at hl 0 rfl) ?_
      refine va_get (D := D) (ci := 5) (v := .int (iZ ((0 : Nat) : Int))) (C := n_M) (T := f_M) (N := 17) hx hb hts in_M hown hK hP 19 rfl rfl 0 (by decide) (hts _ fl_M_55) (fun _ h9 => h9) rfl d_M_pair_29 ?_
      refine z_if_le (a := ((0 : Nat) : Int)) (tgt := 37) hx hb (by omega) d_M_pair_32 (by decide) (fun q32 => ?_) (fun q32 => ?_)
      · skip
        refine lv_aload_n hx hb d_M_pair_37 rfl (lv_at hl 0 rfl) ?_
        refine va_get (D := D) (ci := 5) (v := .ref (ad 21)) (C := n_M) (T := f_M) (N := 17) hx hb hts in_M hown hK hP 19 rfl rfl 4 (by decide) (hts _ fl_M_13) (fun _ h9 => h9) rfl d_M_pair_38 ?_
        refine lv_aload_n hx hb d_M_pair_41 rfl (lv_at hl 0 rfl) ?_
        refine va_get (D := D) (ci := 5) (v := .ref (ad 26)) (C := n_M) (T := f_M) (N := 17) hx hb hts in_M hown hK hP 19 rfl rfl 10 (by decide) (hts _ fl_M_29) (fun _ h9 => h9) rfl d_M_pair_42 ?_
        refine lv_iload_n hx hb d_M_pair_45 rfl (lv_at hl 1 rfl) ?_
        refine z_ialdN (f := mse M) hx hb hK hP 26 0 rfl rfl (pp) (by omega) d_M_pair_46 ?_
        refine z_zald (f := jdv J) hx hb hK hP 21 1 rfl rfl ((mse M) (pp)) (by omega) d_M_pair_47 ?_
        refine lv_istore_n (lv' := [(3, .int (bI ((jdv J) ((mse M) (pp))))), (0, .ref (ad 19)), (1, .int (iZ ((pp : Nat) : Int))), (2, .int (iZ ((wh : Nat) : Int)))]) hx hb d_M_pair_48 rfl hl (by decide) rfl (fun ls hl => ?_)
        refine lv_iload_n hx hb d_M_pair_49 rfl (lv_at hl 3 rfl) ?_
        refine lv_iconst (v := iZ ((2 : Nat) : Int)) hx hb d_M_pair_50 (by decide) ?_
        refine z_icmp_ne (a := ((wh : Nat) : Int)) (b := ((2 : Nat) : Int)) (tgt := 68) hx hb (by omega) d_M_pair_51 (by decide) (fun q51 => ?_) (fun q51 => ?_)
        · skip
          refine lv_iload_n hx hb d_M_pair_68 rfl (lv_at hl 3 rfl) ?_
          refine z_if_ne (a := ((wh : Nat) : Int)) (tgt := 76) hx hb (by omega) d_M_pair_69 (by decide) (fun q69 => ?_) (fun q69 => ?_)
          · skip
            refine lv_iconst (v := iZ ((0 : Nat) : Int)) hx hb d_M_pair_76 (by decide) ?_
            refine lv_iload_n hx hb d_M_pair_77 rfl (lv_at hl 0 rfl) ?_
            refine lv_icmp_ne (tgt := 90) hx hb d_M_pair_78 (by decide) (fun q78 => ?_) (fun q78 => ?_)
            · skip
              refine lv_aload_n hx hb d_M_pair_90 rfl (lv_at hl 1 rfl) ?_
              refine va_get (D := D) (ci := 5) (v := .ref (ad 25)) (C := n_M) (T := f_M) (N := 17) hx hb hts in_M hown hK hP 19 rfl rfl 9 (by decide) (hts _ fl_M_26) (fun _ h9 => h9) rfl d_M_pair_91 ?_
              refine lv_iload_n hx hb d_M_pair_94 rfl (lv_at hl 2 rfl) ?_
              refine z_ialdN (f := mfi M) hx hb hK hP 25 0 rfl rfl (pp) (by omega) d_M_pair_95 ?_
              exact z_iret Z hP hS d_M_pair_96 wdM_map (⟨_, by first | exact iN (sPr_2 hMp (by omega)) | exact iN (sPr_0t hMp (by omega) q78) | exact iN (sPr_0f hMp (by omega) q78) | exact iN (sPr_1t hMp (by omega) q78) | exact iN (sPr_1f hMp (by omega) q78), rfl, rfl, hM⟩)
            · skip
              refine lv_aload_n hx hb d_M_pair_81 rfl (lv_at hl 1 rfl) ?_
              refine va_get (D := D) (ci := 5) (v := .ref (ad 26)) (C := n_M) (T := f_M) (N := 17) hx hb hts in_M hown hK hP 19 rfl rfl 10 (by decide) (hts _ fl_M_29) (fun _ h9 => h9) rfl d_M_pair_82 ?_
              refine lv_iload_n hx hb d_M_pair_85 rfl (lv_at hl 2 rfl) ?_
              refine z_ialdN (f := mse M) hx hb hK hP 26 0 rfl rfl (pp) (by omega) d_M_pair_86 ?_
              refine lv_goto (tgt := 96) hx hb d_M_pair_87 (by decide) ?_
              exact z_iret Z hP hS d_M_pair_96 wdM_map (⟨_, by first | exact iN (sPr_2 hMp (by omega)) | exact iN (sPr_0t hMp (by omega) q78) | exact iN (sPr_0f hMp (by omega) q78) | exact iN (sPr_1t hMp (by omega) q78) | exact iN (sPr_1f hMp (by omega) q78), rfl, rfl, hM⟩)
          · skip
            refine lv_iconst (v := iZ ((1 : Nat) : Int)) hx hb d_M_pair_72 (by decide) ?_
            refine lv_goto (tgt := 77) hx hb d_M_pair_73 (by decide) ?_
            refine lv_iload_n hx hb d_M_pair_77 rfl (lv_at hl 0 rfl) ?_
            refine lv_icmp_ne (tgt := 90) hx hb d_M_pair_78 (by decide) (fun q78 => ?_) (fun q78 => ?_)
            · skip
              refine lv_aload_n hx hb d_M_pair_90 rfl (lv_at hl 1 rfl) ?_
              refine va_get (D := D) (ci := 5) (v := .ref (ad 25)) (C := n_M) (T := f_M) (N := 17) hx hb hts in_M hown hK hP 19 rfl rfl 9 (by decide) (hts _ fl_M_26) (fun _ h9 => h9) rfl d_M_pair_91 ?_
              refine lv_iload_n hx hb d_M_pair_94 rfl (lv_at hl 2 rfl) ?_
              refine z_ialdN (f := mfi M) hx hb hK hP 25 0 rfl rfl (pp) (by omega) d_M_pair_95 ?_
              exact z_iret Z hP hS d_M_pair_96 wdM_map (⟨_, by first | exact iN (sPr_2 hMp (by omega)) | exact iN (sPr_0t hMp (by omega) q78) | exact iN (sPr_0f hMp (by omega) q78) | exact iN (sPr_1t hMp (by omega) q78) | exact iN (sPr_1f hMp (by omega) q78), rfl, rfl, hM⟩)
            · skip
              refine lv_aload_n hx hb d_M_pair_81 rfl (lv_at hl 1 rfl) ?_
              refine va_get (D := D) (ci := 5) (v := .ref (ad 26)) (C := n_M) (T := f_M) (N := 17) hx hb hts in_M hown hK hP 19 rfl rfl 10 (by decide) (hts _ fl_M_29) (fun _ h9 => h9) rfl d_M_pair_82 ?_
              refine lv_iload_n hx hb d_M_pair_85 rfl (lv_at hl 2 rfl) ?_
              refine z_ialdN (f := mse M) hx hb hK hP 26 0 rfl rfl (pp) (by omega) d_M_pair_86 ?_
              refine lv_goto (tgt := 96) hx hb d_M_pair_87 (by decide) ?_
              exact z_iret Z hP hS d_M_pair_96 wdM_map (⟨_, by first | exact iN (sPr_2 hMp (by omega)) | exact iN (sPr_0t hMp (by omega) q78) | exact iN (sPr_0f hMp (by omega) q78) | exact iN (sPr_1t hMp (by omega) q78) | exact iN (sPr_1f hMp (by omega) q78), rfl, rfl, hM⟩)
        · skip
          refine lv_aload_n hx hb d_M_pair_54 rfl (lv_at hl 1 rfl) ?_
          refine va_get (D := D) (ci := 5) (v := .ref (ad 20)) (C := n_M) (T := f_M) (N := 17) hx hb hts in_M hown hK hP 19 rfl rfl 3 (by decide) (hts _ fl_M_7) (fun _ h9 => h9) rfl d_M_pair_55 ?_
          refine lv_aload_n hx hb d_M_pair_58 rfl (lv_at hl 1 rfl) ?_
          refine va_get (D := D) (ci := 5) (v := .ref (ad 25)) (C := n_M) (T := f_M) (N := 17) hx hb hts in_M hown hK hP 19 rfl rfl 9 (by decide) (hts _ fl_M_26) (fun _ h9 => h9) rfl d_M_pair_59 ?_
          refine lv_iload_n hx hb d_M_pair_62 rfl (lv_at hl 2 rfl) ?_
          refine z_ialdN (f := mfi M) hx hb hK hP 25 0 rfl rfl (pp) (by omega) d_M_pair_63 ?_
          refine z_ialdN (f := msh M) hx hb hK hP 20 0 rfl rfl ((mfi M) (pp)) (by omega) d_M_pair_64 ?_
          refine lv_goto (tgt := 96) hx hb d_M_pair_65 (by decide) ?_
          exact z_iret Z hP hS d_M_pair_96 wdM_map (⟨_, by first | exact iN (sPr_2 hMp (by omega)) | exact iN (sPr_0t hMp (by omega) q78) | exact iN (sPr_0f hMp (by omega) q78) | exact iN (sPr_1t hMp (by omega) q78) | exact iN (sPr_1f hMp (by omega) q78), rfl, rfl, hM⟩)
      · skip
        exfalso; omega

set_option maxHeartbeats 4000000 in
set_option maxRecDepth 100000 in
theorem k_M_pairs0 {l : Launch} {D : va_G} {ad : Nat → Nat} {cI cZ cL : ClassId} {J J0 : SJ} {rd rd0 : Nat → Int} {pr pr0 : Nat → Nat} {G0 : SH} {K0 : SK} {M : SM} {ov : Nat → Int64} (hI : JI J) (hM : MJ J M)  : zMi l TB D classes (tysW cI cZ cL) y_M_pairs w_M_pairs 0 0 [.ref (ad 19)] (wdC ad cI cZ cL J0 rd0 pr0 G0 K0 (wdM ad cI cZ cL J rd pr M ov)) (fun r w => ∃ M1 : SM, r = iZ ((jk J : Nat) : Int) ∧ w = wdC ad cI cZ cL J0 rd0 pr0 G0 K0 (wdM ad cI cZ cL J rd pr M1 ov) ∧ M1.1 = 0 ∧ MJ J M1) := by
  refine z_of (Qc := fun A => va_Qi (fun r w => ∃ M1 : SM, r = iZ ((jk J : Nat) : Int) ∧ w = wdC ad cI cZ cL J0 rd0 pr0 G0 K0 (wdM ad cI cZ cL J rd pr M1 ov) ∧ M1.1 = 0 ∧ MJ J M1) (zB9 D classes (wdC ad cI cZ cL J0 rd0 pr0 G0 K0 (wdM ad cI cZ cL J rd pr M ov))) A) (by decide) (Nat.le_of_ble_eq_true rfl) ?_
  intro p e s m below meth c A ls Z hP hK hD hS hA hl
  obtain ⟨hx, hb, hr, hml, hown, hts, hE, hlocks⟩ := id Z
  have hl : lv_has ls 1 [(0, .ref (ad 19))] := hl
  obtain ⟨hn32, hk2, hpr, hct⟩ := id hI
  suffices K9 : ∀ (H : Heap) (locs : List Loc) (ls : Array Slot), va_P D classes (wdC ad cI cZ cL J0 rd0 pr0 G0 K0 (wdM ad cI cZ cL J rd pr M ov)) H → va_D A (wdC ad cI cZ cL J0 rd0 pr0 G0 K0 (wdM ad cI cZ cL J rd pr M ov)) → va_S A s.heap H locs → lv_has ls 1 [(0, .ref (ad 19))] → W p l e (zRm 0 0) s m ([.ref (ad 19)] : List Value).toArray below meth c H locs 0 0 (MQ below (va_Qi (fun r w => ∃ M1 : SM, r = iZ ((jk J : Nat) : Int) ∧ w = wdC ad cI cZ cL J0 rd0 pr0 G0 K0 (wdM ad cI cZ cL J rd pr M1 ov) ∧ M1.1 = 0 ∧ MJ J M1) (zB9 D classes (wdC ad cI cZ cL J0 rd0 pr0 G0 K0 (wdM ad cI cZ cL J rd pr M ov))) A) ([.ref (ad 19)] : List Value).toArray s 0 0 A) (F0 m 0 ls []) from K9 s.heap [] ls hP hD hS hl
  clear hP hD hS hl
  intro H locs ls hP hD hS hl
  refine lv_aload_n hx hb d_M_pairs_0 rfl (lv_at hl 0 rfl) ?_
  refine lv_iconst (v := iZ ((0 : Nat) : Int)) hx hb d_M_pairs_1 (by decide) ?_
  refine va_put (D := D) (ci := 5) (v := .int (iZ ((0 : Nat) : Int))) (ty := .int) (C := n_M) (T := f_M) (N := 17) hx hb hts in_M ty_M tyo_M nm_M hown hK hP hD hS 19 rfl rfl 0 (by decide) (hts _ fl_M_55) (fun _ h9 => h9) rfl (by decide +kernel) rfl rfl (Nat.le_of_ble_eq_true rfl) d_M_pairs_2 (fun H locs hP hD hS => ?_)
  have hP : va_P D classes (wdC ad cI cZ cL J0 rd0 pr0 G0 K0 (wdM ad cI cZ cL J rd pr (0, M.2) ov)) H := hP
  have hD : va_D A (wdC ad cI cZ cL J0 rd0 pr0 G0 K0 (wdM ad cI cZ cL J rd pr (0, M.2) ov)) := hD
  refine lv_aload_n hx hb d_M_pairs_5 rfl (lv_at hl 0 rfl) ?_
  refine va_get (D := D) (ci := 5) (v := .int (iZ ((jk J : Nat) : Int))) (C := n_M) (T := f_M) (N := 17) hx hb hts in_M hown hK hP 19 rfl rfl 8 (by decide) (hts _ fl_M_70) (fun _ h9 => h9) rfl d_M_pairs_6 ?_
  exact z_iret Z hP hS d_M_pairs_9 wdM_map (⟨_, rfl, rfl, rfl, hM⟩)

set_option maxHeartbeats 4000000 in
set_option maxRecDepth 100000 in
theorem k_M_differencex1 {l : Launch} {D : va_G} {ad : Nat → Nat} {cI cZ cL : ClassId} {J J0 : SJ} {rd rd0 : Nat → Int} {pr pr0 : Nat → Nat} {G0 : SH} {K0 : SK} {M : SM} {ov : Nat → Int64} (hI : JI J) (hM : MJ J M) {a b : Int} (h : z32 a ∧ z32 b ∧ (a < 0 ∨ ((jk J : Nat) : Int) ≤ a ∨ b < 0 ∨ 3 ≤ b)) : zMi l TB D classes (tysW cI cZ cL) y_M_difference w_M_difference 1 23 [.ref (ad 19), .int (iZ (a)), .int (iZ (b))] (wdC ad cI cZ cL J0 rd0 pr0 G0 K0 (wdM ad cI cZ cL J rd pr M ov)) (fun r w => ∃ M1 : SM, w = wdC ad cI cZ cL J0 rd0 pr0 G0 K0 (wdM ad cI cZ cL J rd pr M1 ov) ∧ M1.1 = 1 ∧ MJ J M1) := by
  refine z_of (Qc := fun A => va_Qi (fun r w => ∃ M1 : SM, w = wdC ad cI cZ cL J0 rd0 pr0 G0 K0 (wdM ad cI cZ cL J rd pr M1 ov) ∧ M1.1 = 1 ∧ MJ J M1) (zB9 D classes (wdC ad cI cZ cL J0 rd0 pr0 G0 K0 (wdM ad cI cZ cL J rd pr M ov))) A) (by decide) (Nat.le_of_ble_eq_true rfl) ?_
  intro p e s m below meth c A ls Z hP hK hD hS hA hl
  obtain ⟨hx, hb, hr, hml, hown, hts, hE, hlocks⟩ := id Z
  have hl : lv_has ls 3 [(0, .ref (ad 19)), (1, .int (iZ (a))), (2, .int (iZ (b)))] := hl
  obtain ⟨hn32, hk2, hpr, hct⟩ := id hI
  suffices K9 : ∀ (H : Heap) (locs : List Loc) (ls : Array Slot), va_P D classes (wdC ad cI cZ cL J0 rd0 pr0 G0 K0 (wdM ad cI cZ cL J rd pr M ov)) H → va_D A (wdC ad cI cZ cL J0 rd0 pr0 G0 K0 (wdM ad cI cZ cL J rd pr M ov)) → va_S A s.heap H locs → lv_has ls 3 [(0, .ref (ad 19)), (1, .int (iZ (a))), (2, .int (iZ (b)))] → W p l e (zRm 1 23) s m ([.ref (ad 19), .int (iZ (a)), .int (iZ (b))] : List Value).toArray below meth c H locs 0 0 (MQ below (va_Qi (fun r w => ∃ M1 : SM, w = wdC ad cI cZ cL J0 rd0 pr0 G0 K0 (wdM ad cI cZ cL J rd pr M1 ov) ∧ M1.1 = 1 ∧ MJ J M1) (zB9 D classes (wdC ad cI cZ cL J0 rd0 pr0 G0 K0 (wdM ad cI cZ cL J rd pr M ov))) A) ([.ref (ad 19), .int (iZ (a)), .int (iZ (b))] : List Value).toArray s 0 0 A) (F0 m 0 ls []) from K9 s.heap [] ls hP hD hS hl
  clear hP hD hS hl
  intro H locs ls hP hD hS hl
  refine lv_aload_n hx hb d_M_difference_0 rfl (lv_at hl 0 rfl) ?_
  refine lv_iload_n hx hb d_M_difference_1 rfl (lv_at hl 1 rfl) ?_
  refine lv_aload_n hx hb d_M_difference_2 rfl (lv_at hl 0 rfl) ?_
  refine va_get (D := D) (ci := 5) (v := .int (iZ ((jk J : Nat) : Int))) (C := n_M) (T := f_M) (N := 17) hx hb hts in_M hown hK hP 19 rfl rfl 8 (by decide) (hts _ fl_M_70) (fun _ h9 => h9) rfl d_M_difference_3 ?_
  refine z_callSR (As := [.int (iZ (a)), .int (iZ ((jk J : Nat) : Int))]) (rest := [.ref (ad 19)]) zTB Z (k_M_isIn (a := a) (b := ((jk J : Nat) : Int)) (by omega)) ⟨ml_M_59, sm_M_isIn, ini_M, co_M_isIn⟩ zd_M_isIn ⟨Nat.le_of_ble_eq_true rfl, Nat.le_of_ble_eq_true rfl⟩ hP hK hl.1 rfl (Nat.le_of_ble_eq_true rfl) d_M_difference_6 ⟨Nat.zero_le _, Nat.zero_le _⟩ ?_
  refine W.eq (g2 := F0 m 9 ls [.int (bI (decide (0 ≤ a ∧ a < ((jk J : Nat) : Int)))), .ref (ad 19)]) rfl ?_
  refine z_if_eqB (b := decide (0 ≤ a ∧ a < ((jk J : Nat) : Int))) (tgt := 24) hx hb d_M_difference_9 (by decide) (fun q9 => ?_) (fun q9 => ?_)
  · skip
    replace q9 := of_decide_eq_false q9
    refine lv_iconst (v := iZ ((1 : Nat) : Int)) hx hb d_M_difference_24 (by decide) ?_
    refine va_put (D := D) (ci := 5) (v := .int (iZ ((1 : Nat) : Int))) (ty := .int) (C := n_M) (T := f_M) (N := 17) hx hb hts in_M ty_M tyo_M nm_M hown hK hP hD hS 19 rfl rfl 0 (by decide) (hts _ fl_M_55) (fun _ h9 => h9) rfl (by decide +kernel) rfl rfl (Nat.le_of_ble_eq_true rfl) d_M_difference_25 (fun H locs hP hD hS => ?_)
    have hP : va_P D classes (wdC ad cI cZ cL J0 rd0 pr0 G0 K0 (wdM ad cI cZ cL J rd pr (1, M.2) ov)) H := hP
    have hD : va_D A (wdC ad cI cZ cL J0 rd0 pr0 G0 K0 (wdM ad cI cZ cL J rd pr (1, M.2) ov)) := hD
    refine lv_aload_n hx hb d_M_difference_28 rfl (lv_at hl 0 rfl) ?_
    refine va_get (D := D) (ci := 5) (v := .int (iZ ((1 : Nat) : Int))) (C := n_M) (T := f_M) (N := 17) hx hb hts in_M hown hK hP 19 rfl rfl 0 (by decide) (hts _ fl_M_55) (fun _ h9 => h9) rfl d_M_difference_29 ?_
    refine z_if_le (a := ((1 : Nat) : Int)) (tgt := 39) hx hb (by omega) d_M_difference_32 (by decide) (fun q32 => ?_) (fun q32 => ?_)
    · skip
      exfalso; omega
    · skip
      refine lv_iconst (v := iZ ((0 : Nat) : Int)) hx hb d_M_difference_35 (by decide) ?_
      refine lv_goto (tgt := 45) hx hb d_M_difference_36 (by decide) ?_
      exact z_iret Z hP hS d_M_difference_45 wdM_map (⟨_, rfl, rfl, hM⟩)
  · skip
    replace q9 := of_decide_eq_true q9
    refine lv_iload_n hx hb d_M_difference_12 rfl (lv_at hl 2 rfl) ?_
    refine lv_iconst (v := iZ ((3 : Nat) : Int)) hx hb d_M_difference_13 (by decide) ?_
    refine z_callSR (As := [.int (iZ (b)), .int (iZ ((3 : Nat) : Int))]) (rest := [.ref (ad 19)]) zTB Z (k_M_isIn (a := b) (b := ((3 : Nat) : Int)) (by omega)) ⟨ml_M_59, sm_M_isIn, ini_M, co_M_isIn⟩ zd_M_isIn ⟨Nat.le_of_ble_eq_true rfl, Nat.le_of_ble_eq_true rfl⟩ hP hK hl.1 rfl (Nat.le_of_ble_eq_true rfl) d_M_difference_14 ⟨Nat.zero_le _, Nat.zero_le _⟩ ?_
    refine W.eq (g2 := F0 m 17 ls [.int (bI (decide (0 ≤ b ∧ b < ((3 : Nat) : Int)))), .ref (ad 19)]) rfl ?_
    refine z_if_eqB (b := decide (0 ≤ b ∧ b < ((3 : Nat) : Int))) (tgt := 24) hx hb d_M_difference_17 (by decide) (fun q17 => ?_) (fun q17 => ?_)
    · skip
      replace q17 := of_decide_eq_false q17
      refine lv_iconst (v := iZ ((1 : Nat) : Int)) hx hb d_M_difference_24 (by decide) ?_
      refine va_put (D := D) (ci := 5) (v := .int (iZ ((1 : Nat) : Int))) (ty := .int) (C := n_M) (T := f_M) (N := 17) hx hb hts in_M ty_M tyo_M nm_M hown hK hP hD hS 19 rfl rfl 0 (by decide) (hts _ fl_M_55) (fun _ h9 => h9) rfl (by decide +kernel) rfl rfl (Nat.le_of_ble_eq_true rfl) d_M_difference_25 (fun H locs hP hD hS => ?_)
      have hP : va_P D classes (wdC ad cI cZ cL J0 rd0 pr0 G0 K0 (wdM ad cI cZ cL J rd pr (1, M.2) ov)) H := hP
      have hD : va_D A (wdC ad cI cZ cL J0 rd0 pr0 G0 K0 (wdM ad cI cZ cL J rd pr (1, M.2) ov)) := hD
      refine lv_aload_n hx hb d_M_difference_28 rfl (lv_at hl 0 rfl) ?_
      refine va_get (D := D) (ci := 5) (v := .int (iZ ((1 : Nat) : Int))) (C := n_M) (T := f_M) (N := 17) hx hb hts in_M hown hK hP 19 rfl rfl 0 (by decide) (hts _ fl_M_55) (fun _ h9 => h9) rfl d_M_difference_29 ?_
      refine z_if_le (a := ((1 : Nat) : Int)) (tgt := 39) hx hb (by omega) d_M_difference_32 (by decide) (fun q32 => ?_) (fun q32 => ?_)
      · skip
        exfalso; omega
      · skip
        refine lv_iconst (v := iZ ((0 : Nat) : Int)) hx hb d_M_difference_35 (by decide) ?_
        refine lv_goto (tgt := 45) hx hb d_M_difference_36 (by decide) ?_
        exact z_iret Z hP hS d_M_difference_45 wdM_map (⟨_, rfl, rfl, hM⟩)
    · skip
      replace q17 := of_decide_eq_true q17
      exfalso; omega

set_option maxHeartbeats 4000000 in
set_option maxRecDepth 100000 in
theorem k_M_difference0 {l : Launch} {D : va_G} {ad : Nat → Nat} {cI cZ cL : ClassId} {J J0 : SJ} {rd rd0 : Nat → Int} {pr pr0 : Nat → Nat} {G0 : SH} {K0 : SK} {M : SM} {ov : Nat → Int64} (hI : JI J) (hM : MJ J M) {pp kd : Nat} (hp : pp < jk J) (hkd : kd < 3) : zMi l TB D classes (tysW cI cZ cL) y_M_difference w_M_difference 1 23 [.ref (ad 19), .int (iZ ((pp : Nat) : Int)), .int (iZ ((kd : Nat) : Int))] (wdC ad cI cZ cL J0 rd0 pr0 G0 K0 (wdM ad cI cZ cL J rd pr M ov)) (fun r w => ∃ M1 : SM, r = iZ (sDf J pp kd) ∧ w = wdC ad cI cZ cL J0 rd0 pr0 G0 K0 (wdM ad cI cZ cL J rd pr M1 ov) ∧ M1.1 = 0 ∧ MJ J M1) := by
  refine z_of (Qc := fun A => va_Qi (fun r w => ∃ M1 : SM, r = iZ (sDf J pp kd) ∧ w = wdC ad cI cZ cL J0 rd0 pr0 G0 K0 (wdM ad cI cZ cL J rd pr M1 ov) ∧ M1.1 = 0 ∧ MJ J M1) (zB9 D classes (wdC ad cI cZ cL J0 rd0 pr0 G0 K0 (wdM ad cI cZ cL J rd pr M ov))) A) (by decide) (Nat.le_of_ble_eq_true rfl) ?_
  intro p e s m below meth c A ls Z hP hK hD hS hA hl
  obtain ⟨hx, hb, hr, hml, hown, hts, hE, hlocks⟩ := id Z
  have hl : lv_has ls 3 [(0, .ref (ad 19)), (1, .int (iZ ((pp : Nat) : Int))), (2, .int (iZ ((kd : Nat) : Int)))] := hl
  obtain ⟨hn32, hk2, hpr, hct⟩ := id hI
  suffices K9 : ∀ (H : Heap) (locs : List Loc) (ls : Array Slot), va_P D classes (wdC ad cI cZ cL J0 rd0 pr0 G0 K0 (wdM ad cI cZ cL J rd pr M ov)) H → va_D A (wdC ad cI cZ cL J0 rd0 pr0 G0 K0 (wdM ad cI cZ cL J rd pr M ov)) → va_S A s.heap H locs → lv_has ls 3 [(0, .ref (ad 19)), (1, .int (iZ ((pp : Nat) : Int))), (2, .int (iZ ((kd : Nat) : Int)))] → W p l e (zRm 1 23) s m ([.ref (ad 19), .int (iZ ((pp : Nat) : Int)), .int (iZ ((kd : Nat) : Int))] : List Value).toArray below meth c H locs 0 0 (MQ below (va_Qi (fun r w => ∃ M1 : SM, r = iZ (sDf J pp kd) ∧ w = wdC ad cI cZ cL J0 rd0 pr0 G0 K0 (wdM ad cI cZ cL J rd pr M1 ov) ∧ M1.1 = 0 ∧ MJ J M1) (zB9 D classes (wdC ad cI cZ cL J0 rd0 pr0 G0 K0 (wdM ad cI cZ cL J rd pr M ov))) A) ([.ref (ad 19), .int (iZ ((pp : Nat) : Int)), .int (iZ ((kd : Nat) : Int))] : List Value).toArray s 0 0 A) (F0 m 0 ls []) from K9 s.heap [] ls hP hD hS hl
  clear hP hD hS hl
  intro H locs ls hP hD hS hl
  refine lv_aload_n hx hb d_M_difference_0 rfl (lv_at hl 0 rfl) ?_
  refine lv_iload_n hx hb d_M_difference_1 rfl (lv_at hl 1 rfl) ?_
  refine lv_aload_n hx hb d_M_difference_2 rfl (lv_at hl 0 rfl) ?_
  refine va_get (D := D) (ci := 5) (v := .int (iZ ((jk J : Nat) : Int))) (C := n_M) (T := f_M) (N := 17) hx hb hts in_M hown hK hP 19 rfl rfl 8 (by decide) (hts _ fl_M_70) (fun _ h9 => h9) rfl d_M_difference_3 ?_
  refine z_callSR (As := [.int (iZ ((pp : Nat) : Int)), .int (iZ ((jk J : Nat) : Int))]) (rest := [.ref (ad 19)]) zTB Z (k_M_isIn (a := ((pp : Nat) : Int)) (b := ((jk J : Nat) : Int)) (by omega)) ⟨ml_M_59, sm_M_isIn, ini_M, co_M_isIn⟩ zd_M_isIn ⟨Nat.le_of_ble_eq_true rfl, Nat.le_of_ble_eq_true rfl⟩ hP hK hl.1 rfl (Nat.le_of_ble_eq_true rfl) d_M_difference_6 ⟨Nat.zero_le _, Nat.zero_le _⟩ ?_
  refine W.eq (g2 := F0 m 9 ls [.int (bI (decide (0 ≤ ((pp : Nat) : Int) ∧ ((pp : Nat) : Int) < ((jk J : Nat) : Int)))), .ref (ad 19)]) rfl ?_
  refine z_if_eqB (b := decide (0 ≤ ((pp : Nat) : Int) ∧ ((pp : Nat) : Int) < ((jk J : Nat) : Int))) (tgt := 24) hx hb d_M_difference_9 (by decide) (fun q9 => ?_) (fun q9 => ?_)
  · skip
    replace q9 := of_decide_eq_false q9
    exfalso; omega
  · skip
    replace q9 := of_decide_eq_true q9
    refine lv_iload_n hx hb d_M_difference_12 rfl (lv_at hl 2 rfl) ?_
    refine lv_iconst (v := iZ ((3 : Nat) : Int)) hx hb d_M_difference_13 (by decide) ?_
    refine z_callSR (As := [.int (iZ ((kd : Nat) : Int)), .int (iZ ((3 : Nat) : Int))]) (rest := [.ref (ad 19)]) zTB Z (k_M_isIn (a := ((kd : Nat) : Int)) (b := ((3 : Nat) : Int)) (by omega)) ⟨ml_M_59, sm_M_isIn, ini_M, co_M_isIn⟩ zd_M_isIn ⟨Nat.le_of_ble_eq_true rfl, Nat.le_of_ble_eq_true rfl⟩ hP hK hl.1 rfl (Nat.le_of_ble_eq_true rfl) d_M_difference_14 ⟨Nat.zero_le _, Nat.zero_le _⟩ ?_
    refine W.eq (g2 := F0 m 17 ls [.int (bI (decide (0 ≤ ((kd : Nat) : Int) ∧ ((kd : Nat) : Int) < ((3 : Nat) : Int)))), .ref (ad 19)]) rfl ?_
    refine z_if_eqB (b := decide (0 ≤ ((kd : Nat) : Int) ∧ ((kd : Nat) : Int) < ((3 : Nat) : Int))) (tgt := 24) hx hb d_M_difference_17 (by decide) (fun q17 => ?_) (fun q17 => ?_)
    · skip
      replace q17 := of_decide_eq_false q17
      exfalso; omega
    · skip
      replace q17 := of_decide_eq_true q17
      refine lv_iconst (v := iZ ((0 : Nat) : Int)) hx hb d_M_difference_20 (by decide) ?_
      refine lv_goto (tgt := 25) hx hb d_M_difference_21 (by decide) ?_
      refine va_put (D := D) (ci := 5) (v := .int (iZ ((0 : Nat) : Int))) (ty := .int) (C := n_M) (T := f_M) (N := 17) hx hb hts in_M ty_M tyo_M nm_M hown hK hP hD hS 19 rfl rfl 0 (by decide) (hts _ fl_M_55) (fun _ h9 => h9) rfl (by decide +kernel) rfl rfl (Nat.le_of_ble_eq_true rfl) d_M_difference_25 (fun H locs hP hD hS => ?_)
      have hP : va_P D classes (wdC ad cI cZ cL J0 rd0 pr0 G0 K0 (wdM ad cI cZ cL J rd pr (0, M.2) ov)) H := hP
      have hD : va_D A (wdC ad cI cZ cL J0 rd0 pr0 G0 K0 (wdM ad cI cZ cL J rd pr (0, M.2) ov)) := hD
      refine lv_aload_n hx hb d_M_difference_28 rfl (lv_at hl 0 rfl) ?_
      refine va_get (D := D) (ci := 5) (v := .int (iZ ((0 : Nat) : Int))) (C := n_M) (T := f_M) (N := 17) hx hb hts in_M hown hK hP 19 rfl rfl 0 (by decide) (hts _ fl_M_55) (fun _ h9 => h9) rfl d_M_difference_29 ?_
      refine z_if_le (a := ((0 : Nat) : Int)) (tgt := 39) hx hb (by omega) d_M_difference_32 (by decide) (fun q32 => ?_) (fun q32 => ?_)
      · skip
        refine lv_aload_n hx hb d_M_difference_39 rfl (lv_at hl 0 rfl) ?_
        refine lv_iload_n hx hb d_M_difference_40 rfl (lv_at hl 1 rfl) ?_
        refine lv_iload_n hx hb d_M_difference_41 rfl (lv_at hl 2 rfl) ?_
        refine z_callVR (As := [.int (iZ ((pp : Nat) : Int)), .int (iZ ((kd : Nat) : Int))]) (rest := []) zTB Z (k_M_by (J := J) (M := (0, M.2)) hI hM (pp := pp) (kd := kd) (by omega) (by omega)) ⟨ml_M_73, im_M_by, se_M_by, ini_M, co_M_by⟩ zd_M_by ⟨Nat.le_of_ble_eq_true rfl, Nat.le_of_ble_eq_true rfl⟩ hP hK (ci := 5) (q0 := 19) rfl rfl rfl hl.1 rfl (Nat.le_of_ble_eq_true rfl) d_M_difference_42 ⟨Nat.zero_le _, Nat.zero_le _⟩ ?_
        refine W.eq (g2 := F0 m 45 ls [.int (iZ (sDf J pp kd))]) rfl ?_
        exact z_iret Z hP hS d_M_difference_45 wdM_map (⟨_, rfl, rfl, rfl, hM⟩)
      · skip
        exfalso; omega

set_option maxHeartbeats 4000000 in
set_option maxRecDepth 100000 in
theorem k_M_rankx1 {l : Launch} {D : va_G} {ad : Nat → Nat} {cI cZ cL : ClassId} {J J0 : SJ} {rd rd0 : Nat → Int} {pr pr0 : Nat → Nat} {G0 : SH} {K0 : SK} {M : SM} {ov : Nat → Int64} (hI : JI J) (hM : MJ J M) {a b : Int} (h : z32 a ∧ z32 b ∧ (a < 0 ∨ ((jk J : Nat) : Int) ≤ a ∨ b < 0 ∨ 3 ≤ b)) : zMi l TB D classes (tysW cI cZ cL) y_M_rank w_M_rank 3 70 [.ref (ad 19), .int (iZ (a)), .int (iZ (b))] (wdC ad cI cZ cL J0 rd0 pr0 G0 K0 (wdM ad cI cZ cL J rd pr M ov)) (fun r w => ∃ M1 : SM, w = wdC ad cI cZ cL J0 rd0 pr0 G0 K0 (wdM ad cI cZ cL J rd pr M1 ov) ∧ M1.1 = 1 ∧ MJ J M1) := by
  refine z_of (Qc := fun A => va_Qi (fun r w => ∃ M1 : SM, w = wdC ad cI cZ cL J0 rd0 pr0 G0 K0 (wdM ad cI cZ cL J rd pr M1 ov) ∧ M1.1 = 1 ∧ MJ J M1) (zB9 D classes (wdC ad cI cZ cL J0 rd0 pr0 G0 K0 (wdM ad cI cZ cL J rd pr M ov))) A) (by decide) (Nat.le_of_ble_eq_true rfl) ?_
  intro p e s m below meth c A ls Z hP hK hD hS hA hl
  obtain ⟨hx, hb, hr, hml, hown, hts, hE, hlocks⟩ := id Z
  have hl : lv_has ls 3 [(0, .ref (ad 19)), (1, .int (iZ (a))), (2, .int (iZ (b)))] := hl
  obtain ⟨hn32, hk2, hpr, hct⟩ := id hI
  suffices K9 : ∀ (H : Heap) (locs : List Loc) (ls : Array Slot), va_P D classes (wdC ad cI cZ cL J0 rd0 pr0 G0 K0 (wdM ad cI cZ cL J rd pr M ov)) H → va_D A (wdC ad cI cZ cL J0 rd0 pr0 G0 K0 (wdM ad cI cZ cL J rd pr M ov)) → va_S A s.heap H locs → lv_has ls 3 [(0, .ref (ad 19)), (1, .int (iZ (a))), (2, .int (iZ (b)))] → W p l e (zRm 3 70) s m ([.ref (ad 19), .int (iZ (a)), .int (iZ (b))] : List Value).toArray below meth c H locs 0 0 (MQ below (va_Qi (fun r w => ∃ M1 : SM, w = wdC ad cI cZ cL J0 rd0 pr0 G0 K0 (wdM ad cI cZ cL J rd pr M1 ov) ∧ M1.1 = 1 ∧ MJ J M1) (zB9 D classes (wdC ad cI cZ cL J0 rd0 pr0 G0 K0 (wdM ad cI cZ cL J rd pr M ov))) A) ([.ref (ad 19), .int (iZ (a)), .int (iZ (b))] : List Value).toArray s 0 0 A) (F0 m 0 ls []) from K9 s.heap [] ls hP hD hS hl
  clear hP hD hS hl
  intro H locs ls hP hD hS hl
  refine lv_aload_n hx hb d_M_rank_0 rfl (lv_at hl 0 rfl) ?_
  refine lv_iload_n hx hb d_M_rank_1 rfl (lv_at hl 1 rfl) ?_
  refine lv_aload_n hx hb d_M_rank_2 rfl (lv_at hl 0 rfl) ?_
  refine va_get (D := D) (ci := 5) (v := .int (iZ ((jk J : Nat) : Int))) (C := n_M) (T := f_M) (N := 17) hx hb hts in_M hown hK hP 19 rfl rfl 8 (by decide) (hts _ fl_M_70) (fun _ h9 => h9) rfl d_M_rank_3 ?_
  refine z_callSR (As := [.int (iZ (a)), .int (iZ ((jk J : Nat) : Int))]) (rest := [.ref (ad 19)]) zTB Z (k_M_isIn (a := a) (b := ((jk J : Nat) : Int)) (by omega)) ⟨ml_M_59, sm_M_isIn, ini_M, co_M_isIn⟩ zd_M_isIn ⟨Nat.le_of_ble_eq_true rfl, Nat.le_of_ble_eq_true rfl⟩ hP hK hl.1 rfl (Nat.le_of_ble_eq_true rfl) d_M_rank_6 ⟨Nat.zero_le _, Nat.zero_le _⟩ ?_
  refine W.eq (g2 := F0 m 9 ls [.int (bI (decide (0 ≤ a ∧ a < ((jk J : Nat) : Int)))), .ref (ad 19)]) rfl ?_
  refine z_if_eqB (b := decide (0 ≤ a ∧ a < ((jk J : Nat) : Int))) (tgt := 24) hx hb d_M_rank_9 (by decide) (fun q9 => ?_) (fun q9 => ?_)
  · skip
    replace q9 := of_decide_eq_false q9
    refine lv_iconst (v := iZ ((1 : Nat) : Int)) hx hb d_M_rank_24 (by decide) ?_
    refine va_put (D := D) (ci := 5) (v := .int (iZ ((1 : Nat) : Int))) (ty := .int) (C := n_M) (T := f_M) (N := 17) hx hb hts in_M ty_M tyo_M nm_M hown hK hP hD hS 19 rfl rfl 0 (by decide) (hts _ fl_M_55) (fun _ h9 => h9) rfl (by decide +kernel) rfl rfl (Nat.le_of_ble_eq_true rfl) d_M_rank_25 (fun H locs hP hD hS => ?_)
    have hP : va_P D classes (wdC ad cI cZ cL J0 rd0 pr0 G0 K0 (wdM ad cI cZ cL J rd pr (1, M.2) ov)) H := hP
    have hD : va_D A (wdC ad cI cZ cL J0 rd0 pr0 G0 K0 (wdM ad cI cZ cL J rd pr (1, M.2) ov)) := hD
    refine lv_aload_n hx hb d_M_rank_28 rfl (lv_at hl 0 rfl) ?_
    refine va_get (D := D) (ci := 5) (v := .int (iZ ((1 : Nat) : Int))) (C := n_M) (T := f_M) (N := 17) hx hb hts in_M hown hK hP 19 rfl rfl 0 (by decide) (hts _ fl_M_55) (fun _ h9 => h9) rfl d_M_rank_29 ?_
    refine z_if_le (a := ((1 : Nat) : Int)) (tgt := 39) hx hb (by omega) d_M_rank_32 (by decide) (fun q32 => ?_) (fun q32 => ?_)
    · skip
      exfalso; omega
    · skip
      refine lv_iconst (v := iZ ((0 : Nat) : Int)) hx hb d_M_rank_35 (by decide) ?_
      refine lv_goto (tgt := 45) hx hb d_M_rank_36 (by decide) ?_
      exact z_iret Z hP hS d_M_rank_45 wdM_map (⟨_, rfl, rfl, hM⟩)
  · skip
    replace q9 := of_decide_eq_true q9
    refine lv_iload_n hx hb d_M_rank_12 rfl (lv_at hl 2 rfl) ?_
    refine lv_iconst (v := iZ ((3 : Nat) : Int)) hx hb d_M_rank_13 (by decide) ?_
    refine z_callSR (As := [.int (iZ (b)), .int (iZ ((3 : Nat) : Int))]) (rest := [.ref (ad 19)]) zTB Z (k_M_isIn (a := b) (b := ((3 : Nat) : Int)) (by omega)) ⟨ml_M_59, sm_M_isIn, ini_M, co_M_isIn⟩ zd_M_isIn ⟨Nat.le_of_ble_eq_true rfl, Nat.le_of_ble_eq_true rfl⟩ hP hK hl.1 rfl (Nat.le_of_ble_eq_true rfl) d_M_rank_14 ⟨Nat.zero_le _, Nat.zero_le _⟩ ?_
    refine W.eq (g2 := F0 m 17 ls [.int (bI (decide (0 ≤ b ∧ b < ((3 : Nat) : Int)))), .ref (ad 19)]) rfl ?_
    refine z_if_eqB (b := decide (0 ≤ b ∧ b < ((3 : Nat) : Int))) (tgt := 24) hx hb d_M_rank_17 (by decide) (fun q17 => ?_) (fun q17 => ?_)
    · skip
      replace q17 := of_decide_eq_false q17
      refine lv_iconst (v := iZ ((1 : Nat) : Int)) hx hb d_M_rank_24 (by decide) ?_
      refine va_put (D := D) (ci := 5) (v := .int (iZ ((1 : Nat) : Int))) (ty := .int) (C := n_M) (T := f_M) (N := 17) hx hb hts in_M ty_M tyo_M nm_M hown hK hP hD hS 19 rfl rfl 0 (by decide) (hts _ fl_M_55) (fun _ h9 => h9) rfl (by decide +kernel) rfl rfl (Nat.le_of_ble_eq_true rfl) d_M_rank_25 (fun H locs hP hD hS => ?_)
      have hP : va_P D classes (wdC ad cI cZ cL J0 rd0 pr0 G0 K0 (wdM ad cI cZ cL J rd pr (1, M.2) ov)) H := hP
      have hD : va_D A (wdC ad cI cZ cL J0 rd0 pr0 G0 K0 (wdM ad cI cZ cL J rd pr (1, M.2) ov)) := hD
      refine lv_aload_n hx hb d_M_rank_28 rfl (lv_at hl 0 rfl) ?_
      refine va_get (D := D) (ci := 5) (v := .int (iZ ((1 : Nat) : Int))) (C := n_M) (T := f_M) (N := 17) hx hb hts in_M hown hK hP 19 rfl rfl 0 (by decide) (hts _ fl_M_55) (fun _ h9 => h9) rfl d_M_rank_29 ?_
      refine z_if_le (a := ((1 : Nat) : Int)) (tgt := 39) hx hb (by omega) d_M_rank_32 (by decide) (fun q32 => ?_) (fun q32 => ?_)
      · skip
        exfalso; omega
      · skip
        refine lv_iconst (v := iZ ((0 : Nat) : Int)) hx hb d_M_rank_35 (by decide) ?_
        refine lv_goto (tgt := 45) hx hb d_M_rank_36 (by decide) ?_
        exact z_iret Z hP hS d_M_rank_45 wdM_map (⟨_, rfl, rfl, hM⟩)
    · skip
      replace q17 := of_decide_eq_true q17
      exfalso; omega

set_option maxHeartbeats 4000000 in
set_option maxRecDepth 100000 in
theorem k_M_rank0 {l : Launch} {D : va_G} {ad : Nat → Nat} {cI cZ cL : ClassId} {J J0 : SJ} {rd rd0 : Nat → Int} {pr pr0 : Nat → Nat} {G0 : SH} {K0 : SK} {M : SM} {ov : Nat → Int64} (hI : JI J) (hM : MJ J M) {pp kd : Nat} (hp : pp < jk J) (hkd : kd < 3) : zMi l TB D classes (tysW cI cZ cL) y_M_rank w_M_rank 3 70 [.ref (ad 19), .int (iZ ((pp : Nat) : Int)), .int (iZ ((kd : Nat) : Int))] (wdC ad cI cZ cL J0 rd0 pr0 G0 K0 (wdM ad cI cZ cL J rd pr M ov)) (fun r w => ∃ M1 : SM, r = iZ ((sRk J pp kd : Nat) : Int) ∧ w = wdC ad cI cZ cL J0 rd0 pr0 G0 K0 (wdM ad cI cZ cL J rd pr M1 ov) ∧ M1.1 = 0 ∧ MJ J M1) := by
  refine z_of (Qc := fun A => va_Qi (fun r w => ∃ M1 : SM, r = iZ ((sRk J pp kd : Nat) : Int) ∧ w = wdC ad cI cZ cL J0 rd0 pr0 G0 K0 (wdM ad cI cZ cL J rd pr M1 ov) ∧ M1.1 = 0 ∧ MJ J M1) (zB9 D classes (wdC ad cI cZ cL J0 rd0 pr0 G0 K0 (wdM ad cI cZ cL J rd pr M ov))) A) (by decide) (Nat.le_of_ble_eq_true rfl) ?_
  intro p e s m below meth c A ls Z hP hK hD hS hA hl
  obtain ⟨hx, hb, hr, hml, hown, hts, hE, hlocks⟩ := id Z
  have hl : lv_has ls 3 [(0, .ref (ad 19)), (1, .int (iZ ((pp : Nat) : Int))), (2, .int (iZ ((kd : Nat) : Int)))] := hl
  obtain ⟨hn32, hk2, hpr, hct⟩ := id hI
  suffices K9 : ∀ (H : Heap) (locs : List Loc) (ls : Array Slot), va_P D classes (wdC ad cI cZ cL J0 rd0 pr0 G0 K0 (wdM ad cI cZ cL J rd pr M ov)) H → va_D A (wdC ad cI cZ cL J0 rd0 pr0 G0 K0 (wdM ad cI cZ cL J rd pr M ov)) → va_S A s.heap H locs → lv_has ls 3 [(0, .ref (ad 19)), (1, .int (iZ ((pp : Nat) : Int))), (2, .int (iZ ((kd : Nat) : Int)))] → W p l e (zRm 3 70) s m ([.ref (ad 19), .int (iZ ((pp : Nat) : Int)), .int (iZ ((kd : Nat) : Int))] : List Value).toArray below meth c H locs 0 0 (MQ below (va_Qi (fun r w => ∃ M1 : SM, r = iZ ((sRk J pp kd : Nat) : Int) ∧ w = wdC ad cI cZ cL J0 rd0 pr0 G0 K0 (wdM ad cI cZ cL J rd pr M1 ov) ∧ M1.1 = 0 ∧ MJ J M1) (zB9 D classes (wdC ad cI cZ cL J0 rd0 pr0 G0 K0 (wdM ad cI cZ cL J rd pr M ov))) A) ([.ref (ad 19), .int (iZ ((pp : Nat) : Int)), .int (iZ ((kd : Nat) : Int))] : List Value).toArray s 0 0 A) (F0 m 0 ls []) from K9 s.heap [] ls hP hD hS hl
  clear hP hD hS hl
  intro H locs ls hP hD hS hl
  refine lv_aload_n hx hb d_M_rank_0 rfl (lv_at hl 0 rfl) ?_
  refine lv_iload_n hx hb d_M_rank_1 rfl (lv_at hl 1 rfl) ?_
  refine lv_aload_n hx hb d_M_rank_2 rfl (lv_at hl 0 rfl) ?_
  refine va_get (D := D) (ci := 5) (v := .int (iZ ((jk J : Nat) : Int))) (C := n_M) (T := f_M) (N := 17) hx hb hts in_M hown hK hP 19 rfl rfl 8 (by decide) (hts _ fl_M_70) (fun _ h9 => h9) rfl d_M_rank_3 ?_
  refine z_callSR (As := [.int (iZ ((pp : Nat) : Int)), .int (iZ ((jk J : Nat) : Int))]) (rest := [.ref (ad 19)]) zTB Z (k_M_isIn (a := ((pp : Nat) : Int)) (b := ((jk J : Nat) : Int)) (by omega)) ⟨ml_M_59, sm_M_isIn, ini_M, co_M_isIn⟩ zd_M_isIn ⟨Nat.le_of_ble_eq_true rfl, Nat.le_of_ble_eq_true rfl⟩ hP hK hl.1 rfl (Nat.le_of_ble_eq_true rfl) d_M_rank_6 ⟨Nat.zero_le _, Nat.zero_le _⟩ ?_
  refine W.eq (g2 := F0 m 9 ls [.int (bI (decide (0 ≤ ((pp : Nat) : Int) ∧ ((pp : Nat) : Int) < ((jk J : Nat) : Int)))), .ref (ad 19)]) rfl ?_
  refine z_if_eqB (b := decide (0 ≤ ((pp : Nat) : Int) ∧ ((pp : Nat) : Int) < ((jk J : Nat) : Int))) (tgt := 24) hx hb d_M_rank_9 (by decide) (fun q9 => ?_) (fun q9 => ?_)
  · skip
    replace q9 := of_decide_eq_false q9
    exfalso; omega
  · skip
    replace q9 := of_decide_eq_true q9
    refine lv_iload_n hx hb d_M_rank_12 rfl (lv_at hl 2 rfl) ?_
    refine lv_iconst (v := iZ ((3 : Nat) : Int)) hx hb d_M_rank_13 (by decide) ?_
    refine z_callSR (As := [.int (iZ ((kd : Nat) : Int)), .int (iZ ((3 : Nat) : Int))]) (rest := [.ref (ad 19)]) zTB Z (k_M_isIn (a := ((kd : Nat) : Int)) (b := ((3 : Nat) : Int)) (by omega)) ⟨ml_M_59, sm_M_isIn, ini_M, co_M_isIn⟩ zd_M_isIn ⟨Nat.le_of_ble_eq_true rfl, Nat.le_of_ble_eq_true rfl⟩ hP hK hl.1 rfl (Nat.le_of_ble_eq_true rfl) d_M_rank_14 ⟨Nat.zero_le _, Nat.zero_le _⟩ ?_
    refine W.eq (g2 := F0 m 17 ls [.int (bI (decide (0 ≤ ((kd : Nat) : Int) ∧ ((kd : Nat) : Int) < ((3 : Nat) : Int)))), .ref (ad 19)]) rfl ?_
    refine z_if_eqB (b := decide (0 ≤ ((kd : Nat) : Int) ∧ ((kd : Nat) : Int) < ((3 : Nat) : Int))) (tgt := 24) hx hb d_M_rank_17 (by decide) (fun q17 => ?_) (fun q17 => ?_)
    · skip
      replace q17 := of_decide_eq_false q17
      exfalso; omega
    · skip
      replace q17 := of_decide_eq_true q17
      refine lv_iconst (v := iZ ((0 : Nat) : Int)) hx hb d_M_rank_20 (by decide) ?_
      refine lv_goto (tgt := 25) hx hb d_M_rank_21 (by decide) ?_
      refine va_put (D := D) (ci := 5) (v := .int (iZ ((0 : Nat) : Int))) (ty := .int) (C := n_M) (T := f_M) (N := 17) hx hb hts in_M ty_M tyo_M nm_M hown hK hP hD hS 19 rfl rfl 0 (by decide) (hts _ fl_M_55) (fun _ h9 => h9) rfl (by decide +kernel) rfl rfl (Nat.le_of_ble_eq_true rfl) d_M_rank_25 (fun H locs hP hD hS => ?_)
      have hP : va_P D classes (wdC ad cI cZ cL J0 rd0 pr0 G0 K0 (wdM ad cI cZ cL J rd pr (0, M.2) ov)) H := hP
      have hD : va_D A (wdC ad cI cZ cL J0 rd0 pr0 G0 K0 (wdM ad cI cZ cL J rd pr (0, M.2) ov)) := hD
      refine lv_aload_n hx hb d_M_rank_28 rfl (lv_at hl 0 rfl) ?_
      refine va_get (D := D) (ci := 5) (v := .int (iZ ((0 : Nat) : Int))) (C := n_M) (T := f_M) (N := 17) hx hb hts in_M hown hK hP 19 rfl rfl 0 (by decide) (hts _ fl_M_55) (fun _ h9 => h9) rfl d_M_rank_29 ?_
      refine z_if_le (a := ((0 : Nat) : Int)) (tgt := 39) hx hb (by omega) d_M_rank_32 (by decide) (fun q32 => ?_) (fun q32 => ?_)
      · skip
        refine lv_aload_n hx hb d_M_rank_39 rfl (lv_at hl 0 rfl) ?_
        refine lv_iload_n hx hb d_M_rank_40 rfl (lv_at hl 1 rfl) ?_
        refine lv_iload_n hx hb d_M_rank_41 rfl (lv_at hl 2 rfl) ?_
        refine z_callVR (As := [.int (iZ ((pp : Nat) : Int)), .int (iZ ((kd : Nat) : Int))]) (rest := []) zTB Z (k_M_rankOf (J := J) (M := (0, M.2)) hI hM (pp := pp) (kd := kd) (by omega) (by omega)) ⟨ml_M_98, im_M_rankOf, se_M_rankOf, ini_M, co_M_rankOf⟩ zd_M_rankOf ⟨Nat.le_of_ble_eq_true rfl, Nat.le_of_ble_eq_true rfl⟩ hP hK (ci := 5) (q0 := 19) rfl rfl rfl hl.1 rfl (Nat.le_of_ble_eq_true rfl) d_M_rank_42 ⟨Nat.zero_le _, Nat.zero_le _⟩ ?_
        refine W.eq (g2 := F0 m 45 ls [.int (iZ ((sRk J pp kd : Nat) : Int))]) rfl ?_
        exact z_iret Z hP hS d_M_rank_45 wdM_map (⟨_, rfl, rfl, rfl, hM⟩)
      · skip
        exfalso; omega

set_option maxHeartbeats 4000000 in
set_option maxRecDepth 100000 in
theorem k_M_keptx1 {l : Launch} {D : va_G} {ad : Nat → Nat} {cI cZ cL : ClassId} {J J0 : SJ} {rd rd0 : Nat → Int} {pr pr0 : Nat → Nat} {G0 : SH} {K0 : SK} {M : SM} {ov : Nat → Int64} (hI : JI J) (hM : MJ J M) {a : Int} (h : z32 a ∧ (a < 0 ∨ 3 ≤ a)) : zMi l TB D classes (tysW cI cZ cL) y_M_kept w_M_kept 2 46 [.ref (ad 19), .int (iZ (a))] (wdC ad cI cZ cL J0 rd0 pr0 G0 K0 (wdM ad cI cZ cL J rd pr M ov)) (fun r w => ∃ M1 : SM, w = wdC ad cI cZ cL J0 rd0 pr0 G0 K0 (wdM ad cI cZ cL J rd pr M1 ov) ∧ M1.1 = 1 ∧ MJ J M1) := by
  refine z_of (Qc := fun A => va_Qi (fun r w => ∃ M1 : SM, w = wdC ad cI cZ cL J0 rd0 pr0 G0 K0 (wdM ad cI cZ cL J rd pr M1 ov) ∧ M1.1 = 1 ∧ MJ J M1) (zB9 D classes (wdC ad cI cZ cL J0 rd0 pr0 G0 K0 (wdM ad cI cZ cL J rd pr M ov))) A) (by decide) (Nat.le_of_ble_eq_true rfl) ?_
  intro p e s m below meth c A ls Z hP hK hD hS hA hl
  obtain ⟨hx, hb, hr, hml, hown, hts, hE, hlocks⟩ := id Z
  have hl : lv_has ls 2 [(0, .ref (ad 19)), (1, .int (iZ (a)))] := hl
  obtain ⟨hn32, hk2, hpr, hct⟩ := id hI
  suffices K9 : ∀ (H : Heap) (locs : List Loc) (ls : Array Slot), va_P D classes (wdC ad cI cZ cL J0 rd0 pr0 G0 K0 (wdM ad cI cZ cL J rd pr M ov)) H → va_D A (wdC ad cI cZ cL J0 rd0 pr0 G0 K0 (wdM ad cI cZ cL J rd pr M ov)) → va_S A s.heap H locs → lv_has ls 2 [(0, .ref (ad 19)), (1, .int (iZ (a)))] → W p l e (zRm 2 46) s m ([.ref (ad 19), .int (iZ (a))] : List Value).toArray below meth c H locs 0 0 (MQ below (va_Qi (fun r w => ∃ M1 : SM, w = wdC ad cI cZ cL J0 rd0 pr0 G0 K0 (wdM ad cI cZ cL J rd pr M1 ov) ∧ M1.1 = 1 ∧ MJ J M1) (zB9 D classes (wdC ad cI cZ cL J0 rd0 pr0 G0 K0 (wdM ad cI cZ cL J rd pr M ov))) A) ([.ref (ad 19), .int (iZ (a))] : List Value).toArray s 0 0 A) (F0 m 0 ls []) from K9 s.heap [] ls hP hD hS hl
  clear hP hD hS hl
  intro H locs ls hP hD hS hl
  refine lv_aload_n hx hb d_M_kept_0 rfl (lv_at hl 0 rfl) ?_
  refine lv_iload_n hx hb d_M_kept_1 rfl (lv_at hl 1 rfl) ?_
  refine lv_iconst (v := iZ ((3 : Nat) : Int)) hx hb d_M_kept_2 (by decide) ?_
  refine z_callSR (As := [.int (iZ (a)), .int (iZ ((3 : Nat) : Int))]) (rest := [.ref (ad 19)]) zTB Z (k_M_isIn (a := a) (b := ((3 : Nat) : Int)) (by omega)) ⟨ml_M_59, sm_M_isIn, ini_M, co_M_isIn⟩ zd_M_isIn ⟨Nat.le_of_ble_eq_true rfl, Nat.le_of_ble_eq_true rfl⟩ hP hK hl.1 rfl (Nat.le_of_ble_eq_true rfl) d_M_kept_3 ⟨Nat.zero_le _, Nat.zero_le _⟩ ?_
  refine W.eq (g2 := F0 m 6 ls [.int (bI (decide (0 ≤ a ∧ a < ((3 : Nat) : Int)))), .ref (ad 19)]) rfl ?_
  refine z_if_eqB (b := decide (0 ≤ a ∧ a < ((3 : Nat) : Int))) (tgt := 13) hx hb d_M_kept_6 (by decide) (fun q6 => ?_) (fun q6 => ?_)
  · skip
    replace q6 := of_decide_eq_false q6
    refine lv_iconst (v := iZ ((1 : Nat) : Int)) hx hb d_M_kept_13 (by decide) ?_
    refine va_put (D := D) (ci := 5) (v := .int (iZ ((1 : Nat) : Int))) (ty := .int) (C := n_M) (T := f_M) (N := 17) hx hb hts in_M ty_M tyo_M nm_M hown hK hP hD hS 19 rfl rfl 0 (by decide) (hts _ fl_M_55) (fun _ h9 => h9) rfl (by decide +kernel) rfl rfl (Nat.le_of_ble_eq_true rfl) d_M_kept_14 (fun H locs hP hD hS => ?_)
    have hP : va_P D classes (wdC ad cI cZ cL J0 rd0 pr0 G0 K0 (wdM ad cI cZ cL J rd pr (1, M.2) ov)) H := hP
    have hD : va_D A (wdC ad cI cZ cL J0 rd0 pr0 G0 K0 (wdM ad cI cZ cL J rd pr (1, M.2) ov)) := hD
    refine lv_aload_n hx hb d_M_kept_17 rfl (lv_at hl 0 rfl) ?_
    refine va_get (D := D) (ci := 5) (v := .int (iZ ((1 : Nat) : Int))) (C := n_M) (T := f_M) (N := 17) hx hb hts in_M hown hK hP 19 rfl rfl 0 (by decide) (hts _ fl_M_55) (fun _ h9 => h9) rfl d_M_kept_18 ?_
    refine z_if_le (a := ((1 : Nat) : Int)) (tgt := 28) hx hb (by omega) d_M_kept_21 (by decide) (fun q21 => ?_) (fun q21 => ?_)
    · skip
      exfalso; omega
    · skip
      refine lv_iconst (v := iZ ((0 : Nat) : Int)) hx hb d_M_kept_24 (by decide) ?_
      refine lv_goto (tgt := 33) hx hb d_M_kept_25 (by decide) ?_
      exact z_iret Z hP hS d_M_kept_33 wdM_map (⟨_, rfl, rfl, hM⟩)
  · skip
    replace q6 := of_decide_eq_true q6
    exfalso; omega

set_option maxHeartbeats 4000000 in
set_option maxRecDepth 100000 in
theorem k_M_kept0 {l : Launch} {D : va_G} {ad : Nat → Nat} {cI cZ cL : ClassId} {J J0 : SJ} {rd rd0 : Nat → Int} {pr pr0 : Nat → Nat} {G0 : SH} {K0 : SK} {M : SM} {ov : Nat → Int64} (hI : JI J) (hM : MJ J M) {kd : Nat} (hkd : kd < 3) : zMi l TB D classes (tysW cI cZ cL) y_M_kept w_M_kept 2 46 [.ref (ad 19), .int (iZ ((kd : Nat) : Int))] (wdC ad cI cZ cL J0 rd0 pr0 G0 K0 (wdM ad cI cZ cL J rd pr M ov)) (fun r w => ∃ M1 : SM, r = iZ ((sKO J 4 kd (jk J) : Nat) : Int) ∧ w = wdC ad cI cZ cL J0 rd0 pr0 G0 K0 (wdM ad cI cZ cL J rd pr M1 ov) ∧ M1.1 = 0 ∧ MJ J M1) := by
  refine z_of (Qc := fun A => va_Qi (fun r w => ∃ M1 : SM, r = iZ ((sKO J 4 kd (jk J) : Nat) : Int) ∧ w = wdC ad cI cZ cL J0 rd0 pr0 G0 K0 (wdM ad cI cZ cL J rd pr M1 ov) ∧ M1.1 = 0 ∧ MJ J M1) (zB9 D classes (wdC ad cI cZ cL J0 rd0 pr0 G0 K0 (wdM ad cI cZ cL J rd pr M ov))) A) (by decide) (Nat.le_of_ble_eq_true rfl) ?_
  intro p e s m below meth c A ls Z hP hK hD hS hA hl
  obtain ⟨hx, hb, hr, hml, hown, hts, hE, hlocks⟩ := id Z
  have hl : lv_has ls 2 [(0, .ref (ad 19)), (1, .int (iZ ((kd : Nat) : Int)))] := hl
  obtain ⟨hn32, hk2, hpr, hct⟩ := id hI
  suffices K9 : ∀ (H : Heap) (locs : List Loc) (ls : Array Slot), va_P D classes (wdC ad cI cZ cL J0 rd0 pr0 G0 K0 (wdM ad cI cZ cL J rd pr M ov)) H → va_D A (wdC ad cI cZ cL J0 rd0 pr0 G0 K0 (wdM ad cI cZ cL J rd pr M ov)) → va_S A s.heap H locs → lv_has ls 2 [(0, .ref (ad 19)), (1, .int (iZ ((kd : Nat) : Int)))] → W p l e (zRm 2 46) s m ([.ref (ad 19), .int (iZ ((kd : Nat) : Int))] : List Value).toArray below meth c H locs 0 0 (MQ below (va_Qi (fun r w => ∃ M1 : SM, r = iZ ((sKO J 4 kd (jk J) : Nat) : Int) ∧ w = wdC ad cI cZ cL J0 rd0 pr0 G0 K0 (wdM ad cI cZ cL J rd pr M1 ov) ∧ M1.1 = 0 ∧ MJ J M1) (zB9 D classes (wdC ad cI cZ cL J0 rd0 pr0 G0 K0 (wdM ad cI cZ cL J rd pr M ov))) A) ([.ref (ad 19), .int (iZ ((kd : Nat) : Int))] : List Value).toArray s 0 0 A) (F0 m 0 ls []) from K9 s.heap [] ls hP hD hS hl
  clear hP hD hS hl
  intro H locs ls hP hD hS hl
  refine lv_aload_n hx hb d_M_kept_0 rfl (lv_at hl 0 rfl) ?_
  refine lv_iload_n hx hb d_M_kept_1 rfl (lv_at hl 1 rfl) ?_
  refine lv_iconst (v := iZ ((3 : Nat) : Int)) hx hb d_M_kept_2 (by decide) ?_
  refine z_callSR (As := [.int (iZ ((kd : Nat) : Int)), .int (iZ ((3 : Nat) : Int))]) (rest := [.ref (ad 19)]) zTB Z (k_M_isIn (a := ((kd : Nat) : Int)) (b := ((3 : Nat) : Int)) (by omega)) ⟨ml_M_59, sm_M_isIn, ini_M, co_M_isIn⟩ zd_M_isIn ⟨Nat.le_of_ble_eq_true rfl, Nat.le_of_ble_eq_true rfl⟩ hP hK hl.1 rfl (Nat.le_of_ble_eq_true rfl) d_M_kept_3 ⟨Nat.zero_le _, Nat.zero_le _⟩ ?_
  refine W.eq (g2 := F0 m 6 ls [.int (bI (decide (0 ≤ ((kd : Nat) : Int) ∧ ((kd : Nat) : Int) < ((3 : Nat) : Int)))), .ref (ad 19)]) rfl ?_
  refine z_if_eqB (b := decide (0 ≤ ((kd : Nat) : Int) ∧ ((kd : Nat) : Int) < ((3 : Nat) : Int))) (tgt := 13) hx hb d_M_kept_6 (by decide) (fun q6 => ?_) (fun q6 => ?_)
  · skip
    replace q6 := of_decide_eq_false q6
    exfalso; omega
  · skip
    replace q6 := of_decide_eq_true q6
    refine lv_iconst (v := iZ ((0 : Nat) : Int)) hx hb d_M_kept_9 (by decide) ?_
    refine lv_goto (tgt := 14) hx hb d_M_kept_10 (by decide) ?_
    refine va_put (D := D) (ci := 5) (v := .int (iZ ((0 : Nat) : Int))) (ty := .int) (C := n_M) (T := f_M) (N := 17) hx hb hts in_M ty_M tyo_M nm_M hown hK hP hD hS 19 rfl rfl 0 (by decide) (hts _ fl_M_55) (fun _ h9 => h9) rfl (by decide +kernel) rfl rfl (Nat.le_of_ble_eq_true rfl) d_M_kept_14 (fun H locs hP hD hS => ?_)
    have hP : va_P D classes (wdC ad cI cZ cL J0 rd0 pr0 G0 K0 (wdM ad cI cZ cL J rd pr (0, M.2) ov)) H := hP
    have hD : va_D A (wdC ad cI cZ cL J0 rd0 pr0 G0 K0 (wdM ad cI cZ cL J rd pr (0, M.2) ov)) := hD
    refine lv_aload_n hx hb d_M_kept_17 rfl (lv_at hl 0 rfl) ?_
    refine va_get (D := D) (ci := 5) (v := .int (iZ ((0 : Nat) : Int))) (C := n_M) (T := f_M) (N := 17) hx hb hts in_M hown hK hP 19 rfl rfl 0 (by decide) (hts _ fl_M_55) (fun _ h9 => h9) rfl d_M_kept_18 ?_
    refine z_if_le (a := ((0 : Nat) : Int)) (tgt := 28) hx hb (by omega) d_M_kept_21 (by decide) (fun q21 => ?_) (fun q21 => ?_)
    · skip
      refine lv_aload_n hx hb d_M_kept_28 rfl (lv_at hl 0 rfl) ?_
      refine lv_iload_n hx hb d_M_kept_29 rfl (lv_at hl 1 rfl) ?_
      refine z_callVR (As := [.int (iZ ((kd : Nat) : Int))]) (rest := []) zTB Z (k_M_keptOf (J := J) (M := (0, M.2)) hI hM (kd := kd) (by omega)) ⟨ml_M_80, im_M_keptOf, se_M_keptOf, ini_M, co_M_keptOf⟩ zd_M_keptOf ⟨Nat.le_of_ble_eq_true rfl, Nat.le_of_ble_eq_true rfl⟩ hP hK (ci := 5) (q0 := 19) rfl rfl rfl hl.1 rfl (Nat.le_of_ble_eq_true rfl) d_M_kept_30 ⟨Nat.zero_le _, Nat.zero_le _⟩ ?_
      refine W.eq (g2 := F0 m 33 ls [.int (iZ ((sKO J 4 kd (jk J) : Nat) : Int))]) rfl ?_
      exact z_iret Z hP hS d_M_kept_33 wdM_map (⟨_, rfl, rfl, rfl, hM⟩)
    · skip
      exfalso; omega

set_option maxHeartbeats 4000000 in
set_option maxRecDepth 100000 in
theorem k_M_sumx1 {l : Launch} {D : va_G} {ad : Nat → Nat} {cI cZ cL : ClassId} {J J0 : SJ} {rd rd0 : Nat → Int} {pr pr0 : Nat → Nat} {G0 : SH} {K0 : SK} {M : SM} {ov : Nat → Int64} (hI : JI J) (hM : MJ J M) {a : Int} (h : z32 a ∧ (a < 0 ∨ 3 ≤ a)) : zMi l TB D classes (tysW cI cZ cL) y_M_sum w_M_sum 2 46 [.ref (ad 19), .int (iZ (a))] (wdC ad cI cZ cL J0 rd0 pr0 G0 K0 (wdM ad cI cZ cL J rd pr M ov)) (fun r w => ∃ M1 : SM, w = wdC ad cI cZ cL J0 rd0 pr0 G0 K0 (wdM ad cI cZ cL J rd pr M1 ov) ∧ M1.1 = 1 ∧ MJ J M1) := by
  refine z_of (Qc := fun A => va_Qi (fun r w => ∃ M1 : SM, w = wdC ad cI cZ cL J0 rd0 pr0 G0 K0 (wdM ad cI cZ cL J rd pr M1 ov) ∧ M1.1 = 1 ∧ MJ J M1) (zB9 D classes (wdC ad cI cZ cL J0 rd0 pr0 G0 K0 (wdM ad cI cZ cL J rd pr M ov))) A) (by decide) (Nat.le_of_ble_eq_true rfl) ?_
  intro p e s m below meth c A ls Z hP hK hD hS hA hl
  obtain ⟨hx, hb, hr, hml, hown, hts, hE, hlocks⟩ := id Z
  have hl : lv_has ls 2 [(0, .ref (ad 19)), (1, .int (iZ (a)))] := hl
  obtain ⟨hn32, hk2, hpr, hct⟩ := id hI
  suffices K9 : ∀ (H : Heap) (locs : List Loc) (ls : Array Slot), va_P D classes (wdC ad cI cZ cL J0 rd0 pr0 G0 K0 (wdM ad cI cZ cL J rd pr M ov)) H → va_D A (wdC ad cI cZ cL J0 rd0 pr0 G0 K0 (wdM ad cI cZ cL J rd pr M ov)) → va_S A s.heap H locs → lv_has ls 2 [(0, .ref (ad 19)), (1, .int (iZ (a)))] → W p l e (zRm 2 46) s m ([.ref (ad 19), .int (iZ (a))] : List Value).toArray below meth c H locs 0 0 (MQ below (va_Qi (fun r w => ∃ M1 : SM, w = wdC ad cI cZ cL J0 rd0 pr0 G0 K0 (wdM ad cI cZ cL J rd pr M1 ov) ∧ M1.1 = 1 ∧ MJ J M1) (zB9 D classes (wdC ad cI cZ cL J0 rd0 pr0 G0 K0 (wdM ad cI cZ cL J rd pr M ov))) A) ([.ref (ad 19), .int (iZ (a))] : List Value).toArray s 0 0 A) (F0 m 0 ls []) from K9 s.heap [] ls hP hD hS hl
  clear hP hD hS hl
  intro H locs ls hP hD hS hl
  refine lv_aload_n hx hb d_M_sum_0 rfl (lv_at hl 0 rfl) ?_
  refine lv_iload_n hx hb d_M_sum_1 rfl (lv_at hl 1 rfl) ?_
  refine lv_iconst (v := iZ ((3 : Nat) : Int)) hx hb d_M_sum_2 (by decide) ?_
  refine z_callSR (As := [.int (iZ (a)), .int (iZ ((3 : Nat) : Int))]) (rest := [.ref (ad 19)]) zTB Z (k_M_isIn (a := a) (b := ((3 : Nat) : Int)) (by omega)) ⟨ml_M_59, sm_M_isIn, ini_M, co_M_isIn⟩ zd_M_isIn ⟨Nat.le_of_ble_eq_true rfl, Nat.le_of_ble_eq_true rfl⟩ hP hK hl.1 rfl (Nat.le_of_ble_eq_true rfl) d_M_sum_3 ⟨Nat.zero_le _, Nat.zero_le _⟩ ?_
  refine W.eq (g2 := F0 m 6 ls [.int (bI (decide (0 ≤ a ∧ a < ((3 : Nat) : Int)))), .ref (ad 19)]) rfl ?_
  refine z_if_eqB (b := decide (0 ≤ a ∧ a < ((3 : Nat) : Int))) (tgt := 13) hx hb d_M_sum_6 (by decide) (fun q6 => ?_) (fun q6 => ?_)
  · skip
    replace q6 := of_decide_eq_false q6
    refine lv_iconst (v := iZ ((1 : Nat) : Int)) hx hb d_M_sum_13 (by decide) ?_
    refine va_put (D := D) (ci := 5) (v := .int (iZ ((1 : Nat) : Int))) (ty := .int) (C := n_M) (T := f_M) (N := 17) hx hb hts in_M ty_M tyo_M nm_M hown hK hP hD hS 19 rfl rfl 0 (by decide) (hts _ fl_M_55) (fun _ h9 => h9) rfl (by decide +kernel) rfl rfl (Nat.le_of_ble_eq_true rfl) d_M_sum_14 (fun H locs hP hD hS => ?_)
    have hP : va_P D classes (wdC ad cI cZ cL J0 rd0 pr0 G0 K0 (wdM ad cI cZ cL J rd pr (1, M.2) ov)) H := hP
    have hD : va_D A (wdC ad cI cZ cL J0 rd0 pr0 G0 K0 (wdM ad cI cZ cL J rd pr (1, M.2) ov)) := hD
    refine lv_aload_n hx hb d_M_sum_17 rfl (lv_at hl 0 rfl) ?_
    refine va_get (D := D) (ci := 5) (v := .int (iZ ((1 : Nat) : Int))) (C := n_M) (T := f_M) (N := 17) hx hb hts in_M hown hK hP 19 rfl rfl 0 (by decide) (hts _ fl_M_55) (fun _ h9 => h9) rfl d_M_sum_18 ?_
    refine z_if_le (a := ((1 : Nat) : Int)) (tgt := 28) hx hb (by omega) d_M_sum_21 (by decide) (fun q21 => ?_) (fun q21 => ?_)
    · skip
      exfalso; omega
    · skip
      refine lv_iconst (v := iZ ((0 : Nat) : Int)) hx hb d_M_sum_24 (by decide) ?_
      refine lv_goto (tgt := 33) hx hb d_M_sum_25 (by decide) ?_
      exact z_iret Z hP hS d_M_sum_33 wdM_map (⟨_, rfl, rfl, hM⟩)
  · skip
    replace q6 := of_decide_eq_true q6
    exfalso; omega

set_option maxHeartbeats 4000000 in
set_option maxRecDepth 100000 in
theorem k_M_sum0 {l : Launch} {D : va_G} {ad : Nat → Nat} {cI cZ cL : ClassId} {J J0 : SJ} {rd rd0 : Nat → Int} {pr pr0 : Nat → Nat} {G0 : SH} {K0 : SK} {M : SM} {ov : Nat → Int64} (hI : JI J) (hM : MJ J M) {kd : Nat} (hkd : kd < 3) : zMi l TB D classes (tysW cI cZ cL) y_M_sum w_M_sum 2 46 [.ref (ad 19), .int (iZ ((kd : Nat) : Int))] (wdC ad cI cZ cL J0 rd0 pr0 G0 K0 (wdM ad cI cZ cL J rd pr M ov)) (fun r w => ∃ M1 : SM, r = iZ (sSO J 4 kd (jk J)) ∧ w = wdC ad cI cZ cL J0 rd0 pr0 G0 K0 (wdM ad cI cZ cL J rd pr M1 ov) ∧ M1.1 = 0 ∧ MJ J M1) := by
  refine z_of (Qc := fun A => va_Qi (fun r w => ∃ M1 : SM, r = iZ (sSO J 4 kd (jk J)) ∧ w = wdC ad cI cZ cL J0 rd0 pr0 G0 K0 (wdM ad cI cZ cL J rd pr M1 ov) ∧ M1.1 = 0 ∧ MJ J M1) (zB9 D classes (wdC ad cI cZ cL J0 rd0 pr0 G0 K0 (wdM ad cI cZ cL J rd pr M ov))) A) (by decide) (Nat.le_of_ble_eq_true rfl) ?_
  intro p e s m below meth c A ls Z hP hK hD hS hA hl
  obtain ⟨hx, hb, hr, hml, hown, hts, hE, hlocks⟩ := id Z
  have hl : lv_has ls 2 [(0, .ref (ad 19)), (1, .int (iZ ((kd : Nat) : Int)))] := hl
  obtain ⟨hn32, hk2, hpr, hct⟩ := id hI
  suffices K9 : ∀ (H : Heap) (locs : List Loc) (ls : Array Slot), va_P D classes (wdC ad cI cZ cL J0 rd0 pr0 G0 K0 (wdM ad cI cZ cL J rd pr M ov)) H → va_D A (wdC ad cI cZ cL J0 rd0 pr0 G0 K0 (wdM ad cI cZ cL J rd pr M ov)) → va_S A s.heap H locs → lv_has ls 2 [(0, .ref (ad 19)), (1, .int (iZ ((kd : Nat) : Int)))] → W p l e (zRm 2 46) s m ([.ref (ad 19), .int (iZ ((kd : Nat) : Int))] : List Value).toArray below meth c H locs 0 0 (MQ below (va_Qi (fun r w => ∃ M1 : SM, r = iZ (sSO J 4 kd (jk J)) ∧ w = wdC ad cI cZ cL J0 rd0 pr0 G0 K0 (wdM ad cI cZ cL J rd pr M1 ov) ∧ M1.1 = 0 ∧ MJ J M1) (zB9 D classes (wdC ad cI cZ cL J0 rd0 pr0 G0 K0 (wdM ad cI cZ cL J rd pr M ov))) A) ([.ref (ad 19), .int (iZ ((kd : Nat) : Int))] : List Value).toArray s 0 0 A) (F0 m 0 ls []) from K9 s.heap [] ls hP hD hS hl
  clear hP hD hS hl
  intro H locs ls hP hD hS hl
  refine lv_aload_n hx hb d_M_sum_0 rfl (lv_at hl 0 rfl) ?_
  refine lv_iload_n hx hb d_M_sum_1 rfl (lv_at hl 1 rfl) ?_
  refine lv_iconst (v := iZ ((3 : Nat) : Int)) hx hb d_M_sum_2 (by decide) ?_
  refine z_callSR (As := [.int (iZ ((kd : Nat) : Int)), .int (iZ ((3 : Nat) : Int))]) (rest := [.ref (ad 19)]) zTB Z (k_M_isIn (a := ((kd : Nat) : Int)) (b := ((3 : Nat) : Int)) (by omega)) ⟨ml_M_59, sm_M_isIn, ini_M, co_M_isIn⟩ zd_M_isIn ⟨Nat.le_of_ble_eq_true rfl, Nat.le_of_ble_eq_true rfl⟩ hP hK hl.1 rfl (Nat.le_of_ble_eq_true rfl) d_M_sum_3 ⟨Nat.zero_le _, Nat.zero_le _⟩ ?_
  refine W.eq (g2 := F0 m 6 ls [.int (bI (decide (0 ≤ ((kd : Nat) : Int) ∧ ((kd : Nat) : Int) < ((3 : Nat) : Int)))), .ref (ad 19)]) rfl ?_
  refine z_if_eqB (b := decide (0 ≤ ((kd : Nat) : Int) ∧ ((kd : Nat) : Int) < ((3 : Nat) : Int))) (tgt := 13) hx hb d_M_sum_6 (by decide) (fun q6 => ?_) (fun q6 => ?_)
  · skip
    replace q6 := of_decide_eq_false q6
    exfalso; omega
  · skip
    replace q6 := of_decide_eq_true q6
    refine lv_iconst (v := iZ ((0 : Nat) : Int)) hx hb d_M_sum_9 (by decide) ?_
    refine lv_goto (tgt := 14) hx hb d_M_sum_10 (by decide) ?_
    refine va_put (D := D) (ci := 5) (v := .int (iZ ((0 : Nat) : Int))) (ty := .int) (C := n_M) (T := f_M) (N := 17) hx hb hts in_M ty_M tyo_M nm_M hown hK hP hD hS 19 rfl rfl 0 (by decide) (hts _ fl_M_55) (fun _ h9 => h9) rfl (by decide +kernel) rfl rfl (Nat.le_of_ble_eq_true rfl) d_M_sum_14 (fun H locs hP hD hS => ?_)
    have hP : va_P D classes (wdC ad cI cZ cL J0 rd0 pr0 G0 K0 (wdM ad cI cZ cL J rd pr (0, M.2) ov)) H := hP
    have hD : va_D A (wdC ad cI cZ cL J0 rd0 pr0 G0 K0 (wdM ad cI cZ cL J rd pr (0, M.2) ov)) := hD
    refine lv_aload_n hx hb d_M_sum_17 rfl (lv_at hl 0 rfl) ?_
    refine va_get (D := D) (ci := 5) (v := .int (iZ ((0 : Nat) : Int))) (C := n_M) (T := f_M) (N := 17) hx hb hts in_M hown hK hP 19 rfl rfl 0 (by decide) (hts _ fl_M_55) (fun _ h9 => h9) rfl d_M_sum_18 ?_
    refine z_if_le (a := ((0 : Nat) : Int)) (tgt := 28) hx hb (by omega) d_M_sum_21 (by decide) (fun q21 => ?_) (fun q21 => ?_)
    · skip
      refine lv_aload_n hx hb d_M_sum_28 rfl (lv_at hl 0 rfl) ?_
      refine lv_iload_n hx hb d_M_sum_29 rfl (lv_at hl 1 rfl) ?_
      refine z_callVR (As := [.int (iZ ((kd : Nat) : Int))]) (rest := []) zTB Z (k_M_sumOf (J := J) (M := (0, M.2)) hI hM (kd := kd) (by omega)) ⟨ml_M_84, im_M_sumOf, se_M_sumOf, ini_M, co_M_sumOf⟩ zd_M_sumOf ⟨Nat.le_of_ble_eq_true rfl, Nat.le_of_ble_eq_true rfl⟩ hP hK (ci := 5) (q0 := 19) rfl rfl rfl hl.1 rfl (Nat.le_of_ble_eq_true rfl) d_M_sum_30 ⟨Nat.zero_le _, Nat.zero_le _⟩ ?_
      refine W.eq (g2 := F0 m 33 ls [.int (iZ (sSO J 4 kd (jk J)))]) rfl ?_
      exact z_iret Z hP hS d_M_sum_33 wdM_map (⟨_, rfl, rfl, rfl, hM⟩)
    · skip
      exfalso; omega

set_option maxHeartbeats 4000000 in
set_option maxRecDepth 100000 in
theorem k_M_oddsx1 {l : Launch} {D : va_G} {ad : Nat → Nat} {cI cZ cL : ClassId} {J J0 : SJ} {rd rd0 : Nat → Int} {pr pr0 : Nat → Nat} {G0 : SH} {K0 : SK} {M : SM} {ov : Nat → Int64} (hI : JI J) (hM : MJ J M) {a b : Int} (h : z32 a ∧ z32 b ∧ (a < 0 ∨ 3 ≤ a ∨ b < 0 ∨ 2 ≤ b)) : zMl l TB D classes (tysW cI cZ cL) y_M_odds w_M_odds 2 46 [.ref (ad 19), .int (iZ (a)), .int (iZ (b))] (wdC ad cI cZ cL J0 rd0 pr0 G0 K0 (wdM ad cI cZ cL J rd pr M ov)) (fun r w => ∃ M1 : SM, w = wdC ad cI cZ cL J0 rd0 pr0 G0 K0 (wdM ad cI cZ cL J rd pr M1 ov) ∧ M1.1 = 1 ∧ MJ J M1) := by
  refine z_of (Qc := fun A => va_Ql (fun r w => ∃ M1 : SM, w = wdC ad cI cZ cL J0 rd0 pr0 G0 K0 (wdM ad cI cZ cL J rd pr M1 ov) ∧ M1.1 = 1 ∧ MJ J M1) (zB9 D classes (wdC ad cI cZ cL J0 rd0 pr0 G0 K0 (wdM ad cI cZ cL J rd pr M ov))) A) (by decide) (Nat.le_of_ble_eq_true rfl) ?_
  intro p e s m below meth c A ls Z hP hK hD hS hA hl
  obtain ⟨hx, hb, hr, hml, hown, hts, hE, hlocks⟩ := id Z
  have hl : lv_has ls 10 [(0, .ref (ad 19)), (1, .int (iZ (a))), (2, .int (iZ (b)))] := hl
  obtain ⟨hn32, hk2, hpr, hct⟩ := id hI
  suffices K9 : ∀ (H : Heap) (locs : List Loc) (ls : Array Slot), va_P D classes (wdC ad cI cZ cL J0 rd0 pr0 G0 K0 (wdM ad cI cZ cL J rd pr M ov)) H → va_D A (wdC ad cI cZ cL J0 rd0 pr0 G0 K0 (wdM ad cI cZ cL J rd pr M ov)) → va_S A s.heap H locs → lv_has ls 10 [(0, .ref (ad 19)), (1, .int (iZ (a))), (2, .int (iZ (b)))] → W p l e (zRm 2 46) s m ([.ref (ad 19), .int (iZ (a)), .int (iZ (b))] : List Value).toArray below meth c H locs 0 0 (MQ below (va_Ql (fun r w => ∃ M1 : SM, w = wdC ad cI cZ cL J0 rd0 pr0 G0 K0 (wdM ad cI cZ cL J rd pr M1 ov) ∧ M1.1 = 1 ∧ MJ J M1) (zB9 D classes (wdC ad cI cZ cL J0 rd0 pr0 G0 K0 (wdM ad cI cZ cL J rd pr M ov))) A) ([.ref (ad 19), .int (iZ (a)), .int (iZ (b))] : List Value).toArray s 0 0 A) (F0 m 0 ls []) from K9 s.heap [] ls hP hD hS hl
  clear hP hD hS hl
  intro H locs ls hP hD hS hl
  refine lv_aload_n hx hb d_M_odds_0 rfl (lv_at hl 0 rfl) ?_
  refine lv_iload_n hx hb d_M_odds_1 rfl (lv_at hl 1 rfl) ?_
  refine lv_iconst (v := iZ ((3 : Nat) : Int)) hx hb d_M_odds_2 (by decide) ?_
  refine z_callSR (As := [.int (iZ (a)), .int (iZ ((3 : Nat) : Int))]) (rest := [.ref (ad 19)]) zTB Z (k_M_isIn (a := a) (b := ((3 : Nat) : Int)) (by omega)) ⟨ml_M_59, sm_M_isIn, ini_M, co_M_isIn⟩ zd_M_isIn ⟨Nat.le_of_ble_eq_true rfl, Nat.le_of_ble_eq_true rfl⟩ hP hK hl.1 rfl (Nat.le_of_ble_eq_true rfl) d_M_odds_3 ⟨Nat.zero_le _, Nat.zero_le _⟩ ?_
  refine W.eq (g2 := F0 m 6 ls [.int (bI (decide (0 ≤ a ∧ a < ((3 : Nat) : Int)))), .ref (ad 19)]) rfl ?_
  refine z_if_eqB (b := decide (0 ≤ a ∧ a < ((3 : Nat) : Int))) (tgt := 21) hx hb d_M_odds_6 (by decide) (fun q6 => ?_) (fun q6 => ?_)
  · skip
    replace q6 := of_decide_eq_false q6
    refine lv_iconst (v := iZ ((1 : Nat) : Int)) hx hb d_M_odds_21 (by decide) ?_
    refine va_put (D := D) (ci := 5) (v := .int (iZ ((1 : Nat) : Int))) (ty := .int) (C := n_M) (T := f_M) (N := 17) hx hb hts in_M ty_M tyo_M nm_M hown hK hP hD hS 19 rfl rfl 0 (by decide) (hts _ fl_M_55) (fun _ h9 => h9) rfl (by decide +kernel) rfl rfl (Nat.le_of_ble_eq_true rfl) d_M_odds_22 (fun H locs hP hD hS => ?_)
    have hP : va_P D classes (wdC ad cI cZ cL J0 rd0 pr0 G0 K0 (wdM ad cI cZ cL J rd pr (1, M.2) ov)) H := hP
    have hD : va_D A (wdC ad cI cZ cL J0 rd0 pr0 G0 K0 (wdM ad cI cZ cL J rd pr (1, M.2) ov)) := hD
    refine lv_aload_n hx hb d_M_odds_25 rfl (lv_at hl 0 rfl) ?_
    refine va_get (D := D) (ci := 5) (v := .int (iZ ((1 : Nat) : Int))) (C := n_M) (T := f_M) (N := 17) hx hb hts in_M hown hK hP 19 rfl rfl 0 (by decide) (hts _ fl_M_55) (fun _ h9 => h9) rfl d_M_odds_26 ?_
    refine z_if_le (a := ((1 : Nat) : Int)) (tgt := 34) hx hb (by omega) d_M_odds_29 (by decide) (fun q29 => ?_) (fun q29 => ?_)
    · skip
      exfalso; omega
    · skip
      refine lv_lconst (v := lZ ((0 : Nat) : Int)) hx hb d_M_odds_32 (by decide) ?_
      exact z_lret Z hP hS d_M_odds_33 wdM_map (⟨_, rfl, rfl, hM⟩)
  · skip
    replace q6 := of_decide_eq_true q6
    refine lv_iload_n hx hb d_M_odds_9 rfl (lv_at hl 2 rfl) ?_
    refine lv_iconst (v := iZ ((2 : Nat) : Int)) hx hb d_M_odds_10 (by decide) ?_
    refine z_callSR (As := [.int (iZ (b)), .int (iZ ((2 : Nat) : Int))]) (rest := [.ref (ad 19)]) zTB Z (k_M_isIn (a := b) (b := ((2 : Nat) : Int)) (by omega)) ⟨ml_M_59, sm_M_isIn, ini_M, co_M_isIn⟩ zd_M_isIn ⟨Nat.le_of_ble_eq_true rfl, Nat.le_of_ble_eq_true rfl⟩ hP hK hl.1 rfl (Nat.le_of_ble_eq_true rfl) d_M_odds_11 ⟨Nat.zero_le _, Nat.zero_le _⟩ ?_
    refine W.eq (g2 := F0 m 14 ls [.int (bI (decide (0 ≤ b ∧ b < ((2 : Nat) : Int)))), .ref (ad 19)]) rfl ?_
    refine z_if_eqB (b := decide (0 ≤ b ∧ b < ((2 : Nat) : Int))) (tgt := 21) hx hb d_M_odds_14 (by decide) (fun q14 => ?_) (fun q14 => ?_)
    · skip
      replace q14 := of_decide_eq_false q14
      refine lv_iconst (v := iZ ((1 : Nat) : Int)) hx hb d_M_odds_21 (by decide) ?_
      refine va_put (D := D) (ci := 5) (v := .int (iZ ((1 : Nat) : Int))) (ty := .int) (C := n_M) (T := f_M) (N := 17) hx hb hts in_M ty_M tyo_M nm_M hown hK hP hD hS 19 rfl rfl 0 (by decide) (hts _ fl_M_55) (fun _ h9 => h9) rfl (by decide +kernel) rfl rfl (Nat.le_of_ble_eq_true rfl) d_M_odds_22 (fun H locs hP hD hS => ?_)
      have hP : va_P D classes (wdC ad cI cZ cL J0 rd0 pr0 G0 K0 (wdM ad cI cZ cL J rd pr (1, M.2) ov)) H := hP
      have hD : va_D A (wdC ad cI cZ cL J0 rd0 pr0 G0 K0 (wdM ad cI cZ cL J rd pr (1, M.2) ov)) := hD
      refine lv_aload_n hx hb d_M_odds_25 rfl (lv_at hl 0 rfl) ?_
      refine va_get (D := D) (ci := 5) (v := .int (iZ ((1 : Nat) : Int))) (C := n_M) (T := f_M) (N := 17) hx hb hts in_M hown hK hP 19 rfl rfl 0 (by decide) (hts _ fl_M_55) (fun _ h9 => h9) rfl d_M_odds_26 ?_
      refine z_if_le (a := ((1 : Nat) : Int)) (tgt := 34) hx hb (by omega) d_M_odds_29 (by decide) (fun q29 => ?_) (fun q29 => ?_)
      · skip
        exfalso; omega
      · skip
        refine lv_lconst (v := lZ ((0 : Nat) : Int)) hx hb d_M_odds_32 (by decide) ?_
        exact z_lret Z hP hS d_M_odds_33 wdM_map (⟨_, rfl, rfl, hM⟩)
    · skip
      replace q14 := of_decide_eq_true q14
      exfalso; omega

set_option maxHeartbeats 4000000 in
set_option maxRecDepth 100000 in
theorem k_M_rankOddsx1 {l : Launch} {D : va_G} {ad : Nat → Nat} {cI cZ cL : ClassId} {J J0 : SJ} {rd rd0 : Nat → Int} {pr pr0 : Nat → Nat} {G0 : SH} {K0 : SK} {M : SM} {ov : Nat → Int64} (hI : JI J) (hM : MJ J M) {a b : Int} (h : z32 a ∧ z32 b ∧ (a < 0 ∨ 3 ≤ a ∨ b < 0 ∨ 2 ≤ b)) : zMl l TB D classes (tysW cI cZ cL) y_M_rankOdds w_M_rankOdds 3 70 [.ref (ad 19), .int (iZ (a)), .int (iZ (b))] (wdC ad cI cZ cL J0 rd0 pr0 G0 K0 (wdM ad cI cZ cL J rd pr M ov)) (fun r w => ∃ M1 : SM, w = wdC ad cI cZ cL J0 rd0 pr0 G0 K0 (wdM ad cI cZ cL J rd pr M1 ov) ∧ M1.1 = 1 ∧ MJ J M1) := by
  refine z_of (Qc := fun A => va_Ql (fun r w => ∃ M1 : SM, w = wdC ad cI cZ cL J0 rd0 pr0 G0 K0 (wdM ad cI cZ cL J rd pr M1 ov) ∧ M1.1 = 1 ∧ MJ J M1) (zB9 D classes (wdC ad cI cZ cL J0 rd0 pr0 G0 K0 (wdM ad cI cZ cL J rd pr M ov))) A) (by decide) (Nat.le_of_ble_eq_true rfl) ?_
  intro p e s m below meth c A ls Z hP hK hD hS hA hl
  obtain ⟨hx, hb, hr, hml, hown, hts, hE, hlocks⟩ := id Z
  have hl : lv_has ls 10 [(0, .ref (ad 19)), (1, .int (iZ (a))), (2, .int (iZ (b)))] := hl
  obtain ⟨hn32, hk2, hpr, hct⟩ := id hI
  suffices K9 : ∀ (H : Heap) (locs : List Loc) (ls : Array Slot), va_P D classes (wdC ad cI cZ cL J0 rd0 pr0 G0 K0 (wdM ad cI cZ cL J rd pr M ov)) H → va_D A (wdC ad cI cZ cL J0 rd0 pr0 G0 K0 (wdM ad cI cZ cL J rd pr M ov)) → va_S A s.heap H locs → lv_has ls 10 [(0, .ref (ad 19)), (1, .int (iZ (a))), (2, .int (iZ (b)))] → W p l e (zRm 3 70) s m ([.ref (ad 19), .int (iZ (a)), .int (iZ (b))] : List Value).toArray below meth c H locs 0 0 (MQ below (va_Ql (fun r w => ∃ M1 : SM, w = wdC ad cI cZ cL J0 rd0 pr0 G0 K0 (wdM ad cI cZ cL J rd pr M1 ov) ∧ M1.1 = 1 ∧ MJ J M1) (zB9 D classes (wdC ad cI cZ cL J0 rd0 pr0 G0 K0 (wdM ad cI cZ cL J rd pr M ov))) A) ([.ref (ad 19), .int (iZ (a)), .int (iZ (b))] : List Value).toArray s 0 0 A) (F0 m 0 ls []) from K9 s.heap [] ls hP hD hS hl
  clear hP hD hS hl
  intro H locs ls hP hD hS hl
  refine lv_aload_n hx hb d_M_rankOdds_0 rfl (lv_at hl 0 rfl) ?_
  refine lv_iload_n hx hb d_M_rankOdds_1 rfl (lv_at hl 1 rfl) ?_
  refine lv_iconst (v := iZ ((3 : Nat) : Int)) hx hb d_M_rankOdds_2 (by decide) ?_
  refine z_callSR (As := [.int (iZ (a)), .int (iZ ((3 : Nat) : Int))]) (rest := [.ref (ad 19)]) zTB Z (k_M_isIn (a := a) (b := ((3 : Nat) : Int)) (by omega)) ⟨ml_M_59, sm_M_isIn, ini_M, co_M_isIn⟩ zd_M_isIn ⟨Nat.le_of_ble_eq_true rfl, Nat.le_of_ble_eq_true rfl⟩ hP hK hl.1 rfl (Nat.le_of_ble_eq_true rfl) d_M_rankOdds_3 ⟨Nat.zero_le _, Nat.zero_le _⟩ ?_
  refine W.eq (g2 := F0 m 6 ls [.int (bI (decide (0 ≤ a ∧ a < ((3 : Nat) : Int)))), .ref (ad 19)]) rfl ?_
  refine z_if_eqB (b := decide (0 ≤ a ∧ a < ((3 : Nat) : Int))) (tgt := 21) hx hb d_M_rankOdds_6 (by decide) (fun q6 => ?_) (fun q6 => ?_)
  · skip
    replace q6 := of_decide_eq_false q6
    refine lv_iconst (v := iZ ((1 : Nat) : Int)) hx hb d_M_rankOdds_21 (by decide) ?_
    refine va_put (D := D) (ci := 5) (v := .int (iZ ((1 : Nat) : Int))) (ty := .int) (C := n_M) (T := f_M) (N := 17) hx hb hts in_M ty_M tyo_M nm_M hown hK hP hD hS 19 rfl rfl 0 (by decide) (hts _ fl_M_55) (fun _ h9 => h9) rfl (by decide +kernel) rfl rfl (Nat.le_of_ble_eq_true rfl) d_M_rankOdds_22 (fun H locs hP hD hS => ?_)
    have hP : va_P D classes (wdC ad cI cZ cL J0 rd0 pr0 G0 K0 (wdM ad cI cZ cL J rd pr (1, M.2) ov)) H := hP
    have hD : va_D A (wdC ad cI cZ cL J0 rd0 pr0 G0 K0 (wdM ad cI cZ cL J rd pr (1, M.2) ov)) := hD
    refine lv_aload_n hx hb d_M_rankOdds_25 rfl (lv_at hl 0 rfl) ?_
    refine va_get (D := D) (ci := 5) (v := .int (iZ ((1 : Nat) : Int))) (C := n_M) (T := f_M) (N := 17) hx hb hts in_M hown hK hP 19 rfl rfl 0 (by decide) (hts _ fl_M_55) (fun _ h9 => h9) rfl d_M_rankOdds_26 ?_
    refine z_if_le (a := ((1 : Nat) : Int)) (tgt := 34) hx hb (by omega) d_M_rankOdds_29 (by decide) (fun q29 => ?_) (fun q29 => ?_)
    · skip
      exfalso; omega
    · skip
      refine lv_lconst (v := lZ ((0 : Nat) : Int)) hx hb d_M_rankOdds_32 (by decide) ?_
      exact z_lret Z hP hS d_M_rankOdds_33 wdM_map (⟨_, rfl, rfl, hM⟩)
  · skip
    replace q6 := of_decide_eq_true q6
    refine lv_iload_n hx hb d_M_rankOdds_9 rfl (lv_at hl 2 rfl) ?_
    refine lv_iconst (v := iZ ((2 : Nat) : Int)) hx hb d_M_rankOdds_10 (by decide) ?_
    refine z_callSR (As := [.int (iZ (b)), .int (iZ ((2 : Nat) : Int))]) (rest := [.ref (ad 19)]) zTB Z (k_M_isIn (a := b) (b := ((2 : Nat) : Int)) (by omega)) ⟨ml_M_59, sm_M_isIn, ini_M, co_M_isIn⟩ zd_M_isIn ⟨Nat.le_of_ble_eq_true rfl, Nat.le_of_ble_eq_true rfl⟩ hP hK hl.1 rfl (Nat.le_of_ble_eq_true rfl) d_M_rankOdds_11 ⟨Nat.zero_le _, Nat.zero_le _⟩ ?_
    refine W.eq (g2 := F0 m 14 ls [.int (bI (decide (0 ≤ b ∧ b < ((2 : Nat) : Int)))), .ref (ad 19)]) rfl ?_
    refine z_if_eqB (b := decide (0 ≤ b ∧ b < ((2 : Nat) : Int))) (tgt := 21) hx hb d_M_rankOdds_14 (by decide) (fun q14 => ?_) (fun q14 => ?_)
    · skip
      replace q14 := of_decide_eq_false q14
      refine lv_iconst (v := iZ ((1 : Nat) : Int)) hx hb d_M_rankOdds_21 (by decide) ?_
      refine va_put (D := D) (ci := 5) (v := .int (iZ ((1 : Nat) : Int))) (ty := .int) (C := n_M) (T := f_M) (N := 17) hx hb hts in_M ty_M tyo_M nm_M hown hK hP hD hS 19 rfl rfl 0 (by decide) (hts _ fl_M_55) (fun _ h9 => h9) rfl (by decide +kernel) rfl rfl (Nat.le_of_ble_eq_true rfl) d_M_rankOdds_22 (fun H locs hP hD hS => ?_)
      have hP : va_P D classes (wdC ad cI cZ cL J0 rd0 pr0 G0 K0 (wdM ad cI cZ cL J rd pr (1, M.2) ov)) H := hP
      have hD : va_D A (wdC ad cI cZ cL J0 rd0 pr0 G0 K0 (wdM ad cI cZ cL J rd pr (1, M.2) ov)) := hD
      refine lv_aload_n hx hb d_M_rankOdds_25 rfl (lv_at hl 0 rfl) ?_
      refine va_get (D := D) (ci := 5) (v := .int (iZ ((1 : Nat) : Int))) (C := n_M) (T := f_M) (N := 17) hx hb hts in_M hown hK hP 19 rfl rfl 0 (by decide) (hts _ fl_M_55) (fun _ h9 => h9) rfl d_M_rankOdds_26 ?_
      refine z_if_le (a := ((1 : Nat) : Int)) (tgt := 34) hx hb (by omega) d_M_rankOdds_29 (by decide) (fun q29 => ?_) (fun q29 => ?_)
      · skip
        exfalso; omega
      · skip
        refine lv_lconst (v := lZ ((0 : Nat) : Int)) hx hb d_M_rankOdds_32 (by decide) ?_
        exact z_lret Z hP hS d_M_rankOdds_33 wdM_map (⟨_, rfl, rfl, hM⟩)
    · skip
      replace q14 := of_decide_eq_true q14
      exfalso; omega

set_option maxHeartbeats 4000000 in
set_option maxRecDepth 100000 in
theorem k_M_joinedx1 {l : Launch} {D : va_G} {ad : Nat → Nat} {cI cZ cL : ClassId} {J J0 : SJ} {rd rd0 : Nat → Int} {pr pr0 : Nat → Nat} {G0 : SH} {K0 : SK} {M : SM} {ov : Nat → Int64} (hI : JI J) (hM : MJ J M) {a b : Int} (h : z32 a ∧ z32 b ∧ (a < 0 ∨ 3 ≤ a ∨ b < 0 ∨ 2 ≤ b)) : zMl l TB D classes (tysW cI cZ cL) y_M_joined w_M_joined 2 46 [.ref (ad 19), .int (iZ (a)), .int (iZ (b))] (wdC ad cI cZ cL J0 rd0 pr0 G0 K0 (wdM ad cI cZ cL J rd pr M ov)) (fun r w => ∃ M1 : SM, w = wdC ad cI cZ cL J0 rd0 pr0 G0 K0 (wdM ad cI cZ cL J rd pr M1 ov) ∧ M1.1 = 1 ∧ MJ J M1) := by
  refine z_of (Qc := fun A => va_Ql (fun r w => ∃ M1 : SM, w = wdC ad cI cZ cL J0 rd0 pr0 G0 K0 (wdM ad cI cZ cL J rd pr M1 ov) ∧ M1.1 = 1 ∧ MJ J M1) (zB9 D classes (wdC ad cI cZ cL J0 rd0 pr0 G0 K0 (wdM ad cI cZ cL J rd pr M ov))) A) (by decide) (Nat.le_of_ble_eq_true rfl) ?_
  intro p e s m below meth c A ls Z hP hK hD hS hA hl
  obtain ⟨hx, hb, hr, hml, hown, hts, hE, hlocks⟩ := id Z
  have hl : lv_has ls 4 [(0, .ref (ad 19)), (1, .int (iZ (a))), (2, .int (iZ (b)))] := hl
  obtain ⟨hn32, hk2, hpr, hct⟩ := id hI
  suffices K9 : ∀ (H : Heap) (locs : List Loc) (ls : Array Slot), va_P D classes (wdC ad cI cZ cL J0 rd0 pr0 G0 K0 (wdM ad cI cZ cL J rd pr M ov)) H → va_D A (wdC ad cI cZ cL J0 rd0 pr0 G0 K0 (wdM ad cI cZ cL J rd pr M ov)) → va_S A s.heap H locs → lv_has ls 4 [(0, .ref (ad 19)), (1, .int (iZ (a))), (2, .int (iZ (b)))] → W p l e (zRm 2 46) s m ([.ref (ad 19), .int (iZ (a)), .int (iZ (b))] : List Value).toArray below meth c H locs 0 0 (MQ below (va_Ql (fun r w => ∃ M1 : SM, w = wdC ad cI cZ cL J0 rd0 pr0 G0 K0 (wdM ad cI cZ cL J rd pr M1 ov) ∧ M1.1 = 1 ∧ MJ J M1) (zB9 D classes (wdC ad cI cZ cL J0 rd0 pr0 G0 K0 (wdM ad cI cZ cL J rd pr M ov))) A) ([.ref (ad 19), .int (iZ (a)), .int (iZ (b))] : List Value).toArray s 0 0 A) (F0 m 0 ls []) from K9 s.heap [] ls hP hD hS hl
  clear hP hD hS hl
  intro H locs ls hP hD hS hl
  refine lv_aload_n hx hb d_M_joined_0 rfl (lv_at hl 0 rfl) ?_
  refine lv_iload_n hx hb d_M_joined_1 rfl (lv_at hl 1 rfl) ?_
  refine lv_iconst (v := iZ ((3 : Nat) : Int)) hx hb d_M_joined_2 (by decide) ?_
  refine z_callSR (As := [.int (iZ (a)), .int (iZ ((3 : Nat) : Int))]) (rest := [.ref (ad 19)]) zTB Z (k_M_isIn (a := a) (b := ((3 : Nat) : Int)) (by omega)) ⟨ml_M_59, sm_M_isIn, ini_M, co_M_isIn⟩ zd_M_isIn ⟨Nat.le_of_ble_eq_true rfl, Nat.le_of_ble_eq_true rfl⟩ hP hK hl.1 rfl (Nat.le_of_ble_eq_true rfl) d_M_joined_3 ⟨Nat.zero_le _, Nat.zero_le _⟩ ?_
  refine W.eq (g2 := F0 m 6 ls [.int (bI (decide (0 ≤ a ∧ a < ((3 : Nat) : Int)))), .ref (ad 19)]) rfl ?_
  refine z_if_eqB (b := decide (0 ≤ a ∧ a < ((3 : Nat) : Int))) (tgt := 21) hx hb d_M_joined_6 (by decide) (fun q6 => ?_) (fun q6 => ?_)
  · skip
    replace q6 := of_decide_eq_false q6
    refine lv_iconst (v := iZ ((1 : Nat) : Int)) hx hb d_M_joined_21 (by decide) ?_
    refine va_put (D := D) (ci := 5) (v := .int (iZ ((1 : Nat) : Int))) (ty := .int) (C := n_M) (T := f_M) (N := 17) hx hb hts in_M ty_M tyo_M nm_M hown hK hP hD hS 19 rfl rfl 0 (by decide) (hts _ fl_M_55) (fun _ h9 => h9) rfl (by decide +kernel) rfl rfl (Nat.le_of_ble_eq_true rfl) d_M_joined_22 (fun H locs hP hD hS => ?_)
    have hP : va_P D classes (wdC ad cI cZ cL J0 rd0 pr0 G0 K0 (wdM ad cI cZ cL J rd pr (1, M.2) ov)) H := hP
    have hD : va_D A (wdC ad cI cZ cL J0 rd0 pr0 G0 K0 (wdM ad cI cZ cL J rd pr (1, M.2) ov)) := hD
    refine lv_aload_n hx hb d_M_joined_25 rfl (lv_at hl 0 rfl) ?_
    refine va_get (D := D) (ci := 5) (v := .int (iZ ((1 : Nat) : Int))) (C := n_M) (T := f_M) (N := 17) hx hb hts in_M hown hK hP 19 rfl rfl 0 (by decide) (hts _ fl_M_55) (fun _ h9 => h9) rfl d_M_joined_26 ?_
    refine z_if_le (a := ((1 : Nat) : Int)) (tgt := 34) hx hb (by omega) d_M_joined_29 (by decide) (fun q29 => ?_) (fun q29 => ?_)
    · skip
      exfalso; omega
    · skip
      refine lv_lconst (v := lZ ((0 : Nat) : Int)) hx hb d_M_joined_32 (by decide) ?_
      exact z_lret Z hP hS d_M_joined_33 wdM_map (⟨_, rfl, rfl, hM⟩)
  · skip
    replace q6 := of_decide_eq_true q6
    refine lv_iload_n hx hb d_M_joined_9 rfl (lv_at hl 2 rfl) ?_
    refine lv_iconst (v := iZ ((2 : Nat) : Int)) hx hb d_M_joined_10 (by decide) ?_
    refine z_callSR (As := [.int (iZ (b)), .int (iZ ((2 : Nat) : Int))]) (rest := [.ref (ad 19)]) zTB Z (k_M_isIn (a := b) (b := ((2 : Nat) : Int)) (by omega)) ⟨ml_M_59, sm_M_isIn, ini_M, co_M_isIn⟩ zd_M_isIn ⟨Nat.le_of_ble_eq_true rfl, Nat.le_of_ble_eq_true rfl⟩ hP hK hl.1 rfl (Nat.le_of_ble_eq_true rfl) d_M_joined_11 ⟨Nat.zero_le _, Nat.zero_le _⟩ ?_
    refine W.eq (g2 := F0 m 14 ls [.int (bI (decide (0 ≤ b ∧ b < ((2 : Nat) : Int)))), .ref (ad 19)]) rfl ?_
    refine z_if_eqB (b := decide (0 ≤ b ∧ b < ((2 : Nat) : Int))) (tgt := 21) hx hb d_M_joined_14 (by decide) (fun q14 => ?_) (fun q14 => ?_)
    · skip
      replace q14 := of_decide_eq_false q14
      refine lv_iconst (v := iZ ((1 : Nat) : Int)) hx hb d_M_joined_21 (by decide) ?_
      refine va_put (D := D) (ci := 5) (v := .int (iZ ((1 : Nat) : Int))) (ty := .int) (C := n_M) (T := f_M) (N := 17) hx hb hts in_M ty_M tyo_M nm_M hown hK hP hD hS 19 rfl rfl 0 (by decide) (hts _ fl_M_55) (fun _ h9 => h9) rfl (by decide +kernel) rfl rfl (Nat.le_of_ble_eq_true rfl) d_M_joined_22 (fun H locs hP hD hS => ?_)
      have hP : va_P D classes (wdC ad cI cZ cL J0 rd0 pr0 G0 K0 (wdM ad cI cZ cL J rd pr (1, M.2) ov)) H := hP
      have hD : va_D A (wdC ad cI cZ cL J0 rd0 pr0 G0 K0 (wdM ad cI cZ cL J rd pr (1, M.2) ov)) := hD
      refine lv_aload_n hx hb d_M_joined_25 rfl (lv_at hl 0 rfl) ?_
      refine va_get (D := D) (ci := 5) (v := .int (iZ ((1 : Nat) : Int))) (C := n_M) (T := f_M) (N := 17) hx hb hts in_M hown hK hP 19 rfl rfl 0 (by decide) (hts _ fl_M_55) (fun _ h9 => h9) rfl d_M_joined_26 ?_
      refine z_if_le (a := ((1 : Nat) : Int)) (tgt := 34) hx hb (by omega) d_M_joined_29 (by decide) (fun q29 => ?_) (fun q29 => ?_)
      · skip
        exfalso; omega
      · skip
        refine lv_lconst (v := lZ ((0 : Nat) : Int)) hx hb d_M_joined_32 (by decide) ?_
        exact z_lret Z hP hS d_M_joined_33 wdM_map (⟨_, rfl, rfl, hM⟩)
    · skip
      replace q14 := of_decide_eq_true q14
      exfalso; omega

set_option maxHeartbeats 4000000 in
set_option maxRecDepth 100000 in
theorem k_M_joined0 {l : Launch} {D : va_G} {ad : Nat → Nat} {cI cZ cL : ClassId} {J J0 : SJ} {rd rd0 : Nat → Int} {pr pr0 : Nat → Nat} {G0 : SH} {K0 : SK} {M : SM} {ov : Nat → Int64} (hI : JI J) (hM : MJ J M) {kd pt : Nat} (hkd : kd < 3) (hpt : pt < 2) : zMl l TB D classes (tysW cI cZ cL) y_M_joined w_M_joined 2 46 [.ref (ad 19), .int (iZ ((kd : Nat) : Int)), .int (iZ ((pt : Nat) : Int))] (wdC ad cI cZ cL J0 rd0 pr0 G0 K0 (wdM ad cI cZ cL J rd pr M ov)) (fun r w => ∃ M1 : SM, r = lZ (sTP (sSO J 4 kd (jk J)) (sKO J 4 kd (jk J)) pt) ∧ w = wdC ad cI cZ cL J0 rd0 pr0 G0 K0 (wdM ad cI cZ cL J rd pr M1 ov) ∧ M1.1 = 0 ∧ MJ J M1) := by
  refine z_of (Qc := fun A => va_Ql (fun r w => ∃ M1 : SM, r = lZ (sTP (sSO J 4 kd (jk J)) (sKO J 4 kd (jk J)) pt) ∧ w = wdC ad cI cZ cL J0 rd0 pr0 G0 K0 (wdM ad cI cZ cL J rd pr M1 ov) ∧ M1.1 = 0 ∧ MJ J M1) (zB9 D classes (wdC ad cI cZ cL J0 rd0 pr0 G0 K0 (wdM ad cI cZ cL J rd pr M ov))) A) (by decide) (Nat.le_of_ble_eq_true rfl) ?_
  intro p e s m below meth c A ls Z hP hK hD hS hA hl
  obtain ⟨hx, hb, hr, hml, hown, hts, hE, hlocks⟩ := id Z
  have hl : lv_has ls 4 [(0, .ref (ad 19)), (1, .int (iZ ((kd : Nat) : Int))), (2, .int (iZ ((pt : Nat) : Int)))] := hl
  obtain ⟨hn32, hk2, hpr, hct⟩ := id hI
  have hb3 := sSO_b hI 4 kd (jk J)
  have hb4 := sKO_le (J := J) 4 kd (jk J)
  suffices K9 : ∀ (H : Heap) (locs : List Loc) (ls : Array Slot), va_P D classes (wdC ad cI cZ cL J0 rd0 pr0 G0 K0 (wdM ad cI cZ cL J rd pr M ov)) H → va_D A (wdC ad cI cZ cL J0 rd0 pr0 G0 K0 (wdM ad cI cZ cL J rd pr M ov)) → va_S A s.heap H locs → lv_has ls 4 [(0, .ref (ad 19)), (1, .int (iZ ((kd : Nat) : Int))), (2, .int (iZ ((pt : Nat) : Int)))] → W p l e (zRm 2 46) s m ([.ref (ad 19), .int (iZ ((kd : Nat) : Int)), .int (iZ ((pt : Nat) : Int))] : List Value).toArray below meth c H locs 0 0 (MQ below (va_Ql (fun r w => ∃ M1 : SM, r = lZ (sTP (sSO J 4 kd (jk J)) (sKO J 4 kd (jk J)) pt) ∧ w = wdC ad cI cZ cL J0 rd0 pr0 G0 K0 (wdM ad cI cZ cL J rd pr M1 ov) ∧ M1.1 = 0 ∧ MJ J M1) (zB9 D classes (wdC ad cI cZ cL J0 rd0 pr0 G0 K0 (wdM ad cI cZ cL J rd pr M ov))) A) ([.ref (ad 19), .int (iZ ((kd : Nat) : Int)), .int (iZ ((pt : Nat) : Int))] : List Value).toArray s 0 0 A) (F0 m 0 ls []) from K9 s.heap [] ls hP hD hS hl
  clear hP hD hS hl
  intro H locs ls hP hD hS hl
  refine lv_aload_n hx hb d_M_joined_0 rfl (lv_at hl 0 rfl) ?_
  refine lv_iload_n hx hb d_M_joined_1 rfl (lv_at hl 1 rfl) ?_
  refine lv_iconst (v := iZ ((3 : Nat) : Int)) hx hb d_M_joined_2 (by decide) ?_
  refine z_callSR (As := [.int (iZ ((kd : Nat) : Int)), .int (iZ ((3 : Nat) : Int))]) (rest := [.ref (ad 19)]) zTB Z (k_M_isIn (a := ((kd : Nat) : Int)) (b := ((3 : Nat) : Int)) (by omega)) ⟨ml_M_59, sm_M_isIn, ini_M, co_M_isIn⟩ zd_M_isIn ⟨Nat.le_of_ble_eq_true rfl, Nat.le_of_ble_eq_true rfl⟩ hP hK hl.1 rfl (Nat.le_of_ble_eq_true rfl) d_M_joined_3 ⟨Nat.zero_le _, Nat.zero_le _⟩ ?_
  refine W.eq (g2 := F0 m 6 ls [.int (bI (decide (0 ≤ ((kd : Nat) : Int) ∧ ((kd : Nat) : Int) < ((3 : Nat) : Int)))), .ref (ad 19)]) rfl ?_
  refine z_if_eqB (b := decide (0 ≤ ((kd : Nat) : Int) ∧ ((kd : Nat) : Int) < ((3 : Nat) : Int))) (tgt := 21) hx hb d_M_joined_6 (by decide) (fun q6 => ?_) (fun q6 => ?_)
  · skip
    replace q6 := of_decide_eq_false q6
    exfalso; omega
  · skip
    replace q6 := of_decide_eq_true q6
    refine lv_iload_n hx hb d_M_joined_9 rfl (lv_at hl 2 rfl) ?_
    refine lv_iconst (v := iZ ((2 : Nat) : Int)) hx hb d_M_joined_10 (by decide) ?_
    refine z_callSR (As := [.int (iZ ((pt : Nat) : Int)), .int (iZ ((2 : Nat) : Int))]) (rest := [.ref (ad 19)]) zTB Z (k_M_isIn (a := ((pt : Nat) : Int)) (b := ((2 : Nat) : Int)) (by omega)) ⟨ml_M_59, sm_M_isIn, ini_M, co_M_isIn⟩ zd_M_isIn ⟨Nat.le_of_ble_eq_true rfl, Nat.le_of_ble_eq_true rfl⟩ hP hK hl.1 rfl (Nat.le_of_ble_eq_true rfl) d_M_joined_11 ⟨Nat.zero_le _, Nat.zero_le _⟩ ?_
    refine W.eq (g2 := F0 m 14 ls [.int (bI (decide (0 ≤ ((pt : Nat) : Int) ∧ ((pt : Nat) : Int) < ((2 : Nat) : Int)))), .ref (ad 19)]) rfl ?_
    refine z_if_eqB (b := decide (0 ≤ ((pt : Nat) : Int) ∧ ((pt : Nat) : Int) < ((2 : Nat) : Int))) (tgt := 21) hx hb d_M_joined_14 (by decide) (fun q14 => ?_) (fun q14 => ?_)
    · skip
      replace q14 := of_decide_eq_false q14
      exfalso; omega
    · skip
      replace q14 := of_decide_eq_true q14
      refine lv_iconst (v := iZ ((0 : Nat) : Int)) hx hb d_M_joined_17 (by decide) ?_
      refine lv_goto (tgt := 22) hx hb d_M_joined_18 (by decide) ?_
      refine va_put (D := D) (ci := 5) (v := .int (iZ ((0 : Nat) : Int))) (ty := .int) (C := n_M) (T := f_M) (N := 17) hx hb hts in_M ty_M tyo_M nm_M hown hK hP hD hS 19 rfl rfl 0 (by decide) (hts _ fl_M_55) (fun _ h9 => h9) rfl (by decide +kernel) rfl rfl (Nat.le_of_ble_eq_true rfl) d_M_joined_22 (fun H locs hP hD hS => ?_)
      have hP : va_P D classes (wdC ad cI cZ cL J0 rd0 pr0 G0 K0 (wdM ad cI cZ cL J rd pr (0, M.2) ov)) H := hP
      have hD : va_D A (wdC ad cI cZ cL J0 rd0 pr0 G0 K0 (wdM ad cI cZ cL J rd pr (0, M.2) ov)) := hD
      refine lv_aload_n hx hb d_M_joined_25 rfl (lv_at hl 0 rfl) ?_
      refine va_get (D := D) (ci := 5) (v := .int (iZ ((0 : Nat) : Int))) (C := n_M) (T := f_M) (N := 17) hx hb hts in_M hown hK hP 19 rfl rfl 0 (by decide) (hts _ fl_M_55) (fun _ h9 => h9) rfl d_M_joined_26 ?_
      refine z_if_le (a := ((0 : Nat) : Int)) (tgt := 34) hx hb (by omega) d_M_joined_29 (by decide) (fun q29 => ?_) (fun q29 => ?_)
      · skip
        refine lv_aload_n hx hb d_M_joined_34 rfl (lv_at hl 0 rfl) ?_
        refine lv_iload_n hx hb d_M_joined_35 rfl (lv_at hl 1 rfl) ?_
        refine z_callVR (As := [.int (iZ ((kd : Nat) : Int))]) (rest := []) zTB Z (k_M_keptOf (J := J) (M := (0, M.2)) hI hM (kd := kd) (by omega)) ⟨ml_M_80, im_M_keptOf, se_M_keptOf, ini_M, co_M_keptOf⟩ zd_M_keptOf ⟨Nat.le_of_ble_eq_true rfl, Nat.le_of_ble_eq_true rfl⟩ hP hK (ci := 5) (q0 := 19) rfl rfl rfl hl.1 rfl (Nat.le_of_ble_eq_true rfl) d_M_joined_36 ⟨Nat.zero_le _, Nat.zero_le _⟩ ?_
        refine W.eq (g2 := F0 m 39 ls [.int (iZ ((sKO J 4 kd (jk J) : Nat) : Int))]) rfl ?_
        refine lv_istore_n (lv' := [(3, .int (iZ ((sKO J 4 kd (jk J) : Nat) : Int))), (0, .ref (ad 19)), (1, .int (iZ ((kd : Nat) : Int))), (2, .int (iZ ((pt : Nat) : Int)))]) hx hb d_M_joined_39 rfl hl (by decide) rfl (fun ls hl => ?_)
        refine lv_iload_n hx hb d_M_joined_40 rfl (lv_at hl 0 rfl) ?_
        refine z_if_ne (a := ((sKO J 4 kd (jk J) : Nat) : Int)) (tgt := 49) hx hb (by omega) d_M_joined_41 (by decide) (fun q41 => ?_) (fun q41 => ?_)
        · skip
          refine lv_aload_n hx hb d_M_joined_49 rfl (lv_at hl 1 rfl) ?_
          refine lv_iload_n hx hb d_M_joined_50 rfl (lv_at hl 2 rfl) ?_
          refine z_callVR (As := [.int (iZ ((kd : Nat) : Int))]) (rest := []) zTB Z (k_M_sumOf (J := J) (M := (0, M.2)) hI hM (kd := kd) (by omega)) ⟨ml_M_84, im_M_sumOf, se_M_sumOf, ini_M, co_M_sumOf⟩ zd_M_sumOf ⟨Nat.le_of_ble_eq_true rfl, Nat.le_of_ble_eq_true rfl⟩ hP hK (ci := 5) (q0 := 19) rfl rfl rfl hl.1 rfl (Nat.le_of_ble_eq_true rfl) d_M_joined_51 ⟨Nat.zero_le _, Nat.zero_le _⟩ ?_
          refine W.eq (g2 := F0 m 54 ls [.int (iZ (sSO J 4 kd (jk J)))]) rfl ?_
          refine z_i2l (a := sSO J 4 kd (jk J)) hx hb (by omega) d_M_joined_54 ?_
          refine lv_iload_n hx hb d_M_joined_55 rfl (lv_at hl 0 rfl) ?_
          refine z_i2l (a := ((sKO J 4 kd (jk J) : Nat) : Int)) hx hb (by omega) d_M_joined_56 ?_
          refine lv_iload_n hx hb d_M_joined_57 rfl (lv_at hl 3 rfl) ?_
          refine z_callSR (As := [.long (lZ (sSO J 4 kd (jk J))), .long (lZ ((sKO J 4 kd (jk J) : Nat) : Int)), .int (iZ ((pt : Nat) : Int))]) (rest := []) zTB Z (k_M_part (a := sSO J 4 kd (jk J)) (bl := sKO J 4 kd (jk J)) (pt := pt) (by omega)) ⟨ml_M_87, sm_M_part, ini_M, co_M_part⟩ zd_M_part ⟨Nat.le_of_ble_eq_true rfl, Nat.le_of_ble_eq_true rfl⟩ hP hK hl.1 rfl (Nat.le_of_ble_eq_true rfl) d_M_joined_58 ⟨Nat.zero_le _, Nat.zero_le _⟩ ?_
          refine W.eq (g2 := F0 m 61 ls [.long (lZ (sTP (sSO J 4 kd (jk J)) (sKO J 4 kd (jk J)) pt))]) rfl ?_
          exact z_lret Z hP hS d_M_joined_61 wdM_map (⟨_, by first | rfl | exact sTP_0 (by omega) (by omega), rfl, rfl, hM⟩)
        · skip
          refine lv_iload_n hx hb d_M_joined_44 rfl (lv_at hl 3 rfl) ?_
          refine z_i2l (a := ((pt : Nat) : Int)) hx hb (by omega) d_M_joined_45 ?_
          refine lv_goto (tgt := 61) hx hb d_M_joined_46 (by decide) ?_
          exact z_lret Z hP hS d_M_joined_61 wdM_map (⟨_, by first | rfl | exact sTP_0 (by omega) (by omega), rfl, rfl, hM⟩)
      · skip
        exfalso; omega

set_option maxHeartbeats 4000000 in
set_option maxRecDepth 100000 in
theorem k_M_meanx1 {l : Launch} {D : va_G} {ad : Nat → Nat} {cI cZ cL : ClassId} {J J0 : SJ} {rd rd0 : Nat → Int} {pr pr0 : Nat → Nat} {G0 : SH} {K0 : SK} {M : SM} {ov : Nat → Int64} (hI : JI J) (hM : MJ J M) {a b c9 : Int} (h : z32 a ∧ z32 b ∧ z32 c9 ∧ (a < 0 ∨ 4 ≤ a ∨ b < 0 ∨ 3 ≤ b ∨ c9 < 0 ∨ 2 ≤ c9)) : zMl l TB D classes (tysW cI cZ cL) y_M_mean w_M_mean 2 47 [.ref (ad 19), .int (iZ (a)), .int (iZ (b)), .int (iZ (c9))] (wdC ad cI cZ cL J0 rd0 pr0 G0 K0 (wdM ad cI cZ cL J rd pr M ov)) (fun r w => ∃ M1 : SM, w = wdC ad cI cZ cL J0 rd0 pr0 G0 K0 (wdM ad cI cZ cL J rd pr M1 ov) ∧ M1.1 = 1 ∧ MJ J M1) := by
  refine z_of (Qc := fun A => va_Ql (fun r w => ∃ M1 : SM, w = wdC ad cI cZ cL J0 rd0 pr0 G0 K0 (wdM ad cI cZ cL J rd pr M1 ov) ∧ M1.1 = 1 ∧ MJ J M1) (zB9 D classes (wdC ad cI cZ cL J0 rd0 pr0 G0 K0 (wdM ad cI cZ cL J rd pr M ov))) A) (by decide) (Nat.le_of_ble_eq_true rfl) ?_
  intro p e s m below meth c A ls Z hP hK hD hS hA hl
  obtain ⟨hx, hb, hr, hml, hown, hts, hE, hlocks⟩ := id Z
  have hl : lv_has ls 7 [(0, .ref (ad 19)), (1, .int (iZ (a))), (2, .int (iZ (b))), (3, .int (iZ (c9)))] := hl
  obtain ⟨hn32, hk2, hpr, hct⟩ := id hI
  suffices K9 : ∀ (H : Heap) (locs : List Loc) (ls : Array Slot), va_P D classes (wdC ad cI cZ cL J0 rd0 pr0 G0 K0 (wdM ad cI cZ cL J rd pr M ov)) H → va_D A (wdC ad cI cZ cL J0 rd0 pr0 G0 K0 (wdM ad cI cZ cL J rd pr M ov)) → va_S A s.heap H locs → lv_has ls 7 [(0, .ref (ad 19)), (1, .int (iZ (a))), (2, .int (iZ (b))), (3, .int (iZ (c9)))] → W p l e (zRm 2 47) s m ([.ref (ad 19), .int (iZ (a)), .int (iZ (b)), .int (iZ (c9))] : List Value).toArray below meth c H locs 0 0 (MQ below (va_Ql (fun r w => ∃ M1 : SM, w = wdC ad cI cZ cL J0 rd0 pr0 G0 K0 (wdM ad cI cZ cL J rd pr M1 ov) ∧ M1.1 = 1 ∧ MJ J M1) (zB9 D classes (wdC ad cI cZ cL J0 rd0 pr0 G0 K0 (wdM ad cI cZ cL J rd pr M ov))) A) ([.ref (ad 19), .int (iZ (a)), .int (iZ (b)), .int (iZ (c9))] : List Value).toArray s 0 0 A) (F0 m 0 ls []) from K9 s.heap [] ls hP hD hS hl
  clear hP hD hS hl
  intro H locs ls hP hD hS hl
  refine lv_aload_n hx hb d_M_mean_0 rfl (lv_at hl 0 rfl) ?_
  refine lv_iload_n hx hb d_M_mean_1 rfl (lv_at hl 1 rfl) ?_
  refine lv_iconst (v := iZ ((4 : Nat) : Int)) hx hb d_M_mean_2 (by decide) ?_
  refine z_callSR (As := [.int (iZ (a)), .int (iZ ((4 : Nat) : Int))]) (rest := [.ref (ad 19)]) zTB Z (k_M_isIn (a := a) (b := ((4 : Nat) : Int)) (by omega)) ⟨ml_M_59, sm_M_isIn, ini_M, co_M_isIn⟩ zd_M_isIn ⟨Nat.le_of_ble_eq_true rfl, Nat.le_of_ble_eq_true rfl⟩ hP hK hl.1 rfl (Nat.le_of_ble_eq_true rfl) d_M_mean_3 ⟨Nat.zero_le _, Nat.zero_le _⟩ ?_
  refine W.eq (g2 := F0 m 6 ls [.int (bI (decide (0 ≤ a ∧ a < ((4 : Nat) : Int)))), .ref (ad 19)]) rfl ?_
  refine z_if_eqB (b := decide (0 ≤ a ∧ a < ((4 : Nat) : Int))) (tgt := 29) hx hb d_M_mean_6 (by decide) (fun q6 => ?_) (fun q6 => ?_)
  · skip
    replace q6 := of_decide_eq_false q6
    refine lv_iconst (v := iZ ((1 : Nat) : Int)) hx hb d_M_mean_29 (by decide) ?_
    refine va_put (D := D) (ci := 5) (v := .int (iZ ((1 : Nat) : Int))) (ty := .int) (C := n_M) (T := f_M) (N := 17) hx hb hts in_M ty_M tyo_M nm_M hown hK hP hD hS 19 rfl rfl 0 (by decide) (hts _ fl_M_55) (fun _ h9 => h9) rfl (by decide +kernel) rfl rfl (Nat.le_of_ble_eq_true rfl) d_M_mean_30 (fun H locs hP hD hS => ?_)
    have hP : va_P D classes (wdC ad cI cZ cL J0 rd0 pr0 G0 K0 (wdM ad cI cZ cL J rd pr (1, M.2) ov)) H := hP
    have hD : va_D A (wdC ad cI cZ cL J0 rd0 pr0 G0 K0 (wdM ad cI cZ cL J rd pr (1, M.2) ov)) := hD
    refine lv_aload_n hx hb d_M_mean_33 rfl (lv_at hl 0 rfl) ?_
    refine va_get (D := D) (ci := 5) (v := .int (iZ ((1 : Nat) : Int))) (C := n_M) (T := f_M) (N := 17) hx hb hts in_M hown hK hP 19 rfl rfl 0 (by decide) (hts _ fl_M_55) (fun _ h9 => h9) rfl d_M_mean_34 ?_
    refine z_if_le (a := ((1 : Nat) : Int)) (tgt := 42) hx hb (by omega) d_M_mean_37 (by decide) (fun q37 => ?_) (fun q37 => ?_)
    · skip
      exfalso; omega
    · skip
      refine lv_lconst (v := lZ ((0 : Nat) : Int)) hx hb d_M_mean_40 (by decide) ?_
      exact z_lret Z hP hS d_M_mean_41 wdM_map (⟨_, rfl, rfl, hM⟩)
  · skip
    replace q6 := of_decide_eq_true q6
    refine lv_iload_n hx hb d_M_mean_9 rfl (lv_at hl 2 rfl) ?_
    refine lv_iconst (v := iZ ((3 : Nat) : Int)) hx hb d_M_mean_10 (by decide) ?_
    refine z_callSR (As := [.int (iZ (b)), .int (iZ ((3 : Nat) : Int))]) (rest := [.ref (ad 19)]) zTB Z (k_M_isIn (a := b) (b := ((3 : Nat) : Int)) (by omega)) ⟨ml_M_59, sm_M_isIn, ini_M, co_M_isIn⟩ zd_M_isIn ⟨Nat.le_of_ble_eq_true rfl, Nat.le_of_ble_eq_true rfl⟩ hP hK hl.1 rfl (Nat.le_of_ble_eq_true rfl) d_M_mean_11 ⟨Nat.zero_le _, Nat.zero_le _⟩ ?_
    refine W.eq (g2 := F0 m 14 ls [.int (bI (decide (0 ≤ b ∧ b < ((3 : Nat) : Int)))), .ref (ad 19)]) rfl ?_
    refine z_if_eqB (b := decide (0 ≤ b ∧ b < ((3 : Nat) : Int))) (tgt := 29) hx hb d_M_mean_14 (by decide) (fun q14 => ?_) (fun q14 => ?_)
    · skip
      replace q14 := of_decide_eq_false q14
      refine lv_iconst (v := iZ ((1 : Nat) : Int)) hx hb d_M_mean_29 (by decide) ?_
      refine va_put (D := D) (ci := 5) (v := .int (iZ ((1 : Nat) : Int))) (ty := .int) (C := n_M) (T := f_M) (N := 17) hx hb hts in_M ty_M tyo_M nm_M hown hK hP hD hS 19 rfl rfl 0 (by decide) (hts _ fl_M_55) (fun _ h9 => h9) rfl (by decide +kernel) rfl rfl (Nat.le_of_ble_eq_true rfl) d_M_mean_30 (fun H locs hP hD hS => ?_)
      have hP : va_P D classes (wdC ad cI cZ cL J0 rd0 pr0 G0 K0 (wdM ad cI cZ cL J rd pr (1, M.2) ov)) H := hP
      have hD : va_D A (wdC ad cI cZ cL J0 rd0 pr0 G0 K0 (wdM ad cI cZ cL J rd pr (1, M.2) ov)) := hD
      refine lv_aload_n hx hb d_M_mean_33 rfl (lv_at hl 0 rfl) ?_
      refine va_get (D := D) (ci := 5) (v := .int (iZ ((1 : Nat) : Int))) (C := n_M) (T := f_M) (N := 17) hx hb hts in_M hown hK hP 19 rfl rfl 0 (by decide) (hts _ fl_M_55) (fun _ h9 => h9) rfl d_M_mean_34 ?_
      refine z_if_le (a := ((1 : Nat) : Int)) (tgt := 42) hx hb (by omega) d_M_mean_37 (by decide) (fun q37 => ?_) (fun q37 => ?_)
      · skip
        exfalso; omega
      · skip
        refine lv_lconst (v := lZ ((0 : Nat) : Int)) hx hb d_M_mean_40 (by decide) ?_
        exact z_lret Z hP hS d_M_mean_41 wdM_map (⟨_, rfl, rfl, hM⟩)
    · skip
      replace q14 := of_decide_eq_true q14
      refine lv_iload_n hx hb d_M_mean_17 rfl (lv_at hl 3 rfl) ?_
      refine lv_iconst (v := iZ ((2 : Nat) : Int)) hx hb d_M_mean_18 (by decide) ?_
      refine z_callSR (As := [.int (iZ (c9)), .int (iZ ((2 : Nat) : Int))]) (rest := [.ref (ad 19)]) zTB Z (k_M_isIn (a := c9) (b := ((2 : Nat) : Int)) (by omega)) ⟨ml_M_59, sm_M_isIn, ini_M, co_M_isIn⟩ zd_M_isIn ⟨Nat.le_of_ble_eq_true rfl, Nat.le_of_ble_eq_true rfl⟩ hP hK hl.1 rfl (Nat.le_of_ble_eq_true rfl) d_M_mean_19 ⟨Nat.zero_le _, Nat.zero_le _⟩ ?_
      refine W.eq (g2 := F0 m 22 ls [.int (bI (decide (0 ≤ c9 ∧ c9 < ((2 : Nat) : Int)))), .ref (ad 19)]) rfl ?_
      refine z_if_eqB (b := decide (0 ≤ c9 ∧ c9 < ((2 : Nat) : Int))) (tgt := 29) hx hb d_M_mean_22 (by decide) (fun q22 => ?_) (fun q22 => ?_)
      · skip
        replace q22 := of_decide_eq_false q22
        refine lv_iconst (v := iZ ((1 : Nat) : Int)) hx hb d_M_mean_29 (by decide) ?_
        refine va_put (D := D) (ci := 5) (v := .int (iZ ((1 : Nat) : Int))) (ty := .int) (C := n_M) (T := f_M) (N := 17) hx hb hts in_M ty_M tyo_M nm_M hown hK hP hD hS 19 rfl rfl 0 (by decide) (hts _ fl_M_55) (fun _ h9 => h9) rfl (by decide +kernel) rfl rfl (Nat.le_of_ble_eq_true rfl) d_M_mean_30 (fun H locs hP hD hS => ?_)
        have hP : va_P D classes (wdC ad cI cZ cL J0 rd0 pr0 G0 K0 (wdM ad cI cZ cL J rd pr (1, M.2) ov)) H := hP
        have hD : va_D A (wdC ad cI cZ cL J0 rd0 pr0 G0 K0 (wdM ad cI cZ cL J rd pr (1, M.2) ov)) := hD
        refine lv_aload_n hx hb d_M_mean_33 rfl (lv_at hl 0 rfl) ?_
        refine va_get (D := D) (ci := 5) (v := .int (iZ ((1 : Nat) : Int))) (C := n_M) (T := f_M) (N := 17) hx hb hts in_M hown hK hP 19 rfl rfl 0 (by decide) (hts _ fl_M_55) (fun _ h9 => h9) rfl d_M_mean_34 ?_
        refine z_if_le (a := ((1 : Nat) : Int)) (tgt := 42) hx hb (by omega) d_M_mean_37 (by decide) (fun q37 => ?_) (fun q37 => ?_)
        · skip
          exfalso; omega
        · skip
          refine lv_lconst (v := lZ ((0 : Nat) : Int)) hx hb d_M_mean_40 (by decide) ?_
          exact z_lret Z hP hS d_M_mean_41 wdM_map (⟨_, rfl, rfl, hM⟩)
      · skip
        replace q22 := of_decide_eq_true q22
        exfalso; omega

set_option maxHeartbeats 4000000 in
set_option maxRecDepth 100000 in
theorem k_M_weightx1 {l : Launch} {D : va_G} {ad : Nat → Nat} {cI cZ cL : ClassId} {J J0 : SJ} {rd rd0 : Nat → Int} {pr pr0 : Nat → Nat} {G0 : SH} {K0 : SK} {M : SM} {ov : Nat → Int64} (hI : JI J) (hM : MJ J M) {a b c9 : Int} (h : z32 a ∧ z32 b ∧ z32 c9 ∧ (a < 0 ∨ 4 ≤ a ∨ b < 0 ∨ 3 ≤ b ∨ c9 < 0 ∨ 2 ≤ c9)) : zMl l TB D classes (tysW cI cZ cL) y_M_weight w_M_weight 2 47 [.ref (ad 19), .int (iZ (a)), .int (iZ (b)), .int (iZ (c9))] (wdC ad cI cZ cL J0 rd0 pr0 G0 K0 (wdM ad cI cZ cL J rd pr M ov)) (fun r w => ∃ M1 : SM, w = wdC ad cI cZ cL J0 rd0 pr0 G0 K0 (wdM ad cI cZ cL J rd pr M1 ov) ∧ M1.1 = 1 ∧ MJ J M1) := by
  refine z_of (Qc := fun A => va_Ql (fun r w => ∃ M1 : SM, w = wdC ad cI cZ cL J0 rd0 pr0 G0 K0 (wdM ad cI cZ cL J rd pr M1 ov) ∧ M1.1 = 1 ∧ MJ J M1) (zB9 D classes (wdC ad cI cZ cL J0 rd0 pr0 G0 K0 (wdM ad cI cZ cL J rd pr M ov))) A) (by decide) (Nat.le_of_ble_eq_true rfl) ?_
  intro p e s m below meth c A ls Z hP hK hD hS hA hl
  obtain ⟨hx, hb, hr, hml, hown, hts, hE, hlocks⟩ := id Z
  have hl : lv_has ls 5 [(0, .ref (ad 19)), (1, .int (iZ (a))), (2, .int (iZ (b))), (3, .int (iZ (c9)))] := hl
  obtain ⟨hn32, hk2, hpr, hct⟩ := id hI
  suffices K9 : ∀ (H : Heap) (locs : List Loc) (ls : Array Slot), va_P D classes (wdC ad cI cZ cL J0 rd0 pr0 G0 K0 (wdM ad cI cZ cL J rd pr M ov)) H → va_D A (wdC ad cI cZ cL J0 rd0 pr0 G0 K0 (wdM ad cI cZ cL J rd pr M ov)) → va_S A s.heap H locs → lv_has ls 5 [(0, .ref (ad 19)), (1, .int (iZ (a))), (2, .int (iZ (b))), (3, .int (iZ (c9)))] → W p l e (zRm 2 47) s m ([.ref (ad 19), .int (iZ (a)), .int (iZ (b)), .int (iZ (c9))] : List Value).toArray below meth c H locs 0 0 (MQ below (va_Ql (fun r w => ∃ M1 : SM, w = wdC ad cI cZ cL J0 rd0 pr0 G0 K0 (wdM ad cI cZ cL J rd pr M1 ov) ∧ M1.1 = 1 ∧ MJ J M1) (zB9 D classes (wdC ad cI cZ cL J0 rd0 pr0 G0 K0 (wdM ad cI cZ cL J rd pr M ov))) A) ([.ref (ad 19), .int (iZ (a)), .int (iZ (b)), .int (iZ (c9))] : List Value).toArray s 0 0 A) (F0 m 0 ls []) from K9 s.heap [] ls hP hD hS hl
  clear hP hD hS hl
  intro H locs ls hP hD hS hl
  refine lv_aload_n hx hb d_M_weight_0 rfl (lv_at hl 0 rfl) ?_
  refine lv_iload_n hx hb d_M_weight_1 rfl (lv_at hl 1 rfl) ?_
  refine lv_iconst (v := iZ ((4 : Nat) : Int)) hx hb d_M_weight_2 (by decide) ?_
  refine z_callSR (As := [.int (iZ (a)), .int (iZ ((4 : Nat) : Int))]) (rest := [.ref (ad 19)]) zTB Z (k_M_isIn (a := a) (b := ((4 : Nat) : Int)) (by omega)) ⟨ml_M_59, sm_M_isIn, ini_M, co_M_isIn⟩ zd_M_isIn ⟨Nat.le_of_ble_eq_true rfl, Nat.le_of_ble_eq_true rfl⟩ hP hK hl.1 rfl (Nat.le_of_ble_eq_true rfl) d_M_weight_3 ⟨Nat.zero_le _, Nat.zero_le _⟩ ?_
  refine W.eq (g2 := F0 m 6 ls [.int (bI (decide (0 ≤ a ∧ a < ((4 : Nat) : Int)))), .ref (ad 19)]) rfl ?_
  refine z_if_eqB (b := decide (0 ≤ a ∧ a < ((4 : Nat) : Int))) (tgt := 29) hx hb d_M_weight_6 (by decide) (fun q6 => ?_) (fun q6 => ?_)
  · skip
    replace q6 := of_decide_eq_false q6
    refine lv_iconst (v := iZ ((1 : Nat) : Int)) hx hb d_M_weight_29 (by decide) ?_
    refine va_put (D := D) (ci := 5) (v := .int (iZ ((1 : Nat) : Int))) (ty := .int) (C := n_M) (T := f_M) (N := 17) hx hb hts in_M ty_M tyo_M nm_M hown hK hP hD hS 19 rfl rfl 0 (by decide) (hts _ fl_M_55) (fun _ h9 => h9) rfl (by decide +kernel) rfl rfl (Nat.le_of_ble_eq_true rfl) d_M_weight_30 (fun H locs hP hD hS => ?_)
    have hP : va_P D classes (wdC ad cI cZ cL J0 rd0 pr0 G0 K0 (wdM ad cI cZ cL J rd pr (1, M.2) ov)) H := hP
    have hD : va_D A (wdC ad cI cZ cL J0 rd0 pr0 G0 K0 (wdM ad cI cZ cL J rd pr (1, M.2) ov)) := hD
    refine lv_aload_n hx hb d_M_weight_33 rfl (lv_at hl 0 rfl) ?_
    refine va_get (D := D) (ci := 5) (v := .int (iZ ((1 : Nat) : Int))) (C := n_M) (T := f_M) (N := 17) hx hb hts in_M hown hK hP 19 rfl rfl 0 (by decide) (hts _ fl_M_55) (fun _ h9 => h9) rfl d_M_weight_34 ?_
    refine z_if_le (a := ((1 : Nat) : Int)) (tgt := 42) hx hb (by omega) d_M_weight_37 (by decide) (fun q37 => ?_) (fun q37 => ?_)
    · skip
      exfalso; omega
    · skip
      refine lv_lconst (v := lZ ((0 : Nat) : Int)) hx hb d_M_weight_40 (by decide) ?_
      exact z_lret Z hP hS d_M_weight_41 wdM_map (⟨_, rfl, rfl, hM⟩)
  · skip
    replace q6 := of_decide_eq_true q6
    refine lv_iload_n hx hb d_M_weight_9 rfl (lv_at hl 2 rfl) ?_
    refine lv_iconst (v := iZ ((3 : Nat) : Int)) hx hb d_M_weight_10 (by decide) ?_
    refine z_callSR (As := [.int (iZ (b)), .int (iZ ((3 : Nat) : Int))]) (rest := [.ref (ad 19)]) zTB Z (k_M_isIn (a := b) (b := ((3 : Nat) : Int)) (by omega)) ⟨ml_M_59, sm_M_isIn, ini_M, co_M_isIn⟩ zd_M_isIn ⟨Nat.le_of_ble_eq_true rfl, Nat.le_of_ble_eq_true rfl⟩ hP hK hl.1 rfl (Nat.le_of_ble_eq_true rfl) d_M_weight_11 ⟨Nat.zero_le _, Nat.zero_le _⟩ ?_
    refine W.eq (g2 := F0 m 14 ls [.int (bI (decide (0 ≤ b ∧ b < ((3 : Nat) : Int)))), .ref (ad 19)]) rfl ?_
    refine z_if_eqB (b := decide (0 ≤ b ∧ b < ((3 : Nat) : Int))) (tgt := 29) hx hb d_M_weight_14 (by decide) (fun q14 => ?_) (fun q14 => ?_)
    · skip
      replace q14 := of_decide_eq_false q14
      refine lv_iconst (v := iZ ((1 : Nat) : Int)) hx hb d_M_weight_29 (by decide) ?_
      refine va_put (D := D) (ci := 5) (v := .int (iZ ((1 : Nat) : Int))) (ty := .int) (C := n_M) (T := f_M) (N := 17) hx hb hts in_M ty_M tyo_M nm_M hown hK hP hD hS 19 rfl rfl 0 (by decide) (hts _ fl_M_55) (fun _ h9 => h9) rfl (by decide +kernel) rfl rfl (Nat.le_of_ble_eq_true rfl) d_M_weight_30 (fun H locs hP hD hS => ?_)
      have hP : va_P D classes (wdC ad cI cZ cL J0 rd0 pr0 G0 K0 (wdM ad cI cZ cL J rd pr (1, M.2) ov)) H := hP
      have hD : va_D A (wdC ad cI cZ cL J0 rd0 pr0 G0 K0 (wdM ad cI cZ cL J rd pr (1, M.2) ov)) := hD
      refine lv_aload_n hx hb d_M_weight_33 rfl (lv_at hl 0 rfl) ?_
      refine va_get (D := D) (ci := 5) (v := .int (iZ ((1 : Nat) : Int))) (C := n_M) (T := f_M) (N := 17) hx hb hts in_M hown hK hP 19 rfl rfl 0 (by decide) (hts _ fl_M_55) (fun _ h9 => h9) rfl d_M_weight_34 ?_
      refine z_if_le (a := ((1 : Nat) : Int)) (tgt := 42) hx hb (by omega) d_M_weight_37 (by decide) (fun q37 => ?_) (fun q37 => ?_)
      · skip
        exfalso; omega
      · skip
        refine lv_lconst (v := lZ ((0 : Nat) : Int)) hx hb d_M_weight_40 (by decide) ?_
        exact z_lret Z hP hS d_M_weight_41 wdM_map (⟨_, rfl, rfl, hM⟩)
    · skip
      replace q14 := of_decide_eq_true q14
      refine lv_iload_n hx hb d_M_weight_17 rfl (lv_at hl 3 rfl) ?_
      refine lv_iconst (v := iZ ((2 : Nat) : Int)) hx hb d_M_weight_18 (by decide) ?_
      refine z_callSR (As := [.int (iZ (c9)), .int (iZ ((2 : Nat) : Int))]) (rest := [.ref (ad 19)]) zTB Z (k_M_isIn (a := c9) (b := ((2 : Nat) : Int)) (by omega)) ⟨ml_M_59, sm_M_isIn, ini_M, co_M_isIn⟩ zd_M_isIn ⟨Nat.le_of_ble_eq_true rfl, Nat.le_of_ble_eq_true rfl⟩ hP hK hl.1 rfl (Nat.le_of_ble_eq_true rfl) d_M_weight_19 ⟨Nat.zero_le _, Nat.zero_le _⟩ ?_
      refine W.eq (g2 := F0 m 22 ls [.int (bI (decide (0 ≤ c9 ∧ c9 < ((2 : Nat) : Int)))), .ref (ad 19)]) rfl ?_
      refine z_if_eqB (b := decide (0 ≤ c9 ∧ c9 < ((2 : Nat) : Int))) (tgt := 29) hx hb d_M_weight_22 (by decide) (fun q22 => ?_) (fun q22 => ?_)
      · skip
        replace q22 := of_decide_eq_false q22
        refine lv_iconst (v := iZ ((1 : Nat) : Int)) hx hb d_M_weight_29 (by decide) ?_
        refine va_put (D := D) (ci := 5) (v := .int (iZ ((1 : Nat) : Int))) (ty := .int) (C := n_M) (T := f_M) (N := 17) hx hb hts in_M ty_M tyo_M nm_M hown hK hP hD hS 19 rfl rfl 0 (by decide) (hts _ fl_M_55) (fun _ h9 => h9) rfl (by decide +kernel) rfl rfl (Nat.le_of_ble_eq_true rfl) d_M_weight_30 (fun H locs hP hD hS => ?_)
        have hP : va_P D classes (wdC ad cI cZ cL J0 rd0 pr0 G0 K0 (wdM ad cI cZ cL J rd pr (1, M.2) ov)) H := hP
        have hD : va_D A (wdC ad cI cZ cL J0 rd0 pr0 G0 K0 (wdM ad cI cZ cL J rd pr (1, M.2) ov)) := hD
        refine lv_aload_n hx hb d_M_weight_33 rfl (lv_at hl 0 rfl) ?_
        refine va_get (D := D) (ci := 5) (v := .int (iZ ((1 : Nat) : Int))) (C := n_M) (T := f_M) (N := 17) hx hb hts in_M hown hK hP 19 rfl rfl 0 (by decide) (hts _ fl_M_55) (fun _ h9 => h9) rfl d_M_weight_34 ?_
        refine z_if_le (a := ((1 : Nat) : Int)) (tgt := 42) hx hb (by omega) d_M_weight_37 (by decide) (fun q37 => ?_) (fun q37 => ?_)
        · skip
          exfalso; omega
        · skip
          refine lv_lconst (v := lZ ((0 : Nat) : Int)) hx hb d_M_weight_40 (by decide) ?_
          exact z_lret Z hP hS d_M_weight_41 wdM_map (⟨_, rfl, rfl, hM⟩)
      · skip
        replace q22 := of_decide_eq_true q22
        exfalso; omega

set_option maxHeartbeats 4000000 in
set_option maxRecDepth 100000 in
theorem k_M_weight0 {l : Launch} {D : va_G} {ad : Nat → Nat} {cI cZ cL : ClassId} {J J0 : SJ} {rd rd0 : Nat → Int} {pr pr0 : Nat → Nat} {G0 : SH} {K0 : SK} {M : SM} {ov : Nat → Int64} (hI : JI J) (hM : MJ J M) {sh kd pt : Nat} (hsh : sh < 4) (hkd : kd < 3) (hpt : pt < 2) : zMl l TB D classes (tysW cI cZ cL) y_M_weight w_M_weight 2 47 [.ref (ad 19), .int (iZ ((sh : Nat) : Int)), .int (iZ ((kd : Nat) : Int)), .int (iZ ((pt : Nat) : Int))] (wdC ad cI cZ cL J0 rd0 pr0 G0 K0 (wdM ad cI cZ cL J rd pr M ov)) (fun r w => ∃ M1 : SM, r = lZ (sTP ((sKO J sh kd (jk J) : Nat) : Int) (sKO J 4 kd (jk J)) pt) ∧ w = wdC ad cI cZ cL J0 rd0 pr0 G0 K0 (wdM ad cI cZ cL J rd pr M1 ov) ∧ M1.1 = 0 ∧ MJ J M1) := by
  refine z_of (Qc := fun A => va_Ql (fun r w => ∃ M1 : SM, r = lZ (sTP ((sKO J sh kd (jk J) : Nat) : Int) (sKO J 4 kd (jk J)) pt) ∧ w = wdC ad cI cZ cL J0 rd0 pr0 G0 K0 (wdM ad cI cZ cL J rd pr M1 ov) ∧ M1.1 = 0 ∧ MJ J M1) (zB9 D classes (wdC ad cI cZ cL J0 rd0 pr0 G0 K0 (wdM ad cI cZ cL J rd pr M ov))) A) (by decide) (Nat.le_of_ble_eq_true rfl) ?_
  intro p e s m below meth c A ls Z hP hK hD hS hA hl
  obtain ⟨hx, hb, hr, hml, hown, hts, hE, hlocks⟩ := id Z
  have hl : lv_has ls 5 [(0, .ref (ad 19)), (1, .int (iZ ((sh : Nat) : Int))), (2, .int (iZ ((kd : Nat) : Int))), (3, .int (iZ ((pt : Nat) : Int)))] := hl
  obtain ⟨hn32, hk2, hpr, hct⟩ := id hI
  have hb3 := sSO_b hI 4 kd (jk J)
  have hb4 := sKO_le (J := J) 4 kd (jk J)
  have hb1 := sSO_b hI sh kd (jk J)
  have hb2 := sKO_le (J := J) sh kd (jk J)
  suffices K9 : ∀ (H : Heap) (locs : List Loc) (ls : Array Slot), va_P D classes (wdC ad cI cZ cL J0 rd0 pr0 G0 K0 (wdM ad cI cZ cL J rd pr M ov)) H → va_D A (wdC ad cI cZ cL J0 rd0 pr0 G0 K0 (wdM ad cI cZ cL J rd pr M ov)) → va_S A s.heap H locs → lv_has ls 5 [(0, .ref (ad 19)), (1, .int (iZ ((sh : Nat) : Int))), (2, .int (iZ ((kd : Nat) : Int))), (3, .int (iZ ((pt : Nat) : Int)))] → W p l e (zRm 2 47) s m ([.ref (ad 19), .int (iZ ((sh : Nat) : Int)), .int (iZ ((kd : Nat) : Int)), .int (iZ ((pt : Nat) : Int))] : List Value).toArray below meth c H locs 0 0 (MQ below (va_Ql (fun r w => ∃ M1 : SM, r = lZ (sTP ((sKO J sh kd (jk J) : Nat) : Int) (sKO J 4 kd (jk J)) pt) ∧ w = wdC ad cI cZ cL J0 rd0 pr0 G0 K0 (wdM ad cI cZ cL J rd pr M1 ov) ∧ M1.1 = 0 ∧ MJ J M1) (zB9 D classes (wdC ad cI cZ cL J0 rd0 pr0 G0 K0 (wdM ad cI cZ cL J rd pr M ov))) A) ([.ref (ad 19), .int (iZ ((sh : Nat) : Int)), .int (iZ ((kd : Nat) : Int)), .int (iZ ((pt : Nat) : Int))] : List Value).toArray s 0 0 A) (F0 m 0 ls []) from K9 s.heap [] ls hP hD hS hl
  clear hP hD hS hl
  intro H locs ls hP hD hS hl
  refine lv_aload_n hx hb d_M_weight_0 rfl (lv_at hl 0 rfl) ?_
  refine lv_iload_n hx hb d_M_weight_1 rfl (lv_at hl 1 rfl) ?_
  refine lv_iconst (v := iZ ((4 : Nat) : Int)) hx hb d_M_weight_2 (by decide) ?_
  refine z_callSR (As := [.int (iZ ((sh : Nat) : Int)), .int (iZ ((4 : Nat) : Int))]) (rest := [.ref (ad 19)]) zTB Z (k_M_isIn (a := ((sh : Nat) : Int)) (b := ((4 : Nat) : Int)) (by omega)) ⟨ml_M_59, sm_M_isIn, ini_M, co_M_isIn⟩ zd_M_isIn ⟨Nat.le_of_ble_eq_true rfl, Nat.le_of_ble_eq_true rfl⟩ hP hK hl.1 rfl (Nat.le_of_ble_eq_true rfl) d_M_weight_3 ⟨Nat.zero_le _, Nat.zero_le _⟩ ?_
  refine W.eq (g2 := F0 m 6 ls [.int (bI (decide (0 ≤ ((sh : Nat) : Int) ∧ ((sh : Nat) : Int) < ((4 : Nat) : Int)))), .ref (ad 19)]) rfl ?_
  refine z_if_eqB (b := decide (0 ≤ ((sh : Nat) : Int) ∧ ((sh : Nat) : Int) < ((4 : Nat) : Int))) (tgt := 29) hx hb d_M_weight_6 (by decide) (fun q6 => ?_) (fun q6 => ?_)
  · skip
    replace q6 := of_decide_eq_false q6
    exfalso; omega
  · skip
    replace q6 := of_decide_eq_true q6
    refine lv_iload_n hx hb d_M_weight_9 rfl (lv_at hl 2 rfl) ?_
    refine lv_iconst (v := iZ ((3 : Nat) : Int)) hx hb d_M_weight_10 (by decide) ?_
    refine z_callSR (As := [.int (iZ ((kd : Nat) : Int)), .int (iZ ((3 : Nat) : Int))]) (rest := [.ref (ad 19)]) zTB Z (k_M_isIn (a := ((kd : Nat) : Int)) (b := ((3 : Nat) : Int)) (by omega)) ⟨ml_M_59, sm_M_isIn, ini_M, co_M_isIn⟩ zd_M_isIn ⟨Nat.le_of_ble_eq_true rfl, Nat.le_of_ble_eq_true rfl⟩ hP hK hl.1 rfl (Nat.le_of_ble_eq_true rfl) d_M_weight_11 ⟨Nat.zero_le _, Nat.zero_le _⟩ ?_
    refine W.eq (g2 := F0 m 14 ls [.int (bI (decide (0 ≤ ((kd : Nat) : Int) ∧ ((kd : Nat) : Int) < ((3 : Nat) : Int)))), .ref (ad 19)]) rfl ?_
    refine z_if_eqB (b := decide (0 ≤ ((kd : Nat) : Int) ∧ ((kd : Nat) : Int) < ((3 : Nat) : Int))) (tgt := 29) hx hb d_M_weight_14 (by decide) (fun q14 => ?_) (fun q14 => ?_)
    · skip
      replace q14 := of_decide_eq_false q14
      exfalso; omega
    · skip
      replace q14 := of_decide_eq_true q14
      refine lv_iload_n hx hb d_M_weight_17 rfl (lv_at hl 3 rfl) ?_
      refine lv_iconst (v := iZ ((2 : Nat) : Int)) hx hb d_M_weight_18 (by decide) ?_
      refine z_callSR (As := [.int (iZ ((pt : Nat) : Int)), .int (iZ ((2 : Nat) : Int))]) (rest := [.ref (ad 19)]) zTB Z (k_M_isIn (a := ((pt : Nat) : Int)) (b := ((2 : Nat) : Int)) (by omega)) ⟨ml_M_59, sm_M_isIn, ini_M, co_M_isIn⟩ zd_M_isIn ⟨Nat.le_of_ble_eq_true rfl, Nat.le_of_ble_eq_true rfl⟩ hP hK hl.1 rfl (Nat.le_of_ble_eq_true rfl) d_M_weight_19 ⟨Nat.zero_le _, Nat.zero_le _⟩ ?_
      refine W.eq (g2 := F0 m 22 ls [.int (bI (decide (0 ≤ ((pt : Nat) : Int) ∧ ((pt : Nat) : Int) < ((2 : Nat) : Int)))), .ref (ad 19)]) rfl ?_
      refine z_if_eqB (b := decide (0 ≤ ((pt : Nat) : Int) ∧ ((pt : Nat) : Int) < ((2 : Nat) : Int))) (tgt := 29) hx hb d_M_weight_22 (by decide) (fun q22 => ?_) (fun q22 => ?_)
      · skip
        replace q22 := of_decide_eq_false q22
        exfalso; omega
      · skip
        replace q22 := of_decide_eq_true q22
        refine lv_iconst (v := iZ ((0 : Nat) : Int)) hx hb d_M_weight_25 (by decide) ?_
        refine lv_goto (tgt := 30) hx hb d_M_weight_26 (by decide) ?_
        refine va_put (D := D) (ci := 5) (v := .int (iZ ((0 : Nat) : Int))) (ty := .int) (C := n_M) (T := f_M) (N := 17) hx hb hts in_M ty_M tyo_M nm_M hown hK hP hD hS 19 rfl rfl 0 (by decide) (hts _ fl_M_55) (fun _ h9 => h9) rfl (by decide +kernel) rfl rfl (Nat.le_of_ble_eq_true rfl) d_M_weight_30 (fun H locs hP hD hS => ?_)
        have hP : va_P D classes (wdC ad cI cZ cL J0 rd0 pr0 G0 K0 (wdM ad cI cZ cL J rd pr (0, M.2) ov)) H := hP
        have hD : va_D A (wdC ad cI cZ cL J0 rd0 pr0 G0 K0 (wdM ad cI cZ cL J rd pr (0, M.2) ov)) := hD
        refine lv_aload_n hx hb d_M_weight_33 rfl (lv_at hl 0 rfl) ?_
        refine va_get (D := D) (ci := 5) (v := .int (iZ ((0 : Nat) : Int))) (C := n_M) (T := f_M) (N := 17) hx hb hts in_M hown hK hP 19 rfl rfl 0 (by decide) (hts _ fl_M_55) (fun _ h9 => h9) rfl d_M_weight_34 ?_
        refine z_if_le (a := ((0 : Nat) : Int)) (tgt := 42) hx hb (by omega) d_M_weight_37 (by decide) (fun q37 => ?_) (fun q37 => ?_)
        · skip
          refine lv_aload_n hx hb d_M_weight_42 rfl (lv_at hl 0 rfl) ?_
          refine lv_iload_n hx hb d_M_weight_43 rfl (lv_at hl 2 rfl) ?_
          refine z_callVR (As := [.int (iZ ((kd : Nat) : Int))]) (rest := []) zTB Z (k_M_keptOf (J := J) (M := (0, M.2)) hI hM (kd := kd) (by omega)) ⟨ml_M_80, im_M_keptOf, se_M_keptOf, ini_M, co_M_keptOf⟩ zd_M_keptOf ⟨Nat.le_of_ble_eq_true rfl, Nat.le_of_ble_eq_true rfl⟩ hP hK (ci := 5) (q0 := 19) rfl rfl rfl hl.1 rfl (Nat.le_of_ble_eq_true rfl) d_M_weight_44 ⟨Nat.zero_le _, Nat.zero_le _⟩ ?_
          refine W.eq (g2 := F0 m 47 ls [.int (iZ ((sKO J 4 kd (jk J) : Nat) : Int))]) rfl ?_
          refine lv_istore (lv' := [(4, .int (iZ ((sKO J 4 kd (jk J) : Nat) : Int))), (0, .ref (ad 19)), (1, .int (iZ ((sh : Nat) : Int))), (2, .int (iZ ((kd : Nat) : Int))), (3, .int (iZ ((pt : Nat) : Int)))]) hx hb d_M_weight_47 hl (by decide) rfl (fun ls hl => ?_)
          refine lv_iload hx hb d_M_weight_49 (lv_at hl 0 rfl) ?_
          refine z_if_ne (a := ((sKO J 4 kd (jk J) : Nat) : Int)) (tgt := 59) hx hb (by omega) d_M_weight_51 (by decide) (fun q51 => ?_) (fun q51 => ?_)
          · skip
            refine lv_aload_n hx hb d_M_weight_59 rfl (lv_at hl 1 rfl) ?_
            refine lv_iload_n hx hb d_M_weight_60 rfl (lv_at hl 2 rfl) ?_
            refine lv_iload_n hx hb d_M_weight_61 rfl (lv_at hl 3 rfl) ?_
            refine z_callVR (As := [.int (iZ ((sh : Nat) : Int)), .int (iZ ((kd : Nat) : Int))]) (rest := []) zTB Z (k_M_keptOfShip (J := J) (M := (0, M.2)) hI hM (sh := sh) (kd := kd) (by omega) (by omega)) ⟨ml_M_109, im_M_keptOfShip, se_M_keptOfShip, ini_M, co_M_keptOfShip⟩ zd_M_keptOfShip ⟨Nat.le_of_ble_eq_true rfl, Nat.le_of_ble_eq_true rfl⟩ hP hK (ci := 5) (q0 := 19) rfl rfl rfl hl.1 rfl (Nat.le_of_ble_eq_true rfl) d_M_weight_62 ⟨Nat.zero_le _, Nat.zero_le _⟩ ?_
            refine W.eq (g2 := F0 m 65 ls [.int (iZ ((sKO J sh kd (jk J) : Nat) : Int))]) rfl ?_
            refine z_i2l (a := ((sKO J sh kd (jk J) : Nat) : Int)) hx hb (by omega) d_M_weight_65 ?_
            refine lv_iload hx hb d_M_weight_66 (lv_at hl 0 rfl) ?_
            refine z_i2l (a := ((sKO J 4 kd (jk J) : Nat) : Int)) hx hb (by omega) d_M_weight_68 ?_
            refine lv_iload_n hx hb d_M_weight_69 rfl (lv_at hl 4 rfl) ?_
            refine z_callSR (As := [.long (lZ ((sKO J sh kd (jk J) : Nat) : Int)), .long (lZ ((sKO J 4 kd (jk J) : Nat) : Int)), .int (iZ ((pt : Nat) : Int))]) (rest := []) zTB Z (k_M_part (a := ((sKO J sh kd (jk J) : Nat) : Int)) (bl := sKO J 4 kd (jk J)) (pt := pt) (by omega)) ⟨ml_M_87, sm_M_part, ini_M, co_M_part⟩ zd_M_part ⟨Nat.le_of_ble_eq_true rfl, Nat.le_of_ble_eq_true rfl⟩ hP hK hl.1 rfl (Nat.le_of_ble_eq_true rfl) d_M_weight_70 ⟨Nat.zero_le _, Nat.zero_le _⟩ ?_
            refine W.eq (g2 := F0 m 73 ls [.long (lZ (sTP ((sKO J sh kd (jk J) : Nat) : Int) (sKO J 4 kd (jk J)) pt))]) rfl ?_
            exact z_lret Z hP hS d_M_weight_73 wdM_map (⟨_, by first | rfl | exact sTP_0 (by omega) (by omega), rfl, rfl, hM⟩)
          · skip
            refine lv_iload_n hx hb d_M_weight_54 rfl (lv_at hl 4 rfl) ?_
            refine z_i2l (a := ((pt : Nat) : Int)) hx hb (by omega) d_M_weight_55 ?_
            refine lv_goto (tgt := 73) hx hb d_M_weight_56 (by decide) ?_
            exact z_lret Z hP hS d_M_weight_73 wdM_map (⟨_, by first | rfl | exact sTP_0 (by omega) (by omega), rfl, rfl, hM⟩)
        · skip
          exfalso; omega

set_option maxHeartbeats 4000000 in
set_option maxRecDepth 100000 in
theorem k_M_mean0 {l : Launch} {D : va_G} {ad : Nat → Nat} {cI cZ cL : ClassId} {J J0 : SJ} {rd rd0 : Nat → Int} {pr pr0 : Nat → Nat} {G0 : SH} {K0 : SK} {M : SM} {ov : Nat → Int64} (hI : JI J) (hM : MJ J M) {sh kd pt : Nat} (hsh : sh < 4) (hkd : kd < 3) (hpt : pt < 2) : zMl l TB D classes (tysW cI cZ cL) y_M_mean w_M_mean 2 47 [.ref (ad 19), .int (iZ ((sh : Nat) : Int)), .int (iZ ((kd : Nat) : Int)), .int (iZ ((pt : Nat) : Int))] (wdC ad cI cZ cL J0 rd0 pr0 G0 K0 (wdM ad cI cZ cL J rd pr M ov)) (fun r w => ∃ M1 : SM, r = lZ (sTP (sSO J sh kd (jk J)) (sKO J sh kd (jk J)) pt) ∧ w = wdC ad cI cZ cL J0 rd0 pr0 G0 K0 (wdM ad cI cZ cL J rd pr M1 ov) ∧ M1.1 = 0 ∧ MJ J M1) := by
  refine z_of (Qc := fun A => va_Ql (fun r w => ∃ M1 : SM, r = lZ (sTP (sSO J sh kd (jk J)) (sKO J sh kd (jk J)) pt) ∧ w = wdC ad cI cZ cL J0 rd0 pr0 G0 K0 (wdM ad cI cZ cL J rd pr M1 ov) ∧ M1.1 = 0 ∧ MJ J M1) (zB9 D classes (wdC ad cI cZ cL J0 rd0 pr0 G0 K0 (wdM ad cI cZ cL J rd pr M ov))) A) (by decide) (Nat.le_of_ble_eq_true rfl) ?_
  intro p e s m below meth c A ls Z hP hK hD hS hA hl
  obtain ⟨hx, hb, hr, hml, hown, hts, hE, hlocks⟩ := id Z
  have hl : lv_has ls 7 [(0, .ref (ad 19)), (1, .int (iZ ((sh : Nat) : Int))), (2, .int (iZ ((kd : Nat) : Int))), (3, .int (iZ ((pt : Nat) : Int)))] := hl
  obtain ⟨hn32, hk2, hpr, hct⟩ := id hI
  have hb3 := sSO_b hI 4 kd (jk J)
  have hb4 := sKO_le (J := J) 4 kd (jk J)
  have hb1 := sSO_b hI sh kd (jk J)
  have hb2 := sKO_le (J := J) sh kd (jk J)
  suffices K9 : ∀ (H : Heap) (locs : List Loc) (ls : Array Slot), va_P D classes (wdC ad cI cZ cL J0 rd0 pr0 G0 K0 (wdM ad cI cZ cL J rd pr M ov)) H → va_D A (wdC ad cI cZ cL J0 rd0 pr0 G0 K0 (wdM ad cI cZ cL J rd pr M ov)) → va_S A s.heap H locs → lv_has ls 7 [(0, .ref (ad 19)), (1, .int (iZ ((sh : Nat) : Int))), (2, .int (iZ ((kd : Nat) : Int))), (3, .int (iZ ((pt : Nat) : Int)))] → W p l e (zRm 2 47) s m ([.ref (ad 19), .int (iZ ((sh : Nat) : Int)), .int (iZ ((kd : Nat) : Int)), .int (iZ ((pt : Nat) : Int))] : List Value).toArray below meth c H locs 0 0 (MQ below (va_Ql (fun r w => ∃ M1 : SM, r = lZ (sTP (sSO J sh kd (jk J)) (sKO J sh kd (jk J)) pt) ∧ w = wdC ad cI cZ cL J0 rd0 pr0 G0 K0 (wdM ad cI cZ cL J rd pr M1 ov) ∧ M1.1 = 0 ∧ MJ J M1) (zB9 D classes (wdC ad cI cZ cL J0 rd0 pr0 G0 K0 (wdM ad cI cZ cL J rd pr M ov))) A) ([.ref (ad 19), .int (iZ ((sh : Nat) : Int)), .int (iZ ((kd : Nat) : Int)), .int (iZ ((pt : Nat) : Int))] : List Value).toArray s 0 0 A) (F0 m 0 ls []) from K9 s.heap [] ls hP hD hS hl
  clear hP hD hS hl
  intro H locs ls hP hD hS hl
  refine lv_aload_n hx hb d_M_mean_0 rfl (lv_at hl 0 rfl) ?_
  refine lv_iload_n hx hb d_M_mean_1 rfl (lv_at hl 1 rfl) ?_
  refine lv_iconst (v := iZ ((4 : Nat) : Int)) hx hb d_M_mean_2 (by decide) ?_
  refine z_callSR (As := [.int (iZ ((sh : Nat) : Int)), .int (iZ ((4 : Nat) : Int))]) (rest := [.ref (ad 19)]) zTB Z (k_M_isIn (a := ((sh : Nat) : Int)) (b := ((4 : Nat) : Int)) (by omega)) ⟨ml_M_59, sm_M_isIn, ini_M, co_M_isIn⟩ zd_M_isIn ⟨Nat.le_of_ble_eq_true rfl, Nat.le_of_ble_eq_true rfl⟩ hP hK hl.1 rfl (Nat.le_of_ble_eq_true rfl) d_M_mean_3 ⟨Nat.zero_le _, Nat.zero_le _⟩ ?_
  refine W.eq (g2 := F0 m 6 ls [.int (bI (decide (0 ≤ ((sh : Nat) : Int) ∧ ((sh : Nat) : Int) < ((4 : Nat) : Int)))), .ref (ad 19)]) rfl ?_
  refine z_if_eqB (b := decide (0 ≤ ((sh : Nat) : Int) ∧ ((sh : Nat) : Int) < ((4 : Nat) : Int))) (tgt := 29) hx hb d_M_mean_6 (by decide) (fun q6 => ?_) (fun q6 => ?_)
  · skip
    replace q6 := of_decide_eq_false q6
    exfalso; omega
  · skip
    replace q6 := of_decide_eq_true q6
    refine lv_iload_n hx hb d_M_mean_9 rfl (lv_at hl 2 rfl) ?_
    refine lv_iconst (v := iZ ((3 : Nat) : Int)) hx hb d_M_mean_10 (by decide) ?_
    refine z_callSR (As := [.int (iZ ((kd : Nat) : Int)), .int (iZ ((3 : Nat) : Int))]) (rest := [.ref (ad 19)]) zTB Z (k_M_isIn (a := ((kd : Nat) : Int)) (b := ((3 : Nat) : Int)) (by omega)) ⟨ml_M_59, sm_M_isIn, ini_M, co_M_isIn⟩ zd_M_isIn ⟨Nat.le_of_ble_eq_true rfl, Nat.le_of_ble_eq_true rfl⟩ hP hK hl.1 rfl (Nat.le_of_ble_eq_true rfl) d_M_mean_11 ⟨Nat.zero_le _, Nat.zero_le _⟩ ?_
    refine W.eq (g2 := F0 m 14 ls [.int (bI (decide (0 ≤ ((kd : Nat) : Int) ∧ ((kd : Nat) : Int) < ((3 : Nat) : Int)))), .ref (ad 19)]) rfl ?_
    refine z_if_eqB (b := decide (0 ≤ ((kd : Nat) : Int) ∧ ((kd : Nat) : Int) < ((3 : Nat) : Int))) (tgt := 29) hx hb d_M_mean_14 (by decide) (fun q14 => ?_) (fun q14 => ?_)
    · skip
      replace q14 := of_decide_eq_false q14
      exfalso; omega
    · skip
      replace q14 := of_decide_eq_true q14
      refine lv_iload_n hx hb d_M_mean_17 rfl (lv_at hl 3 rfl) ?_
      refine lv_iconst (v := iZ ((2 : Nat) : Int)) hx hb d_M_mean_18 (by decide) ?_
      refine z_callSR (As := [.int (iZ ((pt : Nat) : Int)), .int (iZ ((2 : Nat) : Int))]) (rest := [.ref (ad 19)]) zTB Z (k_M_isIn (a := ((pt : Nat) : Int)) (b := ((2 : Nat) : Int)) (by omega)) ⟨ml_M_59, sm_M_isIn, ini_M, co_M_isIn⟩ zd_M_isIn ⟨Nat.le_of_ble_eq_true rfl, Nat.le_of_ble_eq_true rfl⟩ hP hK hl.1 rfl (Nat.le_of_ble_eq_true rfl) d_M_mean_19 ⟨Nat.zero_le _, Nat.zero_le _⟩ ?_
      refine W.eq (g2 := F0 m 22 ls [.int (bI (decide (0 ≤ ((pt : Nat) : Int) ∧ ((pt : Nat) : Int) < ((2 : Nat) : Int)))), .ref (ad 19)]) rfl ?_
      refine z_if_eqB (b := decide (0 ≤ ((pt : Nat) : Int) ∧ ((pt : Nat) : Int) < ((2 : Nat) : Int))) (tgt := 29) hx hb d_M_mean_22 (by decide) (fun q22 => ?_) (fun q22 => ?_)
      · skip
        replace q22 := of_decide_eq_false q22
        exfalso; omega
      · skip
        replace q22 := of_decide_eq_true q22
        refine lv_iconst (v := iZ ((0 : Nat) : Int)) hx hb d_M_mean_25 (by decide) ?_
        refine lv_goto (tgt := 30) hx hb d_M_mean_26 (by decide) ?_
        refine va_put (D := D) (ci := 5) (v := .int (iZ ((0 : Nat) : Int))) (ty := .int) (C := n_M) (T := f_M) (N := 17) hx hb hts in_M ty_M tyo_M nm_M hown hK hP hD hS 19 rfl rfl 0 (by decide) (hts _ fl_M_55) (fun _ h9 => h9) rfl (by decide +kernel) rfl rfl (Nat.le_of_ble_eq_true rfl) d_M_mean_30 (fun H locs hP hD hS => ?_)
        have hP : va_P D classes (wdC ad cI cZ cL J0 rd0 pr0 G0 K0 (wdM ad cI cZ cL J rd pr (0, M.2) ov)) H := hP
        have hD : va_D A (wdC ad cI cZ cL J0 rd0 pr0 G0 K0 (wdM ad cI cZ cL J rd pr (0, M.2) ov)) := hD
        refine lv_aload_n hx hb d_M_mean_33 rfl (lv_at hl 0 rfl) ?_
        refine va_get (D := D) (ci := 5) (v := .int (iZ ((0 : Nat) : Int))) (C := n_M) (T := f_M) (N := 17) hx hb hts in_M hown hK hP 19 rfl rfl 0 (by decide) (hts _ fl_M_55) (fun _ h9 => h9) rfl d_M_mean_34 ?_
        refine z_if_le (a := ((0 : Nat) : Int)) (tgt := 42) hx hb (by omega) d_M_mean_37 (by decide) (fun q37 => ?_) (fun q37 => ?_)
        · skip
          refine lv_aload_n hx hb d_M_mean_42 rfl (lv_at hl 0 rfl) ?_
          refine lv_iload_n hx hb d_M_mean_43 rfl (lv_at hl 1 rfl) ?_
          refine lv_iload_n hx hb d_M_mean_44 rfl (lv_at hl 2 rfl) ?_
          refine z_callVR (As := [.int (iZ ((sh : Nat) : Int)), .int (iZ ((kd : Nat) : Int))]) (rest := []) zTB Z (k_M_keptOfShip (J := J) (M := (0, M.2)) hI hM (sh := sh) (kd := kd) (by omega) (by omega)) ⟨ml_M_109, im_M_keptOfShip, se_M_keptOfShip, ini_M, co_M_keptOfShip⟩ zd_M_keptOfShip ⟨Nat.le_of_ble_eq_true rfl, Nat.le_of_ble_eq_true rfl⟩ hP hK (ci := 5) (q0 := 19) rfl rfl rfl hl.1 rfl (Nat.le_of_ble_eq_true rfl) d_M_mean_45 ⟨Nat.zero_le _, Nat.zero_le _⟩ ?_
          refine W.eq (g2 := F0 m 48 ls [.int (iZ ((sKO J sh kd (jk J) : Nat) : Int))]) rfl ?_
          refine lv_istore (lv' := [(4, .int (iZ ((sKO J sh kd (jk J) : Nat) : Int))), (0, .ref (ad 19)), (1, .int (iZ ((sh : Nat) : Int))), (2, .int (iZ ((kd : Nat) : Int))), (3, .int (iZ ((pt : Nat) : Int)))]) hx hb d_M_mean_48 hl (by decide) rfl (fun ls hl => ?_)
          refine lv_iconst (v := iZ ((0 : Nat) : Int)) hx hb d_M_mean_50 (by decide) ?_
          refine lv_istore (lv' := [(5, .int (iZ ((0 : Nat) : Int))), (4, .int (iZ ((sKO J sh kd (jk J) : Nat) : Int))), (0, .ref (ad 19)), (1, .int (iZ ((sh : Nat) : Int))), (2, .int (iZ ((kd : Nat) : Int))), (3, .int (iZ ((pt : Nat) : Int)))]) hx hb d_M_mean_51 hl (by decide) rfl (fun ls hl => ?_)
          refine lv_iconst (v := iZ ((0 : Nat) : Int)) hx hb d_M_mean_53 (by decide) ?_
          refine lv_istore (lv' := [(6, .int (iZ ((0 : Nat) : Int))), (5, .int (iZ ((0 : Nat) : Int))), (4, .int (iZ ((sKO J sh kd (jk J) : Nat) : Int))), (0, .ref (ad 19)), (1, .int (iZ ((sh : Nat) : Int))), (2, .int (iZ ((kd : Nat) : Int))), (3, .int (iZ ((pt : Nat) : Int)))]) hx hb d_M_mean_54 hl (by decide) rfl (fun ls hl => ?_)
          have L56 : ∀ (N56 : Nat) (i : Nat) (H : Heap) (locs : List Loc) (ls : Array Slot), (i ≤ jk J) → jk J - i < N56 → va_P D classes (wdC ad cI cZ cL J0 rd0 pr0 G0 K0 (wdM ad cI cZ cL J rd pr (0, M.2) ov)) H → va_D A (wdC ad cI cZ cL J0 rd0 pr0 G0 K0 (wdM ad cI cZ cL J rd pr (0, M.2) ov)) → va_S A s.heap H locs → lv_has ls 7 [(0, .ref (ad 19)), (1, .int (iZ ((sh : Nat) : Int))), (2, .int (iZ ((kd : Nat) : Int))), (3, .int (iZ ((pt : Nat) : Int))), (4, .int (iZ ((sKO J sh kd (jk J) : Nat) : Int))), (5, .int (iZ (sSO J sh kd i))), (6, .int (iZ ((i : Nat) : Int)))] → W p l e (zRm 2 47) s m ([.ref (ad 19), .int (iZ ((sh : Nat) : Int)), .int (iZ ((kd : Nat) : Int)), .int (iZ ((pt : Nat) : Int))] : List Value).toArray below meth c H locs 0 0 (MQ below (va_Ql (fun r w => ∃ M1 : SM, r = lZ (sTP (sSO J sh kd (jk J)) (sKO J sh kd (jk J)) pt) ∧ w = wdC ad cI cZ cL J0 rd0 pr0 G0 K0 (wdM ad cI cZ cL J rd pr M1 ov) ∧ M1.1 = 0 ∧ MJ J M1) (zB9 D classes (wdC ad cI cZ cL J0 rd0 pr0 G0 K0 (wdM ad cI cZ cL J rd pr M ov))) A) ([.ref (ad 19), .int (iZ ((sh : Nat) : Int)), .int (iZ ((kd : Nat) : Int)), .int (iZ ((pt : Nat) : Int))] : List Value).toArray s 0 0 A) (F0 m 56 ls []) := by
            intro N56
            induction N56 with
            | zero =>
              intro i H locs ls hi hN56 hP hD hS hl
              exact absurd hN56 (Nat.not_lt_zero _)
            | succ N56 ih56 =>
              intro i H locs ls hi hN56 hP hD hS hl
              have hle := sSO_b hI sh kd i
              refine lv_iload hx hb d_M_mean_56 (lv_at hl 6 rfl) ?_
              refine lv_aload_n hx hb d_M_mean_58 rfl (lv_at hl 0 rfl) ?_
              refine va_get (D := D) (ci := 5) (v := .int (iZ ((jk J : Nat) : Int))) (C := n_M) (T := f_M) (N := 17) hx hb hts in_M hown hK hP 19 rfl rfl 8 (by decide) (hts _ fl_M_70) (fun _ h9 => h9) rfl d_M_mean_59 ?_
              refine z_icmp_ge (a := ((i : Nat) : Int)) (b := ((jk J : Nat) : Int)) (tgt := 113) hx hb (by omega) d_M_mean_62 (by decide) (fun q62 => ?_) (fun q62 => ?_)
              · skip
                refine lv_iload hx hb d_M_mean_113 (lv_at hl 4 rfl) ?_
                refine z_if_ne (a := ((sKO J sh kd (jk J) : Nat) : Int)) (tgt := 123) hx hb (by omega) d_M_mean_115 (by decide) (fun q115 => ?_) (fun q115 => ?_)
                · skip
                  refine lv_iload hx hb d_M_mean_123 (lv_at hl 5 rfl) ?_
                  refine z_i2l (a := sSO J sh kd i) hx hb (by omega) d_M_mean_125 ?_
                  refine lv_iload hx hb d_M_mean_126 (lv_at hl 4 rfl) ?_
                  refine z_i2l (a := ((sKO J sh kd (jk J) : Nat) : Int)) hx hb (by omega) d_M_mean_128 ?_
                  refine lv_iload_n hx hb d_M_mean_129 rfl (lv_at hl 3 rfl) ?_
                  refine z_callSR (As := [.long (lZ (sSO J sh kd i)), .long (lZ ((sKO J sh kd (jk J) : Nat) : Int)), .int (iZ ((pt : Nat) : Int))]) (rest := []) zTB Z (k_M_part (a := sSO J sh kd i) (bl := sKO J sh kd (jk J)) (pt := pt) (by omega)) ⟨ml_M_87, sm_M_part, ini_M, co_M_part⟩ zd_M_part ⟨Nat.le_of_ble_eq_true rfl, Nat.le_of_ble_eq_true rfl⟩ hP hK hl.1 rfl (Nat.le_of_ble_eq_true rfl) d_M_mean_130 ⟨Nat.zero_le _, Nat.zero_le _⟩ ?_
                  refine W.eq (g2 := F0 m 133 ls [.long (lZ (sTP (sSO J sh kd i) (sKO J sh kd (jk J)) pt))]) rfl ?_
                  exact z_lret Z hP hS d_M_mean_133 wdM_map (⟨_, by first | (rw [show i = jk J by omega]; done) | exact sTP_0 (by omega) (by omega), rfl, rfl, hM⟩)
                · skip
                  refine lv_iload_n hx hb d_M_mean_118 rfl (lv_at hl 3 rfl) ?_
                  refine z_i2l (a := ((pt : Nat) : Int)) hx hb (by omega) d_M_mean_119 ?_
                  refine lv_goto (tgt := 133) hx hb d_M_mean_120 (by decide) ?_
                  exact z_lret Z hP hS d_M_mean_133 wdM_map (⟨_, by first | (rw [show i = jk J by omega]; done) | exact sTP_0 (by omega) (by omega), rfl, rfl, hM⟩)
              · skip
                have hMp := hM.1 i (by omega)
                have hf1 := hMp.1
                have hf3 := hMp.2.2.1
                have hf4 := (hpr i (by omega)).2.2
                refine lv_iload hx hb d_M_mean_65 (lv_at hl 5 rfl) ?_
                refine lv_aload_n hx hb d_M_mean_67 rfl (lv_at hl 0 rfl) ?_
                refine va_get (D := D) (ci := 5) (v := .ref (ad 20)) (C := n_M) (T := f_M) (N := 17) hx hb hts in_M hown hK hP 19 rfl rfl 3 (by decide) (hts _ fl_M_7) (fun _ h9 => h9) rfl d_M_mean_68 ?_
                refine lv_aload_n hx hb d_M_mean_71 rfl (lv_at hl 0 rfl) ?_
                refine va_get (D := D) (ci := 5) (v := .ref (ad 25)) (C := n_M) (T := f_M) (N := 17) hx hb hts in_M hown hK hP 19 rfl rfl 9 (by decide) (hts _ fl_M_26) (fun _ h9 => h9) rfl d_M_mean_72 ?_
                refine lv_iload hx hb d_M_mean_75 (lv_at hl 6 rfl) ?_
                refine z_ialdN (f := mfi M) hx hb hK hP 25 0 rfl rfl (i) (by omega) d_M_mean_77 ?_
                refine z_ialdN (f := msh M) hx hb hK hP 20 0 rfl rfl ((mfi M) (i)) (by omega) d_M_mean_78 ?_
                refine lv_iload_n hx hb d_M_mean_79 rfl (lv_at hl 1 rfl) ?_
                refine z_icmp_ne (a := (((msh M) ((mfi M) (i)) : Nat) : Int)) (b := ((sh : Nat) : Int)) (tgt := 103) hx hb (by omega) d_M_mean_80 (by decide) (fun q80 => ?_) (fun q80 => ?_)
                · skip
                  refine lv_iconst (v := iZ ((0 : Nat) : Int)) hx hb d_M_mean_103 (by decide) ?_
                  refine z_iadd (a := sSO J sh kd i) (b := ((0 : Nat) : Int)) hx hb d_M_mean_104 ?_
                  refine lv_istore (lv' := [(5, .int (iZ ((sSO J sh kd i) + ((0 : Nat) : Int)))), (0, .ref (ad 19)), (1, .int (iZ ((sh : Nat) : Int))), (2, .int (iZ ((kd : Nat) : Int))), (3, .int (iZ ((pt : Nat) : Int))), (4, .int (iZ ((sKO J sh kd (jk J) : Nat) : Int))), (6, .int (iZ ((i : Nat) : Int)))]) hx hb d_M_mean_105 hl (by decide) rfl (fun ls hl => ?_)
                  refine lv_iinc (v := iZ ((i + 1 : Nat) : Int)) (lv' := [(6, .int (iZ ((i + 1 : Nat) : Int))), (5, .int (iZ ((sSO J sh kd i) + ((0 : Nat) : Int)))), (0, .ref (ad 19)), (1, .int (iZ ((sh : Nat) : Int))), (2, .int (iZ ((kd : Nat) : Int))), (3, .int (iZ ((pt : Nat) : Int))), (4, .int (iZ ((sKO J sh kd (jk J) : Nat) : Int)))]) hx hb d_M_mean_107 hl (k := 6) rfl (iZ_inc (i) 1) (by decide) rfl (fun ls hl => ?_)
                  refine lv_goto (tgt := 56) hx hb d_M_mean_110 (by decide) ?_
                  exact ih56 (i + 1) H locs ls (by omega) (by omega) hP hD hS (lv_sub hl [2, 3, 4, 5, 6, 1, 0] (by rw [show (sSO J sh kd (i + 1)) = ((sSO J sh kd i) + ((0 : Nat) : Int)) from by show sSO J sh kd i + _ = _; rw [sOf_s hsh, ← hf3]; unfold sKd; simp [q62, q80] <;> omega]; rfl))
                · skip
                  refine lv_aload_n hx hb d_M_mean_83 rfl (lv_at hl 0 rfl) ?_
                  refine lv_iload hx hb d_M_mean_84 (lv_at hl 6 rfl) ?_
                  refine lv_iload_n hx hb d_M_mean_86 rfl (lv_at hl 2 rfl) ?_
                  refine z_callVR (As := [.int (iZ ((i : Nat) : Int)), .int (iZ ((kd : Nat) : Int))]) (rest := [.int (iZ (sSO J sh kd i))]) zTB Z (k_M_isKept (J := J) (M := (0, M.2)) hI hM (pp := i) (kd := kd) (by omega) (by omega)) ⟨ml_M_77, im_M_isKept, se_M_isKept, ini_M, co_M_isKept⟩ zd_M_isKept ⟨Nat.le_of_ble_eq_true rfl, Nat.le_of_ble_eq_true rfl⟩ hP hK (ci := 5) (q0 := 19) rfl rfl rfl hl.1 rfl (Nat.le_of_ble_eq_true rfl) d_M_mean_87 ⟨Nat.zero_le _, Nat.zero_le _⟩ ?_
                  refine W.eq (g2 := F0 m 90 ls [.int (bI (sKp J i kd)), .int (iZ (sSO J sh kd i))]) rfl ?_
                  refine z_if_eqB (b := sKp J i kd) (tgt := 103) hx hb d_M_mean_90 (by decide) (fun q90 => ?_) (fun q90 => ?_)
                  · skip
                    refine lv_iconst (v := iZ ((0 : Nat) : Int)) hx hb d_M_mean_103 (by decide) ?_
                    refine z_iadd (a := sSO J sh kd i) (b := ((0 : Nat) : Int)) hx hb d_M_mean_104 ?_
                    refine lv_istore (lv' := [(5, .int (iZ ((sSO J sh kd i) + ((0 : Nat) : Int)))), (0, .ref (ad 19)), (1, .int (iZ ((sh : Nat) : Int))), (2, .int (iZ ((kd : Nat) : Int))), (3, .int (iZ ((pt : Nat) : Int))), (4, .int (iZ ((sKO J sh kd (jk J) : Nat) : Int))), (6, .int (iZ ((i : Nat) : Int)))]) hx hb d_M_mean_105 hl (by decide) rfl (fun ls hl => ?_)
                    refine lv_iinc (v := iZ ((i + 1 : Nat) : Int)) (lv' := [(6, .int (iZ ((i + 1 : Nat) : Int))), (5, .int (iZ ((sSO J sh kd i) + ((0 : Nat) : Int)))), (0, .ref (ad 19)), (1, .int (iZ ((sh : Nat) : Int))), (2, .int (iZ ((kd : Nat) : Int))), (3, .int (iZ ((pt : Nat) : Int))), (4, .int (iZ ((sKO J sh kd (jk J) : Nat) : Int)))]) hx hb d_M_mean_107 hl (k := 6) rfl (iZ_inc (i) 1) (by decide) rfl (fun ls hl => ?_)
                    refine lv_goto (tgt := 56) hx hb d_M_mean_110 (by decide) ?_
                    exact ih56 (i + 1) H locs ls (by omega) (by omega) hP hD hS (lv_sub hl [2, 3, 4, 5, 6, 1, 0] (by rw [show (sSO J sh kd (i + 1)) = ((sSO J sh kd i) + ((0 : Nat) : Int)) from by show sSO J sh kd i + _ = _; rw [sOf_s hsh, ← hf3]; unfold sKd; simp [q62, q80, q90] <;> omega]; rfl))
                  · skip
                    refine lv_aload_n hx hb d_M_mean_93 rfl (lv_at hl 0 rfl) ?_
                    refine lv_iload hx hb d_M_mean_94 (lv_at hl 6 rfl) ?_
                    refine lv_iload_n hx hb d_M_mean_96 rfl (lv_at hl 2 rfl) ?_
                    refine z_callVR (As := [.int (iZ ((i : Nat) : Int)), .int (iZ ((kd : Nat) : Int))]) (rest := [.int (iZ (sSO J sh kd i))]) zTB Z (k_M_by (J := J) (M := (0, M.2)) hI hM (pp := i) (kd := kd) (by omega) (by omega)) ⟨ml_M_73, im_M_by, se_M_by, ini_M, co_M_by⟩ zd_M_by ⟨Nat.le_of_ble_eq_true rfl, Nat.le_of_ble_eq_true rfl⟩ hP hK (ci := 5) (q0 := 19) rfl rfl rfl hl.1 rfl (Nat.le_of_ble_eq_true rfl) d_M_mean_97 ⟨Nat.zero_le _, Nat.zero_le _⟩ ?_
                    refine W.eq (g2 := F0 m 100 ls [.int (iZ (sDf J i kd)), .int (iZ (sSO J sh kd i))]) rfl ?_
                    refine lv_goto (tgt := 104) hx hb d_M_mean_100 (by decide) ?_
                    refine z_iadd (a := sSO J sh kd i) (b := sDf J i kd) hx hb d_M_mean_104 ?_
                    refine lv_istore (lv' := [(5, .int (iZ ((sSO J sh kd i) + (sDf J i kd)))), (0, .ref (ad 19)), (1, .int (iZ ((sh : Nat) : Int))), (2, .int (iZ ((kd : Nat) : Int))), (3, .int (iZ ((pt : Nat) : Int))), (4, .int (iZ ((sKO J sh kd (jk J) : Nat) : Int))), (6, .int (iZ ((i : Nat) : Int)))]) hx hb d_M_mean_105 hl (by decide) rfl (fun ls hl => ?_)
                    refine lv_iinc (v := iZ ((i + 1 : Nat) : Int)) (lv' := [(6, .int (iZ ((i + 1 : Nat) : Int))), (5, .int (iZ ((sSO J sh kd i) + (sDf J i kd)))), (0, .ref (ad 19)), (1, .int (iZ ((sh : Nat) : Int))), (2, .int (iZ ((kd : Nat) : Int))), (3, .int (iZ ((pt : Nat) : Int))), (4, .int (iZ ((sKO J sh kd (jk J) : Nat) : Int)))]) hx hb d_M_mean_107 hl (k := 6) rfl (iZ_inc (i) 1) (by decide) rfl (fun ls hl => ?_)
                    refine lv_goto (tgt := 56) hx hb d_M_mean_110 (by decide) ?_
                    exact ih56 (i + 1) H locs ls (by omega) (by omega) hP hD hS (lv_sub hl [2, 3, 4, 5, 6, 1, 0] (by rw [show (sSO J sh kd (i + 1)) = ((sSO J sh kd i) + (sDf J i kd)) from by show sSO J sh kd i + _ = _; rw [sOf_s hsh, ← hf3]; unfold sKd; simp [q62, q80, q90] <;> omega]; rfl))
          exact L56 (jk J - 0 + 1) 0 H locs ls (Nat.zero_le _) (by omega) hP hD hS (lv_sub hl [3, 4, 5, 6, 2, 1, 0] rfl)
        · skip
          exfalso; omega

set_option maxHeartbeats 4000000 in
set_option maxRecDepth 100000 in
theorem k_M_stoppedx1 {l : Launch} {D : va_G} {ad : Nat → Nat} {cI cZ cL : ClassId} {J J0 : SJ} {rd rd0 : Nat → Int} {pr pr0 : Nat → Nat} {G0 : SH} {K0 : SK} {M : SM} {ov : Nat → Int64} (hI : JI J) (hM : MJ J M) {a b c9 : Int} (h : z32 a ∧ (a < 0 ∨ 3 ≤ a)) : zMi l TB D classes (tysW cI cZ cL) y_M_stopped w_M_stopped 1 23 [.ref (ad 19), .int (iZ (a)), .int (iZ (b)), .int (iZ (c9))] (wdC ad cI cZ cL J0 rd0 pr0 G0 K0 (wdM ad cI cZ cL J rd pr M ov)) (fun r w => ∃ M1 : SM, w = wdC ad cI cZ cL J0 rd0 pr0 G0 K0 (wdM ad cI cZ cL J rd pr M1 ov) ∧ M1.1 = 1 ∧ MJ J M1) := by
  refine z_of (Qc := fun A => va_Qi (fun r w => ∃ M1 : SM, w = wdC ad cI cZ cL J0 rd0 pr0 G0 K0 (wdM ad cI cZ cL J rd pr M1 ov) ∧ M1.1 = 1 ∧ MJ J M1) (zB9 D classes (wdC ad cI cZ cL J0 rd0 pr0 G0 K0 (wdM ad cI cZ cL J rd pr M ov))) A) (by decide) (Nat.le_of_ble_eq_true rfl) ?_
  intro p e s m below meth c A ls Z hP hK hD hS hA hl
  obtain ⟨hx, hb, hr, hml, hown, hts, hE, hlocks⟩ := id Z
  have hl : lv_has ls 7 [(0, .ref (ad 19)), (1, .int (iZ (a))), (2, .int (iZ (b))), (3, .int (iZ (c9)))] := hl
  obtain ⟨hn32, hk2, hpr, hct⟩ := id hI
  suffices K9 : ∀ (H : Heap) (locs : List Loc) (ls : Array Slot), va_P D classes (wdC ad cI cZ cL J0 rd0 pr0 G0 K0 (wdM ad cI cZ cL J rd pr M ov)) H → va_D A (wdC ad cI cZ cL J0 rd0 pr0 G0 K0 (wdM ad cI cZ cL J rd pr M ov)) → va_S A s.heap H locs → lv_has ls 7 [(0, .ref (ad 19)), (1, .int (iZ (a))), (2, .int (iZ (b))), (3, .int (iZ (c9)))] → W p l e (zRm 1 23) s m ([.ref (ad 19), .int (iZ (a)), .int (iZ (b)), .int (iZ (c9))] : List Value).toArray below meth c H locs 0 0 (MQ below (va_Qi (fun r w => ∃ M1 : SM, w = wdC ad cI cZ cL J0 rd0 pr0 G0 K0 (wdM ad cI cZ cL J rd pr M1 ov) ∧ M1.1 = 1 ∧ MJ J M1) (zB9 D classes (wdC ad cI cZ cL J0 rd0 pr0 G0 K0 (wdM ad cI cZ cL J rd pr M ov))) A) ([.ref (ad 19), .int (iZ (a)), .int (iZ (b)), .int (iZ (c9))] : List Value).toArray s 0 0 A) (F0 m 0 ls []) from K9 s.heap [] ls hP hD hS hl
  clear hP hD hS hl
  intro H locs ls hP hD hS hl
  refine lv_aload_n hx hb d_M_stopped_0 rfl (lv_at hl 0 rfl) ?_
  refine lv_iload_n hx hb d_M_stopped_1 rfl (lv_at hl 1 rfl) ?_
  refine lv_iconst (v := iZ ((3 : Nat) : Int)) hx hb d_M_stopped_2 (by decide) ?_
  refine z_callSR (As := [.int (iZ (a)), .int (iZ ((3 : Nat) : Int))]) (rest := [.ref (ad 19)]) zTB Z (k_M_isIn (a := a) (b := ((3 : Nat) : Int)) (by omega)) ⟨ml_M_59, sm_M_isIn, ini_M, co_M_isIn⟩ zd_M_isIn ⟨Nat.le_of_ble_eq_true rfl, Nat.le_of_ble_eq_true rfl⟩ hP hK hl.1 rfl (Nat.le_of_ble_eq_true rfl) d_M_stopped_3 ⟨Nat.zero_le _, Nat.zero_le _⟩ ?_
  refine W.eq (g2 := F0 m 6 ls [.int (bI (decide (0 ≤ a ∧ a < ((3 : Nat) : Int)))), .ref (ad 19)]) rfl ?_
  refine z_if_neB (b := decide (0 ≤ a ∧ a < ((3 : Nat) : Int))) (tgt := 13) hx hb d_M_stopped_6 (by decide) (fun q6 => ?_) (fun q6 => ?_)
  · skip
    replace q6 := of_decide_eq_true q6
    refine lv_iload_n hx hb d_M_stopped_13 rfl (lv_at hl 2 rfl) ?_
    refine z_callSR (As := [.int (iZ (b))]) (rest := [.ref (ad 19)]) zTB Z (k_M_isBound (a := b) (by omega)) ⟨ml_M_101, sm_M_isBound, ini_M, co_M_isBound⟩ zd_M_isBound ⟨Nat.le_of_ble_eq_true rfl, Nat.le_of_ble_eq_true rfl⟩ hP hK hl.1 rfl (Nat.le_of_ble_eq_true rfl) d_M_stopped_14 ⟨Nat.zero_le _, Nat.zero_le _⟩ ?_
    refine W.eq (g2 := F0 m 17 ls [.int (bI (decide (1 ≤ b ∧ b ≤ 16))), .ref (ad 19)]) rfl ?_
    refine z_if_eqB (b := decide (1 ≤ b ∧ b ≤ 16)) (tgt := 27) hx hb d_M_stopped_17 (by decide) (fun q17 => ?_) (fun q17 => ?_)
    · skip
      replace q17 := of_decide_eq_false q17
      exfalso; omega
    · skip
      replace q17 := of_decide_eq_true q17
      refine lv_iload_n hx hb d_M_stopped_20 rfl (lv_at hl 3 rfl) ?_
      refine z_callSR (As := [.int (iZ (c9))]) (rest := [.ref (ad 19)]) zTB Z (k_M_isBound (a := c9) (by omega)) ⟨ml_M_101, sm_M_isBound, ini_M, co_M_isBound⟩ zd_M_isBound ⟨Nat.le_of_ble_eq_true rfl, Nat.le_of_ble_eq_true rfl⟩ hP hK hl.1 rfl (Nat.le_of_ble_eq_true rfl) d_M_stopped_21 ⟨Nat.zero_le _, Nat.zero_le _⟩ ?_
      refine W.eq (g2 := F0 m 24 ls [.int (bI (decide (1 ≤ c9 ∧ c9 ≤ 16))), .ref (ad 19)]) rfl ?_
      refine z_if_neB (b := decide (1 ≤ c9 ∧ c9 ≤ 16)) (tgt := 31) hx hb d_M_stopped_24 (by decide) (fun q24 => ?_) (fun q24 => ?_)
      · skip
        replace q24 := of_decide_eq_true q24
        exfalso; omega
      · skip
        replace q24 := of_decide_eq_false q24
        exfalso; omega
  · skip
    replace q6 := of_decide_eq_false q6
    refine lv_iconst (v := iZ ((1 : Nat) : Int)) hx hb d_M_stopped_9 (by decide) ?_
    refine lv_goto (tgt := 32) hx hb d_M_stopped_10 (by decide) ?_
    refine va_put (D := D) (ci := 5) (v := .int (iZ ((1 : Nat) : Int))) (ty := .int) (C := n_M) (T := f_M) (N := 17) hx hb hts in_M ty_M tyo_M nm_M hown hK hP hD hS 19 rfl rfl 0 (by decide) (hts _ fl_M_55) (fun _ h9 => h9) rfl (by decide +kernel) rfl rfl (Nat.le_of_ble_eq_true rfl) d_M_stopped_32 (fun H locs hP hD hS => ?_)
    have hP : va_P D classes (wdC ad cI cZ cL J0 rd0 pr0 G0 K0 (wdM ad cI cZ cL J rd pr (1, M.2) ov)) H := hP
    have hD : va_D A (wdC ad cI cZ cL J0 rd0 pr0 G0 K0 (wdM ad cI cZ cL J rd pr (1, M.2) ov)) := hD
    refine lv_iconst (v := iZ ((0 : Nat) : Int)) hx hb d_M_stopped_35 (by decide) ?_
    refine lv_istore (lv' := [(4, .int (iZ ((0 : Nat) : Int))), (0, .ref (ad 19)), (1, .int (iZ (a))), (2, .int (iZ (b))), (3, .int (iZ (c9)))]) hx hb d_M_stopped_36 hl (by decide) rfl (fun ls hl => ?_)
    refine lv_iconst (v := iZ ((0 : Nat) : Int)) hx hb d_M_stopped_38 (by decide) ?_
    refine lv_istore (lv' := [(5, .int (iZ ((0 : Nat) : Int))), (4, .int (iZ ((0 : Nat) : Int))), (0, .ref (ad 19)), (1, .int (iZ (a))), (2, .int (iZ (b))), (3, .int (iZ (c9)))]) hx hb d_M_stopped_39 hl (by decide) rfl (fun ls hl => ?_)
    refine lv_iload hx hb d_M_stopped_41 (lv_at hl 0 rfl) ?_
    refine lv_aload_n hx hb d_M_stopped_43 rfl (lv_at hl 2 rfl) ?_
    refine va_get (D := D) (ci := 5) (v := .int (iZ ((jk J : Nat) : Int))) (C := n_M) (T := f_M) (N := 17) hx hb hts in_M hown hK hP 19 rfl rfl 8 (by decide) (hts _ fl_M_70) (fun _ h9 => h9) rfl d_M_stopped_44 ?_
    refine z_icmp_ge (a := ((0 : Nat) : Int)) (b := ((jk J : Nat) : Int)) (tgt := 134) hx hb (by omega) d_M_stopped_47 (by decide) (fun q47 => ?_) (fun q47 => ?_)
    · skip
      refine lv_aload_n hx hb d_M_stopped_134 rfl (lv_at hl 2 rfl) ?_
      refine va_get (D := D) (ci := 5) (v := .int (iZ ((1 : Nat) : Int))) (C := n_M) (T := f_M) (N := 17) hx hb hts in_M hown hK hP 19 rfl rfl 0 (by decide) (hts _ fl_M_55) (fun _ h9 => h9) rfl d_M_stopped_135 ?_
      refine z_if_le (a := ((1 : Nat) : Int)) (tgt := 145) hx hb (by omega) d_M_stopped_138 (by decide) (fun q138 => ?_) (fun q138 => ?_)
      · skip
        exfalso; omega
      · skip
        refine lv_iconst (v := iZ ((0 : Nat) : Int)) hx hb d_M_stopped_141 (by decide) ?_
        refine lv_goto (tgt := 146) hx hb d_M_stopped_142 (by decide) ?_
        exact z_iret Z hP hS d_M_stopped_146 wdM_map (⟨_, rfl, rfl, hM⟩)
    · skip
      refine lv_aload_n hx hb d_M_stopped_50 rfl (lv_at hl 2 rfl) ?_
      refine va_get (D := D) (ci := 5) (v := .int (iZ ((1 : Nat) : Int))) (C := n_M) (T := f_M) (N := 17) hx hb hts in_M hown hK hP 19 rfl rfl 0 (by decide) (hts _ fl_M_55) (fun _ h9 => h9) rfl d_M_stopped_51 ?_
      refine z_if_ne (a := ((1 : Nat) : Int)) (tgt := 134) hx hb (by omega) d_M_stopped_54 (by decide) (fun q54 => ?_) (fun q54 => ?_)
      · skip
        refine lv_aload_n hx hb d_M_stopped_134 rfl (lv_at hl 2 rfl) ?_
        refine va_get (D := D) (ci := 5) (v := .int (iZ ((1 : Nat) : Int))) (C := n_M) (T := f_M) (N := 17) hx hb hts in_M hown hK hP 19 rfl rfl 0 (by decide) (hts _ fl_M_55) (fun _ h9 => h9) rfl d_M_stopped_135 ?_
        refine z_if_le (a := ((1 : Nat) : Int)) (tgt := 145) hx hb (by omega) d_M_stopped_138 (by decide) (fun q138 => ?_) (fun q138 => ?_)
        · skip
          exfalso; omega
        · skip
          refine lv_iconst (v := iZ ((0 : Nat) : Int)) hx hb d_M_stopped_141 (by decide) ?_
          refine lv_goto (tgt := 146) hx hb d_M_stopped_142 (by decide) ?_
          exact z_iret Z hP hS d_M_stopped_146 wdM_map (⟨_, rfl, rfl, hM⟩)
      · skip
        exfalso; omega

set_option maxHeartbeats 4000000 in
set_option maxRecDepth 100000 in
theorem k_M_stoppedx2 {l : Launch} {D : va_G} {ad : Nat → Nat} {cI cZ cL : ClassId} {J J0 : SJ} {rd rd0 : Nat → Int} {pr pr0 : Nat → Nat} {G0 : SH} {K0 : SK} {M : SM} {ov : Nat → Int64} (hI : JI J) (hM : MJ J M) {kd : Nat} {b c9 : Int} (hkd : kd < 3) (h : z32 b ∧ z32 c9 ∧ (b < 1 ∨ 16 < b ∨ c9 < 1 ∨ 16 < c9)) : zMi l TB D classes (tysW cI cZ cL) y_M_stopped w_M_stopped 1 23 [.ref (ad 19), .int (iZ ((kd : Nat) : Int)), .int (iZ (b)), .int (iZ (c9))] (wdC ad cI cZ cL J0 rd0 pr0 G0 K0 (wdM ad cI cZ cL J rd pr M ov)) (fun r w => ∃ M1 : SM, w = wdC ad cI cZ cL J0 rd0 pr0 G0 K0 (wdM ad cI cZ cL J rd pr M1 ov) ∧ M1.1 = 2 ∧ MJ J M1) := by
  refine z_of (Qc := fun A => va_Qi (fun r w => ∃ M1 : SM, w = wdC ad cI cZ cL J0 rd0 pr0 G0 K0 (wdM ad cI cZ cL J rd pr M1 ov) ∧ M1.1 = 2 ∧ MJ J M1) (zB9 D classes (wdC ad cI cZ cL J0 rd0 pr0 G0 K0 (wdM ad cI cZ cL J rd pr M ov))) A) (by decide) (Nat.le_of_ble_eq_true rfl) ?_
  intro p e s m below meth c A ls Z hP hK hD hS hA hl
  obtain ⟨hx, hb, hr, hml, hown, hts, hE, hlocks⟩ := id Z
  have hl : lv_has ls 7 [(0, .ref (ad 19)), (1, .int (iZ ((kd : Nat) : Int))), (2, .int (iZ (b))), (3, .int (iZ (c9)))] := hl
  obtain ⟨hn32, hk2, hpr, hct⟩ := id hI
  suffices K9 : ∀ (H : Heap) (locs : List Loc) (ls : Array Slot), va_P D classes (wdC ad cI cZ cL J0 rd0 pr0 G0 K0 (wdM ad cI cZ cL J rd pr M ov)) H → va_D A (wdC ad cI cZ cL J0 rd0 pr0 G0 K0 (wdM ad cI cZ cL J rd pr M ov)) → va_S A s.heap H locs → lv_has ls 7 [(0, .ref (ad 19)), (1, .int (iZ ((kd : Nat) : Int))), (2, .int (iZ (b))), (3, .int (iZ (c9)))] → W p l e (zRm 1 23) s m ([.ref (ad 19), .int (iZ ((kd : Nat) : Int)), .int (iZ (b)), .int (iZ (c9))] : List Value).toArray below meth c H locs 0 0 (MQ below (va_Qi (fun r w => ∃ M1 : SM, w = wdC ad cI cZ cL J0 rd0 pr0 G0 K0 (wdM ad cI cZ cL J rd pr M1 ov) ∧ M1.1 = 2 ∧ MJ J M1) (zB9 D classes (wdC ad cI cZ cL J0 rd0 pr0 G0 K0 (wdM ad cI cZ cL J rd pr M ov))) A) ([.ref (ad 19), .int (iZ ((kd : Nat) : Int)), .int (iZ (b)), .int (iZ (c9))] : List Value).toArray s 0 0 A) (F0 m 0 ls []) from K9 s.heap [] ls hP hD hS hl
  clear hP hD hS hl
  intro H locs ls hP hD hS hl
  refine lv_aload_n hx hb d_M_stopped_0 rfl (lv_at hl 0 rfl) ?_
  refine lv_iload_n hx hb d_M_stopped_1 rfl (lv_at hl 1 rfl) ?_
  refine lv_iconst (v := iZ ((3 : Nat) : Int)) hx hb d_M_stopped_2 (by decide) ?_
  refine z_callSR (As := [.int (iZ ((kd : Nat) : Int)), .int (iZ ((3 : Nat) : Int))]) (rest := [.ref (ad 19)]) zTB Z (k_M_isIn (a := ((kd : Nat) : Int)) (b := ((3 : Nat) : Int)) (by omega)) ⟨ml_M_59, sm_M_isIn, ini_M, co_M_isIn⟩ zd_M_isIn ⟨Nat.le_of_ble_eq_true rfl, Nat.le_of_ble_eq_true rfl⟩ hP hK hl.1 rfl (Nat.le_of_ble_eq_true rfl) d_M_stopped_3 ⟨Nat.zero_le _, Nat.zero_le _⟩ ?_
  refine W.eq (g2 := F0 m 6 ls [.int (bI (decide (0 ≤ ((kd : Nat) : Int) ∧ ((kd : Nat) : Int) < ((3 : Nat) : Int)))), .ref (ad 19)]) rfl ?_
  refine z_if_neB (b := decide (0 ≤ ((kd : Nat) : Int) ∧ ((kd : Nat) : Int) < ((3 : Nat) : Int))) (tgt := 13) hx hb d_M_stopped_6 (by decide) (fun q6 => ?_) (fun q6 => ?_)
  · skip
    replace q6 := of_decide_eq_true q6
    refine lv_iload_n hx hb d_M_stopped_13 rfl (lv_at hl 2 rfl) ?_
    refine z_callSR (As := [.int (iZ (b))]) (rest := [.ref (ad 19)]) zTB Z (k_M_isBound (a := b) (by omega)) ⟨ml_M_101, sm_M_isBound, ini_M, co_M_isBound⟩ zd_M_isBound ⟨Nat.le_of_ble_eq_true rfl, Nat.le_of_ble_eq_true rfl⟩ hP hK hl.1 rfl (Nat.le_of_ble_eq_true rfl) d_M_stopped_14 ⟨Nat.zero_le _, Nat.zero_le _⟩ ?_
    refine W.eq (g2 := F0 m 17 ls [.int (bI (decide (1 ≤ b ∧ b ≤ 16))), .ref (ad 19)]) rfl ?_
    refine z_if_eqB (b := decide (1 ≤ b ∧ b ≤ 16)) (tgt := 27) hx hb d_M_stopped_17 (by decide) (fun q17 => ?_) (fun q17 => ?_)
    · skip
      replace q17 := of_decide_eq_false q17
      refine lv_iconst (v := iZ ((2 : Nat) : Int)) hx hb d_M_stopped_27 (by decide) ?_
      refine lv_goto (tgt := 32) hx hb d_M_stopped_28 (by decide) ?_
      refine va_put (D := D) (ci := 5) (v := .int (iZ ((2 : Nat) : Int))) (ty := .int) (C := n_M) (T := f_M) (N := 17) hx hb hts in_M ty_M tyo_M nm_M hown hK hP hD hS 19 rfl rfl 0 (by decide) (hts _ fl_M_55) (fun _ h9 => h9) rfl (by decide +kernel) rfl rfl (Nat.le_of_ble_eq_true rfl) d_M_stopped_32 (fun H locs hP hD hS => ?_)
      have hP : va_P D classes (wdC ad cI cZ cL J0 rd0 pr0 G0 K0 (wdM ad cI cZ cL J rd pr (2, M.2) ov)) H := hP
      have hD : va_D A (wdC ad cI cZ cL J0 rd0 pr0 G0 K0 (wdM ad cI cZ cL J rd pr (2, M.2) ov)) := hD
      refine lv_iconst (v := iZ ((0 : Nat) : Int)) hx hb d_M_stopped_35 (by decide) ?_
      refine lv_istore (lv' := [(4, .int (iZ ((0 : Nat) : Int))), (0, .ref (ad 19)), (1, .int (iZ ((kd : Nat) : Int))), (2, .int (iZ (b))), (3, .int (iZ (c9)))]) hx hb d_M_stopped_36 hl (by decide) rfl (fun ls hl => ?_)
      refine lv_iconst (v := iZ ((0 : Nat) : Int)) hx hb d_M_stopped_38 (by decide) ?_
      refine lv_istore (lv' := [(5, .int (iZ ((0 : Nat) : Int))), (4, .int (iZ ((0 : Nat) : Int))), (0, .ref (ad 19)), (1, .int (iZ ((kd : Nat) : Int))), (2, .int (iZ (b))), (3, .int (iZ (c9)))]) hx hb d_M_stopped_39 hl (by decide) rfl (fun ls hl => ?_)
      refine lv_iload hx hb d_M_stopped_41 (lv_at hl 0 rfl) ?_
      refine lv_aload_n hx hb d_M_stopped_43 rfl (lv_at hl 2 rfl) ?_
      refine va_get (D := D) (ci := 5) (v := .int (iZ ((jk J : Nat) : Int))) (C := n_M) (T := f_M) (N := 17) hx hb hts in_M hown hK hP 19 rfl rfl 8 (by decide) (hts _ fl_M_70) (fun _ h9 => h9) rfl d_M_stopped_44 ?_
      refine z_icmp_ge (a := ((0 : Nat) : Int)) (b := ((jk J : Nat) : Int)) (tgt := 134) hx hb (by omega) d_M_stopped_47 (by decide) (fun q47 => ?_) (fun q47 => ?_)
      · skip
        refine lv_aload_n hx hb d_M_stopped_134 rfl (lv_at hl 2 rfl) ?_
        refine va_get (D := D) (ci := 5) (v := .int (iZ ((2 : Nat) : Int))) (C := n_M) (T := f_M) (N := 17) hx hb hts in_M hown hK hP 19 rfl rfl 0 (by decide) (hts _ fl_M_55) (fun _ h9 => h9) rfl d_M_stopped_135 ?_
        refine z_if_le (a := ((2 : Nat) : Int)) (tgt := 145) hx hb (by omega) d_M_stopped_138 (by decide) (fun q138 => ?_) (fun q138 => ?_)
        · skip
          exfalso; omega
        · skip
          refine lv_iconst (v := iZ ((0 : Nat) : Int)) hx hb d_M_stopped_141 (by decide) ?_
          refine lv_goto (tgt := 146) hx hb d_M_stopped_142 (by decide) ?_
          exact z_iret Z hP hS d_M_stopped_146 wdM_map (⟨_, rfl, rfl, hM⟩)
      · skip
        refine lv_aload_n hx hb d_M_stopped_50 rfl (lv_at hl 2 rfl) ?_
        refine va_get (D := D) (ci := 5) (v := .int (iZ ((2 : Nat) : Int))) (C := n_M) (T := f_M) (N := 17) hx hb hts in_M hown hK hP 19 rfl rfl 0 (by decide) (hts _ fl_M_55) (fun _ h9 => h9) rfl d_M_stopped_51 ?_
        refine z_if_ne (a := ((2 : Nat) : Int)) (tgt := 134) hx hb (by omega) d_M_stopped_54 (by decide) (fun q54 => ?_) (fun q54 => ?_)
        · skip
          refine lv_aload_n hx hb d_M_stopped_134 rfl (lv_at hl 2 rfl) ?_
          refine va_get (D := D) (ci := 5) (v := .int (iZ ((2 : Nat) : Int))) (C := n_M) (T := f_M) (N := 17) hx hb hts in_M hown hK hP 19 rfl rfl 0 (by decide) (hts _ fl_M_55) (fun _ h9 => h9) rfl d_M_stopped_135 ?_
          refine z_if_le (a := ((2 : Nat) : Int)) (tgt := 145) hx hb (by omega) d_M_stopped_138 (by decide) (fun q138 => ?_) (fun q138 => ?_)
          · skip
            exfalso; omega
          · skip
            refine lv_iconst (v := iZ ((0 : Nat) : Int)) hx hb d_M_stopped_141 (by decide) ?_
            refine lv_goto (tgt := 146) hx hb d_M_stopped_142 (by decide) ?_
            exact z_iret Z hP hS d_M_stopped_146 wdM_map (⟨_, rfl, rfl, hM⟩)
        · skip
          exfalso; omega
    · skip
      replace q17 := of_decide_eq_true q17
      refine lv_iload_n hx hb d_M_stopped_20 rfl (lv_at hl 3 rfl) ?_
      refine z_callSR (As := [.int (iZ (c9))]) (rest := [.ref (ad 19)]) zTB Z (k_M_isBound (a := c9) (by omega)) ⟨ml_M_101, sm_M_isBound, ini_M, co_M_isBound⟩ zd_M_isBound ⟨Nat.le_of_ble_eq_true rfl, Nat.le_of_ble_eq_true rfl⟩ hP hK hl.1 rfl (Nat.le_of_ble_eq_true rfl) d_M_stopped_21 ⟨Nat.zero_le _, Nat.zero_le _⟩ ?_
      refine W.eq (g2 := F0 m 24 ls [.int (bI (decide (1 ≤ c9 ∧ c9 ≤ 16))), .ref (ad 19)]) rfl ?_
      refine z_if_neB (b := decide (1 ≤ c9 ∧ c9 ≤ 16)) (tgt := 31) hx hb d_M_stopped_24 (by decide) (fun q24 => ?_) (fun q24 => ?_)
      · skip
        replace q24 := of_decide_eq_true q24
        exfalso; omega
      · skip
        replace q24 := of_decide_eq_false q24
        refine lv_iconst (v := iZ ((2 : Nat) : Int)) hx hb d_M_stopped_27 (by decide) ?_
        refine lv_goto (tgt := 32) hx hb d_M_stopped_28 (by decide) ?_
        refine va_put (D := D) (ci := 5) (v := .int (iZ ((2 : Nat) : Int))) (ty := .int) (C := n_M) (T := f_M) (N := 17) hx hb hts in_M ty_M tyo_M nm_M hown hK hP hD hS 19 rfl rfl 0 (by decide) (hts _ fl_M_55) (fun _ h9 => h9) rfl (by decide +kernel) rfl rfl (Nat.le_of_ble_eq_true rfl) d_M_stopped_32 (fun H locs hP hD hS => ?_)
        have hP : va_P D classes (wdC ad cI cZ cL J0 rd0 pr0 G0 K0 (wdM ad cI cZ cL J rd pr (2, M.2) ov)) H := hP
        have hD : va_D A (wdC ad cI cZ cL J0 rd0 pr0 G0 K0 (wdM ad cI cZ cL J rd pr (2, M.2) ov)) := hD
        refine lv_iconst (v := iZ ((0 : Nat) : Int)) hx hb d_M_stopped_35 (by decide) ?_
        refine lv_istore (lv' := [(4, .int (iZ ((0 : Nat) : Int))), (0, .ref (ad 19)), (1, .int (iZ ((kd : Nat) : Int))), (2, .int (iZ (b))), (3, .int (iZ (c9)))]) hx hb d_M_stopped_36 hl (by decide) rfl (fun ls hl => ?_)
        refine lv_iconst (v := iZ ((0 : Nat) : Int)) hx hb d_M_stopped_38 (by decide) ?_
        refine lv_istore (lv' := [(5, .int (iZ ((0 : Nat) : Int))), (4, .int (iZ ((0 : Nat) : Int))), (0, .ref (ad 19)), (1, .int (iZ ((kd : Nat) : Int))), (2, .int (iZ (b))), (3, .int (iZ (c9)))]) hx hb d_M_stopped_39 hl (by decide) rfl (fun ls hl => ?_)
        refine lv_iload hx hb d_M_stopped_41 (lv_at hl 0 rfl) ?_
        refine lv_aload_n hx hb d_M_stopped_43 rfl (lv_at hl 2 rfl) ?_
        refine va_get (D := D) (ci := 5) (v := .int (iZ ((jk J : Nat) : Int))) (C := n_M) (T := f_M) (N := 17) hx hb hts in_M hown hK hP 19 rfl rfl 8 (by decide) (hts _ fl_M_70) (fun _ h9 => h9) rfl d_M_stopped_44 ?_
        refine z_icmp_ge (a := ((0 : Nat) : Int)) (b := ((jk J : Nat) : Int)) (tgt := 134) hx hb (by omega) d_M_stopped_47 (by decide) (fun q47 => ?_) (fun q47 => ?_)
        · skip
          refine lv_aload_n hx hb d_M_stopped_134 rfl (lv_at hl 2 rfl) ?_
          refine va_get (D := D) (ci := 5) (v := .int (iZ ((2 : Nat) : Int))) (C := n_M) (T := f_M) (N := 17) hx hb hts in_M hown hK hP 19 rfl rfl 0 (by decide) (hts _ fl_M_55) (fun _ h9 => h9) rfl d_M_stopped_135 ?_
          refine z_if_le (a := ((2 : Nat) : Int)) (tgt := 145) hx hb (by omega) d_M_stopped_138 (by decide) (fun q138 => ?_) (fun q138 => ?_)
          · skip
            exfalso; omega
          · skip
            refine lv_iconst (v := iZ ((0 : Nat) : Int)) hx hb d_M_stopped_141 (by decide) ?_
            refine lv_goto (tgt := 146) hx hb d_M_stopped_142 (by decide) ?_
            exact z_iret Z hP hS d_M_stopped_146 wdM_map (⟨_, rfl, rfl, hM⟩)
        · skip
          refine lv_aload_n hx hb d_M_stopped_50 rfl (lv_at hl 2 rfl) ?_
          refine va_get (D := D) (ci := 5) (v := .int (iZ ((2 : Nat) : Int))) (C := n_M) (T := f_M) (N := 17) hx hb hts in_M hown hK hP 19 rfl rfl 0 (by decide) (hts _ fl_M_55) (fun _ h9 => h9) rfl d_M_stopped_51 ?_
          refine z_if_ne (a := ((2 : Nat) : Int)) (tgt := 134) hx hb (by omega) d_M_stopped_54 (by decide) (fun q54 => ?_) (fun q54 => ?_)
          · skip
            refine lv_aload_n hx hb d_M_stopped_134 rfl (lv_at hl 2 rfl) ?_
            refine va_get (D := D) (ci := 5) (v := .int (iZ ((2 : Nat) : Int))) (C := n_M) (T := f_M) (N := 17) hx hb hts in_M hown hK hP 19 rfl rfl 0 (by decide) (hts _ fl_M_55) (fun _ h9 => h9) rfl d_M_stopped_135 ?_
            refine z_if_le (a := ((2 : Nat) : Int)) (tgt := 145) hx hb (by omega) d_M_stopped_138 (by decide) (fun q138 => ?_) (fun q138 => ?_)
            · skip
              exfalso; omega
            · skip
              refine lv_iconst (v := iZ ((0 : Nat) : Int)) hx hb d_M_stopped_141 (by decide) ?_
              refine lv_goto (tgt := 146) hx hb d_M_stopped_142 (by decide) ?_
              exact z_iret Z hP hS d_M_stopped_146 wdM_map (⟨_, rfl, rfl, hM⟩)
          · skip
            exfalso; omega
  · skip
    replace q6 := of_decide_eq_false q6
    exfalso; omega

theorem sHt_s {J : SJ} {kd i : Nat} : sHt J kd (i + 1) = sHt J kd i - (sKd J i kd).sign := rfl
theorem sKd_t {J : SJ} {kd i : Nat} (h : sKp J i kd = true) : sKd J i kd = sDf J i kd := if_pos h
theorem sKd_f {J : SJ} {kd i : Nat} (h : sKp J i kd = false) : sKd J i kd = 0 := if_neg (by rw [h]; decide)
theorem sg_3 (a : Int) : (a < 0 ∧ a.sign = -1) ∨ (a = 0 ∧ a.sign = 0) ∨ (0 < a ∧ a.sign = 1) := by
  rcases Int.lt_trichotomy a 0 with q | q | q
  · exact Or.inl ⟨q, Int.sign_eq_neg_one_of_neg q⟩
  · exact Or.inr (Or.inl ⟨q, by rw [q]; rfl⟩)
  · exact Or.inr (Or.inr ⟨q, Int.sign_eq_one_of_pos q⟩)
set_option maxHeartbeats 4000000 in
set_option maxRecDepth 100000 in
theorem k_M_stopped0 {l : Launch} {D : va_G} {ad : Nat → Nat} {cI cZ cL : ClassId} {J J0 : SJ} {rd rd0 : Nat → Int} {pr pr0 : Nat → Nat} {G0 : SH} {K0 : SK} {M : SM} {ov : Nat → Int64} (hI : JI J) (hM : MJ J M) {kd up lo : Nat} (hkd : kd < 3) (hup : 1 ≤ up ∧ up ≤ 16) (hlo : 1 ≤ lo ∧ lo ≤ 16) : zMi l TB D classes (tysW cI cZ cL) y_M_stopped w_M_stopped 1 23 [.ref (ad 19), .int (iZ ((kd : Nat) : Int)), .int (iZ ((up : Nat) : Int)), .int (iZ ((lo : Nat) : Int))] (wdC ad cI cZ cL J0 rd0 pr0 G0 K0 (wdM ad cI cZ cL J rd pr M ov)) (fun r w => ∃ M1 : SM, r = iZ (sSt J kd up lo (jk J) 0) ∧ w = wdC ad cI cZ cL J0 rd0 pr0 G0 K0 (wdM ad cI cZ cL J rd pr M1 ov) ∧ M1.1 = 0 ∧ MJ J M1) := by
  refine z_of (Qc := fun A => va_Qi (fun r w => ∃ M1 : SM, r = iZ (sSt J kd up lo (jk J) 0) ∧ w = wdC ad cI cZ cL J0 rd0 pr0 G0 K0 (wdM ad cI cZ cL J rd pr M1 ov) ∧ M1.1 = 0 ∧ MJ J M1) (zB9 D classes (wdC ad cI cZ cL J0 rd0 pr0 G0 K0 (wdM ad cI cZ cL J rd pr M ov))) A) (by decide) (Nat.le_of_ble_eq_true rfl) ?_
  intro p e s m below meth c A ls Z hP hK hD hS hA hl
  obtain ⟨hx, hb, hr, hml, hown, hts, hE, hlocks⟩ := id Z
  have hl : lv_has ls 7 [(0, .ref (ad 19)), (1, .int (iZ ((kd : Nat) : Int))), (2, .int (iZ ((up : Nat) : Int))), (3, .int (iZ ((lo : Nat) : Int)))] := hl
  obtain ⟨hn32, hk2, hpr, hct⟩ := id hI
  suffices K9 : ∀ (H : Heap) (locs : List Loc) (ls : Array Slot), va_P D classes (wdC ad cI cZ cL J0 rd0 pr0 G0 K0 (wdM ad cI cZ cL J rd pr M ov)) H → va_D A (wdC ad cI cZ cL J0 rd0 pr0 G0 K0 (wdM ad cI cZ cL J rd pr M ov)) → va_S A s.heap H locs → lv_has ls 7 [(0, .ref (ad 19)), (1, .int (iZ ((kd : Nat) : Int))), (2, .int (iZ ((up : Nat) : Int))), (3, .int (iZ ((lo : Nat) : Int)))] → W p l e (zRm 1 23) s m ([.ref (ad 19), .int (iZ ((kd : Nat) : Int)), .int (iZ ((up : Nat) : Int)), .int (iZ ((lo : Nat) : Int))] : List Value).toArray below meth c H locs 0 0 (MQ below (va_Qi (fun r w => ∃ M1 : SM, r = iZ (sSt J kd up lo (jk J) 0) ∧ w = wdC ad cI cZ cL J0 rd0 pr0 G0 K0 (wdM ad cI cZ cL J rd pr M1 ov) ∧ M1.1 = 0 ∧ MJ J M1) (zB9 D classes (wdC ad cI cZ cL J0 rd0 pr0 G0 K0 (wdM ad cI cZ cL J rd pr M ov))) A) ([.ref (ad 19), .int (iZ ((kd : Nat) : Int)), .int (iZ ((up : Nat) : Int)), .int (iZ ((lo : Nat) : Int))] : List Value).toArray s 0 0 A) (F0 m 0 ls []) from K9 s.heap [] ls hP hD hS hl
  clear hP hD hS hl
  intro H locs ls hP hD hS hl
  refine lv_aload_n hx hb d_M_stopped_0 rfl (lv_at hl 0 rfl) ?_
  refine lv_iload_n hx hb d_M_stopped_1 rfl (lv_at hl 1 rfl) ?_
  refine lv_iconst (v := iZ ((3 : Nat) : Int)) hx hb d_M_stopped_2 (by decide) ?_
  refine z_callSR (As := [.int (iZ ((kd : Nat) : Int)), .int (iZ ((3 : Nat) : Int))]) (rest := [.ref (ad 19)]) zTB Z (k_M_isIn (a := ((kd : Nat) : Int)) (b := ((3 : Nat) : Int)) (by omega)) ⟨ml_M_59, sm_M_isIn, ini_M, co_M_isIn⟩ zd_M_isIn ⟨Nat.le_of_ble_eq_true rfl, Nat.le_of_ble_eq_true rfl⟩ hP hK hl.1 rfl (Nat.le_of_ble_eq_true rfl) d_M_stopped_3 ⟨Nat.zero_le _, Nat.zero_le _⟩ ?_
  refine W.eq (g2 := F0 m 6 ls [.int (bI (decide (0 ≤ ((kd : Nat) : Int) ∧ ((kd : Nat) : Int) < ((3 : Nat) : Int)))), .ref (ad 19)]) rfl ?_
  refine z_if_neB (b := decide (0 ≤ ((kd : Nat) : Int) ∧ ((kd : Nat) : Int) < ((3 : Nat) : Int))) (tgt := 13) hx hb d_M_stopped_6 (by decide) (fun q6 => ?_) (fun q6 => ?_)
  · skip
    replace q6 := of_decide_eq_true q6
    refine lv_iload_n hx hb d_M_stopped_13 rfl (lv_at hl 2 rfl) ?_
    refine z_callSR (As := [.int (iZ ((up : Nat) : Int))]) (rest := [.ref (ad 19)]) zTB Z (k_M_isBound (a := ((up : Nat) : Int)) (by omega)) ⟨ml_M_101, sm_M_isBound, ini_M, co_M_isBound⟩ zd_M_isBound ⟨Nat.le_of_ble_eq_true rfl, Nat.le_of_ble_eq_true rfl⟩ hP hK hl.1 rfl (Nat.le_of_ble_eq_true rfl) d_M_stopped_14 ⟨Nat.zero_le _, Nat.zero_le _⟩ ?_
    refine W.eq (g2 := F0 m 17 ls [.int (bI (decide (1 ≤ ((up : Nat) : Int) ∧ ((up : Nat) : Int) ≤ 16))), .ref (ad 19)]) rfl ?_
    refine z_if_eqB (b := decide (1 ≤ ((up : Nat) : Int) ∧ ((up : Nat) : Int) ≤ 16)) (tgt := 27) hx hb d_M_stopped_17 (by decide) (fun q17 => ?_) (fun q17 => ?_)
    · skip
      replace q17 := of_decide_eq_false q17
      exfalso; omega
    · skip
      replace q17 := of_decide_eq_true q17
      refine lv_iload_n hx hb d_M_stopped_20 rfl (lv_at hl 3 rfl) ?_
      refine z_callSR (As := [.int (iZ ((lo : Nat) : Int))]) (rest := [.ref (ad 19)]) zTB Z (k_M_isBound (a := ((lo : Nat) : Int)) (by omega)) ⟨ml_M_101, sm_M_isBound, ini_M, co_M_isBound⟩ zd_M_isBound ⟨Nat.le_of_ble_eq_true rfl, Nat.le_of_ble_eq_true rfl⟩ hP hK hl.1 rfl (Nat.le_of_ble_eq_true rfl) d_M_stopped_21 ⟨Nat.zero_le _, Nat.zero_le _⟩ ?_
      refine W.eq (g2 := F0 m 24 ls [.int (bI (decide (1 ≤ ((lo : Nat) : Int) ∧ ((lo : Nat) : Int) ≤ 16))), .ref (ad 19)]) rfl ?_
      refine z_if_neB (b := decide (1 ≤ ((lo : Nat) : Int) ∧ ((lo : Nat) : Int) ≤ 16)) (tgt := 31) hx hb d_M_stopped_24 (by decide) (fun q24 => ?_) (fun q24 => ?_)
      · skip
        replace q24 := of_decide_eq_true q24
        refine lv_iconst (v := iZ ((0 : Nat) : Int)) hx hb d_M_stopped_31 (by decide) ?_
        refine va_put (D := D) (ci := 5) (v := .int (iZ ((0 : Nat) : Int))) (ty := .int) (C := n_M) (T := f_M) (N := 17) hx hb hts in_M ty_M tyo_M nm_M hown hK hP hD hS 19 rfl rfl 0 (by decide) (hts _ fl_M_55) (fun _ h9 => h9) rfl (by decide +kernel) rfl rfl (Nat.le_of_ble_eq_true rfl) d_M_stopped_32 (fun H locs hP hD hS => ?_)
        have hP : va_P D classes (wdC ad cI cZ cL J0 rd0 pr0 G0 K0 (wdM ad cI cZ cL J rd pr (0, M.2) ov)) H := hP
        have hD : va_D A (wdC ad cI cZ cL J0 rd0 pr0 G0 K0 (wdM ad cI cZ cL J rd pr (0, M.2) ov)) := hD
        refine lv_iconst (v := iZ ((0 : Nat) : Int)) hx hb d_M_stopped_35 (by decide) ?_
        refine lv_istore (lv' := [(4, .int (iZ ((0 : Nat) : Int))), (0, .ref (ad 19)), (1, .int (iZ ((kd : Nat) : Int))), (2, .int (iZ ((up : Nat) : Int))), (3, .int (iZ ((lo : Nat) : Int)))]) hx hb d_M_stopped_36 hl (by decide) rfl (fun ls hl => ?_)
        refine lv_iconst (v := iZ ((0 : Nat) : Int)) hx hb d_M_stopped_38 (by decide) ?_
        refine lv_istore (lv' := [(5, .int (iZ ((0 : Nat) : Int))), (4, .int (iZ ((0 : Nat) : Int))), (0, .ref (ad 19)), (1, .int (iZ ((kd : Nat) : Int))), (2, .int (iZ ((up : Nat) : Int))), (3, .int (iZ ((lo : Nat) : Int)))]) hx hb d_M_stopped_39 hl (by decide) rfl (fun ls hl => ?_)
        have L41 : ∀ (N41 : Nat) (i : Nat) (H : Heap) (locs : List Loc) (ls : Array Slot), (i ≤ jk J) → (sSt J kd up lo (jk J) 0 = sSt J kd up lo (jk J - i) i) → (sHt J kd i ≠ ((up : Nat) : Int) ∧ sHt J kd i ≠ -((lo : Nat) : Int)) → jk J - i < N41 → va_P D classes (wdC ad cI cZ cL J0 rd0 pr0 G0 K0 (wdM ad cI cZ cL J rd pr (0, M.2) ov)) H → va_D A (wdC ad cI cZ cL J0 rd0 pr0 G0 K0 (wdM ad cI cZ cL J rd pr (0, M.2) ov)) → va_S A s.heap H locs → lv_has ls 7 [(0, .ref (ad 19)), (1, .int (iZ ((kd : Nat) : Int))), (2, .int (iZ ((up : Nat) : Int))), (3, .int (iZ ((lo : Nat) : Int))), (4, .int (iZ (sHt J kd i))), (5, .int (iZ ((i : Nat) : Int)))] → W p l e (zRm 1 23) s m ([.ref (ad 19), .int (iZ ((kd : Nat) : Int)), .int (iZ ((up : Nat) : Int)), .int (iZ ((lo : Nat) : Int))] : List Value).toArray below meth c H locs 0 0 (MQ below (va_Qi (fun r w => ∃ M1 : SM, r = iZ (sSt J kd up lo (jk J) 0) ∧ w = wdC ad cI cZ cL J0 rd0 pr0 G0 K0 (wdM ad cI cZ cL J rd pr M1 ov) ∧ M1.1 = 0 ∧ MJ J M1) (zB9 D classes (wdC ad cI cZ cL J0 rd0 pr0 G0 K0 (wdM ad cI cZ cL J rd pr M ov))) A) ([.ref (ad 19), .int (iZ ((kd : Nat) : Int)), .int (iZ ((up : Nat) : Int)), .int (iZ ((lo : Nat) : Int))] : List Value).toArray s 0 0 A) (F0 m 41 ls []) := by
          intro N41
          induction N41 with
          | zero =>
            intro i H locs ls hi hv hne hN41 hP hD hS hl
            exact absurd hN41 (Nat.not_lt_zero _)
          | succ N41 ih41 =>
            intro i H locs ls hi hv hne hN41 hP hD hS hl
            have hle := sHt_b J kd i
            have hsg := sg_3 (sKd J i kd)
            have hss := sHt_s (J := J) (kd := kd) (i := i)
            have hdf := sDf_b hI i kd
            refine lv_iload hx hb d_M_stopped_41 (lv_at hl 5 rfl) ?_
            refine lv_aload_n hx hb d_M_stopped_43 rfl (lv_at hl 0 rfl) ?_
            refine va_get (D := D) (ci := 5) (v := .int (iZ ((jk J : Nat) : Int))) (C := n_M) (T := f_M) (N := 17) hx hb hts in_M hown hK hP 19 rfl rfl 8 (by decide) (hts _ fl_M_70) (fun _ h9 => h9) rfl d_M_stopped_44 ?_
            refine z_icmp_ge (a := ((i : Nat) : Int)) (b := ((jk J : Nat) : Int)) (tgt := 134) hx hb (by omega) d_M_stopped_47 (by decide) (fun q47 => ?_) (fun q47 => ?_)
            · skip
              refine lv_aload_n hx hb d_M_stopped_134 rfl (lv_at hl 0 rfl) ?_
              refine va_get (D := D) (ci := 5) (v := .int (iZ ((0 : Nat) : Int))) (C := n_M) (T := f_M) (N := 17) hx hb hts in_M hown hK hP 19 rfl rfl 0 (by decide) (hts _ fl_M_55) (fun _ h9 => h9) rfl d_M_stopped_135 ?_
              refine z_if_le (a := ((0 : Nat) : Int)) (tgt := 145) hx hb (by omega) d_M_stopped_138 (by decide) (fun q138 => ?_) (fun q138 => ?_)
              · skip
                refine lv_iconst (v := iZ ((-1 : Int))) hx hb d_M_stopped_145 (by decide) ?_
                exact z_iret Z hP hS d_M_stopped_146 wdM_map (⟨_, by rw [hv, show jk J - i = 0 by omega]; rfl, rfl, rfl, hM⟩)
              · skip
                exfalso; omega
            · skip
              have hr1 : jk J - i = (jk J - i - 1) + 1 := by omega
              refine lv_aload_n hx hb d_M_stopped_50 rfl (lv_at hl 0 rfl) ?_
              refine va_get (D := D) (ci := 5) (v := .int (iZ ((0 : Nat) : Int))) (C := n_M) (T := f_M) (N := 17) hx hb hts in_M hown hK hP 19 rfl rfl 0 (by decide) (hts _ fl_M_55) (fun _ h9 => h9) rfl d_M_stopped_51 ?_
              refine z_if_ne (a := ((0 : Nat) : Int)) (tgt := 134) hx hb (by omega) d_M_stopped_54 (by decide) (fun q54 => ?_) (fun q54 => ?_)
              · skip
                exfalso; omega
              · skip
                refine lv_aload_n hx hb d_M_stopped_57 rfl (lv_at hl 0 rfl) ?_
                refine lv_iload hx hb d_M_stopped_58 (lv_at hl 5 rfl) ?_
                refine lv_iload_n hx hb d_M_stopped_60 rfl (lv_at hl 1 rfl) ?_
                refine z_callVR (As := [.int (iZ ((i : Nat) : Int)), .int (iZ ((kd : Nat) : Int))]) (rest := []) zTB Z (k_M_isKept (J := J) (M := (0, M.2)) hI hM (pp := i) (kd := kd) (by omega) (by omega)) ⟨ml_M_77, im_M_isKept, se_M_isKept, ini_M, co_M_isKept⟩ zd_M_isKept ⟨Nat.le_of_ble_eq_true rfl, Nat.le_of_ble_eq_true rfl⟩ hP hK (ci := 5) (q0 := 19) rfl rfl rfl hl.1 rfl (Nat.le_of_ble_eq_true rfl) d_M_stopped_61 ⟨Nat.zero_le _, Nat.zero_le _⟩ ?_
                refine W.eq (g2 := F0 m 64 ls [.int (bI (sKp J i kd))]) rfl ?_
                refine z_if_neB (b := sKp J i kd) (tgt := 70) hx hb d_M_stopped_64 (by decide) (fun q64 => ?_) (fun q64 => ?_)
                · skip
                  have hkd9 := sKd_t q64
                  refine lv_aload_n hx hb d_M_stopped_70 rfl (lv_at hl 0 rfl) ?_
                  refine lv_iload hx hb d_M_stopped_71 (lv_at hl 5 rfl) ?_
                  refine lv_iload_n hx hb d_M_stopped_73 rfl (lv_at hl 1 rfl) ?_
                  refine z_callVR (As := [.int (iZ ((i : Nat) : Int)), .int (iZ ((kd : Nat) : Int))]) (rest := []) zTB Z (k_M_by (J := J) (M := (0, M.2)) hI hM (pp := i) (kd := kd) (by omega) (by omega)) ⟨ml_M_73, im_M_by, se_M_by, ini_M, co_M_by⟩ zd_M_by ⟨Nat.le_of_ble_eq_true rfl, Nat.le_of_ble_eq_true rfl⟩ hP hK (ci := 5) (q0 := 19) rfl rfl rfl hl.1 rfl (Nat.le_of_ble_eq_true rfl) d_M_stopped_74 ⟨Nat.zero_le _, Nat.zero_le _⟩ ?_
                  refine W.eq (g2 := F0 m 77 ls [.int (iZ (sDf J i kd))]) rfl ?_
                  refine lv_istore (lv' := [(6, .int (iZ (sDf J i kd))), (0, .ref (ad 19)), (1, .int (iZ ((kd : Nat) : Int))), (2, .int (iZ ((up : Nat) : Int))), (3, .int (iZ ((lo : Nat) : Int))), (4, .int (iZ (sHt J kd i))), (5, .int (iZ ((i : Nat) : Int)))]) hx hb d_M_stopped_77 hl (by decide) rfl (fun ls hl => ?_)
                  refine lv_iload hx hb d_M_stopped_79 (lv_at hl 5 rfl) ?_
                  refine lv_iload hx hb d_M_stopped_81 (lv_at hl 0 rfl) ?_
                  refine z_if_ge (a := sDf J i kd) (tgt := 90) hx hb (by omega) d_M_stopped_83 (by decide) (fun q83 => ?_) (fun q83 => ?_)
                  · skip
                    refine lv_iload hx hb d_M_stopped_90 (lv_at hl 0 rfl) ?_
                    refine z_if_le (a := sDf J i kd) (tgt := 99) hx hb (by omega) d_M_stopped_92 (by decide) (fun q92 => ?_) (fun q92 => ?_)
                    · skip
                      refine lv_iconst (v := iZ ((0 : Nat) : Int)) hx hb d_M_stopped_99 (by decide) ?_
                      refine z_iadd (a := sHt J kd i) (b := ((0 : Nat) : Int)) hx hb d_M_stopped_100 ?_
                      refine lv_istore (lv' := [(4, .int (iZ ((sHt J kd i) + ((0 : Nat) : Int)))), (6, .int (iZ (sDf J i kd))), (0, .ref (ad 19)), (1, .int (iZ ((kd : Nat) : Int))), (2, .int (iZ ((up : Nat) : Int))), (3, .int (iZ ((lo : Nat) : Int))), (5, .int (iZ ((i : Nat) : Int)))]) hx hb d_M_stopped_101 hl (by decide) rfl (fun ls hl => ?_)
                      refine lv_iload hx hb d_M_stopped_103 (lv_at hl 0 rfl) ?_
                      refine lv_iload_n hx hb d_M_stopped_105 rfl (lv_at hl 4 rfl) ?_
                      refine z_icmp_ne (a := (sHt J kd i) + ((0 : Nat) : Int)) (b := ((up : Nat) : Int)) (tgt := 114) hx hb (by omega) d_M_stopped_106 (by decide) (fun q106 => ?_) (fun q106 => ?_)
                      · skip
                        refine lv_iload hx hb d_M_stopped_114 (lv_at hl 0 rfl) ?_
                        refine lv_iload_n hx hb d_M_stopped_116 rfl (lv_at hl 5 rfl) ?_
                        refine z_ineg (a := ((lo : Nat) : Int)) hx hb d_M_stopped_117 ?_
                        refine z_icmp_ne (a := (sHt J kd i) + ((0 : Nat) : Int)) (b := -((lo : Nat) : Int)) (tgt := 128) hx hb (by omega) d_M_stopped_118 (by decide) (fun q118 => ?_) (fun q118 => ?_)
                        · skip
                          refine lv_iinc (v := iZ ((i + 1 : Nat) : Int)) (lv' := [(5, .int (iZ ((i + 1 : Nat) : Int))), (4, .int (iZ ((sHt J kd i) + ((0 : Nat) : Int)))), (6, .int (iZ (sDf J i kd))), (0, .ref (ad 19)), (1, .int (iZ ((kd : Nat) : Int))), (2, .int (iZ ((up : Nat) : Int))), (3, .int (iZ ((lo : Nat) : Int)))]) hx hb d_M_stopped_128 hl (k := 6) rfl (iZ_inc (i) 1) (by decide) rfl (fun ls hl => ?_)
                          refine lv_goto (tgt := 41) hx hb d_M_stopped_131 (by decide) ?_
                          exact ih41 (i + 1) H locs ls (by omega) (by rw [hv, hr1]; show (if _ then _ else if _ then _ else _) = _; rw [if_neg (by omega), if_neg (by omega), show jk J - i - 1 = jk J - (i + 1) by omega]) (by omega) (by omega) hP hD hS (lv_sub hl [3, 4, 5, 6, 1, 0] (by rw [show (sHt J kd (i + 1)) = ((sHt J kd i) + ((0 : Nat) : Int)) from by omega]; rfl))
                        · skip
                          refine lv_iconst (v := iZ ((2 : Nat) : Int)) hx hb d_M_stopped_121 (by decide) ?_
                          refine lv_iload hx hb d_M_stopped_122 (lv_at hl 6 rfl) ?_
                          refine z_imulN (u := 2) (v := i) hx hb d_M_stopped_124 ?_
                          refine lv_iconst (v := iZ ((1 : Nat) : Int)) hx hb d_M_stopped_125 (by decide) ?_
                          refine z_iaddN (u := 2 * i) (v := 1) hx hb d_M_stopped_126 ?_
                          exact z_iret Z hP hS d_M_stopped_127 wdM_map (⟨_, by rw [hv, hr1]; show _ = iZ (if sHt J kd (i + 1) = _ then _ else if sHt J kd (i + 1) = _ then _ else _); rw [if_neg (by omega), if_pos (by omega)], rfl, rfl, hM⟩)
                      · skip
                        refine lv_iconst (v := iZ ((2 : Nat) : Int)) hx hb d_M_stopped_109 (by decide) ?_
                        refine lv_iload hx hb d_M_stopped_110 (lv_at hl 6 rfl) ?_
                        refine z_imulN (u := 2) (v := i) hx hb d_M_stopped_112 ?_
                        exact z_iret Z hP hS d_M_stopped_113 wdM_map (⟨_, by rw [hv, hr1]; show _ = iZ (if sHt J kd (i + 1) = _ then _ else _); rw [if_pos (by omega)], rfl, rfl, hM⟩)
                    · skip
                      refine lv_iconst (v := iZ ((-1 : Int))) hx hb d_M_stopped_95 (by decide) ?_
                      refine lv_goto (tgt := 100) hx hb d_M_stopped_96 (by decide) ?_
                      refine z_iadd (a := sHt J kd i) (b := (-1 : Int)) hx hb d_M_stopped_100 ?_
                      refine lv_istore (lv' := [(4, .int (iZ ((sHt J kd i) + (-1 : Int)))), (6, .int (iZ (sDf J i kd))), (0, .ref (ad 19)), (1, .int (iZ ((kd : Nat) : Int))), (2, .int (iZ ((up : Nat) : Int))), (3, .int (iZ ((lo : Nat) : Int))), (5, .int (iZ ((i : Nat) : Int)))]) hx hb d_M_stopped_101 hl (by decide) rfl (fun ls hl => ?_)
                      refine lv_iload hx hb d_M_stopped_103 (lv_at hl 0 rfl) ?_
                      refine lv_iload_n hx hb d_M_stopped_105 rfl (lv_at hl 4 rfl) ?_
                      refine z_icmp_ne (a := (sHt J kd i) + (-1 : Int)) (b := ((up : Nat) : Int)) (tgt := 114) hx hb (by omega) d_M_stopped_106 (by decide) (fun q106 => ?_) (fun q106 => ?_)
                      · skip
                        refine lv_iload hx hb d_M_stopped_114 (lv_at hl 0 rfl) ?_
                        refine lv_iload_n hx hb d_M_stopped_116 rfl (lv_at hl 5 rfl) ?_
                        refine z_ineg (a := ((lo : Nat) : Int)) hx hb d_M_stopped_117 ?_
                        refine z_icmp_ne (a := (sHt J kd i) + (-1 : Int)) (b := -((lo : Nat) : Int)) (tgt := 128) hx hb (by omega) d_M_stopped_118 (by decide) (fun q118 => ?_) (fun q118 => ?_)
                        · skip
                          refine lv_iinc (v := iZ ((i + 1 : Nat) : Int)) (lv' := [(5, .int (iZ ((i + 1 : Nat) : Int))), (4, .int (iZ ((sHt J kd i) + (-1 : Int)))), (6, .int (iZ (sDf J i kd))), (0, .ref (ad 19)), (1, .int (iZ ((kd : Nat) : Int))), (2, .int (iZ ((up : Nat) : Int))), (3, .int (iZ ((lo : Nat) : Int)))]) hx hb d_M_stopped_128 hl (k := 6) rfl (iZ_inc (i) 1) (by decide) rfl (fun ls hl => ?_)
                          refine lv_goto (tgt := 41) hx hb d_M_stopped_131 (by decide) ?_
                          exact ih41 (i + 1) H locs ls (by omega) (by rw [hv, hr1]; show (if _ then _ else if _ then _ else _) = _; rw [if_neg (by omega), if_neg (by omega), show jk J - i - 1 = jk J - (i + 1) by omega]) (by omega) (by omega) hP hD hS (lv_sub hl [3, 4, 5, 6, 1, 0] (by rw [show (sHt J kd (i + 1)) = ((sHt J kd i) + (-1 : Int)) from by omega]; rfl))
                        · skip
                          refine lv_iconst (v := iZ ((2 : Nat) : Int)) hx hb d_M_stopped_121 (by decide) ?_
                          refine lv_iload hx hb d_M_stopped_122 (lv_at hl 6 rfl) ?_
                          refine z_imulN (u := 2) (v := i) hx hb d_M_stopped_124 ?_
                          refine lv_iconst (v := iZ ((1 : Nat) : Int)) hx hb d_M_stopped_125 (by decide) ?_
                          refine z_iaddN (u := 2 * i) (v := 1) hx hb d_M_stopped_126 ?_
                          exact z_iret Z hP hS d_M_stopped_127 wdM_map (⟨_, by rw [hv, hr1]; show _ = iZ (if sHt J kd (i + 1) = _ then _ else if sHt J kd (i + 1) = _ then _ else _); rw [if_neg (by omega), if_pos (by omega)], rfl, rfl, hM⟩)
                      · skip
                        refine lv_iconst (v := iZ ((2 : Nat) : Int)) hx hb d_M_stopped_109 (by decide) ?_
                        refine lv_iload hx hb d_M_stopped_110 (lv_at hl 6 rfl) ?_
                        refine z_imulN (u := 2) (v := i) hx hb d_M_stopped_112 ?_
                        exact z_iret Z hP hS d_M_stopped_113 wdM_map (⟨_, by rw [hv, hr1]; show _ = iZ (if sHt J kd (i + 1) = _ then _ else _); rw [if_pos (by omega)], rfl, rfl, hM⟩)
                  · skip
                    refine lv_iconst (v := iZ ((1 : Nat) : Int)) hx hb d_M_stopped_86 (by decide) ?_
                    refine lv_goto (tgt := 100) hx hb d_M_stopped_87 (by decide) ?_
                    refine z_iadd (a := sHt J kd i) (b := ((1 : Nat) : Int)) hx hb d_M_stopped_100 ?_
                    refine lv_istore (lv' := [(4, .int (iZ ((sHt J kd i) + ((1 : Nat) : Int)))), (6, .int (iZ (sDf J i kd))), (0, .ref (ad 19)), (1, .int (iZ ((kd : Nat) : Int))), (2, .int (iZ ((up : Nat) : Int))), (3, .int (iZ ((lo : Nat) : Int))), (5, .int (iZ ((i : Nat) : Int)))]) hx hb d_M_stopped_101 hl (by decide) rfl (fun ls hl => ?_)
                    refine lv_iload hx hb d_M_stopped_103 (lv_at hl 0 rfl) ?_
                    refine lv_iload_n hx hb d_M_stopped_105 rfl (lv_at hl 4 rfl) ?_
                    refine z_icmp_ne (a := (sHt J kd i) + ((1 : Nat) : Int)) (b := ((up : Nat) : Int)) (tgt := 114) hx hb (by omega) d_M_stopped_106 (by decide) (fun q106 => ?_) (fun q106 => ?_)
                    · skip
                      refine lv_iload hx hb d_M_stopped_114 (lv_at hl 0 rfl) ?_
                      refine lv_iload_n hx hb d_M_stopped_116 rfl (lv_at hl 5 rfl) ?_
                      refine z_ineg (a := ((lo : Nat) : Int)) hx hb d_M_stopped_117 ?_
                      refine z_icmp_ne (a := (sHt J kd i) + ((1 : Nat) : Int)) (b := -((lo : Nat) : Int)) (tgt := 128) hx hb (by omega) d_M_stopped_118 (by decide) (fun q118 => ?_) (fun q118 => ?_)
                      · skip
                        refine lv_iinc (v := iZ ((i + 1 : Nat) : Int)) (lv' := [(5, .int (iZ ((i + 1 : Nat) : Int))), (4, .int (iZ ((sHt J kd i) + ((1 : Nat) : Int)))), (6, .int (iZ (sDf J i kd))), (0, .ref (ad 19)), (1, .int (iZ ((kd : Nat) : Int))), (2, .int (iZ ((up : Nat) : Int))), (3, .int (iZ ((lo : Nat) : Int)))]) hx hb d_M_stopped_128 hl (k := 6) rfl (iZ_inc (i) 1) (by decide) rfl (fun ls hl => ?_)
                        refine lv_goto (tgt := 41) hx hb d_M_stopped_131 (by decide) ?_
                        exact ih41 (i + 1) H locs ls (by omega) (by rw [hv, hr1]; show (if _ then _ else if _ then _ else _) = _; rw [if_neg (by omega), if_neg (by omega), show jk J - i - 1 = jk J - (i + 1) by omega]) (by omega) (by omega) hP hD hS (lv_sub hl [3, 4, 5, 6, 1, 0] (by rw [show (sHt J kd (i + 1)) = ((sHt J kd i) + ((1 : Nat) : Int)) from by omega]; rfl))
                      · skip
                        refine lv_iconst (v := iZ ((2 : Nat) : Int)) hx hb d_M_stopped_121 (by decide) ?_
                        refine lv_iload hx hb d_M_stopped_122 (lv_at hl 6 rfl) ?_
                        refine z_imulN (u := 2) (v := i) hx hb d_M_stopped_124 ?_
                        refine lv_iconst (v := iZ ((1 : Nat) : Int)) hx hb d_M_stopped_125 (by decide) ?_
                        refine z_iaddN (u := 2 * i) (v := 1) hx hb d_M_stopped_126 ?_
                        exact z_iret Z hP hS d_M_stopped_127 wdM_map (⟨_, by rw [hv, hr1]; show _ = iZ (if sHt J kd (i + 1) = _ then _ else if sHt J kd (i + 1) = _ then _ else _); rw [if_neg (by omega), if_pos (by omega)], rfl, rfl, hM⟩)
                    · skip
                      refine lv_iconst (v := iZ ((2 : Nat) : Int)) hx hb d_M_stopped_109 (by decide) ?_
                      refine lv_iload hx hb d_M_stopped_110 (lv_at hl 6 rfl) ?_
                      refine z_imulN (u := 2) (v := i) hx hb d_M_stopped_112 ?_
                      exact z_iret Z hP hS d_M_stopped_113 wdM_map (⟨_, by rw [hv, hr1]; show _ = iZ (if sHt J kd (i + 1) = _ then _ else _); rw [if_pos (by omega)], rfl, rfl, hM⟩)
                · skip
                  have hkd9 := sKd_f q64
                  refine lv_goto (tgt := 128) hx hb d_M_stopped_67 (by decide) ?_
                  refine lv_iinc (v := iZ ((i + 1 : Nat) : Int)) (lv' := [(5, .int (iZ ((i + 1 : Nat) : Int))), (0, .ref (ad 19)), (1, .int (iZ ((kd : Nat) : Int))), (2, .int (iZ ((up : Nat) : Int))), (3, .int (iZ ((lo : Nat) : Int))), (4, .int (iZ (sHt J kd i)))]) hx hb d_M_stopped_128 hl (k := 5) rfl (iZ_inc (i) 1) (by decide) rfl (fun ls hl => ?_)
                  refine lv_goto (tgt := 41) hx hb d_M_stopped_131 (by decide) ?_
                  exact ih41 (i + 1) H locs ls (by omega) (by rw [hv, hr1]; show (if _ then _ else if _ then _ else _) = _; rw [if_neg (by omega), if_neg (by omega), show jk J - i - 1 = jk J - (i + 1) by omega]) (by omega) (by omega) hP hD hS (lv_sub hl [1, 2, 3, 4, 5, 0] (by rw [show (sHt J kd (i + 1)) = (sHt J kd i) from by omega]; rfl))
        exact L41 (jk J - 0 + 1) 0 H locs ls (Nat.zero_le _) rfl (by show (0 : Int) ≠ _ ∧ (0 : Int) ≠ _; omega) (by omega) hP hD hS (lv_sub hl [2, 3, 4, 5, 1, 0] rfl)
      · skip
        replace q24 := of_decide_eq_false q24
        exfalso; omega
  · skip
    replace q6 := of_decide_eq_false q6
    exfalso; omega

set_option maxHeartbeats 4000000 in
set_option maxRecDepth 100000 in
theorem k_M_readerx1 {l : Launch} {D : va_G} {ad : Nat → Nat} {cI cZ cL : ClassId} {J J0 : SJ} {rd rd0 : Nat → Int} {pr pr0 : Nat → Nat} {G0 : SH} {K0 : SK} {M : SM} {ov : Nat → Int64} (hI : JI J) (hM : MJ J M) {a b c9 : Int} (h : z32 a ∧ z32 b ∧ (a < 0 ∨ ((jn J : Nat) : Int) ≤ a ∨ b < 0 ∨ 2 ≤ b)) : zMi l TB D classes (tysW cI cZ cL) y_M_reader w_M_reader 2 43 [.ref (ad 19), .int (iZ (a)), .int (iZ (b)), .int (iZ (c9))] (wdC ad cI cZ cL J0 rd0 pr0 G0 K0 (wdM ad cI cZ cL J rd pr M ov)) (fun r w => ∃ M1 : SM, w = wdC ad cI cZ cL J0 rd0 pr0 G0 K0 (wdM ad cI cZ cL J rd pr M1 ov) ∧ M1.1 = 1 ∧ MJ J M1) := by
  refine z_of (Qc := fun A => va_Qi (fun r w => ∃ M1 : SM, w = wdC ad cI cZ cL J0 rd0 pr0 G0 K0 (wdM ad cI cZ cL J rd pr M1 ov) ∧ M1.1 = 1 ∧ MJ J M1) (zB9 D classes (wdC ad cI cZ cL J0 rd0 pr0 G0 K0 (wdM ad cI cZ cL J rd pr M ov))) A) (by decide) (Nat.le_of_ble_eq_true rfl) ?_
  intro p e s m below meth c A ls Z hP hK hD hS hA hl
  obtain ⟨hx, hb, hr, hml, hown, hts, hE, hlocks⟩ := id Z
  have hl : lv_has ls 4 [(0, .ref (ad 19)), (1, .int (iZ (a))), (2, .int (iZ (b))), (3, .int (iZ (c9)))] := hl
  obtain ⟨hn32, hk2, hpr, hct⟩ := id hI
  suffices K9 : ∀ (H : Heap) (locs : List Loc) (ls : Array Slot), va_P D classes (wdC ad cI cZ cL J0 rd0 pr0 G0 K0 (wdM ad cI cZ cL J rd pr M ov)) H → va_D A (wdC ad cI cZ cL J0 rd0 pr0 G0 K0 (wdM ad cI cZ cL J rd pr M ov)) → va_S A s.heap H locs → lv_has ls 4 [(0, .ref (ad 19)), (1, .int (iZ (a))), (2, .int (iZ (b))), (3, .int (iZ (c9)))] → W p l e (zRm 2 43) s m ([.ref (ad 19), .int (iZ (a)), .int (iZ (b)), .int (iZ (c9))] : List Value).toArray below meth c H locs 0 0 (MQ below (va_Qi (fun r w => ∃ M1 : SM, w = wdC ad cI cZ cL J0 rd0 pr0 G0 K0 (wdM ad cI cZ cL J rd pr M1 ov) ∧ M1.1 = 1 ∧ MJ J M1) (zB9 D classes (wdC ad cI cZ cL J0 rd0 pr0 G0 K0 (wdM ad cI cZ cL J rd pr M ov))) A) ([.ref (ad 19), .int (iZ (a)), .int (iZ (b)), .int (iZ (c9))] : List Value).toArray s 0 0 A) (F0 m 0 ls []) from K9 s.heap [] ls hP hD hS hl
  clear hP hD hS hl
  intro H locs ls hP hD hS hl
  refine lv_aload_n hx hb d_M_reader_0 rfl (lv_at hl 0 rfl) ?_
  refine lv_iload_n hx hb d_M_reader_1 rfl (lv_at hl 1 rfl) ?_
  refine lv_aload_n hx hb d_M_reader_2 rfl (lv_at hl 0 rfl) ?_
  refine va_get (D := D) (ci := 5) (v := .int (iZ ((jn J : Nat) : Int))) (C := n_M) (T := f_M) (N := 17) hx hb hts in_M hown hK hP 19 rfl rfl 2 (by decide) (hts _ fl_M_63) (fun _ h9 => h9) rfl d_M_reader_3 ?_
  refine z_callSR (As := [.int (iZ (a)), .int (iZ ((jn J : Nat) : Int))]) (rest := [.ref (ad 19)]) zTB Z (k_M_isIn (a := a) (b := ((jn J : Nat) : Int)) (by omega)) ⟨ml_M_59, sm_M_isIn, ini_M, co_M_isIn⟩ zd_M_isIn ⟨Nat.le_of_ble_eq_true rfl, Nat.le_of_ble_eq_true rfl⟩ hP hK hl.1 rfl (Nat.le_of_ble_eq_true rfl) d_M_reader_6 ⟨Nat.zero_le _, Nat.zero_le _⟩ ?_
  refine W.eq (g2 := F0 m 9 ls [.int (bI (decide (0 ≤ a ∧ a < ((jn J : Nat) : Int)))), .ref (ad 19)]) rfl ?_
  refine z_if_eqB (b := decide (0 ≤ a ∧ a < ((jn J : Nat) : Int))) (tgt := 20) hx hb d_M_reader_9 (by decide) (fun q9 => ?_) (fun q9 => ?_)
  · skip
    replace q9 := of_decide_eq_false q9
    refine lv_iconst (v := iZ ((1 : Nat) : Int)) hx hb d_M_reader_20 (by decide) ?_
    refine lv_goto (tgt := 39) hx hb d_M_reader_21 (by decide) ?_
    refine va_put (D := D) (ci := 5) (v := .int (iZ ((1 : Nat) : Int))) (ty := .int) (C := n_M) (T := f_M) (N := 17) hx hb hts in_M ty_M tyo_M nm_M hown hK hP hD hS 19 rfl rfl 0 (by decide) (hts _ fl_M_55) (fun _ h9 => h9) rfl (by decide +kernel) rfl rfl (Nat.le_of_ble_eq_true rfl) d_M_reader_39 (fun H locs hP hD hS => ?_)
    have hP : va_P D classes (wdC ad cI cZ cL J0 rd0 pr0 G0 K0 (wdM ad cI cZ cL J rd pr (1, M.2) ov)) H := hP
    have hD : va_D A (wdC ad cI cZ cL J0 rd0 pr0 G0 K0 (wdM ad cI cZ cL J rd pr (1, M.2) ov)) := hD
    refine lv_aload_n hx hb d_M_reader_42 rfl (lv_at hl 0 rfl) ?_
    refine va_get (D := D) (ci := 5) (v := .int (iZ ((1 : Nat) : Int))) (C := n_M) (T := f_M) (N := 17) hx hb hts in_M hown hK hP 19 rfl rfl 0 (by decide) (hts _ fl_M_55) (fun _ h9 => h9) rfl d_M_reader_43 ?_
    refine z_if_le (a := ((1 : Nat) : Int)) (tgt := 51) hx hb (by omega) d_M_reader_46 (by decide) (fun q46 => ?_) (fun q46 => ?_)
    · skip
      exfalso; omega
    · skip
      refine lv_iconst (v := iZ ((0 : Nat) : Int)) hx hb d_M_reader_49 (by decide) ?_
      refine W.eq (g2 := F0 m 50 ls [.int (bI false)]) rfl ?_
      exact z_zret Z hP hS d_M_reader_50 wdM_map (⟨_, rfl, rfl, hM⟩)
  · skip
    replace q9 := of_decide_eq_true q9
    refine lv_iload_n hx hb d_M_reader_12 rfl (lv_at hl 2 rfl) ?_
    refine lv_iconst (v := iZ ((2 : Nat) : Int)) hx hb d_M_reader_13 (by decide) ?_
    refine z_callSR (As := [.int (iZ (b)), .int (iZ ((2 : Nat) : Int))]) (rest := [.ref (ad 19)]) zTB Z (k_M_isIn (a := b) (b := ((2 : Nat) : Int)) (by omega)) ⟨ml_M_59, sm_M_isIn, ini_M, co_M_isIn⟩ zd_M_isIn ⟨Nat.le_of_ble_eq_true rfl, Nat.le_of_ble_eq_true rfl⟩ hP hK hl.1 rfl (Nat.le_of_ble_eq_true rfl) d_M_reader_14 ⟨Nat.zero_le _, Nat.zero_le _⟩ ?_
    refine W.eq (g2 := F0 m 17 ls [.int (bI (decide (0 ≤ b ∧ b < ((2 : Nat) : Int)))), .ref (ad 19)]) rfl ?_
    refine z_if_neB (b := decide (0 ≤ b ∧ b < ((2 : Nat) : Int))) (tgt := 24) hx hb d_M_reader_17 (by decide) (fun q17 => ?_) (fun q17 => ?_)
    · skip
      replace q17 := of_decide_eq_true q17
      refine lv_iload_n hx hb d_M_reader_24 rfl (lv_at hl 3 rfl) ?_
      refine z_if_lt (a := c9) (tgt := 34) hx hb (by omega) d_M_reader_25 (by decide) (fun q25 => ?_) (fun q25 => ?_)
      · skip
        exfalso; omega
      · skip
        refine lv_iload_n hx hb d_M_reader_28 rfl (lv_at hl 3 rfl) ?_
        refine lv_ldc (v := iZ ((100000 : Nat) : Int)) hx hb hown (hts _ ck9_M_97) d_M_reader_29 ?_
        refine z_icmp_le (a := c9) (b := ((100000 : Nat) : Int)) (tgt := 38) hx hb (by omega) d_M_reader_31 (by decide) (fun q31 => ?_) (fun q31 => ?_)
        · skip
          exfalso; omega
        · skip
          exfalso; omega
    · skip
      replace q17 := of_decide_eq_false q17
      refine lv_iconst (v := iZ ((1 : Nat) : Int)) hx hb d_M_reader_20 (by decide) ?_
      refine lv_goto (tgt := 39) hx hb d_M_reader_21 (by decide) ?_
      refine va_put (D := D) (ci := 5) (v := .int (iZ ((1 : Nat) : Int))) (ty := .int) (C := n_M) (T := f_M) (N := 17) hx hb hts in_M ty_M tyo_M nm_M hown hK hP hD hS 19 rfl rfl 0 (by decide) (hts _ fl_M_55) (fun _ h9 => h9) rfl (by decide +kernel) rfl rfl (Nat.le_of_ble_eq_true rfl) d_M_reader_39 (fun H locs hP hD hS => ?_)
      have hP : va_P D classes (wdC ad cI cZ cL J0 rd0 pr0 G0 K0 (wdM ad cI cZ cL J rd pr (1, M.2) ov)) H := hP
      have hD : va_D A (wdC ad cI cZ cL J0 rd0 pr0 G0 K0 (wdM ad cI cZ cL J rd pr (1, M.2) ov)) := hD
      refine lv_aload_n hx hb d_M_reader_42 rfl (lv_at hl 0 rfl) ?_
      refine va_get (D := D) (ci := 5) (v := .int (iZ ((1 : Nat) : Int))) (C := n_M) (T := f_M) (N := 17) hx hb hts in_M hown hK hP 19 rfl rfl 0 (by decide) (hts _ fl_M_55) (fun _ h9 => h9) rfl d_M_reader_43 ?_
      refine z_if_le (a := ((1 : Nat) : Int)) (tgt := 51) hx hb (by omega) d_M_reader_46 (by decide) (fun q46 => ?_) (fun q46 => ?_)
      · skip
        exfalso; omega
      · skip
        refine lv_iconst (v := iZ ((0 : Nat) : Int)) hx hb d_M_reader_49 (by decide) ?_
        refine W.eq (g2 := F0 m 50 ls [.int (bI false)]) rfl ?_
        exact z_zret Z hP hS d_M_reader_50 wdM_map (⟨_, rfl, rfl, hM⟩)

set_option maxHeartbeats 4000000 in
set_option maxRecDepth 100000 in
theorem k_M_readerx2 {l : Launch} {D : va_G} {ad : Nat → Nat} {cI cZ cL : ClassId} {J J0 : SJ} {rd rd0 : Nat → Int} {pr pr0 : Nat → Nat} {G0 : SH} {K0 : SK} {M : SM} {ov : Nat → Int64} (hI : JI J) (hM : MJ J M) {h rr : Nat} {c9 : Int} (hh : h < jn J) (hrr : rr < 2) (h2 : z32 c9 ∧ (c9 < 0 ∨ 100000 < c9)) : zMi l TB D classes (tysW cI cZ cL) y_M_reader w_M_reader 2 43 [.ref (ad 19), .int (iZ ((h : Nat) : Int)), .int (iZ ((rr : Nat) : Int)), .int (iZ (c9))] (wdC ad cI cZ cL J0 rd0 pr0 G0 K0 (wdM ad cI cZ cL J rd pr M ov)) (fun r w => ∃ M1 : SM, w = wdC ad cI cZ cL J0 rd0 pr0 G0 K0 (wdM ad cI cZ cL J rd pr M1 ov) ∧ M1.1 = 2 ∧ MJ J M1) := by
  refine z_of (Qc := fun A => va_Qi (fun r w => ∃ M1 : SM, w = wdC ad cI cZ cL J0 rd0 pr0 G0 K0 (wdM ad cI cZ cL J rd pr M1 ov) ∧ M1.1 = 2 ∧ MJ J M1) (zB9 D classes (wdC ad cI cZ cL J0 rd0 pr0 G0 K0 (wdM ad cI cZ cL J rd pr M ov))) A) (by decide) (Nat.le_of_ble_eq_true rfl) ?_
  intro p e s m below meth c A ls Z hP hK hD hS hA hl
  obtain ⟨hx, hb, hr, hml, hown, hts, hE, hlocks⟩ := id Z
  have hl : lv_has ls 4 [(0, .ref (ad 19)), (1, .int (iZ ((h : Nat) : Int))), (2, .int (iZ ((rr : Nat) : Int))), (3, .int (iZ (c9)))] := hl
  obtain ⟨hn32, hk2, hpr, hct⟩ := id hI
  suffices K9 : ∀ (H : Heap) (locs : List Loc) (ls : Array Slot), va_P D classes (wdC ad cI cZ cL J0 rd0 pr0 G0 K0 (wdM ad cI cZ cL J rd pr M ov)) H → va_D A (wdC ad cI cZ cL J0 rd0 pr0 G0 K0 (wdM ad cI cZ cL J rd pr M ov)) → va_S A s.heap H locs → lv_has ls 4 [(0, .ref (ad 19)), (1, .int (iZ ((h : Nat) : Int))), (2, .int (iZ ((rr : Nat) : Int))), (3, .int (iZ (c9)))] → W p l e (zRm 2 43) s m ([.ref (ad 19), .int (iZ ((h : Nat) : Int)), .int (iZ ((rr : Nat) : Int)), .int (iZ (c9))] : List Value).toArray below meth c H locs 0 0 (MQ below (va_Qi (fun r w => ∃ M1 : SM, w = wdC ad cI cZ cL J0 rd0 pr0 G0 K0 (wdM ad cI cZ cL J rd pr M1 ov) ∧ M1.1 = 2 ∧ MJ J M1) (zB9 D classes (wdC ad cI cZ cL J0 rd0 pr0 G0 K0 (wdM ad cI cZ cL J rd pr M ov))) A) ([.ref (ad 19), .int (iZ ((h : Nat) : Int)), .int (iZ ((rr : Nat) : Int)), .int (iZ (c9))] : List Value).toArray s 0 0 A) (F0 m 0 ls []) from K9 s.heap [] ls hP hD hS hl
  clear hP hD hS hl
  intro H locs ls hP hD hS hl
  refine lv_aload_n hx hb d_M_reader_0 rfl (lv_at hl 0 rfl) ?_
  refine lv_iload_n hx hb d_M_reader_1 rfl (lv_at hl 1 rfl) ?_
  refine lv_aload_n hx hb d_M_reader_2 rfl (lv_at hl 0 rfl) ?_
  refine va_get (D := D) (ci := 5) (v := .int (iZ ((jn J : Nat) : Int))) (C := n_M) (T := f_M) (N := 17) hx hb hts in_M hown hK hP 19 rfl rfl 2 (by decide) (hts _ fl_M_63) (fun _ h9 => h9) rfl d_M_reader_3 ?_
  refine z_callSR (As := [.int (iZ ((h : Nat) : Int)), .int (iZ ((jn J : Nat) : Int))]) (rest := [.ref (ad 19)]) zTB Z (k_M_isIn (a := ((h : Nat) : Int)) (b := ((jn J : Nat) : Int)) (by omega)) ⟨ml_M_59, sm_M_isIn, ini_M, co_M_isIn⟩ zd_M_isIn ⟨Nat.le_of_ble_eq_true rfl, Nat.le_of_ble_eq_true rfl⟩ hP hK hl.1 rfl (Nat.le_of_ble_eq_true rfl) d_M_reader_6 ⟨Nat.zero_le _, Nat.zero_le _⟩ ?_
  refine W.eq (g2 := F0 m 9 ls [.int (bI (decide (0 ≤ ((h : Nat) : Int) ∧ ((h : Nat) : Int) < ((jn J : Nat) : Int)))), .ref (ad 19)]) rfl ?_
  refine z_if_eqB (b := decide (0 ≤ ((h : Nat) : Int) ∧ ((h : Nat) : Int) < ((jn J : Nat) : Int))) (tgt := 20) hx hb d_M_reader_9 (by decide) (fun q9 => ?_) (fun q9 => ?_)
  · skip
    replace q9 := of_decide_eq_false q9
    exfalso; omega
  · skip
    replace q9 := of_decide_eq_true q9
    refine lv_iload_n hx hb d_M_reader_12 rfl (lv_at hl 2 rfl) ?_
    refine lv_iconst (v := iZ ((2 : Nat) : Int)) hx hb d_M_reader_13 (by decide) ?_
    refine z_callSR (As := [.int (iZ ((rr : Nat) : Int)), .int (iZ ((2 : Nat) : Int))]) (rest := [.ref (ad 19)]) zTB Z (k_M_isIn (a := ((rr : Nat) : Int)) (b := ((2 : Nat) : Int)) (by omega)) ⟨ml_M_59, sm_M_isIn, ini_M, co_M_isIn⟩ zd_M_isIn ⟨Nat.le_of_ble_eq_true rfl, Nat.le_of_ble_eq_true rfl⟩ hP hK hl.1 rfl (Nat.le_of_ble_eq_true rfl) d_M_reader_14 ⟨Nat.zero_le _, Nat.zero_le _⟩ ?_
    refine W.eq (g2 := F0 m 17 ls [.int (bI (decide (0 ≤ ((rr : Nat) : Int) ∧ ((rr : Nat) : Int) < ((2 : Nat) : Int)))), .ref (ad 19)]) rfl ?_
    refine z_if_neB (b := decide (0 ≤ ((rr : Nat) : Int) ∧ ((rr : Nat) : Int) < ((2 : Nat) : Int))) (tgt := 24) hx hb d_M_reader_17 (by decide) (fun q17 => ?_) (fun q17 => ?_)
    · skip
      replace q17 := of_decide_eq_true q17
      refine lv_iload_n hx hb d_M_reader_24 rfl (lv_at hl 3 rfl) ?_
      refine z_if_lt (a := c9) (tgt := 34) hx hb (by omega) d_M_reader_25 (by decide) (fun q25 => ?_) (fun q25 => ?_)
      · skip
        refine lv_iconst (v := iZ ((2 : Nat) : Int)) hx hb d_M_reader_34 (by decide) ?_
        refine lv_goto (tgt := 39) hx hb d_M_reader_35 (by decide) ?_
        refine va_put (D := D) (ci := 5) (v := .int (iZ ((2 : Nat) : Int))) (ty := .int) (C := n_M) (T := f_M) (N := 17) hx hb hts in_M ty_M tyo_M nm_M hown hK hP hD hS 19 rfl rfl 0 (by decide) (hts _ fl_M_55) (fun _ h9 => h9) rfl (by decide +kernel) rfl rfl (Nat.le_of_ble_eq_true rfl) d_M_reader_39 (fun H locs hP hD hS => ?_)
        have hP : va_P D classes (wdC ad cI cZ cL J0 rd0 pr0 G0 K0 (wdM ad cI cZ cL J rd pr (2, M.2) ov)) H := hP
        have hD : va_D A (wdC ad cI cZ cL J0 rd0 pr0 G0 K0 (wdM ad cI cZ cL J rd pr (2, M.2) ov)) := hD
        refine lv_aload_n hx hb d_M_reader_42 rfl (lv_at hl 0 rfl) ?_
        refine va_get (D := D) (ci := 5) (v := .int (iZ ((2 : Nat) : Int))) (C := n_M) (T := f_M) (N := 17) hx hb hts in_M hown hK hP 19 rfl rfl 0 (by decide) (hts _ fl_M_55) (fun _ h9 => h9) rfl d_M_reader_43 ?_
        refine z_if_le (a := ((2 : Nat) : Int)) (tgt := 51) hx hb (by omega) d_M_reader_46 (by decide) (fun q46 => ?_) (fun q46 => ?_)
        · skip
          exfalso; omega
        · skip
          refine lv_iconst (v := iZ ((0 : Nat) : Int)) hx hb d_M_reader_49 (by decide) ?_
          refine W.eq (g2 := F0 m 50 ls [.int (bI false)]) rfl ?_
          exact z_zret Z hP hS d_M_reader_50 wdM_map (⟨_, rfl, rfl, hM⟩)
      · skip
        refine lv_iload_n hx hb d_M_reader_28 rfl (lv_at hl 3 rfl) ?_
        refine lv_ldc (v := iZ ((100000 : Nat) : Int)) hx hb hown (hts _ ck9_M_97) d_M_reader_29 ?_
        refine z_icmp_le (a := c9) (b := ((100000 : Nat) : Int)) (tgt := 38) hx hb (by omega) d_M_reader_31 (by decide) (fun q31 => ?_) (fun q31 => ?_)
        · skip
          exfalso; omega
        · skip
          refine lv_iconst (v := iZ ((2 : Nat) : Int)) hx hb d_M_reader_34 (by decide) ?_
          refine lv_goto (tgt := 39) hx hb d_M_reader_35 (by decide) ?_
          refine va_put (D := D) (ci := 5) (v := .int (iZ ((2 : Nat) : Int))) (ty := .int) (C := n_M) (T := f_M) (N := 17) hx hb hts in_M ty_M tyo_M nm_M hown hK hP hD hS 19 rfl rfl 0 (by decide) (hts _ fl_M_55) (fun _ h9 => h9) rfl (by decide +kernel) rfl rfl (Nat.le_of_ble_eq_true rfl) d_M_reader_39 (fun H locs hP hD hS => ?_)
          have hP : va_P D classes (wdC ad cI cZ cL J0 rd0 pr0 G0 K0 (wdM ad cI cZ cL J rd pr (2, M.2) ov)) H := hP
          have hD : va_D A (wdC ad cI cZ cL J0 rd0 pr0 G0 K0 (wdM ad cI cZ cL J rd pr (2, M.2) ov)) := hD
          refine lv_aload_n hx hb d_M_reader_42 rfl (lv_at hl 0 rfl) ?_
          refine va_get (D := D) (ci := 5) (v := .int (iZ ((2 : Nat) : Int))) (C := n_M) (T := f_M) (N := 17) hx hb hts in_M hown hK hP 19 rfl rfl 0 (by decide) (hts _ fl_M_55) (fun _ h9 => h9) rfl d_M_reader_43 ?_
          refine z_if_le (a := ((2 : Nat) : Int)) (tgt := 51) hx hb (by omega) d_M_reader_46 (by decide) (fun q46 => ?_) (fun q46 => ?_)
          · skip
            exfalso; omega
          · skip
            refine lv_iconst (v := iZ ((0 : Nat) : Int)) hx hb d_M_reader_49 (by decide) ?_
            refine W.eq (g2 := F0 m 50 ls [.int (bI false)]) rfl ?_
            exact z_zret Z hP hS d_M_reader_50 wdM_map (⟨_, rfl, rfl, hM⟩)
    · skip
      replace q17 := of_decide_eq_false q17
      exfalso; omega

set_option maxHeartbeats 4000000 in
set_option maxRecDepth 100000 in
theorem k_M_reader0 {l : Launch} {D : va_G} {ad : Nat → Nat} {cI cZ cL : ClassId} {J J0 : SJ} {rd rd0 : Nat → Int} {pr pr0 : Nat → Nat} {G0 : SH} {K0 : SK} {M : SM} {ov : Nat → Int64} (hI : JI J) (hM : MJ J M) {h rr v : Nat} (hR : RI rd) (hh : h < jn J) (hrr : rr < 2) (hv : v ≤ 100000) : zMi l TB D classes (tysW cI cZ cL) y_M_reader w_M_reader 2 43 [.ref (ad 19), .int (iZ ((h : Nat) : Int)), .int (iZ ((rr : Nat) : Int)), .int (iZ ((v : Nat) : Int))] (wdC ad cI cZ cL J0 rd0 pr0 G0 K0 (wdM ad cI cZ cL J rd pr M ov)) (fun r w => ∃ M1 : SM, r = bI (sUn (zu rd (h * 2 + rr) ((v : Nat) : Int)) h) ∧ w = wdC ad cI cZ cL J0 rd0 pr0 G0 K0 (wdM ad cI cZ cL J (zu rd (h * 2 + rr) ((v : Nat) : Int)) pr M1 ov) ∧ M1.1 = 0 ∧ MJ J M1) := by
  refine z_of (Qc := fun A => va_Qi (fun r w => ∃ M1 : SM, r = bI (sUn (zu rd (h * 2 + rr) ((v : Nat) : Int)) h) ∧ w = wdC ad cI cZ cL J0 rd0 pr0 G0 K0 (wdM ad cI cZ cL J (zu rd (h * 2 + rr) ((v : Nat) : Int)) pr M1 ov) ∧ M1.1 = 0 ∧ MJ J M1) (zB9 D classes (wdC ad cI cZ cL J0 rd0 pr0 G0 K0 (wdM ad cI cZ cL J rd pr M ov))) A) (by decide) (Nat.le_of_ble_eq_true rfl) ?_
  intro p e s m below meth c A ls Z hP hK hD hS hA hl
  obtain ⟨hx, hb, hr, hml, hown, hts, hE, hlocks⟩ := id Z
  have hl : lv_has ls 4 [(0, .ref (ad 19)), (1, .int (iZ ((h : Nat) : Int))), (2, .int (iZ ((rr : Nat) : Int))), (3, .int (iZ ((v : Nat) : Int)))] := hl
  obtain ⟨hn32, hk2, hpr, hct⟩ := id hI
  replace hR : RI (zu rd (h * 2 + rr) ((v : Nat) : Int)) := RI_u hR (by omega)
  suffices K9 : ∀ (H : Heap) (locs : List Loc) (ls : Array Slot), va_P D classes (wdC ad cI cZ cL J0 rd0 pr0 G0 K0 (wdM ad cI cZ cL J rd pr M ov)) H → va_D A (wdC ad cI cZ cL J0 rd0 pr0 G0 K0 (wdM ad cI cZ cL J rd pr M ov)) → va_S A s.heap H locs → lv_has ls 4 [(0, .ref (ad 19)), (1, .int (iZ ((h : Nat) : Int))), (2, .int (iZ ((rr : Nat) : Int))), (3, .int (iZ ((v : Nat) : Int)))] → W p l e (zRm 2 43) s m ([.ref (ad 19), .int (iZ ((h : Nat) : Int)), .int (iZ ((rr : Nat) : Int)), .int (iZ ((v : Nat) : Int))] : List Value).toArray below meth c H locs 0 0 (MQ below (va_Qi (fun r w => ∃ M1 : SM, r = bI (sUn (zu rd (h * 2 + rr) ((v : Nat) : Int)) h) ∧ w = wdC ad cI cZ cL J0 rd0 pr0 G0 K0 (wdM ad cI cZ cL J (zu rd (h * 2 + rr) ((v : Nat) : Int)) pr M1 ov) ∧ M1.1 = 0 ∧ MJ J M1) (zB9 D classes (wdC ad cI cZ cL J0 rd0 pr0 G0 K0 (wdM ad cI cZ cL J rd pr M ov))) A) ([.ref (ad 19), .int (iZ ((h : Nat) : Int)), .int (iZ ((rr : Nat) : Int)), .int (iZ ((v : Nat) : Int))] : List Value).toArray s 0 0 A) (F0 m 0 ls []) from K9 s.heap [] ls hP hD hS hl
  clear hP hD hS hl
  intro H locs ls hP hD hS hl
  refine lv_aload_n hx hb d_M_reader_0 rfl (lv_at hl 0 rfl) ?_
  refine lv_iload_n hx hb d_M_reader_1 rfl (lv_at hl 1 rfl) ?_
  refine lv_aload_n hx hb d_M_reader_2 rfl (lv_at hl 0 rfl) ?_
  refine va_get (D := D) (ci := 5) (v := .int (iZ ((jn J : Nat) : Int))) (C := n_M) (T := f_M) (N := 17) hx hb hts in_M hown hK hP 19 rfl rfl 2 (by decide) (hts _ fl_M_63) (fun _ h9 => h9) rfl d_M_reader_3 ?_
  refine z_callSR (As := [.int (iZ ((h : Nat) : Int)), .int (iZ ((jn J : Nat) : Int))]) (rest := [.ref (ad 19)]) zTB Z (k_M_isIn (a := ((h : Nat) : Int)) (b := ((jn J : Nat) : Int)) (by omega)) ⟨ml_M_59, sm_M_isIn, ini_M, co_M_isIn⟩ zd_M_isIn ⟨Nat.le_of_ble_eq_true rfl, Nat.le_of_ble_eq_true rfl⟩ hP hK hl.1 rfl (Nat.le_of_ble_eq_true rfl) d_M_reader_6 ⟨Nat.zero_le _, Nat.zero_le _⟩ ?_
  refine W.eq (g2 := F0 m 9 ls [.int (bI (decide (0 ≤ ((h : Nat) : Int) ∧ ((h : Nat) : Int) < ((jn J : Nat) : Int)))), .ref (ad 19)]) rfl ?_
  refine z_if_eqB (b := decide (0 ≤ ((h : Nat) : Int) ∧ ((h : Nat) : Int) < ((jn J : Nat) : Int))) (tgt := 20) hx hb d_M_reader_9 (by decide) (fun q9 => ?_) (fun q9 => ?_)
  · skip
    replace q9 := of_decide_eq_false q9
    exfalso; omega
  · skip
    replace q9 := of_decide_eq_true q9
    refine lv_iload_n hx hb d_M_reader_12 rfl (lv_at hl 2 rfl) ?_
    refine lv_iconst (v := iZ ((2 : Nat) : Int)) hx hb d_M_reader_13 (by decide) ?_
    refine z_callSR (As := [.int (iZ ((rr : Nat) : Int)), .int (iZ ((2 : Nat) : Int))]) (rest := [.ref (ad 19)]) zTB Z (k_M_isIn (a := ((rr : Nat) : Int)) (b := ((2 : Nat) : Int)) (by omega)) ⟨ml_M_59, sm_M_isIn, ini_M, co_M_isIn⟩ zd_M_isIn ⟨Nat.le_of_ble_eq_true rfl, Nat.le_of_ble_eq_true rfl⟩ hP hK hl.1 rfl (Nat.le_of_ble_eq_true rfl) d_M_reader_14 ⟨Nat.zero_le _, Nat.zero_le _⟩ ?_
    refine W.eq (g2 := F0 m 17 ls [.int (bI (decide (0 ≤ ((rr : Nat) : Int) ∧ ((rr : Nat) : Int) < ((2 : Nat) : Int)))), .ref (ad 19)]) rfl ?_
    refine z_if_neB (b := decide (0 ≤ ((rr : Nat) : Int) ∧ ((rr : Nat) : Int) < ((2 : Nat) : Int))) (tgt := 24) hx hb d_M_reader_17 (by decide) (fun q17 => ?_) (fun q17 => ?_)
    · skip
      replace q17 := of_decide_eq_true q17
      refine lv_iload_n hx hb d_M_reader_24 rfl (lv_at hl 3 rfl) ?_
      refine z_if_lt (a := ((v : Nat) : Int)) (tgt := 34) hx hb (by omega) d_M_reader_25 (by decide) (fun q25 => ?_) (fun q25 => ?_)
      · skip
        exfalso; omega
      · skip
        refine lv_iload_n hx hb d_M_reader_28 rfl (lv_at hl 3 rfl) ?_
        refine lv_ldc (v := iZ ((100000 : Nat) : Int)) hx hb hown (hts _ ck9_M_97) d_M_reader_29 ?_
        refine z_icmp_le (a := ((v : Nat) : Int)) (b := ((100000 : Nat) : Int)) (tgt := 38) hx hb (by omega) d_M_reader_31 (by decide) (fun q31 => ?_) (fun q31 => ?_)
        · skip
          refine lv_iconst (v := iZ ((0 : Nat) : Int)) hx hb d_M_reader_38 (by decide) ?_
          refine va_put (D := D) (ci := 5) (v := .int (iZ ((0 : Nat) : Int))) (ty := .int) (C := n_M) (T := f_M) (N := 17) hx hb hts in_M ty_M tyo_M nm_M hown hK hP hD hS 19 rfl rfl 0 (by decide) (hts _ fl_M_55) (fun _ h9 => h9) rfl (by decide +kernel) rfl rfl (Nat.le_of_ble_eq_true rfl) d_M_reader_39 (fun H locs hP hD hS => ?_)
          have hP : va_P D classes (wdC ad cI cZ cL J0 rd0 pr0 G0 K0 (wdM ad cI cZ cL J rd pr (0, M.2) ov)) H := hP
          have hD : va_D A (wdC ad cI cZ cL J0 rd0 pr0 G0 K0 (wdM ad cI cZ cL J rd pr (0, M.2) ov)) := hD
          refine lv_aload_n hx hb d_M_reader_42 rfl (lv_at hl 0 rfl) ?_
          refine va_get (D := D) (ci := 5) (v := .int (iZ ((0 : Nat) : Int))) (C := n_M) (T := f_M) (N := 17) hx hb hts in_M hown hK hP 19 rfl rfl 0 (by decide) (hts _ fl_M_55) (fun _ h9 => h9) rfl d_M_reader_43 ?_
          refine z_if_le (a := ((0 : Nat) : Int)) (tgt := 51) hx hb (by omega) d_M_reader_46 (by decide) (fun q46 => ?_) (fun q46 => ?_)
          · skip
            refine lv_aload_n hx hb d_M_reader_51 rfl (lv_at hl 0 rfl) ?_
            refine va_get (D := D) (ci := 5) (v := .ref (ad 28)) (C := n_M) (T := f_M) (N := 17) hx hb hts in_M hown hK hP 19 rfl rfl 12 (by decide) (hts _ fl_M_35) (fun _ h9 => h9) rfl d_M_reader_52 ?_
            refine lv_iconst (v := iZ ((2 : Nat) : Int)) hx hb d_M_reader_55 (by decide) ?_
            refine lv_iload_n hx hb d_M_reader_56 rfl (lv_at hl 1 rfl) ?_
            refine z_imulN (u := 2) (v := h) hx hb d_M_reader_57 ?_
            refine lv_iload_n hx hb d_M_reader_58 rfl (lv_at hl 2 rfl) ?_
            refine z_iaddN (u := 2 * h) (v := rr) hx hb d_M_reader_59 ?_
            refine lv_iload_n hx hb d_M_reader_60 rfl (lv_at hl 3 rfl) ?_
            refine z_iast (f := rd) (v := ((v : Nat) : Int)) hx hb hK hP hD hS 28 0 rfl rfl (h * 2 + rr) (by omega) d_M_reader_61 (fun H locs hP hD hS => ?_)
            have hP : va_P D classes (wdC ad cI cZ cL J0 rd0 pr0 G0 K0 (wdM ad cI cZ cL J (zu rd (h * 2 + rr) ((v : Nat) : Int)) pr (0, M.2) ov)) H := hP
            have hD : va_D A (wdC ad cI cZ cL J0 rd0 pr0 G0 K0 (wdM ad cI cZ cL J (zu rd (h * 2 + rr) ((v : Nat) : Int)) pr (0, M.2) ov)) := hD
            refine lv_aload_n hx hb d_M_reader_62 rfl (lv_at hl 0 rfl) ?_
            refine lv_iload_n hx hb d_M_reader_63 rfl (lv_at hl 1 rfl) ?_
            refine z_callVR (As := [.int (iZ ((h : Nat) : Int))]) (rest := []) zTB Z (k_M_areUnlike (rd := zu rd (h * 2 + rr) ((v : Nat) : Int)) hR (h := h) (by omega)) ⟨ml_M_112, im_M_areUnlike, se_M_areUnlike, ini_M, co_M_areUnlike⟩ zd_M_areUnlike ⟨Nat.le_of_ble_eq_true rfl, Nat.le_of_ble_eq_true rfl⟩ hP hK (ci := 5) (q0 := 19) rfl rfl rfl hl.1 rfl (Nat.le_of_ble_eq_true rfl) d_M_reader_64 ⟨Nat.zero_le _, Nat.zero_le _⟩ ?_
            refine W.eq (g2 := F0 m 67 ls [.int (bI (sUn (zu rd (h * 2 + rr) ((v : Nat) : Int)) h))]) rfl ?_
            exact z_zret Z hP hS d_M_reader_67 wdM_map (⟨_, rfl, rfl, rfl, hM⟩)
          · skip
            exfalso; omega
        · skip
          exfalso; omega
    · skip
      replace q17 := of_decide_eq_false q17
      exfalso; omega

set_option maxHeartbeats 4000000 in
set_option maxRecDepth 100000 in
theorem k_M_unlikex1 {l : Launch} {D : va_G} {ad : Nat → Nat} {cI cZ cL : ClassId} {J J0 : SJ} {rd rd0 : Nat → Int} {pr pr0 : Nat → Nat} {G0 : SH} {K0 : SK} {M : SM} {ov : Nat → Int64} (hI : JI J) (hM : MJ J M) {a : Int} (h : z32 a ∧ (a < 0 ∨ ((jn J : Nat) : Int) < a)) : zMi l TB D classes (tysW cI cZ cL) y_M_unlike w_M_unlike 2 43 [.ref (ad 19), .int (iZ (a))] (wdC ad cI cZ cL J0 rd0 pr0 G0 K0 (wdM ad cI cZ cL J rd pr M ov)) (fun r w => ∃ M1 : SM, w = wdC ad cI cZ cL J0 rd0 pr0 G0 K0 (wdM ad cI cZ cL J rd pr M1 ov) ∧ M1.1 = 1 ∧ MJ J M1) := by
  refine z_of (Qc := fun A => va_Qi (fun r w => ∃ M1 : SM, w = wdC ad cI cZ cL J0 rd0 pr0 G0 K0 (wdM ad cI cZ cL J rd pr M1 ov) ∧ M1.1 = 1 ∧ MJ J M1) (zB9 D classes (wdC ad cI cZ cL J0 rd0 pr0 G0 K0 (wdM ad cI cZ cL J rd pr M ov))) A) (by decide) (Nat.le_of_ble_eq_true rfl) ?_
  intro p e s m below meth c A ls Z hP hK hD hS hA hl
  obtain ⟨hx, hb, hr, hml, hown, hts, hE, hlocks⟩ := id Z
  have hl : lv_has ls 3 [(0, .ref (ad 19)), (1, .int (iZ (a)))] := hl
  obtain ⟨hn32, hk2, hpr, hct⟩ := id hI
  suffices K9 : ∀ (H : Heap) (locs : List Loc) (ls : Array Slot), va_P D classes (wdC ad cI cZ cL J0 rd0 pr0 G0 K0 (wdM ad cI cZ cL J rd pr M ov)) H → va_D A (wdC ad cI cZ cL J0 rd0 pr0 G0 K0 (wdM ad cI cZ cL J rd pr M ov)) → va_S A s.heap H locs → lv_has ls 3 [(0, .ref (ad 19)), (1, .int (iZ (a)))] → W p l e (zRm 2 43) s m ([.ref (ad 19), .int (iZ (a))] : List Value).toArray below meth c H locs 0 0 (MQ below (va_Qi (fun r w => ∃ M1 : SM, w = wdC ad cI cZ cL J0 rd0 pr0 G0 K0 (wdM ad cI cZ cL J rd pr M1 ov) ∧ M1.1 = 1 ∧ MJ J M1) (zB9 D classes (wdC ad cI cZ cL J0 rd0 pr0 G0 K0 (wdM ad cI cZ cL J rd pr M ov))) A) ([.ref (ad 19), .int (iZ (a))] : List Value).toArray s 0 0 A) (F0 m 0 ls []) from K9 s.heap [] ls hP hD hS hl
  clear hP hD hS hl
  intro H locs ls hP hD hS hl
  refine lv_aload_n hx hb d_M_unlike_0 rfl (lv_at hl 0 rfl) ?_
  refine lv_iload_n hx hb d_M_unlike_1 rfl (lv_at hl 1 rfl) ?_
  refine z_if_lt (a := a) (tgt := 13) hx hb (by omega) d_M_unlike_2 (by decide) (fun q2 => ?_) (fun q2 => ?_)
  · skip
    refine lv_iconst (v := iZ ((1 : Nat) : Int)) hx hb d_M_unlike_13 (by decide) ?_
    refine lv_goto (tgt := 18) hx hb d_M_unlike_14 (by decide) ?_
    refine va_put (D := D) (ci := 5) (v := .int (iZ ((1 : Nat) : Int))) (ty := .int) (C := n_M) (T := f_M) (N := 17) hx hb hts in_M ty_M tyo_M nm_M hown hK hP hD hS 19 rfl rfl 0 (by decide) (hts _ fl_M_55) (fun _ h9 => h9) rfl (by decide +kernel) rfl rfl (Nat.le_of_ble_eq_true rfl) d_M_unlike_18 (fun H locs hP hD hS => ?_)
    have hP : va_P D classes (wdC ad cI cZ cL J0 rd0 pr0 G0 K0 (wdM ad cI cZ cL J rd pr (1, M.2) ov)) H := hP
    have hD : va_D A (wdC ad cI cZ cL J0 rd0 pr0 G0 K0 (wdM ad cI cZ cL J rd pr (1, M.2) ov)) := hD
    refine lv_iload_n hx hb d_M_unlike_21 rfl (lv_at hl 1 rfl) ?_
    refine lv_istore_n (lv' := [(2, .int (iZ (a))), (0, .ref (ad 19)), (1, .int (iZ (a)))]) hx hb d_M_unlike_22 rfl hl (by decide) rfl (fun ls hl => ?_)
    refine lv_iload_n hx hb d_M_unlike_23 rfl (lv_at hl 0 rfl) ?_
    refine lv_aload_n hx hb d_M_unlike_24 rfl (lv_at hl 1 rfl) ?_
    refine va_get (D := D) (ci := 5) (v := .int (iZ ((jn J : Nat) : Int))) (C := n_M) (T := f_M) (N := 17) hx hb hts in_M hown hK hP 19 rfl rfl 2 (by decide) (hts _ fl_M_63) (fun _ h9 => h9) rfl d_M_unlike_25 ?_
    refine z_icmp_ge (a := a) (b := ((jn J : Nat) : Int)) (tgt := 54) hx hb (by omega) d_M_unlike_28 (by decide) (fun q28 => ?_) (fun q28 => ?_)
    · skip
      refine lv_aload_n hx hb d_M_unlike_54 rfl (lv_at hl 1 rfl) ?_
      refine va_get (D := D) (ci := 5) (v := .int (iZ ((1 : Nat) : Int))) (C := n_M) (T := f_M) (N := 17) hx hb hts in_M hown hK hP 19 rfl rfl 0 (by decide) (hts _ fl_M_55) (fun _ h9 => h9) rfl d_M_unlike_55 ?_
      refine z_if_le (a := ((1 : Nat) : Int)) (tgt := 65) hx hb (by omega) d_M_unlike_58 (by decide) (fun q58 => ?_) (fun q58 => ?_)
      · skip
        exfalso; omega
      · skip
        refine lv_iconst (v := iZ ((0 : Nat) : Int)) hx hb d_M_unlike_61 (by decide) ?_
        refine lv_goto (tgt := 66) hx hb d_M_unlike_62 (by decide) ?_
        exact z_iret Z hP hS d_M_unlike_66 wdM_map (⟨_, rfl, rfl, hM⟩)
    · skip
      refine lv_aload_n hx hb d_M_unlike_31 rfl (lv_at hl 1 rfl) ?_
      refine va_get (D := D) (ci := 5) (v := .int (iZ ((1 : Nat) : Int))) (C := n_M) (T := f_M) (N := 17) hx hb hts in_M hown hK hP 19 rfl rfl 0 (by decide) (hts _ fl_M_55) (fun _ h9 => h9) rfl d_M_unlike_32 ?_
      refine z_if_ne (a := ((1 : Nat) : Int)) (tgt := 54) hx hb (by omega) d_M_unlike_35 (by decide) (fun q35 => ?_) (fun q35 => ?_)
      · skip
        refine lv_aload_n hx hb d_M_unlike_54 rfl (lv_at hl 1 rfl) ?_
        refine va_get (D := D) (ci := 5) (v := .int (iZ ((1 : Nat) : Int))) (C := n_M) (T := f_M) (N := 17) hx hb hts in_M hown hK hP 19 rfl rfl 0 (by decide) (hts _ fl_M_55) (fun _ h9 => h9) rfl d_M_unlike_55 ?_
        refine z_if_le (a := ((1 : Nat) : Int)) (tgt := 65) hx hb (by omega) d_M_unlike_58 (by decide) (fun q58 => ?_) (fun q58 => ?_)
        · skip
          exfalso; omega
        · skip
          refine lv_iconst (v := iZ ((0 : Nat) : Int)) hx hb d_M_unlike_61 (by decide) ?_
          refine lv_goto (tgt := 66) hx hb d_M_unlike_62 (by decide) ?_
          exact z_iret Z hP hS d_M_unlike_66 wdM_map (⟨_, rfl, rfl, hM⟩)
      · skip
        exfalso; omega
  · skip
    refine lv_iload_n hx hb d_M_unlike_5 rfl (lv_at hl 1 rfl) ?_
    refine lv_aload_n hx hb d_M_unlike_6 rfl (lv_at hl 0 rfl) ?_
    refine va_get (D := D) (ci := 5) (v := .int (iZ ((jn J : Nat) : Int))) (C := n_M) (T := f_M) (N := 17) hx hb hts in_M hown hK hP 19 rfl rfl 2 (by decide) (hts _ fl_M_63) (fun _ h9 => h9) rfl d_M_unlike_7 ?_
    refine z_icmp_le (a := a) (b := ((jn J : Nat) : Int)) (tgt := 17) hx hb (by omega) d_M_unlike_10 (by decide) (fun q10 => ?_) (fun q10 => ?_)
    · skip
      exfalso; omega
    · skip
      refine lv_iconst (v := iZ ((1 : Nat) : Int)) hx hb d_M_unlike_13 (by decide) ?_
      refine lv_goto (tgt := 18) hx hb d_M_unlike_14 (by decide) ?_
      refine va_put (D := D) (ci := 5) (v := .int (iZ ((1 : Nat) : Int))) (ty := .int) (C := n_M) (T := f_M) (N := 17) hx hb hts in_M ty_M tyo_M nm_M hown hK hP hD hS 19 rfl rfl 0 (by decide) (hts _ fl_M_55) (fun _ h9 => h9) rfl (by decide +kernel) rfl rfl (Nat.le_of_ble_eq_true rfl) d_M_unlike_18 (fun H locs hP hD hS => ?_)
      have hP : va_P D classes (wdC ad cI cZ cL J0 rd0 pr0 G0 K0 (wdM ad cI cZ cL J rd pr (1, M.2) ov)) H := hP
      have hD : va_D A (wdC ad cI cZ cL J0 rd0 pr0 G0 K0 (wdM ad cI cZ cL J rd pr (1, M.2) ov)) := hD
      refine lv_iload_n hx hb d_M_unlike_21 rfl (lv_at hl 1 rfl) ?_
      refine lv_istore_n (lv' := [(2, .int (iZ (a))), (0, .ref (ad 19)), (1, .int (iZ (a)))]) hx hb d_M_unlike_22 rfl hl (by decide) rfl (fun ls hl => ?_)
      refine lv_iload_n hx hb d_M_unlike_23 rfl (lv_at hl 0 rfl) ?_
      refine lv_aload_n hx hb d_M_unlike_24 rfl (lv_at hl 1 rfl) ?_
      refine va_get (D := D) (ci := 5) (v := .int (iZ ((jn J : Nat) : Int))) (C := n_M) (T := f_M) (N := 17) hx hb hts in_M hown hK hP 19 rfl rfl 2 (by decide) (hts _ fl_M_63) (fun _ h9 => h9) rfl d_M_unlike_25 ?_
      refine z_icmp_ge (a := a) (b := ((jn J : Nat) : Int)) (tgt := 54) hx hb (by omega) d_M_unlike_28 (by decide) (fun q28 => ?_) (fun q28 => ?_)
      · skip
        refine lv_aload_n hx hb d_M_unlike_54 rfl (lv_at hl 1 rfl) ?_
        refine va_get (D := D) (ci := 5) (v := .int (iZ ((1 : Nat) : Int))) (C := n_M) (T := f_M) (N := 17) hx hb hts in_M hown hK hP 19 rfl rfl 0 (by decide) (hts _ fl_M_55) (fun _ h9 => h9) rfl d_M_unlike_55 ?_
        refine z_if_le (a := ((1 : Nat) : Int)) (tgt := 65) hx hb (by omega) d_M_unlike_58 (by decide) (fun q58 => ?_) (fun q58 => ?_)
        · skip
          exfalso; omega
        · skip
          refine lv_iconst (v := iZ ((0 : Nat) : Int)) hx hb d_M_unlike_61 (by decide) ?_
          refine lv_goto (tgt := 66) hx hb d_M_unlike_62 (by decide) ?_
          exact z_iret Z hP hS d_M_unlike_66 wdM_map (⟨_, rfl, rfl, hM⟩)
      · skip
        refine lv_aload_n hx hb d_M_unlike_31 rfl (lv_at hl 1 rfl) ?_
        refine va_get (D := D) (ci := 5) (v := .int (iZ ((1 : Nat) : Int))) (C := n_M) (T := f_M) (N := 17) hx hb hts in_M hown hK hP 19 rfl rfl 0 (by decide) (hts _ fl_M_55) (fun _ h9 => h9) rfl d_M_unlike_32 ?_
        refine z_if_ne (a := ((1 : Nat) : Int)) (tgt := 54) hx hb (by omega) d_M_unlike_35 (by decide) (fun q35 => ?_) (fun q35 => ?_)
        · skip
          refine lv_aload_n hx hb d_M_unlike_54 rfl (lv_at hl 1 rfl) ?_
          refine va_get (D := D) (ci := 5) (v := .int (iZ ((1 : Nat) : Int))) (C := n_M) (T := f_M) (N := 17) hx hb hts in_M hown hK hP 19 rfl rfl 0 (by decide) (hts _ fl_M_55) (fun _ h9 => h9) rfl d_M_unlike_55 ?_
          refine z_if_le (a := ((1 : Nat) : Int)) (tgt := 65) hx hb (by omega) d_M_unlike_58 (by decide) (fun q58 => ?_) (fun q58 => ?_)
          · skip
            exfalso; omega
          · skip
            refine lv_iconst (v := iZ ((0 : Nat) : Int)) hx hb d_M_unlike_61 (by decide) ?_
            refine lv_goto (tgt := 66) hx hb d_M_unlike_62 (by decide) ?_
            exact z_iret Z hP hS d_M_unlike_66 wdM_map (⟨_, rfl, rfl, hM⟩)
        · skip
          exfalso; omega

set_option maxHeartbeats 4000000 in
set_option maxRecDepth 100000 in
theorem k_M_unlike0 {l : Launch} {D : va_G} {ad : Nat → Nat} {cI cZ cL : ClassId} {J J0 : SJ} {rd rd0 : Nat → Int} {pr pr0 : Nat → Nat} {G0 : SH} {K0 : SK} {M : SM} {ov : Nat → Int64} (hI : JI J) (hM : MJ J M) {fm : Nat} (hR : RI rd) (hf : fm ≤ jn J) : zMi l TB D classes (tysW cI cZ cL) y_M_unlike w_M_unlike 2 43 [.ref (ad 19), .int (iZ ((fm : Nat) : Int))] (wdC ad cI cZ cL J0 rd0 pr0 G0 K0 (wdM ad cI cZ cL J rd pr M ov)) (fun r w => ∃ M1 : SM, r = iZ (sUl rd (jn J - fm) fm) ∧ w = wdC ad cI cZ cL J0 rd0 pr0 G0 K0 (wdM ad cI cZ cL J rd pr M1 ov) ∧ M1.1 = 0 ∧ MJ J M1) := by
  refine z_of (Qc := fun A => va_Qi (fun r w => ∃ M1 : SM, r = iZ (sUl rd (jn J - fm) fm) ∧ w = wdC ad cI cZ cL J0 rd0 pr0 G0 K0 (wdM ad cI cZ cL J rd pr M1 ov) ∧ M1.1 = 0 ∧ MJ J M1) (zB9 D classes (wdC ad cI cZ cL J0 rd0 pr0 G0 K0 (wdM ad cI cZ cL J rd pr M ov))) A) (by decide) (Nat.le_of_ble_eq_true rfl) ?_
  intro p e s m below meth c A ls Z hP hK hD hS hA hl
  obtain ⟨hx, hb, hr, hml, hown, hts, hE, hlocks⟩ := id Z
  have hl : lv_has ls 3 [(0, .ref (ad 19)), (1, .int (iZ ((fm : Nat) : Int)))] := hl
  obtain ⟨hn32, hk2, hpr, hct⟩ := id hI
  suffices K9 : ∀ (H : Heap) (locs : List Loc) (ls : Array Slot), va_P D classes (wdC ad cI cZ cL J0 rd0 pr0 G0 K0 (wdM ad cI cZ cL J rd pr M ov)) H → va_D A (wdC ad cI cZ cL J0 rd0 pr0 G0 K0 (wdM ad cI cZ cL J rd pr M ov)) → va_S A s.heap H locs → lv_has ls 3 [(0, .ref (ad 19)), (1, .int (iZ ((fm : Nat) : Int)))] → W p l e (zRm 2 43) s m ([.ref (ad 19), .int (iZ ((fm : Nat) : Int))] : List Value).toArray below meth c H locs 0 0 (MQ below (va_Qi (fun r w => ∃ M1 : SM, r = iZ (sUl rd (jn J - fm) fm) ∧ w = wdC ad cI cZ cL J0 rd0 pr0 G0 K0 (wdM ad cI cZ cL J rd pr M1 ov) ∧ M1.1 = 0 ∧ MJ J M1) (zB9 D classes (wdC ad cI cZ cL J0 rd0 pr0 G0 K0 (wdM ad cI cZ cL J rd pr M ov))) A) ([.ref (ad 19), .int (iZ ((fm : Nat) : Int))] : List Value).toArray s 0 0 A) (F0 m 0 ls []) from K9 s.heap [] ls hP hD hS hl
  clear hP hD hS hl
  intro H locs ls hP hD hS hl
  refine lv_aload_n hx hb d_M_unlike_0 rfl (lv_at hl 0 rfl) ?_
  refine lv_iload_n hx hb d_M_unlike_1 rfl (lv_at hl 1 rfl) ?_
  refine z_if_lt (a := ((fm : Nat) : Int)) (tgt := 13) hx hb (by omega) d_M_unlike_2 (by decide) (fun q2 => ?_) (fun q2 => ?_)
  · skip
    exfalso; omega
  · skip
    refine lv_iload_n hx hb d_M_unlike_5 rfl (lv_at hl 1 rfl) ?_
    refine lv_aload_n hx hb d_M_unlike_6 rfl (lv_at hl 0 rfl) ?_
    refine va_get (D := D) (ci := 5) (v := .int (iZ ((jn J : Nat) : Int))) (C := n_M) (T := f_M) (N := 17) hx hb hts in_M hown hK hP 19 rfl rfl 2 (by decide) (hts _ fl_M_63) (fun _ h9 => h9) rfl d_M_unlike_7 ?_
    refine z_icmp_le (a := ((fm : Nat) : Int)) (b := ((jn J : Nat) : Int)) (tgt := 17) hx hb (by omega) d_M_unlike_10 (by decide) (fun q10 => ?_) (fun q10 => ?_)
    · skip
      refine lv_iconst (v := iZ ((0 : Nat) : Int)) hx hb d_M_unlike_17 (by decide) ?_
      refine va_put (D := D) (ci := 5) (v := .int (iZ ((0 : Nat) : Int))) (ty := .int) (C := n_M) (T := f_M) (N := 17) hx hb hts in_M ty_M tyo_M nm_M hown hK hP hD hS 19 rfl rfl 0 (by decide) (hts _ fl_M_55) (fun _ h9 => h9) rfl (by decide +kernel) rfl rfl (Nat.le_of_ble_eq_true rfl) d_M_unlike_18 (fun H locs hP hD hS => ?_)
      have hP : va_P D classes (wdC ad cI cZ cL J0 rd0 pr0 G0 K0 (wdM ad cI cZ cL J rd pr (0, M.2) ov)) H := hP
      have hD : va_D A (wdC ad cI cZ cL J0 rd0 pr0 G0 K0 (wdM ad cI cZ cL J rd pr (0, M.2) ov)) := hD
      refine lv_iload_n hx hb d_M_unlike_21 rfl (lv_at hl 1 rfl) ?_
      refine lv_istore_n (lv' := [(2, .int (iZ ((fm : Nat) : Int))), (0, .ref (ad 19)), (1, .int (iZ ((fm : Nat) : Int)))]) hx hb d_M_unlike_22 rfl hl (by decide) rfl (fun ls hl => ?_)
      have L23 : ∀ (N23 : Nat) (i : Nat) (H : Heap) (locs : List Loc) (ls : Array Slot), (i ≤ jn J) → (sUl rd (jn J - fm) fm = sUl rd (jn J - i) i) → jn J - i < N23 → va_P D classes (wdC ad cI cZ cL J0 rd0 pr0 G0 K0 (wdM ad cI cZ cL J rd pr (0, M.2) ov)) H → va_D A (wdC ad cI cZ cL J0 rd0 pr0 G0 K0 (wdM ad cI cZ cL J rd pr (0, M.2) ov)) → va_S A s.heap H locs → lv_has ls 3 [(0, .ref (ad 19)), (1, .int (iZ ((fm : Nat) : Int))), (2, .int (iZ ((i : Nat) : Int)))] → W p l e (zRm 2 43) s m ([.ref (ad 19), .int (iZ ((fm : Nat) : Int))] : List Value).toArray below meth c H locs 0 0 (MQ below (va_Qi (fun r w => ∃ M1 : SM, r = iZ (sUl rd (jn J - fm) fm) ∧ w = wdC ad cI cZ cL J0 rd0 pr0 G0 K0 (wdM ad cI cZ cL J rd pr M1 ov) ∧ M1.1 = 0 ∧ MJ J M1) (zB9 D classes (wdC ad cI cZ cL J0 rd0 pr0 G0 K0 (wdM ad cI cZ cL J rd pr M ov))) A) ([.ref (ad 19), .int (iZ ((fm : Nat) : Int))] : List Value).toArray s 0 0 A) (F0 m 23 ls []) := by
        intro N23
        induction N23 with
        | zero =>
          intro i H locs ls hi hv hN23 hP hD hS hl
          exact absurd hN23 (Nat.not_lt_zero _)
        | succ N23 ih23 =>
          intro i H locs ls hi hv hN23 hP hD hS hl
          refine lv_iload_n hx hb d_M_unlike_23 rfl (lv_at hl 2 rfl) ?_
          refine lv_aload_n hx hb d_M_unlike_24 rfl (lv_at hl 0 rfl) ?_
          refine va_get (D := D) (ci := 5) (v := .int (iZ ((jn J : Nat) : Int))) (C := n_M) (T := f_M) (N := 17) hx hb hts in_M hown hK hP 19 rfl rfl 2 (by decide) (hts _ fl_M_63) (fun _ h9 => h9) rfl d_M_unlike_25 ?_
          refine z_icmp_ge (a := ((i : Nat) : Int)) (b := ((jn J : Nat) : Int)) (tgt := 54) hx hb (by omega) d_M_unlike_28 (by decide) (fun q28 => ?_) (fun q28 => ?_)
          · skip
            refine lv_aload_n hx hb d_M_unlike_54 rfl (lv_at hl 0 rfl) ?_
            refine va_get (D := D) (ci := 5) (v := .int (iZ ((0 : Nat) : Int))) (C := n_M) (T := f_M) (N := 17) hx hb hts in_M hown hK hP 19 rfl rfl 0 (by decide) (hts _ fl_M_55) (fun _ h9 => h9) rfl d_M_unlike_55 ?_
            refine z_if_le (a := ((0 : Nat) : Int)) (tgt := 65) hx hb (by omega) d_M_unlike_58 (by decide) (fun q58 => ?_) (fun q58 => ?_)
            · skip
              refine lv_iconst (v := iZ ((-1 : Int))) hx hb d_M_unlike_65 (by decide) ?_
              exact z_iret Z hP hS d_M_unlike_66 wdM_map (⟨_, by rw [hv, show jn J - i = 0 by omega]; rfl, rfl, rfl, hM⟩)
            · skip
              exfalso; omega
          · skip
            have hr1 : jn J - i = (jn J - i - 1) + 1 := by omega
            refine lv_aload_n hx hb d_M_unlike_31 rfl (lv_at hl 0 rfl) ?_
            refine va_get (D := D) (ci := 5) (v := .int (iZ ((0 : Nat) : Int))) (C := n_M) (T := f_M) (N := 17) hx hb hts in_M hown hK hP 19 rfl rfl 0 (by decide) (hts _ fl_M_55) (fun _ h9 => h9) rfl d_M_unlike_32 ?_
            refine z_if_ne (a := ((0 : Nat) : Int)) (tgt := 54) hx hb (by omega) d_M_unlike_35 (by decide) (fun q35 => ?_) (fun q35 => ?_)
            · skip
              exfalso; omega
            · skip
              refine lv_aload_n hx hb d_M_unlike_38 rfl (lv_at hl 0 rfl) ?_
              refine lv_iload_n hx hb d_M_unlike_39 rfl (lv_at hl 2 rfl) ?_
              refine z_callVR (As := [.int (iZ ((i : Nat) : Int))]) (rest := []) zTB Z (k_M_areUnlike (rd := rd) hR (h := i) (by omega)) ⟨ml_M_112, im_M_areUnlike, se_M_areUnlike, ini_M, co_M_areUnlike⟩ zd_M_areUnlike ⟨Nat.le_of_ble_eq_true rfl, Nat.le_of_ble_eq_true rfl⟩ hP hK (ci := 5) (q0 := 19) rfl rfl rfl hl.1 rfl (Nat.le_of_ble_eq_true rfl) d_M_unlike_40 ⟨Nat.zero_le _, Nat.zero_le _⟩ ?_
              refine W.eq (g2 := F0 m 43 ls [.int (bI (sUn rd i))]) rfl ?_
              refine z_if_eqB (b := sUn rd i) (tgt := 48) hx hb d_M_unlike_43 (by decide) (fun q43 => ?_) (fun q43 => ?_)
              · skip
                refine lv_iinc (v := iZ ((i + 1 : Nat) : Int)) (lv' := [(2, .int (iZ ((i + 1 : Nat) : Int))), (0, .ref (ad 19)), (1, .int (iZ ((fm : Nat) : Int)))]) hx hb d_M_unlike_48 hl (k := 2) rfl (iZ_inc (i) 1) (by decide) rfl (fun ls hl => ?_)
                refine lv_goto (tgt := 23) hx hb d_M_unlike_51 (by decide) ?_
                exact ih23 (i + 1) H locs ls (by omega) (by rw [hv, hr1]; show (if _ then _ else _) = _; rw [if_neg (by rw [q43]; decide), show jn J - i - 1 = jn J - (i + 1) by omega]) (by omega) hP hD hS (lv_sub hl [1, 2, 0] rfl)
              · skip
                refine lv_iload_n hx hb d_M_unlike_46 rfl (lv_at hl 2 rfl) ?_
                exact z_iret Z hP hS d_M_unlike_47 wdM_map (⟨_, by rw [hv, hr1]; show _ = iZ (if _ then _ else _); rw [if_pos q43], rfl, rfl, hM⟩)
      exact L23 (jn J - fm + 1) fm H locs ls hf rfl (by omega) hP hD hS (lv_sub hl [1, 2, 0] rfl)
    · skip
      exfalso; omega

set_option maxHeartbeats 4000000 in
set_option maxRecDepth 100000 in
theorem k_M_pricex1 {l : Launch} {D : va_G} {ad : Nat → Nat} {cI cZ cL : ClassId} {J J0 : SJ} {rd rd0 : Nat → Int} {pr pr0 : Nat → Nat} {G0 : SH} {K0 : SK} {M : SM} {ov : Nat → Int64} (hI : JI J) (hM : MJ J M) {a b : Int} (h : z32 a ∧ (a < 0 ∨ 3 ≤ a)) : zMv l TB D classes (tysW cI cZ cL) y_M_price w_M_price 1 21 [.ref (ad 19), .int (iZ (a)), .int (iZ (b))] (wdC ad cI cZ cL J0 rd0 pr0 G0 K0 (wdM ad cI cZ cL J rd pr M ov)) (fun w => ∃ M1 : SM, w = wdC ad cI cZ cL J0 rd0 pr0 G0 K0 (wdM ad cI cZ cL J rd pr M1 ov) ∧ M1.1 = 1 ∧ MJ J M1) := by
  refine z_of (Qc := fun A => va_Qv (fun w => ∃ M1 : SM, w = wdC ad cI cZ cL J0 rd0 pr0 G0 K0 (wdM ad cI cZ cL J rd pr M1 ov) ∧ M1.1 = 1 ∧ MJ J M1) (zB9 D classes (wdC ad cI cZ cL J0 rd0 pr0 G0 K0 (wdM ad cI cZ cL J rd pr M ov))) A) (by decide) (Nat.le_of_ble_eq_true rfl) ?_
  intro p e s m below meth c A ls Z hP hK hD hS hA hl
  obtain ⟨hx, hb, hr, hml, hown, hts, hE, hlocks⟩ := id Z
  have hl : lv_has ls 3 [(0, .ref (ad 19)), (1, .int (iZ (a))), (2, .int (iZ (b)))] := hl
  obtain ⟨hn32, hk2, hpr, hct⟩ := id hI
  suffices K9 : ∀ (H : Heap) (locs : List Loc) (ls : Array Slot), va_P D classes (wdC ad cI cZ cL J0 rd0 pr0 G0 K0 (wdM ad cI cZ cL J rd pr M ov)) H → va_D A (wdC ad cI cZ cL J0 rd0 pr0 G0 K0 (wdM ad cI cZ cL J rd pr M ov)) → va_S A s.heap H locs → lv_has ls 3 [(0, .ref (ad 19)), (1, .int (iZ (a))), (2, .int (iZ (b)))] → W p l e (zRm 1 21) s m ([.ref (ad 19), .int (iZ (a)), .int (iZ (b))] : List Value).toArray below meth c H locs 0 0 (MQ below (va_Qv (fun w => ∃ M1 : SM, w = wdC ad cI cZ cL J0 rd0 pr0 G0 K0 (wdM ad cI cZ cL J rd pr M1 ov) ∧ M1.1 = 1 ∧ MJ J M1) (zB9 D classes (wdC ad cI cZ cL J0 rd0 pr0 G0 K0 (wdM ad cI cZ cL J rd pr M ov))) A) ([.ref (ad 19), .int (iZ (a)), .int (iZ (b))] : List Value).toArray s 0 0 A) (F0 m 0 ls []) from K9 s.heap [] ls hP hD hS hl
  clear hP hD hS hl
  intro H locs ls hP hD hS hl
  refine lv_aload_n hx hb d_M_price_0 rfl (lv_at hl 0 rfl) ?_
  refine lv_iload_n hx hb d_M_price_1 rfl (lv_at hl 1 rfl) ?_
  refine lv_iconst (v := iZ ((3 : Nat) : Int)) hx hb d_M_price_2 (by decide) ?_
  refine z_callSR (As := [.int (iZ (a)), .int (iZ ((3 : Nat) : Int))]) (rest := [.ref (ad 19)]) zTB Z (k_M_isIn (a := a) (b := ((3 : Nat) : Int)) (by omega)) ⟨ml_M_59, sm_M_isIn, ini_M, co_M_isIn⟩ zd_M_isIn ⟨Nat.le_of_ble_eq_true rfl, Nat.le_of_ble_eq_true rfl⟩ hP hK hl.1 rfl (Nat.le_of_ble_eq_true rfl) d_M_price_3 ⟨Nat.zero_le _, Nat.zero_le _⟩ ?_
  refine W.eq (g2 := F0 m 6 ls [.int (bI (decide (0 ≤ a ∧ a < ((3 : Nat) : Int)))), .ref (ad 19)]) rfl ?_
  refine z_if_neB (b := decide (0 ≤ a ∧ a < ((3 : Nat) : Int))) (tgt := 13) hx hb d_M_price_6 (by decide) (fun q6 => ?_) (fun q6 => ?_)
  · skip
    replace q6 := of_decide_eq_true q6
    refine lv_iload_n hx hb d_M_price_13 rfl (lv_at hl 2 rfl) ?_
    refine z_if_lt (a := b) (tgt := 23) hx hb (by omega) d_M_price_14 (by decide) (fun q14 => ?_) (fun q14 => ?_)
    · skip
      exfalso; omega
    · skip
      refine lv_iload_n hx hb d_M_price_17 rfl (lv_at hl 2 rfl) ?_
      refine lv_ldc (v := iZ ((100000 : Nat) : Int)) hx hb hown (hts _ ck9_M_97) d_M_price_18 ?_
      refine z_icmp_le (a := b) (b := ((100000 : Nat) : Int)) (tgt := 27) hx hb (by omega) d_M_price_20 (by decide) (fun q20 => ?_) (fun q20 => ?_)
      · skip
        exfalso; omega
      · skip
        exfalso; omega
  · skip
    replace q6 := of_decide_eq_false q6
    refine lv_iconst (v := iZ ((1 : Nat) : Int)) hx hb d_M_price_9 (by decide) ?_
    refine lv_goto (tgt := 28) hx hb d_M_price_10 (by decide) ?_
    refine va_put (D := D) (ci := 5) (v := .int (iZ ((1 : Nat) : Int))) (ty := .int) (C := n_M) (T := f_M) (N := 17) hx hb hts in_M ty_M tyo_M nm_M hown hK hP hD hS 19 rfl rfl 0 (by decide) (hts _ fl_M_55) (fun _ h9 => h9) rfl (by decide +kernel) rfl rfl (Nat.le_of_ble_eq_true rfl) d_M_price_28 (fun H locs hP hD hS => ?_)
    have hP : va_P D classes (wdC ad cI cZ cL J0 rd0 pr0 G0 K0 (wdM ad cI cZ cL J rd pr (1, M.2) ov)) H := hP
    have hD : va_D A (wdC ad cI cZ cL J0 rd0 pr0 G0 K0 (wdM ad cI cZ cL J rd pr (1, M.2) ov)) := hD
    refine lv_aload_n hx hb d_M_price_31 rfl (lv_at hl 0 rfl) ?_
    refine va_get (D := D) (ci := 5) (v := .int (iZ ((1 : Nat) : Int))) (C := n_M) (T := f_M) (N := 17) hx hb hts in_M hown hK hP 19 rfl rfl 0 (by decide) (hts _ fl_M_55) (fun _ h9 => h9) rfl d_M_price_32 ?_
    refine z_if_ne (a := ((1 : Nat) : Int)) (tgt := 45) hx hb (by omega) d_M_price_35 (by decide) (fun q35 => ?_) (fun q35 => ?_)
    · skip
      exact z_vret Z hP hS d_M_price_45 wdM_map (⟨_, rfl, rfl, hM⟩)
    · skip
      exfalso; omega

set_option maxHeartbeats 4000000 in
set_option maxRecDepth 100000 in
theorem k_M_pricex2 {l : Launch} {D : va_G} {ad : Nat → Nat} {cI cZ cL : ClassId} {J J0 : SJ} {rd rd0 : Nat → Int} {pr pr0 : Nat → Nat} {G0 : SH} {K0 : SK} {M : SM} {ov : Nat → Int64} (hI : JI J) (hM : MJ J M) {kd : Nat} {b : Int} (hkd : kd < 3) (h : z32 b ∧ (b < 0 ∨ 100000 < b)) : zMv l TB D classes (tysW cI cZ cL) y_M_price w_M_price 1 21 [.ref (ad 19), .int (iZ ((kd : Nat) : Int)), .int (iZ (b))] (wdC ad cI cZ cL J0 rd0 pr0 G0 K0 (wdM ad cI cZ cL J rd pr M ov)) (fun w => ∃ M1 : SM, w = wdC ad cI cZ cL J0 rd0 pr0 G0 K0 (wdM ad cI cZ cL J rd pr M1 ov) ∧ M1.1 = 2 ∧ MJ J M1) := by
  refine z_of (Qc := fun A => va_Qv (fun w => ∃ M1 : SM, w = wdC ad cI cZ cL J0 rd0 pr0 G0 K0 (wdM ad cI cZ cL J rd pr M1 ov) ∧ M1.1 = 2 ∧ MJ J M1) (zB9 D classes (wdC ad cI cZ cL J0 rd0 pr0 G0 K0 (wdM ad cI cZ cL J rd pr M ov))) A) (by decide) (Nat.le_of_ble_eq_true rfl) ?_
  intro p e s m below meth c A ls Z hP hK hD hS hA hl
  obtain ⟨hx, hb, hr, hml, hown, hts, hE, hlocks⟩ := id Z
  have hl : lv_has ls 3 [(0, .ref (ad 19)), (1, .int (iZ ((kd : Nat) : Int))), (2, .int (iZ (b)))] := hl
  obtain ⟨hn32, hk2, hpr, hct⟩ := id hI
  suffices K9 : ∀ (H : Heap) (locs : List Loc) (ls : Array Slot), va_P D classes (wdC ad cI cZ cL J0 rd0 pr0 G0 K0 (wdM ad cI cZ cL J rd pr M ov)) H → va_D A (wdC ad cI cZ cL J0 rd0 pr0 G0 K0 (wdM ad cI cZ cL J rd pr M ov)) → va_S A s.heap H locs → lv_has ls 3 [(0, .ref (ad 19)), (1, .int (iZ ((kd : Nat) : Int))), (2, .int (iZ (b)))] → W p l e (zRm 1 21) s m ([.ref (ad 19), .int (iZ ((kd : Nat) : Int)), .int (iZ (b))] : List Value).toArray below meth c H locs 0 0 (MQ below (va_Qv (fun w => ∃ M1 : SM, w = wdC ad cI cZ cL J0 rd0 pr0 G0 K0 (wdM ad cI cZ cL J rd pr M1 ov) ∧ M1.1 = 2 ∧ MJ J M1) (zB9 D classes (wdC ad cI cZ cL J0 rd0 pr0 G0 K0 (wdM ad cI cZ cL J rd pr M ov))) A) ([.ref (ad 19), .int (iZ ((kd : Nat) : Int)), .int (iZ (b))] : List Value).toArray s 0 0 A) (F0 m 0 ls []) from K9 s.heap [] ls hP hD hS hl
  clear hP hD hS hl
  intro H locs ls hP hD hS hl
  refine lv_aload_n hx hb d_M_price_0 rfl (lv_at hl 0 rfl) ?_
  refine lv_iload_n hx hb d_M_price_1 rfl (lv_at hl 1 rfl) ?_
  refine lv_iconst (v := iZ ((3 : Nat) : Int)) hx hb d_M_price_2 (by decide) ?_
  refine z_callSR (As := [.int (iZ ((kd : Nat) : Int)), .int (iZ ((3 : Nat) : Int))]) (rest := [.ref (ad 19)]) zTB Z (k_M_isIn (a := ((kd : Nat) : Int)) (b := ((3 : Nat) : Int)) (by omega)) ⟨ml_M_59, sm_M_isIn, ini_M, co_M_isIn⟩ zd_M_isIn ⟨Nat.le_of_ble_eq_true rfl, Nat.le_of_ble_eq_true rfl⟩ hP hK hl.1 rfl (Nat.le_of_ble_eq_true rfl) d_M_price_3 ⟨Nat.zero_le _, Nat.zero_le _⟩ ?_
  refine W.eq (g2 := F0 m 6 ls [.int (bI (decide (0 ≤ ((kd : Nat) : Int) ∧ ((kd : Nat) : Int) < ((3 : Nat) : Int)))), .ref (ad 19)]) rfl ?_
  refine z_if_neB (b := decide (0 ≤ ((kd : Nat) : Int) ∧ ((kd : Nat) : Int) < ((3 : Nat) : Int))) (tgt := 13) hx hb d_M_price_6 (by decide) (fun q6 => ?_) (fun q6 => ?_)
  · skip
    replace q6 := of_decide_eq_true q6
    refine lv_iload_n hx hb d_M_price_13 rfl (lv_at hl 2 rfl) ?_
    refine z_if_lt (a := b) (tgt := 23) hx hb (by omega) d_M_price_14 (by decide) (fun q14 => ?_) (fun q14 => ?_)
    · skip
      refine lv_iconst (v := iZ ((2 : Nat) : Int)) hx hb d_M_price_23 (by decide) ?_
      refine lv_goto (tgt := 28) hx hb d_M_price_24 (by decide) ?_
      refine va_put (D := D) (ci := 5) (v := .int (iZ ((2 : Nat) : Int))) (ty := .int) (C := n_M) (T := f_M) (N := 17) hx hb hts in_M ty_M tyo_M nm_M hown hK hP hD hS 19 rfl rfl 0 (by decide) (hts _ fl_M_55) (fun _ h9 => h9) rfl (by decide +kernel) rfl rfl (Nat.le_of_ble_eq_true rfl) d_M_price_28 (fun H locs hP hD hS => ?_)
      have hP : va_P D classes (wdC ad cI cZ cL J0 rd0 pr0 G0 K0 (wdM ad cI cZ cL J rd pr (2, M.2) ov)) H := hP
      have hD : va_D A (wdC ad cI cZ cL J0 rd0 pr0 G0 K0 (wdM ad cI cZ cL J rd pr (2, M.2) ov)) := hD
      refine lv_aload_n hx hb d_M_price_31 rfl (lv_at hl 0 rfl) ?_
      refine va_get (D := D) (ci := 5) (v := .int (iZ ((2 : Nat) : Int))) (C := n_M) (T := f_M) (N := 17) hx hb hts in_M hown hK hP 19 rfl rfl 0 (by decide) (hts _ fl_M_55) (fun _ h9 => h9) rfl d_M_price_32 ?_
      refine z_if_ne (a := ((2 : Nat) : Int)) (tgt := 45) hx hb (by omega) d_M_price_35 (by decide) (fun q35 => ?_) (fun q35 => ?_)
      · skip
        exact z_vret Z hP hS d_M_price_45 wdM_map (⟨_, rfl, rfl, hM⟩)
      · skip
        exfalso; omega
    · skip
      refine lv_iload_n hx hb d_M_price_17 rfl (lv_at hl 2 rfl) ?_
      refine lv_ldc (v := iZ ((100000 : Nat) : Int)) hx hb hown (hts _ ck9_M_97) d_M_price_18 ?_
      refine z_icmp_le (a := b) (b := ((100000 : Nat) : Int)) (tgt := 27) hx hb (by omega) d_M_price_20 (by decide) (fun q20 => ?_) (fun q20 => ?_)
      · skip
        exfalso; omega
      · skip
        refine lv_iconst (v := iZ ((2 : Nat) : Int)) hx hb d_M_price_23 (by decide) ?_
        refine lv_goto (tgt := 28) hx hb d_M_price_24 (by decide) ?_
        refine va_put (D := D) (ci := 5) (v := .int (iZ ((2 : Nat) : Int))) (ty := .int) (C := n_M) (T := f_M) (N := 17) hx hb hts in_M ty_M tyo_M nm_M hown hK hP hD hS 19 rfl rfl 0 (by decide) (hts _ fl_M_55) (fun _ h9 => h9) rfl (by decide +kernel) rfl rfl (Nat.le_of_ble_eq_true rfl) d_M_price_28 (fun H locs hP hD hS => ?_)
        have hP : va_P D classes (wdC ad cI cZ cL J0 rd0 pr0 G0 K0 (wdM ad cI cZ cL J rd pr (2, M.2) ov)) H := hP
        have hD : va_D A (wdC ad cI cZ cL J0 rd0 pr0 G0 K0 (wdM ad cI cZ cL J rd pr (2, M.2) ov)) := hD
        refine lv_aload_n hx hb d_M_price_31 rfl (lv_at hl 0 rfl) ?_
        refine va_get (D := D) (ci := 5) (v := .int (iZ ((2 : Nat) : Int))) (C := n_M) (T := f_M) (N := 17) hx hb hts in_M hown hK hP 19 rfl rfl 0 (by decide) (hts _ fl_M_55) (fun _ h9 => h9) rfl d_M_price_32 ?_
        refine z_if_ne (a := ((2 : Nat) : Int)) (tgt := 45) hx hb (by omega) d_M_price_35 (by decide) (fun q35 => ?_) (fun q35 => ?_)
        · skip
          exact z_vret Z hP hS d_M_price_45 wdM_map (⟨_, rfl, rfl, hM⟩)
        · skip
          exfalso; omega
  · skip
    replace q6 := of_decide_eq_false q6
    exfalso; omega

set_option maxHeartbeats 4000000 in
set_option maxRecDepth 100000 in
theorem k_M_price0 {l : Launch} {D : va_G} {ad : Nat → Nat} {cI cZ cL : ClassId} {J J0 : SJ} {rd rd0 : Nat → Int} {pr pr0 : Nat → Nat} {G0 : SH} {K0 : SK} {M : SM} {ov : Nat → Int64} (hI : JI J) (hM : MJ J M) {kd v : Nat} (hkd : kd < 3) (hv : v ≤ 100000) : zMv l TB D classes (tysW cI cZ cL) y_M_price w_M_price 1 21 [.ref (ad 19), .int (iZ ((kd : Nat) : Int)), .int (iZ ((v : Nat) : Int))] (wdC ad cI cZ cL J0 rd0 pr0 G0 K0 (wdM ad cI cZ cL J rd pr M ov)) (fun w => ∃ M1 : SM, w = wdC ad cI cZ cL J0 rd0 pr0 G0 K0 (wdM ad cI cZ cL J rd (nu pr kd v) M1 ov) ∧ M1.1 = 0 ∧ MJ J M1) := by
  refine z_of (Qc := fun A => va_Qv (fun w => ∃ M1 : SM, w = wdC ad cI cZ cL J0 rd0 pr0 G0 K0 (wdM ad cI cZ cL J rd (nu pr kd v) M1 ov) ∧ M1.1 = 0 ∧ MJ J M1) (zB9 D classes (wdC ad cI cZ cL J0 rd0 pr0 G0 K0 (wdM ad cI cZ cL J rd pr M ov))) A) (by decide) (Nat.le_of_ble_eq_true rfl) ?_
  intro p e s m below meth c A ls Z hP hK hD hS hA hl
  obtain ⟨hx, hb, hr, hml, hown, hts, hE, hlocks⟩ := id Z
  have hl : lv_has ls 3 [(0, .ref (ad 19)), (1, .int (iZ ((kd : Nat) : Int))), (2, .int (iZ ((v : Nat) : Int)))] := hl
  obtain ⟨hn32, hk2, hpr, hct⟩ := id hI
  suffices K9 : ∀ (H : Heap) (locs : List Loc) (ls : Array Slot), va_P D classes (wdC ad cI cZ cL J0 rd0 pr0 G0 K0 (wdM ad cI cZ cL J rd pr M ov)) H → va_D A (wdC ad cI cZ cL J0 rd0 pr0 G0 K0 (wdM ad cI cZ cL J rd pr M ov)) → va_S A s.heap H locs → lv_has ls 3 [(0, .ref (ad 19)), (1, .int (iZ ((kd : Nat) : Int))), (2, .int (iZ ((v : Nat) : Int)))] → W p l e (zRm 1 21) s m ([.ref (ad 19), .int (iZ ((kd : Nat) : Int)), .int (iZ ((v : Nat) : Int))] : List Value).toArray below meth c H locs 0 0 (MQ below (va_Qv (fun w => ∃ M1 : SM, w = wdC ad cI cZ cL J0 rd0 pr0 G0 K0 (wdM ad cI cZ cL J rd (nu pr kd v) M1 ov) ∧ M1.1 = 0 ∧ MJ J M1) (zB9 D classes (wdC ad cI cZ cL J0 rd0 pr0 G0 K0 (wdM ad cI cZ cL J rd pr M ov))) A) ([.ref (ad 19), .int (iZ ((kd : Nat) : Int)), .int (iZ ((v : Nat) : Int))] : List Value).toArray s 0 0 A) (F0 m 0 ls []) from K9 s.heap [] ls hP hD hS hl
  clear hP hD hS hl
  intro H locs ls hP hD hS hl
  refine lv_aload_n hx hb d_M_price_0 rfl (lv_at hl 0 rfl) ?_
  refine lv_iload_n hx hb d_M_price_1 rfl (lv_at hl 1 rfl) ?_
  refine lv_iconst (v := iZ ((3 : Nat) : Int)) hx hb d_M_price_2 (by decide) ?_
  refine z_callSR (As := [.int (iZ ((kd : Nat) : Int)), .int (iZ ((3 : Nat) : Int))]) (rest := [.ref (ad 19)]) zTB Z (k_M_isIn (a := ((kd : Nat) : Int)) (b := ((3 : Nat) : Int)) (by omega)) ⟨ml_M_59, sm_M_isIn, ini_M, co_M_isIn⟩ zd_M_isIn ⟨Nat.le_of_ble_eq_true rfl, Nat.le_of_ble_eq_true rfl⟩ hP hK hl.1 rfl (Nat.le_of_ble_eq_true rfl) d_M_price_3 ⟨Nat.zero_le _, Nat.zero_le _⟩ ?_
  refine W.eq (g2 := F0 m 6 ls [.int (bI (decide (0 ≤ ((kd : Nat) : Int) ∧ ((kd : Nat) : Int) < ((3 : Nat) : Int)))), .ref (ad 19)]) rfl ?_
  refine z_if_neB (b := decide (0 ≤ ((kd : Nat) : Int) ∧ ((kd : Nat) : Int) < ((3 : Nat) : Int))) (tgt := 13) hx hb d_M_price_6 (by decide) (fun q6 => ?_) (fun q6 => ?_)
  · skip
    replace q6 := of_decide_eq_true q6
    refine lv_iload_n hx hb d_M_price_13 rfl (lv_at hl 2 rfl) ?_
    refine z_if_lt (a := ((v : Nat) : Int)) (tgt := 23) hx hb (by omega) d_M_price_14 (by decide) (fun q14 => ?_) (fun q14 => ?_)
    · skip
      exfalso; omega
    · skip
      refine lv_iload_n hx hb d_M_price_17 rfl (lv_at hl 2 rfl) ?_
      refine lv_ldc (v := iZ ((100000 : Nat) : Int)) hx hb hown (hts _ ck9_M_97) d_M_price_18 ?_
      refine z_icmp_le (a := ((v : Nat) : Int)) (b := ((100000 : Nat) : Int)) (tgt := 27) hx hb (by omega) d_M_price_20 (by decide) (fun q20 => ?_) (fun q20 => ?_)
      · skip
        refine lv_iconst (v := iZ ((0 : Nat) : Int)) hx hb d_M_price_27 (by decide) ?_
        refine va_put (D := D) (ci := 5) (v := .int (iZ ((0 : Nat) : Int))) (ty := .int) (C := n_M) (T := f_M) (N := 17) hx hb hts in_M ty_M tyo_M nm_M hown hK hP hD hS 19 rfl rfl 0 (by decide) (hts _ fl_M_55) (fun _ h9 => h9) rfl (by decide +kernel) rfl rfl (Nat.le_of_ble_eq_true rfl) d_M_price_28 (fun H locs hP hD hS => ?_)
        have hP : va_P D classes (wdC ad cI cZ cL J0 rd0 pr0 G0 K0 (wdM ad cI cZ cL J rd pr (0, M.2) ov)) H := hP
        have hD : va_D A (wdC ad cI cZ cL J0 rd0 pr0 G0 K0 (wdM ad cI cZ cL J rd pr (0, M.2) ov)) := hD
        refine lv_aload_n hx hb d_M_price_31 rfl (lv_at hl 0 rfl) ?_
        refine va_get (D := D) (ci := 5) (v := .int (iZ ((0 : Nat) : Int))) (C := n_M) (T := f_M) (N := 17) hx hb hts in_M hown hK hP 19 rfl rfl 0 (by decide) (hts _ fl_M_55) (fun _ h9 => h9) rfl d_M_price_32 ?_
        refine z_if_ne (a := ((0 : Nat) : Int)) (tgt := 45) hx hb (by omega) d_M_price_35 (by decide) (fun q35 => ?_) (fun q35 => ?_)
        · skip
          exfalso; omega
        · skip
          refine lv_aload_n hx hb d_M_price_38 rfl (lv_at hl 0 rfl) ?_
          refine va_get (D := D) (ci := 5) (v := .ref (ad 29)) (C := n_M) (T := f_M) (N := 17) hx hb hts in_M hown hK hP 19 rfl rfl 13 (by decide) (hts _ fl_M_38) (fun _ h9 => h9) rfl d_M_price_39 ?_
          refine lv_iload_n hx hb d_M_price_42 rfl (lv_at hl 1 rfl) ?_
          refine lv_iload_n hx hb d_M_price_43 rfl (lv_at hl 2 rfl) ?_
          refine z_iastN (f := pr) (v := v) hx hb hK hP hD hS 29 0 rfl rfl (kd) (by omega) d_M_price_44 (fun H locs hP hD hS => ?_)
          have hP : va_P D classes (wdC ad cI cZ cL J0 rd0 pr0 G0 K0 (wdM ad cI cZ cL J rd (nu pr (kd) v) (0, M.2) ov)) H := hP
          have hD : va_D A (wdC ad cI cZ cL J0 rd0 pr0 G0 K0 (wdM ad cI cZ cL J rd (nu pr (kd) v) (0, M.2) ov)) := hD
          exact z_vret Z hP hS d_M_price_45 wdM_map (⟨_, rfl, rfl, hM⟩)
      · skip
        exfalso; omega
  · skip
    replace q6 := of_decide_eq_false q6
    exfalso; omega

set_option maxHeartbeats 4000000 in
set_option maxRecDepth 100000 in
theorem k_M_lost0 {l : Launch} {D : va_G} {ad : Nat → Nat} {cI cZ cL : ClassId} {J J0 : SJ} {rd rd0 : Nat → Int} {pr pr0 : Nat → Nat} {G0 : SH} {K0 : SK} {M : SM} {ov : Nat → Int64} (hI : JI J) (hM : MJ J M) (hpq : ∀ j, pr j ≤ 100000) : zMl l TB D classes (tysW cI cZ cL) y_M_lost w_M_lost 2 46 [.ref (ad 19)] (wdC ad cI cZ cL J0 rd0 pr0 G0 K0 (wdM ad cI cZ cL J rd pr M ov)) (fun r w => ∃ M1 : SM, r = lZ (sLo J pr 3) ∧ w = wdC ad cI cZ cL J0 rd0 pr0 G0 K0 (wdM ad cI cZ cL J rd pr M1 ov) ∧ M1.1 = 0 ∧ MJ J M1) := by
  refine z_of (Qc := fun A => va_Ql (fun r w => ∃ M1 : SM, r = lZ (sLo J pr 3) ∧ w = wdC ad cI cZ cL J0 rd0 pr0 G0 K0 (wdM ad cI cZ cL J rd pr M1 ov) ∧ M1.1 = 0 ∧ MJ J M1) (zB9 D classes (wdC ad cI cZ cL J0 rd0 pr0 G0 K0 (wdM ad cI cZ cL J rd pr M ov))) A) (by decide) (Nat.le_of_ble_eq_true rfl) ?_
  intro p e s m below meth c A ls Z hP hK hD hS hA hl
  obtain ⟨hx, hb, hr, hml, hown, hts, hE, hlocks⟩ := id Z
  have hl : lv_has ls 4 [(0, .ref (ad 19))] := hl
  obtain ⟨hn32, hk2, hpr, hct⟩ := id hI
  suffices K9 : ∀ (H : Heap) (locs : List Loc) (ls : Array Slot), va_P D classes (wdC ad cI cZ cL J0 rd0 pr0 G0 K0 (wdM ad cI cZ cL J rd pr M ov)) H → va_D A (wdC ad cI cZ cL J0 rd0 pr0 G0 K0 (wdM ad cI cZ cL J rd pr M ov)) → va_S A s.heap H locs → lv_has ls 4 [(0, .ref (ad 19))] → W p l e (zRm 2 46) s m ([.ref (ad 19)] : List Value).toArray below meth c H locs 0 0 (MQ below (va_Ql (fun r w => ∃ M1 : SM, r = lZ (sLo J pr 3) ∧ w = wdC ad cI cZ cL J0 rd0 pr0 G0 K0 (wdM ad cI cZ cL J rd pr M1 ov) ∧ M1.1 = 0 ∧ MJ J M1) (zB9 D classes (wdC ad cI cZ cL J0 rd0 pr0 G0 K0 (wdM ad cI cZ cL J rd pr M ov))) A) ([.ref (ad 19)] : List Value).toArray s 0 0 A) (F0 m 0 ls []) from K9 s.heap [] ls hP hD hS hl
  clear hP hD hS hl
  intro H locs ls hP hD hS hl
  refine lv_aload_n hx hb d_M_lost_0 rfl (lv_at hl 0 rfl) ?_
  refine lv_iconst (v := iZ ((0 : Nat) : Int)) hx hb d_M_lost_1 (by decide) ?_
  refine va_put (D := D) (ci := 5) (v := .int (iZ ((0 : Nat) : Int))) (ty := .int) (C := n_M) (T := f_M) (N := 17) hx hb hts in_M ty_M tyo_M nm_M hown hK hP hD hS 19 rfl rfl 0 (by decide) (hts _ fl_M_55) (fun _ h9 => h9) rfl (by decide +kernel) rfl rfl (Nat.le_of_ble_eq_true rfl) d_M_lost_2 (fun H locs hP hD hS => ?_)
  have hP : va_P D classes (wdC ad cI cZ cL J0 rd0 pr0 G0 K0 (wdM ad cI cZ cL J rd pr (0, M.2) ov)) H := hP
  have hD : va_D A (wdC ad cI cZ cL J0 rd0 pr0 G0 K0 (wdM ad cI cZ cL J rd pr (0, M.2) ov)) := hD
  refine lv_lconst (v := lZ ((0 : Nat) : Int)) hx hb d_M_lost_5 (by decide) ?_
  refine lv_lstore_n (lv' := [(1, .long (lZ ((0 : Nat) : Int))), (0, .ref (ad 19))]) hx hb d_M_lost_6 rfl hl (by decide) rfl (fun ls hl => ?_)
  refine lv_iconst (v := iZ ((0 : Nat) : Int)) hx hb d_M_lost_7 (by decide) ?_
  refine lv_istore_n (lv' := [(3, .int (iZ ((0 : Nat) : Int))), (1, .long (lZ ((0 : Nat) : Int))), (0, .ref (ad 19))]) hx hb d_M_lost_8 rfl hl (by decide) rfl (fun ls hl => ?_)
  have L9 : ∀ (N9 : Nat) (i : Nat) (H : Heap) (locs : List Loc) (ls : Array Slot), (i ≤ 3) → 3 - i < N9 → va_P D classes (wdC ad cI cZ cL J0 rd0 pr0 G0 K0 (wdM ad cI cZ cL J rd pr (0, M.2) ov)) H → va_D A (wdC ad cI cZ cL J0 rd0 pr0 G0 K0 (wdM ad cI cZ cL J rd pr (0, M.2) ov)) → va_S A s.heap H locs → lv_has ls 4 [(0, .ref (ad 19)), (1, .long (lZ (sLo J pr i))), (3, .int (iZ ((i : Nat) : Int)))] → W p l e (zRm 2 46) s m ([.ref (ad 19)] : List Value).toArray below meth c H locs 0 0 (MQ below (va_Ql (fun r w => ∃ M1 : SM, r = lZ (sLo J pr 3) ∧ w = wdC ad cI cZ cL J0 rd0 pr0 G0 K0 (wdM ad cI cZ cL J rd pr M1 ov) ∧ M1.1 = 0 ∧ MJ J M1) (zB9 D classes (wdC ad cI cZ cL J0 rd0 pr0 G0 K0 (wdM ad cI cZ cL J rd pr M ov))) A) ([.ref (ad 19)] : List Value).toArray s 0 0 A) (F0 m 9 ls []) := by
    intro N9
    induction N9 with
    | zero =>
      intro i H locs ls hi hN9 hP hD hS hl
      exact absurd hN9 (Nat.not_lt_zero _)
    | succ N9 ih9 =>
      intro i H locs ls hi hN9 hP hD hS hl
      have hb1 := sSO_b hI 4 i (jk J)
      have hb2 := hpq i
      refine lv_iload_n hx hb d_M_lost_9 rfl (lv_at hl 2 rfl) ?_
      refine lv_iconst (v := iZ ((3 : Nat) : Int)) hx hb d_M_lost_10 (by decide) ?_
      refine z_icmp_ge (a := ((i : Nat) : Int)) (b := ((3 : Nat) : Int)) (tgt := 37) hx hb (by omega) d_M_lost_11 (by decide) (fun q11 => ?_) (fun q11 => ?_)
      · skip
        refine lv_lload_n hx hb d_M_lost_37 rfl (lv_at hl 1 rfl) ?_
        exact z_lret Z hP hS d_M_lost_38 wdM_map (⟨_, by rw [show i = 3 by omega], rfl, rfl, hM⟩)
      · skip
        refine lv_lload_n hx hb d_M_lost_14 rfl (lv_at hl 1 rfl) ?_
        refine lv_aload_n hx hb d_M_lost_15 rfl (lv_at hl 0 rfl) ?_
        refine va_get (D := D) (ci := 5) (v := .ref (ad 29)) (C := n_M) (T := f_M) (N := 17) hx hb hts in_M hown hK hP 19 rfl rfl 13 (by decide) (hts _ fl_M_38) (fun _ h9 => h9) rfl d_M_lost_16 ?_
        refine lv_iload_n hx hb d_M_lost_19 rfl (lv_at hl 2 rfl) ?_
        refine z_ialdN (f := pr) hx hb hK hP 29 0 rfl rfl (i) (by omega) d_M_lost_20 ?_
        refine z_i2l (a := ((pr (i) : Nat) : Int)) hx hb (by omega) d_M_lost_21 ?_
        refine lv_aload_n hx hb d_M_lost_22 rfl (lv_at hl 0 rfl) ?_
        refine lv_iload_n hx hb d_M_lost_23 rfl (lv_at hl 2 rfl) ?_
        refine z_callVR (As := [.int (iZ ((i : Nat) : Int))]) (rest := [.long (lZ ((pr (i) : Nat) : Int)), .long (lZ (sLo J pr i))]) zTB Z (k_M_sumOf (J := J) (M := (0, M.2)) hI hM (kd := i) (by omega)) ⟨ml_M_84, im_M_sumOf, se_M_sumOf, ini_M, co_M_sumOf⟩ zd_M_sumOf ⟨Nat.le_of_ble_eq_true rfl, Nat.le_of_ble_eq_true rfl⟩ hP hK (ci := 5) (q0 := 19) rfl rfl rfl hl.1 rfl (Nat.le_of_ble_eq_true rfl) d_M_lost_24 ⟨Nat.zero_le _, Nat.zero_le _⟩ ?_
        refine W.eq (g2 := F0 m 27 ls [.int (iZ (sSO J 4 i (jk J))), .long (lZ ((pr (i) : Nat) : Int)), .long (lZ (sLo J pr i))]) rfl ?_
        refine z_i2l (a := sSO J 4 i (jk J)) hx hb (by omega) d_M_lost_27 ?_
        refine z_lmul (a := ((pr (i) : Nat) : Int)) (b := sSO J 4 i (jk J)) hx hb d_M_lost_28 ?_
        refine z_lsub (a := sLo J pr i) (b := ((pr (i) : Nat) : Int) * (sSO J 4 i (jk J))) hx hb d_M_lost_29 ?_
        refine lv_lstore_n (lv' := [(1, .long (lZ ((sLo J pr i) - (((pr (i) : Nat) : Int) * (sSO J 4 i (jk J)))))), (0, .ref (ad 19)), (3, .int (iZ ((i : Nat) : Int)))]) hx hb d_M_lost_30 rfl hl (by decide) rfl (fun ls hl => ?_)
        refine lv_iinc (v := iZ ((i + 1 : Nat) : Int)) (lv' := [(3, .int (iZ ((i + 1 : Nat) : Int))), (1, .long (lZ ((sLo J pr i) - (((pr (i) : Nat) : Int) * (sSO J 4 i (jk J)))))), (0, .ref (ad 19))]) hx hb d_M_lost_31 hl (k := 2) rfl (iZ_inc (i) 1) (by decide) rfl (fun ls hl => ?_)
        refine lv_goto (tgt := 9) hx hb d_M_lost_34 (by decide) ?_
        exact ih9 (i + 1) H locs ls (by omega) (by omega) hP hD hS (lv_sub hl [2, 1, 0] (by rw [show (sLo J pr (i + 1)) = ((sLo J pr i) - (((pr (i) : Nat) : Int) * (sSO J 4 i (jk J)))) from rfl]; rfl))
  exact L9 (3 - 0 + 1) 0 H locs ls (Nat.zero_le _) (by omega) hP hD hS (lv_sub hl [2, 1, 0] rfl)

