/-! The reference's odds and crossings. -/
abbrev ng (row : Nat → Int) : Nat → Int := fun k => -row k
abbrev zr : Nat → Int := fun _ => 0
def mcnt (u v : Nat → Int) (n : Nat) (g : Int) (t : Nat) : Nat := su_to (fun x => if su_Ms u v x n ≤ g then 1 else 0) t
theorem mcnt_s1 {u v : Nat → Int} {n : Nat} {g : Int} {t : Nat} (h : su_Ms u v t n ≤ g) : mcnt u v n g t + 1 = mcnt u v n g (t + 1) := by
  show _ = su_to _ t + (if su_Ms u v t n ≤ g then 1 else 0)
  rw [if_pos h]; rfl
theorem mcnt_s0 {u v : Nat → Int} {n : Nat} {g : Int} {t : Nat} (h : ¬ su_Ms u v t n ≤ g) : mcnt u v n g t + 0 = mcnt u v n g (t + 1) := by
  show _ = su_to _ t + (if su_Ms u v t n ≤ g then 1 else 0)
  rw [if_neg h]; rfl
theorem mcnt_le (u v : Nat → Int) (n : Nat) (g : Int) (t : Nat) : mcnt u v n g t ≤ t := su_to_le (fun j => by split <;> omega) t
theorem mcnt_o {J : SJ} {kd i : Nat} {row : Nat → Int} (h : mI J kd i row) : mcnt (ng row) row (sKO J 4 kd i) (sSO J 4 kd i) (2 ^ sKO J 4 kd i) = sOs J kd i (fun s => if s ≤ sOc J kd i then 1 else 0) := mI_fin h
theorem mcnt_r {J : SJ} {kd i : Nat} {row : Nat → Int} (h : rJ J kd i row) : mcnt row zr (sRn J kd i) (sRc J kd i) (2 ^ sRn J kd i) = sRo J kd i (fun s => if s ≤ sRc J kd i then 1 else 0) := rJ_fin h
/-- the ways at a place of the reference's row -/
def sv (up lo n j : Nat) : Nat := if 17 < j + lo ∧ j < 17 + up then sWk up lo n (j + lo - 17) else 0
theorem sv_out {up lo n j : Nat} (h : ¬ (17 < j + lo ∧ j < 17 + up)) : sv up lo n j = 0 := if_neg h
theorem sv_in {up lo n j : Nat} (h : 17 < j + lo ∧ j < 17 + up) : sv up lo n j = sWk up lo n (j + lo - 17) := if_pos h
theorem sv_0 {up lo : Nat} (hb : 1 ≤ up ∧ up ≤ 16 ∧ 1 ≤ lo ∧ lo ≤ 16) (j : Nat) : sv up lo 0 j = if j = 17 then 1 else 0 := by
  unfold sv
  show (if 17 < j + lo ∧ j < 17 + up then (if j + lo - 17 = lo then 1 else 0) else 0) = _
  by_cases e : j = 17
  · rw [if_pos e, if_pos (by omega), if_pos (by omega)]
  · rw [if_neg e]
    split
    · rw [if_neg (by omega)]
    · rfl
theorem sWk_top {up lo : Nat} (hb : 1 ≤ up ∧ up ≤ 16 ∧ 1 ≤ lo ∧ lo ≤ 16) : ∀ n, sWk up lo n (up + lo) = 0
  | 0 => if_neg (by omega)
  | n + 1 => by
    show (if 1 ≤ up + lo ∧ up + lo < up + lo then _ else sWk up lo n (up + lo)) = 0
    rw [if_neg (by omega), sWk_top hb n]
theorem sv_s {up lo n k : Nat} (hb : 1 ≤ up ∧ up ≤ 16 ∧ 1 ≤ lo ∧ lo ≤ 16) (h : 17 < k + lo ∧ k < 17 + up) : sv up lo n (k - 1) + sv up lo n (k + 1) = sv up lo (n + 1) k := by
  rw [sv_in (n := n + 1) h]
  show _ = (if 1 ≤ k + lo - 17 ∧ k + lo - 17 < up + lo then (if k + lo - 17 = 1 then 0 else sWk up lo n (k + lo - 17 - 1)) + sWk up lo n (k + lo - 17 + 1) else _)
  rw [if_pos (by omega)]
  congr 1
  · by_cases e : k + lo - 17 = 1
    · rw [if_pos e, sv_out (by omega)]
    · rw [if_neg e, sv_in (by omega), show k - 1 + lo - 17 = k + lo - 17 - 1 by omega]
  · by_cases e : k + 1 = 17 + up
    · rw [sv_out (by omega), show k + lo - 17 + 1 = up + lo by omega, sWk_top hb n]
    · rw [sv_in (by omega), show k + 1 + lo - 17 = k + lo - 17 + 1 by omega]
theorem cr_s {up lo g nn co x : Nat} (hb : 1 ≤ up ∧ up ≤ 16 ∧ 1 ≤ lo ∧ lo ≤ 16) (hg : g < nn) (hc : co = sCr up lo g * 2 ^ (nn - g)) (hx : x = sv up lo g (17 + up - 1) + sv up lo g (17 + up + 1)) : co + x * 2 ^ (nn - (g + 1)) = sCr up lo (g + 1) * 2 ^ (nn - (g + 1)) := by
  show _ = (2 * sCr up lo g + sWk up lo g (up + lo - 1)) * 2 ^ (nn - (g + 1))
  rw [hx, sv_in (by omega), sv_out (j := 17 + up + 1) (by omega), Nat.add_zero, show 17 + up - 1 + lo - 17 = up + lo - 1 by omega, Nat.add_mul, hc, show nn - g = nn - (g + 1) + 1 by omega, Nat.pow_succ, Nat.mul_comm 2 (sCr up lo g), Nat.mul_assoc, Nat.mul_comm 2]
set_option maxHeartbeats 4000000 in
set_option maxRecDepth 100000 in
theorem k_M_odds0 {l : Launch} {D : va_G} {ad : Nat → Nat} {cI cZ cL : ClassId} {J J0 : SJ} {rd rd0 : Nat → Int} {pr pr0 : Nat → Nat} {G0 : SH} {K0 : SK} {M : SM} {ov : Nat → Int64} (hI : JI J) (hM : MJ J M) {kd pt : Nat} (hkd : kd < 3) (hpt : pt < 2) : zMl l TB D classes (tysW cI cZ cL) y_M_odds w_M_odds 2 46 [.ref (ad 19), .int (iZ ((kd : Nat) : Int)), .int (iZ ((pt : Nat) : Int))] (wdC ad cI cZ cL J0 rd0 pr0 G0 K0 (wdM ad cI cZ cL J rd pr M ov)) (fun r w => ∃ M1 : SM, r = lZ (sTP ((sOs J kd (jk J) (fun s => if s ≤ sOc J kd (jk J) then 1 else 0) : Nat) : Int) (2 ^ sKO J 4 kd (jk J)) pt) ∧ w = wdC ad cI cZ cL J0 rd0 pr0 G0 K0 (wdM ad cI cZ cL J rd pr M1 ov) ∧ M1.1 = 0 ∧ MJ J M1) := by
  refine z_of (Qc := fun A => va_Ql (fun r w => ∃ M1 : SM, r = lZ (sTP ((sOs J kd (jk J) (fun s => if s ≤ sOc J kd (jk J) then 1 else 0) : Nat) : Int) (2 ^ sKO J 4 kd (jk J)) pt) ∧ w = wdC ad cI cZ cL J0 rd0 pr0 G0 K0 (wdM ad cI cZ cL J rd pr M1 ov) ∧ M1.1 = 0 ∧ MJ J M1) (zB9 D classes (wdC ad cI cZ cL J0 rd0 pr0 G0 K0 (wdM ad cI cZ cL J rd pr M ov))) A) (by decide) (Nat.le_of_ble_eq_true rfl) ?_
  intro p e s m below meth c A ls Z hP hK hD hS hA hl
  obtain ⟨hx, hb, hr, hml, hown, hts, hE, hlocks⟩ := id Z
  have hl : lv_has ls 10 [(0, .ref (ad 19)), (1, .int (iZ ((kd : Nat) : Int))), (2, .int (iZ ((pt : Nat) : Int)))] := hl
  obtain ⟨hn32, hk2, hpr, hct⟩ := id hI
  suffices K9 : ∀ (H : Heap) (locs : List Loc) (ls : Array Slot), va_P D classes (wdC ad cI cZ cL J0 rd0 pr0 G0 K0 (wdM ad cI cZ cL J rd pr M ov)) H → va_D A (wdC ad cI cZ cL J0 rd0 pr0 G0 K0 (wdM ad cI cZ cL J rd pr M ov)) → va_S A s.heap H locs → lv_has ls 10 [(0, .ref (ad 19)), (1, .int (iZ ((kd : Nat) : Int))), (2, .int (iZ ((pt : Nat) : Int)))] → W p l e (zRm 2 46) s m ([.ref (ad 19), .int (iZ ((kd : Nat) : Int)), .int (iZ ((pt : Nat) : Int))] : List Value).toArray below meth c H locs 0 0 (MQ below (va_Ql (fun r w => ∃ M1 : SM, r = lZ (sTP ((sOs J kd (jk J) (fun s => if s ≤ sOc J kd (jk J) then 1 else 0) : Nat) : Int) (2 ^ sKO J 4 kd (jk J)) pt) ∧ w = wdC ad cI cZ cL J0 rd0 pr0 G0 K0 (wdM ad cI cZ cL J rd pr M1 ov) ∧ M1.1 = 0 ∧ MJ J M1) (zB9 D classes (wdC ad cI cZ cL J0 rd0 pr0 G0 K0 (wdM ad cI cZ cL J rd pr M ov))) A) ([.ref (ad 19), .int (iZ ((kd : Nat) : Int)), .int (iZ ((pt : Nat) : Int))] : List Value).toArray s 0 0 A) (F0 m 0 ls []) from K9 s.heap [] ls hP hD hS hl
  clear hP hD hS hl
  intro H locs ls hP hD hS hl
  refine lv_aload_n hx hb d_M_odds_0 rfl (lv_at hl 0 rfl) ?_
  refine lv_iload_n hx hb d_M_odds_1 rfl (lv_at hl 1 rfl) ?_
  refine lv_iconst (v := iZ ((3 : Nat) : Int)) hx hb d_M_odds_2 (by decide) ?_
  refine z_callSR (As := [.int (iZ ((kd : Nat) : Int)), .int (iZ ((3 : Nat) : Int))]) (rest := [.ref (ad 19)]) zTB Z (k_M_isIn (a := ((kd : Nat) : Int)) (b := ((3 : Nat) : Int)) (by omega)) ⟨ml_M_59, sm_M_isIn, ini_M, co_M_isIn⟩ zd_M_isIn ⟨Nat.le_of_ble_eq_true rfl, Nat.le_of_ble_eq_true rfl⟩ hP hK hl.1 rfl (Nat.le_of_ble_eq_true rfl) d_M_odds_3 ⟨Nat.zero_le _, Nat.zero_le _⟩ ?_
  refine W.eq (g2 := F0 m 6 ls [.int (bI (decide (0 ≤ ((kd : Nat) : Int) ∧ ((kd : Nat) : Int) < ((3 : Nat) : Int)))), .ref (ad 19)]) rfl ?_
  refine z_if_eqB (b := decide (0 ≤ ((kd : Nat) : Int) ∧ ((kd : Nat) : Int) < ((3 : Nat) : Int))) (tgt := 21) hx hb d_M_odds_6 (by decide) (fun q6 => ?_) (fun q6 => ?_)
  · skip
    replace q6 := of_decide_eq_false q6
    exfalso; omega
  · skip
    replace q6 := of_decide_eq_true q6
    refine lv_iload_n hx hb d_M_odds_9 rfl (lv_at hl 2 rfl) ?_
    refine lv_iconst (v := iZ ((2 : Nat) : Int)) hx hb d_M_odds_10 (by decide) ?_
    refine z_callSR (As := [.int (iZ ((pt : Nat) : Int)), .int (iZ ((2 : Nat) : Int))]) (rest := [.ref (ad 19)]) zTB Z (k_M_isIn (a := ((pt : Nat) : Int)) (b := ((2 : Nat) : Int)) (by omega)) ⟨ml_M_59, sm_M_isIn, ini_M, co_M_isIn⟩ zd_M_isIn ⟨Nat.le_of_ble_eq_true rfl, Nat.le_of_ble_eq_true rfl⟩ hP hK hl.1 rfl (Nat.le_of_ble_eq_true rfl) d_M_odds_11 ⟨Nat.zero_le _, Nat.zero_le _⟩ ?_
    refine W.eq (g2 := F0 m 14 ls [.int (bI (decide (0 ≤ ((pt : Nat) : Int) ∧ ((pt : Nat) : Int) < ((2 : Nat) : Int)))), .ref (ad 19)]) rfl ?_
    refine z_if_eqB (b := decide (0 ≤ ((pt : Nat) : Int) ∧ ((pt : Nat) : Int) < ((2 : Nat) : Int))) (tgt := 21) hx hb d_M_odds_14 (by decide) (fun q14 => ?_) (fun q14 => ?_)
    · skip
      replace q14 := of_decide_eq_false q14
      exfalso; omega
    · skip
      replace q14 := of_decide_eq_true q14
      refine lv_iconst (v := iZ ((0 : Nat) : Int)) hx hb d_M_odds_17 (by decide) ?_
      refine lv_goto (tgt := 22) hx hb d_M_odds_18 (by decide) ?_
      refine va_put (D := D) (ci := 5) (v := .int (iZ ((0 : Nat) : Int))) (ty := .int) (C := n_M) (T := f_M) (N := 17) hx hb hts in_M ty_M tyo_M nm_M hown hK hP hD hS 19 rfl rfl 0 (by decide) (hts _ fl_M_55) (fun _ h9 => h9) rfl (by decide +kernel) rfl rfl (Nat.le_of_ble_eq_true rfl) d_M_odds_22 (fun H locs hP hD hS => ?_)
      have hP : va_P D classes (wdC ad cI cZ cL J0 rd0 pr0 G0 K0 (wdM ad cI cZ cL J rd pr (0, M.2) ov)) H := hP
      have hD : va_D A (wdC ad cI cZ cL J0 rd0 pr0 G0 K0 (wdM ad cI cZ cL J rd pr (0, M.2) ov)) := hD
      refine lv_aload_n hx hb d_M_odds_25 rfl (lv_at hl 0 rfl) ?_
      refine va_get (D := D) (ci := 5) (v := .int (iZ ((0 : Nat) : Int))) (C := n_M) (T := f_M) (N := 17) hx hb hts in_M hown hK hP 19 rfl rfl 0 (by decide) (hts _ fl_M_55) (fun _ h9 => h9) rfl d_M_odds_26 ?_
      refine z_if_le (a := ((0 : Nat) : Int)) (tgt := 34) hx hb (by omega) d_M_odds_29 (by decide) (fun q29 => ?_) (fun q29 => ?_)
      · skip
        refine lv_iconst (v := iZ ((0 : Nat) : Int)) hx hb d_M_odds_34 (by decide) ?_
        refine lv_istore_n (lv' := [(3, .int (iZ ((0 : Nat) : Int))), (0, .ref (ad 19)), (1, .int (iZ ((kd : Nat) : Int))), (2, .int (iZ ((pt : Nat) : Int)))]) hx hb d_M_odds_35 rfl hl (by decide) rfl (fun ls hl => ?_)
        refine lv_iconst (v := iZ ((0 : Nat) : Int)) hx hb d_M_odds_36 (by decide) ?_
        refine lv_istore (lv' := [(4, .int (iZ ((0 : Nat) : Int))), (3, .int (iZ ((0 : Nat) : Int))), (0, .ref (ad 19)), (1, .int (iZ ((kd : Nat) : Int))), (2, .int (iZ ((pt : Nat) : Int)))]) hx hb d_M_odds_37 hl (by decide) rfl (fun ls hl => ?_)
        have L39 : ∀ (N39 : Nat) (i : Nat) (row : Nat → Int) (H : Heap) (locs : List Loc) (ls : Array Slot), (i ≤ jk J) → (mI J kd i row) → jk J - i < N39 → va_P D classes (wdC ad cI cZ cL J0 rd0 pr0 G0 K0 (wdM ad cI cZ cL J rd pr (0, msh M, mmy M, mla M, mfi M, mse M, row, mwy M, mnx M) ov)) H → va_D A (wdC ad cI cZ cL J0 rd0 pr0 G0 K0 (wdM ad cI cZ cL J rd pr (0, msh M, mmy M, mla M, mfi M, mse M, row, mwy M, mnx M) ov)) → va_S A s.heap H locs → lv_has ls 10 [(0, .ref (ad 19)), (1, .int (iZ ((kd : Nat) : Int))), (2, .int (iZ ((pt : Nat) : Int))), (3, .int (iZ ((sKO J 4 kd i : Nat) : Int))), (4, .int (iZ ((i : Nat) : Int)))] → W p l e (zRm 2 46) s m ([.ref (ad 19), .int (iZ ((kd : Nat) : Int)), .int (iZ ((pt : Nat) : Int))] : List Value).toArray below meth c H locs 0 0 (MQ below (va_Ql (fun r w => ∃ M1 : SM, r = lZ (sTP ((sOs J kd (jk J) (fun s => if s ≤ sOc J kd (jk J) then 1 else 0) : Nat) : Int) (2 ^ sKO J 4 kd (jk J)) pt) ∧ w = wdC ad cI cZ cL J0 rd0 pr0 G0 K0 (wdM ad cI cZ cL J rd pr M1 ov) ∧ M1.1 = 0 ∧ MJ J M1) (zB9 D classes (wdC ad cI cZ cL J0 rd0 pr0 G0 K0 (wdM ad cI cZ cL J rd pr M ov))) A) ([.ref (ad 19), .int (iZ ((kd : Nat) : Int)), .int (iZ ((pt : Nat) : Int))] : List Value).toArray s 0 0 A) (F0 m 39 ls []) := by
          intro N39
          induction N39 with
          | zero =>
            intro i row H locs ls hi hq hN39 hP hD hS hl
            exact absurd hN39 (Nat.not_lt_zero _)
          | succ N39 ih39 =>
            intro i row H locs ls hi hq hN39 hP hD hS hl
            have hle := sKO_le (J := J) 4 kd i
            have hdf := sDf_b hI i kd
            have hso := sSO_b hI 4 kd (jk J)
            refine lv_iload hx hb d_M_odds_39 (lv_at hl 4 rfl) ?_
            refine lv_aload_n hx hb d_M_odds_41 rfl (lv_at hl 0 rfl) ?_
            refine va_get (D := D) (ci := 5) (v := .int (iZ ((jk J : Nat) : Int))) (C := n_M) (T := f_M) (N := 17) hx hb hts in_M hown hK hP 19 rfl rfl 8 (by decide) (hts _ fl_M_70) (fun _ h9 => h9) rfl d_M_odds_42 ?_
            refine z_icmp_ge (a := ((i : Nat) : Int)) (b := ((jk J : Nat) : Int)) (tgt := 80) hx hb (by omega) d_M_odds_45 (by decide) (fun q45 => ?_) (fun q45 => ?_)
            · skip
              have hp16 : 2 ^ sKO J 4 kd i ≤ 2 ^ 16 := two_le (by omega)
              have h2p := Nat.two_pow_pos (sKO J 4 kd i)
              have e9i : i = jk J := by omega
              refine lv_aload_n hx hb d_M_odds_80 rfl (lv_at hl 0 rfl) ?_
              refine lv_iload_n hx hb d_M_odds_81 rfl (lv_at hl 1 rfl) ?_
              refine z_callVR (As := [.int (iZ ((kd : Nat) : Int))]) (rest := []) zTB Z (k_M_sumOf (J := J) (M := (0, msh M, mmy M, mla M, mfi M, mse M, row, mwy M, mnx M)) hI hM (kd := kd) (by omega)) ⟨ml_M_84, im_M_sumOf, se_M_sumOf, ini_M, co_M_sumOf⟩ zd_M_sumOf ⟨Nat.le_of_ble_eq_true rfl, Nat.le_of_ble_eq_true rfl⟩ hP hK (ci := 5) (q0 := 19) rfl rfl rfl hl.1 rfl (Nat.le_of_ble_eq_true rfl) d_M_odds_82 ⟨Nat.zero_le _, Nat.zero_le _⟩ ?_
              refine W.eq (g2 := F0 m 85 ls [.int (iZ (sSO J 4 kd (jk J)))]) rfl ?_
              refine lv_istore (lv' := [(4, .int (iZ (sSO J 4 kd (jk J)))), (0, .ref (ad 19)), (1, .int (iZ ((kd : Nat) : Int))), (2, .int (iZ ((pt : Nat) : Int))), (3, .int (iZ ((sKO J 4 kd i : Nat) : Int)))]) hx hb d_M_odds_85 hl (by decide) rfl (fun ls hl => ?_)
              refine lv_lconst (v := lZ ((0 : Nat) : Int)) hx hb d_M_odds_87 (by decide) ?_
              refine lv_lstore (lv' := [(5, .long (lZ ((0 : Nat) : Int))), (4, .int (iZ (sSO J 4 kd (jk J)))), (0, .ref (ad 19)), (1, .int (iZ ((kd : Nat) : Int))), (2, .int (iZ ((pt : Nat) : Int))), (3, .int (iZ ((sKO J 4 kd i : Nat) : Int)))]) hx hb d_M_odds_88 hl (by decide) rfl (fun ls hl => ?_)
              refine lv_iconst (v := iZ ((0 : Nat) : Int)) hx hb d_M_odds_90 (by decide) ?_
              refine lv_istore (lv' := [(7, .int (iZ ((0 : Nat) : Int))), (5, .long (lZ ((0 : Nat) : Int))), (4, .int (iZ (sSO J 4 kd (jk J)))), (0, .ref (ad 19)), (1, .int (iZ ((kd : Nat) : Int))), (2, .int (iZ ((pt : Nat) : Int))), (3, .int (iZ ((sKO J 4 kd i : Nat) : Int)))]) hx hb d_M_odds_91 hl (by decide) rfl (fun ls hl => ?_)
              have L93 : ∀ (N93 : Nat) (t : Nat) (c9 : Nat) (H : Heap) (locs : List Loc) (ls : Array Slot), (t ≤ 2 ^ (sKO J 4 kd i)) → (c9 = mcnt (ng row) row (sKO J 4 kd i) (sSO J 4 kd (jk J)) t) → 2 ^ (sKO J 4 kd i) - t < N93 → va_P D classes (wdC ad cI cZ cL J0 rd0 pr0 G0 K0 (wdM ad cI cZ cL J rd pr (0, msh M, mmy M, mla M, mfi M, mse M, row, mwy M, mnx M) ov)) H → va_D A (wdC ad cI cZ cL J0 rd0 pr0 G0 K0 (wdM ad cI cZ cL J rd pr (0, msh M, mmy M, mla M, mfi M, mse M, row, mwy M, mnx M) ov)) → va_S A s.heap H locs → lv_has ls 10 [(0, .ref (ad 19)), (1, .int (iZ ((kd : Nat) : Int))), (2, .int (iZ ((pt : Nat) : Int))), (3, .int (iZ ((sKO J 4 kd i : Nat) : Int))), (4, .int (iZ (sSO J 4 kd (jk J)))), (5, .long (lZ ((c9 : Nat) : Int))), (7, .int (iZ ((t : Nat) : Int)))] → W p l e (zRm 2 46) s m ([.ref (ad 19), .int (iZ ((kd : Nat) : Int)), .int (iZ ((pt : Nat) : Int))] : List Value).toArray below meth c H locs 0 0 (MQ below (va_Ql (fun r w => ∃ M1 : SM, r = lZ (sTP ((sOs J kd (jk J) (fun s => if s ≤ sOc J kd (jk J) then 1 else 0) : Nat) : Int) (2 ^ sKO J 4 kd (jk J)) pt) ∧ w = wdC ad cI cZ cL J0 rd0 pr0 G0 K0 (wdM ad cI cZ cL J rd pr M1 ov) ∧ M1.1 = 0 ∧ MJ J M1) (zB9 D classes (wdC ad cI cZ cL J0 rd0 pr0 G0 K0 (wdM ad cI cZ cL J rd pr M ov))) A) ([.ref (ad 19), .int (iZ ((kd : Nat) : Int)), .int (iZ ((pt : Nat) : Int))] : List Value).toArray s 0 0 A) (F0 m 93 ls []) := by
                intro N93
                induction N93 with
                | zero =>
                  intro t c9 H locs ls ht hc hN93 hP hD hS hl
                  exact absurd hN93 (Nat.not_lt_zero _)
                | succ N93 ih93 =>
                  intro t c9 H locs ls ht hc hN93 hP hD hS hl
                  refine lv_iload hx hb d_M_odds_93 (lv_at hl 6 rfl) ?_
                  refine lv_iconst (v := iZ ((1 : Nat) : Int)) hx hb d_M_odds_95 (by decide) ?_
                  refine lv_iload_n hx hb d_M_odds_96 rfl (lv_at hl 3 rfl) ?_
                  refine z_ishl1 (v := sKO J 4 kd i) hx hb (by omega) d_M_odds_97 ?_
                  refine z_icmp_ge (a := ((t : Nat) : Int)) (b := ((2 ^ (sKO J 4 kd i) : Nat) : Int)) (tgt := 176) hx hb (by omega) d_M_odds_98 (by decide) (fun q98 => ?_) (fun q98 => ?_)
                  · skip
                    have hcl : c9 ≤ t := by rw [hc]; exact mcnt_le _ _ _ _ _
                    have hfin : c9 = sOs J kd (jk J) (fun s => if s ≤ sOc J kd (jk J) then 1 else 0) := by rw [hc, show t = 2 ^ sKO J 4 kd i by omega, e9i]; exact mcnt_o (by rw [← e9i]; exact hq)
                    refine lv_lload hx hb d_M_odds_176 (lv_at hl 5 rfl) ?_
                    refine lv_lconst (v := lZ ((1 : Nat) : Int)) hx hb d_M_odds_178 (by decide) ?_
                    refine lv_iload_n hx hb d_M_odds_179 rfl (lv_at hl 3 rfl) ?_
                    refine lv_lshl (v := lZ ((2 ^ (sKO J 4 kd i) : Nat) : Int)) hx hb d_M_odds_180 (lshl_1 (by omega)) ?_
                    refine lv_iload_n hx hb d_M_odds_181 rfl (lv_at hl 2 rfl) ?_
                    refine z_callSR (As := [.long (lZ ((c9 : Nat) : Int)), .long (lZ ((2 ^ (sKO J 4 kd i) : Nat) : Int)), .int (iZ ((pt : Nat) : Int))]) (rest := []) zTB Z (k_M_part (a := ((c9 : Nat) : Int)) (bl := 2 ^ (sKO J 4 kd i)) (pt := pt) (by omega)) ⟨ml_M_87, sm_M_part, ini_M, co_M_part⟩ zd_M_part ⟨Nat.le_of_ble_eq_true rfl, Nat.le_of_ble_eq_true rfl⟩ hP hK hl.1 rfl (Nat.le_of_ble_eq_true rfl) d_M_odds_182 ⟨Nat.zero_le _, Nat.zero_le _⟩ ?_
                    refine W.eq (g2 := F0 m 185 ls [.long (lZ (sTP ((c9 : Nat) : Int) (2 ^ (sKO J 4 kd i)) pt))]) rfl ?_
                    exact z_lret Z hP hS d_M_odds_185 wdM_map (⟨_, by rw [hfin, e9i], rfl, rfl, hM⟩)
                  · skip
                    refine lv_iconst (v := iZ ((0 : Nat) : Int)) hx hb d_M_odds_101 (by decide) ?_
                    refine lv_istore (lv' := [(8, .int (iZ ((0 : Nat) : Int))), (0, .ref (ad 19)), (1, .int (iZ ((kd : Nat) : Int))), (2, .int (iZ ((pt : Nat) : Int))), (3, .int (iZ ((sKO J 4 kd i : Nat) : Int))), (4, .int (iZ (sSO J 4 kd (jk J)))), (5, .long (lZ ((c9 : Nat) : Int))), (7, .int (iZ ((t : Nat) : Int)))]) hx hb d_M_odds_102 hl (by decide) rfl (fun ls hl => ?_)
                    refine lv_iconst (v := iZ ((0 : Nat) : Int)) hx hb d_M_odds_104 (by decide) ?_
                    refine lv_istore (lv' := [(9, .int (iZ ((0 : Nat) : Int))), (8, .int (iZ ((0 : Nat) : Int))), (0, .ref (ad 19)), (1, .int (iZ ((kd : Nat) : Int))), (2, .int (iZ ((pt : Nat) : Int))), (3, .int (iZ ((sKO J 4 kd i : Nat) : Int))), (4, .int (iZ (sSO J 4 kd (jk J)))), (5, .long (lZ ((c9 : Nat) : Int))), (7, .int (iZ ((t : Nat) : Int)))]) hx hb d_M_odds_105 hl (by decide) rfl (fun ls hl => ?_)
                    have L107 : ∀ (N107 : Nat) (j : Nat) (H : Heap) (locs : List Loc) (ls : Array Slot), (j ≤ sKO J 4 kd i) → (sKO J 4 kd i) - j < N107 → va_P D classes (wdC ad cI cZ cL J0 rd0 pr0 G0 K0 (wdM ad cI cZ cL J rd pr (0, msh M, mmy M, mla M, mfi M, mse M, row, mwy M, mnx M) ov)) H → va_D A (wdC ad cI cZ cL J0 rd0 pr0 G0 K0 (wdM ad cI cZ cL J rd pr (0, msh M, mmy M, mla M, mfi M, mse M, row, mwy M, mnx M) ov)) → va_S A s.heap H locs → lv_has ls 10 [(0, .ref (ad 19)), (1, .int (iZ ((kd : Nat) : Int))), (2, .int (iZ ((pt : Nat) : Int))), (3, .int (iZ ((sKO J 4 kd i : Nat) : Int))), (4, .int (iZ (sSO J 4 kd (jk J)))), (5, .long (lZ ((c9 : Nat) : Int))), (7, .int (iZ ((t : Nat) : Int))), (8, .int (iZ (su_Ms (ng row) row t j))), (9, .int (iZ ((j : Nat) : Int)))] → W p l e (zRm 2 46) s m ([.ref (ad 19), .int (iZ ((kd : Nat) : Int)), .int (iZ ((pt : Nat) : Int))] : List Value).toArray below meth c H locs 0 0 (MQ below (va_Ql (fun r w => ∃ M1 : SM, r = lZ (sTP ((sOs J kd (jk J) (fun s => if s ≤ sOc J kd (jk J) then 1 else 0) : Nat) : Int) (2 ^ sKO J 4 kd (jk J)) pt) ∧ w = wdC ad cI cZ cL J0 rd0 pr0 G0 K0 (wdM ad cI cZ cL J rd pr M1 ov) ∧ M1.1 = 0 ∧ MJ J M1) (zB9 D classes (wdC ad cI cZ cL J0 rd0 pr0 G0 K0 (wdM ad cI cZ cL J rd pr M ov))) A) ([.ref (ad 19), .int (iZ ((kd : Nat) : Int)), .int (iZ ((pt : Nat) : Int))] : List Value).toArray s 0 0 A) (F0 m 107 ls []) := by
                      intro N107
                      induction N107 with
                      | zero =>
                        intro j H locs ls hj hN107 hP hD hS hl
                        exact absurd hN107 (Nat.not_lt_zero _)
                      | succ N107 ih107 =>
                        intro j H locs ls hj hN107 hP hD hS hl
                        refine lv_iload hx hb d_M_odds_107 (lv_at hl 8 rfl) ?_
                        refine lv_iload_n hx hb d_M_odds_109 rfl (lv_at hl 3 rfl) ?_
                        refine z_icmp_ge (a := ((j : Nat) : Int)) (b := ((sKO J 4 kd i : Nat) : Int)) (tgt := 153) hx hb (by omega) d_M_odds_110 (by decide) (fun q110 => ?_) (fun q110 => ?_)
                        · skip
                          have e9 : j = sKO J 4 kd i := by omega
                          have hmj : su_Ms (ng row) row t j = su_Ms (ng row) row t (sKO J 4 kd i) := by rw [e9]
                          have hmb := su_Ms_b (u := ng row) (v := row) (t := t) (sKO J 4 kd i) (fun k hk => by have hq9 := hq.1 k hk; show -1000 ≤ -row k ∧ -row k ≤ 1000 ∧ -1000 ≤ row k ∧ row k ≤ 1000; omega)
                          refine lv_lload hx hb d_M_odds_153 (lv_at hl 5 rfl) ?_
                          refine lv_iload hx hb d_M_odds_155 (lv_at hl 7 rfl) ?_
                          refine lv_iload hx hb d_M_odds_157 (lv_at hl 4 rfl) ?_
                          refine z_icmp_gt (a := su_Ms (ng row) row t j) (b := sSO J 4 kd (jk J)) (tgt := 166) hx hb (by omega) d_M_odds_159 (by decide) (fun q159 => ?_) (fun q159 => ?_)
                          · skip
                            refine lv_lconst (v := lZ ((0 : Nat) : Int)) hx hb d_M_odds_166 (by decide) ?_
                            refine z_laddN (u := c9) (v := 0) hx hb d_M_odds_167 ?_
                            refine lv_lstore (lv' := [(5, .long (lZ ((c9 + 0 : Nat) : Int))), (0, .ref (ad 19)), (1, .int (iZ ((kd : Nat) : Int))), (2, .int (iZ ((pt : Nat) : Int))), (3, .int (iZ ((sKO J 4 kd i : Nat) : Int))), (4, .int (iZ (sSO J 4 kd (jk J)))), (7, .int (iZ ((t : Nat) : Int))), (8, .int (iZ (su_Ms (ng row) row t j))), (9, .int (iZ ((j : Nat) : Int)))]) hx hb d_M_odds_168 hl (by decide) rfl (fun ls hl => ?_)
                            refine lv_iinc (v := iZ ((t + 1 : Nat) : Int)) (lv' := [(7, .int (iZ ((t + 1 : Nat) : Int))), (5, .long (lZ ((c9 + 0 : Nat) : Int))), (0, .ref (ad 19)), (1, .int (iZ ((kd : Nat) : Int))), (2, .int (iZ ((pt : Nat) : Int))), (3, .int (iZ ((sKO J 4 kd i : Nat) : Int))), (4, .int (iZ (sSO J 4 kd (jk J)))), (8, .int (iZ (su_Ms (ng row) row t j))), (9, .int (iZ ((j : Nat) : Int)))]) hx hb d_M_odds_170 hl (k := 6) rfl (iZ_inc (t) 1) (by decide) rfl (fun ls hl => ?_)
                            refine lv_goto (tgt := 93) hx hb d_M_odds_173 (by decide) ?_
                            exact ih93 (t + 1) (c9 + 0) H locs ls (by omega) (by rw [hc]; first | exact mcnt_s1 (by omega) | exact mcnt_s0 (by omega)) (by omega) hP hD hS (lv_sub hl [2, 3, 4, 5, 6, 1, 0] rfl)
                          · skip
                            refine lv_lconst (v := lZ ((1 : Nat) : Int)) hx hb d_M_odds_162 (by decide) ?_
                            refine lv_goto (tgt := 167) hx hb d_M_odds_163 (by decide) ?_
                            refine z_laddN (u := c9) (v := 1) hx hb d_M_odds_167 ?_
                            refine lv_lstore (lv' := [(5, .long (lZ ((c9 + 1 : Nat) : Int))), (0, .ref (ad 19)), (1, .int (iZ ((kd : Nat) : Int))), (2, .int (iZ ((pt : Nat) : Int))), (3, .int (iZ ((sKO J 4 kd i : Nat) : Int))), (4, .int (iZ (sSO J 4 kd (jk J)))), (7, .int (iZ ((t : Nat) : Int))), (8, .int (iZ (su_Ms (ng row) row t j))), (9, .int (iZ ((j : Nat) : Int)))]) hx hb d_M_odds_168 hl (by decide) rfl (fun ls hl => ?_)
                            refine lv_iinc (v := iZ ((t + 1 : Nat) : Int)) (lv' := [(7, .int (iZ ((t + 1 : Nat) : Int))), (5, .long (lZ ((c9 + 1 : Nat) : Int))), (0, .ref (ad 19)), (1, .int (iZ ((kd : Nat) : Int))), (2, .int (iZ ((pt : Nat) : Int))), (3, .int (iZ ((sKO J 4 kd i : Nat) : Int))), (4, .int (iZ (sSO J 4 kd (jk J)))), (8, .int (iZ (su_Ms (ng row) row t j))), (9, .int (iZ ((j : Nat) : Int)))]) hx hb d_M_odds_170 hl (k := 6) rfl (iZ_inc (t) 1) (by decide) rfl (fun ls hl => ?_)
                            refine lv_goto (tgt := 93) hx hb d_M_odds_173 (by decide) ?_
                            exact ih93 (t + 1) (c9 + 1) H locs ls (by omega) (by rw [hc]; first | exact mcnt_s1 (by omega) | exact mcnt_s0 (by omega)) (by omega) hP hD hS (lv_sub hl [2, 3, 4, 5, 6, 1, 0] rfl)
                        · skip
                          refine lv_iload hx hb d_M_odds_113 (lv_at hl 7 rfl) ?_
                          refine lv_iload hx hb d_M_odds_115 (lv_at hl 6 rfl) ?_
                          refine lv_iload hx hb d_M_odds_117 (lv_at hl 8 rfl) ?_
                          refine z_ishrN (u := t) (v := j) hx hb (by omega) d_M_odds_119 ?_
                          refine lv_iconst (v := iZ ((1 : Nat) : Int)) hx hb d_M_odds_120 (by decide) ?_
                          refine z_iand1 (u := t / 2 ^ j) hx hb (Nat.lt_of_le_of_lt (Nat.div_le_self _ _) (by omega)) d_M_odds_121 ?_
                          have hmb9 := mbt_le t j
                          refine z_topZ (b := ((mbt t j : Nat) : Int)) (rfl) ?_
                          refine lv_iconst (v := iZ ((1 : Nat) : Int)) hx hb d_M_odds_122 (by decide) ?_
                          refine z_icmp_ne (a := ((mbt t j : Nat) : Int)) (b := ((1 : Nat) : Int)) (tgt := 137) hx hb (by omega) d_M_odds_123 (by decide) (fun q123 => ?_) (fun q123 => ?_)
                          · skip
                            refine lv_aload_n hx hb d_M_odds_137 rfl (lv_at hl 0 rfl) ?_
                            refine va_get (D := D) (ci := 5) (v := .ref (ad 30)) (C := n_M) (T := f_M) (N := 17) hx hb hts in_M hown hK hP 19 rfl rfl 14 (by decide) (hts _ fl_M_41) (fun _ h9 => h9) rfl d_M_odds_138 ?_
                            refine lv_iload hx hb d_M_odds_141 (lv_at hl 8 rfl) ?_
                            refine z_iald (f := row) hx hb hK hP 30 0 rfl rfl (j) (by omega) d_M_odds_143 ?_
                            refine z_iadd (a := su_Ms (ng row) row t j) (b := row (j)) hx hb d_M_odds_144 ?_
                            refine lv_istore (lv' := [(8, .int (iZ ((su_Ms (ng row) row t j) + (row (j))))), (0, .ref (ad 19)), (1, .int (iZ ((kd : Nat) : Int))), (2, .int (iZ ((pt : Nat) : Int))), (3, .int (iZ ((sKO J 4 kd i : Nat) : Int))), (4, .int (iZ (sSO J 4 kd (jk J)))), (5, .long (lZ ((c9 : Nat) : Int))), (7, .int (iZ ((t : Nat) : Int))), (9, .int (iZ ((j : Nat) : Int)))]) hx hb d_M_odds_145 hl (by decide) rfl (fun ls hl => ?_)
                            refine lv_iinc (v := iZ ((j + 1 : Nat) : Int)) (lv' := [(9, .int (iZ ((j + 1 : Nat) : Int))), (8, .int (iZ ((su_Ms (ng row) row t j) + (row (j))))), (0, .ref (ad 19)), (1, .int (iZ ((kd : Nat) : Int))), (2, .int (iZ ((pt : Nat) : Int))), (3, .int (iZ ((sKO J 4 kd i : Nat) : Int))), (4, .int (iZ (sSO J 4 kd (jk J)))), (5, .long (lZ ((c9 : Nat) : Int))), (7, .int (iZ ((t : Nat) : Int)))]) hx hb d_M_odds_147 hl (k := 8) rfl (iZ_inc (j) 1) (by decide) rfl (fun ls hl => ?_)
                            refine lv_goto (tgt := 107) hx hb d_M_odds_150 (by decide) ?_
                            exact ih107 (j + 1) H locs ls (by omega) (by omega) hP hD hS (lv_sub hl [2, 3, 4, 5, 6, 7, 8, 1, 0] (by rw [show (su_Ms (ng row) row t (j + 1)) = ((su_Ms (ng row) row t j) + (row (j))) from by show su_Ms (ng row) row t j + (if mbt t j = 1 then (ng row) j else row j) = _; first | (rw [if_pos (by omega)]; done) | (rw [if_neg (by omega)]; done) | (rw [if_neg (by omega)]; rfl)]; rfl))
                          · skip
                            refine lv_aload_n hx hb d_M_odds_126 rfl (lv_at hl 0 rfl) ?_
                            refine va_get (D := D) (ci := 5) (v := .ref (ad 30)) (C := n_M) (T := f_M) (N := 17) hx hb hts in_M hown hK hP 19 rfl rfl 14 (by decide) (hts _ fl_M_41) (fun _ h9 => h9) rfl d_M_odds_127 ?_
                            refine lv_iload hx hb d_M_odds_130 (lv_at hl 8 rfl) ?_
                            refine z_iald (f := row) hx hb hK hP 30 0 rfl rfl (j) (by omega) d_M_odds_132 ?_
                            refine z_ineg (a := row (j)) hx hb d_M_odds_133 ?_
                            refine lv_goto (tgt := 144) hx hb d_M_odds_134 (by decide) ?_
                            refine z_iadd (a := su_Ms (ng row) row t j) (b := -(row (j))) hx hb d_M_odds_144 ?_
                            refine lv_istore (lv' := [(8, .int (iZ ((su_Ms (ng row) row t j) + (-(row (j)))))), (0, .ref (ad 19)), (1, .int (iZ ((kd : Nat) : Int))), (2, .int (iZ ((pt : Nat) : Int))), (3, .int (iZ ((sKO J 4 kd i : Nat) : Int))), (4, .int (iZ (sSO J 4 kd (jk J)))), (5, .long (lZ ((c9 : Nat) : Int))), (7, .int (iZ ((t : Nat) : Int))), (9, .int (iZ ((j : Nat) : Int)))]) hx hb d_M_odds_145 hl (by decide) rfl (fun ls hl => ?_)
                            refine lv_iinc (v := iZ ((j + 1 : Nat) : Int)) (lv' := [(9, .int (iZ ((j + 1 : Nat) : Int))), (8, .int (iZ ((su_Ms (ng row) row t j) + (-(row (j)))))), (0, .ref (ad 19)), (1, .int (iZ ((kd : Nat) : Int))), (2, .int (iZ ((pt : Nat) : Int))), (3, .int (iZ ((sKO J 4 kd i : Nat) : Int))), (4, .int (iZ (sSO J 4 kd (jk J)))), (5, .long (lZ ((c9 : Nat) : Int))), (7, .int (iZ ((t : Nat) : Int)))]) hx hb d_M_odds_147 hl (k := 8) rfl (iZ_inc (j) 1) (by decide) rfl (fun ls hl => ?_)
                            refine lv_goto (tgt := 107) hx hb d_M_odds_150 (by decide) ?_
                            exact ih107 (j + 1) H locs ls (by omega) (by omega) hP hD hS (lv_sub hl [2, 3, 4, 5, 6, 7, 8, 1, 0] (by rw [show (su_Ms (ng row) row t (j + 1)) = ((su_Ms (ng row) row t j) + (-(row (j)))) from by show su_Ms (ng row) row t j + (if mbt t j = 1 then (ng row) j else row j) = _; first | (rw [if_pos (by omega)]; done) | (rw [if_neg (by omega)]; done) | (rw [if_neg (by omega)]; rfl)]; rfl))
                    exact L107 ((sKO J 4 kd i) - 0 + 1) 0 H locs ls (Nat.zero_le _) (by omega) hP hD hS (lv_sub hl [2, 3, 4, 5, 6, 7, 8, 1, 0] rfl)
              exact L93 (2 ^ (sKO J 4 kd i) - 0 + 1) 0 0 H locs ls (Nat.zero_le _) rfl (by omega) hP hD hS (lv_sub hl [3, 4, 5, 6, 2, 1, 0] rfl)
            · skip
              refine lv_aload_n hx hb d_M_odds_48 rfl (lv_at hl 0 rfl) ?_
              refine lv_iload hx hb d_M_odds_49 (lv_at hl 4 rfl) ?_
              refine lv_iload_n hx hb d_M_odds_51 rfl (lv_at hl 1 rfl) ?_
              refine z_callVR (As := [.int (iZ ((i : Nat) : Int)), .int (iZ ((kd : Nat) : Int))]) (rest := []) zTB Z (k_M_isKept (J := J) (M := (0, msh M, mmy M, mla M, mfi M, mse M, row, mwy M, mnx M)) hI hM (pp := i) (kd := kd) (by omega) (by omega)) ⟨ml_M_77, im_M_isKept, se_M_isKept, ini_M, co_M_isKept⟩ zd_M_isKept ⟨Nat.le_of_ble_eq_true rfl, Nat.le_of_ble_eq_true rfl⟩ hP hK (ci := 5) (q0 := 19) rfl rfl rfl hl.1 rfl (Nat.le_of_ble_eq_true rfl) d_M_odds_52 ⟨Nat.zero_le _, Nat.zero_le _⟩ ?_
              refine W.eq (g2 := F0 m 55 ls [.int (bI (sKp J i kd))]) rfl ?_
              refine z_if_eqB (b := sKp J i kd) (tgt := 74) hx hb d_M_odds_55 (by decide) (fun q55 => ?_) (fun q55 => ?_)
              · skip
                refine lv_iinc (v := iZ ((i + 1 : Nat) : Int)) (lv' := [(4, .int (iZ ((i + 1 : Nat) : Int))), (0, .ref (ad 19)), (1, .int (iZ ((kd : Nat) : Int))), (2, .int (iZ ((pt : Nat) : Int))), (3, .int (iZ ((sKO J 4 kd i : Nat) : Int)))]) hx hb d_M_odds_74 hl (k := 4) rfl (iZ_inc (i) 1) (by decide) rfl (fun ls hl => ?_)
                refine lv_goto (tgt := 39) hx hb d_M_odds_77 (by decide) ?_
                exact ih39 (i + 1) row H locs ls (by omega) (mI_d hq q55) (by omega) hP hD hS (lv_sub hl [1, 2, 3, 4, 0] (by rw [show (sKO J 4 kd (i + 1)) = (sKO J 4 kd i) from by first | exact sKO_k q55 | exact sKO_d q55]; rfl))
              · skip
                refine lv_aload_n hx hb d_M_odds_58 rfl (lv_at hl 0 rfl) ?_
                refine va_get (D := D) (ci := 5) (v := .ref (ad 30)) (C := n_M) (T := f_M) (N := 17) hx hb hts in_M hown hK hP 19 rfl rfl 14 (by decide) (hts _ fl_M_41) (fun _ h9 => h9) rfl d_M_odds_59 ?_
                refine lv_iload_n hx hb d_M_odds_62 rfl (lv_at hl 3 rfl) ?_
                refine lv_aload_n hx hb d_M_odds_63 rfl (lv_at hl 0 rfl) ?_
                refine lv_iload hx hb d_M_odds_64 (lv_at hl 4 rfl) ?_
                refine lv_iload_n hx hb d_M_odds_66 rfl (lv_at hl 1 rfl) ?_
                refine z_callVR (As := [.int (iZ ((i : Nat) : Int)), .int (iZ ((kd : Nat) : Int))]) (rest := [.int (iZ ((sKO J 4 kd i : Nat) : Int)), .ref (ad 30)]) zTB Z (k_M_by (J := J) (M := (0, msh M, mmy M, mla M, mfi M, mse M, row, mwy M, mnx M)) hI hM (pp := i) (kd := kd) (by omega) (by omega)) ⟨ml_M_73, im_M_by, se_M_by, ini_M, co_M_by⟩ zd_M_by ⟨Nat.le_of_ble_eq_true rfl, Nat.le_of_ble_eq_true rfl⟩ hP hK (ci := 5) (q0 := 19) rfl rfl rfl hl.1 rfl (Nat.le_of_ble_eq_true rfl) d_M_odds_67 ⟨Nat.zero_le _, Nat.zero_le _⟩ ?_
                refine W.eq (g2 := F0 m 70 ls [.int (iZ (sDf J i kd)), .int (iZ ((sKO J 4 kd i : Nat) : Int)), .ref (ad 30)]) rfl ?_
                refine z_iast (f := row) (v := sDf J i kd) hx hb hK hP hD hS 30 0 rfl rfl (sKO J 4 kd i) (by omega) d_M_odds_70 (fun H locs hP hD hS => ?_)
                have hP : va_P D classes (wdC ad cI cZ cL J0 rd0 pr0 G0 K0 (wdM ad cI cZ cL J rd pr (0, msh M, mmy M, mla M, mfi M, mse M, (zu row (sKO J 4 kd i) (sDf J i kd)), mwy M, mnx M) ov)) H := hP
                have hD : va_D A (wdC ad cI cZ cL J0 rd0 pr0 G0 K0 (wdM ad cI cZ cL J rd pr (0, msh M, mmy M, mla M, mfi M, mse M, (zu row (sKO J 4 kd i) (sDf J i kd)), mwy M, mnx M) ov)) := hD
                refine lv_iinc (v := iZ ((sKO J 4 kd i + 1 : Nat) : Int)) (lv' := [(3, .int (iZ ((sKO J 4 kd i + 1 : Nat) : Int))), (0, .ref (ad 19)), (1, .int (iZ ((kd : Nat) : Int))), (2, .int (iZ ((pt : Nat) : Int))), (4, .int (iZ ((i : Nat) : Int)))]) hx hb d_M_odds_71 hl (k := 3) rfl (iZ_inc (sKO J 4 kd i) 1) (by decide) rfl (fun ls hl => ?_)
                refine lv_iinc (v := iZ ((i + 1 : Nat) : Int)) (lv' := [(4, .int (iZ ((i + 1 : Nat) : Int))), (3, .int (iZ ((sKO J 4 kd i + 1 : Nat) : Int))), (0, .ref (ad 19)), (1, .int (iZ ((kd : Nat) : Int))), (2, .int (iZ ((pt : Nat) : Int)))]) hx hb d_M_odds_74 hl (k := 4) rfl (iZ_inc (i) 1) (by decide) rfl (fun ls hl => ?_)
                refine lv_goto (tgt := 39) hx hb d_M_odds_77 (by decide) ?_
                exact ih39 (i + 1) (zu row (sKO J 4 kd i) (sDf J i kd)) H locs ls (by omega) (mI_k hq q55 hdf) (by omega) hP hD hS (lv_sub hl [2, 3, 4, 1, 0] (by rw [show (sKO J 4 kd (i + 1)) = (sKO J 4 kd i + 1) from by first | exact sKO_k q55 | exact sKO_d q55]; rfl))
        exact L39 (jk J - 0 + 1) 0 (mrw M) H locs ls (Nat.zero_le _) (mI_0 J kd _) (by omega) hP hD hS (lv_sub hl [2, 3, 4, 1, 0] rfl)
      · skip
        exfalso; omega

set_option maxHeartbeats 4000000 in
set_option maxRecDepth 100000 in
theorem k_M_rankOdds0 {l : Launch} {D : va_G} {ad : Nat → Nat} {cI cZ cL : ClassId} {J J0 : SJ} {rd rd0 : Nat → Int} {pr pr0 : Nat → Nat} {G0 : SH} {K0 : SK} {M : SM} {ov : Nat → Int64} (hI : JI J) (hM : MJ J M) {kd pt : Nat} (hkd : kd < 3) (hpt : pt < 2) : zMl l TB D classes (tysW cI cZ cL) y_M_rankOdds w_M_rankOdds 3 70 [.ref (ad 19), .int (iZ ((kd : Nat) : Int)), .int (iZ ((pt : Nat) : Int))] (wdC ad cI cZ cL J0 rd0 pr0 G0 K0 (wdM ad cI cZ cL J rd pr M ov)) (fun r w => ∃ M1 : SM, r = lZ (sTP ((sRo J kd (jk J) (fun s => if s ≤ sRc J kd (jk J) then 1 else 0) : Nat) : Int) (2 ^ sRn J kd (jk J)) pt) ∧ w = wdC ad cI cZ cL J0 rd0 pr0 G0 K0 (wdM ad cI cZ cL J rd pr M1 ov) ∧ M1.1 = 0 ∧ MJ J M1) := by
  refine z_of (Qc := fun A => va_Ql (fun r w => ∃ M1 : SM, r = lZ (sTP ((sRo J kd (jk J) (fun s => if s ≤ sRc J kd (jk J) then 1 else 0) : Nat) : Int) (2 ^ sRn J kd (jk J)) pt) ∧ w = wdC ad cI cZ cL J0 rd0 pr0 G0 K0 (wdM ad cI cZ cL J rd pr M1 ov) ∧ M1.1 = 0 ∧ MJ J M1) (zB9 D classes (wdC ad cI cZ cL J0 rd0 pr0 G0 K0 (wdM ad cI cZ cL J rd pr M ov))) A) (by decide) (Nat.le_of_ble_eq_true rfl) ?_
  intro p e s m below meth c A ls Z hP hK hD hS hA hl
  obtain ⟨hx, hb, hr, hml, hown, hts, hE, hlocks⟩ := id Z
  have hl : lv_has ls 10 [(0, .ref (ad 19)), (1, .int (iZ ((kd : Nat) : Int))), (2, .int (iZ ((pt : Nat) : Int)))] := hl
  obtain ⟨hn32, hk2, hpr, hct⟩ := id hI
  suffices K9 : ∀ (H : Heap) (locs : List Loc) (ls : Array Slot), va_P D classes (wdC ad cI cZ cL J0 rd0 pr0 G0 K0 (wdM ad cI cZ cL J rd pr M ov)) H → va_D A (wdC ad cI cZ cL J0 rd0 pr0 G0 K0 (wdM ad cI cZ cL J rd pr M ov)) → va_S A s.heap H locs → lv_has ls 10 [(0, .ref (ad 19)), (1, .int (iZ ((kd : Nat) : Int))), (2, .int (iZ ((pt : Nat) : Int)))] → W p l e (zRm 3 70) s m ([.ref (ad 19), .int (iZ ((kd : Nat) : Int)), .int (iZ ((pt : Nat) : Int))] : List Value).toArray below meth c H locs 0 0 (MQ below (va_Ql (fun r w => ∃ M1 : SM, r = lZ (sTP ((sRo J kd (jk J) (fun s => if s ≤ sRc J kd (jk J) then 1 else 0) : Nat) : Int) (2 ^ sRn J kd (jk J)) pt) ∧ w = wdC ad cI cZ cL J0 rd0 pr0 G0 K0 (wdM ad cI cZ cL J rd pr M1 ov) ∧ M1.1 = 0 ∧ MJ J M1) (zB9 D classes (wdC ad cI cZ cL J0 rd0 pr0 G0 K0 (wdM ad cI cZ cL J rd pr M ov))) A) ([.ref (ad 19), .int (iZ ((kd : Nat) : Int)), .int (iZ ((pt : Nat) : Int))] : List Value).toArray s 0 0 A) (F0 m 0 ls []) from K9 s.heap [] ls hP hD hS hl
  clear hP hD hS hl
  intro H locs ls hP hD hS hl
  refine lv_aload_n hx hb d_M_rankOdds_0 rfl (lv_at hl 0 rfl) ?_
  refine lv_iload_n hx hb d_M_rankOdds_1 rfl (lv_at hl 1 rfl) ?_
  refine lv_iconst (v := iZ ((3 : Nat) : Int)) hx hb d_M_rankOdds_2 (by decide) ?_
  refine z_callSR (As := [.int (iZ ((kd : Nat) : Int)), .int (iZ ((3 : Nat) : Int))]) (rest := [.ref (ad 19)]) zTB Z (k_M_isIn (a := ((kd : Nat) : Int)) (b := ((3 : Nat) : Int)) (by omega)) ⟨ml_M_59, sm_M_isIn, ini_M, co_M_isIn⟩ zd_M_isIn ⟨Nat.le_of_ble_eq_true rfl, Nat.le_of_ble_eq_true rfl⟩ hP hK hl.1 rfl (Nat.le_of_ble_eq_true rfl) d_M_rankOdds_3 ⟨Nat.zero_le _, Nat.zero_le _⟩ ?_
  refine W.eq (g2 := F0 m 6 ls [.int (bI (decide (0 ≤ ((kd : Nat) : Int) ∧ ((kd : Nat) : Int) < ((3 : Nat) : Int)))), .ref (ad 19)]) rfl ?_
  refine z_if_eqB (b := decide (0 ≤ ((kd : Nat) : Int) ∧ ((kd : Nat) : Int) < ((3 : Nat) : Int))) (tgt := 21) hx hb d_M_rankOdds_6 (by decide) (fun q6 => ?_) (fun q6 => ?_)
  · skip
    replace q6 := of_decide_eq_false q6
    exfalso; omega
  · skip
    replace q6 := of_decide_eq_true q6
    refine lv_iload_n hx hb d_M_rankOdds_9 rfl (lv_at hl 2 rfl) ?_
    refine lv_iconst (v := iZ ((2 : Nat) : Int)) hx hb d_M_rankOdds_10 (by decide) ?_
    refine z_callSR (As := [.int (iZ ((pt : Nat) : Int)), .int (iZ ((2 : Nat) : Int))]) (rest := [.ref (ad 19)]) zTB Z (k_M_isIn (a := ((pt : Nat) : Int)) (b := ((2 : Nat) : Int)) (by omega)) ⟨ml_M_59, sm_M_isIn, ini_M, co_M_isIn⟩ zd_M_isIn ⟨Nat.le_of_ble_eq_true rfl, Nat.le_of_ble_eq_true rfl⟩ hP hK hl.1 rfl (Nat.le_of_ble_eq_true rfl) d_M_rankOdds_11 ⟨Nat.zero_le _, Nat.zero_le _⟩ ?_
    refine W.eq (g2 := F0 m 14 ls [.int (bI (decide (0 ≤ ((pt : Nat) : Int) ∧ ((pt : Nat) : Int) < ((2 : Nat) : Int)))), .ref (ad 19)]) rfl ?_
    refine z_if_eqB (b := decide (0 ≤ ((pt : Nat) : Int) ∧ ((pt : Nat) : Int) < ((2 : Nat) : Int))) (tgt := 21) hx hb d_M_rankOdds_14 (by decide) (fun q14 => ?_) (fun q14 => ?_)
    · skip
      replace q14 := of_decide_eq_false q14
      exfalso; omega
    · skip
      replace q14 := of_decide_eq_true q14
      refine lv_iconst (v := iZ ((0 : Nat) : Int)) hx hb d_M_rankOdds_17 (by decide) ?_
      refine lv_goto (tgt := 22) hx hb d_M_rankOdds_18 (by decide) ?_
      refine va_put (D := D) (ci := 5) (v := .int (iZ ((0 : Nat) : Int))) (ty := .int) (C := n_M) (T := f_M) (N := 17) hx hb hts in_M ty_M tyo_M nm_M hown hK hP hD hS 19 rfl rfl 0 (by decide) (hts _ fl_M_55) (fun _ h9 => h9) rfl (by decide +kernel) rfl rfl (Nat.le_of_ble_eq_true rfl) d_M_rankOdds_22 (fun H locs hP hD hS => ?_)
      have hP : va_P D classes (wdC ad cI cZ cL J0 rd0 pr0 G0 K0 (wdM ad cI cZ cL J rd pr (0, M.2) ov)) H := hP
      have hD : va_D A (wdC ad cI cZ cL J0 rd0 pr0 G0 K0 (wdM ad cI cZ cL J rd pr (0, M.2) ov)) := hD
      refine lv_aload_n hx hb d_M_rankOdds_25 rfl (lv_at hl 0 rfl) ?_
      refine va_get (D := D) (ci := 5) (v := .int (iZ ((0 : Nat) : Int))) (C := n_M) (T := f_M) (N := 17) hx hb hts in_M hown hK hP 19 rfl rfl 0 (by decide) (hts _ fl_M_55) (fun _ h9 => h9) rfl d_M_rankOdds_26 ?_
      refine z_if_le (a := ((0 : Nat) : Int)) (tgt := 34) hx hb (by omega) d_M_rankOdds_29 (by decide) (fun q29 => ?_) (fun q29 => ?_)
      · skip
        refine lv_iconst (v := iZ ((0 : Nat) : Int)) hx hb d_M_rankOdds_34 (by decide) ?_
        refine lv_istore_n (lv' := [(3, .int (iZ ((0 : Nat) : Int))), (0, .ref (ad 19)), (1, .int (iZ ((kd : Nat) : Int))), (2, .int (iZ ((pt : Nat) : Int)))]) hx hb d_M_rankOdds_35 rfl hl (by decide) rfl (fun ls hl => ?_)
        refine lv_iconst (v := iZ ((0 : Nat) : Int)) hx hb d_M_rankOdds_36 (by decide) ?_
        refine lv_istore (lv' := [(4, .int (iZ ((0 : Nat) : Int))), (3, .int (iZ ((0 : Nat) : Int))), (0, .ref (ad 19)), (1, .int (iZ ((kd : Nat) : Int))), (2, .int (iZ ((pt : Nat) : Int)))]) hx hb d_M_rankOdds_37 hl (by decide) rfl (fun ls hl => ?_)
        refine lv_iconst (v := iZ ((0 : Nat) : Int)) hx hb d_M_rankOdds_39 (by decide) ?_
        refine lv_istore (lv' := [(5, .int (iZ ((0 : Nat) : Int))), (4, .int (iZ ((0 : Nat) : Int))), (3, .int (iZ ((0 : Nat) : Int))), (0, .ref (ad 19)), (1, .int (iZ ((kd : Nat) : Int))), (2, .int (iZ ((pt : Nat) : Int)))]) hx hb d_M_rankOdds_40 hl (by decide) rfl (fun ls hl => ?_)
        have L42 : ∀ (N42 : Nat) (i : Nat) (row : Nat → Int) (H : Heap) (locs : List Loc) (ls : Array Slot), (i ≤ jk J) → (rJ J kd i row) → jk J - i < N42 → va_P D classes (wdC ad cI cZ cL J0 rd0 pr0 G0 K0 (wdM ad cI cZ cL J rd pr (0, msh M, mmy M, mla M, mfi M, mse M, row, mwy M, mnx M) ov)) H → va_D A (wdC ad cI cZ cL J0 rd0 pr0 G0 K0 (wdM ad cI cZ cL J rd pr (0, msh M, mmy M, mla M, mfi M, mse M, row, mwy M, mnx M) ov)) → va_S A s.heap H locs → lv_has ls 10 [(0, .ref (ad 19)), (1, .int (iZ ((kd : Nat) : Int))), (2, .int (iZ ((pt : Nat) : Int))), (3, .int (iZ ((sRn J kd i : Nat) : Int))), (4, .int (iZ (sRc J kd i))), (5, .int (iZ ((i : Nat) : Int)))] → W p l e (zRm 3 70) s m ([.ref (ad 19), .int (iZ ((kd : Nat) : Int)), .int (iZ ((pt : Nat) : Int))] : List Value).toArray below meth c H locs 0 0 (MQ below (va_Ql (fun r w => ∃ M1 : SM, r = lZ (sTP ((sRo J kd (jk J) (fun s => if s ≤ sRc J kd (jk J) then 1 else 0) : Nat) : Int) (2 ^ sRn J kd (jk J)) pt) ∧ w = wdC ad cI cZ cL J0 rd0 pr0 G0 K0 (wdM ad cI cZ cL J rd pr M1 ov) ∧ M1.1 = 0 ∧ MJ J M1) (zB9 D classes (wdC ad cI cZ cL J0 rd0 pr0 G0 K0 (wdM ad cI cZ cL J rd pr M ov))) A) ([.ref (ad 19), .int (iZ ((kd : Nat) : Int)), .int (iZ ((pt : Nat) : Int))] : List Value).toArray s 0 0 A) (F0 m 42 ls []) := by
          intro N42
          induction N42 with
          | zero =>
            intro i row H locs ls hi hq hN42 hP hD hS hl
            exact absurd hN42 (Nat.not_lt_zero _)
          | succ N42 ih42 =>
            intro i row H locs ls hi hq hN42 hP hD hS hl
            have hle := sRn_le J kd i
            have hdf := sDf_b hI i kd
            have hso := sRc_b (J := J) (by omega) kd i
            have hrk := sRk_pos J i kd
            have hrl := sRk_le (J := J) (by omega) i kd
            refine lv_iload hx hb d_M_rankOdds_42 (lv_at hl 5 rfl) ?_
            refine lv_aload_n hx hb d_M_rankOdds_44 rfl (lv_at hl 0 rfl) ?_
            refine va_get (D := D) (ci := 5) (v := .int (iZ ((jk J : Nat) : Int))) (C := n_M) (T := f_M) (N := 17) hx hb hts in_M hown hK hP 19 rfl rfl 8 (by decide) (hts _ fl_M_70) (fun _ h9 => h9) rfl d_M_rankOdds_45 ?_
            refine z_icmp_ge (a := ((i : Nat) : Int)) (b := ((jk J : Nat) : Int)) (tgt := 108) hx hb (by omega) d_M_rankOdds_48 (by decide) (fun q48 => ?_) (fun q48 => ?_)
            · skip
              have hp16 : 2 ^ sRn J kd i ≤ 2 ^ 16 := two_le (by omega)
              have h2p := Nat.two_pow_pos (sRn J kd i)
              have e9i : i = jk J := by omega
              refine lv_lconst (v := lZ ((0 : Nat) : Int)) hx hb d_M_rankOdds_108 (by decide) ?_
              refine lv_lstore (lv' := [(5, .long (lZ ((0 : Nat) : Int))), (0, .ref (ad 19)), (1, .int (iZ ((kd : Nat) : Int))), (2, .int (iZ ((pt : Nat) : Int))), (3, .int (iZ ((sRn J kd i : Nat) : Int))), (4, .int (iZ (sRc J kd i)))]) hx hb d_M_rankOdds_109 hl (by decide) rfl (fun ls hl => ?_)
              refine lv_iconst (v := iZ ((0 : Nat) : Int)) hx hb d_M_rankOdds_111 (by decide) ?_
              refine lv_istore (lv' := [(7, .int (iZ ((0 : Nat) : Int))), (5, .long (lZ ((0 : Nat) : Int))), (0, .ref (ad 19)), (1, .int (iZ ((kd : Nat) : Int))), (2, .int (iZ ((pt : Nat) : Int))), (3, .int (iZ ((sRn J kd i : Nat) : Int))), (4, .int (iZ (sRc J kd i)))]) hx hb d_M_rankOdds_112 hl (by decide) rfl (fun ls hl => ?_)
              have L114 : ∀ (N114 : Nat) (t : Nat) (c9 : Nat) (H : Heap) (locs : List Loc) (ls : Array Slot), (t ≤ 2 ^ (sRn J kd i)) → (c9 = mcnt row zr (sRn J kd i) (sRc J kd i) t) → 2 ^ (sRn J kd i) - t < N114 → va_P D classes (wdC ad cI cZ cL J0 rd0 pr0 G0 K0 (wdM ad cI cZ cL J rd pr (0, msh M, mmy M, mla M, mfi M, mse M, row, mwy M, mnx M) ov)) H → va_D A (wdC ad cI cZ cL J0 rd0 pr0 G0 K0 (wdM ad cI cZ cL J rd pr (0, msh M, mmy M, mla M, mfi M, mse M, row, mwy M, mnx M) ov)) → va_S A s.heap H locs → lv_has ls 10 [(0, .ref (ad 19)), (1, .int (iZ ((kd : Nat) : Int))), (2, .int (iZ ((pt : Nat) : Int))), (3, .int (iZ ((sRn J kd i : Nat) : Int))), (4, .int (iZ (sRc J kd i))), (5, .long (lZ ((c9 : Nat) : Int))), (7, .int (iZ ((t : Nat) : Int)))] → W p l e (zRm 3 70) s m ([.ref (ad 19), .int (iZ ((kd : Nat) : Int)), .int (iZ ((pt : Nat) : Int))] : List Value).toArray below meth c H locs 0 0 (MQ below (va_Ql (fun r w => ∃ M1 : SM, r = lZ (sTP ((sRo J kd (jk J) (fun s => if s ≤ sRc J kd (jk J) then 1 else 0) : Nat) : Int) (2 ^ sRn J kd (jk J)) pt) ∧ w = wdC ad cI cZ cL J0 rd0 pr0 G0 K0 (wdM ad cI cZ cL J rd pr M1 ov) ∧ M1.1 = 0 ∧ MJ J M1) (zB9 D classes (wdC ad cI cZ cL J0 rd0 pr0 G0 K0 (wdM ad cI cZ cL J rd pr M ov))) A) ([.ref (ad 19), .int (iZ ((kd : Nat) : Int)), .int (iZ ((pt : Nat) : Int))] : List Value).toArray s 0 0 A) (F0 m 114 ls []) := by
                intro N114
                induction N114 with
                | zero =>
                  intro t c9 H locs ls ht hc hN114 hP hD hS hl
                  exact absurd hN114 (Nat.not_lt_zero _)
                | succ N114 ih114 =>
                  intro t c9 H locs ls ht hc hN114 hP hD hS hl
                  refine lv_iload hx hb d_M_rankOdds_114 (lv_at hl 6 rfl) ?_
                  refine lv_iconst (v := iZ ((1 : Nat) : Int)) hx hb d_M_rankOdds_116 (by decide) ?_
                  refine lv_iload_n hx hb d_M_rankOdds_117 rfl (lv_at hl 3 rfl) ?_
                  refine z_ishl1 (v := sRn J kd i) hx hb (by omega) d_M_rankOdds_118 ?_
                  refine z_icmp_ge (a := ((t : Nat) : Int)) (b := ((2 ^ (sRn J kd i) : Nat) : Int)) (tgt := 190) hx hb (by omega) d_M_rankOdds_119 (by decide) (fun q119 => ?_) (fun q119 => ?_)
                  · skip
                    have hcl : c9 ≤ t := by rw [hc]; exact mcnt_le _ _ _ _ _
                    have hfin : c9 = sRo J kd (jk J) (fun s => if s ≤ sRc J kd (jk J) then 1 else 0) := by rw [hc, show t = 2 ^ sRn J kd i by omega, e9i]; exact mcnt_r (by rw [← e9i]; exact hq)
                    refine lv_lload hx hb d_M_rankOdds_190 (lv_at hl 5 rfl) ?_
                    refine lv_lconst (v := lZ ((1 : Nat) : Int)) hx hb d_M_rankOdds_192 (by decide) ?_
                    refine lv_iload_n hx hb d_M_rankOdds_193 rfl (lv_at hl 3 rfl) ?_
                    refine lv_lshl (v := lZ ((2 ^ (sRn J kd i) : Nat) : Int)) hx hb d_M_rankOdds_194 (lshl_1 (by omega)) ?_
                    refine lv_iload_n hx hb d_M_rankOdds_195 rfl (lv_at hl 2 rfl) ?_
                    refine z_callSR (As := [.long (lZ ((c9 : Nat) : Int)), .long (lZ ((2 ^ (sRn J kd i) : Nat) : Int)), .int (iZ ((pt : Nat) : Int))]) (rest := []) zTB Z (k_M_part (a := ((c9 : Nat) : Int)) (bl := 2 ^ (sRn J kd i)) (pt := pt) (by omega)) ⟨ml_M_87, sm_M_part, ini_M, co_M_part⟩ zd_M_part ⟨Nat.le_of_ble_eq_true rfl, Nat.le_of_ble_eq_true rfl⟩ hP hK hl.1 rfl (Nat.le_of_ble_eq_true rfl) d_M_rankOdds_196 ⟨Nat.zero_le _, Nat.zero_le _⟩ ?_
                    refine W.eq (g2 := F0 m 199 ls [.long (lZ (sTP ((c9 : Nat) : Int) (2 ^ (sRn J kd i)) pt))]) rfl ?_
                    exact z_lret Z hP hS d_M_rankOdds_199 wdM_map (⟨_, by rw [hfin, e9i], rfl, rfl, hM⟩)
                  · skip
                    refine lv_iconst (v := iZ ((0 : Nat) : Int)) hx hb d_M_rankOdds_122 (by decide) ?_
                    refine lv_istore (lv' := [(8, .int (iZ ((0 : Nat) : Int))), (0, .ref (ad 19)), (1, .int (iZ ((kd : Nat) : Int))), (2, .int (iZ ((pt : Nat) : Int))), (3, .int (iZ ((sRn J kd i : Nat) : Int))), (4, .int (iZ (sRc J kd i))), (5, .long (lZ ((c9 : Nat) : Int))), (7, .int (iZ ((t : Nat) : Int)))]) hx hb d_M_rankOdds_123 hl (by decide) rfl (fun ls hl => ?_)
                    refine lv_iconst (v := iZ ((0 : Nat) : Int)) hx hb d_M_rankOdds_125 (by decide) ?_
                    refine lv_istore (lv' := [(9, .int (iZ ((0 : Nat) : Int))), (8, .int (iZ ((0 : Nat) : Int))), (0, .ref (ad 19)), (1, .int (iZ ((kd : Nat) : Int))), (2, .int (iZ ((pt : Nat) : Int))), (3, .int (iZ ((sRn J kd i : Nat) : Int))), (4, .int (iZ (sRc J kd i))), (5, .long (lZ ((c9 : Nat) : Int))), (7, .int (iZ ((t : Nat) : Int)))]) hx hb d_M_rankOdds_126 hl (by decide) rfl (fun ls hl => ?_)
                    have L128 : ∀ (N128 : Nat) (j : Nat) (H : Heap) (locs : List Loc) (ls : Array Slot), (j ≤ sRn J kd i) → (sRn J kd i) - j < N128 → va_P D classes (wdC ad cI cZ cL J0 rd0 pr0 G0 K0 (wdM ad cI cZ cL J rd pr (0, msh M, mmy M, mla M, mfi M, mse M, row, mwy M, mnx M) ov)) H → va_D A (wdC ad cI cZ cL J0 rd0 pr0 G0 K0 (wdM ad cI cZ cL J rd pr (0, msh M, mmy M, mla M, mfi M, mse M, row, mwy M, mnx M) ov)) → va_S A s.heap H locs → lv_has ls 10 [(0, .ref (ad 19)), (1, .int (iZ ((kd : Nat) : Int))), (2, .int (iZ ((pt : Nat) : Int))), (3, .int (iZ ((sRn J kd i : Nat) : Int))), (4, .int (iZ (sRc J kd i))), (5, .long (lZ ((c9 : Nat) : Int))), (7, .int (iZ ((t : Nat) : Int))), (8, .int (iZ (su_Ms row zr t j))), (9, .int (iZ ((j : Nat) : Int)))] → W p l e (zRm 3 70) s m ([.ref (ad 19), .int (iZ ((kd : Nat) : Int)), .int (iZ ((pt : Nat) : Int))] : List Value).toArray below meth c H locs 0 0 (MQ below (va_Ql (fun r w => ∃ M1 : SM, r = lZ (sTP ((sRo J kd (jk J) (fun s => if s ≤ sRc J kd (jk J) then 1 else 0) : Nat) : Int) (2 ^ sRn J kd (jk J)) pt) ∧ w = wdC ad cI cZ cL J0 rd0 pr0 G0 K0 (wdM ad cI cZ cL J rd pr M1 ov) ∧ M1.1 = 0 ∧ MJ J M1) (zB9 D classes (wdC ad cI cZ cL J0 rd0 pr0 G0 K0 (wdM ad cI cZ cL J rd pr M ov))) A) ([.ref (ad 19), .int (iZ ((kd : Nat) : Int)), .int (iZ ((pt : Nat) : Int))] : List Value).toArray s 0 0 A) (F0 m 128 ls []) := by
                      intro N128
                      induction N128 with
                      | zero =>
                        intro j H locs ls hj hN128 hP hD hS hl
                        exact absurd hN128 (Nat.not_lt_zero _)
                      | succ N128 ih128 =>
                        intro j H locs ls hj hN128 hP hD hS hl
                        refine lv_iload hx hb d_M_rankOdds_128 (lv_at hl 8 rfl) ?_
                        refine lv_iload_n hx hb d_M_rankOdds_130 rfl (lv_at hl 3 rfl) ?_
                        refine z_icmp_ge (a := ((j : Nat) : Int)) (b := ((sRn J kd i : Nat) : Int)) (tgt := 167) hx hb (by omega) d_M_rankOdds_131 (by decide) (fun q131 => ?_) (fun q131 => ?_)
                        · skip
                          have e9 : j = sRn J kd i := by omega
                          have hmj : su_Ms row zr t j = su_Ms row zr t (sRn J kd i) := by rw [e9]
                          have hmb := su_Ms_b (u := row) (v := zr) (t := t) (sRn J kd i) (fun k hk => by have hq9 := hq.1 k hk; show -1000 ≤ row k ∧ row k ≤ 1000 ∧ (-1000 : Int) ≤ 0 ∧ (0 : Int) ≤ 1000; omega)
                          refine lv_lload hx hb d_M_rankOdds_167 (lv_at hl 5 rfl) ?_
                          refine lv_iload hx hb d_M_rankOdds_169 (lv_at hl 7 rfl) ?_
                          refine lv_iload hx hb d_M_rankOdds_171 (lv_at hl 4 rfl) ?_
                          refine z_icmp_gt (a := su_Ms row zr t j) (b := sRc J kd i) (tgt := 180) hx hb (by omega) d_M_rankOdds_173 (by decide) (fun q173 => ?_) (fun q173 => ?_)
                          · skip
                            refine lv_lconst (v := lZ ((0 : Nat) : Int)) hx hb d_M_rankOdds_180 (by decide) ?_
                            refine z_laddN (u := c9) (v := 0) hx hb d_M_rankOdds_181 ?_
                            refine lv_lstore (lv' := [(5, .long (lZ ((c9 + 0 : Nat) : Int))), (0, .ref (ad 19)), (1, .int (iZ ((kd : Nat) : Int))), (2, .int (iZ ((pt : Nat) : Int))), (3, .int (iZ ((sRn J kd i : Nat) : Int))), (4, .int (iZ (sRc J kd i))), (7, .int (iZ ((t : Nat) : Int))), (8, .int (iZ (su_Ms row zr t j))), (9, .int (iZ ((j : Nat) : Int)))]) hx hb d_M_rankOdds_182 hl (by decide) rfl (fun ls hl => ?_)
                            refine lv_iinc (v := iZ ((t + 1 : Nat) : Int)) (lv' := [(7, .int (iZ ((t + 1 : Nat) : Int))), (5, .long (lZ ((c9 + 0 : Nat) : Int))), (0, .ref (ad 19)), (1, .int (iZ ((kd : Nat) : Int))), (2, .int (iZ ((pt : Nat) : Int))), (3, .int (iZ ((sRn J kd i : Nat) : Int))), (4, .int (iZ (sRc J kd i))), (8, .int (iZ (su_Ms row zr t j))), (9, .int (iZ ((j : Nat) : Int)))]) hx hb d_M_rankOdds_184 hl (k := 6) rfl (iZ_inc (t) 1) (by decide) rfl (fun ls hl => ?_)
                            refine lv_goto (tgt := 114) hx hb d_M_rankOdds_187 (by decide) ?_
                            exact ih114 (t + 1) (c9 + 0) H locs ls (by omega) (by rw [hc]; first | exact mcnt_s1 (by omega) | exact mcnt_s0 (by omega)) (by omega) hP hD hS (lv_sub hl [2, 3, 4, 5, 6, 1, 0] rfl)
                          · skip
                            refine lv_lconst (v := lZ ((1 : Nat) : Int)) hx hb d_M_rankOdds_176 (by decide) ?_
                            refine lv_goto (tgt := 181) hx hb d_M_rankOdds_177 (by decide) ?_
                            refine z_laddN (u := c9) (v := 1) hx hb d_M_rankOdds_181 ?_
                            refine lv_lstore (lv' := [(5, .long (lZ ((c9 + 1 : Nat) : Int))), (0, .ref (ad 19)), (1, .int (iZ ((kd : Nat) : Int))), (2, .int (iZ ((pt : Nat) : Int))), (3, .int (iZ ((sRn J kd i : Nat) : Int))), (4, .int (iZ (sRc J kd i))), (7, .int (iZ ((t : Nat) : Int))), (8, .int (iZ (su_Ms row zr t j))), (9, .int (iZ ((j : Nat) : Int)))]) hx hb d_M_rankOdds_182 hl (by decide) rfl (fun ls hl => ?_)
                            refine lv_iinc (v := iZ ((t + 1 : Nat) : Int)) (lv' := [(7, .int (iZ ((t + 1 : Nat) : Int))), (5, .long (lZ ((c9 + 1 : Nat) : Int))), (0, .ref (ad 19)), (1, .int (iZ ((kd : Nat) : Int))), (2, .int (iZ ((pt : Nat) : Int))), (3, .int (iZ ((sRn J kd i : Nat) : Int))), (4, .int (iZ (sRc J kd i))), (8, .int (iZ (su_Ms row zr t j))), (9, .int (iZ ((j : Nat) : Int)))]) hx hb d_M_rankOdds_184 hl (k := 6) rfl (iZ_inc (t) 1) (by decide) rfl (fun ls hl => ?_)
                            refine lv_goto (tgt := 114) hx hb d_M_rankOdds_187 (by decide) ?_
                            exact ih114 (t + 1) (c9 + 1) H locs ls (by omega) (by rw [hc]; first | exact mcnt_s1 (by omega) | exact mcnt_s0 (by omega)) (by omega) hP hD hS (lv_sub hl [2, 3, 4, 5, 6, 1, 0] rfl)
                        · skip
                          refine lv_iload hx hb d_M_rankOdds_134 (lv_at hl 7 rfl) ?_
                          refine lv_iload hx hb d_M_rankOdds_136 (lv_at hl 6 rfl) ?_
                          refine lv_iload hx hb d_M_rankOdds_138 (lv_at hl 8 rfl) ?_
                          refine z_ishrN (u := t) (v := j) hx hb (by omega) d_M_rankOdds_140 ?_
                          refine lv_iconst (v := iZ ((1 : Nat) : Int)) hx hb d_M_rankOdds_141 (by decide) ?_
                          refine z_iand1 (u := t / 2 ^ j) hx hb (Nat.lt_of_le_of_lt (Nat.div_le_self _ _) (by omega)) d_M_rankOdds_142 ?_
                          have hmb9 := mbt_le t j
                          refine z_topZ (b := ((mbt t j : Nat) : Int)) (rfl) ?_
                          refine lv_iconst (v := iZ ((1 : Nat) : Int)) hx hb d_M_rankOdds_143 (by decide) ?_
                          refine z_icmp_ne (a := ((mbt t j : Nat) : Int)) (b := ((1 : Nat) : Int)) (tgt := 157) hx hb (by omega) d_M_rankOdds_144 (by decide) (fun q144 => ?_) (fun q144 => ?_)
                          · skip
                            refine lv_iconst (v := iZ ((0 : Nat) : Int)) hx hb d_M_rankOdds_157 (by decide) ?_
                            refine z_iadd (a := su_Ms row zr t j) (b := ((0 : Nat) : Int)) hx hb d_M_rankOdds_158 ?_
                            refine lv_istore (lv' := [(8, .int (iZ ((su_Ms row zr t j) + ((0 : Nat) : Int)))), (0, .ref (ad 19)), (1, .int (iZ ((kd : Nat) : Int))), (2, .int (iZ ((pt : Nat) : Int))), (3, .int (iZ ((sRn J kd i : Nat) : Int))), (4, .int (iZ (sRc J kd i))), (5, .long (lZ ((c9 : Nat) : Int))), (7, .int (iZ ((t : Nat) : Int))), (9, .int (iZ ((j : Nat) : Int)))]) hx hb d_M_rankOdds_159 hl (by decide) rfl (fun ls hl => ?_)
                            refine lv_iinc (v := iZ ((j + 1 : Nat) : Int)) (lv' := [(9, .int (iZ ((j + 1 : Nat) : Int))), (8, .int (iZ ((su_Ms row zr t j) + ((0 : Nat) : Int)))), (0, .ref (ad 19)), (1, .int (iZ ((kd : Nat) : Int))), (2, .int (iZ ((pt : Nat) : Int))), (3, .int (iZ ((sRn J kd i : Nat) : Int))), (4, .int (iZ (sRc J kd i))), (5, .long (lZ ((c9 : Nat) : Int))), (7, .int (iZ ((t : Nat) : Int)))]) hx hb d_M_rankOdds_161 hl (k := 8) rfl (iZ_inc (j) 1) (by decide) rfl (fun ls hl => ?_)
                            refine lv_goto (tgt := 128) hx hb d_M_rankOdds_164 (by decide) ?_
                            exact ih128 (j + 1) H locs ls (by omega) (by omega) hP hD hS (lv_sub hl [2, 3, 4, 5, 6, 7, 8, 1, 0] (by rw [show (su_Ms row zr t (j + 1)) = ((su_Ms row zr t j) + ((0 : Nat) : Int)) from by show su_Ms row zr t j + (if mbt t j = 1 then row j else zr j) = _; first | (rw [if_pos (by omega)]; done) | (rw [if_neg (by omega)]; done) | (rw [if_neg (by omega)]; rfl)]; rfl))
                          · skip
                            refine lv_aload_n hx hb d_M_rankOdds_147 rfl (lv_at hl 0 rfl) ?_
                            refine va_get (D := D) (ci := 5) (v := .ref (ad 30)) (C := n_M) (T := f_M) (N := 17) hx hb hts in_M hown hK hP 19 rfl rfl 14 (by decide) (hts _ fl_M_41) (fun _ h9 => h9) rfl d_M_rankOdds_148 ?_
                            refine lv_iload hx hb d_M_rankOdds_151 (lv_at hl 8 rfl) ?_
                            refine z_iald (f := row) hx hb hK hP 30 0 rfl rfl (j) (by omega) d_M_rankOdds_153 ?_
                            refine lv_goto (tgt := 158) hx hb d_M_rankOdds_154 (by decide) ?_
                            refine z_iadd (a := su_Ms row zr t j) (b := row (j)) hx hb d_M_rankOdds_158 ?_
                            refine lv_istore (lv' := [(8, .int (iZ ((su_Ms row zr t j) + (row (j))))), (0, .ref (ad 19)), (1, .int (iZ ((kd : Nat) : Int))), (2, .int (iZ ((pt : Nat) : Int))), (3, .int (iZ ((sRn J kd i : Nat) : Int))), (4, .int (iZ (sRc J kd i))), (5, .long (lZ ((c9 : Nat) : Int))), (7, .int (iZ ((t : Nat) : Int))), (9, .int (iZ ((j : Nat) : Int)))]) hx hb d_M_rankOdds_159 hl (by decide) rfl (fun ls hl => ?_)
                            refine lv_iinc (v := iZ ((j + 1 : Nat) : Int)) (lv' := [(9, .int (iZ ((j + 1 : Nat) : Int))), (8, .int (iZ ((su_Ms row zr t j) + (row (j))))), (0, .ref (ad 19)), (1, .int (iZ ((kd : Nat) : Int))), (2, .int (iZ ((pt : Nat) : Int))), (3, .int (iZ ((sRn J kd i : Nat) : Int))), (4, .int (iZ (sRc J kd i))), (5, .long (lZ ((c9 : Nat) : Int))), (7, .int (iZ ((t : Nat) : Int)))]) hx hb d_M_rankOdds_161 hl (k := 8) rfl (iZ_inc (j) 1) (by decide) rfl (fun ls hl => ?_)
                            refine lv_goto (tgt := 128) hx hb d_M_rankOdds_164 (by decide) ?_
                            exact ih128 (j + 1) H locs ls (by omega) (by omega) hP hD hS (lv_sub hl [2, 3, 4, 5, 6, 7, 8, 1, 0] (by rw [show (su_Ms row zr t (j + 1)) = ((su_Ms row zr t j) + (row (j))) from by show su_Ms row zr t j + (if mbt t j = 1 then row j else zr j) = _; first | (rw [if_pos (by omega)]; done) | (rw [if_neg (by omega)]; done) | (rw [if_neg (by omega)]; rfl)]; rfl))
                    exact L128 ((sRn J kd i) - 0 + 1) 0 H locs ls (Nat.zero_le _) (by omega) hP hD hS (lv_sub hl [2, 3, 4, 5, 6, 7, 8, 1, 0] rfl)
              exact L114 (2 ^ (sRn J kd i) - 0 + 1) 0 0 H locs ls (Nat.zero_le _) rfl (by omega) hP hD hS (lv_sub hl [2, 3, 4, 5, 6, 1, 0] rfl)
            · skip
              refine lv_aload_n hx hb d_M_rankOdds_51 rfl (lv_at hl 0 rfl) ?_
              refine lv_iload hx hb d_M_rankOdds_52 (lv_at hl 5 rfl) ?_
              refine lv_iload_n hx hb d_M_rankOdds_54 rfl (lv_at hl 1 rfl) ?_
              refine z_callVR (As := [.int (iZ ((i : Nat) : Int)), .int (iZ ((kd : Nat) : Int))]) (rest := []) zTB Z (k_M_isRanked (J := J) (M := (0, msh M, mmy M, mla M, mfi M, mse M, row, mwy M, mnx M)) hI hM (pp := i) (kd := kd) (by omega) (by omega)) ⟨ml_M_91, im_M_isRanked, se_M_isRanked, ini_M, co_M_isRanked⟩ zd_M_isRanked ⟨Nat.le_of_ble_eq_true rfl, Nat.le_of_ble_eq_true rfl⟩ hP hK (ci := 5) (q0 := 19) rfl rfl rfl hl.1 rfl (Nat.le_of_ble_eq_true rfl) d_M_rankOdds_55 ⟨Nat.zero_le _, Nat.zero_le _⟩ ?_
              refine W.eq (g2 := F0 m 58 ls [.int (bI (decide (sKd J i kd ≠ 0)))]) rfl ?_
              refine z_if_eqB (b := decide (sKd J i kd ≠ 0)) (tgt := 102) hx hb d_M_rankOdds_58 (by decide) (fun q58 => ?_) (fun q58 => ?_)
              · skip
                replace q58 := of_decide_eq_false q58
                refine lv_iinc (v := iZ ((i + 1 : Nat) : Int)) (lv' := [(5, .int (iZ ((i + 1 : Nat) : Int))), (0, .ref (ad 19)), (1, .int (iZ ((kd : Nat) : Int))), (2, .int (iZ ((pt : Nat) : Int))), (3, .int (iZ ((sRn J kd i : Nat) : Int))), (4, .int (iZ (sRc J kd i)))]) hx hb d_M_rankOdds_102 hl (k := 5) rfl (iZ_inc (i) 1) (by decide) rfl (fun ls hl => ?_)
                refine lv_goto (tgt := 42) hx hb d_M_rankOdds_105 (by decide) ?_
                exact ih42 (i + 1) row H locs ls (by omega) ((rJ_d hq (by omega)).2) (by omega) hP hD hS (lv_sub hl [1, 2, 3, 4, 5, 0] (by rw [show (sRn J kd (i + 1)) = (sRn J kd i) from by first | exact (rJ_k hq (by omega) (by omega)).1 | exact (rJ_d hq (by omega)).1, show (sRc J kd (i + 1)) = (sRc J kd i) from by show sRc J kd i + (if 0 < sRk J i kd ∧ 0 < sDf J i kd then ((sRk J i kd : Nat) : Int) else 0) = _; first | (rw [if_pos (by omega)]; done) | (rw [if_neg (by omega)]; done) | (rw [if_neg (by omega)]; omega)]; rfl))
              · skip
                replace q58 := of_decide_eq_true q58
                refine lv_aload_n hx hb d_M_rankOdds_61 rfl (lv_at hl 0 rfl) ?_
                refine va_get (D := D) (ci := 5) (v := .ref (ad 30)) (C := n_M) (T := f_M) (N := 17) hx hb hts in_M hown hK hP 19 rfl rfl 14 (by decide) (hts _ fl_M_41) (fun _ h9 => h9) rfl d_M_rankOdds_62 ?_
                refine lv_iload_n hx hb d_M_rankOdds_65 rfl (lv_at hl 3 rfl) ?_
                refine lv_aload_n hx hb d_M_rankOdds_66 rfl (lv_at hl 0 rfl) ?_
                refine lv_iload hx hb d_M_rankOdds_67 (lv_at hl 5 rfl) ?_
                refine lv_iload_n hx hb d_M_rankOdds_69 rfl (lv_at hl 1 rfl) ?_
                refine z_callVR (As := [.int (iZ ((i : Nat) : Int)), .int (iZ ((kd : Nat) : Int))]) (rest := [.int (iZ ((sRn J kd i : Nat) : Int)), .ref (ad 30)]) zTB Z (k_M_rankOf (J := J) (M := (0, msh M, mmy M, mla M, mfi M, mse M, row, mwy M, mnx M)) hI hM (pp := i) (kd := kd) (by omega) (by omega)) ⟨ml_M_98, im_M_rankOf, se_M_rankOf, ini_M, co_M_rankOf⟩ zd_M_rankOf ⟨Nat.le_of_ble_eq_true rfl, Nat.le_of_ble_eq_true rfl⟩ hP hK (ci := 5) (q0 := 19) rfl rfl rfl hl.1 rfl (Nat.le_of_ble_eq_true rfl) d_M_rankOdds_70 ⟨Nat.zero_le _, Nat.zero_le _⟩ ?_
                refine W.eq (g2 := F0 m 73 ls [.int (iZ ((sRk J i kd : Nat) : Int)), .int (iZ ((sRn J kd i : Nat) : Int)), .ref (ad 30)]) rfl ?_
                refine z_iast (f := row) (v := ((sRk J i kd : Nat) : Int)) hx hb hK hP hD hS 30 0 rfl rfl (sRn J kd i) (by omega) d_M_rankOdds_73 (fun H locs hP hD hS => ?_)
                have hP : va_P D classes (wdC ad cI cZ cL J0 rd0 pr0 G0 K0 (wdM ad cI cZ cL J rd pr (0, msh M, mmy M, mla M, mfi M, mse M, (zu row (sRn J kd i) ((sRk J i kd : Nat) : Int)), mwy M, mnx M) ov)) H := hP
                have hD : va_D A (wdC ad cI cZ cL J0 rd0 pr0 G0 K0 (wdM ad cI cZ cL J rd pr (0, msh M, mmy M, mla M, mfi M, mse M, (zu row (sRn J kd i) ((sRk J i kd : Nat) : Int)), mwy M, mnx M) ov)) := hD
                refine lv_iload hx hb d_M_rankOdds_74 (lv_at hl 4 rfl) ?_
                refine lv_aload_n hx hb d_M_rankOdds_76 rfl (lv_at hl 0 rfl) ?_
                refine lv_iload hx hb d_M_rankOdds_77 (lv_at hl 5 rfl) ?_
                refine lv_iload_n hx hb d_M_rankOdds_79 rfl (lv_at hl 1 rfl) ?_
                refine z_callVR (As := [.int (iZ ((i : Nat) : Int)), .int (iZ ((kd : Nat) : Int))]) (rest := [.int (iZ (sRc J kd i))]) zTB Z (k_M_by (J := J) (M := (0, msh M, mmy M, mla M, mfi M, mse M, (zu row (sRn J kd i) ((sRk J i kd : Nat) : Int)), mwy M, mnx M)) hI hM (pp := i) (kd := kd) (by omega) (by omega)) ⟨ml_M_73, im_M_by, se_M_by, ini_M, co_M_by⟩ zd_M_by ⟨Nat.le_of_ble_eq_true rfl, Nat.le_of_ble_eq_true rfl⟩ hP hK (ci := 5) (q0 := 19) rfl rfl rfl hl.1 rfl (Nat.le_of_ble_eq_true rfl) d_M_rankOdds_80 ⟨Nat.zero_le _, Nat.zero_le _⟩ ?_
                refine W.eq (g2 := F0 m 83 ls [.int (iZ (sDf J i kd)), .int (iZ (sRc J kd i))]) rfl ?_
                refine z_if_le (a := sDf J i kd) (tgt := 95) hx hb (by omega) d_M_rankOdds_83 (by decide) (fun q83 => ?_) (fun q83 => ?_)
                · skip
                  refine lv_iconst (v := iZ ((0 : Nat) : Int)) hx hb d_M_rankOdds_95 (by decide) ?_
                  refine z_iadd (a := sRc J kd i) (b := ((0 : Nat) : Int)) hx hb d_M_rankOdds_96 ?_
                  refine lv_istore (lv' := [(4, .int (iZ ((sRc J kd i) + ((0 : Nat) : Int)))), (0, .ref (ad 19)), (1, .int (iZ ((kd : Nat) : Int))), (2, .int (iZ ((pt : Nat) : Int))), (3, .int (iZ ((sRn J kd i : Nat) : Int))), (5, .int (iZ ((i : Nat) : Int)))]) hx hb d_M_rankOdds_97 hl (by decide) rfl (fun ls hl => ?_)
                  refine lv_iinc (v := iZ ((sRn J kd i + 1 : Nat) : Int)) (lv' := [(3, .int (iZ ((sRn J kd i + 1 : Nat) : Int))), (4, .int (iZ ((sRc J kd i) + ((0 : Nat) : Int)))), (0, .ref (ad 19)), (1, .int (iZ ((kd : Nat) : Int))), (2, .int (iZ ((pt : Nat) : Int))), (5, .int (iZ ((i : Nat) : Int)))]) hx hb d_M_rankOdds_99 hl (k := 4) rfl (iZ_inc (sRn J kd i) 1) (by decide) rfl (fun ls hl => ?_)
                  refine lv_iinc (v := iZ ((i + 1 : Nat) : Int)) (lv' := [(5, .int (iZ ((i + 1 : Nat) : Int))), (3, .int (iZ ((sRn J kd i + 1 : Nat) : Int))), (4, .int (iZ ((sRc J kd i) + ((0 : Nat) : Int)))), (0, .ref (ad 19)), (1, .int (iZ ((kd : Nat) : Int))), (2, .int (iZ ((pt : Nat) : Int)))]) hx hb d_M_rankOdds_102 hl (k := 5) rfl (iZ_inc (i) 1) (by decide) rfl (fun ls hl => ?_)
                  refine lv_goto (tgt := 42) hx hb d_M_rankOdds_105 (by decide) ?_
                  exact ih42 (i + 1) (zu row (sRn J kd i) ((sRk J i kd : Nat) : Int)) H locs ls (by omega) ((rJ_k hq (by omega) (by omega)).2) (by omega) hP hD hS (lv_sub hl [3, 4, 5, 1, 2, 0] (by rw [show (sRn J kd (i + 1)) = (sRn J kd i + 1) from by first | exact (rJ_k hq (by omega) (by omega)).1 | exact (rJ_d hq (by omega)).1, show (sRc J kd (i + 1)) = ((sRc J kd i) + ((0 : Nat) : Int)) from by show sRc J kd i + (if 0 < sRk J i kd ∧ 0 < sDf J i kd then ((sRk J i kd : Nat) : Int) else 0) = _; first | (rw [if_pos (by omega)]; done) | (rw [if_neg (by omega)]; done) | (rw [if_neg (by omega)]; omega)]; rfl))
                · skip
                  refine lv_aload_n hx hb d_M_rankOdds_86 rfl (lv_at hl 0 rfl) ?_
                  refine va_get (D := D) (ci := 5) (v := .ref (ad 30)) (C := n_M) (T := f_M) (N := 17) hx hb hts in_M hown hK hP 19 rfl rfl 14 (by decide) (hts _ fl_M_41) (fun _ h9 => h9) rfl d_M_rankOdds_87 ?_
                  refine lv_iload_n hx hb d_M_rankOdds_90 rfl (lv_at hl 3 rfl) ?_
                  refine z_iald (f := (zu row (sRn J kd i) ((sRk J i kd : Nat) : Int))) hx hb hK hP 30 0 rfl rfl (sRn J kd i) (by omega) d_M_rankOdds_91 ?_
                  refine z_topZ (b := ((sRk J i kd : Nat) : Int)) (zu_s _ _ _) ?_
                  refine lv_goto (tgt := 96) hx hb d_M_rankOdds_92 (by decide) ?_
                  refine z_iadd (a := sRc J kd i) (b := ((sRk J i kd : Nat) : Int)) hx hb d_M_rankOdds_96 ?_
                  refine lv_istore (lv' := [(4, .int (iZ ((sRc J kd i) + ((sRk J i kd : Nat) : Int)))), (0, .ref (ad 19)), (1, .int (iZ ((kd : Nat) : Int))), (2, .int (iZ ((pt : Nat) : Int))), (3, .int (iZ ((sRn J kd i : Nat) : Int))), (5, .int (iZ ((i : Nat) : Int)))]) hx hb d_M_rankOdds_97 hl (by decide) rfl (fun ls hl => ?_)
                  refine lv_iinc (v := iZ ((sRn J kd i + 1 : Nat) : Int)) (lv' := [(3, .int (iZ ((sRn J kd i + 1 : Nat) : Int))), (4, .int (iZ ((sRc J kd i) + ((sRk J i kd : Nat) : Int)))), (0, .ref (ad 19)), (1, .int (iZ ((kd : Nat) : Int))), (2, .int (iZ ((pt : Nat) : Int))), (5, .int (iZ ((i : Nat) : Int)))]) hx hb d_M_rankOdds_99 hl (k := 4) rfl (iZ_inc (sRn J kd i) 1) (by decide) rfl (fun ls hl => ?_)
                  refine lv_iinc (v := iZ ((i + 1 : Nat) : Int)) (lv' := [(5, .int (iZ ((i + 1 : Nat) : Int))), (3, .int (iZ ((sRn J kd i + 1 : Nat) : Int))), (4, .int (iZ ((sRc J kd i) + ((sRk J i kd : Nat) : Int)))), (0, .ref (ad 19)), (1, .int (iZ ((kd : Nat) : Int))), (2, .int (iZ ((pt : Nat) : Int)))]) hx hb d_M_rankOdds_102 hl (k := 5) rfl (iZ_inc (i) 1) (by decide) rfl (fun ls hl => ?_)
                  refine lv_goto (tgt := 42) hx hb d_M_rankOdds_105 (by decide) ?_
                  exact ih42 (i + 1) (zu row (sRn J kd i) ((sRk J i kd : Nat) : Int)) H locs ls (by omega) ((rJ_k hq (by omega) (by omega)).2) (by omega) hP hD hS (lv_sub hl [3, 4, 5, 1, 2, 0] (by rw [show (sRn J kd (i + 1)) = (sRn J kd i + 1) from by first | exact (rJ_k hq (by omega) (by omega)).1 | exact (rJ_d hq (by omega)).1, show (sRc J kd (i + 1)) = ((sRc J kd i) + ((sRk J i kd : Nat) : Int)) from by show sRc J kd i + (if 0 < sRk J i kd ∧ 0 < sDf J i kd then ((sRk J i kd : Nat) : Int) else 0) = _; first | (rw [if_pos (by omega)]; done) | (rw [if_neg (by omega)]; done) | (rw [if_neg (by omega)]; omega)]; rfl))
        exact L42 (jk J - 0 + 1) 0 (mrw M) H locs ls (Nat.zero_le _) (rJ_0 J kd _) (by omega) hP hD hS (lv_sub hl [3, 4, 5, 2, 1, 0] rfl)
      · skip
        exfalso; omega

set_option maxHeartbeats 4000000 in
set_option maxRecDepth 100000 in
theorem k_M_cross {l : Launch} {D : va_G} {ad : Nat → Nat} {cI cZ cL : ClassId} {J J0 : SJ} {rd rd0 : Nat → Int} {pr pr0 : Nat → Nat} {G0 : SH} {K0 : SK} {M : SM} {ov : Nat → Int64} (hM : MJ J M) {nn up lo : Nat} (hb9 : 1 ≤ up ∧ up ≤ 16 ∧ 1 ≤ lo ∧ lo ≤ 16) (hnn : nn ≤ 40) : zMl l TB D classes (tysW cI cZ cL) y_M_cross w_M_cross 0 0 [.ref (ad 19), .int (iZ ((nn : Nat) : Int)), .int (iZ ((up : Nat) : Int)), .int (iZ ((lo : Nat) : Int))] (wdC ad cI cZ cL J0 rd0 pr0 G0 K0 (wdM ad cI cZ cL J rd pr M ov)) (fun r w => ∃ M1 : SM, r = lZ ((sCr up lo nn : Nat) : Int) ∧ w = wdC ad cI cZ cL J0 rd0 pr0 G0 K0 (wdM ad cI cZ cL J rd pr M1 ov) ∧ M1.1 = M.1 ∧ MJ J M1) := by
  refine z_of (Qc := fun A => va_Ql (fun r w => ∃ M1 : SM, r = lZ ((sCr up lo nn : Nat) : Int) ∧ w = wdC ad cI cZ cL J0 rd0 pr0 G0 K0 (wdM ad cI cZ cL J rd pr M1 ov) ∧ M1.1 = M.1 ∧ MJ J M1) (zB9 D classes (wdC ad cI cZ cL J0 rd0 pr0 G0 K0 (wdM ad cI cZ cL J rd pr M ov))) A) (by decide) (Nat.le_of_ble_eq_true rfl) ?_
  intro p e s m below meth c A ls Z hP hK hD hS hA hl
  obtain ⟨hx, hb, hr, hml, hown, hts, hE, hlocks⟩ := id Z
  have hl : lv_has ls 8 [(0, .ref (ad 19)), (1, .int (iZ ((nn : Nat) : Int))), (2, .int (iZ ((up : Nat) : Int))), (3, .int (iZ ((lo : Nat) : Int)))] := hl
  suffices K9 : ∀ (H : Heap) (locs : List Loc) (ls : Array Slot), va_P D classes (wdC ad cI cZ cL J0 rd0 pr0 G0 K0 (wdM ad cI cZ cL J rd pr M ov)) H → va_D A (wdC ad cI cZ cL J0 rd0 pr0 G0 K0 (wdM ad cI cZ cL J rd pr M ov)) → va_S A s.heap H locs → lv_has ls 8 [(0, .ref (ad 19)), (1, .int (iZ ((nn : Nat) : Int))), (2, .int (iZ ((up : Nat) : Int))), (3, .int (iZ ((lo : Nat) : Int)))] → W p l e (zRm 0 0) s m ([.ref (ad 19), .int (iZ ((nn : Nat) : Int)), .int (iZ ((up : Nat) : Int)), .int (iZ ((lo : Nat) : Int))] : List Value).toArray below meth c H locs 0 0 (MQ below (va_Ql (fun r w => ∃ M1 : SM, r = lZ ((sCr up lo nn : Nat) : Int) ∧ w = wdC ad cI cZ cL J0 rd0 pr0 G0 K0 (wdM ad cI cZ cL J rd pr M1 ov) ∧ M1.1 = M.1 ∧ MJ J M1) (zB9 D classes (wdC ad cI cZ cL J0 rd0 pr0 G0 K0 (wdM ad cI cZ cL J rd pr M ov))) A) ([.ref (ad 19), .int (iZ ((nn : Nat) : Int)), .int (iZ ((up : Nat) : Int)), .int (iZ ((lo : Nat) : Int))] : List Value).toArray s 0 0 A) (F0 m 0 ls []) from K9 s.heap [] ls hP hD hS hl
  clear hP hD hS hl
  intro H locs ls hP hD hS hl
  refine lv_iconst (v := iZ ((0 : Nat) : Int)) hx hb d_M_cross_0 (by decide) ?_
  refine lv_istore (lv' := [(4, .int (iZ ((0 : Nat) : Int))), (0, .ref (ad 19)), (1, .int (iZ ((nn : Nat) : Int))), (2, .int (iZ ((up : Nat) : Int))), (3, .int (iZ ((lo : Nat) : Int)))]) hx hb d_M_cross_1 hl (by decide) rfl (fun ls hl => ?_)
  have L3 : ∀ (N3 : Nat) (k : Nat) (wy : Nat → Nat) (H : Heap) (locs : List Loc) (ls : Array Slot), (k ≤ 35) → (∀ j, j < k → wy j = sv up lo 0 j) → 35 - k < N3 → va_P D classes (wdC ad cI cZ cL J0 rd0 pr0 G0 K0 (wdM ad cI cZ cL J rd pr (M.1, msh M, mmy M, mla M, mfi M, mse M, mrw M, wy, mnx M) ov)) H → va_D A (wdC ad cI cZ cL J0 rd0 pr0 G0 K0 (wdM ad cI cZ cL J rd pr (M.1, msh M, mmy M, mla M, mfi M, mse M, mrw M, wy, mnx M) ov)) → va_S A s.heap H locs → lv_has ls 8 [(0, .ref (ad 19)), (1, .int (iZ ((nn : Nat) : Int))), (2, .int (iZ ((up : Nat) : Int))), (3, .int (iZ ((lo : Nat) : Int))), (4, .int (iZ ((k : Nat) : Int)))] → W p l e (zRm 0 0) s m ([.ref (ad 19), .int (iZ ((nn : Nat) : Int)), .int (iZ ((up : Nat) : Int)), .int (iZ ((lo : Nat) : Int))] : List Value).toArray below meth c H locs 0 0 (MQ below (va_Ql (fun r w => ∃ M1 : SM, r = lZ ((sCr up lo nn : Nat) : Int) ∧ w = wdC ad cI cZ cL J0 rd0 pr0 G0 K0 (wdM ad cI cZ cL J rd pr M1 ov) ∧ M1.1 = M.1 ∧ MJ J M1) (zB9 D classes (wdC ad cI cZ cL J0 rd0 pr0 G0 K0 (wdM ad cI cZ cL J rd pr M ov))) A) ([.ref (ad 19), .int (iZ ((nn : Nat) : Int)), .int (iZ ((up : Nat) : Int)), .int (iZ ((lo : Nat) : Int))] : List Value).toArray s 0 0 A) (F0 m 3 ls []) := by
    intro N3
    induction N3 with
    | zero =>
      intro k wy H locs ls hk hw hN3 hP hD hS hl
      exact absurd hN3 (Nat.not_lt_zero _)
    | succ N3 ih3 =>
      intro k wy H locs ls hk hw hN3 hP hD hS hl
      refine lv_iload hx hb d_M_cross_3 (lv_at hl 4 rfl) ?_
      refine lv_bipush (v := iZ ((35 : Nat) : Int)) hx hb d_M_cross_5 (by decide) ?_
      refine z_icmp_ge (a := ((k : Nat) : Int)) (b := ((35 : Nat) : Int)) (tgt := 35) hx hb (by omega) d_M_cross_7 (by decide) (fun q7 => ?_) (fun q7 => ?_)
      · skip
        refine lv_lconst (v := lZ ((0 : Nat) : Int)) hx hb d_M_cross_35 (by decide) ?_
        refine lv_lstore (lv' := [(4, .long (lZ ((0 : Nat) : Int))), (0, .ref (ad 19)), (1, .int (iZ ((nn : Nat) : Int))), (2, .int (iZ ((up : Nat) : Int))), (3, .int (iZ ((lo : Nat) : Int)))]) hx hb d_M_cross_36 hl (by decide) rfl (fun ls hl => ?_)
        refine lv_iconst (v := iZ ((1 : Nat) : Int)) hx hb d_M_cross_38 (by decide) ?_
        refine lv_istore (lv' := [(6, .int (iZ ((1 : Nat) : Int))), (4, .long (lZ ((0 : Nat) : Int))), (0, .ref (ad 19)), (1, .int (iZ ((nn : Nat) : Int))), (2, .int (iZ ((up : Nat) : Int))), (3, .int (iZ ((lo : Nat) : Int)))]) hx hb d_M_cross_39 hl (by decide) rfl (fun ls hl => ?_)
        have L41 : ∀ (N41 : Nat) (g : Nat) (wy : Nat → Nat) (ny : Nat → Nat) (co : Nat) (H : Heap) (locs : List Loc) (ls : Array Slot), (g ≤ nn) → (∀ j, j < 35 → wy j = sv up lo g j) → (co = sCr up lo g * 2 ^ (nn - g)) → nn - g < N41 → va_P D classes (wdC ad cI cZ cL J0 rd0 pr0 G0 K0 (wdM ad cI cZ cL J rd pr (M.1, msh M, mmy M, mla M, mfi M, mse M, mrw M, wy, ny) ov)) H → va_D A (wdC ad cI cZ cL J0 rd0 pr0 G0 K0 (wdM ad cI cZ cL J rd pr (M.1, msh M, mmy M, mla M, mfi M, mse M, mrw M, wy, ny) ov)) → va_S A s.heap H locs → lv_has ls 8 [(0, .ref (ad 19)), (1, .int (iZ ((nn : Nat) : Int))), (2, .int (iZ ((up : Nat) : Int))), (3, .int (iZ ((lo : Nat) : Int))), (4, .long (lZ ((co : Nat) : Int))), (6, .int (iZ ((g + 1 : Nat) : Int)))] → W p l e (zRm 0 0) s m ([.ref (ad 19), .int (iZ ((nn : Nat) : Int)), .int (iZ ((up : Nat) : Int)), .int (iZ ((lo : Nat) : Int))] : List Value).toArray below meth c H locs 0 0 (MQ below (va_Ql (fun r w => ∃ M1 : SM, r = lZ ((sCr up lo nn : Nat) : Int) ∧ w = wdC ad cI cZ cL J0 rd0 pr0 G0 K0 (wdM ad cI cZ cL J rd pr M1 ov) ∧ M1.1 = M.1 ∧ MJ J M1) (zB9 D classes (wdC ad cI cZ cL J0 rd0 pr0 G0 K0 (wdM ad cI cZ cL J rd pr M ov))) A) ([.ref (ad 19), .int (iZ ((nn : Nat) : Int)), .int (iZ ((up : Nat) : Int)), .int (iZ ((lo : Nat) : Int))] : List Value).toArray s 0 0 A) (F0 m 41 ls []) := by
          intro N41
          induction N41 with
          | zero =>
            intro g wy ny co H locs ls hg hw hco hN41 hP hD hS hl
            exact absurd hN41 (Nat.not_lt_zero _)
          | succ N41 ih41 =>
            intro g wy ny co H locs ls hg hw hco hN41 hP hD hS hl
            refine lv_iload hx hb d_M_cross_41 (lv_at hl 5 rfl) ?_
            refine lv_iload_n hx hb d_M_cross_43 rfl (lv_at hl 1 rfl) ?_
            refine z_icmp_gt (a := ((g + 1 : Nat) : Int)) (b := ((nn : Nat) : Int)) (tgt := 187) hx hb (by omega) d_M_cross_44 (by decide) (fun q44 => ?_) (fun q44 => ?_)
            · skip
              refine lv_lload hx hb d_M_cross_187 (lv_at hl 4 rfl) ?_
              exact z_lret Z hP hS d_M_cross_189 wdM_map (⟨_, by rw [hco, show g = nn by omega, Nat.sub_self, Nat.pow_zero, Nat.mul_one], rfl, rfl, hM⟩)
            · skip
              refine lv_iconst (v := iZ ((1 : Nat) : Int)) hx hb d_M_cross_47 (by decide) ?_
              refine lv_istore (lv' := [(7, .int (iZ ((1 : Nat) : Int))), (0, .ref (ad 19)), (1, .int (iZ ((nn : Nat) : Int))), (2, .int (iZ ((up : Nat) : Int))), (3, .int (iZ ((lo : Nat) : Int))), (4, .long (lZ ((co : Nat) : Int))), (6, .int (iZ ((g + 1 : Nat) : Int)))]) hx hb d_M_cross_48 hl (by decide) rfl (fun ls hl => ?_)
              have L50 : ∀ (N50 : Nat) (k : Nat) (ny : Nat → Nat) (H : Heap) (locs : List Loc) (ls : Array Slot), (1 ≤ k ∧ k ≤ 34) → (∀ j, 1 ≤ j → j < k → ny j = wy (j - 1) + wy (j + 1)) → 34 - k < N50 → va_P D classes (wdC ad cI cZ cL J0 rd0 pr0 G0 K0 (wdM ad cI cZ cL J rd pr (M.1, msh M, mmy M, mla M, mfi M, mse M, mrw M, wy, ny) ov)) H → va_D A (wdC ad cI cZ cL J0 rd0 pr0 G0 K0 (wdM ad cI cZ cL J rd pr (M.1, msh M, mmy M, mla M, mfi M, mse M, mrw M, wy, ny) ov)) → va_S A s.heap H locs → lv_has ls 8 [(0, .ref (ad 19)), (1, .int (iZ ((nn : Nat) : Int))), (2, .int (iZ ((up : Nat) : Int))), (3, .int (iZ ((lo : Nat) : Int))), (4, .long (lZ ((co : Nat) : Int))), (6, .int (iZ ((g + 1 : Nat) : Int))), (7, .int (iZ ((k : Nat) : Int)))] → W p l e (zRm 0 0) s m ([.ref (ad 19), .int (iZ ((nn : Nat) : Int)), .int (iZ ((up : Nat) : Int)), .int (iZ ((lo : Nat) : Int))] : List Value).toArray below meth c H locs 0 0 (MQ below (va_Ql (fun r w => ∃ M1 : SM, r = lZ ((sCr up lo nn : Nat) : Int) ∧ w = wdC ad cI cZ cL J0 rd0 pr0 G0 K0 (wdM ad cI cZ cL J rd pr M1 ov) ∧ M1.1 = M.1 ∧ MJ J M1) (zB9 D classes (wdC ad cI cZ cL J0 rd0 pr0 G0 K0 (wdM ad cI cZ cL J rd pr M ov))) A) ([.ref (ad 19), .int (iZ ((nn : Nat) : Int)), .int (iZ ((up : Nat) : Int)), .int (iZ ((lo : Nat) : Int))] : List Value).toArray s 0 0 A) (F0 m 50 ls []) := by
                intro N50
                induction N50 with
                | zero =>
                  intro k ny H locs ls hk hn hN50 hP hD hS hl
                  exact absurd hN50 (Nat.not_lt_zero _)
                | succ N50 ih50 =>
                  intro k ny H locs ls hk hn hN50 hP hD hS hl
                  refine lv_iload hx hb d_M_cross_50 (lv_at hl 6 rfl) ?_
                  refine lv_bipush (v := iZ ((34 : Nat) : Int)) hx hb d_M_cross_52 (by decide) ?_
                  refine z_icmp_ge (a := ((k : Nat) : Int)) (b := ((34 : Nat) : Int)) (tgt := 89) hx hb (by omega) d_M_cross_54 (by decide) (fun q54 => ?_) (fun q54 => ?_)
                  · skip
                    have hn34 : ∀ j, 1 ≤ j → j < 34 → ny j = wy (j - 1) + wy (j + 1) := fun j h1 h2 => hn j h1 (by omega)
                    refine lv_lload hx hb d_M_cross_89 (lv_at hl 4 rfl) ?_
                    refine lv_aload_n hx hb d_M_cross_91 rfl (lv_at hl 0 rfl) ?_
                    refine va_get (D := D) (ci := 5) (v := .ref (ad 32)) (C := n_M) (T := f_M) (N := 17) hx hb hts in_M hown hK hP 19 rfl rfl 16 (by decide) (hts _ fl_M_48) (fun _ h9 => h9) rfl d_M_cross_92 ?_
                    refine lv_bipush (v := iZ ((17 : Nat) : Int)) hx hb d_M_cross_95 (by decide) ?_
                    refine lv_iload_n hx hb d_M_cross_97 rfl (lv_at hl 2 rfl) ?_
                    refine z_iaddN (u := 17) (v := up) hx hb d_M_cross_98 ?_
                    refine z_laldN (f := ny) hx hb hK hP 32 2 rfl rfl (17 + up) (by omega) d_M_cross_99 ?_
                    refine lv_iload_n hx hb d_M_cross_100 rfl (lv_at hl 1 rfl) ?_
                    refine lv_iload hx hb d_M_cross_101 (lv_at hl 5 rfl) ?_
                    refine z_isub (a := ((nn : Nat) : Int)) (b := ((g + 1 : Nat) : Int)) hx hb d_M_cross_103 ?_
                    refine z_topZ (b := ((nn - (g + 1) : Nat) : Int)) (by omega) ?_
                    refine lv_lshl (v := lZ (((ny (17 + up)) * 2 ^ (nn - (g + 1)) : Nat) : Int)) hx hb d_M_cross_104 (lshl_k _ (by omega)) ?_
                    refine z_laddN (u := co) (v := (ny (17 + up)) * 2 ^ (nn - (g + 1))) hx hb d_M_cross_105 ?_
                    refine lv_lstore (lv' := [(4, .long (lZ ((co + ((ny (17 + up)) * 2 ^ (nn - (g + 1))) : Nat) : Int))), (0, .ref (ad 19)), (1, .int (iZ ((nn : Nat) : Int))), (2, .int (iZ ((up : Nat) : Int))), (3, .int (iZ ((lo : Nat) : Int))), (6, .int (iZ ((g + 1 : Nat) : Int))), (7, .int (iZ ((k : Nat) : Int)))]) hx hb d_M_cross_106 hl (by decide) rfl (fun ls hl => ?_)
                    refine lv_aload_n hx hb d_M_cross_108 rfl (lv_at hl 1 rfl) ?_
                    refine va_get (D := D) (ci := 5) (v := .ref (ad 32)) (C := n_M) (T := f_M) (N := 17) hx hb hts in_M hown hK hP 19 rfl rfl 16 (by decide) (hts _ fl_M_48) (fun _ h9 => h9) rfl d_M_cross_109 ?_
                    refine lv_bipush (v := iZ ((17 : Nat) : Int)) hx hb d_M_cross_112 (by decide) ?_
                    refine lv_iload_n hx hb d_M_cross_114 rfl (lv_at hl 3 rfl) ?_
                    refine z_iaddN (u := 17) (v := up) hx hb d_M_cross_115 ?_
                    refine lv_lconst (v := lZ ((0 : Nat) : Int)) hx hb d_M_cross_116 (by decide) ?_
                    refine z_lastN (f := ny) (v := 0) hx hb hK hP hD hS 32 2 rfl rfl (17 + up) (by omega) d_M_cross_117 (fun H locs hP hD hS => ?_)
                    have hP : va_P D classes (wdC ad cI cZ cL J0 rd0 pr0 G0 K0 (wdM ad cI cZ cL J rd pr (M.1, msh M, mmy M, mla M, mfi M, mse M, mrw M, wy, (nu ny (17 + up) 0)) ov)) H := hP
                    have hD : va_D A (wdC ad cI cZ cL J0 rd0 pr0 G0 K0 (wdM ad cI cZ cL J rd pr (M.1, msh M, mmy M, mla M, mfi M, mse M, mrw M, wy, (nu ny (17 + up) 0)) ov)) := hD
                    refine lv_aload_n hx hb d_M_cross_118 rfl (lv_at hl 1 rfl) ?_
                    refine va_get (D := D) (ci := 5) (v := .ref (ad 32)) (C := n_M) (T := f_M) (N := 17) hx hb hts in_M hown hK hP 19 rfl rfl 16 (by decide) (hts _ fl_M_48) (fun _ h9 => h9) rfl d_M_cross_119 ?_
                    refine lv_bipush (v := iZ ((17 : Nat) : Int)) hx hb d_M_cross_122 (by decide) ?_
                    refine lv_iload_n hx hb d_M_cross_124 rfl (lv_at hl 4 rfl) ?_
                    refine z_isub (a := ((17 : Nat) : Int)) (b := ((lo : Nat) : Int)) hx hb d_M_cross_125 ?_
                    refine lv_lconst (v := lZ ((0 : Nat) : Int)) hx hb d_M_cross_126 (by decide) ?_
                    refine z_lastN (f := (nu ny (17 + up) 0)) (v := 0) hx hb hK hP hD hS 32 2 rfl rfl (17 - lo) (by omega) d_M_cross_127 (fun H locs hP hD hS => ?_)
                    have hP : va_P D classes (wdC ad cI cZ cL J0 rd0 pr0 G0 K0 (wdM ad cI cZ cL J rd pr (M.1, msh M, mmy M, mla M, mfi M, mse M, mrw M, wy, (nu (nu ny (17 + up) 0) (17 - lo) 0)) ov)) H := hP
                    have hD : va_D A (wdC ad cI cZ cL J0 rd0 pr0 G0 K0 (wdM ad cI cZ cL J rd pr (M.1, msh M, mmy M, mla M, mfi M, mse M, mrw M, wy, (nu (nu ny (17 + up) 0) (17 - lo) 0)) ov)) := hD
                    refine lv_iconst (v := iZ ((1 : Nat) : Int)) hx hb d_M_cross_128 (by decide) ?_
                    refine lv_istore (lv' := [(7, .int (iZ ((1 : Nat) : Int))), (4, .long (lZ ((co + ((ny (17 + up)) * 2 ^ (nn - (g + 1))) : Nat) : Int))), (0, .ref (ad 19)), (1, .int (iZ ((nn : Nat) : Int))), (2, .int (iZ ((up : Nat) : Int))), (3, .int (iZ ((lo : Nat) : Int))), (6, .int (iZ ((g + 1 : Nat) : Int)))]) hx hb d_M_cross_129 hl (by decide) rfl (fun ls hl => ?_)
                    have L131 : ∀ (N131 : Nat) (k : Nat) (wz : Nat → Nat) (H : Heap) (locs : List Loc) (ls : Array Slot), (1 ≤ k ∧ k ≤ 34) → (∀ j, j < 35 → wz j = if 1 ≤ j ∧ j < k then sv up lo (g + 1) j else wy j) → 34 - k < N131 → va_P D classes (wdC ad cI cZ cL J0 rd0 pr0 G0 K0 (wdM ad cI cZ cL J rd pr (M.1, msh M, mmy M, mla M, mfi M, mse M, mrw M, wz, (nu (nu ny (17 + up) 0) (17 - lo) 0)) ov)) H → va_D A (wdC ad cI cZ cL J0 rd0 pr0 G0 K0 (wdM ad cI cZ cL J rd pr (M.1, msh M, mmy M, mla M, mfi M, mse M, mrw M, wz, (nu (nu ny (17 + up) 0) (17 - lo) 0)) ov)) → va_S A s.heap H locs → lv_has ls 8 [(0, .ref (ad 19)), (1, .int (iZ ((nn : Nat) : Int))), (2, .int (iZ ((up : Nat) : Int))), (3, .int (iZ ((lo : Nat) : Int))), (4, .long (lZ ((co + (ny (17 + up)) * 2 ^ (nn - (g + 1)) : Nat) : Int))), (6, .int (iZ ((g + 1 : Nat) : Int))), (7, .int (iZ ((k : Nat) : Int)))] → W p l e (zRm 0 0) s m ([.ref (ad 19), .int (iZ ((nn : Nat) : Int)), .int (iZ ((up : Nat) : Int)), .int (iZ ((lo : Nat) : Int))] : List Value).toArray below meth c H locs 0 0 (MQ below (va_Ql (fun r w => ∃ M1 : SM, r = lZ ((sCr up lo nn : Nat) : Int) ∧ w = wdC ad cI cZ cL J0 rd0 pr0 G0 K0 (wdM ad cI cZ cL J rd pr M1 ov) ∧ M1.1 = M.1 ∧ MJ J M1) (zB9 D classes (wdC ad cI cZ cL J0 rd0 pr0 G0 K0 (wdM ad cI cZ cL J rd pr M ov))) A) ([.ref (ad 19), .int (iZ ((nn : Nat) : Int)), .int (iZ ((up : Nat) : Int)), .int (iZ ((lo : Nat) : Int))] : List Value).toArray s 0 0 A) (F0 m 131 ls []) := by
                      intro N131
                      induction N131 with
                      | zero =>
                        intro k wz H locs ls hk hz hN131 hP hD hS hl
                        exact absurd hN131 (Nat.not_lt_zero _)
                      | succ N131 ih131 =>
                        intro k wz H locs ls hk hz hN131 hP hD hS hl
                        refine lv_iload hx hb d_M_cross_131 (lv_at hl 6 rfl) ?_
                        refine lv_bipush (v := iZ ((34 : Nat) : Int)) hx hb d_M_cross_133 (by decide) ?_
                        refine z_icmp_ge (a := ((k : Nat) : Int)) (b := ((34 : Nat) : Int)) (tgt := 181) hx hb (by omega) d_M_cross_135 (by decide) (fun q135 => ?_) (fun q135 => ?_)
                        · skip
                          refine lv_iinc (v := iZ ((g + 1 + 1 : Nat) : Int)) (lv' := [(6, .int (iZ ((g + 1 + 1 : Nat) : Int))), (0, .ref (ad 19)), (1, .int (iZ ((nn : Nat) : Int))), (2, .int (iZ ((up : Nat) : Int))), (3, .int (iZ ((lo : Nat) : Int))), (4, .long (lZ ((co + (ny (17 + up)) * 2 ^ (nn - (g + 1)) : Nat) : Int))), (7, .int (iZ ((k : Nat) : Int)))]) hx hb d_M_cross_181 hl (k := 5) rfl (iZ_inc (g + 1) 1) (by decide) rfl (fun ls hl => ?_)
                          refine lv_goto (tgt := 41) hx hb d_M_cross_184 (by decide) ?_
                          exact ih41 (g + 1) wz (nu (nu ny (17 + up) 0) (17 - lo) 0) (co + (ny (17 + up)) * 2 ^ (nn - (g + 1))) H locs ls (by omega) (fun j hj => by
                            rw [hz j hj]
                            by_cases q9 : 1 ≤ j ∧ j < k
                            · rw [if_pos q9]
                            · rw [if_neg q9, hw j hj, sv_out (by omega), sv_out (by omega)]) (cr_s hb9 (by omega) hco (by rw [hn34 (17 + up) (by omega) (by omega), hw _ (by omega), hw _ (by omega)])) (by omega) hP hD hS (lv_sub hl [1, 2, 3, 4, 5, 0] rfl)
                        · skip
                          refine lv_aload_n hx hb d_M_cross_138 rfl (lv_at hl 0 rfl) ?_
                          refine va_get (D := D) (ci := 5) (v := .ref (ad 31)) (C := n_M) (T := f_M) (N := 17) hx hb hts in_M hown hK hP 19 rfl rfl 15 (by decide) (hts _ fl_M_44) (fun _ h9 => h9) rfl d_M_cross_139 ?_
                          refine lv_iload hx hb d_M_cross_142 (lv_at hl 6 rfl) ?_
                          refine lv_iload hx hb d_M_cross_144 (lv_at hl 6 rfl) ?_
                          refine lv_bipush (v := iZ ((17 : Nat) : Int)) hx hb d_M_cross_146 (by decide) ?_
                          refine z_isub (a := ((k : Nat) : Int)) (b := ((17 : Nat) : Int)) hx hb d_M_cross_148 ?_
                          refine lv_iload_n hx hb d_M_cross_149 rfl (lv_at hl 2 rfl) ?_
                          refine z_icmp_ge (a := ((k : Nat) : Int) - ((17 : Nat) : Int)) (b := ((up : Nat) : Int)) (tgt := 173) hx hb (by omega) d_M_cross_150 (by decide) (fun q150 => ?_) (fun q150 => ?_)
                          · skip
                            refine lv_lconst (v := lZ ((0 : Nat) : Int)) hx hb d_M_cross_173 (by decide) ?_
                            refine z_lastN (f := wz) (v := 0) hx hb hK hP hD hS 31 2 rfl rfl (k) (by omega) d_M_cross_174 (fun H locs hP hD hS => ?_)
                            have hP : va_P D classes (wdC ad cI cZ cL J0 rd0 pr0 G0 K0 (wdM ad cI cZ cL J rd pr (M.1, msh M, mmy M, mla M, mfi M, mse M, mrw M, (nu wz (k) 0), (nu (nu ny (17 + up) 0) (17 - lo) 0)) ov)) H := hP
                            have hD : va_D A (wdC ad cI cZ cL J0 rd0 pr0 G0 K0 (wdM ad cI cZ cL J rd pr (M.1, msh M, mmy M, mla M, mfi M, mse M, mrw M, (nu wz (k) 0), (nu (nu ny (17 + up) 0) (17 - lo) 0)) ov)) := hD
                            refine lv_iinc (v := iZ ((k + 1 : Nat) : Int)) (lv' := [(7, .int (iZ ((k + 1 : Nat) : Int))), (0, .ref (ad 19)), (1, .int (iZ ((nn : Nat) : Int))), (2, .int (iZ ((up : Nat) : Int))), (3, .int (iZ ((lo : Nat) : Int))), (4, .long (lZ ((co + (ny (17 + up)) * 2 ^ (nn - (g + 1)) : Nat) : Int))), (6, .int (iZ ((g + 1 : Nat) : Int)))]) hx hb d_M_cross_175 hl (k := 6) rfl (iZ_inc (k) 1) (by decide) rfl (fun ls hl => ?_)
                            refine lv_goto (tgt := 131) hx hb d_M_cross_178 (by decide) ?_
                            exact ih131 (k + 1) (nu wz (k) 0) H locs ls (by omega) (by
                              intro j hj
                              by_cases e9 : j = k
                              · rw [e9, nu_s, if_pos (by omega)]
                                first | exact (sv_out (by omega)).symm | (rw [nu_n _ _ (by omega), nu_n _ _ (by omega), hn34 k (by omega) (by omega), hw (k - 1) (by omega), hw (k + 1) (by omega), sv_s hb9 (by omega)])
                              · rw [nu_n _ _ e9, hz j hj]
                                by_cases q9 : 1 ≤ j ∧ j < k
                                · rw [if_pos q9, if_pos (show 1 ≤ j ∧ j < k + 1 by omega)]
                                · rw [if_neg q9, if_neg (show ¬ (1 ≤ j ∧ j < k + 1) by omega)]) (by omega) hP hD hS (lv_sub hl [1, 2, 3, 4, 5, 6, 0] rfl)
                          · skip
                            refine lv_iload hx hb d_M_cross_153 (lv_at hl 6 rfl) ?_
                            refine lv_bipush (v := iZ ((17 : Nat) : Int)) hx hb d_M_cross_155 (by decide) ?_
                            refine z_isub (a := ((k : Nat) : Int)) (b := ((17 : Nat) : Int)) hx hb d_M_cross_157 ?_
                            refine lv_iload_n hx hb d_M_cross_158 rfl (lv_at hl 3 rfl) ?_
                            refine z_ineg (a := ((lo : Nat) : Int)) hx hb d_M_cross_159 ?_
                            refine z_icmp_le (a := ((k : Nat) : Int) - ((17 : Nat) : Int)) (b := -((lo : Nat) : Int)) (tgt := 173) hx hb (by omega) d_M_cross_160 (by decide) (fun q160 => ?_) (fun q160 => ?_)
                            · skip
                              refine lv_lconst (v := lZ ((0 : Nat) : Int)) hx hb d_M_cross_173 (by decide) ?_
                              refine z_lastN (f := wz) (v := 0) hx hb hK hP hD hS 31 2 rfl rfl (k) (by omega) d_M_cross_174 (fun H locs hP hD hS => ?_)
                              have hP : va_P D classes (wdC ad cI cZ cL J0 rd0 pr0 G0 K0 (wdM ad cI cZ cL J rd pr (M.1, msh M, mmy M, mla M, mfi M, mse M, mrw M, (nu wz (k) 0), (nu (nu ny (17 + up) 0) (17 - lo) 0)) ov)) H := hP
                              have hD : va_D A (wdC ad cI cZ cL J0 rd0 pr0 G0 K0 (wdM ad cI cZ cL J rd pr (M.1, msh M, mmy M, mla M, mfi M, mse M, mrw M, (nu wz (k) 0), (nu (nu ny (17 + up) 0) (17 - lo) 0)) ov)) := hD
                              refine lv_iinc (v := iZ ((k + 1 : Nat) : Int)) (lv' := [(7, .int (iZ ((k + 1 : Nat) : Int))), (0, .ref (ad 19)), (1, .int (iZ ((nn : Nat) : Int))), (2, .int (iZ ((up : Nat) : Int))), (3, .int (iZ ((lo : Nat) : Int))), (4, .long (lZ ((co + (ny (17 + up)) * 2 ^ (nn - (g + 1)) : Nat) : Int))), (6, .int (iZ ((g + 1 : Nat) : Int)))]) hx hb d_M_cross_175 hl (k := 6) rfl (iZ_inc (k) 1) (by decide) rfl (fun ls hl => ?_)
                              refine lv_goto (tgt := 131) hx hb d_M_cross_178 (by decide) ?_
                              exact ih131 (k + 1) (nu wz (k) 0) H locs ls (by omega) (by
                                intro j hj
                                by_cases e9 : j = k
                                · rw [e9, nu_s, if_pos (by omega)]
                                  first | exact (sv_out (by omega)).symm | (rw [nu_n _ _ (by omega), nu_n _ _ (by omega), hn34 k (by omega) (by omega), hw (k - 1) (by omega), hw (k + 1) (by omega), sv_s hb9 (by omega)])
                                · rw [nu_n _ _ e9, hz j hj]
                                  by_cases q9 : 1 ≤ j ∧ j < k
                                  · rw [if_pos q9, if_pos (show 1 ≤ j ∧ j < k + 1 by omega)]
                                  · rw [if_neg q9, if_neg (show ¬ (1 ≤ j ∧ j < k + 1) by omega)]) (by omega) hP hD hS (lv_sub hl [1, 2, 3, 4, 5, 6, 0] rfl)
                            · skip
                              refine lv_aload_n hx hb d_M_cross_163 rfl (lv_at hl 0 rfl) ?_
                              refine va_get (D := D) (ci := 5) (v := .ref (ad 32)) (C := n_M) (T := f_M) (N := 17) hx hb hts in_M hown hK hP 19 rfl rfl 16 (by decide) (hts _ fl_M_48) (fun _ h9 => h9) rfl d_M_cross_164 ?_
                              refine lv_iload hx hb d_M_cross_167 (lv_at hl 6 rfl) ?_
                              refine z_laldN (f := (nu (nu ny (17 + up) 0) (17 - lo) 0)) hx hb hK hP 32 2 rfl rfl (k) (by omega) d_M_cross_169 ?_
                              refine lv_goto (tgt := 174) hx hb d_M_cross_170 (by decide) ?_
                              refine z_lastN (f := wz) (v := (nu (nu ny (17 + up) 0) (17 - lo) 0) (k)) hx hb hK hP hD hS 31 2 rfl rfl (k) (by omega) d_M_cross_174 (fun H locs hP hD hS => ?_)
                              have hP : va_P D classes (wdC ad cI cZ cL J0 rd0 pr0 G0 K0 (wdM ad cI cZ cL J rd pr (M.1, msh M, mmy M, mla M, mfi M, mse M, mrw M, (nu wz (k) ((nu (nu ny (17 + up) 0) (17 - lo) 0) (k))), (nu (nu ny (17 + up) 0) (17 - lo) 0)) ov)) H := hP
                              have hD : va_D A (wdC ad cI cZ cL J0 rd0 pr0 G0 K0 (wdM ad cI cZ cL J rd pr (M.1, msh M, mmy M, mla M, mfi M, mse M, mrw M, (nu wz (k) ((nu (nu ny (17 + up) 0) (17 - lo) 0) (k))), (nu (nu ny (17 + up) 0) (17 - lo) 0)) ov)) := hD
                              refine lv_iinc (v := iZ ((k + 1 : Nat) : Int)) (lv' := [(7, .int (iZ ((k + 1 : Nat) : Int))), (0, .ref (ad 19)), (1, .int (iZ ((nn : Nat) : Int))), (2, .int (iZ ((up : Nat) : Int))), (3, .int (iZ ((lo : Nat) : Int))), (4, .long (lZ ((co + (ny (17 + up)) * 2 ^ (nn - (g + 1)) : Nat) : Int))), (6, .int (iZ ((g + 1 : Nat) : Int)))]) hx hb d_M_cross_175 hl (k := 6) rfl (iZ_inc (k) 1) (by decide) rfl (fun ls hl => ?_)
                              refine lv_goto (tgt := 131) hx hb d_M_cross_178 (by decide) ?_
                              exact ih131 (k + 1) (nu wz (k) ((nu (nu ny (17 + up) 0) (17 - lo) 0) (k))) H locs ls (by omega) (by
                                intro j hj
                                by_cases e9 : j = k
                                · rw [e9, nu_s, if_pos (by omega)]
                                  first | exact (sv_out (by omega)).symm | (rw [nu_n _ _ (by omega), nu_n _ _ (by omega), hn34 k (by omega) (by omega), hw (k - 1) (by omega), hw (k + 1) (by omega), sv_s hb9 (by omega)])
                                · rw [nu_n _ _ e9, hz j hj]
                                  by_cases q9 : 1 ≤ j ∧ j < k
                                  · rw [if_pos q9, if_pos (show 1 ≤ j ∧ j < k + 1 by omega)]
                                  · rw [if_neg q9, if_neg (show ¬ (1 ≤ j ∧ j < k + 1) by omega)]) (by omega) hP hD hS (lv_sub hl [1, 2, 3, 4, 5, 6, 0] rfl)
                    exact L131 (34 - 1 + 1) 1 wy H locs ls (by omega) (fun j hj => by rw [if_neg (by omega)]) (by omega) hP hD hS (lv_sub hl [2, 3, 4, 5, 1, 6, 0] rfl)
                  · skip
                    refine lv_aload_n hx hb d_M_cross_57 rfl (lv_at hl 0 rfl) ?_
                    refine va_get (D := D) (ci := 5) (v := .ref (ad 32)) (C := n_M) (T := f_M) (N := 17) hx hb hts in_M hown hK hP 19 rfl rfl 16 (by decide) (hts _ fl_M_48) (fun _ h9 => h9) rfl d_M_cross_58 ?_
                    refine lv_iload hx hb d_M_cross_61 (lv_at hl 6 rfl) ?_
                    refine lv_aload_n hx hb d_M_cross_63 rfl (lv_at hl 0 rfl) ?_
                    refine va_get (D := D) (ci := 5) (v := .ref (ad 31)) (C := n_M) (T := f_M) (N := 17) hx hb hts in_M hown hK hP 19 rfl rfl 15 (by decide) (hts _ fl_M_44) (fun _ h9 => h9) rfl d_M_cross_64 ?_
                    refine lv_iload hx hb d_M_cross_67 (lv_at hl 6 rfl) ?_
                    refine lv_iconst (v := iZ ((1 : Nat) : Int)) hx hb d_M_cross_69 (by decide) ?_
                    refine z_isub (a := ((k : Nat) : Int)) (b := ((1 : Nat) : Int)) hx hb d_M_cross_70 ?_
                    refine z_laldN (f := wy) hx hb hK hP 31 2 rfl rfl (k - 1) (by omega) d_M_cross_71 ?_
                    refine lv_aload_n hx hb d_M_cross_72 rfl (lv_at hl 0 rfl) ?_
                    refine va_get (D := D) (ci := 5) (v := .ref (ad 31)) (C := n_M) (T := f_M) (N := 17) hx hb hts in_M hown hK hP 19 rfl rfl 15 (by decide) (hts _ fl_M_44) (fun _ h9 => h9) rfl d_M_cross_73 ?_
                    refine lv_iload hx hb d_M_cross_76 (lv_at hl 6 rfl) ?_
                    refine lv_iconst (v := iZ ((1 : Nat) : Int)) hx hb d_M_cross_78 (by decide) ?_
                    refine z_iaddN (u := k) (v := 1) hx hb d_M_cross_79 ?_
                    refine z_laldN (f := wy) hx hb hK hP 31 2 rfl rfl (k + 1) (by omega) d_M_cross_80 ?_
                    refine z_laddN (u := wy (k - 1)) (v := wy (k + 1)) hx hb d_M_cross_81 ?_
                    refine z_lastN (f := ny) (v := (wy (k - 1)) + (wy (k + 1))) hx hb hK hP hD hS 32 2 rfl rfl (k) (by omega) d_M_cross_82 (fun H locs hP hD hS => ?_)
                    have hP : va_P D classes (wdC ad cI cZ cL J0 rd0 pr0 G0 K0 (wdM ad cI cZ cL J rd pr (M.1, msh M, mmy M, mla M, mfi M, mse M, mrw M, wy, (nu ny (k) ((wy (k - 1)) + (wy (k + 1))))) ov)) H := hP
                    have hD : va_D A (wdC ad cI cZ cL J0 rd0 pr0 G0 K0 (wdM ad cI cZ cL J rd pr (M.1, msh M, mmy M, mla M, mfi M, mse M, mrw M, wy, (nu ny (k) ((wy (k - 1)) + (wy (k + 1))))) ov)) := hD
                    refine lv_iinc (v := iZ ((k + 1 : Nat) : Int)) (lv' := [(7, .int (iZ ((k + 1 : Nat) : Int))), (0, .ref (ad 19)), (1, .int (iZ ((nn : Nat) : Int))), (2, .int (iZ ((up : Nat) : Int))), (3, .int (iZ ((lo : Nat) : Int))), (4, .long (lZ ((co : Nat) : Int))), (6, .int (iZ ((g + 1 : Nat) : Int)))]) hx hb d_M_cross_83 hl (k := 6) rfl (iZ_inc (k) 1) (by decide) rfl (fun ls hl => ?_)
                    refine lv_goto (tgt := 50) hx hb d_M_cross_86 (by decide) ?_
                    exact ih50 (k + 1) (nu ny (k) ((wy (k - 1)) + (wy (k + 1)))) H locs ls (by omega) (by
                      intro j h1 hj
                      by_cases e9 : j = k
                      · rw [e9, nu_s]
                      · rw [nu_n _ _ e9]; exact hn j h1 (by omega)) (by omega) hP hD hS (lv_sub hl [1, 2, 3, 4, 5, 6, 0] rfl)
              exact L50 (34 - 1 + 1) 1 ny H locs ls (by omega) (fun j h1 h2 => absurd h2 (by omega)) (by omega) hP hD hS (lv_sub hl [1, 2, 3, 4, 5, 6, 0] rfl)
        exact L41 (nn - 0 + 1) 0 wy (mnx M) 0 H locs ls (Nat.zero_le _) (fun j hj => hw j (by omega)) (by show 0 = 0 * _; rw [Nat.zero_mul]) (by omega) hP hD hS (lv_sub hl [2, 3, 4, 5, 1, 0] rfl)
      · skip
        refine lv_aload_n hx hb d_M_cross_10 rfl (lv_at hl 0 rfl) ?_
        refine va_get (D := D) (ci := 5) (v := .ref (ad 31)) (C := n_M) (T := f_M) (N := 17) hx hb hts in_M hown hK hP 19 rfl rfl 15 (by decide) (hts _ fl_M_44) (fun _ h9 => h9) rfl d_M_cross_11 ?_
        refine lv_iload hx hb d_M_cross_14 (lv_at hl 4 rfl) ?_
        refine lv_iload hx hb d_M_cross_16 (lv_at hl 4 rfl) ?_
        refine lv_bipush (v := iZ ((17 : Nat) : Int)) hx hb d_M_cross_18 (by decide) ?_
        refine z_icmp_ne (a := ((k : Nat) : Int)) (b := ((17 : Nat) : Int)) (tgt := 27) hx hb (by omega) d_M_cross_20 (by decide) (fun q20 => ?_) (fun q20 => ?_)
        · skip
          refine lv_lconst (v := lZ ((0 : Nat) : Int)) hx hb d_M_cross_27 (by decide) ?_
          refine z_lastN (f := wy) (v := 0) hx hb hK hP hD hS 31 2 rfl rfl (k) (by omega) d_M_cross_28 (fun H locs hP hD hS => ?_)
          have hP : va_P D classes (wdC ad cI cZ cL J0 rd0 pr0 G0 K0 (wdM ad cI cZ cL J rd pr (M.1, msh M, mmy M, mla M, mfi M, mse M, mrw M, (nu wy (k) 0), mnx M) ov)) H := hP
          have hD : va_D A (wdC ad cI cZ cL J0 rd0 pr0 G0 K0 (wdM ad cI cZ cL J rd pr (M.1, msh M, mmy M, mla M, mfi M, mse M, mrw M, (nu wy (k) 0), mnx M) ov)) := hD
          refine lv_iinc (v := iZ ((k + 1 : Nat) : Int)) (lv' := [(4, .int (iZ ((k + 1 : Nat) : Int))), (0, .ref (ad 19)), (1, .int (iZ ((nn : Nat) : Int))), (2, .int (iZ ((up : Nat) : Int))), (3, .int (iZ ((lo : Nat) : Int)))]) hx hb d_M_cross_29 hl (k := 4) rfl (iZ_inc (k) 1) (by decide) rfl (fun ls hl => ?_)
          refine lv_goto (tgt := 3) hx hb d_M_cross_32 (by decide) ?_
          exact ih3 (k + 1) (nu wy (k) 0) H locs ls (by omega) (by
            intro j hj
            by_cases e9 : j = k
            · rw [e9, nu_s, sv_0 hb9]
              first | (rw [if_pos (by omega)]; done) | (rw [if_neg (by omega)]; done)
            · rw [nu_n _ _ e9]; exact hw j (by omega)) (by omega) hP hD hS (lv_sub hl [1, 2, 3, 4, 0] rfl)
        · skip
          refine lv_lconst (v := lZ ((1 : Nat) : Int)) hx hb d_M_cross_23 (by decide) ?_
          refine lv_goto (tgt := 28) hx hb d_M_cross_24 (by decide) ?_
          refine z_lastN (f := wy) (v := 1) hx hb hK hP hD hS 31 2 rfl rfl (k) (by omega) d_M_cross_28 (fun H locs hP hD hS => ?_)
          have hP : va_P D classes (wdC ad cI cZ cL J0 rd0 pr0 G0 K0 (wdM ad cI cZ cL J rd pr (M.1, msh M, mmy M, mla M, mfi M, mse M, mrw M, (nu wy (k) 1), mnx M) ov)) H := hP
          have hD : va_D A (wdC ad cI cZ cL J0 rd0 pr0 G0 K0 (wdM ad cI cZ cL J rd pr (M.1, msh M, mmy M, mla M, mfi M, mse M, mrw M, (nu wy (k) 1), mnx M) ov)) := hD
          refine lv_iinc (v := iZ ((k + 1 : Nat) : Int)) (lv' := [(4, .int (iZ ((k + 1 : Nat) : Int))), (0, .ref (ad 19)), (1, .int (iZ ((nn : Nat) : Int))), (2, .int (iZ ((up : Nat) : Int))), (3, .int (iZ ((lo : Nat) : Int)))]) hx hb d_M_cross_29 hl (k := 4) rfl (iZ_inc (k) 1) (by decide) rfl (fun ls hl => ?_)
          refine lv_goto (tgt := 3) hx hb d_M_cross_32 (by decide) ?_
          exact ih3 (k + 1) (nu wy (k) 1) H locs ls (by omega) (by
            intro j hj
            by_cases e9 : j = k
            · rw [e9, nu_s, sv_0 hb9]
              first | (rw [if_pos (by omega)]; done) | (rw [if_neg (by omega)]; done)
            · rw [nu_n _ _ e9]; exact hw j (by omega)) (by omega) hP hD hS (lv_sub hl [1, 2, 3, 4, 0] rfl)
  exact L3 (35 - 0 + 1) 0 (mwy M) H locs ls (Nat.zero_le _) (fun j hj => absurd hj (Nat.not_lt_zero j)) (by omega) hP hD hS (lv_sub hl [1, 2, 3, 4, 0] rfl)

set_option maxHeartbeats 4000000 in
set_option maxRecDepth 100000 in
theorem k_M_crossingx1 {l : Launch} {D : va_G} {ad : Nat → Nat} {cI cZ cL : ClassId} {J J0 : SJ} {rd rd0 : Nat → Int} {pr pr0 : Nat → Nat} {G0 : SH} {K0 : SK} {M : SM} {ov : Nat → Int64} (hI : JI J) (hM : MJ J M) {a b c9 d9 : Int} (h : z32 d9 ∧ (d9 < 0 ∨ 2 ≤ d9)) : zMl l TB D classes (tysW cI cZ cL) y_M_crossing w_M_crossing 1 30 [.ref (ad 19), .int (iZ (a)), .int (iZ (b)), .int (iZ (c9)), .int (iZ (d9))] (wdC ad cI cZ cL J0 rd0 pr0 G0 K0 (wdM ad cI cZ cL J rd pr M ov)) (fun r w => ∃ M1 : SM, w = wdC ad cI cZ cL J0 rd0 pr0 G0 K0 (wdM ad cI cZ cL J rd pr M1 ov) ∧ M1.1 = 1 ∧ MJ J M1) := by
  refine z_of (Qc := fun A => va_Ql (fun r w => ∃ M1 : SM, w = wdC ad cI cZ cL J0 rd0 pr0 G0 K0 (wdM ad cI cZ cL J rd pr M1 ov) ∧ M1.1 = 1 ∧ MJ J M1) (zB9 D classes (wdC ad cI cZ cL J0 rd0 pr0 G0 K0 (wdM ad cI cZ cL J rd pr M ov))) A) (by decide) (Nat.le_of_ble_eq_true rfl) ?_
  intro p e s m below meth c A ls Z hP hK hD hS hA hl
  obtain ⟨hx, hb, hr, hml, hown, hts, hE, hlocks⟩ := id Z
  have hl : lv_has ls 5 [(0, .ref (ad 19)), (1, .int (iZ (a))), (2, .int (iZ (b))), (3, .int (iZ (c9))), (4, .int (iZ (d9)))] := hl
  obtain ⟨hn32, hk2, hpr, hct⟩ := id hI
  suffices K9 : ∀ (H : Heap) (locs : List Loc) (ls : Array Slot), va_P D classes (wdC ad cI cZ cL J0 rd0 pr0 G0 K0 (wdM ad cI cZ cL J rd pr M ov)) H → va_D A (wdC ad cI cZ cL J0 rd0 pr0 G0 K0 (wdM ad cI cZ cL J rd pr M ov)) → va_S A s.heap H locs → lv_has ls 5 [(0, .ref (ad 19)), (1, .int (iZ (a))), (2, .int (iZ (b))), (3, .int (iZ (c9))), (4, .int (iZ (d9)))] → W p l e (zRm 1 30) s m ([.ref (ad 19), .int (iZ (a)), .int (iZ (b)), .int (iZ (c9)), .int (iZ (d9))] : List Value).toArray below meth c H locs 0 0 (MQ below (va_Ql (fun r w => ∃ M1 : SM, w = wdC ad cI cZ cL J0 rd0 pr0 G0 K0 (wdM ad cI cZ cL J rd pr M1 ov) ∧ M1.1 = 1 ∧ MJ J M1) (zB9 D classes (wdC ad cI cZ cL J0 rd0 pr0 G0 K0 (wdM ad cI cZ cL J rd pr M ov))) A) ([.ref (ad 19), .int (iZ (a)), .int (iZ (b)), .int (iZ (c9)), .int (iZ (d9))] : List Value).toArray s 0 0 A) (F0 m 0 ls []) from K9 s.heap [] ls hP hD hS hl
  clear hP hD hS hl
  intro H locs ls hP hD hS hl
  refine lv_aload_n hx hb d_M_crossing_0 rfl (lv_at hl 0 rfl) ?_
  refine lv_iload hx hb d_M_crossing_1 (lv_at hl 4 rfl) ?_
  refine lv_iconst (v := iZ ((2 : Nat) : Int)) hx hb d_M_crossing_3 (by decide) ?_
  refine z_callSR (As := [.int (iZ (d9)), .int (iZ ((2 : Nat) : Int))]) (rest := [.ref (ad 19)]) zTB Z (k_M_isIn (a := d9) (b := ((2 : Nat) : Int)) (by omega)) ⟨ml_M_59, sm_M_isIn, ini_M, co_M_isIn⟩ zd_M_isIn ⟨Nat.le_of_ble_eq_true rfl, Nat.le_of_ble_eq_true rfl⟩ hP hK hl.1 rfl (Nat.le_of_ble_eq_true rfl) d_M_crossing_4 ⟨Nat.zero_le _, Nat.zero_le _⟩ ?_
  refine W.eq (g2 := F0 m 7 ls [.int (bI (decide (0 ≤ d9 ∧ d9 < ((2 : Nat) : Int)))), .ref (ad 19)]) rfl ?_
  refine z_if_neB (b := decide (0 ≤ d9 ∧ d9 < ((2 : Nat) : Int))) (tgt := 14) hx hb d_M_crossing_7 (by decide) (fun q7 => ?_) (fun q7 => ?_)
  · skip
    replace q7 := of_decide_eq_true q7
    refine lv_iload_n hx hb d_M_crossing_14 rfl (lv_at hl 1 rfl) ?_
    refine z_if_lt (a := a) (tgt := 38) hx hb (by omega) d_M_crossing_15 (by decide) (fun q15 => ?_) (fun q15 => ?_)
    · skip
      exfalso; omega
    · skip
      refine lv_iload_n hx hb d_M_crossing_18 rfl (lv_at hl 1 rfl) ?_
      refine lv_bipush (v := iZ ((40 : Nat) : Int)) hx hb d_M_crossing_19 (by decide) ?_
      refine z_icmp_gt (a := a) (b := ((40 : Nat) : Int)) (tgt := 38) hx hb (by omega) d_M_crossing_21 (by decide) (fun q21 => ?_) (fun q21 => ?_)
      · skip
        exfalso; omega
      · skip
        refine lv_iload_n hx hb d_M_crossing_24 rfl (lv_at hl 2 rfl) ?_
        refine z_callSR (As := [.int (iZ (b))]) (rest := [.ref (ad 19)]) zTB Z (k_M_isBound (a := b) (by omega)) ⟨ml_M_101, sm_M_isBound, ini_M, co_M_isBound⟩ zd_M_isBound ⟨Nat.le_of_ble_eq_true rfl, Nat.le_of_ble_eq_true rfl⟩ hP hK hl.1 rfl (Nat.le_of_ble_eq_true rfl) d_M_crossing_25 ⟨Nat.zero_le _, Nat.zero_le _⟩ ?_
        refine W.eq (g2 := F0 m 28 ls [.int (bI (decide (1 ≤ b ∧ b ≤ 16))), .ref (ad 19)]) rfl ?_
        refine z_if_eqB (b := decide (1 ≤ b ∧ b ≤ 16)) (tgt := 38) hx hb d_M_crossing_28 (by decide) (fun q28 => ?_) (fun q28 => ?_)
        · skip
          replace q28 := of_decide_eq_false q28
          exfalso; omega
        · skip
          replace q28 := of_decide_eq_true q28
          refine lv_iload_n hx hb d_M_crossing_31 rfl (lv_at hl 3 rfl) ?_
          refine z_callSR (As := [.int (iZ (c9))]) (rest := [.ref (ad 19)]) zTB Z (k_M_isBound (a := c9) (by omega)) ⟨ml_M_101, sm_M_isBound, ini_M, co_M_isBound⟩ zd_M_isBound ⟨Nat.le_of_ble_eq_true rfl, Nat.le_of_ble_eq_true rfl⟩ hP hK hl.1 rfl (Nat.le_of_ble_eq_true rfl) d_M_crossing_32 ⟨Nat.zero_le _, Nat.zero_le _⟩ ?_
          refine W.eq (g2 := F0 m 35 ls [.int (bI (decide (1 ≤ c9 ∧ c9 ≤ 16))), .ref (ad 19)]) rfl ?_
          refine z_if_neB (b := decide (1 ≤ c9 ∧ c9 ≤ 16)) (tgt := 42) hx hb d_M_crossing_35 (by decide) (fun q35 => ?_) (fun q35 => ?_)
          · skip
            replace q35 := of_decide_eq_true q35
            exfalso; omega
          · skip
            replace q35 := of_decide_eq_false q35
            exfalso; omega
  · skip
    replace q7 := of_decide_eq_false q7
    refine lv_iconst (v := iZ ((1 : Nat) : Int)) hx hb d_M_crossing_10 (by decide) ?_
    refine lv_goto (tgt := 43) hx hb d_M_crossing_11 (by decide) ?_
    refine va_put (D := D) (ci := 5) (v := .int (iZ ((1 : Nat) : Int))) (ty := .int) (C := n_M) (T := f_M) (N := 17) hx hb hts in_M ty_M tyo_M nm_M hown hK hP hD hS 19 rfl rfl 0 (by decide) (hts _ fl_M_55) (fun _ h9 => h9) rfl (by decide +kernel) rfl rfl (Nat.le_of_ble_eq_true rfl) d_M_crossing_43 (fun H locs hP hD hS => ?_)
    have hP : va_P D classes (wdC ad cI cZ cL J0 rd0 pr0 G0 K0 (wdM ad cI cZ cL J rd pr (1, M.2) ov)) H := hP
    have hD : va_D A (wdC ad cI cZ cL J0 rd0 pr0 G0 K0 (wdM ad cI cZ cL J rd pr (1, M.2) ov)) := hD
    refine lv_aload_n hx hb d_M_crossing_46 rfl (lv_at hl 0 rfl) ?_
    refine va_get (D := D) (ci := 5) (v := .int (iZ ((1 : Nat) : Int))) (C := n_M) (T := f_M) (N := 17) hx hb hts in_M hown hK hP 19 rfl rfl 0 (by decide) (hts _ fl_M_55) (fun _ h9 => h9) rfl d_M_crossing_47 ?_
    refine z_if_le (a := ((1 : Nat) : Int)) (tgt := 57) hx hb (by omega) d_M_crossing_50 (by decide) (fun q50 => ?_) (fun q50 => ?_)
    · skip
      exfalso; omega
    · skip
      refine lv_lconst (v := lZ ((0 : Nat) : Int)) hx hb d_M_crossing_53 (by decide) ?_
      refine lv_goto (tgt := 72) hx hb d_M_crossing_54 (by decide) ?_
      exact z_lret Z hP hS d_M_crossing_72 wdM_map (⟨_, rfl, rfl, hM⟩)

set_option maxHeartbeats 4000000 in
set_option maxRecDepth 100000 in
theorem k_M_crossingx2 {l : Launch} {D : va_G} {ad : Nat → Nat} {cI cZ cL : ClassId} {J J0 : SJ} {rd rd0 : Nat → Int} {pr pr0 : Nat → Nat} {G0 : SH} {K0 : SK} {M : SM} {ov : Nat → Int64} (hI : JI J) (hM : MJ J M) {a b c9 d9 : Int} (h : 0 ≤ d9 ∧ d9 < 2 ∧ z32 a ∧ z32 b ∧ z32 c9 ∧ (a < 0 ∨ 40 < a ∨ b < 1 ∨ 16 < b ∨ c9 < 1 ∨ 16 < c9)) : zMl l TB D classes (tysW cI cZ cL) y_M_crossing w_M_crossing 1 30 [.ref (ad 19), .int (iZ (a)), .int (iZ (b)), .int (iZ (c9)), .int (iZ (d9))] (wdC ad cI cZ cL J0 rd0 pr0 G0 K0 (wdM ad cI cZ cL J rd pr M ov)) (fun r w => ∃ M1 : SM, w = wdC ad cI cZ cL J0 rd0 pr0 G0 K0 (wdM ad cI cZ cL J rd pr M1 ov) ∧ M1.1 = 2 ∧ MJ J M1) := by
  refine z_of (Qc := fun A => va_Ql (fun r w => ∃ M1 : SM, w = wdC ad cI cZ cL J0 rd0 pr0 G0 K0 (wdM ad cI cZ cL J rd pr M1 ov) ∧ M1.1 = 2 ∧ MJ J M1) (zB9 D classes (wdC ad cI cZ cL J0 rd0 pr0 G0 K0 (wdM ad cI cZ cL J rd pr M ov))) A) (by decide) (Nat.le_of_ble_eq_true rfl) ?_
  intro p e s m below meth c A ls Z hP hK hD hS hA hl
  obtain ⟨hx, hb, hr, hml, hown, hts, hE, hlocks⟩ := id Z
  have hl : lv_has ls 5 [(0, .ref (ad 19)), (1, .int (iZ (a))), (2, .int (iZ (b))), (3, .int (iZ (c9))), (4, .int (iZ (d9)))] := hl
  obtain ⟨hn32, hk2, hpr, hct⟩ := id hI
  suffices K9 : ∀ (H : Heap) (locs : List Loc) (ls : Array Slot), va_P D classes (wdC ad cI cZ cL J0 rd0 pr0 G0 K0 (wdM ad cI cZ cL J rd pr M ov)) H → va_D A (wdC ad cI cZ cL J0 rd0 pr0 G0 K0 (wdM ad cI cZ cL J rd pr M ov)) → va_S A s.heap H locs → lv_has ls 5 [(0, .ref (ad 19)), (1, .int (iZ (a))), (2, .int (iZ (b))), (3, .int (iZ (c9))), (4, .int (iZ (d9)))] → W p l e (zRm 1 30) s m ([.ref (ad 19), .int (iZ (a)), .int (iZ (b)), .int (iZ (c9)), .int (iZ (d9))] : List Value).toArray below meth c H locs 0 0 (MQ below (va_Ql (fun r w => ∃ M1 : SM, w = wdC ad cI cZ cL J0 rd0 pr0 G0 K0 (wdM ad cI cZ cL J rd pr M1 ov) ∧ M1.1 = 2 ∧ MJ J M1) (zB9 D classes (wdC ad cI cZ cL J0 rd0 pr0 G0 K0 (wdM ad cI cZ cL J rd pr M ov))) A) ([.ref (ad 19), .int (iZ (a)), .int (iZ (b)), .int (iZ (c9)), .int (iZ (d9))] : List Value).toArray s 0 0 A) (F0 m 0 ls []) from K9 s.heap [] ls hP hD hS hl
  clear hP hD hS hl
  intro H locs ls hP hD hS hl
  refine lv_aload_n hx hb d_M_crossing_0 rfl (lv_at hl 0 rfl) ?_
  refine lv_iload hx hb d_M_crossing_1 (lv_at hl 4 rfl) ?_
  refine lv_iconst (v := iZ ((2 : Nat) : Int)) hx hb d_M_crossing_3 (by decide) ?_
  refine z_callSR (As := [.int (iZ (d9)), .int (iZ ((2 : Nat) : Int))]) (rest := [.ref (ad 19)]) zTB Z (k_M_isIn (a := d9) (b := ((2 : Nat) : Int)) (by omega)) ⟨ml_M_59, sm_M_isIn, ini_M, co_M_isIn⟩ zd_M_isIn ⟨Nat.le_of_ble_eq_true rfl, Nat.le_of_ble_eq_true rfl⟩ hP hK hl.1 rfl (Nat.le_of_ble_eq_true rfl) d_M_crossing_4 ⟨Nat.zero_le _, Nat.zero_le _⟩ ?_
  refine W.eq (g2 := F0 m 7 ls [.int (bI (decide (0 ≤ d9 ∧ d9 < ((2 : Nat) : Int)))), .ref (ad 19)]) rfl ?_
  refine z_if_neB (b := decide (0 ≤ d9 ∧ d9 < ((2 : Nat) : Int))) (tgt := 14) hx hb d_M_crossing_7 (by decide) (fun q7 => ?_) (fun q7 => ?_)
  · skip
    replace q7 := of_decide_eq_true q7
    refine lv_iload_n hx hb d_M_crossing_14 rfl (lv_at hl 1 rfl) ?_
    refine z_if_lt (a := a) (tgt := 38) hx hb (by omega) d_M_crossing_15 (by decide) (fun q15 => ?_) (fun q15 => ?_)
    · skip
      refine lv_iconst (v := iZ ((2 : Nat) : Int)) hx hb d_M_crossing_38 (by decide) ?_
      refine lv_goto (tgt := 43) hx hb d_M_crossing_39 (by decide) ?_
      refine va_put (D := D) (ci := 5) (v := .int (iZ ((2 : Nat) : Int))) (ty := .int) (C := n_M) (T := f_M) (N := 17) hx hb hts in_M ty_M tyo_M nm_M hown hK hP hD hS 19 rfl rfl 0 (by decide) (hts _ fl_M_55) (fun _ h9 => h9) rfl (by decide +kernel) rfl rfl (Nat.le_of_ble_eq_true rfl) d_M_crossing_43 (fun H locs hP hD hS => ?_)
      have hP : va_P D classes (wdC ad cI cZ cL J0 rd0 pr0 G0 K0 (wdM ad cI cZ cL J rd pr (2, M.2) ov)) H := hP
      have hD : va_D A (wdC ad cI cZ cL J0 rd0 pr0 G0 K0 (wdM ad cI cZ cL J rd pr (2, M.2) ov)) := hD
      refine lv_aload_n hx hb d_M_crossing_46 rfl (lv_at hl 0 rfl) ?_
      refine va_get (D := D) (ci := 5) (v := .int (iZ ((2 : Nat) : Int))) (C := n_M) (T := f_M) (N := 17) hx hb hts in_M hown hK hP 19 rfl rfl 0 (by decide) (hts _ fl_M_55) (fun _ h9 => h9) rfl d_M_crossing_47 ?_
      refine z_if_le (a := ((2 : Nat) : Int)) (tgt := 57) hx hb (by omega) d_M_crossing_50 (by decide) (fun q50 => ?_) (fun q50 => ?_)
      · skip
        exfalso; omega
      · skip
        refine lv_lconst (v := lZ ((0 : Nat) : Int)) hx hb d_M_crossing_53 (by decide) ?_
        refine lv_goto (tgt := 72) hx hb d_M_crossing_54 (by decide) ?_
        exact z_lret Z hP hS d_M_crossing_72 wdM_map (⟨_, rfl, rfl, hM⟩)
    · skip
      refine lv_iload_n hx hb d_M_crossing_18 rfl (lv_at hl 1 rfl) ?_
      refine lv_bipush (v := iZ ((40 : Nat) : Int)) hx hb d_M_crossing_19 (by decide) ?_
      refine z_icmp_gt (a := a) (b := ((40 : Nat) : Int)) (tgt := 38) hx hb (by omega) d_M_crossing_21 (by decide) (fun q21 => ?_) (fun q21 => ?_)
      · skip
        refine lv_iconst (v := iZ ((2 : Nat) : Int)) hx hb d_M_crossing_38 (by decide) ?_
        refine lv_goto (tgt := 43) hx hb d_M_crossing_39 (by decide) ?_
        refine va_put (D := D) (ci := 5) (v := .int (iZ ((2 : Nat) : Int))) (ty := .int) (C := n_M) (T := f_M) (N := 17) hx hb hts in_M ty_M tyo_M nm_M hown hK hP hD hS 19 rfl rfl 0 (by decide) (hts _ fl_M_55) (fun _ h9 => h9) rfl (by decide +kernel) rfl rfl (Nat.le_of_ble_eq_true rfl) d_M_crossing_43 (fun H locs hP hD hS => ?_)
        have hP : va_P D classes (wdC ad cI cZ cL J0 rd0 pr0 G0 K0 (wdM ad cI cZ cL J rd pr (2, M.2) ov)) H := hP
        have hD : va_D A (wdC ad cI cZ cL J0 rd0 pr0 G0 K0 (wdM ad cI cZ cL J rd pr (2, M.2) ov)) := hD
        refine lv_aload_n hx hb d_M_crossing_46 rfl (lv_at hl 0 rfl) ?_
        refine va_get (D := D) (ci := 5) (v := .int (iZ ((2 : Nat) : Int))) (C := n_M) (T := f_M) (N := 17) hx hb hts in_M hown hK hP 19 rfl rfl 0 (by decide) (hts _ fl_M_55) (fun _ h9 => h9) rfl d_M_crossing_47 ?_
        refine z_if_le (a := ((2 : Nat) : Int)) (tgt := 57) hx hb (by omega) d_M_crossing_50 (by decide) (fun q50 => ?_) (fun q50 => ?_)
        · skip
          exfalso; omega
        · skip
          refine lv_lconst (v := lZ ((0 : Nat) : Int)) hx hb d_M_crossing_53 (by decide) ?_
          refine lv_goto (tgt := 72) hx hb d_M_crossing_54 (by decide) ?_
          exact z_lret Z hP hS d_M_crossing_72 wdM_map (⟨_, rfl, rfl, hM⟩)
      · skip
        refine lv_iload_n hx hb d_M_crossing_24 rfl (lv_at hl 2 rfl) ?_
        refine z_callSR (As := [.int (iZ (b))]) (rest := [.ref (ad 19)]) zTB Z (k_M_isBound (a := b) (by omega)) ⟨ml_M_101, sm_M_isBound, ini_M, co_M_isBound⟩ zd_M_isBound ⟨Nat.le_of_ble_eq_true rfl, Nat.le_of_ble_eq_true rfl⟩ hP hK hl.1 rfl (Nat.le_of_ble_eq_true rfl) d_M_crossing_25 ⟨Nat.zero_le _, Nat.zero_le _⟩ ?_
        refine W.eq (g2 := F0 m 28 ls [.int (bI (decide (1 ≤ b ∧ b ≤ 16))), .ref (ad 19)]) rfl ?_
        refine z_if_eqB (b := decide (1 ≤ b ∧ b ≤ 16)) (tgt := 38) hx hb d_M_crossing_28 (by decide) (fun q28 => ?_) (fun q28 => ?_)
        · skip
          replace q28 := of_decide_eq_false q28
          refine lv_iconst (v := iZ ((2 : Nat) : Int)) hx hb d_M_crossing_38 (by decide) ?_
          refine lv_goto (tgt := 43) hx hb d_M_crossing_39 (by decide) ?_
          refine va_put (D := D) (ci := 5) (v := .int (iZ ((2 : Nat) : Int))) (ty := .int) (C := n_M) (T := f_M) (N := 17) hx hb hts in_M ty_M tyo_M nm_M hown hK hP hD hS 19 rfl rfl 0 (by decide) (hts _ fl_M_55) (fun _ h9 => h9) rfl (by decide +kernel) rfl rfl (Nat.le_of_ble_eq_true rfl) d_M_crossing_43 (fun H locs hP hD hS => ?_)
          have hP : va_P D classes (wdC ad cI cZ cL J0 rd0 pr0 G0 K0 (wdM ad cI cZ cL J rd pr (2, M.2) ov)) H := hP
          have hD : va_D A (wdC ad cI cZ cL J0 rd0 pr0 G0 K0 (wdM ad cI cZ cL J rd pr (2, M.2) ov)) := hD
          refine lv_aload_n hx hb d_M_crossing_46 rfl (lv_at hl 0 rfl) ?_
          refine va_get (D := D) (ci := 5) (v := .int (iZ ((2 : Nat) : Int))) (C := n_M) (T := f_M) (N := 17) hx hb hts in_M hown hK hP 19 rfl rfl 0 (by decide) (hts _ fl_M_55) (fun _ h9 => h9) rfl d_M_crossing_47 ?_
          refine z_if_le (a := ((2 : Nat) : Int)) (tgt := 57) hx hb (by omega) d_M_crossing_50 (by decide) (fun q50 => ?_) (fun q50 => ?_)
          · skip
            exfalso; omega
          · skip
            refine lv_lconst (v := lZ ((0 : Nat) : Int)) hx hb d_M_crossing_53 (by decide) ?_
            refine lv_goto (tgt := 72) hx hb d_M_crossing_54 (by decide) ?_
            exact z_lret Z hP hS d_M_crossing_72 wdM_map (⟨_, rfl, rfl, hM⟩)
        · skip
          replace q28 := of_decide_eq_true q28
          refine lv_iload_n hx hb d_M_crossing_31 rfl (lv_at hl 3 rfl) ?_
          refine z_callSR (As := [.int (iZ (c9))]) (rest := [.ref (ad 19)]) zTB Z (k_M_isBound (a := c9) (by omega)) ⟨ml_M_101, sm_M_isBound, ini_M, co_M_isBound⟩ zd_M_isBound ⟨Nat.le_of_ble_eq_true rfl, Nat.le_of_ble_eq_true rfl⟩ hP hK hl.1 rfl (Nat.le_of_ble_eq_true rfl) d_M_crossing_32 ⟨Nat.zero_le _, Nat.zero_le _⟩ ?_
          refine W.eq (g2 := F0 m 35 ls [.int (bI (decide (1 ≤ c9 ∧ c9 ≤ 16))), .ref (ad 19)]) rfl ?_
          refine z_if_neB (b := decide (1 ≤ c9 ∧ c9 ≤ 16)) (tgt := 42) hx hb d_M_crossing_35 (by decide) (fun q35 => ?_) (fun q35 => ?_)
          · skip
            replace q35 := of_decide_eq_true q35
            exfalso; omega
          · skip
            replace q35 := of_decide_eq_false q35
            refine lv_iconst (v := iZ ((2 : Nat) : Int)) hx hb d_M_crossing_38 (by decide) ?_
            refine lv_goto (tgt := 43) hx hb d_M_crossing_39 (by decide) ?_
            refine va_put (D := D) (ci := 5) (v := .int (iZ ((2 : Nat) : Int))) (ty := .int) (C := n_M) (T := f_M) (N := 17) hx hb hts in_M ty_M tyo_M nm_M hown hK hP hD hS 19 rfl rfl 0 (by decide) (hts _ fl_M_55) (fun _ h9 => h9) rfl (by decide +kernel) rfl rfl (Nat.le_of_ble_eq_true rfl) d_M_crossing_43 (fun H locs hP hD hS => ?_)
            have hP : va_P D classes (wdC ad cI cZ cL J0 rd0 pr0 G0 K0 (wdM ad cI cZ cL J rd pr (2, M.2) ov)) H := hP
            have hD : va_D A (wdC ad cI cZ cL J0 rd0 pr0 G0 K0 (wdM ad cI cZ cL J rd pr (2, M.2) ov)) := hD
            refine lv_aload_n hx hb d_M_crossing_46 rfl (lv_at hl 0 rfl) ?_
            refine va_get (D := D) (ci := 5) (v := .int (iZ ((2 : Nat) : Int))) (C := n_M) (T := f_M) (N := 17) hx hb hts in_M hown hK hP 19 rfl rfl 0 (by decide) (hts _ fl_M_55) (fun _ h9 => h9) rfl d_M_crossing_47 ?_
            refine z_if_le (a := ((2 : Nat) : Int)) (tgt := 57) hx hb (by omega) d_M_crossing_50 (by decide) (fun q50 => ?_) (fun q50 => ?_)
            · skip
              exfalso; omega
            · skip
              refine lv_lconst (v := lZ ((0 : Nat) : Int)) hx hb d_M_crossing_53 (by decide) ?_
              refine lv_goto (tgt := 72) hx hb d_M_crossing_54 (by decide) ?_
              exact z_lret Z hP hS d_M_crossing_72 wdM_map (⟨_, rfl, rfl, hM⟩)
  · skip
    replace q7 := of_decide_eq_false q7
    exfalso; omega

set_option maxHeartbeats 4000000 in
set_option maxRecDepth 100000 in
theorem k_M_crossing0 {l : Launch} {D : va_G} {ad : Nat → Nat} {cI cZ cL : ClassId} {J J0 : SJ} {rd rd0 : Nat → Int} {pr pr0 : Nat → Nat} {G0 : SH} {K0 : SK} {M : SM} {ov : Nat → Int64} (hI : JI J) (hM : MJ J M) {nn up lo pt : Nat} (hnn : nn ≤ 40) (hup : 1 ≤ up ∧ up ≤ 16) (hlo : 1 ≤ lo ∧ lo ≤ 16) (hpt : pt < 2) : zMl l TB D classes (tysW cI cZ cL) y_M_crossing w_M_crossing 1 30 [.ref (ad 19), .int (iZ ((nn : Nat) : Int)), .int (iZ ((up : Nat) : Int)), .int (iZ ((lo : Nat) : Int)), .int (iZ ((pt : Nat) : Int))] (wdC ad cI cZ cL J0 rd0 pr0 G0 K0 (wdM ad cI cZ cL J rd pr M ov)) (fun r w => ∃ M1 : SM, r = lZ (sTP ((sCr up lo nn : Nat) : Int) (2 ^ nn) pt) ∧ w = wdC ad cI cZ cL J0 rd0 pr0 G0 K0 (wdM ad cI cZ cL J rd pr M1 ov) ∧ M1.1 = 0 ∧ MJ J M1) := by
  refine z_of (Qc := fun A => va_Ql (fun r w => ∃ M1 : SM, r = lZ (sTP ((sCr up lo nn : Nat) : Int) (2 ^ nn) pt) ∧ w = wdC ad cI cZ cL J0 rd0 pr0 G0 K0 (wdM ad cI cZ cL J rd pr M1 ov) ∧ M1.1 = 0 ∧ MJ J M1) (zB9 D classes (wdC ad cI cZ cL J0 rd0 pr0 G0 K0 (wdM ad cI cZ cL J rd pr M ov))) A) (by decide) (Nat.le_of_ble_eq_true rfl) ?_
  intro p e s m below meth c A ls Z hP hK hD hS hA hl
  obtain ⟨hx, hb, hr, hml, hown, hts, hE, hlocks⟩ := id Z
  have hl : lv_has ls 5 [(0, .ref (ad 19)), (1, .int (iZ ((nn : Nat) : Int))), (2, .int (iZ ((up : Nat) : Int))), (3, .int (iZ ((lo : Nat) : Int))), (4, .int (iZ ((pt : Nat) : Int)))] := hl
  obtain ⟨hn32, hk2, hpr, hct⟩ := id hI
  have hcb := sCr_le up lo nn
  have hcb2 : nn * 2 ^ nn ≤ 40 * 2 ^ 40 := Nat.mul_le_mul (by omega) (two_le (by omega))
  have hcb3 : 2 ^ nn ≤ 2 ^ 40 := two_le (by omega)
  have hcb4 := Nat.two_pow_pos nn
  suffices K9 : ∀ (H : Heap) (locs : List Loc) (ls : Array Slot), va_P D classes (wdC ad cI cZ cL J0 rd0 pr0 G0 K0 (wdM ad cI cZ cL J rd pr M ov)) H → va_D A (wdC ad cI cZ cL J0 rd0 pr0 G0 K0 (wdM ad cI cZ cL J rd pr M ov)) → va_S A s.heap H locs → lv_has ls 5 [(0, .ref (ad 19)), (1, .int (iZ ((nn : Nat) : Int))), (2, .int (iZ ((up : Nat) : Int))), (3, .int (iZ ((lo : Nat) : Int))), (4, .int (iZ ((pt : Nat) : Int)))] → W p l e (zRm 1 30) s m ([.ref (ad 19), .int (iZ ((nn : Nat) : Int)), .int (iZ ((up : Nat) : Int)), .int (iZ ((lo : Nat) : Int)), .int (iZ ((pt : Nat) : Int))] : List Value).toArray below meth c H locs 0 0 (MQ below (va_Ql (fun r w => ∃ M1 : SM, r = lZ (sTP ((sCr up lo nn : Nat) : Int) (2 ^ nn) pt) ∧ w = wdC ad cI cZ cL J0 rd0 pr0 G0 K0 (wdM ad cI cZ cL J rd pr M1 ov) ∧ M1.1 = 0 ∧ MJ J M1) (zB9 D classes (wdC ad cI cZ cL J0 rd0 pr0 G0 K0 (wdM ad cI cZ cL J rd pr M ov))) A) ([.ref (ad 19), .int (iZ ((nn : Nat) : Int)), .int (iZ ((up : Nat) : Int)), .int (iZ ((lo : Nat) : Int)), .int (iZ ((pt : Nat) : Int))] : List Value).toArray s 0 0 A) (F0 m 0 ls []) from K9 s.heap [] ls hP hD hS hl
  clear hP hD hS hl
  intro H locs ls hP hD hS hl
  refine lv_aload_n hx hb d_M_crossing_0 rfl (lv_at hl 0 rfl) ?_
  refine lv_iload hx hb d_M_crossing_1 (lv_at hl 4 rfl) ?_
  refine lv_iconst (v := iZ ((2 : Nat) : Int)) hx hb d_M_crossing_3 (by decide) ?_
  refine z_callSR (As := [.int (iZ ((pt : Nat) : Int)), .int (iZ ((2 : Nat) : Int))]) (rest := [.ref (ad 19)]) zTB Z (k_M_isIn (a := ((pt : Nat) : Int)) (b := ((2 : Nat) : Int)) (by omega)) ⟨ml_M_59, sm_M_isIn, ini_M, co_M_isIn⟩ zd_M_isIn ⟨Nat.le_of_ble_eq_true rfl, Nat.le_of_ble_eq_true rfl⟩ hP hK hl.1 rfl (Nat.le_of_ble_eq_true rfl) d_M_crossing_4 ⟨Nat.zero_le _, Nat.zero_le _⟩ ?_
  refine W.eq (g2 := F0 m 7 ls [.int (bI (decide (0 ≤ ((pt : Nat) : Int) ∧ ((pt : Nat) : Int) < ((2 : Nat) : Int)))), .ref (ad 19)]) rfl ?_
  refine z_if_neB (b := decide (0 ≤ ((pt : Nat) : Int) ∧ ((pt : Nat) : Int) < ((2 : Nat) : Int))) (tgt := 14) hx hb d_M_crossing_7 (by decide) (fun q7 => ?_) (fun q7 => ?_)
  · skip
    replace q7 := of_decide_eq_true q7
    refine lv_iload_n hx hb d_M_crossing_14 rfl (lv_at hl 1 rfl) ?_
    refine z_if_lt (a := ((nn : Nat) : Int)) (tgt := 38) hx hb (by omega) d_M_crossing_15 (by decide) (fun q15 => ?_) (fun q15 => ?_)
    · skip
      exfalso; omega
    · skip
      refine lv_iload_n hx hb d_M_crossing_18 rfl (lv_at hl 1 rfl) ?_
      refine lv_bipush (v := iZ ((40 : Nat) : Int)) hx hb d_M_crossing_19 (by decide) ?_
      refine z_icmp_gt (a := ((nn : Nat) : Int)) (b := ((40 : Nat) : Int)) (tgt := 38) hx hb (by omega) d_M_crossing_21 (by decide) (fun q21 => ?_) (fun q21 => ?_)
      · skip
        exfalso; omega
      · skip
        refine lv_iload_n hx hb d_M_crossing_24 rfl (lv_at hl 2 rfl) ?_
        refine z_callSR (As := [.int (iZ ((up : Nat) : Int))]) (rest := [.ref (ad 19)]) zTB Z (k_M_isBound (a := ((up : Nat) : Int)) (by omega)) ⟨ml_M_101, sm_M_isBound, ini_M, co_M_isBound⟩ zd_M_isBound ⟨Nat.le_of_ble_eq_true rfl, Nat.le_of_ble_eq_true rfl⟩ hP hK hl.1 rfl (Nat.le_of_ble_eq_true rfl) d_M_crossing_25 ⟨Nat.zero_le _, Nat.zero_le _⟩ ?_
        refine W.eq (g2 := F0 m 28 ls [.int (bI (decide (1 ≤ ((up : Nat) : Int) ∧ ((up : Nat) : Int) ≤ 16))), .ref (ad 19)]) rfl ?_
        refine z_if_eqB (b := decide (1 ≤ ((up : Nat) : Int) ∧ ((up : Nat) : Int) ≤ 16)) (tgt := 38) hx hb d_M_crossing_28 (by decide) (fun q28 => ?_) (fun q28 => ?_)
        · skip
          replace q28 := of_decide_eq_false q28
          exfalso; omega
        · skip
          replace q28 := of_decide_eq_true q28
          refine lv_iload_n hx hb d_M_crossing_31 rfl (lv_at hl 3 rfl) ?_
          refine z_callSR (As := [.int (iZ ((lo : Nat) : Int))]) (rest := [.ref (ad 19)]) zTB Z (k_M_isBound (a := ((lo : Nat) : Int)) (by omega)) ⟨ml_M_101, sm_M_isBound, ini_M, co_M_isBound⟩ zd_M_isBound ⟨Nat.le_of_ble_eq_true rfl, Nat.le_of_ble_eq_true rfl⟩ hP hK hl.1 rfl (Nat.le_of_ble_eq_true rfl) d_M_crossing_32 ⟨Nat.zero_le _, Nat.zero_le _⟩ ?_
          refine W.eq (g2 := F0 m 35 ls [.int (bI (decide (1 ≤ ((lo : Nat) : Int) ∧ ((lo : Nat) : Int) ≤ 16))), .ref (ad 19)]) rfl ?_
          refine z_if_neB (b := decide (1 ≤ ((lo : Nat) : Int) ∧ ((lo : Nat) : Int) ≤ 16)) (tgt := 42) hx hb d_M_crossing_35 (by decide) (fun q35 => ?_) (fun q35 => ?_)
          · skip
            replace q35 := of_decide_eq_true q35
            refine lv_iconst (v := iZ ((0 : Nat) : Int)) hx hb d_M_crossing_42 (by decide) ?_
            refine va_put (D := D) (ci := 5) (v := .int (iZ ((0 : Nat) : Int))) (ty := .int) (C := n_M) (T := f_M) (N := 17) hx hb hts in_M ty_M tyo_M nm_M hown hK hP hD hS 19 rfl rfl 0 (by decide) (hts _ fl_M_55) (fun _ h9 => h9) rfl (by decide +kernel) rfl rfl (Nat.le_of_ble_eq_true rfl) d_M_crossing_43 (fun H locs hP hD hS => ?_)
            have hP : va_P D classes (wdC ad cI cZ cL J0 rd0 pr0 G0 K0 (wdM ad cI cZ cL J rd pr (0, M.2) ov)) H := hP
            have hD : va_D A (wdC ad cI cZ cL J0 rd0 pr0 G0 K0 (wdM ad cI cZ cL J rd pr (0, M.2) ov)) := hD
            refine lv_aload_n hx hb d_M_crossing_46 rfl (lv_at hl 0 rfl) ?_
            refine va_get (D := D) (ci := 5) (v := .int (iZ ((0 : Nat) : Int))) (C := n_M) (T := f_M) (N := 17) hx hb hts in_M hown hK hP 19 rfl rfl 0 (by decide) (hts _ fl_M_55) (fun _ h9 => h9) rfl d_M_crossing_47 ?_
            refine z_if_le (a := ((0 : Nat) : Int)) (tgt := 57) hx hb (by omega) d_M_crossing_50 (by decide) (fun q50 => ?_) (fun q50 => ?_)
            · skip
              refine lv_aload_n hx hb d_M_crossing_57 rfl (lv_at hl 0 rfl) ?_
              refine lv_iload_n hx hb d_M_crossing_58 rfl (lv_at hl 1 rfl) ?_
              refine lv_iload_n hx hb d_M_crossing_59 rfl (lv_at hl 2 rfl) ?_
              refine lv_iload_n hx hb d_M_crossing_60 rfl (lv_at hl 3 rfl) ?_
              refine z_kl (z_runV (As := [.int (iZ ((nn : Nat) : Int)), .int (iZ ((up : Nat) : Int)), .int (iZ ((lo : Nat) : Int))]) (rest := []) zTB Z (k_M_cross (J := J) (M := (0, M.2)) hM (nn := nn) (up := up) (lo := lo) (by omega) (by omega)) ⟨ml_M_105, im_M_cross, se_M_cross, ini_M, co_M_cross⟩ zd_M_cross ⟨Nat.le_of_ble_eq_true rfl, Nat.le_of_ble_eq_true rfl⟩ hP hK hD (ci := 5) (q0 := 19) rfl rfl rfl hl.1 rfl (Nat.le_of_ble_eq_true rfl) d_M_crossing_61 ⟨Nat.zero_le _, Nat.zero_le _⟩) hD hS hA (fun r9 w9 H locs hp9 hP hD hS => ?_)
              obtain ⟨M2, rfl, rfl, hc2, hM2⟩ := hp9
              have hP : va_P D classes (wdC ad cI cZ cL J0 rd0 pr0 G0 K0 (wdM ad cI cZ cL J rd pr M2 ov)) H := hP
              have hD : va_D A (wdC ad cI cZ cL J0 rd0 pr0 G0 K0 (wdM ad cI cZ cL J rd pr M2 ov)) := hD
              refine W.eq (g2 := F0 m 64 ls [.long (lZ ((sCr up lo nn : Nat) : Int))]) rfl ?_
              refine lv_lconst (v := lZ ((1 : Nat) : Int)) hx hb d_M_crossing_64 (by decide) ?_
              refine lv_iload_n hx hb d_M_crossing_65 rfl (lv_at hl 1 rfl) ?_
              refine lv_lshl (v := lZ ((2 ^ nn : Nat) : Int)) hx hb d_M_crossing_66 (lshl_1 (by omega)) ?_
              refine lv_iload hx hb d_M_crossing_67 (lv_at hl 4 rfl) ?_
              refine z_callSR (As := [.long (lZ ((sCr up lo nn : Nat) : Int)), .long (lZ ((2 ^ nn : Nat) : Int)), .int (iZ ((pt : Nat) : Int))]) (rest := []) zTB Z (k_M_part (a := ((sCr up lo nn : Nat) : Int)) (bl := 2 ^ nn) (pt := pt) (by omega)) ⟨ml_M_87, sm_M_part, ini_M, co_M_part⟩ zd_M_part ⟨Nat.le_of_ble_eq_true rfl, Nat.le_of_ble_eq_true rfl⟩ hP hK hl.1 rfl (Nat.le_of_ble_eq_true rfl) d_M_crossing_69 ⟨Nat.zero_le _, Nat.zero_le _⟩ ?_
              refine W.eq (g2 := F0 m 72 ls [.long (lZ (sTP ((sCr up lo nn : Nat) : Int) (2 ^ nn) pt))]) rfl ?_
              exact z_lret Z hP hS d_M_crossing_72 wdM_map (⟨_, rfl, rfl, hc2, hM2⟩)
            · skip
              exfalso; omega
          · skip
            replace q35 := of_decide_eq_false q35
            exfalso; omega
  · skip
    replace q7 := of_decide_eq_false q7
    exfalso; omega

set_option maxHeartbeats 4000000 in
set_option maxRecDepth 100000 in
theorem k_M_leastx1 {l : Launch} {D : va_G} {ad : Nat → Nat} {cI cZ cL : ClassId} {J J0 : SJ} {rd rd0 : Nat → Int} {pr pr0 : Nat → Nat} {G0 : SH} {K0 : SK} {M : SM} {ov : Nat → Int64} (hI : JI J) (hM : MJ J M) {a b c9 d9 : Int} (h : z32 a ∧ z32 b ∧ z32 c9 ∧ z32 d9 ∧ (d9 < 1 ∨ 1000 < d9 ∨ c9 < 0 ∨ d9 < c9 ∨ a < 1 ∨ 16 < a ∨ b < 1 ∨ 16 < b)) : zMi l TB D classes (tysW cI cZ cL) y_M_least w_M_least 1 27 [.ref (ad 19), .int (iZ (a)), .int (iZ (b)), .int (iZ (c9)), .int (iZ (d9))] (wdC ad cI cZ cL J0 rd0 pr0 G0 K0 (wdM ad cI cZ cL J rd pr M ov)) (fun r w => ∃ M1 : SM, w = wdC ad cI cZ cL J0 rd0 pr0 G0 K0 (wdM ad cI cZ cL J rd pr M1 ov) ∧ M1.1 = 1 ∧ MJ J M1) := by
  refine z_of (Qc := fun A => va_Qi (fun r w => ∃ M1 : SM, w = wdC ad cI cZ cL J0 rd0 pr0 G0 K0 (wdM ad cI cZ cL J rd pr M1 ov) ∧ M1.1 = 1 ∧ MJ J M1) (zB9 D classes (wdC ad cI cZ cL J0 rd0 pr0 G0 K0 (wdM ad cI cZ cL J rd pr M ov))) A) (by decide) (Nat.le_of_ble_eq_true rfl) ?_
  intro p e s m below meth c A ls Z hP hK hD hS hA hl
  obtain ⟨hx, hb, hr, hml, hown, hts, hE, hlocks⟩ := id Z
  have hl : lv_has ls 6 [(0, .ref (ad 19)), (1, .int (iZ (a))), (2, .int (iZ (b))), (3, .int (iZ (c9))), (4, .int (iZ (d9)))] := hl
  obtain ⟨hn32, hk2, hpr, hct⟩ := id hI
  suffices K9 : ∀ (H : Heap) (locs : List Loc) (ls : Array Slot), va_P D classes (wdC ad cI cZ cL J0 rd0 pr0 G0 K0 (wdM ad cI cZ cL J rd pr M ov)) H → va_D A (wdC ad cI cZ cL J0 rd0 pr0 G0 K0 (wdM ad cI cZ cL J rd pr M ov)) → va_S A s.heap H locs → lv_has ls 6 [(0, .ref (ad 19)), (1, .int (iZ (a))), (2, .int (iZ (b))), (3, .int (iZ (c9))), (4, .int (iZ (d9)))] → W p l e (zRm 1 27) s m ([.ref (ad 19), .int (iZ (a)), .int (iZ (b)), .int (iZ (c9)), .int (iZ (d9))] : List Value).toArray below meth c H locs 0 0 (MQ below (va_Qi (fun r w => ∃ M1 : SM, w = wdC ad cI cZ cL J0 rd0 pr0 G0 K0 (wdM ad cI cZ cL J rd pr M1 ov) ∧ M1.1 = 1 ∧ MJ J M1) (zB9 D classes (wdC ad cI cZ cL J0 rd0 pr0 G0 K0 (wdM ad cI cZ cL J rd pr M ov))) A) ([.ref (ad 19), .int (iZ (a)), .int (iZ (b)), .int (iZ (c9)), .int (iZ (d9))] : List Value).toArray s 0 0 A) (F0 m 0 ls []) from K9 s.heap [] ls hP hD hS hl
  clear hP hD hS hl
  intro H locs ls hP hD hS hl
  refine lv_aload_n hx hb d_M_least_0 rfl (lv_at hl 0 rfl) ?_
  refine lv_iload hx hb d_M_least_1 (lv_at hl 4 rfl) ?_
  refine lv_iconst (v := iZ ((1 : Nat) : Int)) hx hb d_M_least_3 (by decide) ?_
  refine z_icmp_lt (a := d9) (b := ((1 : Nat) : Int)) (tgt := 39) hx hb (by omega) d_M_least_4 (by decide) (fun q4 => ?_) (fun q4 => ?_)
  · skip
    refine lv_iconst (v := iZ ((1 : Nat) : Int)) hx hb d_M_least_39 (by decide) ?_
    refine lv_goto (tgt := 44) hx hb d_M_least_40 (by decide) ?_
    refine va_put (D := D) (ci := 5) (v := .int (iZ ((1 : Nat) : Int))) (ty := .int) (C := n_M) (T := f_M) (N := 17) hx hb hts in_M ty_M tyo_M nm_M hown hK hP hD hS 19 rfl rfl 0 (by decide) (hts _ fl_M_55) (fun _ h9 => h9) rfl (by decide +kernel) rfl rfl (Nat.le_of_ble_eq_true rfl) d_M_least_44 (fun H locs hP hD hS => ?_)
    have hP : va_P D classes (wdC ad cI cZ cL J0 rd0 pr0 G0 K0 (wdM ad cI cZ cL J rd pr (1, M.2) ov)) H := hP
    have hD : va_D A (wdC ad cI cZ cL J0 rd0 pr0 G0 K0 (wdM ad cI cZ cL J rd pr (1, M.2) ov)) := hD
    refine lv_iconst (v := iZ ((0 : Nat) : Int)) hx hb d_M_least_47 (by decide) ?_
    refine lv_istore (lv' := [(5, .int (iZ ((0 : Nat) : Int))), (0, .ref (ad 19)), (1, .int (iZ (a))), (2, .int (iZ (b))), (3, .int (iZ (c9))), (4, .int (iZ (d9)))]) hx hb d_M_least_48 hl (by decide) rfl (fun ls hl => ?_)
    refine lv_iload hx hb d_M_least_50 (lv_at hl 0 rfl) ?_
    refine lv_bipush (v := iZ ((40 : Nat) : Int)) hx hb d_M_least_52 (by decide) ?_
    refine z_icmp_gt (a := ((0 : Nat) : Int)) (b := ((40 : Nat) : Int)) (tgt := 94) hx hb (by omega) d_M_least_54 (by decide) (fun q54 => ?_) (fun q54 => ?_)
    · skip
      exfalso; omega
    · skip
      refine lv_aload_n hx hb d_M_least_57 rfl (lv_at hl 1 rfl) ?_
      refine va_get (D := D) (ci := 5) (v := .int (iZ ((1 : Nat) : Int))) (C := n_M) (T := f_M) (N := 17) hx hb hts in_M hown hK hP 19 rfl rfl 0 (by decide) (hts _ fl_M_55) (fun _ h9 => h9) rfl d_M_least_58 ?_
      refine z_if_ne (a := ((1 : Nat) : Int)) (tgt := 94) hx hb (by omega) d_M_least_61 (by decide) (fun q61 => ?_) (fun q61 => ?_)
      · skip
        refine lv_aload_n hx hb d_M_least_94 rfl (lv_at hl 1 rfl) ?_
        refine va_get (D := D) (ci := 5) (v := .int (iZ ((1 : Nat) : Int))) (C := n_M) (T := f_M) (N := 17) hx hb hts in_M hown hK hP 19 rfl rfl 0 (by decide) (hts _ fl_M_55) (fun _ h9 => h9) rfl d_M_least_95 ?_
        refine z_if_le (a := ((1 : Nat) : Int)) (tgt := 105) hx hb (by omega) d_M_least_98 (by decide) (fun q98 => ?_) (fun q98 => ?_)
        · skip
          exfalso; omega
        · skip
          refine lv_iconst (v := iZ ((0 : Nat) : Int)) hx hb d_M_least_101 (by decide) ?_
          refine lv_goto (tgt := 106) hx hb d_M_least_102 (by decide) ?_
          exact z_iret Z hP hS d_M_least_106 wdM_map (⟨_, rfl, rfl, hM⟩)
      · skip
        exfalso; omega
  · skip
    refine lv_iload hx hb d_M_least_7 (lv_at hl 4 rfl) ?_
    refine lv_sipush (v := iZ ((1000 : Nat) : Int)) hx hb d_M_least_9 (by decide) ?_
    refine z_icmp_gt (a := d9) (b := ((1000 : Nat) : Int)) (tgt := 39) hx hb (by omega) d_M_least_12 (by decide) (fun q12 => ?_) (fun q12 => ?_)
    · skip
      refine lv_iconst (v := iZ ((1 : Nat) : Int)) hx hb d_M_least_39 (by decide) ?_
      refine lv_goto (tgt := 44) hx hb d_M_least_40 (by decide) ?_
      refine va_put (D := D) (ci := 5) (v := .int (iZ ((1 : Nat) : Int))) (ty := .int) (C := n_M) (T := f_M) (N := 17) hx hb hts in_M ty_M tyo_M nm_M hown hK hP hD hS 19 rfl rfl 0 (by decide) (hts _ fl_M_55) (fun _ h9 => h9) rfl (by decide +kernel) rfl rfl (Nat.le_of_ble_eq_true rfl) d_M_least_44 (fun H locs hP hD hS => ?_)
      have hP : va_P D classes (wdC ad cI cZ cL J0 rd0 pr0 G0 K0 (wdM ad cI cZ cL J rd pr (1, M.2) ov)) H := hP
      have hD : va_D A (wdC ad cI cZ cL J0 rd0 pr0 G0 K0 (wdM ad cI cZ cL J rd pr (1, M.2) ov)) := hD
      refine lv_iconst (v := iZ ((0 : Nat) : Int)) hx hb d_M_least_47 (by decide) ?_
      refine lv_istore (lv' := [(5, .int (iZ ((0 : Nat) : Int))), (0, .ref (ad 19)), (1, .int (iZ (a))), (2, .int (iZ (b))), (3, .int (iZ (c9))), (4, .int (iZ (d9)))]) hx hb d_M_least_48 hl (by decide) rfl (fun ls hl => ?_)
      refine lv_iload hx hb d_M_least_50 (lv_at hl 0 rfl) ?_
      refine lv_bipush (v := iZ ((40 : Nat) : Int)) hx hb d_M_least_52 (by decide) ?_
      refine z_icmp_gt (a := ((0 : Nat) : Int)) (b := ((40 : Nat) : Int)) (tgt := 94) hx hb (by omega) d_M_least_54 (by decide) (fun q54 => ?_) (fun q54 => ?_)
      · skip
        exfalso; omega
      · skip
        refine lv_aload_n hx hb d_M_least_57 rfl (lv_at hl 1 rfl) ?_
        refine va_get (D := D) (ci := 5) (v := .int (iZ ((1 : Nat) : Int))) (C := n_M) (T := f_M) (N := 17) hx hb hts in_M hown hK hP 19 rfl rfl 0 (by decide) (hts _ fl_M_55) (fun _ h9 => h9) rfl d_M_least_58 ?_
        refine z_if_ne (a := ((1 : Nat) : Int)) (tgt := 94) hx hb (by omega) d_M_least_61 (by decide) (fun q61 => ?_) (fun q61 => ?_)
        · skip
          refine lv_aload_n hx hb d_M_least_94 rfl (lv_at hl 1 rfl) ?_
          refine va_get (D := D) (ci := 5) (v := .int (iZ ((1 : Nat) : Int))) (C := n_M) (T := f_M) (N := 17) hx hb hts in_M hown hK hP 19 rfl rfl 0 (by decide) (hts _ fl_M_55) (fun _ h9 => h9) rfl d_M_least_95 ?_
          refine z_if_le (a := ((1 : Nat) : Int)) (tgt := 105) hx hb (by omega) d_M_least_98 (by decide) (fun q98 => ?_) (fun q98 => ?_)
          · skip
            exfalso; omega
          · skip
            refine lv_iconst (v := iZ ((0 : Nat) : Int)) hx hb d_M_least_101 (by decide) ?_
            refine lv_goto (tgt := 106) hx hb d_M_least_102 (by decide) ?_
            exact z_iret Z hP hS d_M_least_106 wdM_map (⟨_, rfl, rfl, hM⟩)
        · skip
          exfalso; omega
    · skip
      refine lv_iload_n hx hb d_M_least_15 rfl (lv_at hl 3 rfl) ?_
      refine z_if_lt (a := c9) (tgt := 39) hx hb (by omega) d_M_least_16 (by decide) (fun q16 => ?_) (fun q16 => ?_)
      · skip
        refine lv_iconst (v := iZ ((1 : Nat) : Int)) hx hb d_M_least_39 (by decide) ?_
        refine lv_goto (tgt := 44) hx hb d_M_least_40 (by decide) ?_
        refine va_put (D := D) (ci := 5) (v := .int (iZ ((1 : Nat) : Int))) (ty := .int) (C := n_M) (T := f_M) (N := 17) hx hb hts in_M ty_M tyo_M nm_M hown hK hP hD hS 19 rfl rfl 0 (by decide) (hts _ fl_M_55) (fun _ h9 => h9) rfl (by decide +kernel) rfl rfl (Nat.le_of_ble_eq_true rfl) d_M_least_44 (fun H locs hP hD hS => ?_)
        have hP : va_P D classes (wdC ad cI cZ cL J0 rd0 pr0 G0 K0 (wdM ad cI cZ cL J rd pr (1, M.2) ov)) H := hP
        have hD : va_D A (wdC ad cI cZ cL J0 rd0 pr0 G0 K0 (wdM ad cI cZ cL J rd pr (1, M.2) ov)) := hD
        refine lv_iconst (v := iZ ((0 : Nat) : Int)) hx hb d_M_least_47 (by decide) ?_
        refine lv_istore (lv' := [(5, .int (iZ ((0 : Nat) : Int))), (0, .ref (ad 19)), (1, .int (iZ (a))), (2, .int (iZ (b))), (3, .int (iZ (c9))), (4, .int (iZ (d9)))]) hx hb d_M_least_48 hl (by decide) rfl (fun ls hl => ?_)
        refine lv_iload hx hb d_M_least_50 (lv_at hl 0 rfl) ?_
        refine lv_bipush (v := iZ ((40 : Nat) : Int)) hx hb d_M_least_52 (by decide) ?_
        refine z_icmp_gt (a := ((0 : Nat) : Int)) (b := ((40 : Nat) : Int)) (tgt := 94) hx hb (by omega) d_M_least_54 (by decide) (fun q54 => ?_) (fun q54 => ?_)
        · skip
          exfalso; omega
        · skip
          refine lv_aload_n hx hb d_M_least_57 rfl (lv_at hl 1 rfl) ?_
          refine va_get (D := D) (ci := 5) (v := .int (iZ ((1 : Nat) : Int))) (C := n_M) (T := f_M) (N := 17) hx hb hts in_M hown hK hP 19 rfl rfl 0 (by decide) (hts _ fl_M_55) (fun _ h9 => h9) rfl d_M_least_58 ?_
          refine z_if_ne (a := ((1 : Nat) : Int)) (tgt := 94) hx hb (by omega) d_M_least_61 (by decide) (fun q61 => ?_) (fun q61 => ?_)
          · skip
            refine lv_aload_n hx hb d_M_least_94 rfl (lv_at hl 1 rfl) ?_
            refine va_get (D := D) (ci := 5) (v := .int (iZ ((1 : Nat) : Int))) (C := n_M) (T := f_M) (N := 17) hx hb hts in_M hown hK hP 19 rfl rfl 0 (by decide) (hts _ fl_M_55) (fun _ h9 => h9) rfl d_M_least_95 ?_
            refine z_if_le (a := ((1 : Nat) : Int)) (tgt := 105) hx hb (by omega) d_M_least_98 (by decide) (fun q98 => ?_) (fun q98 => ?_)
            · skip
              exfalso; omega
            · skip
              refine lv_iconst (v := iZ ((0 : Nat) : Int)) hx hb d_M_least_101 (by decide) ?_
              refine lv_goto (tgt := 106) hx hb d_M_least_102 (by decide) ?_
              exact z_iret Z hP hS d_M_least_106 wdM_map (⟨_, rfl, rfl, hM⟩)
          · skip
            exfalso; omega
      · skip
        refine lv_iload_n hx hb d_M_least_19 rfl (lv_at hl 3 rfl) ?_
        refine lv_iload hx hb d_M_least_20 (lv_at hl 4 rfl) ?_
        refine z_icmp_gt (a := c9) (b := d9) (tgt := 39) hx hb (by omega) d_M_least_22 (by decide) (fun q22 => ?_) (fun q22 => ?_)
        · skip
          refine lv_iconst (v := iZ ((1 : Nat) : Int)) hx hb d_M_least_39 (by decide) ?_
          refine lv_goto (tgt := 44) hx hb d_M_least_40 (by decide) ?_
          refine va_put (D := D) (ci := 5) (v := .int (iZ ((1 : Nat) : Int))) (ty := .int) (C := n_M) (T := f_M) (N := 17) hx hb hts in_M ty_M tyo_M nm_M hown hK hP hD hS 19 rfl rfl 0 (by decide) (hts _ fl_M_55) (fun _ h9 => h9) rfl (by decide +kernel) rfl rfl (Nat.le_of_ble_eq_true rfl) d_M_least_44 (fun H locs hP hD hS => ?_)
          have hP : va_P D classes (wdC ad cI cZ cL J0 rd0 pr0 G0 K0 (wdM ad cI cZ cL J rd pr (1, M.2) ov)) H := hP
          have hD : va_D A (wdC ad cI cZ cL J0 rd0 pr0 G0 K0 (wdM ad cI cZ cL J rd pr (1, M.2) ov)) := hD
          refine lv_iconst (v := iZ ((0 : Nat) : Int)) hx hb d_M_least_47 (by decide) ?_
          refine lv_istore (lv' := [(5, .int (iZ ((0 : Nat) : Int))), (0, .ref (ad 19)), (1, .int (iZ (a))), (2, .int (iZ (b))), (3, .int (iZ (c9))), (4, .int (iZ (d9)))]) hx hb d_M_least_48 hl (by decide) rfl (fun ls hl => ?_)
          refine lv_iload hx hb d_M_least_50 (lv_at hl 0 rfl) ?_
          refine lv_bipush (v := iZ ((40 : Nat) : Int)) hx hb d_M_least_52 (by decide) ?_
          refine z_icmp_gt (a := ((0 : Nat) : Int)) (b := ((40 : Nat) : Int)) (tgt := 94) hx hb (by omega) d_M_least_54 (by decide) (fun q54 => ?_) (fun q54 => ?_)
          · skip
            exfalso; omega
          · skip
            refine lv_aload_n hx hb d_M_least_57 rfl (lv_at hl 1 rfl) ?_
            refine va_get (D := D) (ci := 5) (v := .int (iZ ((1 : Nat) : Int))) (C := n_M) (T := f_M) (N := 17) hx hb hts in_M hown hK hP 19 rfl rfl 0 (by decide) (hts _ fl_M_55) (fun _ h9 => h9) rfl d_M_least_58 ?_
            refine z_if_ne (a := ((1 : Nat) : Int)) (tgt := 94) hx hb (by omega) d_M_least_61 (by decide) (fun q61 => ?_) (fun q61 => ?_)
            · skip
              refine lv_aload_n hx hb d_M_least_94 rfl (lv_at hl 1 rfl) ?_
              refine va_get (D := D) (ci := 5) (v := .int (iZ ((1 : Nat) : Int))) (C := n_M) (T := f_M) (N := 17) hx hb hts in_M hown hK hP 19 rfl rfl 0 (by decide) (hts _ fl_M_55) (fun _ h9 => h9) rfl d_M_least_95 ?_
              refine z_if_le (a := ((1 : Nat) : Int)) (tgt := 105) hx hb (by omega) d_M_least_98 (by decide) (fun q98 => ?_) (fun q98 => ?_)
              · skip
                exfalso; omega
              · skip
                refine lv_iconst (v := iZ ((0 : Nat) : Int)) hx hb d_M_least_101 (by decide) ?_
                refine lv_goto (tgt := 106) hx hb d_M_least_102 (by decide) ?_
                exact z_iret Z hP hS d_M_least_106 wdM_map (⟨_, rfl, rfl, hM⟩)
            · skip
              exfalso; omega
        · skip
          refine lv_iload_n hx hb d_M_least_25 rfl (lv_at hl 1 rfl) ?_
          refine z_callSR (As := [.int (iZ (a))]) (rest := [.ref (ad 19)]) zTB Z (k_M_isBound (a := a) (by omega)) ⟨ml_M_101, sm_M_isBound, ini_M, co_M_isBound⟩ zd_M_isBound ⟨Nat.le_of_ble_eq_true rfl, Nat.le_of_ble_eq_true rfl⟩ hP hK hl.1 rfl (Nat.le_of_ble_eq_true rfl) d_M_least_26 ⟨Nat.zero_le _, Nat.zero_le _⟩ ?_
          refine W.eq (g2 := F0 m 29 ls [.int (bI (decide (1 ≤ a ∧ a ≤ 16))), .ref (ad 19)]) rfl ?_
          refine z_if_eqB (b := decide (1 ≤ a ∧ a ≤ 16)) (tgt := 39) hx hb d_M_least_29 (by decide) (fun q29 => ?_) (fun q29 => ?_)
          · skip
            replace q29 := of_decide_eq_false q29
            refine lv_iconst (v := iZ ((1 : Nat) : Int)) hx hb d_M_least_39 (by decide) ?_
            refine lv_goto (tgt := 44) hx hb d_M_least_40 (by decide) ?_
            refine va_put (D := D) (ci := 5) (v := .int (iZ ((1 : Nat) : Int))) (ty := .int) (C := n_M) (T := f_M) (N := 17) hx hb hts in_M ty_M tyo_M nm_M hown hK hP hD hS 19 rfl rfl 0 (by decide) (hts _ fl_M_55) (fun _ h9 => h9) rfl (by decide +kernel) rfl rfl (Nat.le_of_ble_eq_true rfl) d_M_least_44 (fun H locs hP hD hS => ?_)
            have hP : va_P D classes (wdC ad cI cZ cL J0 rd0 pr0 G0 K0 (wdM ad cI cZ cL J rd pr (1, M.2) ov)) H := hP
            have hD : va_D A (wdC ad cI cZ cL J0 rd0 pr0 G0 K0 (wdM ad cI cZ cL J rd pr (1, M.2) ov)) := hD
            refine lv_iconst (v := iZ ((0 : Nat) : Int)) hx hb d_M_least_47 (by decide) ?_
            refine lv_istore (lv' := [(5, .int (iZ ((0 : Nat) : Int))), (0, .ref (ad 19)), (1, .int (iZ (a))), (2, .int (iZ (b))), (3, .int (iZ (c9))), (4, .int (iZ (d9)))]) hx hb d_M_least_48 hl (by decide) rfl (fun ls hl => ?_)
            refine lv_iload hx hb d_M_least_50 (lv_at hl 0 rfl) ?_
            refine lv_bipush (v := iZ ((40 : Nat) : Int)) hx hb d_M_least_52 (by decide) ?_
            refine z_icmp_gt (a := ((0 : Nat) : Int)) (b := ((40 : Nat) : Int)) (tgt := 94) hx hb (by omega) d_M_least_54 (by decide) (fun q54 => ?_) (fun q54 => ?_)
            · skip
              exfalso; omega
            · skip
              refine lv_aload_n hx hb d_M_least_57 rfl (lv_at hl 1 rfl) ?_
              refine va_get (D := D) (ci := 5) (v := .int (iZ ((1 : Nat) : Int))) (C := n_M) (T := f_M) (N := 17) hx hb hts in_M hown hK hP 19 rfl rfl 0 (by decide) (hts _ fl_M_55) (fun _ h9 => h9) rfl d_M_least_58 ?_
              refine z_if_ne (a := ((1 : Nat) : Int)) (tgt := 94) hx hb (by omega) d_M_least_61 (by decide) (fun q61 => ?_) (fun q61 => ?_)
              · skip
                refine lv_aload_n hx hb d_M_least_94 rfl (lv_at hl 1 rfl) ?_
                refine va_get (D := D) (ci := 5) (v := .int (iZ ((1 : Nat) : Int))) (C := n_M) (T := f_M) (N := 17) hx hb hts in_M hown hK hP 19 rfl rfl 0 (by decide) (hts _ fl_M_55) (fun _ h9 => h9) rfl d_M_least_95 ?_
                refine z_if_le (a := ((1 : Nat) : Int)) (tgt := 105) hx hb (by omega) d_M_least_98 (by decide) (fun q98 => ?_) (fun q98 => ?_)
                · skip
                  exfalso; omega
                · skip
                  refine lv_iconst (v := iZ ((0 : Nat) : Int)) hx hb d_M_least_101 (by decide) ?_
                  refine lv_goto (tgt := 106) hx hb d_M_least_102 (by decide) ?_
                  exact z_iret Z hP hS d_M_least_106 wdM_map (⟨_, rfl, rfl, hM⟩)
              · skip
                exfalso; omega
          · skip
            replace q29 := of_decide_eq_true q29
            refine lv_iload_n hx hb d_M_least_32 rfl (lv_at hl 2 rfl) ?_
            refine z_callSR (As := [.int (iZ (b))]) (rest := [.ref (ad 19)]) zTB Z (k_M_isBound (a := b) (by omega)) ⟨ml_M_101, sm_M_isBound, ini_M, co_M_isBound⟩ zd_M_isBound ⟨Nat.le_of_ble_eq_true rfl, Nat.le_of_ble_eq_true rfl⟩ hP hK hl.1 rfl (Nat.le_of_ble_eq_true rfl) d_M_least_33 ⟨Nat.zero_le _, Nat.zero_le _⟩ ?_
            refine W.eq (g2 := F0 m 36 ls [.int (bI (decide (1 ≤ b ∧ b ≤ 16))), .ref (ad 19)]) rfl ?_
            refine z_if_neB (b := decide (1 ≤ b ∧ b ≤ 16)) (tgt := 43) hx hb d_M_least_36 (by decide) (fun q36 => ?_) (fun q36 => ?_)
            · skip
              replace q36 := of_decide_eq_true q36
              exfalso; omega
            · skip
              replace q36 := of_decide_eq_false q36
              refine lv_iconst (v := iZ ((1 : Nat) : Int)) hx hb d_M_least_39 (by decide) ?_
              refine lv_goto (tgt := 44) hx hb d_M_least_40 (by decide) ?_
              refine va_put (D := D) (ci := 5) (v := .int (iZ ((1 : Nat) : Int))) (ty := .int) (C := n_M) (T := f_M) (N := 17) hx hb hts in_M ty_M tyo_M nm_M hown hK hP hD hS 19 rfl rfl 0 (by decide) (hts _ fl_M_55) (fun _ h9 => h9) rfl (by decide +kernel) rfl rfl (Nat.le_of_ble_eq_true rfl) d_M_least_44 (fun H locs hP hD hS => ?_)
              have hP : va_P D classes (wdC ad cI cZ cL J0 rd0 pr0 G0 K0 (wdM ad cI cZ cL J rd pr (1, M.2) ov)) H := hP
              have hD : va_D A (wdC ad cI cZ cL J0 rd0 pr0 G0 K0 (wdM ad cI cZ cL J rd pr (1, M.2) ov)) := hD
              refine lv_iconst (v := iZ ((0 : Nat) : Int)) hx hb d_M_least_47 (by decide) ?_
              refine lv_istore (lv' := [(5, .int (iZ ((0 : Nat) : Int))), (0, .ref (ad 19)), (1, .int (iZ (a))), (2, .int (iZ (b))), (3, .int (iZ (c9))), (4, .int (iZ (d9)))]) hx hb d_M_least_48 hl (by decide) rfl (fun ls hl => ?_)
              refine lv_iload hx hb d_M_least_50 (lv_at hl 0 rfl) ?_
              refine lv_bipush (v := iZ ((40 : Nat) : Int)) hx hb d_M_least_52 (by decide) ?_
              refine z_icmp_gt (a := ((0 : Nat) : Int)) (b := ((40 : Nat) : Int)) (tgt := 94) hx hb (by omega) d_M_least_54 (by decide) (fun q54 => ?_) (fun q54 => ?_)
              · skip
                exfalso; omega
              · skip
                refine lv_aload_n hx hb d_M_least_57 rfl (lv_at hl 1 rfl) ?_
                refine va_get (D := D) (ci := 5) (v := .int (iZ ((1 : Nat) : Int))) (C := n_M) (T := f_M) (N := 17) hx hb hts in_M hown hK hP 19 rfl rfl 0 (by decide) (hts _ fl_M_55) (fun _ h9 => h9) rfl d_M_least_58 ?_
                refine z_if_ne (a := ((1 : Nat) : Int)) (tgt := 94) hx hb (by omega) d_M_least_61 (by decide) (fun q61 => ?_) (fun q61 => ?_)
                · skip
                  refine lv_aload_n hx hb d_M_least_94 rfl (lv_at hl 1 rfl) ?_
                  refine va_get (D := D) (ci := 5) (v := .int (iZ ((1 : Nat) : Int))) (C := n_M) (T := f_M) (N := 17) hx hb hts in_M hown hK hP 19 rfl rfl 0 (by decide) (hts _ fl_M_55) (fun _ h9 => h9) rfl d_M_least_95 ?_
                  refine z_if_le (a := ((1 : Nat) : Int)) (tgt := 105) hx hb (by omega) d_M_least_98 (by decide) (fun q98 => ?_) (fun q98 => ?_)
                  · skip
                    exfalso; omega
                  · skip
                    refine lv_iconst (v := iZ ((0 : Nat) : Int)) hx hb d_M_least_101 (by decide) ?_
                    refine lv_goto (tgt := 106) hx hb d_M_least_102 (by decide) ?_
                    exact z_iret Z hP hS d_M_least_106 wdM_map (⟨_, rfl, rfl, hM⟩)
                · skip
                  exfalso; omega

set_option maxHeartbeats 4000000 in
set_option maxRecDepth 100000 in
theorem k_M_least0 {l : Launch} {D : va_G} {ad : Nat → Nat} {cI cZ cL : ClassId} {J J0 : SJ} {rd rd0 : Nat → Int} {pr pr0 : Nat → Nat} {G0 : SH} {K0 : SK} {M : SM} {ov : Nat → Int64} (hI : JI J) (hM : MJ J M) {up lo ab be : Nat} (hup : 1 ≤ up ∧ up ≤ 16) (hlo : 1 ≤ lo ∧ lo ≤ 16) (hbe : 1 ≤ be ∧ be ≤ 1000) (hab : ab ≤ be) : zMi l TB D classes (tysW cI cZ cL) y_M_least w_M_least 1 27 [.ref (ad 19), .int (iZ ((up : Nat) : Int)), .int (iZ ((lo : Nat) : Int)), .int (iZ ((ab : Nat) : Int)), .int (iZ ((be : Nat) : Int))] (wdC ad cI cZ cL J0 rd0 pr0 G0 K0 (wdM ad cI cZ cL J rd pr M ov)) (fun r w => ∃ M1 : SM, r = iZ (sLs up lo ab be 41 0) ∧ w = wdC ad cI cZ cL J0 rd0 pr0 G0 K0 (wdM ad cI cZ cL J rd pr M1 ov) ∧ M1.1 = 0 ∧ MJ J M1) := by
  refine z_of (Qc := fun A => va_Qi (fun r w => ∃ M1 : SM, r = iZ (sLs up lo ab be 41 0) ∧ w = wdC ad cI cZ cL J0 rd0 pr0 G0 K0 (wdM ad cI cZ cL J rd pr M1 ov) ∧ M1.1 = 0 ∧ MJ J M1) (zB9 D classes (wdC ad cI cZ cL J0 rd0 pr0 G0 K0 (wdM ad cI cZ cL J rd pr M ov))) A) (by decide) (Nat.le_of_ble_eq_true rfl) ?_
  intro p e s m below meth c A ls Z hP hK hD hS hA hl
  obtain ⟨hx, hb, hr, hml, hown, hts, hE, hlocks⟩ := id Z
  have hl : lv_has ls 6 [(0, .ref (ad 19)), (1, .int (iZ ((up : Nat) : Int))), (2, .int (iZ ((lo : Nat) : Int))), (3, .int (iZ ((ab : Nat) : Int))), (4, .int (iZ ((be : Nat) : Int)))] := hl
  obtain ⟨hn32, hk2, hpr, hct⟩ := id hI
  suffices K9 : ∀ (H : Heap) (locs : List Loc) (ls : Array Slot), va_P D classes (wdC ad cI cZ cL J0 rd0 pr0 G0 K0 (wdM ad cI cZ cL J rd pr M ov)) H → va_D A (wdC ad cI cZ cL J0 rd0 pr0 G0 K0 (wdM ad cI cZ cL J rd pr M ov)) → va_S A s.heap H locs → lv_has ls 6 [(0, .ref (ad 19)), (1, .int (iZ ((up : Nat) : Int))), (2, .int (iZ ((lo : Nat) : Int))), (3, .int (iZ ((ab : Nat) : Int))), (4, .int (iZ ((be : Nat) : Int)))] → W p l e (zRm 1 27) s m ([.ref (ad 19), .int (iZ ((up : Nat) : Int)), .int (iZ ((lo : Nat) : Int)), .int (iZ ((ab : Nat) : Int)), .int (iZ ((be : Nat) : Int))] : List Value).toArray below meth c H locs 0 0 (MQ below (va_Qi (fun r w => ∃ M1 : SM, r = iZ (sLs up lo ab be 41 0) ∧ w = wdC ad cI cZ cL J0 rd0 pr0 G0 K0 (wdM ad cI cZ cL J rd pr M1 ov) ∧ M1.1 = 0 ∧ MJ J M1) (zB9 D classes (wdC ad cI cZ cL J0 rd0 pr0 G0 K0 (wdM ad cI cZ cL J rd pr M ov))) A) ([.ref (ad 19), .int (iZ ((up : Nat) : Int)), .int (iZ ((lo : Nat) : Int)), .int (iZ ((ab : Nat) : Int)), .int (iZ ((be : Nat) : Int))] : List Value).toArray s 0 0 A) (F0 m 0 ls []) from K9 s.heap [] ls hP hD hS hl
  clear hP hD hS hl
  intro H locs ls hP hD hS hl
  refine lv_aload_n hx hb d_M_least_0 rfl (lv_at hl 0 rfl) ?_
  refine lv_iload hx hb d_M_least_1 (lv_at hl 4 rfl) ?_
  refine lv_iconst (v := iZ ((1 : Nat) : Int)) hx hb d_M_least_3 (by decide) ?_
  refine z_icmp_lt (a := ((be : Nat) : Int)) (b := ((1 : Nat) : Int)) (tgt := 39) hx hb (by omega) d_M_least_4 (by decide) (fun q4 => ?_) (fun q4 => ?_)
  · skip
    exfalso; omega
  · skip
    refine lv_iload hx hb d_M_least_7 (lv_at hl 4 rfl) ?_
    refine lv_sipush (v := iZ ((1000 : Nat) : Int)) hx hb d_M_least_9 (by decide) ?_
    refine z_icmp_gt (a := ((be : Nat) : Int)) (b := ((1000 : Nat) : Int)) (tgt := 39) hx hb (by omega) d_M_least_12 (by decide) (fun q12 => ?_) (fun q12 => ?_)
    · skip
      exfalso; omega
    · skip
      refine lv_iload_n hx hb d_M_least_15 rfl (lv_at hl 3 rfl) ?_
      refine z_if_lt (a := ((ab : Nat) : Int)) (tgt := 39) hx hb (by omega) d_M_least_16 (by decide) (fun q16 => ?_) (fun q16 => ?_)
      · skip
        exfalso; omega
      · skip
        refine lv_iload_n hx hb d_M_least_19 rfl (lv_at hl 3 rfl) ?_
        refine lv_iload hx hb d_M_least_20 (lv_at hl 4 rfl) ?_
        refine z_icmp_gt (a := ((ab : Nat) : Int)) (b := ((be : Nat) : Int)) (tgt := 39) hx hb (by omega) d_M_least_22 (by decide) (fun q22 => ?_) (fun q22 => ?_)
        · skip
          exfalso; omega
        · skip
          refine lv_iload_n hx hb d_M_least_25 rfl (lv_at hl 1 rfl) ?_
          refine z_callSR (As := [.int (iZ ((up : Nat) : Int))]) (rest := [.ref (ad 19)]) zTB Z (k_M_isBound (a := ((up : Nat) : Int)) (by omega)) ⟨ml_M_101, sm_M_isBound, ini_M, co_M_isBound⟩ zd_M_isBound ⟨Nat.le_of_ble_eq_true rfl, Nat.le_of_ble_eq_true rfl⟩ hP hK hl.1 rfl (Nat.le_of_ble_eq_true rfl) d_M_least_26 ⟨Nat.zero_le _, Nat.zero_le _⟩ ?_
          refine W.eq (g2 := F0 m 29 ls [.int (bI (decide (1 ≤ ((up : Nat) : Int) ∧ ((up : Nat) : Int) ≤ 16))), .ref (ad 19)]) rfl ?_
          refine z_if_eqB (b := decide (1 ≤ ((up : Nat) : Int) ∧ ((up : Nat) : Int) ≤ 16)) (tgt := 39) hx hb d_M_least_29 (by decide) (fun q29 => ?_) (fun q29 => ?_)
          · skip
            replace q29 := of_decide_eq_false q29
            exfalso; omega
          · skip
            replace q29 := of_decide_eq_true q29
            refine lv_iload_n hx hb d_M_least_32 rfl (lv_at hl 2 rfl) ?_
            refine z_callSR (As := [.int (iZ ((lo : Nat) : Int))]) (rest := [.ref (ad 19)]) zTB Z (k_M_isBound (a := ((lo : Nat) : Int)) (by omega)) ⟨ml_M_101, sm_M_isBound, ini_M, co_M_isBound⟩ zd_M_isBound ⟨Nat.le_of_ble_eq_true rfl, Nat.le_of_ble_eq_true rfl⟩ hP hK hl.1 rfl (Nat.le_of_ble_eq_true rfl) d_M_least_33 ⟨Nat.zero_le _, Nat.zero_le _⟩ ?_
            refine W.eq (g2 := F0 m 36 ls [.int (bI (decide (1 ≤ ((lo : Nat) : Int) ∧ ((lo : Nat) : Int) ≤ 16))), .ref (ad 19)]) rfl ?_
            refine z_if_neB (b := decide (1 ≤ ((lo : Nat) : Int) ∧ ((lo : Nat) : Int) ≤ 16)) (tgt := 43) hx hb d_M_least_36 (by decide) (fun q36 => ?_) (fun q36 => ?_)
            · skip
              replace q36 := of_decide_eq_true q36
              refine lv_iconst (v := iZ ((0 : Nat) : Int)) hx hb d_M_least_43 (by decide) ?_
              refine va_put (D := D) (ci := 5) (v := .int (iZ ((0 : Nat) : Int))) (ty := .int) (C := n_M) (T := f_M) (N := 17) hx hb hts in_M ty_M tyo_M nm_M hown hK hP hD hS 19 rfl rfl 0 (by decide) (hts _ fl_M_55) (fun _ h9 => h9) rfl (by decide +kernel) rfl rfl (Nat.le_of_ble_eq_true rfl) d_M_least_44 (fun H locs hP hD hS => ?_)
              have hP : va_P D classes (wdC ad cI cZ cL J0 rd0 pr0 G0 K0 (wdM ad cI cZ cL J rd pr (0, M.2) ov)) H := hP
              have hD : va_D A (wdC ad cI cZ cL J0 rd0 pr0 G0 K0 (wdM ad cI cZ cL J rd pr (0, M.2) ov)) := hD
              refine lv_iconst (v := iZ ((0 : Nat) : Int)) hx hb d_M_least_47 (by decide) ?_
              refine lv_istore (lv' := [(5, .int (iZ ((0 : Nat) : Int))), (0, .ref (ad 19)), (1, .int (iZ ((up : Nat) : Int))), (2, .int (iZ ((lo : Nat) : Int))), (3, .int (iZ ((ab : Nat) : Int))), (4, .int (iZ ((be : Nat) : Int)))]) hx hb d_M_least_48 hl (by decide) rfl (fun ls hl => ?_)
              have L50 : ∀ (N50 : Nat) (i : Nat) (M1 : SM) (H : Heap) (locs : List Loc) (ls : Array Slot), (i ≤ 41) → (M1.1 = 0) → (MJ J M1) → (sLs up lo ab be 41 0 = sLs up lo ab be (41 - i) i) → 41 - i < N50 → va_P D classes (wdC ad cI cZ cL J0 rd0 pr0 G0 K0 (wdM ad cI cZ cL J rd pr M1 ov)) H → va_D A (wdC ad cI cZ cL J0 rd0 pr0 G0 K0 (wdM ad cI cZ cL J rd pr M1 ov)) → va_S A s.heap H locs → lv_has ls 6 [(0, .ref (ad 19)), (1, .int (iZ ((up : Nat) : Int))), (2, .int (iZ ((lo : Nat) : Int))), (3, .int (iZ ((ab : Nat) : Int))), (4, .int (iZ ((be : Nat) : Int))), (5, .int (iZ ((i : Nat) : Int)))] → W p l e (zRm 1 27) s m ([.ref (ad 19), .int (iZ ((up : Nat) : Int)), .int (iZ ((lo : Nat) : Int)), .int (iZ ((ab : Nat) : Int)), .int (iZ ((be : Nat) : Int))] : List Value).toArray below meth c H locs 0 0 (MQ below (va_Qi (fun r w => ∃ M1 : SM, r = iZ (sLs up lo ab be 41 0) ∧ w = wdC ad cI cZ cL J0 rd0 pr0 G0 K0 (wdM ad cI cZ cL J rd pr M1 ov) ∧ M1.1 = 0 ∧ MJ J M1) (zB9 D classes (wdC ad cI cZ cL J0 rd0 pr0 G0 K0 (wdM ad cI cZ cL J rd pr M ov))) A) ([.ref (ad 19), .int (iZ ((up : Nat) : Int)), .int (iZ ((lo : Nat) : Int)), .int (iZ ((ab : Nat) : Int)), .int (iZ ((be : Nat) : Int))] : List Value).toArray s 0 0 A) (F0 m 50 ls []) := by
                intro N50
                induction N50 with
                | zero =>
                  intro i M1 H locs ls hi hc1 hM1 hv hN50 hP hD hS hl
                  exact absurd hN50 (Nat.not_lt_zero _)
                | succ N50 ih50 =>
                  intro i M1 H locs ls hi hc1 hM1 hv hN50 hP hD hS hl
                  refine lv_iload hx hb d_M_least_50 (lv_at hl 5 rfl) ?_
                  refine lv_bipush (v := iZ ((40 : Nat) : Int)) hx hb d_M_least_52 (by decide) ?_
                  refine z_icmp_gt (a := ((i : Nat) : Int)) (b := ((40 : Nat) : Int)) (tgt := 94) hx hb (by omega) d_M_least_54 (by decide) (fun q54 => ?_) (fun q54 => ?_)
                  · skip
                    refine lv_aload_n hx hb d_M_least_94 rfl (lv_at hl 0 rfl) ?_
                    refine va_get (D := D) (ci := 5) (v := .int (iZ ((M1.1 : Nat) : Int))) (C := n_M) (T := f_M) (N := 17) hx hb hts in_M hown hK hP 19 rfl rfl 0 (by decide) (hts _ fl_M_55) (fun _ h9 => h9) rfl d_M_least_95 ?_
                    refine z_if_le (a := ((M1.1 : Nat) : Int)) (tgt := 105) hx hb (by omega) d_M_least_98 (by decide) (fun q98 => ?_) (fun q98 => ?_)
                    · skip
                      refine lv_iconst (v := iZ ((-1 : Int))) hx hb d_M_least_105 (by decide) ?_
                      exact z_iret Z hP hS d_M_least_106 wdM_map (⟨M1, by rw [hv, show 41 - i = 0 by omega]; rfl, rfl, hc1, hM1⟩)
                    · skip
                      exfalso; omega
                  · skip
                    have hr1 : 41 - i = (41 - i - 1) + 1 := by omega
                    refine lv_aload_n hx hb d_M_least_57 rfl (lv_at hl 0 rfl) ?_
                    refine va_get (D := D) (ci := 5) (v := .int (iZ ((M1.1 : Nat) : Int))) (C := n_M) (T := f_M) (N := 17) hx hb hts in_M hown hK hP 19 rfl rfl 0 (by decide) (hts _ fl_M_55) (fun _ h9 => h9) rfl d_M_least_58 ?_
                    refine z_if_ne (a := ((M1.1 : Nat) : Int)) (tgt := 94) hx hb (by omega) d_M_least_61 (by decide) (fun q61 => ?_) (fun q61 => ?_)
                    · skip
                      exfalso; omega
                    · skip
                      refine lv_aload_n hx hb d_M_least_64 rfl (lv_at hl 0 rfl) ?_
                      refine lv_iload hx hb d_M_least_65 (lv_at hl 5 rfl) ?_
                      refine lv_iload_n hx hb d_M_least_67 rfl (lv_at hl 1 rfl) ?_
                      refine lv_iload_n hx hb d_M_least_68 rfl (lv_at hl 2 rfl) ?_
                      refine z_kl (z_runV (As := [.int (iZ ((i : Nat) : Int)), .int (iZ ((up : Nat) : Int)), .int (iZ ((lo : Nat) : Int))]) (rest := []) zTB Z (k_M_cross (J := J) (M := M1) hM1 (nn := i) (up := up) (lo := lo) (by omega) (by omega)) ⟨ml_M_105, im_M_cross, se_M_cross, ini_M, co_M_cross⟩ zd_M_cross ⟨Nat.le_of_ble_eq_true rfl, Nat.le_of_ble_eq_true rfl⟩ hP hK hD (ci := 5) (q0 := 19) rfl rfl rfl hl.1 rfl (Nat.le_of_ble_eq_true rfl) d_M_least_69 ⟨Nat.zero_le _, Nat.zero_le _⟩) hD hS hA (fun r9 w9 H locs hp9 hP hD hS => ?_)
                      obtain ⟨M2, rfl, rfl, hc2, hM2⟩ := hp9
                      have hP : va_P D classes (wdC ad cI cZ cL J0 rd0 pr0 G0 K0 (wdM ad cI cZ cL J rd pr M2 ov)) H := hP
                      have hD : va_D A (wdC ad cI cZ cL J0 rd0 pr0 G0 K0 (wdM ad cI cZ cL J rd pr M2 ov)) := hD
                      refine W.eq (g2 := F0 m 72 ls [.long (lZ ((sCr up lo i : Nat) : Int))]) rfl ?_
                      refine lv_iload hx hb d_M_least_72 (lv_at hl 4 rfl) ?_
                      refine z_i2l (a := ((be : Nat) : Int)) hx hb (by omega) d_M_least_74 ?_
                      refine z_lmulN (u := sCr up lo i) (v := be) hx hb d_M_least_75 ?_
                      refine lv_iload_n hx hb d_M_least_76 rfl (lv_at hl 3 rfl) ?_
                      refine z_i2l (a := ((ab : Nat) : Int)) hx hb (by omega) d_M_least_77 ?_
                      refine lv_iload hx hb d_M_least_78 (lv_at hl 5 rfl) ?_
                      refine lv_lshl (v := lZ ((ab * 2 ^ i : Nat) : Int)) hx hb d_M_least_80 (lshl_k _ (by omega)) ?_
                      have hcb := sCr_le up lo i
                      have hcb2 : i * 2 ^ i ≤ 40 * 2 ^ 40 := Nat.mul_le_mul (by omega) (two_le (by omega))
                      have hm1 : sCr up lo i * be ≤ (40 * 2 ^ 40) * 1000 := Nat.mul_le_mul (by omega) (by omega)
                      have hm2 : ab * 2 ^ i ≤ 1000 * 2 ^ 40 := Nat.mul_le_mul (by omega) (two_le (by omega))
                      have hm3 : 2 ^ i * ab = ab * 2 ^ i := Nat.mul_comm _ _
                      refine z_lcmp_lt (a := (((sCr up lo i) * be : Nat) : Int)) (b := ((ab * 2 ^ i : Nat) : Int)) (tgt := 88) (pc1 := 82) (pc4 := 85) hx hb (by omega) d_M_least_81 rfl rfl d_M_least_82 (by decide) (fun q81 => ?_) (fun q81 => ?_)
                      · skip
                        refine lv_iinc (v := iZ ((i + 1 : Nat) : Int)) (lv' := [(5, .int (iZ ((i + 1 : Nat) : Int))), (0, .ref (ad 19)), (1, .int (iZ ((up : Nat) : Int))), (2, .int (iZ ((lo : Nat) : Int))), (3, .int (iZ ((ab : Nat) : Int))), (4, .int (iZ ((be : Nat) : Int)))]) hx hb d_M_least_88 hl (k := 5) rfl (iZ_inc (i) 1) (by decide) rfl (fun ls hl => ?_)
                        refine lv_goto (tgt := 50) hx hb d_M_least_91 (by decide) ?_
                        exact ih50 (i + 1) M2 H locs ls (by omega) (hc2.trans hc1) hM2 (by rw [hv, hr1]; show (if _ then _ else _) = _; rw [if_neg (by omega), show 41 - i - 1 = 41 - (i + 1) by omega]) (by omega) hP hD hS (lv_sub hl [1, 2, 3, 4, 5, 0] rfl)
                      · skip
                        refine lv_iload hx hb d_M_least_85 (lv_at hl 5 rfl) ?_
                        exact z_iret Z hP hS d_M_least_87 wdM_map (⟨M2, by rw [hv, hr1]; show _ = iZ (if _ then _ else _); rw [if_pos (by omega)], rfl, hc2.trans hc1, hM2⟩)
              exact L50 (41 - 0 + 1) 0 (0, M.2) H locs ls (Nat.zero_le _) rfl hM rfl (by omega) hP hD hS (lv_sub hl [1, 2, 3, 4, 5, 0] rfl)
            · skip
              replace q36 := of_decide_eq_false q36
              exfalso; omega

