/-! The walk. -/
/-- the ways of n steps that stay between the bounds and end at the place j; those that came to the upper one, each of them doubled with every further step -/
def sWk (up lo : Nat) : Nat → Nat → Nat
  | 0, j => if j = lo then 1 else 0
  | n + 1, j => if 1 ≤ j ∧ j < up + lo then (if j = 1 then 0 else sWk up lo n (j - 1)) + sWk up lo n (j + 1) else sWk up lo n j
def sCr (up lo : Nat) : Nat → Nat
  | 0 => 0
  | n + 1 => 2 * sCr up lo n + sWk up lo n (up + lo - 1)
theorem sWk_le (up lo n : Nat) : ∀ j, sWk up lo n j ≤ 2 ^ n := by
  induction n with
  | zero => intro j; show (if j = lo then 1 else 0 : Nat) ≤ 1; split <;> omega
  | succ n ih =>
    intro j
    have h1 := ih (j - 1)
    have h2 := ih (j + 1)
    have h3 := ih j
    show (if 1 ≤ j ∧ j < up + lo then (if j = 1 then 0 else sWk up lo n (j - 1)) + sWk up lo n (j + 1) else sWk up lo n j) ≤ 2 ^ (n + 1)
    rw [Nat.pow_succ]
    split
    · split <;> omega
    · omega
theorem sCr_le (up lo n : Nat) : sCr up lo n ≤ n * 2 ^ n := by
  induction n with
  | zero => exact Nat.zero_le _
  | succ n ih =>
    have h := sWk_le up lo n (up + lo - 1)
    show 2 * sCr up lo n + sWk up lo n (up + lo - 1) ≤ (n + 1) * 2 ^ (n + 1)
    rw [Nat.pow_succ, Nat.add_mul, Nat.one_mul, ← Nat.mul_assoc]
    omega
/-- the walk's cells after n steps -/
def wkI (up lo n : Nat) (K : SK) : Prop := K.2.1 = up + lo ∧ K.2.2.1 = sCr up lo n ∧ K.2.2.2 = 2 ^ n ∧ ∀ j, j < 33 → K.1 j = sWk up lo n j
theorem wkI_s {up lo n : Nat} {K : SK} {wy : Nat → Nat} (h : wkI up lo n K) (hb : 1 ≤ up ∧ up ≤ 16 ∧ 1 ≤ lo ∧ lo ≤ 16) (hw : ∀ j, wy j = if 1 ≤ j ∧ j < K.2.1 then (if j = 1 then 0 else K.1 (j - 1)) + K.1 (j + 1) else K.1 j) : wkI up lo (n + 1) (wy, K.2.1, 2 * K.2.2.1 + K.1 (K.2.1 - 1), K.2.2.2 * 2) := by
  obtain ⟨h1, h2, h3, h4⟩ := h
  refine ⟨h1, ?_, ?_, fun j hj => ?_⟩
  · show 2 * K.2.2.1 + K.1 (K.2.1 - 1) = 2 * sCr up lo n + sWk up lo n (up + lo - 1)
    rw [h2, h1, h4 _ (by omega)]
  · show K.2.2.2 * 2 = 2 ^ (n + 1)
    rw [h3, Nat.pow_succ]
  · show wy j = if 1 ≤ j ∧ j < up + lo then (if j = 1 then 0 else sWk up lo n (j - 1)) + sWk up lo n (j + 1) else sWk up lo n j
    rw [hw j, h1]
    by_cases q : 1 ≤ j ∧ j < up + lo
    · rw [if_pos q, if_pos q, h4 (j - 1) (by omega), h4 (j + 1) (by omega)]
    · rw [if_neg q, if_neg q, h4 j hj]
set_option maxHeartbeats 4000000 in
set_option maxRecDepth 100000 in
theorem k_K_start {l : Launch} {D : va_G} {ad : Nat → Nat} {cI cZ cL : ClassId} {J : SJ} {rd : Nat → Int} {pr : Nat → Nat} {G : SH} {K : SK} {tl : va_W} {up lo : Nat} (hb9 : 1 ≤ up ∧ up ≤ 16 ∧ 1 ≤ lo ∧ lo ≤ 16) : zMv l TB D classes (tysW cI cZ cL) y_K_start w_K_start 0 0 [.ref (ad 16), .int (iZ ((up : Nat) : Int)), .int (iZ ((lo : Nat) : Int))] (wdC ad cI cZ cL J rd pr G K tl) (fun w => ∃ K1 : SK, w = wdC ad cI cZ cL J rd pr G K1 tl ∧ wkI up lo 0 K1) := by
  refine z_of (Qc := fun A => va_Qv (fun w => ∃ K1 : SK, w = wdC ad cI cZ cL J rd pr G K1 tl ∧ wkI up lo 0 K1) (zB9 D classes (wdC ad cI cZ cL J rd pr G K tl)) A) (by decide) (Nat.le_of_ble_eq_true rfl) ?_
  intro p e s m below meth c A ls Z hP hK hD hS hA hl
  obtain ⟨hx, hb, hr, hml, hown, hts, hE, hlocks⟩ := id Z
  have hl : lv_has ls 4 [(0, .ref (ad 16)), (1, .int (iZ ((up : Nat) : Int))), (2, .int (iZ ((lo : Nat) : Int)))] := hl
  suffices K9 : ∀ (H : Heap) (locs : List Loc) (ls : Array Slot), va_P D classes (wdC ad cI cZ cL J rd pr G K tl) H → va_D A (wdC ad cI cZ cL J rd pr G K tl) → va_S A s.heap H locs → lv_has ls 4 [(0, .ref (ad 16)), (1, .int (iZ ((up : Nat) : Int))), (2, .int (iZ ((lo : Nat) : Int)))] → W p l e (zRm 0 0) s m ([.ref (ad 16), .int (iZ ((up : Nat) : Int)), .int (iZ ((lo : Nat) : Int))] : List Value).toArray below meth c H locs 0 0 (MQ below (va_Qv (fun w => ∃ K1 : SK, w = wdC ad cI cZ cL J rd pr G K1 tl ∧ wkI up lo 0 K1) (zB9 D classes (wdC ad cI cZ cL J rd pr G K tl)) A) ([.ref (ad 16), .int (iZ ((up : Nat) : Int)), .int (iZ ((lo : Nat) : Int))] : List Value).toArray s 0 0 A) (F0 m 0 ls []) from K9 s.heap [] ls hP hD hS hl
  clear hP hD hS hl
  intro H locs ls hP hD hS hl
  refine lv_iconst (v := iZ ((0 : Nat) : Int)) hx hb d_K_start_0 (by decide) ?_
  refine lv_istore_n (lv' := [(3, .int (iZ ((0 : Nat) : Int))), (0, .ref (ad 16)), (1, .int (iZ ((up : Nat) : Int))), (2, .int (iZ ((lo : Nat) : Int)))]) hx hb d_K_start_1 rfl hl (by decide) rfl (fun ls hl => ?_)
  have L2 : ∀ (N2 : Nat) (i : Nat) (wy : Nat → Nat) (H : Heap) (locs : List Loc) (ls : Array Slot), (i ≤ 33) → (∀ j, j < i → wy j = if j = lo then 1 else 0) → 33 - i < N2 → va_P D classes (wdC ad cI cZ cL J rd pr G (wy, K.2.1, K.2.2.1, K.2.2.2) tl) H → va_D A (wdC ad cI cZ cL J rd pr G (wy, K.2.1, K.2.2.1, K.2.2.2) tl) → va_S A s.heap H locs → lv_has ls 4 [(0, .ref (ad 16)), (1, .int (iZ ((up : Nat) : Int))), (2, .int (iZ ((lo : Nat) : Int))), (3, .int (iZ ((i : Nat) : Int)))] → W p l e (zRm 0 0) s m ([.ref (ad 16), .int (iZ ((up : Nat) : Int)), .int (iZ ((lo : Nat) : Int))] : List Value).toArray below meth c H locs 0 0 (MQ below (va_Qv (fun w => ∃ K1 : SK, w = wdC ad cI cZ cL J rd pr G K1 tl ∧ wkI up lo 0 K1) (zB9 D classes (wdC ad cI cZ cL J rd pr G K tl)) A) ([.ref (ad 16), .int (iZ ((up : Nat) : Int)), .int (iZ ((lo : Nat) : Int))] : List Value).toArray s 0 0 A) (F0 m 2 ls []) := by
    intro N2
    induction N2 with
    | zero =>
      intro i wy H locs ls hi hw hN2 hP hD hS hl
      exact absurd hN2 (Nat.not_lt_zero _)
    | succ N2 ih2 =>
      intro i wy H locs ls hi hw hN2 hP hD hS hl
      refine lv_iload_n hx hb d_K_start_2 rfl (lv_at hl 3 rfl) ?_
      refine lv_bipush (v := iZ ((32 : Nat) : Int)) hx hb d_K_start_3 (by decide) ?_
      refine z_icmp_gt (a := ((i : Nat) : Int)) (b := ((32 : Nat) : Int)) (tgt := 30) hx hb (by omega) d_K_start_5 (by decide) (fun q5 => ?_) (fun q5 => ?_)
      · skip
        refine lv_aload_n hx hb d_K_start_30 rfl (lv_at hl 0 rfl) ?_
        refine lv_iload_n hx hb d_K_start_31 rfl (lv_at hl 1 rfl) ?_
        refine lv_iload_n hx hb d_K_start_32 rfl (lv_at hl 2 rfl) ?_
        refine z_iaddN (u := up) (v := lo) hx hb d_K_start_33 ?_
        refine va_put (D := D) (ci := 4) (v := .int (iZ ((up + lo : Nat) : Int))) (ty := .int) (C := n_K) (T := f_K) (N := 4) hx hb hts in_K ty_K tyo_K nm_K hown hK hP hD hS 16 rfl rfl 1 (by decide) (hts _ fl_K_15) (fun _ h9 => h9) rfl (by decide +kernel) rfl rfl (Nat.le_of_ble_eq_true rfl) d_K_start_34 (fun H locs hP hD hS => ?_)
        have hP : va_P D classes (wdC ad cI cZ cL J rd pr G (wy, (up + lo), K.2.2.1, K.2.2.2) tl) H := hP
        have hD : va_D A (wdC ad cI cZ cL J rd pr G (wy, (up + lo), K.2.2.1, K.2.2.2) tl) := hD
        refine lv_aload_n hx hb d_K_start_37 rfl (lv_at hl 0 rfl) ?_
        refine lv_lconst (v := lZ ((0 : Nat) : Int)) hx hb d_K_start_38 (by decide) ?_
        refine va_put (D := D) (ci := 4) (v := .long (lZ ((0 : Nat) : Int))) (ty := .long) (C := n_K) (T := f_K) (N := 4) hx hb hts in_K ty_K tyo_K nm_K hown hK hP hD hS 16 rfl rfl 2 (by decide) (hts _ fl_K_19) (fun _ h9 => h9) rfl (by decide +kernel) rfl rfl (Nat.le_of_ble_eq_true rfl) d_K_start_39 (fun H locs hP hD hS => ?_)
        have hP : va_P D classes (wdC ad cI cZ cL J rd pr G (wy, (up + lo), 0, K.2.2.2) tl) H := hP
        have hD : va_D A (wdC ad cI cZ cL J rd pr G (wy, (up + lo), 0, K.2.2.2) tl) := hD
        refine lv_aload_n hx hb d_K_start_42 rfl (lv_at hl 0 rfl) ?_
        refine lv_lconst (v := lZ ((1 : Nat) : Int)) hx hb d_K_start_43 (by decide) ?_
        refine va_put (D := D) (ci := 4) (v := .long (lZ ((1 : Nat) : Int))) (ty := .long) (C := n_K) (T := f_K) (N := 4) hx hb hts in_K ty_K tyo_K nm_K hown hK hP hD hS 16 rfl rfl 3 (by decide) (hts _ fl_K_23) (fun _ h9 => h9) rfl (by decide +kernel) rfl rfl (Nat.le_of_ble_eq_true rfl) d_K_start_44 (fun H locs hP hD hS => ?_)
        have hP : va_P D classes (wdC ad cI cZ cL J rd pr G (wy, (up + lo), 0, 1) tl) H := hP
        have hD : va_D A (wdC ad cI cZ cL J rd pr G (wy, (up + lo), 0, 1) tl) := hD
        exact z_vret Z hP hS d_K_start_47 wdC_map (⟨_, rfl, rfl, rfl, rfl, fun j hj => hw j (by omega)⟩)
      · skip
        refine lv_aload_n hx hb d_K_start_8 rfl (lv_at hl 0 rfl) ?_
        refine va_get (D := D) (ci := 4) (v := .ref (ad 17)) (C := n_K) (T := f_K) (N := 4) hx hb hts in_K hown hK hP 16 rfl rfl 0 (by decide) (hts _ fl_K_9) (fun _ h9 => h9) rfl d_K_start_9 ?_
        refine lv_iload_n hx hb d_K_start_12 rfl (lv_at hl 3 rfl) ?_
        refine lv_iload_n hx hb d_K_start_13 rfl (lv_at hl 3 rfl) ?_
        refine lv_iload_n hx hb d_K_start_14 rfl (lv_at hl 2 rfl) ?_
        refine z_icmp_ne (a := ((i : Nat) : Int)) (b := ((lo : Nat) : Int)) (tgt := 22) hx hb (by omega) d_K_start_15 (by decide) (fun q15 => ?_) (fun q15 => ?_)
        · skip
          refine lv_lconst (v := lZ ((0 : Nat) : Int)) hx hb d_K_start_22 (by decide) ?_
          refine z_lastN (f := wy) (v := 0) hx hb hK hP hD hS 17 2 rfl rfl (i) (by omega) d_K_start_23 (fun H locs hP hD hS => ?_)
          have hP : va_P D classes (wdC ad cI cZ cL J rd pr G ((nu wy (i) 0), K.2.1, K.2.2.1, K.2.2.2) tl) H := hP
          have hD : va_D A (wdC ad cI cZ cL J rd pr G ((nu wy (i) 0), K.2.1, K.2.2.1, K.2.2.2) tl) := hD
          refine lv_iinc (v := iZ ((i + 1 : Nat) : Int)) (lv' := [(3, .int (iZ ((i + 1 : Nat) : Int))), (0, .ref (ad 16)), (1, .int (iZ ((up : Nat) : Int))), (2, .int (iZ ((lo : Nat) : Int)))]) hx hb d_K_start_24 hl (k := 3) rfl (iZ_inc (i) 1) (by decide) rfl (fun ls hl => ?_)
          refine lv_goto (tgt := 2) hx hb d_K_start_27 (by decide) ?_
          exact ih2 (i + 1) (nu wy (i) 0) H locs ls (by omega) (by
            intro j hj
            by_cases e9 : j = i
            · rw [e9, nu_s]; first | (rw [if_pos (by omega)]; done) | (rw [if_neg (by omega)]; done)
            · rw [nu_n _ _ e9]; exact hw j (by omega)) (by omega) hP hD hS (lv_sub hl [1, 2, 3, 0] rfl)
        · skip
          refine lv_lconst (v := lZ ((1 : Nat) : Int)) hx hb d_K_start_18 (by decide) ?_
          refine lv_goto (tgt := 23) hx hb d_K_start_19 (by decide) ?_
          refine z_lastN (f := wy) (v := 1) hx hb hK hP hD hS 17 2 rfl rfl (i) (by omega) d_K_start_23 (fun H locs hP hD hS => ?_)
          have hP : va_P D classes (wdC ad cI cZ cL J rd pr G ((nu wy (i) 1), K.2.1, K.2.2.1, K.2.2.2) tl) H := hP
          have hD : va_D A (wdC ad cI cZ cL J rd pr G ((nu wy (i) 1), K.2.1, K.2.2.1, K.2.2.2) tl) := hD
          refine lv_iinc (v := iZ ((i + 1 : Nat) : Int)) (lv' := [(3, .int (iZ ((i + 1 : Nat) : Int))), (0, .ref (ad 16)), (1, .int (iZ ((up : Nat) : Int))), (2, .int (iZ ((lo : Nat) : Int)))]) hx hb d_K_start_24 hl (k := 3) rfl (iZ_inc (i) 1) (by decide) rfl (fun ls hl => ?_)
          refine lv_goto (tgt := 2) hx hb d_K_start_27 (by decide) ?_
          exact ih2 (i + 1) (nu wy (i) 1) H locs ls (by omega) (by
            intro j hj
            by_cases e9 : j = i
            · rw [e9, nu_s]; first | (rw [if_pos (by omega)]; done) | (rw [if_neg (by omega)]; done)
            · rw [nu_n _ _ e9]; exact hw j (by omega)) (by omega) hP hD hS (lv_sub hl [1, 2, 3, 0] rfl)
  exact L2 (33 - 0 + 1) 0 K.1 H locs ls (Nat.zero_le _) (fun j hj => absurd hj (Nat.not_lt_zero j)) (by omega) hP hD hS (lv_sub hl [1, 2, 3, 0] rfl)

set_option maxHeartbeats 4000000 in
set_option maxRecDepth 100000 in
theorem k_K_goOn {l : Launch} {D : va_G} {ad : Nat → Nat} {cI cZ cL : ClassId} {J : SJ} {rd : Nat → Int} {pr : Nat → Nat} {G : SH} {K : SK} {tl : va_W} {up lo : Nat} (hb9 : 1 ≤ up ∧ up ≤ 16 ∧ 1 ≤ lo ∧ lo ≤ 16) {n : Nat} (hk9 : wkI up lo n K) : zMv l TB D classes (tysW cI cZ cL) y_K_goOn w_K_goOn 0 0 [.ref (ad 16)] (wdC ad cI cZ cL J rd pr G K tl) (fun w => ∃ K1 : SK, w = wdC ad cI cZ cL J rd pr G K1 tl ∧ wkI up lo (n + 1) K1) := by
  refine z_of (Qc := fun A => va_Qv (fun w => ∃ K1 : SK, w = wdC ad cI cZ cL J rd pr G K1 tl ∧ wkI up lo (n + 1) K1) (zB9 D classes (wdC ad cI cZ cL J rd pr G K tl)) A) (by decide) (Nat.le_of_ble_eq_true rfl) ?_
  intro p e s m below meth c A ls Z hP hK hD hS hA hl
  obtain ⟨hx, hb, hr, hml, hown, hts, hE, hlocks⟩ := id Z
  have hl : lv_has ls 6 [(0, .ref (ad 16))] := hl
  have ht9 := hk9.1
  suffices K9 : ∀ (H : Heap) (locs : List Loc) (ls : Array Slot), va_P D classes (wdC ad cI cZ cL J rd pr G K tl) H → va_D A (wdC ad cI cZ cL J rd pr G K tl) → va_S A s.heap H locs → lv_has ls 6 [(0, .ref (ad 16))] → W p l e (zRm 0 0) s m ([.ref (ad 16)] : List Value).toArray below meth c H locs 0 0 (MQ below (va_Qv (fun w => ∃ K1 : SK, w = wdC ad cI cZ cL J rd pr G K1 tl ∧ wkI up lo (n + 1) K1) (zB9 D classes (wdC ad cI cZ cL J rd pr G K tl)) A) ([.ref (ad 16)] : List Value).toArray s 0 0 A) (F0 m 0 ls []) from K9 s.heap [] ls hP hD hS hl
  clear hP hD hS hl
  intro H locs ls hP hD hS hl
  refine lv_aload_n hx hb d_K_goOn_0 rfl (lv_at hl 0 rfl) ?_
  refine lv_ldc2 (v := lZ ((2 : Nat) : Int)) hx hb hown (hts _ ck9_K_26) d_K_goOn_1 ?_
  refine lv_aload_n hx hb d_K_goOn_4 rfl (lv_at hl 0 rfl) ?_
  refine va_get (D := D) (ci := 4) (v := .long (lZ ((K.2.2.1 : Nat) : Int))) (C := n_K) (T := f_K) (N := 4) hx hb hts in_K hown hK hP 16 rfl rfl 2 (by decide) (hts _ fl_K_19) (fun _ h9 => h9) rfl d_K_goOn_5 ?_
  refine z_lmulN (u := 2) (v := K.2.2.1) hx hb d_K_goOn_8 ?_
  refine lv_aload_n hx hb d_K_goOn_9 rfl (lv_at hl 0 rfl) ?_
  refine va_get (D := D) (ci := 4) (v := .ref (ad 17)) (C := n_K) (T := f_K) (N := 4) hx hb hts in_K hown hK hP 16 rfl rfl 0 (by decide) (hts _ fl_K_9) (fun _ h9 => h9) rfl d_K_goOn_10 ?_
  refine lv_aload_n hx hb d_K_goOn_13 rfl (lv_at hl 0 rfl) ?_
  refine va_get (D := D) (ci := 4) (v := .int (iZ ((K.2.1 : Nat) : Int))) (C := n_K) (T := f_K) (N := 4) hx hb hts in_K hown hK hP 16 rfl rfl 1 (by decide) (hts _ fl_K_15) (fun _ h9 => h9) rfl d_K_goOn_14 ?_
  refine lv_iconst (v := iZ ((1 : Nat) : Int)) hx hb d_K_goOn_17 (by decide) ?_
  refine z_isub (a := ((K.2.1 : Nat) : Int)) (b := ((1 : Nat) : Int)) hx hb d_K_goOn_18 ?_
  refine z_laldN (f := K.1) hx hb hK hP 17 2 rfl rfl (K.2.1 - 1) (by omega) d_K_goOn_19 ?_
  refine z_laddN (u := 2 * K.2.2.1) (v := K.1 (K.2.1 - 1)) hx hb d_K_goOn_20 ?_
  refine va_put (D := D) (ci := 4) (v := .long (lZ (((2 * K.2.2.1) + (K.1 (K.2.1 - 1)) : Nat) : Int))) (ty := .long) (C := n_K) (T := f_K) (N := 4) hx hb hts in_K ty_K tyo_K nm_K hown hK hP hD hS 16 rfl rfl 2 (by decide) (hts _ fl_K_19) (fun _ h9 => h9) rfl (by decide +kernel) rfl rfl (Nat.le_of_ble_eq_true rfl) d_K_goOn_21 (fun H locs hP hD hS => ?_)
  have hP : va_P D classes (wdC ad cI cZ cL J rd pr G (K.1, K.2.1, ((2 * K.2.2.1) + (K.1 (K.2.1 - 1))), K.2.2.2) tl) H := hP
  have hD : va_D A (wdC ad cI cZ cL J rd pr G (K.1, K.2.1, ((2 * K.2.2.1) + (K.1 (K.2.1 - 1))), K.2.2.2) tl) := hD
  refine lv_aload_n hx hb d_K_goOn_24 rfl (lv_at hl 0 rfl) ?_
  refine lv_dup hx hb d_K_goOn_25 rfl ?_
  refine va_get (D := D) (ci := 4) (v := .long (lZ ((K.2.2.2 : Nat) : Int))) (C := n_K) (T := f_K) (N := 4) hx hb hts in_K hown hK hP 16 rfl rfl 3 (by decide) (hts _ fl_K_23) (fun _ h9 => h9) rfl d_K_goOn_26 ?_
  refine lv_ldc2 (v := lZ ((2 : Nat) : Int)) hx hb hown (hts _ ck9_K_26) d_K_goOn_29 ?_
  refine z_lmulN (u := K.2.2.2) (v := 2) hx hb d_K_goOn_32 ?_
  refine va_put (D := D) (ci := 4) (v := .long (lZ ((K.2.2.2 * 2 : Nat) : Int))) (ty := .long) (C := n_K) (T := f_K) (N := 4) hx hb hts in_K ty_K tyo_K nm_K hown hK hP hD hS 16 rfl rfl 3 (by decide) (hts _ fl_K_23) (fun _ h9 => h9) rfl (by decide +kernel) rfl rfl (Nat.le_of_ble_eq_true rfl) d_K_goOn_33 (fun H locs hP hD hS => ?_)
  have hP : va_P D classes (wdC ad cI cZ cL J rd pr G (K.1, K.2.1, ((2 * K.2.2.1) + (K.1 (K.2.1 - 1))), (K.2.2.2 * 2)) tl) H := hP
  have hD : va_D A (wdC ad cI cZ cL J rd pr G (K.1, K.2.1, ((2 * K.2.2.1) + (K.1 (K.2.1 - 1))), (K.2.2.2 * 2)) tl) := hD
  refine lv_lconst (v := lZ ((0 : Nat) : Int)) hx hb d_K_goOn_36 (by decide) ?_
  refine lv_lstore_n (lv' := [(1, .long (lZ ((0 : Nat) : Int))), (0, .ref (ad 16))]) hx hb d_K_goOn_37 rfl hl (by decide) rfl (fun ls hl => ?_)
  refine lv_iconst (v := iZ ((1 : Nat) : Int)) hx hb d_K_goOn_38 (by decide) ?_
  refine lv_istore_n (lv' := [(3, .int (iZ ((1 : Nat) : Int))), (1, .long (lZ ((0 : Nat) : Int))), (0, .ref (ad 16))]) hx hb d_K_goOn_39 rfl hl (by decide) rfl (fun ls hl => ?_)
  have L40 : ∀ (N40 : Nat) (i : Nat) (wy : Nat → Nat) (bl : Nat) (H : Heap) (locs : List Loc) (ls : Array Slot), (1 ≤ i ∧ i ≤ K.2.1) → (∀ j, wy j = if 1 ≤ j ∧ j < i then (if j = 1 then 0 else K.1 (j - 1)) + K.1 (j + 1) else K.1 j) → (bl = if i = 1 then 0 else K.1 (i - 1)) → K.2.1 - i < N40 → va_P D classes (wdC ad cI cZ cL J rd pr G (wy, K.2.1, ((2 * K.2.2.1) + (K.1 (K.2.1 - 1))), (K.2.2.2 * 2)) tl) H → va_D A (wdC ad cI cZ cL J rd pr G (wy, K.2.1, ((2 * K.2.2.1) + (K.1 (K.2.1 - 1))), (K.2.2.2 * 2)) tl) → va_S A s.heap H locs → lv_has ls 6 [(0, .ref (ad 16)), (1, .long (lZ ((bl : Nat) : Int))), (3, .int (iZ ((i : Nat) : Int)))] → W p l e (zRm 0 0) s m ([.ref (ad 16)] : List Value).toArray below meth c H locs 0 0 (MQ below (va_Qv (fun w => ∃ K1 : SK, w = wdC ad cI cZ cL J rd pr G K1 tl ∧ wkI up lo (n + 1) K1) (zB9 D classes (wdC ad cI cZ cL J rd pr G K tl)) A) ([.ref (ad 16)] : List Value).toArray s 0 0 A) (F0 m 40 ls []) := by
    intro N40
    induction N40 with
    | zero =>
      intro i wy bl H locs ls hi hw hbl hN40 hP hD hS hl
      exact absurd hN40 (Nat.not_lt_zero _)
    | succ N40 ih40 =>
      intro i wy bl H locs ls hi hw hbl hN40 hP hD hS hl
      refine lv_iload_n hx hb d_K_goOn_40 rfl (lv_at hl 2 rfl) ?_
      refine lv_aload_n hx hb d_K_goOn_41 rfl (lv_at hl 0 rfl) ?_
      refine va_get (D := D) (ci := 4) (v := .int (iZ ((K.2.1 : Nat) : Int))) (C := n_K) (T := f_K) (N := 4) hx hb hts in_K hown hK hP 16 rfl rfl 1 (by decide) (hts _ fl_K_15) (fun _ h9 => h9) rfl d_K_goOn_42 ?_
      refine z_icmp_ge (a := ((i : Nat) : Int)) (b := ((K.2.1 : Nat) : Int)) (tgt := 81) hx hb (by omega) d_K_goOn_45 (by decide) (fun q45 => ?_) (fun q45 => ?_)
      · skip
        exact z_vret Z hP hS d_K_goOn_81 wdC_map (⟨_, rfl, wkI_s hk9 hb9 (by rw [show K.2.1 = i from (by omega)]; exact hw)⟩)
      · skip
        refine lv_aload_n hx hb d_K_goOn_48 rfl (lv_at hl 0 rfl) ?_
        refine va_get (D := D) (ci := 4) (v := .ref (ad 17)) (C := n_K) (T := f_K) (N := 4) hx hb hts in_K hown hK hP 16 rfl rfl 0 (by decide) (hts _ fl_K_9) (fun _ h9 => h9) rfl d_K_goOn_49 ?_
        refine lv_iload_n hx hb d_K_goOn_52 rfl (lv_at hl 2 rfl) ?_
        refine z_laldN (f := wy) hx hb hK hP 17 2 rfl rfl (i) (by omega) d_K_goOn_53 ?_
        refine lv_lstore (lv' := [(4, .long (lZ ((wy (i) : Nat) : Int))), (0, .ref (ad 16)), (1, .long (lZ ((bl : Nat) : Int))), (3, .int (iZ ((i : Nat) : Int)))]) hx hb d_K_goOn_54 hl (by decide) rfl (fun ls hl => ?_)
        refine lv_aload_n hx hb d_K_goOn_56 rfl (lv_at hl 1 rfl) ?_
        refine va_get (D := D) (ci := 4) (v := .ref (ad 17)) (C := n_K) (T := f_K) (N := 4) hx hb hts in_K hown hK hP 16 rfl rfl 0 (by decide) (hts _ fl_K_9) (fun _ h9 => h9) rfl d_K_goOn_57 ?_
        refine lv_iload_n hx hb d_K_goOn_60 rfl (lv_at hl 3 rfl) ?_
        refine lv_lload_n hx hb d_K_goOn_61 rfl (lv_at hl 2 rfl) ?_
        refine lv_aload_n hx hb d_K_goOn_62 rfl (lv_at hl 1 rfl) ?_
        refine va_get (D := D) (ci := 4) (v := .ref (ad 17)) (C := n_K) (T := f_K) (N := 4) hx hb hts in_K hown hK hP 16 rfl rfl 0 (by decide) (hts _ fl_K_9) (fun _ h9 => h9) rfl d_K_goOn_63 ?_
        refine lv_iload_n hx hb d_K_goOn_66 rfl (lv_at hl 3 rfl) ?_
        refine lv_iconst (v := iZ ((1 : Nat) : Int)) hx hb d_K_goOn_67 (by decide) ?_
        refine z_iaddN (u := i) (v := 1) hx hb d_K_goOn_68 ?_
        refine z_laldN (f := wy) hx hb hK hP 17 2 rfl rfl (i + 1) (by omega) d_K_goOn_69 ?_
        refine z_laddN (u := bl) (v := wy (i + 1)) hx hb d_K_goOn_70 ?_
        refine z_lastN (f := wy) (v := bl + (wy (i + 1))) hx hb hK hP hD hS 17 2 rfl rfl (i) (by omega) d_K_goOn_71 (fun H locs hP hD hS => ?_)
        have hP : va_P D classes (wdC ad cI cZ cL J rd pr G ((nu wy (i) (bl + (wy (i + 1)))), K.2.1, ((2 * K.2.2.1) + (K.1 (K.2.1 - 1))), (K.2.2.2 * 2)) tl) H := hP
        have hD : va_D A (wdC ad cI cZ cL J rd pr G ((nu wy (i) (bl + (wy (i + 1)))), K.2.1, ((2 * K.2.2.1) + (K.1 (K.2.1 - 1))), (K.2.2.2 * 2)) tl) := hD
        refine lv_lload hx hb d_K_goOn_72 (lv_at hl 0 rfl) ?_
        refine lv_lstore_n (lv' := [(1, .long (lZ ((wy (i) : Nat) : Int))), (4, .long (lZ ((wy (i) : Nat) : Int))), (0, .ref (ad 16)), (3, .int (iZ ((i : Nat) : Int)))]) hx hb d_K_goOn_74 rfl hl (by decide) rfl (fun ls hl => ?_)
        refine lv_iinc (v := iZ ((i + 1 : Nat) : Int)) (lv' := [(3, .int (iZ ((i + 1 : Nat) : Int))), (1, .long (lZ ((wy (i) : Nat) : Int))), (4, .long (lZ ((wy (i) : Nat) : Int))), (0, .ref (ad 16))]) hx hb d_K_goOn_75 hl (k := 3) rfl (iZ_inc (i) 1) (by decide) rfl (fun ls hl => ?_)
        refine lv_goto (tgt := 40) hx hb d_K_goOn_78 (by decide) ?_
        exact ih40 (i + 1) (nu wy i (bl + wy (i + 1))) (wy i) H locs ls (by omega) (by
          intro j
          by_cases e9 : j = i
          · rw [e9, nu_s, if_pos (by omega), hw (i + 1), if_neg (by omega), hbl]
          · rw [nu_n _ _ e9, hw j]
            by_cases q9 : 1 ≤ j ∧ j < i
            · rw [if_pos q9, if_pos (show 1 ≤ j ∧ j < i + 1 by omega)]
            · rw [if_neg q9, if_neg (show ¬ (1 ≤ j ∧ j < i + 1) by omega)]) (by rw [hw i, if_neg (by omega), if_neg (by omega), show i + 1 - 1 = i from rfl]) (by omega) hP hD hS (lv_sub hl [3, 1, 0] rfl)
  exact L40 (K.2.1 - 1 + 1) 1 K.1 0 H locs ls (by omega) (fun j => by rw [if_neg (by omega)]) rfl (by omega) hP hD hS (lv_sub hl [2, 1, 0] rfl)

