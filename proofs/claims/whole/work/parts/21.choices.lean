/-! The choices. -/
set_option maxHeartbeats 4000000 in
set_option maxRecDepth 100000 in
theorem k_H_clear {l : Launch} {D : va_G} {ad : Nat → Nat} {cI cZ cL : ClassId} {J : SJ} {rd : Nat → Int} {pr : Nat → Nat} {G : SH} {K : SK} {tl : va_W} : zMv l TB D classes (tysW cI cZ cL) y_H_clear w_H_clear 0 0 [.ref (ad 11)] (wdC ad cI cZ cL J rd pr G K tl) (fun w => w = wdC ad cI cZ cL J rd pr (G.1, 0, 0, G.2.2.2.1, G.2.2.2.2.1, G.2.2.2.2.2) K tl) := by
  refine z_of (Qc := fun A => va_Qv (fun w => w = wdC ad cI cZ cL J rd pr (G.1, 0, 0, G.2.2.2.1, G.2.2.2.2.1, G.2.2.2.2.2) K tl) (zB9 D classes (wdC ad cI cZ cL J rd pr G K tl)) A) (by decide) (Nat.le_of_ble_eq_true rfl) ?_
  intro p e s m below meth c A ls Z hP hK hD hS hA hl
  obtain ⟨hx, hb, hr, hml, hown, hts, hE, hlocks⟩ := id Z
  have hl : lv_has ls 1 [(0, .ref (ad 11))] := hl
  suffices K9 : ∀ (H : Heap) (locs : List Loc) (ls : Array Slot), va_P D classes (wdC ad cI cZ cL J rd pr G K tl) H → va_D A (wdC ad cI cZ cL J rd pr G K tl) → va_S A s.heap H locs → lv_has ls 1 [(0, .ref (ad 11))] → W p l e (zRm 0 0) s m ([.ref (ad 11)] : List Value).toArray below meth c H locs 0 0 (MQ below (va_Qv (fun w => w = wdC ad cI cZ cL J rd pr (G.1, 0, 0, G.2.2.2.1, G.2.2.2.2.1, G.2.2.2.2.2) K tl) (zB9 D classes (wdC ad cI cZ cL J rd pr G K tl)) A) ([.ref (ad 11)] : List Value).toArray s 0 0 A) (F0 m 0 ls []) from K9 s.heap [] ls hP hD hS hl
  clear hP hD hS hl
  intro H locs ls hP hD hS hl
  refine lv_aload_n hx hb d_H_clear_0 rfl (lv_at hl 0 rfl) ?_
  refine lv_iconst (v := iZ ((0 : Nat) : Int)) hx hb d_H_clear_1 (by decide) ?_
  refine va_put (D := D) (ci := 3) (v := .int (iZ ((0 : Nat) : Int))) (ty := .int) (C := n_H) (T := f_H) (N := 6) hx hb hts in_H ty_H tyo_H nm_H hown hK hP hD hS 11 rfl rfl 1 (by decide) (hts _ fl_H_15) (fun _ h9 => h9) rfl (by decide +kernel) rfl rfl (Nat.le_of_ble_eq_true rfl) d_H_clear_2 (fun H locs hP hD hS => ?_)
  have hP : va_P D classes (wdC ad cI cZ cL J rd pr (G.1, 0, G.2.2.1, G.2.2.2.1, G.2.2.2.2.1, G.2.2.2.2.2) K tl) H := hP
  have hD : va_D A (wdC ad cI cZ cL J rd pr (G.1, 0, G.2.2.1, G.2.2.2.1, G.2.2.2.2.1, G.2.2.2.2.2) K tl) := hD
  refine lv_aload_n hx hb d_H_clear_5 rfl (lv_at hl 0 rfl) ?_
  refine lv_iconst (v := iZ ((0 : Nat) : Int)) hx hb d_H_clear_6 (by decide) ?_
  refine va_put (D := D) (ci := 3) (v := .int (iZ ((0 : Nat) : Int))) (ty := .int) (C := n_H) (T := f_H) (N := 6) hx hb hts in_H ty_H tyo_H nm_H hown hK hP hD hS 11 rfl rfl 2 (by decide) (hts _ fl_H_19) (fun _ h9 => h9) rfl (by decide +kernel) rfl rfl (Nat.le_of_ble_eq_true rfl) d_H_clear_7 (fun H locs hP hD hS => ?_)
  have hP : va_P D classes (wdC ad cI cZ cL J rd pr (G.1, 0, ((0 : Nat) : Int), G.2.2.2.1, G.2.2.2.2.1, G.2.2.2.2.2) K tl) H := hP
  have hD : va_D A (wdC ad cI cZ cL J rd pr (G.1, 0, ((0 : Nat) : Int), G.2.2.2.1, G.2.2.2.2.1, G.2.2.2.2.2) K tl) := hD
  exact z_vret Z hP hS d_H_clear_10 wdC_map (rfl)

set_option maxHeartbeats 4000000 in
set_option maxRecDepth 100000 in
theorem k_H_add {l : Launch} {D : va_G} {ad : Nat → Nat} {cI cZ cL : ClassId} {J : SJ} {rd : Nat → Int} {pr : Nat → Nat} {G : SH} {K : SK} {tl : va_W} {v : Nat} {bb : Bool} (hs : G.2.1 < 16) : zMv l TB D classes (tysW cI cZ cL) y_H_add w_H_add 0 0 [.ref (ad 11), .int (iZ ((v : Nat) : Int)), .int (bI (bb))] (wdC ad cI cZ cL J rd pr G K tl) (fun w => w = wdC ad cI cZ cL J rd pr (zu G.1 G.2.1 ((v : Nat) : Int), G.2.1 + 1, G.2.2.1 + (if bb = true then ((v : Nat) : Int) else 0), G.2.2.2.1, G.2.2.2.2.1, G.2.2.2.2.2) K tl) := by
  refine z_of (Qc := fun A => va_Qv (fun w => w = wdC ad cI cZ cL J rd pr (zu G.1 G.2.1 ((v : Nat) : Int), G.2.1 + 1, G.2.2.1 + (if bb = true then ((v : Nat) : Int) else 0), G.2.2.2.1, G.2.2.2.2.1, G.2.2.2.2.2) K tl) (zB9 D classes (wdC ad cI cZ cL J rd pr G K tl)) A) (by decide) (Nat.le_of_ble_eq_true rfl) ?_
  intro p e s m below meth c A ls Z hP hK hD hS hA hl
  obtain ⟨hx, hb, hr, hml, hown, hts, hE, hlocks⟩ := id Z
  have hl : lv_has ls 3 [(0, .ref (ad 11)), (1, .int (iZ ((v : Nat) : Int))), (2, .int (bI (bb)))] := hl
  suffices K9 : ∀ (H : Heap) (locs : List Loc) (ls : Array Slot), va_P D classes (wdC ad cI cZ cL J rd pr G K tl) H → va_D A (wdC ad cI cZ cL J rd pr G K tl) → va_S A s.heap H locs → lv_has ls 3 [(0, .ref (ad 11)), (1, .int (iZ ((v : Nat) : Int))), (2, .int (bI (bb)))] → W p l e (zRm 0 0) s m ([.ref (ad 11), .int (iZ ((v : Nat) : Int)), .int (bI (bb))] : List Value).toArray below meth c H locs 0 0 (MQ below (va_Qv (fun w => w = wdC ad cI cZ cL J rd pr (zu G.1 G.2.1 ((v : Nat) : Int), G.2.1 + 1, G.2.2.1 + (if bb = true then ((v : Nat) : Int) else 0), G.2.2.2.1, G.2.2.2.2.1, G.2.2.2.2.2) K tl) (zB9 D classes (wdC ad cI cZ cL J rd pr G K tl)) A) ([.ref (ad 11), .int (iZ ((v : Nat) : Int)), .int (bI (bb))] : List Value).toArray s 0 0 A) (F0 m 0 ls []) from K9 s.heap [] ls hP hD hS hl
  clear hP hD hS hl
  intro H locs ls hP hD hS hl
  refine lv_aload_n hx hb d_H_add_0 rfl (lv_at hl 0 rfl) ?_
  refine va_get (D := D) (ci := 3) (v := .int (iZ ((G.2.1 : Nat) : Int))) (C := n_H) (T := f_H) (N := 6) hx hb hts in_H hown hK hP 11 rfl rfl 1 (by decide) (hts _ fl_H_15) (fun _ h9 => h9) rfl d_H_add_1 ?_
  refine lv_bipush (v := iZ ((16 : Nat) : Int)) hx hb d_H_add_4 (by decide) ?_
  refine z_icmp_ge (a := ((G.2.1 : Nat) : Int)) (b := ((16 : Nat) : Int)) (tgt := 47) hx hb (by omega) d_H_add_6 (by decide) (fun q6 => ?_) (fun q6 => ?_)
  · skip
    exfalso; omega
  · skip
    refine lv_aload_n hx hb d_H_add_9 rfl (lv_at hl 0 rfl) ?_
    refine va_get (D := D) (ci := 3) (v := .ref (ad 12)) (C := n_H) (T := f_H) (N := 6) hx hb hts in_H hown hK hP 11 rfl rfl 0 (by decide) (hts _ fl_H_9) (fun _ h9 => h9) rfl d_H_add_10 ?_
    refine lv_aload_n hx hb d_H_add_13 rfl (lv_at hl 0 rfl) ?_
    refine va_get (D := D) (ci := 3) (v := .int (iZ ((G.2.1 : Nat) : Int))) (C := n_H) (T := f_H) (N := 6) hx hb hts in_H hown hK hP 11 rfl rfl 1 (by decide) (hts _ fl_H_15) (fun _ h9 => h9) rfl d_H_add_14 ?_
    refine lv_iload_n hx hb d_H_add_17 rfl (lv_at hl 1 rfl) ?_
    refine z_iast (f := G.1) (v := ((v : Nat) : Int)) hx hb hK hP hD hS 12 0 rfl rfl (G.2.1) (by omega) d_H_add_18 (fun H locs hP hD hS => ?_)
    have hP : va_P D classes (wdC ad cI cZ cL J rd pr ((zu G.1 (G.2.1) ((v : Nat) : Int)), G.2.1, G.2.2.1, G.2.2.2.1, G.2.2.2.2.1, G.2.2.2.2.2) K tl) H := hP
    have hD : va_D A (wdC ad cI cZ cL J rd pr ((zu G.1 (G.2.1) ((v : Nat) : Int)), G.2.1, G.2.2.1, G.2.2.2.1, G.2.2.2.2.1, G.2.2.2.2.2) K tl) := hD
    refine lv_aload_n hx hb d_H_add_19 rfl (lv_at hl 0 rfl) ?_
    refine lv_dup hx hb d_H_add_20 rfl ?_
    refine va_get (D := D) (ci := 3) (v := .int (iZ ((G.2.1 : Nat) : Int))) (C := n_H) (T := f_H) (N := 6) hx hb hts in_H hown hK hP 11 rfl rfl 1 (by decide) (hts _ fl_H_15) (fun _ h9 => h9) rfl d_H_add_21 ?_
    refine lv_iconst (v := iZ ((1 : Nat) : Int)) hx hb d_H_add_24 (by decide) ?_
    refine z_iaddN (u := G.2.1) (v := 1) hx hb d_H_add_25 ?_
    refine va_put (D := D) (ci := 3) (v := .int (iZ ((G.2.1 + 1 : Nat) : Int))) (ty := .int) (C := n_H) (T := f_H) (N := 6) hx hb hts in_H ty_H tyo_H nm_H hown hK hP hD hS 11 rfl rfl 1 (by decide) (hts _ fl_H_15) (fun _ h9 => h9) rfl (by decide +kernel) rfl rfl (Nat.le_of_ble_eq_true rfl) d_H_add_26 (fun H locs hP hD hS => ?_)
    have hP : va_P D classes (wdC ad cI cZ cL J rd pr ((zu G.1 (G.2.1) ((v : Nat) : Int)), (G.2.1 + 1), G.2.2.1, G.2.2.2.1, G.2.2.2.2.1, G.2.2.2.2.2) K tl) H := hP
    have hD : va_D A (wdC ad cI cZ cL J rd pr ((zu G.1 (G.2.1) ((v : Nat) : Int)), (G.2.1 + 1), G.2.2.1, G.2.2.2.1, G.2.2.2.2.1, G.2.2.2.2.2) K tl) := hD
    refine lv_aload_n hx hb d_H_add_29 rfl (lv_at hl 0 rfl) ?_
    refine lv_dup hx hb d_H_add_30 rfl ?_
    refine va_get (D := D) (ci := 3) (v := .int (iZ (G.2.2.1))) (C := n_H) (T := f_H) (N := 6) hx hb hts in_H hown hK hP 11 rfl rfl 2 (by decide) (hts _ fl_H_19) (fun _ h9 => h9) rfl d_H_add_31 ?_
    refine lv_iload_n hx hb d_H_add_34 rfl (lv_at hl 2 rfl) ?_
    refine z_if_eqB (b := bb) (tgt := 42) hx hb d_H_add_35 (by decide) (fun q35 => ?_) (fun q35 => ?_)
    · skip
      refine lv_iconst (v := iZ ((0 : Nat) : Int)) hx hb d_H_add_42 (by decide) ?_
      refine z_iadd (a := G.2.2.1) (b := ((0 : Nat) : Int)) hx hb d_H_add_43 ?_
      refine va_put (D := D) (ci := 3) (v := .int (iZ (G.2.2.1 + ((0 : Nat) : Int)))) (ty := .int) (C := n_H) (T := f_H) (N := 6) hx hb hts in_H ty_H tyo_H nm_H hown hK hP hD hS 11 rfl rfl 2 (by decide) (hts _ fl_H_19) (fun _ h9 => h9) rfl (by decide +kernel) rfl rfl (Nat.le_of_ble_eq_true rfl) d_H_add_44 (fun H locs hP hD hS => ?_)
      have hP : va_P D classes (wdC ad cI cZ cL J rd pr ((zu G.1 (G.2.1) ((v : Nat) : Int)), (G.2.1 + 1), (G.2.2.1 + ((0 : Nat) : Int)), G.2.2.2.1, G.2.2.2.2.1, G.2.2.2.2.2) K tl) H := hP
      have hD : va_D A (wdC ad cI cZ cL J rd pr ((zu G.1 (G.2.1) ((v : Nat) : Int)), (G.2.1 + 1), (G.2.2.1 + ((0 : Nat) : Int)), G.2.2.2.1, G.2.2.2.2.1, G.2.2.2.2.2) K tl) := hD
      exact z_vret Z hP hS d_H_add_47 wdC_map (by rw [q35]; rfl)
    · skip
      refine lv_iload_n hx hb d_H_add_38 rfl (lv_at hl 1 rfl) ?_
      refine lv_goto (tgt := 43) hx hb d_H_add_39 (by decide) ?_
      refine z_iadd (a := G.2.2.1) (b := ((v : Nat) : Int)) hx hb d_H_add_43 ?_
      refine va_put (D := D) (ci := 3) (v := .int (iZ (G.2.2.1 + ((v : Nat) : Int)))) (ty := .int) (C := n_H) (T := f_H) (N := 6) hx hb hts in_H ty_H tyo_H nm_H hown hK hP hD hS 11 rfl rfl 2 (by decide) (hts _ fl_H_19) (fun _ h9 => h9) rfl (by decide +kernel) rfl rfl (Nat.le_of_ble_eq_true rfl) d_H_add_44 (fun H locs hP hD hS => ?_)
      have hP : va_P D classes (wdC ad cI cZ cL J rd pr ((zu G.1 (G.2.1) ((v : Nat) : Int)), (G.2.1 + 1), (G.2.2.1 + ((v : Nat) : Int)), G.2.2.2.1, G.2.2.2.2.1, G.2.2.2.2.2) K tl) H := hP
      have hD : va_D A (wdC ad cI cZ cL J rd pr ((zu G.1 (G.2.1) ((v : Nat) : Int)), (G.2.1 + 1), (G.2.2.1 + ((v : Nat) : Int)), G.2.2.2.1, G.2.2.2.2.1, G.2.2.2.2.2) K tl) := hD
      exact z_vret Z hP hS d_H_add_47 wdC_map (by rw [q35]; rfl)

theorem sh_tn (n : Nat) : (iZ ((n : Nat) : Int)) = nI n := Int32.ofInt_eq_ofNat
theorem sh_63 : ∀ k, k < 64 → ((nI k).toInt64 &&& 63).toBitVec.smod 64 = BitVec.ofNat 64 k := by decide +kernel
theorem lshl_k (u : Nat) {k : Nat} (h : k < 62) : lZ ((u : Nat) : Int) <<< ((iZ ((k : Nat) : Int)).toInt64 &&& 63) = lZ ((u * 2 ^ k : Nat) : Int) := by
  rw [sh_tn]
  apply Int64.toBitVec_inj.mp
  show (lZ ((u : Nat) : Int)).toBitVec <<< (((nI k).toInt64 &&& 63).toBitVec.smod 64) = (lZ ((u * 2 ^ k : Nat) : Int)).toBitVec
  rw [sh_63 k (by omega)]
  show BitVec.ofInt 64 ((u : Nat) : Int) <<< BitVec.ofNat 64 k = BitVec.ofInt 64 ((u * 2 ^ k : Nat) : Int)
  rw [BitVec.ofInt_natCast, BitVec.ofInt_natCast]
  apply BitVec.eq_of_toNat_eq
  rw [BitVec.shiftLeft_eq', BitVec.toNat_shiftLeft, BitVec.toNat_ofNat, BitVec.toNat_ofNat, BitVec.toNat_ofNat, Nat.mod_eq_of_lt (show k < 2 ^ 64 by omega), Nat.shiftLeft_eq, Nat.mod_mul_mod]
theorem lshl_1 {k : Nat} (h : k < 62) : lZ ((1 : Nat) : Int) <<< ((iZ ((k : Nat) : Int)).toInt64 &&& 63) = lZ ((2 ^ k : Nat) : Int) := by
  rw [lshl_k 1 h, Nat.one_mul]
set_option maxHeartbeats 4000000 in
set_option maxRecDepth 100000 in
theorem k_H_countAll {l : Launch} {D : va_G} {ad : Nat → Nat} {cI cZ cL : ClassId} {J : SJ} {rd : Nat → Int} {pr : Nat → Nat} {G : SH} {K : SK} {tl : va_W} (hs : G.2.1 ≤ 16) : zMr l TB D classes (tysW cI cZ cL) y_H_countAll w_H_countAll 0 0 [.ref (ad 11)] (wdC ad cI cZ cL J rd pr G K tl) (some (.long (lZ ((2 ^ G.2.1 : Nat) : Int)))) := by
  refine z_ofR (by decide) (Nat.le_of_ble_eq_true rfl) ?_
  intro p e s m below meth c ls Z hP hK hl
  obtain ⟨hx, hb, hr, hml, hown, hts, hE, hlocks⟩ := id Z
  have hl : lv_has ls 1 [(0, .ref (ad 11))] := hl
  refine lv_lconst (v := lZ ((1 : Nat) : Int)) hx hb d_H_countAll_0 (by decide) ?_
  refine lv_aload_n hx hb d_H_countAll_1 rfl (lv_at hl 0 rfl) ?_
  refine va_get (D := D) (ci := 3) (v := .int (iZ ((G.2.1 : Nat) : Int))) (C := n_H) (T := f_H) (N := 6) hx hb hts in_H hown hK hP 11 rfl rfl 1 (by decide) (hts _ fl_H_15) (fun _ h9 => h9) rfl d_H_countAll_2 ?_
  refine lv_lshl (v := lZ ((2 ^ G.2.1 : Nat) : Int)) hx hb d_H_countAll_5 (lshl_1 (by omega)) ?_
  exact z_lretR Z d_H_countAll_6 (rfl)

set_option maxHeartbeats 4000000 in
set_option maxRecDepth 100000 in
theorem k_H_addWeight_lo {l : Launch} {D : va_G} {ad : Nat → Nat} {cI cZ cL : ClassId} {J : SJ} {rd : Nat → Int} {pr : Nat → Nat} {G : SH} {K : SK} {tl : va_W} {cnt : Nat} {wg M : Int} (hc : cnt ≤ 128 ∧ 0 ≤ wg ∧ wg ≤ 1000 ∧ 0 ≤ M ∧ M ≤ 15000) (hO : su_O (G.2.2.2.1) cnt) (hb0 : ∀ j, j < cnt → 0 ≤ G.2.2.2.1 j ∧ G.2.2.2.1 j ≤ M) : zMv l TB D classes (tysW cI cZ cL) y_H_addWeight w_H_addWeight 1 60 [.ref (ad 11), .ref (ad 13), .int (iZ ((cnt : Nat) : Int)), .int (iZ (wg))] (wdC ad cI cZ cL J rd pr G K tl) (fun w => ∃ (L sq : Nat → Int), w = wdC ad cI cZ cL J rd pr (G.1, G.2.1, G.2.2.1, L, G.2.2.2.2.1, sq) K tl ∧ su_O L (2 * cnt) ∧ (∀ j, j < 2 * cnt → 0 ≤ L j ∧ L j ≤ M + 1000) ∧ (∀ f : Int → Nat, su_to (fun j => f (L j)) (2 * cnt) = su_to (fun j => f (G.2.2.2.1 j)) cnt + su_to (fun j => f (G.2.2.2.1 j + wg)) cnt)) := by
  refine z_of (Qc := fun A => va_Qv (fun w => ∃ (L sq : Nat → Int), w = wdC ad cI cZ cL J rd pr (G.1, G.2.1, G.2.2.1, L, G.2.2.2.2.1, sq) K tl ∧ su_O L (2 * cnt) ∧ (∀ j, j < 2 * cnt → 0 ≤ L j ∧ L j ≤ M + 1000) ∧ (∀ f : Int → Nat, su_to (fun j => f (L j)) (2 * cnt) = su_to (fun j => f (G.2.2.2.1 j)) cnt + su_to (fun j => f (G.2.2.2.1 j + wg)) cnt)) (zB9 D classes (wdC ad cI cZ cL J rd pr G K tl)) A) (by decide) (Nat.le_of_ble_eq_true rfl) ?_
  intro p e s m below meth c A ls Z hP hK hD hS hA hl
  obtain ⟨hx, hb, hr, hml, hown, hts, hE, hlocks⟩ := id Z
  have hl : lv_has ls 8 [(0, .ref (ad 11)), (1, .ref (ad 13)), (2, .int (iZ ((cnt : Nat) : Int))), (3, .int (iZ (wg)))] := hl
  have hSO : su_O (icp (G.2.2.2.1) (G.2.2.2.2.2) cnt) cnt := su_O_congr hO (fun j hj => icp_lt hj)
  have hSb : ∀ j, j < cnt → 0 ≤ (icp (G.2.2.2.1) (G.2.2.2.2.2) cnt) j ∧ (icp (G.2.2.2.1) (G.2.2.2.2.2) cnt) j ≤ M := fun j hj => by rw [icp_lt hj]; exact hb0 j hj
  suffices K9 : ∀ (H : Heap) (locs : List Loc) (ls : Array Slot), va_P D classes (wdC ad cI cZ cL J rd pr G K tl) H → va_D A (wdC ad cI cZ cL J rd pr G K tl) → va_S A s.heap H locs → lv_has ls 8 [(0, .ref (ad 11)), (1, .ref (ad 13)), (2, .int (iZ ((cnt : Nat) : Int))), (3, .int (iZ (wg)))] → W p l e (zRm 1 60) s m ([.ref (ad 11), .ref (ad 13), .int (iZ ((cnt : Nat) : Int)), .int (iZ (wg))] : List Value).toArray below meth c H locs 0 0 (MQ below (va_Qv (fun w => ∃ (L sq : Nat → Int), w = wdC ad cI cZ cL J rd pr (G.1, G.2.1, G.2.2.1, L, G.2.2.2.2.1, sq) K tl ∧ su_O L (2 * cnt) ∧ (∀ j, j < 2 * cnt → 0 ≤ L j ∧ L j ≤ M + 1000) ∧ (∀ f : Int → Nat, su_to (fun j => f (L j)) (2 * cnt) = su_to (fun j => f (G.2.2.2.1 j)) cnt + su_to (fun j => f (G.2.2.2.1 j + wg)) cnt)) (zB9 D classes (wdC ad cI cZ cL J rd pr G K tl)) A) ([.ref (ad 11), .ref (ad 13), .int (iZ ((cnt : Nat) : Int)), .int (iZ (wg))] : List Value).toArray s 0 0 A) (F0 m 0 ls []) from K9 s.heap [] ls hP hD hS hl
  clear hP hD hS hl
  intro H locs ls hP hD hS hl
  refine lv_aload_n hx hb d_H_addWeight_0 rfl (lv_at hl 1 rfl) ?_
  refine lv_iconst (v := iZ ((0 : Nat) : Int)) hx hb d_H_addWeight_1 (by decide) ?_
  refine lv_aload_n hx hb d_H_addWeight_2 rfl (lv_at hl 0 rfl) ?_
  refine va_get (D := D) (ci := 3) (v := .ref (ad 15)) (C := n_H) (T := f_H) (N := 6) hx hb hts in_H hown hK hP 11 rfl rfl 5 (by decide) (hts _ fl_H_28) (fun _ h9 => h9) rfl d_H_addWeight_3 ?_
  refine lv_iconst (v := iZ ((0 : Nat) : Int)) hx hb d_H_addWeight_6 (by decide) ?_
  refine lv_iload_n hx hb d_H_addWeight_7 rfl (lv_at hl 2 rfl) ?_
  refine z_copyi Z hl.1 (idx := 39) ml9_H_39 ini_System hK hP hD hS 13 15 0 rfl rfl rfl (n := cnt) (by omega) (Nat.le_of_ble_eq_true rfl) (Nat.le_of_ble_eq_true rfl) d_H_addWeight_8 (fun H locs hP hD hS => ?_)
  have hP : va_P D classes (wdC ad cI cZ cL J rd pr (G.1, G.2.1, G.2.2.1, G.2.2.2.1, G.2.2.2.2.1, (icp (G.2.2.2.1) (G.2.2.2.2.2) cnt)) K tl) H := hP
  have hD : va_D A (wdC ad cI cZ cL J rd pr (G.1, G.2.1, G.2.2.1, G.2.2.2.1, G.2.2.2.2.1, (icp (G.2.2.2.1) (G.2.2.2.2.2) cnt)) K tl) := hD
  refine lv_iconst (v := iZ ((0 : Nat) : Int)) hx hb d_H_addWeight_11 (by decide) ?_
  refine lv_istore (lv' := [(4, .int (iZ ((0 : Nat) : Int))), (0, .ref (ad 11)), (1, .ref (ad 13)), (2, .int (iZ ((cnt : Nat) : Int))), (3, .int (iZ (wg)))]) hx hb d_H_addWeight_12 hl (by decide) rfl (fun ls hl => ?_)
  refine lv_iconst (v := iZ ((0 : Nat) : Int)) hx hb d_H_addWeight_14 (by decide) ?_
  refine lv_istore (lv' := [(5, .int (iZ ((0 : Nat) : Int))), (4, .int (iZ ((0 : Nat) : Int))), (0, .ref (ad 11)), (1, .ref (ad 13)), (2, .int (iZ ((cnt : Nat) : Int))), (3, .int (iZ (wg)))]) hx hb d_H_addWeight_15 hl (by decide) rfl (fun ls hl => ?_)
  refine lv_iconst (v := iZ ((0 : Nat) : Int)) hx hb d_H_addWeight_17 (by decide) ?_
  refine lv_istore (lv' := [(6, .int (iZ ((0 : Nat) : Int))), (5, .int (iZ ((0 : Nat) : Int))), (4, .int (iZ ((0 : Nat) : Int))), (0, .ref (ad 11)), (1, .ref (ad 13)), (2, .int (iZ ((cnt : Nat) : Int))), (3, .int (iZ (wg)))]) hx hb d_H_addWeight_18 hl (by decide) rfl (fun ls hl => ?_)
  have L20 : ∀ (N20 : Nat) (wo : Nat) (wi : Nat) (L : Nat → Int) (H : Heap) (locs : List Loc) (ls : Array Slot), (wo ≤ cnt ∧ wi ≤ cnt) → (su_M (icp (G.2.2.2.1) (G.2.2.2.2.2) cnt) wg cnt wo wi (M + 1000) L) → 2 * cnt - (wo + wi) < N20 → va_P D classes (wdC ad cI cZ cL J rd pr (G.1, G.2.1, G.2.2.1, L, G.2.2.2.2.1, (icp (G.2.2.2.1) (G.2.2.2.2.2) cnt)) K tl) H → va_D A (wdC ad cI cZ cL J rd pr (G.1, G.2.1, G.2.2.1, L, G.2.2.2.2.1, (icp (G.2.2.2.1) (G.2.2.2.2.2) cnt)) K tl) → va_S A s.heap H locs → lv_has ls 8 [(0, .ref (ad 11)), (1, .ref (ad 13)), (2, .int (iZ ((cnt : Nat) : Int))), (3, .int (iZ (wg))), (4, .int (iZ ((wo : Nat) : Int))), (5, .int (iZ ((wi : Nat) : Int))), (6, .int (iZ ((wo + wi : Nat) : Int)))] → W p l e (zRm 1 60) s m ([.ref (ad 11), .ref (ad 13), .int (iZ ((cnt : Nat) : Int)), .int (iZ (wg))] : List Value).toArray below meth c H locs 0 0 (MQ below (va_Qv (fun w => ∃ (L sq : Nat → Int), w = wdC ad cI cZ cL J rd pr (G.1, G.2.1, G.2.2.1, L, G.2.2.2.2.1, sq) K tl ∧ su_O L (2 * cnt) ∧ (∀ j, j < 2 * cnt → 0 ≤ L j ∧ L j ≤ M + 1000) ∧ (∀ f : Int → Nat, su_to (fun j => f (L j)) (2 * cnt) = su_to (fun j => f (G.2.2.2.1 j)) cnt + su_to (fun j => f (G.2.2.2.1 j + wg)) cnt)) (zB9 D classes (wdC ad cI cZ cL J rd pr G K tl)) A) ([.ref (ad 11), .ref (ad 13), .int (iZ ((cnt : Nat) : Int)), .int (iZ (wg))] : List Value).toArray s 0 0 A) (F0 m 20 ls []) := by
    intro N20
    induction N20 with
    | zero =>
      intro wo wi L H locs ls hw hM hN20 hP hD hS hl
      exact absurd hN20 (Nat.not_lt_zero _)
    | succ N20 ih20 =>
      intro wo wi L H locs ls hw hM hN20 hP hD hS hl
      refine lv_iload hx hb d_H_addWeight_20 (lv_at hl 6 rfl) ?_
      refine lv_iconst (v := iZ ((2 : Nat) : Int)) hx hb d_H_addWeight_22 (by decide) ?_
      refine lv_iload_n hx hb d_H_addWeight_23 rfl (lv_at hl 2 rfl) ?_
      refine z_imulN (u := 2) (v := cnt) hx hb d_H_addWeight_24 ?_
      refine z_icmp_ge (a := ((wo + wi : Nat) : Int)) (b := ((2 * cnt : Nat) : Int)) (tgt := 110) hx hb (by omega) d_H_addWeight_25 (by decide) (fun q25 => ?_) (fun q25 => ?_)
      · skip
        exact z_vret Z hP hS d_H_addWeight_110 wdC_map (by obtain ⟨m1, m2, m3, m4⟩ := hM; have e1 : wo = cnt := (by omega); have e2 : wi = cnt := (by omega); rw [e1, e2, show cnt + cnt = 2 * cnt from (by omega)] at m1 m2 m4; exact ⟨L, _, rfl, m2, m4, fun f => by rw [m1 f, su_to_congr cnt (fun j hj => by rw [icp_lt hj]), su_to_congr (g := fun j => f ((icp (G.2.2.2.1) (G.2.2.2.2.2) cnt) j + wg)) cnt (fun j hj => by rw [icp_lt hj])]⟩)
      · skip
        refine lv_iload hx hb d_H_addWeight_28 (lv_at hl 5 rfl) ?_
        refine lv_iload_n hx hb d_H_addWeight_30 rfl (lv_at hl 2 rfl) ?_
        refine z_icmp_ge (a := ((wi : Nat) : Int)) (b := ((cnt : Nat) : Int)) (tgt := 59) hx hb (by omega) d_H_addWeight_31 (by decide) (fun q31 => ?_) (fun q31 => ?_)
        · skip
          refine lv_iconst (v := iZ ((1 : Nat) : Int)) hx hb d_H_addWeight_59 (by decide) ?_
          refine lv_goto (tgt := 64) hx hb d_H_addWeight_60 (by decide) ?_
          refine lv_istore (lv' := [(7, .int (iZ ((1 : Nat) : Int))), (0, .ref (ad 11)), (1, .ref (ad 13)), (2, .int (iZ ((cnt : Nat) : Int))), (3, .int (iZ (wg))), (4, .int (iZ ((wo : Nat) : Int))), (5, .int (iZ ((wi : Nat) : Int))), (6, .int (iZ ((wo + wi : Nat) : Int)))]) hx hb d_H_addWeight_64 hl (by decide) rfl (fun ls hl => ?_)
          refine lv_iload hx hb d_H_addWeight_66 (lv_at hl 0 rfl) ?_
          refine z_if_eq (a := ((1 : Nat) : Int)) (tgt := 88) hx hb (by omega) d_H_addWeight_68 (by decide) (fun q68 => ?_) (fun q68 => ?_)
          · skip
            exfalso; omega
          · skip
            refine lv_aload_n hx hb d_H_addWeight_71 rfl (lv_at hl 2 rfl) ?_
            refine lv_iload hx hb d_H_addWeight_72 (lv_at hl 7 rfl) ?_
            refine lv_aload_n hx hb d_H_addWeight_74 rfl (lv_at hl 1 rfl) ?_
            refine va_get (D := D) (ci := 3) (v := .ref (ad 15)) (C := n_H) (T := f_H) (N := 6) hx hb hts in_H hown hK hP 11 rfl rfl 5 (by decide) (hts _ fl_H_28) (fun _ h9 => h9) rfl d_H_addWeight_75 ?_
            refine lv_iload hx hb d_H_addWeight_78 (lv_at hl 5 rfl) ?_
            have hb3 := hSb wo (by omega)
            refine z_iald (f := (icp (G.2.2.2.1) (G.2.2.2.2.2) cnt)) hx hb hK hP 15 0 rfl rfl (wo) (by omega) d_H_addWeight_80 ?_
            refine z_iast (f := L) (v := (icp (G.2.2.2.1) (G.2.2.2.2.2) cnt) (wo)) hx hb hK hP hD hS 13 0 rfl rfl (wo + wi) (by omega) d_H_addWeight_81 (fun H locs hP hD hS => ?_)
            have hP : va_P D classes (wdC ad cI cZ cL J rd pr (G.1, G.2.1, G.2.2.1, (zu L (wo + wi) ((icp (G.2.2.2.1) (G.2.2.2.2.2) cnt) (wo))), G.2.2.2.2.1, (icp (G.2.2.2.1) (G.2.2.2.2.2) cnt)) K tl) H := hP
            have hD : va_D A (wdC ad cI cZ cL J rd pr (G.1, G.2.1, G.2.2.1, (zu L (wo + wi) ((icp (G.2.2.2.1) (G.2.2.2.2.2) cnt) (wo))), G.2.2.2.2.1, (icp (G.2.2.2.1) (G.2.2.2.2.2) cnt)) K tl) := hD
            refine lv_iinc (v := iZ ((wo + 1 : Nat) : Int)) (lv' := [(4, .int (iZ ((wo + 1 : Nat) : Int))), (7, .int (iZ ((1 : Nat) : Int))), (0, .ref (ad 11)), (1, .ref (ad 13)), (2, .int (iZ ((cnt : Nat) : Int))), (3, .int (iZ (wg))), (5, .int (iZ ((wi : Nat) : Int))), (6, .int (iZ ((wo + wi : Nat) : Int)))]) hx hb d_H_addWeight_82 hl (k := 5) rfl (iZ_inc (wo) 1) (by decide) rfl (fun ls hl => ?_)
            refine lv_goto (tgt := 104) hx hb d_H_addWeight_85 (by decide) ?_
            refine lv_iinc (v := iZ ((wo + wi + 1 : Nat) : Int)) (lv' := [(6, .int (iZ ((wo + wi + 1 : Nat) : Int))), (4, .int (iZ ((wo + 1 : Nat) : Int))), (7, .int (iZ ((1 : Nat) : Int))), (0, .ref (ad 11)), (1, .ref (ad 13)), (2, .int (iZ ((cnt : Nat) : Int))), (3, .int (iZ (wg))), (5, .int (iZ ((wi : Nat) : Int)))]) hx hb d_H_addWeight_104 hl (k := 7) rfl (iZ_inc (wo + wi) 1) (by decide) rfl (fun ls hl => ?_)
            refine lv_goto (tgt := 20) hx hb d_H_addWeight_107 (by decide) ?_
            exact ih20 (wo + 1) wi (zu L (wo + wi) ((icp (G.2.2.2.1) (G.2.2.2.2.2) cnt) wo)) H locs ls (by omega) (su_M_a hM hSO (by omega) (fun z => by omega) (by have := hSb wo (by omega); omega)) (by omega) hP hD hS (lv_sub hl [3, 4, 5, 6, 1, 7, 0] (by rw [show ((wo + 1) + wi) = (wo + wi + 1) from by omega]; rfl))
        · skip
          refine lv_iload hx hb d_H_addWeight_34 (lv_at hl 4 rfl) ?_
          refine lv_iload_n hx hb d_H_addWeight_36 rfl (lv_at hl 2 rfl) ?_
          refine z_icmp_ge (a := ((wo : Nat) : Int)) (b := ((cnt : Nat) : Int)) (tgt := 63) hx hb (by omega) d_H_addWeight_37 (by decide) (fun q37 => ?_) (fun q37 => ?_)
          · skip
            refine lv_iconst (v := iZ ((0 : Nat) : Int)) hx hb d_H_addWeight_63 (by decide) ?_
            refine lv_istore (lv' := [(7, .int (iZ ((0 : Nat) : Int))), (0, .ref (ad 11)), (1, .ref (ad 13)), (2, .int (iZ ((cnt : Nat) : Int))), (3, .int (iZ (wg))), (4, .int (iZ ((wo : Nat) : Int))), (5, .int (iZ ((wi : Nat) : Int))), (6, .int (iZ ((wo + wi : Nat) : Int)))]) hx hb d_H_addWeight_64 hl (by decide) rfl (fun ls hl => ?_)
            refine lv_iload hx hb d_H_addWeight_66 (lv_at hl 0 rfl) ?_
            refine z_if_eq (a := ((0 : Nat) : Int)) (tgt := 88) hx hb (by omega) d_H_addWeight_68 (by decide) (fun q68 => ?_) (fun q68 => ?_)
            · skip
              refine lv_aload_n hx hb d_H_addWeight_88 rfl (lv_at hl 2 rfl) ?_
              refine lv_iload hx hb d_H_addWeight_89 (lv_at hl 7 rfl) ?_
              refine lv_aload_n hx hb d_H_addWeight_91 rfl (lv_at hl 1 rfl) ?_
              refine va_get (D := D) (ci := 3) (v := .ref (ad 15)) (C := n_H) (T := f_H) (N := 6) hx hb hts in_H hown hK hP 11 rfl rfl 5 (by decide) (hts _ fl_H_28) (fun _ h9 => h9) rfl d_H_addWeight_92 ?_
              refine lv_iload hx hb d_H_addWeight_95 (lv_at hl 6 rfl) ?_
              have hb4 := hSb wi (by omega)
              refine z_iald (f := (icp (G.2.2.2.1) (G.2.2.2.2.2) cnt)) hx hb hK hP 15 0 rfl rfl (wi) (by omega) d_H_addWeight_97 ?_
              refine lv_iload_n hx hb d_H_addWeight_98 rfl (lv_at hl 4 rfl) ?_
              refine z_iadd (a := (icp (G.2.2.2.1) (G.2.2.2.2.2) cnt) (wi)) (b := wg) hx hb d_H_addWeight_99 ?_
              refine z_iast (f := L) (v := ((icp (G.2.2.2.1) (G.2.2.2.2.2) cnt) (wi)) + wg) hx hb hK hP hD hS 13 0 rfl rfl (wo + wi) (by omega) d_H_addWeight_100 (fun H locs hP hD hS => ?_)
              have hP : va_P D classes (wdC ad cI cZ cL J rd pr (G.1, G.2.1, G.2.2.1, (zu L (wo + wi) (((icp (G.2.2.2.1) (G.2.2.2.2.2) cnt) (wi)) + wg)), G.2.2.2.2.1, (icp (G.2.2.2.1) (G.2.2.2.2.2) cnt)) K tl) H := hP
              have hD : va_D A (wdC ad cI cZ cL J rd pr (G.1, G.2.1, G.2.2.1, (zu L (wo + wi) (((icp (G.2.2.2.1) (G.2.2.2.2.2) cnt) (wi)) + wg)), G.2.2.2.2.1, (icp (G.2.2.2.1) (G.2.2.2.2.2) cnt)) K tl) := hD
              refine lv_iinc (v := iZ ((wi + 1 : Nat) : Int)) (lv' := [(5, .int (iZ ((wi + 1 : Nat) : Int))), (7, .int (iZ ((0 : Nat) : Int))), (0, .ref (ad 11)), (1, .ref (ad 13)), (2, .int (iZ ((cnt : Nat) : Int))), (3, .int (iZ (wg))), (4, .int (iZ ((wo : Nat) : Int))), (6, .int (iZ ((wo + wi : Nat) : Int)))]) hx hb d_H_addWeight_101 hl (k := 6) rfl (iZ_inc (wi) 1) (by decide) rfl (fun ls hl => ?_)
              refine lv_iinc (v := iZ ((wo + wi + 1 : Nat) : Int)) (lv' := [(6, .int (iZ ((wo + wi + 1 : Nat) : Int))), (5, .int (iZ ((wi + 1 : Nat) : Int))), (7, .int (iZ ((0 : Nat) : Int))), (0, .ref (ad 11)), (1, .ref (ad 13)), (2, .int (iZ ((cnt : Nat) : Int))), (3, .int (iZ (wg))), (4, .int (iZ ((wo : Nat) : Int)))]) hx hb d_H_addWeight_104 hl (k := 7) rfl (iZ_inc (wo + wi) 1) (by decide) rfl (fun ls hl => ?_)
              refine lv_goto (tgt := 20) hx hb d_H_addWeight_107 (by decide) ?_
              exact ih20 wo (wi + 1) (zu L (wo + wi) ((icp (G.2.2.2.1) (G.2.2.2.2.2) cnt) wi + wg)) H locs ls (by omega) (su_M_b hM hSO (by omega) (fun z => by omega) (by have := hSb wi (by omega); omega)) (by omega) hP hD hS (lv_sub hl [3, 4, 5, 6, 7, 1, 0] (by rw [show (wo + (wi + 1)) = (wo + wi + 1) from by omega]; rfl))
            · skip
              exfalso; omega
          · skip
            refine lv_aload_n hx hb d_H_addWeight_40 rfl (lv_at hl 0 rfl) ?_
            refine va_get (D := D) (ci := 3) (v := .ref (ad 15)) (C := n_H) (T := f_H) (N := 6) hx hb hts in_H hown hK hP 11 rfl rfl 5 (by decide) (hts _ fl_H_28) (fun _ h9 => h9) rfl d_H_addWeight_41 ?_
            refine lv_iload hx hb d_H_addWeight_44 (lv_at hl 4 rfl) ?_
            have hb1 := hSb wo (by omega)
            refine z_iald (f := (icp (G.2.2.2.1) (G.2.2.2.2.2) cnt)) hx hb hK hP 15 0 rfl rfl (wo) (by omega) d_H_addWeight_46 ?_
            refine lv_aload_n hx hb d_H_addWeight_47 rfl (lv_at hl 0 rfl) ?_
            refine va_get (D := D) (ci := 3) (v := .ref (ad 15)) (C := n_H) (T := f_H) (N := 6) hx hb hts in_H hown hK hP 11 rfl rfl 5 (by decide) (hts _ fl_H_28) (fun _ h9 => h9) rfl d_H_addWeight_48 ?_
            refine lv_iload hx hb d_H_addWeight_51 (lv_at hl 5 rfl) ?_
            have hb2 := hSb wi (by omega)
            refine z_iald (f := (icp (G.2.2.2.1) (G.2.2.2.2.2) cnt)) hx hb hK hP 15 0 rfl rfl (wi) (by omega) d_H_addWeight_53 ?_
            refine lv_iload_n hx hb d_H_addWeight_54 rfl (lv_at hl 3 rfl) ?_
            refine z_iadd (a := (icp (G.2.2.2.1) (G.2.2.2.2.2) cnt) (wi)) (b := wg) hx hb d_H_addWeight_55 ?_
            refine z_icmp_gt (a := (icp (G.2.2.2.1) (G.2.2.2.2.2) cnt) (wo)) (b := ((icp (G.2.2.2.1) (G.2.2.2.2.2) cnt) (wi)) + wg) (tgt := 63) hx hb (by omega) d_H_addWeight_56 (by decide) (fun q56 => ?_) (fun q56 => ?_)
            · skip
              refine lv_iconst (v := iZ ((0 : Nat) : Int)) hx hb d_H_addWeight_63 (by decide) ?_
              refine lv_istore (lv' := [(7, .int (iZ ((0 : Nat) : Int))), (0, .ref (ad 11)), (1, .ref (ad 13)), (2, .int (iZ ((cnt : Nat) : Int))), (3, .int (iZ (wg))), (4, .int (iZ ((wo : Nat) : Int))), (5, .int (iZ ((wi : Nat) : Int))), (6, .int (iZ ((wo + wi : Nat) : Int)))]) hx hb d_H_addWeight_64 hl (by decide) rfl (fun ls hl => ?_)
              refine lv_iload hx hb d_H_addWeight_66 (lv_at hl 0 rfl) ?_
              refine z_if_eq (a := ((0 : Nat) : Int)) (tgt := 88) hx hb (by omega) d_H_addWeight_68 (by decide) (fun q68 => ?_) (fun q68 => ?_)
              · skip
                refine lv_aload_n hx hb d_H_addWeight_88 rfl (lv_at hl 2 rfl) ?_
                refine lv_iload hx hb d_H_addWeight_89 (lv_at hl 7 rfl) ?_
                refine lv_aload_n hx hb d_H_addWeight_91 rfl (lv_at hl 1 rfl) ?_
                refine va_get (D := D) (ci := 3) (v := .ref (ad 15)) (C := n_H) (T := f_H) (N := 6) hx hb hts in_H hown hK hP 11 rfl rfl 5 (by decide) (hts _ fl_H_28) (fun _ h9 => h9) rfl d_H_addWeight_92 ?_
                refine lv_iload hx hb d_H_addWeight_95 (lv_at hl 6 rfl) ?_
                have hb4 := hSb wi (by omega)
                refine z_iald (f := (icp (G.2.2.2.1) (G.2.2.2.2.2) cnt)) hx hb hK hP 15 0 rfl rfl (wi) (by omega) d_H_addWeight_97 ?_
                refine lv_iload_n hx hb d_H_addWeight_98 rfl (lv_at hl 4 rfl) ?_
                refine z_iadd (a := (icp (G.2.2.2.1) (G.2.2.2.2.2) cnt) (wi)) (b := wg) hx hb d_H_addWeight_99 ?_
                refine z_iast (f := L) (v := ((icp (G.2.2.2.1) (G.2.2.2.2.2) cnt) (wi)) + wg) hx hb hK hP hD hS 13 0 rfl rfl (wo + wi) (by omega) d_H_addWeight_100 (fun H locs hP hD hS => ?_)
                have hP : va_P D classes (wdC ad cI cZ cL J rd pr (G.1, G.2.1, G.2.2.1, (zu L (wo + wi) (((icp (G.2.2.2.1) (G.2.2.2.2.2) cnt) (wi)) + wg)), G.2.2.2.2.1, (icp (G.2.2.2.1) (G.2.2.2.2.2) cnt)) K tl) H := hP
                have hD : va_D A (wdC ad cI cZ cL J rd pr (G.1, G.2.1, G.2.2.1, (zu L (wo + wi) (((icp (G.2.2.2.1) (G.2.2.2.2.2) cnt) (wi)) + wg)), G.2.2.2.2.1, (icp (G.2.2.2.1) (G.2.2.2.2.2) cnt)) K tl) := hD
                refine lv_iinc (v := iZ ((wi + 1 : Nat) : Int)) (lv' := [(5, .int (iZ ((wi + 1 : Nat) : Int))), (7, .int (iZ ((0 : Nat) : Int))), (0, .ref (ad 11)), (1, .ref (ad 13)), (2, .int (iZ ((cnt : Nat) : Int))), (3, .int (iZ (wg))), (4, .int (iZ ((wo : Nat) : Int))), (6, .int (iZ ((wo + wi : Nat) : Int)))]) hx hb d_H_addWeight_101 hl (k := 6) rfl (iZ_inc (wi) 1) (by decide) rfl (fun ls hl => ?_)
                refine lv_iinc (v := iZ ((wo + wi + 1 : Nat) : Int)) (lv' := [(6, .int (iZ ((wo + wi + 1 : Nat) : Int))), (5, .int (iZ ((wi + 1 : Nat) : Int))), (7, .int (iZ ((0 : Nat) : Int))), (0, .ref (ad 11)), (1, .ref (ad 13)), (2, .int (iZ ((cnt : Nat) : Int))), (3, .int (iZ (wg))), (4, .int (iZ ((wo : Nat) : Int)))]) hx hb d_H_addWeight_104 hl (k := 7) rfl (iZ_inc (wo + wi) 1) (by decide) rfl (fun ls hl => ?_)
                refine lv_goto (tgt := 20) hx hb d_H_addWeight_107 (by decide) ?_
                exact ih20 wo (wi + 1) (zu L (wo + wi) ((icp (G.2.2.2.1) (G.2.2.2.2.2) cnt) wi + wg)) H locs ls (by omega) (su_M_b hM hSO (by omega) (fun z => by omega) (by have := hSb wi (by omega); omega)) (by omega) hP hD hS (lv_sub hl [3, 4, 5, 6, 7, 1, 0] (by rw [show (wo + (wi + 1)) = (wo + wi + 1) from by omega]; rfl))
              · skip
                exfalso; omega
            · skip
              refine lv_iconst (v := iZ ((1 : Nat) : Int)) hx hb d_H_addWeight_59 (by decide) ?_
              refine lv_goto (tgt := 64) hx hb d_H_addWeight_60 (by decide) ?_
              refine lv_istore (lv' := [(7, .int (iZ ((1 : Nat) : Int))), (0, .ref (ad 11)), (1, .ref (ad 13)), (2, .int (iZ ((cnt : Nat) : Int))), (3, .int (iZ (wg))), (4, .int (iZ ((wo : Nat) : Int))), (5, .int (iZ ((wi : Nat) : Int))), (6, .int (iZ ((wo + wi : Nat) : Int)))]) hx hb d_H_addWeight_64 hl (by decide) rfl (fun ls hl => ?_)
              refine lv_iload hx hb d_H_addWeight_66 (lv_at hl 0 rfl) ?_
              refine z_if_eq (a := ((1 : Nat) : Int)) (tgt := 88) hx hb (by omega) d_H_addWeight_68 (by decide) (fun q68 => ?_) (fun q68 => ?_)
              · skip
                exfalso; omega
              · skip
                refine lv_aload_n hx hb d_H_addWeight_71 rfl (lv_at hl 2 rfl) ?_
                refine lv_iload hx hb d_H_addWeight_72 (lv_at hl 7 rfl) ?_
                refine lv_aload_n hx hb d_H_addWeight_74 rfl (lv_at hl 1 rfl) ?_
                refine va_get (D := D) (ci := 3) (v := .ref (ad 15)) (C := n_H) (T := f_H) (N := 6) hx hb hts in_H hown hK hP 11 rfl rfl 5 (by decide) (hts _ fl_H_28) (fun _ h9 => h9) rfl d_H_addWeight_75 ?_
                refine lv_iload hx hb d_H_addWeight_78 (lv_at hl 5 rfl) ?_
                have hb3 := hSb wo (by omega)
                refine z_iald (f := (icp (G.2.2.2.1) (G.2.2.2.2.2) cnt)) hx hb hK hP 15 0 rfl rfl (wo) (by omega) d_H_addWeight_80 ?_
                refine z_iast (f := L) (v := (icp (G.2.2.2.1) (G.2.2.2.2.2) cnt) (wo)) hx hb hK hP hD hS 13 0 rfl rfl (wo + wi) (by omega) d_H_addWeight_81 (fun H locs hP hD hS => ?_)
                have hP : va_P D classes (wdC ad cI cZ cL J rd pr (G.1, G.2.1, G.2.2.1, (zu L (wo + wi) ((icp (G.2.2.2.1) (G.2.2.2.2.2) cnt) (wo))), G.2.2.2.2.1, (icp (G.2.2.2.1) (G.2.2.2.2.2) cnt)) K tl) H := hP
                have hD : va_D A (wdC ad cI cZ cL J rd pr (G.1, G.2.1, G.2.2.1, (zu L (wo + wi) ((icp (G.2.2.2.1) (G.2.2.2.2.2) cnt) (wo))), G.2.2.2.2.1, (icp (G.2.2.2.1) (G.2.2.2.2.2) cnt)) K tl) := hD
                refine lv_iinc (v := iZ ((wo + 1 : Nat) : Int)) (lv' := [(4, .int (iZ ((wo + 1 : Nat) : Int))), (7, .int (iZ ((1 : Nat) : Int))), (0, .ref (ad 11)), (1, .ref (ad 13)), (2, .int (iZ ((cnt : Nat) : Int))), (3, .int (iZ (wg))), (5, .int (iZ ((wi : Nat) : Int))), (6, .int (iZ ((wo + wi : Nat) : Int)))]) hx hb d_H_addWeight_82 hl (k := 5) rfl (iZ_inc (wo) 1) (by decide) rfl (fun ls hl => ?_)
                refine lv_goto (tgt := 104) hx hb d_H_addWeight_85 (by decide) ?_
                refine lv_iinc (v := iZ ((wo + wi + 1 : Nat) : Int)) (lv' := [(6, .int (iZ ((wo + wi + 1 : Nat) : Int))), (4, .int (iZ ((wo + 1 : Nat) : Int))), (7, .int (iZ ((1 : Nat) : Int))), (0, .ref (ad 11)), (1, .ref (ad 13)), (2, .int (iZ ((cnt : Nat) : Int))), (3, .int (iZ (wg))), (5, .int (iZ ((wi : Nat) : Int)))]) hx hb d_H_addWeight_104 hl (k := 7) rfl (iZ_inc (wo + wi) 1) (by decide) rfl (fun ls hl => ?_)
                refine lv_goto (tgt := 20) hx hb d_H_addWeight_107 (by decide) ?_
                exact ih20 (wo + 1) wi (zu L (wo + wi) ((icp (G.2.2.2.1) (G.2.2.2.2.2) cnt) wo)) H locs ls (by omega) (su_M_a hM hSO (by omega) (fun z => by omega) (by have := hSb wo (by omega); omega)) (by omega) hP hD hS (lv_sub hl [3, 4, 5, 6, 1, 7, 0] (by rw [show ((wo + 1) + wi) = (wo + wi + 1) from by omega]; rfl))
  exact L20 (2 * cnt - (0 + 0) + 1) 0 0 G.2.2.2.1 H locs ls (⟨Nat.zero_le _, Nat.zero_le _⟩) su_M_0 (by omega) hP hD hS (lv_sub hl [3, 4, 5, 6, 2, 1, 0] rfl)

set_option maxHeartbeats 4000000 in
set_option maxRecDepth 100000 in
theorem k_H_addWeight_hi {l : Launch} {D : va_G} {ad : Nat → Nat} {cI cZ cL : ClassId} {J : SJ} {rd : Nat → Int} {pr : Nat → Nat} {G : SH} {K : SK} {tl : va_W} {cnt : Nat} {wg M : Int} (hc : cnt ≤ 128 ∧ 0 ≤ wg ∧ wg ≤ 1000 ∧ 0 ≤ M ∧ M ≤ 15000) (hO : su_O (G.2.2.2.2.1) cnt) (hb0 : ∀ j, j < cnt → 0 ≤ G.2.2.2.2.1 j ∧ G.2.2.2.2.1 j ≤ M) : zMv l TB D classes (tysW cI cZ cL) y_H_addWeight w_H_addWeight 1 60 [.ref (ad 11), .ref (ad 14), .int (iZ ((cnt : Nat) : Int)), .int (iZ (wg))] (wdC ad cI cZ cL J rd pr G K tl) (fun w => ∃ (L sq : Nat → Int), w = wdC ad cI cZ cL J rd pr (G.1, G.2.1, G.2.2.1, G.2.2.2.1, L, sq) K tl ∧ su_O L (2 * cnt) ∧ (∀ j, j < 2 * cnt → 0 ≤ L j ∧ L j ≤ M + 1000) ∧ (∀ f : Int → Nat, su_to (fun j => f (L j)) (2 * cnt) = su_to (fun j => f (G.2.2.2.2.1 j)) cnt + su_to (fun j => f (G.2.2.2.2.1 j + wg)) cnt)) := by
  refine z_of (Qc := fun A => va_Qv (fun w => ∃ (L sq : Nat → Int), w = wdC ad cI cZ cL J rd pr (G.1, G.2.1, G.2.2.1, G.2.2.2.1, L, sq) K tl ∧ su_O L (2 * cnt) ∧ (∀ j, j < 2 * cnt → 0 ≤ L j ∧ L j ≤ M + 1000) ∧ (∀ f : Int → Nat, su_to (fun j => f (L j)) (2 * cnt) = su_to (fun j => f (G.2.2.2.2.1 j)) cnt + su_to (fun j => f (G.2.2.2.2.1 j + wg)) cnt)) (zB9 D classes (wdC ad cI cZ cL J rd pr G K tl)) A) (by decide) (Nat.le_of_ble_eq_true rfl) ?_
  intro p e s m below meth c A ls Z hP hK hD hS hA hl
  obtain ⟨hx, hb, hr, hml, hown, hts, hE, hlocks⟩ := id Z
  have hl : lv_has ls 8 [(0, .ref (ad 11)), (1, .ref (ad 14)), (2, .int (iZ ((cnt : Nat) : Int))), (3, .int (iZ (wg)))] := hl
  have hSO : su_O (icp (G.2.2.2.2.1) (G.2.2.2.2.2) cnt) cnt := su_O_congr hO (fun j hj => icp_lt hj)
  have hSb : ∀ j, j < cnt → 0 ≤ (icp (G.2.2.2.2.1) (G.2.2.2.2.2) cnt) j ∧ (icp (G.2.2.2.2.1) (G.2.2.2.2.2) cnt) j ≤ M := fun j hj => by rw [icp_lt hj]; exact hb0 j hj
  suffices K9 : ∀ (H : Heap) (locs : List Loc) (ls : Array Slot), va_P D classes (wdC ad cI cZ cL J rd pr G K tl) H → va_D A (wdC ad cI cZ cL J rd pr G K tl) → va_S A s.heap H locs → lv_has ls 8 [(0, .ref (ad 11)), (1, .ref (ad 14)), (2, .int (iZ ((cnt : Nat) : Int))), (3, .int (iZ (wg)))] → W p l e (zRm 1 60) s m ([.ref (ad 11), .ref (ad 14), .int (iZ ((cnt : Nat) : Int)), .int (iZ (wg))] : List Value).toArray below meth c H locs 0 0 (MQ below (va_Qv (fun w => ∃ (L sq : Nat → Int), w = wdC ad cI cZ cL J rd pr (G.1, G.2.1, G.2.2.1, G.2.2.2.1, L, sq) K tl ∧ su_O L (2 * cnt) ∧ (∀ j, j < 2 * cnt → 0 ≤ L j ∧ L j ≤ M + 1000) ∧ (∀ f : Int → Nat, su_to (fun j => f (L j)) (2 * cnt) = su_to (fun j => f (G.2.2.2.2.1 j)) cnt + su_to (fun j => f (G.2.2.2.2.1 j + wg)) cnt)) (zB9 D classes (wdC ad cI cZ cL J rd pr G K tl)) A) ([.ref (ad 11), .ref (ad 14), .int (iZ ((cnt : Nat) : Int)), .int (iZ (wg))] : List Value).toArray s 0 0 A) (F0 m 0 ls []) from K9 s.heap [] ls hP hD hS hl
  clear hP hD hS hl
  intro H locs ls hP hD hS hl
  refine lv_aload_n hx hb d_H_addWeight_0 rfl (lv_at hl 1 rfl) ?_
  refine lv_iconst (v := iZ ((0 : Nat) : Int)) hx hb d_H_addWeight_1 (by decide) ?_
  refine lv_aload_n hx hb d_H_addWeight_2 rfl (lv_at hl 0 rfl) ?_
  refine va_get (D := D) (ci := 3) (v := .ref (ad 15)) (C := n_H) (T := f_H) (N := 6) hx hb hts in_H hown hK hP 11 rfl rfl 5 (by decide) (hts _ fl_H_28) (fun _ h9 => h9) rfl d_H_addWeight_3 ?_
  refine lv_iconst (v := iZ ((0 : Nat) : Int)) hx hb d_H_addWeight_6 (by decide) ?_
  refine lv_iload_n hx hb d_H_addWeight_7 rfl (lv_at hl 2 rfl) ?_
  refine z_copyi Z hl.1 (idx := 39) ml9_H_39 ini_System hK hP hD hS 14 15 0 rfl rfl rfl (n := cnt) (by omega) (Nat.le_of_ble_eq_true rfl) (Nat.le_of_ble_eq_true rfl) d_H_addWeight_8 (fun H locs hP hD hS => ?_)
  have hP : va_P D classes (wdC ad cI cZ cL J rd pr (G.1, G.2.1, G.2.2.1, G.2.2.2.1, G.2.2.2.2.1, (icp (G.2.2.2.2.1) (G.2.2.2.2.2) cnt)) K tl) H := hP
  have hD : va_D A (wdC ad cI cZ cL J rd pr (G.1, G.2.1, G.2.2.1, G.2.2.2.1, G.2.2.2.2.1, (icp (G.2.2.2.2.1) (G.2.2.2.2.2) cnt)) K tl) := hD
  refine lv_iconst (v := iZ ((0 : Nat) : Int)) hx hb d_H_addWeight_11 (by decide) ?_
  refine lv_istore (lv' := [(4, .int (iZ ((0 : Nat) : Int))), (0, .ref (ad 11)), (1, .ref (ad 14)), (2, .int (iZ ((cnt : Nat) : Int))), (3, .int (iZ (wg)))]) hx hb d_H_addWeight_12 hl (by decide) rfl (fun ls hl => ?_)
  refine lv_iconst (v := iZ ((0 : Nat) : Int)) hx hb d_H_addWeight_14 (by decide) ?_
  refine lv_istore (lv' := [(5, .int (iZ ((0 : Nat) : Int))), (4, .int (iZ ((0 : Nat) : Int))), (0, .ref (ad 11)), (1, .ref (ad 14)), (2, .int (iZ ((cnt : Nat) : Int))), (3, .int (iZ (wg)))]) hx hb d_H_addWeight_15 hl (by decide) rfl (fun ls hl => ?_)
  refine lv_iconst (v := iZ ((0 : Nat) : Int)) hx hb d_H_addWeight_17 (by decide) ?_
  refine lv_istore (lv' := [(6, .int (iZ ((0 : Nat) : Int))), (5, .int (iZ ((0 : Nat) : Int))), (4, .int (iZ ((0 : Nat) : Int))), (0, .ref (ad 11)), (1, .ref (ad 14)), (2, .int (iZ ((cnt : Nat) : Int))), (3, .int (iZ (wg)))]) hx hb d_H_addWeight_18 hl (by decide) rfl (fun ls hl => ?_)
  have L20 : ∀ (N20 : Nat) (wo : Nat) (wi : Nat) (L : Nat → Int) (H : Heap) (locs : List Loc) (ls : Array Slot), (wo ≤ cnt ∧ wi ≤ cnt) → (su_M (icp (G.2.2.2.2.1) (G.2.2.2.2.2) cnt) wg cnt wo wi (M + 1000) L) → 2 * cnt - (wo + wi) < N20 → va_P D classes (wdC ad cI cZ cL J rd pr (G.1, G.2.1, G.2.2.1, G.2.2.2.1, L, (icp (G.2.2.2.2.1) (G.2.2.2.2.2) cnt)) K tl) H → va_D A (wdC ad cI cZ cL J rd pr (G.1, G.2.1, G.2.2.1, G.2.2.2.1, L, (icp (G.2.2.2.2.1) (G.2.2.2.2.2) cnt)) K tl) → va_S A s.heap H locs → lv_has ls 8 [(0, .ref (ad 11)), (1, .ref (ad 14)), (2, .int (iZ ((cnt : Nat) : Int))), (3, .int (iZ (wg))), (4, .int (iZ ((wo : Nat) : Int))), (5, .int (iZ ((wi : Nat) : Int))), (6, .int (iZ ((wo + wi : Nat) : Int)))] → W p l e (zRm 1 60) s m ([.ref (ad 11), .ref (ad 14), .int (iZ ((cnt : Nat) : Int)), .int (iZ (wg))] : List Value).toArray below meth c H locs 0 0 (MQ below (va_Qv (fun w => ∃ (L sq : Nat → Int), w = wdC ad cI cZ cL J rd pr (G.1, G.2.1, G.2.2.1, G.2.2.2.1, L, sq) K tl ∧ su_O L (2 * cnt) ∧ (∀ j, j < 2 * cnt → 0 ≤ L j ∧ L j ≤ M + 1000) ∧ (∀ f : Int → Nat, su_to (fun j => f (L j)) (2 * cnt) = su_to (fun j => f (G.2.2.2.2.1 j)) cnt + su_to (fun j => f (G.2.2.2.2.1 j + wg)) cnt)) (zB9 D classes (wdC ad cI cZ cL J rd pr G K tl)) A) ([.ref (ad 11), .ref (ad 14), .int (iZ ((cnt : Nat) : Int)), .int (iZ (wg))] : List Value).toArray s 0 0 A) (F0 m 20 ls []) := by
    intro N20
    induction N20 with
    | zero =>
      intro wo wi L H locs ls hw hM hN20 hP hD hS hl
      exact absurd hN20 (Nat.not_lt_zero _)
    | succ N20 ih20 =>
      intro wo wi L H locs ls hw hM hN20 hP hD hS hl
      refine lv_iload hx hb d_H_addWeight_20 (lv_at hl 6 rfl) ?_
      refine lv_iconst (v := iZ ((2 : Nat) : Int)) hx hb d_H_addWeight_22 (by decide) ?_
      refine lv_iload_n hx hb d_H_addWeight_23 rfl (lv_at hl 2 rfl) ?_
      refine z_imulN (u := 2) (v := cnt) hx hb d_H_addWeight_24 ?_
      refine z_icmp_ge (a := ((wo + wi : Nat) : Int)) (b := ((2 * cnt : Nat) : Int)) (tgt := 110) hx hb (by omega) d_H_addWeight_25 (by decide) (fun q25 => ?_) (fun q25 => ?_)
      · skip
        exact z_vret Z hP hS d_H_addWeight_110 wdC_map (by obtain ⟨m1, m2, m3, m4⟩ := hM; have e1 : wo = cnt := (by omega); have e2 : wi = cnt := (by omega); rw [e1, e2, show cnt + cnt = 2 * cnt from (by omega)] at m1 m2 m4; exact ⟨L, _, rfl, m2, m4, fun f => by rw [m1 f, su_to_congr cnt (fun j hj => by rw [icp_lt hj]), su_to_congr (g := fun j => f ((icp (G.2.2.2.2.1) (G.2.2.2.2.2) cnt) j + wg)) cnt (fun j hj => by rw [icp_lt hj])]⟩)
      · skip
        refine lv_iload hx hb d_H_addWeight_28 (lv_at hl 5 rfl) ?_
        refine lv_iload_n hx hb d_H_addWeight_30 rfl (lv_at hl 2 rfl) ?_
        refine z_icmp_ge (a := ((wi : Nat) : Int)) (b := ((cnt : Nat) : Int)) (tgt := 59) hx hb (by omega) d_H_addWeight_31 (by decide) (fun q31 => ?_) (fun q31 => ?_)
        · skip
          refine lv_iconst (v := iZ ((1 : Nat) : Int)) hx hb d_H_addWeight_59 (by decide) ?_
          refine lv_goto (tgt := 64) hx hb d_H_addWeight_60 (by decide) ?_
          refine lv_istore (lv' := [(7, .int (iZ ((1 : Nat) : Int))), (0, .ref (ad 11)), (1, .ref (ad 14)), (2, .int (iZ ((cnt : Nat) : Int))), (3, .int (iZ (wg))), (4, .int (iZ ((wo : Nat) : Int))), (5, .int (iZ ((wi : Nat) : Int))), (6, .int (iZ ((wo + wi : Nat) : Int)))]) hx hb d_H_addWeight_64 hl (by decide) rfl (fun ls hl => ?_)
          refine lv_iload hx hb d_H_addWeight_66 (lv_at hl 0 rfl) ?_
          refine z_if_eq (a := ((1 : Nat) : Int)) (tgt := 88) hx hb (by omega) d_H_addWeight_68 (by decide) (fun q68 => ?_) (fun q68 => ?_)
          · skip
            exfalso; omega
          · skip
            refine lv_aload_n hx hb d_H_addWeight_71 rfl (lv_at hl 2 rfl) ?_
            refine lv_iload hx hb d_H_addWeight_72 (lv_at hl 7 rfl) ?_
            refine lv_aload_n hx hb d_H_addWeight_74 rfl (lv_at hl 1 rfl) ?_
            refine va_get (D := D) (ci := 3) (v := .ref (ad 15)) (C := n_H) (T := f_H) (N := 6) hx hb hts in_H hown hK hP 11 rfl rfl 5 (by decide) (hts _ fl_H_28) (fun _ h9 => h9) rfl d_H_addWeight_75 ?_
            refine lv_iload hx hb d_H_addWeight_78 (lv_at hl 5 rfl) ?_
            have hb3 := hSb wo (by omega)
            refine z_iald (f := (icp (G.2.2.2.2.1) (G.2.2.2.2.2) cnt)) hx hb hK hP 15 0 rfl rfl (wo) (by omega) d_H_addWeight_80 ?_
            refine z_iast (f := L) (v := (icp (G.2.2.2.2.1) (G.2.2.2.2.2) cnt) (wo)) hx hb hK hP hD hS 14 0 rfl rfl (wo + wi) (by omega) d_H_addWeight_81 (fun H locs hP hD hS => ?_)
            have hP : va_P D classes (wdC ad cI cZ cL J rd pr (G.1, G.2.1, G.2.2.1, G.2.2.2.1, (zu L (wo + wi) ((icp (G.2.2.2.2.1) (G.2.2.2.2.2) cnt) (wo))), (icp (G.2.2.2.2.1) (G.2.2.2.2.2) cnt)) K tl) H := hP
            have hD : va_D A (wdC ad cI cZ cL J rd pr (G.1, G.2.1, G.2.2.1, G.2.2.2.1, (zu L (wo + wi) ((icp (G.2.2.2.2.1) (G.2.2.2.2.2) cnt) (wo))), (icp (G.2.2.2.2.1) (G.2.2.2.2.2) cnt)) K tl) := hD
            refine lv_iinc (v := iZ ((wo + 1 : Nat) : Int)) (lv' := [(4, .int (iZ ((wo + 1 : Nat) : Int))), (7, .int (iZ ((1 : Nat) : Int))), (0, .ref (ad 11)), (1, .ref (ad 14)), (2, .int (iZ ((cnt : Nat) : Int))), (3, .int (iZ (wg))), (5, .int (iZ ((wi : Nat) : Int))), (6, .int (iZ ((wo + wi : Nat) : Int)))]) hx hb d_H_addWeight_82 hl (k := 5) rfl (iZ_inc (wo) 1) (by decide) rfl (fun ls hl => ?_)
            refine lv_goto (tgt := 104) hx hb d_H_addWeight_85 (by decide) ?_
            refine lv_iinc (v := iZ ((wo + wi + 1 : Nat) : Int)) (lv' := [(6, .int (iZ ((wo + wi + 1 : Nat) : Int))), (4, .int (iZ ((wo + 1 : Nat) : Int))), (7, .int (iZ ((1 : Nat) : Int))), (0, .ref (ad 11)), (1, .ref (ad 14)), (2, .int (iZ ((cnt : Nat) : Int))), (3, .int (iZ (wg))), (5, .int (iZ ((wi : Nat) : Int)))]) hx hb d_H_addWeight_104 hl (k := 7) rfl (iZ_inc (wo + wi) 1) (by decide) rfl (fun ls hl => ?_)
            refine lv_goto (tgt := 20) hx hb d_H_addWeight_107 (by decide) ?_
            exact ih20 (wo + 1) wi (zu L (wo + wi) ((icp (G.2.2.2.2.1) (G.2.2.2.2.2) cnt) wo)) H locs ls (by omega) (su_M_a hM hSO (by omega) (fun z => by omega) (by have := hSb wo (by omega); omega)) (by omega) hP hD hS (lv_sub hl [3, 4, 5, 6, 1, 7, 0] (by rw [show ((wo + 1) + wi) = (wo + wi + 1) from by omega]; rfl))
        · skip
          refine lv_iload hx hb d_H_addWeight_34 (lv_at hl 4 rfl) ?_
          refine lv_iload_n hx hb d_H_addWeight_36 rfl (lv_at hl 2 rfl) ?_
          refine z_icmp_ge (a := ((wo : Nat) : Int)) (b := ((cnt : Nat) : Int)) (tgt := 63) hx hb (by omega) d_H_addWeight_37 (by decide) (fun q37 => ?_) (fun q37 => ?_)
          · skip
            refine lv_iconst (v := iZ ((0 : Nat) : Int)) hx hb d_H_addWeight_63 (by decide) ?_
            refine lv_istore (lv' := [(7, .int (iZ ((0 : Nat) : Int))), (0, .ref (ad 11)), (1, .ref (ad 14)), (2, .int (iZ ((cnt : Nat) : Int))), (3, .int (iZ (wg))), (4, .int (iZ ((wo : Nat) : Int))), (5, .int (iZ ((wi : Nat) : Int))), (6, .int (iZ ((wo + wi : Nat) : Int)))]) hx hb d_H_addWeight_64 hl (by decide) rfl (fun ls hl => ?_)
            refine lv_iload hx hb d_H_addWeight_66 (lv_at hl 0 rfl) ?_
            refine z_if_eq (a := ((0 : Nat) : Int)) (tgt := 88) hx hb (by omega) d_H_addWeight_68 (by decide) (fun q68 => ?_) (fun q68 => ?_)
            · skip
              refine lv_aload_n hx hb d_H_addWeight_88 rfl (lv_at hl 2 rfl) ?_
              refine lv_iload hx hb d_H_addWeight_89 (lv_at hl 7 rfl) ?_
              refine lv_aload_n hx hb d_H_addWeight_91 rfl (lv_at hl 1 rfl) ?_
              refine va_get (D := D) (ci := 3) (v := .ref (ad 15)) (C := n_H) (T := f_H) (N := 6) hx hb hts in_H hown hK hP 11 rfl rfl 5 (by decide) (hts _ fl_H_28) (fun _ h9 => h9) rfl d_H_addWeight_92 ?_
              refine lv_iload hx hb d_H_addWeight_95 (lv_at hl 6 rfl) ?_
              have hb4 := hSb wi (by omega)
              refine z_iald (f := (icp (G.2.2.2.2.1) (G.2.2.2.2.2) cnt)) hx hb hK hP 15 0 rfl rfl (wi) (by omega) d_H_addWeight_97 ?_
              refine lv_iload_n hx hb d_H_addWeight_98 rfl (lv_at hl 4 rfl) ?_
              refine z_iadd (a := (icp (G.2.2.2.2.1) (G.2.2.2.2.2) cnt) (wi)) (b := wg) hx hb d_H_addWeight_99 ?_
              refine z_iast (f := L) (v := ((icp (G.2.2.2.2.1) (G.2.2.2.2.2) cnt) (wi)) + wg) hx hb hK hP hD hS 14 0 rfl rfl (wo + wi) (by omega) d_H_addWeight_100 (fun H locs hP hD hS => ?_)
              have hP : va_P D classes (wdC ad cI cZ cL J rd pr (G.1, G.2.1, G.2.2.1, G.2.2.2.1, (zu L (wo + wi) (((icp (G.2.2.2.2.1) (G.2.2.2.2.2) cnt) (wi)) + wg)), (icp (G.2.2.2.2.1) (G.2.2.2.2.2) cnt)) K tl) H := hP
              have hD : va_D A (wdC ad cI cZ cL J rd pr (G.1, G.2.1, G.2.2.1, G.2.2.2.1, (zu L (wo + wi) (((icp (G.2.2.2.2.1) (G.2.2.2.2.2) cnt) (wi)) + wg)), (icp (G.2.2.2.2.1) (G.2.2.2.2.2) cnt)) K tl) := hD
              refine lv_iinc (v := iZ ((wi + 1 : Nat) : Int)) (lv' := [(5, .int (iZ ((wi + 1 : Nat) : Int))), (7, .int (iZ ((0 : Nat) : Int))), (0, .ref (ad 11)), (1, .ref (ad 14)), (2, .int (iZ ((cnt : Nat) : Int))), (3, .int (iZ (wg))), (4, .int (iZ ((wo : Nat) : Int))), (6, .int (iZ ((wo + wi : Nat) : Int)))]) hx hb d_H_addWeight_101 hl (k := 6) rfl (iZ_inc (wi) 1) (by decide) rfl (fun ls hl => ?_)
              refine lv_iinc (v := iZ ((wo + wi + 1 : Nat) : Int)) (lv' := [(6, .int (iZ ((wo + wi + 1 : Nat) : Int))), (5, .int (iZ ((wi + 1 : Nat) : Int))), (7, .int (iZ ((0 : Nat) : Int))), (0, .ref (ad 11)), (1, .ref (ad 14)), (2, .int (iZ ((cnt : Nat) : Int))), (3, .int (iZ (wg))), (4, .int (iZ ((wo : Nat) : Int)))]) hx hb d_H_addWeight_104 hl (k := 7) rfl (iZ_inc (wo + wi) 1) (by decide) rfl (fun ls hl => ?_)
              refine lv_goto (tgt := 20) hx hb d_H_addWeight_107 (by decide) ?_
              exact ih20 wo (wi + 1) (zu L (wo + wi) ((icp (G.2.2.2.2.1) (G.2.2.2.2.2) cnt) wi + wg)) H locs ls (by omega) (su_M_b hM hSO (by omega) (fun z => by omega) (by have := hSb wi (by omega); omega)) (by omega) hP hD hS (lv_sub hl [3, 4, 5, 6, 7, 1, 0] (by rw [show (wo + (wi + 1)) = (wo + wi + 1) from by omega]; rfl))
            · skip
              exfalso; omega
          · skip
            refine lv_aload_n hx hb d_H_addWeight_40 rfl (lv_at hl 0 rfl) ?_
            refine va_get (D := D) (ci := 3) (v := .ref (ad 15)) (C := n_H) (T := f_H) (N := 6) hx hb hts in_H hown hK hP 11 rfl rfl 5 (by decide) (hts _ fl_H_28) (fun _ h9 => h9) rfl d_H_addWeight_41 ?_
            refine lv_iload hx hb d_H_addWeight_44 (lv_at hl 4 rfl) ?_
            have hb1 := hSb wo (by omega)
            refine z_iald (f := (icp (G.2.2.2.2.1) (G.2.2.2.2.2) cnt)) hx hb hK hP 15 0 rfl rfl (wo) (by omega) d_H_addWeight_46 ?_
            refine lv_aload_n hx hb d_H_addWeight_47 rfl (lv_at hl 0 rfl) ?_
            refine va_get (D := D) (ci := 3) (v := .ref (ad 15)) (C := n_H) (T := f_H) (N := 6) hx hb hts in_H hown hK hP 11 rfl rfl 5 (by decide) (hts _ fl_H_28) (fun _ h9 => h9) rfl d_H_addWeight_48 ?_
            refine lv_iload hx hb d_H_addWeight_51 (lv_at hl 5 rfl) ?_
            have hb2 := hSb wi (by omega)
            refine z_iald (f := (icp (G.2.2.2.2.1) (G.2.2.2.2.2) cnt)) hx hb hK hP 15 0 rfl rfl (wi) (by omega) d_H_addWeight_53 ?_
            refine lv_iload_n hx hb d_H_addWeight_54 rfl (lv_at hl 3 rfl) ?_
            refine z_iadd (a := (icp (G.2.2.2.2.1) (G.2.2.2.2.2) cnt) (wi)) (b := wg) hx hb d_H_addWeight_55 ?_
            refine z_icmp_gt (a := (icp (G.2.2.2.2.1) (G.2.2.2.2.2) cnt) (wo)) (b := ((icp (G.2.2.2.2.1) (G.2.2.2.2.2) cnt) (wi)) + wg) (tgt := 63) hx hb (by omega) d_H_addWeight_56 (by decide) (fun q56 => ?_) (fun q56 => ?_)
            · skip
              refine lv_iconst (v := iZ ((0 : Nat) : Int)) hx hb d_H_addWeight_63 (by decide) ?_
              refine lv_istore (lv' := [(7, .int (iZ ((0 : Nat) : Int))), (0, .ref (ad 11)), (1, .ref (ad 14)), (2, .int (iZ ((cnt : Nat) : Int))), (3, .int (iZ (wg))), (4, .int (iZ ((wo : Nat) : Int))), (5, .int (iZ ((wi : Nat) : Int))), (6, .int (iZ ((wo + wi : Nat) : Int)))]) hx hb d_H_addWeight_64 hl (by decide) rfl (fun ls hl => ?_)
              refine lv_iload hx hb d_H_addWeight_66 (lv_at hl 0 rfl) ?_
              refine z_if_eq (a := ((0 : Nat) : Int)) (tgt := 88) hx hb (by omega) d_H_addWeight_68 (by decide) (fun q68 => ?_) (fun q68 => ?_)
              · skip
                refine lv_aload_n hx hb d_H_addWeight_88 rfl (lv_at hl 2 rfl) ?_
                refine lv_iload hx hb d_H_addWeight_89 (lv_at hl 7 rfl) ?_
                refine lv_aload_n hx hb d_H_addWeight_91 rfl (lv_at hl 1 rfl) ?_
                refine va_get (D := D) (ci := 3) (v := .ref (ad 15)) (C := n_H) (T := f_H) (N := 6) hx hb hts in_H hown hK hP 11 rfl rfl 5 (by decide) (hts _ fl_H_28) (fun _ h9 => h9) rfl d_H_addWeight_92 ?_
                refine lv_iload hx hb d_H_addWeight_95 (lv_at hl 6 rfl) ?_
                have hb4 := hSb wi (by omega)
                refine z_iald (f := (icp (G.2.2.2.2.1) (G.2.2.2.2.2) cnt)) hx hb hK hP 15 0 rfl rfl (wi) (by omega) d_H_addWeight_97 ?_
                refine lv_iload_n hx hb d_H_addWeight_98 rfl (lv_at hl 4 rfl) ?_
                refine z_iadd (a := (icp (G.2.2.2.2.1) (G.2.2.2.2.2) cnt) (wi)) (b := wg) hx hb d_H_addWeight_99 ?_
                refine z_iast (f := L) (v := ((icp (G.2.2.2.2.1) (G.2.2.2.2.2) cnt) (wi)) + wg) hx hb hK hP hD hS 14 0 rfl rfl (wo + wi) (by omega) d_H_addWeight_100 (fun H locs hP hD hS => ?_)
                have hP : va_P D classes (wdC ad cI cZ cL J rd pr (G.1, G.2.1, G.2.2.1, G.2.2.2.1, (zu L (wo + wi) (((icp (G.2.2.2.2.1) (G.2.2.2.2.2) cnt) (wi)) + wg)), (icp (G.2.2.2.2.1) (G.2.2.2.2.2) cnt)) K tl) H := hP
                have hD : va_D A (wdC ad cI cZ cL J rd pr (G.1, G.2.1, G.2.2.1, G.2.2.2.1, (zu L (wo + wi) (((icp (G.2.2.2.2.1) (G.2.2.2.2.2) cnt) (wi)) + wg)), (icp (G.2.2.2.2.1) (G.2.2.2.2.2) cnt)) K tl) := hD
                refine lv_iinc (v := iZ ((wi + 1 : Nat) : Int)) (lv' := [(5, .int (iZ ((wi + 1 : Nat) : Int))), (7, .int (iZ ((0 : Nat) : Int))), (0, .ref (ad 11)), (1, .ref (ad 14)), (2, .int (iZ ((cnt : Nat) : Int))), (3, .int (iZ (wg))), (4, .int (iZ ((wo : Nat) : Int))), (6, .int (iZ ((wo + wi : Nat) : Int)))]) hx hb d_H_addWeight_101 hl (k := 6) rfl (iZ_inc (wi) 1) (by decide) rfl (fun ls hl => ?_)
                refine lv_iinc (v := iZ ((wo + wi + 1 : Nat) : Int)) (lv' := [(6, .int (iZ ((wo + wi + 1 : Nat) : Int))), (5, .int (iZ ((wi + 1 : Nat) : Int))), (7, .int (iZ ((0 : Nat) : Int))), (0, .ref (ad 11)), (1, .ref (ad 14)), (2, .int (iZ ((cnt : Nat) : Int))), (3, .int (iZ (wg))), (4, .int (iZ ((wo : Nat) : Int)))]) hx hb d_H_addWeight_104 hl (k := 7) rfl (iZ_inc (wo + wi) 1) (by decide) rfl (fun ls hl => ?_)
                refine lv_goto (tgt := 20) hx hb d_H_addWeight_107 (by decide) ?_
                exact ih20 wo (wi + 1) (zu L (wo + wi) ((icp (G.2.2.2.2.1) (G.2.2.2.2.2) cnt) wi + wg)) H locs ls (by omega) (su_M_b hM hSO (by omega) (fun z => by omega) (by have := hSb wi (by omega); omega)) (by omega) hP hD hS (lv_sub hl [3, 4, 5, 6, 7, 1, 0] (by rw [show (wo + (wi + 1)) = (wo + wi + 1) from by omega]; rfl))
              · skip
                exfalso; omega
            · skip
              refine lv_iconst (v := iZ ((1 : Nat) : Int)) hx hb d_H_addWeight_59 (by decide) ?_
              refine lv_goto (tgt := 64) hx hb d_H_addWeight_60 (by decide) ?_
              refine lv_istore (lv' := [(7, .int (iZ ((1 : Nat) : Int))), (0, .ref (ad 11)), (1, .ref (ad 14)), (2, .int (iZ ((cnt : Nat) : Int))), (3, .int (iZ (wg))), (4, .int (iZ ((wo : Nat) : Int))), (5, .int (iZ ((wi : Nat) : Int))), (6, .int (iZ ((wo + wi : Nat) : Int)))]) hx hb d_H_addWeight_64 hl (by decide) rfl (fun ls hl => ?_)
              refine lv_iload hx hb d_H_addWeight_66 (lv_at hl 0 rfl) ?_
              refine z_if_eq (a := ((1 : Nat) : Int)) (tgt := 88) hx hb (by omega) d_H_addWeight_68 (by decide) (fun q68 => ?_) (fun q68 => ?_)
              · skip
                exfalso; omega
              · skip
                refine lv_aload_n hx hb d_H_addWeight_71 rfl (lv_at hl 2 rfl) ?_
                refine lv_iload hx hb d_H_addWeight_72 (lv_at hl 7 rfl) ?_
                refine lv_aload_n hx hb d_H_addWeight_74 rfl (lv_at hl 1 rfl) ?_
                refine va_get (D := D) (ci := 3) (v := .ref (ad 15)) (C := n_H) (T := f_H) (N := 6) hx hb hts in_H hown hK hP 11 rfl rfl 5 (by decide) (hts _ fl_H_28) (fun _ h9 => h9) rfl d_H_addWeight_75 ?_
                refine lv_iload hx hb d_H_addWeight_78 (lv_at hl 5 rfl) ?_
                have hb3 := hSb wo (by omega)
                refine z_iald (f := (icp (G.2.2.2.2.1) (G.2.2.2.2.2) cnt)) hx hb hK hP 15 0 rfl rfl (wo) (by omega) d_H_addWeight_80 ?_
                refine z_iast (f := L) (v := (icp (G.2.2.2.2.1) (G.2.2.2.2.2) cnt) (wo)) hx hb hK hP hD hS 14 0 rfl rfl (wo + wi) (by omega) d_H_addWeight_81 (fun H locs hP hD hS => ?_)
                have hP : va_P D classes (wdC ad cI cZ cL J rd pr (G.1, G.2.1, G.2.2.1, G.2.2.2.1, (zu L (wo + wi) ((icp (G.2.2.2.2.1) (G.2.2.2.2.2) cnt) (wo))), (icp (G.2.2.2.2.1) (G.2.2.2.2.2) cnt)) K tl) H := hP
                have hD : va_D A (wdC ad cI cZ cL J rd pr (G.1, G.2.1, G.2.2.1, G.2.2.2.1, (zu L (wo + wi) ((icp (G.2.2.2.2.1) (G.2.2.2.2.2) cnt) (wo))), (icp (G.2.2.2.2.1) (G.2.2.2.2.2) cnt)) K tl) := hD
                refine lv_iinc (v := iZ ((wo + 1 : Nat) : Int)) (lv' := [(4, .int (iZ ((wo + 1 : Nat) : Int))), (7, .int (iZ ((1 : Nat) : Int))), (0, .ref (ad 11)), (1, .ref (ad 14)), (2, .int (iZ ((cnt : Nat) : Int))), (3, .int (iZ (wg))), (5, .int (iZ ((wi : Nat) : Int))), (6, .int (iZ ((wo + wi : Nat) : Int)))]) hx hb d_H_addWeight_82 hl (k := 5) rfl (iZ_inc (wo) 1) (by decide) rfl (fun ls hl => ?_)
                refine lv_goto (tgt := 104) hx hb d_H_addWeight_85 (by decide) ?_
                refine lv_iinc (v := iZ ((wo + wi + 1 : Nat) : Int)) (lv' := [(6, .int (iZ ((wo + wi + 1 : Nat) : Int))), (4, .int (iZ ((wo + 1 : Nat) : Int))), (7, .int (iZ ((1 : Nat) : Int))), (0, .ref (ad 11)), (1, .ref (ad 14)), (2, .int (iZ ((cnt : Nat) : Int))), (3, .int (iZ (wg))), (5, .int (iZ ((wi : Nat) : Int)))]) hx hb d_H_addWeight_104 hl (k := 7) rfl (iZ_inc (wo + wi) 1) (by decide) rfl (fun ls hl => ?_)
                refine lv_goto (tgt := 20) hx hb d_H_addWeight_107 (by decide) ?_
                exact ih20 (wo + 1) wi (zu L (wo + wi) ((icp (G.2.2.2.2.1) (G.2.2.2.2.2) cnt) wo)) H locs ls (by omega) (su_M_a hM hSO (by omega) (fun z => by omega) (by have := hSb wo (by omega); omega)) (by omega) hP hD hS (lv_sub hl [3, 4, 5, 6, 1, 7, 0] (by rw [show ((wo + 1) + wi) = (wo + wi + 1) from by omega]; rfl))
  exact L20 (2 * cnt - (0 + 0) + 1) 0 0 G.2.2.2.2.1 H locs ls (⟨Nat.zero_le _, Nat.zero_le _⟩) su_M_0 (by omega) hP hD hS (lv_sub hl [3, 4, 5, 6, 2, 1, 0] rfl)

set_option maxHeartbeats 4000000 in
set_option maxRecDepth 100000 in
theorem k_H_fillSums_lo {l : Launch} {D : va_G} {ad : Nat → Nat} {cI cZ cL : ClassId} {J : SJ} {rd : Nat → Int} {pr : Nat → Nat} {G : SH} {K : SK} {tl : va_W} {fr tt : Nat} (hf : fr ≤ tt ∧ tt ≤ 16 ∧ tt - fr ≤ 8) (hwt : ∀ j, j < tt → 0 ≤ G.1 j ∧ G.1 j ≤ 1000) : zMi l TB D classes (tysW cI cZ cL) y_H_fillSums w_H_fillSums 2 87 [.ref (ad 11), .ref (ad 13), .int (iZ ((fr : Nat) : Int)), .int (iZ ((tt : Nat) : Int))] (wdC ad cI cZ cL J rd pr G K tl) (fun r w => ∃ (L sq : Nat → Int), r = iZ ((2 ^ (tt - fr) : Nat) : Int) ∧ w = wdC ad cI cZ cL J rd pr (G.1, G.2.1, G.2.2.1, L, G.2.2.2.2.1, sq) K tl ∧ su_O L (2 ^ (tt - fr)) ∧ su_R G.1 fr (tt - fr) L (2 ^ (tt - fr)) ∧ (∀ j, j < 2 ^ (tt - fr) → 0 ≤ L j ∧ L j ≤ 8000)) := by
  refine z_of (Qc := fun A => va_Qi (fun r w => ∃ (L sq : Nat → Int), r = iZ ((2 ^ (tt - fr) : Nat) : Int) ∧ w = wdC ad cI cZ cL J rd pr (G.1, G.2.1, G.2.2.1, L, G.2.2.2.2.1, sq) K tl ∧ su_O L (2 ^ (tt - fr)) ∧ su_R G.1 fr (tt - fr) L (2 ^ (tt - fr)) ∧ (∀ j, j < 2 ^ (tt - fr) → 0 ≤ L j ∧ L j ≤ 8000)) (zB9 D classes (wdC ad cI cZ cL J rd pr G K tl)) A) (by decide) (Nat.le_of_ble_eq_true rfl) ?_
  intro p e s m below meth c A ls Z hP hK hD hS hA hl
  obtain ⟨hx, hb, hr, hml, hown, hts, hE, hlocks⟩ := id Z
  have hl : lv_has ls 6 [(0, .ref (ad 11)), (1, .ref (ad 13)), (2, .int (iZ ((fr : Nat) : Int))), (3, .int (iZ ((tt : Nat) : Int)))] := hl
  suffices K9 : ∀ (H : Heap) (locs : List Loc) (ls : Array Slot), va_P D classes (wdC ad cI cZ cL J rd pr G K tl) H → va_D A (wdC ad cI cZ cL J rd pr G K tl) → va_S A s.heap H locs → lv_has ls 6 [(0, .ref (ad 11)), (1, .ref (ad 13)), (2, .int (iZ ((fr : Nat) : Int))), (3, .int (iZ ((tt : Nat) : Int)))] → W p l e (zRm 2 87) s m ([.ref (ad 11), .ref (ad 13), .int (iZ ((fr : Nat) : Int)), .int (iZ ((tt : Nat) : Int))] : List Value).toArray below meth c H locs 0 0 (MQ below (va_Qi (fun r w => ∃ (L sq : Nat → Int), r = iZ ((2 ^ (tt - fr) : Nat) : Int) ∧ w = wdC ad cI cZ cL J rd pr (G.1, G.2.1, G.2.2.1, L, G.2.2.2.2.1, sq) K tl ∧ su_O L (2 ^ (tt - fr)) ∧ su_R G.1 fr (tt - fr) L (2 ^ (tt - fr)) ∧ (∀ j, j < 2 ^ (tt - fr) → 0 ≤ L j ∧ L j ≤ 8000)) (zB9 D classes (wdC ad cI cZ cL J rd pr G K tl)) A) ([.ref (ad 11), .ref (ad 13), .int (iZ ((fr : Nat) : Int)), .int (iZ ((tt : Nat) : Int))] : List Value).toArray s 0 0 A) (F0 m 0 ls []) from K9 s.heap [] ls hP hD hS hl
  clear hP hD hS hl
  intro H locs ls hP hD hS hl
  refine lv_iconst (v := iZ ((1 : Nat) : Int)) hx hb d_H_fillSums_0 (by decide) ?_
  refine lv_istore (lv' := [(4, .int (iZ ((1 : Nat) : Int))), (0, .ref (ad 11)), (1, .ref (ad 13)), (2, .int (iZ ((fr : Nat) : Int))), (3, .int (iZ ((tt : Nat) : Int)))]) hx hb d_H_fillSums_1 hl (by decide) rfl (fun ls hl => ?_)
  refine lv_aload_n hx hb d_H_fillSums_3 rfl (lv_at hl 2 rfl) ?_
  refine lv_iconst (v := iZ ((0 : Nat) : Int)) hx hb d_H_fillSums_4 (by decide) ?_
  refine lv_iconst (v := iZ ((0 : Nat) : Int)) hx hb d_H_fillSums_5 (by decide) ?_
  refine z_iast (f := G.2.2.2.1) (v := ((0 : Nat) : Int)) hx hb hK hP hD hS 13 0 rfl rfl (0) (by omega) d_H_fillSums_6 (fun H locs hP hD hS => ?_)
  have hP : va_P D classes (wdC ad cI cZ cL J rd pr (G.1, G.2.1, G.2.2.1, (zu G.2.2.2.1 (0) ((0 : Nat) : Int)), G.2.2.2.2.1, G.2.2.2.2.2) K tl) H := hP
  have hD : va_D A (wdC ad cI cZ cL J rd pr (G.1, G.2.1, G.2.2.1, (zu G.2.2.2.1 (0) ((0 : Nat) : Int)), G.2.2.2.2.1, G.2.2.2.2.2) K tl) := hD
  refine lv_iload_n hx hb d_H_fillSums_7 rfl (lv_at hl 3 rfl) ?_
  refine lv_istore (lv' := [(5, .int (iZ ((fr : Nat) : Int))), (4, .int (iZ ((1 : Nat) : Int))), (0, .ref (ad 11)), (1, .ref (ad 13)), (2, .int (iZ ((fr : Nat) : Int))), (3, .int (iZ ((tt : Nat) : Int)))]) hx hb d_H_fillSums_8 hl (by decide) rfl (fun ls hl => ?_)
  have L10 : ∀ (N10 : Nat) (i : Nat) (L : Nat → Int) (sq : Nat → Int) (H : Heap) (locs : List Loc) (ls : Array Slot), (fr ≤ i ∧ i ≤ tt) → (su_O L (2 ^ (i - fr))) → (su_R G.1 fr (i - fr) L (2 ^ (i - fr))) → (∀ j, j < 2 ^ (i - fr) → 0 ≤ L j ∧ L j ≤ 1000 * ((i - fr : Nat) : Int)) → tt - i < N10 → va_P D classes (wdC ad cI cZ cL J rd pr (G.1, G.2.1, G.2.2.1, L, G.2.2.2.2.1, sq) K tl) H → va_D A (wdC ad cI cZ cL J rd pr (G.1, G.2.1, G.2.2.1, L, G.2.2.2.2.1, sq) K tl) → va_S A s.heap H locs → lv_has ls 6 [(0, .ref (ad 11)), (1, .ref (ad 13)), (2, .int (iZ ((fr : Nat) : Int))), (3, .int (iZ ((tt : Nat) : Int))), (4, .int (iZ ((2 ^ (i - fr) : Nat) : Int))), (5, .int (iZ ((i : Nat) : Int)))] → W p l e (zRm 2 87) s m ([.ref (ad 11), .ref (ad 13), .int (iZ ((fr : Nat) : Int)), .int (iZ ((tt : Nat) : Int))] : List Value).toArray below meth c H locs 0 0 (MQ below (va_Qi (fun r w => ∃ (L sq : Nat → Int), r = iZ ((2 ^ (tt - fr) : Nat) : Int) ∧ w = wdC ad cI cZ cL J rd pr (G.1, G.2.1, G.2.2.1, L, G.2.2.2.2.1, sq) K tl ∧ su_O L (2 ^ (tt - fr)) ∧ su_R G.1 fr (tt - fr) L (2 ^ (tt - fr)) ∧ (∀ j, j < 2 ^ (tt - fr) → 0 ≤ L j ∧ L j ≤ 8000)) (zB9 D classes (wdC ad cI cZ cL J rd pr G K tl)) A) ([.ref (ad 11), .ref (ad 13), .int (iZ ((fr : Nat) : Int)), .int (iZ ((tt : Nat) : Int))] : List Value).toArray s 0 0 A) (F0 m 10 ls []) := by
    intro N10
    induction N10 with
    | zero =>
      intro i L sq H locs ls hi hLO hLR hLb hN10 hP hD hS hl
      exact absurd hN10 (Nat.not_lt_zero _)
    | succ N10 ih10 =>
      intro i L sq H locs ls hi hLO hLR hLb hN10 hP hD hS hl
      refine lv_iload hx hb d_H_fillSums_10 (lv_at hl 5 rfl) ?_
      refine lv_iload_n hx hb d_H_fillSums_12 rfl (lv_at hl 3 rfl) ?_
      refine z_icmp_ge (a := ((i : Nat) : Int)) (b := ((tt : Nat) : Int)) (tgt := 42) hx hb (by omega) d_H_fillSums_13 (by decide) (fun q13 => ?_) (fun q13 => ?_)
      · skip
        refine lv_iload hx hb d_H_fillSums_42 (lv_at hl 4 rfl) ?_
        exact z_iret Z hP hS d_H_fillSums_44 wdC_map (by have e : i = tt := (by omega); rw [e] at hLO hLR hLb; exact ⟨L, sq, by rw [e], rfl, hLO, hLR, fun j hj => (by have := hLb j hj; omega)⟩)
      · skip
        have hpw : 2 ^ (i - fr) ≤ 128 := two_le (show i - fr ≤ 7 by omega)
        have hpe : 2 ^ (i + 1 - fr) = 2 * 2 ^ (i - fr) := by rw [show i + 1 - fr = (i - fr) + 1 by omega, Nat.pow_succ, Nat.mul_comm]
        refine lv_aload_n hx hb d_H_fillSums_16 rfl (lv_at hl 0 rfl) ?_
        refine lv_aload_n hx hb d_H_fillSums_17 rfl (lv_at hl 1 rfl) ?_
        refine lv_iload hx hb d_H_fillSums_18 (lv_at hl 4 rfl) ?_
        refine lv_aload_n hx hb d_H_fillSums_20 rfl (lv_at hl 0 rfl) ?_
        refine va_get (D := D) (ci := 3) (v := .ref (ad 12)) (C := n_H) (T := f_H) (N := 6) hx hb hts in_H hown hK hP 11 rfl rfl 0 (by decide) (hts _ fl_H_9) (fun _ h9 => h9) rfl d_H_fillSums_21 ?_
        refine lv_iload hx hb d_H_fillSums_24 (lv_at hl 5 rfl) ?_
        refine z_iald (f := G.1) hx hb hK hP 12 0 rfl rfl (i) (by omega) d_H_fillSums_26 ?_
        refine z_kv (z_runV (As := [.ref (ad 13), .int (iZ ((2 ^ (i - fr) : Nat) : Int)), .int (iZ (G.1 (i)))]) (rest := []) zTB Z (k_H_addWeight_lo (cnt := 2 ^ (i - fr)) (wg := G.1 i) (M := 1000 * ((i - fr : Nat) : Int)) (by have := hwt i (by omega); omega) hLO hLb) ⟨ml_H_35, im_H_addWeight, se_H_addWeight, ini_H, co_H_addWeight⟩ zd_H_addWeight ⟨Nat.le_of_ble_eq_true rfl, Nat.le_of_ble_eq_true rfl⟩ hP hK hD (ci := 3) (q0 := 11) rfl rfl rfl hl.1 rfl (Nat.le_of_ble_eq_true rfl) d_H_fillSums_27 ⟨Nat.zero_le _, Nat.zero_le _⟩) hD hS hA (fun w9 H locs hp9 hP hD hS => ?_)
        obtain ⟨L1, sq1, rfl, hO1, hb1, hs1⟩ := hp9
        have hP : va_P D classes (wdC ad cI cZ cL J rd pr (G.1, G.2.1, G.2.2.1, L1, G.2.2.2.2.1, sq1) K tl) H := hP
        have hD : va_D A (wdC ad cI cZ cL J rd pr (G.1, G.2.1, G.2.2.1, L1, G.2.2.2.2.1, sq1) K tl) := hD
        refine W.eq (g2 := F0 m 30 ls []) rfl ?_
        refine lv_iload hx hb d_H_fillSums_30 (lv_at hl 4 rfl) ?_
        refine lv_iconst (v := iZ ((2 : Nat) : Int)) hx hb d_H_fillSums_32 (by decide) ?_
        refine z_imulN (u := 2 ^ (i - fr)) (v := 2) hx hb d_H_fillSums_33 ?_
        refine lv_istore (lv' := [(4, .int (iZ (((2 ^ (i - fr)) * 2 : Nat) : Int))), (0, .ref (ad 11)), (1, .ref (ad 13)), (2, .int (iZ ((fr : Nat) : Int))), (3, .int (iZ ((tt : Nat) : Int))), (5, .int (iZ ((i : Nat) : Int)))]) hx hb d_H_fillSums_34 hl (by decide) rfl (fun ls hl => ?_)
        refine lv_iinc (v := iZ ((i + 1 : Nat) : Int)) (lv' := [(5, .int (iZ ((i + 1 : Nat) : Int))), (4, .int (iZ (((2 ^ (i - fr)) * 2 : Nat) : Int))), (0, .ref (ad 11)), (1, .ref (ad 13)), (2, .int (iZ ((fr : Nat) : Int))), (3, .int (iZ ((tt : Nat) : Int)))]) hx hb d_H_fillSums_36 hl (k := 5) rfl (iZ_inc (i) 1) (by decide) rfl (fun ls hl => ?_)
        refine lv_goto (tgt := 10) hx hb d_H_fillSums_39 (by decide) ?_
        exact ih10 (i + 1) L1 sq1 H locs ls (by omega) (by rw [hpe]; exact hO1) (by rw [hpe, show i + 1 - fr = (i - fr) + 1 by omega]; exact su_R_s hLR (fun f => by rw [hs1 f, show fr + (i - fr) = i by omega])) (by rw [hpe]; intro j hj; have := hb1 j hj; omega) (by omega) hP hD hS (lv_sub hl [2, 3, 4, 5, 1, 0] (by rw [show (2 ^ ((i + 1) - fr)) = ((2 ^ (i - fr)) * 2) from by rw [hpe, Nat.mul_comm]]; rfl))
  exact L10 (tt - fr + 1) fr (zu (G.2.2.2.1) 0 ((0 : Nat) : Int)) G.2.2.2.2.2 H locs ls (by omega) (by rw [Nat.sub_self]; intro a b h1 h2; rw [show a = b by omega]; exact Int.le_refl _) (by rw [Nat.sub_self]; exact su_R_0 _ _ (zu_s _ _ _)) (by rw [Nat.sub_self]; intro j hj; rw [show j = 0 by omega, zu_s]; omega) (by omega) hP hD hS (lv_sub hl [2, 3, 4, 5, 1, 0] (by rw [show (2 ^ (fr - fr)) = (1) from by rw [Nat.sub_self]]; rfl))

set_option maxHeartbeats 4000000 in
set_option maxRecDepth 100000 in
theorem k_H_fillSums_hi {l : Launch} {D : va_G} {ad : Nat → Nat} {cI cZ cL : ClassId} {J : SJ} {rd : Nat → Int} {pr : Nat → Nat} {G : SH} {K : SK} {tl : va_W} {fr tt : Nat} (hf : fr ≤ tt ∧ tt ≤ 16 ∧ tt - fr ≤ 8) (hwt : ∀ j, j < tt → 0 ≤ G.1 j ∧ G.1 j ≤ 1000) : zMi l TB D classes (tysW cI cZ cL) y_H_fillSums w_H_fillSums 2 87 [.ref (ad 11), .ref (ad 14), .int (iZ ((fr : Nat) : Int)), .int (iZ ((tt : Nat) : Int))] (wdC ad cI cZ cL J rd pr G K tl) (fun r w => ∃ (L sq : Nat → Int), r = iZ ((2 ^ (tt - fr) : Nat) : Int) ∧ w = wdC ad cI cZ cL J rd pr (G.1, G.2.1, G.2.2.1, G.2.2.2.1, L, sq) K tl ∧ su_O L (2 ^ (tt - fr)) ∧ su_R G.1 fr (tt - fr) L (2 ^ (tt - fr)) ∧ (∀ j, j < 2 ^ (tt - fr) → 0 ≤ L j ∧ L j ≤ 8000)) := by
  refine z_of (Qc := fun A => va_Qi (fun r w => ∃ (L sq : Nat → Int), r = iZ ((2 ^ (tt - fr) : Nat) : Int) ∧ w = wdC ad cI cZ cL J rd pr (G.1, G.2.1, G.2.2.1, G.2.2.2.1, L, sq) K tl ∧ su_O L (2 ^ (tt - fr)) ∧ su_R G.1 fr (tt - fr) L (2 ^ (tt - fr)) ∧ (∀ j, j < 2 ^ (tt - fr) → 0 ≤ L j ∧ L j ≤ 8000)) (zB9 D classes (wdC ad cI cZ cL J rd pr G K tl)) A) (by decide) (Nat.le_of_ble_eq_true rfl) ?_
  intro p e s m below meth c A ls Z hP hK hD hS hA hl
  obtain ⟨hx, hb, hr, hml, hown, hts, hE, hlocks⟩ := id Z
  have hl : lv_has ls 6 [(0, .ref (ad 11)), (1, .ref (ad 14)), (2, .int (iZ ((fr : Nat) : Int))), (3, .int (iZ ((tt : Nat) : Int)))] := hl
  suffices K9 : ∀ (H : Heap) (locs : List Loc) (ls : Array Slot), va_P D classes (wdC ad cI cZ cL J rd pr G K tl) H → va_D A (wdC ad cI cZ cL J rd pr G K tl) → va_S A s.heap H locs → lv_has ls 6 [(0, .ref (ad 11)), (1, .ref (ad 14)), (2, .int (iZ ((fr : Nat) : Int))), (3, .int (iZ ((tt : Nat) : Int)))] → W p l e (zRm 2 87) s m ([.ref (ad 11), .ref (ad 14), .int (iZ ((fr : Nat) : Int)), .int (iZ ((tt : Nat) : Int))] : List Value).toArray below meth c H locs 0 0 (MQ below (va_Qi (fun r w => ∃ (L sq : Nat → Int), r = iZ ((2 ^ (tt - fr) : Nat) : Int) ∧ w = wdC ad cI cZ cL J rd pr (G.1, G.2.1, G.2.2.1, G.2.2.2.1, L, sq) K tl ∧ su_O L (2 ^ (tt - fr)) ∧ su_R G.1 fr (tt - fr) L (2 ^ (tt - fr)) ∧ (∀ j, j < 2 ^ (tt - fr) → 0 ≤ L j ∧ L j ≤ 8000)) (zB9 D classes (wdC ad cI cZ cL J rd pr G K tl)) A) ([.ref (ad 11), .ref (ad 14), .int (iZ ((fr : Nat) : Int)), .int (iZ ((tt : Nat) : Int))] : List Value).toArray s 0 0 A) (F0 m 0 ls []) from K9 s.heap [] ls hP hD hS hl
  clear hP hD hS hl
  intro H locs ls hP hD hS hl
  refine lv_iconst (v := iZ ((1 : Nat) : Int)) hx hb d_H_fillSums_0 (by decide) ?_
  refine lv_istore (lv' := [(4, .int (iZ ((1 : Nat) : Int))), (0, .ref (ad 11)), (1, .ref (ad 14)), (2, .int (iZ ((fr : Nat) : Int))), (3, .int (iZ ((tt : Nat) : Int)))]) hx hb d_H_fillSums_1 hl (by decide) rfl (fun ls hl => ?_)
  refine lv_aload_n hx hb d_H_fillSums_3 rfl (lv_at hl 2 rfl) ?_
  refine lv_iconst (v := iZ ((0 : Nat) : Int)) hx hb d_H_fillSums_4 (by decide) ?_
  refine lv_iconst (v := iZ ((0 : Nat) : Int)) hx hb d_H_fillSums_5 (by decide) ?_
  refine z_iast (f := G.2.2.2.2.1) (v := ((0 : Nat) : Int)) hx hb hK hP hD hS 14 0 rfl rfl (0) (by omega) d_H_fillSums_6 (fun H locs hP hD hS => ?_)
  have hP : va_P D classes (wdC ad cI cZ cL J rd pr (G.1, G.2.1, G.2.2.1, G.2.2.2.1, (zu G.2.2.2.2.1 (0) ((0 : Nat) : Int)), G.2.2.2.2.2) K tl) H := hP
  have hD : va_D A (wdC ad cI cZ cL J rd pr (G.1, G.2.1, G.2.2.1, G.2.2.2.1, (zu G.2.2.2.2.1 (0) ((0 : Nat) : Int)), G.2.2.2.2.2) K tl) := hD
  refine lv_iload_n hx hb d_H_fillSums_7 rfl (lv_at hl 3 rfl) ?_
  refine lv_istore (lv' := [(5, .int (iZ ((fr : Nat) : Int))), (4, .int (iZ ((1 : Nat) : Int))), (0, .ref (ad 11)), (1, .ref (ad 14)), (2, .int (iZ ((fr : Nat) : Int))), (3, .int (iZ ((tt : Nat) : Int)))]) hx hb d_H_fillSums_8 hl (by decide) rfl (fun ls hl => ?_)
  have L10 : ∀ (N10 : Nat) (i : Nat) (L : Nat → Int) (sq : Nat → Int) (H : Heap) (locs : List Loc) (ls : Array Slot), (fr ≤ i ∧ i ≤ tt) → (su_O L (2 ^ (i - fr))) → (su_R G.1 fr (i - fr) L (2 ^ (i - fr))) → (∀ j, j < 2 ^ (i - fr) → 0 ≤ L j ∧ L j ≤ 1000 * ((i - fr : Nat) : Int)) → tt - i < N10 → va_P D classes (wdC ad cI cZ cL J rd pr (G.1, G.2.1, G.2.2.1, G.2.2.2.1, L, sq) K tl) H → va_D A (wdC ad cI cZ cL J rd pr (G.1, G.2.1, G.2.2.1, G.2.2.2.1, L, sq) K tl) → va_S A s.heap H locs → lv_has ls 6 [(0, .ref (ad 11)), (1, .ref (ad 14)), (2, .int (iZ ((fr : Nat) : Int))), (3, .int (iZ ((tt : Nat) : Int))), (4, .int (iZ ((2 ^ (i - fr) : Nat) : Int))), (5, .int (iZ ((i : Nat) : Int)))] → W p l e (zRm 2 87) s m ([.ref (ad 11), .ref (ad 14), .int (iZ ((fr : Nat) : Int)), .int (iZ ((tt : Nat) : Int))] : List Value).toArray below meth c H locs 0 0 (MQ below (va_Qi (fun r w => ∃ (L sq : Nat → Int), r = iZ ((2 ^ (tt - fr) : Nat) : Int) ∧ w = wdC ad cI cZ cL J rd pr (G.1, G.2.1, G.2.2.1, G.2.2.2.1, L, sq) K tl ∧ su_O L (2 ^ (tt - fr)) ∧ su_R G.1 fr (tt - fr) L (2 ^ (tt - fr)) ∧ (∀ j, j < 2 ^ (tt - fr) → 0 ≤ L j ∧ L j ≤ 8000)) (zB9 D classes (wdC ad cI cZ cL J rd pr G K tl)) A) ([.ref (ad 11), .ref (ad 14), .int (iZ ((fr : Nat) : Int)), .int (iZ ((tt : Nat) : Int))] : List Value).toArray s 0 0 A) (F0 m 10 ls []) := by
    intro N10
    induction N10 with
    | zero =>
      intro i L sq H locs ls hi hLO hLR hLb hN10 hP hD hS hl
      exact absurd hN10 (Nat.not_lt_zero _)
    | succ N10 ih10 =>
      intro i L sq H locs ls hi hLO hLR hLb hN10 hP hD hS hl
      refine lv_iload hx hb d_H_fillSums_10 (lv_at hl 5 rfl) ?_
      refine lv_iload_n hx hb d_H_fillSums_12 rfl (lv_at hl 3 rfl) ?_
      refine z_icmp_ge (a := ((i : Nat) : Int)) (b := ((tt : Nat) : Int)) (tgt := 42) hx hb (by omega) d_H_fillSums_13 (by decide) (fun q13 => ?_) (fun q13 => ?_)
      · skip
        refine lv_iload hx hb d_H_fillSums_42 (lv_at hl 4 rfl) ?_
        exact z_iret Z hP hS d_H_fillSums_44 wdC_map (by have e : i = tt := (by omega); rw [e] at hLO hLR hLb; exact ⟨L, sq, by rw [e], rfl, hLO, hLR, fun j hj => (by have := hLb j hj; omega)⟩)
      · skip
        have hpw : 2 ^ (i - fr) ≤ 128 := two_le (show i - fr ≤ 7 by omega)
        have hpe : 2 ^ (i + 1 - fr) = 2 * 2 ^ (i - fr) := by rw [show i + 1 - fr = (i - fr) + 1 by omega, Nat.pow_succ, Nat.mul_comm]
        refine lv_aload_n hx hb d_H_fillSums_16 rfl (lv_at hl 0 rfl) ?_
        refine lv_aload_n hx hb d_H_fillSums_17 rfl (lv_at hl 1 rfl) ?_
        refine lv_iload hx hb d_H_fillSums_18 (lv_at hl 4 rfl) ?_
        refine lv_aload_n hx hb d_H_fillSums_20 rfl (lv_at hl 0 rfl) ?_
        refine va_get (D := D) (ci := 3) (v := .ref (ad 12)) (C := n_H) (T := f_H) (N := 6) hx hb hts in_H hown hK hP 11 rfl rfl 0 (by decide) (hts _ fl_H_9) (fun _ h9 => h9) rfl d_H_fillSums_21 ?_
        refine lv_iload hx hb d_H_fillSums_24 (lv_at hl 5 rfl) ?_
        refine z_iald (f := G.1) hx hb hK hP 12 0 rfl rfl (i) (by omega) d_H_fillSums_26 ?_
        refine z_kv (z_runV (As := [.ref (ad 14), .int (iZ ((2 ^ (i - fr) : Nat) : Int)), .int (iZ (G.1 (i)))]) (rest := []) zTB Z (k_H_addWeight_hi (cnt := 2 ^ (i - fr)) (wg := G.1 i) (M := 1000 * ((i - fr : Nat) : Int)) (by have := hwt i (by omega); omega) hLO hLb) ⟨ml_H_35, im_H_addWeight, se_H_addWeight, ini_H, co_H_addWeight⟩ zd_H_addWeight ⟨Nat.le_of_ble_eq_true rfl, Nat.le_of_ble_eq_true rfl⟩ hP hK hD (ci := 3) (q0 := 11) rfl rfl rfl hl.1 rfl (Nat.le_of_ble_eq_true rfl) d_H_fillSums_27 ⟨Nat.zero_le _, Nat.zero_le _⟩) hD hS hA (fun w9 H locs hp9 hP hD hS => ?_)
        obtain ⟨L1, sq1, rfl, hO1, hb1, hs1⟩ := hp9
        have hP : va_P D classes (wdC ad cI cZ cL J rd pr (G.1, G.2.1, G.2.2.1, G.2.2.2.1, L1, sq1) K tl) H := hP
        have hD : va_D A (wdC ad cI cZ cL J rd pr (G.1, G.2.1, G.2.2.1, G.2.2.2.1, L1, sq1) K tl) := hD
        refine W.eq (g2 := F0 m 30 ls []) rfl ?_
        refine lv_iload hx hb d_H_fillSums_30 (lv_at hl 4 rfl) ?_
        refine lv_iconst (v := iZ ((2 : Nat) : Int)) hx hb d_H_fillSums_32 (by decide) ?_
        refine z_imulN (u := 2 ^ (i - fr)) (v := 2) hx hb d_H_fillSums_33 ?_
        refine lv_istore (lv' := [(4, .int (iZ (((2 ^ (i - fr)) * 2 : Nat) : Int))), (0, .ref (ad 11)), (1, .ref (ad 14)), (2, .int (iZ ((fr : Nat) : Int))), (3, .int (iZ ((tt : Nat) : Int))), (5, .int (iZ ((i : Nat) : Int)))]) hx hb d_H_fillSums_34 hl (by decide) rfl (fun ls hl => ?_)
        refine lv_iinc (v := iZ ((i + 1 : Nat) : Int)) (lv' := [(5, .int (iZ ((i + 1 : Nat) : Int))), (4, .int (iZ (((2 ^ (i - fr)) * 2 : Nat) : Int))), (0, .ref (ad 11)), (1, .ref (ad 14)), (2, .int (iZ ((fr : Nat) : Int))), (3, .int (iZ ((tt : Nat) : Int)))]) hx hb d_H_fillSums_36 hl (k := 5) rfl (iZ_inc (i) 1) (by decide) rfl (fun ls hl => ?_)
        refine lv_goto (tgt := 10) hx hb d_H_fillSums_39 (by decide) ?_
        exact ih10 (i + 1) L1 sq1 H locs ls (by omega) (by rw [hpe]; exact hO1) (by rw [hpe, show i + 1 - fr = (i - fr) + 1 by omega]; exact su_R_s hLR (fun f => by rw [hs1 f, show fr + (i - fr) = i by omega])) (by rw [hpe]; intro j hj; have := hb1 j hj; omega) (by omega) hP hD hS (lv_sub hl [2, 3, 4, 5, 1, 0] (by rw [show (2 ^ ((i + 1) - fr)) = ((2 ^ (i - fr)) * 2) from by rw [hpe, Nat.mul_comm]]; rfl))
  exact L10 (tt - fr + 1) fr (zu (G.2.2.2.2.1) 0 ((0 : Nat) : Int)) G.2.2.2.2.2 H locs ls (by omega) (by rw [Nat.sub_self]; intro a b h1 h2; rw [show a = b by omega]; exact Int.le_refl _) (by rw [Nat.sub_self]; exact su_R_0 _ _ (zu_s _ _ _)) (by rw [Nat.sub_self]; intro j hj; rw [show j = 0 by omega, zu_s]; omega) (by omega) hP hD hS (lv_sub hl [2, 3, 4, 5, 1, 0] (by rw [show (2 ^ (fr - fr)) = (1) from by rw [Nat.sub_self]]; rfl))

