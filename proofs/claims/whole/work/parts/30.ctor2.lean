set_option maxHeartbeats 4000000 in
set_option maxRecDepth 100000 in
theorem k_C_init {l : Launch} {D : va_G} {cI cZ cL : ClassId} {q0 : Nat}  : zMc l D (tysW cI cZ cL) y_C_init w_C_init 1 20 1 64 [.ref (q0)] [(q0, .inr (2, [.null]))] (fun w => ∃ (q1 : Nat), w = [(q0, .inr (2, [.ref (q1)])), (q1, .inl (cI, 64, .inl (zA (rf 64))))]) := by
  refine z_ofC (by decide) (Nat.le_of_ble_eq_true rfl) ?_
  intro p e s m below meth c A ls Z hin hP hK hD hS hA hl
  obtain ⟨hx, hb, hr, hml, hown, hts, hE, hlocks⟩ := id Z
  have hl : lv_has ls 2 [(0, .ref (q0))] := hl
  suffices K9 : ∀ (H : Heap) (locs : List Loc), va_P D classes [(q0, .inr (2, [.null]))] H → va_D A [(q0, .inr (2, [.null]))] → va_S A s.heap H locs → W p l e (zRc 1 20 1 64) s m ([.ref (q0)] : List Value).toArray below meth c H locs 0 0 (MQ below (va_Qv (fun w => ∃ (q1 : Nat), w = [(q0, .inr (2, [.ref (q1)])), (q1, .inl (cI, 64, .inl (zA (rf 64))))]) (fun w t => va_P D classes w t.heap ∧ va_D A w) A) ([.ref (q0)] : List Value).toArray s 1 64 A) (F0 m 0 ls []) from K9 s.heap [] hP hD hS
  clear hP hD hS
  intro H locs hP hD hS
  refine lv_aload_n hx hb d_C_init_0 rfl (lv_at hl 0 rfl) ?_
  refine W.objInit hx hb hown (hts _ ml_C_3) (hts _ im_Object_init) (hts _ co_Object_init) rfl (by rw [hml]; exact hl.1) rfl d_C_init_1 (Nat.le_of_ble_eq_true rfl) (Nat.le_of_ble_eq_true rfl) ?_
  refine W.eq (g2 := F0 m 4 ls []) rfl ?_
  refine lv_aload_n hx hb d_C_init_4 rfl (lv_at hl 0 rfl) ?_
  refine lv_bipush (v := iZ ((64 : Nat) : Int)) hx hb d_C_init_5 (by decide) ?_
  refine z_newa (atype := .int) (ty := .int) (a0 := (64, .inl (zA (fun _ => 0)))) hx hb (hts _ arr_int) rfl hK hP hD hS hA 0 rfl (fun _ h9 => h9) (ha_A 64) (by decide) cb_int (by decide) (Nat.le_of_ble_eq_true rfl) (Nat.le_of_ble_eq_true rfl) d_C_init_7 (fun q1 H hP hD hS => ?_)
  have hP : va_P D classes [(q0, .inr (2, [.null])), (q1, .inl (cI, 64, .inl (zA (fun _ => 0))))] H := hP
  have hD : va_D A [(q0, .inr (2, [.null])), (q1, .inl (cI, 64, .inl (zA (fun _ => 0))))] := hD
  refine va_putF (D := D) (ci := 2) (v := .ref (q1)) (ty := (ty_C 0)) (C := n_C) (T := f_C) (N := 1) hx hb hts in_C ty_C tyo_C nm_C hown hK hP hD hS 0 rfl rfl 0 (by decide) (hts _ fl_C_9) (fun _ h9 => h9) (by decide +kernel) hin (by decide +kernel) (by decide +kernel) rfl rfl (Nat.le_of_ble_eq_true rfl) d_C_init_9 (fun H locs hP hD hS => ?_)
  have hP : va_P D classes [(q0, .inr (2, [.ref (q1)])), (q1, .inl (cI, 64, .inl (zA (fun _ => 0))))] H := hP
  have hD : va_D A [(q0, .inr (2, [.ref (q1)])), (q1, .inl (cI, 64, .inl (zA (fun _ => 0))))] := hD
  refine lv_iconst (v := iZ ((0 : Nat) : Int)) hx hb d_C_init_12 (by decide) ?_
  refine lv_istore_n (lv' := [(1, .int (iZ ((0 : Nat) : Int))), (0, .ref (q0))]) hx hb d_C_init_13 rfl hl (by decide) rfl (fun ls hl => ?_)
  have hL : ∀ (N9 i : Nat) (H : Heap) (locs : List Loc) (ls : Array Slot), i ≤ 64 → 64 - i < N9 → va_P D classes [(q0, .inr (2, [.ref (q1)])), (q1, .inl (cI, 64, .inl (zA (rf i))))] H → va_D A [(q0, .inr (2, [.ref (q1)])), (q1, .inl (cI, 64, .inl (zA (rf i))))] → va_S A s.heap H locs → lv_has ls 2 [(1, .int (iZ ((i : Nat) : Int))), (0, .ref (q0))] → W p l e (zRc 1 20 1 64) s m ([.ref (q0)] : List Value).toArray below meth c H locs 1 64 (MQ below (va_Qv (fun w => ∃ (q1 : Nat), w = [(q0, .inr (2, [.ref (q1)])), (q1, .inl (cI, 64, .inl (zA (rf 64))))]) (fun w t => va_P D classes w t.heap ∧ va_D A w) A) ([.ref (q0)] : List Value).toArray s 1 64 A) (F0 m 14 ls []) := by
    intro N9
    induction N9 with
    | zero =>
      intro i H locs ls hi hN
      exact absurd hN (Nat.not_lt_zero _)
    | succ N9 ih =>
      intro i H locs ls hi hN hP hD hS hl
      refine lv_iload_n hx hb d_C_init_14 rfl (lv_at hl 0 rfl) ?_
      refine lv_bipush (v := iZ ((64 : Nat) : Int)) hx hb d_C_init_15 (by decide) ?_
      refine z_icmp_ge (a := ((i : Nat) : Int)) (b := ((64 : Nat) : Int)) (tgt := 33) hx hb (by omega) d_C_init_17 (by decide) (fun hj9 => ?_) (fun hj9 => ?_)
      · have e9 : i = 64 := by omega
        subst e9
        exact z_cret Z hP hD hS d_C_init_33 ⟨q1, rfl⟩
      · refine lv_aload_n hx hb d_C_init_20 rfl (lv_at hl 1 rfl) ?_
        refine va_get (D := D) (ci := 2) (v := .ref q1) (C := n_C) (T := f_C) (N := 1) hx hb hts in_C hown hK hP 0 rfl rfl 0 (by decide) (hts _ fl_C_9) (fun _ h9 => h9) rfl d_C_init_21 ?_
        refine lv_iload_n hx hb d_C_init_24 rfl (lv_at hl 0 rfl) ?_
        refine lv_iconst (v := iZ (-1 : Int)) hx hb d_C_init_25 (by decide) ?_
        refine z_iast (f := rf i) (v := (-1 : Int)) hx hb hK hP hD hS 1 0 rfl rfl (i) (by omega) d_C_init_26 (fun H locs hP hD hS => ?_)
        rw [rf_s] at hP hD
        refine lv_iinc (v := iZ ((i + 1 : Nat) : Int)) (lv' := [(1, .int (iZ ((i + 1 : Nat) : Int))), (0, .ref (q0))]) hx hb d_C_init_27 hl (k := 0) rfl (iZ_inc (i) 1) (by decide) rfl (fun ls hl => ?_)
        refine lv_goto (tgt := 14) hx hb d_C_init_30 (by decide) ?_
        exact ih (i + 1) H locs ls (by omega) (by omega) hP hD hS (lv_sub hl [0, 1] rfl)
  rw [show (fun _ : Nat => (0 : Int)) = rf 0 from rf_0.symm] at hP hD
  exact hL 65 0 H locs ls (by omega) (by omega) hP hD hS (lv_sub hl [0, 1] rfl)

set_option maxHeartbeats 4000000 in
set_option maxRecDepth 100000 in
theorem k_H_init {l : Launch} {D : va_G} {cI cZ cL : ClassId} {q0 : Nat}  : zMc l D (tysW cI cZ cL) y_H_init w_H_init 1 20 4 784 [.ref (q0)] [(q0, .inr (3, [.null, .int 0, .int 0, .null, .null, .null]))] (fun w => ∃ (q1 q2 q3 q4 : Nat), w = [(q0, .inr (3, [.ref (q1), .int (iZ ((0 : Nat) : Int)), .int (iZ ((0 : Int))), .ref (q2), .ref (q3), .ref (q4)])), (q1, .inl (cI, 16, .inl (zA (fun _ => 0)))), (q2, .inl (cI, 256, .inl (zA (fun _ => 0)))), (q3, .inl (cI, 256, .inl (zA (fun _ => 0)))), (q4, .inl (cI, 256, .inl (zA (fun _ => 0))))]) := by
  refine z_ofC (by decide) (Nat.le_of_ble_eq_true rfl) ?_
  intro p e s m below meth c A ls Z hin hP hK hD hS hA hl
  obtain ⟨hx, hb, hr, hml, hown, hts, hE, hlocks⟩ := id Z
  have hl : lv_has ls 1 [(0, .ref (q0))] := hl
  suffices K9 : ∀ (H : Heap) (locs : List Loc), va_P D classes [(q0, .inr (3, [.null, .int 0, .int 0, .null, .null, .null]))] H → va_D A [(q0, .inr (3, [.null, .int 0, .int 0, .null, .null, .null]))] → va_S A s.heap H locs → W p l e (zRc 1 20 4 784) s m ([.ref (q0)] : List Value).toArray below meth c H locs 0 0 (MQ below (va_Qv (fun w => ∃ (q1 q2 q3 q4 : Nat), w = [(q0, .inr (3, [.ref (q1), .int (iZ ((0 : Nat) : Int)), .int (iZ ((0 : Int))), .ref (q2), .ref (q3), .ref (q4)])), (q1, .inl (cI, 16, .inl (zA (fun _ => 0)))), (q2, .inl (cI, 256, .inl (zA (fun _ => 0)))), (q3, .inl (cI, 256, .inl (zA (fun _ => 0)))), (q4, .inl (cI, 256, .inl (zA (fun _ => 0))))]) (fun w t => va_P D classes w t.heap ∧ va_D A w) A) ([.ref (q0)] : List Value).toArray s 4 784 A) (F0 m 0 ls []) from K9 s.heap [] hP hD hS
  clear hP hD hS
  intro H locs hP hD hS
  refine lv_aload_n hx hb d_H_init_0 rfl (lv_at hl 0 rfl) ?_
  refine W.objInit hx hb hown (hts _ ml_H_3) (hts _ im_Object_init) (hts _ co_Object_init) rfl (by rw [hml]; exact hl.1) rfl d_H_init_1 (Nat.le_of_ble_eq_true rfl) (Nat.le_of_ble_eq_true rfl) ?_
  refine W.eq (g2 := F0 m 4 ls []) rfl ?_
  refine lv_aload_n hx hb d_H_init_4 rfl (lv_at hl 0 rfl) ?_
  refine lv_bipush (v := iZ ((16 : Nat) : Int)) hx hb d_H_init_5 (by decide) ?_
  refine z_newa (atype := .int) (ty := .int) (a0 := (16, .inl (zA (fun _ => 0)))) hx hb (hts _ arr_int) rfl hK hP hD hS hA 0 rfl (fun _ h9 => h9) (ha_A 16) (by decide) cb_int (by decide) (Nat.le_of_ble_eq_true rfl) (Nat.le_of_ble_eq_true rfl) d_H_init_7 (fun q1 H hP hD hS => ?_)
  have hP : va_P D classes [(q0, .inr (3, [.null, .int 0, .int 0, .null, .null, .null])), (q1, .inl (cI, 16, .inl (zA (fun _ => 0))))] H := hP
  have hD : va_D A [(q0, .inr (3, [.null, .int 0, .int 0, .null, .null, .null])), (q1, .inl (cI, 16, .inl (zA (fun _ => 0))))] := hD
  refine va_putF (D := D) (ci := 3) (v := .ref (q1)) (ty := (ty_H 0)) (C := n_H) (T := f_H) (N := 6) hx hb hts in_H ty_H tyo_H nm_H hown hK hP hD hS 0 rfl rfl 0 (by decide) (hts _ fl_H_9) (fun _ h9 => h9) (by decide +kernel) hin (by decide +kernel) (by decide +kernel) rfl rfl (Nat.le_of_ble_eq_true rfl) d_H_init_9 (fun H locs hP hD hS => ?_)
  have hP : va_P D classes [(q0, .inr (3, [.ref (q1), .int 0, .int 0, .null, .null, .null])), (q1, .inl (cI, 16, .inl (zA (fun _ => 0))))] H := hP
  have hD : va_D A [(q0, .inr (3, [.ref (q1), .int 0, .int 0, .null, .null, .null])), (q1, .inl (cI, 16, .inl (zA (fun _ => 0))))] := hD
  refine lv_aload_n hx hb d_H_init_12 rfl (lv_at hl 0 rfl) ?_
  refine lv_iconst (v := iZ ((0 : Nat) : Int)) hx hb d_H_init_13 (by decide) ?_
  refine va_put (D := D) (ci := 3) (v := .int (iZ ((0 : Nat) : Int))) (ty := .int) (C := n_H) (T := f_H) (N := 6) hx hb hts in_H ty_H tyo_H nm_H hown hK hP hD hS 0 rfl rfl 1 (by decide) (hts _ fl_H_15) (fun _ h9 => h9) rfl (by decide +kernel) rfl rfl (Nat.le_of_ble_eq_true rfl) d_H_init_14 (fun H locs hP hD hS => ?_)
  have hP : va_P D classes [(q0, .inr (3, [.ref (q1), .int (iZ ((0 : Nat) : Int)), .int 0, .null, .null, .null])), (q1, .inl (cI, 16, .inl (zA (fun _ => 0))))] H := hP
  have hD : va_D A [(q0, .inr (3, [.ref (q1), .int (iZ ((0 : Nat) : Int)), .int 0, .null, .null, .null])), (q1, .inl (cI, 16, .inl (zA (fun _ => 0))))] := hD
  refine lv_aload_n hx hb d_H_init_17 rfl (lv_at hl 0 rfl) ?_
  refine lv_iconst (v := iZ ((0 : Nat) : Int)) hx hb d_H_init_18 (by decide) ?_
  refine va_put (D := D) (ci := 3) (v := .int (iZ ((0 : Nat) : Int))) (ty := .int) (C := n_H) (T := f_H) (N := 6) hx hb hts in_H ty_H tyo_H nm_H hown hK hP hD hS 0 rfl rfl 2 (by decide) (hts _ fl_H_19) (fun _ h9 => h9) rfl (by decide +kernel) rfl rfl (Nat.le_of_ble_eq_true rfl) d_H_init_19 (fun H locs hP hD hS => ?_)
  have hP : va_P D classes [(q0, .inr (3, [.ref (q1), .int (iZ ((0 : Nat) : Int)), .int (iZ ((0 : Nat) : Int)), .null, .null, .null])), (q1, .inl (cI, 16, .inl (zA (fun _ => 0))))] H := hP
  have hD : va_D A [(q0, .inr (3, [.ref (q1), .int (iZ ((0 : Nat) : Int)), .int (iZ ((0 : Nat) : Int)), .null, .null, .null])), (q1, .inl (cI, 16, .inl (zA (fun _ => 0))))] := hD
  refine lv_aload_n hx hb d_H_init_22 rfl (lv_at hl 0 rfl) ?_
  refine lv_sipush (v := iZ ((256 : Nat) : Int)) hx hb d_H_init_23 (by decide) ?_
  refine z_newa (atype := .int) (ty := .int) (a0 := (256, .inl (zA (fun _ => 0)))) hx hb (hts _ arr_int) rfl hK hP hD hS hA 0 rfl (fun _ h9 => h9) (ha_A 256) (by decide) cb_int (by decide) (Nat.le_of_ble_eq_true rfl) (Nat.le_of_ble_eq_true rfl) d_H_init_26 (fun q2 H hP hD hS => ?_)
  have hP : va_P D classes [(q0, .inr (3, [.ref (q1), .int (iZ ((0 : Nat) : Int)), .int (iZ ((0 : Nat) : Int)), .null, .null, .null])), (q1, .inl (cI, 16, .inl (zA (fun _ => 0)))), (q2, .inl (cI, 256, .inl (zA (fun _ => 0))))] H := hP
  have hD : va_D A [(q0, .inr (3, [.ref (q1), .int (iZ ((0 : Nat) : Int)), .int (iZ ((0 : Nat) : Int)), .null, .null, .null])), (q1, .inl (cI, 16, .inl (zA (fun _ => 0)))), (q2, .inl (cI, 256, .inl (zA (fun _ => 0))))] := hD
  refine va_putF (D := D) (ci := 3) (v := .ref (q2)) (ty := (ty_H 3)) (C := n_H) (T := f_H) (N := 6) hx hb hts in_H ty_H tyo_H nm_H hown hK hP hD hS 0 rfl rfl 3 (by decide) (hts _ fl_H_22) (fun _ h9 => h9) (by decide +kernel) hin (by decide +kernel) (by decide +kernel) rfl rfl (Nat.le_of_ble_eq_true rfl) d_H_init_28 (fun H locs hP hD hS => ?_)
  have hP : va_P D classes [(q0, .inr (3, [.ref (q1), .int (iZ ((0 : Nat) : Int)), .int (iZ ((0 : Nat) : Int)), .ref (q2), .null, .null])), (q1, .inl (cI, 16, .inl (zA (fun _ => 0)))), (q2, .inl (cI, 256, .inl (zA (fun _ => 0))))] H := hP
  have hD : va_D A [(q0, .inr (3, [.ref (q1), .int (iZ ((0 : Nat) : Int)), .int (iZ ((0 : Nat) : Int)), .ref (q2), .null, .null])), (q1, .inl (cI, 16, .inl (zA (fun _ => 0)))), (q2, .inl (cI, 256, .inl (zA (fun _ => 0))))] := hD
  refine lv_aload_n hx hb d_H_init_31 rfl (lv_at hl 0 rfl) ?_
  refine lv_sipush (v := iZ ((256 : Nat) : Int)) hx hb d_H_init_32 (by decide) ?_
  refine z_newa (atype := .int) (ty := .int) (a0 := (256, .inl (zA (fun _ => 0)))) hx hb (hts _ arr_int) rfl hK hP hD hS hA 0 rfl (fun _ h9 => h9) (ha_A 256) (by decide) cb_int (by decide) (Nat.le_of_ble_eq_true rfl) (Nat.le_of_ble_eq_true rfl) d_H_init_35 (fun q3 H hP hD hS => ?_)
  have hP : va_P D classes [(q0, .inr (3, [.ref (q1), .int (iZ ((0 : Nat) : Int)), .int (iZ ((0 : Nat) : Int)), .ref (q2), .null, .null])), (q1, .inl (cI, 16, .inl (zA (fun _ => 0)))), (q2, .inl (cI, 256, .inl (zA (fun _ => 0)))), (q3, .inl (cI, 256, .inl (zA (fun _ => 0))))] H := hP
  have hD : va_D A [(q0, .inr (3, [.ref (q1), .int (iZ ((0 : Nat) : Int)), .int (iZ ((0 : Nat) : Int)), .ref (q2), .null, .null])), (q1, .inl (cI, 16, .inl (zA (fun _ => 0)))), (q2, .inl (cI, 256, .inl (zA (fun _ => 0)))), (q3, .inl (cI, 256, .inl (zA (fun _ => 0))))] := hD
  refine va_putF (D := D) (ci := 3) (v := .ref (q3)) (ty := (ty_H 4)) (C := n_H) (T := f_H) (N := 6) hx hb hts in_H ty_H tyo_H nm_H hown hK hP hD hS 0 rfl rfl 4 (by decide) (hts _ fl_H_25) (fun _ h9 => h9) (by decide +kernel) hin (by decide +kernel) (by decide +kernel) rfl rfl (Nat.le_of_ble_eq_true rfl) d_H_init_37 (fun H locs hP hD hS => ?_)
  have hP : va_P D classes [(q0, .inr (3, [.ref (q1), .int (iZ ((0 : Nat) : Int)), .int (iZ ((0 : Nat) : Int)), .ref (q2), .ref (q3), .null])), (q1, .inl (cI, 16, .inl (zA (fun _ => 0)))), (q2, .inl (cI, 256, .inl (zA (fun _ => 0)))), (q3, .inl (cI, 256, .inl (zA (fun _ => 0))))] H := hP
  have hD : va_D A [(q0, .inr (3, [.ref (q1), .int (iZ ((0 : Nat) : Int)), .int (iZ ((0 : Nat) : Int)), .ref (q2), .ref (q3), .null])), (q1, .inl (cI, 16, .inl (zA (fun _ => 0)))), (q2, .inl (cI, 256, .inl (zA (fun _ => 0)))), (q3, .inl (cI, 256, .inl (zA (fun _ => 0))))] := hD
  refine lv_aload_n hx hb d_H_init_40 rfl (lv_at hl 0 rfl) ?_
  refine lv_sipush (v := iZ ((256 : Nat) : Int)) hx hb d_H_init_41 (by decide) ?_
  refine z_newa (atype := .int) (ty := .int) (a0 := (256, .inl (zA (fun _ => 0)))) hx hb (hts _ arr_int) rfl hK hP hD hS hA 0 rfl (fun _ h9 => h9) (ha_A 256) (by decide) cb_int (by decide) (Nat.le_of_ble_eq_true rfl) (Nat.le_of_ble_eq_true rfl) d_H_init_44 (fun q4 H hP hD hS => ?_)
  have hP : va_P D classes [(q0, .inr (3, [.ref (q1), .int (iZ ((0 : Nat) : Int)), .int (iZ ((0 : Nat) : Int)), .ref (q2), .ref (q3), .null])), (q1, .inl (cI, 16, .inl (zA (fun _ => 0)))), (q2, .inl (cI, 256, .inl (zA (fun _ => 0)))), (q3, .inl (cI, 256, .inl (zA (fun _ => 0)))), (q4, .inl (cI, 256, .inl (zA (fun _ => 0))))] H := hP
  have hD : va_D A [(q0, .inr (3, [.ref (q1), .int (iZ ((0 : Nat) : Int)), .int (iZ ((0 : Nat) : Int)), .ref (q2), .ref (q3), .null])), (q1, .inl (cI, 16, .inl (zA (fun _ => 0)))), (q2, .inl (cI, 256, .inl (zA (fun _ => 0)))), (q3, .inl (cI, 256, .inl (zA (fun _ => 0)))), (q4, .inl (cI, 256, .inl (zA (fun _ => 0))))] := hD
  refine va_putF (D := D) (ci := 3) (v := .ref (q4)) (ty := (ty_H 5)) (C := n_H) (T := f_H) (N := 6) hx hb hts in_H ty_H tyo_H nm_H hown hK hP hD hS 0 rfl rfl 5 (by decide) (hts _ fl_H_28) (fun _ h9 => h9) (by decide +kernel) hin (by decide +kernel) (by decide +kernel) rfl rfl (Nat.le_of_ble_eq_true rfl) d_H_init_46 (fun H locs hP hD hS => ?_)
  have hP : va_P D classes [(q0, .inr (3, [.ref (q1), .int (iZ ((0 : Nat) : Int)), .int (iZ ((0 : Nat) : Int)), .ref (q2), .ref (q3), .ref (q4)])), (q1, .inl (cI, 16, .inl (zA (fun _ => 0)))), (q2, .inl (cI, 256, .inl (zA (fun _ => 0)))), (q3, .inl (cI, 256, .inl (zA (fun _ => 0)))), (q4, .inl (cI, 256, .inl (zA (fun _ => 0))))] H := hP
  have hD : va_D A [(q0, .inr (3, [.ref (q1), .int (iZ ((0 : Nat) : Int)), .int (iZ ((0 : Nat) : Int)), .ref (q2), .ref (q3), .ref (q4)])), (q1, .inl (cI, 16, .inl (zA (fun _ => 0)))), (q2, .inl (cI, 256, .inl (zA (fun _ => 0)))), (q3, .inl (cI, 256, .inl (zA (fun _ => 0)))), (q4, .inl (cI, 256, .inl (zA (fun _ => 0))))] := hD
  exact z_cret Z hP hD hS d_H_init_49 ⟨q1, q2, q3, q4, rfl⟩

set_option maxHeartbeats 4000000 in
set_option maxRecDepth 100000 in
theorem k_K_init {l : Launch} {D : va_G} {cI cZ cL : ClassId} {q0 : Nat}  : zMc l D (tysW cI cZ cL) y_K_init w_K_init 1 20 1 33 [.ref (q0)] [(q0, .inr (4, [.null, .int 0, .long 0, .long 0]))] (fun w => ∃ (q1 : Nat), w = [(q0, .inr (4, [.ref (q1), .int (iZ ((1 : Nat) : Int)), .long (lZ ((0 : Nat) : Int)), .long (lZ ((1 : Nat) : Int))])), (q1, .inl (cL, 33, .inr (.inl (zLN (fun _ => 0)))))]) := by
  refine z_ofC (by decide) (Nat.le_of_ble_eq_true rfl) ?_
  intro p e s m below meth c A ls Z hin hP hK hD hS hA hl
  obtain ⟨hx, hb, hr, hml, hown, hts, hE, hlocks⟩ := id Z
  have hl : lv_has ls 1 [(0, .ref (q0))] := hl
  suffices K9 : ∀ (H : Heap) (locs : List Loc), va_P D classes [(q0, .inr (4, [.null, .int 0, .long 0, .long 0]))] H → va_D A [(q0, .inr (4, [.null, .int 0, .long 0, .long 0]))] → va_S A s.heap H locs → W p l e (zRc 1 20 1 33) s m ([.ref (q0)] : List Value).toArray below meth c H locs 0 0 (MQ below (va_Qv (fun w => ∃ (q1 : Nat), w = [(q0, .inr (4, [.ref (q1), .int (iZ ((1 : Nat) : Int)), .long (lZ ((0 : Nat) : Int)), .long (lZ ((1 : Nat) : Int))])), (q1, .inl (cL, 33, .inr (.inl (zLN (fun _ => 0)))))]) (fun w t => va_P D classes w t.heap ∧ va_D A w) A) ([.ref (q0)] : List Value).toArray s 1 33 A) (F0 m 0 ls []) from K9 s.heap [] hP hD hS
  clear hP hD hS
  intro H locs hP hD hS
  refine lv_aload_n hx hb d_K_init_0 rfl (lv_at hl 0 rfl) ?_
  refine W.objInit hx hb hown (hts _ ml_K_3) (hts _ im_Object_init) (hts _ co_Object_init) rfl (by rw [hml]; exact hl.1) rfl d_K_init_1 (Nat.le_of_ble_eq_true rfl) (Nat.le_of_ble_eq_true rfl) ?_
  refine W.eq (g2 := F0 m 4 ls []) rfl ?_
  refine lv_aload_n hx hb d_K_init_4 rfl (lv_at hl 0 rfl) ?_
  refine lv_bipush (v := iZ ((33 : Nat) : Int)) hx hb d_K_init_5 (by decide) ?_
  refine z_newa (atype := .long) (ty := .long) (a0 := (33, .inr (.inl (zLN (fun _ => 0))))) hx hb (hts _ arr_long) rfl hK hP hD hS hA 2 rfl (fun _ h9 => h9) (ha_LN 33) (by decide) cb_long (by decide) (Nat.le_of_ble_eq_true rfl) (Nat.le_of_ble_eq_true rfl) d_K_init_7 (fun q1 H hP hD hS => ?_)
  have hP : va_P D classes [(q0, .inr (4, [.null, .int 0, .long 0, .long 0])), (q1, .inl (cL, 33, .inr (.inl (zLN (fun _ => 0)))))] H := hP
  have hD : va_D A [(q0, .inr (4, [.null, .int 0, .long 0, .long 0])), (q1, .inl (cL, 33, .inr (.inl (zLN (fun _ => 0)))))] := hD
  refine va_putF (D := D) (ci := 4) (v := .ref (q1)) (ty := (ty_K 0)) (C := n_K) (T := f_K) (N := 4) hx hb hts in_K ty_K tyo_K nm_K hown hK hP hD hS 0 rfl rfl 0 (by decide) (hts _ fl_K_9) (fun _ h9 => h9) (by decide +kernel) hin (by decide +kernel) (by decide +kernel) rfl rfl (Nat.le_of_ble_eq_true rfl) d_K_init_9 (fun H locs hP hD hS => ?_)
  have hP : va_P D classes [(q0, .inr (4, [.ref (q1), .int 0, .long 0, .long 0])), (q1, .inl (cL, 33, .inr (.inl (zLN (fun _ => 0)))))] H := hP
  have hD : va_D A [(q0, .inr (4, [.ref (q1), .int 0, .long 0, .long 0])), (q1, .inl (cL, 33, .inr (.inl (zLN (fun _ => 0)))))] := hD
  refine lv_aload_n hx hb d_K_init_12 rfl (lv_at hl 0 rfl) ?_
  refine lv_iconst (v := iZ ((1 : Nat) : Int)) hx hb d_K_init_13 (by decide) ?_
  refine va_put (D := D) (ci := 4) (v := .int (iZ ((1 : Nat) : Int))) (ty := .int) (C := n_K) (T := f_K) (N := 4) hx hb hts in_K ty_K tyo_K nm_K hown hK hP hD hS 0 rfl rfl 1 (by decide) (hts _ fl_K_15) (fun _ h9 => h9) rfl (by decide +kernel) rfl rfl (Nat.le_of_ble_eq_true rfl) d_K_init_14 (fun H locs hP hD hS => ?_)
  have hP : va_P D classes [(q0, .inr (4, [.ref (q1), .int (iZ ((1 : Nat) : Int)), .long 0, .long 0])), (q1, .inl (cL, 33, .inr (.inl (zLN (fun _ => 0)))))] H := hP
  have hD : va_D A [(q0, .inr (4, [.ref (q1), .int (iZ ((1 : Nat) : Int)), .long 0, .long 0])), (q1, .inl (cL, 33, .inr (.inl (zLN (fun _ => 0)))))] := hD
  refine lv_aload_n hx hb d_K_init_17 rfl (lv_at hl 0 rfl) ?_
  refine lv_lconst (v := lZ ((0 : Nat) : Int)) hx hb d_K_init_18 (by decide) ?_
  refine va_put (D := D) (ci := 4) (v := .long (lZ ((0 : Nat) : Int))) (ty := .long) (C := n_K) (T := f_K) (N := 4) hx hb hts in_K ty_K tyo_K nm_K hown hK hP hD hS 0 rfl rfl 2 (by decide) (hts _ fl_K_19) (fun _ h9 => h9) rfl (by decide +kernel) rfl rfl (Nat.le_of_ble_eq_true rfl) d_K_init_19 (fun H locs hP hD hS => ?_)
  have hP : va_P D classes [(q0, .inr (4, [.ref (q1), .int (iZ ((1 : Nat) : Int)), .long (lZ ((0 : Nat) : Int)), .long 0])), (q1, .inl (cL, 33, .inr (.inl (zLN (fun _ => 0)))))] H := hP
  have hD : va_D A [(q0, .inr (4, [.ref (q1), .int (iZ ((1 : Nat) : Int)), .long (lZ ((0 : Nat) : Int)), .long 0])), (q1, .inl (cL, 33, .inr (.inl (zLN (fun _ => 0)))))] := hD
  refine lv_aload_n hx hb d_K_init_22 rfl (lv_at hl 0 rfl) ?_
  refine lv_lconst (v := lZ ((1 : Nat) : Int)) hx hb d_K_init_23 (by decide) ?_
  refine va_put (D := D) (ci := 4) (v := .long (lZ ((1 : Nat) : Int))) (ty := .long) (C := n_K) (T := f_K) (N := 4) hx hb hts in_K ty_K tyo_K nm_K hown hK hP hD hS 0 rfl rfl 3 (by decide) (hts _ fl_K_23) (fun _ h9 => h9) rfl (by decide +kernel) rfl rfl (Nat.le_of_ble_eq_true rfl) d_K_init_24 (fun H locs hP hD hS => ?_)
  have hP : va_P D classes [(q0, .inr (4, [.ref (q1), .int (iZ ((1 : Nat) : Int)), .long (lZ ((0 : Nat) : Int)), .long (lZ ((1 : Nat) : Int))])), (q1, .inl (cL, 33, .inr (.inl (zLN (fun _ => 0)))))] H := hP
  have hD : va_D A [(q0, .inr (4, [.ref (q1), .int (iZ ((1 : Nat) : Int)), .long (lZ ((0 : Nat) : Int)), .long (lZ ((1 : Nat) : Int))])), (q1, .inl (cL, 33, .inr (.inl (zLN (fun _ => 0)))))] := hD
  exact z_cret Z hP hD hS d_K_init_27 ⟨q1, rfl⟩

