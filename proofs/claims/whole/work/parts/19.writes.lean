/-! The writing methods. -/
section ZLR
variable {p : Program} {l : Launch} {e : Env} {R : Room} {s : State} {m : MethodId} {args : Array Value} {below : List Frame} {meth : Method} {c : Code} {H : Heap} {locs : List Loc} {cells slots : Nat} {Q : State → Prop}
variable {cc : ByteArray} {pc : Nat} {ls : Array Slot} {rest : List Value}
theorem z_lcmpR_eq (hx : p.tables.exec = Jvm.exec) (hb : c.code = cc) {x y : Int64} {off : Int} {tgt pc1 pc4 : Nat} (hdg : decode cc pc = .ok (.lcmp, 1)) (h1 : pc1 = pc + 1) (h4 : pc4 = pc + 4) (hdg2 : decode cc pc1 = .ok (.ifCond .eq off, 3)) (ht : (pc1 : Int) + off = (tgt : Int)) (kt : x = y → W p l e R s m args below meth c H locs cells slots Q (F0 m tgt ls rest)) (kf : ¬ x = y → W p l e R s m args below meth c H locs cells slots Q (F0 m pc4 ls rest)) : W p l e R s m args below meth c H locs cells slots Q (F0 m pc ls (.long y :: .long x :: rest)) := by
  subst h1; subst h4
  exact W.lcmp hx hb hdg (lv_if_eq hx hb hdg2 ht (fun q => kt ((lg_cmp_eq _ _).mp q)) (fun q => kf (fun h => q ((lg_cmp_eq _ _).mpr h))))
theorem z_lcmpR_ne (hx : p.tables.exec = Jvm.exec) (hb : c.code = cc) {x y : Int64} {off : Int} {tgt pc1 pc4 : Nat} (hdg : decode cc pc = .ok (.lcmp, 1)) (h1 : pc1 = pc + 1) (h4 : pc4 = pc + 4) (hdg2 : decode cc pc1 = .ok (.ifCond .ne off, 3)) (ht : (pc1 : Int) + off = (tgt : Int)) (kt : ¬ x = y → W p l e R s m args below meth c H locs cells slots Q (F0 m tgt ls rest)) (kf : x = y → W p l e R s m args below meth c H locs cells slots Q (F0 m pc4 ls rest)) : W p l e R s m args below meth c H locs cells slots Q (F0 m pc ls (.long y :: .long x :: rest)) := by
  subst h1; subst h4
  exact W.lcmp hx hb hdg (lv_if_ne hx hb hdg2 ht (fun q => kt (fun h => q ((lg_cmp_eq _ _).mpr h))) (fun q => kf ((lg_cmp_eq _ _).mp q)))
end ZLR
theorem wdC_map {ad : Nat → Nat} {cI cZ cL : ClassId} {J J' : SJ} {rd rd' : Nat → Int} {pr pr' : Nat → Nat} {G G' : SH} {K K' : SK} {tl : va_W} : (wdC ad cI cZ cL J rd pr G K tl).map (·.1) = (wdC ad cI cZ cL J' rd' pr' G' K' tl).map (·.1) := rfl
/-- the next state of the draw, and its bit -/
def sDr (x : Int64) : Int64 := x * 6364136223846793005 + 1442695040888963407
def sBt (x : Int64) : Bool := x.toBitVec.getLsbD 40
theorem sBt_l (x : Int64) : ((x.toUInt64 >>> ((iZ ((40 : Nat) : Int)).toInt64.toUInt64 &&& Int64.toUInt64 63)).toInt64 &&& lZ ((1 : Nat) : Int)) = lZ ((1 : Nat) : Int) ↔ sBt x = true := by
  unfold sBt
  rw [← Int64.toBitVec_inj]
  have e1 : ((x.toUInt64 >>> ((iZ ((40 : Nat) : Int)).toInt64.toUInt64 &&& Int64.toUInt64 63)).toInt64 &&& lZ ((1 : Nat) : Int)).toBitVec = (x.toBitVec >>> 40) &&& 1#64 := rfl
  have e2 : (lZ ((1 : Nat) : Int)).toBitVec = 1#64 := rfl
  rw [e1, e2]
  generalize x.toBitVec = v
  constructor
  · intro h
    have h3 := congrArg (fun w : BitVec 64 => w.getLsbD 0) h
    simpa using h3
  · intro h
    apply BitVec.eq_of_getLsbD_eq
    intro i hi
    cases i with
    | zero => simpa using h
    | succ i => simp [BitVec.getLsbD_one]
def sAP (J : SJ) (f se sh : Nat) : SJ := (jx J, jn J, jk J + 1, jop J, jou J, jdv J, jct J, nu (jdh J) (jk J) (if jdv J f = true then f else se), nu (jph J) (jk J) (if jdv J f = true then se else f), nu (jsp J) (jk J) sh)
def sH1 (J : SJ) (sh : Nat) : SJ := (sDr (jx J), jn J + 1, jk J, zu (jop J) sh ((jn J : Nat) : Int), jou J, zub (jdv J) (jn J) (sBt (sDr (jx J))), jct J, jdh J, jph J, jsp J)
def sH2 (J : SJ) (sh f : Nat) : SJ := sAP (jx J, jn J + 1, jk J, zu (jop J) sh (-1), jou J, zub (jdv J) (jn J) (!(jdv J f)), jct J, jdh J, jph J, jsp J) f (jn J) sh
def sPC9 (J : SJ) (j v : Nat) : SJ := (jx J, jn J, jk J, jop J, jou J, jdv J, nu (jct J) j v, jdh J, jph J, jsp J)
def sLO (J : SJ) (sh : Nat) (on : Bool) : SJ := (jx J, jn J, jk J, jop J, zub (jou J) sh on, jdv J, jct J, jdh J, jph J, jsp J)
theorem bI_eq {a b : Bool} (h : bI a = bI b) : (a != b) = false := by
  cases a <;> cases b <;> first | rfl | (exact absurd h (by decide))
theorem bI_ne {a b : Bool} (h : ¬ bI a = bI b) : (a != b) = true := by
  cases a <;> cases b <;> first | rfl | (exact absurd rfl h)
set_option maxHeartbeats 4000000 in
set_option maxRecDepth 100000 in
theorem k_J_drawArm {l : Launch} {D : va_G} {ad : Nat → Nat} {cI cZ cL : ClassId} {J : SJ} {rd : Nat → Int} {pr : Nat → Nat} {G : SH} {K : SK} {tl : va_W} : zMi l TB D classes (tysW cI cZ cL) y_J_drawArm w_J_drawArm 0 0 [.ref (ad 1)] (wdC ad cI cZ cL J rd pr G K tl) (fun r w => r = bI (sBt (sDr (jx J))) ∧ w = wdC ad cI cZ cL (sDr (jx J), jn J, jk J, jop J, jou J, jdv J, jct J, jdh J, jph J, jsp J) rd pr G K tl) := by
  refine z_of (Qc := fun A => va_Qi (fun r w => r = bI (sBt (sDr (jx J))) ∧ w = wdC ad cI cZ cL (sDr (jx J), jn J, jk J, jop J, jou J, jdv J, jct J, jdh J, jph J, jsp J) rd pr G K tl) (zB9 D classes (wdC ad cI cZ cL J rd pr G K tl)) A) (by decide) (Nat.le_of_ble_eq_true rfl) ?_
  intro p e s m below meth c A ls Z hP hK hD hS hA hl
  obtain ⟨hx, hb, hr, hml, hown, hts, hE, hlocks⟩ := id Z
  have hl : lv_has ls 1 [(0, .ref (ad 1))] := hl
  suffices K9 : ∀ (H : Heap) (locs : List Loc) (ls : Array Slot), va_P D classes (wdC ad cI cZ cL J rd pr G K tl) H → va_D A (wdC ad cI cZ cL J rd pr G K tl) → va_S A s.heap H locs → lv_has ls 1 [(0, .ref (ad 1))] → W p l e (zRm 0 0) s m ([.ref (ad 1)] : List Value).toArray below meth c H locs 0 0 (MQ below (va_Qi (fun r w => r = bI (sBt (sDr (jx J))) ∧ w = wdC ad cI cZ cL (sDr (jx J), jn J, jk J, jop J, jou J, jdv J, jct J, jdh J, jph J, jsp J) rd pr G K tl) (zB9 D classes (wdC ad cI cZ cL J rd pr G K tl)) A) ([.ref (ad 1)] : List Value).toArray s 0 0 A) (F0 m 0 ls []) from K9 s.heap [] ls hP hD hS hl
  clear hP hD hS hl
  intro H locs ls hP hD hS hl
  refine lv_aload_n hx hb d_J_drawArm_0 rfl (lv_at hl 0 rfl) ?_
  refine lv_aload_n hx hb d_J_drawArm_1 rfl (lv_at hl 0 rfl) ?_
  refine va_get (D := D) (ci := 1) (v := .long (jx J)) (C := n_J) (T := f_J) (N := 10) hx hb hts in_J hown hK hP 1 rfl rfl 0 (by decide) (hts _ fl_J_9) (fun _ h9 => h9) rfl d_J_drawArm_2 ?_
  refine lv_ldc2 (v := (6364136223846793005 : Int64)) hx hb hown (hts _ ck9_J_53) d_J_drawArm_5 ?_
  refine lv_lmul hx hb d_J_drawArm_8 ?_
  refine lv_ldc2 (v := (1442695040888963407 : Int64)) hx hb hown (hts _ ck9_J_55) d_J_drawArm_9 ?_
  refine lv_ladd hx hb d_J_drawArm_12 ?_
  refine va_put (D := D) (ci := 1) (v := .long (((jx J) * (6364136223846793005 : Int64)) + (1442695040888963407 : Int64))) (ty := .long) (C := n_J) (T := f_J) (N := 10) hx hb hts in_J ty_J tyo_J nm_J hown hK hP hD hS 1 rfl rfl 0 (by decide) (hts _ fl_J_9) (fun _ h9 => h9) rfl (by decide +kernel) rfl rfl (Nat.le_of_ble_eq_true rfl) d_J_drawArm_13 (fun H locs hP hD hS => ?_)
  have hP : va_P D classes (wdC ad cI cZ cL ((((jx J) * (6364136223846793005 : Int64)) + (1442695040888963407 : Int64)), jn J, jk J, jop J, jou J, jdv J, jct J, jdh J, jph J, jsp J) rd pr G K tl) H := hP
  have hD : va_D A (wdC ad cI cZ cL ((((jx J) * (6364136223846793005 : Int64)) + (1442695040888963407 : Int64)), jn J, jk J, jop J, jou J, jdv J, jct J, jdh J, jph J, jsp J) rd pr G K tl) := hD
  refine lv_aload_n hx hb d_J_drawArm_16 rfl (lv_at hl 0 rfl) ?_
  refine va_get (D := D) (ci := 1) (v := .long ((((jx J) * (6364136223846793005 : Int64)) + (1442695040888963407 : Int64)))) (C := n_J) (T := f_J) (N := 10) hx hb hts in_J hown hK hP 1 rfl rfl 0 (by decide) (hts _ fl_J_9) (fun _ h9 => h9) rfl d_J_drawArm_17 ?_
  refine lv_bipush (v := iZ ((40 : Nat) : Int)) hx hb d_J_drawArm_20 (by decide) ?_
  refine lv_lushr (v := (((((jx J) * (6364136223846793005 : Int64)) + (1442695040888963407 : Int64))).toUInt64 >>> ((iZ ((40 : Nat) : Int)).toInt64.toUInt64 &&& Int64.toUInt64 63)).toInt64) hx hb d_J_drawArm_22 rfl ?_
  refine lv_lconst (v := lZ ((1 : Nat) : Int)) hx hb d_J_drawArm_23 (by decide) ?_
  refine lv_land hx hb d_J_drawArm_24 ?_
  refine lv_lconst (v := lZ ((1 : Nat) : Int)) hx hb d_J_drawArm_25 (by decide) ?_
  refine z_lcmpR_ne (tgt := 34) (pc1 := 27) (pc4 := 30) hx hb d_J_drawArm_26 rfl rfl d_J_drawArm_27 (by decide) (fun q26 => ?_) (fun q26 => ?_)
  · skip
    refine lv_iconst (v := iZ ((0 : Nat) : Int)) hx hb d_J_drawArm_34 (by decide) ?_
    refine W.eq (g2 := F0 m 35 ls [.int (bI false)]) rfl ?_
    exact z_zret Z hP hS d_J_drawArm_35 wdC_map (⟨by first | rw [show sBt (sDr (jx J)) = true from (sBt_l _).mp q26] | rw [show sBt (sDr (jx J)) = false from Bool.eq_false_iff.mpr (fun z => q26 ((sBt_l _).mpr z))], rfl⟩)
  · skip
    refine lv_iconst (v := iZ ((1 : Nat) : Int)) hx hb d_J_drawArm_30 (by decide) ?_
    refine lv_goto (tgt := 35) hx hb d_J_drawArm_31 (by decide) ?_
    refine W.eq (g2 := F0 m 35 ls [.int (bI true)]) rfl ?_
    exact z_zret Z hP hS d_J_drawArm_35 wdC_map (⟨by first | rw [show sBt (sDr (jx J)) = true from (sBt_l _).mp q26] | rw [show sBt (sDr (jx J)) = false from Bool.eq_false_iff.mpr (fun z => q26 ((sBt_l _).mpr z))], rfl⟩)

set_option maxHeartbeats 4000000 in
set_option maxRecDepth 100000 in
theorem k_J_addPair {l : Launch} {D : va_G} {ad : Nat → Nat} {cI cZ cL : ClassId} {J : SJ} {rd : Nat → Int} {pr : Nat → Nat} {G : SH} {K : SK} {tl : va_W} {f se sh : Nat} (hf : f < 32 ∧ se < 32 ∧ sh < 4 ∧ jk J < 16) : zMv l TB D classes (tysW cI cZ cL) y_J_addPair w_J_addPair 0 0 [.ref (ad 1), .int (iZ ((f : Nat) : Int)), .int (iZ ((se : Nat) : Int)), .int (iZ ((sh : Nat) : Int))] (wdC ad cI cZ cL J rd pr G K tl) (fun w => w = wdC ad cI cZ cL (sAP J f se sh) rd pr G K tl) := by
  refine z_of (Qc := fun A => va_Qv (fun w => w = wdC ad cI cZ cL (sAP J f se sh) rd pr G K tl) (zB9 D classes (wdC ad cI cZ cL J rd pr G K tl)) A) (by decide) (Nat.le_of_ble_eq_true rfl) ?_
  intro p e s m below meth c A ls Z hP hK hD hS hA hl
  obtain ⟨hx, hb, hr, hml, hown, hts, hE, hlocks⟩ := id Z
  have hl : lv_has ls 5 [(0, .ref (ad 1)), (1, .int (iZ ((f : Nat) : Int))), (2, .int (iZ ((se : Nat) : Int))), (3, .int (iZ ((sh : Nat) : Int)))] := hl
  suffices K9 : ∀ (H : Heap) (locs : List Loc) (ls : Array Slot), va_P D classes (wdC ad cI cZ cL J rd pr G K tl) H → va_D A (wdC ad cI cZ cL J rd pr G K tl) → va_S A s.heap H locs → lv_has ls 5 [(0, .ref (ad 1)), (1, .int (iZ ((f : Nat) : Int))), (2, .int (iZ ((se : Nat) : Int))), (3, .int (iZ ((sh : Nat) : Int)))] → W p l e (zRm 0 0) s m ([.ref (ad 1), .int (iZ ((f : Nat) : Int)), .int (iZ ((se : Nat) : Int)), .int (iZ ((sh : Nat) : Int))] : List Value).toArray below meth c H locs 0 0 (MQ below (va_Qv (fun w => w = wdC ad cI cZ cL (sAP J f se sh) rd pr G K tl) (zB9 D classes (wdC ad cI cZ cL J rd pr G K tl)) A) ([.ref (ad 1), .int (iZ ((f : Nat) : Int)), .int (iZ ((se : Nat) : Int)), .int (iZ ((sh : Nat) : Int))] : List Value).toArray s 0 0 A) (F0 m 0 ls []) from K9 s.heap [] ls hP hD hS hl
  clear hP hD hS hl
  intro H locs ls hP hD hS hl
  refine lv_aload_n hx hb d_J_addPair_0 rfl (lv_at hl 0 rfl) ?_
  refine va_get (D := D) (ci := 1) (v := .int (iZ ((jk J : Nat) : Int))) (C := n_J) (T := f_J) (N := 10) hx hb hts in_J hown hK hP 1 rfl rfl 2 (by decide) (hts _ fl_J_19) (fun _ h9 => h9) rfl d_J_addPair_1 ?_
  refine lv_bipush (v := iZ ((16 : Nat) : Int)) hx hb d_J_addPair_4 (by decide) ?_
  refine z_icmp_lt (a := ((jk J : Nat) : Int)) (b := ((16 : Nat) : Int)) (tgt := 10) hx hb (by omega) d_J_addPair_6 (by decide) (fun q6 => ?_) (fun q6 => ?_)
  · skip
    refine lv_aload_n hx hb d_J_addPair_10 rfl (lv_at hl 0 rfl) ?_
    refine va_get (D := D) (ci := 1) (v := .ref (ad 4)) (C := n_J) (T := f_J) (N := 10) hx hb hts in_J hown hK hP 1 rfl rfl 5 (by decide) (hts _ fl_J_30) (fun _ h9 => h9) rfl d_J_addPair_11 ?_
    refine lv_iload_n hx hb d_J_addPair_14 rfl (lv_at hl 1 rfl) ?_
    refine z_zald (f := jdv J) hx hb hK hP 4 1 rfl rfl (f) (by omega) d_J_addPair_15 ?_
    refine lv_istore (lv' := [(4, .int (bI ((jdv J) (f)))), (0, .ref (ad 1)), (1, .int (iZ ((f : Nat) : Int))), (2, .int (iZ ((se : Nat) : Int))), (3, .int (iZ ((sh : Nat) : Int)))]) hx hb d_J_addPair_16 hl (by decide) rfl (fun ls hl => ?_)
    refine lv_aload_n hx hb d_J_addPair_18 rfl (lv_at hl 1 rfl) ?_
    refine va_get (D := D) (ci := 1) (v := .ref (ad 6)) (C := n_J) (T := f_J) (N := 10) hx hb hts in_J hown hK hP 1 rfl rfl 7 (by decide) (hts _ fl_J_36) (fun _ h9 => h9) rfl d_J_addPair_19 ?_
    refine lv_aload_n hx hb d_J_addPair_22 rfl (lv_at hl 1 rfl) ?_
    refine va_get (D := D) (ci := 1) (v := .int (iZ ((jk J : Nat) : Int))) (C := n_J) (T := f_J) (N := 10) hx hb hts in_J hown hK hP 1 rfl rfl 2 (by decide) (hts _ fl_J_19) (fun _ h9 => h9) rfl d_J_addPair_23 ?_
    refine lv_iload hx hb d_J_addPair_26 (lv_at hl 0 rfl) ?_
    refine z_if_eqB (b := (jdv J) (f)) (tgt := 35) hx hb d_J_addPair_28 (by decide) (fun q28 => ?_) (fun q28 => ?_)
    · skip
      refine lv_iload_n hx hb d_J_addPair_35 rfl (lv_at hl 3 rfl) ?_
      refine z_iastN (f := jdh J) (v := se) hx hb hK hP hD hS 6 0 rfl rfl (jk J) (by omega) d_J_addPair_36 (fun H locs hP hD hS => ?_)
      have hP : va_P D classes (wdC ad cI cZ cL (jx J, jn J, jk J, jop J, jou J, jdv J, jct J, (nu (jdh J) (jk J) se), jph J, jsp J) rd pr G K tl) H := hP
      have hD : va_D A (wdC ad cI cZ cL (jx J, jn J, jk J, jop J, jou J, jdv J, jct J, (nu (jdh J) (jk J) se), jph J, jsp J) rd pr G K tl) := hD
      refine lv_aload_n hx hb d_J_addPair_37 rfl (lv_at hl 1 rfl) ?_
      refine va_get (D := D) (ci := 1) (v := .ref (ad 7)) (C := n_J) (T := f_J) (N := 10) hx hb hts in_J hown hK hP 1 rfl rfl 8 (by decide) (hts _ fl_J_39) (fun _ h9 => h9) rfl d_J_addPair_38 ?_
      refine lv_aload_n hx hb d_J_addPair_41 rfl (lv_at hl 1 rfl) ?_
      refine va_get (D := D) (ci := 1) (v := .int (iZ ((jk J : Nat) : Int))) (C := n_J) (T := f_J) (N := 10) hx hb hts in_J hown hK hP 1 rfl rfl 2 (by decide) (hts _ fl_J_19) (fun _ h9 => h9) rfl d_J_addPair_42 ?_
      refine lv_iload hx hb d_J_addPair_45 (lv_at hl 0 rfl) ?_
      refine z_if_eqB (b := (jdv J) (f)) (tgt := 54) hx hb d_J_addPair_47 (by decide) (fun q47 => ?_) (fun q47 => ?_)
      · skip
        refine lv_iload_n hx hb d_J_addPair_54 rfl (lv_at hl 2 rfl) ?_
        refine z_iastN (f := jph J) (v := f) hx hb hK hP hD hS 7 0 rfl rfl (jk J) (by omega) d_J_addPair_55 (fun H locs hP hD hS => ?_)
        have hP : va_P D classes (wdC ad cI cZ cL (jx J, jn J, jk J, jop J, jou J, jdv J, jct J, (nu (jdh J) (jk J) se), (nu (jph J) (jk J) f), jsp J) rd pr G K tl) H := hP
        have hD : va_D A (wdC ad cI cZ cL (jx J, jn J, jk J, jop J, jou J, jdv J, jct J, (nu (jdh J) (jk J) se), (nu (jph J) (jk J) f), jsp J) rd pr G K tl) := hD
        refine lv_aload_n hx hb d_J_addPair_56 rfl (lv_at hl 1 rfl) ?_
        refine va_get (D := D) (ci := 1) (v := .ref (ad 8)) (C := n_J) (T := f_J) (N := 10) hx hb hts in_J hown hK hP 1 rfl rfl 9 (by decide) (hts _ fl_J_42) (fun _ h9 => h9) rfl d_J_addPair_57 ?_
        refine lv_aload_n hx hb d_J_addPair_60 rfl (lv_at hl 1 rfl) ?_
        refine va_get (D := D) (ci := 1) (v := .int (iZ ((jk J : Nat) : Int))) (C := n_J) (T := f_J) (N := 10) hx hb hts in_J hown hK hP 1 rfl rfl 2 (by decide) (hts _ fl_J_19) (fun _ h9 => h9) rfl d_J_addPair_61 ?_
        refine lv_iload_n hx hb d_J_addPair_64 rfl (lv_at hl 4 rfl) ?_
        refine z_iastN (f := jsp J) (v := sh) hx hb hK hP hD hS 8 0 rfl rfl (jk J) (by omega) d_J_addPair_65 (fun H locs hP hD hS => ?_)
        have hP : va_P D classes (wdC ad cI cZ cL (jx J, jn J, jk J, jop J, jou J, jdv J, jct J, (nu (jdh J) (jk J) se), (nu (jph J) (jk J) f), (nu (jsp J) (jk J) sh)) rd pr G K tl) H := hP
        have hD : va_D A (wdC ad cI cZ cL (jx J, jn J, jk J, jop J, jou J, jdv J, jct J, (nu (jdh J) (jk J) se), (nu (jph J) (jk J) f), (nu (jsp J) (jk J) sh)) rd pr G K tl) := hD
        refine lv_aload_n hx hb d_J_addPair_66 rfl (lv_at hl 1 rfl) ?_
        refine lv_dup hx hb d_J_addPair_67 rfl ?_
        refine va_get (D := D) (ci := 1) (v := .int (iZ ((jk J : Nat) : Int))) (C := n_J) (T := f_J) (N := 10) hx hb hts in_J hown hK hP 1 rfl rfl 2 (by decide) (hts _ fl_J_19) (fun _ h9 => h9) rfl d_J_addPair_68 ?_
        refine lv_iconst (v := iZ ((1 : Nat) : Int)) hx hb d_J_addPair_71 (by decide) ?_
        refine z_iaddN (u := jk J) (v := 1) hx hb d_J_addPair_72 ?_
        refine va_put (D := D) (ci := 1) (v := .int (iZ (((jk J) + 1 : Nat) : Int))) (ty := .int) (C := n_J) (T := f_J) (N := 10) hx hb hts in_J ty_J tyo_J nm_J hown hK hP hD hS 1 rfl rfl 2 (by decide) (hts _ fl_J_19) (fun _ h9 => h9) rfl (by decide +kernel) rfl rfl (Nat.le_of_ble_eq_true rfl) d_J_addPair_73 (fun H locs hP hD hS => ?_)
        have hP : va_P D classes (wdC ad cI cZ cL (jx J, jn J, ((jk J) + 1), jop J, jou J, jdv J, jct J, (nu (jdh J) (jk J) se), (nu (jph J) (jk J) f), (nu (jsp J) (jk J) sh)) rd pr G K tl) H := hP
        have hD : va_D A (wdC ad cI cZ cL (jx J, jn J, ((jk J) + 1), jop J, jou J, jdv J, jct J, (nu (jdh J) (jk J) se), (nu (jph J) (jk J) f), (nu (jsp J) (jk J) sh)) rd pr G K tl) := hD
        exact z_vret Z hP hS d_J_addPair_76 wdC_map (by unfold sAP; rw [q28]; rfl)
      · skip
        exact absurd (q28.symm.trans q47) (by decide)
    · skip
      refine lv_iload_n hx hb d_J_addPair_31 rfl (lv_at hl 2 rfl) ?_
      refine lv_goto (tgt := 36) hx hb d_J_addPair_32 (by decide) ?_
      refine z_iastN (f := jdh J) (v := f) hx hb hK hP hD hS 6 0 rfl rfl (jk J) (by omega) d_J_addPair_36 (fun H locs hP hD hS => ?_)
      have hP : va_P D classes (wdC ad cI cZ cL (jx J, jn J, jk J, jop J, jou J, jdv J, jct J, (nu (jdh J) (jk J) f), jph J, jsp J) rd pr G K tl) H := hP
      have hD : va_D A (wdC ad cI cZ cL (jx J, jn J, jk J, jop J, jou J, jdv J, jct J, (nu (jdh J) (jk J) f), jph J, jsp J) rd pr G K tl) := hD
      refine lv_aload_n hx hb d_J_addPair_37 rfl (lv_at hl 1 rfl) ?_
      refine va_get (D := D) (ci := 1) (v := .ref (ad 7)) (C := n_J) (T := f_J) (N := 10) hx hb hts in_J hown hK hP 1 rfl rfl 8 (by decide) (hts _ fl_J_39) (fun _ h9 => h9) rfl d_J_addPair_38 ?_
      refine lv_aload_n hx hb d_J_addPair_41 rfl (lv_at hl 1 rfl) ?_
      refine va_get (D := D) (ci := 1) (v := .int (iZ ((jk J : Nat) : Int))) (C := n_J) (T := f_J) (N := 10) hx hb hts in_J hown hK hP 1 rfl rfl 2 (by decide) (hts _ fl_J_19) (fun _ h9 => h9) rfl d_J_addPair_42 ?_
      refine lv_iload hx hb d_J_addPair_45 (lv_at hl 0 rfl) ?_
      refine z_if_eqB (b := (jdv J) (f)) (tgt := 54) hx hb d_J_addPair_47 (by decide) (fun q47 => ?_) (fun q47 => ?_)
      · skip
        exact absurd (q28.symm.trans q47) (by decide)
      · skip
        refine lv_iload_n hx hb d_J_addPair_50 rfl (lv_at hl 3 rfl) ?_
        refine lv_goto (tgt := 55) hx hb d_J_addPair_51 (by decide) ?_
        refine z_iastN (f := jph J) (v := se) hx hb hK hP hD hS 7 0 rfl rfl (jk J) (by omega) d_J_addPair_55 (fun H locs hP hD hS => ?_)
        have hP : va_P D classes (wdC ad cI cZ cL (jx J, jn J, jk J, jop J, jou J, jdv J, jct J, (nu (jdh J) (jk J) f), (nu (jph J) (jk J) se), jsp J) rd pr G K tl) H := hP
        have hD : va_D A (wdC ad cI cZ cL (jx J, jn J, jk J, jop J, jou J, jdv J, jct J, (nu (jdh J) (jk J) f), (nu (jph J) (jk J) se), jsp J) rd pr G K tl) := hD
        refine lv_aload_n hx hb d_J_addPair_56 rfl (lv_at hl 1 rfl) ?_
        refine va_get (D := D) (ci := 1) (v := .ref (ad 8)) (C := n_J) (T := f_J) (N := 10) hx hb hts in_J hown hK hP 1 rfl rfl 9 (by decide) (hts _ fl_J_42) (fun _ h9 => h9) rfl d_J_addPair_57 ?_
        refine lv_aload_n hx hb d_J_addPair_60 rfl (lv_at hl 1 rfl) ?_
        refine va_get (D := D) (ci := 1) (v := .int (iZ ((jk J : Nat) : Int))) (C := n_J) (T := f_J) (N := 10) hx hb hts in_J hown hK hP 1 rfl rfl 2 (by decide) (hts _ fl_J_19) (fun _ h9 => h9) rfl d_J_addPair_61 ?_
        refine lv_iload_n hx hb d_J_addPair_64 rfl (lv_at hl 4 rfl) ?_
        refine z_iastN (f := jsp J) (v := sh) hx hb hK hP hD hS 8 0 rfl rfl (jk J) (by omega) d_J_addPair_65 (fun H locs hP hD hS => ?_)
        have hP : va_P D classes (wdC ad cI cZ cL (jx J, jn J, jk J, jop J, jou J, jdv J, jct J, (nu (jdh J) (jk J) f), (nu (jph J) (jk J) se), (nu (jsp J) (jk J) sh)) rd pr G K tl) H := hP
        have hD : va_D A (wdC ad cI cZ cL (jx J, jn J, jk J, jop J, jou J, jdv J, jct J, (nu (jdh J) (jk J) f), (nu (jph J) (jk J) se), (nu (jsp J) (jk J) sh)) rd pr G K tl) := hD
        refine lv_aload_n hx hb d_J_addPair_66 rfl (lv_at hl 1 rfl) ?_
        refine lv_dup hx hb d_J_addPair_67 rfl ?_
        refine va_get (D := D) (ci := 1) (v := .int (iZ ((jk J : Nat) : Int))) (C := n_J) (T := f_J) (N := 10) hx hb hts in_J hown hK hP 1 rfl rfl 2 (by decide) (hts _ fl_J_19) (fun _ h9 => h9) rfl d_J_addPair_68 ?_
        refine lv_iconst (v := iZ ((1 : Nat) : Int)) hx hb d_J_addPair_71 (by decide) ?_
        refine z_iaddN (u := jk J) (v := 1) hx hb d_J_addPair_72 ?_
        refine va_put (D := D) (ci := 1) (v := .int (iZ (((jk J) + 1 : Nat) : Int))) (ty := .int) (C := n_J) (T := f_J) (N := 10) hx hb hts in_J ty_J tyo_J nm_J hown hK hP hD hS 1 rfl rfl 2 (by decide) (hts _ fl_J_19) (fun _ h9 => h9) rfl (by decide +kernel) rfl rfl (Nat.le_of_ble_eq_true rfl) d_J_addPair_73 (fun H locs hP hD hS => ?_)
        have hP : va_P D classes (wdC ad cI cZ cL (jx J, jn J, ((jk J) + 1), jop J, jou J, jdv J, jct J, (nu (jdh J) (jk J) f), (nu (jph J) (jk J) se), (nu (jsp J) (jk J) sh)) rd pr G K tl) H := hP
        have hD : va_D A (wdC ad cI cZ cL (jx J, jn J, ((jk J) + 1), jop J, jou J, jdv J, jct J, (nu (jdh J) (jk J) f), (nu (jph J) (jk J) se), (nu (jsp J) (jk J) sh)) rd pr G K tl) := hD
        exact z_vret Z hP hS d_J_addPair_76 wdC_map (by unfold sAP; rw [q28]; rfl)
  · skip
    exfalso; omega

set_option maxHeartbeats 4000000 in
set_option maxRecDepth 100000 in
theorem k_J_addHaul1 {l : Launch} {D : va_G} {ad : Nat → Nat} {cI cZ cL : ClassId} {J : SJ} {rd : Nat → Int} {pr : Nat → Nat} {G : SH} {K : SK} {tl : va_W} {sh : Nat} (hsh : sh < 4) (hn : jn J < 32) (hop : jop J sh = -1) : zMi l TB D classes (tysW cI cZ cL) y_J_addHaul w_J_addHaul 1 24 [.ref (ad 1), .int (iZ ((sh : Nat) : Int))] (wdC ad cI cZ cL J rd pr G K tl) (fun r w => r = iZ ((jn J : Nat) : Int) ∧ w = wdC ad cI cZ cL (sH1 J sh) rd pr G K tl) := by
  refine z_of (Qc := fun A => va_Qi (fun r w => r = iZ ((jn J : Nat) : Int) ∧ w = wdC ad cI cZ cL (sH1 J sh) rd pr G K tl) (zB9 D classes (wdC ad cI cZ cL J rd pr G K tl)) A) (by decide) (Nat.le_of_ble_eq_true rfl) ?_
  intro p e s m below meth c A ls Z hP hK hD hS hA hl
  obtain ⟨hx, hb, hr, hml, hown, hts, hE, hlocks⟩ := id Z
  have hl : lv_has ls 4 [(0, .ref (ad 1)), (1, .int (iZ ((sh : Nat) : Int)))] := hl
  suffices K9 : ∀ (H : Heap) (locs : List Loc) (ls : Array Slot), va_P D classes (wdC ad cI cZ cL J rd pr G K tl) H → va_D A (wdC ad cI cZ cL J rd pr G K tl) → va_S A s.heap H locs → lv_has ls 4 [(0, .ref (ad 1)), (1, .int (iZ ((sh : Nat) : Int)))] → W p l e (zRm 1 24) s m ([.ref (ad 1), .int (iZ ((sh : Nat) : Int))] : List Value).toArray below meth c H locs 0 0 (MQ below (va_Qi (fun r w => r = iZ ((jn J : Nat) : Int) ∧ w = wdC ad cI cZ cL (sH1 J sh) rd pr G K tl) (zB9 D classes (wdC ad cI cZ cL J rd pr G K tl)) A) ([.ref (ad 1), .int (iZ ((sh : Nat) : Int))] : List Value).toArray s 0 0 A) (F0 m 0 ls []) from K9 s.heap [] ls hP hD hS hl
  clear hP hD hS hl
  intro H locs ls hP hD hS hl
  refine lv_aload_n hx hb d_J_addHaul_0 rfl (lv_at hl 0 rfl) ?_
  refine va_get (D := D) (ci := 1) (v := .int (iZ ((jn J : Nat) : Int))) (C := n_J) (T := f_J) (N := 10) hx hb hts in_J hown hK hP 1 rfl rfl 1 (by decide) (hts _ fl_J_15) (fun _ h9 => h9) rfl d_J_addHaul_1 ?_
  refine lv_istore_n (lv' := [(2, .int (iZ ((jn J : Nat) : Int))), (0, .ref (ad 1)), (1, .int (iZ ((sh : Nat) : Int)))]) hx hb d_J_addHaul_4 rfl hl (by decide) rfl (fun ls hl => ?_)
  refine lv_aload_n hx hb d_J_addHaul_5 rfl (lv_at hl 1 rfl) ?_
  refine va_get (D := D) (ci := 1) (v := .ref (ad 2)) (C := n_J) (T := f_J) (N := 10) hx hb hts in_J hown hK hP 1 rfl rfl 3 (by decide) (hts _ fl_J_22) (fun _ h9 => h9) rfl d_J_addHaul_6 ?_
  refine lv_iload_n hx hb d_J_addHaul_9 rfl (lv_at hl 2 rfl) ?_
  refine z_iald (f := jop J) hx hb hK hP 2 0 rfl rfl (sh) (by omega) d_J_addHaul_10 ?_
  refine lv_istore_n (lv' := [(3, .int (iZ ((jop J) (sh)))), (2, .int (iZ ((jn J : Nat) : Int))), (0, .ref (ad 1)), (1, .int (iZ ((sh : Nat) : Int)))]) hx hb d_J_addHaul_11 rfl hl (by decide) rfl (fun ls hl => ?_)
  refine lv_aload_n hx hb d_J_addHaul_12 rfl (lv_at hl 2 rfl) ?_
  refine lv_dup hx hb d_J_addHaul_13 rfl ?_
  refine va_get (D := D) (ci := 1) (v := .int (iZ ((jn J : Nat) : Int))) (C := n_J) (T := f_J) (N := 10) hx hb hts in_J hown hK hP 1 rfl rfl 1 (by decide) (hts _ fl_J_15) (fun _ h9 => h9) rfl d_J_addHaul_14 ?_
  refine lv_iconst (v := iZ ((1 : Nat) : Int)) hx hb d_J_addHaul_17 (by decide) ?_
  refine z_iaddN (u := jn J) (v := 1) hx hb d_J_addHaul_18 ?_
  refine va_put (D := D) (ci := 1) (v := .int (iZ (((jn J) + 1 : Nat) : Int))) (ty := .int) (C := n_J) (T := f_J) (N := 10) hx hb hts in_J ty_J tyo_J nm_J hown hK hP hD hS 1 rfl rfl 1 (by decide) (hts _ fl_J_15) (fun _ h9 => h9) rfl (by decide +kernel) rfl rfl (Nat.le_of_ble_eq_true rfl) d_J_addHaul_19 (fun H locs hP hD hS => ?_)
  have hP : va_P D classes (wdC ad cI cZ cL (jx J, ((jn J) + 1), jk J, jop J, jou J, jdv J, jct J, jdh J, jph J, jsp J) rd pr G K tl) H := hP
  have hD : va_D A (wdC ad cI cZ cL (jx J, ((jn J) + 1), jk J, jop J, jou J, jdv J, jct J, jdh J, jph J, jsp J) rd pr G K tl) := hD
  refine lv_iload_n hx hb d_J_addHaul_22 rfl (lv_at hl 0 rfl) ?_
  refine lv_iconst (v := iZ ((-1 : Int))) hx hb d_J_addHaul_23 (by decide) ?_
  refine z_icmp_ne (a := (jop J) (sh)) (b := (-1 : Int)) (tgt := 47) hx hb (by omega) d_J_addHaul_24 (by decide) (fun q24 => ?_) (fun q24 => ?_)
  · skip
    exfalso; omega
  · skip
    refine lv_aload_n hx hb d_J_addHaul_27 rfl (lv_at hl 2 rfl) ?_
    refine va_get (D := D) (ci := 1) (v := .ref (ad 4)) (C := n_J) (T := f_J) (N := 10) hx hb hts in_J hown hK hP 1 rfl rfl 5 (by decide) (hts _ fl_J_30) (fun _ h9 => h9) rfl d_J_addHaul_28 ?_
    refine lv_iload_n hx hb d_J_addHaul_31 rfl (lv_at hl 1 rfl) ?_
    refine lv_aload_n hx hb d_J_addHaul_32 rfl (lv_at hl 2 rfl) ?_
    refine z_ki (z_runV (As := []) (rest := [.int (iZ ((jn J : Nat) : Int)), .ref (ad 4)]) zTB Z k_J_drawArm ⟨ml_J_45, im_J_drawArm, se_J_drawArm, ini_J, co_J_drawArm⟩ zd_J_drawArm ⟨Nat.le_of_ble_eq_true rfl, Nat.le_of_ble_eq_true rfl⟩ hP hK hD (ci := 1) (q0 := 1) rfl rfl rfl hl.1 rfl (Nat.le_of_ble_eq_true rfl) d_J_addHaul_33 ⟨Nat.zero_le _, Nat.zero_le _⟩) hD hS hA (fun r9 w9 H locs hp9 hP hD hS => ?_)
    obtain ⟨rfl, rfl⟩ := hp9
    have hP : va_P D classes (wdC ad cI cZ cL ((sDr (jx J)), ((jn J) + 1), jk J, jop J, jou J, jdv J, jct J, jdh J, jph J, jsp J) rd pr G K tl) H := hP
    have hD : va_D A (wdC ad cI cZ cL ((sDr (jx J)), ((jn J) + 1), jk J, jop J, jou J, jdv J, jct J, jdh J, jph J, jsp J) rd pr G K tl) := hD
    refine W.eq (g2 := F0 m 36 ls [.int (bI (sBt (sDr (jx J)))), .int (iZ ((jn J : Nat) : Int)), .ref (ad 4)]) rfl ?_
    refine z_zast (f := jdv J) (v := sBt (sDr (jx J))) hx hb hK hP hD hS 4 1 rfl rfl (jn J) (by omega) d_J_addHaul_36 (fun H locs hP hD hS => ?_)
    have hP : va_P D classes (wdC ad cI cZ cL ((sDr (jx J)), ((jn J) + 1), jk J, jop J, jou J, (zub (jdv J) (jn J) (sBt (sDr (jx J)))), jct J, jdh J, jph J, jsp J) rd pr G K tl) H := hP
    have hD : va_D A (wdC ad cI cZ cL ((sDr (jx J)), ((jn J) + 1), jk J, jop J, jou J, (zub (jdv J) (jn J) (sBt (sDr (jx J)))), jct J, jdh J, jph J, jsp J) rd pr G K tl) := hD
    refine lv_aload_n hx hb d_J_addHaul_37 rfl (lv_at hl 2 rfl) ?_
    refine va_get (D := D) (ci := 1) (v := .ref (ad 2)) (C := n_J) (T := f_J) (N := 10) hx hb hts in_J hown hK hP 1 rfl rfl 3 (by decide) (hts _ fl_J_22) (fun _ h9 => h9) rfl d_J_addHaul_38 ?_
    refine lv_iload_n hx hb d_J_addHaul_41 rfl (lv_at hl 3 rfl) ?_
    refine lv_iload_n hx hb d_J_addHaul_42 rfl (lv_at hl 1 rfl) ?_
    refine z_iast (f := jop J) (v := ((jn J : Nat) : Int)) hx hb hK hP hD hS 2 0 rfl rfl (sh) (by omega) d_J_addHaul_43 (fun H locs hP hD hS => ?_)
    have hP : va_P D classes (wdC ad cI cZ cL ((sDr (jx J)), ((jn J) + 1), jk J, (zu (jop J) (sh) ((jn J : Nat) : Int)), jou J, (zub (jdv J) (jn J) (sBt (sDr (jx J)))), jct J, jdh J, jph J, jsp J) rd pr G K tl) H := hP
    have hD : va_D A (wdC ad cI cZ cL ((sDr (jx J)), ((jn J) + 1), jk J, (zu (jop J) (sh) ((jn J : Nat) : Int)), jou J, (zub (jdv J) (jn J) (sBt (sDr (jx J)))), jct J, jdh J, jph J, jsp J) rd pr G K tl) := hD
    refine lv_goto (tgt := 81) hx hb d_J_addHaul_44 (by decide) ?_
    refine lv_iload_n hx hb d_J_addHaul_81 rfl (lv_at hl 1 rfl) ?_
    exact z_iret Z hP hS d_J_addHaul_82 wdC_map (⟨rfl, rfl⟩)

set_option maxHeartbeats 4000000 in
set_option maxRecDepth 100000 in
theorem k_J_addHaul2 {l : Launch} {D : va_G} {ad : Nat → Nat} {cI cZ cL : ClassId} {J : SJ} {rd : Nat → Int} {pr : Nat → Nat} {G : SH} {K : SK} {tl : va_W} {sh f : Nat} (hsh : sh < 4) (hn : jn J < 32) (hk : jk J < 16) (hop : jop J sh = ((f : Nat) : Int)) (hf : f < 32) : zMi l TB D classes (tysW cI cZ cL) y_J_addHaul w_J_addHaul 1 24 [.ref (ad 1), .int (iZ ((sh : Nat) : Int))] (wdC ad cI cZ cL J rd pr G K tl) (fun r w => r = iZ ((jn J : Nat) : Int) ∧ w = wdC ad cI cZ cL (sH2 J sh f) rd pr G K tl) := by
  refine z_of (Qc := fun A => va_Qi (fun r w => r = iZ ((jn J : Nat) : Int) ∧ w = wdC ad cI cZ cL (sH2 J sh f) rd pr G K tl) (zB9 D classes (wdC ad cI cZ cL J rd pr G K tl)) A) (by decide) (Nat.le_of_ble_eq_true rfl) ?_
  intro p e s m below meth c A ls Z hP hK hD hS hA hl
  obtain ⟨hx, hb, hr, hml, hown, hts, hE, hlocks⟩ := id Z
  have hl : lv_has ls 4 [(0, .ref (ad 1)), (1, .int (iZ ((sh : Nat) : Int)))] := hl
  suffices K9 : ∀ (H : Heap) (locs : List Loc) (ls : Array Slot), va_P D classes (wdC ad cI cZ cL J rd pr G K tl) H → va_D A (wdC ad cI cZ cL J rd pr G K tl) → va_S A s.heap H locs → lv_has ls 4 [(0, .ref (ad 1)), (1, .int (iZ ((sh : Nat) : Int)))] → W p l e (zRm 1 24) s m ([.ref (ad 1), .int (iZ ((sh : Nat) : Int))] : List Value).toArray below meth c H locs 0 0 (MQ below (va_Qi (fun r w => r = iZ ((jn J : Nat) : Int) ∧ w = wdC ad cI cZ cL (sH2 J sh f) rd pr G K tl) (zB9 D classes (wdC ad cI cZ cL J rd pr G K tl)) A) ([.ref (ad 1), .int (iZ ((sh : Nat) : Int))] : List Value).toArray s 0 0 A) (F0 m 0 ls []) from K9 s.heap [] ls hP hD hS hl
  clear hP hD hS hl
  intro H locs ls hP hD hS hl
  refine lv_aload_n hx hb d_J_addHaul_0 rfl (lv_at hl 0 rfl) ?_
  refine va_get (D := D) (ci := 1) (v := .int (iZ ((jn J : Nat) : Int))) (C := n_J) (T := f_J) (N := 10) hx hb hts in_J hown hK hP 1 rfl rfl 1 (by decide) (hts _ fl_J_15) (fun _ h9 => h9) rfl d_J_addHaul_1 ?_
  refine lv_istore_n (lv' := [(2, .int (iZ ((jn J : Nat) : Int))), (0, .ref (ad 1)), (1, .int (iZ ((sh : Nat) : Int)))]) hx hb d_J_addHaul_4 rfl hl (by decide) rfl (fun ls hl => ?_)
  refine lv_aload_n hx hb d_J_addHaul_5 rfl (lv_at hl 1 rfl) ?_
  refine va_get (D := D) (ci := 1) (v := .ref (ad 2)) (C := n_J) (T := f_J) (N := 10) hx hb hts in_J hown hK hP 1 rfl rfl 3 (by decide) (hts _ fl_J_22) (fun _ h9 => h9) rfl d_J_addHaul_6 ?_
  refine lv_iload_n hx hb d_J_addHaul_9 rfl (lv_at hl 2 rfl) ?_
  refine z_iald (f := jop J) hx hb hK hP 2 0 rfl rfl (sh) (by omega) d_J_addHaul_10 ?_
  refine z_topZ (b := ((f : Nat) : Int)) (hop) ?_
  refine lv_istore_n (lv' := [(3, .int (iZ ((f : Nat) : Int))), (2, .int (iZ ((jn J : Nat) : Int))), (0, .ref (ad 1)), (1, .int (iZ ((sh : Nat) : Int)))]) hx hb d_J_addHaul_11 rfl hl (by decide) rfl (fun ls hl => ?_)
  refine lv_aload_n hx hb d_J_addHaul_12 rfl (lv_at hl 2 rfl) ?_
  refine lv_dup hx hb d_J_addHaul_13 rfl ?_
  refine va_get (D := D) (ci := 1) (v := .int (iZ ((jn J : Nat) : Int))) (C := n_J) (T := f_J) (N := 10) hx hb hts in_J hown hK hP 1 rfl rfl 1 (by decide) (hts _ fl_J_15) (fun _ h9 => h9) rfl d_J_addHaul_14 ?_
  refine lv_iconst (v := iZ ((1 : Nat) : Int)) hx hb d_J_addHaul_17 (by decide) ?_
  refine z_iaddN (u := jn J) (v := 1) hx hb d_J_addHaul_18 ?_
  refine va_put (D := D) (ci := 1) (v := .int (iZ (((jn J) + 1 : Nat) : Int))) (ty := .int) (C := n_J) (T := f_J) (N := 10) hx hb hts in_J ty_J tyo_J nm_J hown hK hP hD hS 1 rfl rfl 1 (by decide) (hts _ fl_J_15) (fun _ h9 => h9) rfl (by decide +kernel) rfl rfl (Nat.le_of_ble_eq_true rfl) d_J_addHaul_19 (fun H locs hP hD hS => ?_)
  have hP : va_P D classes (wdC ad cI cZ cL (jx J, ((jn J) + 1), jk J, jop J, jou J, jdv J, jct J, jdh J, jph J, jsp J) rd pr G K tl) H := hP
  have hD : va_D A (wdC ad cI cZ cL (jx J, ((jn J) + 1), jk J, jop J, jou J, jdv J, jct J, jdh J, jph J, jsp J) rd pr G K tl) := hD
  refine lv_iload_n hx hb d_J_addHaul_22 rfl (lv_at hl 0 rfl) ?_
  refine lv_iconst (v := iZ ((-1 : Int))) hx hb d_J_addHaul_23 (by decide) ?_
  refine z_icmp_ne (a := ((f : Nat) : Int)) (b := (-1 : Int)) (tgt := 47) hx hb (by omega) d_J_addHaul_24 (by decide) (fun q24 => ?_) (fun q24 => ?_)
  · skip
    refine lv_aload_n hx hb d_J_addHaul_47 rfl (lv_at hl 2 rfl) ?_
    refine va_get (D := D) (ci := 1) (v := .ref (ad 4)) (C := n_J) (T := f_J) (N := 10) hx hb hts in_J hown hK hP 1 rfl rfl 5 (by decide) (hts _ fl_J_30) (fun _ h9 => h9) rfl d_J_addHaul_48 ?_
    refine lv_iload_n hx hb d_J_addHaul_51 rfl (lv_at hl 1 rfl) ?_
    refine lv_aload_n hx hb d_J_addHaul_52 rfl (lv_at hl 2 rfl) ?_
    refine va_get (D := D) (ci := 1) (v := .ref (ad 4)) (C := n_J) (T := f_J) (N := 10) hx hb hts in_J hown hK hP 1 rfl rfl 5 (by decide) (hts _ fl_J_30) (fun _ h9 => h9) rfl d_J_addHaul_53 ?_
    refine lv_iload_n hx hb d_J_addHaul_56 rfl (lv_at hl 0 rfl) ?_
    refine z_zald (f := jdv J) hx hb hK hP 4 1 rfl rfl (f) (by omega) d_J_addHaul_57 ?_
    refine z_if_neB (b := (jdv J) (f)) (tgt := 65) hx hb d_J_addHaul_58 (by decide) (fun q58 => ?_) (fun q58 => ?_)
    · skip
      refine lv_iconst (v := iZ ((0 : Nat) : Int)) hx hb d_J_addHaul_65 (by decide) ?_
      refine W.eq (g2 := F0 m 66 ls [.int (bI (false)), .int (iZ ((jn J : Nat) : Int)), .ref (ad 4)]) rfl ?_
      refine z_zast (f := jdv J) (v := false) hx hb hK hP hD hS 4 1 rfl rfl (jn J) (by omega) d_J_addHaul_66 (fun H locs hP hD hS => ?_)
      have hP : va_P D classes (wdC ad cI cZ cL (jx J, ((jn J) + 1), jk J, jop J, jou J, (zub (jdv J) (jn J) false), jct J, jdh J, jph J, jsp J) rd pr G K tl) H := hP
      have hD : va_D A (wdC ad cI cZ cL (jx J, ((jn J) + 1), jk J, jop J, jou J, (zub (jdv J) (jn J) false), jct J, jdh J, jph J, jsp J) rd pr G K tl) := hD
      refine lv_aload_n hx hb d_J_addHaul_67 rfl (lv_at hl 2 rfl) ?_
      refine va_get (D := D) (ci := 1) (v := .ref (ad 2)) (C := n_J) (T := f_J) (N := 10) hx hb hts in_J hown hK hP 1 rfl rfl 3 (by decide) (hts _ fl_J_22) (fun _ h9 => h9) rfl d_J_addHaul_68 ?_
      refine lv_iload_n hx hb d_J_addHaul_71 rfl (lv_at hl 3 rfl) ?_
      refine lv_iconst (v := iZ ((-1 : Int))) hx hb d_J_addHaul_72 (by decide) ?_
      refine z_iast (f := jop J) (v := (-1 : Int)) hx hb hK hP hD hS 2 0 rfl rfl (sh) (by omega) d_J_addHaul_73 (fun H locs hP hD hS => ?_)
      have hP : va_P D classes (wdC ad cI cZ cL (jx J, ((jn J) + 1), jk J, (zu (jop J) (sh) (-1 : Int)), jou J, (zub (jdv J) (jn J) false), jct J, jdh J, jph J, jsp J) rd pr G K tl) H := hP
      have hD : va_D A (wdC ad cI cZ cL (jx J, ((jn J) + 1), jk J, (zu (jop J) (sh) (-1 : Int)), jou J, (zub (jdv J) (jn J) false), jct J, jdh J, jph J, jsp J) rd pr G K tl) := hD
      refine lv_aload_n hx hb d_J_addHaul_74 rfl (lv_at hl 2 rfl) ?_
      refine lv_iload_n hx hb d_J_addHaul_75 rfl (lv_at hl 0 rfl) ?_
      refine lv_iload_n hx hb d_J_addHaul_76 rfl (lv_at hl 1 rfl) ?_
      refine lv_iload_n hx hb d_J_addHaul_77 rfl (lv_at hl 3 rfl) ?_
      refine z_kv (z_runV (As := [.int (iZ ((f : Nat) : Int)), .int (iZ ((jn J : Nat) : Int)), .int (iZ ((sh : Nat) : Int))]) (rest := []) zTB Z (k_J_addPair (f := f) (se := jn J) (sh := sh) (by show _ ∧ _ ∧ _ ∧ jk J < 16; omega)) ⟨ml_J_49, im_J_addPair, se_J_addPair, ini_J, co_J_addPair⟩ zd_J_addPair ⟨Nat.le_of_ble_eq_true rfl, Nat.le_of_ble_eq_true rfl⟩ hP hK hD (ci := 1) (q0 := 1) rfl rfl rfl hl.1 rfl (Nat.le_of_ble_eq_true rfl) d_J_addHaul_78 ⟨Nat.zero_le _, Nat.zero_le _⟩) hD hS hA (fun w9 H locs hp9 hP hD hS => ?_)
      obtain rfl := hp9
      have hP : va_P D classes (wdC ad cI cZ cL (sAP (jx J, ((jn J) + 1), jk J, (zu (jop J) (sh) (-1 : Int)), jou J, (zub (jdv J) (jn J) false), jct J, jdh J, jph J, jsp J) f (jn J) sh) rd pr G K tl) H := hP
      have hD : va_D A (wdC ad cI cZ cL (sAP (jx J, ((jn J) + 1), jk J, (zu (jop J) (sh) (-1 : Int)), jou J, (zub (jdv J) (jn J) false), jct J, jdh J, jph J, jsp J) f (jn J) sh) rd pr G K tl) := hD
      refine W.eq (g2 := F0 m 81 ls []) rfl ?_
      refine lv_iload_n hx hb d_J_addHaul_81 rfl (lv_at hl 1 rfl) ?_
      exact z_iret Z hP hS d_J_addHaul_82 wdC_map (⟨rfl, by unfold sH2; rw [q58]; rfl⟩)
    · skip
      refine lv_iconst (v := iZ ((1 : Nat) : Int)) hx hb d_J_addHaul_61 (by decide) ?_
      refine lv_goto (tgt := 66) hx hb d_J_addHaul_62 (by decide) ?_
      refine W.eq (g2 := F0 m 66 ls [.int (bI (true)), .int (iZ ((jn J : Nat) : Int)), .ref (ad 4)]) rfl ?_
      refine z_zast (f := jdv J) (v := true) hx hb hK hP hD hS 4 1 rfl rfl (jn J) (by omega) d_J_addHaul_66 (fun H locs hP hD hS => ?_)
      have hP : va_P D classes (wdC ad cI cZ cL (jx J, ((jn J) + 1), jk J, jop J, jou J, (zub (jdv J) (jn J) true), jct J, jdh J, jph J, jsp J) rd pr G K tl) H := hP
      have hD : va_D A (wdC ad cI cZ cL (jx J, ((jn J) + 1), jk J, jop J, jou J, (zub (jdv J) (jn J) true), jct J, jdh J, jph J, jsp J) rd pr G K tl) := hD
      refine lv_aload_n hx hb d_J_addHaul_67 rfl (lv_at hl 2 rfl) ?_
      refine va_get (D := D) (ci := 1) (v := .ref (ad 2)) (C := n_J) (T := f_J) (N := 10) hx hb hts in_J hown hK hP 1 rfl rfl 3 (by decide) (hts _ fl_J_22) (fun _ h9 => h9) rfl d_J_addHaul_68 ?_
      refine lv_iload_n hx hb d_J_addHaul_71 rfl (lv_at hl 3 rfl) ?_
      refine lv_iconst (v := iZ ((-1 : Int))) hx hb d_J_addHaul_72 (by decide) ?_
      refine z_iast (f := jop J) (v := (-1 : Int)) hx hb hK hP hD hS 2 0 rfl rfl (sh) (by omega) d_J_addHaul_73 (fun H locs hP hD hS => ?_)
      have hP : va_P D classes (wdC ad cI cZ cL (jx J, ((jn J) + 1), jk J, (zu (jop J) (sh) (-1 : Int)), jou J, (zub (jdv J) (jn J) true), jct J, jdh J, jph J, jsp J) rd pr G K tl) H := hP
      have hD : va_D A (wdC ad cI cZ cL (jx J, ((jn J) + 1), jk J, (zu (jop J) (sh) (-1 : Int)), jou J, (zub (jdv J) (jn J) true), jct J, jdh J, jph J, jsp J) rd pr G K tl) := hD
      refine lv_aload_n hx hb d_J_addHaul_74 rfl (lv_at hl 2 rfl) ?_
      refine lv_iload_n hx hb d_J_addHaul_75 rfl (lv_at hl 0 rfl) ?_
      refine lv_iload_n hx hb d_J_addHaul_76 rfl (lv_at hl 1 rfl) ?_
      refine lv_iload_n hx hb d_J_addHaul_77 rfl (lv_at hl 3 rfl) ?_
      refine z_kv (z_runV (As := [.int (iZ ((f : Nat) : Int)), .int (iZ ((jn J : Nat) : Int)), .int (iZ ((sh : Nat) : Int))]) (rest := []) zTB Z (k_J_addPair (f := f) (se := jn J) (sh := sh) (by show _ ∧ _ ∧ _ ∧ jk J < 16; omega)) ⟨ml_J_49, im_J_addPair, se_J_addPair, ini_J, co_J_addPair⟩ zd_J_addPair ⟨Nat.le_of_ble_eq_true rfl, Nat.le_of_ble_eq_true rfl⟩ hP hK hD (ci := 1) (q0 := 1) rfl rfl rfl hl.1 rfl (Nat.le_of_ble_eq_true rfl) d_J_addHaul_78 ⟨Nat.zero_le _, Nat.zero_le _⟩) hD hS hA (fun w9 H locs hp9 hP hD hS => ?_)
      obtain rfl := hp9
      have hP : va_P D classes (wdC ad cI cZ cL (sAP (jx J, ((jn J) + 1), jk J, (zu (jop J) (sh) (-1 : Int)), jou J, (zub (jdv J) (jn J) true), jct J, jdh J, jph J, jsp J) f (jn J) sh) rd pr G K tl) H := hP
      have hD : va_D A (wdC ad cI cZ cL (sAP (jx J, ((jn J) + 1), jk J, (zu (jop J) (sh) (-1 : Int)), jou J, (zub (jdv J) (jn J) true), jct J, jdh J, jph J, jsp J) f (jn J) sh) rd pr G K tl) := hD
      refine W.eq (g2 := F0 m 81 ls []) rfl ?_
      refine lv_iload_n hx hb d_J_addHaul_81 rfl (lv_at hl 1 rfl) ?_
      exact z_iret Z hP hS d_J_addHaul_82 wdC_map (⟨rfl, by unfold sH2; rw [q58]; rfl⟩)
  · skip
    exfalso; omega

set_option maxHeartbeats 4000000 in
set_option maxRecDepth 100000 in
theorem k_J_putCount {l : Launch} {D : va_G} {ad : Nat → Nat} {cI cZ cL : ClassId} {J : SJ} {rd : Nat → Int} {pr : Nat → Nat} {G : SH} {K : SK} {tl : va_W} {h kd v : Nat} (hh : h < 32 ∧ kd < 3 ∧ v ≤ 1000) (hct : ∀ j, jct J j ≤ 1000) : zMi l TB D classes (tysW cI cZ cL) y_J_putCount w_J_putCount 0 0 [.ref (ad 1), .int (iZ ((h : Nat) : Int)), .int (iZ ((kd : Nat) : Int)), .int (iZ ((v : Nat) : Int))] (wdC ad cI cZ cL J rd pr G K tl) (fun r w => r = bI (decide (jct J (h * 3 + kd) ≠ v)) ∧ w = wdC ad cI cZ cL (sPC9 J (h * 3 + kd) v) rd pr G K tl) := by
  refine z_of (Qc := fun A => va_Qi (fun r w => r = bI (decide (jct J (h * 3 + kd) ≠ v)) ∧ w = wdC ad cI cZ cL (sPC9 J (h * 3 + kd) v) rd pr G K tl) (zB9 D classes (wdC ad cI cZ cL J rd pr G K tl)) A) (by decide) (Nat.le_of_ble_eq_true rfl) ?_
  intro p e s m below meth c A ls Z hP hK hD hS hA hl
  obtain ⟨hx, hb, hr, hml, hown, hts, hE, hlocks⟩ := id Z
  have hl : lv_has ls 6 [(0, .ref (ad 1)), (1, .int (iZ ((h : Nat) : Int))), (2, .int (iZ ((kd : Nat) : Int))), (3, .int (iZ ((v : Nat) : Int)))] := hl
  have hc9 := hct (h * 3 + kd)
  suffices K9 : ∀ (H : Heap) (locs : List Loc) (ls : Array Slot), va_P D classes (wdC ad cI cZ cL J rd pr G K tl) H → va_D A (wdC ad cI cZ cL J rd pr G K tl) → va_S A s.heap H locs → lv_has ls 6 [(0, .ref (ad 1)), (1, .int (iZ ((h : Nat) : Int))), (2, .int (iZ ((kd : Nat) : Int))), (3, .int (iZ ((v : Nat) : Int)))] → W p l e (zRm 0 0) s m ([.ref (ad 1), .int (iZ ((h : Nat) : Int)), .int (iZ ((kd : Nat) : Int)), .int (iZ ((v : Nat) : Int))] : List Value).toArray below meth c H locs 0 0 (MQ below (va_Qi (fun r w => r = bI (decide (jct J (h * 3 + kd) ≠ v)) ∧ w = wdC ad cI cZ cL (sPC9 J (h * 3 + kd) v) rd pr G K tl) (zB9 D classes (wdC ad cI cZ cL J rd pr G K tl)) A) ([.ref (ad 1), .int (iZ ((h : Nat) : Int)), .int (iZ ((kd : Nat) : Int)), .int (iZ ((v : Nat) : Int))] : List Value).toArray s 0 0 A) (F0 m 0 ls []) from K9 s.heap [] ls hP hD hS hl
  clear hP hD hS hl
  intro H locs ls hP hD hS hl
  refine lv_iload_n hx hb d_J_putCount_0 rfl (lv_at hl 1 rfl) ?_
  refine lv_iconst (v := iZ ((3 : Nat) : Int)) hx hb d_J_putCount_1 (by decide) ?_
  refine z_imulN (u := h) (v := 3) hx hb d_J_putCount_2 ?_
  refine lv_iload_n hx hb d_J_putCount_3 rfl (lv_at hl 2 rfl) ?_
  refine z_iaddN (u := h * 3) (v := kd) hx hb d_J_putCount_4 ?_
  refine lv_istore (lv' := [(4, .int (iZ (((h * 3) + kd : Nat) : Int))), (0, .ref (ad 1)), (1, .int (iZ ((h : Nat) : Int))), (2, .int (iZ ((kd : Nat) : Int))), (3, .int (iZ ((v : Nat) : Int)))]) hx hb d_J_putCount_5 hl (by decide) rfl (fun ls hl => ?_)
  refine lv_aload_n hx hb d_J_putCount_7 rfl (lv_at hl 1 rfl) ?_
  refine va_get (D := D) (ci := 1) (v := .ref (ad 5)) (C := n_J) (T := f_J) (N := 10) hx hb hts in_J hown hK hP 1 rfl rfl 6 (by decide) (hts _ fl_J_33) (fun _ h9 => h9) rfl d_J_putCount_8 ?_
  refine lv_iload hx hb d_J_putCount_11 (lv_at hl 0 rfl) ?_
  refine z_ialdN (f := jct J) hx hb hK hP 5 0 rfl rfl ((h * 3) + kd) (by omega) d_J_putCount_13 ?_
  refine lv_iload_n hx hb d_J_putCount_14 rfl (lv_at hl 4 rfl) ?_
  refine z_icmp_eq (a := (((jct J) ((h * 3) + kd) : Nat) : Int)) (b := ((v : Nat) : Int)) (tgt := 22) hx hb (by omega) d_J_putCount_15 (by decide) (fun q15 => ?_) (fun q15 => ?_)
  · skip
    refine lv_iconst (v := iZ ((0 : Nat) : Int)) hx hb d_J_putCount_22 (by decide) ?_
    refine lv_istore (lv' := [(5, .int (iZ ((0 : Nat) : Int))), (4, .int (iZ (((h * 3) + kd : Nat) : Int))), (0, .ref (ad 1)), (1, .int (iZ ((h : Nat) : Int))), (2, .int (iZ ((kd : Nat) : Int))), (3, .int (iZ ((v : Nat) : Int)))]) hx hb d_J_putCount_23 hl (by decide) rfl (fun ls hl => ?_)
    refine lv_aload_n hx hb d_J_putCount_25 rfl (lv_at hl 2 rfl) ?_
    refine va_get (D := D) (ci := 1) (v := .ref (ad 5)) (C := n_J) (T := f_J) (N := 10) hx hb hts in_J hown hK hP 1 rfl rfl 6 (by decide) (hts _ fl_J_33) (fun _ h9 => h9) rfl d_J_putCount_26 ?_
    refine lv_iload hx hb d_J_putCount_29 (lv_at hl 1 rfl) ?_
    refine lv_iload_n hx hb d_J_putCount_31 rfl (lv_at hl 5 rfl) ?_
    refine z_iastN (f := jct J) (v := v) hx hb hK hP hD hS 5 0 rfl rfl ((h * 3) + kd) (by omega) d_J_putCount_32 (fun H locs hP hD hS => ?_)
    have hP : va_P D classes (wdC ad cI cZ cL (jx J, jn J, jk J, jop J, jou J, jdv J, (nu (jct J) ((h * 3) + kd) v), jdh J, jph J, jsp J) rd pr G K tl) H := hP
    have hD : va_D A (wdC ad cI cZ cL (jx J, jn J, jk J, jop J, jou J, jdv J, (nu (jct J) ((h * 3) + kd) v), jdh J, jph J, jsp J) rd pr G K tl) := hD
    refine lv_iload hx hb d_J_putCount_33 (lv_at hl 0 rfl) ?_
    refine W.eq (g2 := F0 m 35 ls [.int (bI false)]) rfl ?_
    exact z_zret Z hP hS d_J_putCount_35 wdC_map (⟨by first | rw [show decide (jct J (h * 3 + kd) ≠ v) = true from decide_eq_true (by omega)] | rw [show decide (jct J (h * 3 + kd) ≠ v) = false from decide_eq_false (by omega)], rfl⟩)
  · skip
    refine lv_iconst (v := iZ ((1 : Nat) : Int)) hx hb d_J_putCount_18 (by decide) ?_
    refine lv_goto (tgt := 23) hx hb d_J_putCount_19 (by decide) ?_
    refine lv_istore (lv' := [(5, .int (iZ ((1 : Nat) : Int))), (4, .int (iZ (((h * 3) + kd : Nat) : Int))), (0, .ref (ad 1)), (1, .int (iZ ((h : Nat) : Int))), (2, .int (iZ ((kd : Nat) : Int))), (3, .int (iZ ((v : Nat) : Int)))]) hx hb d_J_putCount_23 hl (by decide) rfl (fun ls hl => ?_)
    refine lv_aload_n hx hb d_J_putCount_25 rfl (lv_at hl 2 rfl) ?_
    refine va_get (D := D) (ci := 1) (v := .ref (ad 5)) (C := n_J) (T := f_J) (N := 10) hx hb hts in_J hown hK hP 1 rfl rfl 6 (by decide) (hts _ fl_J_33) (fun _ h9 => h9) rfl d_J_putCount_26 ?_
    refine lv_iload hx hb d_J_putCount_29 (lv_at hl 1 rfl) ?_
    refine lv_iload_n hx hb d_J_putCount_31 rfl (lv_at hl 5 rfl) ?_
    refine z_iastN (f := jct J) (v := v) hx hb hK hP hD hS 5 0 rfl rfl ((h * 3) + kd) (by omega) d_J_putCount_32 (fun H locs hP hD hS => ?_)
    have hP : va_P D classes (wdC ad cI cZ cL (jx J, jn J, jk J, jop J, jou J, jdv J, (nu (jct J) ((h * 3) + kd) v), jdh J, jph J, jsp J) rd pr G K tl) H := hP
    have hD : va_D A (wdC ad cI cZ cL (jx J, jn J, jk J, jop J, jou J, jdv J, (nu (jct J) ((h * 3) + kd) v), jdh J, jph J, jsp J) rd pr G K tl) := hD
    refine lv_iload hx hb d_J_putCount_33 (lv_at hl 0 rfl) ?_
    refine W.eq (g2 := F0 m 35 ls [.int (bI true)]) rfl ?_
    exact z_zret Z hP hS d_J_putCount_35 wdC_map (⟨by first | rw [show decide (jct J (h * 3 + kd) ≠ v) = true from decide_eq_true (by omega)] | rw [show decide (jct J (h * 3 + kd) ≠ v) = false from decide_eq_false (by omega)], rfl⟩)

set_option maxHeartbeats 4000000 in
set_option maxRecDepth 100000 in
theorem k_J_leaveOut {l : Launch} {D : va_G} {ad : Nat → Nat} {cI cZ cL : ClassId} {J : SJ} {rd : Nat → Int} {pr : Nat → Nat} {G : SH} {K : SK} {tl : va_W} {sh : Nat} {on : Bool} (hsh : sh < 4) : zMi l TB D classes (tysW cI cZ cL) y_J_leaveOut w_J_leaveOut 0 0 [.ref (ad 1), .int (iZ ((sh : Nat) : Int)), .int (bI (on))] (wdC ad cI cZ cL J rd pr G K tl) (fun r w => r = bI (jou J sh != on) ∧ w = wdC ad cI cZ cL (sLO J sh on) rd pr G K tl) := by
  refine z_of (Qc := fun A => va_Qi (fun r w => r = bI (jou J sh != on) ∧ w = wdC ad cI cZ cL (sLO J sh on) rd pr G K tl) (zB9 D classes (wdC ad cI cZ cL J rd pr G K tl)) A) (by decide) (Nat.le_of_ble_eq_true rfl) ?_
  intro p e s m below meth c A ls Z hP hK hD hS hA hl
  obtain ⟨hx, hb, hr, hml, hown, hts, hE, hlocks⟩ := id Z
  have hl : lv_has ls 4 [(0, .ref (ad 1)), (1, .int (iZ ((sh : Nat) : Int))), (2, .int (bI (on)))] := hl
  suffices K9 : ∀ (H : Heap) (locs : List Loc) (ls : Array Slot), va_P D classes (wdC ad cI cZ cL J rd pr G K tl) H → va_D A (wdC ad cI cZ cL J rd pr G K tl) → va_S A s.heap H locs → lv_has ls 4 [(0, .ref (ad 1)), (1, .int (iZ ((sh : Nat) : Int))), (2, .int (bI (on)))] → W p l e (zRm 0 0) s m ([.ref (ad 1), .int (iZ ((sh : Nat) : Int)), .int (bI (on))] : List Value).toArray below meth c H locs 0 0 (MQ below (va_Qi (fun r w => r = bI (jou J sh != on) ∧ w = wdC ad cI cZ cL (sLO J sh on) rd pr G K tl) (zB9 D classes (wdC ad cI cZ cL J rd pr G K tl)) A) ([.ref (ad 1), .int (iZ ((sh : Nat) : Int)), .int (bI (on))] : List Value).toArray s 0 0 A) (F0 m 0 ls []) from K9 s.heap [] ls hP hD hS hl
  clear hP hD hS hl
  intro H locs ls hP hD hS hl
  refine lv_aload_n hx hb d_J_leaveOut_0 rfl (lv_at hl 0 rfl) ?_
  refine va_get (D := D) (ci := 1) (v := .ref (ad 3)) (C := n_J) (T := f_J) (N := 10) hx hb hts in_J hown hK hP 1 rfl rfl 4 (by decide) (hts _ fl_J_26) (fun _ h9 => h9) rfl d_J_leaveOut_1 ?_
  refine lv_iload_n hx hb d_J_leaveOut_4 rfl (lv_at hl 1 rfl) ?_
  refine z_zald (f := jou J) hx hb hK hP 3 1 rfl rfl (sh) (by omega) d_J_leaveOut_5 ?_
  refine lv_iload_n hx hb d_J_leaveOut_6 rfl (lv_at hl 2 rfl) ?_
  refine lv_icmp_eq (tgt := 14) hx hb d_J_leaveOut_7 (by decide) (fun q7 => ?_) (fun q7 => ?_)
  · skip
    refine lv_iconst (v := iZ ((0 : Nat) : Int)) hx hb d_J_leaveOut_14 (by decide) ?_
    refine lv_istore_n (lv' := [(3, .int (iZ ((0 : Nat) : Int))), (0, .ref (ad 1)), (1, .int (iZ ((sh : Nat) : Int))), (2, .int (bI (on)))]) hx hb d_J_leaveOut_15 rfl hl (by decide) rfl (fun ls hl => ?_)
    refine lv_aload_n hx hb d_J_leaveOut_16 rfl (lv_at hl 1 rfl) ?_
    refine va_get (D := D) (ci := 1) (v := .ref (ad 3)) (C := n_J) (T := f_J) (N := 10) hx hb hts in_J hown hK hP 1 rfl rfl 4 (by decide) (hts _ fl_J_26) (fun _ h9 => h9) rfl d_J_leaveOut_17 ?_
    refine lv_iload_n hx hb d_J_leaveOut_20 rfl (lv_at hl 2 rfl) ?_
    refine lv_iload_n hx hb d_J_leaveOut_21 rfl (lv_at hl 3 rfl) ?_
    refine z_zast (f := jou J) (v := on) hx hb hK hP hD hS 3 1 rfl rfl (sh) (by omega) d_J_leaveOut_22 (fun H locs hP hD hS => ?_)
    have hP : va_P D classes (wdC ad cI cZ cL (jx J, jn J, jk J, jop J, (zub (jou J) (sh) on), jdv J, jct J, jdh J, jph J, jsp J) rd pr G K tl) H := hP
    have hD : va_D A (wdC ad cI cZ cL (jx J, jn J, jk J, jop J, (zub (jou J) (sh) on), jdv J, jct J, jdh J, jph J, jsp J) rd pr G K tl) := hD
    refine lv_iload_n hx hb d_J_leaveOut_23 rfl (lv_at hl 0 rfl) ?_
    refine W.eq (g2 := F0 m 24 ls [.int (bI false)]) rfl ?_
    exact z_zret Z hP hS d_J_leaveOut_24 wdC_map (⟨by first | rw [show (jou J sh != on) = true from bI_ne q7] | rw [show (jou J sh != on) = false from bI_eq q7], rfl⟩)
  · skip
    refine lv_iconst (v := iZ ((1 : Nat) : Int)) hx hb d_J_leaveOut_10 (by decide) ?_
    refine lv_goto (tgt := 15) hx hb d_J_leaveOut_11 (by decide) ?_
    refine lv_istore_n (lv' := [(3, .int (iZ ((1 : Nat) : Int))), (0, .ref (ad 1)), (1, .int (iZ ((sh : Nat) : Int))), (2, .int (bI (on)))]) hx hb d_J_leaveOut_15 rfl hl (by decide) rfl (fun ls hl => ?_)
    refine lv_aload_n hx hb d_J_leaveOut_16 rfl (lv_at hl 1 rfl) ?_
    refine va_get (D := D) (ci := 1) (v := .ref (ad 3)) (C := n_J) (T := f_J) (N := 10) hx hb hts in_J hown hK hP 1 rfl rfl 4 (by decide) (hts _ fl_J_26) (fun _ h9 => h9) rfl d_J_leaveOut_17 ?_
    refine lv_iload_n hx hb d_J_leaveOut_20 rfl (lv_at hl 2 rfl) ?_
    refine lv_iload_n hx hb d_J_leaveOut_21 rfl (lv_at hl 3 rfl) ?_
    refine z_zast (f := jou J) (v := on) hx hb hK hP hD hS 3 1 rfl rfl (sh) (by omega) d_J_leaveOut_22 (fun H locs hP hD hS => ?_)
    have hP : va_P D classes (wdC ad cI cZ cL (jx J, jn J, jk J, jop J, (zub (jou J) (sh) on), jdv J, jct J, jdh J, jph J, jsp J) rd pr G K tl) H := hP
    have hD : va_D A (wdC ad cI cZ cL (jx J, jn J, jk J, jop J, (zub (jou J) (sh) on), jdv J, jct J, jdh J, jph J, jsp J) rd pr G K tl) := hD
    refine lv_iload_n hx hb d_J_leaveOut_23 rfl (lv_at hl 0 rfl) ?_
    refine W.eq (g2 := F0 m 24 ls [.int (bI true)]) rfl ?_
    exact z_zret Z hP hS d_J_leaveOut_24 wdC_map (⟨by first | rw [show (jou J sh != on) = true from bI_ne q7] | rw [show (jou J sh != on) = false from bI_eq q7], rfl⟩)

set_option maxHeartbeats 4000000 in
set_option maxRecDepth 100000 in
theorem k_C_putReading {l : Launch} {D : va_G} {ad : Nat → Nat} {cI cZ cL : ClassId} {J : SJ} {rd : Nat → Int} {pr : Nat → Nat} {G : SH} {K : SK} {tl : va_W} {h rr v : Nat} (hh : h < 32 ∧ rr < 2) : zMv l TB D classes (tysW cI cZ cL) y_C_putReading w_C_putReading 0 0 [.ref (ad 9), .int (iZ ((h : Nat) : Int)), .int (iZ ((rr : Nat) : Int)), .int (iZ ((v : Nat) : Int))] (wdC ad cI cZ cL J rd pr G K tl) (fun w => w = wdC ad cI cZ cL J (zu rd (h * 2 + rr) ((v : Nat) : Int)) pr G K tl) := by
  refine z_of (Qc := fun A => va_Qv (fun w => w = wdC ad cI cZ cL J (zu rd (h * 2 + rr) ((v : Nat) : Int)) pr G K tl) (zB9 D classes (wdC ad cI cZ cL J rd pr G K tl)) A) (by decide) (Nat.le_of_ble_eq_true rfl) ?_
  intro p e s m below meth c A ls Z hP hK hD hS hA hl
  obtain ⟨hx, hb, hr, hml, hown, hts, hE, hlocks⟩ := id Z
  have hl : lv_has ls 4 [(0, .ref (ad 9)), (1, .int (iZ ((h : Nat) : Int))), (2, .int (iZ ((rr : Nat) : Int))), (3, .int (iZ ((v : Nat) : Int)))] := hl
  suffices K9 : ∀ (H : Heap) (locs : List Loc) (ls : Array Slot), va_P D classes (wdC ad cI cZ cL J rd pr G K tl) H → va_D A (wdC ad cI cZ cL J rd pr G K tl) → va_S A s.heap H locs → lv_has ls 4 [(0, .ref (ad 9)), (1, .int (iZ ((h : Nat) : Int))), (2, .int (iZ ((rr : Nat) : Int))), (3, .int (iZ ((v : Nat) : Int)))] → W p l e (zRm 0 0) s m ([.ref (ad 9), .int (iZ ((h : Nat) : Int)), .int (iZ ((rr : Nat) : Int)), .int (iZ ((v : Nat) : Int))] : List Value).toArray below meth c H locs 0 0 (MQ below (va_Qv (fun w => w = wdC ad cI cZ cL J (zu rd (h * 2 + rr) ((v : Nat) : Int)) pr G K tl) (zB9 D classes (wdC ad cI cZ cL J rd pr G K tl)) A) ([.ref (ad 9), .int (iZ ((h : Nat) : Int)), .int (iZ ((rr : Nat) : Int)), .int (iZ ((v : Nat) : Int))] : List Value).toArray s 0 0 A) (F0 m 0 ls []) from K9 s.heap [] ls hP hD hS hl
  clear hP hD hS hl
  intro H locs ls hP hD hS hl
  refine lv_aload_n hx hb d_C_putReading_0 rfl (lv_at hl 0 rfl) ?_
  refine va_get (D := D) (ci := 2) (v := .ref (ad 10)) (C := n_C) (T := f_C) (N := 1) hx hb hts in_C hown hK hP 9 rfl rfl 0 (by decide) (hts _ fl_C_9) (fun _ h9 => h9) rfl d_C_putReading_1 ?_
  refine lv_iload_n hx hb d_C_putReading_4 rfl (lv_at hl 1 rfl) ?_
  refine lv_iconst (v := iZ ((2 : Nat) : Int)) hx hb d_C_putReading_5 (by decide) ?_
  refine z_imulN (u := h) (v := 2) hx hb d_C_putReading_6 ?_
  refine lv_iload_n hx hb d_C_putReading_7 rfl (lv_at hl 2 rfl) ?_
  refine z_iaddN (u := h * 2) (v := rr) hx hb d_C_putReading_8 ?_
  refine lv_iload_n hx hb d_C_putReading_9 rfl (lv_at hl 3 rfl) ?_
  refine z_iast (f := rd) (v := ((v : Nat) : Int)) hx hb hK hP hD hS 10 0 rfl rfl ((h * 2) + rr) (by omega) d_C_putReading_10 (fun H locs hP hD hS => ?_)
  have hP : va_P D classes (wdC ad cI cZ cL J (zu rd ((h * 2) + rr) ((v : Nat) : Int)) pr G K tl) H := hP
  have hD : va_D A (wdC ad cI cZ cL J (zu rd ((h * 2) + rr) ((v : Nat) : Int)) pr G K tl) := hD
  exact z_vret Z hP hS d_C_putReading_11 wdC_map (rfl)

set_option maxHeartbeats 4000000 in
set_option maxRecDepth 100000 in
theorem k_D_haul1 {l : Launch} {D : va_G} {ad : Nat → Nat} {cI cZ cL : ClassId} {J : SJ} {rd : Nat → Int} {pr : Nat → Nat} {G : SH} {K : SK} {tl : va_W} {sh : Nat} (hI : JI J) (hsh : sh < 4) (hn : jn J < 32) (hop : jop J sh = -1) : zMi l TB D classes (tysW cI cZ cL) y_D_haul w_D_haul 3 81 [.ref (ad 0), .int (iZ ((sh : Nat) : Int))] (wdC ad cI cZ cL J rd pr G K tl) (fun r w => r = iZ ((jn J : Nat) : Int) ∧ w = wdC ad cI cZ cL (sH1 J sh) rd pr G K tl) := by
  refine z_of (Qc := fun A => va_Qi (fun r w => r = iZ ((jn J : Nat) : Int) ∧ w = wdC ad cI cZ cL (sH1 J sh) rd pr G K tl) (zB9 D classes (wdC ad cI cZ cL J rd pr G K tl)) A) (by decide) (Nat.le_of_ble_eq_true rfl) ?_
  intro p e s m below meth c A ls Z hP hK hD hS hA hl
  obtain ⟨hx, hb, hr, hml, hown, hts, hE, hlocks⟩ := id Z
  have hl : lv_has ls 2 [(0, .ref (ad 0)), (1, .int (iZ ((sh : Nat) : Int)))] := hl
  obtain ⟨hn32, hk2, hpr, hct⟩ := id hI
  suffices K9 : ∀ (H : Heap) (locs : List Loc) (ls : Array Slot), va_P D classes (wdC ad cI cZ cL J rd pr G K tl) H → va_D A (wdC ad cI cZ cL J rd pr G K tl) → va_S A s.heap H locs → lv_has ls 2 [(0, .ref (ad 0)), (1, .int (iZ ((sh : Nat) : Int)))] → W p l e (zRm 3 81) s m ([.ref (ad 0), .int (iZ ((sh : Nat) : Int))] : List Value).toArray below meth c H locs 0 0 (MQ below (va_Qi (fun r w => r = iZ ((jn J : Nat) : Int) ∧ w = wdC ad cI cZ cL (sH1 J sh) rd pr G K tl) (zB9 D classes (wdC ad cI cZ cL J rd pr G K tl)) A) ([.ref (ad 0), .int (iZ ((sh : Nat) : Int))] : List Value).toArray s 0 0 A) (F0 m 0 ls []) from K9 s.heap [] ls hP hD hS hl
  clear hP hD hS hl
  intro H locs ls hP hD hS hl
  refine lv_iload_n hx hb d_D_haul_0 rfl (lv_at hl 1 rfl) ?_
  refine z_callSR (As := [.int (iZ ((sh : Nat) : Int))]) (rest := []) zTB Z (k_D_needShip (a := ((sh : Nat) : Int)) (by omega)) ⟨ml_D_43, sm_D_needShip, ini_D, co_D_needShip⟩ zd_D_needShip ⟨Nat.le_of_ble_eq_true rfl, Nat.le_of_ble_eq_true rfl⟩ hP hK hl.1 rfl (Nat.le_of_ble_eq_true rfl) d_D_haul_1 ⟨Nat.zero_le _, Nat.zero_le _⟩ ?_
  refine W.eq (g2 := F0 m 4 ls []) rfl ?_
  refine lv_aload_n hx hb d_D_haul_4 rfl (lv_at hl 0 rfl) ?_
  refine va_get (D := D) (ci := 0) (v := .ref (ad 1)) (C := n_D) (T := f_D) (N := 5) hx hb hts in_D hown hK hP 0 rfl rfl 0 (by decide) (hts _ fl_D_14) (fun _ h9 => h9) rfl d_D_haul_5 ?_
  refine va_getN (D := D) (ci := 1) (v := .int (iZ ((jn J : Nat) : Int))) (C := n_J) (T := f_J) (N := 10) hx hb hts in_J hown hK hP 1 rfl rfl 1 (by decide) (hts _ fl_D_46) (fun _ h9 => h9) rfl d_D_haul_8 ?_
  refine lv_bipush (v := iZ ((32 : Nat) : Int)) hx hb d_D_haul_11 (by decide) ?_
  refine z_icmp_lt (a := ((jn J : Nat) : Int)) (b := ((32 : Nat) : Int)) (tgt := 26) hx hb (by omega) d_D_haul_13 (by decide) (fun q13 => ?_) (fun q13 => ?_)
  · skip
    refine lv_aload_n hx hb d_D_haul_26 rfl (lv_at hl 0 rfl) ?_
    refine va_get (D := D) (ci := 0) (v := .ref (ad 1)) (C := n_D) (T := f_D) (N := 5) hx hb hts in_D hown hK hP 0 rfl rfl 0 (by decide) (hts _ fl_D_14) (fun _ h9 => h9) rfl d_D_haul_27 ?_
    refine lv_iload_n hx hb d_D_haul_30 rfl (lv_at hl 1 rfl) ?_
    refine z_ki (z_runV (As := [.int (iZ ((sh : Nat) : Int))]) (rest := []) zTB Z (k_J_addHaul1 hsh hn hop) ⟨ml_D_57, im_J_addHaul, se_J_addHaul, ini_J, co_J_addHaul⟩ zd_J_addHaul ⟨Nat.le_of_ble_eq_true rfl, Nat.le_of_ble_eq_true rfl⟩ hP hK hD (ci := 1) (q0 := 1) rfl rfl rfl hl.1 rfl (Nat.le_of_ble_eq_true rfl) d_D_haul_31 ⟨Nat.zero_le _, Nat.zero_le _⟩) hD hS hA (fun r9 w9 H locs hp9 hP hD hS => ?_)
    obtain ⟨rfl, rfl⟩ := hp9
    have hP : va_P D classes (wdC ad cI cZ cL (sH1 J sh) rd pr G K tl) H := hP
    have hD : va_D A (wdC ad cI cZ cL (sH1 J sh) rd pr G K tl) := hD
    refine W.eq (g2 := F0 m 34 ls [.int (iZ ((jn J : Nat) : Int))]) rfl ?_
    exact z_iret Z hP hS d_D_haul_34 wdC_map (⟨rfl, rfl⟩)
  · skip
    exfalso; omega

set_option maxHeartbeats 4000000 in
set_option maxRecDepth 100000 in
theorem k_D_haul2 {l : Launch} {D : va_G} {ad : Nat → Nat} {cI cZ cL : ClassId} {J : SJ} {rd : Nat → Int} {pr : Nat → Nat} {G : SH} {K : SK} {tl : va_W} {sh f : Nat} (hI : JI J) (hsh : sh < 4) (hn : jn J < 32) (hk : jk J < 16) (hop : jop J sh = ((f : Nat) : Int)) (hf : f < 32) : zMi l TB D classes (tysW cI cZ cL) y_D_haul w_D_haul 3 81 [.ref (ad 0), .int (iZ ((sh : Nat) : Int))] (wdC ad cI cZ cL J rd pr G K tl) (fun r w => r = iZ ((jn J : Nat) : Int) ∧ w = wdC ad cI cZ cL (sH2 J sh f) rd pr G K tl) := by
  refine z_of (Qc := fun A => va_Qi (fun r w => r = iZ ((jn J : Nat) : Int) ∧ w = wdC ad cI cZ cL (sH2 J sh f) rd pr G K tl) (zB9 D classes (wdC ad cI cZ cL J rd pr G K tl)) A) (by decide) (Nat.le_of_ble_eq_true rfl) ?_
  intro p e s m below meth c A ls Z hP hK hD hS hA hl
  obtain ⟨hx, hb, hr, hml, hown, hts, hE, hlocks⟩ := id Z
  have hl : lv_has ls 2 [(0, .ref (ad 0)), (1, .int (iZ ((sh : Nat) : Int)))] := hl
  obtain ⟨hn32, hk2, hpr, hct⟩ := id hI
  suffices K9 : ∀ (H : Heap) (locs : List Loc) (ls : Array Slot), va_P D classes (wdC ad cI cZ cL J rd pr G K tl) H → va_D A (wdC ad cI cZ cL J rd pr G K tl) → va_S A s.heap H locs → lv_has ls 2 [(0, .ref (ad 0)), (1, .int (iZ ((sh : Nat) : Int)))] → W p l e (zRm 3 81) s m ([.ref (ad 0), .int (iZ ((sh : Nat) : Int))] : List Value).toArray below meth c H locs 0 0 (MQ below (va_Qi (fun r w => r = iZ ((jn J : Nat) : Int) ∧ w = wdC ad cI cZ cL (sH2 J sh f) rd pr G K tl) (zB9 D classes (wdC ad cI cZ cL J rd pr G K tl)) A) ([.ref (ad 0), .int (iZ ((sh : Nat) : Int))] : List Value).toArray s 0 0 A) (F0 m 0 ls []) from K9 s.heap [] ls hP hD hS hl
  clear hP hD hS hl
  intro H locs ls hP hD hS hl
  refine lv_iload_n hx hb d_D_haul_0 rfl (lv_at hl 1 rfl) ?_
  refine z_callSR (As := [.int (iZ ((sh : Nat) : Int))]) (rest := []) zTB Z (k_D_needShip (a := ((sh : Nat) : Int)) (by omega)) ⟨ml_D_43, sm_D_needShip, ini_D, co_D_needShip⟩ zd_D_needShip ⟨Nat.le_of_ble_eq_true rfl, Nat.le_of_ble_eq_true rfl⟩ hP hK hl.1 rfl (Nat.le_of_ble_eq_true rfl) d_D_haul_1 ⟨Nat.zero_le _, Nat.zero_le _⟩ ?_
  refine W.eq (g2 := F0 m 4 ls []) rfl ?_
  refine lv_aload_n hx hb d_D_haul_4 rfl (lv_at hl 0 rfl) ?_
  refine va_get (D := D) (ci := 0) (v := .ref (ad 1)) (C := n_D) (T := f_D) (N := 5) hx hb hts in_D hown hK hP 0 rfl rfl 0 (by decide) (hts _ fl_D_14) (fun _ h9 => h9) rfl d_D_haul_5 ?_
  refine va_getN (D := D) (ci := 1) (v := .int (iZ ((jn J : Nat) : Int))) (C := n_J) (T := f_J) (N := 10) hx hb hts in_J hown hK hP 1 rfl rfl 1 (by decide) (hts _ fl_D_46) (fun _ h9 => h9) rfl d_D_haul_8 ?_
  refine lv_bipush (v := iZ ((32 : Nat) : Int)) hx hb d_D_haul_11 (by decide) ?_
  refine z_icmp_lt (a := ((jn J : Nat) : Int)) (b := ((32 : Nat) : Int)) (tgt := 26) hx hb (by omega) d_D_haul_13 (by decide) (fun q13 => ?_) (fun q13 => ?_)
  · skip
    refine lv_aload_n hx hb d_D_haul_26 rfl (lv_at hl 0 rfl) ?_
    refine va_get (D := D) (ci := 0) (v := .ref (ad 1)) (C := n_D) (T := f_D) (N := 5) hx hb hts in_D hown hK hP 0 rfl rfl 0 (by decide) (hts _ fl_D_14) (fun _ h9 => h9) rfl d_D_haul_27 ?_
    refine lv_iload_n hx hb d_D_haul_30 rfl (lv_at hl 1 rfl) ?_
    refine z_ki (z_runV (As := [.int (iZ ((sh : Nat) : Int))]) (rest := []) zTB Z (k_J_addHaul2 hsh hn hk hop hf) ⟨ml_D_57, im_J_addHaul, se_J_addHaul, ini_J, co_J_addHaul⟩ zd_J_addHaul ⟨Nat.le_of_ble_eq_true rfl, Nat.le_of_ble_eq_true rfl⟩ hP hK hD (ci := 1) (q0 := 1) rfl rfl rfl hl.1 rfl (Nat.le_of_ble_eq_true rfl) d_D_haul_31 ⟨Nat.zero_le _, Nat.zero_le _⟩) hD hS hA (fun r9 w9 H locs hp9 hP hD hS => ?_)
    obtain ⟨rfl, rfl⟩ := hp9
    have hP : va_P D classes (wdC ad cI cZ cL (sH2 J sh f) rd pr G K tl) H := hP
    have hD : va_D A (wdC ad cI cZ cL (sH2 J sh f) rd pr G K tl) := hD
    refine W.eq (g2 := F0 m 34 ls [.int (iZ ((jn J : Nat) : Int))]) rfl ?_
    exact z_iret Z hP hS d_D_haul_34 wdC_map (⟨rfl, rfl⟩)
  · skip
    exfalso; omega

set_option maxHeartbeats 4000000 in
set_option maxRecDepth 100000 in
theorem k_D_caught {l : Launch} {D : va_G} {ad : Nat → Nat} {cI cZ cL : ClassId} {J : SJ} {rd : Nat → Int} {pr : Nat → Nat} {G : SH} {K : SK} {tl : va_W} {h kd v : Nat} (hI : JI J) (hh : h < jn J) (hkd : kd < 3) (hv : v ≤ 1000) : zMi l TB D classes (tysW cI cZ cL) y_D_caught w_D_caught 3 82 [.ref (ad 0), .int (iZ ((h : Nat) : Int)), .int (iZ ((kd : Nat) : Int)), .int (iZ ((v : Nat) : Int))] (wdC ad cI cZ cL J rd pr G K tl) (fun r w => r = bI (decide (jct J (h * 3 + kd) ≠ v)) ∧ w = wdC ad cI cZ cL (sPC9 J (h * 3 + kd) v) rd pr G K tl) := by
  refine z_of (Qc := fun A => va_Qi (fun r w => r = bI (decide (jct J (h * 3 + kd) ≠ v)) ∧ w = wdC ad cI cZ cL (sPC9 J (h * 3 + kd) v) rd pr G K tl) (zB9 D classes (wdC ad cI cZ cL J rd pr G K tl)) A) (by decide) (Nat.le_of_ble_eq_true rfl) ?_
  intro p e s m below meth c A ls Z hP hK hD hS hA hl
  obtain ⟨hx, hb, hr, hml, hown, hts, hE, hlocks⟩ := id Z
  have hl : lv_has ls 4 [(0, .ref (ad 0)), (1, .int (iZ ((h : Nat) : Int))), (2, .int (iZ ((kd : Nat) : Int))), (3, .int (iZ ((v : Nat) : Int)))] := hl
  obtain ⟨hn32, hk2, hpr, hct⟩ := id hI
  suffices K9 : ∀ (H : Heap) (locs : List Loc) (ls : Array Slot), va_P D classes (wdC ad cI cZ cL J rd pr G K tl) H → va_D A (wdC ad cI cZ cL J rd pr G K tl) → va_S A s.heap H locs → lv_has ls 4 [(0, .ref (ad 0)), (1, .int (iZ ((h : Nat) : Int))), (2, .int (iZ ((kd : Nat) : Int))), (3, .int (iZ ((v : Nat) : Int)))] → W p l e (zRm 3 82) s m ([.ref (ad 0), .int (iZ ((h : Nat) : Int)), .int (iZ ((kd : Nat) : Int)), .int (iZ ((v : Nat) : Int))] : List Value).toArray below meth c H locs 0 0 (MQ below (va_Qi (fun r w => r = bI (decide (jct J (h * 3 + kd) ≠ v)) ∧ w = wdC ad cI cZ cL (sPC9 J (h * 3 + kd) v) rd pr G K tl) (zB9 D classes (wdC ad cI cZ cL J rd pr G K tl)) A) ([.ref (ad 0), .int (iZ ((h : Nat) : Int)), .int (iZ ((kd : Nat) : Int)), .int (iZ ((v : Nat) : Int))] : List Value).toArray s 0 0 A) (F0 m 0 ls []) from K9 s.heap [] ls hP hD hS hl
  clear hP hD hS hl
  intro H locs ls hP hD hS hl
  refine lv_aload_n hx hb d_D_caught_0 rfl (lv_at hl 0 rfl) ?_
  refine lv_iload_n hx hb d_D_caught_1 rfl (lv_at hl 1 rfl) ?_
  refine z_callVR (As := [.int (iZ ((h : Nat) : Int))]) (rest := []) zTB Z (k_D_needHaul (a := ((h : Nat) : Int)) (by omega)) ⟨ml_D_61, im_D_needHaul, se_D_needHaul, ini_D, co_D_needHaul⟩ zd_D_needHaul ⟨Nat.le_of_ble_eq_true rfl, Nat.le_of_ble_eq_true rfl⟩ hP hK (ci := 0) (q0 := 0) rfl rfl rfl hl.1 rfl (Nat.le_of_ble_eq_true rfl) d_D_caught_2 ⟨Nat.zero_le _, Nat.zero_le _⟩ ?_
  refine W.eq (g2 := F0 m 5 ls []) rfl ?_
  refine lv_iload_n hx hb d_D_caught_5 rfl (lv_at hl 2 rfl) ?_
  refine z_callSR (As := [.int (iZ ((kd : Nat) : Int))]) (rest := []) zTB Z (k_D_needKind (a := ((kd : Nat) : Int)) (by omega)) ⟨ml_D_64, sm_D_needKind, ini_D, co_D_needKind⟩ zd_D_needKind ⟨Nat.le_of_ble_eq_true rfl, Nat.le_of_ble_eq_true rfl⟩ hP hK hl.1 rfl (Nat.le_of_ble_eq_true rfl) d_D_caught_6 ⟨Nat.zero_le _, Nat.zero_le _⟩ ?_
  refine W.eq (g2 := F0 m 9 ls []) rfl ?_
  refine lv_iload_n hx hb d_D_caught_9 rfl (lv_at hl 3 rfl) ?_
  refine lv_iconst (v := iZ ((0 : Nat) : Int)) hx hb d_D_caught_10 (by decide) ?_
  refine lv_sipush (v := iZ ((1000 : Nat) : Int)) hx hb d_D_caught_11 (by decide) ?_
  refine z_callSR (As := [.int (iZ ((v : Nat) : Int)), .int (iZ ((0 : Nat) : Int)), .int (iZ ((1000 : Nat) : Int))]) (rest := []) zTB Z (k_D_needNumber (a := ((v : Nat) : Int)) (b := ((0 : Nat) : Int)) (c9 := ((1000 : Nat) : Int)) (by omega)) ⟨ml_D_67, sm_D_needNumber, ini_D, co_D_needNumber⟩ zd_D_needNumber ⟨Nat.le_of_ble_eq_true rfl, Nat.le_of_ble_eq_true rfl⟩ hP hK hl.1 rfl (Nat.le_of_ble_eq_true rfl) d_D_caught_14 ⟨Nat.zero_le _, Nat.zero_le _⟩ ?_
  refine W.eq (g2 := F0 m 17 ls []) rfl ?_
  refine lv_aload_n hx hb d_D_caught_17 rfl (lv_at hl 0 rfl) ?_
  refine va_get (D := D) (ci := 0) (v := .ref (ad 1)) (C := n_D) (T := f_D) (N := 5) hx hb hts in_D hown hK hP 0 rfl rfl 0 (by decide) (hts _ fl_D_14) (fun _ h9 => h9) rfl d_D_caught_18 ?_
  refine lv_iload_n hx hb d_D_caught_21 rfl (lv_at hl 1 rfl) ?_
  refine lv_iload_n hx hb d_D_caught_22 rfl (lv_at hl 2 rfl) ?_
  refine lv_iload_n hx hb d_D_caught_23 rfl (lv_at hl 3 rfl) ?_
  refine z_ki (z_runV (As := [.int (iZ ((h : Nat) : Int)), .int (iZ ((kd : Nat) : Int)), .int (iZ ((v : Nat) : Int))]) (rest := []) zTB Z (k_J_putCount (h := h) (kd := kd) (v := v) (by omega) hct) ⟨ml_D_71, im_J_putCount, se_J_putCount, ini_J, co_J_putCount⟩ zd_J_putCount ⟨Nat.le_of_ble_eq_true rfl, Nat.le_of_ble_eq_true rfl⟩ hP hK hD (ci := 1) (q0 := 1) rfl rfl rfl hl.1 rfl (Nat.le_of_ble_eq_true rfl) d_D_caught_24 ⟨Nat.zero_le _, Nat.zero_le _⟩) hD hS hA (fun r9 w9 H locs hp9 hP hD hS => ?_)
  obtain ⟨rfl, rfl⟩ := hp9
  have hP : va_P D classes (wdC ad cI cZ cL (sPC9 J (h * 3 + kd) v) rd pr G K tl) H := hP
  have hD : va_D A (wdC ad cI cZ cL (sPC9 J (h * 3 + kd) v) rd pr G K tl) := hD
  refine W.eq (g2 := F0 m 27 ls [.int (bI (decide (jct J (h * 3 + kd) ≠ v)))]) rfl ?_
  exact z_zret Z hP hS d_D_caught_27 wdC_map (⟨rfl, rfl⟩)

set_option maxHeartbeats 4000000 in
set_option maxRecDepth 100000 in
theorem k_D_out {l : Launch} {D : va_G} {ad : Nat → Nat} {cI cZ cL : ClassId} {J : SJ} {rd : Nat → Int} {pr : Nat → Nat} {G : SH} {K : SK} {tl : va_W} {sh : Nat} {on : Bool} (hsh : sh < 4) : zMi l TB D classes (tysW cI cZ cL) y_D_out w_D_out 3 81 [.ref (ad 0), .int (iZ ((sh : Nat) : Int)), .int (bI (on))] (wdC ad cI cZ cL J rd pr G K tl) (fun r w => r = bI (jou J sh != on) ∧ w = wdC ad cI cZ cL (sLO J sh on) rd pr G K tl) := by
  refine z_of (Qc := fun A => va_Qi (fun r w => r = bI (jou J sh != on) ∧ w = wdC ad cI cZ cL (sLO J sh on) rd pr G K tl) (zB9 D classes (wdC ad cI cZ cL J rd pr G K tl)) A) (by decide) (Nat.le_of_ble_eq_true rfl) ?_
  intro p e s m below meth c A ls Z hP hK hD hS hA hl
  obtain ⟨hx, hb, hr, hml, hown, hts, hE, hlocks⟩ := id Z
  have hl : lv_has ls 3 [(0, .ref (ad 0)), (1, .int (iZ ((sh : Nat) : Int))), (2, .int (bI (on)))] := hl
  suffices K9 : ∀ (H : Heap) (locs : List Loc) (ls : Array Slot), va_P D classes (wdC ad cI cZ cL J rd pr G K tl) H → va_D A (wdC ad cI cZ cL J rd pr G K tl) → va_S A s.heap H locs → lv_has ls 3 [(0, .ref (ad 0)), (1, .int (iZ ((sh : Nat) : Int))), (2, .int (bI (on)))] → W p l e (zRm 3 81) s m ([.ref (ad 0), .int (iZ ((sh : Nat) : Int)), .int (bI (on))] : List Value).toArray below meth c H locs 0 0 (MQ below (va_Qi (fun r w => r = bI (jou J sh != on) ∧ w = wdC ad cI cZ cL (sLO J sh on) rd pr G K tl) (zB9 D classes (wdC ad cI cZ cL J rd pr G K tl)) A) ([.ref (ad 0), .int (iZ ((sh : Nat) : Int)), .int (bI (on))] : List Value).toArray s 0 0 A) (F0 m 0 ls []) from K9 s.heap [] ls hP hD hS hl
  clear hP hD hS hl
  intro H locs ls hP hD hS hl
  refine lv_iload_n hx hb d_D_out_0 rfl (lv_at hl 1 rfl) ?_
  refine z_callSR (As := [.int (iZ ((sh : Nat) : Int))]) (rest := []) zTB Z (k_D_needShip (a := ((sh : Nat) : Int)) (by omega)) ⟨ml_D_43, sm_D_needShip, ini_D, co_D_needShip⟩ zd_D_needShip ⟨Nat.le_of_ble_eq_true rfl, Nat.le_of_ble_eq_true rfl⟩ hP hK hl.1 rfl (Nat.le_of_ble_eq_true rfl) d_D_out_1 ⟨Nat.zero_le _, Nat.zero_le _⟩ ?_
  refine W.eq (g2 := F0 m 4 ls []) rfl ?_
  refine lv_aload_n hx hb d_D_out_4 rfl (lv_at hl 0 rfl) ?_
  refine va_get (D := D) (ci := 0) (v := .ref (ad 1)) (C := n_D) (T := f_D) (N := 5) hx hb hts in_D hown hK hP 0 rfl rfl 0 (by decide) (hts _ fl_D_14) (fun _ h9 => h9) rfl d_D_out_5 ?_
  refine lv_iload_n hx hb d_D_out_8 rfl (lv_at hl 1 rfl) ?_
  refine lv_iload_n hx hb d_D_out_9 rfl (lv_at hl 2 rfl) ?_
  refine z_ki (z_runV (As := [.int (iZ ((sh : Nat) : Int)), .int (bI (on))]) (rest := []) zTB Z (k_J_leaveOut (sh := sh) (on := on) hsh) ⟨ml_D_75, im_J_leaveOut, se_J_leaveOut, ini_J, co_J_leaveOut⟩ zd_J_leaveOut ⟨Nat.le_of_ble_eq_true rfl, Nat.le_of_ble_eq_true rfl⟩ hP hK hD (ci := 1) (q0 := 1) rfl rfl rfl hl.1 rfl (Nat.le_of_ble_eq_true rfl) d_D_out_10 ⟨Nat.zero_le _, Nat.zero_le _⟩) hD hS hA (fun r9 w9 H locs hp9 hP hD hS => ?_)
  obtain ⟨rfl, rfl⟩ := hp9
  have hP : va_P D classes (wdC ad cI cZ cL (sLO J sh on) rd pr G K tl) H := hP
  have hD : va_D A (wdC ad cI cZ cL (sLO J sh on) rd pr G K tl) := hD
  refine W.eq (g2 := F0 m 13 ls [.int (bI (jou J sh != on))]) rfl ?_
  exact z_zret Z hP hS d_D_out_13 wdC_map (⟨rfl, rfl⟩)

theorem RI_u {rd : Nat → Int} (hR : RI rd) {j : Nat} {v : Int} (h : -1 ≤ v ∧ v ≤ 100000) : RI (zu rd j v) := fun i => by
  unfold zu
  split
  · exact h
  · exact hR i
set_option maxHeartbeats 4000000 in
set_option maxRecDepth 100000 in
theorem k_D_reader {l : Launch} {D : va_G} {ad : Nat → Nat} {cI cZ cL : ClassId} {J : SJ} {rd : Nat → Int} {pr : Nat → Nat} {G : SH} {K : SK} {tl : va_W} {h rr v : Nat} (hI : JI J) (hR : RI rd) (hh : h < jn J) (hrr : rr < 2) (hv : v ≤ 100000) : zMi l TB D classes (tysW cI cZ cL) y_D_reader w_D_reader 3 82 [.ref (ad 0), .int (iZ ((h : Nat) : Int)), .int (iZ ((rr : Nat) : Int)), .int (iZ ((v : Nat) : Int))] (wdC ad cI cZ cL J rd pr G K tl) (fun r w => r = bI (sUn (zu rd (h * 2 + rr) ((v : Nat) : Int)) h) ∧ w = wdC ad cI cZ cL J (zu rd (h * 2 + rr) ((v : Nat) : Int)) pr G K tl) := by
  refine z_of (Qc := fun A => va_Qi (fun r w => r = bI (sUn (zu rd (h * 2 + rr) ((v : Nat) : Int)) h) ∧ w = wdC ad cI cZ cL J (zu rd (h * 2 + rr) ((v : Nat) : Int)) pr G K tl) (zB9 D classes (wdC ad cI cZ cL J rd pr G K tl)) A) (by decide) (Nat.le_of_ble_eq_true rfl) ?_
  intro p e s m below meth c A ls Z hP hK hD hS hA hl
  obtain ⟨hx, hb, hr, hml, hown, hts, hE, hlocks⟩ := id Z
  have hl : lv_has ls 4 [(0, .ref (ad 0)), (1, .int (iZ ((h : Nat) : Int))), (2, .int (iZ ((rr : Nat) : Int))), (3, .int (iZ ((v : Nat) : Int)))] := hl
  obtain ⟨hn32, hk2, hpr, hct⟩ := id hI
  have hR2 : RI (zu rd (h * 2 + rr) ((v : Nat) : Int)) := RI_u hR (by omega)
  suffices K9 : ∀ (H : Heap) (locs : List Loc) (ls : Array Slot), va_P D classes (wdC ad cI cZ cL J rd pr G K tl) H → va_D A (wdC ad cI cZ cL J rd pr G K tl) → va_S A s.heap H locs → lv_has ls 4 [(0, .ref (ad 0)), (1, .int (iZ ((h : Nat) : Int))), (2, .int (iZ ((rr : Nat) : Int))), (3, .int (iZ ((v : Nat) : Int)))] → W p l e (zRm 3 82) s m ([.ref (ad 0), .int (iZ ((h : Nat) : Int)), .int (iZ ((rr : Nat) : Int)), .int (iZ ((v : Nat) : Int))] : List Value).toArray below meth c H locs 0 0 (MQ below (va_Qi (fun r w => r = bI (sUn (zu rd (h * 2 + rr) ((v : Nat) : Int)) h) ∧ w = wdC ad cI cZ cL J (zu rd (h * 2 + rr) ((v : Nat) : Int)) pr G K tl) (zB9 D classes (wdC ad cI cZ cL J rd pr G K tl)) A) ([.ref (ad 0), .int (iZ ((h : Nat) : Int)), .int (iZ ((rr : Nat) : Int)), .int (iZ ((v : Nat) : Int))] : List Value).toArray s 0 0 A) (F0 m 0 ls []) from K9 s.heap [] ls hP hD hS hl
  clear hP hD hS hl
  intro H locs ls hP hD hS hl
  refine lv_aload_n hx hb d_D_reader_0 rfl (lv_at hl 0 rfl) ?_
  refine lv_iload_n hx hb d_D_reader_1 rfl (lv_at hl 1 rfl) ?_
  refine z_callVR (As := [.int (iZ ((h : Nat) : Int))]) (rest := []) zTB Z (k_D_needHaul (a := ((h : Nat) : Int)) (by omega)) ⟨ml_D_61, im_D_needHaul, se_D_needHaul, ini_D, co_D_needHaul⟩ zd_D_needHaul ⟨Nat.le_of_ble_eq_true rfl, Nat.le_of_ble_eq_true rfl⟩ hP hK (ci := 0) (q0 := 0) rfl rfl rfl hl.1 rfl (Nat.le_of_ble_eq_true rfl) d_D_reader_2 ⟨Nat.zero_le _, Nat.zero_le _⟩ ?_
  refine W.eq (g2 := F0 m 5 ls []) rfl ?_
  refine lv_iload_n hx hb d_D_reader_5 rfl (lv_at hl 2 rfl) ?_
  refine lv_iconst (v := iZ ((2 : Nat) : Int)) hx hb d_D_reader_6 (by decide) ?_
  refine z_callSR (As := [.int (iZ ((rr : Nat) : Int)), .int (iZ ((2 : Nat) : Int))]) (rest := []) zTB Z (k_D_needIndex (a := ((rr : Nat) : Int)) (b := ((2 : Nat) : Int)) (by omega)) ⟨ml_D_86, sm_D_needIndex, ini_D, co_D_needIndex⟩ zd_D_needIndex ⟨Nat.le_of_ble_eq_true rfl, Nat.le_of_ble_eq_true rfl⟩ hP hK hl.1 rfl (Nat.le_of_ble_eq_true rfl) d_D_reader_7 ⟨Nat.zero_le _, Nat.zero_le _⟩ ?_
  refine W.eq (g2 := F0 m 10 ls []) rfl ?_
  refine lv_iload_n hx hb d_D_reader_10 rfl (lv_at hl 3 rfl) ?_
  refine lv_iconst (v := iZ ((0 : Nat) : Int)) hx hb d_D_reader_11 (by decide) ?_
  refine lv_ldc (v := iZ ((100000 : Nat) : Int)) hx hb hown (hts _ ck9_D_169) d_D_reader_12 ?_
  refine z_callSR (As := [.int (iZ ((v : Nat) : Int)), .int (iZ ((0 : Nat) : Int)), .int (iZ ((100000 : Nat) : Int))]) (rest := []) zTB Z (k_D_needNumber (a := ((v : Nat) : Int)) (b := ((0 : Nat) : Int)) (c9 := ((100000 : Nat) : Int)) (by omega)) ⟨ml_D_67, sm_D_needNumber, ini_D, co_D_needNumber⟩ zd_D_needNumber ⟨Nat.le_of_ble_eq_true rfl, Nat.le_of_ble_eq_true rfl⟩ hP hK hl.1 rfl (Nat.le_of_ble_eq_true rfl) d_D_reader_14 ⟨Nat.zero_le _, Nat.zero_le _⟩ ?_
  refine W.eq (g2 := F0 m 17 ls []) rfl ?_
  refine lv_aload_n hx hb d_D_reader_17 rfl (lv_at hl 0 rfl) ?_
  refine va_get (D := D) (ci := 0) (v := .ref (ad 9)) (C := n_D) (T := f_D) (N := 5) hx hb hts in_D hown hK hP 0 rfl rfl 1 (by decide) (hts _ fl_D_21) (fun _ h9 => h9) rfl d_D_reader_18 ?_
  refine lv_iload_n hx hb d_D_reader_21 rfl (lv_at hl 1 rfl) ?_
  refine lv_iload_n hx hb d_D_reader_22 rfl (lv_at hl 2 rfl) ?_
  refine lv_iload_n hx hb d_D_reader_23 rfl (lv_at hl 3 rfl) ?_
  refine z_kv (z_runV (As := [.int (iZ ((h : Nat) : Int)), .int (iZ ((rr : Nat) : Int)), .int (iZ ((v : Nat) : Int))]) (rest := []) zTB Z (k_C_putReading (h := h) (rr := rr) (v := v) (by omega)) ⟨ml_D_170, im_C_putReading, se_C_putReading, ini_C, co_C_putReading⟩ zd_C_putReading ⟨Nat.le_of_ble_eq_true rfl, Nat.le_of_ble_eq_true rfl⟩ hP hK hD (ci := 2) (q0 := 9) rfl rfl rfl hl.1 rfl (Nat.le_of_ble_eq_true rfl) d_D_reader_24 ⟨Nat.zero_le _, Nat.zero_le _⟩) hD hS hA (fun w9 H locs hp9 hP hD hS => ?_)
  obtain rfl := hp9
  have hP : va_P D classes (wdC ad cI cZ cL J (zu rd (h * 2 + rr) ((v : Nat) : Int)) pr G K tl) H := hP
  have hD : va_D A (wdC ad cI cZ cL J (zu rd (h * 2 + rr) ((v : Nat) : Int)) pr G K tl) := hD
  refine W.eq (g2 := F0 m 27 ls []) rfl ?_
  refine lv_aload_n hx hb d_D_reader_27 rfl (lv_at hl 0 rfl) ?_
  refine va_get (D := D) (ci := 0) (v := .ref (ad 9)) (C := n_D) (T := f_D) (N := 5) hx hb hts in_D hown hK hP 0 rfl rfl 1 (by decide) (hts _ fl_D_21) (fun _ h9 => h9) rfl d_D_reader_28 ?_
  refine lv_iload_n hx hb d_D_reader_31 rfl (lv_at hl 1 rfl) ?_
  refine z_callVR (As := [.int (iZ ((h : Nat) : Int))]) (rest := []) zTB Z (k_C_differs hR2 (h := h) (by omega)) ⟨ml_D_173, im_C_differs, se_C_differs, ini_C, co_C_differs⟩ zd_C_differs ⟨Nat.le_of_ble_eq_true rfl, Nat.le_of_ble_eq_true rfl⟩ hP hK (ci := 2) (q0 := 9) rfl rfl rfl hl.1 rfl (Nat.le_of_ble_eq_true rfl) d_D_reader_32 ⟨Nat.zero_le _, Nat.zero_le _⟩ ?_
  refine W.eq (g2 := F0 m 35 ls [.int (bI (sUn (zu rd (h * 2 + rr) ((v : Nat) : Int)) h))]) rfl ?_
  exact z_zret Z hP hS d_D_reader_35 wdC_map (⟨rfl, rfl⟩)

set_option maxHeartbeats 4000000 in
set_option maxRecDepth 100000 in
theorem k_D_price {l : Launch} {D : va_G} {ad : Nat → Nat} {cI cZ cL : ClassId} {J : SJ} {rd : Nat → Int} {pr : Nat → Nat} {G : SH} {K : SK} {tl : va_W} {kd v : Nat} (hkd : kd < 3) (hv : v ≤ 100000) : zMv l TB D classes (tysW cI cZ cL) y_D_price w_D_price 3 81 [.ref (ad 0), .int (iZ ((kd : Nat) : Int)), .int (iZ ((v : Nat) : Int))] (wdC ad cI cZ cL J rd pr G K tl) (fun w => w = wdC ad cI cZ cL J rd (nu pr kd v) G K tl) := by
  refine z_of (Qc := fun A => va_Qv (fun w => w = wdC ad cI cZ cL J rd (nu pr kd v) G K tl) (zB9 D classes (wdC ad cI cZ cL J rd pr G K tl)) A) (by decide) (Nat.le_of_ble_eq_true rfl) ?_
  intro p e s m below meth c A ls Z hP hK hD hS hA hl
  obtain ⟨hx, hb, hr, hml, hown, hts, hE, hlocks⟩ := id Z
  have hl : lv_has ls 3 [(0, .ref (ad 0)), (1, .int (iZ ((kd : Nat) : Int))), (2, .int (iZ ((v : Nat) : Int)))] := hl
  suffices K9 : ∀ (H : Heap) (locs : List Loc) (ls : Array Slot), va_P D classes (wdC ad cI cZ cL J rd pr G K tl) H → va_D A (wdC ad cI cZ cL J rd pr G K tl) → va_S A s.heap H locs → lv_has ls 3 [(0, .ref (ad 0)), (1, .int (iZ ((kd : Nat) : Int))), (2, .int (iZ ((v : Nat) : Int)))] → W p l e (zRm 3 81) s m ([.ref (ad 0), .int (iZ ((kd : Nat) : Int)), .int (iZ ((v : Nat) : Int))] : List Value).toArray below meth c H locs 0 0 (MQ below (va_Qv (fun w => w = wdC ad cI cZ cL J rd (nu pr kd v) G K tl) (zB9 D classes (wdC ad cI cZ cL J rd pr G K tl)) A) ([.ref (ad 0), .int (iZ ((kd : Nat) : Int)), .int (iZ ((v : Nat) : Int))] : List Value).toArray s 0 0 A) (F0 m 0 ls []) from K9 s.heap [] ls hP hD hS hl
  clear hP hD hS hl
  intro H locs ls hP hD hS hl
  refine lv_iload_n hx hb d_D_price_0 rfl (lv_at hl 1 rfl) ?_
  refine z_callSR (As := [.int (iZ ((kd : Nat) : Int))]) (rest := []) zTB Z (k_D_needKind (a := ((kd : Nat) : Int)) (by omega)) ⟨ml_D_64, sm_D_needKind, ini_D, co_D_needKind⟩ zd_D_needKind ⟨Nat.le_of_ble_eq_true rfl, Nat.le_of_ble_eq_true rfl⟩ hP hK hl.1 rfl (Nat.le_of_ble_eq_true rfl) d_D_price_1 ⟨Nat.zero_le _, Nat.zero_le _⟩ ?_
  refine W.eq (g2 := F0 m 4 ls []) rfl ?_
  refine lv_iload_n hx hb d_D_price_4 rfl (lv_at hl 2 rfl) ?_
  refine lv_iconst (v := iZ ((0 : Nat) : Int)) hx hb d_D_price_5 (by decide) ?_
  refine lv_ldc (v := iZ ((100000 : Nat) : Int)) hx hb hown (hts _ ck9_D_169) d_D_price_6 ?_
  refine z_callSR (As := [.int (iZ ((v : Nat) : Int)), .int (iZ ((0 : Nat) : Int)), .int (iZ ((100000 : Nat) : Int))]) (rest := []) zTB Z (k_D_needNumber (a := ((v : Nat) : Int)) (b := ((0 : Nat) : Int)) (c9 := ((100000 : Nat) : Int)) (by omega)) ⟨ml_D_67, sm_D_needNumber, ini_D, co_D_needNumber⟩ zd_D_needNumber ⟨Nat.le_of_ble_eq_true rfl, Nat.le_of_ble_eq_true rfl⟩ hP hK hl.1 rfl (Nat.le_of_ble_eq_true rfl) d_D_price_8 ⟨Nat.zero_le _, Nat.zero_le _⟩ ?_
  refine W.eq (g2 := F0 m 11 ls []) rfl ?_
  refine lv_aload_n hx hb d_D_price_11 rfl (lv_at hl 0 rfl) ?_
  refine va_get (D := D) (ci := 0) (v := .ref (ad 18)) (C := n_D) (T := f_D) (N := 5) hx hb hts in_D hown hK hP 0 rfl rfl 4 (by decide) (hts _ fl_D_39) (fun _ h9 => h9) rfl d_D_price_12 ?_
  refine lv_iload_n hx hb d_D_price_15 rfl (lv_at hl 1 rfl) ?_
  refine lv_iload_n hx hb d_D_price_16 rfl (lv_at hl 2 rfl) ?_
  refine z_iastN (f := pr) (v := v) hx hb hK hP hD hS 18 0 rfl rfl (kd) (by omega) d_D_price_17 (fun H locs hP hD hS => ?_)
  have hP : va_P D classes (wdC ad cI cZ cL J rd (nu pr (kd) v) G K tl) H := hP
  have hD : va_D A (wdC ad cI cZ cL J rd (nu pr (kd) v) G K tl) := hD
  exact z_vret Z hP hS d_D_price_18 wdC_map (rfl)

