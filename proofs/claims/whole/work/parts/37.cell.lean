/-! What stands at the law's entry. -/
theorem z4_lays {s U : State} {H : Heap} {O f d : String} {a0 : Array Value} (hW : s.WarmedH U.vm) (hU : U.heap = H) (hk : ∀ q : Nat, q < s.heap.size → H[q]? = s.heap[q]?) (h : (Cond.laysStatic O f d).before a0 s = true) (a : Array Value) : (Cond.laysStatic O f d).before a U = true := by
  obtain ⟨c, k, i, fd, ad, cell, hc, hf, hst, hsta, hcell, hiss, hcls, hlt, hty⟩ := Cond.laysStatic_spec h
  obtain ⟨k', hf', he⟩ := State.fieldFound?_setVm hW.alike hf
  have hf2 : U.fieldFound? O f d = some (c, k', i, fd) := hf'
  have hc' : U.vm.findClass O = some c := by rw [hW.alike.findClass]; exact hc
  have hsta' : k'.statics = some ad := by rw [he]; exact hsta
  have hty' : k'.staticTypes[fd.slot]? = some fd.type := by rw [he]; exact hty
  have hcell' : U.heap[ad]? = some cell := by rw [hU, hk ad (Array.getElem?_eq_some_iff.mp hcell).1]; exact hcell
  simp [Cond.before, Cond.holds, Cond.value, hc', hf2, hst, hsta', hcell', hiss, hcls, hlt, hty']
theorem z4_isRef {s U : State} {H : Heap} {O f d : String} {a0 : Array Value} (hW : s.WarmedH U.vm) (hU : U.heap = H) (hk : ∀ q : Nat, q < s.heap.size → H[q]? = s.heap[q]?) (h : (Cond.laysStatic O f d).before a0 s = true) (hr : (Cond.isRef (.static O f d)).before a0 s = true) (a : Array Value) : (Cond.isRef (.static O f d)).before a U = true := by
  obtain ⟨c, k, i, fd, ad, cell, hc, hf, hst, hsta, hcell, hiss, hcls, hlt, hty⟩ := Cond.laysStatic_spec h
  obtain ⟨k', hf', he⟩ := State.fieldFound?_setVm hW.alike hf
  have hf2 : U.fieldFound? O f d = some (c, k', i, fd) := hf'
  have hsta' : k'.statics = some ad := by rw [he]; exact hsta
  have hcell' : U.heap[ad]? = some cell := by rw [hU, hk ad (Array.getElem?_eq_some_iff.mp hcell).1]; exact hcell
  have hv : cell.slots[fd.slot]? = some cell.slots[fd.slot] := Array.getElem?_eq_getElem hlt
  have e1 : (Term.static O f d).eval a0 s none [] s = some cell.slots[fd.slot] := by
    simp [Term.eval, State.fieldNamed?, hf, hst, hsta, hcell, hiss, hv]
  have e2 : (Term.static O f d).eval a U none [] U = some cell.slots[fd.slot] := by
    simp [Term.eval, State.fieldNamed?, hf2, hst, hsta', hcell', hiss, hv]
  simp only [Cond.before, Cond.holds, Cond.value, e1] at hr
  simp only [Cond.before, Cond.holds, Cond.value, e2]
  exact hr
theorem zT_of {s : State} {H : Heap} {a0 : Array Value} (h : ∀ w ∈ z4, w.before a0 s = true) (hk : ∀ q : Nat, q < s.heap.size → H[q]? = s.heap[q]?) : zT s H := by
  intro U hW hU
  have h1 := h _ (List.mem_of_getElem? (i := 0) rfl)
  have h2 := h _ (List.mem_of_getElem? (i := 1) rfl)
  have h3 := h _ (List.mem_of_getElem? (i := 2) rfl)
  have h4 := h _ (List.mem_of_getElem? (i := 3) rfl)
  exact List.forall_mem_cons.mpr ⟨fun a => z4_isRef hW hU hk h3 h1 a, List.forall_mem_cons.mpr ⟨fun a => z4_isRef hW hU hk h4 h2 a, List.forall_mem_cons.mpr ⟨fun a => z4_lays hW hU hk h3 a, List.forall_mem_cons.mpr ⟨fun a => z4_lays hW hU hk h4 a, fun _ h => absurd h List.not_mem_nil⟩⟩⟩⟩
theorem arr_of {s : State} {ty : FieldType} {a : Array Value} (h : (Cond.arrayClass ty).before a s = true) : ∃ cX : ClassId, ArrOfT s cX ty ∧ s.vm.findClass ("[" ++ ty.toString) = some cX := by
  obtain ⟨cX, k, comp, h1, h2, h3⟩ := Cond.arrayClass_spec h
  exact ⟨cX, fun n z => ⟨fun k h => (by cases h), k, h2, comp, h3⟩, h1⟩
/-- the first number of the script, or 0 -/
def sd0 (L : Nat) (xs : Nat → Int32) : Int := if 0 < L then (xs 0).toInt else 0
theorem sd0_32 (L : Nat) (xs : Nat → Int32) : z32 (sd0 L xs) := by
  unfold sd0
  split
  · exact i_32 _
  · exact z0
def zPcl (b L : Nat) (xs : Nat → Int32) : Array Value → State → Prop := va_Pc [.ref b, .int (iZ ((0 : Nat) : Int))] (fun U => zE TB U ∧ b < U.heap.size ∧ va_X b L xs U U.heap)
theorem va_X_alike {b L : Nat} {xs : Nat → Int32} {u U : State} {H : Heap} (hvm : u.vm.Alike U.vm) (h : va_X b L xs u H) : va_X b L xs U H := by
  obtain ⟨scr, h1, h2, h3⟩ := h
  exact ⟨scr, h1, State.isArrayOf_alike hvm h2, h3⟩
theorem zPcl_blind {b L : Nat} {xs : Nat → Int32} : FrameBlind (zPcl b L xs) := fun a U g mk q => by
  obtain ⟨q0, qE, qb, qX⟩ := q
  exact ⟨q0, qE.warm (U := U.calling g mk a) zTB (State.WarmedH.refl U), qb, va_X_alike (u := U) (U := U.calling g mk a) (Vm.Alike.refl U.vm) qX⟩
set_option maxHeartbeats 4000000 in
set_option maxRecDepth 100000 in
theorem k_L_cell {l : Launch} {b L : Nat} {xs : Nat → Int32} (hL : L ≤ 2561) : Met l y_L_cell [w_L_cell] (zRm 0 0) (zPcl b L xs) (zQr (some (.int (iZ (sd0 L xs))))) 0 0 (fun _ => False) := by
  refine Met.ofW (cc := c_L_cell) (maxL := 2) (ret := some .int) (by decide) rfl ?_
  intro p e s m args below meth c s₁ B hml hv
  obtain ⟨rfl, hE, hbl, hX⟩ := hv
  have hl := lv_entry [.ref b, .int (iZ ((0 : Nat) : Int))] (n := 2) (Nat.le_of_ble_eq_true rfl)
  rw [lg_entry_eq]
  generalize (lg_sl [.ref b, .int (iZ ((0 : Nat) : Int))] ++ List.replicate (2 - (lg_sl [.ref b, .int (iZ ((0 : Nat) : Int))]).length) Slot.unset).toArray = ls at hl ⊢
  have Z : zC p s m meth c c_L_cell 2 (some .int) n_L ([.ref b, .int (iZ ((0 : Nat) : Int))] : List Value).toArray TB := ⟨B.exec, B.bytes, B.returns, hml, findClass_of_methodNamed B.named, fun w hw => hE w hw _, hE, B.notSynchronized⟩
  obtain ⟨hx, hb, hr, hml, hown, hts, hE, hlocks⟩ := id Z
  have hl : lv_has ls 2 [(0, .ref b), (1, .int (iZ ((0 : Nat) : Int)))] := hl
  have hS : va_S (fun _ => False) s.heap s.heap [] := va_S.rf
  refine lv_iload_n hx hb d_L_cell_0 rfl (lv_at hl 1 rfl) ?_
  refine lv_aload_n hx hb d_L_cell_1 rfl (lv_at hl 0 rfl) ?_
  refine va_slen (A := fun _ => False) hx hb hX hbl (fun h => h) hS d_L_cell_2 ?_
  refine z_topI (b := iZ ((L : Nat) : Int)) (sh_tn L).symm ?_
  refine z_icmp_ge (a := ((0 : Nat) : Int)) (b := ((L : Nat) : Int)) (tgt := 12) hx hb (by omega) d_L_cell_3 (by decide) (fun q3 => ?_) (fun q3 => ?_)
  · refine lv_iconst (v := iZ ((0 : Nat) : Int)) hx hb d_L_cell_12 (by decide) ?_
    exact z_iretR Z d_L_cell_13 (by unfold sd0; rw [if_neg (by omega)]; rfl)
  · refine lv_aload_n hx hb d_L_cell_6 rfl (lv_at hl 0 rfl) ?_
    refine lv_iload_n hx hb d_L_cell_7 rfl (lv_at hl 1 rfl) ?_
    refine z_sld (A := fun _ => False) (v := xs 0) hx hb hX hbl (fun h => h) hS 0 (by omega) rfl d_L_cell_8 ?_
    refine lv_goto (tgt := 13) hx hb d_L_cell_9 (by decide) ?_
    exact z_iretR Z d_L_cell_13 (by unfold sd0; rw [if_pos (by omega), ← iZ_of])
section ZCL
variable {p : Program} {l : Launch} {e : Env} {R : Room} {s : State} {m : MethodId} {args : Array Value} {below : List Frame} {meth : Method} {c : Code} {H : Heap} {locs : List Loc} {cells slots : Nat} {Q : State → Prop}
variable {cc : ByteArray} {pc : Nat} {ls : Array Slot} {rest : List Value} {A : Nat → Prop} {nL : Nat} {ret : Option FieldType} {own : String}
theorem z_cell {b L idx : Nat} {xs : Nat → Int32} (Z : zC p s m meth c cc nL ret own args TB) (hlk : Cond.methodLink own idx y_L_cell ∈ TB) (hL : L ≤ 2561) (hX : va_X b L xs s s.heap) (hbl : b < s.heap.size) (hbA : ¬ A b) (hS : va_S A s.heap H locs) (hR : 0 + 1 ≤ R.frames ∧ 8 + (2 + 11) + 0 ≤ R.locals)
    (hsize : ls.size = nL) (hroom : (rest.map fun v => v.category).sum ≤ 8) (hdg : decode cc pc = .ok (.invokestatic idx, 3)) (hf : cells + 0 ≤ R.cells ∧ slots + 0 ≤ R.slots)
    (kk : W p l e R s m args below meth c H locs cells slots Q (F0 m (pc + 3) ls (.int (iZ (sd0 L xs)) :: rest))) : W p l e R s m args below meth c H locs cells slots Q (F0 m pc ls (.int (iZ ((0 : Nat) : Int)) :: .ref b :: rest)) := by
  have hX2 : va_X b L xs s H := by
    obtain ⟨scr, h1, h2⟩ := hX
    exact ⟨scr, (hS.2.1 b hbl hbA).trans h1, h2⟩
  exact z_kr (va_runS (g := F0 m pc ls (.int (iZ ((0 : Nat) : Int)) :: .ref b :: rest)) (As := [.ref b, .int (iZ ((0 : Nat) : Int))]) ⟨Z.1, Z.2.1, Z.2.2.2.1, Z.2.2.2.2.1, Z.2.2.2.2.2.1⟩ (k_L_cell hL) ⟨callB_of 2 Z.2.2.2.2.2.1 (zgood co_L_cell) rfl rfl rfl (Z.2.2.2.2.2.1 _ ini_L) (Z.2.2.2.2.2.1 _ hlk) zd_L_cell hR, Z.2.2.2.2.2.1 _ sm_L_cell⟩ ⟨zPcl_blind, fun U hU hW => ⟨rfl, zE.warm zTB hW Z.2.2.2.2.2.2.1, by rw [hU]; exact Nat.lt_of_lt_of_le hbl hS.1, by rw [hU]; exact va_X_alike hW.alike hX2⟩⟩ rfl rfl hsize rfl (lv_room hroom) hdg hf).run kk
end ZCL
def sJ0 (sd : Int) : SJ := (lZ sd, 0, 0, rf 4, fun _ => false, fun _ => false, fun _ => 0, fun _ => 0, fun _ => 0, fun _ => 0)
def sM0 : SM := (0, fun _ => 0, fun _ => 0, fun _ => 0, fun _ => 0, fun _ => 0, rf 0, fun _ => 0, fun _ => 0)
def sG0 : SH := (fun _ => 0, 0, 0, fun _ => 0, fun _ => 0, fun _ => 0)
def sK0 : SK := (fun _ => 0, 1, 0, 1)
theorem LI_0 (sd : Int) : LI (sJ0 sd) (rf 64) (fun _ => 0) sM0 := by
  refine ⟨⟨Nat.zero_le _, Nat.le_refl _, fun p hp => absurd hp (Nat.not_lt_zero p), fun j => Nat.zero_le _⟩, ⟨fun p hp => absurd hp (Nat.not_lt_zero p), fun s hs => ⟨fun _ => if_pos hs, fun h => absurd (show 0 % 2 = 1 from h) (by decide), Nat.le_refl _⟩, rfl⟩, fun j => ?_, fun j => Nat.zero_le _⟩
  unfold rf
  split <;> omega
def ad34 (q0 q1 q2 q3 q4 q5 q6 q7 q8 q9 q10 q11 q12 q13 q14 q15 q16 q17 q18 q19 q20 q21 q22 q23 q24 q25 q26 q27 q28 q29 q30 q31 q32 q33 : Nat) : Nat → Nat := fun j => [q0, q1, q2, q3, q4, q5, q6, q7, q8, q9, q10, q11, q12, q13, q14, q15, q16, q17, q18, q19, q20, q21, q22, q23, q24, q25, q26, q27, q28, q29, q30, q31, q32, q33].getD j 0
set_option maxRecDepth 100000 in
theorem w34 (q0 q1 q2 q3 q4 q5 q6 q7 q8 q9 q10 q11 q12 q13 q14 q15 q16 q17 q18 q19 q20 q21 q22 q23 q24 q25 q26 q27 q28 q29 q30 q31 q32 q33 : Nat) (cI cZ cL : ClassId) (sd : Int) : [(q0, .inr (0, [.ref (q1), .ref (q9), .ref (q11), .ref (q16), .ref (q18)])), (q1, .inr (1, [.long (lZ (sd)), .int (iZ ((0 : Nat) : Int)), .int (iZ ((0 : Nat) : Int)), .ref (q2), .ref (q3), .ref (q4), .ref (q5), .ref (q6), .ref (q7), .ref (q8)])), (q2, .inl (cI, 4, .inl (zA (rf 4)))), (q3, .inl (cZ, 4, .inl (zB (fun _ => false)))), (q4, .inl (cZ, 32, .inl (zB (fun _ => false)))), (q5, .inl (cI, 96, .inl (zN (fun _ => 0)))), (q6, .inl (cI, 16, .inl (zN (fun _ => 0)))), (q7, .inl (cI, 16, .inl (zN (fun _ => 0)))), (q8, .inl (cI, 16, .inl (zN (fun _ => 0)))), (q9, .inr (2, [.ref (q10)])), (q10, .inl (cI, 64, .inl (zA (rf 64)))), (q11, .inr (3, [.ref (q12), .int (iZ ((0 : Nat) : Int)), .int (iZ ((0 : Int))), .ref (q13), .ref (q14), .ref (q15)])), (q12, .inl (cI, 16, .inl (zA (fun _ => 0)))), (q13, .inl (cI, 256, .inl (zA (fun _ => 0)))), (q14, .inl (cI, 256, .inl (zA (fun _ => 0)))), (q15, .inl (cI, 256, .inl (zA (fun _ => 0)))), (q16, .inr (4, [.ref (q17), .int (iZ ((1 : Nat) : Int)), .long (lZ ((0 : Nat) : Int)), .long (lZ ((1 : Nat) : Int))])), (q17, .inl (cL, 33, .inr (.inl (zLN (fun _ => 0))))), (q18, .inl (cI, 3, .inl (zN (fun _ => 0)))), (q19, .inr (5, [.int (iZ ((0 : Nat) : Int)), .long (lZ (sd)), .int (iZ ((0 : Nat) : Int)), .ref (q20), .ref (q21), .ref (q22), .ref (q23), .ref (q24), .int (iZ ((0 : Nat) : Int)), .ref (q25), .ref (q26), .ref (q27), .ref (q28), .ref (q29), .ref (q30), .ref (q31), .ref (q32)])), (q20, .inl (cI, 32, .inl (zN (fun _ => 0)))), (q21, .inl (cZ, 32, .inl (zB (fun _ => false)))), (q22, .inl (cI, 96, .inl (zN (fun _ => 0)))), (q23, .inl (cI, 4, .inl (zN (fun _ => 0)))), (q24, .inl (cI, 4, .inl (zN (fun _ => 0)))), (q25, .inl (cI, 16, .inl (zN (fun _ => 0)))), (q26, .inl (cI, 16, .inl (zN (fun _ => 0)))), (q27, .inl (cZ, 4, .inl (zB (fun _ => false)))), (q28, .inl (cI, 64, .inl (zA (rf 64)))), (q29, .inl (cI, 3, .inl (zN (fun _ => 0)))), (q30, .inl (cI, 16, .inl (zA (rf 0)))), (q31, .inl (cL, 35, .inr (.inl (zLN (fun _ => 0))))), (q32, .inl (cL, 35, .inr (.inl (zLN (fun _ => 0))))), (q33, .inl (cL, 1, .inr (.inl (zLN (fun _ => 0)))))] = wdC (ad34 q0 q1 q2 q3 q4 q5 q6 q7 q8 q9 q10 q11 q12 q13 q14 q15 q16 q17 q18 q19 q20 q21 q22 q23 q24 q25 q26 q27 q28 q29 q30 q31 q32 q33) cI cZ cL (sJ0 sd) (rf 64) (fun _ => 0) sG0 sK0 (wdM (ad34 q0 q1 q2 q3 q4 q5 q6 q7 q8 q9 q10 q11 q12 q13 q14 q15 q16 q17 q18 q19 q20 q21 q22 q23 q24 q25 q26 q27 q28 q29 q30 q31 q32 q33) cI cZ cL (sJ0 sd) (rf 64) (fun _ => 0) sM0 (zLN (fun _ => 0))) := rfl
