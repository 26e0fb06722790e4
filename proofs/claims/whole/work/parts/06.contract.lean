/-! Arrays by their integers; the tables' words as one fact; contracts over one world. -/
abbrev zA (f : Nat → Int) : Nat → Int32 := fun j => iZ (f j)
abbrev zB (g : Nat → Bool) : Nat → Int32 := fun j => bI (g j)
abbrev zL (f : Nat → Int) : Nat → Int64 := fun j => lZ (f j)
def zu (f : Nat → Int) (k : Nat) (v : Int) : Nat → Int := fun j => if j = k then v else f j
def zub (g : Nat → Bool) (k : Nat) (v : Bool) : Nat → Bool := fun j => if j = k then v else g j
theorem zu_s (f : Nat → Int) (k : Nat) (v : Int) : zu f k v k = v := if_pos rfl
theorem zu_n (f : Nat → Int) {k j : Nat} (v : Int) (h : j ≠ k) : zu f k v j = f j := if_neg h
theorem zub_s (g : Nat → Bool) (k : Nat) (v : Bool) : zub g k v k = v := if_pos rfl
theorem zub_n (g : Nat → Bool) {k j : Nat} (v : Bool) (h : j ≠ k) : zub g k v j = g j := if_neg h
theorem zA_u (f : Nat → Int) (k : Nat) (v : Int) : upd (zA f) k (iZ v) = zA (zu f k v) := funext fun j => by
  show (if j = k then iZ v else iZ (f j)) = iZ (if j = k then v else f j)
  by_cases h : j = k
  · rw [if_pos h, if_pos h]
  · rw [if_neg h, if_neg h]
theorem zL_u (f : Nat → Int) (k : Nat) (v : Int) : vp_updL (zL f) k (lZ v) = zL (zu f k v) := funext fun j => by
  show (if j = k then lZ v else lZ (f j)) = lZ (if j = k then v else f j)
  by_cases h : j = k
  · rw [if_pos h, if_pos h]
  · rw [if_neg h, if_neg h]
theorem zB_u (g : Nat → Bool) (k : Nat) (v : Bool) : upd (zB g) k (vp_nar .boolean (bI v)) = zB (zub g k v) := funext fun j => by
  have e : vp_nar .boolean (bI v) = bI v := by cases v <;> decide
  rw [e]
  show (if j = k then bI v else bI (g j)) = bI (if j = k then v else g j)
  by_cases h : j = k
  · rw [if_pos h, if_pos h]
  · rw [if_neg h, if_neg h]
section ZAR
variable {p : Program} {l : Launch} {e : Env} {R : Room} {s : State} {m : MethodId} {args : Array Value} {below : List Frame} {meth : Method} {c : Code} {H : Heap} {locs : List Loc} {cells slots : Nat} {Q : State → Prop}
variable {cc : ByteArray} {pc : Nat} {ls : Array Slot} {rest : List Value} {D : va_G} {cl : List vw_C} {A : Nat → Prop} {a : Nat} {tys : List (ClassId × FieldType)} {ws : va_W} {H0 : Heap}
theorem z_iald (hx : p.tables.exec = Jvm.exec) (hb : c.code = cc) (hK : va_K D cl tys s) (hP : va_P D cl ws H) (q0 t0 : Nat) {cA : ClassId} {n : Nat} {f : Nat → Int} (ha : ws[q0]? = some (a, .inl (cA, n, .inl (zA f)))) (ht : tys[t0]? = some (cA, .int)) {i : Int} (k : Nat) (hi : i = (k : Int) ∧ k < n ∧ n < 2147483648) (hdg : decode cc pc = .ok (.iaload, 1))
    (kk : W p l e R s m args below meth c H locs cells slots Q (F0 m (pc + 1) ls (.int (iZ (f k)) :: rest))) : W p l e R s m args below meth c H locs cells slots Q (F0 m pc ls (.int (iZ i) :: .ref a :: rest)) :=
  va_iald hx hb hK hP q0 t0 ha ht (iZ_in (by omega) hi.2.2) hdg (by rw [show zA f (iZ i).toNatClampNeg = iZ (f k) from by rw [iZ_cl hi.1 (by omega)]]; exact kk)
theorem z_zald (hx : p.tables.exec = Jvm.exec) (hb : c.code = cc) (hK : va_K D cl tys s) (hP : va_P D cl ws H) (q0 t0 : Nat) {cA : ClassId} {n : Nat} {f : Nat → Bool} (ha : ws[q0]? = some (a, .inl (cA, n, .inl (zB f)))) (ht : tys[t0]? = some (cA, .boolean)) {i : Int} (k : Nat) (hi : i = (k : Int) ∧ k < n ∧ n < 2147483648) (hdg : decode cc pc = .ok (.baload, 1))
    (kk : W p l e R s m args below meth c H locs cells slots Q (F0 m (pc + 1) ls (.int (bI (f k)) :: rest))) : W p l e R s m args below meth c H locs cells slots Q (F0 m pc ls (.int (iZ i) :: .ref a :: rest)) :=
  va_zald hx hb hK hP q0 t0 ha ht (iZ_in (by omega) hi.2.2) hdg (by rw [show zB f (iZ i).toNatClampNeg = bI (f k) from by rw [iZ_cl hi.1 (by omega)]]; exact kk)
theorem z_lald (hx : p.tables.exec = Jvm.exec) (hb : c.code = cc) (hK : va_K D cl tys s) (hP : va_P D cl ws H) (q0 t0 : Nat) {cA : ClassId} {n : Nat} {f : Nat → Int} (ha : ws[q0]? = some (a, .inl (cA, n, .inr (.inl (zL f))))) (ht : tys[t0]? = some (cA, .long)) {i : Int} (k : Nat) (hi : i = (k : Int) ∧ k < n ∧ n < 2147483648) (hdg : decode cc pc = .ok (.laload, 1))
    (kk : W p l e R s m args below meth c H locs cells slots Q (F0 m (pc + 1) ls (.long (lZ (f k)) :: rest))) : W p l e R s m args below meth c H locs cells slots Q (F0 m pc ls (.int (iZ i) :: .ref a :: rest)) :=
  va_lald hx hb hK hP q0 t0 ha ht (iZ_in (by omega) hi.2.2) hdg (by rw [show zL f (iZ i).toNatClampNeg = lZ (f k) from by rw [iZ_cl hi.1 (by omega)]]; exact kk)
theorem z_iast (hx : p.tables.exec = Jvm.exec) (hb : c.code = cc) (hK : va_K D cl tys s) (hP : va_P D cl ws H) (hD : va_D A ws) (hS : va_S A H0 H locs) (q0 t0 : Nat) {cA : ClassId} {n : Nat} {f : Nat → Int} (ha : ws[q0]? = some (a, .inl (cA, n, .inl (zA f)))) (ht : tys[t0]? = some (cA, .int)) {i v : Int} (k : Nat) (hi : i = (k : Int) ∧ k < n ∧ n < 2147483648) (hdg : decode cc pc = .ok (.iastore, 1))
    (kk : ∀ (H1 : Heap) (locs1 : List Loc), va_P D cl (ws.set q0 (a, .inl (cA, n, .inl (zA (zu f k v))))) H1 → va_D A (ws.set q0 (a, .inl (cA, n, .inl (zA (zu f k v))))) → va_S A H0 H1 locs1 → W p l e R s m args below meth c H1 locs1 cells slots Q (F0 m (pc + 1) ls rest)) : W p l e R s m args below meth c H locs cells slots Q (F0 m pc ls (.int (iZ v) :: .int (iZ i) :: .ref a :: rest)) := by
  refine va_iast hx hb hK hP hD hS q0 t0 ha ht (iZ_in (by omega) hi.2.2) hdg ?_
  rw [iZ_cl hi.1 (by omega), zA_u]
  exact kk
theorem z_zast (hx : p.tables.exec = Jvm.exec) (hb : c.code = cc) (hK : va_K D cl tys s) (hP : va_P D cl ws H) (hD : va_D A ws) (hS : va_S A H0 H locs) (q0 t0 : Nat) {cA : ClassId} {n : Nat} {f : Nat → Bool} (ha : ws[q0]? = some (a, .inl (cA, n, .inl (zB f)))) (ht : tys[t0]? = some (cA, .boolean)) {i : Int} {v : Bool} (k : Nat) (hi : i = (k : Int) ∧ k < n ∧ n < 2147483648) (hdg : decode cc pc = .ok (.bastore, 1))
    (kk : ∀ (H1 : Heap) (locs1 : List Loc), va_P D cl (ws.set q0 (a, .inl (cA, n, .inl (zB (zub f k v))))) H1 → va_D A (ws.set q0 (a, .inl (cA, n, .inl (zB (zub f k v))))) → va_S A H0 H1 locs1 → W p l e R s m args below meth c H1 locs1 cells slots Q (F0 m (pc + 1) ls rest)) : W p l e R s m args below meth c H locs cells slots Q (F0 m pc ls (.int (bI v) :: .int (iZ i) :: .ref a :: rest)) := by
  refine va_zast hx hb hK hP hD hS q0 t0 ha ht (iZ_in (by omega) hi.2.2) hdg ?_
  rw [iZ_cl hi.1 (by omega), zB_u]
  exact kk
theorem z_last (hx : p.tables.exec = Jvm.exec) (hb : c.code = cc) (hK : va_K D cl tys s) (hP : va_P D cl ws H) (hD : va_D A ws) (hS : va_S A H0 H locs) (q0 t0 : Nat) {cA : ClassId} {n : Nat} {f : Nat → Int} (ha : ws[q0]? = some (a, .inl (cA, n, .inr (.inl (zL f))))) (ht : tys[t0]? = some (cA, .long)) {i v : Int} (k : Nat) (hi : i = (k : Int) ∧ k < n ∧ n < 2147483648) (hdg : decode cc pc = .ok (.lastore, 1))
    (kk : ∀ (H1 : Heap) (locs1 : List Loc), va_P D cl (ws.set q0 (a, .inl (cA, n, .inr (.inl (zL (zu f k v)))))) H1 → va_D A (ws.set q0 (a, .inl (cA, n, .inr (.inl (zL (zu f k v)))))) → va_S A H0 H1 locs1 → W p l e R s m args below meth c H1 locs1 cells slots Q (F0 m (pc + 1) ls rest)) : W p l e R s m args below meth c H locs cells slots Q (F0 m pc ls (.long (lZ v) :: .int (iZ i) :: .ref a :: rest)) := by
  refine va_last hx hb hK hP hD hS q0 t0 ha ht (iZ_in (by omega) hi.2.2) hdg ?_
  rw [iZ_cl hi.1 (by omega), zL_u]
  exact kk
end ZAR
/-- a word that stays when the tables are warmed -/
def zst : Cond → Bool
  | .arrayClass _ => true
  | .fieldLinkNest _ _ _ _ _ _ => true
  | .methodLinkNest _ _ _ _ => true
  | .castable _ _ => true
  | .declares _ => true
  | .not (.castable _ _) => true
  | w => w.onTables && w.keeps
/-- the tables' words, whatever the arguments -/
def zE (TB : List Cond) (U : State) : Prop := ∀ w ∈ TB, ∀ a : Array Value, w.before a U = true
theorem zst_warm {w : Cond} {s U : State} (hz : zst w = true) (hW : s.WarmedH U.vm) {a : Array Value} (h : w.before a s = true) : ∀ a' : Array Value, w.before a' U = true := by
  intro a'
  unfold zst at hz
  split at hz
  · exact word_at hW (Or.inr ⟨_, rfl⟩) h
  · exact va_Nw.use rfl (va_Nw.warmF hW (va_Nw.of rfl h))
  · exact va_Nw.use rfl (va_Nw.warmM hW (va_Nw.of rfl h))
  · exact va_tabs rfl (rfl : (s.setVm U.vm).vm = U.vm) (Cond.before_shiftedFace (State.Shifted.of_warmed hW) _ rfl h)
  · exact va_tabs rfl (rfl : (s.setVm U.vm).vm = U.vm) (Cond.before_shiftedFace (State.Shifted.of_warmed hW) _ rfl h)
  · have hv := Cond.holds_not_iff.mp h
    refine Cond.holds_not_iff.mpr ?_
    simp only [Cond.value] at hv ⊢
    simp only [hW.alike.findClass, hW.alike.assignable]
    exact hv
  · exact word_at hW (Or.inl hz) h
abbrev zsts (TB : List Cond) : Prop := ∀ w ∈ TB, zst w = true
theorem zE.warm {TB : List Cond} {s U : State} (hz : zsts TB) (hW : s.WarmedH U.vm) (h : zE TB s) : zE TB U := fun w hw => zst_warm (hz w hw) hW (h w hw #[])
/-- the same addresses -/
theorem zD_same {A : Nat → Prop} {w ws : va_W} (h : w.map (·.1) = ws.map (·.1)) (hD : va_D A ws) : va_D A w := by
  have key : ∀ (i : Nat) (q : Nat × va_E), w[i]? = some q → ∃ q', ws[i]? = some q' ∧ q'.1 = q.1 := by
    intro i q hq
    have e : (w.map (·.1))[i]? = some q.1 := by rw [List.getElem?_map, hq]; rfl
    rw [h, List.getElem?_map] at e
    cases hw : ws[i]? with
    | none => rw [hw] at e; cases e
    | some q' => rw [hw] at e; exact ⟨q', rfl, Option.some.inj e⟩
  refine ⟨fun i j a b ha hb hab => ?_, fun k q hq => ?_⟩
  · obtain ⟨a', ha', ea⟩ := key i a ha
    obtain ⟨b', hb', eb⟩ := key j b hb
    exact hD.1 i j a' b' ha' hb' (by rw [ea, eb]; exact hab)
  · obtain ⟨q', hq', eq⟩ := key k q hq
    rw [← eq]
    exact hD.2 k q' hq'
theorem zfree {A : Nat → Prop} {ws : va_W} {H0 H : Heap} {locs : List Loc} (hD : va_D A ws) (hS : va_S A H0 H locs) (hA : ∀ q : Nat, H0.size ≤ q → A q) : ∀ q : Nat, va_A ws H.size q → A q := by
  intro q h
  rcases h with ⟨k, e, h⟩ | h
  · exact hD.2 k _ h
  · exact hA q (Nat.le_trans hS.1 h)
abbrev zRm (fr lo : Nat) : Room := { frames := fr, cells := 0, slots := 0, locals := lo }
def zPc (TB : List Cond) (D : va_G) (cl : List vw_C) (tys : List (ClassId × FieldType)) (av : List Value) (ws : va_W) (sz : Nat) : Array Value → State → Prop :=
  va_Pc av (fun U => U.heap.size = sz ∧ zE TB U ∧ va_P D cl ws U.heap ∧ va_K D cl tys U ∧ va_D (fun _ => True) ws)
theorem zPc_blind {TB : List Cond} (hz : zsts TB) {D : va_G} {cl : List vw_C} {tys : List (ClassId × FieldType)} {av : List Value} {ws : va_W} {sz : Nat} : FrameBlind (zPc TB D cl tys av ws sz) := fun a U g mk q => by
  obtain ⟨q0, q1, qE, qP, qK, qD⟩ := q
  exact ⟨q0, q1, qE.warm (U := U.calling g mk a) hz (State.WarmedH.refl U), qP, va_K.moved (u := U) (U := U.calling g mk a) (Vm.Alike.refl U.vm) qK, qD⟩
/-- the world behind a method: other contents, the same addresses -/
abbrev zB9 (D : va_G) (cl : List vw_C) (ws : va_W) : va_W → State → Prop := fun w t => va_P D cl w t.heap ∧ w.map (·.1) = ws.map (·.1)
/-- contracts over a world: the method answers an int (a long, nothing), and the world is as P says -/
def zMi (l : Launch) (TB : List Cond) (D : va_G) (cl : List vw_C) (tys : List (ClassId × FieldType)) (y : MethodName) (cw : Cond) (fr lo : Nat) (av : List Value) (ws : va_W) (P : Int32 → va_W → Prop) : Prop :=
  ∀ sz, Met l y [cw] (zRm fr lo) (zPc TB D cl tys av ws sz) (va_Qi P (zB9 D cl ws) (va_A ws sz)) 0 0 (va_A ws sz)
def zMl (l : Launch) (TB : List Cond) (D : va_G) (cl : List vw_C) (tys : List (ClassId × FieldType)) (y : MethodName) (cw : Cond) (fr lo : Nat) (av : List Value) (ws : va_W) (P : Int64 → va_W → Prop) : Prop :=
  ∀ sz, Met l y [cw] (zRm fr lo) (zPc TB D cl tys av ws sz) (va_Ql P (zB9 D cl ws) (va_A ws sz)) 0 0 (va_A ws sz)
def zMv (l : Launch) (TB : List Cond) (D : va_G) (cl : List vw_C) (tys : List (ClassId × FieldType)) (y : MethodName) (cw : Cond) (fr lo : Nat) (av : List Value) (ws : va_W) (P : va_W → Prop) : Prop :=
  ∀ sz, Met l y [cw] (zRm fr lo) (zPc TB D cl tys av ws sz) (va_Qv P (zB9 D cl ws) (va_A ws sz)) 0 0 (va_A ws sz)
/-- what a walk knows of its method -/
def zC (p : Program) (s : State) (m : MethodId) (meth : Method) (c : Code) (cc : ByteArray) (nL : Nat) (ret : Option FieldType) (own : String) (args : Array Value) (TB : List Cond) : Prop :=
  p.tables.exec = Jvm.exec ∧ c.code = cc ∧ meth.sig.returnType = ret ∧ c.maxLocals = nL ∧ s.vm.findClass own = some m.cls ∧ (∀ w ∈ TB, w.before args s = true) ∧ zE TB s ∧ meth.locks = false
/-- a body, from its entry -/
abbrev zBody (l : Launch) (TB : List Cond) (D : va_G) (cl : List vw_C) (tys : List (ClassId × FieldType)) (y : MethodName) (b : ByteArray) (nL : Nat) (ret : Option FieldType) (fr lo : Nat) (av : List Value) (ws : va_W) (Qc : (Nat → Prop) → Array Value → State → Outcome → State → Prop) : Prop :=
  ∀ (p : Program) (e : Env) (s : State) (m : MethodId) (below : List Frame) (meth : Method) (c : Code) (A : Nat → Prop) (ls : Array Slot), zC p s m meth c b nL ret y.cls av.toArray TB → va_P D cl ws s.heap → va_K D cl tys s → va_D A ws → va_S A s.heap s.heap [] → (∀ q : Nat, s.heap.size ≤ q → A q) → lv_has ls nL (lv_args 0 av) →
    W p l e (zRm fr lo) s m av.toArray below meth c s.heap [] 0 0 (MQ below (Qc A) av.toArray s 0 0 A) (F0 m 0 ls [])
theorem z_of {l : Launch} {TB : List Cond} {D : va_G} {cl : List vw_C} {tys : List (ClassId × FieldType)} {y : MethodName} {b : ByteArray} {nL fr lo : Nat} {ret : Option FieldType} {av : List Value} {ws : va_W} {Qc : (Nat → Prop) → Array Value → State → Outcome → State → Prop} (hy : plainName y.cls = true) (hn : (lg_sl av).length ≤ nL)
    (body : zBody l TB D cl tys y b nL ret fr lo av ws Qc) : ∀ sz, Met l y [.code y b nL ret] (zRm fr lo) (zPc TB D cl tys av ws sz) (Qc (va_A ws sz)) 0 0 (va_A ws sz) := by
  intro sz
  refine Met.ofW (cc := b) (maxL := nL) (ret := ret) hy rfl ?_
  intro p e s m args below meth c s₁ B hml hv
  obtain ⟨rfl, hsz, hE, hP, hK, hD0⟩ := hv
  subst hsz
  have hD := hD0.self (sz := s.heap.size)
  generalize hAe : va_A ws s.heap.size = A at hD ⊢
  have hA : ∀ q : Nat, s.heap.size ≤ q → A q := fun q h => by rw [← hAe]; exact Or.inr h
  have hS : va_S A s.heap s.heap [] := va_S.rf
  have hl := lv_entry av (n := nL) hn
  rw [lg_entry_eq]
  generalize (lg_sl av ++ List.replicate (nL - (lg_sl av).length) Slot.unset).toArray = ls at hl ⊢
  exact body p e s m below meth c A ls ⟨B.exec, B.bytes, B.returns, hml, findClass_of_methodNamed B.named, fun w hw => hE w hw _, hE, B.notSynchronized⟩ hP hK hD hS hA hl
section ZEND
variable {p : Program} {l : Launch} {e : Env} {R : Room} {s : State} {m : MethodId} {args : Array Value} {below : List Frame} {meth : Method} {c : Code} {H : Heap} {locs : List Loc} {cells slots : Nat} {Q : State → Prop}
variable {cc : ByteArray} {pc : Nat} {ls : Array Slot} {rest : List Value} {D : va_G} {cl : List vw_C} {A : Nat → Prop} {tys : List (ClassId × FieldType)} {ws w : va_W} {nL : Nat} {ret : Option FieldType} {own : String} {TB : List Cond}
theorem z_iret {P : Int32 → va_W → Prop} {r : Int32} (Z : zC p s m meth c cc nL (some .int) own args TB) (hP : va_P D cl w H) (hS : va_S A s.heap H locs) (hdg : decode cc pc = .ok (.ireturn, 1)) (ha : w.map (·.1) = ws.map (·.1)) (hp : P r w) : W p l e R s m args below meth c H locs cells slots (MQ below (va_Qi P (zB9 D cl ws) A) args s cells slots A) (F0 m pc ls [.int r]) :=
  W.iret Z.1 Z.2.1 Z.2.2.1 (fun t ht _ => ⟨⟨r, w, rfl, hp, by rw [ht]; exact hP, ha⟩, hS.F ht⟩) hS.2.2 hdg Z.2.2.2.2.2.2.2
theorem z_zret {P : Int32 → va_W → Prop} {r : Bool} (Z : zC p s m meth c cc nL (some .boolean) own args TB) (hP : va_P D cl w H) (hS : va_S A s.heap H locs) (hdg : decode cc pc = .ok (.ireturn, 1)) (ha : w.map (·.1) = ws.map (·.1)) (hp : P (bI r) w) : W p l e R s m args below meth c H locs cells slots (MQ below (va_Qi P (zB9 D cl ws) A) args s cells slots A) (F0 m pc ls [.int (bI r)]) :=
  W.zret Z.1 Z.2.1 Z.2.2.1 (by cases r <;> decide) (fun t ht _ => ⟨⟨bI r, w, rfl, hp, by rw [ht]; exact hP, ha⟩, hS.F ht⟩) hS.2.2 hdg Z.2.2.2.2.2.2.2
theorem z_lret {P : Int64 → va_W → Prop} {r : Int64} (Z : zC p s m meth c cc nL (some .long) own args TB) (hP : va_P D cl w H) (hS : va_S A s.heap H locs) (hdg : decode cc pc = .ok (.lreturn, 1)) (ha : w.map (·.1) = ws.map (·.1)) (hp : P r w) : W p l e R s m args below meth c H locs cells slots (MQ below (va_Ql P (zB9 D cl ws) A) args s cells slots A) (F0 m pc ls [.long r]) :=
  W.lret Z.1 Z.2.1 Z.2.2.1 (fun t ht _ => ⟨⟨r, w, rfl, hp, by rw [ht]; exact hP, ha⟩, hS.F ht⟩) hS.2.2 hdg Z.2.2.2.2.2.2.2
theorem z_vret {P : va_W → Prop} (Z : zC p s m meth c cc nL none own args TB) (hP : va_P D cl w H) (hS : va_S A s.heap H locs) (hdg : decode cc pc = .ok (.return_, 1)) (ha : w.map (·.1) = ws.map (·.1)) (hp : P w) : W p l e R s m args below meth c H locs cells slots (MQ below (va_Qv P (zB9 D cl ws) A) args s cells slots A) (F0 m pc ls []) :=
  W.vret Z.1 Z.2.1 Z.2.2.1 (fun t ht _ => ⟨⟨w, rfl, hp, by rw [ht]; exact hP, ha⟩, hS.F ht⟩) hS.2.2 hdg Z.2.2.2.2.2.2.2
end ZEND
