/-! The one world: the class's cells, the reference's, the law's row of one long. Arrays of natural numbers. -/
abbrev zN (f : Nat → Nat) : Nat → Int32 := fun j => iZ ((f j : Nat) : Int)
abbrev zLN (f : Nat → Nat) : Nat → Int64 := fun j => lZ ((f j : Nat) : Int)
def nu (f : Nat → Nat) (k v : Nat) : Nat → Nat := fun j => if j = k then v else f j
theorem nu_s (f : Nat → Nat) (k v : Nat) : nu f k v k = v := if_pos rfl
theorem nu_n (f : Nat → Nat) {k j : Nat} (v : Nat) (h : j ≠ k) : nu f k v j = f j := if_neg h
theorem zN_u (f : Nat → Nat) (k v : Nat) : zA (zu (fun j => ((f j : Nat) : Int)) k ((v : Nat) : Int)) = zN (nu f k v) := funext fun j => by
  show iZ (if j = k then ((v : Nat) : Int) else ((f j : Nat) : Int)) = iZ (((if j = k then v else f j : Nat)) : Int)
  by_cases h : j = k
  · rw [if_pos h, if_pos h]
  · rw [if_neg h, if_neg h]
theorem zLN_u (f : Nat → Nat) (k v : Nat) : zL (zu (fun j => ((f j : Nat) : Int)) k ((v : Nat) : Int)) = zLN (nu f k v) := funext fun j => by
  show lZ (if j = k then ((v : Nat) : Int) else ((f j : Nat) : Int)) = lZ (((if j = k then v else f j : Nat)) : Int)
  by_cases h : j = k
  · rw [if_pos h, if_pos h]
  · rw [if_neg h, if_neg h]
section ZNR
variable {p : Program} {l : Launch} {e : Env} {R : Room} {s : State} {m : MethodId} {args : Array Value} {below : List Frame} {meth : Method} {c : Code} {H : Heap} {locs : List Loc} {cells slots : Nat} {Q : State → Prop}
variable {cc : ByteArray} {pc : Nat} {ls : Array Slot} {rest : List Value} {D : va_G} {cl : List vw_C} {A : Nat → Prop} {a : Nat} {tys : List (ClassId × FieldType)} {ws : va_W} {H0 : Heap}
theorem z_ialdN (hx : p.tables.exec = Jvm.exec) (hb : c.code = cc) (hK : va_K D cl tys s) (hP : va_P D cl ws H) (q0 t0 : Nat) {cA : ClassId} {n : Nat} {f : Nat → Nat} (ha : ws[q0]? = some (a, .inl (cA, n, .inl (zN f)))) (ht : tys[t0]? = some (cA, .int)) {i : Int} (k : Nat) (hi : i = (k : Int) ∧ k < n ∧ n < 2147483648) (hdg : decode cc pc = .ok (.iaload, 1))
    (kk : W p l e R s m args below meth c H locs cells slots Q (F0 m (pc + 1) ls (.int (iZ ((f k : Nat) : Int)) :: rest))) : W p l e R s m args below meth c H locs cells slots Q (F0 m pc ls (.int (iZ i) :: .ref a :: rest)) := z_iald hx hb hK hP q0 t0 (f := fun j => ((f j : Nat) : Int)) ha ht k hi hdg kk
theorem z_laldN (hx : p.tables.exec = Jvm.exec) (hb : c.code = cc) (hK : va_K D cl tys s) (hP : va_P D cl ws H) (q0 t0 : Nat) {cA : ClassId} {n : Nat} {f : Nat → Nat} (ha : ws[q0]? = some (a, .inl (cA, n, .inr (.inl (zLN f))))) (ht : tys[t0]? = some (cA, .long)) {i : Int} (k : Nat) (hi : i = (k : Int) ∧ k < n ∧ n < 2147483648) (hdg : decode cc pc = .ok (.laload, 1))
    (kk : W p l e R s m args below meth c H locs cells slots Q (F0 m (pc + 1) ls (.long (lZ ((f k : Nat) : Int)) :: rest))) : W p l e R s m args below meth c H locs cells slots Q (F0 m pc ls (.int (iZ i) :: .ref a :: rest)) := z_lald hx hb hK hP q0 t0 (f := fun j => ((f j : Nat) : Int)) ha ht k hi hdg kk
theorem z_iastN (hx : p.tables.exec = Jvm.exec) (hb : c.code = cc) (hK : va_K D cl tys s) (hP : va_P D cl ws H) (hD : va_D A ws) (hS : va_S A H0 H locs) (q0 t0 : Nat) {cA : ClassId} {n : Nat} {f : Nat → Nat} (ha : ws[q0]? = some (a, .inl (cA, n, .inl (zN f)))) (ht : tys[t0]? = some (cA, .int)) {i : Int} {v : Nat} (k : Nat) (hi : i = (k : Int) ∧ k < n ∧ n < 2147483648) (hdg : decode cc pc = .ok (.iastore, 1))
    (kk : ∀ (H1 : Heap) (locs1 : List Loc), va_P D cl (ws.set q0 (a, .inl (cA, n, .inl (zN (nu f k v))))) H1 → va_D A (ws.set q0 (a, .inl (cA, n, .inl (zN (nu f k v))))) → va_S A H0 H1 locs1 → W p l e R s m args below meth c H1 locs1 cells slots Q (F0 m (pc + 1) ls rest)) : W p l e R s m args below meth c H locs cells slots Q (F0 m pc ls (.int (iZ ((v : Nat) : Int)) :: .int (iZ i) :: .ref a :: rest)) := by
  refine z_iast hx hb hK hP hD hS q0 t0 (f := fun j => ((f j : Nat) : Int)) ha ht k hi hdg ?_
  rw [zN_u]
  exact kk
theorem z_lastN (hx : p.tables.exec = Jvm.exec) (hb : c.code = cc) (hK : va_K D cl tys s) (hP : va_P D cl ws H) (hD : va_D A ws) (hS : va_S A H0 H locs) (q0 t0 : Nat) {cA : ClassId} {n : Nat} {f : Nat → Nat} (ha : ws[q0]? = some (a, .inl (cA, n, .inr (.inl (zLN f))))) (ht : tys[t0]? = some (cA, .long)) {i : Int} {v : Nat} (k : Nat) (hi : i = (k : Int) ∧ k < n ∧ n < 2147483648) (hdg : decode cc pc = .ok (.lastore, 1))
    (kk : ∀ (H1 : Heap) (locs1 : List Loc), va_P D cl (ws.set q0 (a, .inl (cA, n, .inr (.inl (zLN (nu f k v)))))) H1 → va_D A (ws.set q0 (a, .inl (cA, n, .inr (.inl (zLN (nu f k v)))))) → va_S A H0 H1 locs1 → W p l e R s m args below meth c H1 locs1 cells slots Q (F0 m (pc + 1) ls rest)) : W p l e R s m args below meth c H locs cells slots Q (F0 m pc ls (.long (lZ ((v : Nat) : Int)) :: .int (iZ i) :: .ref a :: rest)) := by
  refine z_last hx hb hK hP hD hS q0 t0 (f := fun j => ((f j : Nat) : Int)) ha ht k hi hdg ?_
  rw [zLN_u]
  exact kk
theorem z_iaddN (hx : p.tables.exec = Jvm.exec) (hb : c.code = cc) {u v : Nat} (hdg : decode cc pc = .ok (.iadd, 1)) (k : W p l e R s m args below meth c H locs cells slots Q (F0 m (pc + 1) ls (.int (iZ ((u + v : Nat) : Int)) :: rest))) : W p l e R s m args below meth c H locs cells slots Q (F0 m pc ls (.int (iZ ((v : Nat) : Int)) :: .int (iZ ((u : Nat) : Int)) :: rest)) := z_iadd hx hb hdg k
theorem z_imulN (hx : p.tables.exec = Jvm.exec) (hb : c.code = cc) {u v : Nat} (hdg : decode cc pc = .ok (.imul, 1)) (k : W p l e R s m args below meth c H locs cells slots Q (F0 m (pc + 1) ls (.int (iZ ((u * v : Nat) : Int)) :: rest))) : W p l e R s m args below meth c H locs cells slots Q (F0 m pc ls (.int (iZ ((v : Nat) : Int)) :: .int (iZ ((u : Nat) : Int)) :: rest)) := z_imul hx hb hdg k
theorem z_laddN (hx : p.tables.exec = Jvm.exec) (hb : c.code = cc) {u v : Nat} (hdg : decode cc pc = .ok (.ladd, 1)) (k : W p l e R s m args below meth c H locs cells slots Q (F0 m (pc + 1) ls (.long (lZ ((u + v : Nat) : Int)) :: rest))) : W p l e R s m args below meth c H locs cells slots Q (F0 m pc ls (.long (lZ ((v : Nat) : Int)) :: .long (lZ ((u : Nat) : Int)) :: rest)) := z_ladd hx hb hdg k
theorem z_lmulN (hx : p.tables.exec = Jvm.exec) (hb : c.code = cc) {u v : Nat} (hdg : decode cc pc = .ok (.lmul, 1)) (k : W p l e R s m args below meth c H locs cells slots Q (F0 m (pc + 1) ls (.long (lZ ((u * v : Nat) : Int)) :: rest))) : W p l e R s m args below meth c H locs cells slots Q (F0 m pc ls (.long (lZ ((v : Nat) : Int)) :: .long (lZ ((u : Nat) : Int)) :: rest)) := z_lmul hx hb hdg k
/-- the top of the stack, said otherwise -/
theorem z_topZ {a b : Int} (h : a = b) (k : W p l e R s m args below meth c H locs cells slots Q (F0 m pc ls (.int (iZ b) :: rest))) : W p l e R s m args below meth c H locs cells slots Q (F0 m pc ls (.int (iZ a) :: rest)) := by rw [h]; exact k
theorem z_topB {a : Int} {b : Bool} (h : iZ a = bI b) (k : W p l e R s m args below meth c H locs cells slots Q (F0 m pc ls (.int (bI b) :: rest))) : W p l e R s m args below meth c H locs cells slots Q (F0 m pc ls (.int (iZ a) :: rest)) := by rw [h]; exact k
theorem z_topI {a b : Int32} (h : a = b) (k : W p l e R s m args below meth c H locs cells slots Q (F0 m pc ls (.int b :: rest))) : W p l e R s m args below meth c H locs cells slots Q (F0 m pc ls (.int a :: rest)) := by rw [h]; exact k
theorem z_topL {a b : Int64} (h : a = b) (k : W p l e R s m args below meth c H locs cells slots Q (F0 m pc ls (.long b :: rest))) : W p l e R s m args below meth c H locs cells slots Q (F0 m pc ls (.long a :: rest)) := by rw [h]; exact k
end ZNR
theorem iZ_inc (u n : Nat) : iZ ((u : Nat) : Int) + Int32.ofInt ((n : Nat) : Int) = iZ ((u + n : Nat) : Int) := iZ_add _ _
/-- the journal: the state of the draw, how many hauls and pairs, the open hauls, the ships out, the arms, the counts, the pairs' hauls and ships -/
abbrev SJ : Type := Int64 × Nat × Nat × (Nat → Int) × (Nat → Bool) × (Nat → Bool) × (Nat → Nat) × (Nat → Nat) × (Nat → Nat) × (Nat → Nat)
abbrev jx (J : SJ) : Int64 := J.1
abbrev jn (J : SJ) : Nat := J.2.1
abbrev jk (J : SJ) : Nat := J.2.2.1
abbrev jop (J : SJ) : Nat → Int := J.2.2.2.1
abbrev jou (J : SJ) : Nat → Bool := J.2.2.2.2.1
abbrev jdv (J : SJ) : Nat → Bool := J.2.2.2.2.2.1
abbrev jct (J : SJ) : Nat → Nat := J.2.2.2.2.2.2.1
abbrev jdh (J : SJ) : Nat → Nat := J.2.2.2.2.2.2.2.1
abbrev jph (J : SJ) : Nat → Nat := J.2.2.2.2.2.2.2.2.1
abbrev jsp (J : SJ) : Nat → Nat := J.2.2.2.2.2.2.2.2.2
/-- the choices' rows: weights, size, chosen sum, low, high, spare -/
abbrev SH : Type := (Nat → Int) × Nat × Int × (Nat → Int) × (Nat → Int) × (Nat → Int)
/-- the walk: ways, top, crossed, all -/
abbrev SK : Type := (Nat → Nat) × Nat × Nat × Nat
/-- the reference's own: code, ships, many, latest, first, second, row, ways, next -/
abbrev SM : Type := Nat × (Nat → Nat) × (Nat → Nat) × (Nat → Nat) × (Nat → Nat) × (Nat → Nat) × (Nat → Int) × (Nat → Nat) × (Nat → Nat)
abbrev wdC (ad : Nat → Nat) (cI cZ cL : ClassId) (J : SJ) (rd : Nat → Int) (pr : Nat → Nat) (G : SH) (K : SK) (tl : va_W) : va_W :=
  (ad 0, .inr (0, [.ref (ad 1), .ref (ad 9), .ref (ad 11), .ref (ad 16), .ref (ad 18)])) ::
  (ad 1, .inr (1, [.long (jx J), .int (iZ ((jn J : Nat) : Int)), .int (iZ ((jk J : Nat) : Int)), .ref (ad 2), .ref (ad 3), .ref (ad 4), .ref (ad 5), .ref (ad 6), .ref (ad 7), .ref (ad 8)])) ::
  (ad 2, .inl (cI, 4, .inl (zA (jop J)))) :: (ad 3, .inl (cZ, 4, .inl (zB (jou J)))) :: (ad 4, .inl (cZ, 32, .inl (zB (jdv J)))) :: (ad 5, .inl (cI, 96, .inl (zN (jct J)))) ::
  (ad 6, .inl (cI, 16, .inl (zN (jdh J)))) :: (ad 7, .inl (cI, 16, .inl (zN (jph J)))) :: (ad 8, .inl (cI, 16, .inl (zN (jsp J)))) ::
  (ad 9, .inr (2, [.ref (ad 10)])) :: (ad 10, .inl (cI, 64, .inl (zA rd))) ::
  (ad 11, .inr (3, [.ref (ad 12), .int (iZ ((G.2.1 : Nat) : Int)), .int (iZ G.2.2.1), .ref (ad 13), .ref (ad 14), .ref (ad 15)])) :: (ad 12, .inl (cI, 16, .inl (zA G.1))) ::
  (ad 13, .inl (cI, 256, .inl (zA G.2.2.2.1))) :: (ad 14, .inl (cI, 256, .inl (zA G.2.2.2.2.1))) :: (ad 15, .inl (cI, 256, .inl (zA G.2.2.2.2.2))) ::
  (ad 16, .inr (4, [.ref (ad 17), .int (iZ ((K.2.1 : Nat) : Int)), .long (lZ ((K.2.2.1 : Nat) : Int)), .long (lZ ((K.2.2.2 : Nat) : Int))])) :: (ad 17, .inl (cL, 33, .inr (.inl (zLN K.1)))) ::
  (ad 18, .inl (cI, 3, .inl (zN pr))) :: tl
abbrev wdM (ad : Nat → Nat) (cI cZ cL : ClassId) (J : SJ) (rd : Nat → Int) (pr : Nat → Nat) (M : SM) (ov : Nat → Int64) : va_W :=
  [(ad 19, .inr (5, [.int (iZ ((M.1 : Nat) : Int)), .long (jx J), .int (iZ ((jn J : Nat) : Int)), .ref (ad 20), .ref (ad 21), .ref (ad 22), .ref (ad 23), .ref (ad 24), .int (iZ ((jk J : Nat) : Int)), .ref (ad 25), .ref (ad 26), .ref (ad 27), .ref (ad 28), .ref (ad 29), .ref (ad 30), .ref (ad 31), .ref (ad 32)])),
   (ad 20, .inl (cI, 32, .inl (zN M.2.1))), (ad 21, .inl (cZ, 32, .inl (zB (jdv J)))), (ad 22, .inl (cI, 96, .inl (zN (jct J)))), (ad 23, .inl (cI, 4, .inl (zN M.2.2.1))), (ad 24, .inl (cI, 4, .inl (zN M.2.2.2.1))),
   (ad 25, .inl (cI, 16, .inl (zN M.2.2.2.2.1))), (ad 26, .inl (cI, 16, .inl (zN M.2.2.2.2.2.1))), (ad 27, .inl (cZ, 4, .inl (zB (jou J)))), (ad 28, .inl (cI, 64, .inl (zA rd))), (ad 29, .inl (cI, 3, .inl (zN pr))),
   (ad 30, .inl (cI, 16, .inl (zA M.2.2.2.2.2.2.1))), (ad 31, .inl (cL, 35, .inr (.inl (zLN M.2.2.2.2.2.2.2.1)))), (ad 32, .inl (cL, 35, .inr (.inl (zLN M.2.2.2.2.2.2.2.2)))), (ad 33, .inl (cL, 1, .inr (.inl ov)))]
abbrev tysW (cI cZ cL : ClassId) : List (ClassId × FieldType) := [(cI, .int), (cZ, .boolean), (cL, .long)]
