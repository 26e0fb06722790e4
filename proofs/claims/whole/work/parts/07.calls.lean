section ZCALL
variable {p : Program} {l : Launch} {e : Env} {R : Room} {s : State} {m : MethodId} {args : Array Value} {below : List Frame} {meth : Method} {c : Code} {H : Heap} {locs : List Loc} {cells slots : Nat} {Q : State → Prop}
variable {cc : ByteArray} {pc : Nat} {ls : Array Slot} {rest st0 : List Value} {D : va_G} {cl : List vw_C} {A : Nat → Prop} {tys : List (ClassId × FieldType)} {ws : va_W} {nL : Nat} {ret : Option FieldType} {own : String} {TB : List Cond} {a : Array Value}
theorem z_ki {P : Int32 → va_W → Prop} (hr : va_Run p l e R s m args below meth c H locs cells slots 0 0 (F0 m pc ls st0) rest (va_Qi P (zB9 D cl ws) (va_A ws H.size) a) (va_A ws H.size)) (hD : va_D A ws) (hS : va_S A s.heap H locs) (hA : ∀ q : Nat, s.heap.size ≤ q → A q)
    (kk : ∀ (r : Int32) (w : va_W) (H1 : Heap) (locs1 : List Loc), P r w → va_P D cl w H1 → va_D A w → va_S A s.heap H1 locs1 → W p l e R s m args below meth c H1 locs1 cells slots Q (F0 m (pc + 3) ls (.int r :: rest))) : W p l e R s m args below meth c H locs cells slots Q (F0 m pc ls st0) :=
  va_calli hr hS (fun q _ h => zfree hD hS hA q h) (zfree hD hS hA) (fun r w t H1 locs1 ht _ hp hB _ _ hS1 => kk r w H1 locs1 hp (by rw [← ht]; exact hB.1) (zD_same hB.2 hD) hS1)
theorem z_kl {P : Int64 → va_W → Prop} (hr : va_Run p l e R s m args below meth c H locs cells slots 0 0 (F0 m pc ls st0) rest (va_Ql P (zB9 D cl ws) (va_A ws H.size) a) (va_A ws H.size)) (hD : va_D A ws) (hS : va_S A s.heap H locs) (hA : ∀ q : Nat, s.heap.size ≤ q → A q)
    (kk : ∀ (r : Int64) (w : va_W) (H1 : Heap) (locs1 : List Loc), P r w → va_P D cl w H1 → va_D A w → va_S A s.heap H1 locs1 → W p l e R s m args below meth c H1 locs1 cells slots Q (F0 m (pc + 3) ls (.long r :: rest))) : W p l e R s m args below meth c H locs cells slots Q (F0 m pc ls st0) :=
  va_calll hr hS (fun q _ h => zfree hD hS hA q h) (zfree hD hS hA) (fun r w t H1 locs1 ht _ hp hB _ _ hS1 => kk r w H1 locs1 hp (by rw [← ht]; exact hB.1) (zD_same hB.2 hD) hS1)
theorem z_kv {P : va_W → Prop} (hr : va_Run p l e R s m args below meth c H locs cells slots 0 0 (F0 m pc ls st0) rest (va_Qv P (zB9 D cl ws) (va_A ws H.size) a) (va_A ws H.size)) (hD : va_D A ws) (hS : va_S A s.heap H locs) (hA : ∀ q : Nat, s.heap.size ≤ q → A q)
    (kk : ∀ (w : va_W) (H1 : Heap) (locs1 : List Loc), P w → va_P D cl w H1 → va_D A w → va_S A s.heap H1 locs1 → W p l e R s m args below meth c H1 locs1 cells slots Q (F0 m (pc + 3) ls rest)) : W p l e R s m args below meth c H locs cells slots Q (F0 m pc ls st0) :=
  va_callv hr hS (fun q _ h => zfree hD hS hA q h) (zfree hD hS hA) (fun w t H1 locs1 ht _ hp hB _ _ hS1 => kk w H1 locs1 hp (by rw [← ht]; exact hB.1) (zD_same hB.2 hD) hS1)
theorem zgood {TB : List Cond} {y : MethodName} {b : ByteArray} {nY : Nat} {rY : Option FieldType} (h : Cond.code y b nY rY ∈ TB) : GoodIn TB [.code y b nY rY] := fun w hw => by
  rw [List.mem_singleton.mp hw]
  exact ⟨h, Or.inl rfl⟩
abbrev zdY (y : MethodName) (n : Nat) : Prop := y.cls ≠ "java/lang/invoke/MethodHandle" ∧ y.cls ≠ "java/lang/invoke/VarHandle" ∧ (parseMethodDescriptor y.desc).map (fun d => d.parameters.length) = some n
abbrev zwS (TB : List Cond) (own : String) (idx : Nat) (y : MethodName) (b : ByteArray) (nY : Nat) (rY : Option FieldType) : Prop := Cond.methodLink own idx y ∈ TB ∧ Cond.static y ∈ TB ∧ Cond.initialized y.cls ∈ TB ∧ Cond.code y b nY rY ∈ TB
abbrev zwV (TB : List Cond) (own : String) (idx : Nat) (y : MethodName) (b : ByteArray) (nY : Nat) (rY : Option FieldType) : Prop := Cond.methodLink own idx y ∈ TB ∧ Cond.instanceMethod y ∈ TB ∧ Cond.selects y.cls y y ∈ TB ∧ Cond.initialized y.cls ∈ TB ∧ Cond.code y b nY rY ∈ TB
abbrev zwVN (TB : List Cond) (own : String) (idx : Nat) (y : MethodName) (host : String) (b : ByteArray) (nY : Nat) (rY : Option FieldType) : Prop := Cond.methodLinkNest own idx y host ∈ TB ∧ Cond.instanceMethod y ∈ TB ∧ Cond.selects y.cls y y ∈ TB ∧ Cond.initialized y.cls ∈ TB ∧ Cond.code y b nY rY ∈ TB
abbrev zwSN (TB : List Cond) (own : String) (idx : Nat) (y : MethodName) (host : String) (b : ByteArray) (nY : Nat) (rY : Option FieldType) : Prop := Cond.methodLinkNest own idx y host ∈ TB ∧ Cond.static y ∈ TB ∧ Cond.initialized y.cls ∈ TB ∧ Cond.code y b nY rY ∈ TB
theorem zpre (hz : zsts TB) (Z : zC p s m meth c cc nL ret own args TB) {av : List Value} (hP : va_P D cl ws H) (hK : va_K D cl tys s) (hD : va_D A ws) : ∀ U : State, U.heap = H → s.WarmedH U.vm → zPc TB D cl tys av ws H.size av.toArray U :=
  fun U hU hW => ⟨rfl, by rw [hU], zE.warm hz hW Z.2.2.2.2.2.2.1, by rw [hU]; exact hP, va_K.moved hW.alike hK, hD.weaken (fun _ _ _ _ => trivial)⟩
theorem z_runS {y : MethodName} {b : ByteArray} {nY fr lo idx : Nat} {rY : Option FieldType} {As : List Value} {Qc : Nat → Array Value → State → Outcome → State → Prop} (hz : zsts TB) (Z : zC p s m meth c cc nL ret own args TB)
    (hM : ∀ sz, Met l y [.code y b nY rY] (zRm fr lo) (zPc TB D cl tys As ws sz) (Qc sz) 0 0 (va_A ws sz)) (hw : zwS TB own idx y b nY rY) (hd : zdY y As.length) (hR : fr + 1 ≤ R.frames ∧ 8 + (nY + 11) + lo ≤ R.locals) (hP : va_P D cl ws H) (hK : va_K D cl tys s) (hD : va_D A ws)
    (hsize : ls.size = nL) (hstack : st0 = As.reverse ++ rest) (hroom : (rest.map fun v => v.category).sum ≤ 8) (hdg : decode cc pc = .ok (.invokestatic idx, 3)) (hf : cells + 0 ≤ R.cells ∧ slots + 0 ≤ R.slots) :
    va_Run p l e R s m args below meth c H locs cells slots 0 0 (F0 m pc ls st0) rest (Qc H.size As.toArray) (va_A ws H.size) :=
  va_runS (g := F0 m pc ls st0) ⟨Z.1, Z.2.1, Z.2.2.2.1, Z.2.2.2.2.1, Z.2.2.2.2.2.1⟩ (hM H.size) ⟨callB_of As.length Z.2.2.2.2.2.1 (zgood hw.2.2.2) rfl rfl rfl (Z.2.2.2.2.2.1 _ hw.2.2.1) (Z.2.2.2.2.2.1 _ hw.1) hd hR, Z.2.2.2.2.2.1 _ hw.2.1⟩ ⟨zPc_blind hz, zpre hz Z hP hK hD⟩ rfl rfl hsize hstack (lv_room hroom) hdg hf
theorem z_runV {y : MethodName} {b : ByteArray} {nY fr lo idx q0 ci b0 : Nat} {rY : Option FieldType} {As : List Value} {Qc : Nat → Array Value → State → Outcome → State → Prop} {q : vw_C} {fs : List Value} (hz : zsts TB) (Z : zC p s m meth c cc nL ret own args TB)
    (hM : ∀ sz, Met l y [.code y b nY rY] (zRm fr lo) (zPc TB D cl tys (.ref b0 :: As) ws sz) (Qc sz) 0 0 (va_A ws sz)) (hw : zwV TB own idx y b nY rY) (hd : zdY y As.length) (hR : fr + 1 ≤ R.frames ∧ 8 + (nY + 11) + lo ≤ R.locals) (hP : va_P D cl ws H) (hK : va_K D cl tys s) (hD : va_D A ws)
    (hc : cl[ci]? = some q) (hcq : q.1 = y.cls) (he : ws[q0]? = some (b0, .inr (ci, fs)))
    (hsize : ls.size = nL) (hstack : st0 = As.reverse ++ .ref b0 :: rest) (hroom : (rest.map fun v => v.category).sum ≤ 8) (hdg : decode cc pc = .ok (.invokevirtual idx, 3)) (hf : cells + 0 ≤ R.cells ∧ slots + 0 ≤ R.slots) :
    va_Run p l e R s m args below meth c H locs cells slots 0 0 (F0 m pc ls st0) rest (Qc H.size (Value.ref b0 :: As).toArray) (va_A ws H.size) :=
  va_runV (g := F0 m pc ls st0) (C := y.cls) ⟨Z.1, Z.2.1, Z.2.2.2.1, Z.2.2.2.2.1, Z.2.2.2.2.2.1⟩ (hM H.size) ⟨callB_of As.length Z.2.2.2.2.2.1 (zgood hw.2.2.2.2) rfl rfl rfl (Z.2.2.2.2.2.1 _ hw.2.2.2.1) (Z.2.2.2.2.2.1 _ hw.1) hd hR, Z.2.2.2.2.2.1 _ hw.2.1, Z.2.2.2.2.2.1 _ hw.2.2.1⟩ ⟨zPc_blind hz, by rw [← hcq]; exact va_recv hK hP hc he, zpre hz Z hP hK hD⟩ rfl rfl hsize hstack (lv_room hroom) hdg hf
theorem zCN {y : MethodName} {b : ByteArray} {nY fr lo idx n : Nat} {rY : Option FieldType} {host : String} (Z : zC p s m meth c cc nL ret own args TB) (hlink : Cond.methodLinkNest own idx y host ∈ TB) (hini : Cond.initialized y.cls ∈ TB) (hco : Cond.code y b nY rY ∈ TB) (hd : zdY y n) (hR : fr + 1 ≤ R.frames ∧ 8 + (nY + 11) + lo ≤ R.locals) : va_CN R s args own idx y host b nY rY [.code y b nY rY] (zRm fr lo) 0 0 n :=
  va_cnB n Z.2.2.2.2.2.1 (zgood hco) rfl rfl rfl (va_Nw.of rfl (Z.2.2.2.2.2.1 _ hlink)) (Z.2.2.2.2.2.1 _ hini) hd hR
theorem z_runVN {y : MethodName} {b : ByteArray} {nY fr lo idx q0 ci b0 : Nat} {rY : Option FieldType} {host : String} {As : List Value} {Qc : Nat → Array Value → State → Outcome → State → Prop} {q : vw_C} {fs : List Value} (hz : zsts TB) (Z : zC p s m meth c cc nL ret own args TB)
    (hM : ∀ sz, Met l y [.code y b nY rY] (zRm fr lo) (zPc TB D cl tys (.ref b0 :: As) ws sz) (Qc sz) 0 0 (va_A ws sz)) (hw : zwVN TB own idx y host b nY rY) (hd : zdY y As.length) (hR : fr + 1 ≤ R.frames ∧ 8 + (nY + 11) + lo ≤ R.locals) (hP : va_P D cl ws H) (hK : va_K D cl tys s) (hD : va_D A ws)
    (hc : cl[ci]? = some q) (hcq : q.1 = y.cls) (he : ws[q0]? = some (b0, .inr (ci, fs)))
    (hsize : ls.size = nL) (hstack : st0 = As.reverse ++ .ref b0 :: rest) (hroom : (rest.map fun v => v.category).sum ≤ 8) (hdg : decode cc pc = .ok (.invokevirtual idx, 3)) (hf : cells + 0 ≤ R.cells ∧ slots + 0 ≤ R.slots) :
    va_Run p l e R s m args below meth c H locs cells slots 0 0 (F0 m pc ls st0) rest (Qc H.size (Value.ref b0 :: As).toArray) (va_A ws H.size) :=
  va_runVN (g := F0 m pc ls st0) (C := y.cls) ⟨Z.1, Z.2.1, Z.2.2.2.1, Z.2.2.2.2.1, Z.2.2.2.2.2.1⟩ (hM H.size) ⟨zCN Z hw.1 hw.2.2.2.1 hw.2.2.2.2 hd hR, Z.2.2.2.2.2.1 _ hw.2.1, Z.2.2.2.2.2.1 _ hw.2.2.1⟩ ⟨zPc_blind hz, by rw [← hcq]; exact va_recv hK hP hc he, zpre hz Z hP hK hD⟩ rfl rfl hsize hstack (lv_room hroom) hdg hf
theorem z_runSN {y : MethodName} {b : ByteArray} {nY fr lo idx : Nat} {rY : Option FieldType} {host : String} {As : List Value} {Qc : Nat → Array Value → State → Outcome → State → Prop} (hz : zsts TB) (Z : zC p s m meth c cc nL ret own args TB)
    (hM : ∀ sz, Met l y [.code y b nY rY] (zRm fr lo) (zPc TB D cl tys As ws sz) (Qc sz) 0 0 (va_A ws sz)) (hw : zwSN TB own idx y host b nY rY) (hd : zdY y As.length) (hR : fr + 1 ≤ R.frames ∧ 8 + (nY + 11) + lo ≤ R.locals) (hP : va_P D cl ws H) (hK : va_K D cl tys s) (hD : va_D A ws)
    (hsize : ls.size = nL) (hstack : st0 = As.reverse ++ rest) (hroom : (rest.map fun v => v.category).sum ≤ 8) (hdg : decode cc pc = .ok (.invokestatic idx, 3)) (hf : cells + 0 ≤ R.cells ∧ slots + 0 ≤ R.slots) :
    va_Run p l e R s m args below meth c H locs cells slots 0 0 (F0 m pc ls st0) rest (Qc H.size As.toArray) (va_A ws H.size) :=
  va_runSN (g := F0 m pc ls st0) ⟨Z.1, Z.2.1, Z.2.2.2.1, Z.2.2.2.2.1, Z.2.2.2.2.2.1⟩ (hM H.size) ⟨zCN Z hw.1 hw.2.2.1 hw.2.2.2 hd hR, Z.2.2.2.2.2.1 _ hw.2.1, trivial⟩ ⟨zPc_blind hz, zpre hz Z hP hK hD⟩ rfl rfl hsize hstack (lv_room hroom) hdg hf
end ZCALL
/-! Methods that only read: the heap is as it was. -/
def zPr (TB : List Cond) (D : va_G) (cl : List vw_C) (tys : List (ClassId × FieldType)) (av : List Value) (ws : va_W) : Array Value → State → Prop :=
  va_Pc av (fun U => zE TB U ∧ va_P D cl ws U.heap ∧ va_K D cl tys U)
theorem zPr_blind {TB : List Cond} (hz : zsts TB) {D : va_G} {cl : List vw_C} {tys : List (ClassId × FieldType)} {av : List Value} {ws : va_W} : FrameBlind (zPr TB D cl tys av ws) := fun a U g mk q => by
  obtain ⟨q0, qE, qP, qK⟩ := q
  exact ⟨q0, qE.warm (U := U.calling g mk a) hz (State.WarmedH.refl U), qP, va_K.moved (u := U) (U := U.calling g mk a) (Vm.Alike.refl U.vm) qK⟩
def zQr (v : Option Value) : Array Value → State → Outcome → State → Prop := fun _ st o t => o = .returned v ∧ t.heap = st.heap
def zMr (l : Launch) (TB : List Cond) (D : va_G) (cl : List vw_C) (tys : List (ClassId × FieldType)) (y : MethodName) (cw : Cond) (fr lo : Nat) (av : List Value) (ws : va_W) (v : Option Value) : Prop :=
  Met l y [cw] (zRm fr lo) (zPr TB D cl tys av ws) (zQr v) 0 0 (fun _ => False)
abbrev zBodyR (l : Launch) (TB : List Cond) (D : va_G) (cl : List vw_C) (tys : List (ClassId × FieldType)) (y : MethodName) (b : ByteArray) (nL : Nat) (ret : Option FieldType) (fr lo : Nat) (av : List Value) (ws : va_W) (v : Option Value) : Prop :=
  ∀ (p : Program) (e : Env) (s : State) (m : MethodId) (below : List Frame) (meth : Method) (c : Code) (ls : Array Slot), zC p s m meth c b nL ret y.cls av.toArray TB → va_P D cl ws s.heap → va_K D cl tys s → lv_has ls nL (lv_args 0 av) →
    W p l e (zRm fr lo) s m av.toArray below meth c s.heap [] 0 0 (MQ below (zQr v) av.toArray s 0 0 (fun _ => False)) (F0 m 0 ls [])
theorem z_ofR {l : Launch} {TB : List Cond} {D : va_G} {cl : List vw_C} {tys : List (ClassId × FieldType)} {y : MethodName} {b : ByteArray} {nL fr lo : Nat} {ret : Option FieldType} {av : List Value} {ws : va_W} {v : Option Value} (hy : plainName y.cls = true) (hn : (lg_sl av).length ≤ nL)
    (body : zBodyR l TB D cl tys y b nL ret fr lo av ws v) : zMr l TB D cl tys y (.code y b nL ret) fr lo av ws v := by
  refine Met.ofW (cc := b) (maxL := nL) (ret := ret) hy rfl ?_
  intro p e s m args below meth c s₁ B hml hv
  obtain ⟨rfl, hE, hP, hK⟩ := hv
  have hl := lv_entry av (n := nL) hn
  rw [lg_entry_eq]
  generalize (lg_sl av ++ List.replicate (nL - (lg_sl av).length) Slot.unset).toArray = ls at hl ⊢
  exact body p e s m below meth c ls ⟨B.exec, B.bytes, B.returns, hml, findClass_of_methodNamed B.named, fun w hw => hE w hw _, hE, B.notSynchronized⟩ hP hK hl
section ZRD
variable {p : Program} {l : Launch} {e : Env} {R : Room} {s : State} {m : MethodId} {args : Array Value} {below : List Frame} {meth : Method} {c : Code} {H : Heap} {locs : List Loc} {cells slots : Nat} {Q : State → Prop}
variable {cc : ByteArray} {pc : Nat} {ls : Array Slot} {rest st0 : List Value} {D : va_G} {cl : List vw_C} {tys : List (ClassId × FieldType)} {ws : va_W} {nL : Nat} {ret : Option FieldType} {own : String} {TB : List Cond} {a : Array Value} {v : Option Value}
theorem z_iretR {r : Int32} (Z : zC p s m meth c cc nL (some .int) own args TB) (hdg : decode cc pc = .ok (.ireturn, 1)) (hv : some (.int r) = v) : W p l e R s m args below meth c s.heap [] 0 0 (MQ below (zQr v) args s 0 0 (fun _ => False)) (F0 m pc ls [.int r]) :=
  W.iret Z.1 Z.2.1 Z.2.2.1 (fun t ht _ => ⟨by rw [hv], ht⟩) (fun q h => nomatch h) hdg Z.2.2.2.2.2.2.2
theorem z_zretR {r : Bool} (Z : zC p s m meth c cc nL (some .boolean) own args TB) (hdg : decode cc pc = .ok (.ireturn, 1)) (hv : some (.int (bI r)) = v) : W p l e R s m args below meth c s.heap [] 0 0 (MQ below (zQr v) args s 0 0 (fun _ => False)) (F0 m pc ls [.int (bI r)]) :=
  W.zret Z.1 Z.2.1 Z.2.2.1 (by cases r <;> decide) (fun t ht _ => ⟨by rw [hv], ht⟩) (fun q h => nomatch h) hdg Z.2.2.2.2.2.2.2
theorem z_lretR {r : Int64} (Z : zC p s m meth c cc nL (some .long) own args TB) (hdg : decode cc pc = .ok (.lreturn, 1)) (hv : some (.long r) = v) : W p l e R s m args below meth c s.heap [] 0 0 (MQ below (zQr v) args s 0 0 (fun _ => False)) (F0 m pc ls [.long r]) :=
  W.lret Z.1 Z.2.1 Z.2.2.1 (fun t ht _ => ⟨by rw [hv], ht⟩) (fun q h => nomatch h) hdg Z.2.2.2.2.2.2.2
theorem z_vretR (Z : zC p s m meth c cc nL none own args TB) (hdg : decode cc pc = .ok (.return_, 1)) (hv : none = v) : W p l e R s m args below meth c s.heap [] 0 0 (MQ below (zQr v) args s 0 0 (fun _ => False)) (F0 m pc ls []) :=
  W.vret Z.1 Z.2.1 Z.2.2.1 (fun t ht _ => ⟨by rw [hv], ht⟩) (fun q h => nomatch h) hdg Z.2.2.2.2.2.2.2
theorem z_kr (hr : CallRun p l e R s m args below meth c H locs cells slots 0 0 (F0 m pc ls st0) rest (zQr v a) (fun _ => False)) (kk : W p l e R s m args below meth c H locs cells slots Q (F0 m (pc + 3) ls (v.toList ++ rest))) : W p l e R s m args below meth c H locs cells slots Q (F0 m pc ls st0) := by
  intro T hT X
  obtain ⟨v', st₀, t, T', L, h0, X', hL, e1, ⟨hv, hh⟩, st⟩ := hr T hT X
  cases hv
  obtain ⟨t2, a1, b1⟩ := kk T' (by rw [e1, hh, h0]) (Stand.forget X' (fun q h => (hL q h).elim))
  exact ⟨t2, st t2 a1, b1⟩
theorem zpreR (hz : zsts TB) (Z : zC p s m meth c cc nL ret own args TB) {av : List Value} (hP : va_P D cl ws H) (hK : va_K D cl tys s) : ∀ U : State, U.heap = H → s.WarmedH U.vm → zPr TB D cl tys av ws av.toArray U :=
  fun U hU hW => ⟨rfl, zE.warm hz hW Z.2.2.2.2.2.2.1, by rw [hU]; exact hP, va_K.moved hW.alike hK⟩
theorem z_callSR {y : MethodName} {b : ByteArray} {nY fr lo idx : Nat} {rY : Option FieldType} {As : List Value} (hz : zsts TB) (Z : zC p s m meth c cc nL ret own args TB)
    (hM : zMr l TB D cl tys y (.code y b nY rY) fr lo As ws v) (hw : zwS TB own idx y b nY rY) (hd : zdY y As.length) (hR : fr + 1 ≤ R.frames ∧ 8 + (nY + 11) + lo ≤ R.locals) (hP : va_P D cl ws H) (hK : va_K D cl tys s)
    (hsize : ls.size = nL) (hstack : st0 = As.reverse ++ rest) (hroom : (rest.map fun v => v.category).sum ≤ 8) (hdg : decode cc pc = .ok (.invokestatic idx, 3)) (hf : cells + 0 ≤ R.cells ∧ slots + 0 ≤ R.slots)
    (kk : W p l e R s m args below meth c H locs cells slots Q (F0 m (pc + 3) ls (v.toList ++ rest))) : W p l e R s m args below meth c H locs cells slots Q (F0 m pc ls st0) :=
  z_kr (va_runS (g := F0 m pc ls st0) ⟨Z.1, Z.2.1, Z.2.2.2.1, Z.2.2.2.2.1, Z.2.2.2.2.2.1⟩ hM ⟨callB_of As.length Z.2.2.2.2.2.1 (zgood hw.2.2.2) rfl rfl rfl (Z.2.2.2.2.2.1 _ hw.2.2.1) (Z.2.2.2.2.2.1 _ hw.1) hd hR, Z.2.2.2.2.2.1 _ hw.2.1⟩ ⟨zPr_blind hz, zpreR hz Z hP hK⟩ rfl rfl hsize hstack (lv_room hroom) hdg hf).run kk
theorem z_callVR {y : MethodName} {b : ByteArray} {nY fr lo idx q0 ci b0 : Nat} {rY : Option FieldType} {As : List Value} {q : vw_C} {fs : List Value} (hz : zsts TB) (Z : zC p s m meth c cc nL ret own args TB)
    (hM : zMr l TB D cl tys y (.code y b nY rY) fr lo (.ref b0 :: As) ws v) (hw : zwV TB own idx y b nY rY) (hd : zdY y As.length) (hR : fr + 1 ≤ R.frames ∧ 8 + (nY + 11) + lo ≤ R.locals) (hP : va_P D cl ws H) (hK : va_K D cl tys s)
    (hc : cl[ci]? = some q) (hcq : q.1 = y.cls) (he : ws[q0]? = some (b0, .inr (ci, fs)))
    (hsize : ls.size = nL) (hstack : st0 = As.reverse ++ .ref b0 :: rest) (hroom : (rest.map fun v => v.category).sum ≤ 8) (hdg : decode cc pc = .ok (.invokevirtual idx, 3)) (hf : cells + 0 ≤ R.cells ∧ slots + 0 ≤ R.slots)
    (kk : W p l e R s m args below meth c H locs cells slots Q (F0 m (pc + 3) ls (v.toList ++ rest))) : W p l e R s m args below meth c H locs cells slots Q (F0 m pc ls st0) :=
  z_kr (va_runV (g := F0 m pc ls st0) (C := y.cls) ⟨Z.1, Z.2.1, Z.2.2.2.1, Z.2.2.2.2.1, Z.2.2.2.2.2.1⟩ hM ⟨callB_of As.length Z.2.2.2.2.2.1 (zgood hw.2.2.2.2) rfl rfl rfl (Z.2.2.2.2.2.1 _ hw.2.2.2.1) (Z.2.2.2.2.2.1 _ hw.1) hd hR, Z.2.2.2.2.2.1 _ hw.2.1, Z.2.2.2.2.2.1 _ hw.2.2.1⟩ ⟨zPr_blind hz, by rw [← hcq]; exact va_recv hK hP hc he, zpreR hz Z hP hK⟩ rfl rfl hsize hstack (lv_room hroom) hdg hf).run kk
theorem z_callVNR {y : MethodName} {b : ByteArray} {nY fr lo idx q0 ci b0 : Nat} {rY : Option FieldType} {host : String} {As : List Value} {q : vw_C} {fs : List Value} (hz : zsts TB) (Z : zC p s m meth c cc nL ret own args TB)
    (hM : zMr l TB D cl tys y (.code y b nY rY) fr lo (.ref b0 :: As) ws v) (hw : zwVN TB own idx y host b nY rY) (hd : zdY y As.length) (hR : fr + 1 ≤ R.frames ∧ 8 + (nY + 11) + lo ≤ R.locals) (hP : va_P D cl ws H) (hK : va_K D cl tys s)
    (hc : cl[ci]? = some q) (hcq : q.1 = y.cls) (he : ws[q0]? = some (b0, .inr (ci, fs)))
    (hsize : ls.size = nL) (hstack : st0 = As.reverse ++ .ref b0 :: rest) (hroom : (rest.map fun v => v.category).sum ≤ 8) (hdg : decode cc pc = .ok (.invokevirtual idx, 3)) (hf : cells + 0 ≤ R.cells ∧ slots + 0 ≤ R.slots)
    (kk : W p l e R s m args below meth c H locs cells slots Q (F0 m (pc + 3) ls (v.toList ++ rest))) : W p l e R s m args below meth c H locs cells slots Q (F0 m pc ls st0) :=
  z_kr (va_runVN (g := F0 m pc ls st0) (C := y.cls) ⟨Z.1, Z.2.1, Z.2.2.2.1, Z.2.2.2.2.1, Z.2.2.2.2.2.1⟩ hM ⟨zCN Z hw.1 hw.2.2.2.1 hw.2.2.2.2 hd hR, Z.2.2.2.2.2.1 _ hw.2.1, Z.2.2.2.2.2.1 _ hw.2.2.1⟩ ⟨zPr_blind hz, by rw [← hcq]; exact va_recv hK hP hc he, zpreR hz Z hP hK⟩ rfl rfl hsize hstack (lv_room hroom) hdg hf).run kk
end ZRD
