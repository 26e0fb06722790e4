/-! Methods that throw: an exception of the class E is made (one cell, six slots); nothing else changes. -/
abbrev zRx (fr lo : Nat) : Room := { frames := fr, cells := 1, slots := 6, locals := lo }
/-- the four words of a throw that speak of the heap -/
def z4 : List Cond := [.isRef (.static Bundle.tN "UNASSIGNED_STACK" Bundle.steD), .isRef (.static Bundle.tN "SUPPRESSED_SENTINEL" Bundle.listD), .laysStatic Bundle.tN "UNASSIGNED_STACK" Bundle.steD, .laysStatic Bundle.tN "SUPPRESSED_SENTINEL" Bundle.listD]
/-- they hold wherever the heap is H -/
def zT (s : State) (H : Heap) : Prop := ∀ U : State, s.WarmedH U.vm → U.heap = H → ∀ w ∈ z4, ∀ a : Array Value, w.before a U = true
theorem zT.next {s U : State} {H : Heap} (h : zT s H) (hW : s.WarmedH U.vm) : zT U H := fun V hV hH => h V (State.WarmedH.trans hW hV) hH
/-- the texts of the exceptions are there -/
def zS (U : State) : Prop := ∀ q ∈ ([(179, "there is no such one"), (52, "there are 32 hauls"), (184, "a number is not as said")] : List (Nat × String)), ∃ a : Nat, vk_R n_D q.1 q.2 a U
theorem zS.warm {s U : State} (hW : s.WarmedH U.vm) (h : zS s) : zS U := fun q hq => (h q hq).elim fun a ha => ⟨a, vk_R.warm hW ha⟩
def zX (E : String) (st : State) (o : Outcome) (t : State) : Prop :=
  ∃ (q : Addr) (ce : Cell), o = .threw q ∧ t.heap[q]? = some ce ∧ ce.vm = .none ∧ st.vm.findClass E = some ce.cls ∧ st.heap.size ≤ t.heap.size ∧ (∀ z : Nat, z < st.heap.size → t.heap[z]? = st.heap[z]?) ∧ st.WarmedH t.vm ∧ st.sameButNew ({ t with vm := st.vm } : State) [] 1 6
def zPt (D : va_G) (tys : List (ClassId × FieldType)) (av : List Value) (ws : va_W) : Array Value → State → Prop :=
  va_Pc av (fun U => zE TB U ∧ va_P D classes ws U.heap ∧ va_K D classes tys U ∧ zT U U.heap ∧ zS U)
theorem zPt_blind {D : va_G} {tys : List (ClassId × FieldType)} {av : List Value} {ws : va_W} : FrameBlind (zPt D tys av ws) := fun a U g mk q => by
  obtain ⟨q0, qE, qP, qK, qT, qS⟩ := q
  exact ⟨q0, qE.warm (U := U.calling g mk a) zTB (State.WarmedH.refl U), qP, va_K.moved (u := U) (U := U.calling g mk a) (Vm.Alike.refl U.vm) qK, qT.next (U := U.calling g mk a) (State.WarmedH.refl U), qS.warm (U := U.calling g mk a) (State.WarmedH.refl U)⟩
def zMt (l : Launch) (D : va_G) (tys : List (ClassId × FieldType)) (y : MethodName) (cw : Cond) (fr lo : Nat) (av : List Value) (ws : va_W) (E : String) : Prop :=
  MetFree l y (headSpec [cw] (zRx fr lo)) (zPt D tys av ws) (fun _ _ _ _ _ => True) (fun _ st o t => zX E st o t)
def zMQ (below : List Frame) (E : String) (s : State) : State → Prop := fun t => ∃ o, t.status = .running ∧ Ended t below o ∧ zX E s o t
abbrev zBodyX (l : Launch) (D : va_G) (tys : List (ClassId × FieldType)) (y : MethodName) (b : ByteArray) (nL : Nat) (ret : Option FieldType) (fr lo : Nat) (av : List Value) (ws : va_W) (E : String) : Prop :=
  ∀ (p : Program) (e : Env) (s : State) (m : MethodId) (below : List Frame) (meth : Method) (c : Code) (ls : Array Slot), zC p s m meth c b nL ret y.cls av.toArray TB → c.exceptionTable.toList = [] → va_P D classes ws s.heap → va_K D classes tys s → zT s s.heap → zS s → lv_has ls nL (lv_args 0 av) →
    W p l e (zRx fr lo) s m av.toArray below meth c s.heap [] 0 0 (zMQ below E s) (F0 m 0 ls [])
theorem z_ofX {l : Launch} {D : va_G} {tys : List (ClassId × FieldType)} {y : MethodName} {b : ByteArray} {nL fr lo : Nat} {ret : Option FieldType} {av : List Value} {ws : va_W} {E : String} (hy : plainName y.cls = true) (hn : (lg_sl av).length ≤ nL)
    (body : zBodyX l D tys y b nL ret fr lo av ws E) : zMt l D tys y (.code y b nL ret) fr lo av ws E := by
  refine MetFree.of_bodyS (code := b) (maxLocals := nL) (ret := ret) hy ?_ ?_
  · intro args s m h hn
    obtain ⟨meth, c, h1, h2, h3, h4, h5, h6, -, -⟩ := Cond.code_spec hn (atoms_spec (ws := [Cond.code y b nL ret]) h _ List.mem_cons_self)
    exact ⟨meth, c, h1, h2, h3, h4, h5, h6⟩
  · intro p e s m args below meth c s₁ B hml hP _
    obtain ⟨rfl, hE, hPw, hK, hT, hS⟩ := hP
    have hh0 : s₁.heap = s.heap := by rw [B.state]; rfl
    have hl := lv_entry av (n := nL) hn
    have htab : c.exceptionTable.toList = [] := by
      have hw : (Cond.code y b nL ret).before av.toArray s = true := atoms_spec (ws := [Cond.code y b nL ret]) B.pre _ List.mem_cons_self
      obtain ⟨meth9, c9, h1, h2, -, -, -, -, h7, -⟩ := Cond.code_spec B.named hw
      cases Option.some.inj (h1.symm.trans B.method)
      cases Option.some.inj (h2.symm.trans (Stand.of_body B).code)
      simpa [Array.isEmpty_iff] using h7
    have K : W p l e (zRx fr lo) s m av.toArray below meth c s₁.heap [] 0 0 (zMQ below E s) (entryFrame m av.toArray nL) := by
      rw [hh0, lg_entry_eq]
      generalize (lg_sl av ++ List.replicate (nL - (lg_sl av).length) Slot.unset).toArray = ls at hl ⊢
      exact body p e s m below meth c ls ⟨B.exec, B.bytes, B.returns, hml, findClass_of_methodNamed B.named, fun w hw => hE w hw _, hE, B.notSynchronized⟩ htab hPw hK hT hS hl
    obtain ⟨t, a1, o, b1, b2, b3⟩ := K s₁ rfl (Stand.of_body B)
    exact ⟨t, o, a1, b1, b2, b3⟩
section ZXR
variable {p : Program} {l : Launch} {e : Env} {R : Room} {s : State} {m : MethodId} {args : Array Value} {below : List Frame} {meth : Method} {c : Code} {H : Heap} {locs : List Loc} {cells slots : Nat} {Q : State → Prop}
variable {cc : ByteArray} {pc : Nat} {ls : Array Slot} {rest st0 : List Value} {D : va_G} {A : Nat → Prop} {tys : List (ClassId × FieldType)} {ws : va_W} {nL : Nat} {ret : Option FieldType} {own : String}
/-- what a state that grew keeps -/
theorem z_grown {U : State} {k n : Nat} (h : s.sameButNew ({ U with vm := s.vm } : State) [] k n) : s.heap.size ≤ U.heap.size ∧ ∀ q : Nat, q < s.heap.size → U.heap[q]? = s.heap[q]? := by
  obtain ⟨-, h2, -, -, -, h6⟩ := h
  refine ⟨h2, fun q hq => ?_⟩
  obtain ⟨c9, e1, e2, -, e4⟩ := h6 q _ (Array.getElem?_eq_getElem hq)
  have hs : c9.slots = (s.heap[q]).slots := Array.ext_getElem? fun i => e4 i (fun hm => nomatch hm)
  have h9 : c9 = s.heap[q] := by
    rw [hs] at e2
    exact e2
  have e5 : U.heap[q]? = some c9 := e1
  rw [e5, h9, Array.getElem?_eq_getElem hq]
/-- new E; dup; ldc text; invokespecial E(String); athrow -/
theorem z_throwS (hl : l.stackTraces = false) (Z : zC p s m meth c cc nL ret own args TB) (htab : c.exceptionTable.toList = []) (hT : zT s s.heap) {cls text : String} {names : List String} {ik is ic sa : Nat}
    (hcls : Bundle.fit cls = true) (hnames : ∀ n ∈ names, Bundle.fit n = true) (hk : Cond.classLink own ik cls ∈ TB) (hini : Cond.initialized cls ∈ TB) (hat : ∀ w ∈ Bundle.ownAtoms own ic cls names, w ∈ TB ∨ w ∈ z4) (hstr : vk_R own is text sa s) (hsize : ls.size = nL)
    (d0 : decode cc pc = .ok (.new ik, 3)) (d3 : decode cc (pc + 3) = .ok (.dup, 1)) (d4 : decode cc (pc + 4) = .ok (.ldc is, 2)) (d6 : decode cc (pc + 6) = .ok (.invokespecial ic, 3)) (d9 : decode cc (pc + 9) = .ok (.athrow, 1))
    (hRf : names.length + 3 < R.frames) (hRl : (rest.map fun v => v.category).sum + (13 * (names.length + 1) + 43) ≤ R.locals) (hRc : 0 + 1 ≤ R.cells) (hRs : 0 + 6 ≤ R.slots) :
    W p l e R s m args below meth c s.heap [] 0 0 (zMQ below cls s) (F0 m pc ls rest) := by
  intro T hTh X
  obtain ⟨hexec, hb, -, hml, hown, hts, -, hlocks⟩ := Z
  have htr : e.platform.stackTraces = false := (show e.platform.stackTraces = l.stackTraces by rw [X.admits.platform]).trans hl
  have h : ∀ w ∈ Bundle.ownAtoms own ic cls names, w.before args s = true := fun w hw => (hat w hw).elim (fun q => hts w q) (fun q => hT s (State.WarmedH.refl s) rfl w q args)
  have hins : (Cond.instantiable cls 6).before args s = true := h _ (by simp [Bundle.ownAtoms])
  obtain ⟨vm₁, cX, kX, hfX, hkX, -, -, X₁, st1⟩ := X.newCold hexec (own := own) (C := cls) (index := ik) (n := 6) hown (hts _ hk) hins (hts _ hini)
    (g := F0 m pc ls rest) rfl (by rw [hb]; exact d0) hRc hRs
  generalize hT1 : (T.setVm vm₁).pushCell { cls := cX, slots := kX.instanceTypes.map defaultValue, vm := .none } = T1 at X₁ st1
  have hcat : (Value.ref T.heap.size).category = 1 := rfl
  have hcellA : T1.heap[T.heap.size]? = some (freshCell cX kX) := by rw [← hT1]; exact State.heap_pushCell_size _ _
  have d3' : decode c.code (pc + 3) = .ok (.dup, 1) := by rw [hb]; exact d3
  have d4' : decode c.code (pc + 4) = .ok (.ldc is, 2) := by rw [hb]; exact d4
  obtain ⟨U, hsteps, hrun, hend, hW, hsame, ce, hce, hO⟩ := X₁.ctorThrowS hexec htr (own := own) (cls := cls) (names := names) (ic := ic) hown hcls hnames h (fun x hx => nomatch hx) hfX hkX hcellA (by rw [hTh]; exact Nat.le_refl _) (msg := .ref sa) rfl
    (g := { method := m, pc := pc + 6, locals := ls, stack := .ref sa :: .ref T.heap.size :: .ref T.heap.size :: rest, locked := none }) rfl (hsize.trans hml.symm) rfl rfl (rest := rest) rfl
    (by rw [hb]; exact d6) (by rw [hb]; exact d9) (by rw [htab]; exact fun x hx => nomatch hx) hRf (by simp only [List.map_cons, List.sum_cons, hcat]; omega) hlocks
  obtain ⟨f1, f2⟩ := z_grown hsame
  refine ⟨U, ?_, .threw T.heap.size, hrun, hend, T.heap.size, ce, rfl, hce, hO.vm, hO.cls, f1, f2, hW, hsame⟩
  refine st1 _ ?_
  show Steps p.tables e below (T1.setTop { method := m, pc := pc + 3, locals := ls, stack := .ref T.heap.size :: rest, locked := none }) _
  jvm_step X₁.here [X₁.here.top, hexec, d3', Value.category]
  exact X₁.ldcString hexec (own := own) (text := text) (index := is) (a := sa) hown hstr.1 hstr.2
    (g := { method := m, pc := pc + 4, locals := ls, stack := .ref T.heap.size :: .ref T.heap.size :: rest, locked := none }) rfl d4' _ hsteps
end ZXR
