section ZXC
variable {p : Program} {l : Launch} {e : Env} {R : Room} {s : State} {m : MethodId} {args : Array Value} {below : List Frame} {meth : Method} {c : Code} {H : Heap} {locs : List Loc} {cells slots : Nat} {Q : State → Prop} {T : State}
variable {cc : ByteArray} {pc : Nat} {ls : Array Slot} {rest st0 : List Value} {D : va_G} {A : Nat → Prop} {tys : List (ClassId × FieldType)} {ws : va_W} {nL : Nat} {ret : Option FieldType} {own : String}
variable {y : MethodName} {b : ByteArray} {nY fr lo idx : Nat} {rY : Option FieldType} {As : List Value} {E : String}
/-- a call of a method that throws: its exception stands over the caller's frame -/
theorem z_xback (X : Stand p l e R s m args below meth c T locs cells slots) (hM : zMt l D tys y (.code y b nY rY) fr lo As ws E) (hpre : zPt D tys As ws As.toArray T)
    (hcode : ∀ (a : Array Value) (U : State), s.WarmedH U.vm → (Cond.code y b nY rY).before a U = true) (hini : ∀ (a : Array Value) (U : State), s.WarmedH U.vm → (Cond.initialized y.cls).before a U = true)
    (hR : fr + 1 ≤ R.frames ∧ 8 + (nY + 11) + lo ≤ R.locals) (hc : cells + 1 ≤ R.cells) (hs : slots + 6 ≤ R.slots) {g : JFrame} (hg : g.method = m) (hsize : g.locals.size = c.maxLocals) {ig : Instr} {len : Nat} (hdg : decode c.code g.pc = .ok (ig, len))
    (hW : 2 * g.monitorRoom + (g.stack.map fun v => v.category).sum ≤ 8) {mk : MethodId} (hn : T.methodNamed? y = some mk) :
    ∃ (q : Addr) (ce : Cell) (T' : State), Stand p l e R s m args below meth c T' locs (cells + 1) (slots + 6) ∧ T'.heap[q]? = some ce ∧ ce.vm = .none ∧ T.vm.findClass E = some ce.cls ∧ T.heap.size ≤ T'.heap.size ∧ (∀ z : Nat, z < T.heap.size → T'.heap[z]? = T.heap[z]?) ∧
      Steps p.tables e below (doInvoke e (T.setTop g) [] mk As.toArray).1 ((T'.setTop g).pushFrame (.throwing q)) := by
  have h2 : (Cond.code y b nY rY).before As.toArray T = true := hcode _ _ X.warmed
  have h1 : (headSpec [Cond.code y b nY rY] (zRx fr lo)).pre.before As.toArray T = true := atoms_intro fun w hw => by rw [List.mem_singleton.mp hw]; exact h2
  have h3 : (Cond.initialized y.cls).before As.toArray T = true := hini _ _ X.warmed
  obtain ⟨methY, cY, hmY, hcY, -, hlY, -, -, -, -⟩ := Cond.code_spec hn h2
  obtain ⟨kY, hkY, -⟩ := className_of_methodNamed hn
  have hinitY : kY.init = .initialized := Cond.initialized_spec (findClass_of_methodNamed hn) hkY h3
  have h : At T g.method c below := by rw [hg]; exact X.here
  have hloc : 8 + (nY + 11) + (headSpec [Cond.code y b nY rY] (zRx fr lo)).room.locals ≤ R.locals := hR.2
  have happ : (headSpec [Cond.code y b nY rY] (zRx fr lo)).appliesLoose y e.platform (T.calling g mk As.toArray) = true :=
    Spec.appliesLoose_calling (g := g) h hdg hn hkY hinitY
      (X.room_calling (g := g) (R' := (headSpec [Cond.code y b nY rY] (zRx fr lo)).room) hsize hmY hcY hR.1 (by rw [hlY]; omega) hc hs) h1
  obtain ⟨mid, hmid⟩ := h.above
  have hfr : (T.setTop g).frames = (.java g :: mid) ++ below := by rw [State.frames_setTop' g h.top, hmid]; rfl
  obtain ⟨o, s₂, hsteps, -, hend, hq⟩ := Steps.callFree hM p X.admits X.cas X.clock (acts := []) hfr happ (zPt_blind _ T g mk hpre) trivial
  rw [State.frames_setTop' g h.top] at hend
  have hq' : zX E (T.calling g mk As.toArray) o s₂ := hq
  obtain ⟨q, ce, rfl, hce, hcv, hcl, hz, hkeep, hW₂, hsm⟩ := hq'
  obtain ⟨e2, q2, q3, q4, q5, q6⟩ := id hsm
  have e3 : s₂ = ({ (T.calling g mk As.toArray).setFrames s₂.frames with heap := s₂.heap, slotsUsed := s₂.slotsUsed } : State).setVm s₂.vm := by
    have e9 : s₂ = ({ s₂ with vm := (T.calling g mk As.toArray).vm } : State).setVm s₂.vm := rfl
    rw [e2] at e9
    exact e9
  obtain ⟨g₀, hg0⟩ := Option.isSome_iff_exists.mp h.top
  obtain ⟨r, hr⟩ := State.topJava?_eq_some.mp hg0
  have hr' : (({ T with heap := s₂.heap, slotsUsed := s₂.slotsUsed } : State).setVm s₂.vm).frames = .java g₀ :: r := hr
  have hf₂ : s₂.frames = .throwing q :: .java g :: T.frames.tail := hend
  have hW' : T.WarmedH s₂.vm := hW₂
  have hs₂ : s₂ = ((({ T with heap := s₂.heap, slotsUsed := s₂.slotsUsed } : State).setVm s₂.vm).setTop g).pushFrame (.throwing q) := by
    refine e3.trans ?_
    rw [hf₂, State.calling_eq h.top, State.setFrames_setFrames, State.pushFrame, State.frames_setTop _ hr', State.setTop_of_frames _ hr', State.setFrames_setFrames, hr]
    rfl
  have hsame : T.sameButNew ({ T with heap := s₂.heap, slotsUsed := s₂.slotsUsed } : State) [] 1 6 := by
    refine ⟨?_, q2, q3, q4, q5, q6⟩
    obtain ⟨t, ht, -⟩ := State.frames_cons hr
    show ({ T with heap := s₂.heap, slotsUsed := s₂.slotsUsed } : State) = { T.setFrames T.frames with heap := s₂.heap, slotsUsed := s₂.slotsUsed }
    rw [State.setFrames_self ht]
  subst hg
  have hall := X.same.trans (hsame.setVm s.vm)
  rw [List.append_nil] at hall
  refine ⟨q, ce, (({ T with heap := s₂.heap, slotsUsed := s₂.slotsUsed } : State).setVm s₂.vm),
    ⟨X.admits, X.cas, X.clock, X.frames, X.room, X.hears, X.method, X.code, (X.here.setHeapUsed s₂.heap s₂.slotsUsed).setVm hW'.alike, X.tail, State.WarmedH.trans X.warmed hW', X.limits, X.bytes, hall⟩,
    hce, hcv, hcl, hz, hkeep, ?_⟩
  rw [← hs₂]
  exact hsteps
/-- the frame g with q thrown over it -/
def zWx (p : Program) (l : Launch) (e : Env) (R : Room) (s : State) (m : MethodId) (args : Array Value) (below : List Frame) (meth : Method) (c : Code) (H : Heap) (locs : List Loc) (cells slots : Nat) (Q : State → Prop) (g : JFrame) (q : Addr) : Prop :=
  ∀ T : State, T.heap = H → Stand p l e R s m args below meth c T locs cells slots → ∃ t, Steps p.tables e below ((T.setTop g).pushFrame (.throwing q)) t ∧ Q t
theorem zpreT (Z : zC p s m meth c cc nL ret own args TB) (hP : va_P D classes ws H) (hK : va_K D classes tys s) (hT : zT s H) (hS : zS s) : ∀ U : State, U.heap = H → s.WarmedH U.vm → zPt D tys As ws As.toArray U :=
  fun U hU hW => ⟨rfl, zE.warm zTB hW Z.2.2.2.2.2.2.1, by rw [hU]; exact hP, va_K.moved hW.alike hK, by rw [hU]; exact hT.next hW, hS.warm hW⟩
theorem z_xS (Z : zC p s m meth c cc nL ret own args TB) (hM : zMt l D tys y (.code y b nY rY) fr lo As ws E) (hw : zwS TB own idx y b nY rY) (hd : zdY y As.length) (hR : fr + 1 ≤ R.frames ∧ 8 + (nY + 11) + lo ≤ R.locals) (hP : va_P D classes ws H) (hK : va_K D classes tys s) (hT : zT s H) (hS : zS s)
    (hsize : ls.size = nL) (hstack : st0 = As.reverse ++ rest) (hroom : (rest.map fun v => v.category).sum ≤ 8) (hdg : decode cc pc = .ok (.invokestatic idx, 3)) (hf : cells + 1 ≤ R.cells ∧ slots + 6 ≤ R.slots)
    (kx : ∀ (q : Addr) (ce : Cell) (H1 : Heap), H.size ≤ H1.size → (∀ z : Nat, z < H.size → H1[z]? = H[z]?) → H1[q]? = some ce → ce.vm = .none → s.vm.findClass E = some ce.cls → zWx p l e R s m args below meth c H1 locs (cells + 1) (slots + 6) Q (F0 m pc ls rest) q) :
    W p l e R s m args below meth c H locs cells slots Q (F0 m pc ls st0) := by
  intro T hTh X
  obtain ⟨hexec, hb, -, hml, hown, hts, hE, -⟩ := id Z
  have hcode : ∀ (a : Array Value) (U : State), s.WarmedH U.vm → (Cond.code y b nY rY).before a U = true := fun a U hW => zE.warm zTB hW hE _ hw.2.2.2 a
  have hini : ∀ (a : Array Value) (U : State), s.WarmedH U.vm → (Cond.initialized y.cls).before a U = true := fun a U hW => zE.warm zTB hW hE _ hw.2.2.1 a
  have hcode0 : (Cond.code y b nY rY).before args s = true := hts _ hw.2.2.2
  obtain ⟨mk, hnamed⟩ := Cond.code_named hcode0
  obtain ⟨methM, cM, hmethM, -, -, -, -, -, -, hsigM⟩ := Cond.code_spec hnamed hcode0
  have hstatic : methM.isStatic = true := Cond.static_spec hnamed hmethM (hts _ hw.2.1)
  obtain ⟨kP, hkP, -⟩ := className_of_methodNamed hnamed
  have hinitP : kP.init = .initialized := Cond.initialized_spec (findClass_of_methodNamed hnamed) hkP (hts _ hw.2.2.1)
  have hlen : ∀ sig, parseMethodDescriptor y.desc = some sig → As.length = sig.parameters.length := fun sig h => by
    have h2 := hd.2.2
    rw [h] at h2
    exact (Option.some.inj h2).symm
  obtain ⟨vm₁, X₁, hstep₁⟩ := X.invokestatic hexec hown (hts _ hw.1) hnamed hmethM hstatic hkP hinitP ⟨hd.1, hd.2.1⟩ (g := F0 m pc ls st0) rfl (argsL := As) (rest := rest) (hlen _ hsigM) hstack (by rw [hb]; exact hdg)
  obtain ⟨q, ce, T', X', hce, hcv, hcl, hz, hk, hsteps⟩ := z_xback X₁ hM (zpreT Z hP hK hT hS (T.setVm vm₁) hTh X₁.warmed) hcode hini hR hf.1 hf.2 (g := { (F0 m pc ls st0) with stack := rest }) rfl (hsize.trans hml.symm) (by rw [hb]; exact hdg) (lv_room (m := m) (pc := pc) (ls := ls) (rest := rest) hroom) (X₁.named hnamed)
  have hcl' : s.vm.findClass E = some ce.cls := by
    rw [X₁.warmed.alike.findClass] at hcl
    exact hcl
  obtain ⟨t2, a1, b1⟩ := kx q ce T'.heap (by rw [← hTh]; exact hz) (fun z h => by rw [hk z (by rw [show (T.setVm vm₁).heap = T.heap from rfl, hTh]; exact h), show (T.setVm vm₁).heap = T.heap from rfl, hTh]) hce hcv hcl' T' rfl X'
  exact ⟨t2, (hstep₁ _ fun acts => by rw [doInvoke_state]; exact hsteps).trans a1, b1⟩
theorem z_xV {b0 q0 ci : Nat} {qc : vw_C} {fs : List Value} (Z : zC p s m meth c cc nL ret own args TB) (hM : zMt l D tys y (.code y b nY rY) fr lo (.ref b0 :: As) ws E) (hw : zwV TB own idx y b nY rY) (hd : zdY y As.length) (hR : fr + 1 ≤ R.frames ∧ 8 + (nY + 11) + lo ≤ R.locals) (hP : va_P D classes ws H) (hK : va_K D classes tys s) (hT : zT s H) (hS : zS s)
    (hcl0 : classes[ci]? = some qc) (hcq : qc.1 = y.cls) (he : ws[q0]? = some (b0, .inr (ci, fs)))
    (hsize : ls.size = nL) (hstack : st0 = As.reverse ++ .ref b0 :: rest) (hroom : (rest.map fun v => v.category).sum ≤ 8) (hdg : decode cc pc = .ok (.invokevirtual idx, 3)) (hf : cells + 1 ≤ R.cells ∧ slots + 6 ≤ R.slots)
    (kx : ∀ (q : Addr) (ce : Cell) (H1 : Heap), H.size ≤ H1.size → (∀ z : Nat, z < H.size → H1[z]? = H[z]?) → H1[q]? = some ce → ce.vm = .none → s.vm.findClass E = some ce.cls → zWx p l e R s m args below meth c H1 locs (cells + 1) (slots + 6) Q (F0 m pc ls rest) q) :
    W p l e R s m args below meth c H locs cells slots Q (F0 m pc ls st0) := by
  intro T hTh X
  obtain ⟨hexec, hb, -, hml, hown, hts, hE, -⟩ := id Z
  have hcode : ∀ (a : Array Value) (U : State), s.WarmedH U.vm → (Cond.code y b nY rY).before a U = true := fun a U hW => zE.warm zTB hW hE _ hw.2.2.2.2 a
  have hini : ∀ (a : Array Value) (U : State), s.WarmedH U.vm → (Cond.initialized y.cls).before a U = true := fun a U hW => zE.warm zTB hW hE _ hw.2.2.2.1 a
  have hcode0 : (Cond.code y b nY rY).before args s = true := hts _ hw.2.2.2.2
  obtain ⟨cellB, hcB, hoB, hclB⟩ := va_recv hK hP hcl0 he
  rw [hcq] at hclB
  obtain ⟨mk, methM, hnamed, hmethM, hstM, habM⟩ := Cond.instanceMethod_spec (hts _ hw.2.1)
  obtain ⟨methM', cM, hmethM', -, -, -, -, -, -, hsigM⟩ := Cond.code_spec hnamed hcode0
  cases hmethM.symm.trans hmethM'
  obtain ⟨c2, r2, m2, q1, q2, q3, q4, kP, hkP, hkPi⟩ := Cond.selects_spec (hts _ hw.2.2.1)
  cases hclB.symm.trans q1
  cases (State.methodFound?_of_named hnamed ⟨hd.1, hd.2.1⟩).symm.trans q2
  cases hnamed.symm.trans q3
  have hselP : selectMethod e.platform s.vm cellB.cls mk = .method mk := by rw [Launch.admits_selectMethod X.admits]; exact q4
  have hlen : ∀ sig, parseMethodDescriptor y.desc = some sig → As.length = sig.parameters.length := fun sig h => by
    have h2 := hd.2.2
    rw [h] at h2
    exact (Option.some.inj h2).symm
  obtain ⟨vm₁, X₁, hstep₁⟩ := X.invokevirtual hexec hown (hts _ hw.1) hnamed hmethM hstM hkP hkPi ⟨hd.1, hd.2.1⟩ (a := b0) (cell := cellB) (by rw [hTh]; exact hcB)
    (fun z h => by rw [h] at hoB; cases hoB) hselP hmethM habM hkP hkPi (g := F0 m pc ls st0) rfl (argsL := As) (rest := rest) (hlen _ hsigM) hstack (by rw [hb]; exact hdg)
  obtain ⟨q, ce, T', X', hce, hcv, hcl, hz, hk, hsteps⟩ := z_xback X₁ hM (zpreT Z hP hK hT hS (T.setVm vm₁) hTh X₁.warmed) hcode hini hR hf.1 hf.2 (g := { (F0 m pc ls st0) with stack := rest }) rfl (hsize.trans hml.symm) (by rw [hb]; exact hdg) (lv_room (m := m) (pc := pc) (ls := ls) (rest := rest) hroom) (X₁.named hnamed)
  have hcl' : s.vm.findClass E = some ce.cls := by
    rw [X₁.warmed.alike.findClass] at hcl
    exact hcl
  obtain ⟨t2, a1, b1⟩ := kx q ce T'.heap (by rw [← hTh]; exact hz) (fun z h => by rw [hk z (by rw [show (T.setVm vm₁).heap = T.heap from rfl, hTh]; exact h), show (T.setVm vm₁).heap = T.heap from rfl, hTh]) hce hcv hcl' T' rfl X'
  exact ⟨t2, (hstep₁ _ fun acts => by rw [doInvoke_state]; exact hsteps).trans a1, b1⟩
/-- not caught here: the method throws it on -/
theorem z_xout {q : Addr} {ce : Cell} {H1 : Heap} (Z : zC p s m meth c cc nL ret own args TB) (htab : c.exceptionTable.toList = []) (hz : s.heap.size ≤ H1.size) (hk : ∀ z : Nat, z < s.heap.size → H1[z]? = s.heap[z]?) (hce : H1[q]? = some ce) (hcv : ce.vm = .none) (hcl : s.vm.findClass E = some ce.cls) :
    zWx p l e R s m args below meth c H1 [] 1 6 (zMQ below E s) (F0 m pc ls rest) q := by
  intro T hTh X
  obtain ⟨st1, hrun, hend, hW, hsm⟩ := X.leaveThrown q (g := F0 m pc ls rest) rfl rfl rfl (by rw [htab]; exact fun x hx => nomatch hx) Z.2.2.2.2.2.2.2
  have hh : (T.setFrames (.throwing q :: below)).heap = H1 := hTh
  exact ⟨_, st1, .threw q, hrun, hend, q, ce, rfl, by rw [hh]; exact hce, hcv, hcl, by rw [hh]; exact hz, fun z h => by rw [hh]; exact hk z h, hW, hsm⟩
end ZXC
