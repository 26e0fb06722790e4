/-! The law's own methods: a call of the class within a table of handlers. -/
abbrev oU (ov : Nat → Int64) (x : Int64) : Nat → Int64 := vp_updL ov 0 x
def zPw (D : va_G) (tys : List (ClassId × FieldType)) (av : List Value) (ws : va_W) (sz : Nat) : Array Value → State → Prop :=
  va_Pc av (fun U => U.heap.size = sz ∧ zE TB U ∧ va_P D classes ws U.heap ∧ va_K D classes tys U ∧ va_D (fun _ => True) ws ∧ zT U U.heap ∧ zS U)
theorem zPw_blind {D : va_G} {tys : List (ClassId × FieldType)} {av : List Value} {ws : va_W} {sz : Nat} : FrameBlind (zPw D tys av ws sz) := fun a U g mk q => by
  obtain ⟨q0, q1, qE, qP, qK, qD, qT, qS⟩ := q
  exact ⟨q0, q1, qE.warm (U := U.calling g mk a) zTB (State.WarmedH.refl U), qP, va_K.moved (u := U) (U := U.calling g mk a) (Vm.Alike.refl U.vm) qK, qD, qT.next (U := U.calling g mk a) (State.WarmedH.refl U), qS.warm (U := U.calling g mk a) (State.WarmedH.refl U)⟩
def zMW (l : Launch) (D : va_G) (tys : List (ClassId × FieldType)) (y : MethodName) (cw : Cond) (fr lo : Nat) (av : List Value) (ws : va_W) (P : Int32 → va_W → Prop) : Prop :=
  ∀ sz, Met l y [cw] (zRx fr lo) (zPw D tys av ws sz) (va_Qi P (zB9 D classes ws) (va_A ws sz)) 1 6 (va_A ws sz)
abbrev zTab (c : Code) (hh : List (Nat × Nat × Nat × Nat)) : Prop := c.exceptionTable.toList.map (fun h => (h.startPc, h.endPc, h.handlerPc, h.catchType)) = hh
abbrev zBodyW (l : Launch) (D : va_G) (tys : List (ClassId × FieldType)) (y : MethodName) (b : ByteArray) (nL : Nat) (hh : List (Nat × Nat × Nat × Nat)) (fr lo : Nat) (av : List Value) (ws : va_W) (P : Int32 → va_W → Prop) : Prop :=
  ∀ (p : Program) (e : Env) (s : State) (m : MethodId) (below : List Frame) (meth : Method) (c : Code) (A : Nat → Prop) (ls : Array Slot), zC p s m meth c b nL (some .int) y.cls av.toArray TB → zTab c hh → va_P D classes ws s.heap → va_K D classes tys s → va_D A ws → va_S A s.heap s.heap [] → (∀ q : Nat, s.heap.size ≤ q → A q) → zT s s.heap → zS s → lv_has ls nL (lv_args 0 av) →
    W p l e (zRx fr lo) s m av.toArray below meth c s.heap [] 0 0 (MQ below (va_Qi P (zB9 D classes ws) A) av.toArray s 1 6 A) (F0 m 0 ls [])
theorem z_ofW {l : Launch} {D : va_G} {tys : List (ClassId × FieldType)} {y : MethodName} {b : ByteArray} {nL fr lo : Nat} {hh : List (Nat × Nat × Nat × Nat)} {av : List Value} {ws : va_W} {P : Int32 → va_W → Prop} (hy : plainName y.cls = true) (hn : (lg_sl av).length ≤ nL)
    (body : zBodyW l D tys y b nL hh fr lo av ws P) : zMW l D tys y (.codeWith y b nL (some .int) hh) fr lo av ws P := by
  intro sz
  refine va_MetW (cc := b) (maxL := nL) (ret := some .int) (hh := hh) hy rfl ?_
  intro p e s m args below meth c s₁ B hml hv
  obtain ⟨rfl, hsz, hE, hP, hK, hD0, hT, hSt⟩ := hv
  subst hsz
  have hD := hD0.self (sz := s.heap.size)
  generalize hAe : va_A ws s.heap.size = A at hD ⊢
  have hA : ∀ q : Nat, s.heap.size ≤ q → A q := fun q h => by rw [← hAe]; exact Or.inr h
  have hS : va_S A s.heap s.heap [] := va_S.rf
  have hl := lv_entry av (n := nL) hn
  have htab : zTab c hh := by
    have hw : (Cond.codeWith y b nL (some .int) hh).before av.toArray s = true := atoms_spec (ws := [Cond.codeWith y b nL (some .int) hh]) B.pre _ List.mem_cons_self
    obtain ⟨m9, meth9, c9, h0, h1, h2, -, -, h7, -⟩ := Cond.codeWith_spec hw
    cases Option.some.inj (h0.symm.trans B.named)
    cases Option.some.inj (h1.symm.trans B.method)
    cases Option.some.inj (h2.symm.trans (Stand.of_body B).code)
    exact h7
  rw [lg_entry_eq]
  generalize (lg_sl av ++ List.replicate (nL - (lg_sl av).length) Slot.unset).toArray = ls at hl ⊢
  exact body p e s m below meth c A ls ⟨B.exec, B.bytes, B.returns, hml, findClass_of_methodNamed B.named, fun w hw => hE w hw _, hE, B.notSynchronized⟩ htab hP hK hD hS hA hT hSt hl
section ZWR
variable {p : Program} {l : Launch} {e : Env} {R : Room} {s : State} {m : MethodId} {args : Array Value} {below : List Frame} {meth : Method} {c : Code} {H : Heap} {locs : List Loc} {cells slots : Nat} {Q : State → Prop}
variable {cc : ByteArray} {pc : Nat} {ls : Array Slot} {rest st0 : List Value} {D : va_G} {A : Nat → Prop} {tys : List (ClassId × FieldType)} {ws w : va_W} {nL : Nat} {ret : Option FieldType} {own : String} {H0 : Heap} {a : Nat} {E name nm1 : String}
/-- the row of one long is written -/
theorem z_ost (hx : p.tables.exec = Jvm.exec) (hb : c.code = cc) (hK : va_K D classes tys s) (hP : va_P D classes ws H) (hD : va_D A ws) (hS : va_S A H0 H locs) (q0 t0 : Nat) {cA : ClassId} {f : Nat → Int64} (ha : ws[q0]? = some (a, .inl (cA, 1, .inr (.inl f)))) (ht : tys[t0]? = some (cA, .long)) {x : Int64} (hdg : decode cc pc = .ok (.lastore, 1))
    (kk : ∀ (H1 : Heap) (locs1 : List Loc), va_P D classes (ws.set q0 (a, .inl (cA, 1, .inr (.inl (oU f x))))) H1 → va_D A (ws.set q0 (a, .inl (cA, 1, .inr (.inl (oU f x))))) → va_S A H0 H1 locs1 → W p l e R s m args below meth c H1 locs1 cells slots Q (F0 m (pc + 1) ls rest)) : W p l e R s m args below meth c H locs cells slots Q (F0 m pc ls (.long x :: .int (iZ ((0 : Nat) : Int)) :: .ref a :: rest)) := by
  refine va_last hx hb hK hP hD hS q0 t0 ha ht (iZ_in (by omega) (by omega)) hdg ?_
  rw [iZ_cl rfl (by omega)]
  exact kk
/-- and read -/
theorem z_old (hx : p.tables.exec = Jvm.exec) (hb : c.code = cc) (hK : va_K D classes tys s) (hP : va_P D classes ws H) (q0 t0 : Nat) {cA : ClassId} {f : Nat → Int64} {x : Int64} (ha : ws[q0]? = some (a, .inl (cA, 1, .inr (.inl (oU f x))))) (ht : tys[t0]? = some (cA, .long)) (hdg : decode cc pc = .ok (.laload, 1))
    (kk : W p l e R s m args below meth c H locs cells slots Q (F0 m (pc + 1) ls (.long x :: rest))) : W p l e R s m args below meth c H locs cells slots Q (F0 m pc ls (.int (iZ ((0 : Nat) : Int)) :: .ref a :: rest)) := by
  refine va_lald hx hb hK hP q0 t0 ha ht (iZ_in (by omega) (by omega)) hdg ?_
  rw [iZ_cl rfl (by omega), show oU f x 0 = x from pk_uLs]
  exact kk
/-- what was there stays, when an object was made -/
theorem z_keepP {H1 : Heap} (hP : va_P D classes ws H) (hk : ∀ z : Nat, z < H.size → H1[z]? = H[z]?) : va_P D classes ws H1 := fun k q hq => (hP k q hq).kept (hk q.1 (hP k q hq).lt)
theorem z_keepS {H1 : Heap} (hS : va_S A H0 H locs) (hz : H.size ≤ H1.size) (hk : ∀ z : Nat, z < H.size → H1[z]? = H[z]?) : va_S A H0 H1 locs := ⟨Nat.le_trans hS.1 hz, fun q h1 h2 => (hk q (Nat.lt_of_lt_of_le h1 hS.1)).trans (hS.2.1 q h1 h2), hS.2.2⟩
/-- caught by the table's first row -/
theorem z_xk1 {q : Addr} {ce : Cell} {st en hp ct : Nat} {r : List (Nat × Nat × Nat × Nat)} (Z : zC p s m meth c cc nL ret own args TB) (htab : zTab c ((st, en, hp, ct) :: r)) (hpc : st ≤ pc ∧ pc < en) (h0 : ct ≠ 0) (hlx : Cond.classLink own ct name ∈ TB) (hcast : Cond.castable E name ∈ TB)
    (hce : H[q]? = some ce) (hcv : ce.vm = .none) (hcl : s.vm.findClass E = some ce.cls) (kk : W p l e R s m args below meth c H locs cells slots Q (F0 m hp ls [.ref q])) : zWx p l e R s m args below meth c H locs cells slots Q (F0 m pc ls rest) q := by
  unfold zTab at htab
  cases htl : c.exceptionTable.toList with
  | nil => rw [htl] at htab; cases htab
  | cons x t =>
    rw [htl] at htab
    have h9 := (List.cons.inj htab).1
    have e1 : x.startPc = st := congrArg (fun z => z.1) h9
    have e2 : x.endPc = en := congrArg (fun z => z.2.1) h9
    have e3 : x.handlerPc = hp := congrArg (fun z => z.2.2.1) h9
    have e4 : x.catchType = ct := congrArg (fun z => z.2.2.2) h9
    exact z_xcatch Z [] x t htl (fun z hz => nomatch hz) (by simp [covers, e1, e2, hpc.1, hpc.2]) (by rw [e4]; exact h0) (by rw [e4]; exact hlx) hcast hce hcv hcl (by rw [e3]; exact kk)
/-- caught by its second row -/
theorem z_xk2 {q : Addr} {ce : Cell} {st1 en1 hp1 ct1 st en hp ct : Nat} {r : List (Nat × Nat × Nat × Nat)} (Z : zC p s m meth c cc nL ret own args TB) (htab : zTab c ((st1, en1, hp1, ct1) :: (st, en, hp, ct) :: r)) (hpc : (st1 ≤ pc ∧ pc < en1) ∧ st ≤ pc ∧ pc < en) (h0 : ct1 ≠ 0 ∧ ct ≠ 0) (hl1 : Cond.classLink own ct1 nm1 ∈ TB) (hnc : Cond.not (.castable E nm1) ∈ TB) (hlx : Cond.classLink own ct name ∈ TB) (hcast : Cond.castable E name ∈ TB)
    (hce : H[q]? = some ce) (hcv : ce.vm = .none) (hcl : s.vm.findClass E = some ce.cls) (kk : W p l e R s m args below meth c H locs cells slots Q (F0 m hp ls [.ref q])) : zWx p l e R s m args below meth c H locs cells slots Q (F0 m pc ls rest) q := by
  unfold zTab at htab
  cases htl : c.exceptionTable.toList with
  | nil => rw [htl] at htab; cases htab
  | cons x0 t0 =>
    cases t0 with
    | nil => rw [htl] at htab; cases htab
    | cons x t =>
      rw [htl] at htab
      have g9 := (List.cons.inj htab).1
      have f1 : x0.startPc = st1 := congrArg (fun z => z.1) g9
      have f2 : x0.endPc = en1 := congrArg (fun z => z.2.1) g9
      have f4 : x0.catchType = ct1 := congrArg (fun z => z.2.2.2) g9
      have h9 := (List.cons.inj (List.cons.inj htab).2).1
      have e1 : x.startPc = st := congrArg (fun z => z.1) h9
      have e2 : x.endPc = en := congrArg (fun z => z.2.1) h9
      have e3 : x.handlerPc = hp := congrArg (fun z => z.2.2.1) h9
      have e4 : x.catchType = ct := congrArg (fun z => z.2.2.2) h9
      refine z_xcatch Z [x0] x t htl (fun z hz => ?_) (by simp [covers, e1, e2, hpc.2.1, hpc.2.2]) (by rw [e4]; exact h0.2) (by rw [e4]; exact hlx) hcast hce hcv hcl (by rw [e3]; exact kk)
      rw [List.mem_singleton.mp hz]
      exact ⟨by simp [covers, f1, f2, hpc.1.1, hpc.1.2], by rw [f4]; exact h0.1, nm1, by rw [f4]; exact hl1, Z.2.2.2.2.2.1 _ hnc⟩
/-- a call of such a method -/
theorem z_runSW {y : MethodName} {b : ByteArray} {nY fr lo idx : Nat} {rY : Option FieldType} {hh : List (Nat × Nat × Nat × Nat)} {As : List Value} {Qc : Nat → Array Value → State → Outcome → State → Prop} (Z : zC p s m meth c cc nL ret own args TB)
    (hM : ∀ sz, Met l y [.codeWith y b nY rY hh] (zRx fr lo) (zPw D tys As ws sz) (Qc sz) 1 6 (va_A ws sz)) (hw : Cond.methodLink own idx y ∈ TB ∧ Cond.static y ∈ TB ∧ Cond.initialized y.cls ∈ TB ∧ Cond.codeWith y b nY rY hh ∈ TB) (hd : zdY y As.length) (hR : fr + 1 ≤ R.frames ∧ 8 + (nY + 11) + lo ≤ R.locals) (hP : va_P D classes ws H) (hK : va_K D classes tys s) (hD : va_D A ws) (hT : zT s H) (hSt : zS s)
    (hsize : ls.size = nL) (hstack : st0 = As.reverse ++ rest) (hroom : (rest.map fun v => v.category).sum ≤ 8) (hdg : decode cc pc = .ok (.invokestatic idx, 3)) (hf : cells + 1 ≤ R.cells ∧ slots + 6 ≤ R.slots) :
    va_Run p l e R s m args below meth c H locs cells slots 1 6 (F0 m pc ls st0) rest (Qc H.size As.toArray) (va_A ws H.size) := by
  obtain ⟨hexec, hb, -, hml, hown, hts, hE, -⟩ := id Z
  have hBk : Back l R p e below s args y 3 8 (PreOf R 1 6 (zPw D tys As ws H.size)) (PostOf (Qc H.size) 1 6 (va_A ws H.size)) := va_backW (hh := hh) (bytes := b) (maxL := nY) (ret := rY) (hM H.size) zPw_blind rfl rfl hR.1 hR.2 (fun w hw9 a' U hW => by rw [List.mem_singleton.mp hw9]; exact zE.warm zTB hW hE _ hw.2.2.2 a') List.mem_cons_self (fun a' U hW => zE.warm zTB hW hE _ hw.2.2.1 a')
  intro T hT0 X
  obtain ⟨mk, methM, cM, hnamed, hmethM, -, -, -, -, -, -, hsigM⟩ := Cond.codeWith_spec (hts _ hw.2.2.2)
  have hstatic : methM.isStatic = true := Cond.static_spec hnamed hmethM (hts _ hw.2.1)
  obtain ⟨kP, hkP, -⟩ := className_of_methodNamed hnamed
  have hinitP : kP.init = .initialized := Cond.initialized_spec (findClass_of_methodNamed hnamed) hkP (hts _ hw.2.2.1)
  have hlen : ∀ sig, parseMethodDescriptor y.desc = some sig → As.length = sig.parameters.length := fun sig h => by
    have h2 := hd.2.2
    rw [h] at h2
    exact (Option.some.inj h2).symm
  obtain ⟨vm₁, X₁, hstep₁⟩ := X.invokestatic hexec hown (hts _ hw.1) hnamed hmethM hstatic hkP hinitP ⟨hd.1, hd.2.1⟩ (g := F0 m pc ls st0) rfl (argsL := As) (rest := rest) (hlen _ hsigM) hstack (by rw [hb]; exact hdg)
  have hpre : zPw D tys As ws H.size As.toArray (T.setVm vm₁) := ⟨rfl, by rw [show (T.setVm vm₁).heap = T.heap from rfl, hT0], zE.warm zTB X₁.warmed hE, by rw [show (T.setVm vm₁).heap = T.heap from rfl, hT0]; exact hP, va_K.moved X₁.warmed.alike hK, hD.weaken (fun _ _ _ _ => trivial), by rw [show (T.setVm vm₁).heap = T.heap from rfl, hT0]; exact hT.next X₁.warmed, hSt.warm X₁.warmed⟩
  obtain ⟨v, ⟨U', l2, c2, s2⟩, X', ⟨g', mk', t, L, e1, e2, hq, h1, hL, h2, h3⟩, hsteps⟩ := hBk m meth c ⟨T.setVm vm₁, locs, cells, slots⟩ { (F0 m pc ls st0) with stack := rest } (.invokestatic idx) mk As.toArray X₁ rfl (hsize.trans hml.symm) (by rw [hb]; exact hdg) (lv_room (m := m) (pc := pc) (ls := ls) (rest := rest) hroom) (X₁.named hnamed) ⟨hf.1, hf.2, hpre⟩
  dsimp only [Pt.U, Pt.locs, Pt.cells, Pt.slots] at X' e1 e2 h1 h2 h3 hsteps
  subst h1; subst h2; subst h3
  exact ⟨v, (T.setVm vm₁).calling g' mk' As.toArray, t, U', L, hT0, X', hL, e1, e2, hq, fun target h => hstep₁ _ fun acts => by rw [doInvoke_state]; exact hsteps.trans h⟩
theorem z_kiW {P : Int32 → va_W → Prop} {a : Array Value} (hr : va_Run p l e R s m args below meth c H locs cells slots 1 6 (F0 m pc ls st0) rest (va_Qi P (zB9 D classes ws) (va_A ws H.size) a) (va_A ws H.size)) (hD : va_D A ws) (hS : va_S A s.heap H locs) (hA : ∀ q : Nat, s.heap.size ≤ q → A q)
    (kk : ∀ (r : Int32) (w : va_W) (H1 : Heap) (locs1 : List Loc), P r w → va_P D classes w H1 → va_D A w → va_S A s.heap H1 locs1 → W p l e R s m args below meth c H1 locs1 (cells + 1) (slots + 6) Q (F0 m (pc + 3) ls (.int r :: rest))) : W p l e R s m args below meth c H locs cells slots Q (F0 m pc ls st0) :=
  va_calli hr hS (fun q _ h => zfree hD hS hA q h) (zfree hD hS hA) (fun r w t H1 locs1 ht _ hp hB _ _ hS1 => kk r w H1 locs1 hp (by rw [← ht]; exact hB.1) (zD_same hB.2 hD) hS1)
end ZWR
theorem wdL_map {ad : Nat → Nat} {cI cZ cL : ClassId} {J J' J1 : SJ} {rd rd' rd1 : Nat → Int} {pr pr' pr1 : Nat → Nat} {G G' : SH} {K K' : SK} {M : SM} {ov ov' : Nat → Int64} : (wdC ad cI cZ cL J rd pr G K (wdM ad cI cZ cL J1 rd1 pr1 M ov)).map (·.1) = (wdC ad cI cZ cL J' rd' pr' G' K' (wdM ad cI cZ cL J1 rd1 pr1 M ov')).map (·.1) := rfl
