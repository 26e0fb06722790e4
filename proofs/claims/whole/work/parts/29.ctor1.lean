/-! The constructors. -/
section ZCT
variable {p : Program} {l : Launch} {e : Env} {R : Room} {s : State} {m : MethodId} {args : Array Value} {below : List Frame} {meth : Method} {c : Code} {H : Heap} {locs : List Loc} {cells slots : Nat} {Q : State → Prop}
variable {cc : ByteArray} {pc : Nat} {ls : Array Slot} {rest st0 : List Value} {D : va_G} {A : Nat → Prop} {tys : List (ClassId × FieldType)} {ws w : va_W} {nL : Nat} {ret : Option FieldType} {own : String} {H0 : Heap}
abbrev zRc (fr lo mc ms : Nat) : Room := { frames := fr, cells := mc, slots := ms, locals := lo }
def zMc (l : Launch) (D : va_G) (tys : List (ClassId × FieldType)) (y : MethodName) (cw : Cond) (fr lo mc ms : Nat) (av : List Value) (ws : va_W) (P : va_W → Prop) : Prop :=
  ∀ sz, Met l y [cw] (zRc fr lo mc ms) (zPc TB D classes tys av ws sz) (va_Qv P (fun w t => va_P D classes w t.heap ∧ va_D (va_A ws sz) w) (va_A ws sz)) mc ms (va_A ws sz)
abbrev zBodyC (l : Launch) (D : va_G) (tys : List (ClassId × FieldType)) (y : MethodName) (b : ByteArray) (nL : Nat) (fr lo mc ms : Nat) (av : List Value) (ws : va_W) (P : va_W → Prop) : Prop :=
  ∀ (p : Program) (e : Env) (s : State) (m : MethodId) (below : List Frame) (meth : Method) (c : Code) (A : Nat → Prop) (ls : Array Slot), zC p s m meth c b nL none y.cls av.toArray TB → meth.name = y.name → va_P D classes ws s.heap → va_K D classes tys s → va_D A ws → va_S A s.heap s.heap [] → (∀ q : Nat, s.heap.size ≤ q → A q) → lv_has ls nL (lv_args 0 av) →
    W p l e (zRc fr lo mc ms) s m av.toArray below meth c s.heap [] 0 0 (MQ below (va_Qv P (fun w t => va_P D classes w t.heap ∧ va_D A w) A) av.toArray s mc ms A) (F0 m 0 ls [])
theorem z_ofC {y : MethodName} {b : ByteArray} {fr lo mc ms : Nat} {av : List Value} {P : va_W → Prop} (hy : plainName y.cls = true) (hn : (lg_sl av).length ≤ nL)
    (body : zBodyC l D tys y b nL fr lo mc ms av ws P) : zMc l D tys y (.code y b nL none) fr lo mc ms av ws P := by
  intro sz
  refine Met.ofW (cc := b) (maxL := nL) (ret := none) hy rfl ?_
  intro p e s m args below meth c s₁ B hml hv
  obtain ⟨rfl, hsz, hE, hP, hK, hD0⟩ := hv
  subst hsz
  have hD := hD0.self (sz := s.heap.size)
  generalize hAe : va_A ws s.heap.size = A at hD ⊢
  have hA : ∀ q : Nat, s.heap.size ≤ q → A q := fun q h => by rw [← hAe]; exact Or.inr h
  have hS : va_S A s.heap s.heap [] := va_S.rf
  have hl := lv_entry av (n := nL) hn
  rw [lg_entry_eq]
  generalize (lg_sl av ++ List.replicate (nL - (lg_sl av).length) Slot.unset).toArray = ls at hl ⊢
  exact body p e s m below meth c A ls ⟨B.exec, B.bytes, B.returns, hml, findClass_of_methodNamed B.named, fun w hw => hE w hw _, hE, B.notSynchronized⟩ (name_of_methodNamed B.named B.method).1 hP hK hD hS hA hl
theorem z_cret {P : va_W → Prop} (Z : zC p s m meth c cc nL none own args TB) (hP : va_P D classes w H) (hD : va_D A w) (hS : va_S A s.heap H locs) (hdg : decode cc pc = .ok (.return_, 1)) (hp : P w) : W p l e R s m args below meth c H locs cells slots (MQ below (va_Qv P (fun w t => va_P D classes w t.heap ∧ va_D A w) A) args s cells slots A) (F0 m pc ls []) :=
  W.vret Z.1 Z.2.1 Z.2.2.1 (fun t ht _ => ⟨⟨w, rfl, hp, by rw [ht]; exact hP, hD⟩, hS.F ht⟩) hS.2.2 hdg Z.2.2.2.2.2.2.2
theorem z_runI {y : MethodName} {b : ByteArray} {nY fr lo mc ms idx b0 : Nat} {As : List Value} {Qc : Nat → Array Value → State → Outcome → State → Prop} (Z : zC p s m meth c cc nL ret own args TB)
    (hM : ∀ sz, Met l y [.code y b nY none] (zRc fr lo mc ms) (zPc TB D classes tys (.ref b0 :: As) ws sz) (Qc sz) mc ms (va_A ws sz)) (hw : Cond.methodLink own idx y ∈ TB ∧ Cond.instanceMethod y ∈ TB ∧ Cond.initialized y.cls ∈ TB ∧ Cond.code y b nY none ∈ TB) (hy1 : y.name = "<init>") (hd : zdY y As.length) (hR : fr + 1 ≤ R.frames ∧ 8 + (nY + 11) + lo ≤ R.locals) (hP : va_P D classes ws H) (hK : va_K D classes tys s) (hD : va_D A ws)
    (hsize : ls.size = nL) (hstack : st0 = As.reverse ++ .ref b0 :: rest) (hroom : (rest.map fun v => v.category).sum ≤ 8) (hdg : decode cc pc = .ok (.invokespecial idx, 3)) (hf : cells + mc ≤ R.cells ∧ slots + ms ≤ R.slots) :
    va_Run p l e R s m args below meth c H locs cells slots mc ms (F0 m pc ls st0) rest (Qc H.size (Value.ref b0 :: As).toArray) (va_A ws H.size) :=
  va_runI (g := F0 m pc ls st0) ⟨Z.1, Z.2.1, Z.2.2.2.1, Z.2.2.2.2.1, Z.2.2.2.2.2.1⟩ (hM H.size) ⟨callB_of As.length Z.2.2.2.2.2.1 (zgood hw.2.2.2) rfl rfl rfl (Z.2.2.2.2.2.1 _ hw.2.2.1) (Z.2.2.2.2.2.1 _ hw.1) hd hR, hy1, Z.2.2.2.2.2.1 _ hw.2.1⟩ ⟨zPc_blind zTB, zpre zTB Z hP hK hD⟩ rfl rfl hsize hstack (lv_room hroom) hdg hf
/-- a new row of a class that is known -/
theorem z_newa (hx : p.tables.exec = Jvm.exec) (hb : c.code = cc) {atype : ArrayType} (harr : (Cond.arrayClass (newarray.typeOf atype)).before args s = true) {ty : FieldType} (hty : newarray.typeOf atype = ty) (hK : va_K D classes tys s) (hP : va_P D classes ws H) (hD : va_D A ws) (hS : va_S A H0 H locs) (hA : ∀ q : Nat, H0.size ≤ q → A q)
    (t0 : Nat) {cX : ClassId} (ht : tys[t0]? = some (cX, ty)) (hRA : ∀ cA : ClassId, va_RA s cA ty → s.vm.findClass ("[" ++ ty.toString) = some cA) {N' : Nat} {a0 : vp_A} (ha : ∀ cA : ClassId, vp_cell cA a0 = arrV cA N' (fun _ => defaultValue ty)) (hN : N' < 2147483648) {kb : Nat} (hkb : componentBytes ty = kb) (hbytes : N' * kb ≤ 536870912) (hcells : cells + 1 ≤ R.cells) (hslots : slots + N' ≤ R.slots) (hdg : decode cc pc = .ok (.newarray atype, 2))
    (kk : ∀ (q : Nat) (H1 : Heap), va_P D classes (ws ++ [(q, .inl (cX, a0))]) H1 → va_D A (ws ++ [(q, .inl (cX, a0))]) → va_S A H0 H1 locs →
      W p l e R s m args below meth c H1 locs (cells + 1) (slots + N') Q (F0 m (pc + 2) ls (.ref q :: rest))) : W p l e R s m args below meth c H locs cells slots Q (F0 m pc ls (.int (iZ ((N' : Nat) : Int)) :: rest)) := by
  refine va_newa hx hb harr hty hK hP hD hS hA ha (fun q => ?_) (iZ_cl rfl hN) (by rw [hkb]; exact hbytes) hcells hslots hdg (fun q cA H1 hK1 hP1 hD1 hS1 => ?_)
  · have := (iZ_lt (a := ((N' : Nat) : Int)) (b := 0) (by omega) z0).mp q
    omega
  · have h1 := hRA cX (hK.2 t0 _ ht).2
    have h2 := hRA cA (hK1.2 tys.length (cA, ty) (by simp)).2
    cases Option.some.inj (h1.symm.trans h2)
    exact kk q H1 hP1 hD1 hS1
end ZCT
theorem cb_int : componentBytes .int = 4 := rfl
theorem cb_boolean : componentBytes .boolean = 1 := rfl
theorem cb_long : componentBytes .long = 8 := rfl
theorem ha_A (N : Nat) : ∀ cA : ClassId, vp_cell cA (N, .inl (zA (fun _ => 0))) = arrV cA N (fun _ => defaultValue .int) := fun cA => by
  show arrV cA N (fun _ => Value.int (iZ 0)) = arrV cA N (fun _ => defaultValue .int)
  rw [iZ_0]; rfl
theorem ha_N (N : Nat) : ∀ cA : ClassId, vp_cell cA (N, .inl (zN (fun _ => 0))) = arrV cA N (fun _ => defaultValue .int) := fun cA => by
  show arrV cA N (fun _ => Value.int (iZ 0)) = arrV cA N (fun _ => defaultValue .int)
  rw [iZ_0]; rfl
theorem bI_f : bI false = 0 := rfl
theorem ha_B (N : Nat) : ∀ cA : ClassId, vp_cell cA (N, .inl (zB (fun _ => false))) = arrV cA N (fun _ => defaultValue .boolean) := fun cA => by
  show arrV cA N (fun _ => Value.int (bI false)) = arrV cA N (fun _ => defaultValue .boolean)
  rw [bI_f]; rfl
theorem ha_LN (N : Nat) : ∀ cA : ClassId, vp_cell cA (N, .inr (.inl (zLN (fun _ => 0)))) = arrV cA N (fun _ => defaultValue .long) := fun cA => by
  show arrV cA N (fun _ => Value.long (lZ 0)) = arrV cA N (fun _ => defaultValue .long)
  rw [lZ_0]; rfl
def rf (i : Nat) : Nat → Int := fun j => if j < i then -1 else 0
theorem rf_0 : rf 0 = fun _ => 0 := funext fun j => if_neg (Nat.not_lt_zero j)
theorem rf_s (i : Nat) : zu (rf i) i (-1) = rf (i + 1) := funext fun j => by
  unfold zu rf
  by_cases h : j = i
  · rw [if_pos h, if_pos (by omega)]
  · rw [if_neg h]
    by_cases h2 : j < i
    · rw [if_pos h2, if_pos (by omega)]
    · rw [if_neg h2, if_neg (by omega)]
theorem df_D : ∀ j, j < 5 → defaultValue (ty_D j) = vp_V [.null, .null, .null, .null, .null] j := by
  intro j hj
  have h9 : j = 0 ∨ j = 1 ∨ j = 2 ∨ j = 3 ∨ j = 4 := by omega
  rcases h9 with rfl | rfl | rfl | rfl | rfl <;> rfl
theorem df_J : ∀ j, j < 10 → defaultValue (ty_J j) = vp_V [.long 0, .int 0, .int 0, .null, .null, .null, .null, .null, .null, .null] j := by
  intro j hj
  have h9 : j = 0 ∨ j = 1 ∨ j = 2 ∨ j = 3 ∨ j = 4 ∨ j = 5 ∨ j = 6 ∨ j = 7 ∨ j = 8 ∨ j = 9 := by omega
  rcases h9 with rfl | rfl | rfl | rfl | rfl | rfl | rfl | rfl | rfl | rfl <;> rfl
theorem df_C : ∀ j, j < 1 → defaultValue (ty_C j) = vp_V [.null] j := by
  intro j hj
  have h9 : j = 0 := by omega
  rcases h9 with rfl <;> rfl
theorem df_H : ∀ j, j < 6 → defaultValue (ty_H j) = vp_V [.null, .int 0, .int 0, .null, .null, .null] j := by
  intro j hj
  have h9 : j = 0 ∨ j = 1 ∨ j = 2 ∨ j = 3 ∨ j = 4 ∨ j = 5 := by omega
  rcases h9 with rfl | rfl | rfl | rfl | rfl | rfl <;> rfl
theorem df_K : ∀ j, j < 4 → defaultValue (ty_K j) = vp_V [.null, .int 0, .long 0, .long 0] j := by
  intro j hj
  have h9 : j = 0 ∨ j = 1 ∨ j = 2 ∨ j = 3 := by omega
  rcases h9 with rfl | rfl | rfl | rfl <;> rfl
theorem df_M : ∀ j, j < 17 → defaultValue (ty_M j) = vp_V [.int 0, .long 0, .int 0, .null, .null, .null, .null, .null, .int 0, .null, .null, .null, .null, .null, .null, .null, .null] j := by
  intro j hj
  have h9 : j = 0 ∨ j = 1 ∨ j = 2 ∨ j = 3 ∨ j = 4 ∨ j = 5 ∨ j = 6 ∨ j = 7 ∨ j = 8 ∨ j = 9 ∨ j = 10 ∨ j = 11 ∨ j = 12 ∨ j = 13 ∨ j = 14 ∨ j = 15 ∨ j = 16 := by omega
  rcases h9 with rfl | rfl | rfl | rfl | rfl | rfl | rfl | rfl | rfl | rfl | rfl | rfl | rfl | rfl | rfl | rfl | rfl <;> rfl
set_option maxHeartbeats 4000000 in
set_option maxRecDepth 100000 in
theorem k_J_init {l : Launch} {D : va_G} {cI cZ cL : ClassId} {q0 : Nat} {sd : Int} (hsd : z32 sd) : zMc l D (tysW cI cZ cL) y_J_init w_J_init 1 20 7 184 [.ref (q0), .int (iZ (sd))] [(q0, .inr (1, [.long 0, .int 0, .int 0, .null, .null, .null, .null, .null, .null, .null]))] (fun w => ∃ (q1 q2 q3 q4 q5 q6 q7 : Nat), w = [(q0, .inr (1, [.long (lZ (sd)), .int (iZ ((0 : Nat) : Int)), .int (iZ ((0 : Nat) : Int)), .ref (q1), .ref (q2), .ref (q3), .ref (q4), .ref (q5), .ref (q6), .ref (q7)])), (q1, .inl (cI, 4, .inl (zA (rf 4)))), (q2, .inl (cZ, 4, .inl (zB (fun _ => false)))), (q3, .inl (cZ, 32, .inl (zB (fun _ => false)))), (q4, .inl (cI, 96, .inl (zN (fun _ => 0)))), (q5, .inl (cI, 16, .inl (zN (fun _ => 0)))), (q6, .inl (cI, 16, .inl (zN (fun _ => 0)))), (q7, .inl (cI, 16, .inl (zN (fun _ => 0))))]) := by
  refine z_ofC (by decide) (Nat.le_of_ble_eq_true rfl) ?_
  intro p e s m below meth c A ls Z hin hP hK hD hS hA hl
  obtain ⟨hx, hb, hr, hml, hown, hts, hE, hlocks⟩ := id Z
  have hl : lv_has ls 3 [(0, .ref (q0)), (1, .int (iZ (sd)))] := hl
  suffices K9 : ∀ (H : Heap) (locs : List Loc), va_P D classes [(q0, .inr (1, [.long 0, .int 0, .int 0, .null, .null, .null, .null, .null, .null, .null]))] H → va_D A [(q0, .inr (1, [.long 0, .int 0, .int 0, .null, .null, .null, .null, .null, .null, .null]))] → va_S A s.heap H locs → W p l e (zRc 1 20 7 184) s m ([.ref (q0), .int (iZ (sd))] : List Value).toArray below meth c H locs 0 0 (MQ below (va_Qv (fun w => ∃ (q1 q2 q3 q4 q5 q6 q7 : Nat), w = [(q0, .inr (1, [.long (lZ (sd)), .int (iZ ((0 : Nat) : Int)), .int (iZ ((0 : Nat) : Int)), .ref (q1), .ref (q2), .ref (q3), .ref (q4), .ref (q5), .ref (q6), .ref (q7)])), (q1, .inl (cI, 4, .inl (zA (rf 4)))), (q2, .inl (cZ, 4, .inl (zB (fun _ => false)))), (q3, .inl (cZ, 32, .inl (zB (fun _ => false)))), (q4, .inl (cI, 96, .inl (zN (fun _ => 0)))), (q5, .inl (cI, 16, .inl (zN (fun _ => 0)))), (q6, .inl (cI, 16, .inl (zN (fun _ => 0)))), (q7, .inl (cI, 16, .inl (zN (fun _ => 0))))]) (fun w t => va_P D classes w t.heap ∧ va_D A w) A) ([.ref (q0), .int (iZ (sd))] : List Value).toArray s 7 184 A) (F0 m 0 ls []) from K9 s.heap [] hP hD hS
  clear hP hD hS
  intro H locs hP hD hS
  refine lv_aload_n hx hb d_J_init_0 rfl (lv_at hl 0 rfl) ?_
  refine W.objInit hx hb hown (hts _ ml_J_3) (hts _ im_Object_init) (hts _ co_Object_init) rfl (by rw [hml]; exact hl.1) rfl d_J_init_1 (Nat.le_of_ble_eq_true rfl) (Nat.le_of_ble_eq_true rfl) ?_
  refine W.eq (g2 := F0 m 4 ls []) rfl ?_
  refine lv_aload_n hx hb d_J_init_4 rfl (lv_at hl 0 rfl) ?_
  refine lv_iload_n hx hb d_J_init_5 rfl (lv_at hl 1 rfl) ?_
  refine z_i2l (a := sd) hx hb (by omega) d_J_init_6 ?_
  refine va_put (D := D) (ci := 1) (v := .long (lZ (sd))) (ty := .long) (C := n_J) (T := f_J) (N := 10) hx hb hts in_J ty_J tyo_J nm_J hown hK hP hD hS 0 rfl rfl 0 (by decide) (hts _ fl_J_9) (fun _ h9 => h9) rfl (by decide +kernel) rfl rfl (Nat.le_of_ble_eq_true rfl) d_J_init_7 (fun H locs hP hD hS => ?_)
  have hP : va_P D classes [(q0, .inr (1, [.long (lZ (sd)), .int 0, .int 0, .null, .null, .null, .null, .null, .null, .null]))] H := hP
  have hD : va_D A [(q0, .inr (1, [.long (lZ (sd)), .int 0, .int 0, .null, .null, .null, .null, .null, .null, .null]))] := hD
  refine lv_aload_n hx hb d_J_init_10 rfl (lv_at hl 0 rfl) ?_
  refine lv_iconst (v := iZ ((0 : Nat) : Int)) hx hb d_J_init_11 (by decide) ?_
  refine va_put (D := D) (ci := 1) (v := .int (iZ ((0 : Nat) : Int))) (ty := .int) (C := n_J) (T := f_J) (N := 10) hx hb hts in_J ty_J tyo_J nm_J hown hK hP hD hS 0 rfl rfl 1 (by decide) (hts _ fl_J_15) (fun _ h9 => h9) rfl (by decide +kernel) rfl rfl (Nat.le_of_ble_eq_true rfl) d_J_init_12 (fun H locs hP hD hS => ?_)
  have hP : va_P D classes [(q0, .inr (1, [.long (lZ (sd)), .int (iZ ((0 : Nat) : Int)), .int 0, .null, .null, .null, .null, .null, .null, .null]))] H := hP
  have hD : va_D A [(q0, .inr (1, [.long (lZ (sd)), .int (iZ ((0 : Nat) : Int)), .int 0, .null, .null, .null, .null, .null, .null, .null]))] := hD
  refine lv_aload_n hx hb d_J_init_15 rfl (lv_at hl 0 rfl) ?_
  refine lv_iconst (v := iZ ((0 : Nat) : Int)) hx hb d_J_init_16 (by decide) ?_
  refine va_put (D := D) (ci := 1) (v := .int (iZ ((0 : Nat) : Int))) (ty := .int) (C := n_J) (T := f_J) (N := 10) hx hb hts in_J ty_J tyo_J nm_J hown hK hP hD hS 0 rfl rfl 2 (by decide) (hts _ fl_J_19) (fun _ h9 => h9) rfl (by decide +kernel) rfl rfl (Nat.le_of_ble_eq_true rfl) d_J_init_17 (fun H locs hP hD hS => ?_)
  have hP : va_P D classes [(q0, .inr (1, [.long (lZ (sd)), .int (iZ ((0 : Nat) : Int)), .int (iZ ((0 : Nat) : Int)), .null, .null, .null, .null, .null, .null, .null]))] H := hP
  have hD : va_D A [(q0, .inr (1, [.long (lZ (sd)), .int (iZ ((0 : Nat) : Int)), .int (iZ ((0 : Nat) : Int)), .null, .null, .null, .null, .null, .null, .null]))] := hD
  refine lv_aload_n hx hb d_J_init_20 rfl (lv_at hl 0 rfl) ?_
  refine lv_iconst (v := iZ ((4 : Nat) : Int)) hx hb d_J_init_21 (by decide) ?_
  refine z_newa (atype := .int) (ty := .int) (a0 := (4, .inl (zA (fun _ => 0)))) hx hb (hts _ arr_int) rfl hK hP hD hS hA 0 rfl (fun _ h9 => h9) (ha_A 4) (by decide) cb_int (by decide) (Nat.le_of_ble_eq_true rfl) (Nat.le_of_ble_eq_true rfl) d_J_init_22 (fun q1 H hP hD hS => ?_)
  have hP : va_P D classes [(q0, .inr (1, [.long (lZ (sd)), .int (iZ ((0 : Nat) : Int)), .int (iZ ((0 : Nat) : Int)), .null, .null, .null, .null, .null, .null, .null])), (q1, .inl (cI, 4, .inl (zA (fun _ => 0))))] H := hP
  have hD : va_D A [(q0, .inr (1, [.long (lZ (sd)), .int (iZ ((0 : Nat) : Int)), .int (iZ ((0 : Nat) : Int)), .null, .null, .null, .null, .null, .null, .null])), (q1, .inl (cI, 4, .inl (zA (fun _ => 0))))] := hD
  refine va_putF (D := D) (ci := 1) (v := .ref (q1)) (ty := (ty_J 3)) (C := n_J) (T := f_J) (N := 10) hx hb hts in_J ty_J tyo_J nm_J hown hK hP hD hS 0 rfl rfl 3 (by decide) (hts _ fl_J_22) (fun _ h9 => h9) (by decide +kernel) hin (by decide +kernel) (by decide +kernel) rfl rfl (Nat.le_of_ble_eq_true rfl) d_J_init_24 (fun H locs hP hD hS => ?_)
  have hP : va_P D classes [(q0, .inr (1, [.long (lZ (sd)), .int (iZ ((0 : Nat) : Int)), .int (iZ ((0 : Nat) : Int)), .ref (q1), .null, .null, .null, .null, .null, .null])), (q1, .inl (cI, 4, .inl (zA (fun _ => 0))))] H := hP
  have hD : va_D A [(q0, .inr (1, [.long (lZ (sd)), .int (iZ ((0 : Nat) : Int)), .int (iZ ((0 : Nat) : Int)), .ref (q1), .null, .null, .null, .null, .null, .null])), (q1, .inl (cI, 4, .inl (zA (fun _ => 0))))] := hD
  refine lv_aload_n hx hb d_J_init_27 rfl (lv_at hl 0 rfl) ?_
  refine lv_iconst (v := iZ ((4 : Nat) : Int)) hx hb d_J_init_28 (by decide) ?_
  refine z_newa (atype := .boolean) (ty := .boolean) (a0 := (4, .inl (zB (fun _ => false)))) hx hb (hts _ arr_boolean) rfl hK hP hD hS hA 1 rfl (fun _ h9 => h9) (ha_B 4) (by decide) cb_boolean (by decide) (Nat.le_of_ble_eq_true rfl) (Nat.le_of_ble_eq_true rfl) d_J_init_29 (fun q2 H hP hD hS => ?_)
  have hP : va_P D classes [(q0, .inr (1, [.long (lZ (sd)), .int (iZ ((0 : Nat) : Int)), .int (iZ ((0 : Nat) : Int)), .ref (q1), .null, .null, .null, .null, .null, .null])), (q1, .inl (cI, 4, .inl (zA (fun _ => 0)))), (q2, .inl (cZ, 4, .inl (zB (fun _ => false))))] H := hP
  have hD : va_D A [(q0, .inr (1, [.long (lZ (sd)), .int (iZ ((0 : Nat) : Int)), .int (iZ ((0 : Nat) : Int)), .ref (q1), .null, .null, .null, .null, .null, .null])), (q1, .inl (cI, 4, .inl (zA (fun _ => 0)))), (q2, .inl (cZ, 4, .inl (zB (fun _ => false))))] := hD
  refine va_putF (D := D) (ci := 1) (v := .ref (q2)) (ty := (ty_J 4)) (C := n_J) (T := f_J) (N := 10) hx hb hts in_J ty_J tyo_J nm_J hown hK hP hD hS 0 rfl rfl 4 (by decide) (hts _ fl_J_26) (fun _ h9 => h9) (by decide +kernel) hin (by decide +kernel) (by decide +kernel) rfl rfl (Nat.le_of_ble_eq_true rfl) d_J_init_31 (fun H locs hP hD hS => ?_)
  have hP : va_P D classes [(q0, .inr (1, [.long (lZ (sd)), .int (iZ ((0 : Nat) : Int)), .int (iZ ((0 : Nat) : Int)), .ref (q1), .ref (q2), .null, .null, .null, .null, .null])), (q1, .inl (cI, 4, .inl (zA (fun _ => 0)))), (q2, .inl (cZ, 4, .inl (zB (fun _ => false))))] H := hP
  have hD : va_D A [(q0, .inr (1, [.long (lZ (sd)), .int (iZ ((0 : Nat) : Int)), .int (iZ ((0 : Nat) : Int)), .ref (q1), .ref (q2), .null, .null, .null, .null, .null])), (q1, .inl (cI, 4, .inl (zA (fun _ => 0)))), (q2, .inl (cZ, 4, .inl (zB (fun _ => false))))] := hD
  refine lv_aload_n hx hb d_J_init_34 rfl (lv_at hl 0 rfl) ?_
  refine lv_bipush (v := iZ ((32 : Nat) : Int)) hx hb d_J_init_35 (by decide) ?_
  refine z_newa (atype := .boolean) (ty := .boolean) (a0 := (32, .inl (zB (fun _ => false)))) hx hb (hts _ arr_boolean) rfl hK hP hD hS hA 1 rfl (fun _ h9 => h9) (ha_B 32) (by decide) cb_boolean (by decide) (Nat.le_of_ble_eq_true rfl) (Nat.le_of_ble_eq_true rfl) d_J_init_37 (fun q3 H hP hD hS => ?_)
  have hP : va_P D classes [(q0, .inr (1, [.long (lZ (sd)), .int (iZ ((0 : Nat) : Int)), .int (iZ ((0 : Nat) : Int)), .ref (q1), .ref (q2), .null, .null, .null, .null, .null])), (q1, .inl (cI, 4, .inl (zA (fun _ => 0)))), (q2, .inl (cZ, 4, .inl (zB (fun _ => false)))), (q3, .inl (cZ, 32, .inl (zB (fun _ => false))))] H := hP
  have hD : va_D A [(q0, .inr (1, [.long (lZ (sd)), .int (iZ ((0 : Nat) : Int)), .int (iZ ((0 : Nat) : Int)), .ref (q1), .ref (q2), .null, .null, .null, .null, .null])), (q1, .inl (cI, 4, .inl (zA (fun _ => 0)))), (q2, .inl (cZ, 4, .inl (zB (fun _ => false)))), (q3, .inl (cZ, 32, .inl (zB (fun _ => false))))] := hD
  refine va_putF (D := D) (ci := 1) (v := .ref (q3)) (ty := (ty_J 5)) (C := n_J) (T := f_J) (N := 10) hx hb hts in_J ty_J tyo_J nm_J hown hK hP hD hS 0 rfl rfl 5 (by decide) (hts _ fl_J_30) (fun _ h9 => h9) (by decide +kernel) hin (by decide +kernel) (by decide +kernel) rfl rfl (Nat.le_of_ble_eq_true rfl) d_J_init_39 (fun H locs hP hD hS => ?_)
  have hP : va_P D classes [(q0, .inr (1, [.long (lZ (sd)), .int (iZ ((0 : Nat) : Int)), .int (iZ ((0 : Nat) : Int)), .ref (q1), .ref (q2), .ref (q3), .null, .null, .null, .null])), (q1, .inl (cI, 4, .inl (zA (fun _ => 0)))), (q2, .inl (cZ, 4, .inl (zB (fun _ => false)))), (q3, .inl (cZ, 32, .inl (zB (fun _ => false))))] H := hP
  have hD : va_D A [(q0, .inr (1, [.long (lZ (sd)), .int (iZ ((0 : Nat) : Int)), .int (iZ ((0 : Nat) : Int)), .ref (q1), .ref (q2), .ref (q3), .null, .null, .null, .null])), (q1, .inl (cI, 4, .inl (zA (fun _ => 0)))), (q2, .inl (cZ, 4, .inl (zB (fun _ => false)))), (q3, .inl (cZ, 32, .inl (zB (fun _ => false))))] := hD
  refine lv_aload_n hx hb d_J_init_42 rfl (lv_at hl 0 rfl) ?_
  refine lv_bipush (v := iZ ((96 : Nat) : Int)) hx hb d_J_init_43 (by decide) ?_
  refine z_newa (atype := .int) (ty := .int) (a0 := (96, .inl (zN (fun _ => 0)))) hx hb (hts _ arr_int) rfl hK hP hD hS hA 0 rfl (fun _ h9 => h9) (ha_N 96) (by decide) cb_int (by decide) (Nat.le_of_ble_eq_true rfl) (Nat.le_of_ble_eq_true rfl) d_J_init_45 (fun q4 H hP hD hS => ?_)
  have hP : va_P D classes [(q0, .inr (1, [.long (lZ (sd)), .int (iZ ((0 : Nat) : Int)), .int (iZ ((0 : Nat) : Int)), .ref (q1), .ref (q2), .ref (q3), .null, .null, .null, .null])), (q1, .inl (cI, 4, .inl (zA (fun _ => 0)))), (q2, .inl (cZ, 4, .inl (zB (fun _ => false)))), (q3, .inl (cZ, 32, .inl (zB (fun _ => false)))), (q4, .inl (cI, 96, .inl (zN (fun _ => 0))))] H := hP
  have hD : va_D A [(q0, .inr (1, [.long (lZ (sd)), .int (iZ ((0 : Nat) : Int)), .int (iZ ((0 : Nat) : Int)), .ref (q1), .ref (q2), .ref (q3), .null, .null, .null, .null])), (q1, .inl (cI, 4, .inl (zA (fun _ => 0)))), (q2, .inl (cZ, 4, .inl (zB (fun _ => false)))), (q3, .inl (cZ, 32, .inl (zB (fun _ => false)))), (q4, .inl (cI, 96, .inl (zN (fun _ => 0))))] := hD
  refine va_putF (D := D) (ci := 1) (v := .ref (q4)) (ty := (ty_J 6)) (C := n_J) (T := f_J) (N := 10) hx hb hts in_J ty_J tyo_J nm_J hown hK hP hD hS 0 rfl rfl 6 (by decide) (hts _ fl_J_33) (fun _ h9 => h9) (by decide +kernel) hin (by decide +kernel) (by decide +kernel) rfl rfl (Nat.le_of_ble_eq_true rfl) d_J_init_47 (fun H locs hP hD hS => ?_)
  have hP : va_P D classes [(q0, .inr (1, [.long (lZ (sd)), .int (iZ ((0 : Nat) : Int)), .int (iZ ((0 : Nat) : Int)), .ref (q1), .ref (q2), .ref (q3), .ref (q4), .null, .null, .null])), (q1, .inl (cI, 4, .inl (zA (fun _ => 0)))), (q2, .inl (cZ, 4, .inl (zB (fun _ => false)))), (q3, .inl (cZ, 32, .inl (zB (fun _ => false)))), (q4, .inl (cI, 96, .inl (zN (fun _ => 0))))] H := hP
  have hD : va_D A [(q0, .inr (1, [.long (lZ (sd)), .int (iZ ((0 : Nat) : Int)), .int (iZ ((0 : Nat) : Int)), .ref (q1), .ref (q2), .ref (q3), .ref (q4), .null, .null, .null])), (q1, .inl (cI, 4, .inl (zA (fun _ => 0)))), (q2, .inl (cZ, 4, .inl (zB (fun _ => false)))), (q3, .inl (cZ, 32, .inl (zB (fun _ => false)))), (q4, .inl (cI, 96, .inl (zN (fun _ => 0))))] := hD
  refine lv_aload_n hx hb d_J_init_50 rfl (lv_at hl 0 rfl) ?_
  refine lv_bipush (v := iZ ((16 : Nat) : Int)) hx hb d_J_init_51 (by decide) ?_
  refine z_newa (atype := .int) (ty := .int) (a0 := (16, .inl (zN (fun _ => 0)))) hx hb (hts _ arr_int) rfl hK hP hD hS hA 0 rfl (fun _ h9 => h9) (ha_N 16) (by decide) cb_int (by decide) (Nat.le_of_ble_eq_true rfl) (Nat.le_of_ble_eq_true rfl) d_J_init_53 (fun q5 H hP hD hS => ?_)
  have hP : va_P D classes [(q0, .inr (1, [.long (lZ (sd)), .int (iZ ((0 : Nat) : Int)), .int (iZ ((0 : Nat) : Int)), .ref (q1), .ref (q2), .ref (q3), .ref (q4), .null, .null, .null])), (q1, .inl (cI, 4, .inl (zA (fun _ => 0)))), (q2, .inl (cZ, 4, .inl (zB (fun _ => false)))), (q3, .inl (cZ, 32, .inl (zB (fun _ => false)))), (q4, .inl (cI, 96, .inl (zN (fun _ => 0)))), (q5, .inl (cI, 16, .inl (zN (fun _ => 0))))] H := hP
  have hD : va_D A [(q0, .inr (1, [.long (lZ (sd)), .int (iZ ((0 : Nat) : Int)), .int (iZ ((0 : Nat) : Int)), .ref (q1), .ref (q2), .ref (q3), .ref (q4), .null, .null, .null])), (q1, .inl (cI, 4, .inl (zA (fun _ => 0)))), (q2, .inl (cZ, 4, .inl (zB (fun _ => false)))), (q3, .inl (cZ, 32, .inl (zB (fun _ => false)))), (q4, .inl (cI, 96, .inl (zN (fun _ => 0)))), (q5, .inl (cI, 16, .inl (zN (fun _ => 0))))] := hD
  refine va_putF (D := D) (ci := 1) (v := .ref (q5)) (ty := (ty_J 7)) (C := n_J) (T := f_J) (N := 10) hx hb hts in_J ty_J tyo_J nm_J hown hK hP hD hS 0 rfl rfl 7 (by decide) (hts _ fl_J_36) (fun _ h9 => h9) (by decide +kernel) hin (by decide +kernel) (by decide +kernel) rfl rfl (Nat.le_of_ble_eq_true rfl) d_J_init_55 (fun H locs hP hD hS => ?_)
  have hP : va_P D classes [(q0, .inr (1, [.long (lZ (sd)), .int (iZ ((0 : Nat) : Int)), .int (iZ ((0 : Nat) : Int)), .ref (q1), .ref (q2), .ref (q3), .ref (q4), .ref (q5), .null, .null])), (q1, .inl (cI, 4, .inl (zA (fun _ => 0)))), (q2, .inl (cZ, 4, .inl (zB (fun _ => false)))), (q3, .inl (cZ, 32, .inl (zB (fun _ => false)))), (q4, .inl (cI, 96, .inl (zN (fun _ => 0)))), (q5, .inl (cI, 16, .inl (zN (fun _ => 0))))] H := hP
  have hD : va_D A [(q0, .inr (1, [.long (lZ (sd)), .int (iZ ((0 : Nat) : Int)), .int (iZ ((0 : Nat) : Int)), .ref (q1), .ref (q2), .ref (q3), .ref (q4), .ref (q5), .null, .null])), (q1, .inl (cI, 4, .inl (zA (fun _ => 0)))), (q2, .inl (cZ, 4, .inl (zB (fun _ => false)))), (q3, .inl (cZ, 32, .inl (zB (fun _ => false)))), (q4, .inl (cI, 96, .inl (zN (fun _ => 0)))), (q5, .inl (cI, 16, .inl (zN (fun _ => 0))))] := hD
  refine lv_aload_n hx hb d_J_init_58 rfl (lv_at hl 0 rfl) ?_
  refine lv_bipush (v := iZ ((16 : Nat) : Int)) hx hb d_J_init_59 (by decide) ?_
  refine z_newa (atype := .int) (ty := .int) (a0 := (16, .inl (zN (fun _ => 0)))) hx hb (hts _ arr_int) rfl hK hP hD hS hA 0 rfl (fun _ h9 => h9) (ha_N 16) (by decide) cb_int (by decide) (Nat.le_of_ble_eq_true rfl) (Nat.le_of_ble_eq_true rfl) d_J_init_61 (fun q6 H hP hD hS => ?_)
  have hP : va_P D classes [(q0, .inr (1, [.long (lZ (sd)), .int (iZ ((0 : Nat) : Int)), .int (iZ ((0 : Nat) : Int)), .ref (q1), .ref (q2), .ref (q3), .ref (q4), .ref (q5), .null, .null])), (q1, .inl (cI, 4, .inl (zA (fun _ => 0)))), (q2, .inl (cZ, 4, .inl (zB (fun _ => false)))), (q3, .inl (cZ, 32, .inl (zB (fun _ => false)))), (q4, .inl (cI, 96, .inl (zN (fun _ => 0)))), (q5, .inl (cI, 16, .inl (zN (fun _ => 0)))), (q6, .inl (cI, 16, .inl (zN (fun _ => 0))))] H := hP
  have hD : va_D A [(q0, .inr (1, [.long (lZ (sd)), .int (iZ ((0 : Nat) : Int)), .int (iZ ((0 : Nat) : Int)), .ref (q1), .ref (q2), .ref (q3), .ref (q4), .ref (q5), .null, .null])), (q1, .inl (cI, 4, .inl (zA (fun _ => 0)))), (q2, .inl (cZ, 4, .inl (zB (fun _ => false)))), (q3, .inl (cZ, 32, .inl (zB (fun _ => false)))), (q4, .inl (cI, 96, .inl (zN (fun _ => 0)))), (q5, .inl (cI, 16, .inl (zN (fun _ => 0)))), (q6, .inl (cI, 16, .inl (zN (fun _ => 0))))] := hD
  refine va_putF (D := D) (ci := 1) (v := .ref (q6)) (ty := (ty_J 8)) (C := n_J) (T := f_J) (N := 10) hx hb hts in_J ty_J tyo_J nm_J hown hK hP hD hS 0 rfl rfl 8 (by decide) (hts _ fl_J_39) (fun _ h9 => h9) (by decide +kernel) hin (by decide +kernel) (by decide +kernel) rfl rfl (Nat.le_of_ble_eq_true rfl) d_J_init_63 (fun H locs hP hD hS => ?_)
  have hP : va_P D classes [(q0, .inr (1, [.long (lZ (sd)), .int (iZ ((0 : Nat) : Int)), .int (iZ ((0 : Nat) : Int)), .ref (q1), .ref (q2), .ref (q3), .ref (q4), .ref (q5), .ref (q6), .null])), (q1, .inl (cI, 4, .inl (zA (fun _ => 0)))), (q2, .inl (cZ, 4, .inl (zB (fun _ => false)))), (q3, .inl (cZ, 32, .inl (zB (fun _ => false)))), (q4, .inl (cI, 96, .inl (zN (fun _ => 0)))), (q5, .inl (cI, 16, .inl (zN (fun _ => 0)))), (q6, .inl (cI, 16, .inl (zN (fun _ => 0))))] H := hP
  have hD : va_D A [(q0, .inr (1, [.long (lZ (sd)), .int (iZ ((0 : Nat) : Int)), .int (iZ ((0 : Nat) : Int)), .ref (q1), .ref (q2), .ref (q3), .ref (q4), .ref (q5), .ref (q6), .null])), (q1, .inl (cI, 4, .inl (zA (fun _ => 0)))), (q2, .inl (cZ, 4, .inl (zB (fun _ => false)))), (q3, .inl (cZ, 32, .inl (zB (fun _ => false)))), (q4, .inl (cI, 96, .inl (zN (fun _ => 0)))), (q5, .inl (cI, 16, .inl (zN (fun _ => 0)))), (q6, .inl (cI, 16, .inl (zN (fun _ => 0))))] := hD
  refine lv_aload_n hx hb d_J_init_66 rfl (lv_at hl 0 rfl) ?_
  refine lv_bipush (v := iZ ((16 : Nat) : Int)) hx hb d_J_init_67 (by decide) ?_
  refine z_newa (atype := .int) (ty := .int) (a0 := (16, .inl (zN (fun _ => 0)))) hx hb (hts _ arr_int) rfl hK hP hD hS hA 0 rfl (fun _ h9 => h9) (ha_N 16) (by decide) cb_int (by decide) (Nat.le_of_ble_eq_true rfl) (Nat.le_of_ble_eq_true rfl) d_J_init_69 (fun q7 H hP hD hS => ?_)
  have hP : va_P D classes [(q0, .inr (1, [.long (lZ (sd)), .int (iZ ((0 : Nat) : Int)), .int (iZ ((0 : Nat) : Int)), .ref (q1), .ref (q2), .ref (q3), .ref (q4), .ref (q5), .ref (q6), .null])), (q1, .inl (cI, 4, .inl (zA (fun _ => 0)))), (q2, .inl (cZ, 4, .inl (zB (fun _ => false)))), (q3, .inl (cZ, 32, .inl (zB (fun _ => false)))), (q4, .inl (cI, 96, .inl (zN (fun _ => 0)))), (q5, .inl (cI, 16, .inl (zN (fun _ => 0)))), (q6, .inl (cI, 16, .inl (zN (fun _ => 0)))), (q7, .inl (cI, 16, .inl (zN (fun _ => 0))))] H := hP
  have hD : va_D A [(q0, .inr (1, [.long (lZ (sd)), .int (iZ ((0 : Nat) : Int)), .int (iZ ((0 : Nat) : Int)), .ref (q1), .ref (q2), .ref (q3), .ref (q4), .ref (q5), .ref (q6), .null])), (q1, .inl (cI, 4, .inl (zA (fun _ => 0)))), (q2, .inl (cZ, 4, .inl (zB (fun _ => false)))), (q3, .inl (cZ, 32, .inl (zB (fun _ => false)))), (q4, .inl (cI, 96, .inl (zN (fun _ => 0)))), (q5, .inl (cI, 16, .inl (zN (fun _ => 0)))), (q6, .inl (cI, 16, .inl (zN (fun _ => 0)))), (q7, .inl (cI, 16, .inl (zN (fun _ => 0))))] := hD
  refine va_putF (D := D) (ci := 1) (v := .ref (q7)) (ty := (ty_J 9)) (C := n_J) (T := f_J) (N := 10) hx hb hts in_J ty_J tyo_J nm_J hown hK hP hD hS 0 rfl rfl 9 (by decide) (hts _ fl_J_42) (fun _ h9 => h9) (by decide +kernel) hin (by decide +kernel) (by decide +kernel) rfl rfl (Nat.le_of_ble_eq_true rfl) d_J_init_71 (fun H locs hP hD hS => ?_)
  have hP : va_P D classes [(q0, .inr (1, [.long (lZ (sd)), .int (iZ ((0 : Nat) : Int)), .int (iZ ((0 : Nat) : Int)), .ref (q1), .ref (q2), .ref (q3), .ref (q4), .ref (q5), .ref (q6), .ref (q7)])), (q1, .inl (cI, 4, .inl (zA (fun _ => 0)))), (q2, .inl (cZ, 4, .inl (zB (fun _ => false)))), (q3, .inl (cZ, 32, .inl (zB (fun _ => false)))), (q4, .inl (cI, 96, .inl (zN (fun _ => 0)))), (q5, .inl (cI, 16, .inl (zN (fun _ => 0)))), (q6, .inl (cI, 16, .inl (zN (fun _ => 0)))), (q7, .inl (cI, 16, .inl (zN (fun _ => 0))))] H := hP
  have hD : va_D A [(q0, .inr (1, [.long (lZ (sd)), .int (iZ ((0 : Nat) : Int)), .int (iZ ((0 : Nat) : Int)), .ref (q1), .ref (q2), .ref (q3), .ref (q4), .ref (q5), .ref (q6), .ref (q7)])), (q1, .inl (cI, 4, .inl (zA (fun _ => 0)))), (q2, .inl (cZ, 4, .inl (zB (fun _ => false)))), (q3, .inl (cZ, 32, .inl (zB (fun _ => false)))), (q4, .inl (cI, 96, .inl (zN (fun _ => 0)))), (q5, .inl (cI, 16, .inl (zN (fun _ => 0)))), (q6, .inl (cI, 16, .inl (zN (fun _ => 0)))), (q7, .inl (cI, 16, .inl (zN (fun _ => 0))))] := hD
  refine lv_iconst (v := iZ ((0 : Nat) : Int)) hx hb d_J_init_74 (by decide) ?_
  refine lv_istore_n (lv' := [(2, .int (iZ ((0 : Nat) : Int))), (0, .ref (q0)), (1, .int (iZ (sd)))]) hx hb d_J_init_75 rfl hl (by decide) rfl (fun ls hl => ?_)
  have hL : ∀ (N9 i : Nat) (H : Heap) (locs : List Loc) (ls : Array Slot), i ≤ 4 → 4 - i < N9 → va_P D classes [(q0, .inr (1, [.long (lZ (sd)), .int (iZ ((0 : Nat) : Int)), .int (iZ ((0 : Nat) : Int)), .ref (q1), .ref (q2), .ref (q3), .ref (q4), .ref (q5), .ref (q6), .ref (q7)])), (q1, .inl (cI, 4, .inl (zA (rf i)))), (q2, .inl (cZ, 4, .inl (zB (fun _ => false)))), (q3, .inl (cZ, 32, .inl (zB (fun _ => false)))), (q4, .inl (cI, 96, .inl (zN (fun _ => 0)))), (q5, .inl (cI, 16, .inl (zN (fun _ => 0)))), (q6, .inl (cI, 16, .inl (zN (fun _ => 0)))), (q7, .inl (cI, 16, .inl (zN (fun _ => 0))))] H → va_D A [(q0, .inr (1, [.long (lZ (sd)), .int (iZ ((0 : Nat) : Int)), .int (iZ ((0 : Nat) : Int)), .ref (q1), .ref (q2), .ref (q3), .ref (q4), .ref (q5), .ref (q6), .ref (q7)])), (q1, .inl (cI, 4, .inl (zA (rf i)))), (q2, .inl (cZ, 4, .inl (zB (fun _ => false)))), (q3, .inl (cZ, 32, .inl (zB (fun _ => false)))), (q4, .inl (cI, 96, .inl (zN (fun _ => 0)))), (q5, .inl (cI, 16, .inl (zN (fun _ => 0)))), (q6, .inl (cI, 16, .inl (zN (fun _ => 0)))), (q7, .inl (cI, 16, .inl (zN (fun _ => 0))))] → va_S A s.heap H locs → lv_has ls 3 [(2, .int (iZ ((i : Nat) : Int))), (0, .ref (q0)), (1, .int (iZ (sd)))] → W p l e (zRc 1 20 7 184) s m ([.ref (q0), .int (iZ (sd))] : List Value).toArray below meth c H locs 7 184 (MQ below (va_Qv (fun w => ∃ (q1 q2 q3 q4 q5 q6 q7 : Nat), w = [(q0, .inr (1, [.long (lZ (sd)), .int (iZ ((0 : Nat) : Int)), .int (iZ ((0 : Nat) : Int)), .ref (q1), .ref (q2), .ref (q3), .ref (q4), .ref (q5), .ref (q6), .ref (q7)])), (q1, .inl (cI, 4, .inl (zA (rf 4)))), (q2, .inl (cZ, 4, .inl (zB (fun _ => false)))), (q3, .inl (cZ, 32, .inl (zB (fun _ => false)))), (q4, .inl (cI, 96, .inl (zN (fun _ => 0)))), (q5, .inl (cI, 16, .inl (zN (fun _ => 0)))), (q6, .inl (cI, 16, .inl (zN (fun _ => 0)))), (q7, .inl (cI, 16, .inl (zN (fun _ => 0))))]) (fun w t => va_P D classes w t.heap ∧ va_D A w) A) ([.ref (q0), .int (iZ (sd))] : List Value).toArray s 7 184 A) (F0 m 76 ls []) := by
    intro N9
    induction N9 with
    | zero =>
      intro i H locs ls hi hN
      exact absurd hN (Nat.not_lt_zero _)
    | succ N9 ih =>
      intro i H locs ls hi hN hP hD hS hl
      refine lv_iload_n hx hb d_J_init_76 rfl (lv_at hl 0 rfl) ?_
      refine lv_iconst (v := iZ ((4 : Nat) : Int)) hx hb d_J_init_77 (by decide) ?_
      refine z_icmp_ge (a := ((i : Nat) : Int)) (b := ((4 : Nat) : Int)) (tgt := 94) hx hb (by omega) d_J_init_78 (by decide) (fun hj9 => ?_) (fun hj9 => ?_)
      · have e9 : i = 4 := by omega
        subst e9
        exact z_cret Z hP hD hS d_J_init_94 ⟨q1, q2, q3, q4, q5, q6, q7, rfl⟩
      · refine lv_aload_n hx hb d_J_init_81 rfl (lv_at hl 1 rfl) ?_
        refine va_get (D := D) (ci := 1) (v := .ref q1) (C := n_J) (T := f_J) (N := 10) hx hb hts in_J hown hK hP 0 rfl rfl 3 (by decide) (hts _ fl_J_22) (fun _ h9 => h9) rfl d_J_init_82 ?_
        refine lv_iload_n hx hb d_J_init_85 rfl (lv_at hl 0 rfl) ?_
        refine lv_iconst (v := iZ (-1 : Int)) hx hb d_J_init_86 (by decide) ?_
        refine z_iast (f := rf i) (v := (-1 : Int)) hx hb hK hP hD hS 1 0 rfl rfl (i) (by omega) d_J_init_87 (fun H locs hP hD hS => ?_)
        rw [rf_s] at hP hD
        refine lv_iinc (v := iZ ((i + 1 : Nat) : Int)) (lv' := [(2, .int (iZ ((i + 1 : Nat) : Int))), (0, .ref (q0)), (1, .int (iZ (sd)))]) hx hb d_J_init_88 hl (k := 0) rfl (iZ_inc (i) 1) (by decide) rfl (fun ls hl => ?_)
        refine lv_goto (tgt := 76) hx hb d_J_init_91 (by decide) ?_
        exact ih (i + 1) H locs ls (by omega) (by omega) hP hD hS (lv_sub hl [0, 1, 2] rfl)
  rw [show (fun _ : Nat => (0 : Int)) = rf 0 from rf_0.symm] at hP hD
  exact hL 5 0 H locs ls (by omega) (by omega) hP hD hS (lv_sub hl [0, 1, 2] rfl)

