/-! Division of longs; the tests of the face; Euclid's way. -/
theorem lZ_lN (u : Nat) : lZ ((u : Nat) : Int) = lN u := Int64.ofInt_eq_ofNat
theorem lZ_div {a b : Int} (ha : z64 a) (hb : z64 b) (h0 : 0 < b) : lZ a / lZ b = lZ (a.tdiv b) := by
  refine Int64.toInt_inj.mp ?_
  rw [Int64.toInt_div_of_ne_right _ _ (fun e => absurd ((lZ_eq hb (by omega)).mp (e.trans (show (-1 : Int64) = lZ (-1) from rfl))) (by omega)), lZ_t ha, lZ_t hb, lZ_t]
  have h1 := Int.natAbs_tdiv_le_natAbs a b
  by_cases q : a.tdiv b = 9223372036854775808
  · exfalso
    have h2 : 0 ≤ a := by
      rcases Int.lt_or_le a 0 with g | g
      · have h3 : a.tdiv b ≤ 0 := by
          have h4 := Int.neg_tdiv (a := a) (b := b)
          have h5 : 0 ≤ (-a).tdiv b := Int.tdiv_nonneg (by omega) (by omega)
          omega
        omega
      · exact g
    omega
  · omega
section ZDV
variable {p : Program} {l : Launch} {e : Env} {R : Room} {s : State} {m : MethodId} {args : Array Value} {below : List Frame} {meth : Method} {c : Code} {H : Heap} {locs : List Loc} {cells slots : Nat} {Q : State → Prop}
variable {cc : ByteArray} {pc : Nat} {ls : Array Slot} {rest : List Value}
theorem z_lremN (hx : p.tables.exec = Jvm.exec) (hb : c.code = cc) {u v : Nat} (h : 0 < v ∧ u < 9223372036854775808 ∧ v < 9223372036854775808) (hdg : decode cc pc = .ok (.lrem, 1)) (k : W p l e R s m args below meth c H locs cells slots Q (F0 m (pc + 1) ls (.long (lZ ((u % v : Nat) : Int)) :: rest))) : W p l e R s m args below meth c H locs cells slots Q (F0 m pc ls (.long (lZ ((v : Nat) : Int)) :: .long (lZ ((u : Nat) : Int)) :: rest)) := by
  refine lv_lrem hx hb hdg (fun e => ?_) ?_
  · exact absurd ((lZ_eq (b := 0) (by omega) (by omega)).mp e) (by omega)
  · rw [show lZ ((u : Nat) : Int) - lZ ((u : Nat) : Int) / lZ ((v : Nat) : Int) * lZ ((v : Nat) : Int) = lZ ((u % v : Nat) : Int) from by rw [lZ_lN, lZ_lN, lZ_lN]; exact pk_lRem (by omega) h.1 (by omega)]
    exact k
theorem z_ldiv (hx : p.tables.exec = Jvm.exec) (hb : c.code = cc) {a b : Int} (h : 0 < b ∧ z64 a ∧ z64 b) (hdg : decode cc pc = .ok (.ldiv, 1)) (k : W p l e R s m args below meth c H locs cells slots Q (F0 m (pc + 1) ls (.long (lZ (a.tdiv b)) :: rest))) : W p l e R s m args below meth c H locs cells slots Q (F0 m pc ls (.long (lZ b) :: .long (lZ a) :: rest)) := by
  refine lv_ldiv hx hb hdg (fun e => ?_) ?_
  · exact absurd ((lZ_eq (b := 0) h.2.2 (by omega)).mp e) (by omega)
  · rw [lZ_div h.2.1 h.2.2 h.1]
    exact k
end ZDV
theorem gc_half {a b : Nat} (h : b ≤ a) (hb : 0 < b) : 2 * (b * (a % b)) ≤ a * b := by
  have h1 : a % b < b := Nat.mod_lt a hb
  have h2 : b + a % b ≤ a := by
    have h3 := Nat.div_add_mod a b
    have h4 : 1 ≤ a / b := Nat.div_pos h hb
    have h5 : b * 1 ≤ b * (a / b) := Nat.mul_le_mul_left b h4
    omega
  have h6 : 2 * (a % b) ≤ a := by omega
  calc 2 * (b * (a % b)) = b * (2 * (a % b)) := by rw [Nat.mul_left_comm]
    _ ≤ b * a := Nat.mul_le_mul_left b h6
    _ = a * b := Nat.mul_comm b a
theorem gc_step (a b : Nat) : Nat.gcd b (a % b) = Nat.gcd a b := by
  rw [Nat.gcd_comm a b, Nat.gcd_rec b a, Nat.gcd_comm]
/-- the loop's fact: both numbers' product falls by half from the second division on -/
def gcI (C : Nat) (i lg sm : Nat) : Prop := 0 < lg ∧ (i = 0 ∨ sm < lg) ∧ lg * sm * 2 ^ (i - 1) ≤ C
theorem gcI_s {C i lg sm : Nat} (h : gcI C i lg sm) (h0 : 0 < sm) : gcI C (i + 1) sm (lg % sm) := by
  obtain ⟨h1, h2, h3⟩ := h
  refine ⟨h0, Or.inr (Nat.mod_lt lg h0), ?_⟩
  show sm * (lg % sm) * 2 ^ (i + 1 - 1) ≤ C
  rcases h2 with h2 | h2
  · subst h2
    refine Nat.le_trans ?_ h3
    show sm * (lg % sm) * 1 ≤ lg * sm * 1
    rw [Nat.mul_one, Nat.mul_one, Nat.mul_comm lg sm]
    exact Nat.mul_le_mul_left sm (Nat.mod_le lg sm)
  · cases i with
    | zero =>
      refine Nat.le_trans ?_ h3
      show sm * (lg % sm) * 1 ≤ lg * sm * 1
      rw [Nat.mul_one, Nat.mul_one, Nat.mul_comm lg sm]
      exact Nat.mul_le_mul_left sm (Nat.mod_le lg sm)
    | succ i =>
      refine Nat.le_trans ?_ h3
      have h4 := gc_half (Nat.le_of_lt h2) h0
      show sm * (lg % sm) * 2 ^ (i + 1) ≤ lg * sm * 2 ^ i
      calc sm * (lg % sm) * 2 ^ (i + 1) = 2 * (sm * (lg % sm)) * 2 ^ i := by rw [Nat.pow_succ, Nat.mul_comm (2 ^ i) 2, ← Nat.mul_assoc, Nat.mul_comm _ 2]
        _ ≤ lg * sm * 2 ^ i := Nat.mul_le_mul_right _ h4
theorem gcI_100 {C lg sm : Nat} (h : gcI C 100 lg sm) (hC : C < 2 ^ 99) : sm = 0 := by
  obtain ⟨h1, -, h3⟩ := h
  cases sm with
  | zero => rfl
  | succ k =>
    exfalso
    have h4 : 1 ≤ lg * (k + 1) := Nat.mul_pos h1 (Nat.succ_pos k)
    have h5 : 1 * 2 ^ 99 ≤ lg * (k + 1) * 2 ^ 99 := Nat.mul_le_mul_right _ h4
    have h6 : lg * (k + 1) * 2 ^ (100 - 1) ≤ C := h3
    have h7 : (100 - 1 : Nat) = 99 := rfl
    rw [h7] at h6
    omega
theorem lretN {a b : Nat} (h : a = b) : some (Value.long (lZ ((a : Nat) : Int))) = some (Value.long (lZ ((b : Nat) : Int))) := by rw [h]
theorem lretZ {a b : Int} (h : a = b) : some (Value.long (lZ a)) = some (Value.long (lZ b)) := by rw [h]
/-- a fraction's part, told without a common divisor -/
def sTP (a : Int) (b pt : Nat) : Int := if b < 1 then (if pt = 0 then 0 else 1) else if pt = 0 then a.tdiv ((Nat.gcd a.natAbs b : Nat) : Int) else ((b : Nat) : Int).tdiv ((Nat.gcd a.natAbs b : Nat) : Int)
set_option maxHeartbeats 4000000 in
set_option maxRecDepth 100000 in
theorem k_D_needIndex {l : Launch} {D : va_G} {cI cZ cL : ClassId} {ws : va_W} {a b : Int} (h : 0 ≤ a ∧ a < b ∧ b < 2147483648) : zMr l TB D classes (tysW cI cZ cL) y_D_needIndex w_D_needIndex 1 40 [.int (iZ (a)), .int (iZ (b))] (ws) (none) := by
  refine z_ofR (by decide) (Nat.le_of_ble_eq_true rfl) ?_
  intro p e s m below meth c ls Z hP hK hl
  obtain ⟨hx, hb, hr, hml, hown, hts, hE, hlocks⟩ := id Z
  have hl : lv_has ls 2 [(0, .int (iZ (a))), (1, .int (iZ (b)))] := hl
  refine lv_iload_n hx hb d_D_needIndex_0 rfl (lv_at hl 0 rfl) ?_
  refine z_if_lt (a := a) (tgt := 9) hx hb (by omega) d_D_needIndex_1 (by decide) (fun q1 => ?_) (fun q1 => ?_)
  · skip
    exfalso; omega
  · skip
    refine lv_iload_n hx hb d_D_needIndex_4 rfl (lv_at hl 0 rfl) ?_
    refine lv_iload_n hx hb d_D_needIndex_5 rfl (lv_at hl 1 rfl) ?_
    refine z_icmp_lt (a := a) (b := b) (tgt := 19) hx hb (by omega) d_D_needIndex_6 (by decide) (fun q6 => ?_) (fun q6 => ?_)
    · skip
      exact z_vretR Z d_D_needIndex_19 rfl
    · skip
      exfalso; omega

set_option maxHeartbeats 4000000 in
set_option maxRecDepth 100000 in
theorem x_D_needIndex {l : Launch} {D : va_G} (hl0 : l.stackTraces = false) {cI cZ cL : ClassId} {ws : va_W} {a b : Int} (h : z32 a ∧ z32 b ∧ (a < 0 ∨ b ≤ a)) : zMt l D (tysW cI cZ cL) y_D_needIndex w_D_needIndex 7 100 [.int (iZ (a)), .int (iZ (b))] (ws) "java/lang/IndexOutOfBoundsException" := by
  refine z_ofX (by decide) (Nat.le_of_ble_eq_true rfl) ?_
  intro p e s m below meth c ls Z htab hP hK hT hSt hl
  obtain ⟨hx, hb, hr, hml, hown, hts, hE, hlocks⟩ := id Z
  have hl : lv_has ls 2 [(0, .int (iZ (a))), (1, .int (iZ (b)))] := hl
  refine lv_iload_n hx hb d_D_needIndex_0 rfl (lv_at hl 0 rfl) ?_
  refine z_if_lt (a := a) (tgt := 9) hx hb (by omega) d_D_needIndex_1 (by decide) (fun q1 => ?_) (fun q1 => ?_)
  · skip
    obtain ⟨sa, hsa⟩ := hSt _ (List.mem_of_getElem? (i := 0) rfl)
    exact z_throwS (names := ["java/lang/RuntimeException", "java/lang/Exception"]) hl0 Z htab hT (by decide +kernel) (by decide +kernel) kl_D_177 ini_IndexOutOfBoundsException (by decide +kernel) hsa hl.1 d_D_needIndex_9 d_D_needIndex_12 d_D_needIndex_13 d_D_needIndex_15 d_D_needIndex_18 (by decide) (Nat.le_of_ble_eq_true rfl) (by decide) (by decide)
  · skip
    refine lv_iload_n hx hb d_D_needIndex_4 rfl (lv_at hl 0 rfl) ?_
    refine lv_iload_n hx hb d_D_needIndex_5 rfl (lv_at hl 1 rfl) ?_
    refine z_icmp_lt (a := a) (b := b) (tgt := 19) hx hb (by omega) d_D_needIndex_6 (by decide) (fun q6 => ?_) (fun q6 => ?_)
    · skip
      exfalso; omega
    · skip
      obtain ⟨sa, hsa⟩ := hSt _ (List.mem_of_getElem? (i := 0) rfl)
      exact z_throwS (names := ["java/lang/RuntimeException", "java/lang/Exception"]) hl0 Z htab hT (by decide +kernel) (by decide +kernel) kl_D_177 ini_IndexOutOfBoundsException (by decide +kernel) hsa hl.1 d_D_needIndex_9 d_D_needIndex_12 d_D_needIndex_13 d_D_needIndex_15 d_D_needIndex_18 (by decide) (Nat.le_of_ble_eq_true rfl) (by decide) (by decide)

set_option maxHeartbeats 4000000 in
set_option maxRecDepth 100000 in
theorem k_D_needShip {l : Launch} {D : va_G} {cI cZ cL : ClassId} {ws : va_W} {a : Int} (h : 0 ≤ a ∧ a < 4) : zMr l TB D classes (tysW cI cZ cL) y_D_needShip w_D_needShip 2 61 [.int (iZ (a))] (ws) (none) := by
  refine z_ofR (by decide) (Nat.le_of_ble_eq_true rfl) ?_
  intro p e s m below meth c ls Z hP hK hl
  obtain ⟨hx, hb, hr, hml, hown, hts, hE, hlocks⟩ := id Z
  have hl : lv_has ls 1 [(0, .int (iZ (a)))] := hl
  refine lv_iload_n hx hb d_D_needShip_0 rfl (lv_at hl 0 rfl) ?_
  refine lv_iconst (v := iZ ((4 : Nat) : Int)) hx hb d_D_needShip_1 (by decide) ?_
  refine z_callSR (As := [.int (iZ (a)), .int (iZ ((4 : Nat) : Int))]) (rest := []) zTB Z (k_D_needIndex (a := a) (b := ((4 : Nat) : Int)) (by omega)) ⟨ml_D_86, sm_D_needIndex, ini_D, co_D_needIndex⟩ zd_D_needIndex ⟨Nat.le_of_ble_eq_true rfl, Nat.le_of_ble_eq_true rfl⟩ hP hK hl.1 rfl (Nat.le_of_ble_eq_true rfl) d_D_needShip_2 ⟨Nat.zero_le _, Nat.zero_le _⟩ ?_
  refine W.eq (g2 := F0 m 5 ls []) rfl ?_
  exact z_vretR Z d_D_needShip_5 rfl

set_option maxHeartbeats 4000000 in
set_option maxRecDepth 100000 in
theorem x_D_needShip {l : Launch} {D : va_G} (hl0 : l.stackTraces = false) {cI cZ cL : ClassId} {ws : va_W} {a : Int} (h : z32 a ∧ (a < 0 ∨ 4 ≤ a)) : zMt l D (tysW cI cZ cL) y_D_needShip w_D_needShip 8 121 [.int (iZ (a))] (ws) "java/lang/IndexOutOfBoundsException" := by
  refine z_ofX (by decide) (Nat.le_of_ble_eq_true rfl) ?_
  intro p e s m below meth c ls Z htab hP hK hT hSt hl
  obtain ⟨hx, hb, hr, hml, hown, hts, hE, hlocks⟩ := id Z
  have hl : lv_has ls 1 [(0, .int (iZ (a)))] := hl
  refine lv_iload_n hx hb d_D_needShip_0 rfl (lv_at hl 0 rfl) ?_
  refine lv_iconst (v := iZ ((4 : Nat) : Int)) hx hb d_D_needShip_1 (by decide) ?_
  refine z_xS (As := [.int (iZ (a)), .int (iZ ((4 : Nat) : Int))]) (rest := []) Z (x_D_needIndex hl0 (a := a) (b := ((4 : Nat) : Int)) (by omega)) ⟨ml_D_86, sm_D_needIndex, ini_D, co_D_needIndex⟩ zd_D_needIndex ⟨Nat.le_of_ble_eq_true rfl, Nat.le_of_ble_eq_true rfl⟩ hP hK hT hSt hl.1 rfl (Nat.le_of_ble_eq_true rfl) d_D_needShip_2 ⟨Nat.le_of_ble_eq_true rfl, Nat.le_of_ble_eq_true rfl⟩ (fun q9 ce9 H9 hz9 hk9 hc9 hv9 hcl9 => ?_)
  exact z_xout Z htab hz9 hk9 hc9 hv9 hcl9

set_option maxHeartbeats 4000000 in
set_option maxRecDepth 100000 in
theorem k_D_needKind {l : Launch} {D : va_G} {cI cZ cL : ClassId} {ws : va_W} {a : Int} (h : 0 ≤ a ∧ a < 3) : zMr l TB D classes (tysW cI cZ cL) y_D_needKind w_D_needKind 2 61 [.int (iZ (a))] (ws) (none) := by
  refine z_ofR (by decide) (Nat.le_of_ble_eq_true rfl) ?_
  intro p e s m below meth c ls Z hP hK hl
  obtain ⟨hx, hb, hr, hml, hown, hts, hE, hlocks⟩ := id Z
  have hl : lv_has ls 1 [(0, .int (iZ (a)))] := hl
  refine lv_iload_n hx hb d_D_needKind_0 rfl (lv_at hl 0 rfl) ?_
  refine lv_iconst (v := iZ ((3 : Nat) : Int)) hx hb d_D_needKind_1 (by decide) ?_
  refine z_callSR (As := [.int (iZ (a)), .int (iZ ((3 : Nat) : Int))]) (rest := []) zTB Z (k_D_needIndex (a := a) (b := ((3 : Nat) : Int)) (by omega)) ⟨ml_D_86, sm_D_needIndex, ini_D, co_D_needIndex⟩ zd_D_needIndex ⟨Nat.le_of_ble_eq_true rfl, Nat.le_of_ble_eq_true rfl⟩ hP hK hl.1 rfl (Nat.le_of_ble_eq_true rfl) d_D_needKind_2 ⟨Nat.zero_le _, Nat.zero_le _⟩ ?_
  refine W.eq (g2 := F0 m 5 ls []) rfl ?_
  exact z_vretR Z d_D_needKind_5 rfl

set_option maxHeartbeats 4000000 in
set_option maxRecDepth 100000 in
theorem x_D_needKind {l : Launch} {D : va_G} (hl0 : l.stackTraces = false) {cI cZ cL : ClassId} {ws : va_W} {a : Int} (h : z32 a ∧ (a < 0 ∨ 3 ≤ a)) : zMt l D (tysW cI cZ cL) y_D_needKind w_D_needKind 8 121 [.int (iZ (a))] (ws) "java/lang/IndexOutOfBoundsException" := by
  refine z_ofX (by decide) (Nat.le_of_ble_eq_true rfl) ?_
  intro p e s m below meth c ls Z htab hP hK hT hSt hl
  obtain ⟨hx, hb, hr, hml, hown, hts, hE, hlocks⟩ := id Z
  have hl : lv_has ls 1 [(0, .int (iZ (a)))] := hl
  refine lv_iload_n hx hb d_D_needKind_0 rfl (lv_at hl 0 rfl) ?_
  refine lv_iconst (v := iZ ((3 : Nat) : Int)) hx hb d_D_needKind_1 (by decide) ?_
  refine z_xS (As := [.int (iZ (a)), .int (iZ ((3 : Nat) : Int))]) (rest := []) Z (x_D_needIndex hl0 (a := a) (b := ((3 : Nat) : Int)) (by omega)) ⟨ml_D_86, sm_D_needIndex, ini_D, co_D_needIndex⟩ zd_D_needIndex ⟨Nat.le_of_ble_eq_true rfl, Nat.le_of_ble_eq_true rfl⟩ hP hK hT hSt hl.1 rfl (Nat.le_of_ble_eq_true rfl) d_D_needKind_2 ⟨Nat.le_of_ble_eq_true rfl, Nat.le_of_ble_eq_true rfl⟩ (fun q9 ce9 H9 hz9 hk9 hc9 hv9 hcl9 => ?_)
  exact z_xout Z htab hz9 hk9 hc9 hv9 hcl9

set_option maxHeartbeats 4000000 in
set_option maxRecDepth 100000 in
theorem k_D_needPart {l : Launch} {D : va_G} {cI cZ cL : ClassId} {ws : va_W} {a : Int} (h : 0 ≤ a ∧ a < 2) : zMr l TB D classes (tysW cI cZ cL) y_D_needPart w_D_needPart 2 61 [.int (iZ (a))] (ws) (none) := by
  refine z_ofR (by decide) (Nat.le_of_ble_eq_true rfl) ?_
  intro p e s m below meth c ls Z hP hK hl
  obtain ⟨hx, hb, hr, hml, hown, hts, hE, hlocks⟩ := id Z
  have hl : lv_has ls 1 [(0, .int (iZ (a)))] := hl
  refine lv_iload_n hx hb d_D_needPart_0 rfl (lv_at hl 0 rfl) ?_
  refine lv_iconst (v := iZ ((2 : Nat) : Int)) hx hb d_D_needPart_1 (by decide) ?_
  refine z_callSR (As := [.int (iZ (a)), .int (iZ ((2 : Nat) : Int))]) (rest := []) zTB Z (k_D_needIndex (a := a) (b := ((2 : Nat) : Int)) (by omega)) ⟨ml_D_86, sm_D_needIndex, ini_D, co_D_needIndex⟩ zd_D_needIndex ⟨Nat.le_of_ble_eq_true rfl, Nat.le_of_ble_eq_true rfl⟩ hP hK hl.1 rfl (Nat.le_of_ble_eq_true rfl) d_D_needPart_2 ⟨Nat.zero_le _, Nat.zero_le _⟩ ?_
  refine W.eq (g2 := F0 m 5 ls []) rfl ?_
  exact z_vretR Z d_D_needPart_5 rfl

set_option maxHeartbeats 4000000 in
set_option maxRecDepth 100000 in
theorem x_D_needPart {l : Launch} {D : va_G} (hl0 : l.stackTraces = false) {cI cZ cL : ClassId} {ws : va_W} {a : Int} (h : z32 a ∧ (a < 0 ∨ 2 ≤ a)) : zMt l D (tysW cI cZ cL) y_D_needPart w_D_needPart 8 121 [.int (iZ (a))] (ws) "java/lang/IndexOutOfBoundsException" := by
  refine z_ofX (by decide) (Nat.le_of_ble_eq_true rfl) ?_
  intro p e s m below meth c ls Z htab hP hK hT hSt hl
  obtain ⟨hx, hb, hr, hml, hown, hts, hE, hlocks⟩ := id Z
  have hl : lv_has ls 1 [(0, .int (iZ (a)))] := hl
  refine lv_iload_n hx hb d_D_needPart_0 rfl (lv_at hl 0 rfl) ?_
  refine lv_iconst (v := iZ ((2 : Nat) : Int)) hx hb d_D_needPart_1 (by decide) ?_
  refine z_xS (As := [.int (iZ (a)), .int (iZ ((2 : Nat) : Int))]) (rest := []) Z (x_D_needIndex hl0 (a := a) (b := ((2 : Nat) : Int)) (by omega)) ⟨ml_D_86, sm_D_needIndex, ini_D, co_D_needIndex⟩ zd_D_needIndex ⟨Nat.le_of_ble_eq_true rfl, Nat.le_of_ble_eq_true rfl⟩ hP hK hT hSt hl.1 rfl (Nat.le_of_ble_eq_true rfl) d_D_needPart_2 ⟨Nat.le_of_ble_eq_true rfl, Nat.le_of_ble_eq_true rfl⟩ (fun q9 ce9 H9 hz9 hk9 hc9 hv9 hcl9 => ?_)
  exact z_xout Z htab hz9 hk9 hc9 hv9 hcl9

set_option maxHeartbeats 4000000 in
set_option maxRecDepth 100000 in
theorem k_D_needHaul {l : Launch} {D : va_G} {ad : Nat → Nat} {cI cZ cL : ClassId} {J : SJ} {rd : Nat → Int} {pr : Nat → Nat} {G : SH} {K : SK} {tl : va_W} {a : Int} (h : 0 ≤ a ∧ a < ((jn J : Nat) : Int) ∧ jn J ≤ 32) : zMr l TB D classes (tysW cI cZ cL) y_D_needHaul w_D_needHaul 2 61 [.ref (ad 0), .int (iZ (a))] (wdC ad cI cZ cL J rd pr G K tl) (none) := by
  refine z_ofR (by decide) (Nat.le_of_ble_eq_true rfl) ?_
  intro p e s m below meth c ls Z hP hK hl
  obtain ⟨hx, hb, hr, hml, hown, hts, hE, hlocks⟩ := id Z
  have hl : lv_has ls 2 [(0, .ref (ad 0)), (1, .int (iZ (a)))] := hl
  refine lv_iload_n hx hb d_D_needHaul_0 rfl (lv_at hl 1 rfl) ?_
  refine lv_aload_n hx hb d_D_needHaul_1 rfl (lv_at hl 0 rfl) ?_
  refine va_get (D := D) (ci := 0) (v := .ref (ad 1)) (C := n_D) (T := f_D) (N := 5) hx hb hts in_D hown hK hP 0 rfl rfl 0 (by decide) (hts _ fl_D_14) (fun _ h9 => h9) rfl d_D_needHaul_2 ?_
  refine va_getN (D := D) (ci := 1) (v := .int (iZ ((jn J : Nat) : Int))) (C := n_J) (T := f_J) (N := 10) hx hb hts in_J hown hK hP 1 rfl rfl 1 (by decide) (hts _ fl_D_46) (fun _ h9 => h9) rfl d_D_needHaul_5 ?_
  refine z_callSR (As := [.int (iZ (a)), .int (iZ ((jn J : Nat) : Int))]) (rest := []) zTB Z (k_D_needIndex (a := a) (b := ((jn J : Nat) : Int)) (by omega)) ⟨ml_D_86, sm_D_needIndex, ini_D, co_D_needIndex⟩ zd_D_needIndex ⟨Nat.le_of_ble_eq_true rfl, Nat.le_of_ble_eq_true rfl⟩ hP hK hl.1 rfl (Nat.le_of_ble_eq_true rfl) d_D_needHaul_8 ⟨Nat.zero_le _, Nat.zero_le _⟩ ?_
  refine W.eq (g2 := F0 m 11 ls []) rfl ?_
  exact z_vretR Z d_D_needHaul_11 rfl

set_option maxHeartbeats 4000000 in
set_option maxRecDepth 100000 in
theorem x_D_needHaul {l : Launch} {D : va_G} (hl0 : l.stackTraces = false) {ad : Nat → Nat} {cI cZ cL : ClassId} {J : SJ} {rd : Nat → Int} {pr : Nat → Nat} {G : SH} {K : SK} {tl : va_W} {a : Int} (h : z32 a ∧ (a < 0 ∨ ((jn J : Nat) : Int) ≤ a) ∧ jn J ≤ 32) : zMt l D (tysW cI cZ cL) y_D_needHaul w_D_needHaul 8 121 [.ref (ad 0), .int (iZ (a))] (wdC ad cI cZ cL J rd pr G K tl) "java/lang/IndexOutOfBoundsException" := by
  refine z_ofX (by decide) (Nat.le_of_ble_eq_true rfl) ?_
  intro p e s m below meth c ls Z htab hP hK hT hSt hl
  obtain ⟨hx, hb, hr, hml, hown, hts, hE, hlocks⟩ := id Z
  have hl : lv_has ls 2 [(0, .ref (ad 0)), (1, .int (iZ (a)))] := hl
  refine lv_iload_n hx hb d_D_needHaul_0 rfl (lv_at hl 1 rfl) ?_
  refine lv_aload_n hx hb d_D_needHaul_1 rfl (lv_at hl 0 rfl) ?_
  refine va_get (D := D) (ci := 0) (v := .ref (ad 1)) (C := n_D) (T := f_D) (N := 5) hx hb hts in_D hown hK hP 0 rfl rfl 0 (by decide) (hts _ fl_D_14) (fun _ h9 => h9) rfl d_D_needHaul_2 ?_
  refine va_getN (D := D) (ci := 1) (v := .int (iZ ((jn J : Nat) : Int))) (C := n_J) (T := f_J) (N := 10) hx hb hts in_J hown hK hP 1 rfl rfl 1 (by decide) (hts _ fl_D_46) (fun _ h9 => h9) rfl d_D_needHaul_5 ?_
  refine z_xS (As := [.int (iZ (a)), .int (iZ ((jn J : Nat) : Int))]) (rest := []) Z (x_D_needIndex hl0 (a := a) (b := ((jn J : Nat) : Int)) (by omega)) ⟨ml_D_86, sm_D_needIndex, ini_D, co_D_needIndex⟩ zd_D_needIndex ⟨Nat.le_of_ble_eq_true rfl, Nat.le_of_ble_eq_true rfl⟩ hP hK hT hSt hl.1 rfl (Nat.le_of_ble_eq_true rfl) d_D_needHaul_8 ⟨Nat.le_of_ble_eq_true rfl, Nat.le_of_ble_eq_true rfl⟩ (fun q9 ce9 H9 hz9 hk9 hc9 hv9 hcl9 => ?_)
  exact z_xout Z htab hz9 hk9 hc9 hv9 hcl9

set_option maxHeartbeats 4000000 in
set_option maxRecDepth 100000 in
theorem k_D_needPair {l : Launch} {D : va_G} {ad : Nat → Nat} {cI cZ cL : ClassId} {J : SJ} {rd : Nat → Int} {pr : Nat → Nat} {G : SH} {K : SK} {tl : va_W} {a : Int} (h : 0 ≤ a ∧ a < ((jk J : Nat) : Int) ∧ jk J ≤ 32) : zMr l TB D classes (tysW cI cZ cL) y_D_needPair w_D_needPair 2 61 [.ref (ad 0), .int (iZ (a))] (wdC ad cI cZ cL J rd pr G K tl) (none) := by
  refine z_ofR (by decide) (Nat.le_of_ble_eq_true rfl) ?_
  intro p e s m below meth c ls Z hP hK hl
  obtain ⟨hx, hb, hr, hml, hown, hts, hE, hlocks⟩ := id Z
  have hl : lv_has ls 2 [(0, .ref (ad 0)), (1, .int (iZ (a)))] := hl
  refine lv_iload_n hx hb d_D_needPair_0 rfl (lv_at hl 1 rfl) ?_
  refine lv_aload_n hx hb d_D_needPair_1 rfl (lv_at hl 0 rfl) ?_
  refine va_get (D := D) (ci := 0) (v := .ref (ad 1)) (C := n_D) (T := f_D) (N := 5) hx hb hts in_D hown hK hP 0 rfl rfl 0 (by decide) (hts _ fl_D_14) (fun _ h9 => h9) rfl d_D_needPair_2 ?_
  refine va_getN (D := D) (ci := 1) (v := .int (iZ ((jk J : Nat) : Int))) (C := n_J) (T := f_J) (N := 10) hx hb hts in_J hown hK hP 1 rfl rfl 2 (by decide) (hts _ fl_D_99) (fun _ h9 => h9) rfl d_D_needPair_5 ?_
  refine z_callSR (As := [.int (iZ (a)), .int (iZ ((jk J : Nat) : Int))]) (rest := []) zTB Z (k_D_needIndex (a := a) (b := ((jk J : Nat) : Int)) (by omega)) ⟨ml_D_86, sm_D_needIndex, ini_D, co_D_needIndex⟩ zd_D_needIndex ⟨Nat.le_of_ble_eq_true rfl, Nat.le_of_ble_eq_true rfl⟩ hP hK hl.1 rfl (Nat.le_of_ble_eq_true rfl) d_D_needPair_8 ⟨Nat.zero_le _, Nat.zero_le _⟩ ?_
  refine W.eq (g2 := F0 m 11 ls []) rfl ?_
  exact z_vretR Z d_D_needPair_11 rfl

set_option maxHeartbeats 4000000 in
set_option maxRecDepth 100000 in
theorem x_D_needPair {l : Launch} {D : va_G} (hl0 : l.stackTraces = false) {ad : Nat → Nat} {cI cZ cL : ClassId} {J : SJ} {rd : Nat → Int} {pr : Nat → Nat} {G : SH} {K : SK} {tl : va_W} {a : Int} (h : z32 a ∧ (a < 0 ∨ ((jk J : Nat) : Int) ≤ a) ∧ jk J ≤ 32) : zMt l D (tysW cI cZ cL) y_D_needPair w_D_needPair 8 121 [.ref (ad 0), .int (iZ (a))] (wdC ad cI cZ cL J rd pr G K tl) "java/lang/IndexOutOfBoundsException" := by
  refine z_ofX (by decide) (Nat.le_of_ble_eq_true rfl) ?_
  intro p e s m below meth c ls Z htab hP hK hT hSt hl
  obtain ⟨hx, hb, hr, hml, hown, hts, hE, hlocks⟩ := id Z
  have hl : lv_has ls 2 [(0, .ref (ad 0)), (1, .int (iZ (a)))] := hl
  refine lv_iload_n hx hb d_D_needPair_0 rfl (lv_at hl 1 rfl) ?_
  refine lv_aload_n hx hb d_D_needPair_1 rfl (lv_at hl 0 rfl) ?_
  refine va_get (D := D) (ci := 0) (v := .ref (ad 1)) (C := n_D) (T := f_D) (N := 5) hx hb hts in_D hown hK hP 0 rfl rfl 0 (by decide) (hts _ fl_D_14) (fun _ h9 => h9) rfl d_D_needPair_2 ?_
  refine va_getN (D := D) (ci := 1) (v := .int (iZ ((jk J : Nat) : Int))) (C := n_J) (T := f_J) (N := 10) hx hb hts in_J hown hK hP 1 rfl rfl 2 (by decide) (hts _ fl_D_99) (fun _ h9 => h9) rfl d_D_needPair_5 ?_
  refine z_xS (As := [.int (iZ (a)), .int (iZ ((jk J : Nat) : Int))]) (rest := []) Z (x_D_needIndex hl0 (a := a) (b := ((jk J : Nat) : Int)) (by omega)) ⟨ml_D_86, sm_D_needIndex, ini_D, co_D_needIndex⟩ zd_D_needIndex ⟨Nat.le_of_ble_eq_true rfl, Nat.le_of_ble_eq_true rfl⟩ hP hK hT hSt hl.1 rfl (Nat.le_of_ble_eq_true rfl) d_D_needPair_8 ⟨Nat.le_of_ble_eq_true rfl, Nat.le_of_ble_eq_true rfl⟩ (fun q9 ce9 H9 hz9 hk9 hc9 hv9 hcl9 => ?_)
  exact z_xout Z htab hz9 hk9 hc9 hv9 hcl9

set_option maxHeartbeats 4000000 in
set_option maxRecDepth 100000 in
theorem k_D_needNumber {l : Launch} {D : va_G} {cI cZ cL : ClassId} {ws : va_W} {a b c9 : Int} (h : z32 b ∧ z32 c9 ∧ b ≤ a ∧ a ≤ c9) : zMr l TB D classes (tysW cI cZ cL) y_D_needNumber w_D_needNumber 1 40 [.int (iZ (a)), .int (iZ (b)), .int (iZ (c9))] (ws) (none) := by
  refine z_ofR (by decide) (Nat.le_of_ble_eq_true rfl) ?_
  intro p e s m below meth c ls Z hP hK hl
  obtain ⟨hx, hb, hr, hml, hown, hts, hE, hlocks⟩ := id Z
  have hl : lv_has ls 3 [(0, .int (iZ (a))), (1, .int (iZ (b))), (2, .int (iZ (c9)))] := hl
  refine lv_iload_n hx hb d_D_needNumber_0 rfl (lv_at hl 0 rfl) ?_
  refine lv_iload_n hx hb d_D_needNumber_1 rfl (lv_at hl 1 rfl) ?_
  refine z_icmp_lt (a := a) (b := b) (tgt := 10) hx hb (by omega) d_D_needNumber_2 (by decide) (fun q2 => ?_) (fun q2 => ?_)
  · skip
    exfalso; omega
  · skip
    refine lv_iload_n hx hb d_D_needNumber_5 rfl (lv_at hl 0 rfl) ?_
    refine lv_iload_n hx hb d_D_needNumber_6 rfl (lv_at hl 2 rfl) ?_
    refine z_icmp_le (a := a) (b := c9) (tgt := 20) hx hb (by omega) d_D_needNumber_7 (by decide) (fun q7 => ?_) (fun q7 => ?_)
    · skip
      exact z_vretR Z d_D_needNumber_20 rfl
    · skip
      exfalso; omega

set_option maxHeartbeats 4000000 in
set_option maxRecDepth 100000 in
theorem x_D_needNumber {l : Launch} {D : va_G} (hl0 : l.stackTraces = false) {cI cZ cL : ClassId} {ws : va_W} {a b c9 : Int} (h : z32 a ∧ z32 b ∧ z32 c9 ∧ (a < b ∨ c9 < a)) : zMt l D (tysW cI cZ cL) y_D_needNumber w_D_needNumber 7 100 [.int (iZ (a)), .int (iZ (b)), .int (iZ (c9))] (ws) "java/lang/IllegalArgumentException" := by
  refine z_ofX (by decide) (Nat.le_of_ble_eq_true rfl) ?_
  intro p e s m below meth c ls Z htab hP hK hT hSt hl
  obtain ⟨hx, hb, hr, hml, hown, hts, hE, hlocks⟩ := id Z
  have hl : lv_has ls 3 [(0, .int (iZ (a))), (1, .int (iZ (b))), (2, .int (iZ (c9)))] := hl
  refine lv_iload_n hx hb d_D_needNumber_0 rfl (lv_at hl 0 rfl) ?_
  refine lv_iload_n hx hb d_D_needNumber_1 rfl (lv_at hl 1 rfl) ?_
  refine z_icmp_lt (a := a) (b := b) (tgt := 10) hx hb (by omega) d_D_needNumber_2 (by decide) (fun q2 => ?_) (fun q2 => ?_)
  · skip
    obtain ⟨sa, hsa⟩ := hSt _ (List.mem_of_getElem? (i := 2) rfl)
    exact z_throwS (names := ["java/lang/RuntimeException", "java/lang/Exception"]) hl0 Z htab hT (by decide +kernel) (by decide +kernel) kl_D_182 ini_IllegalArgumentException (by decide +kernel) hsa hl.1 d_D_needNumber_10 d_D_needNumber_13 d_D_needNumber_14 d_D_needNumber_16 d_D_needNumber_19 (by decide) (Nat.le_of_ble_eq_true rfl) (by decide) (by decide)
  · skip
    refine lv_iload_n hx hb d_D_needNumber_5 rfl (lv_at hl 0 rfl) ?_
    refine lv_iload_n hx hb d_D_needNumber_6 rfl (lv_at hl 2 rfl) ?_
    refine z_icmp_le (a := a) (b := c9) (tgt := 20) hx hb (by omega) d_D_needNumber_7 (by decide) (fun q7 => ?_) (fun q7 => ?_)
    · skip
      exfalso; omega
    · skip
      obtain ⟨sa, hsa⟩ := hSt _ (List.mem_of_getElem? (i := 2) rfl)
      exact z_throwS (names := ["java/lang/RuntimeException", "java/lang/Exception"]) hl0 Z htab hT (by decide +kernel) (by decide +kernel) kl_D_182 ini_IllegalArgumentException (by decide +kernel) hsa hl.1 d_D_needNumber_10 d_D_needNumber_13 d_D_needNumber_14 d_D_needNumber_16 d_D_needNumber_19 (by decide) (Nat.le_of_ble_eq_true rfl) (by decide) (by decide)

set_option maxHeartbeats 4000000 in
set_option maxRecDepth 100000 in
theorem k_D_needBounds {l : Launch} {D : va_G} {cI cZ cL : ClassId} {ws : va_W} {a b : Int} (h : 1 ≤ a ∧ a ≤ 16 ∧ 1 ≤ b ∧ b ≤ 16) : zMr l TB D classes (tysW cI cZ cL) y_D_needBounds w_D_needBounds 2 62 [.int (iZ (a)), .int (iZ (b))] (ws) (none) := by
  refine z_ofR (by decide) (Nat.le_of_ble_eq_true rfl) ?_
  intro p e s m below meth c ls Z hP hK hl
  obtain ⟨hx, hb, hr, hml, hown, hts, hE, hlocks⟩ := id Z
  have hl : lv_has ls 2 [(0, .int (iZ (a))), (1, .int (iZ (b)))] := hl
  refine lv_iload_n hx hb d_D_needBounds_0 rfl (lv_at hl 0 rfl) ?_
  refine lv_iconst (v := iZ ((1 : Nat) : Int)) hx hb d_D_needBounds_1 (by decide) ?_
  refine lv_bipush (v := iZ ((16 : Nat) : Int)) hx hb d_D_needBounds_2 (by decide) ?_
  refine z_callSR (As := [.int (iZ (a)), .int (iZ ((1 : Nat) : Int)), .int (iZ ((16 : Nat) : Int))]) (rest := []) zTB Z (k_D_needNumber (a := a) (b := ((1 : Nat) : Int)) (c9 := ((16 : Nat) : Int)) (by omega)) ⟨ml_D_67, sm_D_needNumber, ini_D, co_D_needNumber⟩ zd_D_needNumber ⟨Nat.le_of_ble_eq_true rfl, Nat.le_of_ble_eq_true rfl⟩ hP hK hl.1 rfl (Nat.le_of_ble_eq_true rfl) d_D_needBounds_4 ⟨Nat.zero_le _, Nat.zero_le _⟩ ?_
  refine W.eq (g2 := F0 m 7 ls []) rfl ?_
  refine lv_iload_n hx hb d_D_needBounds_7 rfl (lv_at hl 1 rfl) ?_
  refine lv_iconst (v := iZ ((1 : Nat) : Int)) hx hb d_D_needBounds_8 (by decide) ?_
  refine lv_bipush (v := iZ ((16 : Nat) : Int)) hx hb d_D_needBounds_9 (by decide) ?_
  refine z_callSR (As := [.int (iZ (b)), .int (iZ ((1 : Nat) : Int)), .int (iZ ((16 : Nat) : Int))]) (rest := []) zTB Z (k_D_needNumber (a := b) (b := ((1 : Nat) : Int)) (c9 := ((16 : Nat) : Int)) (by omega)) ⟨ml_D_67, sm_D_needNumber, ini_D, co_D_needNumber⟩ zd_D_needNumber ⟨Nat.le_of_ble_eq_true rfl, Nat.le_of_ble_eq_true rfl⟩ hP hK hl.1 rfl (Nat.le_of_ble_eq_true rfl) d_D_needBounds_11 ⟨Nat.zero_le _, Nat.zero_le _⟩ ?_
  refine W.eq (g2 := F0 m 14 ls []) rfl ?_
  exact z_vretR Z d_D_needBounds_14 rfl

set_option maxHeartbeats 4000000 in
set_option maxRecDepth 100000 in
theorem x_D_needBounds {l : Launch} {D : va_G} (hl0 : l.stackTraces = false) {cI cZ cL : ClassId} {ws : va_W} {a b : Int} (h : z32 a ∧ (a < 1 ∨ 16 < a)) : zMt l D (tysW cI cZ cL) y_D_needBounds w_D_needBounds 8 122 [.int (iZ (a)), .int (iZ (b))] (ws) "java/lang/IllegalArgumentException" := by
  refine z_ofX (by decide) (Nat.le_of_ble_eq_true rfl) ?_
  intro p e s m below meth c ls Z htab hP hK hT hSt hl
  obtain ⟨hx, hb, hr, hml, hown, hts, hE, hlocks⟩ := id Z
  have hl : lv_has ls 2 [(0, .int (iZ (a))), (1, .int (iZ (b)))] := hl
  refine lv_iload_n hx hb d_D_needBounds_0 rfl (lv_at hl 0 rfl) ?_
  refine lv_iconst (v := iZ ((1 : Nat) : Int)) hx hb d_D_needBounds_1 (by decide) ?_
  refine lv_bipush (v := iZ ((16 : Nat) : Int)) hx hb d_D_needBounds_2 (by decide) ?_
  refine z_xS (As := [.int (iZ (a)), .int (iZ ((1 : Nat) : Int)), .int (iZ ((16 : Nat) : Int))]) (rest := []) Z (x_D_needNumber hl0 (a := a) (b := ((1 : Nat) : Int)) (c9 := ((16 : Nat) : Int)) (by omega)) ⟨ml_D_67, sm_D_needNumber, ini_D, co_D_needNumber⟩ zd_D_needNumber ⟨Nat.le_of_ble_eq_true rfl, Nat.le_of_ble_eq_true rfl⟩ hP hK hT hSt hl.1 rfl (Nat.le_of_ble_eq_true rfl) d_D_needBounds_4 ⟨Nat.le_of_ble_eq_true rfl, Nat.le_of_ble_eq_true rfl⟩ (fun q9 ce9 H9 hz9 hk9 hc9 hv9 hcl9 => ?_)
  exact z_xout Z htab hz9 hk9 hc9 hv9 hcl9

set_option maxHeartbeats 4000000 in
set_option maxRecDepth 100000 in
theorem y_D_needBounds2 {l : Launch} {D : va_G} (hl0 : l.stackTraces = false) {cI cZ cL : ClassId} {ws : va_W} {a b : Int} (h : 1 ≤ a ∧ a ≤ 16 ∧ z32 b ∧ (b < 1 ∨ 16 < b)) : zMt l D (tysW cI cZ cL) y_D_needBounds w_D_needBounds 8 122 [.int (iZ (a)), .int (iZ (b))] (ws) "java/lang/IllegalArgumentException" := by
  refine z_ofX (by decide) (Nat.le_of_ble_eq_true rfl) ?_
  intro p e s m below meth c ls Z htab hP hK hT hSt hl
  obtain ⟨hx, hb, hr, hml, hown, hts, hE, hlocks⟩ := id Z
  have hl : lv_has ls 2 [(0, .int (iZ (a))), (1, .int (iZ (b)))] := hl
  refine lv_iload_n hx hb d_D_needBounds_0 rfl (lv_at hl 0 rfl) ?_
  refine lv_iconst (v := iZ ((1 : Nat) : Int)) hx hb d_D_needBounds_1 (by decide) ?_
  refine lv_bipush (v := iZ ((16 : Nat) : Int)) hx hb d_D_needBounds_2 (by decide) ?_
  refine z_callSR (As := [.int (iZ (a)), .int (iZ ((1 : Nat) : Int)), .int (iZ ((16 : Nat) : Int))]) (rest := []) zTB Z (k_D_needNumber (a := a) (b := ((1 : Nat) : Int)) (c9 := ((16 : Nat) : Int)) (by omega)) ⟨ml_D_67, sm_D_needNumber, ini_D, co_D_needNumber⟩ zd_D_needNumber ⟨Nat.le_of_ble_eq_true rfl, Nat.le_of_ble_eq_true rfl⟩ hP hK hl.1 rfl (Nat.le_of_ble_eq_true rfl) d_D_needBounds_4 ⟨Nat.zero_le _, Nat.zero_le _⟩ ?_
  refine W.eq (g2 := F0 m 7 ls []) rfl ?_
  refine lv_iload_n hx hb d_D_needBounds_7 rfl (lv_at hl 1 rfl) ?_
  refine lv_iconst (v := iZ ((1 : Nat) : Int)) hx hb d_D_needBounds_8 (by decide) ?_
  refine lv_bipush (v := iZ ((16 : Nat) : Int)) hx hb d_D_needBounds_9 (by decide) ?_
  refine z_xS (As := [.int (iZ (b)), .int (iZ ((1 : Nat) : Int)), .int (iZ ((16 : Nat) : Int))]) (rest := []) Z (x_D_needNumber hl0 (a := b) (b := ((1 : Nat) : Int)) (c9 := ((16 : Nat) : Int)) (by omega)) ⟨ml_D_67, sm_D_needNumber, ini_D, co_D_needNumber⟩ zd_D_needNumber ⟨Nat.le_of_ble_eq_true rfl, Nat.le_of_ble_eq_true rfl⟩ hP hK hT hSt hl.1 rfl (Nat.le_of_ble_eq_true rfl) d_D_needBounds_11 ⟨Nat.le_of_ble_eq_true rfl, Nat.le_of_ble_eq_true rfl⟩ (fun q9 ce9 H9 hz9 hk9 hc9 hv9 hcl9 => ?_)
  exact z_xout Z htab hz9 hk9 hc9 hv9 hcl9

set_option maxHeartbeats 4000000 in
set_option maxRecDepth 100000 in
theorem k_D_commonDivisor {l : Launch} {D : va_G} {cI cZ cL : ClassId} {ws : va_W} {on ot : Nat} (h : 0 < ot ∧ on < 281474976710656 ∧ ot < 281474976710656) : zMr l TB D classes (tysW cI cZ cL) y_D_commonDivisor w_D_commonDivisor 0 0 [.long (lZ ((on : Nat) : Int)), .long (lZ ((ot : Nat) : Int))] (ws) (some (.long (lZ ((Nat.gcd on ot : Nat) : Int)))) := by
  refine z_ofR (by decide) (Nat.le_of_ble_eq_true rfl) ?_
  intro p e s m below meth c ls Z hP hK hl
  obtain ⟨hx, hb, hr, hml, hown, hts, hE, hlocks⟩ := id Z
  have hl : lv_has ls 11 [(0, .long (lZ ((on : Nat) : Int))), (2, .long (lZ ((ot : Nat) : Int)))] := hl
  have hC : ot * on < 2 ^ 99 := Nat.lt_of_le_of_lt (Nat.mul_le_mul (Nat.le_of_lt h.2.2) (Nat.le_of_lt h.2.1)) (by decide)
  refine lv_lload_n hx hb d_D_commonDivisor_0 rfl (lv_at hl 1 rfl) ?_
  refine lv_lstore (lv' := [(4, .long (lZ ((ot : Nat) : Int))), (0, .long (lZ ((on : Nat) : Int))), (2, .long (lZ ((ot : Nat) : Int)))]) hx hb d_D_commonDivisor_1 hl (by decide) rfl (fun ls hl => ?_)
  refine lv_lload_n hx hb d_D_commonDivisor_3 rfl (lv_at hl 1 rfl) ?_
  refine lv_lstore (lv' := [(6, .long (lZ ((on : Nat) : Int))), (4, .long (lZ ((ot : Nat) : Int))), (0, .long (lZ ((on : Nat) : Int))), (2, .long (lZ ((ot : Nat) : Int)))]) hx hb d_D_commonDivisor_4 hl (by decide) rfl (fun ls hl => ?_)
  refine lv_iconst (v := iZ ((0 : Nat) : Int)) hx hb d_D_commonDivisor_6 (by decide) ?_
  refine lv_istore (lv' := [(8, .int (iZ ((0 : Nat) : Int))), (6, .long (lZ ((on : Nat) : Int))), (4, .long (lZ ((ot : Nat) : Int))), (0, .long (lZ ((on : Nat) : Int))), (2, .long (lZ ((ot : Nat) : Int)))]) hx hb d_D_commonDivisor_7 hl (by decide) rfl (fun ls hl => ?_)
  have L9 : ∀ (N9 : Nat) (i : Nat) (lg : Nat) (sm : Nat) (ls : Array Slot), (i ≤ 100) → (lg < 281474976710656 ∧ sm < 281474976710656) → (Nat.gcd lg sm = Nat.gcd on ot) → (gcI (ot * on) i lg sm) → 100 - i < N9 → lv_has ls 11 [(0, .long (lZ ((on : Nat) : Int))), (2, .long (lZ ((ot : Nat) : Int))), (4, .long (lZ ((lg : Nat) : Int))), (6, .long (lZ ((sm : Nat) : Int))), (8, .int (iZ ((i : Nat) : Int)))] → W p l e (zRm 0 0) s m ([.long (lZ ((on : Nat) : Int)), .long (lZ ((ot : Nat) : Int))] : List Value).toArray below meth c s.heap [] 0 0 (MQ below (zQr (some (.long (lZ ((Nat.gcd on ot : Nat) : Int))))) ([.long (lZ ((on : Nat) : Int)), .long (lZ ((ot : Nat) : Int))] : List Value).toArray s 0 0 (fun _ => False)) (F0 m 9 ls []) := by
    intro N9
    induction N9 with
    | zero =>
      intro i lg sm ls hi hb9 hg hq hN9 hl
      exact absurd hN9 (Nat.not_lt_zero _)
    | succ N9 ih9 =>
      intro i lg sm ls hi hb9 hg hq hN9 hl
      refine lv_iload hx hb d_D_commonDivisor_9 (lv_at hl 4 rfl) ?_
      refine lv_bipush (v := iZ ((100 : Nat) : Int)) hx hb d_D_commonDivisor_11 (by decide) ?_
      refine z_icmp_ge (a := ((i : Nat) : Int)) (b := ((100 : Nat) : Int)) (tgt := 44) hx hb (by omega) d_D_commonDivisor_13 (by decide) (fun q13 => ?_) (fun q13 => ?_)
      · skip
        have hs0 : sm = 0 := gcI_100 (by rw [show (100 : Nat) = i by omega]; exact hq) hC
        refine lv_lload hx hb d_D_commonDivisor_44 (lv_at hl 2 rfl) ?_
        exact z_lretR Z d_D_commonDivisor_46 (lretN (by rw [← hg, hs0, Nat.gcd_zero_right]))
      · skip
        refine lv_lload hx hb d_D_commonDivisor_16 (lv_at hl 3 rfl) ?_
        refine lv_lconst (v := lZ ((0 : Nat) : Int)) hx hb d_D_commonDivisor_18 (by decide) ?_
        refine z_lcmp_eq (a := ((sm : Nat) : Int)) (b := ((0 : Nat) : Int)) (tgt := 44) (pc1 := 20) (pc4 := 23) hx hb (by omega) d_D_commonDivisor_19 rfl rfl d_D_commonDivisor_20 (by decide) (fun q19 => ?_) (fun q19 => ?_)
        · skip
          have hs0 : sm = 0 := by omega
          refine lv_lload hx hb d_D_commonDivisor_44 (lv_at hl 2 rfl) ?_
          exact z_lretR Z d_D_commonDivisor_46 (lretN (by rw [← hg, hs0, Nat.gcd_zero_right]))
        · skip
          refine lv_lload hx hb d_D_commonDivisor_23 (lv_at hl 2 rfl) ?_
          refine lv_lload hx hb d_D_commonDivisor_25 (lv_at hl 3 rfl) ?_
          refine z_lremN (u := lg) (v := sm) hx hb (by omega) d_D_commonDivisor_27 ?_
          refine lv_lstore (lv' := [(9, .long (lZ ((lg % sm : Nat) : Int))), (0, .long (lZ ((on : Nat) : Int))), (2, .long (lZ ((ot : Nat) : Int))), (4, .long (lZ ((lg : Nat) : Int))), (6, .long (lZ ((sm : Nat) : Int))), (8, .int (iZ ((i : Nat) : Int)))]) hx hb d_D_commonDivisor_28 hl (by decide) rfl (fun ls hl => ?_)
          refine lv_lload hx hb d_D_commonDivisor_30 (lv_at hl 4 rfl) ?_
          refine lv_lstore (lv' := [(4, .long (lZ ((sm : Nat) : Int))), (9, .long (lZ ((lg % sm : Nat) : Int))), (0, .long (lZ ((on : Nat) : Int))), (2, .long (lZ ((ot : Nat) : Int))), (6, .long (lZ ((sm : Nat) : Int))), (8, .int (iZ ((i : Nat) : Int)))]) hx hb d_D_commonDivisor_32 hl (by decide) rfl (fun ls hl => ?_)
          refine lv_lload hx hb d_D_commonDivisor_34 (lv_at hl 1 rfl) ?_
          refine lv_lstore (lv' := [(6, .long (lZ ((lg % sm : Nat) : Int))), (4, .long (lZ ((sm : Nat) : Int))), (9, .long (lZ ((lg % sm : Nat) : Int))), (0, .long (lZ ((on : Nat) : Int))), (2, .long (lZ ((ot : Nat) : Int))), (8, .int (iZ ((i : Nat) : Int)))]) hx hb d_D_commonDivisor_36 hl (by decide) rfl (fun ls hl => ?_)
          refine lv_iinc (v := iZ ((i + 1 : Nat) : Int)) (lv' := [(8, .int (iZ ((i + 1 : Nat) : Int))), (6, .long (lZ ((lg % sm : Nat) : Int))), (4, .long (lZ ((sm : Nat) : Int))), (9, .long (lZ ((lg % sm : Nat) : Int))), (0, .long (lZ ((on : Nat) : Int))), (2, .long (lZ ((ot : Nat) : Int)))]) hx hb d_D_commonDivisor_38 hl (k := 5) rfl (iZ_inc (i) 1) (by decide) rfl (fun ls hl => ?_)
          refine lv_goto (tgt := 9) hx hb d_D_commonDivisor_41 (by decide) ?_
          exact ih9 (i + 1) sm (lg % sm) ls (by omega) (⟨hb9.2, Nat.lt_trans (Nat.mod_lt lg (by omega)) hb9.2⟩) ((gc_step lg sm).trans hg) (gcI_s hq (by omega)) (by omega) (lv_sub hl [4, 5, 2, 1, 0] rfl)
  exact L9 (100 - 0 + 1) 0 ot on ls (Nat.zero_le _) (⟨h.2.2, h.2.1⟩) (Nat.gcd_comm _ _) (⟨h.1, Or.inl rfl, by show ot * on * 1 ≤ ot * on; omega⟩) (by omega) (lv_sub hl [3, 4, 2, 1, 0] rfl)

set_option maxHeartbeats 4000000 in
set_option maxRecDepth 100000 in
theorem k_D_toldPart {l : Launch} {D : va_G} {cI cZ cL : ClassId} {ws : va_W} {a : Int} {bl pt : Nat} (h : -281474976710656 < a ∧ a < 281474976710656 ∧ bl < 281474976710656 ∧ pt < 2) : zMr l TB D classes (tysW cI cZ cL) y_D_toldPart w_D_toldPart 1 40 [.long (lZ (a)), .long (lZ ((bl : Nat) : Int)), .int (iZ ((pt : Nat) : Int))] (ws) (some (.long (lZ (sTP a bl pt)))) := by
  refine z_ofR (by decide) (Nat.le_of_ble_eq_true rfl) ?_
  intro p e s m below meth c ls Z hP hK hl
  obtain ⟨hx, hb, hr, hml, hown, hts, hE, hlocks⟩ := id Z
  have hl : lv_has ls 7 [(0, .long (lZ (a))), (2, .long (lZ ((bl : Nat) : Int))), (4, .int (iZ ((pt : Nat) : Int)))] := hl
  refine lv_lload_n hx hb d_D_toldPart_0 rfl (lv_at hl 1 rfl) ?_
  refine lv_lconst (v := lZ ((1 : Nat) : Int)) hx hb d_D_toldPart_1 (by decide) ?_
  refine z_lcmp_ge (a := ((bl : Nat) : Int)) (b := ((1 : Nat) : Int)) (tgt := 17) (pc1 := 3) (pc4 := 6) hx hb (by omega) d_D_toldPart_2 rfl rfl d_D_toldPart_3 (by decide) (fun q2 => ?_) (fun q2 => ?_)
  · skip
    refine lv_lload_n hx hb d_D_toldPart_17 rfl (lv_at hl 0 rfl) ?_
    refine va_mabs_long hx hb (Z.2.2.2.1.trans hl.1.symm) hown (hts _ ml9_D_187) (hts _ sm_Math_absJ9) (hts _ ini_Math) (hts _ co_Math_absJ9) (Nat.le_of_ble_eq_true rfl) (Nat.le_of_ble_eq_true rfl) (Nat.zero_le _) (Nat.zero_le _) d_D_toldPart_18 ?_
    refine z_topL (b := lZ (((a).natAbs : Nat) : Int)) (z_absL (by omega)) ?_
    refine W.eq (g2 := F0 m 21 ls [.long (lZ (((a).natAbs : Nat) : Int))]) rfl ?_
    refine lv_lload_n hx hb d_D_toldPart_21 rfl (lv_at hl 1 rfl) ?_
    refine z_callSR (As := [.long (lZ (((a).natAbs : Nat) : Int)), .long (lZ ((bl : Nat) : Int))]) (rest := []) zTB Z (k_D_commonDivisor (on := (a).natAbs) (ot := bl) (by omega)) ⟨ml_D_190, sm_D_commonDivisor, ini_D, co_D_commonDivisor⟩ zd_D_commonDivisor ⟨Nat.le_of_ble_eq_true rfl, Nat.le_of_ble_eq_true rfl⟩ hP hK hl.1 rfl (Nat.le_of_ble_eq_true rfl) d_D_toldPart_22 ⟨Nat.zero_le _, Nat.zero_le _⟩ ?_
    refine W.eq (g2 := F0 m 25 ls [.long (lZ ((Nat.gcd ((a).natAbs) bl : Nat) : Int))]) rfl ?_
    have hgp : 0 < Nat.gcd (a).natAbs bl := Nat.gcd_pos_of_pos_right _ (by omega)
    have hgl : Nat.gcd (a).natAbs bl ≤ bl := Nat.gcd_le_right _ (by omega)
    refine lv_lstore (lv' := [(5, .long (lZ ((Nat.gcd ((a).natAbs) bl : Nat) : Int))), (0, .long (lZ (a))), (2, .long (lZ ((bl : Nat) : Int))), (4, .int (iZ ((pt : Nat) : Int)))]) hx hb d_D_toldPart_25 hl (by decide) rfl (fun ls hl => ?_)
    refine lv_lload hx hb d_D_toldPart_27 (lv_at hl 0 rfl) ?_
    refine lv_lconst (v := lZ ((1 : Nat) : Int)) hx hb d_D_toldPart_29 (by decide) ?_
    refine z_lcmp_ge (a := ((Nat.gcd ((a).natAbs) bl : Nat) : Int)) (b := ((1 : Nat) : Int)) (tgt := 45) (pc1 := 31) (pc4 := 34) hx hb (by omega) d_D_toldPart_30 rfl rfl d_D_toldPart_31 (by decide) (fun q30 => ?_) (fun q30 => ?_)
    · skip
      refine lv_iload hx hb d_D_toldPart_45 (lv_at hl 3 rfl) ?_
      refine z_if_ne (a := ((pt : Nat) : Int)) (tgt := 57) hx hb (by omega) d_D_toldPart_47 (by decide) (fun q47 => ?_) (fun q47 => ?_)
      · skip
        refine lv_lload_n hx hb d_D_toldPart_57 rfl (lv_at hl 2 rfl) ?_
        refine lv_lload hx hb d_D_toldPart_58 (lv_at hl 0 rfl) ?_
        refine z_ldiv (a := ((bl : Nat) : Int)) (b := ((Nat.gcd ((a).natAbs) bl : Nat) : Int)) hx hb (by omega) d_D_toldPart_60 ?_
        exact z_lretR Z d_D_toldPart_61 (lretZ (by unfold sTP; rw [if_neg (by omega)]; first | (rw [if_pos (by omega)]; done) | (rw [if_neg (by omega)]; done)))
      · skip
        refine lv_lload_n hx hb d_D_toldPart_50 rfl (lv_at hl 1 rfl) ?_
        refine lv_lload hx hb d_D_toldPart_51 (lv_at hl 0 rfl) ?_
        refine z_ldiv (a := a) (b := ((Nat.gcd ((a).natAbs) bl : Nat) : Int)) hx hb (by omega) d_D_toldPart_53 ?_
        refine lv_goto (tgt := 61) hx hb d_D_toldPart_54 (by decide) ?_
        exact z_lretR Z d_D_toldPart_61 (lretZ (by unfold sTP; rw [if_neg (by omega)]; first | (rw [if_pos (by omega)]; done) | (rw [if_neg (by omega)]; done)))
    · skip
      exfalso; omega
  · skip
    refine lv_iload hx hb d_D_toldPart_6 (lv_at hl 2 rfl) ?_
    refine z_if_ne (a := ((pt : Nat) : Int)) (tgt := 15) hx hb (by omega) d_D_toldPart_8 (by decide) (fun q8 => ?_) (fun q8 => ?_)
    · skip
      refine lv_lconst (v := lZ ((1 : Nat) : Int)) hx hb d_D_toldPart_15 (by decide) ?_
      exact z_lretR Z d_D_toldPart_16 (lretZ (by unfold sTP; rw [if_pos (by omega)]; first | (rw [if_pos (by omega)]; rfl) | (rw [if_neg (by omega)]; rfl)))
    · skip
      refine lv_lconst (v := lZ ((0 : Nat) : Int)) hx hb d_D_toldPart_11 (by decide) ?_
      refine lv_goto (tgt := 16) hx hb d_D_toldPart_12 (by decide) ?_
      exact z_lretR Z d_D_toldPart_16 (lretZ (by unfold sTP; rw [if_pos (by omega)]; first | (rw [if_pos (by omega)]; rfl) | (rw [if_neg (by omega)]; rfl)))

