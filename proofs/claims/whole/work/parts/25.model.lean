/-! The reference: what binds its rows to the journal; its reading methods. -/
abbrev msh (M : SM) : Nat → Nat := M.2.1
abbrev mmy (M : SM) : Nat → Nat := M.2.2.1
abbrev mla (M : SM) : Nat → Nat := M.2.2.2.1
abbrev mfi (M : SM) : Nat → Nat := M.2.2.2.2.1
abbrev mse (M : SM) : Nat → Nat := M.2.2.2.2.2.1
abbrev mrw (M : SM) : Nat → Int := M.2.2.2.2.2.2.1
abbrev mwy (M : SM) : Nat → Nat := M.2.2.2.2.2.2.2.1
abbrev mnx (M : SM) : Nat → Nat := M.2.2.2.2.2.2.2.2
def MP (J : SJ) (M : SM) (p : Nat) : Prop := mfi M p < jn J ∧ mse M p < jn J ∧ msh M (mfi M p) = jsp J p ∧ jdv J (mse M p) = !(jdv J (mfi M p)) ∧ jdh J p = (if jdv J (mfi M p) = true then mfi M p else mse M p) ∧ jph J p = (if jdv J (mfi M p) = true then mse M p else mfi M p)
def MO (J : SJ) (M : SM) (s : Nat) : Prop := (mmy M s % 2 = 0 → jop J s = -1) ∧ (mmy M s % 2 = 1 → jop J s = ((mla M s : Nat) : Int) ∧ mla M s < jn J ∧ msh M (mla M s) = s) ∧ mmy M s ≤ jn J
def MJ (J : SJ) (M : SM) : Prop := (∀ p, p < jk J → MP J M p) ∧ (∀ s, s < 4 → MO J M s) ∧ 2 * jk J + (mmy M 0 % 2 + mmy M 1 % 2 + mmy M 2 % 2 + mmy M 3 % 2) = jn J
theorem wdM_map {ad : Nat → Nat} {cI cZ cL : ClassId} {J0 J J' : SJ} {rd0 rd rd' : Nat → Int} {pr0 pr pr' : Nat → Nat} {G0 : SH} {K0 : SK} {M M' : SM} {ov ov' : Nat → Int64} : (wdC ad cI cZ cL J0 rd0 pr0 G0 K0 (wdM ad cI cZ cL J rd pr M ov)).map (·.1) = (wdC ad cI cZ cL J0 rd0 pr0 G0 K0 (wdM ad cI cZ cL J' rd' pr' M' ov')).map (·.1) := rfl
section ZMD
variable {p : Program} {l : Launch} {e : Env} {R : Room} {s : State} {m : MethodId} {args : Array Value} {below : List Frame} {meth : Method} {c : Code} {H : Heap} {locs : List Loc} {cells slots : Nat} {Q : State → Prop}
variable {cc : ByteArray} {pc : Nat} {ls : Array Slot} {rest : List Value}
theorem sh_31 : ∀ k, k < 32 → ((nI k &&& 31).toBitVec.smod 32).toNat = k := by decide +kernel
theorem z_iremN (hx : p.tables.exec = Jvm.exec) (hb : c.code = cc) {u v : Nat} (h : 0 < v ∧ u < 2147483648 ∧ v < 2147483648) (hdg : decode cc pc = .ok (.irem, 1)) (k : W p l e R s m args below meth c H locs cells slots Q (F0 m (pc + 1) ls (.int (iZ ((u % v : Nat) : Int)) :: rest))) : W p l e R s m args below meth c H locs cells slots Q (F0 m pc ls (.int (iZ ((v : Nat) : Int)) :: .int (iZ ((u : Nat) : Int)) :: rest)) := by
  refine lv_irem hx hb hdg (fun e => ?_) ?_
  · exact absurd ((iZ_eq (b := 0) (by omega) z0).mp e) (by omega)
  · rw [show iZ ((u : Nat) : Int) - iZ ((u : Nat) : Int) / iZ ((v : Nat) : Int) * iZ ((v : Nat) : Int) = iZ ((u % v : Nat) : Int) from by rw [sh_tn, sh_tn, sh_tn]; exact pk_rem (by omega) h.1 (by omega)]
    exact k
theorem z_ishl1 (hx : p.tables.exec = Jvm.exec) (hb : c.code = cc) {v : Nat} (h : v < 31) (hdg : decode cc pc = .ok (.ishl, 1)) (k : W p l e R s m args below meth c H locs cells slots Q (F0 m (pc + 1) ls (.int (iZ ((2 ^ v : Nat) : Int)) :: rest))) : W p l e R s m args below meth c H locs cells slots Q (F0 m pc ls (.int (iZ ((v : Nat) : Int)) :: .int (iZ ((1 : Nat) : Int)) :: rest)) := by
  refine lv_ishl hx hb hdg ?_
  have h2 : 2 ^ v < 2 ^ 32 := Nat.pow_lt_pow_right (by decide) (by omega)
  rw [show iZ ((1 : Nat) : Int) <<< (iZ ((v : Nat) : Int) &&& 31) = iZ ((2 ^ v : Nat) : Int) from by rw [sh_tn, sh_tn, sh_tn, pk_shlN _ v (sh_31 v (by omega)) (by omega), Nat.one_mul]]
  exact k
theorem z_ishrN (hx : p.tables.exec = Jvm.exec) (hb : c.code = cc) {u v : Nat} (h : v < 32 ∧ u < 2147483648) (hdg : decode cc pc = .ok (.ishr, 1)) (k : W p l e R s m args below meth c H locs cells slots Q (F0 m (pc + 1) ls (.int (iZ ((u / 2 ^ v : Nat) : Int)) :: rest))) : W p l e R s m args below meth c H locs cells slots Q (F0 m pc ls (.int (iZ ((v : Nat) : Int)) :: .int (iZ ((u : Nat) : Int)) :: rest)) := by
  refine lv_ishr hx hb hdg ?_
  rw [show iZ ((u : Nat) : Int) >>> (iZ ((v : Nat) : Int) &&& 31) = iZ ((u / 2 ^ v : Nat) : Int) from by rw [sh_tn, sh_tn, sh_tn, pk_shrN (by omega) _ v (sh_31 v (by omega))]]
  exact k
theorem z_iand1 (hx : p.tables.exec = Jvm.exec) (hb : c.code = cc) {u : Nat} (h : u < 2147483648) (hdg : decode cc pc = .ok (.iand, 1)) (k : W p l e R s m args below meth c H locs cells slots Q (F0 m (pc + 1) ls (.int (iZ ((u % 2 : Nat) : Int)) :: rest))) : W p l e R s m args below meth c H locs cells slots Q (F0 m pc ls (.int (iZ ((1 : Nat) : Int)) :: .int (iZ ((u : Nat) : Int)) :: rest)) := by
  refine lv_iand hx hb hdg ?_
  rw [show iZ ((u : Nat) : Int) &&& iZ ((1 : Nat) : Int) = iZ ((u % 2 : Nat) : Int) from by rw [sh_tn, sh_tn, sh_tn, pk_andN (by omega) 1 (by decide)]]
  exact k
end ZMD
theorem mb_t {J : SJ} {M : SM} {p kd : Nat} (h : MP J M p) (q : jdv J (mfi M p) = true) : sDC J p kd = jct J (mfi M p * 3 + kd) ∧ sPC J p kd = jct J (mse M p * 3 + kd) := by
  obtain ⟨-, -, -, -, h5, h6⟩ := h
  unfold sDC sPC
  rw [h5, h6, if_pos q, if_pos q]
  exact ⟨rfl, rfl⟩
theorem mb_f {J : SJ} {M : SM} {p kd : Nat} (h : MP J M p) (q : jdv J (mfi M p) = false) : sDC J p kd = jct J (mse M p * 3 + kd) ∧ sPC J p kd = jct J (mfi M p * 3 + kd) := by
  obtain ⟨-, -, -, -, h5, h6⟩ := h
  unfold sDC sPC
  rw [h5, h6, if_neg (by rw [q]; decide), if_neg (by rw [q]; decide)]
  exact ⟨rfl, rfl⟩
theorem mk_eq {J : SJ} {M : SM} {p kd : Nat} (h : MP J M p) : sKp J p kd = decide ((0 < jct J (mfi M p * 3 + kd) ∨ 0 < jct J (mse M p * 3 + kd)) ∧ jou J (msh M (mfi M p)) = false) := by
  have h3 := h.2.2.1
  unfold sKp
  rw [h3]
  cases q : jdv J (mfi M p) with
  | true =>
    rw [(mb_t (kd := kd) h q).1, (mb_t (kd := kd) h q).2]
    generalize jct J (mfi M p * 3 + kd) = x1
    generalize jct J (mse M p * 3 + kd) = x2
    by_cases a1 : x1 = 0 <;> by_cases a2 : x2 = 0 <;> cases jou J (jsp J p) <;> simp [a1, a2, Nat.pos_iff_ne_zero]
  | false =>
    rw [(mb_f (kd := kd) h q).1, (mb_f (kd := kd) h q).2]
    generalize jct J (mfi M p * 3 + kd) = x1
    generalize jct J (mse M p * 3 + kd) = x2
    by_cases a1 : x1 = 0 <;> by_cases a2 : x2 = 0 <;> cases jou J (jsp J p) <;> simp [a1, a2, Nat.pos_iff_ne_zero]
theorem sKd_or (J : SJ) (p kd : Nat) : sKd J p kd = 0 ∨ sKd J p kd = sDf J p kd := by
  unfold sKd
  split
  · exact Or.inr rfl
  · exact Or.inl rfl
set_option maxHeartbeats 4000000 in
set_option maxRecDepth 100000 in
theorem k_M_isIn {l : Launch} {D : va_G} {cI cZ cL : ClassId} {ws : va_W} {a b : Int} (h : z32 a ∧ z32 b) : zMr l TB D classes (tysW cI cZ cL) y_M_isIn w_M_isIn 0 0 [.int (iZ (a)), .int (iZ (b))] (ws) (some (.int (bI (decide (0 ≤ a ∧ a < b))))) := by
  refine z_ofR (by decide) (Nat.le_of_ble_eq_true rfl) ?_
  intro p e s m below meth c ls Z hP hK hl
  obtain ⟨hx, hb, hr, hml, hown, hts, hE, hlocks⟩ := id Z
  have hl : lv_has ls 2 [(0, .int (iZ (a))), (1, .int (iZ (b)))] := hl
  refine lv_iload_n hx hb d_M_isIn_0 rfl (lv_at hl 0 rfl) ?_
  refine z_if_lt (a := a) (tgt := 13) hx hb (by omega) d_M_isIn_1 (by decide) (fun q1 => ?_) (fun q1 => ?_)
  · skip
    refine lv_iconst (v := iZ ((0 : Nat) : Int)) hx hb d_M_isIn_13 (by decide) ?_
    refine W.eq (g2 := F0 m 14 ls [.int (bI false)]) rfl ?_
    exact z_zretR Z d_M_isIn_14 (bret (by first | exact (decide_eq_true (by omega)).symm | exact (decide_eq_false (by omega)).symm))
  · skip
    refine lv_iload_n hx hb d_M_isIn_4 rfl (lv_at hl 0 rfl) ?_
    refine lv_iload_n hx hb d_M_isIn_5 rfl (lv_at hl 1 rfl) ?_
    refine z_icmp_ge (a := a) (b := b) (tgt := 13) hx hb (by omega) d_M_isIn_6 (by decide) (fun q6 => ?_) (fun q6 => ?_)
    · skip
      refine lv_iconst (v := iZ ((0 : Nat) : Int)) hx hb d_M_isIn_13 (by decide) ?_
      refine W.eq (g2 := F0 m 14 ls [.int (bI false)]) rfl ?_
      exact z_zretR Z d_M_isIn_14 (bret (by first | exact (decide_eq_true (by omega)).symm | exact (decide_eq_false (by omega)).symm))
    · skip
      refine lv_iconst (v := iZ ((1 : Nat) : Int)) hx hb d_M_isIn_9 (by decide) ?_
      refine lv_goto (tgt := 14) hx hb d_M_isIn_10 (by decide) ?_
      refine W.eq (g2 := F0 m 14 ls [.int (bI true)]) rfl ?_
      exact z_zretR Z d_M_isIn_14 (bret (by first | exact (decide_eq_true (by omega)).symm | exact (decide_eq_false (by omega)).symm))

set_option maxHeartbeats 4000000 in
set_option maxRecDepth 100000 in
theorem k_M_isBound {l : Launch} {D : va_G} {cI cZ cL : ClassId} {ws : va_W} {a : Int} (h : z32 a) : zMr l TB D classes (tysW cI cZ cL) y_M_isBound w_M_isBound 0 0 [.int (iZ (a))] (ws) (some (.int (bI (decide (1 ≤ a ∧ a ≤ 16))))) := by
  refine z_ofR (by decide) (Nat.le_of_ble_eq_true rfl) ?_
  intro p e s m below meth c ls Z hP hK hl
  obtain ⟨hx, hb, hr, hml, hown, hts, hE, hlocks⟩ := id Z
  have hl : lv_has ls 1 [(0, .int (iZ (a)))] := hl
  refine lv_iload_n hx hb d_M_isBound_0 rfl (lv_at hl 0 rfl) ?_
  refine lv_iconst (v := iZ ((1 : Nat) : Int)) hx hb d_M_isBound_1 (by decide) ?_
  refine z_icmp_lt (a := a) (b := ((1 : Nat) : Int)) (tgt := 15) hx hb (by omega) d_M_isBound_2 (by decide) (fun q2 => ?_) (fun q2 => ?_)
  · skip
    refine lv_iconst (v := iZ ((0 : Nat) : Int)) hx hb d_M_isBound_15 (by decide) ?_
    refine W.eq (g2 := F0 m 16 ls [.int (bI false)]) rfl ?_
    exact z_zretR Z d_M_isBound_16 (bret (by first | exact (decide_eq_true (by omega)).symm | exact (decide_eq_false (by omega)).symm))
  · skip
    refine lv_iload_n hx hb d_M_isBound_5 rfl (lv_at hl 0 rfl) ?_
    refine lv_bipush (v := iZ ((16 : Nat) : Int)) hx hb d_M_isBound_6 (by decide) ?_
    refine z_icmp_gt (a := a) (b := ((16 : Nat) : Int)) (tgt := 15) hx hb (by omega) d_M_isBound_8 (by decide) (fun q8 => ?_) (fun q8 => ?_)
    · skip
      refine lv_iconst (v := iZ ((0 : Nat) : Int)) hx hb d_M_isBound_15 (by decide) ?_
      refine W.eq (g2 := F0 m 16 ls [.int (bI false)]) rfl ?_
      exact z_zretR Z d_M_isBound_16 (bret (by first | exact (decide_eq_true (by omega)).symm | exact (decide_eq_false (by omega)).symm))
    · skip
      refine lv_iconst (v := iZ ((1 : Nat) : Int)) hx hb d_M_isBound_11 (by decide) ?_
      refine lv_goto (tgt := 16) hx hb d_M_isBound_12 (by decide) ?_
      refine W.eq (g2 := F0 m 16 ls [.int (bI true)]) rfl ?_
      exact z_zretR Z d_M_isBound_16 (bret (by first | exact (decide_eq_true (by omega)).symm | exact (decide_eq_false (by omega)).symm))

set_option maxHeartbeats 4000000 in
set_option maxRecDepth 100000 in
theorem k_M_plain {l : Launch} {D : va_G} {cI cZ cL : ClassId} {ws : va_W} {a : Int} (h : -1000000 ≤ a ∧ a ≤ 1000000) : zMr l TB D classes (tysW cI cZ cL) y_M_plain w_M_plain 0 0 [.int (iZ (a))] (ws) (some (.int (iZ ((a.natAbs : Nat) : Int)))) := by
  refine z_ofR (by decide) (Nat.le_of_ble_eq_true rfl) ?_
  intro p e s m below meth c ls Z hP hK hl
  obtain ⟨hx, hb, hr, hml, hown, hts, hE, hlocks⟩ := id Z
  have hl : lv_has ls 1 [(0, .int (iZ (a)))] := hl
  refine lv_iload_n hx hb d_M_plain_0 rfl (lv_at hl 0 rfl) ?_
  refine z_if_ge (a := a) (tgt := 9) hx hb (by omega) d_M_plain_1 (by decide) (fun q1 => ?_) (fun q1 => ?_)
  · skip
    refine lv_iload_n hx hb d_M_plain_9 rfl (lv_at hl 0 rfl) ?_
    exact z_iretR Z d_M_plain_10 (iretZ (by omega))
  · skip
    refine lv_iload_n hx hb d_M_plain_4 rfl (lv_at hl 0 rfl) ?_
    refine z_ineg (a := a) hx hb d_M_plain_5 ?_
    refine lv_goto (tgt := 10) hx hb d_M_plain_6 (by decide) ?_
    exact z_iretR Z d_M_plain_10 (iretZ (by omega))

set_option maxHeartbeats 4000000 in
set_option maxRecDepth 100000 in
theorem k_M_part {l : Launch} {D : va_G} {cI cZ cL : ClassId} {ws : va_W} {a : Int} {bl pt : Nat} (h : -281474976710656 < a ∧ a < 281474976710656 ∧ bl < 281474976710656 ∧ pt < 2 ∧ 1 ≤ bl) : zMr l TB D classes (tysW cI cZ cL) y_M_part w_M_part 0 0 [.long (lZ (a)), .long (lZ ((bl : Nat) : Int)), .int (iZ ((pt : Nat) : Int))] (ws) (some (.long (lZ (sTP a bl pt)))) := by
  refine z_ofR (by decide) (Nat.le_of_ble_eq_true rfl) ?_
  intro p e s m below meth c ls Z hP hK hl
  obtain ⟨hx, hb, hr, hml, hown, hts, hE, hlocks⟩ := id Z
  have hl : lv_has ls 11 [(0, .long (lZ (a))), (2, .long (lZ ((bl : Nat) : Int))), (4, .int (iZ ((pt : Nat) : Int)))] := hl
  refine lv_lload_n hx hb d_M_part_0 rfl (lv_at hl 0 rfl) ?_
  refine lv_lconst (v := lZ ((0 : Nat) : Int)) hx hb d_M_part_1 (by decide) ?_
  refine z_lcmp_ge (a := a) (b := ((0 : Nat) : Int)) (tgt := 11) (pc1 := 3) (pc4 := 6) hx hb (by omega) d_M_part_2 rfl rfl d_M_part_3 (by decide) (fun q2 => ?_) (fun q2 => ?_)
  · skip
    refine lv_lload_n hx hb d_M_part_11 rfl (lv_at hl 0 rfl) ?_
    refine z_topL (b := lZ (((a).natAbs : Nat) : Int)) (congrArg lZ (by omega)) ?_
    refine lv_lstore (lv' := [(5, .long (lZ (((a).natAbs : Nat) : Int))), (0, .long (lZ (a))), (2, .long (lZ ((bl : Nat) : Int))), (4, .int (iZ ((pt : Nat) : Int)))]) hx hb d_M_part_12 hl (by decide) rfl (fun ls hl => ?_)
    refine lv_lload_n hx hb d_M_part_14 rfl (lv_at hl 2 rfl) ?_
    refine lv_lstore (lv' := [(7, .long (lZ ((bl : Nat) : Int))), (5, .long (lZ (((a).natAbs : Nat) : Int))), (0, .long (lZ (a))), (2, .long (lZ ((bl : Nat) : Int))), (4, .int (iZ ((pt : Nat) : Int)))]) hx hb d_M_part_15 hl (by decide) rfl (fun ls hl => ?_)
    have L17 : ∀ (N17 : Nat) (u : Nat) (v : Nat) (ls : Array Slot), (u < 281474976710656 ∧ v < 281474976710656 ∧ (0 < u ∨ 0 < v)) → (Nat.gcd u v = Nat.gcd a.natAbs bl) → v < N17 → lv_has ls 11 [(0, .long (lZ (a))), (2, .long (lZ ((bl : Nat) : Int))), (4, .int (iZ ((pt : Nat) : Int))), (5, .long (lZ ((u : Nat) : Int))), (7, .long (lZ ((v : Nat) : Int)))] → W p l e (zRm 0 0) s m ([.long (lZ (a)), .long (lZ ((bl : Nat) : Int)), .int (iZ ((pt : Nat) : Int))] : List Value).toArray below meth c s.heap [] 0 0 (MQ below (zQr (some (.long (lZ (sTP a bl pt))))) ([.long (lZ (a)), .long (lZ ((bl : Nat) : Int)), .int (iZ ((pt : Nat) : Int))] : List Value).toArray s 0 0 (fun _ => False)) (F0 m 17 ls []) := by
      intro N17
      induction N17 with
      | zero =>
        intro u v ls hb9 hg hN17 hl
        exact absurd hN17 (Nat.not_lt_zero _)
      | succ N17 ih17 =>
        intro u v ls hb9 hg hN17 hl
        have hmd : 0 < v → u % v < v := fun hv => Nat.mod_lt u hv
        refine lv_lload hx hb d_M_part_17 (lv_at hl 4 rfl) ?_
        refine lv_lconst (v := lZ ((0 : Nat) : Int)) hx hb d_M_part_19 (by decide) ?_
        refine z_lcmp_eq (a := ((v : Nat) : Int)) (b := ((0 : Nat) : Int)) (tgt := 42) (pc1 := 21) (pc4 := 24) hx hb (by omega) d_M_part_20 rfl rfl d_M_part_21 (by decide) (fun q20 => ?_) (fun q20 => ?_)
        · skip
          have hv0 : v = 0 := by omega
          rw [hv0, Nat.gcd_zero_right] at hg
          refine lv_iload hx hb d_M_part_42 (lv_at hl 2 rfl) ?_
          refine z_if_ne (a := ((pt : Nat) : Int)) (tgt := 54) hx hb (by omega) d_M_part_44 (by decide) (fun q44 => ?_) (fun q44 => ?_)
          · skip
            refine lv_lload_n hx hb d_M_part_54 rfl (lv_at hl 1 rfl) ?_
            refine lv_lload hx hb d_M_part_55 (lv_at hl 3 rfl) ?_
            refine z_ldiv (a := ((bl : Nat) : Int)) (b := ((u : Nat) : Int)) hx hb (by omega) d_M_part_57 ?_
            exact z_lretR Z d_M_part_58 (lretZ (by unfold sTP; rw [if_neg (by omega), ← hg]; first | (rw [if_pos (by omega)]; done) | (rw [if_neg (by omega)]; done)))
          · skip
            refine lv_lload_n hx hb d_M_part_47 rfl (lv_at hl 0 rfl) ?_
            refine lv_lload hx hb d_M_part_48 (lv_at hl 3 rfl) ?_
            refine z_ldiv (a := a) (b := ((u : Nat) : Int)) hx hb (by omega) d_M_part_50 ?_
            refine lv_goto (tgt := 58) hx hb d_M_part_51 (by decide) ?_
            exact z_lretR Z d_M_part_58 (lretZ (by unfold sTP; rw [if_neg (by omega), ← hg]; first | (rw [if_pos (by omega)]; done) | (rw [if_neg (by omega)]; done)))
        · skip
          refine lv_lload hx hb d_M_part_24 (lv_at hl 3 rfl) ?_
          refine lv_lload hx hb d_M_part_26 (lv_at hl 4 rfl) ?_
          refine z_lremN (u := u) (v := v) hx hb (by omega) d_M_part_28 ?_
          refine lv_lstore (lv' := [(9, .long (lZ ((u % v : Nat) : Int))), (0, .long (lZ (a))), (2, .long (lZ ((bl : Nat) : Int))), (4, .int (iZ ((pt : Nat) : Int))), (5, .long (lZ ((u : Nat) : Int))), (7, .long (lZ ((v : Nat) : Int)))]) hx hb d_M_part_29 hl (by decide) rfl (fun ls hl => ?_)
          refine lv_lload hx hb d_M_part_31 (lv_at hl 5 rfl) ?_
          refine lv_lstore (lv' := [(5, .long (lZ ((v : Nat) : Int))), (9, .long (lZ ((u % v : Nat) : Int))), (0, .long (lZ (a))), (2, .long (lZ ((bl : Nat) : Int))), (4, .int (iZ ((pt : Nat) : Int))), (7, .long (lZ ((v : Nat) : Int)))]) hx hb d_M_part_33 hl (by decide) rfl (fun ls hl => ?_)
          refine lv_lload hx hb d_M_part_35 (lv_at hl 1 rfl) ?_
          refine lv_lstore (lv' := [(7, .long (lZ ((u % v : Nat) : Int))), (5, .long (lZ ((v : Nat) : Int))), (9, .long (lZ ((u % v : Nat) : Int))), (0, .long (lZ (a))), (2, .long (lZ ((bl : Nat) : Int))), (4, .int (iZ ((pt : Nat) : Int)))]) hx hb d_M_part_37 hl (by decide) rfl (fun ls hl => ?_)
          refine lv_goto (tgt := 17) hx hb d_M_part_39 (by decide) ?_
          exact ih17 v (u % v) ls (by have := hmd (by omega); omega) ((gc_step u v).trans hg) (by omega) (lv_sub hl [3, 4, 5, 1, 0] rfl)
    exact L17 (bl + 1) ((a).natAbs) bl ls (by omega) rfl (by omega) (lv_sub hl [2, 3, 4, 1, 0] rfl)
  · skip
    refine lv_lload_n hx hb d_M_part_6 rfl (lv_at hl 0 rfl) ?_
    refine lv_lneg hx hb d_M_part_7 ?_
    refine z_topL (b := lZ (-a)) (lZ_neg _) ?_
    refine lv_goto (tgt := 12) hx hb d_M_part_8 (by decide) ?_
    refine z_topL (b := lZ (((a).natAbs : Nat) : Int)) (congrArg lZ (by omega)) ?_
    refine lv_lstore (lv' := [(5, .long (lZ (((a).natAbs : Nat) : Int))), (0, .long (lZ (a))), (2, .long (lZ ((bl : Nat) : Int))), (4, .int (iZ ((pt : Nat) : Int)))]) hx hb d_M_part_12 hl (by decide) rfl (fun ls hl => ?_)
    refine lv_lload_n hx hb d_M_part_14 rfl (lv_at hl 2 rfl) ?_
    refine lv_lstore (lv' := [(7, .long (lZ ((bl : Nat) : Int))), (5, .long (lZ (((a).natAbs : Nat) : Int))), (0, .long (lZ (a))), (2, .long (lZ ((bl : Nat) : Int))), (4, .int (iZ ((pt : Nat) : Int)))]) hx hb d_M_part_15 hl (by decide) rfl (fun ls hl => ?_)
    have L17 : ∀ (N17 : Nat) (u : Nat) (v : Nat) (ls : Array Slot), (u < 281474976710656 ∧ v < 281474976710656 ∧ (0 < u ∨ 0 < v)) → (Nat.gcd u v = Nat.gcd a.natAbs bl) → v < N17 → lv_has ls 11 [(0, .long (lZ (a))), (2, .long (lZ ((bl : Nat) : Int))), (4, .int (iZ ((pt : Nat) : Int))), (5, .long (lZ ((u : Nat) : Int))), (7, .long (lZ ((v : Nat) : Int)))] → W p l e (zRm 0 0) s m ([.long (lZ (a)), .long (lZ ((bl : Nat) : Int)), .int (iZ ((pt : Nat) : Int))] : List Value).toArray below meth c s.heap [] 0 0 (MQ below (zQr (some (.long (lZ (sTP a bl pt))))) ([.long (lZ (a)), .long (lZ ((bl : Nat) : Int)), .int (iZ ((pt : Nat) : Int))] : List Value).toArray s 0 0 (fun _ => False)) (F0 m 17 ls []) := by
      intro N17
      induction N17 with
      | zero =>
        intro u v ls hb9 hg hN17 hl
        exact absurd hN17 (Nat.not_lt_zero _)
      | succ N17 ih17 =>
        intro u v ls hb9 hg hN17 hl
        have hmd : 0 < v → u % v < v := fun hv => Nat.mod_lt u hv
        refine lv_lload hx hb d_M_part_17 (lv_at hl 4 rfl) ?_
        refine lv_lconst (v := lZ ((0 : Nat) : Int)) hx hb d_M_part_19 (by decide) ?_
        refine z_lcmp_eq (a := ((v : Nat) : Int)) (b := ((0 : Nat) : Int)) (tgt := 42) (pc1 := 21) (pc4 := 24) hx hb (by omega) d_M_part_20 rfl rfl d_M_part_21 (by decide) (fun q20 => ?_) (fun q20 => ?_)
        · skip
          have hv0 : v = 0 := by omega
          rw [hv0, Nat.gcd_zero_right] at hg
          refine lv_iload hx hb d_M_part_42 (lv_at hl 2 rfl) ?_
          refine z_if_ne (a := ((pt : Nat) : Int)) (tgt := 54) hx hb (by omega) d_M_part_44 (by decide) (fun q44 => ?_) (fun q44 => ?_)
          · skip
            refine lv_lload_n hx hb d_M_part_54 rfl (lv_at hl 1 rfl) ?_
            refine lv_lload hx hb d_M_part_55 (lv_at hl 3 rfl) ?_
            refine z_ldiv (a := ((bl : Nat) : Int)) (b := ((u : Nat) : Int)) hx hb (by omega) d_M_part_57 ?_
            exact z_lretR Z d_M_part_58 (lretZ (by unfold sTP; rw [if_neg (by omega), ← hg]; first | (rw [if_pos (by omega)]; done) | (rw [if_neg (by omega)]; done)))
          · skip
            refine lv_lload_n hx hb d_M_part_47 rfl (lv_at hl 0 rfl) ?_
            refine lv_lload hx hb d_M_part_48 (lv_at hl 3 rfl) ?_
            refine z_ldiv (a := a) (b := ((u : Nat) : Int)) hx hb (by omega) d_M_part_50 ?_
            refine lv_goto (tgt := 58) hx hb d_M_part_51 (by decide) ?_
            exact z_lretR Z d_M_part_58 (lretZ (by unfold sTP; rw [if_neg (by omega), ← hg]; first | (rw [if_pos (by omega)]; done) | (rw [if_neg (by omega)]; done)))
        · skip
          refine lv_lload hx hb d_M_part_24 (lv_at hl 3 rfl) ?_
          refine lv_lload hx hb d_M_part_26 (lv_at hl 4 rfl) ?_
          refine z_lremN (u := u) (v := v) hx hb (by omega) d_M_part_28 ?_
          refine lv_lstore (lv' := [(9, .long (lZ ((u % v : Nat) : Int))), (0, .long (lZ (a))), (2, .long (lZ ((bl : Nat) : Int))), (4, .int (iZ ((pt : Nat) : Int))), (5, .long (lZ ((u : Nat) : Int))), (7, .long (lZ ((v : Nat) : Int)))]) hx hb d_M_part_29 hl (by decide) rfl (fun ls hl => ?_)
          refine lv_lload hx hb d_M_part_31 (lv_at hl 5 rfl) ?_
          refine lv_lstore (lv' := [(5, .long (lZ ((v : Nat) : Int))), (9, .long (lZ ((u % v : Nat) : Int))), (0, .long (lZ (a))), (2, .long (lZ ((bl : Nat) : Int))), (4, .int (iZ ((pt : Nat) : Int))), (7, .long (lZ ((v : Nat) : Int)))]) hx hb d_M_part_33 hl (by decide) rfl (fun ls hl => ?_)
          refine lv_lload hx hb d_M_part_35 (lv_at hl 1 rfl) ?_
          refine lv_lstore (lv' := [(7, .long (lZ ((u % v : Nat) : Int))), (5, .long (lZ ((v : Nat) : Int))), (9, .long (lZ ((u % v : Nat) : Int))), (0, .long (lZ (a))), (2, .long (lZ ((bl : Nat) : Int))), (4, .int (iZ ((pt : Nat) : Int)))]) hx hb d_M_part_37 hl (by decide) rfl (fun ls hl => ?_)
          refine lv_goto (tgt := 17) hx hb d_M_part_39 (by decide) ?_
          exact ih17 v (u % v) ls (by have := hmd (by omega); omega) ((gc_step u v).trans hg) (by omega) (lv_sub hl [3, 4, 5, 1, 0] rfl)
    exact L17 (bl + 1) ((a).natAbs) bl ls (by omega) rfl (by omega) (lv_sub hl [2, 3, 4, 1, 0] rfl)

set_option maxHeartbeats 4000000 in
set_option maxRecDepth 100000 in
theorem k_M_thrown {l : Launch} {D : va_G} {ad : Nat → Nat} {cI cZ cL : ClassId} {J J0 : SJ} {rd rd0 : Nat → Int} {pr pr0 : Nat → Nat} {G0 : SH} {K0 : SK} {M : SM} {ov : Nat → Int64} : zMr l TB D classes (tysW cI cZ cL) y_M_thrown w_M_thrown 0 0 [.ref (ad 19)] (wdC ad cI cZ cL J0 rd0 pr0 G0 K0 (wdM ad cI cZ cL J rd pr M ov)) (some (.int (iZ ((M.1 : Nat) : Int)))) := by
  refine z_ofR (by decide) (Nat.le_of_ble_eq_true rfl) ?_
  intro p e s m below meth c ls Z hP hK hl
  obtain ⟨hx, hb, hr, hml, hown, hts, hE, hlocks⟩ := id Z
  have hl : lv_has ls 1 [(0, .ref (ad 19))] := hl
  refine lv_aload_n hx hb d_M_thrown_0 rfl (lv_at hl 0 rfl) ?_
  refine va_get (D := D) (ci := 5) (v := .int (iZ ((M.1 : Nat) : Int))) (C := n_M) (T := f_M) (N := 17) hx hb hts in_M hown hK hP 19 rfl rfl 0 (by decide) (hts _ fl_M_55) (fun _ h9 => h9) rfl d_M_thrown_1 ?_
  exact z_iretR Z d_M_thrown_4 (rfl)

set_option maxHeartbeats 4000000 in
set_option maxRecDepth 100000 in
theorem k_M_by {l : Launch} {D : va_G} {ad : Nat → Nat} {cI cZ cL : ClassId} {J J0 : SJ} {rd rd0 : Nat → Int} {pr pr0 : Nat → Nat} {G0 : SH} {K0 : SK} {M : SM} {ov : Nat → Int64} (hI : JI J) (hM : MJ J M) {pp kd : Nat} (hp : pp < jk J) (hkd : kd < 3) : zMr l TB D classes (tysW cI cZ cL) y_M_by w_M_by 0 0 [.ref (ad 19), .int (iZ ((pp : Nat) : Int)), .int (iZ ((kd : Nat) : Int))] (wdC ad cI cZ cL J0 rd0 pr0 G0 K0 (wdM ad cI cZ cL J rd pr M ov)) (some (.int (iZ (sDf J pp kd)))) := by
  refine z_ofR (by decide) (Nat.le_of_ble_eq_true rfl) ?_
  intro p e s m below meth c ls Z hP hK hl
  obtain ⟨hx, hb, hr, hml, hown, hts, hE, hlocks⟩ := id Z
  have hl : lv_has ls 4 [(0, .ref (ad 19)), (1, .int (iZ ((pp : Nat) : Int))), (2, .int (iZ ((kd : Nat) : Int)))] := hl
  obtain ⟨hn32, hk2, hpr, hct⟩ := id hI
  have hMp := hM.1 pp hp
  have hf1 := hMp.1
  have hf2 := hMp.2.1
  have hf3 := hMp.2.2.1
  have hf4 := (hpr pp hp).2.2
  have hc1 := hct (mfi M pp * 3 + kd)
  have hc2 := hct (mse M pp * 3 + kd)
  refine lv_aload_n hx hb d_M_by_0 rfl (lv_at hl 0 rfl) ?_
  refine va_get (D := D) (ci := 5) (v := .ref (ad 22)) (C := n_M) (T := f_M) (N := 17) hx hb hts in_M hown hK hP 19 rfl rfl 5 (by decide) (hts _ fl_M_17) (fun _ h9 => h9) rfl d_M_by_1 ?_
  refine lv_iconst (v := iZ ((3 : Nat) : Int)) hx hb d_M_by_4 (by decide) ?_
  refine lv_aload_n hx hb d_M_by_5 rfl (lv_at hl 0 rfl) ?_
  refine va_get (D := D) (ci := 5) (v := .ref (ad 25)) (C := n_M) (T := f_M) (N := 17) hx hb hts in_M hown hK hP 19 rfl rfl 9 (by decide) (hts _ fl_M_26) (fun _ h9 => h9) rfl d_M_by_6 ?_
  refine lv_iload_n hx hb d_M_by_9 rfl (lv_at hl 1 rfl) ?_
  refine z_ialdN (f := mfi M) hx hb hK hP 25 0 rfl rfl (pp) (by omega) d_M_by_10 ?_
  refine z_imulN (u := 3) (v := (mfi M) (pp)) hx hb d_M_by_11 ?_
  refine lv_iload_n hx hb d_M_by_12 rfl (lv_at hl 2 rfl) ?_
  refine z_iaddN (u := 3 * ((mfi M) (pp))) (v := kd) hx hb d_M_by_13 ?_
  refine z_ialdN (f := jct J) hx hb hK hP 22 0 rfl rfl (mfi M pp * 3 + kd) (by omega) d_M_by_14 ?_
  refine lv_aload_n hx hb d_M_by_15 rfl (lv_at hl 0 rfl) ?_
  refine va_get (D := D) (ci := 5) (v := .ref (ad 22)) (C := n_M) (T := f_M) (N := 17) hx hb hts in_M hown hK hP 19 rfl rfl 5 (by decide) (hts _ fl_M_17) (fun _ h9 => h9) rfl d_M_by_16 ?_
  refine lv_iconst (v := iZ ((3 : Nat) : Int)) hx hb d_M_by_19 (by decide) ?_
  refine lv_aload_n hx hb d_M_by_20 rfl (lv_at hl 0 rfl) ?_
  refine va_get (D := D) (ci := 5) (v := .ref (ad 26)) (C := n_M) (T := f_M) (N := 17) hx hb hts in_M hown hK hP 19 rfl rfl 10 (by decide) (hts _ fl_M_29) (fun _ h9 => h9) rfl d_M_by_21 ?_
  refine lv_iload_n hx hb d_M_by_24 rfl (lv_at hl 1 rfl) ?_
  refine z_ialdN (f := mse M) hx hb hK hP 26 0 rfl rfl (pp) (by omega) d_M_by_25 ?_
  refine z_imulN (u := 3) (v := (mse M) (pp)) hx hb d_M_by_26 ?_
  refine lv_iload_n hx hb d_M_by_27 rfl (lv_at hl 2 rfl) ?_
  refine z_iaddN (u := 3 * ((mse M) (pp))) (v := kd) hx hb d_M_by_28 ?_
  refine z_ialdN (f := jct J) hx hb hK hP 22 0 rfl rfl (mse M pp * 3 + kd) (by omega) d_M_by_29 ?_
  refine z_isub (a := (((jct J) (mfi M pp * 3 + kd) : Nat) : Int)) (b := (((jct J) (mse M pp * 3 + kd) : Nat) : Int)) hx hb d_M_by_30 ?_
  refine lv_istore_n (lv' := [(3, .int (iZ ((((jct J) (mfi M pp * 3 + kd) : Nat) : Int) - (((jct J) (mse M pp * 3 + kd) : Nat) : Int)))), (0, .ref (ad 19)), (1, .int (iZ ((pp : Nat) : Int))), (2, .int (iZ ((kd : Nat) : Int)))]) hx hb d_M_by_31 rfl hl (by decide) rfl (fun ls hl => ?_)
  refine lv_aload_n hx hb d_M_by_32 rfl (lv_at hl 1 rfl) ?_
  refine va_get (D := D) (ci := 5) (v := .ref (ad 21)) (C := n_M) (T := f_M) (N := 17) hx hb hts in_M hown hK hP 19 rfl rfl 4 (by decide) (hts _ fl_M_13) (fun _ h9 => h9) rfl d_M_by_33 ?_
  refine lv_aload_n hx hb d_M_by_36 rfl (lv_at hl 1 rfl) ?_
  refine va_get (D := D) (ci := 5) (v := .ref (ad 25)) (C := n_M) (T := f_M) (N := 17) hx hb hts in_M hown hK hP 19 rfl rfl 9 (by decide) (hts _ fl_M_26) (fun _ h9 => h9) rfl d_M_by_37 ?_
  refine lv_iload_n hx hb d_M_by_40 rfl (lv_at hl 2 rfl) ?_
  refine z_ialdN (f := mfi M) hx hb hK hP 25 0 rfl rfl (pp) (by omega) d_M_by_41 ?_
  refine z_zald (f := jdv J) hx hb hK hP 21 1 rfl rfl ((mfi M) (pp)) (by omega) d_M_by_42 ?_
  refine z_if_eqB (b := (jdv J) ((mfi M) (pp))) (tgt := 50) hx hb d_M_by_43 (by decide) (fun q43 => ?_) (fun q43 => ?_)
  · skip
    refine lv_iload_n hx hb d_M_by_50 rfl (lv_at hl 0 rfl) ?_
    refine z_ineg (a := (((jct J) (mfi M pp * 3 + kd) : Nat) : Int) - (((jct J) (mse M pp * 3 + kd) : Nat) : Int)) hx hb d_M_by_51 ?_
    exact z_iretR Z d_M_by_52 (iretZ (by unfold sDf; first | (rw [(mb_t hMp q43).1, (mb_t hMp q43).2]; done) | (rw [(mb_f hMp q43).1, (mb_f hMp q43).2]; omega)))
  · skip
    refine lv_iload_n hx hb d_M_by_46 rfl (lv_at hl 0 rfl) ?_
    refine lv_goto (tgt := 52) hx hb d_M_by_47 (by decide) ?_
    exact z_iretR Z d_M_by_52 (iretZ (by unfold sDf; first | (rw [(mb_t hMp q43).1, (mb_t hMp q43).2]; done) | (rw [(mb_f hMp q43).1, (mb_f hMp q43).2]; omega)))

set_option maxHeartbeats 4000000 in
set_option maxRecDepth 100000 in
theorem k_M_isKept {l : Launch} {D : va_G} {ad : Nat → Nat} {cI cZ cL : ClassId} {J J0 : SJ} {rd rd0 : Nat → Int} {pr pr0 : Nat → Nat} {G0 : SH} {K0 : SK} {M : SM} {ov : Nat → Int64} (hI : JI J) (hM : MJ J M) {pp kd : Nat} (hp : pp < jk J) (hkd : kd < 3) : zMr l TB D classes (tysW cI cZ cL) y_M_isKept w_M_isKept 0 0 [.ref (ad 19), .int (iZ ((pp : Nat) : Int)), .int (iZ ((kd : Nat) : Int))] (wdC ad cI cZ cL J0 rd0 pr0 G0 K0 (wdM ad cI cZ cL J rd pr M ov)) (some (.int (bI (sKp J pp kd)))) := by
  refine z_ofR (by decide) (Nat.le_of_ble_eq_true rfl) ?_
  intro p e s m below meth c ls Z hP hK hl
  obtain ⟨hx, hb, hr, hml, hown, hts, hE, hlocks⟩ := id Z
  have hl : lv_has ls 4 [(0, .ref (ad 19)), (1, .int (iZ ((pp : Nat) : Int))), (2, .int (iZ ((kd : Nat) : Int)))] := hl
  obtain ⟨hn32, hk2, hpr, hct⟩ := id hI
  have hMp := hM.1 pp hp
  have hf1 := hMp.1
  have hf2 := hMp.2.1
  have hf3 := hMp.2.2.1
  have hf4 := (hpr pp hp).2.2
  have hc1 := hct (mfi M pp * 3 + kd)
  have hc2 := hct (mse M pp * 3 + kd)
  refine lv_aload_n hx hb d_M_isKept_0 rfl (lv_at hl 0 rfl) ?_
  refine va_get (D := D) (ci := 5) (v := .ref (ad 22)) (C := n_M) (T := f_M) (N := 17) hx hb hts in_M hown hK hP 19 rfl rfl 5 (by decide) (hts _ fl_M_17) (fun _ h9 => h9) rfl d_M_isKept_1 ?_
  refine lv_iconst (v := iZ ((3 : Nat) : Int)) hx hb d_M_isKept_4 (by decide) ?_
  refine lv_aload_n hx hb d_M_isKept_5 rfl (lv_at hl 0 rfl) ?_
  refine va_get (D := D) (ci := 5) (v := .ref (ad 25)) (C := n_M) (T := f_M) (N := 17) hx hb hts in_M hown hK hP 19 rfl rfl 9 (by decide) (hts _ fl_M_26) (fun _ h9 => h9) rfl d_M_isKept_6 ?_
  refine lv_iload_n hx hb d_M_isKept_9 rfl (lv_at hl 1 rfl) ?_
  refine z_ialdN (f := mfi M) hx hb hK hP 25 0 rfl rfl (pp) (by omega) d_M_isKept_10 ?_
  refine z_imulN (u := 3) (v := (mfi M) (pp)) hx hb d_M_isKept_11 ?_
  refine lv_iload_n hx hb d_M_isKept_12 rfl (lv_at hl 2 rfl) ?_
  refine z_iaddN (u := 3 * ((mfi M) (pp))) (v := kd) hx hb d_M_isKept_13 ?_
  refine z_ialdN (f := jct J) hx hb hK hP 22 0 rfl rfl (mfi M pp * 3 + kd) (by omega) d_M_isKept_14 ?_
  refine z_if_gt (a := (((jct J) (mfi M pp * 3 + kd) : Nat) : Int)) (tgt := 36) hx hb (by omega) d_M_isKept_15 (by decide) (fun q15 => ?_) (fun q15 => ?_)
  · skip
    refine lv_iconst (v := iZ ((1 : Nat) : Int)) hx hb d_M_isKept_36 (by decide) ?_
    refine lv_goto (tgt := 41) hx hb d_M_isKept_37 (by decide) ?_
    refine lv_istore_n (lv' := [(3, .int (iZ ((1 : Nat) : Int))), (0, .ref (ad 19)), (1, .int (iZ ((pp : Nat) : Int))), (2, .int (iZ ((kd : Nat) : Int)))]) hx hb d_M_isKept_41 rfl hl (by decide) rfl (fun ls hl => ?_)
    refine lv_iload_n hx hb d_M_isKept_42 rfl (lv_at hl 0 rfl) ?_
    refine z_if_eq (a := ((1 : Nat) : Int)) (tgt := 69) hx hb (by omega) d_M_isKept_43 (by decide) (fun q43 => ?_) (fun q43 => ?_)
    · skip
      exfalso; omega
    · skip
      refine lv_aload_n hx hb d_M_isKept_46 rfl (lv_at hl 1 rfl) ?_
      refine va_get (D := D) (ci := 5) (v := .ref (ad 27)) (C := n_M) (T := f_M) (N := 17) hx hb hts in_M hown hK hP 19 rfl rfl 11 (by decide) (hts _ fl_M_32) (fun _ h9 => h9) rfl d_M_isKept_47 ?_
      refine lv_aload_n hx hb d_M_isKept_50 rfl (lv_at hl 1 rfl) ?_
      refine va_get (D := D) (ci := 5) (v := .ref (ad 20)) (C := n_M) (T := f_M) (N := 17) hx hb hts in_M hown hK hP 19 rfl rfl 3 (by decide) (hts _ fl_M_7) (fun _ h9 => h9) rfl d_M_isKept_51 ?_
      refine lv_aload_n hx hb d_M_isKept_54 rfl (lv_at hl 1 rfl) ?_
      refine va_get (D := D) (ci := 5) (v := .ref (ad 25)) (C := n_M) (T := f_M) (N := 17) hx hb hts in_M hown hK hP 19 rfl rfl 9 (by decide) (hts _ fl_M_26) (fun _ h9 => h9) rfl d_M_isKept_55 ?_
      refine lv_iload_n hx hb d_M_isKept_58 rfl (lv_at hl 2 rfl) ?_
      refine z_ialdN (f := mfi M) hx hb hK hP 25 0 rfl rfl (pp) (by omega) d_M_isKept_59 ?_
      refine z_ialdN (f := msh M) hx hb hK hP 20 0 rfl rfl ((mfi M) (pp)) (by omega) d_M_isKept_60 ?_
      refine z_zald (f := jou J) hx hb hK hP 27 1 rfl rfl ((msh M) ((mfi M) (pp))) (by omega) d_M_isKept_61 ?_
      refine z_if_neB (b := (jou J) ((msh M) ((mfi M) (pp)))) (tgt := 69) hx hb d_M_isKept_62 (by decide) (fun q62 => ?_) (fun q62 => ?_)
      · skip
        refine lv_iconst (v := iZ ((0 : Nat) : Int)) hx hb d_M_isKept_69 (by decide) ?_
        refine W.eq (g2 := F0 m 70 ls [.int (bI false)]) rfl ?_
        exact z_zretR Z d_M_isKept_70 (bret (by rw [mk_eq hMp]; first | exact (decide_eq_true ⟨by omega, q62⟩).symm | exact (decide_eq_false (fun z => by have z1 := z.1; omega)).symm | exact (decide_eq_false (fun z => absurd (z.2.symm.trans q62) (by decide))).symm))
      · skip
        refine lv_iconst (v := iZ ((1 : Nat) : Int)) hx hb d_M_isKept_65 (by decide) ?_
        refine lv_goto (tgt := 70) hx hb d_M_isKept_66 (by decide) ?_
        refine W.eq (g2 := F0 m 70 ls [.int (bI true)]) rfl ?_
        exact z_zretR Z d_M_isKept_70 (bret (by rw [mk_eq hMp]; first | exact (decide_eq_true ⟨by omega, q62⟩).symm | exact (decide_eq_false (fun z => by have z1 := z.1; omega)).symm | exact (decide_eq_false (fun z => absurd (z.2.symm.trans q62) (by decide))).symm))
  · skip
    refine lv_aload_n hx hb d_M_isKept_18 rfl (lv_at hl 0 rfl) ?_
    refine va_get (D := D) (ci := 5) (v := .ref (ad 22)) (C := n_M) (T := f_M) (N := 17) hx hb hts in_M hown hK hP 19 rfl rfl 5 (by decide) (hts _ fl_M_17) (fun _ h9 => h9) rfl d_M_isKept_19 ?_
    refine lv_iconst (v := iZ ((3 : Nat) : Int)) hx hb d_M_isKept_22 (by decide) ?_
    refine lv_aload_n hx hb d_M_isKept_23 rfl (lv_at hl 0 rfl) ?_
    refine va_get (D := D) (ci := 5) (v := .ref (ad 26)) (C := n_M) (T := f_M) (N := 17) hx hb hts in_M hown hK hP 19 rfl rfl 10 (by decide) (hts _ fl_M_29) (fun _ h9 => h9) rfl d_M_isKept_24 ?_
    refine lv_iload_n hx hb d_M_isKept_27 rfl (lv_at hl 1 rfl) ?_
    refine z_ialdN (f := mse M) hx hb hK hP 26 0 rfl rfl (pp) (by omega) d_M_isKept_28 ?_
    refine z_imulN (u := 3) (v := (mse M) (pp)) hx hb d_M_isKept_29 ?_
    refine lv_iload_n hx hb d_M_isKept_30 rfl (lv_at hl 2 rfl) ?_
    refine z_iaddN (u := 3 * ((mse M) (pp))) (v := kd) hx hb d_M_isKept_31 ?_
    refine z_ialdN (f := jct J) hx hb hK hP 22 0 rfl rfl (mse M pp * 3 + kd) (by omega) d_M_isKept_32 ?_
    refine z_if_le (a := (((jct J) (mse M pp * 3 + kd) : Nat) : Int)) (tgt := 40) hx hb (by omega) d_M_isKept_33 (by decide) (fun q33 => ?_) (fun q33 => ?_)
    · skip
      refine lv_iconst (v := iZ ((0 : Nat) : Int)) hx hb d_M_isKept_40 (by decide) ?_
      refine lv_istore_n (lv' := [(3, .int (iZ ((0 : Nat) : Int))), (0, .ref (ad 19)), (1, .int (iZ ((pp : Nat) : Int))), (2, .int (iZ ((kd : Nat) : Int)))]) hx hb d_M_isKept_41 rfl hl (by decide) rfl (fun ls hl => ?_)
      refine lv_iload_n hx hb d_M_isKept_42 rfl (lv_at hl 0 rfl) ?_
      refine z_if_eq (a := ((0 : Nat) : Int)) (tgt := 69) hx hb (by omega) d_M_isKept_43 (by decide) (fun q43 => ?_) (fun q43 => ?_)
      · skip
        refine lv_iconst (v := iZ ((0 : Nat) : Int)) hx hb d_M_isKept_69 (by decide) ?_
        refine W.eq (g2 := F0 m 70 ls [.int (bI false)]) rfl ?_
        exact z_zretR Z d_M_isKept_70 (bret (by rw [mk_eq hMp]; first | exact (decide_eq_true ⟨by omega, q62⟩).symm | exact (decide_eq_false (fun z => by have z1 := z.1; omega)).symm | exact (decide_eq_false (fun z => absurd (z.2.symm.trans q62) (by decide))).symm))
      · skip
        exfalso; omega
    · skip
      refine lv_iconst (v := iZ ((1 : Nat) : Int)) hx hb d_M_isKept_36 (by decide) ?_
      refine lv_goto (tgt := 41) hx hb d_M_isKept_37 (by decide) ?_
      refine lv_istore_n (lv' := [(3, .int (iZ ((1 : Nat) : Int))), (0, .ref (ad 19)), (1, .int (iZ ((pp : Nat) : Int))), (2, .int (iZ ((kd : Nat) : Int)))]) hx hb d_M_isKept_41 rfl hl (by decide) rfl (fun ls hl => ?_)
      refine lv_iload_n hx hb d_M_isKept_42 rfl (lv_at hl 0 rfl) ?_
      refine z_if_eq (a := ((1 : Nat) : Int)) (tgt := 69) hx hb (by omega) d_M_isKept_43 (by decide) (fun q43 => ?_) (fun q43 => ?_)
      · skip
        exfalso; omega
      · skip
        refine lv_aload_n hx hb d_M_isKept_46 rfl (lv_at hl 1 rfl) ?_
        refine va_get (D := D) (ci := 5) (v := .ref (ad 27)) (C := n_M) (T := f_M) (N := 17) hx hb hts in_M hown hK hP 19 rfl rfl 11 (by decide) (hts _ fl_M_32) (fun _ h9 => h9) rfl d_M_isKept_47 ?_
        refine lv_aload_n hx hb d_M_isKept_50 rfl (lv_at hl 1 rfl) ?_
        refine va_get (D := D) (ci := 5) (v := .ref (ad 20)) (C := n_M) (T := f_M) (N := 17) hx hb hts in_M hown hK hP 19 rfl rfl 3 (by decide) (hts _ fl_M_7) (fun _ h9 => h9) rfl d_M_isKept_51 ?_
        refine lv_aload_n hx hb d_M_isKept_54 rfl (lv_at hl 1 rfl) ?_
        refine va_get (D := D) (ci := 5) (v := .ref (ad 25)) (C := n_M) (T := f_M) (N := 17) hx hb hts in_M hown hK hP 19 rfl rfl 9 (by decide) (hts _ fl_M_26) (fun _ h9 => h9) rfl d_M_isKept_55 ?_
        refine lv_iload_n hx hb d_M_isKept_58 rfl (lv_at hl 2 rfl) ?_
        refine z_ialdN (f := mfi M) hx hb hK hP 25 0 rfl rfl (pp) (by omega) d_M_isKept_59 ?_
        refine z_ialdN (f := msh M) hx hb hK hP 20 0 rfl rfl ((mfi M) (pp)) (by omega) d_M_isKept_60 ?_
        refine z_zald (f := jou J) hx hb hK hP 27 1 rfl rfl ((msh M) ((mfi M) (pp))) (by omega) d_M_isKept_61 ?_
        refine z_if_neB (b := (jou J) ((msh M) ((mfi M) (pp)))) (tgt := 69) hx hb d_M_isKept_62 (by decide) (fun q62 => ?_) (fun q62 => ?_)
        · skip
          refine lv_iconst (v := iZ ((0 : Nat) : Int)) hx hb d_M_isKept_69 (by decide) ?_
          refine W.eq (g2 := F0 m 70 ls [.int (bI false)]) rfl ?_
          exact z_zretR Z d_M_isKept_70 (bret (by rw [mk_eq hMp]; first | exact (decide_eq_true ⟨by omega, q62⟩).symm | exact (decide_eq_false (fun z => by have z1 := z.1; omega)).symm | exact (decide_eq_false (fun z => absurd (z.2.symm.trans q62) (by decide))).symm))
        · skip
          refine lv_iconst (v := iZ ((1 : Nat) : Int)) hx hb d_M_isKept_65 (by decide) ?_
          refine lv_goto (tgt := 70) hx hb d_M_isKept_66 (by decide) ?_
          refine W.eq (g2 := F0 m 70 ls [.int (bI true)]) rfl ?_
          exact z_zretR Z d_M_isKept_70 (bret (by rw [mk_eq hMp]; first | exact (decide_eq_true ⟨by omega, q62⟩).symm | exact (decide_eq_false (fun z => by have z1 := z.1; omega)).symm | exact (decide_eq_false (fun z => absurd (z.2.symm.trans q62) (by decide))).symm))

set_option maxHeartbeats 4000000 in
set_option maxRecDepth 100000 in
theorem k_M_keptOf {l : Launch} {D : va_G} {ad : Nat → Nat} {cI cZ cL : ClassId} {J J0 : SJ} {rd rd0 : Nat → Int} {pr pr0 : Nat → Nat} {G0 : SH} {K0 : SK} {M : SM} {ov : Nat → Int64} (hI : JI J) (hM : MJ J M) {kd : Nat} (hkd : kd < 3) : zMr l TB D classes (tysW cI cZ cL) y_M_keptOf w_M_keptOf 1 23 [.ref (ad 19), .int (iZ ((kd : Nat) : Int))] (wdC ad cI cZ cL J0 rd0 pr0 G0 K0 (wdM ad cI cZ cL J rd pr M ov)) (some (.int (iZ ((sKO J 4 kd (jk J) : Nat) : Int)))) := by
  refine z_ofR (by decide) (Nat.le_of_ble_eq_true rfl) ?_
  intro p e s m below meth c ls Z hP hK hl
  obtain ⟨hx, hb, hr, hml, hown, hts, hE, hlocks⟩ := id Z
  have hl : lv_has ls 4 [(0, .ref (ad 19)), (1, .int (iZ ((kd : Nat) : Int)))] := hl
  obtain ⟨hn32, hk2, hpr, hct⟩ := id hI
  refine lv_iconst (v := iZ ((0 : Nat) : Int)) hx hb d_M_keptOf_0 (by decide) ?_
  refine lv_istore_n (lv' := [(2, .int (iZ ((0 : Nat) : Int))), (0, .ref (ad 19)), (1, .int (iZ ((kd : Nat) : Int)))]) hx hb d_M_keptOf_1 rfl hl (by decide) rfl (fun ls hl => ?_)
  refine lv_iconst (v := iZ ((0 : Nat) : Int)) hx hb d_M_keptOf_2 (by decide) ?_
  refine lv_istore_n (lv' := [(3, .int (iZ ((0 : Nat) : Int))), (2, .int (iZ ((0 : Nat) : Int))), (0, .ref (ad 19)), (1, .int (iZ ((kd : Nat) : Int)))]) hx hb d_M_keptOf_3 rfl hl (by decide) rfl (fun ls hl => ?_)
  have L4 : ∀ (N4 : Nat) (i : Nat) (ls : Array Slot), (i ≤ jk J) → jk J - i < N4 → lv_has ls 4 [(0, .ref (ad 19)), (1, .int (iZ ((kd : Nat) : Int))), (2, .int (iZ ((sKO J 4 kd i : Nat) : Int))), (3, .int (iZ ((i : Nat) : Int)))] → W p l e (zRm 1 23) s m ([.ref (ad 19), .int (iZ ((kd : Nat) : Int))] : List Value).toArray below meth c s.heap [] 0 0 (MQ below (zQr (some (.int (iZ ((sKO J 4 kd (jk J) : Nat) : Int))))) ([.ref (ad 19), .int (iZ ((kd : Nat) : Int))] : List Value).toArray s 0 0 (fun _ => False)) (F0 m 4 ls []) := by
    intro N4
    induction N4 with
    | zero =>
      intro i ls hi hN4 hl
      exact absurd hN4 (Nat.not_lt_zero _)
    | succ N4 ih4 =>
      intro i ls hi hN4 hl
      have hle := sKO_le (J := J) 4 kd i
      refine lv_iload_n hx hb d_M_keptOf_4 rfl (lv_at hl 3 rfl) ?_
      refine lv_aload_n hx hb d_M_keptOf_5 rfl (lv_at hl 0 rfl) ?_
      refine va_get (D := D) (ci := 5) (v := .int (iZ ((jk J : Nat) : Int))) (C := n_M) (T := f_M) (N := 17) hx hb hts in_M hown hK hP 19 rfl rfl 8 (by decide) (hts _ fl_M_70) (fun _ h9 => h9) rfl d_M_keptOf_6 ?_
      refine z_icmp_ge (a := ((i : Nat) : Int)) (b := ((jk J : Nat) : Int)) (tgt := 35) hx hb (by omega) d_M_keptOf_9 (by decide) (fun q9 => ?_) (fun q9 => ?_)
      · skip
        refine lv_iload_n hx hb d_M_keptOf_35 rfl (lv_at hl 2 rfl) ?_
        exact z_iretR Z d_M_keptOf_36 (iretN (by rw [show i = jk J by omega]))
      · skip
        refine lv_iload_n hx hb d_M_keptOf_12 rfl (lv_at hl 2 rfl) ?_
        refine lv_aload_n hx hb d_M_keptOf_13 rfl (lv_at hl 0 rfl) ?_
        refine lv_iload_n hx hb d_M_keptOf_14 rfl (lv_at hl 3 rfl) ?_
        refine lv_iload_n hx hb d_M_keptOf_15 rfl (lv_at hl 1 rfl) ?_
        refine z_callVR (As := [.int (iZ ((i : Nat) : Int)), .int (iZ ((kd : Nat) : Int))]) (rest := [.int (iZ ((sKO J 4 kd i : Nat) : Int))]) zTB Z (k_M_isKept (J := J) (M := M) hI hM (pp := i) (kd := kd) (by omega) (by omega)) ⟨ml_M_77, im_M_isKept, se_M_isKept, ini_M, co_M_isKept⟩ zd_M_isKept ⟨Nat.le_of_ble_eq_true rfl, Nat.le_of_ble_eq_true rfl⟩ hP hK (ci := 5) (q0 := 19) rfl rfl rfl hl.1 rfl (Nat.le_of_ble_eq_true rfl) d_M_keptOf_16 ⟨Nat.zero_le _, Nat.zero_le _⟩ ?_
        refine W.eq (g2 := F0 m 19 ls [.int (bI (sKp J i kd)), .int (iZ ((sKO J 4 kd i : Nat) : Int))]) rfl ?_
        refine z_if_eqB (b := sKp J i kd) (tgt := 26) hx hb d_M_keptOf_19 (by decide) (fun q19 => ?_) (fun q19 => ?_)
        · skip
          refine lv_iconst (v := iZ ((0 : Nat) : Int)) hx hb d_M_keptOf_26 (by decide) ?_
          refine z_iaddN (u := sKO J 4 kd i) (v := 0) hx hb d_M_keptOf_27 ?_
          refine lv_istore_n (lv' := [(2, .int (iZ (((sKO J 4 kd i) + 0 : Nat) : Int))), (0, .ref (ad 19)), (1, .int (iZ ((kd : Nat) : Int))), (3, .int (iZ ((i : Nat) : Int)))]) hx hb d_M_keptOf_28 rfl hl (by decide) rfl (fun ls hl => ?_)
          refine lv_iinc (v := iZ ((i + 1 : Nat) : Int)) (lv' := [(3, .int (iZ ((i + 1 : Nat) : Int))), (2, .int (iZ (((sKO J 4 kd i) + 0 : Nat) : Int))), (0, .ref (ad 19)), (1, .int (iZ ((kd : Nat) : Int)))]) hx hb d_M_keptOf_29 hl (k := 3) rfl (iZ_inc (i) 1) (by decide) rfl (fun ls hl => ?_)
          refine lv_goto (tgt := 4) hx hb d_M_keptOf_32 (by decide) ?_
          exact ih4 (i + 1) ls (by omega) (by omega) (lv_sub hl [2, 3, 1, 0] (by rw [show (sKO J 4 kd (i + 1)) = ((sKO J 4 kd i) + 0) from by simp [sKO, sOf_4, q9, q19]]; rfl))
        · skip
          refine lv_iconst (v := iZ ((1 : Nat) : Int)) hx hb d_M_keptOf_22 (by decide) ?_
          refine lv_goto (tgt := 27) hx hb d_M_keptOf_23 (by decide) ?_
          refine z_iaddN (u := sKO J 4 kd i) (v := 1) hx hb d_M_keptOf_27 ?_
          refine lv_istore_n (lv' := [(2, .int (iZ (((sKO J 4 kd i) + 1 : Nat) : Int))), (0, .ref (ad 19)), (1, .int (iZ ((kd : Nat) : Int))), (3, .int (iZ ((i : Nat) : Int)))]) hx hb d_M_keptOf_28 rfl hl (by decide) rfl (fun ls hl => ?_)
          refine lv_iinc (v := iZ ((i + 1 : Nat) : Int)) (lv' := [(3, .int (iZ ((i + 1 : Nat) : Int))), (2, .int (iZ (((sKO J 4 kd i) + 1 : Nat) : Int))), (0, .ref (ad 19)), (1, .int (iZ ((kd : Nat) : Int)))]) hx hb d_M_keptOf_29 hl (k := 3) rfl (iZ_inc (i) 1) (by decide) rfl (fun ls hl => ?_)
          refine lv_goto (tgt := 4) hx hb d_M_keptOf_32 (by decide) ?_
          exact ih4 (i + 1) ls (by omega) (by omega) (lv_sub hl [2, 3, 1, 0] (by rw [show (sKO J 4 kd (i + 1)) = ((sKO J 4 kd i) + 1) from by simp [sKO, sOf_4, q9, q19]]; rfl))
  exact L4 (jk J - 0 + 1) 0 ls (Nat.zero_le _) (by omega) (lv_sub hl [2, 3, 1, 0] rfl)

set_option maxHeartbeats 4000000 in
set_option maxRecDepth 100000 in
theorem k_M_sumOf {l : Launch} {D : va_G} {ad : Nat → Nat} {cI cZ cL : ClassId} {J J0 : SJ} {rd rd0 : Nat → Int} {pr pr0 : Nat → Nat} {G0 : SH} {K0 : SK} {M : SM} {ov : Nat → Int64} (hI : JI J) (hM : MJ J M) {kd : Nat} (hkd : kd < 3) : zMr l TB D classes (tysW cI cZ cL) y_M_sumOf w_M_sumOf 1 23 [.ref (ad 19), .int (iZ ((kd : Nat) : Int))] (wdC ad cI cZ cL J0 rd0 pr0 G0 K0 (wdM ad cI cZ cL J rd pr M ov)) (some (.int (iZ (sSO J 4 kd (jk J))))) := by
  refine z_ofR (by decide) (Nat.le_of_ble_eq_true rfl) ?_
  intro p e s m below meth c ls Z hP hK hl
  obtain ⟨hx, hb, hr, hml, hown, hts, hE, hlocks⟩ := id Z
  have hl : lv_has ls 4 [(0, .ref (ad 19)), (1, .int (iZ ((kd : Nat) : Int)))] := hl
  obtain ⟨hn32, hk2, hpr, hct⟩ := id hI
  refine lv_iconst (v := iZ ((0 : Nat) : Int)) hx hb d_M_sumOf_0 (by decide) ?_
  refine lv_istore_n (lv' := [(2, .int (iZ ((0 : Nat) : Int))), (0, .ref (ad 19)), (1, .int (iZ ((kd : Nat) : Int)))]) hx hb d_M_sumOf_1 rfl hl (by decide) rfl (fun ls hl => ?_)
  refine lv_iconst (v := iZ ((0 : Nat) : Int)) hx hb d_M_sumOf_2 (by decide) ?_
  refine lv_istore_n (lv' := [(3, .int (iZ ((0 : Nat) : Int))), (2, .int (iZ ((0 : Nat) : Int))), (0, .ref (ad 19)), (1, .int (iZ ((kd : Nat) : Int)))]) hx hb d_M_sumOf_3 rfl hl (by decide) rfl (fun ls hl => ?_)
  have L4 : ∀ (N4 : Nat) (i : Nat) (ls : Array Slot), (i ≤ jk J) → jk J - i < N4 → lv_has ls 4 [(0, .ref (ad 19)), (1, .int (iZ ((kd : Nat) : Int))), (2, .int (iZ (sSO J 4 kd i))), (3, .int (iZ ((i : Nat) : Int)))] → W p l e (zRm 1 23) s m ([.ref (ad 19), .int (iZ ((kd : Nat) : Int))] : List Value).toArray below meth c s.heap [] 0 0 (MQ below (zQr (some (.int (iZ (sSO J 4 kd (jk J)))))) ([.ref (ad 19), .int (iZ ((kd : Nat) : Int))] : List Value).toArray s 0 0 (fun _ => False)) (F0 m 4 ls []) := by
    intro N4
    induction N4 with
    | zero =>
      intro i ls hi hN4 hl
      exact absurd hN4 (Nat.not_lt_zero _)
    | succ N4 ih4 =>
      intro i ls hi hN4 hl
      have hle := sSO_b hI 4 kd i
      refine lv_iload_n hx hb d_M_sumOf_4 rfl (lv_at hl 3 rfl) ?_
      refine lv_aload_n hx hb d_M_sumOf_5 rfl (lv_at hl 0 rfl) ?_
      refine va_get (D := D) (ci := 5) (v := .int (iZ ((jk J : Nat) : Int))) (C := n_M) (T := f_M) (N := 17) hx hb hts in_M hown hK hP 19 rfl rfl 8 (by decide) (hts _ fl_M_70) (fun _ h9 => h9) rfl d_M_sumOf_6 ?_
      refine z_icmp_ge (a := ((i : Nat) : Int)) (b := ((jk J : Nat) : Int)) (tgt := 40) hx hb (by omega) d_M_sumOf_9 (by decide) (fun q9 => ?_) (fun q9 => ?_)
      · skip
        refine lv_iload_n hx hb d_M_sumOf_40 rfl (lv_at hl 2 rfl) ?_
        exact z_iretR Z d_M_sumOf_41 (iretZ (by rw [show i = jk J by omega]))
      · skip
        refine lv_iload_n hx hb d_M_sumOf_12 rfl (lv_at hl 2 rfl) ?_
        refine lv_aload_n hx hb d_M_sumOf_13 rfl (lv_at hl 0 rfl) ?_
        refine lv_iload_n hx hb d_M_sumOf_14 rfl (lv_at hl 3 rfl) ?_
        refine lv_iload_n hx hb d_M_sumOf_15 rfl (lv_at hl 1 rfl) ?_
        refine z_callVR (As := [.int (iZ ((i : Nat) : Int)), .int (iZ ((kd : Nat) : Int))]) (rest := [.int (iZ (sSO J 4 kd i))]) zTB Z (k_M_isKept (J := J) (M := M) hI hM (pp := i) (kd := kd) (by omega) (by omega)) ⟨ml_M_77, im_M_isKept, se_M_isKept, ini_M, co_M_isKept⟩ zd_M_isKept ⟨Nat.le_of_ble_eq_true rfl, Nat.le_of_ble_eq_true rfl⟩ hP hK (ci := 5) (q0 := 19) rfl rfl rfl hl.1 rfl (Nat.le_of_ble_eq_true rfl) d_M_sumOf_16 ⟨Nat.zero_le _, Nat.zero_le _⟩ ?_
        refine W.eq (g2 := F0 m 19 ls [.int (bI (sKp J i kd)), .int (iZ (sSO J 4 kd i))]) rfl ?_
        refine z_if_eqB (b := sKp J i kd) (tgt := 31) hx hb d_M_sumOf_19 (by decide) (fun q19 => ?_) (fun q19 => ?_)
        · skip
          refine lv_iconst (v := iZ ((0 : Nat) : Int)) hx hb d_M_sumOf_31 (by decide) ?_
          refine z_iadd (a := sSO J 4 kd i) (b := ((0 : Nat) : Int)) hx hb d_M_sumOf_32 ?_
          refine lv_istore_n (lv' := [(2, .int (iZ ((sSO J 4 kd i) + ((0 : Nat) : Int)))), (0, .ref (ad 19)), (1, .int (iZ ((kd : Nat) : Int))), (3, .int (iZ ((i : Nat) : Int)))]) hx hb d_M_sumOf_33 rfl hl (by decide) rfl (fun ls hl => ?_)
          refine lv_iinc (v := iZ ((i + 1 : Nat) : Int)) (lv' := [(3, .int (iZ ((i + 1 : Nat) : Int))), (2, .int (iZ ((sSO J 4 kd i) + ((0 : Nat) : Int)))), (0, .ref (ad 19)), (1, .int (iZ ((kd : Nat) : Int)))]) hx hb d_M_sumOf_34 hl (k := 3) rfl (iZ_inc (i) 1) (by decide) rfl (fun ls hl => ?_)
          refine lv_goto (tgt := 4) hx hb d_M_sumOf_37 (by decide) ?_
          exact ih4 (i + 1) ls (by omega) (by omega) (lv_sub hl [2, 3, 1, 0] (by rw [show (sSO J 4 kd (i + 1)) = ((sSO J 4 kd i) + ((0 : Nat) : Int)) from by simp [sSO, sOf_4, sKd, q9, q19]]; rfl))
        · skip
          refine lv_aload_n hx hb d_M_sumOf_22 rfl (lv_at hl 0 rfl) ?_
          refine lv_iload_n hx hb d_M_sumOf_23 rfl (lv_at hl 3 rfl) ?_
          refine lv_iload_n hx hb d_M_sumOf_24 rfl (lv_at hl 1 rfl) ?_
          refine z_callVR (As := [.int (iZ ((i : Nat) : Int)), .int (iZ ((kd : Nat) : Int))]) (rest := [.int (iZ (sSO J 4 kd i))]) zTB Z (k_M_by (J := J) (M := M) hI hM (pp := i) (kd := kd) (by omega) (by omega)) ⟨ml_M_73, im_M_by, se_M_by, ini_M, co_M_by⟩ zd_M_by ⟨Nat.le_of_ble_eq_true rfl, Nat.le_of_ble_eq_true rfl⟩ hP hK (ci := 5) (q0 := 19) rfl rfl rfl hl.1 rfl (Nat.le_of_ble_eq_true rfl) d_M_sumOf_25 ⟨Nat.zero_le _, Nat.zero_le _⟩ ?_
          refine W.eq (g2 := F0 m 28 ls [.int (iZ (sDf J i kd)), .int (iZ (sSO J 4 kd i))]) rfl ?_
          refine lv_goto (tgt := 32) hx hb d_M_sumOf_28 (by decide) ?_
          refine z_iadd (a := sSO J 4 kd i) (b := sDf J i kd) hx hb d_M_sumOf_32 ?_
          refine lv_istore_n (lv' := [(2, .int (iZ ((sSO J 4 kd i) + (sDf J i kd)))), (0, .ref (ad 19)), (1, .int (iZ ((kd : Nat) : Int))), (3, .int (iZ ((i : Nat) : Int)))]) hx hb d_M_sumOf_33 rfl hl (by decide) rfl (fun ls hl => ?_)
          refine lv_iinc (v := iZ ((i + 1 : Nat) : Int)) (lv' := [(3, .int (iZ ((i + 1 : Nat) : Int))), (2, .int (iZ ((sSO J 4 kd i) + (sDf J i kd)))), (0, .ref (ad 19)), (1, .int (iZ ((kd : Nat) : Int)))]) hx hb d_M_sumOf_34 hl (k := 3) rfl (iZ_inc (i) 1) (by decide) rfl (fun ls hl => ?_)
          refine lv_goto (tgt := 4) hx hb d_M_sumOf_37 (by decide) ?_
          exact ih4 (i + 1) ls (by omega) (by omega) (lv_sub hl [2, 3, 1, 0] (by rw [show (sSO J 4 kd (i + 1)) = ((sSO J 4 kd i) + (sDf J i kd)) from by simp [sSO, sOf_4, sKd, q9, q19]]; rfl))
  exact L4 (jk J - 0 + 1) 0 ls (Nat.zero_le _) (by omega) (lv_sub hl [2, 3, 1, 0] rfl)

theorem sOf_s {J : SJ} {p sh : Nat} (h : sh < 4) : sOf J p sh = decide (jsp J p = sh) := by
  unfold sOf
  rw [show decide (sh = 4) = false from decide_eq_false (by omega), Bool.false_or]
set_option maxHeartbeats 4000000 in
set_option maxRecDepth 100000 in
theorem k_M_keptOfShip {l : Launch} {D : va_G} {ad : Nat → Nat} {cI cZ cL : ClassId} {J J0 : SJ} {rd rd0 : Nat → Int} {pr pr0 : Nat → Nat} {G0 : SH} {K0 : SK} {M : SM} {ov : Nat → Int64} (hI : JI J) (hM : MJ J M) {sh kd : Nat} (hsh : sh < 4) (hkd : kd < 3) : zMr l TB D classes (tysW cI cZ cL) y_M_keptOfShip w_M_keptOfShip 1 23 [.ref (ad 19), .int (iZ ((sh : Nat) : Int)), .int (iZ ((kd : Nat) : Int))] (wdC ad cI cZ cL J0 rd0 pr0 G0 K0 (wdM ad cI cZ cL J rd pr M ov)) (some (.int (iZ ((sKO J sh kd (jk J) : Nat) : Int)))) := by
  refine z_ofR (by decide) (Nat.le_of_ble_eq_true rfl) ?_
  intro p e s m below meth c ls Z hP hK hl
  obtain ⟨hx, hb, hr, hml, hown, hts, hE, hlocks⟩ := id Z
  have hl : lv_has ls 5 [(0, .ref (ad 19)), (1, .int (iZ ((sh : Nat) : Int))), (2, .int (iZ ((kd : Nat) : Int)))] := hl
  obtain ⟨hn32, hk2, hpr, hct⟩ := id hI
  refine lv_iconst (v := iZ ((0 : Nat) : Int)) hx hb d_M_keptOfShip_0 (by decide) ?_
  refine lv_istore_n (lv' := [(3, .int (iZ ((0 : Nat) : Int))), (0, .ref (ad 19)), (1, .int (iZ ((sh : Nat) : Int))), (2, .int (iZ ((kd : Nat) : Int)))]) hx hb d_M_keptOfShip_1 rfl hl (by decide) rfl (fun ls hl => ?_)
  refine lv_iconst (v := iZ ((0 : Nat) : Int)) hx hb d_M_keptOfShip_2 (by decide) ?_
  refine lv_istore (lv' := [(4, .int (iZ ((0 : Nat) : Int))), (3, .int (iZ ((0 : Nat) : Int))), (0, .ref (ad 19)), (1, .int (iZ ((sh : Nat) : Int))), (2, .int (iZ ((kd : Nat) : Int)))]) hx hb d_M_keptOfShip_3 hl (by decide) rfl (fun ls hl => ?_)
  have L5 : ∀ (N5 : Nat) (i : Nat) (ls : Array Slot), (i ≤ jk J) → jk J - i < N5 → lv_has ls 5 [(0, .ref (ad 19)), (1, .int (iZ ((sh : Nat) : Int))), (2, .int (iZ ((kd : Nat) : Int))), (3, .int (iZ ((sKO J sh kd i : Nat) : Int))), (4, .int (iZ ((i : Nat) : Int)))] → W p l e (zRm 1 23) s m ([.ref (ad 19), .int (iZ ((sh : Nat) : Int)), .int (iZ ((kd : Nat) : Int))] : List Value).toArray below meth c s.heap [] 0 0 (MQ below (zQr (some (.int (iZ ((sKO J sh kd (jk J) : Nat) : Int))))) ([.ref (ad 19), .int (iZ ((sh : Nat) : Int)), .int (iZ ((kd : Nat) : Int))] : List Value).toArray s 0 0 (fun _ => False)) (F0 m 5 ls []) := by
    intro N5
    induction N5 with
    | zero =>
      intro i ls hi hN5 hl
      exact absurd hN5 (Nat.not_lt_zero _)
    | succ N5 ih5 =>
      intro i ls hi hN5 hl
      have hle := sKO_le (J := J) sh kd i
      refine lv_iload hx hb d_M_keptOfShip_5 (lv_at hl 4 rfl) ?_
      refine lv_aload_n hx hb d_M_keptOfShip_7 rfl (lv_at hl 0 rfl) ?_
      refine va_get (D := D) (ci := 5) (v := .int (iZ ((jk J : Nat) : Int))) (C := n_M) (T := f_M) (N := 17) hx hb hts in_M hown hK hP 19 rfl rfl 8 (by decide) (hts _ fl_M_70) (fun _ h9 => h9) rfl d_M_keptOfShip_8 ?_
      refine z_icmp_ge (a := ((i : Nat) : Int)) (b := ((jk J : Nat) : Int)) (tgt := 54) hx hb (by omega) d_M_keptOfShip_11 (by decide) (fun q11 => ?_) (fun q11 => ?_)
      · skip
        refine lv_iload_n hx hb d_M_keptOfShip_54 rfl (lv_at hl 3 rfl) ?_
        exact z_iretR Z d_M_keptOfShip_55 (iretN (by rw [show i = jk J by omega]))
      · skip
        have hMp := hM.1 i (by omega)
        have hf1 := hMp.1
        have hf3 := hMp.2.2.1
        have hf4 := (hpr i (by omega)).2.2
        refine lv_iload_n hx hb d_M_keptOfShip_14 rfl (lv_at hl 3 rfl) ?_
        refine lv_aload_n hx hb d_M_keptOfShip_15 rfl (lv_at hl 0 rfl) ?_
        refine va_get (D := D) (ci := 5) (v := .ref (ad 20)) (C := n_M) (T := f_M) (N := 17) hx hb hts in_M hown hK hP 19 rfl rfl 3 (by decide) (hts _ fl_M_7) (fun _ h9 => h9) rfl d_M_keptOfShip_16 ?_
        refine lv_aload_n hx hb d_M_keptOfShip_19 rfl (lv_at hl 0 rfl) ?_
        refine va_get (D := D) (ci := 5) (v := .ref (ad 25)) (C := n_M) (T := f_M) (N := 17) hx hb hts in_M hown hK hP 19 rfl rfl 9 (by decide) (hts _ fl_M_26) (fun _ h9 => h9) rfl d_M_keptOfShip_20 ?_
        refine lv_iload hx hb d_M_keptOfShip_23 (lv_at hl 4 rfl) ?_
        refine z_ialdN (f := mfi M) hx hb hK hP 25 0 rfl rfl (i) (by omega) d_M_keptOfShip_25 ?_
        refine z_ialdN (f := msh M) hx hb hK hP 20 0 rfl rfl ((mfi M) (i)) (by omega) d_M_keptOfShip_26 ?_
        refine lv_iload_n hx hb d_M_keptOfShip_27 rfl (lv_at hl 1 rfl) ?_
        refine z_icmp_ne (a := (((msh M) ((mfi M) (i)) : Nat) : Int)) (b := ((sh : Nat) : Int)) (tgt := 45) hx hb (by omega) d_M_keptOfShip_28 (by decide) (fun q28 => ?_) (fun q28 => ?_)
        · skip
          refine lv_iconst (v := iZ ((0 : Nat) : Int)) hx hb d_M_keptOfShip_45 (by decide) ?_
          refine z_iaddN (u := sKO J sh kd i) (v := 0) hx hb d_M_keptOfShip_46 ?_
          refine lv_istore_n (lv' := [(3, .int (iZ (((sKO J sh kd i) + 0 : Nat) : Int))), (0, .ref (ad 19)), (1, .int (iZ ((sh : Nat) : Int))), (2, .int (iZ ((kd : Nat) : Int))), (4, .int (iZ ((i : Nat) : Int)))]) hx hb d_M_keptOfShip_47 rfl hl (by decide) rfl (fun ls hl => ?_)
          refine lv_iinc (v := iZ ((i + 1 : Nat) : Int)) (lv' := [(4, .int (iZ ((i + 1 : Nat) : Int))), (3, .int (iZ (((sKO J sh kd i) + 0 : Nat) : Int))), (0, .ref (ad 19)), (1, .int (iZ ((sh : Nat) : Int))), (2, .int (iZ ((kd : Nat) : Int)))]) hx hb d_M_keptOfShip_48 hl (k := 4) rfl (iZ_inc (i) 1) (by decide) rfl (fun ls hl => ?_)
          refine lv_goto (tgt := 5) hx hb d_M_keptOfShip_51 (by decide) ?_
          exact ih5 (i + 1) ls (by omega) (by omega) (lv_sub hl [2, 3, 4, 1, 0] (by rw [show (sKO J sh kd (i + 1)) = ((sKO J sh kd i) + 0) from by show sKO J sh kd i + _ = _; rw [sOf_s hsh, ← hf3]; simp [q11, q28] <;> omega]; rfl))
        · skip
          refine lv_aload_n hx hb d_M_keptOfShip_31 rfl (lv_at hl 0 rfl) ?_
          refine lv_iload hx hb d_M_keptOfShip_32 (lv_at hl 4 rfl) ?_
          refine lv_iload_n hx hb d_M_keptOfShip_34 rfl (lv_at hl 2 rfl) ?_
          refine z_callVR (As := [.int (iZ ((i : Nat) : Int)), .int (iZ ((kd : Nat) : Int))]) (rest := [.int (iZ ((sKO J sh kd i : Nat) : Int))]) zTB Z (k_M_isKept (J := J) (M := M) hI hM (pp := i) (kd := kd) (by omega) (by omega)) ⟨ml_M_77, im_M_isKept, se_M_isKept, ini_M, co_M_isKept⟩ zd_M_isKept ⟨Nat.le_of_ble_eq_true rfl, Nat.le_of_ble_eq_true rfl⟩ hP hK (ci := 5) (q0 := 19) rfl rfl rfl hl.1 rfl (Nat.le_of_ble_eq_true rfl) d_M_keptOfShip_35 ⟨Nat.zero_le _, Nat.zero_le _⟩ ?_
          refine W.eq (g2 := F0 m 38 ls [.int (bI (sKp J i kd)), .int (iZ ((sKO J sh kd i : Nat) : Int))]) rfl ?_
          refine z_if_eqB (b := sKp J i kd) (tgt := 45) hx hb d_M_keptOfShip_38 (by decide) (fun q38 => ?_) (fun q38 => ?_)
          · skip
            refine lv_iconst (v := iZ ((0 : Nat) : Int)) hx hb d_M_keptOfShip_45 (by decide) ?_
            refine z_iaddN (u := sKO J sh kd i) (v := 0) hx hb d_M_keptOfShip_46 ?_
            refine lv_istore_n (lv' := [(3, .int (iZ (((sKO J sh kd i) + 0 : Nat) : Int))), (0, .ref (ad 19)), (1, .int (iZ ((sh : Nat) : Int))), (2, .int (iZ ((kd : Nat) : Int))), (4, .int (iZ ((i : Nat) : Int)))]) hx hb d_M_keptOfShip_47 rfl hl (by decide) rfl (fun ls hl => ?_)
            refine lv_iinc (v := iZ ((i + 1 : Nat) : Int)) (lv' := [(4, .int (iZ ((i + 1 : Nat) : Int))), (3, .int (iZ (((sKO J sh kd i) + 0 : Nat) : Int))), (0, .ref (ad 19)), (1, .int (iZ ((sh : Nat) : Int))), (2, .int (iZ ((kd : Nat) : Int)))]) hx hb d_M_keptOfShip_48 hl (k := 4) rfl (iZ_inc (i) 1) (by decide) rfl (fun ls hl => ?_)
            refine lv_goto (tgt := 5) hx hb d_M_keptOfShip_51 (by decide) ?_
            exact ih5 (i + 1) ls (by omega) (by omega) (lv_sub hl [2, 3, 4, 1, 0] (by rw [show (sKO J sh kd (i + 1)) = ((sKO J sh kd i) + 0) from by show sKO J sh kd i + _ = _; rw [sOf_s hsh, ← hf3]; simp [q11, q28, q38] <;> omega]; rfl))
          · skip
            refine lv_iconst (v := iZ ((1 : Nat) : Int)) hx hb d_M_keptOfShip_41 (by decide) ?_
            refine lv_goto (tgt := 46) hx hb d_M_keptOfShip_42 (by decide) ?_
            refine z_iaddN (u := sKO J sh kd i) (v := 1) hx hb d_M_keptOfShip_46 ?_
            refine lv_istore_n (lv' := [(3, .int (iZ (((sKO J sh kd i) + 1 : Nat) : Int))), (0, .ref (ad 19)), (1, .int (iZ ((sh : Nat) : Int))), (2, .int (iZ ((kd : Nat) : Int))), (4, .int (iZ ((i : Nat) : Int)))]) hx hb d_M_keptOfShip_47 rfl hl (by decide) rfl (fun ls hl => ?_)
            refine lv_iinc (v := iZ ((i + 1 : Nat) : Int)) (lv' := [(4, .int (iZ ((i + 1 : Nat) : Int))), (3, .int (iZ (((sKO J sh kd i) + 1 : Nat) : Int))), (0, .ref (ad 19)), (1, .int (iZ ((sh : Nat) : Int))), (2, .int (iZ ((kd : Nat) : Int)))]) hx hb d_M_keptOfShip_48 hl (k := 4) rfl (iZ_inc (i) 1) (by decide) rfl (fun ls hl => ?_)
            refine lv_goto (tgt := 5) hx hb d_M_keptOfShip_51 (by decide) ?_
            exact ih5 (i + 1) ls (by omega) (by omega) (lv_sub hl [2, 3, 4, 1, 0] (by rw [show (sKO J sh kd (i + 1)) = ((sKO J sh kd i) + 1) from by show sKO J sh kd i + _ = _; rw [sOf_s hsh, ← hf3]; simp [q11, q28, q38] <;> omega]; rfl))
  exact L5 (jk J - 0 + 1) 0 ls (Nat.zero_le _) (by omega) (lv_sub hl [2, 3, 4, 1, 0] rfl)

set_option maxHeartbeats 4000000 in
set_option maxRecDepth 100000 in
theorem k_M_isRanked {l : Launch} {D : va_G} {ad : Nat → Nat} {cI cZ cL : ClassId} {J J0 : SJ} {rd rd0 : Nat → Int} {pr pr0 : Nat → Nat} {G0 : SH} {K0 : SK} {M : SM} {ov : Nat → Int64} (hI : JI J) (hM : MJ J M) {pp kd : Nat} (hp : pp < jk J) (hkd : kd < 3) : zMr l TB D classes (tysW cI cZ cL) y_M_isRanked w_M_isRanked 1 23 [.ref (ad 19), .int (iZ ((pp : Nat) : Int)), .int (iZ ((kd : Nat) : Int))] (wdC ad cI cZ cL J0 rd0 pr0 G0 K0 (wdM ad cI cZ cL J rd pr M ov)) (some (.int (bI (decide (sKd J pp kd ≠ 0))))) := by
  refine z_ofR (by decide) (Nat.le_of_ble_eq_true rfl) ?_
  intro p e s m below meth c ls Z hP hK hl
  obtain ⟨hx, hb, hr, hml, hown, hts, hE, hlocks⟩ := id Z
  have hl : lv_has ls 3 [(0, .ref (ad 19)), (1, .int (iZ ((pp : Nat) : Int))), (2, .int (iZ ((kd : Nat) : Int)))] := hl
  have hb0 := sDf_b hI pp kd
  refine lv_aload_n hx hb d_M_isRanked_0 rfl (lv_at hl 0 rfl) ?_
  refine lv_iload_n hx hb d_M_isRanked_1 rfl (lv_at hl 1 rfl) ?_
  refine lv_iload_n hx hb d_M_isRanked_2 rfl (lv_at hl 2 rfl) ?_
  refine z_callVR (As := [.int (iZ ((pp : Nat) : Int)), .int (iZ ((kd : Nat) : Int))]) (rest := []) zTB Z (k_M_isKept (J := J) (M := M) hI hM (pp := pp) (kd := kd) (by omega) (by omega)) ⟨ml_M_77, im_M_isKept, se_M_isKept, ini_M, co_M_isKept⟩ zd_M_isKept ⟨Nat.le_of_ble_eq_true rfl, Nat.le_of_ble_eq_true rfl⟩ hP hK (ci := 5) (q0 := 19) rfl rfl rfl hl.1 rfl (Nat.le_of_ble_eq_true rfl) d_M_isRanked_3 ⟨Nat.zero_le _, Nat.zero_le _⟩ ?_
  refine W.eq (g2 := F0 m 6 ls [.int (bI (sKp J pp kd))]) rfl ?_
  refine z_if_eqB (b := sKp J pp kd) (tgt := 22) hx hb d_M_isRanked_6 (by decide) (fun q6 => ?_) (fun q6 => ?_)
  · skip
    refine lv_iconst (v := iZ ((0 : Nat) : Int)) hx hb d_M_isRanked_22 (by decide) ?_
    refine W.eq (g2 := F0 m 23 ls [.int (bI false)]) rfl ?_
    exact z_zretR Z d_M_isRanked_23 (bret (by first | exact (decide_eq_true (by unfold sKd; rw [if_pos q6]; omega)).symm | exact (decide_eq_false (fun z => z (by unfold sKd; first | (rw [if_neg (by rw [q6]; decide)]; done) | (rw [if_pos q6]; omega)))).symm))
  · skip
    refine lv_aload_n hx hb d_M_isRanked_9 rfl (lv_at hl 0 rfl) ?_
    refine lv_iload_n hx hb d_M_isRanked_10 rfl (lv_at hl 1 rfl) ?_
    refine lv_iload_n hx hb d_M_isRanked_11 rfl (lv_at hl 2 rfl) ?_
    refine z_callVR (As := [.int (iZ ((pp : Nat) : Int)), .int (iZ ((kd : Nat) : Int))]) (rest := []) zTB Z (k_M_by (J := J) (M := M) hI hM (pp := pp) (kd := kd) (by omega) (by omega)) ⟨ml_M_73, im_M_by, se_M_by, ini_M, co_M_by⟩ zd_M_by ⟨Nat.le_of_ble_eq_true rfl, Nat.le_of_ble_eq_true rfl⟩ hP hK (ci := 5) (q0 := 19) rfl rfl rfl hl.1 rfl (Nat.le_of_ble_eq_true rfl) d_M_isRanked_12 ⟨Nat.zero_le _, Nat.zero_le _⟩ ?_
    refine W.eq (g2 := F0 m 15 ls [.int (iZ (sDf J pp kd))]) rfl ?_
    refine z_if_eq (a := sDf J pp kd) (tgt := 22) hx hb (by omega) d_M_isRanked_15 (by decide) (fun q15 => ?_) (fun q15 => ?_)
    · skip
      refine lv_iconst (v := iZ ((0 : Nat) : Int)) hx hb d_M_isRanked_22 (by decide) ?_
      refine W.eq (g2 := F0 m 23 ls [.int (bI false)]) rfl ?_
      exact z_zretR Z d_M_isRanked_23 (bret (by first | exact (decide_eq_true (by unfold sKd; rw [if_pos q6]; omega)).symm | exact (decide_eq_false (fun z => z (by unfold sKd; first | (rw [if_neg (by rw [q6]; decide)]; done) | (rw [if_pos q6]; omega)))).symm))
    · skip
      refine lv_iconst (v := iZ ((1 : Nat) : Int)) hx hb d_M_isRanked_18 (by decide) ?_
      refine lv_goto (tgt := 23) hx hb d_M_isRanked_19 (by decide) ?_
      refine W.eq (g2 := F0 m 23 ls [.int (bI true)]) rfl ?_
      exact z_zretR Z d_M_isRanked_23 (bret (by first | exact (decide_eq_true (by unfold sKd; rw [if_pos q6]; omega)).symm | exact (decide_eq_false (fun z => z (by unfold sKd; first | (rw [if_neg (by rw [q6]; decide)]; done) | (rw [if_pos q6]; omega)))).symm))

set_option maxHeartbeats 4000000 in
set_option maxRecDepth 100000 in
theorem k_M_rankOf {l : Launch} {D : va_G} {ad : Nat → Nat} {cI cZ cL : ClassId} {J J0 : SJ} {rd rd0 : Nat → Int} {pr pr0 : Nat → Nat} {G0 : SH} {K0 : SK} {M : SM} {ov : Nat → Int64} (hI : JI J) (hM : MJ J M) {pp kd : Nat} (hp : pp < jk J) (hkd : kd < 3) : zMr l TB D classes (tysW cI cZ cL) y_M_rankOf w_M_rankOf 2 45 [.ref (ad 19), .int (iZ ((pp : Nat) : Int)), .int (iZ ((kd : Nat) : Int))] (wdC ad cI cZ cL J0 rd0 pr0 G0 K0 (wdM ad cI cZ cL J rd pr M ov)) (some (.int (iZ ((sRk J pp kd : Nat) : Int)))) := by
  refine z_ofR (by decide) (Nat.le_of_ble_eq_true rfl) ?_
  intro p e s m below meth c ls Z hP hK hl
  obtain ⟨hx, hb, hr, hml, hown, hts, hE, hlocks⟩ := id Z
  have hl : lv_has ls 6 [(0, .ref (ad 19)), (1, .int (iZ ((pp : Nat) : Int))), (2, .int (iZ ((kd : Nat) : Int)))] := hl
  obtain ⟨hn32, hk2, hpr, hct⟩ := id hI
  have hb0 := sDf_b hI pp kd
  have hb2 := sKd_or J pp kd
  refine lv_aload_n hx hb d_M_rankOf_0 rfl (lv_at hl 0 rfl) ?_
  refine lv_iload_n hx hb d_M_rankOf_1 rfl (lv_at hl 1 rfl) ?_
  refine lv_iload_n hx hb d_M_rankOf_2 rfl (lv_at hl 2 rfl) ?_
  refine z_callVR (As := [.int (iZ ((pp : Nat) : Int)), .int (iZ ((kd : Nat) : Int))]) (rest := []) zTB Z (k_M_isRanked (J := J) (M := M) hI hM (pp := pp) (kd := kd) (by omega) (by omega)) ⟨ml_M_91, im_M_isRanked, se_M_isRanked, ini_M, co_M_isRanked⟩ zd_M_isRanked ⟨Nat.le_of_ble_eq_true rfl, Nat.le_of_ble_eq_true rfl⟩ hP hK (ci := 5) (q0 := 19) rfl rfl rfl hl.1 rfl (Nat.le_of_ble_eq_true rfl) d_M_rankOf_3 ⟨Nat.zero_le _, Nat.zero_le _⟩ ?_
  refine W.eq (g2 := F0 m 6 ls [.int (bI (decide (sKd J pp kd ≠ 0)))]) rfl ?_
  refine z_if_neB (b := decide (sKd J pp kd ≠ 0)) (tgt := 11) hx hb d_M_rankOf_6 (by decide) (fun q6 => ?_) (fun q6 => ?_)
  · skip
    replace q6 := of_decide_eq_true q6
    refine lv_iconst (v := iZ ((1 : Nat) : Int)) hx hb d_M_rankOf_11 (by decide) ?_
    refine lv_istore_n (lv' := [(3, .int (iZ ((1 : Nat) : Int))), (0, .ref (ad 19)), (1, .int (iZ ((pp : Nat) : Int))), (2, .int (iZ ((kd : Nat) : Int)))]) hx hb d_M_rankOf_12 rfl hl (by decide) rfl (fun ls hl => ?_)
    refine lv_iconst (v := iZ ((0 : Nat) : Int)) hx hb d_M_rankOf_13 (by decide) ?_
    refine lv_istore (lv' := [(4, .int (iZ ((0 : Nat) : Int))), (3, .int (iZ ((1 : Nat) : Int))), (0, .ref (ad 19)), (1, .int (iZ ((pp : Nat) : Int))), (2, .int (iZ ((kd : Nat) : Int)))]) hx hb d_M_rankOf_14 hl (by decide) rfl (fun ls hl => ?_)
    have L16 : ∀ (N16 : Nat) (i : Nat) (ls : Array Slot), (i ≤ jk J) → jk J - i < N16 → lv_has ls 6 [(0, .ref (ad 19)), (1, .int (iZ ((pp : Nat) : Int))), (2, .int (iZ ((kd : Nat) : Int))), (3, .int (iZ ((sRs J pp kd i : Nat) : Int))), (4, .int (iZ ((i : Nat) : Int)))] → W p l e (zRm 2 45) s m ([.ref (ad 19), .int (iZ ((pp : Nat) : Int)), .int (iZ ((kd : Nat) : Int))] : List Value).toArray below meth c s.heap [] 0 0 (MQ below (zQr (some (.int (iZ ((sRk J pp kd : Nat) : Int))))) ([.ref (ad 19), .int (iZ ((pp : Nat) : Int)), .int (iZ ((kd : Nat) : Int))] : List Value).toArray s 0 0 (fun _ => False)) (F0 m 16 ls []) := by
      intro N16
      induction N16 with
      | zero =>
        intro i ls hi hN16 hl
        exact absurd hN16 (Nat.not_lt_zero _)
      | succ N16 ih16 =>
        intro i ls hi hN16 hl
        have hle := sRs_le J pp kd i
        have hb1 := sDf_b hI i kd
        have hb3 := sKd_or J i kd
        refine lv_iload hx hb d_M_rankOf_16 (lv_at hl 4 rfl) ?_
        refine lv_aload_n hx hb d_M_rankOf_18 rfl (lv_at hl 0 rfl) ?_
        refine va_get (D := D) (ci := 5) (v := .int (iZ ((jk J : Nat) : Int))) (C := n_M) (T := f_M) (N := 17) hx hb hts in_M hown hK hP 19 rfl rfl 8 (by decide) (hts _ fl_M_70) (fun _ h9 => h9) rfl d_M_rankOf_19 ?_
        refine z_icmp_ge (a := ((i : Nat) : Int)) (b := ((jk J : Nat) : Int)) (tgt := 98) hx hb (by omega) d_M_rankOf_22 (by decide) (fun q22 => ?_) (fun q22 => ?_)
        · skip
          refine lv_iload_n hx hb d_M_rankOf_98 rfl (lv_at hl 3 rfl) ?_
          exact z_iretR Z d_M_rankOf_99 (iretN (by unfold sRk; rw [if_neg (by omega), show i = jk J by omega]))
        · skip
          refine lv_aload_n hx hb d_M_rankOf_25 rfl (lv_at hl 0 rfl) ?_
          refine lv_iload hx hb d_M_rankOf_26 (lv_at hl 4 rfl) ?_
          refine lv_iload_n hx hb d_M_rankOf_28 rfl (lv_at hl 2 rfl) ?_
          refine z_callVR (As := [.int (iZ ((i : Nat) : Int)), .int (iZ ((kd : Nat) : Int))]) (rest := []) zTB Z (k_M_isRanked (J := J) (M := M) hI hM (pp := i) (kd := kd) (by omega) (by omega)) ⟨ml_M_91, im_M_isRanked, se_M_isRanked, ini_M, co_M_isRanked⟩ zd_M_isRanked ⟨Nat.le_of_ble_eq_true rfl, Nat.le_of_ble_eq_true rfl⟩ hP hK (ci := 5) (q0 := 19) rfl rfl rfl hl.1 rfl (Nat.le_of_ble_eq_true rfl) d_M_rankOf_29 ⟨Nat.zero_le _, Nat.zero_le _⟩ ?_
          refine W.eq (g2 := F0 m 32 ls [.int (bI (decide (sKd J i kd ≠ 0)))]) rfl ?_
          refine z_if_eqB (b := decide (sKd J i kd ≠ 0)) (tgt := 48) hx hb d_M_rankOf_32 (by decide) (fun q32 => ?_) (fun q32 => ?_)
          · skip
            replace q32 := of_decide_eq_false q32
            refine lv_ldc (v := iZ ((100000 : Nat) : Int)) hx hb hown (hts _ ck9_M_97) d_M_rankOf_48 ?_
            refine lv_istore (lv' := [(5, .int (iZ ((100000 : Nat) : Int))), (0, .ref (ad 19)), (1, .int (iZ ((pp : Nat) : Int))), (2, .int (iZ ((kd : Nat) : Int))), (3, .int (iZ ((sRs J pp kd i : Nat) : Int))), (4, .int (iZ ((i : Nat) : Int)))]) hx hb d_M_rankOf_50 hl (by decide) rfl (fun ls hl => ?_)
            refine lv_iload_n hx hb d_M_rankOf_52 rfl (lv_at hl 4 rfl) ?_
            refine lv_iload hx hb d_M_rankOf_53 (lv_at hl 0 rfl) ?_
            refine lv_aload_n hx hb d_M_rankOf_55 rfl (lv_at hl 1 rfl) ?_
            refine lv_iload_n hx hb d_M_rankOf_56 rfl (lv_at hl 2 rfl) ?_
            refine lv_iload_n hx hb d_M_rankOf_57 rfl (lv_at hl 3 rfl) ?_
            refine z_callVR (As := [.int (iZ ((pp : Nat) : Int)), .int (iZ ((kd : Nat) : Int))]) (rest := [.int (iZ ((100000 : Nat) : Int)), .int (iZ ((sRs J pp kd i : Nat) : Int))]) zTB Z (k_M_by (J := J) (M := M) hI hM (pp := pp) (kd := kd) (by omega) (by omega)) ⟨ml_M_73, im_M_by, se_M_by, ini_M, co_M_by⟩ zd_M_by ⟨Nat.le_of_ble_eq_true rfl, Nat.le_of_ble_eq_true rfl⟩ hP hK (ci := 5) (q0 := 19) rfl rfl rfl hl.1 rfl (Nat.le_of_ble_eq_true rfl) d_M_rankOf_58 ⟨Nat.zero_le _, Nat.zero_le _⟩ ?_
            refine W.eq (g2 := F0 m 61 ls [.int (iZ (sDf J pp kd)), .int (iZ ((100000 : Nat) : Int)), .int (iZ ((sRs J pp kd i : Nat) : Int))]) rfl ?_
            refine z_callSR (As := [.int (iZ (sDf J pp kd))]) (rest := [.int (iZ ((100000 : Nat) : Int)), .int (iZ ((sRs J pp kd i : Nat) : Int))]) zTB Z (k_M_plain (a := sDf J pp kd) (by omega)) ⟨ml_M_94, sm_M_plain, ini_M, co_M_plain⟩ zd_M_plain ⟨Nat.le_of_ble_eq_true rfl, Nat.le_of_ble_eq_true rfl⟩ hP hK hl.1 rfl (Nat.le_of_ble_eq_true rfl) d_M_rankOf_61 ⟨Nat.zero_le _, Nat.zero_le _⟩ ?_
            refine W.eq (g2 := F0 m 64 ls [.int (iZ (((sDf J pp kd).natAbs : Nat) : Int)), .int (iZ ((100000 : Nat) : Int)), .int (iZ ((sRs J pp kd i : Nat) : Int))]) rfl ?_
            refine z_icmp_ge (a := ((100000 : Nat) : Int)) (b := (((sDf J pp kd).natAbs : Nat) : Int)) (tgt := 71) hx hb (by omega) d_M_rankOf_64 (by decide) (fun q64 => ?_) (fun q64 => ?_)
            · skip
              refine lv_iload hx hb d_M_rankOf_71 (lv_at hl 0 rfl) ?_
              refine lv_aload_n hx hb d_M_rankOf_73 rfl (lv_at hl 1 rfl) ?_
              refine lv_iload_n hx hb d_M_rankOf_74 rfl (lv_at hl 2 rfl) ?_
              refine lv_iload_n hx hb d_M_rankOf_75 rfl (lv_at hl 3 rfl) ?_
              refine z_callVR (As := [.int (iZ ((pp : Nat) : Int)), .int (iZ ((kd : Nat) : Int))]) (rest := [.int (iZ ((100000 : Nat) : Int)), .int (iZ ((sRs J pp kd i : Nat) : Int))]) zTB Z (k_M_by (J := J) (M := M) hI hM (pp := pp) (kd := kd) (by omega) (by omega)) ⟨ml_M_73, im_M_by, se_M_by, ini_M, co_M_by⟩ zd_M_by ⟨Nat.le_of_ble_eq_true rfl, Nat.le_of_ble_eq_true rfl⟩ hP hK (ci := 5) (q0 := 19) rfl rfl rfl hl.1 rfl (Nat.le_of_ble_eq_true rfl) d_M_rankOf_76 ⟨Nat.zero_le _, Nat.zero_le _⟩ ?_
              refine W.eq (g2 := F0 m 79 ls [.int (iZ (sDf J pp kd)), .int (iZ ((100000 : Nat) : Int)), .int (iZ ((sRs J pp kd i : Nat) : Int))]) rfl ?_
              refine z_callSR (As := [.int (iZ (sDf J pp kd))]) (rest := [.int (iZ ((100000 : Nat) : Int)), .int (iZ ((sRs J pp kd i : Nat) : Int))]) zTB Z (k_M_plain (a := sDf J pp kd) (by omega)) ⟨ml_M_94, sm_M_plain, ini_M, co_M_plain⟩ zd_M_plain ⟨Nat.le_of_ble_eq_true rfl, Nat.le_of_ble_eq_true rfl⟩ hP hK hl.1 rfl (Nat.le_of_ble_eq_true rfl) d_M_rankOf_79 ⟨Nat.zero_le _, Nat.zero_le _⟩ ?_
              refine W.eq (g2 := F0 m 82 ls [.int (iZ (((sDf J pp kd).natAbs : Nat) : Int)), .int (iZ ((100000 : Nat) : Int)), .int (iZ ((sRs J pp kd i : Nat) : Int))]) rfl ?_
              refine z_icmp_ne (a := ((100000 : Nat) : Int)) (b := (((sDf J pp kd).natAbs : Nat) : Int)) (tgt := 89) hx hb (by omega) d_M_rankOf_82 (by decide) (fun q82 => ?_) (fun q82 => ?_)
              · skip
                refine lv_iconst (v := iZ ((0 : Nat) : Int)) hx hb d_M_rankOf_89 (by decide) ?_
                refine z_iaddN (u := sRs J pp kd i) (v := 0) hx hb d_M_rankOf_90 ?_
                refine lv_istore_n (lv' := [(3, .int (iZ (((sRs J pp kd i) + 0 : Nat) : Int))), (5, .int (iZ ((100000 : Nat) : Int))), (0, .ref (ad 19)), (1, .int (iZ ((pp : Nat) : Int))), (2, .int (iZ ((kd : Nat) : Int))), (4, .int (iZ ((i : Nat) : Int)))]) hx hb d_M_rankOf_91 rfl hl (by decide) rfl (fun ls hl => ?_)
                refine lv_iinc (v := iZ ((i + 1 : Nat) : Int)) (lv' := [(4, .int (iZ ((i + 1 : Nat) : Int))), (3, .int (iZ (((sRs J pp kd i) + 0 : Nat) : Int))), (5, .int (iZ ((100000 : Nat) : Int))), (0, .ref (ad 19)), (1, .int (iZ ((pp : Nat) : Int))), (2, .int (iZ ((kd : Nat) : Int)))]) hx hb d_M_rankOf_92 hl (k := 5) rfl (iZ_inc (i) 1) (by decide) rfl (fun ls hl => ?_)
                refine lv_goto (tgt := 16) hx hb d_M_rankOf_95 (by decide) ?_
                exact ih16 (i + 1) ls (by omega) (by omega) (lv_sub hl [3, 4, 5, 1, 0] (by rw [show (sRs J pp kd (i + 1)) = ((sRs J pp kd i) + 0) from by show sRs J pp kd i + sR1 J pp kd i = _; unfold sR1; split <;> first | omega | (split <;> omega)]; rfl))
              · skip
                refine lv_iconst (v := iZ ((1 : Nat) : Int)) hx hb d_M_rankOf_85 (by decide) ?_
                refine lv_goto (tgt := 90) hx hb d_M_rankOf_86 (by decide) ?_
                refine z_iaddN (u := sRs J pp kd i) (v := 1) hx hb d_M_rankOf_90 ?_
                refine lv_istore_n (lv' := [(3, .int (iZ (((sRs J pp kd i) + 1 : Nat) : Int))), (5, .int (iZ ((100000 : Nat) : Int))), (0, .ref (ad 19)), (1, .int (iZ ((pp : Nat) : Int))), (2, .int (iZ ((kd : Nat) : Int))), (4, .int (iZ ((i : Nat) : Int)))]) hx hb d_M_rankOf_91 rfl hl (by decide) rfl (fun ls hl => ?_)
                refine lv_iinc (v := iZ ((i + 1 : Nat) : Int)) (lv' := [(4, .int (iZ ((i + 1 : Nat) : Int))), (3, .int (iZ (((sRs J pp kd i) + 1 : Nat) : Int))), (5, .int (iZ ((100000 : Nat) : Int))), (0, .ref (ad 19)), (1, .int (iZ ((pp : Nat) : Int))), (2, .int (iZ ((kd : Nat) : Int)))]) hx hb d_M_rankOf_92 hl (k := 5) rfl (iZ_inc (i) 1) (by decide) rfl (fun ls hl => ?_)
                refine lv_goto (tgt := 16) hx hb d_M_rankOf_95 (by decide) ?_
                exact ih16 (i + 1) ls (by omega) (by omega) (lv_sub hl [3, 4, 5, 1, 0] (by rw [show (sRs J pp kd (i + 1)) = ((sRs J pp kd i) + 1) from by show sRs J pp kd i + sR1 J pp kd i = _; unfold sR1; split <;> first | omega | (split <;> omega)]; rfl))
            · skip
              refine lv_iconst (v := iZ ((2 : Nat) : Int)) hx hb d_M_rankOf_67 (by decide) ?_
              refine lv_goto (tgt := 90) hx hb d_M_rankOf_68 (by decide) ?_
              refine z_iaddN (u := sRs J pp kd i) (v := 2) hx hb d_M_rankOf_90 ?_
              refine lv_istore_n (lv' := [(3, .int (iZ (((sRs J pp kd i) + 2 : Nat) : Int))), (5, .int (iZ ((100000 : Nat) : Int))), (0, .ref (ad 19)), (1, .int (iZ ((pp : Nat) : Int))), (2, .int (iZ ((kd : Nat) : Int))), (4, .int (iZ ((i : Nat) : Int)))]) hx hb d_M_rankOf_91 rfl hl (by decide) rfl (fun ls hl => ?_)
              refine lv_iinc (v := iZ ((i + 1 : Nat) : Int)) (lv' := [(4, .int (iZ ((i + 1 : Nat) : Int))), (3, .int (iZ (((sRs J pp kd i) + 2 : Nat) : Int))), (5, .int (iZ ((100000 : Nat) : Int))), (0, .ref (ad 19)), (1, .int (iZ ((pp : Nat) : Int))), (2, .int (iZ ((kd : Nat) : Int)))]) hx hb d_M_rankOf_92 hl (k := 5) rfl (iZ_inc (i) 1) (by decide) rfl (fun ls hl => ?_)
              refine lv_goto (tgt := 16) hx hb d_M_rankOf_95 (by decide) ?_
              exact ih16 (i + 1) ls (by omega) (by omega) (lv_sub hl [3, 4, 5, 1, 0] (by rw [show (sRs J pp kd (i + 1)) = ((sRs J pp kd i) + 2) from by show sRs J pp kd i + sR1 J pp kd i = _; unfold sR1; split <;> first | omega | (split <;> omega)]; rfl))
          · skip
            replace q32 := of_decide_eq_true q32
            refine lv_aload_n hx hb d_M_rankOf_35 rfl (lv_at hl 0 rfl) ?_
            refine lv_iload hx hb d_M_rankOf_36 (lv_at hl 4 rfl) ?_
            refine lv_iload_n hx hb d_M_rankOf_38 rfl (lv_at hl 2 rfl) ?_
            refine z_callVR (As := [.int (iZ ((i : Nat) : Int)), .int (iZ ((kd : Nat) : Int))]) (rest := []) zTB Z (k_M_by (J := J) (M := M) hI hM (pp := i) (kd := kd) (by omega) (by omega)) ⟨ml_M_73, im_M_by, se_M_by, ini_M, co_M_by⟩ zd_M_by ⟨Nat.le_of_ble_eq_true rfl, Nat.le_of_ble_eq_true rfl⟩ hP hK (ci := 5) (q0 := 19) rfl rfl rfl hl.1 rfl (Nat.le_of_ble_eq_true rfl) d_M_rankOf_39 ⟨Nat.zero_le _, Nat.zero_le _⟩ ?_
            refine W.eq (g2 := F0 m 42 ls [.int (iZ (sDf J i kd))]) rfl ?_
            refine z_callSR (As := [.int (iZ (sDf J i kd))]) (rest := []) zTB Z (k_M_plain (a := sDf J i kd) (by omega)) ⟨ml_M_94, sm_M_plain, ini_M, co_M_plain⟩ zd_M_plain ⟨Nat.le_of_ble_eq_true rfl, Nat.le_of_ble_eq_true rfl⟩ hP hK hl.1 rfl (Nat.le_of_ble_eq_true rfl) d_M_rankOf_42 ⟨Nat.zero_le _, Nat.zero_le _⟩ ?_
            refine W.eq (g2 := F0 m 45 ls [.int (iZ (((sDf J i kd).natAbs : Nat) : Int))]) rfl ?_
            refine lv_goto (tgt := 50) hx hb d_M_rankOf_45 (by decide) ?_
            refine lv_istore (lv' := [(5, .int (iZ (((sDf J i kd).natAbs : Nat) : Int))), (0, .ref (ad 19)), (1, .int (iZ ((pp : Nat) : Int))), (2, .int (iZ ((kd : Nat) : Int))), (3, .int (iZ ((sRs J pp kd i : Nat) : Int))), (4, .int (iZ ((i : Nat) : Int)))]) hx hb d_M_rankOf_50 hl (by decide) rfl (fun ls hl => ?_)
            refine lv_iload_n hx hb d_M_rankOf_52 rfl (lv_at hl 4 rfl) ?_
            refine lv_iload hx hb d_M_rankOf_53 (lv_at hl 0 rfl) ?_
            refine lv_aload_n hx hb d_M_rankOf_55 rfl (lv_at hl 1 rfl) ?_
            refine lv_iload_n hx hb d_M_rankOf_56 rfl (lv_at hl 2 rfl) ?_
            refine lv_iload_n hx hb d_M_rankOf_57 rfl (lv_at hl 3 rfl) ?_
            refine z_callVR (As := [.int (iZ ((pp : Nat) : Int)), .int (iZ ((kd : Nat) : Int))]) (rest := [.int (iZ (((sDf J i kd).natAbs : Nat) : Int)), .int (iZ ((sRs J pp kd i : Nat) : Int))]) zTB Z (k_M_by (J := J) (M := M) hI hM (pp := pp) (kd := kd) (by omega) (by omega)) ⟨ml_M_73, im_M_by, se_M_by, ini_M, co_M_by⟩ zd_M_by ⟨Nat.le_of_ble_eq_true rfl, Nat.le_of_ble_eq_true rfl⟩ hP hK (ci := 5) (q0 := 19) rfl rfl rfl hl.1 rfl (Nat.le_of_ble_eq_true rfl) d_M_rankOf_58 ⟨Nat.zero_le _, Nat.zero_le _⟩ ?_
            refine W.eq (g2 := F0 m 61 ls [.int (iZ (sDf J pp kd)), .int (iZ (((sDf J i kd).natAbs : Nat) : Int)), .int (iZ ((sRs J pp kd i : Nat) : Int))]) rfl ?_
            refine z_callSR (As := [.int (iZ (sDf J pp kd))]) (rest := [.int (iZ (((sDf J i kd).natAbs : Nat) : Int)), .int (iZ ((sRs J pp kd i : Nat) : Int))]) zTB Z (k_M_plain (a := sDf J pp kd) (by omega)) ⟨ml_M_94, sm_M_plain, ini_M, co_M_plain⟩ zd_M_plain ⟨Nat.le_of_ble_eq_true rfl, Nat.le_of_ble_eq_true rfl⟩ hP hK hl.1 rfl (Nat.le_of_ble_eq_true rfl) d_M_rankOf_61 ⟨Nat.zero_le _, Nat.zero_le _⟩ ?_
            refine W.eq (g2 := F0 m 64 ls [.int (iZ (((sDf J pp kd).natAbs : Nat) : Int)), .int (iZ (((sDf J i kd).natAbs : Nat) : Int)), .int (iZ ((sRs J pp kd i : Nat) : Int))]) rfl ?_
            refine z_icmp_ge (a := (((sDf J i kd).natAbs : Nat) : Int)) (b := (((sDf J pp kd).natAbs : Nat) : Int)) (tgt := 71) hx hb (by omega) d_M_rankOf_64 (by decide) (fun q64 => ?_) (fun q64 => ?_)
            · skip
              refine lv_iload hx hb d_M_rankOf_71 (lv_at hl 0 rfl) ?_
              refine lv_aload_n hx hb d_M_rankOf_73 rfl (lv_at hl 1 rfl) ?_
              refine lv_iload_n hx hb d_M_rankOf_74 rfl (lv_at hl 2 rfl) ?_
              refine lv_iload_n hx hb d_M_rankOf_75 rfl (lv_at hl 3 rfl) ?_
              refine z_callVR (As := [.int (iZ ((pp : Nat) : Int)), .int (iZ ((kd : Nat) : Int))]) (rest := [.int (iZ (((sDf J i kd).natAbs : Nat) : Int)), .int (iZ ((sRs J pp kd i : Nat) : Int))]) zTB Z (k_M_by (J := J) (M := M) hI hM (pp := pp) (kd := kd) (by omega) (by omega)) ⟨ml_M_73, im_M_by, se_M_by, ini_M, co_M_by⟩ zd_M_by ⟨Nat.le_of_ble_eq_true rfl, Nat.le_of_ble_eq_true rfl⟩ hP hK (ci := 5) (q0 := 19) rfl rfl rfl hl.1 rfl (Nat.le_of_ble_eq_true rfl) d_M_rankOf_76 ⟨Nat.zero_le _, Nat.zero_le _⟩ ?_
              refine W.eq (g2 := F0 m 79 ls [.int (iZ (sDf J pp kd)), .int (iZ (((sDf J i kd).natAbs : Nat) : Int)), .int (iZ ((sRs J pp kd i : Nat) : Int))]) rfl ?_
              refine z_callSR (As := [.int (iZ (sDf J pp kd))]) (rest := [.int (iZ (((sDf J i kd).natAbs : Nat) : Int)), .int (iZ ((sRs J pp kd i : Nat) : Int))]) zTB Z (k_M_plain (a := sDf J pp kd) (by omega)) ⟨ml_M_94, sm_M_plain, ini_M, co_M_plain⟩ zd_M_plain ⟨Nat.le_of_ble_eq_true rfl, Nat.le_of_ble_eq_true rfl⟩ hP hK hl.1 rfl (Nat.le_of_ble_eq_true rfl) d_M_rankOf_79 ⟨Nat.zero_le _, Nat.zero_le _⟩ ?_
              refine W.eq (g2 := F0 m 82 ls [.int (iZ (((sDf J pp kd).natAbs : Nat) : Int)), .int (iZ (((sDf J i kd).natAbs : Nat) : Int)), .int (iZ ((sRs J pp kd i : Nat) : Int))]) rfl ?_
              refine z_icmp_ne (a := (((sDf J i kd).natAbs : Nat) : Int)) (b := (((sDf J pp kd).natAbs : Nat) : Int)) (tgt := 89) hx hb (by omega) d_M_rankOf_82 (by decide) (fun q82 => ?_) (fun q82 => ?_)
              · skip
                refine lv_iconst (v := iZ ((0 : Nat) : Int)) hx hb d_M_rankOf_89 (by decide) ?_
                refine z_iaddN (u := sRs J pp kd i) (v := 0) hx hb d_M_rankOf_90 ?_
                refine lv_istore_n (lv' := [(3, .int (iZ (((sRs J pp kd i) + 0 : Nat) : Int))), (5, .int (iZ (((sDf J i kd).natAbs : Nat) : Int))), (0, .ref (ad 19)), (1, .int (iZ ((pp : Nat) : Int))), (2, .int (iZ ((kd : Nat) : Int))), (4, .int (iZ ((i : Nat) : Int)))]) hx hb d_M_rankOf_91 rfl hl (by decide) rfl (fun ls hl => ?_)
                refine lv_iinc (v := iZ ((i + 1 : Nat) : Int)) (lv' := [(4, .int (iZ ((i + 1 : Nat) : Int))), (3, .int (iZ (((sRs J pp kd i) + 0 : Nat) : Int))), (5, .int (iZ (((sDf J i kd).natAbs : Nat) : Int))), (0, .ref (ad 19)), (1, .int (iZ ((pp : Nat) : Int))), (2, .int (iZ ((kd : Nat) : Int)))]) hx hb d_M_rankOf_92 hl (k := 5) rfl (iZ_inc (i) 1) (by decide) rfl (fun ls hl => ?_)
                refine lv_goto (tgt := 16) hx hb d_M_rankOf_95 (by decide) ?_
                exact ih16 (i + 1) ls (by omega) (by omega) (lv_sub hl [3, 4, 5, 1, 0] (by rw [show (sRs J pp kd (i + 1)) = ((sRs J pp kd i) + 0) from by show sRs J pp kd i + sR1 J pp kd i = _; unfold sR1; split <;> first | omega | (split <;> omega)]; rfl))
              · skip
                refine lv_iconst (v := iZ ((1 : Nat) : Int)) hx hb d_M_rankOf_85 (by decide) ?_
                refine lv_goto (tgt := 90) hx hb d_M_rankOf_86 (by decide) ?_
                refine z_iaddN (u := sRs J pp kd i) (v := 1) hx hb d_M_rankOf_90 ?_
                refine lv_istore_n (lv' := [(3, .int (iZ (((sRs J pp kd i) + 1 : Nat) : Int))), (5, .int (iZ (((sDf J i kd).natAbs : Nat) : Int))), (0, .ref (ad 19)), (1, .int (iZ ((pp : Nat) : Int))), (2, .int (iZ ((kd : Nat) : Int))), (4, .int (iZ ((i : Nat) : Int)))]) hx hb d_M_rankOf_91 rfl hl (by decide) rfl (fun ls hl => ?_)
                refine lv_iinc (v := iZ ((i + 1 : Nat) : Int)) (lv' := [(4, .int (iZ ((i + 1 : Nat) : Int))), (3, .int (iZ (((sRs J pp kd i) + 1 : Nat) : Int))), (5, .int (iZ (((sDf J i kd).natAbs : Nat) : Int))), (0, .ref (ad 19)), (1, .int (iZ ((pp : Nat) : Int))), (2, .int (iZ ((kd : Nat) : Int)))]) hx hb d_M_rankOf_92 hl (k := 5) rfl (iZ_inc (i) 1) (by decide) rfl (fun ls hl => ?_)
                refine lv_goto (tgt := 16) hx hb d_M_rankOf_95 (by decide) ?_
                exact ih16 (i + 1) ls (by omega) (by omega) (lv_sub hl [3, 4, 5, 1, 0] (by rw [show (sRs J pp kd (i + 1)) = ((sRs J pp kd i) + 1) from by show sRs J pp kd i + sR1 J pp kd i = _; unfold sR1; split <;> first | omega | (split <;> omega)]; rfl))
            · skip
              refine lv_iconst (v := iZ ((2 : Nat) : Int)) hx hb d_M_rankOf_67 (by decide) ?_
              refine lv_goto (tgt := 90) hx hb d_M_rankOf_68 (by decide) ?_
              refine z_iaddN (u := sRs J pp kd i) (v := 2) hx hb d_M_rankOf_90 ?_
              refine lv_istore_n (lv' := [(3, .int (iZ (((sRs J pp kd i) + 2 : Nat) : Int))), (5, .int (iZ (((sDf J i kd).natAbs : Nat) : Int))), (0, .ref (ad 19)), (1, .int (iZ ((pp : Nat) : Int))), (2, .int (iZ ((kd : Nat) : Int))), (4, .int (iZ ((i : Nat) : Int)))]) hx hb d_M_rankOf_91 rfl hl (by decide) rfl (fun ls hl => ?_)
              refine lv_iinc (v := iZ ((i + 1 : Nat) : Int)) (lv' := [(4, .int (iZ ((i + 1 : Nat) : Int))), (3, .int (iZ (((sRs J pp kd i) + 2 : Nat) : Int))), (5, .int (iZ (((sDf J i kd).natAbs : Nat) : Int))), (0, .ref (ad 19)), (1, .int (iZ ((pp : Nat) : Int))), (2, .int (iZ ((kd : Nat) : Int)))]) hx hb d_M_rankOf_92 hl (k := 5) rfl (iZ_inc (i) 1) (by decide) rfl (fun ls hl => ?_)
              refine lv_goto (tgt := 16) hx hb d_M_rankOf_95 (by decide) ?_
              exact ih16 (i + 1) ls (by omega) (by omega) (lv_sub hl [3, 4, 5, 1, 0] (by rw [show (sRs J pp kd (i + 1)) = ((sRs J pp kd i) + 2) from by show sRs J pp kd i + sR1 J pp kd i = _; unfold sR1; split <;> first | omega | (split <;> omega)]; rfl))
    exact L16 (jk J - 0 + 1) 0 ls (Nat.zero_le _) (by omega) (lv_sub hl [2, 3, 4, 1, 0] rfl)
  · skip
    replace q6 := of_decide_eq_false q6
    refine lv_iconst (v := iZ ((0 : Nat) : Int)) hx hb d_M_rankOf_9 (by decide) ?_
    exact z_iretR Z d_M_rankOf_10 (iretN (by unfold sRk; rw [if_pos (by omega)]))

set_option maxHeartbeats 4000000 in
set_option maxRecDepth 100000 in
theorem k_M_areUnlike {l : Launch} {D : va_G} {ad : Nat → Nat} {cI cZ cL : ClassId} {J J0 : SJ} {rd rd0 : Nat → Int} {pr pr0 : Nat → Nat} {G0 : SH} {K0 : SK} {M : SM} {ov : Nat → Int64} (hR : RI rd) {h : Nat} (hh : h < 32) : zMr l TB D classes (tysW cI cZ cL) y_M_areUnlike w_M_areUnlike 1 20 [.ref (ad 19), .int (iZ ((h : Nat) : Int))] (wdC ad cI cZ cL J0 rd0 pr0 G0 K0 (wdM ad cI cZ cL J rd pr M ov)) (some (.int (bI (sUn rd h)))) := by
  refine z_ofR (by decide) (Nat.le_of_ble_eq_true rfl) ?_
  intro p e s m below meth c ls Z hP hK hl
  obtain ⟨hx, hb, hr, hml, hown, hts, hE, hlocks⟩ := id Z
  have hl : lv_has ls 4 [(0, .ref (ad 19)), (1, .int (iZ ((h : Nat) : Int)))] := hl
  have hr1 := hR (h * 2)
  have hr2 := hR (h * 2 + 1)
  refine lv_aload_n hx hb d_M_areUnlike_0 rfl (lv_at hl 0 rfl) ?_
  refine va_get (D := D) (ci := 5) (v := .ref (ad 28)) (C := n_M) (T := f_M) (N := 17) hx hb hts in_M hown hK hP 19 rfl rfl 12 (by decide) (hts _ fl_M_35) (fun _ h9 => h9) rfl d_M_areUnlike_1 ?_
  refine lv_iconst (v := iZ ((2 : Nat) : Int)) hx hb d_M_areUnlike_4 (by decide) ?_
  refine lv_iload_n hx hb d_M_areUnlike_5 rfl (lv_at hl 1 rfl) ?_
  refine z_imulN (u := 2) (v := h) hx hb d_M_areUnlike_6 ?_
  refine z_iald (f := rd) hx hb hK hP 28 0 rfl rfl (h * 2) (by omega) d_M_areUnlike_7 ?_
  refine lv_istore_n (lv' := [(2, .int (iZ (rd (h * 2)))), (0, .ref (ad 19)), (1, .int (iZ ((h : Nat) : Int)))]) hx hb d_M_areUnlike_8 rfl hl (by decide) rfl (fun ls hl => ?_)
  refine lv_aload_n hx hb d_M_areUnlike_9 rfl (lv_at hl 1 rfl) ?_
  refine va_get (D := D) (ci := 5) (v := .ref (ad 28)) (C := n_M) (T := f_M) (N := 17) hx hb hts in_M hown hK hP 19 rfl rfl 12 (by decide) (hts _ fl_M_35) (fun _ h9 => h9) rfl d_M_areUnlike_10 ?_
  refine lv_iconst (v := iZ ((2 : Nat) : Int)) hx hb d_M_areUnlike_13 (by decide) ?_
  refine lv_iload_n hx hb d_M_areUnlike_14 rfl (lv_at hl 2 rfl) ?_
  refine z_imulN (u := 2) (v := h) hx hb d_M_areUnlike_15 ?_
  refine lv_iconst (v := iZ ((1 : Nat) : Int)) hx hb d_M_areUnlike_16 (by decide) ?_
  refine z_iaddN (u := 2 * h) (v := 1) hx hb d_M_areUnlike_17 ?_
  refine z_iald (f := rd) hx hb hK hP 28 0 rfl rfl (h * 2 + 1) (by omega) d_M_areUnlike_18 ?_
  refine lv_istore_n (lv' := [(3, .int (iZ (rd (h * 2 + 1)))), (2, .int (iZ (rd (h * 2)))), (0, .ref (ad 19)), (1, .int (iZ ((h : Nat) : Int)))]) hx hb d_M_areUnlike_19 rfl hl (by decide) rfl (fun ls hl => ?_)
  refine lv_iload_n hx hb d_M_areUnlike_20 rfl (lv_at hl 1 rfl) ?_
  refine z_if_lt (a := rd (h * 2)) (tgt := 47) hx hb (by omega) d_M_areUnlike_21 (by decide) (fun q21 => ?_) (fun q21 => ?_)
  · skip
    refine lv_iconst (v := iZ ((0 : Nat) : Int)) hx hb d_M_areUnlike_47 (by decide) ?_
    refine W.eq (g2 := F0 m 48 ls [.int (bI false)]) rfl ?_
    exact z_zretR Z d_M_areUnlike_48 (bret (by unfold sUn; first | exact (decide_eq_true (by omega)).symm | exact (decide_eq_false (by omega)).symm))
  · skip
    refine lv_iload_n hx hb d_M_areUnlike_24 rfl (lv_at hl 0 rfl) ?_
    refine z_if_lt (a := rd (h * 2 + 1)) (tgt := 47) hx hb (by omega) d_M_areUnlike_25 (by decide) (fun q25 => ?_) (fun q25 => ?_)
    · skip
      refine lv_iconst (v := iZ ((0 : Nat) : Int)) hx hb d_M_areUnlike_47 (by decide) ?_
      refine W.eq (g2 := F0 m 48 ls [.int (bI false)]) rfl ?_
      exact z_zretR Z d_M_areUnlike_48 (bret (by unfold sUn; first | exact (decide_eq_true (by omega)).symm | exact (decide_eq_false (by omega)).symm))
    · skip
      refine lv_bipush (v := iZ ((10 : Nat) : Int)) hx hb d_M_areUnlike_28 (by decide) ?_
      refine lv_iload_n hx hb d_M_areUnlike_30 rfl (lv_at hl 1 rfl) ?_
      refine lv_iload_n hx hb d_M_areUnlike_31 rfl (lv_at hl 0 rfl) ?_
      refine z_isub (a := rd (h * 2)) (b := rd (h * 2 + 1)) hx hb d_M_areUnlike_32 ?_
      refine z_callSR (As := [.int (iZ ((rd (h * 2)) - (rd (h * 2 + 1))))]) (rest := [.int (iZ ((10 : Nat) : Int))]) zTB Z (k_M_plain (a := (rd (h * 2)) - (rd (h * 2 + 1))) (by omega)) ⟨ml_M_94, sm_M_plain, ini_M, co_M_plain⟩ zd_M_plain ⟨Nat.le_of_ble_eq_true rfl, Nat.le_of_ble_eq_true rfl⟩ hP hK hl.1 rfl (Nat.le_of_ble_eq_true rfl) d_M_areUnlike_33 ⟨Nat.zero_le _, Nat.zero_le _⟩ ?_
      refine W.eq (g2 := F0 m 36 ls [.int (iZ ((((rd (h * 2)) - (rd (h * 2 + 1))).natAbs : Nat) : Int)), .int (iZ ((10 : Nat) : Int))]) rfl ?_
      refine z_imulN (u := 10) (v := ((rd (h * 2)) - (rd (h * 2 + 1))).natAbs) hx hb d_M_areUnlike_36 ?_
      refine lv_iload_n hx hb d_M_areUnlike_37 rfl (lv_at hl 1 rfl) ?_
      refine lv_iload_n hx hb d_M_areUnlike_38 rfl (lv_at hl 0 rfl) ?_
      refine z_iadd (a := rd (h * 2)) (b := rd (h * 2 + 1)) hx hb d_M_areUnlike_39 ?_
      refine z_icmp_le (a := ((10 * (((rd (h * 2)) - (rd (h * 2 + 1))).natAbs) : Nat) : Int)) (b := (rd (h * 2)) + (rd (h * 2 + 1))) (tgt := 47) hx hb (by omega) d_M_areUnlike_40 (by decide) (fun q40 => ?_) (fun q40 => ?_)
      · skip
        refine lv_iconst (v := iZ ((0 : Nat) : Int)) hx hb d_M_areUnlike_47 (by decide) ?_
        refine W.eq (g2 := F0 m 48 ls [.int (bI false)]) rfl ?_
        exact z_zretR Z d_M_areUnlike_48 (bret (by unfold sUn; first | exact (decide_eq_true (by omega)).symm | exact (decide_eq_false (by omega)).symm))
      · skip
        refine lv_iconst (v := iZ ((1 : Nat) : Int)) hx hb d_M_areUnlike_43 (by decide) ?_
        refine lv_goto (tgt := 48) hx hb d_M_areUnlike_44 (by decide) ?_
        refine W.eq (g2 := F0 m 48 ls [.int (bI true)]) rfl ?_
        exact z_zretR Z d_M_areUnlike_48 (bret (by unfold sUn; first | exact (decide_eq_true (by omega)).symm | exact (decide_eq_false (by omega)).symm))

