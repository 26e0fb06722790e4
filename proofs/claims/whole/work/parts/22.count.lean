/-! The sweep over both rows of sums. -/
section ZDI
variable {p : Program} {l : Launch} {e : Env} {R : Room} {s : State} {m : MethodId} {args : Array Value} {below : List Frame} {meth : Method} {c : Code} {H : Heap} {locs : List Loc} {cells slots : Nat} {Q : State → Prop}
variable {cc : ByteArray} {pc : Nat} {ls : Array Slot} {rest : List Value}
theorem z_idivN (hx : p.tables.exec = Jvm.exec) (hb : c.code = cc) {u v : Nat} (h : 0 < v ∧ u < 2147483648 ∧ v < 2147483648) (hdg : decode cc pc = .ok (.idiv, 1)) (k : W p l e R s m args below meth c H locs cells slots Q (F0 m (pc + 1) ls (.int (iZ ((u / v : Nat) : Int)) :: rest))) : W p l e R s m args below meth c H locs cells slots Q (F0 m pc ls (.int (iZ ((v : Nat) : Int)) :: .int (iZ ((u : Nat) : Int)) :: rest)) := by
  refine lv_idiv hx hb hdg (fun e => ?_) ?_
  · exact absurd ((iZ_eq (b := 0) (by omega) z0).mp e) (by omega)
  · rw [show iZ ((u : Nat) : Int) / iZ ((v : Nat) : Int) = iZ ((u / v : Nat) : Int) from by rw [sh_tn, sh_tn, sh_tn]; exact pk_div (by omega) h.1 (by omega)]
    exact k
end ZDI
theorem cn_fin {wt : Nat → Int} {C : Int} {lo hi : Nat → Int} {hf m lc hc : Nat} (h1 : su_R wt 0 hf lo lc) (h2 : su_R wt hf m hi hc) : su_to (fun x => su_to (fun y => if lo x + hi y ≤ C then 1 else 0) hc) lc = su_S wt 0 (hf + m) (fun s => if s ≤ C then 1 else 0) := by
  rw [su_S_split wt 0 hf m, Nat.zero_add, ← h1 (fun x => su_S wt hf m (fun y => if x + y ≤ C then 1 else 0))]
  exact su_to_congr lc (fun x _ => h2 (fun b => if lo x + b ≤ C then 1 else 0))
theorem su_S_le {wt : Nat → Int} {a : Nat} : ∀ (n : Nat) {f : Int → Nat}, (∀ s, f s ≤ 1) → su_S wt a n f ≤ 2 ^ n
  | 0, f, h => h 0
  | n + 1, f, h => by
    have h1 := su_S_le (wt := wt) (a := a) n h
    have h2 := su_S_le (wt := wt) (a := a) n (f := fun s => f (s + wt (a + n))) (fun s => h _)
    show su_S wt a n f + su_S wt a n (fun s => f (s + wt (a + n))) ≤ 2 ^ (n + 1)
    rw [Nat.pow_succ]
    omega
theorem if_le1 (C : Int) : ∀ s : Int, (if s ≤ C then 1 else 0 : Nat) ≤ 1 := fun s => by split <;> omega
set_option maxHeartbeats 4000000 in
set_option maxRecDepth 100000 in
theorem k_H_countNotAbove {l : Launch} {D : va_G} {ad : Nat → Nat} {cI cZ cL : ClassId} {J : SJ} {rd : Nat → Int} {pr : Nat → Nat} {G : SH} {K : SK} {tl : va_W} (hs : G.2.1 ≤ 16) (hwt : ∀ j, j < G.2.1 → 0 ≤ G.1 j ∧ G.1 j ≤ 1000) (hC : -1000000 ≤ G.2.2.1 ∧ G.2.2.1 ≤ 1000000) : zMl l TB D classes (tysW cI cZ cL) y_H_countNotAbove w_H_countNotAbove 3 112 [.ref (ad 11)] (wdC ad cI cZ cL J rd pr G K tl) (fun r w => ∃ (lo hi sq : Nat → Int), r = lZ ((su_S G.1 0 G.2.1 (fun s => if s ≤ G.2.2.1 then 1 else 0) : Nat) : Int) ∧ w = wdC ad cI cZ cL J rd pr (G.1, G.2.1, G.2.2.1, lo, hi, sq) K tl) := by
  refine z_of (Qc := fun A => va_Ql (fun r w => ∃ (lo hi sq : Nat → Int), r = lZ ((su_S G.1 0 G.2.1 (fun s => if s ≤ G.2.2.1 then 1 else 0) : Nat) : Int) ∧ w = wdC ad cI cZ cL J rd pr (G.1, G.2.1, G.2.2.1, lo, hi, sq) K tl) (zB9 D classes (wdC ad cI cZ cL J rd pr G K tl)) A) (by decide) (Nat.le_of_ble_eq_true rfl) ?_
  intro p e s m below meth c A ls Z hP hK hD hS hA hl
  obtain ⟨hx, hb, hr, hml, hown, hts, hE, hlocks⟩ := id Z
  have hl : lv_has ls 7 [(0, .ref (ad 11))] := hl
  have hl8 : 2 ^ (G.2.1 / 2 - 0) ≤ 256 := two_le (show G.2.1 / 2 - 0 ≤ 8 by omega)
  have hh8 : 2 ^ (G.2.1 - G.2.1 / 2) ≤ 256 := two_le (show G.2.1 - G.2.1 / 2 ≤ 8 by omega)
  suffices K9 : ∀ (H : Heap) (locs : List Loc) (ls : Array Slot), va_P D classes (wdC ad cI cZ cL J rd pr G K tl) H → va_D A (wdC ad cI cZ cL J rd pr G K tl) → va_S A s.heap H locs → lv_has ls 7 [(0, .ref (ad 11))] → W p l e (zRm 3 112) s m ([.ref (ad 11)] : List Value).toArray below meth c H locs 0 0 (MQ below (va_Ql (fun r w => ∃ (lo hi sq : Nat → Int), r = lZ ((su_S G.1 0 G.2.1 (fun s => if s ≤ G.2.2.1 then 1 else 0) : Nat) : Int) ∧ w = wdC ad cI cZ cL J rd pr (G.1, G.2.1, G.2.2.1, lo, hi, sq) K tl) (zB9 D classes (wdC ad cI cZ cL J rd pr G K tl)) A) ([.ref (ad 11)] : List Value).toArray s 0 0 A) (F0 m 0 ls []) from K9 s.heap [] ls hP hD hS hl
  clear hP hD hS hl
  intro H locs ls hP hD hS hl
  refine lv_aload_n hx hb d_H_countNotAbove_0 rfl (lv_at hl 0 rfl) ?_
  refine va_get (D := D) (ci := 3) (v := .int (iZ ((G.2.1 : Nat) : Int))) (C := n_H) (T := f_H) (N := 6) hx hb hts in_H hown hK hP 11 rfl rfl 1 (by decide) (hts _ fl_H_15) (fun _ h9 => h9) rfl d_H_countNotAbove_1 ?_
  refine lv_iconst (v := iZ ((2 : Nat) : Int)) hx hb d_H_countNotAbove_4 (by decide) ?_
  refine z_idivN (u := G.2.1) (v := 2) hx hb (by omega) d_H_countNotAbove_5 ?_
  refine lv_istore_n (lv' := [(1, .int (iZ ((G.2.1 / 2 : Nat) : Int))), (0, .ref (ad 11))]) hx hb d_H_countNotAbove_6 rfl hl (by decide) rfl (fun ls hl => ?_)
  refine lv_aload_n hx hb d_H_countNotAbove_7 rfl (lv_at hl 1 rfl) ?_
  refine lv_aload_n hx hb d_H_countNotAbove_8 rfl (lv_at hl 1 rfl) ?_
  refine va_get (D := D) (ci := 3) (v := .ref (ad 13)) (C := n_H) (T := f_H) (N := 6) hx hb hts in_H hown hK hP 11 rfl rfl 3 (by decide) (hts _ fl_H_22) (fun _ h9 => h9) rfl d_H_countNotAbove_9 ?_
  refine lv_iconst (v := iZ ((0 : Nat) : Int)) hx hb d_H_countNotAbove_12 (by decide) ?_
  refine lv_iload_n hx hb d_H_countNotAbove_13 rfl (lv_at hl 0 rfl) ?_
  refine z_ki (z_runV (As := [.ref (ad 13), .int (iZ ((0 : Nat) : Int)), .int (iZ ((G.2.1 / 2 : Nat) : Int))]) (rest := []) zTB Z (k_H_fillSums_lo (fr := 0) (tt := G.2.1 / 2) (by omega) (fun j hj => hwt j (by omega))) ⟨ml_H_31, im_H_fillSums, se_H_fillSums, ini_H, co_H_fillSums⟩ zd_H_fillSums ⟨Nat.le_of_ble_eq_true rfl, Nat.le_of_ble_eq_true rfl⟩ hP hK hD (ci := 3) (q0 := 11) rfl rfl rfl hl.1 rfl (Nat.le_of_ble_eq_true rfl) d_H_countNotAbove_14 ⟨Nat.zero_le _, Nat.zero_le _⟩) hD hS hA (fun r9 w9 H locs hp9 hP hD hS => ?_)
  obtain ⟨lo1, sq1, rfl, rfl, hO1, hR1, hb1⟩ := hp9
  have hP : va_P D classes (wdC ad cI cZ cL J rd pr (G.1, G.2.1, G.2.2.1, lo1, G.2.2.2.2.1, sq1) K tl) H := hP
  have hD : va_D A (wdC ad cI cZ cL J rd pr (G.1, G.2.1, G.2.2.1, lo1, G.2.2.2.2.1, sq1) K tl) := hD
  refine W.eq (g2 := F0 m 17 ls [.int (iZ ((2 ^ (G.2.1 / 2 - 0) : Nat) : Int))]) rfl ?_
  refine lv_istore_n (lv' := [(2, .int (iZ ((2 ^ (G.2.1 / 2 - 0) : Nat) : Int))), (1, .int (iZ ((G.2.1 / 2 : Nat) : Int))), (0, .ref (ad 11))]) hx hb d_H_countNotAbove_17 rfl hl (by decide) rfl (fun ls hl => ?_)
  refine lv_aload_n hx hb d_H_countNotAbove_18 rfl (lv_at hl 2 rfl) ?_
  refine lv_aload_n hx hb d_H_countNotAbove_19 rfl (lv_at hl 2 rfl) ?_
  refine va_get (D := D) (ci := 3) (v := .ref (ad 14)) (C := n_H) (T := f_H) (N := 6) hx hb hts in_H hown hK hP 11 rfl rfl 4 (by decide) (hts _ fl_H_25) (fun _ h9 => h9) rfl d_H_countNotAbove_20 ?_
  refine lv_iload_n hx hb d_H_countNotAbove_23 rfl (lv_at hl 1 rfl) ?_
  refine lv_aload_n hx hb d_H_countNotAbove_24 rfl (lv_at hl 2 rfl) ?_
  refine va_get (D := D) (ci := 3) (v := .int (iZ ((G.2.1 : Nat) : Int))) (C := n_H) (T := f_H) (N := 6) hx hb hts in_H hown hK hP 11 rfl rfl 1 (by decide) (hts _ fl_H_15) (fun _ h9 => h9) rfl d_H_countNotAbove_25 ?_
  refine z_ki (z_runV (As := [.ref (ad 14), .int (iZ ((G.2.1 / 2 : Nat) : Int)), .int (iZ ((G.2.1 : Nat) : Int))]) (rest := []) zTB Z (k_H_fillSums_hi (G := (G.1, G.2.1, G.2.2.1, lo1, G.2.2.2.2.1, sq1)) (fr := G.2.1 / 2) (tt := G.2.1) (by omega) hwt) ⟨ml_H_31, im_H_fillSums, se_H_fillSums, ini_H, co_H_fillSums⟩ zd_H_fillSums ⟨Nat.le_of_ble_eq_true rfl, Nat.le_of_ble_eq_true rfl⟩ hP hK hD (ci := 3) (q0 := 11) rfl rfl rfl hl.1 rfl (Nat.le_of_ble_eq_true rfl) d_H_countNotAbove_28 ⟨Nat.zero_le _, Nat.zero_le _⟩) hD hS hA (fun r9 w9 H locs hp9 hP hD hS => ?_)
  obtain ⟨hi1, sq2, rfl, rfl, hO2, hR2, hb2⟩ := hp9
  have hP : va_P D classes (wdC ad cI cZ cL J rd pr (G.1, G.2.1, G.2.2.1, lo1, hi1, sq2) K tl) H := hP
  have hD : va_D A (wdC ad cI cZ cL J rd pr (G.1, G.2.1, G.2.2.1, lo1, hi1, sq2) K tl) := hD
  refine W.eq (g2 := F0 m 31 ls [.int (iZ ((2 ^ (G.2.1 - G.2.1 / 2) : Nat) : Int))]) rfl ?_
  refine lv_istore_n (lv' := [(3, .int (iZ ((2 ^ (G.2.1 - G.2.1 / 2) : Nat) : Int))), (2, .int (iZ ((2 ^ (G.2.1 / 2 - 0) : Nat) : Int))), (1, .int (iZ ((G.2.1 / 2 : Nat) : Int))), (0, .ref (ad 11))]) hx hb d_H_countNotAbove_31 rfl hl (by decide) rfl (fun ls hl => ?_)
  refine lv_lconst (v := lZ ((0 : Nat) : Int)) hx hb d_H_countNotAbove_32 (by decide) ?_
  refine lv_lstore (lv' := [(4, .long (lZ ((0 : Nat) : Int))), (3, .int (iZ ((2 ^ (G.2.1 - G.2.1 / 2) : Nat) : Int))), (2, .int (iZ ((2 ^ (G.2.1 / 2 - 0) : Nat) : Int))), (1, .int (iZ ((G.2.1 / 2 : Nat) : Int))), (0, .ref (ad 11))]) hx hb d_H_countNotAbove_33 hl (by decide) rfl (fun ls hl => ?_)
  refine lv_iconst (v := iZ ((0 : Nat) : Int)) hx hb d_H_countNotAbove_35 (by decide) ?_
  refine lv_istore (lv' := [(6, .int (iZ ((0 : Nat) : Int))), (4, .long (lZ ((0 : Nat) : Int))), (3, .int (iZ ((2 ^ (G.2.1 - G.2.1 / 2) : Nat) : Int))), (2, .int (iZ ((2 ^ (G.2.1 / 2 - 0) : Nat) : Int))), (1, .int (iZ ((G.2.1 / 2 : Nat) : Int))), (0, .ref (ad 11))]) hx hb d_H_countNotAbove_36 hl (by decide) rfl (fun ls hl => ?_)
  have L38 : ∀ (N38 : Nat) (a : Nat) (h : Nat) (c9 : Nat) (H : Heap) (locs : List Loc) (ls : Array Slot), (a ≤ 2 ^ (G.2.1 / 2 - 0)) → (h ≤ 2 ^ (G.2.1 - G.2.1 / 2)) → (∀ b, h ≤ b → b < 2 ^ (G.2.1 - G.2.1 / 2) → ∀ a2, a ≤ a2 → a2 < 2 ^ (G.2.1 / 2 - 0) → G.2.2.1 < lo1 a2 + hi1 b) → (c9 = su_to (fun x => su_to (fun y => if lo1 x + hi1 y ≤ G.2.2.1 then 1 else 0) (2 ^ (G.2.1 - G.2.1 / 2))) a) → 2 ^ (G.2.1 / 2 - 0) - a < N38 → va_P D classes (wdC ad cI cZ cL J rd pr (G.1, G.2.1, G.2.2.1, lo1, hi1, sq2) K tl) H → va_D A (wdC ad cI cZ cL J rd pr (G.1, G.2.1, G.2.2.1, lo1, hi1, sq2) K tl) → va_S A s.heap H locs → lv_has ls 7 [(0, .ref (ad 11)), (1, .int (iZ ((G.2.1 / 2 : Nat) : Int))), (2, .int (iZ ((2 ^ (G.2.1 / 2 - 0) : Nat) : Int))), (3, .int (iZ ((h : Nat) : Int))), (4, .long (lZ ((c9 : Nat) : Int))), (6, .int (iZ ((a : Nat) : Int)))] → W p l e (zRm 3 112) s m ([.ref (ad 11)] : List Value).toArray below meth c H locs 0 0 (MQ below (va_Ql (fun r w => ∃ (lo hi sq : Nat → Int), r = lZ ((su_S G.1 0 G.2.1 (fun s => if s ≤ G.2.2.1 then 1 else 0) : Nat) : Int) ∧ w = wdC ad cI cZ cL J rd pr (G.1, G.2.1, G.2.2.1, lo, hi, sq) K tl) (zB9 D classes (wdC ad cI cZ cL J rd pr G K tl)) A) ([.ref (ad 11)] : List Value).toArray s 0 0 A) (F0 m 38 ls []) := by
    intro N38
    induction N38 with
    | zero =>
      intro a h c9 H locs ls ha hh hdrop hcnt hN38 hP hD hS hl
      exact absurd hN38 (Nat.not_lt_zero _)
    | succ N38 ih38 =>
      intro a h c9 H locs ls ha hh hdrop hcnt hN38 hP hD hS hl
      refine lv_iload hx hb d_H_countNotAbove_38 (lv_at hl 5 rfl) ?_
      refine lv_iload_n hx hb d_H_countNotAbove_40 rfl (lv_at hl 2 rfl) ?_
      refine z_icmp_ge (a := ((a : Nat) : Int)) (b := ((2 ^ (G.2.1 / 2 - 0) : Nat) : Int)) (tgt := 90) hx hb (by omega) d_H_countNotAbove_41 (by decide) (fun q41 => ?_) (fun q41 => ?_)
      · skip
        refine lv_lload hx hb d_H_countNotAbove_90 (lv_at hl 4 rfl) ?_
        exact z_lret Z hP hS d_H_countNotAbove_92 wdC_map (by have e : a = 2 ^ (G.2.1 / 2 - 0) := (by omega); rw [e, cn_fin (by rw [Nat.sub_zero] at hR1; exact hR1) hR2, show G.2.1 / 2 + (G.2.1 - G.2.1 / 2) = G.2.1 from (by omega)] at hcnt; exact ⟨lo1, hi1, sq2, by rw [hcnt], rfl⟩)
      · skip
        have L44 : ∀ (N44 : Nat) (h : Nat) (H : Heap) (locs : List Loc) (ls : Array Slot), (h ≤ 2 ^ (G.2.1 - G.2.1 / 2)) → (∀ b, h ≤ b → b < 2 ^ (G.2.1 - G.2.1 / 2) → ∀ a2, a ≤ a2 → a2 < 2 ^ (G.2.1 / 2 - 0) → G.2.2.1 < lo1 a2 + hi1 b) → h < N44 → va_P D classes (wdC ad cI cZ cL J rd pr (G.1, G.2.1, G.2.2.1, lo1, hi1, sq2) K tl) H → va_D A (wdC ad cI cZ cL J rd pr (G.1, G.2.1, G.2.2.1, lo1, hi1, sq2) K tl) → va_S A s.heap H locs → lv_has ls 7 [(0, .ref (ad 11)), (1, .int (iZ ((G.2.1 / 2 : Nat) : Int))), (2, .int (iZ ((2 ^ (G.2.1 / 2 - 0) : Nat) : Int))), (3, .int (iZ ((h : Nat) : Int))), (4, .long (lZ ((c9 : Nat) : Int))), (6, .int (iZ ((a : Nat) : Int)))] → W p l e (zRm 3 112) s m ([.ref (ad 11)] : List Value).toArray below meth c H locs 0 0 (MQ below (va_Ql (fun r w => ∃ (lo hi sq : Nat → Int), r = lZ ((su_S G.1 0 G.2.1 (fun s => if s ≤ G.2.2.1 then 1 else 0) : Nat) : Int) ∧ w = wdC ad cI cZ cL J rd pr (G.1, G.2.1, G.2.2.1, lo, hi, sq) K tl) (zB9 D classes (wdC ad cI cZ cL J rd pr G K tl)) A) ([.ref (ad 11)] : List Value).toArray s 0 0 A) (F0 m 44 ls []) := by
          intro N44
          induction N44 with
          | zero =>
            intro h H locs ls hh hdrop hN44 hP hD hS hl
            exact absurd hN44 (Nat.not_lt_zero _)
          | succ N44 ih44 =>
            intro h H locs ls hh hdrop hN44 hP hD hS hl
            have hb3 := hb1 a (by omega)
            refine lv_iload_n hx hb d_H_countNotAbove_44 rfl (lv_at hl 3 rfl) ?_
            refine z_if_le (a := ((h : Nat) : Int)) (tgt := 77) hx hb (by omega) d_H_countNotAbove_45 (by decide) (fun q45 => ?_) (fun q45 => ?_)
            · skip
              have h1e : ∀ j, j < h → lo1 a + hi1 j ≤ G.2.2.1 := fun j hj => absurd hj (by omega)
              refine lv_lload hx hb d_H_countNotAbove_77 (lv_at hl 4 rfl) ?_
              refine lv_iload_n hx hb d_H_countNotAbove_79 rfl (lv_at hl 3 rfl) ?_
              refine z_i2l (a := ((h : Nat) : Int)) hx hb (by omega) d_H_countNotAbove_80 ?_
              refine z_laddN (u := c9) (v := h) hx hb d_H_countNotAbove_81 ?_
              refine lv_lstore (lv' := [(4, .long (lZ ((c9 + h : Nat) : Int))), (0, .ref (ad 11)), (1, .int (iZ ((G.2.1 / 2 : Nat) : Int))), (2, .int (iZ ((2 ^ (G.2.1 / 2 - 0) : Nat) : Int))), (3, .int (iZ ((h : Nat) : Int))), (6, .int (iZ ((a : Nat) : Int)))]) hx hb d_H_countNotAbove_82 hl (by decide) rfl (fun ls hl => ?_)
              refine lv_iinc (v := iZ ((a + 1 : Nat) : Int)) (lv' := [(6, .int (iZ ((a + 1 : Nat) : Int))), (4, .long (lZ ((c9 + h : Nat) : Int))), (0, .ref (ad 11)), (1, .int (iZ ((G.2.1 / 2 : Nat) : Int))), (2, .int (iZ ((2 ^ (G.2.1 / 2 - 0) : Nat) : Int))), (3, .int (iZ ((h : Nat) : Int)))]) hx hb d_H_countNotAbove_84 hl (k := 5) rfl (iZ_inc (a) 1) (by decide) rfl (fun ls hl => ?_)
              refine lv_goto (tgt := 38) hx hb d_H_countNotAbove_87 (by decide) ?_
              exact ih38 (a + 1) h (c9 + h) H locs ls (by omega) hh (fun b h1 h2 a2 h3 h4 => hdrop b h1 h2 a2 (by omega) h4) (by show c9 + h = su_to _ a + su_to _ _; rw [← hcnt, su_cut (L := fun y => lo1 a + hi1 y) (c := G.2.2.1) hh h1e (fun j h3 h4 => hdrop j h3 h4 a (Nat.le_refl a) (by omega))]) (by omega) hP hD hS (lv_sub hl [2, 3, 4, 5, 1, 0] rfl)
            · skip
              refine lv_aload_n hx hb d_H_countNotAbove_48 rfl (lv_at hl 0 rfl) ?_
              refine va_get (D := D) (ci := 3) (v := .ref (ad 13)) (C := n_H) (T := f_H) (N := 6) hx hb hts in_H hown hK hP 11 rfl rfl 3 (by decide) (hts _ fl_H_22) (fun _ h9 => h9) rfl d_H_countNotAbove_49 ?_
              refine lv_iload hx hb d_H_countNotAbove_52 (lv_at hl 5 rfl) ?_
              refine z_iald (f := lo1) hx hb hK hP 13 0 rfl rfl (a) (by omega) d_H_countNotAbove_54 ?_
              refine lv_aload_n hx hb d_H_countNotAbove_55 rfl (lv_at hl 0 rfl) ?_
              refine va_get (D := D) (ci := 3) (v := .ref (ad 14)) (C := n_H) (T := f_H) (N := 6) hx hb hts in_H hown hK hP 11 rfl rfl 4 (by decide) (hts _ fl_H_25) (fun _ h9 => h9) rfl d_H_countNotAbove_56 ?_
              refine lv_iload_n hx hb d_H_countNotAbove_59 rfl (lv_at hl 3 rfl) ?_
              refine lv_iconst (v := iZ ((1 : Nat) : Int)) hx hb d_H_countNotAbove_60 (by decide) ?_
              refine z_isub (a := ((h : Nat) : Int)) (b := ((1 : Nat) : Int)) hx hb d_H_countNotAbove_61 ?_
              have hb4 := hb2 (h - 1) (by omega)
              refine z_iald (f := hi1) hx hb hK hP 14 0 rfl rfl (h - 1) (by omega) d_H_countNotAbove_62 ?_
              refine z_iadd (a := lo1 (a)) (b := hi1 (h - 1)) hx hb d_H_countNotAbove_63 ?_
              refine lv_aload_n hx hb d_H_countNotAbove_64 rfl (lv_at hl 0 rfl) ?_
              refine va_get (D := D) (ci := 3) (v := .int (iZ (G.2.2.1))) (C := n_H) (T := f_H) (N := 6) hx hb hts in_H hown hK hP 11 rfl rfl 2 (by decide) (hts _ fl_H_19) (fun _ h9 => h9) rfl d_H_countNotAbove_65 ?_
              refine z_icmp_le (a := (lo1 (a)) + (hi1 (h - 1))) (b := G.2.2.1) (tgt := 77) hx hb (by omega) d_H_countNotAbove_68 (by decide) (fun q68 => ?_) (fun q68 => ?_)
              · skip
                have h1e : ∀ j, j < h → lo1 a + hi1 j ≤ G.2.2.1 := fun j hj => by have := hO2 j (h - 1) (by omega) (by omega); omega
                refine lv_lload hx hb d_H_countNotAbove_77 (lv_at hl 4 rfl) ?_
                refine lv_iload_n hx hb d_H_countNotAbove_79 rfl (lv_at hl 3 rfl) ?_
                refine z_i2l (a := ((h : Nat) : Int)) hx hb (by omega) d_H_countNotAbove_80 ?_
                refine z_laddN (u := c9) (v := h) hx hb d_H_countNotAbove_81 ?_
                refine lv_lstore (lv' := [(4, .long (lZ ((c9 + h : Nat) : Int))), (0, .ref (ad 11)), (1, .int (iZ ((G.2.1 / 2 : Nat) : Int))), (2, .int (iZ ((2 ^ (G.2.1 / 2 - 0) : Nat) : Int))), (3, .int (iZ ((h : Nat) : Int))), (6, .int (iZ ((a : Nat) : Int)))]) hx hb d_H_countNotAbove_82 hl (by decide) rfl (fun ls hl => ?_)
                refine lv_iinc (v := iZ ((a + 1 : Nat) : Int)) (lv' := [(6, .int (iZ ((a + 1 : Nat) : Int))), (4, .long (lZ ((c9 + h : Nat) : Int))), (0, .ref (ad 11)), (1, .int (iZ ((G.2.1 / 2 : Nat) : Int))), (2, .int (iZ ((2 ^ (G.2.1 / 2 - 0) : Nat) : Int))), (3, .int (iZ ((h : Nat) : Int)))]) hx hb d_H_countNotAbove_84 hl (k := 5) rfl (iZ_inc (a) 1) (by decide) rfl (fun ls hl => ?_)
                refine lv_goto (tgt := 38) hx hb d_H_countNotAbove_87 (by decide) ?_
                exact ih38 (a + 1) h (c9 + h) H locs ls (by omega) hh (fun b h1 h2 a2 h3 h4 => hdrop b h1 h2 a2 (by omega) h4) (by show c9 + h = su_to _ a + su_to _ _; rw [← hcnt, su_cut (L := fun y => lo1 a + hi1 y) (c := G.2.2.1) hh h1e (fun j h3 h4 => hdrop j h3 h4 a (Nat.le_refl a) (by omega))]) (by omega) hP hD hS (lv_sub hl [2, 3, 4, 5, 1, 0] rfl)
              · skip
                refine lv_iinc (v := iZ (((h : Nat) : Int) + (-1 : Int))) (lv' := [(3, .int (iZ (((h : Nat) : Int) + (-1 : Int)))), (0, .ref (ad 11)), (1, .int (iZ ((G.2.1 / 2 : Nat) : Int))), (2, .int (iZ ((2 ^ (G.2.1 / 2 - 0) : Nat) : Int))), (4, .long (lZ ((c9 : Nat) : Int))), (6, .int (iZ ((a : Nat) : Int)))]) hx hb d_H_countNotAbove_71 hl (k := 3) rfl (iZ_add _ _) (by decide) rfl (fun ls hl => ?_)
                refine lv_goto (tgt := 44) hx hb d_H_countNotAbove_74 (by decide) ?_
                exact ih44 (h - 1) H locs ls (by omega) (fun b h1 h2 a2 h3 h4 => by
                  have h5 := hO1 a a2 h3 h4
                  by_cases e9 : b = h - 1
                  · rw [e9]; omega
                  · exact hdrop b (by omega) h2 a2 h3 h4) (by omega) hP hD hS (lv_sub hl [1, 2, 3, 0, 4, 5] (by rw [show ((((h - 1) : Nat) : Int)) = (((h : Nat) : Int) + (-1 : Int)) from by omega]; rfl))
        exact L44 (h + 1) h H locs ls hh hdrop (by omega) hP hD hS (lv_sub hl [0, 1, 2, 3, 4, 5] rfl)
  exact L38 (2 ^ (G.2.1 / 2 - 0) - 0 + 1) 0 (2 ^ (G.2.1 - G.2.1 / 2)) 0 H locs ls (Nat.zero_le _) (Nat.le_refl _) (fun b h1 h2 => absurd h2 (by omega)) rfl (by omega) hP hD hS (lv_sub hl [5, 4, 3, 2, 1, 0] rfl)

