/-! Odds and crossings. -/
def sOc (J : SJ) (kd : Nat) : Nat → Int
  | 0 => 0
  | i + 1 => sOc J kd i + (if sKp J i kd = true ∧ 0 < sDf J i kd then sDf J i kd else 0)
def sOs (J : SJ) (kd : Nat) : Nat → (Int → Nat) → Nat
  | 0, f => f 0
  | i + 1, f => if sKp J i kd = true then sOs J kd i f + sOs J kd i (fun s => f (s + (((sDf J i kd).natAbs : Nat) : Int))) else sOs J kd i f
def oI (J : SJ) (kd i : Nat) (G : SH) : Prop := G.2.1 = sKO J 4 kd i ∧ G.2.2.1 = sOc J kd i ∧ (∀ j, j < G.2.1 → 0 ≤ G.1 j ∧ G.1 j ≤ 1000) ∧ ∀ f : Int → Nat, su_S G.1 0 G.2.1 f = sOs J kd i f
theorem su_S_zu {wt : Nat → Int} {n : Nat} {v : Int} (f : Int → Nat) : su_S (zu wt n v) 0 (n + 1) f = su_S wt 0 n f + su_S wt 0 n (fun s => f (s + v)) := by
  show su_S (zu wt n v) 0 n f + su_S (zu wt n v) 0 n (fun s => f (s + zu wt n v (0 + n))) = _
  rw [Nat.zero_add, zu_s, su_S_congr (wt' := wt) n (fun j hj => by rw [Nat.zero_add]; exact zu_n wt v (by omega)) (fun _ => rfl), su_S_congr (wt' := wt) (f := fun s => f (s + v)) n (fun j hj => by rw [Nat.zero_add]; exact zu_n wt v (by omega)) (fun _ => rfl)]
theorem sOf_4 (J : SJ) (p : Nat) : sOf J p 4 = true := rfl
theorem oI_k {J : SJ} {kd i : Nat} {G : SH} {b : Bool} (h : oI J kd i G) (hk : sKp J i kd = true) (hd : -1000 ≤ sDf J i kd ∧ sDf J i kd ≤ 1000) (hb : b = true ↔ 0 < sDf J i kd) : oI J kd (i + 1) (zu G.1 G.2.1 (((sDf J i kd).natAbs : Nat) : Int), G.2.1 + 1, G.2.2.1 + (if b = true then (((sDf J i kd).natAbs : Nat) : Int) else 0), G.2.2.2) := by
  obtain ⟨h1, h2, h3, h4⟩ := h
  refine ⟨?_, ?_, fun j hj => ?_, fun f => ?_⟩
  · show G.2.1 + 1 = sKO J 4 kd i + (if (sOf J i 4 && sKp J i kd) = true then 1 else 0)
    rw [sOf_4, hk, h1]; rfl
  · show G.2.2.1 + (if b = true then (((sDf J i kd).natAbs : Nat) : Int) else 0) = sOc J kd i + (if sKp J i kd = true ∧ 0 < sDf J i kd then sDf J i kd else 0)
    rw [h2]
    by_cases q : 0 < sDf J i kd
    · rw [if_pos (hb.mpr q), if_pos ⟨hk, q⟩]; omega
    · rw [if_neg (fun z => q (hb.mp z)), if_neg (fun z => q z.2)]
  · show 0 ≤ zu G.1 G.2.1 _ j ∧ zu G.1 G.2.1 _ j ≤ 1000
    have hj : j < G.2.1 + 1 := hj
    by_cases e : j = G.2.1
    · rw [e, zu_s]; omega
    · rw [zu_n _ _ e]; exact h3 j (by omega)
  · show su_S (zu G.1 G.2.1 _) 0 (G.2.1 + 1) f = (if sKp J i kd = true then _ else _)
    rw [if_pos hk, su_S_zu, h4, h4]
theorem oI_d {J : SJ} {kd i : Nat} {G : SH} (h : oI J kd i G) (hk : sKp J i kd = false) : oI J kd (i + 1) G := by
  obtain ⟨h1, h2, h3, h4⟩ := h
  refine ⟨?_, ?_, h3, fun f => ?_⟩
  · show G.2.1 = sKO J 4 kd i + (if (sOf J i 4 && sKp J i kd) = true then 1 else 0)
    rw [hk, Bool.and_false, h1]; rfl
  · show G.2.2.1 = sOc J kd i + (if sKp J i kd = true ∧ 0 < sDf J i kd then sDf J i kd else 0)
    rw [if_neg (fun z => by rw [hk] at z; exact absurd z.1 (by decide)), h2]; omega
  · show su_S G.1 0 G.2.1 f = (if sKp J i kd = true then _ else _)
    rw [if_neg (by rw [hk]; decide), h4]
theorem sOc_b {J : SJ} (hI : JI J) (kd i : Nat) : -(1000 * (i : Int)) ≤ sOc J kd i ∧ sOc J kd i ≤ 1000 * (i : Int) := by
  induction i with
  | zero => exact ⟨by show -(1000 * ((0 : Nat) : Int)) ≤ 0; omega, by show (0 : Int) ≤ 1000 * ((0 : Nat) : Int); omega⟩
  | succ i ih =>
    have h := sDf_b hI i kd
    show -(1000 * ((i + 1 : Nat) : Int)) ≤ sOc J kd i + _ ∧ sOc J kd i + _ ≤ 1000 * ((i + 1 : Nat) : Int)
    split <;> omega
def sRn (J : SJ) (kd : Nat) : Nat → Nat
  | 0 => 0
  | i + 1 => sRn J kd i + (if 0 < sRk J i kd then 1 else 0)
def sRc (J : SJ) (kd : Nat) : Nat → Int
  | 0 => 0
  | i + 1 => sRc J kd i + (if 0 < sRk J i kd ∧ 0 < sDf J i kd then ((sRk J i kd : Nat) : Int) else 0)
def sRo (J : SJ) (kd : Nat) : Nat → (Int → Nat) → Nat
  | 0, f => f 0
  | i + 1, f => if 0 < sRk J i kd then sRo J kd i f + sRo J kd i (fun s => f (s + ((sRk J i kd : Nat) : Int))) else sRo J kd i f
def rI (J : SJ) (kd i : Nat) (G : SH) : Prop := G.2.1 = sRn J kd i ∧ G.2.2.1 = sRc J kd i ∧ (∀ j, j < G.2.1 → 0 ≤ G.1 j ∧ G.1 j ≤ 1000) ∧ ∀ f : Int → Nat, su_S G.1 0 G.2.1 f = sRo J kd i f
theorem rI_k {J : SJ} {kd i : Nat} {G : SH} {b : Bool} (h : rI J kd i G) (hk : 0 < sRk J i kd) (hd : sRk J i kd ≤ 1000) (hb : b = true ↔ 0 < sDf J i kd) : rI J kd (i + 1) (zu G.1 G.2.1 ((sRk J i kd : Nat) : Int), G.2.1 + 1, G.2.2.1 + (if b = true then ((sRk J i kd : Nat) : Int) else 0), G.2.2.2) := by
  obtain ⟨h1, h2, h3, h4⟩ := h
  refine ⟨?_, ?_, fun j hj => ?_, fun f => ?_⟩
  · show G.2.1 + 1 = sRn J kd i + (if 0 < sRk J i kd then 1 else 0)
    rw [if_pos hk, h1]
  · show G.2.2.1 + (if b = true then ((sRk J i kd : Nat) : Int) else 0) = sRc J kd i + (if 0 < sRk J i kd ∧ 0 < sDf J i kd then ((sRk J i kd : Nat) : Int) else 0)
    rw [h2]
    by_cases q : 0 < sDf J i kd
    · rw [if_pos (hb.mpr q), if_pos ⟨hk, q⟩]
    · rw [if_neg (fun z => q (hb.mp z)), if_neg (fun z => q z.2)]
  · show 0 ≤ zu G.1 G.2.1 _ j ∧ zu G.1 G.2.1 _ j ≤ 1000
    have hj : j < G.2.1 + 1 := hj
    by_cases e : j = G.2.1
    · rw [e, zu_s]; omega
    · rw [zu_n _ _ e]; exact h3 j (by omega)
  · show su_S (zu G.1 G.2.1 _) 0 (G.2.1 + 1) f = (if 0 < sRk J i kd then _ else _)
    rw [if_pos hk, su_S_zu, h4, h4]
theorem rI_d {J : SJ} {kd i : Nat} {G : SH} (h : rI J kd i G) (hk : ¬ 0 < sRk J i kd) : rI J kd (i + 1) G := by
  obtain ⟨h1, h2, h3, h4⟩ := h
  refine ⟨?_, ?_, h3, fun f => ?_⟩
  · show G.2.1 = sRn J kd i + (if 0 < sRk J i kd then 1 else 0)
    rw [if_neg hk, h1]; rfl
  · show G.2.2.1 = sRc J kd i + (if 0 < sRk J i kd ∧ 0 < sDf J i kd then ((sRk J i kd : Nat) : Int) else 0)
    rw [if_neg (fun z => hk z.1), h2]; omega
  · show su_S G.1 0 G.2.1 f = (if 0 < sRk J i kd then _ else _)
    rw [if_neg hk, h4]
theorem sRk_le {J : SJ} (hk : jk J ≤ 16) (p kd : Nat) : sRk J p kd ≤ 33 := by
  unfold sRk
  split
  · omega
  · have := sRs_le J p kd (jk J); omega
theorem sRn_le (J : SJ) (kd i : Nat) : sRn J kd i ≤ i := by
  induction i with
  | zero => exact Nat.le_refl 0
  | succ i ih =>
    show sRn J kd i + _ ≤ i + 1
    split <;> omega
theorem sRc_b {J : SJ} (hk : jk J ≤ 16) (kd i : Nat) : 0 ≤ sRc J kd i ∧ sRc J kd i ≤ 33 * (i : Int) := by
  induction i with
  | zero => exact ⟨by show (0 : Int) ≤ 0; omega, by show (0 : Int) ≤ 33 * ((0 : Nat) : Int); omega⟩
  | succ i ih =>
    have h := sRk_le hk i kd
    show 0 ≤ sRc J kd i + _ ∧ sRc J kd i + _ ≤ 33 * ((i + 1 : Nat) : Int)
    split <;> omega
def sLs (up lo ab be : Nat) : Nat → Nat → Int
  | 0, _ => -1
  | r + 1, n => if 2 ^ n * ab ≤ sCr up lo n * be then ((n : Nat) : Int) else sLs up lo ab be r (n + 1)
set_option maxHeartbeats 4000000 in
set_option maxRecDepth 100000 in
theorem k_D_odds {l : Launch} {D : va_G} {ad : Nat → Nat} {cI cZ cL : ClassId} {J : SJ} {rd : Nat → Int} {pr : Nat → Nat} {G : SH} {K : SK} {tl : va_W} {kd pt : Nat} (hI : JI J) (hkd : kd < 3) (hpt : pt < 2) : zMl l TB D classes (tysW cI cZ cL) y_D_odds w_D_odds 4 138 [.ref (ad 0), .int (iZ ((kd : Nat) : Int)), .int (iZ ((pt : Nat) : Int))] (wdC ad cI cZ cL J rd pr G K tl) (fun r w => ∃ G2 : SH, r = lZ (sTP ((sOs J kd (jk J) (fun s => if s ≤ sOc J kd (jk J) then 1 else 0) : Nat) : Int) (2 ^ sKO J 4 kd (jk J)) pt) ∧ w = wdC ad cI cZ cL J rd pr G2 K tl) := by
  refine z_of (Qc := fun A => va_Ql (fun r w => ∃ G2 : SH, r = lZ (sTP ((sOs J kd (jk J) (fun s => if s ≤ sOc J kd (jk J) then 1 else 0) : Nat) : Int) (2 ^ sKO J 4 kd (jk J)) pt) ∧ w = wdC ad cI cZ cL J rd pr G2 K tl) (zB9 D classes (wdC ad cI cZ cL J rd pr G K tl)) A) (by decide) (Nat.le_of_ble_eq_true rfl) ?_
  intro p e s m below meth c A ls Z hP hK hD hS hA hl
  obtain ⟨hx, hb, hr, hml, hown, hts, hE, hlocks⟩ := id Z
  have hl : lv_has ls 5 [(0, .ref (ad 0)), (1, .int (iZ ((kd : Nat) : Int))), (2, .int (iZ ((pt : Nat) : Int)))] := hl
  obtain ⟨hn32, hk2, hpr, hct⟩ := id hI
  suffices K9 : ∀ (H : Heap) (locs : List Loc) (ls : Array Slot), va_P D classes (wdC ad cI cZ cL J rd pr G K tl) H → va_D A (wdC ad cI cZ cL J rd pr G K tl) → va_S A s.heap H locs → lv_has ls 5 [(0, .ref (ad 0)), (1, .int (iZ ((kd : Nat) : Int))), (2, .int (iZ ((pt : Nat) : Int)))] → W p l e (zRm 4 138) s m ([.ref (ad 0), .int (iZ ((kd : Nat) : Int)), .int (iZ ((pt : Nat) : Int))] : List Value).toArray below meth c H locs 0 0 (MQ below (va_Ql (fun r w => ∃ G2 : SH, r = lZ (sTP ((sOs J kd (jk J) (fun s => if s ≤ sOc J kd (jk J) then 1 else 0) : Nat) : Int) (2 ^ sKO J 4 kd (jk J)) pt) ∧ w = wdC ad cI cZ cL J rd pr G2 K tl) (zB9 D classes (wdC ad cI cZ cL J rd pr G K tl)) A) ([.ref (ad 0), .int (iZ ((kd : Nat) : Int)), .int (iZ ((pt : Nat) : Int))] : List Value).toArray s 0 0 A) (F0 m 0 ls []) from K9 s.heap [] ls hP hD hS hl
  clear hP hD hS hl
  intro H locs ls hP hD hS hl
  refine lv_iload_n hx hb d_D_odds_0 rfl (lv_at hl 1 rfl) ?_
  refine z_callSR (As := [.int (iZ ((kd : Nat) : Int))]) (rest := []) zTB Z (k_D_needKind (a := ((kd : Nat) : Int)) (by omega)) ⟨ml_D_64, sm_D_needKind, ini_D, co_D_needKind⟩ zd_D_needKind ⟨Nat.le_of_ble_eq_true rfl, Nat.le_of_ble_eq_true rfl⟩ hP hK hl.1 rfl (Nat.le_of_ble_eq_true rfl) d_D_odds_1 ⟨Nat.zero_le _, Nat.zero_le _⟩ ?_
  refine W.eq (g2 := F0 m 4 ls []) rfl ?_
  refine lv_iload_n hx hb d_D_odds_4 rfl (lv_at hl 2 rfl) ?_
  refine z_callSR (As := [.int (iZ ((pt : Nat) : Int))]) (rest := []) zTB Z (k_D_needPart (a := ((pt : Nat) : Int)) (by omega)) ⟨ml_D_112, sm_D_needPart, ini_D, co_D_needPart⟩ zd_D_needPart ⟨Nat.le_of_ble_eq_true rfl, Nat.le_of_ble_eq_true rfl⟩ hP hK hl.1 rfl (Nat.le_of_ble_eq_true rfl) d_D_odds_5 ⟨Nat.zero_le _, Nat.zero_le _⟩ ?_
  refine W.eq (g2 := F0 m 8 ls []) rfl ?_
  refine lv_aload_n hx hb d_D_odds_8 rfl (lv_at hl 0 rfl) ?_
  refine va_get (D := D) (ci := 0) (v := .ref (ad 11)) (C := n_D) (T := f_D) (N := 5) hx hb hts in_D hown hK hP 0 rfl rfl 2 (by decide) (hts _ fl_D_28) (fun _ h9 => h9) rfl d_D_odds_9 ?_
  refine z_kv (z_runV (As := []) (rest := []) zTB Z k_H_clear ⟨ml_D_115, im_H_clear, se_H_clear, ini_H, co_H_clear⟩ zd_H_clear ⟨Nat.le_of_ble_eq_true rfl, Nat.le_of_ble_eq_true rfl⟩ hP hK hD (ci := 3) (q0 := 11) rfl rfl rfl hl.1 rfl (Nat.le_of_ble_eq_true rfl) d_D_odds_12 ⟨Nat.zero_le _, Nat.zero_le _⟩) hD hS hA (fun w9 H locs hp9 hP hD hS => ?_)
  obtain rfl := hp9
  have hP : va_P D classes (wdC ad cI cZ cL J rd pr (G.1, 0, 0, G.2.2.2.1, G.2.2.2.2.1, G.2.2.2.2.2) K tl) H := hP
  have hD : va_D A (wdC ad cI cZ cL J rd pr (G.1, 0, 0, G.2.2.2.1, G.2.2.2.2.1, G.2.2.2.2.2) K tl) := hD
  refine W.eq (g2 := F0 m 15 ls []) rfl ?_
  refine lv_iconst (v := iZ ((0 : Nat) : Int)) hx hb d_D_odds_15 (by decide) ?_
  refine lv_istore_n (lv' := [(3, .int (iZ ((0 : Nat) : Int))), (0, .ref (ad 0)), (1, .int (iZ ((kd : Nat) : Int))), (2, .int (iZ ((pt : Nat) : Int)))]) hx hb d_D_odds_16 rfl hl (by decide) rfl (fun ls hl => ?_)
  have L17 : ∀ (N17 : Nat) (i : Nat) (G1 : SH) (H : Heap) (locs : List Loc) (ls : Array Slot), (i ≤ jk J) → (oI J kd i G1) → jk J - i < N17 → va_P D classes (wdC ad cI cZ cL J rd pr G1 K tl) H → va_D A (wdC ad cI cZ cL J rd pr G1 K tl) → va_S A s.heap H locs → lv_has ls 5 [(0, .ref (ad 0)), (1, .int (iZ ((kd : Nat) : Int))), (2, .int (iZ ((pt : Nat) : Int))), (3, .int (iZ ((i : Nat) : Int)))] → W p l e (zRm 4 138) s m ([.ref (ad 0), .int (iZ ((kd : Nat) : Int)), .int (iZ ((pt : Nat) : Int))] : List Value).toArray below meth c H locs 0 0 (MQ below (va_Ql (fun r w => ∃ G2 : SH, r = lZ (sTP ((sOs J kd (jk J) (fun s => if s ≤ sOc J kd (jk J) then 1 else 0) : Nat) : Int) (2 ^ sKO J 4 kd (jk J)) pt) ∧ w = wdC ad cI cZ cL J rd pr G2 K tl) (zB9 D classes (wdC ad cI cZ cL J rd pr G K tl)) A) ([.ref (ad 0), .int (iZ ((kd : Nat) : Int)), .int (iZ ((pt : Nat) : Int))] : List Value).toArray s 0 0 A) (F0 m 17 ls []) := by
    intro N17
    induction N17 with
    | zero =>
      intro i G1 H locs ls hi hG hN17 hP hD hS hl
      exact absurd hN17 (Nat.not_lt_zero _)
    | succ N17 ih17 =>
      intro i G1 H locs ls hi hG hN17 hP hD hS hl
      obtain ⟨hq1, hq2, hq3, hq4⟩ := id hG
      have hdf := sDf_b hI i kd
      have hle := sKO_le (J := J) 4 kd i
      have hob := sOc_b hI kd i
      refine lv_iload_n hx hb d_D_odds_17 rfl (lv_at hl 3 rfl) ?_
      refine lv_aload_n hx hb d_D_odds_18 rfl (lv_at hl 0 rfl) ?_
      refine va_get (D := D) (ci := 0) (v := .ref (ad 1)) (C := n_D) (T := f_D) (N := 5) hx hb hts in_D hown hK hP 0 rfl rfl 0 (by decide) (hts _ fl_D_14) (fun _ h9 => h9) rfl d_D_odds_19 ?_
      refine va_getN (D := D) (ci := 1) (v := .int (iZ ((jk J : Nat) : Int))) (C := n_J) (T := f_J) (N := 10) hx hb hts in_J hown hK hP 1 rfl rfl 2 (by decide) (hts _ fl_D_99) (fun _ h9 => h9) rfl d_D_odds_22 ?_
      refine z_icmp_ge (a := ((i : Nat) : Int)) (b := ((jk J : Nat) : Int)) (tgt := 79) hx hb (by omega) d_D_odds_25 (by decide) (fun q25 => ?_) (fun q25 => ?_)
      · skip
        refine lv_aload_n hx hb d_D_odds_79 rfl (lv_at hl 0 rfl) ?_
        refine va_get (D := D) (ci := 0) (v := .ref (ad 11)) (C := n_D) (T := f_D) (N := 5) hx hb hts in_D hown hK hP 0 rfl rfl 2 (by decide) (hts _ fl_D_28) (fun _ h9 => h9) rfl d_D_odds_80 ?_
        refine z_kl (z_runV (As := []) (rest := []) zTB Z (k_H_countNotAbove (G := G1) (by omega) hq3 (by omega)) ⟨ml_D_131, im_H_countNotAbove, se_H_countNotAbove, ini_H, co_H_countNotAbove⟩ zd_H_countNotAbove ⟨Nat.le_of_ble_eq_true rfl, Nat.le_of_ble_eq_true rfl⟩ hP hK hD (ci := 3) (q0 := 11) rfl rfl rfl hl.1 rfl (Nat.le_of_ble_eq_true rfl) d_D_odds_83 ⟨Nat.zero_le _, Nat.zero_le _⟩) hD hS hA (fun r9 w9 H locs hp9 hP hD hS => ?_)
        obtain ⟨lo1, hi1, sq1, rfl, rfl⟩ := hp9
        have hP : va_P D classes (wdC ad cI cZ cL J rd pr (G1.1, G1.2.1, G1.2.2.1, lo1, hi1, sq1) K tl) H := hP
        have hD : va_D A (wdC ad cI cZ cL J rd pr (G1.1, G1.2.1, G1.2.2.1, lo1, hi1, sq1) K tl) := hD
        refine W.eq (g2 := F0 m 86 ls [.long (lZ ((su_S G1.1 0 G1.2.1 (fun s => if s ≤ G1.2.2.1 then 1 else 0) : Nat) : Int))]) rfl ?_
        refine lv_aload_n hx hb d_D_odds_86 rfl (lv_at hl 0 rfl) ?_
        refine va_get (D := D) (ci := 0) (v := .ref (ad 11)) (C := n_D) (T := f_D) (N := 5) hx hb hts in_D hown hK hP 0 rfl rfl 2 (by decide) (hts _ fl_D_28) (fun _ h9 => h9) rfl d_D_odds_87 ?_
        refine z_callVR (As := []) (rest := [.long (lZ ((su_S G1.1 0 G1.2.1 (fun s => if s ≤ G1.2.2.1 then 1 else 0) : Nat) : Int))]) zTB Z (k_H_countAll (G := (G1.1, G1.2.1, G1.2.2.1, lo1, hi1, sq1)) (by show G1.2.1 ≤ 16; omega)) ⟨ml_D_135, im_H_countAll, se_H_countAll, ini_H, co_H_countAll⟩ zd_H_countAll ⟨Nat.le_of_ble_eq_true rfl, Nat.le_of_ble_eq_true rfl⟩ hP hK (ci := 3) (q0 := 11) rfl rfl rfl hl.1 rfl (Nat.le_of_ble_eq_true rfl) d_D_odds_90 ⟨Nat.zero_le _, Nat.zero_le _⟩ ?_
        refine W.eq (g2 := F0 m 93 ls [.long (lZ ((2 ^ G1.2.1 : Nat) : Int)), .long (lZ ((su_S G1.1 0 G1.2.1 (fun s => if s ≤ G1.2.2.1 then 1 else 0) : Nat) : Int))]) rfl ?_
        refine lv_iload_n hx hb d_D_odds_93 rfl (lv_at hl 2 rfl) ?_
        have hsl := su_S_le (wt := G1.1) (a := 0) G1.2.1 (if_le1 G1.2.2.1)
        have hp16 : 2 ^ G1.2.1 ≤ 2 ^ 16 := two_le (by omega)
        refine z_callSR (As := [.long (lZ ((su_S G1.1 0 G1.2.1 (fun s => if s ≤ G1.2.2.1 then 1 else 0) : Nat) : Int)), .long (lZ ((2 ^ G1.2.1 : Nat) : Int)), .int (iZ ((pt : Nat) : Int))]) (rest := []) zTB Z (k_D_toldPart (a := ((su_S G1.1 0 G1.2.1 (fun s => if s ≤ G1.2.2.1 then 1 else 0) : Nat) : Int)) (bl := 2 ^ G1.2.1) (pt := pt) (by omega)) ⟨ml_D_138, sm_D_toldPart, ini_D, co_D_toldPart⟩ zd_D_toldPart ⟨Nat.le_of_ble_eq_true rfl, Nat.le_of_ble_eq_true rfl⟩ hP hK hl.1 rfl (Nat.le_of_ble_eq_true rfl) d_D_odds_94 ⟨Nat.zero_le _, Nat.zero_le _⟩ ?_
        refine W.eq (g2 := F0 m 97 ls [.long (lZ (sTP ((su_S G1.1 0 G1.2.1 (fun s => if s ≤ G1.2.2.1 then 1 else 0) : Nat) : Int) (2 ^ G1.2.1) pt))]) rfl ?_
        exact z_lret Z hP hS d_D_odds_97 wdC_map (by have e : i = jk J := (by omega); rw [e] at hq1 hq2 hq4; exact ⟨_, by rw [hq4, hq2, hq1], rfl⟩)
      · skip
        refine lv_aload_n hx hb d_D_odds_28 rfl (lv_at hl 0 rfl) ?_
        refine va_get (D := D) (ci := 0) (v := .ref (ad 1)) (C := n_D) (T := f_D) (N := 5) hx hb hts in_D hown hK hP 0 rfl rfl 0 (by decide) (hts _ fl_D_14) (fun _ h9 => h9) rfl d_D_odds_29 ?_
        refine lv_iload_n hx hb d_D_odds_32 rfl (lv_at hl 3 rfl) ?_
        refine lv_iload_n hx hb d_D_odds_33 rfl (lv_at hl 1 rfl) ?_
        refine z_callVR (As := [.int (iZ ((i : Nat) : Int)), .int (iZ ((kd : Nat) : Int))]) (rest := []) zTB Z (k_J_keeps hI (pp := i) (kd := kd) (by omega) (by omega)) ⟨ml_D_118, im_J_keeps, se_J_keeps, ini_J, co_J_keeps⟩ zd_J_keeps ⟨Nat.le_of_ble_eq_true rfl, Nat.le_of_ble_eq_true rfl⟩ hP hK (ci := 1) (q0 := 1) rfl rfl rfl hl.1 rfl (Nat.le_of_ble_eq_true rfl) d_D_odds_34 ⟨Nat.zero_le _, Nat.zero_le _⟩ ?_
        refine W.eq (g2 := F0 m 37 ls [.int (bI (sKp J i kd))]) rfl ?_
        refine z_if_eqB (b := sKp J i kd) (tgt := 73) hx hb d_D_odds_37 (by decide) (fun q37 => ?_) (fun q37 => ?_)
        · skip
          refine lv_iinc (v := iZ ((i + 1 : Nat) : Int)) (lv' := [(3, .int (iZ ((i + 1 : Nat) : Int))), (0, .ref (ad 0)), (1, .int (iZ ((kd : Nat) : Int))), (2, .int (iZ ((pt : Nat) : Int)))]) hx hb d_D_odds_73 hl (k := 3) rfl (iZ_inc (i) 1) (by decide) rfl (fun ls hl => ?_)
          refine lv_goto (tgt := 17) hx hb d_D_odds_76 (by decide) ?_
          exact ih17 (i + 1) G1 H locs ls (by omega) (oI_d hG q37) (by omega) hP hD hS (lv_sub hl [1, 2, 3, 0] rfl)
        · skip
          refine lv_aload_n hx hb d_D_odds_40 rfl (lv_at hl 0 rfl) ?_
          refine va_get (D := D) (ci := 0) (v := .ref (ad 1)) (C := n_D) (T := f_D) (N := 5) hx hb hts in_D hown hK hP 0 rfl rfl 0 (by decide) (hts _ fl_D_14) (fun _ h9 => h9) rfl d_D_odds_41 ?_
          refine lv_iload_n hx hb d_D_odds_44 rfl (lv_at hl 3 rfl) ?_
          refine lv_iload_n hx hb d_D_odds_45 rfl (lv_at hl 1 rfl) ?_
          refine z_callVR (As := [.int (iZ ((i : Nat) : Int)), .int (iZ ((kd : Nat) : Int))]) (rest := []) zTB Z (k_J_differenceOf hI (pp := i) (kd := kd) (by omega) (by omega)) ⟨ml_D_102, im_J_differenceOf, se_J_differenceOf, ini_J, co_J_differenceOf⟩ zd_J_differenceOf ⟨Nat.le_of_ble_eq_true rfl, Nat.le_of_ble_eq_true rfl⟩ hP hK (ci := 1) (q0 := 1) rfl rfl rfl hl.1 rfl (Nat.le_of_ble_eq_true rfl) d_D_odds_46 ⟨Nat.zero_le _, Nat.zero_le _⟩ ?_
          refine W.eq (g2 := F0 m 49 ls [.int (iZ (sDf J i kd))]) rfl ?_
          refine lv_istore (lv' := [(4, .int (iZ (sDf J i kd))), (0, .ref (ad 0)), (1, .int (iZ ((kd : Nat) : Int))), (2, .int (iZ ((pt : Nat) : Int))), (3, .int (iZ ((i : Nat) : Int)))]) hx hb d_D_odds_49 hl (by decide) rfl (fun ls hl => ?_)
          refine lv_aload_n hx hb d_D_odds_51 rfl (lv_at hl 1 rfl) ?_
          refine va_get (D := D) (ci := 0) (v := .ref (ad 11)) (C := n_D) (T := f_D) (N := 5) hx hb hts in_D hown hK hP 0 rfl rfl 2 (by decide) (hts _ fl_D_28) (fun _ h9 => h9) rfl d_D_odds_52 ?_
          refine lv_iload hx hb d_D_odds_55 (lv_at hl 0 rfl) ?_
          refine va_mabs hx hb (Z.2.2.2.1.trans hl.1.symm) hown (hts _ ml9_D_122) (hts _ sm_Math_abs9) (hts _ ini_Math) (hts _ co_Math_abs9) (Nat.le_of_ble_eq_true rfl) (Nat.le_of_ble_eq_true rfl) (Nat.zero_le _) (Nat.zero_le _) d_D_odds_57 ?_
          refine z_topI (b := iZ (((sDf J i kd).natAbs : Nat) : Int)) (z_abs (by omega)) ?_
          refine W.eq (g2 := F0 m 60 ls [.int (iZ (((sDf J i kd).natAbs : Nat) : Int)), .ref (ad 11)]) rfl ?_
          refine lv_iload hx hb d_D_odds_60 (lv_at hl 0 rfl) ?_
          refine z_if_le (a := sDf J i kd) (tgt := 69) hx hb (by omega) d_D_odds_62 (by decide) (fun q62 => ?_) (fun q62 => ?_)
          · skip
            refine lv_iconst (v := iZ ((0 : Nat) : Int)) hx hb d_D_odds_69 (by decide) ?_
            refine W.eq (g2 := F0 m 70 ls [.int (bI (false)), .int (iZ (((sDf J i kd).natAbs : Nat) : Int)), .ref (ad 11)]) rfl ?_
            refine z_kv (z_runV (As := [.int (iZ (((sDf J i kd).natAbs : Nat) : Int)), .int (bI (false))]) (rest := []) zTB Z (k_H_add (G := G1) (v := (sDf J i kd).natAbs) (bb := false) (by omega)) ⟨ml_D_127, im_H_add, se_H_add, ini_H, co_H_add⟩ zd_H_add ⟨Nat.le_of_ble_eq_true rfl, Nat.le_of_ble_eq_true rfl⟩ hP hK hD (ci := 3) (q0 := 11) rfl rfl rfl hl.1 rfl (Nat.le_of_ble_eq_true rfl) d_D_odds_70 ⟨Nat.zero_le _, Nat.zero_le _⟩) hD hS hA (fun w9 H locs hp9 hP hD hS => ?_)
            obtain rfl := hp9
            have hP : va_P D classes (wdC ad cI cZ cL J rd pr (zu G1.1 G1.2.1 (((sDf J i kd).natAbs : Nat) : Int), G1.2.1 + 1, G1.2.2.1 + (if false = true then (((sDf J i kd).natAbs : Nat) : Int) else 0), G1.2.2.2) K tl) H := hP
            have hD : va_D A (wdC ad cI cZ cL J rd pr (zu G1.1 G1.2.1 (((sDf J i kd).natAbs : Nat) : Int), G1.2.1 + 1, G1.2.2.1 + (if false = true then (((sDf J i kd).natAbs : Nat) : Int) else 0), G1.2.2.2) K tl) := hD
            refine W.eq (g2 := F0 m 73 ls []) rfl ?_
            refine lv_iinc (v := iZ ((i + 1 : Nat) : Int)) (lv' := [(3, .int (iZ ((i + 1 : Nat) : Int))), (4, .int (iZ (sDf J i kd))), (0, .ref (ad 0)), (1, .int (iZ ((kd : Nat) : Int))), (2, .int (iZ ((pt : Nat) : Int)))]) hx hb d_D_odds_73 hl (k := 4) rfl (iZ_inc (i) 1) (by decide) rfl (fun ls hl => ?_)
            refine lv_goto (tgt := 17) hx hb d_D_odds_76 (by decide) ?_
            exact ih17 (i + 1) (zu G1.1 G1.2.1 (((sDf J i kd).natAbs : Nat) : Int), G1.2.1 + 1, G1.2.2.1 + (if false = true then (((sDf J i kd).natAbs : Nat) : Int) else 0), G1.2.2.2) H locs ls (by omega) (oI_k (b := false) hG q37 hdf ⟨fun z => absurd z (by decide), fun z => absurd z (by omega)⟩) (by omega) hP hD hS (lv_sub hl [2, 3, 4, 0] rfl)
          · skip
            refine lv_iconst (v := iZ ((1 : Nat) : Int)) hx hb d_D_odds_65 (by decide) ?_
            refine lv_goto (tgt := 70) hx hb d_D_odds_66 (by decide) ?_
            refine W.eq (g2 := F0 m 70 ls [.int (bI (true)), .int (iZ (((sDf J i kd).natAbs : Nat) : Int)), .ref (ad 11)]) rfl ?_
            refine z_kv (z_runV (As := [.int (iZ (((sDf J i kd).natAbs : Nat) : Int)), .int (bI (true))]) (rest := []) zTB Z (k_H_add (G := G1) (v := (sDf J i kd).natAbs) (bb := true) (by omega)) ⟨ml_D_127, im_H_add, se_H_add, ini_H, co_H_add⟩ zd_H_add ⟨Nat.le_of_ble_eq_true rfl, Nat.le_of_ble_eq_true rfl⟩ hP hK hD (ci := 3) (q0 := 11) rfl rfl rfl hl.1 rfl (Nat.le_of_ble_eq_true rfl) d_D_odds_70 ⟨Nat.zero_le _, Nat.zero_le _⟩) hD hS hA (fun w9 H locs hp9 hP hD hS => ?_)
            obtain rfl := hp9
            have hP : va_P D classes (wdC ad cI cZ cL J rd pr (zu G1.1 G1.2.1 (((sDf J i kd).natAbs : Nat) : Int), G1.2.1 + 1, G1.2.2.1 + (if true = true then (((sDf J i kd).natAbs : Nat) : Int) else 0), G1.2.2.2) K tl) H := hP
            have hD : va_D A (wdC ad cI cZ cL J rd pr (zu G1.1 G1.2.1 (((sDf J i kd).natAbs : Nat) : Int), G1.2.1 + 1, G1.2.2.1 + (if true = true then (((sDf J i kd).natAbs : Nat) : Int) else 0), G1.2.2.2) K tl) := hD
            refine W.eq (g2 := F0 m 73 ls []) rfl ?_
            refine lv_iinc (v := iZ ((i + 1 : Nat) : Int)) (lv' := [(3, .int (iZ ((i + 1 : Nat) : Int))), (4, .int (iZ (sDf J i kd))), (0, .ref (ad 0)), (1, .int (iZ ((kd : Nat) : Int))), (2, .int (iZ ((pt : Nat) : Int)))]) hx hb d_D_odds_73 hl (k := 4) rfl (iZ_inc (i) 1) (by decide) rfl (fun ls hl => ?_)
            refine lv_goto (tgt := 17) hx hb d_D_odds_76 (by decide) ?_
            exact ih17 (i + 1) (zu G1.1 G1.2.1 (((sDf J i kd).natAbs : Nat) : Int), G1.2.1 + 1, G1.2.2.1 + (if true = true then (((sDf J i kd).natAbs : Nat) : Int) else 0), G1.2.2.2) H locs ls (by omega) (oI_k (b := true) hG q37 hdf ⟨fun _ => by omega, fun _ => rfl⟩) (by omega) hP hD hS (lv_sub hl [2, 3, 4, 0] rfl)
  exact L17 (jk J - 0 + 1) 0 (G.1, 0, 0, G.2.2.2.1, G.2.2.2.2.1, G.2.2.2.2.2) H locs ls (Nat.zero_le _) (⟨rfl, rfl, fun j hj => absurd hj (Nat.not_lt_zero j), fun f => rfl⟩) (by omega) hP hD hS (lv_sub hl [1, 2, 3, 0] rfl)

set_option maxHeartbeats 4000000 in
set_option maxRecDepth 100000 in
theorem k_D_rankOdds {l : Launch} {D : va_G} {ad : Nat → Nat} {cI cZ cL : ClassId} {J : SJ} {rd : Nat → Int} {pr : Nat → Nat} {G : SH} {K : SK} {tl : va_W} {kd pt : Nat} (hI : JI J) (hkd : kd < 3) (hpt : pt < 2) : zMl l TB D classes (tysW cI cZ cL) y_D_rankOdds w_D_rankOdds 4 138 [.ref (ad 0), .int (iZ ((kd : Nat) : Int)), .int (iZ ((pt : Nat) : Int))] (wdC ad cI cZ cL J rd pr G K tl) (fun r w => ∃ G2 : SH, r = lZ (sTP ((sRo J kd (jk J) (fun s => if s ≤ sRc J kd (jk J) then 1 else 0) : Nat) : Int) (2 ^ sRn J kd (jk J)) pt) ∧ w = wdC ad cI cZ cL J rd pr G2 K tl) := by
  refine z_of (Qc := fun A => va_Ql (fun r w => ∃ G2 : SH, r = lZ (sTP ((sRo J kd (jk J) (fun s => if s ≤ sRc J kd (jk J) then 1 else 0) : Nat) : Int) (2 ^ sRn J kd (jk J)) pt) ∧ w = wdC ad cI cZ cL J rd pr G2 K tl) (zB9 D classes (wdC ad cI cZ cL J rd pr G K tl)) A) (by decide) (Nat.le_of_ble_eq_true rfl) ?_
  intro p e s m below meth c A ls Z hP hK hD hS hA hl
  obtain ⟨hx, hb, hr, hml, hown, hts, hE, hlocks⟩ := id Z
  have hl : lv_has ls 5 [(0, .ref (ad 0)), (1, .int (iZ ((kd : Nat) : Int))), (2, .int (iZ ((pt : Nat) : Int)))] := hl
  obtain ⟨hn32, hk2, hpr, hct⟩ := id hI
  suffices K9 : ∀ (H : Heap) (locs : List Loc) (ls : Array Slot), va_P D classes (wdC ad cI cZ cL J rd pr G K tl) H → va_D A (wdC ad cI cZ cL J rd pr G K tl) → va_S A s.heap H locs → lv_has ls 5 [(0, .ref (ad 0)), (1, .int (iZ ((kd : Nat) : Int))), (2, .int (iZ ((pt : Nat) : Int)))] → W p l e (zRm 4 138) s m ([.ref (ad 0), .int (iZ ((kd : Nat) : Int)), .int (iZ ((pt : Nat) : Int))] : List Value).toArray below meth c H locs 0 0 (MQ below (va_Ql (fun r w => ∃ G2 : SH, r = lZ (sTP ((sRo J kd (jk J) (fun s => if s ≤ sRc J kd (jk J) then 1 else 0) : Nat) : Int) (2 ^ sRn J kd (jk J)) pt) ∧ w = wdC ad cI cZ cL J rd pr G2 K tl) (zB9 D classes (wdC ad cI cZ cL J rd pr G K tl)) A) ([.ref (ad 0), .int (iZ ((kd : Nat) : Int)), .int (iZ ((pt : Nat) : Int))] : List Value).toArray s 0 0 A) (F0 m 0 ls []) from K9 s.heap [] ls hP hD hS hl
  clear hP hD hS hl
  intro H locs ls hP hD hS hl
  refine lv_iload_n hx hb d_D_rankOdds_0 rfl (lv_at hl 1 rfl) ?_
  refine z_callSR (As := [.int (iZ ((kd : Nat) : Int))]) (rest := []) zTB Z (k_D_needKind (a := ((kd : Nat) : Int)) (by omega)) ⟨ml_D_64, sm_D_needKind, ini_D, co_D_needKind⟩ zd_D_needKind ⟨Nat.le_of_ble_eq_true rfl, Nat.le_of_ble_eq_true rfl⟩ hP hK hl.1 rfl (Nat.le_of_ble_eq_true rfl) d_D_rankOdds_1 ⟨Nat.zero_le _, Nat.zero_le _⟩ ?_
  refine W.eq (g2 := F0 m 4 ls []) rfl ?_
  refine lv_iload_n hx hb d_D_rankOdds_4 rfl (lv_at hl 2 rfl) ?_
  refine z_callSR (As := [.int (iZ ((pt : Nat) : Int))]) (rest := []) zTB Z (k_D_needPart (a := ((pt : Nat) : Int)) (by omega)) ⟨ml_D_112, sm_D_needPart, ini_D, co_D_needPart⟩ zd_D_needPart ⟨Nat.le_of_ble_eq_true rfl, Nat.le_of_ble_eq_true rfl⟩ hP hK hl.1 rfl (Nat.le_of_ble_eq_true rfl) d_D_rankOdds_5 ⟨Nat.zero_le _, Nat.zero_le _⟩ ?_
  refine W.eq (g2 := F0 m 8 ls []) rfl ?_
  refine lv_aload_n hx hb d_D_rankOdds_8 rfl (lv_at hl 0 rfl) ?_
  refine va_get (D := D) (ci := 0) (v := .ref (ad 11)) (C := n_D) (T := f_D) (N := 5) hx hb hts in_D hown hK hP 0 rfl rfl 2 (by decide) (hts _ fl_D_28) (fun _ h9 => h9) rfl d_D_rankOdds_9 ?_
  refine z_kv (z_runV (As := []) (rest := []) zTB Z k_H_clear ⟨ml_D_115, im_H_clear, se_H_clear, ini_H, co_H_clear⟩ zd_H_clear ⟨Nat.le_of_ble_eq_true rfl, Nat.le_of_ble_eq_true rfl⟩ hP hK hD (ci := 3) (q0 := 11) rfl rfl rfl hl.1 rfl (Nat.le_of_ble_eq_true rfl) d_D_rankOdds_12 ⟨Nat.zero_le _, Nat.zero_le _⟩) hD hS hA (fun w9 H locs hp9 hP hD hS => ?_)
  obtain rfl := hp9
  have hP : va_P D classes (wdC ad cI cZ cL J rd pr (G.1, 0, 0, G.2.2.2.1, G.2.2.2.2.1, G.2.2.2.2.2) K tl) H := hP
  have hD : va_D A (wdC ad cI cZ cL J rd pr (G.1, 0, 0, G.2.2.2.1, G.2.2.2.2.1, G.2.2.2.2.2) K tl) := hD
  refine W.eq (g2 := F0 m 15 ls []) rfl ?_
  refine lv_iconst (v := iZ ((0 : Nat) : Int)) hx hb d_D_rankOdds_15 (by decide) ?_
  refine lv_istore_n (lv' := [(3, .int (iZ ((0 : Nat) : Int))), (0, .ref (ad 0)), (1, .int (iZ ((kd : Nat) : Int))), (2, .int (iZ ((pt : Nat) : Int)))]) hx hb d_D_rankOdds_16 rfl hl (by decide) rfl (fun ls hl => ?_)
  have L17 : ∀ (N17 : Nat) (i : Nat) (G1 : SH) (H : Heap) (locs : List Loc) (ls : Array Slot), (i ≤ jk J) → (rI J kd i G1) → jk J - i < N17 → va_P D classes (wdC ad cI cZ cL J rd pr G1 K tl) H → va_D A (wdC ad cI cZ cL J rd pr G1 K tl) → va_S A s.heap H locs → lv_has ls 5 [(0, .ref (ad 0)), (1, .int (iZ ((kd : Nat) : Int))), (2, .int (iZ ((pt : Nat) : Int))), (3, .int (iZ ((i : Nat) : Int)))] → W p l e (zRm 4 138) s m ([.ref (ad 0), .int (iZ ((kd : Nat) : Int)), .int (iZ ((pt : Nat) : Int))] : List Value).toArray below meth c H locs 0 0 (MQ below (va_Ql (fun r w => ∃ G2 : SH, r = lZ (sTP ((sRo J kd (jk J) (fun s => if s ≤ sRc J kd (jk J) then 1 else 0) : Nat) : Int) (2 ^ sRn J kd (jk J)) pt) ∧ w = wdC ad cI cZ cL J rd pr G2 K tl) (zB9 D classes (wdC ad cI cZ cL J rd pr G K tl)) A) ([.ref (ad 0), .int (iZ ((kd : Nat) : Int)), .int (iZ ((pt : Nat) : Int))] : List Value).toArray s 0 0 A) (F0 m 17 ls []) := by
    intro N17
    induction N17 with
    | zero =>
      intro i G1 H locs ls hi hG hN17 hP hD hS hl
      exact absurd hN17 (Nat.not_lt_zero _)
    | succ N17 ih17 =>
      intro i G1 H locs ls hi hG hN17 hP hD hS hl
      obtain ⟨hq1, hq2, hq3, hq4⟩ := id hG
      have hdf := sDf_b hI i kd
      have hle := sRn_le J kd i
      have hob := sRc_b (J := J) (by omega) kd i
      have hrk := sRk_le (J := J) (by omega) i kd
      refine lv_iload_n hx hb d_D_rankOdds_17 rfl (lv_at hl 3 rfl) ?_
      refine lv_aload_n hx hb d_D_rankOdds_18 rfl (lv_at hl 0 rfl) ?_
      refine va_get (D := D) (ci := 0) (v := .ref (ad 1)) (C := n_D) (T := f_D) (N := 5) hx hb hts in_D hown hK hP 0 rfl rfl 0 (by decide) (hts _ fl_D_14) (fun _ h9 => h9) rfl d_D_rankOdds_19 ?_
      refine va_getN (D := D) (ci := 1) (v := .int (iZ ((jk J : Nat) : Int))) (C := n_J) (T := f_J) (N := 10) hx hb hts in_J hown hK hP 1 rfl rfl 2 (by decide) (hts _ fl_D_99) (fun _ h9 => h9) rfl d_D_rankOdds_22 ?_
      refine z_icmp_ge (a := ((i : Nat) : Int)) (b := ((jk J : Nat) : Int)) (tgt := 76) hx hb (by omega) d_D_rankOdds_25 (by decide) (fun q25 => ?_) (fun q25 => ?_)
      · skip
        refine lv_aload_n hx hb d_D_rankOdds_76 rfl (lv_at hl 0 rfl) ?_
        refine va_get (D := D) (ci := 0) (v := .ref (ad 11)) (C := n_D) (T := f_D) (N := 5) hx hb hts in_D hown hK hP 0 rfl rfl 2 (by decide) (hts _ fl_D_28) (fun _ h9 => h9) rfl d_D_rankOdds_77 ?_
        refine z_kl (z_runV (As := []) (rest := []) zTB Z (k_H_countNotAbove (G := G1) (by omega) hq3 (by omega)) ⟨ml_D_131, im_H_countNotAbove, se_H_countNotAbove, ini_H, co_H_countNotAbove⟩ zd_H_countNotAbove ⟨Nat.le_of_ble_eq_true rfl, Nat.le_of_ble_eq_true rfl⟩ hP hK hD (ci := 3) (q0 := 11) rfl rfl rfl hl.1 rfl (Nat.le_of_ble_eq_true rfl) d_D_rankOdds_80 ⟨Nat.zero_le _, Nat.zero_le _⟩) hD hS hA (fun r9 w9 H locs hp9 hP hD hS => ?_)
        obtain ⟨lo1, hi1, sq1, rfl, rfl⟩ := hp9
        have hP : va_P D classes (wdC ad cI cZ cL J rd pr (G1.1, G1.2.1, G1.2.2.1, lo1, hi1, sq1) K tl) H := hP
        have hD : va_D A (wdC ad cI cZ cL J rd pr (G1.1, G1.2.1, G1.2.2.1, lo1, hi1, sq1) K tl) := hD
        refine W.eq (g2 := F0 m 83 ls [.long (lZ ((su_S G1.1 0 G1.2.1 (fun s => if s ≤ G1.2.2.1 then 1 else 0) : Nat) : Int))]) rfl ?_
        refine lv_aload_n hx hb d_D_rankOdds_83 rfl (lv_at hl 0 rfl) ?_
        refine va_get (D := D) (ci := 0) (v := .ref (ad 11)) (C := n_D) (T := f_D) (N := 5) hx hb hts in_D hown hK hP 0 rfl rfl 2 (by decide) (hts _ fl_D_28) (fun _ h9 => h9) rfl d_D_rankOdds_84 ?_
        refine z_callVR (As := []) (rest := [.long (lZ ((su_S G1.1 0 G1.2.1 (fun s => if s ≤ G1.2.2.1 then 1 else 0) : Nat) : Int))]) zTB Z (k_H_countAll (G := (G1.1, G1.2.1, G1.2.2.1, lo1, hi1, sq1)) (by show G1.2.1 ≤ 16; omega)) ⟨ml_D_135, im_H_countAll, se_H_countAll, ini_H, co_H_countAll⟩ zd_H_countAll ⟨Nat.le_of_ble_eq_true rfl, Nat.le_of_ble_eq_true rfl⟩ hP hK (ci := 3) (q0 := 11) rfl rfl rfl hl.1 rfl (Nat.le_of_ble_eq_true rfl) d_D_rankOdds_87 ⟨Nat.zero_le _, Nat.zero_le _⟩ ?_
        refine W.eq (g2 := F0 m 90 ls [.long (lZ ((2 ^ G1.2.1 : Nat) : Int)), .long (lZ ((su_S G1.1 0 G1.2.1 (fun s => if s ≤ G1.2.2.1 then 1 else 0) : Nat) : Int))]) rfl ?_
        refine lv_iload_n hx hb d_D_rankOdds_90 rfl (lv_at hl 2 rfl) ?_
        have hsl := su_S_le (wt := G1.1) (a := 0) G1.2.1 (if_le1 G1.2.2.1)
        have hp16 : 2 ^ G1.2.1 ≤ 2 ^ 16 := two_le (by omega)
        refine z_callSR (As := [.long (lZ ((su_S G1.1 0 G1.2.1 (fun s => if s ≤ G1.2.2.1 then 1 else 0) : Nat) : Int)), .long (lZ ((2 ^ G1.2.1 : Nat) : Int)), .int (iZ ((pt : Nat) : Int))]) (rest := []) zTB Z (k_D_toldPart (a := ((su_S G1.1 0 G1.2.1 (fun s => if s ≤ G1.2.2.1 then 1 else 0) : Nat) : Int)) (bl := 2 ^ G1.2.1) (pt := pt) (by omega)) ⟨ml_D_138, sm_D_toldPart, ini_D, co_D_toldPart⟩ zd_D_toldPart ⟨Nat.le_of_ble_eq_true rfl, Nat.le_of_ble_eq_true rfl⟩ hP hK hl.1 rfl (Nat.le_of_ble_eq_true rfl) d_D_rankOdds_91 ⟨Nat.zero_le _, Nat.zero_le _⟩ ?_
        refine W.eq (g2 := F0 m 94 ls [.long (lZ (sTP ((su_S G1.1 0 G1.2.1 (fun s => if s ≤ G1.2.2.1 then 1 else 0) : Nat) : Int) (2 ^ G1.2.1) pt))]) rfl ?_
        exact z_lret Z hP hS d_D_rankOdds_94 wdC_map (by have e : i = jk J := (by omega); rw [e] at hq1 hq2 hq4; exact ⟨_, by rw [hq4, hq2, hq1], rfl⟩)
      · skip
        refine lv_aload_n hx hb d_D_rankOdds_28 rfl (lv_at hl 0 rfl) ?_
        refine va_get (D := D) (ci := 0) (v := .ref (ad 1)) (C := n_D) (T := f_D) (N := 5) hx hb hts in_D hown hK hP 0 rfl rfl 0 (by decide) (hts _ fl_D_14) (fun _ h9 => h9) rfl d_D_rankOdds_29 ?_
        refine lv_iload_n hx hb d_D_rankOdds_32 rfl (lv_at hl 3 rfl) ?_
        refine lv_iload_n hx hb d_D_rankOdds_33 rfl (lv_at hl 1 rfl) ?_
        refine z_callVR (As := [.int (iZ ((i : Nat) : Int)), .int (iZ ((kd : Nat) : Int))]) (rest := []) zTB Z (k_J_rankOf hI (pp := i) (kd := kd) (by omega) (by omega)) ⟨ml_D_142, im_J_rankOf, se_J_rankOf, ini_J, co_J_rankOf⟩ zd_J_rankOf ⟨Nat.le_of_ble_eq_true rfl, Nat.le_of_ble_eq_true rfl⟩ hP hK (ci := 1) (q0 := 1) rfl rfl rfl hl.1 rfl (Nat.le_of_ble_eq_true rfl) d_D_rankOdds_34 ⟨Nat.zero_le _, Nat.zero_le _⟩ ?_
        refine W.eq (g2 := F0 m 37 ls [.int (iZ ((sRk J i kd : Nat) : Int))]) rfl ?_
        refine lv_istore (lv' := [(4, .int (iZ ((sRk J i kd : Nat) : Int))), (0, .ref (ad 0)), (1, .int (iZ ((kd : Nat) : Int))), (2, .int (iZ ((pt : Nat) : Int))), (3, .int (iZ ((i : Nat) : Int)))]) hx hb d_D_rankOdds_37 hl (by decide) rfl (fun ls hl => ?_)
        refine lv_iload hx hb d_D_rankOdds_39 (lv_at hl 0 rfl) ?_
        refine z_if_le (a := ((sRk J i kd : Nat) : Int)) (tgt := 70) hx hb (by omega) d_D_rankOdds_41 (by decide) (fun q41 => ?_) (fun q41 => ?_)
        · skip
          refine lv_iinc (v := iZ ((i + 1 : Nat) : Int)) (lv' := [(3, .int (iZ ((i + 1 : Nat) : Int))), (4, .int (iZ ((sRk J i kd : Nat) : Int))), (0, .ref (ad 0)), (1, .int (iZ ((kd : Nat) : Int))), (2, .int (iZ ((pt : Nat) : Int)))]) hx hb d_D_rankOdds_70 hl (k := 4) rfl (iZ_inc (i) 1) (by decide) rfl (fun ls hl => ?_)
          refine lv_goto (tgt := 17) hx hb d_D_rankOdds_73 (by decide) ?_
          exact ih17 (i + 1) G1 H locs ls (by omega) (rI_d hG (by omega)) (by omega) hP hD hS (lv_sub hl [2, 3, 4, 0] rfl)
        · skip
          refine lv_aload_n hx hb d_D_rankOdds_44 rfl (lv_at hl 1 rfl) ?_
          refine va_get (D := D) (ci := 0) (v := .ref (ad 11)) (C := n_D) (T := f_D) (N := 5) hx hb hts in_D hown hK hP 0 rfl rfl 2 (by decide) (hts _ fl_D_28) (fun _ h9 => h9) rfl d_D_rankOdds_45 ?_
          refine lv_iload hx hb d_D_rankOdds_48 (lv_at hl 0 rfl) ?_
          refine lv_aload_n hx hb d_D_rankOdds_50 rfl (lv_at hl 1 rfl) ?_
          refine va_get (D := D) (ci := 0) (v := .ref (ad 1)) (C := n_D) (T := f_D) (N := 5) hx hb hts in_D hown hK hP 0 rfl rfl 0 (by decide) (hts _ fl_D_14) (fun _ h9 => h9) rfl d_D_rankOdds_51 ?_
          refine lv_iload_n hx hb d_D_rankOdds_54 rfl (lv_at hl 4 rfl) ?_
          refine lv_iload_n hx hb d_D_rankOdds_55 rfl (lv_at hl 2 rfl) ?_
          refine z_callVR (As := [.int (iZ ((i : Nat) : Int)), .int (iZ ((kd : Nat) : Int))]) (rest := [.int (iZ ((sRk J i kd : Nat) : Int)), .ref (ad 11)]) zTB Z (k_J_differenceOf hI (pp := i) (kd := kd) (by omega) (by omega)) ⟨ml_D_102, im_J_differenceOf, se_J_differenceOf, ini_J, co_J_differenceOf⟩ zd_J_differenceOf ⟨Nat.le_of_ble_eq_true rfl, Nat.le_of_ble_eq_true rfl⟩ hP hK (ci := 1) (q0 := 1) rfl rfl rfl hl.1 rfl (Nat.le_of_ble_eq_true rfl) d_D_rankOdds_56 ⟨Nat.zero_le _, Nat.zero_le _⟩ ?_
          refine W.eq (g2 := F0 m 59 ls [.int (iZ (sDf J i kd)), .int (iZ ((sRk J i kd : Nat) : Int)), .ref (ad 11)]) rfl ?_
          refine z_if_le (a := sDf J i kd) (tgt := 66) hx hb (by omega) d_D_rankOdds_59 (by decide) (fun q59 => ?_) (fun q59 => ?_)
          · skip
            refine lv_iconst (v := iZ ((0 : Nat) : Int)) hx hb d_D_rankOdds_66 (by decide) ?_
            refine W.eq (g2 := F0 m 67 ls [.int (bI (false)), .int (iZ ((sRk J i kd : Nat) : Int)), .ref (ad 11)]) rfl ?_
            refine z_kv (z_runV (As := [.int (iZ ((sRk J i kd : Nat) : Int)), .int (bI (false))]) (rest := []) zTB Z (k_H_add (G := G1) (v := sRk J i kd) (bb := false) (by omega)) ⟨ml_D_127, im_H_add, se_H_add, ini_H, co_H_add⟩ zd_H_add ⟨Nat.le_of_ble_eq_true rfl, Nat.le_of_ble_eq_true rfl⟩ hP hK hD (ci := 3) (q0 := 11) rfl rfl rfl hl.1 rfl (Nat.le_of_ble_eq_true rfl) d_D_rankOdds_67 ⟨Nat.zero_le _, Nat.zero_le _⟩) hD hS hA (fun w9 H locs hp9 hP hD hS => ?_)
            obtain rfl := hp9
            have hP : va_P D classes (wdC ad cI cZ cL J rd pr (zu G1.1 G1.2.1 ((sRk J i kd : Nat) : Int), G1.2.1 + 1, G1.2.2.1 + (if false = true then ((sRk J i kd : Nat) : Int) else 0), G1.2.2.2) K tl) H := hP
            have hD : va_D A (wdC ad cI cZ cL J rd pr (zu G1.1 G1.2.1 ((sRk J i kd : Nat) : Int), G1.2.1 + 1, G1.2.2.1 + (if false = true then ((sRk J i kd : Nat) : Int) else 0), G1.2.2.2) K tl) := hD
            refine W.eq (g2 := F0 m 70 ls []) rfl ?_
            refine lv_iinc (v := iZ ((i + 1 : Nat) : Int)) (lv' := [(3, .int (iZ ((i + 1 : Nat) : Int))), (4, .int (iZ ((sRk J i kd : Nat) : Int))), (0, .ref (ad 0)), (1, .int (iZ ((kd : Nat) : Int))), (2, .int (iZ ((pt : Nat) : Int)))]) hx hb d_D_rankOdds_70 hl (k := 4) rfl (iZ_inc (i) 1) (by decide) rfl (fun ls hl => ?_)
            refine lv_goto (tgt := 17) hx hb d_D_rankOdds_73 (by decide) ?_
            exact ih17 (i + 1) (zu G1.1 G1.2.1 ((sRk J i kd : Nat) : Int), G1.2.1 + 1, G1.2.2.1 + (if false = true then ((sRk J i kd : Nat) : Int) else 0), G1.2.2.2) H locs ls (by omega) (rI_k (b := false) hG (by omega) (by omega) ⟨fun z => absurd z (by decide), fun z => absurd z (by omega)⟩) (by omega) hP hD hS (lv_sub hl [2, 3, 4, 0] rfl)
          · skip
            refine lv_iconst (v := iZ ((1 : Nat) : Int)) hx hb d_D_rankOdds_62 (by decide) ?_
            refine lv_goto (tgt := 67) hx hb d_D_rankOdds_63 (by decide) ?_
            refine W.eq (g2 := F0 m 67 ls [.int (bI (true)), .int (iZ ((sRk J i kd : Nat) : Int)), .ref (ad 11)]) rfl ?_
            refine z_kv (z_runV (As := [.int (iZ ((sRk J i kd : Nat) : Int)), .int (bI (true))]) (rest := []) zTB Z (k_H_add (G := G1) (v := sRk J i kd) (bb := true) (by omega)) ⟨ml_D_127, im_H_add, se_H_add, ini_H, co_H_add⟩ zd_H_add ⟨Nat.le_of_ble_eq_true rfl, Nat.le_of_ble_eq_true rfl⟩ hP hK hD (ci := 3) (q0 := 11) rfl rfl rfl hl.1 rfl (Nat.le_of_ble_eq_true rfl) d_D_rankOdds_67 ⟨Nat.zero_le _, Nat.zero_le _⟩) hD hS hA (fun w9 H locs hp9 hP hD hS => ?_)
            obtain rfl := hp9
            have hP : va_P D classes (wdC ad cI cZ cL J rd pr (zu G1.1 G1.2.1 ((sRk J i kd : Nat) : Int), G1.2.1 + 1, G1.2.2.1 + (if true = true then ((sRk J i kd : Nat) : Int) else 0), G1.2.2.2) K tl) H := hP
            have hD : va_D A (wdC ad cI cZ cL J rd pr (zu G1.1 G1.2.1 ((sRk J i kd : Nat) : Int), G1.2.1 + 1, G1.2.2.1 + (if true = true then ((sRk J i kd : Nat) : Int) else 0), G1.2.2.2) K tl) := hD
            refine W.eq (g2 := F0 m 70 ls []) rfl ?_
            refine lv_iinc (v := iZ ((i + 1 : Nat) : Int)) (lv' := [(3, .int (iZ ((i + 1 : Nat) : Int))), (4, .int (iZ ((sRk J i kd : Nat) : Int))), (0, .ref (ad 0)), (1, .int (iZ ((kd : Nat) : Int))), (2, .int (iZ ((pt : Nat) : Int)))]) hx hb d_D_rankOdds_70 hl (k := 4) rfl (iZ_inc (i) 1) (by decide) rfl (fun ls hl => ?_)
            refine lv_goto (tgt := 17) hx hb d_D_rankOdds_73 (by decide) ?_
            exact ih17 (i + 1) (zu G1.1 G1.2.1 ((sRk J i kd : Nat) : Int), G1.2.1 + 1, G1.2.2.1 + (if true = true then ((sRk J i kd : Nat) : Int) else 0), G1.2.2.2) H locs ls (by omega) (rI_k (b := true) hG (by omega) (by omega) ⟨fun _ => by omega, fun _ => rfl⟩) (by omega) hP hD hS (lv_sub hl [2, 3, 4, 0] rfl)
  exact L17 (jk J - 0 + 1) 0 (G.1, 0, 0, G.2.2.2.1, G.2.2.2.2.1, G.2.2.2.2.2) H locs ls (Nat.zero_le _) (⟨rfl, rfl, fun j hj => absurd hj (Nat.not_lt_zero j), fun f => rfl⟩) (by omega) hP hD hS (lv_sub hl [1, 2, 3, 0] rfl)

set_option maxHeartbeats 4000000 in
set_option maxRecDepth 100000 in
theorem k_D_crossing {l : Launch} {D : va_G} {ad : Nat → Nat} {cI cZ cL : ClassId} {J : SJ} {rd : Nat → Int} {pr : Nat → Nat} {G : SH} {K : SK} {tl : va_W} {nn up lo pt : Nat} (hn : nn ≤ 40) (hup : 1 ≤ up ∧ up ≤ 16) (hlo : 1 ≤ lo ∧ lo ≤ 16) (hpt : pt < 2) : zMl l TB D classes (tysW cI cZ cL) y_D_crossing w_D_crossing 3 83 [.ref (ad 0), .int (iZ ((nn : Nat) : Int)), .int (iZ ((up : Nat) : Int)), .int (iZ ((lo : Nat) : Int)), .int (iZ ((pt : Nat) : Int))] (wdC ad cI cZ cL J rd pr G K tl) (fun r w => ∃ K2 : SK, r = lZ (sTP ((sCr up lo nn : Nat) : Int) (2 ^ nn) pt) ∧ w = wdC ad cI cZ cL J rd pr G K2 tl) := by
  refine z_of (Qc := fun A => va_Ql (fun r w => ∃ K2 : SK, r = lZ (sTP ((sCr up lo nn : Nat) : Int) (2 ^ nn) pt) ∧ w = wdC ad cI cZ cL J rd pr G K2 tl) (zB9 D classes (wdC ad cI cZ cL J rd pr G K tl)) A) (by decide) (Nat.le_of_ble_eq_true rfl) ?_
  intro p e s m below meth c A ls Z hP hK hD hS hA hl
  obtain ⟨hx, hb, hr, hml, hown, hts, hE, hlocks⟩ := id Z
  have hl : lv_has ls 6 [(0, .ref (ad 0)), (1, .int (iZ ((nn : Nat) : Int))), (2, .int (iZ ((up : Nat) : Int))), (3, .int (iZ ((lo : Nat) : Int))), (4, .int (iZ ((pt : Nat) : Int)))] := hl
  have hcb := sCr_le up lo nn
  have hcb2 : nn * 2 ^ nn ≤ 40 * 2 ^ 40 := Nat.mul_le_mul hn (two_le hn)
  have hcb3 : 2 ^ nn ≤ 2 ^ 40 := two_le hn
  suffices K9 : ∀ (H : Heap) (locs : List Loc) (ls : Array Slot), va_P D classes (wdC ad cI cZ cL J rd pr G K tl) H → va_D A (wdC ad cI cZ cL J rd pr G K tl) → va_S A s.heap H locs → lv_has ls 6 [(0, .ref (ad 0)), (1, .int (iZ ((nn : Nat) : Int))), (2, .int (iZ ((up : Nat) : Int))), (3, .int (iZ ((lo : Nat) : Int))), (4, .int (iZ ((pt : Nat) : Int)))] → W p l e (zRm 3 83) s m ([.ref (ad 0), .int (iZ ((nn : Nat) : Int)), .int (iZ ((up : Nat) : Int)), .int (iZ ((lo : Nat) : Int)), .int (iZ ((pt : Nat) : Int))] : List Value).toArray below meth c H locs 0 0 (MQ below (va_Ql (fun r w => ∃ K2 : SK, r = lZ (sTP ((sCr up lo nn : Nat) : Int) (2 ^ nn) pt) ∧ w = wdC ad cI cZ cL J rd pr G K2 tl) (zB9 D classes (wdC ad cI cZ cL J rd pr G K tl)) A) ([.ref (ad 0), .int (iZ ((nn : Nat) : Int)), .int (iZ ((up : Nat) : Int)), .int (iZ ((lo : Nat) : Int)), .int (iZ ((pt : Nat) : Int))] : List Value).toArray s 0 0 A) (F0 m 0 ls []) from K9 s.heap [] ls hP hD hS hl
  clear hP hD hS hl
  intro H locs ls hP hD hS hl
  refine lv_iload hx hb d_D_crossing_0 (lv_at hl 4 rfl) ?_
  refine z_callSR (As := [.int (iZ ((pt : Nat) : Int))]) (rest := []) zTB Z (k_D_needPart (a := ((pt : Nat) : Int)) (by omega)) ⟨ml_D_112, sm_D_needPart, ini_D, co_D_needPart⟩ zd_D_needPart ⟨Nat.le_of_ble_eq_true rfl, Nat.le_of_ble_eq_true rfl⟩ hP hK hl.1 rfl (Nat.le_of_ble_eq_true rfl) d_D_crossing_2 ⟨Nat.zero_le _, Nat.zero_le _⟩ ?_
  refine W.eq (g2 := F0 m 5 ls []) rfl ?_
  refine lv_iload_n hx hb d_D_crossing_5 rfl (lv_at hl 1 rfl) ?_
  refine lv_iconst (v := iZ ((0 : Nat) : Int)) hx hb d_D_crossing_6 (by decide) ?_
  refine lv_bipush (v := iZ ((40 : Nat) : Int)) hx hb d_D_crossing_7 (by decide) ?_
  refine z_callSR (As := [.int (iZ ((nn : Nat) : Int)), .int (iZ ((0 : Nat) : Int)), .int (iZ ((40 : Nat) : Int))]) (rest := []) zTB Z (k_D_needNumber (a := ((nn : Nat) : Int)) (b := ((0 : Nat) : Int)) (c9 := ((40 : Nat) : Int)) (by omega)) ⟨ml_D_67, sm_D_needNumber, ini_D, co_D_needNumber⟩ zd_D_needNumber ⟨Nat.le_of_ble_eq_true rfl, Nat.le_of_ble_eq_true rfl⟩ hP hK hl.1 rfl (Nat.le_of_ble_eq_true rfl) d_D_crossing_9 ⟨Nat.zero_le _, Nat.zero_le _⟩ ?_
  refine W.eq (g2 := F0 m 12 ls []) rfl ?_
  refine lv_iload_n hx hb d_D_crossing_12 rfl (lv_at hl 2 rfl) ?_
  refine lv_iload_n hx hb d_D_crossing_13 rfl (lv_at hl 3 rfl) ?_
  refine z_callSR (As := [.int (iZ ((up : Nat) : Int)), .int (iZ ((lo : Nat) : Int))]) (rest := []) zTB Z (k_D_needBounds (a := ((up : Nat) : Int)) (b := ((lo : Nat) : Int)) (by omega)) ⟨ml_D_145, sm_D_needBounds, ini_D, co_D_needBounds⟩ zd_D_needBounds ⟨Nat.le_of_ble_eq_true rfl, Nat.le_of_ble_eq_true rfl⟩ hP hK hl.1 rfl (Nat.le_of_ble_eq_true rfl) d_D_crossing_14 ⟨Nat.zero_le _, Nat.zero_le _⟩ ?_
  refine W.eq (g2 := F0 m 17 ls []) rfl ?_
  refine lv_aload_n hx hb d_D_crossing_17 rfl (lv_at hl 0 rfl) ?_
  refine va_get (D := D) (ci := 0) (v := .ref (ad 16)) (C := n_D) (T := f_D) (N := 5) hx hb hts in_D hown hK hP 0 rfl rfl 3 (by decide) (hts _ fl_D_35) (fun _ h9 => h9) rfl d_D_crossing_18 ?_
  refine lv_iload_n hx hb d_D_crossing_21 rfl (lv_at hl 2 rfl) ?_
  refine lv_iload_n hx hb d_D_crossing_22 rfl (lv_at hl 3 rfl) ?_
  refine z_kv (z_runV (As := [.int (iZ ((up : Nat) : Int)), .int (iZ ((lo : Nat) : Int))]) (rest := []) zTB Z (k_K_start (up := up) (lo := lo) (by omega)) ⟨ml_D_156, im_K_start, se_K_start, ini_K, co_K_start⟩ zd_K_start ⟨Nat.le_of_ble_eq_true rfl, Nat.le_of_ble_eq_true rfl⟩ hP hK hD (ci := 4) (q0 := 16) rfl rfl rfl hl.1 rfl (Nat.le_of_ble_eq_true rfl) d_D_crossing_23 ⟨Nat.zero_le _, Nat.zero_le _⟩) hD hS hA (fun w9 H locs hp9 hP hD hS => ?_)
  obtain ⟨K0, rfl, hk0⟩ := hp9
  have hP : va_P D classes (wdC ad cI cZ cL J rd pr G K0 tl) H := hP
  have hD : va_D A (wdC ad cI cZ cL J rd pr G K0 tl) := hD
  refine W.eq (g2 := F0 m 26 ls []) rfl ?_
  refine lv_iconst (v := iZ ((0 : Nat) : Int)) hx hb d_D_crossing_26 (by decide) ?_
  refine lv_istore (lv' := [(5, .int (iZ ((0 : Nat) : Int))), (0, .ref (ad 0)), (1, .int (iZ ((nn : Nat) : Int))), (2, .int (iZ ((up : Nat) : Int))), (3, .int (iZ ((lo : Nat) : Int))), (4, .int (iZ ((pt : Nat) : Int)))]) hx hb d_D_crossing_27 hl (by decide) rfl (fun ls hl => ?_)
  have L29 : ∀ (N29 : Nat) (i : Nat) (K1 : SK) (H : Heap) (locs : List Loc) (ls : Array Slot), (i ≤ nn) → (wkI up lo i K1) → nn - i < N29 → va_P D classes (wdC ad cI cZ cL J rd pr G K1 tl) H → va_D A (wdC ad cI cZ cL J rd pr G K1 tl) → va_S A s.heap H locs → lv_has ls 6 [(0, .ref (ad 0)), (1, .int (iZ ((nn : Nat) : Int))), (2, .int (iZ ((up : Nat) : Int))), (3, .int (iZ ((lo : Nat) : Int))), (4, .int (iZ ((pt : Nat) : Int))), (5, .int (iZ ((i : Nat) : Int)))] → W p l e (zRm 3 83) s m ([.ref (ad 0), .int (iZ ((nn : Nat) : Int)), .int (iZ ((up : Nat) : Int)), .int (iZ ((lo : Nat) : Int)), .int (iZ ((pt : Nat) : Int))] : List Value).toArray below meth c H locs 0 0 (MQ below (va_Ql (fun r w => ∃ K2 : SK, r = lZ (sTP ((sCr up lo nn : Nat) : Int) (2 ^ nn) pt) ∧ w = wdC ad cI cZ cL J rd pr G K2 tl) (zB9 D classes (wdC ad cI cZ cL J rd pr G K tl)) A) ([.ref (ad 0), .int (iZ ((nn : Nat) : Int)), .int (iZ ((up : Nat) : Int)), .int (iZ ((lo : Nat) : Int)), .int (iZ ((pt : Nat) : Int))] : List Value).toArray s 0 0 A) (F0 m 29 ls []) := by
    intro N29
    induction N29 with
    | zero =>
      intro i K1 H locs ls hi hk1 hN29 hP hD hS hl
      exact absurd hN29 (Nat.not_lt_zero _)
    | succ N29 ih29 =>
      intro i K1 H locs ls hi hk1 hN29 hP hD hS hl
      refine lv_iload hx hb d_D_crossing_29 (lv_at hl 5 rfl) ?_
      refine lv_iload_n hx hb d_D_crossing_31 rfl (lv_at hl 1 rfl) ?_
      refine z_icmp_ge (a := ((i : Nat) : Int)) (b := ((nn : Nat) : Int)) (tgt := 48) hx hb (by omega) d_D_crossing_32 (by decide) (fun q32 => ?_) (fun q32 => ?_)
      · skip
        have e9 : i = nn := by omega
        rw [e9] at hk1
        have hc1 := hk1.2.1
        have hc2 := hk1.2.2.1
        refine lv_aload_n hx hb d_D_crossing_48 rfl (lv_at hl 0 rfl) ?_
        refine va_get (D := D) (ci := 0) (v := .ref (ad 16)) (C := n_D) (T := f_D) (N := 5) hx hb hts in_D hown hK hP 0 rfl rfl 3 (by decide) (hts _ fl_D_35) (fun _ h9 => h9) rfl d_D_crossing_49 ?_
        refine va_getN (D := D) (ci := 4) (v := .long (lZ ((K1.2.2.1 : Nat) : Int))) (C := n_K) (T := f_K) (N := 4) hx hb hts in_K hown hK hP 16 rfl rfl 2 (by decide) (hts _ fl_D_162) (fun _ h9 => h9) rfl d_D_crossing_52 ?_
        refine lv_aload_n hx hb d_D_crossing_55 rfl (lv_at hl 0 rfl) ?_
        refine va_get (D := D) (ci := 0) (v := .ref (ad 16)) (C := n_D) (T := f_D) (N := 5) hx hb hts in_D hown hK hP 0 rfl rfl 3 (by decide) (hts _ fl_D_35) (fun _ h9 => h9) rfl d_D_crossing_56 ?_
        refine va_getN (D := D) (ci := 4) (v := .long (lZ ((K1.2.2.2 : Nat) : Int))) (C := n_K) (T := f_K) (N := 4) hx hb hts in_K hown hK hP 16 rfl rfl 3 (by decide) (hts _ fl_D_166) (fun _ h9 => h9) rfl d_D_crossing_59 ?_
        refine lv_iload hx hb d_D_crossing_62 (lv_at hl 4 rfl) ?_
        refine z_callSR (As := [.long (lZ ((K1.2.2.1 : Nat) : Int)), .long (lZ ((K1.2.2.2 : Nat) : Int)), .int (iZ ((pt : Nat) : Int))]) (rest := []) zTB Z (k_D_toldPart (a := ((K1.2.2.1 : Nat) : Int)) (bl := K1.2.2.2) (pt := pt) (by omega)) ⟨ml_D_138, sm_D_toldPart, ini_D, co_D_toldPart⟩ zd_D_toldPart ⟨Nat.le_of_ble_eq_true rfl, Nat.le_of_ble_eq_true rfl⟩ hP hK hl.1 rfl (Nat.le_of_ble_eq_true rfl) d_D_crossing_64 ⟨Nat.zero_le _, Nat.zero_le _⟩ ?_
        refine W.eq (g2 := F0 m 67 ls [.long (lZ (sTP ((K1.2.2.1 : Nat) : Int) K1.2.2.2 pt))]) rfl ?_
        exact z_lret Z hP hS d_D_crossing_67 wdC_map (⟨K1, by rw [hc1, hc2], rfl⟩)
      · skip
        refine lv_aload_n hx hb d_D_crossing_35 rfl (lv_at hl 0 rfl) ?_
        refine va_get (D := D) (ci := 0) (v := .ref (ad 16)) (C := n_D) (T := f_D) (N := 5) hx hb hts in_D hown hK hP 0 rfl rfl 3 (by decide) (hts _ fl_D_35) (fun _ h9 => h9) rfl d_D_crossing_36 ?_
        refine z_kv (z_runV (As := []) (rest := []) zTB Z (k_K_goOn (K := K1) (up := up) (lo := lo) (n := i) (by omega) hk1) ⟨ml_D_159, im_K_goOn, se_K_goOn, ini_K, co_K_goOn⟩ zd_K_goOn ⟨Nat.le_of_ble_eq_true rfl, Nat.le_of_ble_eq_true rfl⟩ hP hK hD (ci := 4) (q0 := 16) rfl rfl rfl hl.1 rfl (Nat.le_of_ble_eq_true rfl) d_D_crossing_39 ⟨Nat.zero_le _, Nat.zero_le _⟩) hD hS hA (fun w9 H locs hp9 hP hD hS => ?_)
        obtain ⟨K2, rfl, hk3⟩ := hp9
        have hP : va_P D classes (wdC ad cI cZ cL J rd pr G K2 tl) H := hP
        have hD : va_D A (wdC ad cI cZ cL J rd pr G K2 tl) := hD
        refine W.eq (g2 := F0 m 42 ls []) rfl ?_
        refine lv_iinc (v := iZ ((i + 1 : Nat) : Int)) (lv' := [(5, .int (iZ ((i + 1 : Nat) : Int))), (0, .ref (ad 0)), (1, .int (iZ ((nn : Nat) : Int))), (2, .int (iZ ((up : Nat) : Int))), (3, .int (iZ ((lo : Nat) : Int))), (4, .int (iZ ((pt : Nat) : Int)))]) hx hb d_D_crossing_42 hl (k := 5) rfl (iZ_inc (i) 1) (by decide) rfl (fun ls hl => ?_)
        refine lv_goto (tgt := 29) hx hb d_D_crossing_45 (by decide) ?_
        exact ih29 (i + 1) K2 H locs ls (by omega) hk3 (by omega) hP hD hS (lv_sub hl [1, 2, 3, 4, 5, 0] rfl)
  exact L29 (nn - 0 + 1) 0 K0 H locs ls (Nat.zero_le _) hk0 (by omega) hP hD hS (lv_sub hl [1, 2, 3, 4, 5, 0] rfl)

set_option maxHeartbeats 4000000 in
set_option maxRecDepth 100000 in
theorem k_D_least {l : Launch} {D : va_G} {ad : Nat → Nat} {cI cZ cL : ClassId} {J : SJ} {rd : Nat → Int} {pr : Nat → Nat} {G : SH} {K : SK} {tl : va_W} {up lo ab be : Nat} (hup : 1 ≤ up ∧ up ≤ 16) (hlo : 1 ≤ lo ∧ lo ≤ 16) (hbe : 1 ≤ be ∧ be ≤ 1000) (hab : ab ≤ be) : zMi l TB D classes (tysW cI cZ cL) y_D_least w_D_least 3 83 [.ref (ad 0), .int (iZ ((up : Nat) : Int)), .int (iZ ((lo : Nat) : Int)), .int (iZ ((ab : Nat) : Int)), .int (iZ ((be : Nat) : Int))] (wdC ad cI cZ cL J rd pr G K tl) (fun r w => ∃ K2 : SK, r = iZ (sLs up lo ab be 41 0) ∧ w = wdC ad cI cZ cL J rd pr G K2 tl) := by
  refine z_of (Qc := fun A => va_Qi (fun r w => ∃ K2 : SK, r = iZ (sLs up lo ab be 41 0) ∧ w = wdC ad cI cZ cL J rd pr G K2 tl) (zB9 D classes (wdC ad cI cZ cL J rd pr G K tl)) A) (by decide) (Nat.le_of_ble_eq_true rfl) ?_
  intro p e s m below meth c A ls Z hP hK hD hS hA hl
  obtain ⟨hx, hb, hr, hml, hown, hts, hE, hlocks⟩ := id Z
  have hl : lv_has ls 6 [(0, .ref (ad 0)), (1, .int (iZ ((up : Nat) : Int))), (2, .int (iZ ((lo : Nat) : Int))), (3, .int (iZ ((ab : Nat) : Int))), (4, .int (iZ ((be : Nat) : Int)))] := hl
  suffices K9 : ∀ (H : Heap) (locs : List Loc) (ls : Array Slot), va_P D classes (wdC ad cI cZ cL J rd pr G K tl) H → va_D A (wdC ad cI cZ cL J rd pr G K tl) → va_S A s.heap H locs → lv_has ls 6 [(0, .ref (ad 0)), (1, .int (iZ ((up : Nat) : Int))), (2, .int (iZ ((lo : Nat) : Int))), (3, .int (iZ ((ab : Nat) : Int))), (4, .int (iZ ((be : Nat) : Int)))] → W p l e (zRm 3 83) s m ([.ref (ad 0), .int (iZ ((up : Nat) : Int)), .int (iZ ((lo : Nat) : Int)), .int (iZ ((ab : Nat) : Int)), .int (iZ ((be : Nat) : Int))] : List Value).toArray below meth c H locs 0 0 (MQ below (va_Qi (fun r w => ∃ K2 : SK, r = iZ (sLs up lo ab be 41 0) ∧ w = wdC ad cI cZ cL J rd pr G K2 tl) (zB9 D classes (wdC ad cI cZ cL J rd pr G K tl)) A) ([.ref (ad 0), .int (iZ ((up : Nat) : Int)), .int (iZ ((lo : Nat) : Int)), .int (iZ ((ab : Nat) : Int)), .int (iZ ((be : Nat) : Int))] : List Value).toArray s 0 0 A) (F0 m 0 ls []) from K9 s.heap [] ls hP hD hS hl
  clear hP hD hS hl
  intro H locs ls hP hD hS hl
  refine lv_iload hx hb d_D_least_0 (lv_at hl 4 rfl) ?_
  refine lv_iconst (v := iZ ((1 : Nat) : Int)) hx hb d_D_least_2 (by decide) ?_
  refine lv_sipush (v := iZ ((1000 : Nat) : Int)) hx hb d_D_least_3 (by decide) ?_
  refine z_callSR (As := [.int (iZ ((be : Nat) : Int)), .int (iZ ((1 : Nat) : Int)), .int (iZ ((1000 : Nat) : Int))]) (rest := []) zTB Z (k_D_needNumber (a := ((be : Nat) : Int)) (b := ((1 : Nat) : Int)) (c9 := ((1000 : Nat) : Int)) (by omega)) ⟨ml_D_67, sm_D_needNumber, ini_D, co_D_needNumber⟩ zd_D_needNumber ⟨Nat.le_of_ble_eq_true rfl, Nat.le_of_ble_eq_true rfl⟩ hP hK hl.1 rfl (Nat.le_of_ble_eq_true rfl) d_D_least_6 ⟨Nat.zero_le _, Nat.zero_le _⟩ ?_
  refine W.eq (g2 := F0 m 9 ls []) rfl ?_
  refine lv_iload_n hx hb d_D_least_9 rfl (lv_at hl 3 rfl) ?_
  refine lv_iconst (v := iZ ((0 : Nat) : Int)) hx hb d_D_least_10 (by decide) ?_
  refine lv_iload hx hb d_D_least_11 (lv_at hl 4 rfl) ?_
  refine z_callSR (As := [.int (iZ ((ab : Nat) : Int)), .int (iZ ((0 : Nat) : Int)), .int (iZ ((be : Nat) : Int))]) (rest := []) zTB Z (k_D_needNumber (a := ((ab : Nat) : Int)) (b := ((0 : Nat) : Int)) (c9 := ((be : Nat) : Int)) (by omega)) ⟨ml_D_67, sm_D_needNumber, ini_D, co_D_needNumber⟩ zd_D_needNumber ⟨Nat.le_of_ble_eq_true rfl, Nat.le_of_ble_eq_true rfl⟩ hP hK hl.1 rfl (Nat.le_of_ble_eq_true rfl) d_D_least_13 ⟨Nat.zero_le _, Nat.zero_le _⟩ ?_
  refine W.eq (g2 := F0 m 16 ls []) rfl ?_
  refine lv_iload_n hx hb d_D_least_16 rfl (lv_at hl 1 rfl) ?_
  refine lv_iload_n hx hb d_D_least_17 rfl (lv_at hl 2 rfl) ?_
  refine z_callSR (As := [.int (iZ ((up : Nat) : Int)), .int (iZ ((lo : Nat) : Int))]) (rest := []) zTB Z (k_D_needBounds (a := ((up : Nat) : Int)) (b := ((lo : Nat) : Int)) (by omega)) ⟨ml_D_145, sm_D_needBounds, ini_D, co_D_needBounds⟩ zd_D_needBounds ⟨Nat.le_of_ble_eq_true rfl, Nat.le_of_ble_eq_true rfl⟩ hP hK hl.1 rfl (Nat.le_of_ble_eq_true rfl) d_D_least_18 ⟨Nat.zero_le _, Nat.zero_le _⟩ ?_
  refine W.eq (g2 := F0 m 21 ls []) rfl ?_
  refine lv_aload_n hx hb d_D_least_21 rfl (lv_at hl 0 rfl) ?_
  refine va_get (D := D) (ci := 0) (v := .ref (ad 16)) (C := n_D) (T := f_D) (N := 5) hx hb hts in_D hown hK hP 0 rfl rfl 3 (by decide) (hts _ fl_D_35) (fun _ h9 => h9) rfl d_D_least_22 ?_
  refine lv_iload_n hx hb d_D_least_25 rfl (lv_at hl 1 rfl) ?_
  refine lv_iload_n hx hb d_D_least_26 rfl (lv_at hl 2 rfl) ?_
  refine z_kv (z_runV (As := [.int (iZ ((up : Nat) : Int)), .int (iZ ((lo : Nat) : Int))]) (rest := []) zTB Z (k_K_start (up := up) (lo := lo) (by omega)) ⟨ml_D_156, im_K_start, se_K_start, ini_K, co_K_start⟩ zd_K_start ⟨Nat.le_of_ble_eq_true rfl, Nat.le_of_ble_eq_true rfl⟩ hP hK hD (ci := 4) (q0 := 16) rfl rfl rfl hl.1 rfl (Nat.le_of_ble_eq_true rfl) d_D_least_27 ⟨Nat.zero_le _, Nat.zero_le _⟩) hD hS hA (fun w9 H locs hp9 hP hD hS => ?_)
  obtain ⟨K0, rfl, hk0⟩ := hp9
  have hP : va_P D classes (wdC ad cI cZ cL J rd pr G K0 tl) H := hP
  have hD : va_D A (wdC ad cI cZ cL J rd pr G K0 tl) := hD
  refine W.eq (g2 := F0 m 30 ls []) rfl ?_
  refine lv_iconst (v := iZ ((0 : Nat) : Int)) hx hb d_D_least_30 (by decide) ?_
  refine lv_istore (lv' := [(5, .int (iZ ((0 : Nat) : Int))), (0, .ref (ad 0)), (1, .int (iZ ((up : Nat) : Int))), (2, .int (iZ ((lo : Nat) : Int))), (3, .int (iZ ((ab : Nat) : Int))), (4, .int (iZ ((be : Nat) : Int)))]) hx hb d_D_least_31 hl (by decide) rfl (fun ls hl => ?_)
  have L33 : ∀ (N33 : Nat) (i : Nat) (K1 : SK) (H : Heap) (locs : List Loc) (ls : Array Slot), (i ≤ 41) → (wkI up lo i K1) → (sLs up lo ab be 41 0 = sLs up lo ab be (41 - i) i) → 41 - i < N33 → va_P D classes (wdC ad cI cZ cL J rd pr G K1 tl) H → va_D A (wdC ad cI cZ cL J rd pr G K1 tl) → va_S A s.heap H locs → lv_has ls 6 [(0, .ref (ad 0)), (1, .int (iZ ((up : Nat) : Int))), (2, .int (iZ ((lo : Nat) : Int))), (3, .int (iZ ((ab : Nat) : Int))), (4, .int (iZ ((be : Nat) : Int))), (5, .int (iZ ((i : Nat) : Int)))] → W p l e (zRm 3 83) s m ([.ref (ad 0), .int (iZ ((up : Nat) : Int)), .int (iZ ((lo : Nat) : Int)), .int (iZ ((ab : Nat) : Int)), .int (iZ ((be : Nat) : Int))] : List Value).toArray below meth c H locs 0 0 (MQ below (va_Qi (fun r w => ∃ K2 : SK, r = iZ (sLs up lo ab be 41 0) ∧ w = wdC ad cI cZ cL J rd pr G K2 tl) (zB9 D classes (wdC ad cI cZ cL J rd pr G K tl)) A) ([.ref (ad 0), .int (iZ ((up : Nat) : Int)), .int (iZ ((lo : Nat) : Int)), .int (iZ ((ab : Nat) : Int)), .int (iZ ((be : Nat) : Int))] : List Value).toArray s 0 0 A) (F0 m 33 ls []) := by
    intro N33
    induction N33 with
    | zero =>
      intro i K1 H locs ls hi hk1 hv hN33 hP hD hS hl
      exact absurd hN33 (Nat.not_lt_zero _)
    | succ N33 ih33 =>
      intro i K1 H locs ls hi hk1 hv hN33 hP hD hS hl
      refine lv_iload hx hb d_D_least_33 (lv_at hl 5 rfl) ?_
      refine lv_bipush (v := iZ ((40 : Nat) : Int)) hx hb d_D_least_35 (by decide) ?_
      refine z_icmp_gt (a := ((i : Nat) : Int)) (b := ((40 : Nat) : Int)) (tgt := 81) hx hb (by omega) d_D_least_37 (by decide) (fun q37 => ?_) (fun q37 => ?_)
      · skip
        refine lv_iconst (v := iZ ((-1 : Int))) hx hb d_D_least_81 (by decide) ?_
        exact z_iret Z hP hS d_D_least_82 wdC_map (⟨K1, by rw [hv, show 41 - i = 0 by omega]; rfl, rfl⟩)
      · skip
        have hr1 : 41 - i = (41 - i - 1) + 1 := by omega
        have hc1 := hk1.2.1
        have hc2 := hk1.2.2.1
        have hcb := sCr_le up lo i
        have hcb2 : i * 2 ^ i ≤ 40 * 2 ^ 40 := Nat.mul_le_mul (by omega) (two_le (by omega))
        have hcb3 : 2 ^ i ≤ 2 ^ 40 := two_le (by omega)
        rw [← hc1] at hcb
        rw [← hc2] at hcb3
        have hm1 : K1.2.2.1 * be ≤ (40 * 2 ^ 40) * 1000 := Nat.mul_le_mul (by omega) (by omega)
        have hm2 : K1.2.2.2 * ab ≤ 2 ^ 40 * 1000 := Nat.mul_le_mul hcb3 (by omega)
        have hm3 : 2 ^ i * ab = K1.2.2.2 * ab := by rw [hc2]
        have hm4 : sCr up lo i * be = K1.2.2.1 * be := by rw [hc1]
        refine lv_aload_n hx hb d_D_least_40 rfl (lv_at hl 0 rfl) ?_
        refine va_get (D := D) (ci := 0) (v := .ref (ad 16)) (C := n_D) (T := f_D) (N := 5) hx hb hts in_D hown hK hP 0 rfl rfl 3 (by decide) (hts _ fl_D_35) (fun _ h9 => h9) rfl d_D_least_41 ?_
        refine va_getN (D := D) (ci := 4) (v := .long (lZ ((K1.2.2.1 : Nat) : Int))) (C := n_K) (T := f_K) (N := 4) hx hb hts in_K hown hK hP 16 rfl rfl 2 (by decide) (hts _ fl_D_162) (fun _ h9 => h9) rfl d_D_least_44 ?_
        refine lv_iload hx hb d_D_least_47 (lv_at hl 4 rfl) ?_
        refine z_i2l (a := ((be : Nat) : Int)) hx hb (by omega) d_D_least_49 ?_
        refine z_lmulN (u := K1.2.2.1) (v := be) hx hb d_D_least_50 ?_
        refine lv_aload_n hx hb d_D_least_51 rfl (lv_at hl 0 rfl) ?_
        refine va_get (D := D) (ci := 0) (v := .ref (ad 16)) (C := n_D) (T := f_D) (N := 5) hx hb hts in_D hown hK hP 0 rfl rfl 3 (by decide) (hts _ fl_D_35) (fun _ h9 => h9) rfl d_D_least_52 ?_
        refine va_getN (D := D) (ci := 4) (v := .long (lZ ((K1.2.2.2 : Nat) : Int))) (C := n_K) (T := f_K) (N := 4) hx hb hts in_K hown hK hP 16 rfl rfl 3 (by decide) (hts _ fl_D_166) (fun _ h9 => h9) rfl d_D_least_55 ?_
        refine lv_iload_n hx hb d_D_least_58 rfl (lv_at hl 3 rfl) ?_
        refine z_i2l (a := ((ab : Nat) : Int)) hx hb (by omega) d_D_least_59 ?_
        refine z_lmulN (u := K1.2.2.2) (v := ab) hx hb d_D_least_60 ?_
        refine z_lcmp_lt (a := ((K1.2.2.1 * be : Nat) : Int)) (b := ((K1.2.2.2 * ab : Nat) : Int)) (tgt := 68) (pc1 := 62) (pc4 := 65) hx hb (by omega) d_D_least_61 rfl rfl d_D_least_62 (by decide) (fun q61 => ?_) (fun q61 => ?_)
        · skip
          refine lv_aload_n hx hb d_D_least_68 rfl (lv_at hl 0 rfl) ?_
          refine va_get (D := D) (ci := 0) (v := .ref (ad 16)) (C := n_D) (T := f_D) (N := 5) hx hb hts in_D hown hK hP 0 rfl rfl 3 (by decide) (hts _ fl_D_35) (fun _ h9 => h9) rfl d_D_least_69 ?_
          refine z_kv (z_runV (As := []) (rest := []) zTB Z (k_K_goOn (K := K1) (up := up) (lo := lo) (n := i) (by omega) hk1) ⟨ml_D_159, im_K_goOn, se_K_goOn, ini_K, co_K_goOn⟩ zd_K_goOn ⟨Nat.le_of_ble_eq_true rfl, Nat.le_of_ble_eq_true rfl⟩ hP hK hD (ci := 4) (q0 := 16) rfl rfl rfl hl.1 rfl (Nat.le_of_ble_eq_true rfl) d_D_least_72 ⟨Nat.zero_le _, Nat.zero_le _⟩) hD hS hA (fun w9 H locs hp9 hP hD hS => ?_)
          obtain ⟨K2, rfl, hk3⟩ := hp9
          have hP : va_P D classes (wdC ad cI cZ cL J rd pr G K2 tl) H := hP
          have hD : va_D A (wdC ad cI cZ cL J rd pr G K2 tl) := hD
          refine W.eq (g2 := F0 m 75 ls []) rfl ?_
          refine lv_iinc (v := iZ ((i + 1 : Nat) : Int)) (lv' := [(5, .int (iZ ((i + 1 : Nat) : Int))), (0, .ref (ad 0)), (1, .int (iZ ((up : Nat) : Int))), (2, .int (iZ ((lo : Nat) : Int))), (3, .int (iZ ((ab : Nat) : Int))), (4, .int (iZ ((be : Nat) : Int)))]) hx hb d_D_least_75 hl (k := 5) rfl (iZ_inc (i) 1) (by decide) rfl (fun ls hl => ?_)
          refine lv_goto (tgt := 33) hx hb d_D_least_78 (by decide) ?_
          exact ih33 (i + 1) K2 H locs ls (by omega) hk3 (by rw [hv, hr1]; show (if _ then _ else _) = _; rw [if_neg (by omega), show 41 - i - 1 = 41 - (i + 1) by omega]) (by omega) hP hD hS (lv_sub hl [1, 2, 3, 4, 5, 0] rfl)
        · skip
          refine lv_iload hx hb d_D_least_65 (lv_at hl 5 rfl) ?_
          exact z_iret Z hP hS d_D_least_67 wdC_map (⟨K1, by rw [hv, hr1]; show _ = iZ (if _ then _ else _); rw [if_pos (by omega)], rfl⟩)
  exact L33 (41 - 0 + 1) 0 K0 H locs ls (Nat.zero_le _) hk0 rfl (by omega) hP hD hS (lv_sub hl [1, 2, 3, 4, 5, 0] rfl)

