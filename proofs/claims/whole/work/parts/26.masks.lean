/-! Counting over masks. -/
def mbt (t k : Nat) : Nat := t / 2 ^ k % 2
theorem mbt_le (t k : Nat) : mbt t k ≤ 1 := by unfold mbt; omega
def su_Ms (u v : Nat → Int) (t : Nat) : Nat → Int
  | 0 => 0
  | k + 1 => su_Ms u v t k + (if mbt t k = 1 then u k else v k)
def su_Q (u v : Nat → Int) : Nat → (Int → Nat) → Nat
  | 0, f => f 0
  | n + 1, f => su_Q u v n (fun s => f (s + v n)) + su_Q u v n (fun s => f (s + u n))
theorem mbt_lo {n k : Nat} (t : Nat) (h : k < n) : mbt (2 ^ n + t) k = mbt t k := by
  unfold mbt
  have e : 2 ^ n = 2 ^ k * (2 * 2 ^ (n - k - 1)) := by
    rw [← Nat.pow_succ', ← Nat.pow_add]
    congr 1
    omega
  rw [e, Nat.mul_add_div (Nat.two_pow_pos k), Nat.mul_add_mod]
theorem mbt_n0 {t n : Nat} (h : t < 2 ^ n) : mbt t n = 0 := by
  unfold mbt
  rw [Nat.div_eq_of_lt h]
theorem mbt_n1 {t n : Nat} (h : t < 2 ^ n) : mbt (2 ^ n + t) n = 1 := by
  unfold mbt
  rw [Nat.add_div_left _ (Nat.two_pow_pos n), Nat.div_eq_of_lt h]
theorem su_Ms_lo {u v : Nat → Int} {n : Nat} (t : Nat) : ∀ m, m ≤ n → su_Ms u v (2 ^ n + t) m = su_Ms u v t m
  | 0, _ => rfl
  | m + 1, h => by
    show su_Ms u v (2 ^ n + t) m + (if mbt (2 ^ n + t) m = 1 then u m else v m) = su_Ms u v t m + (if mbt t m = 1 then u m else v m)
    rw [su_Ms_lo t m (by omega), mbt_lo t (by omega)]
theorem su_to_split (g : Nat → Nat) (a : Nat) : ∀ b, su_to g (a + b) = su_to g a + su_to (fun j => g (a + j)) b
  | 0 => rfl
  | b + 1 => by
    show su_to g (a + b) + g (a + b) = su_to g a + (su_to (fun j => g (a + j)) b + g (a + b))
    rw [su_to_split g a b, Nat.add_assoc]
theorem su_Q_eq {u v : Nat → Int} : ∀ (n : Nat) (f : Int → Nat), su_to (fun t => f (su_Ms u v t n)) (2 ^ n) = su_Q u v n f
  | 0, f => Nat.zero_add _
  | n + 1, f => by
    rw [Nat.pow_succ, Nat.mul_two, su_to_split]
    show _ = su_Q u v n (fun s => f (s + v n)) + su_Q u v n (fun s => f (s + u n))
    rw [← su_Q_eq n (fun s => f (s + v n)), ← su_Q_eq n (fun s => f (s + u n))]
    congr 1
    · refine su_to_congr _ (fun t ht => ?_)
      show f (su_Ms u v t n + (if mbt t n = 1 then u n else v n)) = f (su_Ms u v t n + v n)
      rw [mbt_n0 ht, if_neg (by decide)]
    · refine su_to_congr _ (fun t ht => ?_)
      show f (su_Ms u v (2 ^ n + t) n + (if mbt (2 ^ n + t) n = 1 then u n else v n)) = f (su_Ms u v t n + u n)
      rw [mbt_n1 ht, if_pos rfl, su_Ms_lo t n (Nat.le_refl n)]
theorem su_Q_congr {u v u' v' : Nat → Int} : ∀ (n : Nat) {f g : Int → Nat}, (∀ k, k < n → u k = u' k ∧ v k = v' k) → (∀ s, f s = g s) → su_Q u v n f = su_Q u' v' n g
  | 0, f, g, _, e => e 0
  | n + 1, f, g, h, e => by
    show su_Q u v n (fun s => f (s + v n)) + su_Q u v n (fun s => f (s + u n)) = su_Q u' v' n (fun s => g (s + v' n)) + su_Q u' v' n (fun s => g (s + u' n))
    rw [su_Q_congr n (fun k hk => h k (by omega)) (fun s => by show f (s + v n) = g (s + v' n); rw [e, (h n (by omega)).2] : ∀ s, (fun s => f (s + v n)) s = (fun s => g (s + v' n)) s), su_Q_congr n (fun k hk => h k (by omega)) (fun s => by show f (s + u n) = g (s + u' n); rw [e, (h n (by omega)).1] : ∀ s, (fun s => f (s + u n)) s = (fun s => g (s + u' n)) s)]
def sAb (J : SJ) (kd : Nat) : Nat → Int
  | 0 => 0
  | i + 1 => sAb J kd i + (if sKp J i kd = true then (((sDf J i kd).natAbs : Nat) : Int) else 0)
theorem sSO_2 (J : SJ) (kd : Nat) : ∀ i, sSO J 4 kd i = 2 * sOc J kd i - sAb J kd i
  | 0 => rfl
  | i + 1 => by
    have ih := sSO_2 J kd i
    show sSO J 4 kd i + (if sOf J i 4 = true then sKd J i kd else 0) = 2 * (sOc J kd i + (if sKp J i kd = true ∧ 0 < sDf J i kd then sDf J i kd else 0)) - (sAb J kd i + (if sKp J i kd = true then (((sDf J i kd).natAbs : Nat) : Int) else 0))
    rw [if_pos (sOf_4 J i)]
    unfold sKd
    by_cases q : sKp J i kd = true
    · rw [if_pos q, if_pos q]
      by_cases q2 : 0 < sDf J i kd
      · rw [if_pos ⟨q, q2⟩]; omega
      · rw [if_neg (fun z => q2 z.2)]; omega
    · rw [if_neg q, if_neg q, if_neg (fun z => q z.1)]; omega
theorem sOs_congr {J : SJ} {kd i : Nat} {f g : Int → Nat} (h : ∀ s, f s = g s) : sOs J kd i f = sOs J kd i g := congrArg (sOs J kd i) (funext h)
/-- the row of differences stands for all sums of the sizes -/
def mI (J : SJ) (kd i : Nat) (row : Nat → Int) : Prop := (∀ j, j < sKO J 4 kd i → -1000 ≤ row j ∧ row j ≤ 1000) ∧ ∀ F : Int → Nat, su_Q (fun k => -row k) row (sKO J 4 kd i) F = sOs J kd i (fun P => F (2 * P - sAb J kd i))
theorem mI_0 (J : SJ) (kd : Nat) (row : Nat → Int) : mI J kd 0 row := ⟨fun j hj => absurd hj (Nat.not_lt_zero j), fun F => rfl⟩
theorem sKO_k {J : SJ} {kd i : Nat} (hk : sKp J i kd = true) : sKO J 4 kd (i + 1) = sKO J 4 kd i + 1 := by
  show sKO J 4 kd i + (if (sOf J i 4 && sKp J i kd) = true then 1 else 0) = _
  rw [sOf_4, hk]; rfl
theorem sKO_d {J : SJ} {kd i : Nat} (hk : sKp J i kd = false) : sKO J 4 kd (i + 1) = sKO J 4 kd i := by
  show sKO J 4 kd i + (if (sOf J i 4 && sKp J i kd) = true then 1 else 0) = _
  rw [hk, Bool.and_false]; rfl
theorem mI_k {J : SJ} {kd i : Nat} {row : Nat → Int} (h : mI J kd i row) (hk : sKp J i kd = true) (hd : -1000 ≤ sDf J i kd ∧ sDf J i kd ≤ 1000) : mI J kd (i + 1) (zu row (sKO J 4 kd i) (sDf J i kd)) := by
  obtain ⟨h1, h2⟩ := h
  unfold mI
  rw [sKO_k hk]
  refine ⟨fun j hj => ?_, fun F => ?_⟩
  · by_cases e : j = sKO J 4 kd i
    · rw [e, zu_s]; exact hd
    · rw [zu_n _ _ e]; exact h1 j (by omega)
  · show su_Q _ _ (sKO J 4 kd i) (fun s => F (s + zu row (sKO J 4 kd i) (sDf J i kd) (sKO J 4 kd i))) + su_Q _ _ (sKO J 4 kd i) (fun s => F (s + -(zu row (sKO J 4 kd i) (sDf J i kd) (sKO J 4 kd i)))) = (if sKp J i kd = true then sOs J kd i (fun P => F (2 * P - sAb J kd (i + 1))) + sOs J kd i (fun s => F (2 * (s + (((sDf J i kd).natAbs : Nat) : Int)) - sAb J kd (i + 1))) else _)
    rw [if_pos hk, zu_s]
    have hc : ∀ k, k < sKO J 4 kd i → (fun k => -zu row (sKO J 4 kd i) (sDf J i kd) k) k = (fun k => -row k) k ∧ zu row (sKO J 4 kd i) (sDf J i kd) k = row k := fun k hk => by
      have e := zu_n row (sDf J i kd) (show k ≠ sKO J 4 kd i by omega)
      exact ⟨by show -zu row _ _ k = -row k; rw [e], e⟩
    rw [su_Q_congr _ hc (fun _ => rfl), su_Q_congr (f := fun s => F (s + -(sDf J i kd))) _ hc (fun _ => rfl), h2, h2]
    have ea : sAb J kd (i + 1) = sAb J kd i + (((sDf J i kd).natAbs : Nat) : Int) := by
      show sAb J kd i + (if sKp J i kd = true then _ else _) = _
      rw [if_pos hk]
    rw [ea]
    by_cases q : 0 ≤ sDf J i kd
    · rw [Nat.add_comm]
      congr 1
      · exact sOs_congr (fun s => congrArg F (by omega))
      · exact sOs_congr (fun s => congrArg F (by omega))
    · congr 1
      · exact sOs_congr (fun s => congrArg F (by omega))
      · exact sOs_congr (fun s => congrArg F (by omega))
theorem mI_d {J : SJ} {kd i : Nat} {row : Nat → Int} (h : mI J kd i row) (hk : sKp J i kd = false) : mI J kd (i + 1) row := by
  obtain ⟨h1, h2⟩ := h
  unfold mI
  rw [sKO_d hk]
  refine ⟨h1, fun F => ?_⟩
  have ea : sAb J kd (i + 1) = sAb J kd i := by
    show sAb J kd i + (if sKp J i kd = true then _ else _) = _
    rw [if_neg (by rw [hk]; decide), Int.add_zero]
  show _ = (if sKp J i kd = true then _ else sOs J kd i (fun P => F (2 * P - sAb J kd (i + 1))))
  rw [if_neg (by rw [hk]; decide), h2, ea]
/-- what the masks count is what the choices count -/
theorem mI_fin {J : SJ} {kd i : Nat} {row : Nat → Int} (h : mI J kd i row) : su_to (fun t => if su_Ms (fun k => -row k) row t (sKO J 4 kd i) ≤ sSO J 4 kd i then 1 else 0) (2 ^ sKO J 4 kd i) = sOs J kd i (fun s => if s ≤ sOc J kd i then 1 else 0) := by
  rw [su_Q_eq (u := fun k => -row k) (v := row) (sKO J 4 kd i) (fun x => if x ≤ sSO J 4 kd i then 1 else 0), h.2]
  refine sOs_congr (fun s => ?_)
  have e := sSO_2 J kd i
  by_cases q : s ≤ sOc J kd i
  · rw [if_pos q, if_pos (by omega)]
  · rw [if_neg q, if_neg (by omega)]
theorem sRs_1 (J : SJ) (p kd : Nat) : ∀ i, 1 ≤ sRs J p kd i
  | 0 => Nat.le_refl 1
  | i + 1 => Nat.le_trans (sRs_1 J p kd i) (Nat.le_add_right _ _)
theorem sRk_pos (J : SJ) (p kd : Nat) : (0 < sRk J p kd ∧ sKd J p kd ≠ 0) ∨ (sRk J p kd = 0 ∧ sKd J p kd = 0) := by
  have h := sRs_1 J p kd (jk J)
  unfold sRk
  by_cases q : (sKd J p kd).natAbs = 0
  · rw [if_pos q]; omega
  · rw [if_neg q]; omega
def rJ (J : SJ) (kd i : Nat) (row : Nat → Int) : Prop := (∀ j, j < sRn J kd i → 0 ≤ row j ∧ row j ≤ 1000) ∧ ∀ F : Int → Nat, su_Q row (fun _ => 0) (sRn J kd i) F = sRo J kd i F
theorem rJ_0 (J : SJ) (kd : Nat) (row : Nat → Int) : rJ J kd 0 row := ⟨fun j hj => absurd hj (Nat.not_lt_zero j), fun F => rfl⟩
theorem rJ_k {J : SJ} {kd i : Nat} {row : Nat → Int} (h : rJ J kd i row) (hk : 0 < sRk J i kd) (hd : sRk J i kd ≤ 1000) : sRn J kd (i + 1) = sRn J kd i + 1 ∧ rJ J kd (i + 1) (zu row (sRn J kd i) ((sRk J i kd : Nat) : Int)) := by
  obtain ⟨h1, h2⟩ := h
  have en : sRn J kd (i + 1) = sRn J kd i + 1 := by
    show sRn J kd i + (if 0 < sRk J i kd then 1 else 0) = _
    rw [if_pos hk]
  refine ⟨en, ?_⟩
  unfold rJ
  rw [en]
  refine ⟨fun j hj => ?_, fun F => ?_⟩
  · by_cases e : j = sRn J kd i
    · rw [e, zu_s]; omega
    · rw [zu_n _ _ e]; exact h1 j (by omega)
  · show su_Q _ _ (sRn J kd i) (fun s => F (s + 0)) + su_Q _ _ (sRn J kd i) (fun s => F (s + zu row (sRn J kd i) ((sRk J i kd : Nat) : Int) (sRn J kd i))) = (if 0 < sRk J i kd then sRo J kd i F + sRo J kd i (fun s => F (s + ((sRk J i kd : Nat) : Int))) else _)
    rw [if_pos hk, zu_s]
    have hc : ∀ k, k < sRn J kd i → zu row (sRn J kd i) ((sRk J i kd : Nat) : Int) k = row k ∧ (fun _ : Nat => (0 : Int)) k = (fun _ : Nat => (0 : Int)) k := fun k hk => ⟨zu_n row _ (show k ≠ sRn J kd i by omega), rfl⟩
    rw [su_Q_congr (g := F) _ hc (fun s => by rw [Int.add_zero]), su_Q_congr (f := fun s => F (s + ((sRk J i kd : Nat) : Int))) _ hc (fun _ => rfl), h2, h2]
theorem rJ_d {J : SJ} {kd i : Nat} {row : Nat → Int} (h : rJ J kd i row) (hk : ¬ 0 < sRk J i kd) : sRn J kd (i + 1) = sRn J kd i ∧ rJ J kd (i + 1) row := by
  have en : sRn J kd (i + 1) = sRn J kd i := by
    show sRn J kd i + (if 0 < sRk J i kd then 1 else 0) = _
    rw [if_neg hk]; rfl
  refine ⟨en, ?_⟩
  unfold rJ
  rw [en]
  refine ⟨h.1, fun F => ?_⟩
  show _ = (if 0 < sRk J i kd then _ else sRo J kd i F)
  rw [if_neg hk, h.2]
theorem rJ_fin {J : SJ} {kd i : Nat} {row : Nat → Int} (h : rJ J kd i row) : su_to (fun t => if su_Ms row (fun _ => 0) t (sRn J kd i) ≤ sRc J kd i then 1 else 0) (2 ^ sRn J kd i) = sRo J kd i (fun s => if s ≤ sRc J kd i then 1 else 0) := by
  rw [su_Q_eq (u := row) (v := fun _ => 0) (sRn J kd i) (fun x => if x ≤ sRc J kd i then 1 else 0), h.2]
theorem su_Ms_b {u v : Nat → Int} {t : Nat} : ∀ n, (∀ k, k < n → -1000 ≤ u k ∧ u k ≤ 1000 ∧ -1000 ≤ v k ∧ v k ≤ 1000) → -(1000 * (n : Int)) ≤ su_Ms u v t n ∧ su_Ms u v t n ≤ 1000 * (n : Int)
  | 0, _ => ⟨by show -(1000 * ((0 : Nat) : Int)) ≤ 0; omega, by show (0 : Int) ≤ 1000 * ((0 : Nat) : Int); omega⟩
  | n + 1, h => by
    have ih := su_Ms_b (t := t) n (fun k hk => h k (by omega))
    have h2 := h n (by omega)
    show -(1000 * ((n + 1 : Nat) : Int)) ≤ su_Ms u v t n + _ ∧ su_Ms u v t n + _ ≤ 1000 * ((n + 1 : Nat) : Int)
    split <;> omega
theorem su_to_le {g : Nat → Nat} (h : ∀ j, g j ≤ 1) : ∀ n, su_to g n ≤ n
  | 0 => Nat.le_refl 0
  | n + 1 => by
    have h1 := su_to_le h n
    have h2 := h n
    show su_to g n + g n ≤ n + 1
    omega
/-! The haul's step. -/
theorem sBt_r (x : Int64) : ((x >>> ((iZ ((40 : Nat) : Int)).toInt64 &&& 63)) &&& lZ ((1 : Nat) : Int)) = lZ ((1 : Nat) : Int) ↔ sBt x = true := by
  unfold sBt
  rw [← Int64.toBitVec_inj]
  have e1 : ((x >>> ((iZ ((40 : Nat) : Int)).toInt64 &&& 63)) &&& lZ ((1 : Nat) : Int)).toBitVec = (x.toBitVec.sshiftRight 40) &&& 1#64 := rfl
  have e2 : (lZ ((1 : Nat) : Int)).toBitVec = 1#64 := rfl
  rw [e1, e2]
  generalize x.toBitVec = v
  constructor
  · intro h
    have h3 := congrArg (fun w : BitVec 64 => w.getLsbD 0) h
    simpa [BitVec.getLsbD_sshiftRight, BitVec.getElem_sshiftRight] using h3
  · intro h
    apply BitVec.eq_of_getLsbD_eq
    intro i hi
    cases i with
    | zero => simpa [BitVec.getLsbD_sshiftRight, BitVec.getElem_sshiftRight] using h
    | succ i => simp [BitVec.getLsbD_one]
theorem nu4 {f : Nat → Nat} {sh : Nat} (h : sh < 4) (v : Nat) : (nu f sh v 0 % 2 + nu f sh v 1 % 2 + nu f sh v 2 % 2 + nu f sh v 3 % 2) + f sh % 2 = (f 0 % 2 + f 1 % 2 + f 2 % 2 + f 3 % 2) + v % 2 := by
  unfold nu
  have h9 : sh = 0 ∨ sh = 1 ∨ sh = 2 ∨ sh = 3 := by omega
  rcases h9 with rfl | rfl | rfl | rfl <;> simp <;> omega
theorem MJ_o {J : SJ} {M : SM} (h : MJ J M) {sh : Nat} (hs : sh < 4) (ho : mmy M sh % 2 = 1) : 2 * jk J + 1 ≤ jn J := by
  have h1 := h.2.2
  have h9 : sh = 0 ∨ sh = 1 ∨ sh = 2 ∨ sh = 3 := by omega
  rcases h9 with rfl | rfl | rfl | rfl <;> omega
theorem MJ_h1b {J : SJ} {M : SM} (h : MJ J M) {sh cd : Nat} (hs : sh < 4) (ho : mmy M sh % 2 = 0) {r9 : (Nat → Int) × (Nat → Nat) × (Nat → Nat)} (x9 : Int64) (b9 : Bool) : MJ (x9, jn J + 1, jk J, zu (jop J) sh ((jn J : Nat) : Int), jou J, zub (jdv J) (jn J) b9, jct J, jdh J, jph J, jsp J) (cd, nu (msh M) (jn J) sh, nu (mmy M) sh (mmy M sh + 1), nu (mla M) sh (jn J), mfi M, mse M, r9) := by
  obtain ⟨h1, h2, h3⟩ := h
  refine ⟨fun p hp => ?_, fun s hs9 => ?_, ?_⟩
  · obtain ⟨a1, a2, a3, a4, a5, a6⟩ := h1 p hp
    show mfi M p < jn J + 1 ∧ mse M p < jn J + 1 ∧ nu (msh M) (jn J) sh (mfi M p) = jsp J p ∧ zub (jdv J) (jn J) b9 (mse M p) = !(zub (jdv J) (jn J) b9 (mfi M p)) ∧ jdh J p = (if zub (jdv J) (jn J) b9 (mfi M p) = true then mfi M p else mse M p) ∧ jph J p = (if zub (jdv J) (jn J) b9 (mfi M p) = true then mse M p else mfi M p)
    rw [nu_n _ _ (show mfi M p ≠ jn J by omega), zub_n _ _ (show mfi M p ≠ jn J by omega), zub_n _ _ (show mse M p ≠ jn J by omega)]
    exact ⟨by omega, by omega, a3, a4, a5, a6⟩
  · obtain ⟨b1, b2, b3⟩ := h2 s hs9
    show (nu (mmy M) sh (mmy M sh + 1) s % 2 = 0 → zu (jop J) sh ((jn J : Nat) : Int) s = -1) ∧ (nu (mmy M) sh (mmy M sh + 1) s % 2 = 1 → zu (jop J) sh ((jn J : Nat) : Int) s = ((nu (mla M) sh (jn J) s : Nat) : Int) ∧ nu (mla M) sh (jn J) s < jn J + 1 ∧ nu (msh M) (jn J) sh (nu (mla M) sh (jn J) s) = s) ∧ nu (mmy M) sh (mmy M sh + 1) s ≤ jn J + 1
    by_cases e : s = sh
    · subst e
      rw [nu_s, nu_s, zu_s, nu_s]
      exact ⟨fun z => absurd z (by omega), fun _ => ⟨rfl, by omega, rfl⟩, by omega⟩
    · rw [nu_n _ _ e, nu_n _ _ e, zu_n _ _ e]
      refine ⟨b1, fun z => ?_, by omega⟩
      obtain ⟨c1, c2, c3⟩ := b2 z
      exact ⟨c1, by omega, by rw [nu_n _ _ (show mla M s ≠ jn J by omega)]; exact c3⟩
  · have h4 := nu4 (f := mmy M) hs (mmy M sh + 1)
    show 2 * jk J + (nu (mmy M) sh (mmy M sh + 1) 0 % 2 + nu (mmy M) sh (mmy M sh + 1) 1 % 2 + nu (mmy M) sh (mmy M sh + 1) 2 % 2 + nu (mmy M) sh (mmy M sh + 1) 3 % 2) = jn J + 1
    omega
theorem MJ_h1 {J : SJ} {M : SM} (h : MJ J M) {sh cd : Nat} (hs : sh < 4) (ho : mmy M sh % 2 = 0) {r9 : (Nat → Int) × (Nat → Nat) × (Nat → Nat)} : MJ (sH1 J sh) (cd, nu (msh M) (jn J) sh, nu (mmy M) sh (mmy M sh + 1), nu (mla M) sh (jn J), mfi M, mse M, r9) := by
  unfold sH1
  exact MJ_h1b h hs ho _ _
theorem MJ_h2 {J : SJ} {M : SM} (h : MJ J M) {sh cd : Nat} (hs : sh < 4) (ho : mmy M sh % 2 = 1) {r9 : (Nat → Int) × (Nat → Nat) × (Nat → Nat)} : MJ (sH2 J sh (mla M sh)) (cd, nu (msh M) (jn J) sh, nu (mmy M) sh (mmy M sh + 1), nu (mla M) sh (jn J), nu (mfi M) (jk J) (mla M sh), nu (mse M) (jk J) (jn J), r9) := by
  obtain ⟨h1, h2, h3⟩ := h
  obtain ⟨-, g2, g3⟩ := h2 sh hs
  obtain ⟨g4, g5, g6⟩ := g2 ho
  refine ⟨fun p hp => ?_, fun s hs9 => ?_, ?_⟩
  · have hp : p < jk J + 1 := hp
    show nu (mfi M) (jk J) (mla M sh) p < jn J + 1 ∧ nu (mse M) (jk J) (jn J) p < jn J + 1 ∧ nu (msh M) (jn J) sh (nu (mfi M) (jk J) (mla M sh) p) = nu (jsp J) (jk J) sh p ∧ zub (jdv J) (jn J) (!(jdv J (mla M sh))) (nu (mse M) (jk J) (jn J) p) = !(zub (jdv J) (jn J) (!(jdv J (mla M sh))) (nu (mfi M) (jk J) (mla M sh) p)) ∧ nu (jdh J) (jk J) (if zub (jdv J) (jn J) (!(jdv J (mla M sh))) (mla M sh) = true then mla M sh else jn J) p = (if zub (jdv J) (jn J) (!(jdv J (mla M sh))) (nu (mfi M) (jk J) (mla M sh) p) = true then nu (mfi M) (jk J) (mla M sh) p else nu (mse M) (jk J) (jn J) p) ∧ nu (jph J) (jk J) (if zub (jdv J) (jn J) (!(jdv J (mla M sh))) (mla M sh) = true then jn J else mla M sh) p = (if zub (jdv J) (jn J) (!(jdv J (mla M sh))) (nu (mfi M) (jk J) (mla M sh) p) = true then nu (mse M) (jk J) (jn J) p else nu (mfi M) (jk J) (mla M sh) p)
    by_cases e : p = jk J
    · subst e
      rw [nu_s, nu_s, nu_s, nu_s, nu_s, nu_n _ _ (show mla M sh ≠ jn J by omega), zub_s, zub_n _ _ (show mla M sh ≠ jn J by omega)]
      exact ⟨by omega, by omega, g6, rfl, rfl, rfl⟩
    · obtain ⟨a1, a2, a3, a4, a5, a6⟩ := h1 p (by omega)
      rw [nu_n _ _ e, nu_n _ _ e, nu_n _ _ e, nu_n _ _ e, nu_n _ _ e, nu_n _ _ (show mfi M p ≠ jn J by omega), zub_n _ _ (show mfi M p ≠ jn J by omega), zub_n _ _ (show mse M p ≠ jn J by omega)]
      exact ⟨by omega, by omega, a3, a4, a5, a6⟩
  · obtain ⟨b1, b2, b3⟩ := h2 s hs9
    show (nu (mmy M) sh (mmy M sh + 1) s % 2 = 0 → zu (jop J) sh (-1) s = -1) ∧ (nu (mmy M) sh (mmy M sh + 1) s % 2 = 1 → zu (jop J) sh (-1) s = ((nu (mla M) sh (jn J) s : Nat) : Int) ∧ nu (mla M) sh (jn J) s < jn J + 1 ∧ nu (msh M) (jn J) sh (nu (mla M) sh (jn J) s) = s) ∧ nu (mmy M) sh (mmy M sh + 1) s ≤ jn J + 1
    by_cases e : s = sh
    · subst e
      rw [nu_s, nu_s, zu_s]
      exact ⟨fun _ => rfl, fun z => absurd z (by omega), by omega⟩
    · rw [nu_n _ _ e, nu_n _ _ e, zu_n _ _ e]
      refine ⟨b1, fun z => ?_, by omega⟩
      obtain ⟨c1, c2, c3⟩ := b2 z
      exact ⟨c1, by omega, by rw [nu_n _ _ (show mla M s ≠ jn J by omega)]; exact c3⟩
  · have h4 := nu4 (f := mmy M) hs (mmy M sh + 1)
    show 2 * (jk J + 1) + (nu (mmy M) sh (mmy M sh + 1) 0 % 2 + nu (mmy M) sh (mmy M sh + 1) 1 % 2 + nu (mmy M) sh (mmy M sh + 1) 2 % 2 + nu (mmy M) sh (mmy M sh + 1) 3 % 2) = jn J + 1
    omega
theorem JI_h1 {J : SJ} (h : JI J) {sh : Nat} (hn : jn J < 32) : JI (sH1 J sh) := by
  obtain ⟨h1, h2, h3, h4⟩ := h
  refine ⟨show jn J + 1 ≤ 32 by omega, show 2 * jk J ≤ jn J + 1 by omega, fun p hp => ?_, h4⟩
  obtain ⟨a1, a2, a3⟩ := h3 p hp
  exact ⟨show jdh J p < jn J + 1 by omega, show jph J p < jn J + 1 by omega, a3⟩
theorem JI_h2 {J : SJ} (h : JI J) {sh f : Nat} (hn : jn J < 32) (hk : 2 * jk J + 1 ≤ jn J) (hs : sh < 4) (hf : f < jn J) : JI (sH2 J sh f) := by
  obtain ⟨h1, h2, h3, h4⟩ := h
  refine ⟨show jn J + 1 ≤ 32 by omega, show 2 * (jk J + 1) ≤ jn J + 1 by omega, fun p hp => ?_, h4⟩
  have hp : p < jk J + 1 := hp
  show nu (jdh J) (jk J) (if zub (jdv J) (jn J) (!(jdv J f)) f = true then f else jn J) p < jn J + 1 ∧ nu (jph J) (jk J) (if zub (jdv J) (jn J) (!(jdv J f)) f = true then jn J else f) p < jn J + 1 ∧ nu (jsp J) (jk J) sh p < 4
  by_cases e : p = jk J
  · subst e
    rw [nu_s, nu_s, nu_s]
    refine ⟨?_, ?_, hs⟩
    · split <;> omega
    · split <;> omega
  · obtain ⟨a1, a2, a3⟩ := h3 p (by omega)
    rw [nu_n _ _ e, nu_n _ _ e, nu_n _ _ e]
    exact ⟨by omega, by omega, a3⟩
theorem JI_c {J : SJ} (h : JI J) {j v : Nat} (hv : v ≤ 1000) : JI (sPC9 J j v) := by
  obtain ⟨h1, h2, h3, h4⟩ := h
  refine ⟨h1, h2, h3, fun i => ?_⟩
  show nu (jct J) j v i ≤ 1000
  by_cases e : i = j
  · rw [e, nu_s]; exact hv
  · rw [nu_n _ _ e]; exact h4 i
