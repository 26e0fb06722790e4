/-! Sums over all choices; merging; copying. -/
/-- the sum of g over 0 .. n-1 -/
def su_to (g : Nat → Nat) : Nat → Nat
  | 0 => 0
  | n + 1 => su_to g n + g n
theorem su_to_congr {g h : Nat → Nat} : ∀ (n : Nat), (∀ j, j < n → g j = h j) → su_to g n = su_to h n
  | 0, _ => rfl
  | n + 1, e => by
    show su_to g n + g n = su_to h n + h n
    rw [su_to_congr n (fun j hj => e j (by omega)), e n (by omega)]
theorem su_to_add (g h : Nat → Nat) : ∀ (n : Nat), su_to (fun j => g j + h j) n = su_to g n + su_to h n
  | 0 => rfl
  | n + 1 => by
    show su_to (fun j => g j + h j) n + (g n + h n) = (su_to g n + g n) + (su_to h n + h n)
    rw [su_to_add g h n]; omega
/-- the sum of f over all choices' sums, of the weights wt a .. wt (a + n - 1) -/
def su_S (wt : Nat → Int) (a : Nat) : Nat → (Int → Nat) → Nat
  | 0, f => f 0
  | n + 1, f => su_S wt a n f + su_S wt a n (fun s => f (s + wt (a + n)))
theorem su_S_add (wt : Nat → Int) (a : Nat) : ∀ (n : Nat) (f g : Int → Nat), su_S wt a n (fun s => f s + g s) = su_S wt a n f + su_S wt a n g
  | 0, _, _ => rfl
  | n + 1, f, g => by
    show su_S wt a n (fun s => f s + g s) + su_S wt a n (fun s => f (s + wt (a + n)) + g (s + wt (a + n))) = _
    rw [su_S_add wt a n f g, su_S_add wt a n (fun s => f (s + wt (a + n))) (fun s => g (s + wt (a + n)))]
    show _ = (su_S wt a n f + su_S wt a n (fun s => f (s + wt (a + n)))) + (su_S wt a n g + su_S wt a n (fun s => g (s + wt (a + n))))
    omega
theorem su_S_congr {wt wt' : Nat → Int} {a : Nat} : ∀ (n : Nat) {f g : Int → Nat}, (∀ j, j < n → wt (a + j) = wt' (a + j)) → (∀ s, f s = g s) → su_S wt a n f = su_S wt' a n g
  | 0, f, g, _, e => e 0
  | n + 1, f, g, hw, e => by
    show su_S wt a n f + su_S wt a n (fun s => f (s + wt (a + n))) = su_S wt' a n g + su_S wt' a n (fun s => g (s + wt' (a + n)))
    rw [su_S_congr n (fun j hj => hw j (by omega)) e, su_S_congr (f := fun s => f (s + wt (a + n))) (g := fun s => g (s + wt' (a + n))) n (fun j hj => hw j (by omega)) (fun s => by rw [e, hw n (by omega)])]
/-- first h weights, then m more -/
theorem su_S_split (wt : Nat → Int) (a h : Nat) : ∀ (m : Nat) (f : Int → Nat), su_S wt a (h + m) f = su_S wt a h (fun x => su_S wt (a + h) m (fun y => f (x + y)))
  | 0, f => by
    show su_S wt a h f = su_S wt a h (fun x => f (x + 0))
    exact su_S_congr h (fun _ _ => rfl) (fun s => by rw [Int.add_zero])
  | m + 1, f => by
    show su_S wt a (h + m) f + su_S wt a (h + m) (fun s => f (s + wt (a + (h + m)))) = su_S wt a h (fun x => su_S wt (a + h) m (fun y => f (x + y)) + su_S wt (a + h) m (fun y => f (x + (y + wt (a + h + m)))))
    rw [su_S_add, su_S_split wt a h m f, su_S_split wt a h m (fun s => f (s + wt (a + (h + m))))]
    congr 1
    refine su_S_congr h (fun _ _ => rfl) (fun x => su_S_congr m (fun _ _ => rfl) (fun y => ?_))
    rw [← Nat.add_assoc, Int.add_assoc]
/-- an array's first n entries stand for all sums of the weights -/
def su_R (wt : Nat → Int) (a m : Nat) (L : Nat → Int) (n : Nat) : Prop := ∀ f : Int → Nat, su_to (fun j => f (L j)) n = su_S wt a m f
theorem su_R_0 (wt : Nat → Int) (a : Nat) {L : Nat → Int} (h : L 0 = 0) : su_R wt a 0 L 1 := fun f => by
  show 0 + f (L 0) = f 0
  rw [h, Nat.zero_add]
theorem su_R_s {wt : Nat → Int} {a m n : Nat} {L L' : Nat → Int} (h : su_R wt a m L n) (e : ∀ f : Int → Nat, su_to (fun j => f (L' j)) (2 * n) = su_to (fun j => f (L j)) n + su_to (fun j => f (L j + wt (a + m))) n) : su_R wt a (m + 1) L' (2 * n) := fun f => by
  rw [e f, h f, h (fun s => f (s + wt (a + m)))]
  rfl
/-- in order -/
def su_O (L : Nat → Int) (n : Nat) : Prop := ∀ i j, i ≤ j → j < n → L i ≤ L j
/-- so many of an ordered row lie at or under a bound -/
theorem su_cut {L : Nat → Int} {n h : Nat} {c : Int} (hh : h ≤ n) (h1 : ∀ j, j < h → L j ≤ c) (h2 : ∀ j, h ≤ j → j < n → c < L j) : su_to (fun j => if L j ≤ c then 1 else 0) n = h := by
  induction n with
  | zero => show 0 = h; omega
  | succ n ih =>
    show su_to (fun j => if L j ≤ c then 1 else 0) n + (if L n ≤ c then 1 else 0) = h
    by_cases e : h = n + 1
    · subst e
      rw [if_pos (h1 n (by omega))]
      have : su_to (fun j => if L j ≤ c then 1 else 0) n = n := by
        clear ih h2 hh
        have hx : ∀ m, m ≤ n → su_to (fun j => if L j ≤ c then 1 else 0) m = m := by
          intro m
          induction m with
          | zero => intro _; rfl
          | succ m ihm =>
            intro hm
            show su_to (fun j => if L j ≤ c then 1 else 0) m + (if L m ≤ c then 1 else 0) = m + 1
            rw [ihm (by omega), if_pos (h1 m (by omega))]
        exact hx n (Nat.le_refl n)
      rw [this]
    · rw [ih (by omega) (fun j hj hn => h2 j hj (by omega)), if_neg (Int.not_le.mpr (h2 n (by omega) (by omega))), Nat.add_zero]

/-- two ordered rows are being merged: S, and S with w added; wo and wi of them have been taken -/
def su_M (S : Nat → Int) (w : Int) (cnt wo wi : Nat) (M : Int) (L : Nat → Int) : Prop :=
  (∀ f : Int → Nat, su_to (fun j => f (L j)) (wo + wi) = su_to (fun j => f (S j)) wo + su_to (fun j => f (S j + w)) wi) ∧
  su_O L (wo + wi) ∧ (∀ j, j < wo + wi → (wo < cnt → L j ≤ S wo) ∧ (wi < cnt → L j ≤ S wi + w)) ∧ (∀ j, j < wo + wi → 0 ≤ L j ∧ L j ≤ M)
theorem su_M_0 {S : Nat → Int} {w : Int} {cnt : Nat} {M : Int} {L : Nat → Int} : su_M S w cnt 0 0 M L :=
  ⟨fun _ => rfl, fun _ j _ h => absurd h (Nat.not_lt_zero j), fun j h => absurd h (Nat.not_lt_zero j), fun j h => absurd h (Nat.not_lt_zero j)⟩
theorem su_to_zu {L : Nat → Int} {n : Nat} {v : Int} (f : Int → Nat) : su_to (fun j => f (zu L n v j)) (n + 1) = su_to (fun j => f (L j)) n + f v := by
  show su_to (fun j => f (zu L n v j)) n + f (zu L n v n) = _
  rw [zu_s, su_to_congr n (fun j hj => by rw [zu_n L v (by omega)])]
theorem su_O_zu {L : Nat → Int} {n : Nat} {v : Int} (h : su_O L n) (hv : ∀ j, j < n → L j ≤ v) : su_O (zu L n v) (n + 1) := by
  intro i j hij hj
  by_cases e : j = n
  · subst e
    rw [zu_s]
    by_cases e2 : i = j
    · subst e2; rw [zu_s]; exact Int.le_refl v
    · rw [zu_n L v e2]; exact hv i (by omega)
  · rw [zu_n L v e, zu_n L v (show i ≠ n by omega)]
    exact h i j hij (by omega)
theorem su_M_a {S : Nat → Int} {w : Int} {cnt wo wi : Nat} {M : Int} {L : Nat → Int} (h : su_M S w cnt wo wi M L) (hO : su_O S cnt) (hwo : wo < cnt) (hc : wi < cnt → S wo ≤ S wi + w) (hb : 0 ≤ S wo ∧ S wo ≤ M) : su_M S w cnt (wo + 1) wi M (zu L (wo + wi) (S wo)) := by
  obtain ⟨h1, h2, h3, h4⟩ := h
  have e : wo + 1 + wi = wo + wi + 1 := by omega
  unfold su_M
  rw [e]
  refine ⟨fun f => ?_, su_O_zu h2 (fun j hj => (h3 j hj).1 hwo), fun j hj => ?_, fun j hj => ?_⟩
  · rw [su_to_zu, h1]
    show _ = su_to (fun j => f (S j)) wo + f (S wo) + _
    omega
  · by_cases ej : j = wo + wi
    · subst ej
      rw [zu_s]
      exact ⟨fun q => hO wo (wo + 1) (by omega) q, hc⟩
    · rw [zu_n L _ ej]
      have h5 := h3 j (by omega)
      exact ⟨fun q => Int.le_trans (h5.1 hwo) (hO wo (wo + 1) (by omega) q), h5.2⟩
  · by_cases ej : j = wo + wi
    · subst ej; rw [zu_s]; exact hb
    · rw [zu_n L _ ej]; exact h4 j (by omega)
theorem su_M_b {S : Nat → Int} {w : Int} {cnt wo wi : Nat} {M : Int} {L : Nat → Int} (h : su_M S w cnt wo wi M L) (hO : su_O S cnt) (hwi : wi < cnt) (hc : wo < cnt → S wi + w ≤ S wo) (hb : 0 ≤ S wi + w ∧ S wi + w ≤ M) : su_M S w cnt wo (wi + 1) M (zu L (wo + wi) (S wi + w)) := by
  obtain ⟨h1, h2, h3, h4⟩ := h
  have e : wo + (wi + 1) = wo + wi + 1 := by omega
  unfold su_M
  rw [e]
  refine ⟨fun f => ?_, su_O_zu h2 (fun j hj => (h3 j hj).2 hwi), fun j hj => ?_, fun j hj => ?_⟩
  · rw [su_to_zu, h1]
    show _ = _ + (su_to (fun j => f (S j + w)) wi + f (S wi + w))
    omega
  · by_cases ej : j = wo + wi
    · subst ej
      rw [zu_s]
      exact ⟨hc, fun q => by have := hO wi (wi + 1) (by omega) q; omega⟩
    · rw [zu_n L _ ej]
      have h5 := h3 j (by omega)
      exact ⟨h5.1, fun q => by have := hO wi (wi + 1) (by omega) q; have := h5.2 hwi; omega⟩
  · by_cases ej : j = wo + wi
    · subst ej; rw [zu_s]; exact hb
    · rw [zu_n L _ ej]; exact h4 j (by omega)
/-- a row whose first n are another's -/
def icp (f g : Nat → Int) (n : Nat) : Nat → Int := fun k => if k < n then f k else g k
theorem icp_lt {f g : Nat → Int} {n k : Nat} (h : k < n) : icp f g n k = f k := if_pos h
theorem icp_eq (f g : Nat → Int) (n : Nat) : va_cpy (zA f) (zA g) 0 0 n = zA (icp f g n) := funext fun k => by
  show (if 0 ≤ k ∧ k < 0 + n then iZ (f (0 + (k - 0))) else iZ (g k)) = iZ (if k < n then f k else g k)
  by_cases h : k < n
  · rw [if_pos ⟨Nat.zero_le k, by omega⟩, if_pos h, show 0 + (k - 0) = k by omega]
  · rw [if_neg (fun q => h (by omega)), if_neg h]
theorem su_O_congr {L L' : Nat → Int} {n : Nat} (h : su_O L n) (e : ∀ j, j < n → L' j = L j) : su_O L' n := fun i j hij hj => by
  rw [e i (by omega), e j hj]; exact h i j hij hj
section ZCP
variable {p : Program} {l : Launch} {e : Env} {R : Room} {s : State} {m : MethodId} {args : Array Value} {below : List Frame} {meth : Method} {c : Code} {H : Heap} {locs : List Loc} {cells slots : Nat} {Q : State → Prop}
variable {cc : ByteArray} {pc : Nat} {ls : Array Slot} {rest : List Value} {D : va_G} {cl : List vw_C} {A : Nat → Prop} {tys : List (ClassId × FieldType)} {ws : va_W} {H0 : Heap} {nL : Nat} {ret : Option FieldType} {own : String}
/-- System.arraycopy of the first n ints of one row over the first n of another -/
theorem z_copyi (Z : zC p s m meth c cc nL ret own args TB) (hsz : ls.size = nL) {idx : Nat} (hlink : Cond.methodLink own idx arraycopyName ∈ TB) (hini : Cond.initialized "java/lang/System" ∈ TB) (hK : va_K D cl tys s) (hP : va_P D cl ws H) (hD : va_D A ws) (hS : va_S A H0 H locs) (q0 q1 t0 : Nat) {a0 a1 : Nat} {cA : ClassId} {n0 n1 : Nat} {f g : Nat → Int}
    (ha0 : ws[q0]? = some (a0, .inl (cA, n0, .inl (zA f)))) (ha1 : ws[q1]? = some (a1, .inl (cA, n1, .inl (zA g)))) (ht : tys[t0]? = some (cA, .int)) {n : Nat} (hn : n ≤ n0 ∧ n ≤ n1 ∧ n0 < 2147483648) (hRf : 1 ≤ R.frames) (hRl : (rest.map fun v => v.category).sum + (nativeFrameWords "java/lang/System" "arraycopy" 5 + 11) ≤ R.locals) (hdg : decode cc pc = .ok (.invokestatic idx, 3))
    (kk : ∀ (H1 : Heap) (locs1 : List Loc), va_P D cl (ws.set q1 (a1, .inl (cA, n1, .inl (zA (icp f g n))))) H1 → va_D A (ws.set q1 (a1, .inl (cA, n1, .inl (zA (icp f g n))))) → va_S A H0 H1 locs1 → W p l e R s m args below meth c H1 locs1 cells slots Q (F0 m (pc + 3) ls rest)) :
    W p l e R s m args below meth c H locs cells slots Q (F0 m pc ls (.int (iZ ((n : Nat) : Int)) :: .int (iZ ((0 : Nat) : Int)) :: .ref a1 :: .int (iZ ((0 : Nat) : Int)) :: .ref a0 :: rest)) := by
  have hcn : (iZ ((n : Nat) : Int)).toNatClampNeg = n := iZ_cl rfl (by omega)
  have hc0 : (iZ ((0 : Nat) : Int)).toNatClampNeg = 0 := iZ_cl rfl (by omega)
  have hneg : ∀ k : Nat, k < 2147483648 → ¬ iZ ((k : Nat) : Int) < 0 := fun k hk q => by
    have := (iZ_lt (a := ((k : Nat) : Int)) (b := 0) (by omega) z0).mp q
    omega
  refine va_copyi Z.1 Z.2.1 (Z.2.2.2.1.trans hsz.symm) Z.2.2.2.2.1 (Z.2.2.2.2.2.1 _ hlink) (Z.2.2.2.2.2.1 _ nv_arraycopy9) (Z.2.2.2.2.2.1 _ sm_arraycopy9) (Z.2.2.2.2.2.1 _ hini) hK hP hD hS q0 q1 t0 t0 ha0 ha1 ht ht rfl (hneg 0 (by omega)) (hneg 0 (by omega)) (hneg n (by omega)) (by rw [hc0, hcn]; omega) (by rw [hc0, hcn]; omega) (fun _ _ => rfl) hRf hRl hdg ?_
  rw [hc0, hcn, icp_eq]
  exact kk
end ZCP
theorem two_le {a b : Nat} (h : a ≤ b) : 2 ^ a ≤ 2 ^ b := Nat.pow_le_pow_right (by decide) h
