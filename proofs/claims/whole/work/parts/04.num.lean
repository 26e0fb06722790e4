/-! Numbers: an int by its integer, a long by its integer, a boolean. -/
def iZ (z : Int) : Int32 := Int32.ofInt z
def lZ (z : Int) : Int64 := Int64.ofInt z
def bI (b : Bool) : Int32 := if b = true then 1 else 0
abbrev z32 (z : Int) : Prop := -2147483648 ≤ z ∧ z < 2147483648
abbrev z64 (z : Int) : Prop := -9223372036854775808 ≤ z ∧ z < 9223372036854775808
theorem iZ_add (a b : Int) : iZ a + iZ b = iZ (a + b) := (Int32.ofInt_add a b).symm
theorem iZ_sub (a b : Int) : iZ a - iZ b = iZ (a - b) := (Int32.ofInt_sub a b).symm
theorem iZ_mul (a b : Int) : iZ a * iZ b = iZ (a * b) := (Int32.ofInt_mul a b).symm
theorem iZ_neg (a : Int) : -iZ a = iZ (-a) := (Int32.ofInt_neg a).symm
theorem lZ_add (a b : Int) : lZ a + lZ b = lZ (a + b) := (Int64.ofInt_add a b).symm
theorem lZ_sub (a b : Int) : lZ a - lZ b = lZ (a - b) := (Int64.ofInt_sub a b).symm
theorem lZ_mul (a b : Int) : lZ a * lZ b = lZ (a * b) := (Int64.ofInt_mul a b).symm
theorem lZ_neg (a : Int) : -lZ a = lZ (-a) := (Int64.ofInt_neg a).symm
theorem iZ_t {z : Int} (h : z32 z) : (iZ z).toInt = z := Int32.toInt_ofInt_of_le (by omega) (by omega)
theorem lZ_t {z : Int} (h : z64 z) : (lZ z).toInt = z := Int64.toInt_ofInt_of_le (by omega) (by omega)
theorem iZ_of (x : Int32) : x = iZ x.toInt := (Int32.ofInt_toInt x).symm
theorem lZ_of (x : Int64) : x = lZ x.toInt := (Int64.ofInt_toInt x).symm
theorem i_32 (x : Int32) : z32 x.toInt := ⟨by have := x.le_toInt; omega, by have := x.toInt_lt; omega⟩
theorem l_64 (x : Int64) : z64 x.toInt := ⟨by have := x.le_toInt; omega, by have := x.toInt_lt; omega⟩
theorem iZ_ex (x : Int32) : ∃ z : Int, z32 z ∧ x = iZ z := ⟨_, i_32 x, iZ_of x⟩
theorem iZ_lt {a b : Int} (ha : z32 a) (hb : z32 b) : iZ a < iZ b ↔ a < b := by rw [Int32.lt_iff_toInt_lt, iZ_t ha, iZ_t hb]
theorem iZ_le {a b : Int} (ha : z32 a) (hb : z32 b) : iZ a ≤ iZ b ↔ a ≤ b := by rw [Int32.le_iff_toInt_le, iZ_t ha, iZ_t hb]
theorem iZ_eq {a b : Int} (ha : z32 a) (hb : z32 b) : iZ a = iZ b ↔ a = b := by rw [← Int32.toInt_inj, iZ_t ha, iZ_t hb]
theorem lZ_lt {a b : Int} (ha : z64 a) (hb : z64 b) : lZ a < lZ b ↔ a < b := by rw [Int64.lt_iff_toInt_lt, lZ_t ha, lZ_t hb]
theorem lZ_le {a b : Int} (ha : z64 a) (hb : z64 b) : lZ a ≤ lZ b ↔ a ≤ b := by rw [Int64.le_iff_toInt_le, lZ_t ha, lZ_t hb]
theorem lZ_eq {a b : Int} (ha : z64 a) (hb : z64 b) : lZ a = lZ b ↔ a = b := by rw [← Int64.toInt_inj, lZ_t ha, lZ_t hb]
theorem iZ_0 : iZ 0 = 0 := rfl
theorem z0 : z32 0 := ⟨by decide, by decide⟩
theorem lZ_0 : lZ 0 = 0 := rfl
theorem iZ_l {a : Int} (h : z32 a) : (iZ a).toInt64 = lZ a := Int64.toInt_inj.mp (by rw [Int32.toInt_toInt64, iZ_t h, lZ_t (by omega)])
theorem iZ_in {z : Int} {N : Nat} (h : 0 ≤ z ∧ z < (N : Int)) (hN : N < 2147483648) : vp_in (iZ z) N := vp_in_iff.mpr (by rw [iZ_t (by omega)]; exact h)
theorem iZ_cl {z : Int} {k : Nat} (h : z = (k : Int)) (hk : k < 2147483648) : (iZ z).toNatClampNeg = k := by
  subst h
  exact (Int32.toNatClampNeg_ofInt_of_le (by omega) (by omega)).trans (Int.toNat_natCast k)
theorem iZ_div {a b : Int} (ha : z32 a) (hb : z32 b) (h : b ≠ -1) : iZ a / iZ b = iZ (a.tdiv b) := by
  refine Int32.toInt_inj.mp ?_
  rw [Int32.toInt_div_of_ne_right _ _ (fun e => h ((iZ_eq hb (by omega)).mp (e.trans (show (-1 : Int32) = iZ (-1) from rfl)))), iZ_t ha, iZ_t hb, iZ_t]
  have h1 := Int.natAbs_tdiv_le_natAbs a b
  by_cases q : a.tdiv b = 2147483648
  · exfalso
    have h2 : (a.tdiv b).natAbs = a.natAbs / b.natAbs := Int.natAbs_tdiv a b
    rw [q] at h2
    have h3 : a.natAbs ≤ 2147483648 := by omega
    have h4 : a.natAbs / b.natAbs ≤ a.natAbs := Nat.div_le_self _ _
    have h5 : a.natAbs = 2147483648 := by
      have : (2147483648 : Int).natAbs = 2147483648 := rfl
      omega
    rw [h5] at h2
    have h6 : a = -2147483648 := by omega
    have hb1 : b.natAbs = 1 := by
      have : (2147483648 : Int).natAbs = 2147483648 := rfl
      rw [this] at h2
      rcases Nat.lt_or_ge b.natAbs 2 with g | g
      · rcases Nat.lt_or_ge b.natAbs 1 with g2 | g2
        · have : b.natAbs = 0 := by omega
          rw [this] at h2; simp at h2
        · omega
      · have := Nat.div_le_div_left (a := 2147483648) g (by decide)
        omega
    have hb2 : b = 1 := by omega
    rw [hb2, Int.tdiv_one] at q
    omega
  · omega
