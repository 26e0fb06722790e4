section
-- ===== PART A: goes FIRST, ahead of the names: the tables' words, and 'selects' of the private methods out of them =====
/-- a private method of a class that the tables say can be made, by its rows of tables_1 -/
def lw_okq (q : MethodName × Nat) : Prop := (q.1.cls ≠ "java/lang/invoke/MethodHandle" ∧ q.1.cls ≠ "java/lang/invoke/VarHandle") ∧ Cond.instantiable q.1.cls q.2 ∈ tables_1 ∧ Cond.privateMethod q.1 ∈ tables_1 ∧ Cond.instanceMethod q.1 ∈ tables_1
theorem lw_p0 : lw_okq (⟨"DeviceTrials$Journal", "isOf", "(II)Z"⟩, 10) := ⟨⟨by decide +kernel, by decide +kernel⟩, List.mem_of_getElem? (i := 25) (by decide +kernel), List.mem_of_getElem? (i := 155) (by decide +kernel), List.mem_of_getElem? (i := 156) (by decide +kernel)⟩
theorem lw_p1 : lw_okq (⟨"DeviceTrials$Journal", "deviceCount", "(II)I"⟩, 10) := ⟨⟨by decide +kernel, by decide +kernel⟩, List.mem_of_getElem? (i := 25) (by decide +kernel), List.mem_of_getElem? (i := 167) (by decide +kernel), List.mem_of_getElem? (i := 168) (by decide +kernel)⟩
theorem lw_p2 : lw_okq (⟨"DeviceTrials$Journal", "plainCount", "(II)I"⟩, 10) := ⟨⟨by decide +kernel, by decide +kernel⟩, List.mem_of_getElem? (i := 25) (by decide +kernel), List.mem_of_getElem? (i := 171) (by decide +kernel), List.mem_of_getElem? (i := 172) (by decide +kernel)⟩
theorem lw_p3 : lw_okq (⟨"java/lang/Throwable", "fillInStackTrace", "(I)Ljava/lang/Throwable;"⟩, 6) := ⟨⟨by decide +kernel, by decide +kernel⟩, List.mem_of_getElem? (i := 235) (by decide +kernel), List.mem_of_getElem? (i := 233) (by decide +kernel), List.mem_of_getElem? (i := 234) (by decide +kernel)⟩
theorem lw_p4 : lw_okq (⟨"DeviceTrials$Journal", "drawArm", "()Z"⟩, 10) := ⟨⟨by decide +kernel, by decide +kernel⟩, List.mem_of_getElem? (i := 25) (by decide +kernel), List.mem_of_getElem? (i := 285) (by decide +kernel), List.mem_of_getElem? (i := 286) (by decide +kernel)⟩
theorem lw_p5 : lw_okq (⟨"DeviceTrials$Journal", "addPair", "(III)V"⟩, 10) := ⟨⟨by decide +kernel, by decide +kernel⟩, List.mem_of_getElem? (i := 25) (by decide +kernel), List.mem_of_getElem? (i := 291) (by decide +kernel), List.mem_of_getElem? (i := 292) (by decide +kernel)⟩
theorem lw_p6 : lw_okq (⟨"DeviceTrials", "needHaul", "(I)V"⟩, 5) := ⟨⟨by decide +kernel, by decide +kernel⟩, List.mem_of_getElem? (i := 17) (by decide +kernel), List.mem_of_getElem? (i := 303) (by decide +kernel), List.mem_of_getElem? (i := 304) (by decide +kernel)⟩
theorem lw_p7 : lw_okq (⟨"DeviceTrials", "needPair", "(I)V"⟩, 5) := ⟨⟨by decide +kernel, by decide +kernel⟩, List.mem_of_getElem? (i := 17) (by decide +kernel), List.mem_of_getElem? (i := 358) (by decide +kernel), List.mem_of_getElem? (i := 359) (by decide +kernel)⟩
theorem lw_p8 : lw_okq (⟨"DeviceTrials$Choices", "fillSums", "([III)I"⟩, 6) := ⟨⟨by decide +kernel, by decide +kernel⟩, List.mem_of_getElem? (i := 80) (by decide +kernel), List.mem_of_getElem? (i := 414) (by decide +kernel), List.mem_of_getElem? (i := 415) (by decide +kernel)⟩
theorem lw_p9 : lw_okq (⟨"DeviceTrials$Choices", "addWeight", "([III)V"⟩, 6) := ⟨⟨by decide +kernel, by decide +kernel⟩, List.mem_of_getElem? (i := 80) (by decide +kernel), List.mem_of_getElem? (i := 418) (by decide +kernel), List.mem_of_getElem? (i := 419) (by decide +kernel)⟩
theorem lw_p10 : lw_okq (⟨"DeviceTrialsModel", "by", "(II)I"⟩, 17) := ⟨⟨by decide +kernel, by decide +kernel⟩, List.mem_of_getElem? (i := 546) (by decide +kernel), List.mem_of_getElem? (i := 641) (by decide +kernel), List.mem_of_getElem? (i := 642) (by decide +kernel)⟩
theorem lw_p11 : lw_okq (⟨"DeviceTrialsModel", "keptOf", "(I)I"⟩, 17) := ⟨⟨by decide +kernel, by decide +kernel⟩, List.mem_of_getElem? (i := 546) (by decide +kernel), List.mem_of_getElem? (i := 649) (by decide +kernel), List.mem_of_getElem? (i := 650) (by decide +kernel)⟩
theorem lw_p12 : lw_okq (⟨"DeviceTrialsModel", "isKept", "(II)Z"⟩, 17) := ⟨⟨by decide +kernel, by decide +kernel⟩, List.mem_of_getElem? (i := 546) (by decide +kernel), List.mem_of_getElem? (i := 653) (by decide +kernel), List.mem_of_getElem? (i := 654) (by decide +kernel)⟩
theorem lw_p13 : lw_okq (⟨"DeviceTrialsModel", "sumOf", "(I)I"⟩, 17) := ⟨⟨by decide +kernel, by decide +kernel⟩, List.mem_of_getElem? (i := 546) (by decide +kernel), List.mem_of_getElem? (i := 661) (by decide +kernel), List.mem_of_getElem? (i := 662) (by decide +kernel)⟩
theorem lw_p14 : lw_okq (⟨"DeviceTrialsModel", "rankOf", "(II)I"⟩, 17) := ⟨⟨by decide +kernel, by decide +kernel⟩, List.mem_of_getElem? (i := 546) (by decide +kernel), List.mem_of_getElem? (i := 676) (by decide +kernel), List.mem_of_getElem? (i := 677) (by decide +kernel)⟩
theorem lw_p15 : lw_okq (⟨"DeviceTrialsModel", "isRanked", "(II)Z"⟩, 17) := ⟨⟨by decide +kernel, by decide +kernel⟩, List.mem_of_getElem? (i := 546) (by decide +kernel), List.mem_of_getElem? (i := 680) (by decide +kernel), List.mem_of_getElem? (i := 681) (by decide +kernel)⟩
def lw_privs_1 : List (MethodName × Nat) := [(⟨"DeviceTrials$Journal", "isOf", "(II)Z"⟩, 10), (⟨"DeviceTrials$Journal", "deviceCount", "(II)I"⟩, 10), (⟨"DeviceTrials$Journal", "plainCount", "(II)I"⟩, 10), (⟨"java/lang/Throwable", "fillInStackTrace", "(I)Ljava/lang/Throwable;"⟩, 6), (⟨"DeviceTrials$Journal", "drawArm", "()Z"⟩, 10), (⟨"DeviceTrials$Journal", "addPair", "(III)V"⟩, 10), (⟨"DeviceTrials", "needHaul", "(I)V"⟩, 5), (⟨"DeviceTrials", "needPair", "(I)V"⟩, 5), (⟨"DeviceTrials$Choices", "fillSums", "([III)I"⟩, 6), (⟨"DeviceTrials$Choices", "addWeight", "([III)V"⟩, 6), (⟨"DeviceTrialsModel", "by", "(II)I"⟩, 17), (⟨"DeviceTrialsModel", "keptOf", "(I)I"⟩, 17), (⟨"DeviceTrialsModel", "isKept", "(II)Z"⟩, 17), (⟨"DeviceTrialsModel", "sumOf", "(I)I"⟩, 17), (⟨"DeviceTrialsModel", "rankOf", "(II)I"⟩, 17), (⟨"DeviceTrialsModel", "isRanked", "(II)Z"⟩, 17)]
theorem lw_r1 : ∀ q ∈ lw_privs_1, lw_okq q := List.forall_mem_cons.mpr ⟨lw_p0, List.forall_mem_cons.mpr ⟨lw_p1, List.forall_mem_cons.mpr ⟨lw_p2, List.forall_mem_cons.mpr ⟨lw_p3, List.forall_mem_cons.mpr ⟨lw_p4, List.forall_mem_cons.mpr ⟨lw_p5, List.forall_mem_cons.mpr ⟨lw_p6, List.forall_mem_cons.mpr ⟨lw_p7, List.forall_mem_cons.mpr ⟨lw_p8, List.forall_mem_cons.mpr ⟨lw_p9, List.forall_mem_cons.mpr ⟨lw_p10, List.forall_mem_cons.mpr ⟨lw_p11, List.forall_mem_cons.mpr ⟨lw_p12, List.forall_mem_cons.mpr ⟨lw_p13, List.forall_mem_cons.mpr ⟨lw_p14, List.forall_mem_cons.mpr ⟨lw_p15, fun _ h => absurd h List.not_mem_nil⟩⟩⟩⟩⟩⟩⟩⟩⟩⟩⟩⟩⟩⟩⟩⟩
theorem lw_p16 : lw_okq (⟨"DeviceTrialsModel", "cross", "(III)J"⟩, 17) := ⟨⟨by decide +kernel, by decide +kernel⟩, List.mem_of_getElem? (i := 546) (by decide +kernel), List.mem_of_getElem? (i := 703) (by decide +kernel), List.mem_of_getElem? (i := 704) (by decide +kernel)⟩
theorem lw_p17 : lw_okq (⟨"DeviceTrialsModel", "keptOfShip", "(II)I"⟩, 17) := ⟨⟨by decide +kernel, by decide +kernel⟩, List.mem_of_getElem? (i := 546) (by decide +kernel), List.mem_of_getElem? (i := 715) (by decide +kernel), List.mem_of_getElem? (i := 716) (by decide +kernel)⟩
theorem lw_p18 : lw_okq (⟨"DeviceTrialsModel", "areUnlike", "(I)Z"⟩, 17) := ⟨⟨by decide +kernel, by decide +kernel⟩, List.mem_of_getElem? (i := 546) (by decide +kernel), List.mem_of_getElem? (i := 731) (by decide +kernel), List.mem_of_getElem? (i := 732) (by decide +kernel)⟩
def lw_privs_2 : List (MethodName × Nat) := [(⟨"DeviceTrialsModel", "cross", "(III)J"⟩, 17), (⟨"DeviceTrialsModel", "keptOfShip", "(II)I"⟩, 17), (⟨"DeviceTrialsModel", "areUnlike", "(I)Z"⟩, 17)]
theorem lw_r2 : ∀ q ∈ lw_privs_2, lw_okq q := List.forall_mem_cons.mpr ⟨lw_p16, List.forall_mem_cons.mpr ⟨lw_p17, List.forall_mem_cons.mpr ⟨lw_p18, fun _ h => absurd h List.not_mem_nil⟩⟩⟩
def lw_privs : List (MethodName × Nat) := lw_privs_1 ++ (lw_privs_2)
def lw_tbl : List Cond := k2_sels lw_privs ++ tables_1
theorem lw_privs_ok : ∀ q ∈ lw_privs, lw_okq q := by
  show ∀ q ∈ lw_privs_1 ++ (lw_privs_2), lw_okq q
  exact List.forall_mem_append.mpr ⟨lw_r1, lw_r2⟩
end
section
/-! Numbers: an int by its integer, a long by its integer, a boolean. -/
def iZ (z : Int) : Int32 := Int32.ofInt z
def lZ (z : Int) : Int64 := Int64.ofInt z
def bI (b : Bool) : Int32 := if b = true then 1 else 0
abbrev z32 (z : Int) : Prop := -2147483648 ≤ z ∧ z < 2147483648
abbrev z64 (z : Int) : Prop := -9223372036854775808 ≤ z ∧ z < 9223372036854775808
theorem iZ_add (a b : Int) : iZ a + iZ b = iZ (a + b) := (Int32.ofInt_add a b).symm
theorem iZ_sub (a b : Int) : iZ a - iZ b = iZ (a - b) := (Int32.ofInt_sub a b).symm
theorem iZ_mul (a b : Int) : iZ a * iZ b = iZ (a * b) := (Int32.ofInt_mul a b).symm
theorem iZ_neg (a : Int) : -iZ a = iZ (-a) := (Int32.ofInt_neg a).symm
theorem lZ_add (a b : Int) : lZ a + lZ b = lZ (a + b) := (Int64.ofInt_add a b).symm
theorem lZ_sub (a b : Int) : lZ a - lZ b = lZ (a - b) := (Int64.ofInt_sub a b).symm
theorem lZ_mul (a b : Int) : lZ a * lZ b = lZ (a * b) := (Int64.ofInt_mul a b).symm
theorem lZ_neg (a : Int) : -lZ a = lZ (-a) := (Int64.ofInt_neg a).symm
theorem iZ_t {z : Int} (h : z32 z) : (iZ z).toInt = z := Int32.toInt_ofInt_of_le (by omega) (by omega)
theorem lZ_t {z : Int} (h : z64 z) : (lZ z).toInt = z := Int64.toInt_ofInt_of_le (by omega) (by omega)
theorem iZ_of (x : Int32) : x = iZ x.toInt := (Int32.ofInt_toInt x).symm
theorem lZ_of (x : Int64) : x = lZ x.toInt := (Int64.ofInt_toInt x).symm
theorem i_32 (x : Int32) : z32 x.toInt := ⟨by have := x.le_toInt; omega, by have := x.toInt_lt; omega⟩
theorem l_64 (x : Int64) : z64 x.toInt := ⟨by have := x.le_toInt; omega, by have := x.toInt_lt; omega⟩
theorem iZ_ex (x : Int32) : ∃ z : Int, z32 z ∧ x = iZ z := ⟨_, i_32 x, iZ_of x⟩
theorem iZ_lt {a b : Int} (ha : z32 a) (hb : z32 b) : iZ a < iZ b ↔ a < b := by rw [Int32.lt_iff_toInt_lt, iZ_t ha, iZ_t hb]
theorem iZ_le {a b : Int} (ha : z32 a) (hb : z32 b) : iZ a ≤ iZ b ↔ a ≤ b := by rw [Int32.le_iff_toInt_le, iZ_t ha, iZ_t hb]
theorem iZ_eq {a b : Int} (ha : z32 a) (hb : z32 b) : iZ a = iZ b ↔ a = b := by rw [← Int32.toInt_inj, iZ_t ha, iZ_t hb]
theorem lZ_lt {a b : Int} (ha : z64 a) (hb : z64 b) : lZ a < lZ b ↔ a < b := by rw [Int64.lt_iff_toInt_lt, lZ_t ha, lZ_t hb]
theorem lZ_le {a b : Int} (ha : z64 a) (hb : z64 b) : lZ a ≤ lZ b ↔ a ≤ b := by rw [Int64.le_iff_toInt_le, lZ_t ha, lZ_t hb]
theorem lZ_eq {a b : Int} (ha : z64 a) (hb : z64 b) : lZ a = lZ b ↔ a = b := by rw [← Int64.toInt_inj, lZ_t ha, lZ_t hb]
theorem iZ_0 : iZ 0 = 0 := rfl
theorem z0 : z32 0 := ⟨by decide, by decide⟩
theorem lZ_0 : lZ 0 = 0 := rfl
theorem iZ_l {a : Int} (h : z32 a) : (iZ a).toInt64 = lZ a := Int64.toInt_inj.mp (by rw [Int32.toInt_toInt64, iZ_t h, lZ_t (by omega)])
theorem iZ_in {z : Int} {N : Nat} (h : 0 ≤ z ∧ z < (N : Int)) (hN : N < 2147483648) : vp_in (iZ z) N := vp_in_iff.mpr (by rw [iZ_t (by omega)]; exact h)
theorem iZ_cl {z : Int} {k : Nat} (h : z = (k : Int)) (hk : k < 2147483648) : (iZ z).toNatClampNeg = k := by
  subst h
  exact (Int32.toNatClampNeg_ofInt_of_le (by omega) (by omega)).trans (Int.toNat_natCast k)
theorem iZ_div {a b : Int} (ha : z32 a) (hb : z32 b) (h : b ≠ -1) : iZ a / iZ b = iZ (a.tdiv b) := by
  refine Int32.toInt_inj.mp ?_
  rw [Int32.toInt_div_of_ne_right _ _ (fun e => h ((iZ_eq hb (by omega)).mp (e.trans (show (-1 : Int32) = iZ (-1) from rfl)))), iZ_t ha, iZ_t hb, iZ_t]
  have h1 := Int.natAbs_tdiv_le_natAbs a b
  by_cases q : a.tdiv b = 2147483648
  · exfalso
    have h2 : (a.tdiv b).natAbs = a.natAbs / b.natAbs := Int.natAbs_tdiv a b
    rw [q] at h2
    have h3 : a.natAbs ≤ 2147483648 := by omega
    have h4 : a.natAbs / b.natAbs ≤ a.natAbs := Nat.div_le_self _ _
    have h5 : a.natAbs = 2147483648 := by
      have : (2147483648 : Int).natAbs = 2147483648 := rfl
      omega
    rw [h5] at h2
    have h6 : a = -2147483648 := by omega
    have hb1 : b.natAbs = 1 := by
      have : (2147483648 : Int).natAbs = 2147483648 := rfl
      rw [this] at h2
      rcases Nat.lt_or_ge b.natAbs 2 with g | g
      · rcases Nat.lt_or_ge b.natAbs 1 with g2 | g2
        · have : b.natAbs = 0 := by omega
          rw [this] at h2; simp at h2
        · omega
      · have := Nat.div_le_div_left (a := 2147483648) g (by decide)
        omega
    have hb2 : b = 1 := by omega
    rw [hb2, Int.tdiv_one] at q
    omega
  · omega
end
section
section ZR
variable {p : Program} {l : Launch} {e : Env} {R : Room} {s : State} {m : MethodId} {args : Array Value} {below : List Frame} {meth : Method} {c : Code} {H : Heap} {locs : List Loc} {cells slots : Nat} {Q : State → Prop}
variable {cc : ByteArray} {pc : Nat} {ls : Array Slot} {rest : List Value}
theorem z_iadd (hx : p.tables.exec = Jvm.exec) (hb : c.code = cc) {a b : Int} (hdg : decode cc pc = .ok (.iadd, 1)) (k : W p l e R s m args below meth c H locs cells slots Q (F0 m (pc + 1) ls (.int (iZ (a + b)) :: rest))) : W p l e R s m args below meth c H locs cells slots Q (F0 m pc ls (.int (iZ b) :: .int (iZ a) :: rest)) := lv_iadd hx hb hdg (by rw [iZ_add]; exact k)
theorem z_isub (hx : p.tables.exec = Jvm.exec) (hb : c.code = cc) {a b : Int} (hdg : decode cc pc = .ok (.isub, 1)) (k : W p l e R s m args below meth c H locs cells slots Q (F0 m (pc + 1) ls (.int (iZ (a - b)) :: rest))) : W p l e R s m args below meth c H locs cells slots Q (F0 m pc ls (.int (iZ b) :: .int (iZ a) :: rest)) := lv_isub hx hb hdg (by rw [iZ_sub]; exact k)
theorem z_imul (hx : p.tables.exec = Jvm.exec) (hb : c.code = cc) {a b : Int} (hdg : decode cc pc = .ok (.imul, 1)) (k : W p l e R s m args below meth c H locs cells slots Q (F0 m (pc + 1) ls (.int (iZ (a * b)) :: rest))) : W p l e R s m args below meth c H locs cells slots Q (F0 m pc ls (.int (iZ b) :: .int (iZ a) :: rest)) := lv_imul hx hb hdg (by rw [iZ_mul]; exact k)
theorem z_ineg (hx : p.tables.exec = Jvm.exec) (hb : c.code = cc) {a : Int} (hdg : decode cc pc = .ok (.ineg, 1)) (k : W p l e R s m args below meth c H locs cells slots Q (F0 m (pc + 1) ls (.int (iZ (-a)) :: rest))) : W p l e R s m args below meth c H locs cells slots Q (F0 m pc ls (.int (iZ a) :: rest)) := lv_ineg hx hb hdg (by rw [iZ_neg]; exact k)
theorem z_ladd (hx : p.tables.exec = Jvm.exec) (hb : c.code = cc) {a b : Int} (hdg : decode cc pc = .ok (.ladd, 1)) (k : W p l e R s m args below meth c H locs cells slots Q (F0 m (pc + 1) ls (.long (lZ (a + b)) :: rest))) : W p l e R s m args below meth c H locs cells slots Q (F0 m pc ls (.long (lZ b) :: .long (lZ a) :: rest)) := lv_ladd hx hb hdg (by rw [lZ_add]; exact k)
theorem z_lsub (hx : p.tables.exec = Jvm.exec) (hb : c.code = cc) {a b : Int} (hdg : decode cc pc = .ok (.lsub, 1)) (k : W p l e R s m args below meth c H locs cells slots Q (F0 m (pc + 1) ls (.long (lZ (a - b)) :: rest))) : W p l e R s m args below meth c H locs cells slots Q (F0 m pc ls (.long (lZ b) :: .long (lZ a) :: rest)) := lv_lsub hx hb hdg (by rw [lZ_sub]; exact k)
theorem z_lmul (hx : p.tables.exec = Jvm.exec) (hb : c.code = cc) {a b : Int} (hdg : decode cc pc = .ok (.lmul, 1)) (k : W p l e R s m args below meth c H locs cells slots Q (F0 m (pc + 1) ls (.long (lZ (a * b)) :: rest))) : W p l e R s m args below meth c H locs cells slots Q (F0 m pc ls (.long (lZ b) :: .long (lZ a) :: rest)) := lv_lmul hx hb hdg (by rw [lZ_mul]; exact k)
theorem z_i2l (hx : p.tables.exec = Jvm.exec) (hb : c.code = cc) {a : Int} (h : z32 a) (hdg : decode cc pc = .ok (.i2l, 1)) (k : W p l e R s m args below meth c H locs cells slots Q (F0 m (pc + 1) ls (.long (lZ a) :: rest))) : W p l e R s m args below meth c H locs cells slots Q (F0 m pc ls (.int (iZ a) :: rest)) := lv_i2l hx hb hdg (iZ_l h) k
theorem z_icmp_eq (hx : p.tables.exec = Jvm.exec) (hb : c.code = cc) {a b : Int} (hz : z32 a ∧ z32 b) {off : Int} {tgt : Nat} (hdg : decode cc pc = .ok (.if_icmp .eq off, 3)) (ht : (pc : Int) + off = (tgt : Int)) (kt : a = b → W p l e R s m args below meth c H locs cells slots Q (F0 m tgt ls rest)) (kf : ¬ a = b → W p l e R s m args below meth c H locs cells slots Q (F0 m (pc + 3) ls rest)) : W p l e R s m args below meth c H locs cells slots Q (F0 m pc ls (.int (iZ b) :: .int (iZ a) :: rest)) := lv_icmp_eq hx hb hdg ht (fun q => kt ((iZ_eq hz.1 hz.2).mp q)) (fun q => kf (fun h => q ((iZ_eq hz.1 hz.2).mpr h)))
theorem z_if_eq (hx : p.tables.exec = Jvm.exec) (hb : c.code = cc) {a : Int} (hz : z32 a) {off : Int} {tgt : Nat} (hdg : decode cc pc = .ok (.ifCond .eq off, 3)) (ht : (pc : Int) + off = (tgt : Int)) (kt : a = 0 → W p l e R s m args below meth c H locs cells slots Q (F0 m tgt ls rest)) (kf : ¬ a = 0 → W p l e R s m args below meth c H locs cells slots Q (F0 m (pc + 3) ls rest)) : W p l e R s m args below meth c H locs cells slots Q (F0 m pc ls (.int (iZ a) :: rest)) := lv_if_eq hx hb hdg ht (fun q => kt ((iZ_eq hz z0).mp q)) (fun q => kf (fun h => q ((iZ_eq hz z0).mpr h)))
theorem z_icmp_ne (hx : p.tables.exec = Jvm.exec) (hb : c.code = cc) {a b : Int} (hz : z32 a ∧ z32 b) {off : Int} {tgt : Nat} (hdg : decode cc pc = .ok (.if_icmp .ne off, 3)) (ht : (pc : Int) + off = (tgt : Int)) (kt : ¬ a = b → W p l e R s m args below meth c H locs cells slots Q (F0 m tgt ls rest)) (kf : a = b → W p l e R s m args below meth c H locs cells slots Q (F0 m (pc + 3) ls rest)) : W p l e R s m args below meth c H locs cells slots Q (F0 m pc ls (.int (iZ b) :: .int (iZ a) :: rest)) := lv_icmp_ne hx hb hdg ht (fun q => kt (fun h => q ((iZ_eq hz.1 hz.2).mpr h))) (fun q => kf ((iZ_eq hz.1 hz.2).mp q))
theorem z_if_ne (hx : p.tables.exec = Jvm.exec) (hb : c.code = cc) {a : Int} (hz : z32 a) {off : Int} {tgt : Nat} (hdg : decode cc pc = .ok (.ifCond .ne off, 3)) (ht : (pc : Int) + off = (tgt : Int)) (kt : ¬ a = 0 → W p l e R s m args below meth c H locs cells slots Q (F0 m tgt ls rest)) (kf : a = 0 → W p l e R s m args below meth c H locs cells slots Q (F0 m (pc + 3) ls rest)) : W p l e R s m args below meth c H locs cells slots Q (F0 m pc ls (.int (iZ a) :: rest)) := lv_if_ne hx hb hdg ht (fun q => kt (fun h => q ((iZ_eq hz z0).mpr h))) (fun q => kf ((iZ_eq hz z0).mp q))
theorem z_icmp_lt (hx : p.tables.exec = Jvm.exec) (hb : c.code = cc) {a b : Int} (hz : z32 a ∧ z32 b) {off : Int} {tgt : Nat} (hdg : decode cc pc = .ok (.if_icmp .lt off, 3)) (ht : (pc : Int) + off = (tgt : Int)) (kt : a < b → W p l e R s m args below meth c H locs cells slots Q (F0 m tgt ls rest)) (kf : b ≤ a → W p l e R s m args below meth c H locs cells slots Q (F0 m (pc + 3) ls rest)) : W p l e R s m args below meth c H locs cells slots Q (F0 m pc ls (.int (iZ b) :: .int (iZ a) :: rest)) := lv_icmp_lt hx hb hdg ht (fun q => kt ((iZ_lt hz.1 hz.2).mp q)) (fun q => kf (Int.not_lt.mp (fun h => q ((iZ_lt hz.1 hz.2).mpr h))))
theorem z_if_lt (hx : p.tables.exec = Jvm.exec) (hb : c.code = cc) {a : Int} (hz : z32 a) {off : Int} {tgt : Nat} (hdg : decode cc pc = .ok (.ifCond .lt off, 3)) (ht : (pc : Int) + off = (tgt : Int)) (kt : a < 0 → W p l e R s m args below meth c H locs cells slots Q (F0 m tgt ls rest)) (kf : 0 ≤ a → W p l e R s m args below meth c H locs cells slots Q (F0 m (pc + 3) ls rest)) : W p l e R s m args below meth c H locs cells slots Q (F0 m pc ls (.int (iZ a) :: rest)) := lv_if_lt hx hb hdg ht (fun q => kt ((iZ_lt hz z0).mp q)) (fun q => kf (Int.not_lt.mp (fun h => q ((iZ_lt hz z0).mpr h))))
theorem z_icmp_ge (hx : p.tables.exec = Jvm.exec) (hb : c.code = cc) {a b : Int} (hz : z32 a ∧ z32 b) {off : Int} {tgt : Nat} (hdg : decode cc pc = .ok (.if_icmp .ge off, 3)) (ht : (pc : Int) + off = (tgt : Int)) (kt : b ≤ a → W p l e R s m args below meth c H locs cells slots Q (F0 m tgt ls rest)) (kf : a < b → W p l e R s m args below meth c H locs cells slots Q (F0 m (pc + 3) ls rest)) : W p l e R s m args below meth c H locs cells slots Q (F0 m pc ls (.int (iZ b) :: .int (iZ a) :: rest)) := lv_icmp_ge hx hb hdg ht (fun q => kt ((iZ_le hz.2 hz.1).mp q)) (fun q => kf (Int.not_le.mp (fun h => q ((iZ_le hz.2 hz.1).mpr h))))
theorem z_if_ge (hx : p.tables.exec = Jvm.exec) (hb : c.code = cc) {a : Int} (hz : z32 a) {off : Int} {tgt : Nat} (hdg : decode cc pc = .ok (.ifCond .ge off, 3)) (ht : (pc : Int) + off = (tgt : Int)) (kt : 0 ≤ a → W p l e R s m args below meth c H locs cells slots Q (F0 m tgt ls rest)) (kf : a < 0 → W p l e R s m args below meth c H locs cells slots Q (F0 m (pc + 3) ls rest)) : W p l e R s m args below meth c H locs cells slots Q (F0 m pc ls (.int (iZ a) :: rest)) := lv_if_ge hx hb hdg ht (fun q => kt ((iZ_le z0 hz).mp q)) (fun q => kf (Int.not_le.mp (fun h => q ((iZ_le z0 hz).mpr h))))
theorem z_icmp_gt (hx : p.tables.exec = Jvm.exec) (hb : c.code = cc) {a b : Int} (hz : z32 a ∧ z32 b) {off : Int} {tgt : Nat} (hdg : decode cc pc = .ok (.if_icmp .gt off, 3)) (ht : (pc : Int) + off = (tgt : Int)) (kt : b < a → W p l e R s m args below meth c H locs cells slots Q (F0 m tgt ls rest)) (kf : a ≤ b → W p l e R s m args below meth c H locs cells slots Q (F0 m (pc + 3) ls rest)) : W p l e R s m args below meth c H locs cells slots Q (F0 m pc ls (.int (iZ b) :: .int (iZ a) :: rest)) := lv_icmp_gt hx hb hdg ht (fun q => kt ((iZ_lt hz.2 hz.1).mp q)) (fun q => kf (Int.not_lt.mp (fun h => q ((iZ_lt hz.2 hz.1).mpr h))))
theorem z_if_gt (hx : p.tables.exec = Jvm.exec) (hb : c.code = cc) {a : Int} (hz : z32 a) {off : Int} {tgt : Nat} (hdg : decode cc pc = .ok (.ifCond .gt off, 3)) (ht : (pc : Int) + off = (tgt : Int)) (kt : 0 < a → W p l e R s m args below meth c H locs cells slots Q (F0 m tgt ls rest)) (kf : a ≤ 0 → W p l e R s m args below meth c H locs cells slots Q (F0 m (pc + 3) ls rest)) : W p l e R s m args below meth c H locs cells slots Q (F0 m pc ls (.int (iZ a) :: rest)) := lv_if_gt hx hb hdg ht (fun q => kt ((iZ_lt z0 hz).mp q)) (fun q => kf (Int.not_lt.mp (fun h => q ((iZ_lt z0 hz).mpr h))))
theorem z_icmp_le (hx : p.tables.exec = Jvm.exec) (hb : c.code = cc) {a b : Int} (hz : z32 a ∧ z32 b) {off : Int} {tgt : Nat} (hdg : decode cc pc = .ok (.if_icmp .le off, 3)) (ht : (pc : Int) + off = (tgt : Int)) (kt : a ≤ b → W p l e R s m args below meth c H locs cells slots Q (F0 m tgt ls rest)) (kf : b < a → W p l e R s m args below meth c H locs cells slots Q (F0 m (pc + 3) ls rest)) : W p l e R s m args below meth c H locs cells slots Q (F0 m pc ls (.int (iZ b) :: .int (iZ a) :: rest)) := lv_icmp_le hx hb hdg ht (fun q => kt ((iZ_le hz.1 hz.2).mp q)) (fun q => kf (Int.not_le.mp (fun h => q ((iZ_le hz.1 hz.2).mpr h))))
theorem z_if_le (hx : p.tables.exec = Jvm.exec) (hb : c.code = cc) {a : Int} (hz : z32 a) {off : Int} {tgt : Nat} (hdg : decode cc pc = .ok (.ifCond .le off, 3)) (ht : (pc : Int) + off = (tgt : Int)) (kt : a ≤ 0 → W p l e R s m args below meth c H locs cells slots Q (F0 m tgt ls rest)) (kf : 0 < a → W p l e R s m args below meth c H locs cells slots Q (F0 m (pc + 3) ls rest)) : W p l e R s m args below meth c H locs cells slots Q (F0 m pc ls (.int (iZ a) :: rest)) := lv_if_le hx hb hdg ht (fun q => kt ((iZ_le hz z0).mp q)) (fun q => kf (Int.not_le.mp (fun h => q ((iZ_le hz z0).mpr h))))
theorem z_if_eqB (hx : p.tables.exec = Jvm.exec) (hb : c.code = cc) {b : Bool} {off : Int} {tgt : Nat} (hdg : decode cc pc = .ok (.ifCond .eq off, 3)) (ht : (pc : Int) + off = (tgt : Int)) (kt : b = false → W p l e R s m args below meth c H locs cells slots Q (F0 m tgt ls rest)) (kf : b = true → W p l e R s m args below meth c H locs cells slots Q (F0 m (pc + 3) ls rest)) : W p l e R s m args below meth c H locs cells slots Q (F0 m pc ls (.int (bI b) :: rest)) := lv_if_eq hx hb hdg ht (fun q => kt (by cases b with | false => rfl | true => exact absurd q (by decide))) (fun q => kf (by cases b with | true => rfl | false => exact absurd rfl q))
theorem z_if_neB (hx : p.tables.exec = Jvm.exec) (hb : c.code = cc) {b : Bool} {off : Int} {tgt : Nat} (hdg : decode cc pc = .ok (.ifCond .ne off, 3)) (ht : (pc : Int) + off = (tgt : Int)) (kt : b = true → W p l e R s m args below meth c H locs cells slots Q (F0 m tgt ls rest)) (kf : b = false → W p l e R s m args below meth c H locs cells slots Q (F0 m (pc + 3) ls rest)) : W p l e R s m args below meth c H locs cells slots Q (F0 m pc ls (.int (bI b) :: rest)) := lv_if_ne hx hb hdg ht (fun q => kt (by cases b with | true => rfl | false => exact absurd rfl q)) (fun q => kf (by cases b with | false => rfl | true => exact absurd q (by decide)))
/-- lcmp, then a jump -/
theorem z_lcmp_eq (hx : p.tables.exec = Jvm.exec) (hb : c.code = cc) {a b : Int} (hz : z64 a ∧ z64 b) {off : Int} {tgt pc1 pc4 : Nat} (hdg : decode cc pc = .ok (.lcmp, 1)) (h1 : pc1 = pc + 1) (h4 : pc4 = pc + 4) (hdg2 : decode cc pc1 = .ok (.ifCond .eq off, 3)) (ht : (pc1 : Int) + off = (tgt : Int)) (kt : a = b → W p l e R s m args below meth c H locs cells slots Q (F0 m tgt ls rest)) (kf : ¬ a = b → W p l e R s m args below meth c H locs cells slots Q (F0 m pc4 ls rest)) : W p l e R s m args below meth c H locs cells slots Q (F0 m pc ls (.long (lZ b) :: .long (lZ a) :: rest)) := by
  subst h1; subst h4
  exact W.lcmp hx hb hdg (lv_if_eq hx hb hdg2 ht (fun q => kt ((lZ_eq hz.1 hz.2).mp ((lg_cmp_eq _ _).mp q))) (fun q => kf (fun h => q ((lg_cmp_eq _ _).mpr ((lZ_eq hz.1 hz.2).mpr h)))))
theorem z_lcmp_ne (hx : p.tables.exec = Jvm.exec) (hb : c.code = cc) {a b : Int} (hz : z64 a ∧ z64 b) {off : Int} {tgt pc1 pc4 : Nat} (hdg : decode cc pc = .ok (.lcmp, 1)) (h1 : pc1 = pc + 1) (h4 : pc4 = pc + 4) (hdg2 : decode cc pc1 = .ok (.ifCond .ne off, 3)) (ht : (pc1 : Int) + off = (tgt : Int)) (kt : ¬ a = b → W p l e R s m args below meth c H locs cells slots Q (F0 m tgt ls rest)) (kf : a = b → W p l e R s m args below meth c H locs cells slots Q (F0 m pc4 ls rest)) : W p l e R s m args below meth c H locs cells slots Q (F0 m pc ls (.long (lZ b) :: .long (lZ a) :: rest)) := by
  subst h1; subst h4
  exact W.lcmp hx hb hdg (lv_if_ne hx hb hdg2 ht (fun q => kt (fun h => q ((lg_cmp_eq _ _).mpr ((lZ_eq hz.1 hz.2).mpr h)))) (fun q => kf ((lZ_eq hz.1 hz.2).mp ((lg_cmp_eq _ _).mp q))))
theorem z_lcmp_lt (hx : p.tables.exec = Jvm.exec) (hb : c.code = cc) {a b : Int} (hz : z64 a ∧ z64 b) {off : Int} {tgt pc1 pc4 : Nat} (hdg : decode cc pc = .ok (.lcmp, 1)) (h1 : pc1 = pc + 1) (h4 : pc4 = pc + 4) (hdg2 : decode cc pc1 = .ok (.ifCond .lt off, 3)) (ht : (pc1 : Int) + off = (tgt : Int)) (kt : a < b → W p l e R s m args below meth c H locs cells slots Q (F0 m tgt ls rest)) (kf : b ≤ a → W p l e R s m args below meth c H locs cells slots Q (F0 m pc4 ls rest)) : W p l e R s m args below meth c H locs cells slots Q (F0 m pc ls (.long (lZ b) :: .long (lZ a) :: rest)) := by
  subst h1; subst h4
  exact W.lcmp hx hb hdg (lv_if_lt hx hb hdg2 ht (fun q => kt ((lZ_lt hz.1 hz.2).mp ((lg_cmp_lt _ _).mp q))) (fun q => kf (Int.not_lt.mp (fun h => q ((lg_cmp_lt _ _).mpr ((lZ_lt hz.1 hz.2).mpr h))))))
theorem z_lcmp_ge (hx : p.tables.exec = Jvm.exec) (hb : c.code = cc) {a b : Int} (hz : z64 a ∧ z64 b) {off : Int} {tgt pc1 pc4 : Nat} (hdg : decode cc pc = .ok (.lcmp, 1)) (h1 : pc1 = pc + 1) (h4 : pc4 = pc + 4) (hdg2 : decode cc pc1 = .ok (.ifCond .ge off, 3)) (ht : (pc1 : Int) + off = (tgt : Int)) (kt : b ≤ a → W p l e R s m args below meth c H locs cells slots Q (F0 m tgt ls rest)) (kf : a < b → W p l e R s m args below meth c H locs cells slots Q (F0 m pc4 ls rest)) : W p l e R s m args below meth c H locs cells slots Q (F0 m pc ls (.long (lZ b) :: .long (lZ a) :: rest)) := by
  subst h1; subst h4
  exact W.lcmp hx hb hdg (lv_if_ge hx hb hdg2 ht (fun q => kt ((lZ_le hz.2 hz.1).mp ((lg_cmp_ge _ _).mp q))) (fun q => kf (Int.not_le.mp (fun h => q ((lg_cmp_ge _ _).mpr ((lZ_le hz.2 hz.1).mpr h))))))
theorem z_lcmp_gt (hx : p.tables.exec = Jvm.exec) (hb : c.code = cc) {a b : Int} (hz : z64 a ∧ z64 b) {off : Int} {tgt pc1 pc4 : Nat} (hdg : decode cc pc = .ok (.lcmp, 1)) (h1 : pc1 = pc + 1) (h4 : pc4 = pc + 4) (hdg2 : decode cc pc1 = .ok (.ifCond .gt off, 3)) (ht : (pc1 : Int) + off = (tgt : Int)) (kt : b < a → W p l e R s m args below meth c H locs cells slots Q (F0 m tgt ls rest)) (kf : a ≤ b → W p l e R s m args below meth c H locs cells slots Q (F0 m pc4 ls rest)) : W p l e R s m args below meth c H locs cells slots Q (F0 m pc ls (.long (lZ b) :: .long (lZ a) :: rest)) := by
  subst h1; subst h4
  exact W.lcmp hx hb hdg (lv_if_gt hx hb hdg2 ht (fun q => kt ((lZ_lt hz.2 hz.1).mp ((lg_cmp_gt _ _).mp q))) (fun q => kf (Int.not_lt.mp (fun h => q ((lg_cmp_gt _ _).mpr ((lZ_lt hz.2 hz.1).mpr h))))))
theorem z_lcmp_le (hx : p.tables.exec = Jvm.exec) (hb : c.code = cc) {a b : Int} (hz : z64 a ∧ z64 b) {off : Int} {tgt pc1 pc4 : Nat} (hdg : decode cc pc = .ok (.lcmp, 1)) (h1 : pc1 = pc + 1) (h4 : pc4 = pc + 4) (hdg2 : decode cc pc1 = .ok (.ifCond .le off, 3)) (ht : (pc1 : Int) + off = (tgt : Int)) (kt : a ≤ b → W p l e R s m args below meth c H locs cells slots Q (F0 m tgt ls rest)) (kf : b < a → W p l e R s m args below meth c H locs cells slots Q (F0 m pc4 ls rest)) : W p l e R s m args below meth c H locs cells slots Q (F0 m pc ls (.long (lZ b) :: .long (lZ a) :: rest)) := by
  subst h1; subst h4
  exact W.lcmp hx hb hdg (lv_if_le hx hb hdg2 ht (fun q => kt ((lZ_le hz.1 hz.2).mp ((lg_cmp_le _ _).mp q))) (fun q => kf (Int.not_le.mp (fun h => q ((lg_cmp_le _ _).mpr ((lZ_le hz.1 hz.2).mpr h))))))
end ZR
end
section
/-! Arrays by their integers; the tables' words as one fact; contracts over one world. -/
abbrev zA (f : Nat → Int) : Nat → Int32 := fun j => iZ (f j)
abbrev zB (g : Nat → Bool) : Nat → Int32 := fun j => bI (g j)
abbrev zL (f : Nat → Int) : Nat → Int64 := fun j => lZ (f j)
def zu (f : Nat → Int) (k : Nat) (v : Int) : Nat → Int := fun j => if j = k then v else f j
def zub (g : Nat → Bool) (k : Nat) (v : Bool) : Nat → Bool := fun j => if j = k then v else g j
theorem zu_s (f : Nat → Int) (k : Nat) (v : Int) : zu f k v k = v := if_pos rfl
theorem zu_n (f : Nat → Int) {k j : Nat} (v : Int) (h : j ≠ k) : zu f k v j = f j := if_neg h
theorem zub_s (g : Nat → Bool) (k : Nat) (v : Bool) : zub g k v k = v := if_pos rfl
theorem zub_n (g : Nat → Bool) {k j : Nat} (v : Bool) (h : j ≠ k) : zub g k v j = g j := if_neg h
theorem zA_u (f : Nat → Int) (k : Nat) (v : Int) : upd (zA f) k (iZ v) = zA (zu f k v) := funext fun j => by
  show (if j = k then iZ v else iZ (f j)) = iZ (if j = k then v else f j)
  by_cases h : j = k
  · rw [if_pos h, if_pos h]
  · rw [if_neg h, if_neg h]
theorem zL_u (f : Nat → Int) (k : Nat) (v : Int) : vp_updL (zL f) k (lZ v) = zL (zu f k v) := funext fun j => by
  show (if j = k then lZ v else lZ (f j)) = lZ (if j = k then v else f j)
  by_cases h : j = k
  · rw [if_pos h, if_pos h]
  · rw [if_neg h, if_neg h]
theorem zB_u (g : Nat → Bool) (k : Nat) (v : Bool) : upd (zB g) k (vp_nar .boolean (bI v)) = zB (zub g k v) := funext fun j => by
  have e : vp_nar .boolean (bI v) = bI v := by cases v <;> decide
  rw [e]
  show (if j = k then bI v else bI (g j)) = bI (if j = k then v else g j)
  by_cases h : j = k
  · rw [if_pos h, if_pos h]
  · rw [if_neg h, if_neg h]
section ZAR
variable {p : Program} {l : Launch} {e : Env} {R : Room} {s : State} {m : MethodId} {args : Array Value} {below : List Frame} {meth : Method} {c : Code} {H : Heap} {locs : List Loc} {cells slots : Nat} {Q : State → Prop}
variable {cc : ByteArray} {pc : Nat} {ls : Array Slot} {rest : List Value} {D : va_G} {cl : List vw_C} {A : Nat → Prop} {a : Nat} {tys : List (ClassId × FieldType)} {ws : va_W} {H0 : Heap}
theorem z_iald (hx : p.tables.exec = Jvm.exec) (hb : c.code = cc) (hK : va_K D cl tys s) (hP : va_P D cl ws H) (q0 t0 : Nat) {cA : ClassId} {n : Nat} {f : Nat → Int} (ha : ws[q0]? = some (a, .inl (cA, n, .inl (zA f)))) (ht : tys[t0]? = some (cA, .int)) {i : Int} (k : Nat) (hi : i = (k : Int) ∧ k < n ∧ n < 2147483648) (hdg : decode cc pc = .ok (.iaload, 1))
    (kk : W p l e R s m args below meth c H locs cells slots Q (F0 m (pc + 1) ls (.int (iZ (f k)) :: rest))) : W p l e R s m args below meth c H locs cells slots Q (F0 m pc ls (.int (iZ i) :: .ref a :: rest)) :=
  va_iald hx hb hK hP q0 t0 ha ht (iZ_in (by omega) hi.2.2) hdg (by rw [show zA f (iZ i).toNatClampNeg = iZ (f k) from by rw [iZ_cl hi.1 (by omega)]]; exact kk)
theorem z_zald (hx : p.tables.exec = Jvm.exec) (hb : c.code = cc) (hK : va_K D cl tys s) (hP : va_P D cl ws H) (q0 t0 : Nat) {cA : ClassId} {n : Nat} {f : Nat → Bool} (ha : ws[q0]? = some (a, .inl (cA, n, .inl (zB f)))) (ht : tys[t0]? = some (cA, .boolean)) {i : Int} (k : Nat) (hi : i = (k : Int) ∧ k < n ∧ n < 2147483648) (hdg : decode cc pc = .ok (.baload, 1))
    (kk : W p l e R s m args below meth c H locs cells slots Q (F0 m (pc + 1) ls (.int (bI (f k)) :: rest))) : W p l e R s m args below meth c H locs cells slots Q (F0 m pc ls (.int (iZ i) :: .ref a :: rest)) :=
  va_zald hx hb hK hP q0 t0 ha ht (iZ_in (by omega) hi.2.2) hdg (by rw [show zB f (iZ i).toNatClampNeg = bI (f k) from by rw [iZ_cl hi.1 (by omega)]]; exact kk)
theorem z_lald (hx : p.tables.exec = Jvm.exec) (hb : c.code = cc) (hK : va_K D cl tys s) (hP : va_P D cl ws H) (q0 t0 : Nat) {cA : ClassId} {n : Nat} {f : Nat → Int} (ha : ws[q0]? = some (a, .inl (cA, n, .inr (.inl (zL f))))) (ht : tys[t0]? = some (cA, .long)) {i : Int} (k : Nat) (hi : i = (k : Int) ∧ k < n ∧ n < 2147483648) (hdg : decode cc pc = .ok (.laload, 1))
    (kk : W p l e R s m args below meth c H locs cells slots Q (F0 m (pc + 1) ls (.long (lZ (f k)) :: rest))) : W p l e R s m args below meth c H locs cells slots Q (F0 m pc ls (.int (iZ i) :: .ref a :: rest)) :=
  va_lald hx hb hK hP q0 t0 ha ht (iZ_in (by omega) hi.2.2) hdg (by rw [show zL f (iZ i).toNatClampNeg = lZ (f k) from by rw [iZ_cl hi.1 (by omega)]]; exact kk)
theorem z_iast (hx : p.tables.exec = Jvm.exec) (hb : c.code = cc) (hK : va_K D cl tys s) (hP : va_P D cl ws H) (hD : va_D A ws) (hS : va_S A H0 H locs) (q0 t0 : Nat) {cA : ClassId} {n : Nat} {f : Nat → Int} (ha : ws[q0]? = some (a, .inl (cA, n, .inl (zA f)))) (ht : tys[t0]? = some (cA, .int)) {i v : Int} (k : Nat) (hi : i = (k : Int) ∧ k < n ∧ n < 2147483648) (hdg : decode cc pc = .ok (.iastore, 1))
    (kk : ∀ (H1 : Heap) (locs1 : List Loc), va_P D cl (ws.set q0 (a, .inl (cA, n, .inl (zA (zu f k v))))) H1 → va_D A (ws.set q0 (a, .inl (cA, n, .inl (zA (zu f k v))))) → va_S A H0 H1 locs1 → W p l e R s m args below meth c H1 locs1 cells slots Q (F0 m (pc + 1) ls rest)) : W p l e R s m args below meth c H locs cells slots Q (F0 m pc ls (.int (iZ v) :: .int (iZ i) :: .ref a :: rest)) := by
  refine va_iast hx hb hK hP hD hS q0 t0 ha ht (iZ_in (by omega) hi.2.2) hdg ?_
  rw [iZ_cl hi.1 (by omega), zA_u]
  exact kk
theorem z_zast (hx : p.tables.exec = Jvm.exec) (hb : c.code = cc) (hK : va_K D cl tys s) (hP : va_P D cl ws H) (hD : va_D A ws) (hS : va_S A H0 H locs) (q0 t0 : Nat) {cA : ClassId} {n : Nat} {f : Nat → Bool} (ha : ws[q0]? = some (a, .inl (cA, n, .inl (zB f)))) (ht : tys[t0]? = some (cA, .boolean)) {i : Int} {v : Bool} (k : Nat) (hi : i = (k : Int) ∧ k < n ∧ n < 2147483648) (hdg : decode cc pc = .ok (.bastore, 1))
    (kk : ∀ (H1 : Heap) (locs1 : List Loc), va_P D cl (ws.set q0 (a, .inl (cA, n, .inl (zB (zub f k v))))) H1 → va_D A (ws.set q0 (a, .inl (cA, n, .inl (zB (zub f k v))))) → va_S A H0 H1 locs1 → W p l e R s m args below meth c H1 locs1 cells slots Q (F0 m (pc + 1) ls rest)) : W p l e R s m args below meth c H locs cells slots Q (F0 m pc ls (.int (bI v) :: .int (iZ i) :: .ref a :: rest)) := by
  refine va_zast hx hb hK hP hD hS q0 t0 ha ht (iZ_in (by omega) hi.2.2) hdg ?_
  rw [iZ_cl hi.1 (by omega), zB_u]
  exact kk
theorem z_last (hx : p.tables.exec = Jvm.exec) (hb : c.code = cc) (hK : va_K D cl tys s) (hP : va_P D cl ws H) (hD : va_D A ws) (hS : va_S A H0 H locs) (q0 t0 : Nat) {cA : ClassId} {n : Nat} {f : Nat → Int} (ha : ws[q0]? = some (a, .inl (cA, n, .inr (.inl (zL f))))) (ht : tys[t0]? = some (cA, .long)) {i v : Int} (k : Nat) (hi : i = (k : Int) ∧ k < n ∧ n < 2147483648) (hdg : decode cc pc = .ok (.lastore, 1))
    (kk : ∀ (H1 : Heap) (locs1 : List Loc), va_P D cl (ws.set q0 (a, .inl (cA, n, .inr (.inl (zL (zu f k v)))))) H1 → va_D A (ws.set q0 (a, .inl (cA, n, .inr (.inl (zL (zu f k v)))))) → va_S A H0 H1 locs1 → W p l e R s m args below meth c H1 locs1 cells slots Q (F0 m (pc + 1) ls rest)) : W p l e R s m args below meth c H locs cells slots Q (F0 m pc ls (.long (lZ v) :: .int (iZ i) :: .ref a :: rest)) := by
  refine va_last hx hb hK hP hD hS q0 t0 ha ht (iZ_in (by omega) hi.2.2) hdg ?_
  rw [iZ_cl hi.1 (by omega), zL_u]
  exact kk
end ZAR
/-- a word that stays when the tables are warmed -/
def zst : Cond → Bool
  | .arrayClass _ => true
  | .fieldLinkNest _ _ _ _ _ _ => true
  | .methodLinkNest _ _ _ _ => true
  | w => w.onTables && w.keeps
/-- the tables' words, whatever the arguments -/
def zE (TB : List Cond) (U : State) : Prop := ∀ w ∈ TB, ∀ a : Array Value, w.before a U = true
theorem zst_warm {w : Cond} {s U : State} (hz : zst w = true) (hW : s.WarmedH U.vm) {a : Array Value} (h : w.before a s = true) : ∀ a' : Array Value, w.before a' U = true := by
  intro a'
  unfold zst at hz
  split at hz
  · exact word_at hW (Or.inr ⟨_, rfl⟩) h
  · exact va_Nw.use rfl (va_Nw.warmF hW (va_Nw.of rfl h))
  · exact va_Nw.use rfl (va_Nw.warmM hW (va_Nw.of rfl h))
  · exact word_at hW (Or.inl hz) h
abbrev zsts (TB : List Cond) : Prop := ∀ w ∈ TB, zst w = true
theorem zE.warm {TB : List Cond} {s U : State} (hz : zsts TB) (hW : s.WarmedH U.vm) (h : zE TB s) : zE TB U := fun w hw => zst_warm (hz w hw) hW (h w hw #[])
/-- the same addresses -/
theorem zD_same {A : Nat → Prop} {w ws : va_W} (h : w.map (·.1) = ws.map (·.1)) (hD : va_D A ws) : va_D A w := by
  have key : ∀ (i : Nat) (q : Nat × va_E), w[i]? = some q → ∃ q', ws[i]? = some q' ∧ q'.1 = q.1 := by
    intro i q hq
    have e : (w.map (·.1))[i]? = some q.1 := by rw [List.getElem?_map, hq]; rfl
    rw [h, List.getElem?_map] at e
    cases hw : ws[i]? with
    | none => rw [hw] at e; cases e
    | some q' => rw [hw] at e; exact ⟨q', rfl, Option.some.inj e⟩
  refine ⟨fun i j a b ha hb hab => ?_, fun k q hq => ?_⟩
  · obtain ⟨a', ha', ea⟩ := key i a ha
    obtain ⟨b', hb', eb⟩ := key j b hb
    exact hD.1 i j a' b' ha' hb' (by rw [ea, eb]; exact hab)
  · obtain ⟨q', hq', eq⟩ := key k q hq
    rw [← eq]
    exact hD.2 k q' hq'
theorem zfree {A : Nat → Prop} {ws : va_W} {H0 H : Heap} {locs : List Loc} (hD : va_D A ws) (hS : va_S A H0 H locs) (hA : ∀ q : Nat, H0.size ≤ q → A q) : ∀ q : Nat, va_A ws H.size q → A q := by
  intro q h
  rcases h with ⟨k, e, h⟩ | h
  · exact hD.2 k _ h
  · exact hA q (Nat.le_trans hS.1 h)
abbrev zRm (fr lo : Nat) : Room := { frames := fr, cells := 0, slots := 0, locals := lo }
def zPc (TB : List Cond) (D : va_G) (cl : List vw_C) (tys : List (ClassId × FieldType)) (av : List Value) (ws : va_W) (sz : Nat) : Array Value → State → Prop :=
  va_Pc av (fun U => U.heap.size = sz ∧ zE TB U ∧ va_P D cl ws U.heap ∧ va_K D cl tys U ∧ va_D (fun _ => True) ws)
theorem zPc_blind {TB : List Cond} (hz : zsts TB) {D : va_G} {cl : List vw_C} {tys : List (ClassId × FieldType)} {av : List Value} {ws : va_W} {sz : Nat} : FrameBlind (zPc TB D cl tys av ws sz) := fun a U g mk q => by
  obtain ⟨q0, q1, qE, qP, qK, qD⟩ := q
  exact ⟨q0, q1, qE.warm (U := U.calling g mk a) hz (State.WarmedH.refl U), qP, va_K.moved (u := U) (U := U.calling g mk a) (Vm.Alike.refl U.vm) qK, qD⟩
/-- the world behind a method: other contents, the same addresses -/
abbrev zB9 (D : va_G) (cl : List vw_C) (ws : va_W) : va_W → State → Prop := fun w t => va_P D cl w t.heap ∧ w.map (·.1) = ws.map (·.1)
/-- contracts over a world: the method answers an int (a long, nothing), and the world is as P says -/
def zMi (l : Launch) (TB : List Cond) (D : va_G) (cl : List vw_C) (tys : List (ClassId × FieldType)) (y : MethodName) (cw : Cond) (fr lo : Nat) (av : List Value) (ws : va_W) (P : Int32 → va_W → Prop) : Prop :=
  ∀ sz, Met l y [cw] (zRm fr lo) (zPc TB D cl tys av ws sz) (va_Qi P (zB9 D cl ws) (va_A ws sz)) 0 0 (va_A ws sz)
def zMl (l : Launch) (TB : List Cond) (D : va_G) (cl : List vw_C) (tys : List (ClassId × FieldType)) (y : MethodName) (cw : Cond) (fr lo : Nat) (av : List Value) (ws : va_W) (P : Int64 → va_W → Prop) : Prop :=
  ∀ sz, Met l y [cw] (zRm fr lo) (zPc TB D cl tys av ws sz) (va_Ql P (zB9 D cl ws) (va_A ws sz)) 0 0 (va_A ws sz)
def zMv (l : Launch) (TB : List Cond) (D : va_G) (cl : List vw_C) (tys : List (ClassId × FieldType)) (y : MethodName) (cw : Cond) (fr lo : Nat) (av : List Value) (ws : va_W) (P : va_W → Prop) : Prop :=
  ∀ sz, Met l y [cw] (zRm fr lo) (zPc TB D cl tys av ws sz) (va_Qv P (zB9 D cl ws) (va_A ws sz)) 0 0 (va_A ws sz)
/-- what a walk knows of its method -/
def zC (p : Program) (s : State) (m : MethodId) (meth : Method) (c : Code) (cc : ByteArray) (nL : Nat) (ret : Option FieldType) (own : String) (args : Array Value) (TB : List Cond) : Prop :=
  p.tables.exec = Jvm.exec ∧ c.code = cc ∧ meth.sig.returnType = ret ∧ c.maxLocals = nL ∧ s.vm.findClass own = some m.cls ∧ (∀ w ∈ TB, w.before args s = true) ∧ zE TB s ∧ meth.locks = false
/-- a body, from its entry -/
abbrev zBody (l : Launch) (TB : List Cond) (D : va_G) (cl : List vw_C) (tys : List (ClassId × FieldType)) (y : MethodName) (b : ByteArray) (nL : Nat) (ret : Option FieldType) (fr lo : Nat) (av : List Value) (ws : va_W) (Qc : (Nat → Prop) → Array Value → State → Outcome → State → Prop) : Prop :=
  ∀ (p : Program) (e : Env) (s : State) (m : MethodId) (below : List Frame) (meth : Method) (c : Code) (A : Nat → Prop) (ls : Array Slot), zC p s m meth c b nL ret y.cls av.toArray TB → va_P D cl ws s.heap → va_K D cl tys s → va_D A ws → va_S A s.heap s.heap [] → (∀ q : Nat, s.heap.size ≤ q → A q) → lv_has ls nL (lv_args 0 av) →
    W p l e (zRm fr lo) s m av.toArray below meth c s.heap [] 0 0 (MQ below (Qc A) av.toArray s 0 0 A) (F0 m 0 ls [])
theorem z_of {l : Launch} {TB : List Cond} {D : va_G} {cl : List vw_C} {tys : List (ClassId × FieldType)} {y : MethodName} {b : ByteArray} {nL fr lo : Nat} {ret : Option FieldType} {av : List Value} {ws : va_W} {Qc : (Nat → Prop) → Array Value → State → Outcome → State → Prop} (hy : plainName y.cls = true) (hn : (lg_sl av).length ≤ nL)
    (body : zBody l TB D cl tys y b nL ret fr lo av ws Qc) : ∀ sz, Met l y [.code y b nL ret] (zRm fr lo) (zPc TB D cl tys av ws sz) (Qc (va_A ws sz)) 0 0 (va_A ws sz) := by
  intro sz
  refine Met.ofW (cc := b) (maxL := nL) (ret := ret) hy rfl ?_
  intro p e s m args below meth c s₁ B hml hv
  obtain ⟨rfl, hsz, hE, hP, hK, hD0⟩ := hv
  subst hsz
  have hD := hD0.self (sz := s.heap.size)
  generalize hAe : va_A ws s.heap.size = A at hD ⊢
  have hA : ∀ q : Nat, s.heap.size ≤ q → A q := fun q h => by rw [← hAe]; exact Or.inr h
  have hS : va_S A s.heap s.heap [] := va_S.rf
  have hl := lv_entry av (n := nL) hn
  rw [lg_entry_eq]
  generalize (lg_sl av ++ List.replicate (nL - (lg_sl av).length) Slot.unset).toArray = ls at hl ⊢
  exact body p e s m below meth c A ls ⟨B.exec, B.bytes, B.returns, hml, findClass_of_methodNamed B.named, fun w hw => hE w hw _, hE, B.notSynchronized⟩ hP hK hD hS hA hl
section ZEND
variable {p : Program} {l : Launch} {e : Env} {R : Room} {s : State} {m : MethodId} {args : Array Value} {below : List Frame} {meth : Method} {c : Code} {H : Heap} {locs : List Loc} {cells slots : Nat} {Q : State → Prop}
variable {cc : ByteArray} {pc : Nat} {ls : Array Slot} {rest : List Value} {D : va_G} {cl : List vw_C} {A : Nat → Prop} {tys : List (ClassId × FieldType)} {ws w : va_W} {nL : Nat} {ret : Option FieldType} {own : String} {TB : List Cond}
theorem z_iret {P : Int32 → va_W → Prop} {r : Int32} (Z : zC p s m meth c cc nL (some .int) own args TB) (hP : va_P D cl w H) (hS : va_S A s.heap H locs) (hdg : decode cc pc = .ok (.ireturn, 1)) (ha : w.map (·.1) = ws.map (·.1)) (hp : P r w) : W p l e R s m args below meth c H locs cells slots (MQ below (va_Qi P (zB9 D cl ws) A) args s cells slots A) (F0 m pc ls [.int r]) :=
  W.iret Z.1 Z.2.1 Z.2.2.1 (fun t ht _ => ⟨⟨r, w, rfl, hp, by rw [ht]; exact hP, ha⟩, hS.F ht⟩) hS.2.2 hdg Z.2.2.2.2.2.2.2
theorem z_zret {P : Int32 → va_W → Prop} {r : Bool} (Z : zC p s m meth c cc nL (some .boolean) own args TB) (hP : va_P D cl w H) (hS : va_S A s.heap H locs) (hdg : decode cc pc = .ok (.ireturn, 1)) (ha : w.map (·.1) = ws.map (·.1)) (hp : P (bI r) w) : W p l e R s m args below meth c H locs cells slots (MQ below (va_Qi P (zB9 D cl ws) A) args s cells slots A) (F0 m pc ls [.int (bI r)]) :=
  W.zret Z.1 Z.2.1 Z.2.2.1 (by cases r <;> decide) (fun t ht _ => ⟨⟨bI r, w, rfl, hp, by rw [ht]; exact hP, ha⟩, hS.F ht⟩) hS.2.2 hdg Z.2.2.2.2.2.2.2
theorem z_lret {P : Int64 → va_W → Prop} {r : Int64} (Z : zC p s m meth c cc nL (some .long) own args TB) (hP : va_P D cl w H) (hS : va_S A s.heap H locs) (hdg : decode cc pc = .ok (.lreturn, 1)) (ha : w.map (·.1) = ws.map (·.1)) (hp : P r w) : W p l e R s m args below meth c H locs cells slots (MQ below (va_Ql P (zB9 D cl ws) A) args s cells slots A) (F0 m pc ls [.long r]) :=
  W.lret Z.1 Z.2.1 Z.2.2.1 (fun t ht _ => ⟨⟨r, w, rfl, hp, by rw [ht]; exact hP, ha⟩, hS.F ht⟩) hS.2.2 hdg Z.2.2.2.2.2.2.2
theorem z_vret {P : va_W → Prop} (Z : zC p s m meth c cc nL none own args TB) (hP : va_P D cl w H) (hS : va_S A s.heap H locs) (hdg : decode cc pc = .ok (.return_, 1)) (ha : w.map (·.1) = ws.map (·.1)) (hp : P w) : W p l e R s m args below meth c H locs cells slots (MQ below (va_Qv P (zB9 D cl ws) A) args s cells slots A) (F0 m pc ls []) :=
  W.vret Z.1 Z.2.1 Z.2.2.1 (fun t ht _ => ⟨⟨w, rfl, hp, by rw [ht]; exact hP, ha⟩, hS.F ht⟩) hS.2.2 hdg Z.2.2.2.2.2.2.2
end ZEND
end
section
section ZCALL
variable {p : Program} {l : Launch} {e : Env} {R : Room} {s : State} {m : MethodId} {args : Array Value} {below : List Frame} {meth : Method} {c : Code} {H : Heap} {locs : List Loc} {cells slots : Nat} {Q : State → Prop}
variable {cc : ByteArray} {pc : Nat} {ls : Array Slot} {rest st0 : List Value} {D : va_G} {cl : List vw_C} {A : Nat → Prop} {tys : List (ClassId × FieldType)} {ws : va_W} {nL : Nat} {ret : Option FieldType} {own : String} {TB : List Cond} {a : Array Value}
theorem z_ki {P : Int32 → va_W → Prop} (hr : va_Run p l e R s m args below meth c H locs cells slots 0 0 (F0 m pc ls st0) rest (va_Qi P (zB9 D cl ws) (va_A ws H.size) a) (va_A ws H.size)) (hD : va_D A ws) (hS : va_S A s.heap H locs) (hA : ∀ q : Nat, s.heap.size ≤ q → A q)
    (kk : ∀ (r : Int32) (w : va_W) (H1 : Heap) (locs1 : List Loc), P r w → va_P D cl w H1 → va_D A w → va_S A s.heap H1 locs1 → W p l e R s m args below meth c H1 locs1 cells slots Q (F0 m (pc + 3) ls (.int r :: rest))) : W p l e R s m args below meth c H locs cells slots Q (F0 m pc ls st0) :=
  va_calli hr hS (fun q _ h => zfree hD hS hA q h) (zfree hD hS hA) (fun r w t H1 locs1 ht _ hp hB _ _ hS1 => kk r w H1 locs1 hp (by rw [← ht]; exact hB.1) (zD_same hB.2 hD) hS1)
theorem z_kl {P : Int64 → va_W → Prop} (hr : va_Run p l e R s m args below meth c H locs cells slots 0 0 (F0 m pc ls st0) rest (va_Ql P (zB9 D cl ws) (va_A ws H.size) a) (va_A ws H.size)) (hD : va_D A ws) (hS : va_S A s.heap H locs) (hA : ∀ q : Nat, s.heap.size ≤ q → A q)
    (kk : ∀ (r : Int64) (w : va_W) (H1 : Heap) (locs1 : List Loc), P r w → va_P D cl w H1 → va_D A w → va_S A s.heap H1 locs1 → W p l e R s m args below meth c H1 locs1 cells slots Q (F0 m (pc + 3) ls (.long r :: rest))) : W p l e R s m args below meth c H locs cells slots Q (F0 m pc ls st0) :=
  va_calll hr hS (fun q _ h => zfree hD hS hA q h) (zfree hD hS hA) (fun r w t H1 locs1 ht _ hp hB _ _ hS1 => kk r w H1 locs1 hp (by rw [← ht]; exact hB.1) (zD_same hB.2 hD) hS1)
theorem z_kv {P : va_W → Prop} (hr : va_Run p l e R s m args below meth c H locs cells slots 0 0 (F0 m pc ls st0) rest (va_Qv P (zB9 D cl ws) (va_A ws H.size) a) (va_A ws H.size)) (hD : va_D A ws) (hS : va_S A s.heap H locs) (hA : ∀ q : Nat, s.heap.size ≤ q → A q)
    (kk : ∀ (w : va_W) (H1 : Heap) (locs1 : List Loc), P w → va_P D cl w H1 → va_D A w → va_S A s.heap H1 locs1 → W p l e R s m args below meth c H1 locs1 cells slots Q (F0 m (pc + 3) ls rest)) : W p l e R s m args below meth c H locs cells slots Q (F0 m pc ls st0) :=
  va_callv hr hS (fun q _ h => zfree hD hS hA q h) (zfree hD hS hA) (fun w t H1 locs1 ht _ hp hB _ _ hS1 => kk w H1 locs1 hp (by rw [← ht]; exact hB.1) (zD_same hB.2 hD) hS1)
theorem zgood {TB : List Cond} {y : MethodName} {b : ByteArray} {nY : Nat} {rY : Option FieldType} (h : Cond.code y b nY rY ∈ TB) : GoodIn TB [.code y b nY rY] := fun w hw => by
  rw [List.mem_singleton.mp hw]
  exact ⟨h, Or.inl rfl⟩
abbrev zdY (y : MethodName) (n : Nat) : Prop := y.cls ≠ "java/lang/invoke/MethodHandle" ∧ y.cls ≠ "java/lang/invoke/VarHandle" ∧ (parseMethodDescriptor y.desc).map (fun d => d.parameters.length) = some n
abbrev zwS (TB : List Cond) (own : String) (idx : Nat) (y : MethodName) (b : ByteArray) (nY : Nat) (rY : Option FieldType) : Prop := Cond.methodLink own idx y ∈ TB ∧ Cond.static y ∈ TB ∧ Cond.initialized y.cls ∈ TB ∧ Cond.code y b nY rY ∈ TB
abbrev zwV (TB : List Cond) (own : String) (idx : Nat) (y : MethodName) (b : ByteArray) (nY : Nat) (rY : Option FieldType) : Prop := Cond.methodLink own idx y ∈ TB ∧ Cond.instanceMethod y ∈ TB ∧ Cond.selects y.cls y y ∈ TB ∧ Cond.initialized y.cls ∈ TB ∧ Cond.code y b nY rY ∈ TB
abbrev zwVN (TB : List Cond) (own : String) (idx : Nat) (y : MethodName) (host : String) (b : ByteArray) (nY : Nat) (rY : Option FieldType) : Prop := Cond.methodLinkNest own idx y host ∈ TB ∧ Cond.instanceMethod y ∈ TB ∧ Cond.selects y.cls y y ∈ TB ∧ Cond.initialized y.cls ∈ TB ∧ Cond.code y b nY rY ∈ TB
abbrev zwSN (TB : List Cond) (own : String) (idx : Nat) (y : MethodName) (host : String) (b : ByteArray) (nY : Nat) (rY : Option FieldType) : Prop := Cond.methodLinkNest own idx y host ∈ TB ∧ Cond.static y ∈ TB ∧ Cond.initialized y.cls ∈ TB ∧ Cond.code y b nY rY ∈ TB
theorem zpre (hz : zsts TB) (Z : zC p s m meth c cc nL ret own args TB) {av : List Value} (hP : va_P D cl ws H) (hK : va_K D cl tys s) (hD : va_D A ws) : ∀ U : State, U.heap = H → s.WarmedH U.vm → zPc TB D cl tys av ws H.size av.toArray U :=
  fun U hU hW => ⟨rfl, by rw [hU], zE.warm hz hW Z.2.2.2.2.2.2.1, by rw [hU]; exact hP, va_K.moved hW.alike hK, hD.weaken (fun _ _ _ _ => trivial)⟩
theorem z_runS {y : MethodName} {b : ByteArray} {nY fr lo idx : Nat} {rY : Option FieldType} {As : List Value} {Qc : Nat → Array Value → State → Outcome → State → Prop} (hz : zsts TB) (Z : zC p s m meth c cc nL ret own args TB)
    (hM : ∀ sz, Met l y [.code y b nY rY] (zRm fr lo) (zPc TB D cl tys As ws sz) (Qc sz) 0 0 (va_A ws sz)) (hw : zwS TB own idx y b nY rY) (hd : zdY y As.length) (hR : fr + 1 ≤ R.frames ∧ 8 + (nY + 11) + lo ≤ R.locals) (hP : va_P D cl ws H) (hK : va_K D cl tys s) (hD : va_D A ws)
    (hsize : ls.size = nL) (hstack : st0 = As.reverse ++ rest) (hroom : (rest.map fun v => v.category).sum ≤ 8) (hdg : decode cc pc = .ok (.invokestatic idx, 3)) (hf : cells + 0 ≤ R.cells ∧ slots + 0 ≤ R.slots) :
    va_Run p l e R s m args below meth c H locs cells slots 0 0 (F0 m pc ls st0) rest (Qc H.size As.toArray) (va_A ws H.size) :=
  va_runS (g := F0 m pc ls st0) ⟨Z.1, Z.2.1, Z.2.2.2.1, Z.2.2.2.2.1, Z.2.2.2.2.2.1⟩ (hM H.size) ⟨callB_of As.length Z.2.2.2.2.2.1 (zgood hw.2.2.2) rfl rfl rfl (Z.2.2.2.2.2.1 _ hw.2.2.1) (Z.2.2.2.2.2.1 _ hw.1) hd hR, Z.2.2.2.2.2.1 _ hw.2.1⟩ ⟨zPc_blind hz, zpre hz Z hP hK hD⟩ rfl rfl hsize hstack (lv_room hroom) hdg hf
theorem z_runV {y : MethodName} {b : ByteArray} {nY fr lo idx q0 ci b0 : Nat} {rY : Option FieldType} {As : List Value} {Qc : Nat → Array Value → State → Outcome → State → Prop} {q : vw_C} {fs : List Value} (hz : zsts TB) (Z : zC p s m meth c cc nL ret own args TB)
    (hM : ∀ sz, Met l y [.code y b nY rY] (zRm fr lo) (zPc TB D cl tys (.ref b0 :: As) ws sz) (Qc sz) 0 0 (va_A ws sz)) (hw : zwV TB own idx y b nY rY) (hd : zdY y As.length) (hR : fr + 1 ≤ R.frames ∧ 8 + (nY + 11) + lo ≤ R.locals) (hP : va_P D cl ws H) (hK : va_K D cl tys s) (hD : va_D A ws)
    (hc : cl[ci]? = some q) (hcq : q.1 = y.cls) (he : ws[q0]? = some (b0, .inr (ci, fs)))
    (hsize : ls.size = nL) (hstack : st0 = As.reverse ++ .ref b0 :: rest) (hroom : (rest.map fun v => v.category).sum ≤ 8) (hdg : decode cc pc = .ok (.invokevirtual idx, 3)) (hf : cells + 0 ≤ R.cells ∧ slots + 0 ≤ R.slots) :
    va_Run p l e R s m args below meth c H locs cells slots 0 0 (F0 m pc ls st0) rest (Qc H.size (Value.ref b0 :: As).toArray) (va_A ws H.size) :=
  va_runV (g := F0 m pc ls st0) (C := y.cls) ⟨Z.1, Z.2.1, Z.2.2.2.1, Z.2.2.2.2.1, Z.2.2.2.2.2.1⟩ (hM H.size) ⟨callB_of As.length Z.2.2.2.2.2.1 (zgood hw.2.2.2.2) rfl rfl rfl (Z.2.2.2.2.2.1 _ hw.2.2.2.1) (Z.2.2.2.2.2.1 _ hw.1) hd hR, Z.2.2.2.2.2.1 _ hw.2.1, Z.2.2.2.2.2.1 _ hw.2.2.1⟩ ⟨zPc_blind hz, by rw [← hcq]; exact va_recv hK hP hc he, zpre hz Z hP hK hD⟩ rfl rfl hsize hstack (lv_room hroom) hdg hf
theorem zCN {y : MethodName} {b : ByteArray} {nY fr lo idx n : Nat} {rY : Option FieldType} {host : String} (Z : zC p s m meth c cc nL ret own args TB) (hlink : Cond.methodLinkNest own idx y host ∈ TB) (hini : Cond.initialized y.cls ∈ TB) (hco : Cond.code y b nY rY ∈ TB) (hd : zdY y n) (hR : fr + 1 ≤ R.frames ∧ 8 + (nY + 11) + lo ≤ R.locals) : va_CN R s args own idx y host b nY rY [.code y b nY rY] (zRm fr lo) 0 0 n :=
  va_cnB n Z.2.2.2.2.2.1 (zgood hco) rfl rfl rfl (va_Nw.of rfl (Z.2.2.2.2.2.1 _ hlink)) (Z.2.2.2.2.2.1 _ hini) hd hR
theorem z_runVN {y : MethodName} {b : ByteArray} {nY fr lo idx q0 ci b0 : Nat} {rY : Option FieldType} {host : String} {As : List Value} {Qc : Nat → Array Value → State → Outcome → State → Prop} {q : vw_C} {fs : List Value} (hz : zsts TB) (Z : zC p s m meth c cc nL ret own args TB)
    (hM : ∀ sz, Met l y [.code y b nY rY] (zRm fr lo) (zPc TB D cl tys (.ref b0 :: As) ws sz) (Qc sz) 0 0 (va_A ws sz)) (hw : zwVN TB own idx y host b nY rY) (hd : zdY y As.length) (hR : fr + 1 ≤ R.frames ∧ 8 + (nY + 11) + lo ≤ R.locals) (hP : va_P D cl ws H) (hK : va_K D cl tys s) (hD : va_D A ws)
    (hc : cl[ci]? = some q) (hcq : q.1 = y.cls) (he : ws[q0]? = some (b0, .inr (ci, fs)))
    (hsize : ls.size = nL) (hstack : st0 = As.reverse ++ .ref b0 :: rest) (hroom : (rest.map fun v => v.category).sum ≤ 8) (hdg : decode cc pc = .ok (.invokevirtual idx, 3)) (hf : cells + 0 ≤ R.cells ∧ slots + 0 ≤ R.slots) :
    va_Run p l e R s m args below meth c H locs cells slots 0 0 (F0 m pc ls st0) rest (Qc H.size (Value.ref b0 :: As).toArray) (va_A ws H.size) :=
  va_runVN (g := F0 m pc ls st0) (C := y.cls) ⟨Z.1, Z.2.1, Z.2.2.2.1, Z.2.2.2.2.1, Z.2.2.2.2.2.1⟩ (hM H.size) ⟨zCN Z hw.1 hw.2.2.2.1 hw.2.2.2.2 hd hR, Z.2.2.2.2.2.1 _ hw.2.1, Z.2.2.2.2.2.1 _ hw.2.2.1⟩ ⟨zPc_blind hz, by rw [← hcq]; exact va_recv hK hP hc he, zpre hz Z hP hK hD⟩ rfl rfl hsize hstack (lv_room hroom) hdg hf
theorem z_runSN {y : MethodName} {b : ByteArray} {nY fr lo idx : Nat} {rY : Option FieldType} {host : String} {As : List Value} {Qc : Nat → Array Value → State → Outcome → State → Prop} (hz : zsts TB) (Z : zC p s m meth c cc nL ret own args TB)
    (hM : ∀ sz, Met l y [.code y b nY rY] (zRm fr lo) (zPc TB D cl tys As ws sz) (Qc sz) 0 0 (va_A ws sz)) (hw : zwSN TB own idx y host b nY rY) (hd : zdY y As.length) (hR : fr + 1 ≤ R.frames ∧ 8 + (nY + 11) + lo ≤ R.locals) (hP : va_P D cl ws H) (hK : va_K D cl tys s) (hD : va_D A ws)
    (hsize : ls.size = nL) (hstack : st0 = As.reverse ++ rest) (hroom : (rest.map fun v => v.category).sum ≤ 8) (hdg : decode cc pc = .ok (.invokestatic idx, 3)) (hf : cells + 0 ≤ R.cells ∧ slots + 0 ≤ R.slots) :
    va_Run p l e R s m args below meth c H locs cells slots 0 0 (F0 m pc ls st0) rest (Qc H.size As.toArray) (va_A ws H.size) :=
  va_runSN (g := F0 m pc ls st0) ⟨Z.1, Z.2.1, Z.2.2.2.1, Z.2.2.2.2.1, Z.2.2.2.2.2.1⟩ (hM H.size) ⟨zCN Z hw.1 hw.2.2.1 hw.2.2.2 hd hR, Z.2.2.2.2.2.1 _ hw.2.1, trivial⟩ ⟨zPc_blind hz, zpre hz Z hP hK hD⟩ rfl rfl hsize hstack (lv_room hroom) hdg hf
end ZCALL
/-! Methods that only read: the heap is as it was. -/
def zPr (TB : List Cond) (D : va_G) (cl : List vw_C) (tys : List (ClassId × FieldType)) (av : List Value) (ws : va_W) : Array Value → State → Prop :=
  va_Pc av (fun U => zE TB U ∧ va_P D cl ws U.heap ∧ va_K D cl tys U)
theorem zPr_blind {TB : List Cond} (hz : zsts TB) {D : va_G} {cl : List vw_C} {tys : List (ClassId × FieldType)} {av : List Value} {ws : va_W} : FrameBlind (zPr TB D cl tys av ws) := fun a U g mk q => by
  obtain ⟨q0, qE, qP, qK⟩ := q
  exact ⟨q0, qE.warm (U := U.calling g mk a) hz (State.WarmedH.refl U), qP, va_K.moved (u := U) (U := U.calling g mk a) (Vm.Alike.refl U.vm) qK⟩
def zQr (v : Option Value) : Array Value → State → Outcome → State → Prop := fun _ st o t => o = .returned v ∧ t.heap = st.heap
def zMr (l : Launch) (TB : List Cond) (D : va_G) (cl : List vw_C) (tys : List (ClassId × FieldType)) (y : MethodName) (cw : Cond) (fr lo : Nat) (av : List Value) (ws : va_W) (v : Option Value) : Prop :=
  Met l y [cw] (zRm fr lo) (zPr TB D cl tys av ws) (zQr v) 0 0 (fun _ => False)
abbrev zBodyR (l : Launch) (TB : List Cond) (D : va_G) (cl : List vw_C) (tys : List (ClassId × FieldType)) (y : MethodName) (b : ByteArray) (nL : Nat) (ret : Option FieldType) (fr lo : Nat) (av : List Value) (ws : va_W) (v : Option Value) : Prop :=
  ∀ (p : Program) (e : Env) (s : State) (m : MethodId) (below : List Frame) (meth : Method) (c : Code) (ls : Array Slot), zC p s m meth c b nL ret y.cls av.toArray TB → va_P D cl ws s.heap → va_K D cl tys s → lv_has ls nL (lv_args 0 av) →
    W p l e (zRm fr lo) s m av.toArray below meth c s.heap [] 0 0 (MQ below (zQr v) av.toArray s 0 0 (fun _ => False)) (F0 m 0 ls [])
theorem z_ofR {l : Launch} {TB : List Cond} {D : va_G} {cl : List vw_C} {tys : List (ClassId × FieldType)} {y : MethodName} {b : ByteArray} {nL fr lo : Nat} {ret : Option FieldType} {av : List Value} {ws : va_W} {v : Option Value} (hy : plainName y.cls = true) (hn : (lg_sl av).length ≤ nL)
    (body : zBodyR l TB D cl tys y b nL ret fr lo av ws v) : zMr l TB D cl tys y (.code y b nL ret) fr lo av ws v := by
  refine Met.ofW (cc := b) (maxL := nL) (ret := ret) hy rfl ?_
  intro p e s m args below meth c s₁ B hml hv
  obtain ⟨rfl, hE, hP, hK⟩ := hv
  have hl := lv_entry av (n := nL) hn
  rw [lg_entry_eq]
  generalize (lg_sl av ++ List.replicate (nL - (lg_sl av).length) Slot.unset).toArray = ls at hl ⊢
  exact body p e s m below meth c ls ⟨B.exec, B.bytes, B.returns, hml, findClass_of_methodNamed B.named, fun w hw => hE w hw _, hE, B.notSynchronized⟩ hP hK hl
section ZRD
variable {p : Program} {l : Launch} {e : Env} {R : Room} {s : State} {m : MethodId} {args : Array Value} {below : List Frame} {meth : Method} {c : Code} {H : Heap} {locs : List Loc} {cells slots : Nat} {Q : State → Prop}
variable {cc : ByteArray} {pc : Nat} {ls : Array Slot} {rest st0 : List Value} {D : va_G} {cl : List vw_C} {tys : List (ClassId × FieldType)} {ws : va_W} {nL : Nat} {ret : Option FieldType} {own : String} {TB : List Cond} {a : Array Value} {v : Option Value}
theorem z_iretR {r : Int32} (Z : zC p s m meth c cc nL (some .int) own args TB) (hdg : decode cc pc = .ok (.ireturn, 1)) (hv : some (.int r) = v) : W p l e R s m args below meth c s.heap [] 0 0 (MQ below (zQr v) args s 0 0 (fun _ => False)) (F0 m pc ls [.int r]) :=
  W.iret Z.1 Z.2.1 Z.2.2.1 (fun t ht _ => ⟨by rw [hv], ht⟩) (fun q h => nomatch h) hdg Z.2.2.2.2.2.2.2
theorem z_zretR {r : Bool} (Z : zC p s m meth c cc nL (some .boolean) own args TB) (hdg : decode cc pc = .ok (.ireturn, 1)) (hv : some (.int (bI r)) = v) : W p l e R s m args below meth c s.heap [] 0 0 (MQ below (zQr v) args s 0 0 (fun _ => False)) (F0 m pc ls [.int (bI r)]) :=
  W.zret Z.1 Z.2.1 Z.2.2.1 (by cases r <;> decide) (fun t ht _ => ⟨by rw [hv], ht⟩) (fun q h => nomatch h) hdg Z.2.2.2.2.2.2.2
theorem z_lretR {r : Int64} (Z : zC p s m meth c cc nL (some .long) own args TB) (hdg : decode cc pc = .ok (.lreturn, 1)) (hv : some (.long r) = v) : W p l e R s m args below meth c s.heap [] 0 0 (MQ below (zQr v) args s 0 0 (fun _ => False)) (F0 m pc ls [.long r]) :=
  W.lret Z.1 Z.2.1 Z.2.2.1 (fun t ht _ => ⟨by rw [hv], ht⟩) (fun q h => nomatch h) hdg Z.2.2.2.2.2.2.2
theorem z_vretR (Z : zC p s m meth c cc nL none own args TB) (hdg : decode cc pc = .ok (.return_, 1)) (hv : none = v) : W p l e R s m args below meth c s.heap [] 0 0 (MQ below (zQr v) args s 0 0 (fun _ => False)) (F0 m pc ls []) :=
  W.vret Z.1 Z.2.1 Z.2.2.1 (fun t ht _ => ⟨by rw [hv], ht⟩) (fun q h => nomatch h) hdg Z.2.2.2.2.2.2.2
theorem z_kr (hr : CallRun p l e R s m args below meth c H locs cells slots 0 0 (F0 m pc ls st0) rest (zQr v a) (fun _ => False)) (kk : W p l e R s m args below meth c H locs cells slots Q (F0 m (pc + 3) ls (v.toList ++ rest))) : W p l e R s m args below meth c H locs cells slots Q (F0 m pc ls st0) := by
  intro T hT X
  obtain ⟨v', st₀, t, T', L, h0, X', hL, e1, ⟨hv, hh⟩, st⟩ := hr T hT X
  cases hv
  obtain ⟨t2, a1, b1⟩ := kk T' (by rw [e1, hh, h0]) (Stand.forget X' (fun q h => (hL q h).elim))
  exact ⟨t2, st t2 a1, b1⟩
theorem zpreR (hz : zsts TB) (Z : zC p s m meth c cc nL ret own args TB) {av : List Value} (hP : va_P D cl ws H) (hK : va_K D cl tys s) : ∀ U : State, U.heap = H → s.WarmedH U.vm → zPr TB D cl tys av ws av.toArray U :=
  fun U hU hW => ⟨rfl, zE.warm hz hW Z.2.2.2.2.2.2.1, by rw [hU]; exact hP, va_K.moved hW.alike hK⟩
theorem z_callSR {y : MethodName} {b : ByteArray} {nY fr lo idx : Nat} {rY : Option FieldType} {As : List Value} (hz : zsts TB) (Z : zC p s m meth c cc nL ret own args TB)
    (hM : zMr l TB D cl tys y (.code y b nY rY) fr lo As ws v) (hw : zwS TB own idx y b nY rY) (hd : zdY y As.length) (hR : fr + 1 ≤ R.frames ∧ 8 + (nY + 11) + lo ≤ R.locals) (hP : va_P D cl ws H) (hK : va_K D cl tys s)
    (hsize : ls.size = nL) (hstack : st0 = As.reverse ++ rest) (hroom : (rest.map fun v => v.category).sum ≤ 8) (hdg : decode cc pc = .ok (.invokestatic idx, 3)) (hf : cells + 0 ≤ R.cells ∧ slots + 0 ≤ R.slots)
    (kk : W p l e R s m args below meth c H locs cells slots Q (F0 m (pc + 3) ls (v.toList ++ rest))) : W p l e R s m args below meth c H locs cells slots Q (F0 m pc ls st0) :=
  z_kr (va_runS (g := F0 m pc ls st0) ⟨Z.1, Z.2.1, Z.2.2.2.1, Z.2.2.2.2.1, Z.2.2.2.2.2.1⟩ hM ⟨callB_of As.length Z.2.2.2.2.2.1 (zgood hw.2.2.2) rfl rfl rfl (Z.2.2.2.2.2.1 _ hw.2.2.1) (Z.2.2.2.2.2.1 _ hw.1) hd hR, Z.2.2.2.2.2.1 _ hw.2.1⟩ ⟨zPr_blind hz, zpreR hz Z hP hK⟩ rfl rfl hsize hstack (lv_room hroom) hdg hf).run kk
theorem z_callVR {y : MethodName} {b : ByteArray} {nY fr lo idx q0 ci b0 : Nat} {rY : Option FieldType} {As : List Value} {q : vw_C} {fs : List Value} (hz : zsts TB) (Z : zC p s m meth c cc nL ret own args TB)
    (hM : zMr l TB D cl tys y (.code y b nY rY) fr lo (.ref b0 :: As) ws v) (hw : zwV TB own idx y b nY rY) (hd : zdY y As.length) (hR : fr + 1 ≤ R.frames ∧ 8 + (nY + 11) + lo ≤ R.locals) (hP : va_P D cl ws H) (hK : va_K D cl tys s)
    (hc : cl[ci]? = some q) (hcq : q.1 = y.cls) (he : ws[q0]? = some (b0, .inr (ci, fs)))
    (hsize : ls.size = nL) (hstack : st0 = As.reverse ++ .ref b0 :: rest) (hroom : (rest.map fun v => v.category).sum ≤ 8) (hdg : decode cc pc = .ok (.invokevirtual idx, 3)) (hf : cells + 0 ≤ R.cells ∧ slots + 0 ≤ R.slots)
    (kk : W p l e R s m args below meth c H locs cells slots Q (F0 m (pc + 3) ls (v.toList ++ rest))) : W p l e R s m args below meth c H locs cells slots Q (F0 m pc ls st0) :=
  z_kr (va_runV (g := F0 m pc ls st0) (C := y.cls) ⟨Z.1, Z.2.1, Z.2.2.2.1, Z.2.2.2.2.1, Z.2.2.2.2.2.1⟩ hM ⟨callB_of As.length Z.2.2.2.2.2.1 (zgood hw.2.2.2.2) rfl rfl rfl (Z.2.2.2.2.2.1 _ hw.2.2.2.1) (Z.2.2.2.2.2.1 _ hw.1) hd hR, Z.2.2.2.2.2.1 _ hw.2.1, Z.2.2.2.2.2.1 _ hw.2.2.1⟩ ⟨zPr_blind hz, by rw [← hcq]; exact va_recv hK hP hc he, zpreR hz Z hP hK⟩ rfl rfl hsize hstack (lv_room hroom) hdg hf).run kk
theorem z_callVNR {y : MethodName} {b : ByteArray} {nY fr lo idx q0 ci b0 : Nat} {rY : Option FieldType} {host : String} {As : List Value} {q : vw_C} {fs : List Value} (hz : zsts TB) (Z : zC p s m meth c cc nL ret own args TB)
    (hM : zMr l TB D cl tys y (.code y b nY rY) fr lo (.ref b0 :: As) ws v) (hw : zwVN TB own idx y host b nY rY) (hd : zdY y As.length) (hR : fr + 1 ≤ R.frames ∧ 8 + (nY + 11) + lo ≤ R.locals) (hP : va_P D cl ws H) (hK : va_K D cl tys s)
    (hc : cl[ci]? = some q) (hcq : q.1 = y.cls) (he : ws[q0]? = some (b0, .inr (ci, fs)))
    (hsize : ls.size = nL) (hstack : st0 = As.reverse ++ .ref b0 :: rest) (hroom : (rest.map fun v => v.category).sum ≤ 8) (hdg : decode cc pc = .ok (.invokevirtual idx, 3)) (hf : cells + 0 ≤ R.cells ∧ slots + 0 ≤ R.slots)
    (kk : W p l e R s m args below meth c H locs cells slots Q (F0 m (pc + 3) ls (v.toList ++ rest))) : W p l e R s m args below meth c H locs cells slots Q (F0 m pc ls st0) :=
  z_kr (va_runVN (g := F0 m pc ls st0) (C := y.cls) ⟨Z.1, Z.2.1, Z.2.2.2.1, Z.2.2.2.2.1, Z.2.2.2.2.2.1⟩ hM ⟨zCN Z hw.1 hw.2.2.2.1 hw.2.2.2.2 hd hR, Z.2.2.2.2.2.1 _ hw.2.1, Z.2.2.2.2.2.1 _ hw.2.2.1⟩ ⟨zPr_blind hz, by rw [← hcq]; exact va_recv hK hP hc he, zpreR hz Z hP hK⟩ rfl rfl hsize hstack (lv_room hroom) hdg hf).run kk
end ZRD
end
