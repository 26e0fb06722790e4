/-! The law's cases. -/
theorem lc_haul {p : Program} {l : Launch} {e : Env} {s : State} {m : MethodId} {below : List Frame} {meth : Method} {c : Code} {Q : State → Prop} {sb L : Nat} {xs : Nat → Int32} {D : va_G} {A : Nat → Prop} {ad : Nat → Nat} {cI cZ cL : ClassId} {J : SJ} {rd : Nat → Int} {pr : Nat → Nat} {G : SH} {K : SK} {M : SM} {ov : Nat → Int64} {H : Heap} {locs : List Loc} {cells slots i : Nat} {ls : Array Slot} (X : LX p l s m meth c sb L xs D cI cZ cL A) (hLI : LI J rd pr M) (hi : i + 4 < L) (hc : cells + 1 ≤ 1061 ∧ slots + 6 ≤ 9679) (hP : va_P D classes (wdC ad cI cZ cL J rd pr G K (wdM ad cI cZ cL J rd pr M ov)) H) (hD : va_D A (wdC ad cI cZ cL J rd pr G K (wdM ad cI cZ cL J rd pr M ov))) (hS : va_S A s.heap H locs) (hl : lv_has ls 8 (lwL ad sb i)) (kk : LK p l e s m below meth c Q sb D A ad cI cZ cL i (cells + 1) (slots + 6)) : W p l e room_1 s m #[Value.ref sb] below meth c H locs cells slots Q (F0 m 152 ls []) := by
  obtain ⟨hI, hM, hR, hpq⟩ := id hLI
  have hn32 := hI.1
  obtain ⟨a1, hz1, ha1⟩ := iZ_ex (xs (i + 1))
  by_cases w1 : a1 < 0 ∨ 4 ≤ a1
  · exact lf_haul_x1 X hLI hi hc (a := a1) (by omega) ha1 hP hD hS hl kk
  obtain ⟨sh, rfl⟩ : ∃ n9 : Nat, a1 = ((n9 : Nat) : Int) := ⟨a1.toNat, by omega⟩
  have hsh : sh < 4 := by omega
  by_cases w2 : jn J = 32
  · exact lf_haul_x2 X hLI hi hc (sh := sh) hsh w2 ha1 hP hD hS hl kk
  have hMO := hM.2.1 sh hsh
  by_cases w3 : mmy M sh % 2 = 0
  · exact lf_haul_1 X hLI hi hc (sh := sh) hsh (by omega) (hMO.1 w3) w3 ha1 hP hD hS hl kk
  have ho : mmy M sh % 2 = 1 := by omega
  have hk9 := MJ_o hM hsh ho
  obtain ⟨g1, g2, g3⟩ := hMO.2.1 ho
  exact lf_haul_2 X hLI hi hc (sh := sh) hsh (by omega) (by omega) g1 (by omega) ho ha1 hP hD hS hl kk
theorem lc_caught {p : Program} {l : Launch} {e : Env} {s : State} {m : MethodId} {below : List Frame} {meth : Method} {c : Code} {Q : State → Prop} {sb L : Nat} {xs : Nat → Int32} {D : va_G} {A : Nat → Prop} {ad : Nat → Nat} {cI cZ cL : ClassId} {J : SJ} {rd : Nat → Int} {pr : Nat → Nat} {G : SH} {K : SK} {M : SM} {ov : Nat → Int64} {H : Heap} {locs : List Loc} {cells slots i : Nat} {ls : Array Slot} (X : LX p l s m meth c sb L xs D cI cZ cL A) (hLI : LI J rd pr M) (hi : i + 4 < L) (hc : cells + 1 ≤ 1061 ∧ slots + 6 ≤ 9679) (hP : va_P D classes (wdC ad cI cZ cL J rd pr G K (wdM ad cI cZ cL J rd pr M ov)) H) (hD : va_D A (wdC ad cI cZ cL J rd pr G K (wdM ad cI cZ cL J rd pr M ov))) (hS : va_S A s.heap H locs) (hl : lv_has ls 8 (lwL ad sb i)) (kk : LK p l e s m below meth c Q sb D A ad cI cZ cL i (cells + 1) (slots + 6)) : W p l e room_1 s m #[Value.ref sb] below meth c H locs cells slots Q (F0 m 208 ls []) := by
  obtain ⟨hI, hM, hR, hpq⟩ := id hLI
  have hn32 := hI.1
  have hk32 := hI.2.1
  obtain ⟨a1, hz1, ha1⟩ := iZ_ex (xs (i + 1))
  obtain ⟨a2, hz2, ha2⟩ := iZ_ex (xs (i + 2))
  obtain ⟨a3, hz3, ha3⟩ := iZ_ex (xs (i + 3))
  by_cases w7 : a1 < 0 ∨ ((jn J : Nat) : Int) ≤ a1
  · exact lf_caught_x1 X hLI hi hc (a := a1) (b := a2) (c9 := a3) (by omega) (by omega) ha1 ha2 ha3 hP hD hS hl kk
  obtain ⟨h, rfl⟩ : ∃ n9 : Nat, a1 = ((n9 : Nat) : Int) := ⟨a1.toNat, by omega⟩
  by_cases w10 : a2 < 0 ∨ 3 ≤ a2
  · exact lf_caught_x2 X hLI hi hc (h := h) (b := a2) (c9 := a3) (by omega) (by omega) ha1 ha2 ha3 hP hD hS hl kk
  obtain ⟨kd, rfl⟩ : ∃ n9 : Nat, a2 = ((n9 : Nat) : Int) := ⟨a2.toNat, by omega⟩
  by_cases w13 : a3 < 0 ∨ 1000 < a3
  · exact lf_caught_x3 X hLI hi hc (h := h) (kd := kd) (c9 := a3) (by omega) (by omega) (by omega) ha1 ha2 ha3 hP hD hS hl kk
  obtain ⟨v, rfl⟩ : ∃ n9 : Nat, a3 = ((n9 : Nat) : Int) := ⟨a3.toNat, by omega⟩
  exact lf_caught_0 X hLI hi hc (h := h) (kd := kd) (v := v) (by omega) (by omega) (by omega) ha1 ha2 ha3 hP hD hS hl kk
theorem lc_out {p : Program} {l : Launch} {e : Env} {s : State} {m : MethodId} {below : List Frame} {meth : Method} {c : Code} {Q : State → Prop} {sb L : Nat} {xs : Nat → Int32} {D : va_G} {A : Nat → Prop} {ad : Nat → Nat} {cI cZ cL : ClassId} {J : SJ} {rd : Nat → Int} {pr : Nat → Nat} {G : SH} {K : SK} {M : SM} {ov : Nat → Int64} {H : Heap} {locs : List Loc} {cells slots i : Nat} {ls : Array Slot} (X : LX p l s m meth c sb L xs D cI cZ cL A) (hLI : LI J rd pr M) (hi : i + 4 < L) (hc : cells + 1 ≤ 1061 ∧ slots + 6 ≤ 9679) (hP : va_P D classes (wdC ad cI cZ cL J rd pr G K (wdM ad cI cZ cL J rd pr M ov)) H) (hD : va_D A (wdC ad cI cZ cL J rd pr G K (wdM ad cI cZ cL J rd pr M ov))) (hS : va_S A s.heap H locs) (hl : lv_has ls 8 (lwL ad sb i)) (kk : LK p l e s m below meth c Q sb D A ad cI cZ cL i (cells + 1) (slots + 6)) : W p l e room_1 s m #[Value.ref sb] below meth c H locs cells slots Q (F0 m 295 ls []) := by
  obtain ⟨a1, hz1, ha1⟩ := iZ_ex (xs (i + 1))
  obtain ⟨a2, hz2, ha2⟩ := iZ_ex (xs (i + 2))
  by_cases w1 : a1 < 0 ∨ 4 ≤ a1
  · by_cases w2 : a2 = 0
    · exact lf_out_x1false X hLI hi hc (a := a1) (a2 := a2) (by omega) (by omega) ha1 ha2 hP hD hS hl kk
    · exact lf_out_x1true X hLI hi hc (a := a1) (a2 := a2) (by omega) (by omega) ha1 ha2 hP hD hS hl kk
  obtain ⟨sh, rfl⟩ : ∃ n9 : Nat, a1 = ((n9 : Nat) : Int) := ⟨a1.toNat, by omega⟩
  by_cases w2 : a2 = 0
  · exact lf_out_0false X hLI hi hc (sh := sh) (a2 := a2) (by omega) (by omega) ha1 ha2 hP hD hS hl kk
  · exact lf_out_0true X hLI hi hc (sh := sh) (a2 := a2) (by omega) (by omega) ha1 ha2 hP hD hS hl kk
theorem lc_arm {p : Program} {l : Launch} {e : Env} {s : State} {m : MethodId} {below : List Frame} {meth : Method} {c : Code} {Q : State → Prop} {sb L : Nat} {xs : Nat → Int32} {D : va_G} {A : Nat → Prop} {ad : Nat → Nat} {cI cZ cL : ClassId} {J : SJ} {rd : Nat → Int} {pr : Nat → Nat} {G : SH} {K : SK} {M : SM} {ov : Nat → Int64} {H : Heap} {locs : List Loc} {cells slots i : Nat} {ls : Array Slot} (X : LX p l s m meth c sb L xs D cI cZ cL A) (hLI : LI J rd pr M) (hi : i + 4 < L) (hc : cells + 1 ≤ 1061 ∧ slots + 6 ≤ 9679) (hP : va_P D classes (wdC ad cI cZ cL J rd pr G K (wdM ad cI cZ cL J rd pr M ov)) H) (hD : va_D A (wdC ad cI cZ cL J rd pr G K (wdM ad cI cZ cL J rd pr M ov))) (hS : va_S A s.heap H locs) (hl : lv_has ls 8 (lwL ad sb i)) (kk : LK p l e s m below meth c Q sb D A ad cI cZ cL i (cells + 1) (slots + 6)) : W p l e room_1 s m #[Value.ref sb] below meth c H locs cells slots Q (F0 m 386 ls []) := by
  obtain ⟨hI, hM, hR, hpq⟩ := id hLI
  have hn32 := hI.1
  have hk32 := hI.2.1
  obtain ⟨a1, hz1, ha1⟩ := iZ_ex (xs (i + 1))
  by_cases w5 : a1 < 0 ∨ ((jn J : Nat) : Int) ≤ a1
  · exact lf_arm_x1 X hLI hi hc (a := a1) (by omega) ha1 hP hD hS hl kk
  obtain ⟨h, rfl⟩ : ∃ n9 : Nat, a1 = ((n9 : Nat) : Int) := ⟨a1.toNat, by omega⟩
  exact lf_arm_0 X hLI hi hc (h := h) (by omega) ha1 hP hD hS hl kk
theorem lc_pair {p : Program} {l : Launch} {e : Env} {s : State} {m : MethodId} {below : List Frame} {meth : Method} {c : Code} {Q : State → Prop} {sb L : Nat} {xs : Nat → Int32} {D : va_G} {A : Nat → Prop} {ad : Nat → Nat} {cI cZ cL : ClassId} {J : SJ} {rd : Nat → Int} {pr : Nat → Nat} {G : SH} {K : SK} {M : SM} {ov : Nat → Int64} {H : Heap} {locs : List Loc} {cells slots i : Nat} {ls : Array Slot} (X : LX p l s m meth c sb L xs D cI cZ cL A) (hLI : LI J rd pr M) (hi : i + 4 < L) (hc : cells + 1 ≤ 1061 ∧ slots + 6 ≤ 9679) (hP : va_P D classes (wdC ad cI cZ cL J rd pr G K (wdM ad cI cZ cL J rd pr M ov)) H) (hD : va_D A (wdC ad cI cZ cL J rd pr G K (wdM ad cI cZ cL J rd pr M ov))) (hS : va_S A s.heap H locs) (hl : lv_has ls 8 (lwL ad sb i)) (kk : LK p l e s m below meth c Q sb D A ad cI cZ cL i (cells + 1) (slots + 6)) : W p l e room_1 s m #[Value.ref sb] below meth c H locs cells slots Q (F0 m 442 ls []) := by
  obtain ⟨hI, hM, hR, hpq⟩ := id hLI
  have hn32 := hI.1
  have hk32 := hI.2.1
  obtain ⟨a1, hz1, ha1⟩ := iZ_ex (xs (i + 1))
  obtain ⟨a2, hz2, ha2⟩ := iZ_ex (xs (i + 2))
  by_cases w6 : a1 < 0 ∨ ((jk J : Nat) : Int) ≤ a1
  · exact lf_pair_x1 X hLI hi hc (a := a1) (b := a2) (by omega) (by omega) ha1 ha2 hP hD hS hl kk
  obtain ⟨pp, rfl⟩ : ∃ n9 : Nat, a1 = ((n9 : Nat) : Int) := ⟨a1.toNat, by omega⟩
  by_cases w9 : a2 < 0 ∨ 3 ≤ a2
  · exact lf_pair_x2 X hLI hi hc (pp := pp) (b := a2) (by omega) (by omega) ha1 ha2 hP hD hS hl kk
  obtain ⟨wh, rfl⟩ : ∃ n9 : Nat, a2 = ((n9 : Nat) : Int) := ⟨a2.toNat, by omega⟩
  exact lf_pair_0 X hLI hi hc (pp := pp) (wh := wh) (by omega) (by omega) ha1 ha2 hP hD hS hl kk
theorem lc_difference {p : Program} {l : Launch} {e : Env} {s : State} {m : MethodId} {below : List Frame} {meth : Method} {c : Code} {Q : State → Prop} {sb L : Nat} {xs : Nat → Int32} {D : va_G} {A : Nat → Prop} {ad : Nat → Nat} {cI cZ cL : ClassId} {J : SJ} {rd : Nat → Int} {pr : Nat → Nat} {G : SH} {K : SK} {M : SM} {ov : Nat → Int64} {H : Heap} {locs : List Loc} {cells slots i : Nat} {ls : Array Slot} (X : LX p l s m meth c sb L xs D cI cZ cL A) (hLI : LI J rd pr M) (hi : i + 4 < L) (hc : cells + 1 ≤ 1061 ∧ slots + 6 ≤ 9679) (hP : va_P D classes (wdC ad cI cZ cL J rd pr G K (wdM ad cI cZ cL J rd pr M ov)) H) (hD : va_D A (wdC ad cI cZ cL J rd pr G K (wdM ad cI cZ cL J rd pr M ov))) (hS : va_S A s.heap H locs) (hl : lv_has ls 8 (lwL ad sb i)) (kk : LK p l e s m below meth c Q sb D A ad cI cZ cL i (cells + 1) (slots + 6)) : W p l e room_1 s m #[Value.ref sb] below meth c H locs cells slots Q (F0 m 523 ls []) := by
  obtain ⟨hI, hM, hR, hpq⟩ := id hLI
  have hn32 := hI.1
  have hk32 := hI.2.1
  obtain ⟨a1, hz1, ha1⟩ := iZ_ex (xs (i + 1))
  obtain ⟨a2, hz2, ha2⟩ := iZ_ex (xs (i + 2))
  by_cases w6 : a1 < 0 ∨ ((jk J : Nat) : Int) ≤ a1
  · exact lf_difference_x1 X hLI hi hc (a := a1) (b := a2) (by omega) (by omega) ha1 ha2 hP hD hS hl kk
  obtain ⟨pp, rfl⟩ : ∃ n9 : Nat, a1 = ((n9 : Nat) : Int) := ⟨a1.toNat, by omega⟩
  by_cases w9 : a2 < 0 ∨ 3 ≤ a2
  · exact lf_difference_x2 X hLI hi hc (pp := pp) (b := a2) (by omega) (by omega) ha1 ha2 hP hD hS hl kk
  obtain ⟨kd, rfl⟩ : ∃ n9 : Nat, a2 = ((n9 : Nat) : Int) := ⟨a2.toNat, by omega⟩
  exact lf_difference_0 X hLI hi hc (pp := pp) (kd := kd) (by omega) (by omega) ha1 ha2 hP hD hS hl kk
theorem lc_rank {p : Program} {l : Launch} {e : Env} {s : State} {m : MethodId} {below : List Frame} {meth : Method} {c : Code} {Q : State → Prop} {sb L : Nat} {xs : Nat → Int32} {D : va_G} {A : Nat → Prop} {ad : Nat → Nat} {cI cZ cL : ClassId} {J : SJ} {rd : Nat → Int} {pr : Nat → Nat} {G : SH} {K : SK} {M : SM} {ov : Nat → Int64} {H : Heap} {locs : List Loc} {cells slots i : Nat} {ls : Array Slot} (X : LX p l s m meth c sb L xs D cI cZ cL A) (hLI : LI J rd pr M) (hi : i + 4 < L) (hc : cells + 1 ≤ 1061 ∧ slots + 6 ≤ 9679) (hP : va_P D classes (wdC ad cI cZ cL J rd pr G K (wdM ad cI cZ cL J rd pr M ov)) H) (hD : va_D A (wdC ad cI cZ cL J rd pr G K (wdM ad cI cZ cL J rd pr M ov))) (hS : va_S A s.heap H locs) (hl : lv_has ls 8 (lwL ad sb i)) (kk : LK p l e s m below meth c Q sb D A ad cI cZ cL i (cells + 1) (slots + 6)) : W p l e room_1 s m #[Value.ref sb] below meth c H locs cells slots Q (F0 m 770 ls []) := by
  obtain ⟨hI, hM, hR, hpq⟩ := id hLI
  have hn32 := hI.1
  have hk32 := hI.2.1
  obtain ⟨a1, hz1, ha1⟩ := iZ_ex (xs (i + 1))
  obtain ⟨a2, hz2, ha2⟩ := iZ_ex (xs (i + 2))
  by_cases w6 : a1 < 0 ∨ ((jk J : Nat) : Int) ≤ a1
  · exact lf_rank_x1 X hLI hi hc (a := a1) (b := a2) (by omega) (by omega) ha1 ha2 hP hD hS hl kk
  obtain ⟨pp, rfl⟩ : ∃ n9 : Nat, a1 = ((n9 : Nat) : Int) := ⟨a1.toNat, by omega⟩
  by_cases w9 : a2 < 0 ∨ 3 ≤ a2
  · exact lf_rank_x2 X hLI hi hc (pp := pp) (b := a2) (by omega) (by omega) ha1 ha2 hP hD hS hl kk
  obtain ⟨kd, rfl⟩ : ∃ n9 : Nat, a2 = ((n9 : Nat) : Int) := ⟨a2.toNat, by omega⟩
  exact lf_rank_0 X hLI hi hc (pp := pp) (kd := kd) (by omega) (by omega) ha1 ha2 hP hD hS hl kk
theorem lc_kept {p : Program} {l : Launch} {e : Env} {s : State} {m : MethodId} {below : List Frame} {meth : Method} {c : Code} {Q : State → Prop} {sb L : Nat} {xs : Nat → Int32} {D : va_G} {A : Nat → Prop} {ad : Nat → Nat} {cI cZ cL : ClassId} {J : SJ} {rd : Nat → Int} {pr : Nat → Nat} {G : SH} {K : SK} {M : SM} {ov : Nat → Int64} {H : Heap} {locs : List Loc} {cells slots i : Nat} {ls : Array Slot} (X : LX p l s m meth c sb L xs D cI cZ cL A) (hLI : LI J rd pr M) (hi : i + 4 < L) (hc : cells + 1 ≤ 1061 ∧ slots + 6 ≤ 9679) (hP : va_P D classes (wdC ad cI cZ cL J rd pr G K (wdM ad cI cZ cL J rd pr M ov)) H) (hD : va_D A (wdC ad cI cZ cL J rd pr G K (wdM ad cI cZ cL J rd pr M ov))) (hS : va_S A s.heap H locs) (hl : lv_has ls 8 (lwL ad sb i)) (kk : LK p l e s m below meth c Q sb D A ad cI cZ cL i (cells + 1) (slots + 6)) : W p l e room_1 s m #[Value.ref sb] below meth c H locs cells slots Q (F0 m 591 ls []) := by
  obtain ⟨hI, hM, hR, hpq⟩ := id hLI
  have hn32 := hI.1
  have hk32 := hI.2.1
  obtain ⟨a1, hz1, ha1⟩ := iZ_ex (xs (i + 1))
  by_cases w5 : a1 < 0 ∨ 3 ≤ a1
  · exact lf_kept_x1 X hLI hi hc (a := a1) (by omega) ha1 hP hD hS hl kk
  obtain ⟨kd, rfl⟩ : ∃ n9 : Nat, a1 = ((n9 : Nat) : Int) := ⟨a1.toNat, by omega⟩
  exact lf_kept_0 X hLI hi hc (kd := kd) (by omega) ha1 hP hD hS hl kk
theorem lc_sum {p : Program} {l : Launch} {e : Env} {s : State} {m : MethodId} {below : List Frame} {meth : Method} {c : Code} {Q : State → Prop} {sb L : Nat} {xs : Nat → Int32} {D : va_G} {A : Nat → Prop} {ad : Nat → Nat} {cI cZ cL : ClassId} {J : SJ} {rd : Nat → Int} {pr : Nat → Nat} {G : SH} {K : SK} {M : SM} {ov : Nat → Int64} {H : Heap} {locs : List Loc} {cells slots i : Nat} {ls : Array Slot} (X : LX p l s m meth c sb L xs D cI cZ cL A) (hLI : LI J rd pr M) (hi : i + 4 < L) (hc : cells + 1 ≤ 1061 ∧ slots + 6 ≤ 9679) (hP : va_P D classes (wdC ad cI cZ cL J rd pr G K (wdM ad cI cZ cL J rd pr M ov)) H) (hD : va_D A (wdC ad cI cZ cL J rd pr G K (wdM ad cI cZ cL J rd pr M ov))) (hS : va_S A s.heap H locs) (hl : lv_has ls 8 (lwL ad sb i)) (kk : LK p l e s m below meth c Q sb D A ad cI cZ cL i (cells + 1) (slots + 6)) : W p l e room_1 s m #[Value.ref sb] below meth c H locs cells slots Q (F0 m 647 ls []) := by
  obtain ⟨hI, hM, hR, hpq⟩ := id hLI
  have hn32 := hI.1
  have hk32 := hI.2.1
  obtain ⟨a1, hz1, ha1⟩ := iZ_ex (xs (i + 1))
  by_cases w5 : a1 < 0 ∨ 3 ≤ a1
  · exact lf_sum_x1 X hLI hi hc (a := a1) (by omega) ha1 hP hD hS hl kk
  obtain ⟨kd, rfl⟩ : ∃ n9 : Nat, a1 = ((n9 : Nat) : Int) := ⟨a1.toNat, by omega⟩
  exact lf_sum_0 X hLI hi hc (kd := kd) (by omega) ha1 hP hD hS hl kk
theorem lc_odds {p : Program} {l : Launch} {e : Env} {s : State} {m : MethodId} {below : List Frame} {meth : Method} {c : Code} {Q : State → Prop} {sb L : Nat} {xs : Nat → Int32} {D : va_G} {A : Nat → Prop} {ad : Nat → Nat} {cI cZ cL : ClassId} {J : SJ} {rd : Nat → Int} {pr : Nat → Nat} {G : SH} {K : SK} {M : SM} {ov : Nat → Int64} {H : Heap} {locs : List Loc} {cells slots i : Nat} {ls : Array Slot} (X : LX p l s m meth c sb L xs D cI cZ cL A) (hLI : LI J rd pr M) (hi : i + 4 < L) (hc : cells + 1 ≤ 1061 ∧ slots + 6 ≤ 9679) (hP : va_P D classes (wdC ad cI cZ cL J rd pr G K (wdM ad cI cZ cL J rd pr M ov)) H) (hD : va_D A (wdC ad cI cZ cL J rd pr G K (wdM ad cI cZ cL J rd pr M ov))) (hS : va_S A s.heap H locs) (hl : lv_has ls 8 (lwL ad sb i)) (kk : LK p l e s m below meth c Q sb D A ad cI cZ cL i (cells + 1) (slots + 6)) : W p l e room_1 s m #[Value.ref sb] below meth c H locs cells slots Q (F0 m 703 ls []) := by
  obtain ⟨hI, hM, hR, hpq⟩ := id hLI
  have hn32 := hI.1
  have hk32 := hI.2.1
  obtain ⟨a1, hz1, ha1⟩ := iZ_ex (xs (i + 1))
  obtain ⟨a2, hz2, ha2⟩ := iZ_ex (xs (i + 2))
  by_cases w6 : a1 < 0 ∨ 3 ≤ a1
  · exact lf_odds_x1 X hLI hi hc (a := a1) (b := a2) (by omega) (by omega) ha1 ha2 hP hD hS hl kk
  obtain ⟨kd, rfl⟩ : ∃ n9 : Nat, a1 = ((n9 : Nat) : Int) := ⟨a1.toNat, by omega⟩
  by_cases w9 : a2 < 0 ∨ 2 ≤ a2
  · exact lf_odds_x2 X hLI hi hc (kd := kd) (b := a2) (by omega) (by omega) ha1 ha2 hP hD hS hl kk
  obtain ⟨pt, rfl⟩ : ∃ n9 : Nat, a2 = ((n9 : Nat) : Int) := ⟨a2.toNat, by omega⟩
  exact lf_odds_0 X hLI hi hc (kd := kd) (pt := pt) (by omega) (by omega) ha1 ha2 hP hD hS hl kk
theorem lc_rankOdds {p : Program} {l : Launch} {e : Env} {s : State} {m : MethodId} {below : List Frame} {meth : Method} {c : Code} {Q : State → Prop} {sb L : Nat} {xs : Nat → Int32} {D : va_G} {A : Nat → Prop} {ad : Nat → Nat} {cI cZ cL : ClassId} {J : SJ} {rd : Nat → Int} {pr : Nat → Nat} {G : SH} {K : SK} {M : SM} {ov : Nat → Int64} {H : Heap} {locs : List Loc} {cells slots i : Nat} {ls : Array Slot} (X : LX p l s m meth c sb L xs D cI cZ cL A) (hLI : LI J rd pr M) (hi : i + 4 < L) (hc : cells + 1 ≤ 1061 ∧ slots + 6 ≤ 9679) (hP : va_P D classes (wdC ad cI cZ cL J rd pr G K (wdM ad cI cZ cL J rd pr M ov)) H) (hD : va_D A (wdC ad cI cZ cL J rd pr G K (wdM ad cI cZ cL J rd pr M ov))) (hS : va_S A s.heap H locs) (hl : lv_has ls 8 (lwL ad sb i)) (kk : LK p l e s m below meth c Q sb D A ad cI cZ cL i (cells + 1) (slots + 6)) : W p l e room_1 s m #[Value.ref sb] below meth c H locs cells slots Q (F0 m 838 ls []) := by
  obtain ⟨hI, hM, hR, hpq⟩ := id hLI
  have hn32 := hI.1
  have hk32 := hI.2.1
  obtain ⟨a1, hz1, ha1⟩ := iZ_ex (xs (i + 1))
  obtain ⟨a2, hz2, ha2⟩ := iZ_ex (xs (i + 2))
  by_cases w6 : a1 < 0 ∨ 3 ≤ a1
  · exact lf_rankOdds_x1 X hLI hi hc (a := a1) (b := a2) (by omega) (by omega) ha1 ha2 hP hD hS hl kk
  obtain ⟨kd, rfl⟩ : ∃ n9 : Nat, a1 = ((n9 : Nat) : Int) := ⟨a1.toNat, by omega⟩
  by_cases w9 : a2 < 0 ∨ 2 ≤ a2
  · exact lf_rankOdds_x2 X hLI hi hc (kd := kd) (b := a2) (by omega) (by omega) ha1 ha2 hP hD hS hl kk
  obtain ⟨pt, rfl⟩ : ∃ n9 : Nat, a2 = ((n9 : Nat) : Int) := ⟨a2.toNat, by omega⟩
  exact lf_rankOdds_0 X hLI hi hc (kd := kd) (pt := pt) (by omega) (by omega) ha1 ha2 hP hD hS hl kk
theorem lc_joined {p : Program} {l : Launch} {e : Env} {s : State} {m : MethodId} {below : List Frame} {meth : Method} {c : Code} {Q : State → Prop} {sb L : Nat} {xs : Nat → Int32} {D : va_G} {A : Nat → Prop} {ad : Nat → Nat} {cI cZ cL : ClassId} {J : SJ} {rd : Nat → Int} {pr : Nat → Nat} {G : SH} {K : SK} {M : SM} {ov : Nat → Int64} {H : Heap} {locs : List Loc} {cells slots i : Nat} {ls : Array Slot} (X : LX p l s m meth c sb L xs D cI cZ cL A) (hLI : LI J rd pr M) (hi : i + 4 < L) (hc : cells + 1 ≤ 1061 ∧ slots + 6 ≤ 9679) (hP : va_P D classes (wdC ad cI cZ cL J rd pr G K (wdM ad cI cZ cL J rd pr M ov)) H) (hD : va_D A (wdC ad cI cZ cL J rd pr G K (wdM ad cI cZ cL J rd pr M ov))) (hS : va_S A s.heap H locs) (hl : lv_has ls 8 (lwL ad sb i)) (kk : LK p l e s m below meth c Q sb D A ad cI cZ cL i (cells + 1) (slots + 6)) : W p l e room_1 s m #[Value.ref sb] below meth c H locs cells slots Q (F0 m 1326 ls []) := by
  obtain ⟨hI, hM, hR, hpq⟩ := id hLI
  have hn32 := hI.1
  have hk32 := hI.2.1
  obtain ⟨a1, hz1, ha1⟩ := iZ_ex (xs (i + 1))
  obtain ⟨a2, hz2, ha2⟩ := iZ_ex (xs (i + 2))
  by_cases w6 : a1 < 0 ∨ 3 ≤ a1
  · exact lf_joined_x1 X hLI hi hc (a := a1) (b := a2) (by omega) (by omega) ha1 ha2 hP hD hS hl kk
  obtain ⟨kd, rfl⟩ : ∃ n9 : Nat, a1 = ((n9 : Nat) : Int) := ⟨a1.toNat, by omega⟩
  by_cases w9 : a2 < 0 ∨ 2 ≤ a2
  · exact lf_joined_x2 X hLI hi hc (kd := kd) (b := a2) (by omega) (by omega) ha1 ha2 hP hD hS hl kk
  obtain ⟨pt, rfl⟩ : ∃ n9 : Nat, a2 = ((n9 : Nat) : Int) := ⟨a2.toNat, by omega⟩
  exact lf_joined_0 X hLI hi hc (kd := kd) (pt := pt) (by omega) (by omega) ha1 ha2 hP hD hS hl kk
theorem lc_stopped {p : Program} {l : Launch} {e : Env} {s : State} {m : MethodId} {below : List Frame} {meth : Method} {c : Code} {Q : State → Prop} {sb L : Nat} {xs : Nat → Int32} {D : va_G} {A : Nat → Prop} {ad : Nat → Nat} {cI cZ cL : ClassId} {J : SJ} {rd : Nat → Int} {pr : Nat → Nat} {G : SH} {K : SK} {M : SM} {ov : Nat → Int64} {H : Heap} {locs : List Loc} {cells slots i : Nat} {ls : Array Slot} (X : LX p l s m meth c sb L xs D cI cZ cL A) (hLI : LI J rd pr M) (hi : i + 4 < L) (hc : cells + 1 ≤ 1061 ∧ slots + 6 ≤ 9679) (hP : va_P D classes (wdC ad cI cZ cL J rd pr G K (wdM ad cI cZ cL J rd pr M ov)) H) (hD : va_D A (wdC ad cI cZ cL J rd pr G K (wdM ad cI cZ cL J rd pr M ov))) (hS : va_S A s.heap H locs) (hl : lv_has ls 8 (lwL ad sb i)) (kk : LK p l e s m below meth c Q sb D A ad cI cZ cL i (cells + 1) (slots + 6)) : W p l e room_1 s m #[Value.ref sb] below meth c H locs cells slots Q (F0 m 905 ls []) := by
  obtain ⟨hI, hM, hR, hpq⟩ := id hLI
  have hn32 := hI.1
  have hk32 := hI.2.1
  obtain ⟨a1, hz1, ha1⟩ := iZ_ex (xs (i + 1))
  obtain ⟨a2, hz2, ha2⟩ := iZ_ex (xs (i + 2))
  obtain ⟨a3, hz3, ha3⟩ := iZ_ex (xs (i + 3))
  by_cases w7 : a1 < 0 ∨ 3 ≤ a1
  · exact lf_stopped_x1 X hLI hi hc (a := a1) (b := a2) (c9 := a3) (by omega) ha1 ha2 ha3 hP hD hS hl kk
  obtain ⟨kd, rfl⟩ : ∃ n9 : Nat, a1 = ((n9 : Nat) : Int) := ⟨a1.toNat, by omega⟩
  by_cases w10 : a2 < 1 ∨ 16 < a2
  · exact lf_stopped_x2 X hLI hi hc (kd := kd) (b := a2) (c9 := a3) (by omega) (by omega) (by omega) ha1 ha2 ha3 hP hD hS hl kk
  by_cases w12 : a3 < 1 ∨ 16 < a3
  · exact lf_stopped_x3 X hLI hi hc (kd := kd) (b := a2) (c9 := a3) (by omega) (by omega) ha1 ha2 ha3 hP hD hS hl kk
  obtain ⟨up, rfl⟩ : ∃ n9 : Nat, a2 = ((n9 : Nat) : Int) := ⟨a2.toNat, by omega⟩
  obtain ⟨lo, rfl⟩ : ∃ n9 : Nat, a3 = ((n9 : Nat) : Int) := ⟨a3.toNat, by omega⟩
  exact lf_stopped_0 X hLI hi hc (kd := kd) (up := up) (lo := lo) (by omega) (by omega) (by omega) ha1 ha2 ha3 hP hD hS hl kk
theorem lc_crossing {p : Program} {l : Launch} {e : Env} {s : State} {m : MethodId} {below : List Frame} {meth : Method} {c : Code} {Q : State → Prop} {sb L : Nat} {xs : Nat → Int32} {D : va_G} {A : Nat → Prop} {ad : Nat → Nat} {cI cZ cL : ClassId} {J : SJ} {rd : Nat → Int} {pr : Nat → Nat} {G : SH} {K : SK} {M : SM} {ov : Nat → Int64} {H : Heap} {locs : List Loc} {cells slots i : Nat} {ls : Array Slot} (X : LX p l s m meth c sb L xs D cI cZ cL A) (hLI : LI J rd pr M) (hi : i + 4 < L) (hc : cells + 1 ≤ 1061 ∧ slots + 6 ≤ 9679) (hP : va_P D classes (wdC ad cI cZ cL J rd pr G K (wdM ad cI cZ cL J rd pr M ov)) H) (hD : va_D A (wdC ad cI cZ cL J rd pr G K (wdM ad cI cZ cL J rd pr M ov))) (hS : va_S A s.heap H locs) (hl : lv_has ls 8 (lwL ad sb i)) (kk : LK p l e s m below meth c Q sb D A ad cI cZ cL i (cells + 1) (slots + 6)) : W p l e room_1 s m #[Value.ref sb] below meth c H locs cells slots Q (F0 m 985 ls []) := by
  obtain ⟨hI, hM, hR, hpq⟩ := id hLI
  have hn32 := hI.1
  have hk32 := hI.2.1
  obtain ⟨a1, hz1, ha1⟩ := iZ_ex (xs (i + 1))
  obtain ⟨a2, hz2, ha2⟩ := iZ_ex (xs (i + 2))
  obtain ⟨a3, hz3, ha3⟩ := iZ_ex (xs (i + 3))
  obtain ⟨a4, hz4, ha4⟩ := iZ_ex (xs (i + 4))
  by_cases w8 : a4 < 0 ∨ 2 ≤ a4
  · exact lf_crossing_x1 X hLI hi hc (a := a1) (b := a2) (c9 := a3) (d9 := a4) (by omega) ha1 ha2 ha3 ha4 hP hD hS hl kk
  by_cases w10 : a1 < 0 ∨ 40 < a1
  · exact lf_crossing_x2 X hLI hi hc (a := a1) (b := a2) (c9 := a3) (d9 := a4) (by omega) (by omega) ha1 ha2 ha3 ha4 hP hD hS hl kk
  by_cases w12 : a2 < 1 ∨ 16 < a2
  · exact lf_crossing_x3 X hLI hi hc (a := a1) (b := a2) (c9 := a3) (d9 := a4) (by omega) (by omega) ha1 ha2 ha3 ha4 hP hD hS hl kk
  by_cases w14 : a3 < 1 ∨ 16 < a3
  · exact lf_crossing_x4 X hLI hi hc (a := a1) (b := a2) (c9 := a3) (d9 := a4) (by omega) ha1 ha2 ha3 ha4 hP hD hS hl kk
  obtain ⟨nn, rfl⟩ : ∃ n9 : Nat, a1 = ((n9 : Nat) : Int) := ⟨a1.toNat, by omega⟩
  obtain ⟨up, rfl⟩ : ∃ n9 : Nat, a2 = ((n9 : Nat) : Int) := ⟨a2.toNat, by omega⟩
  obtain ⟨lo, rfl⟩ : ∃ n9 : Nat, a3 = ((n9 : Nat) : Int) := ⟨a3.toNat, by omega⟩
  obtain ⟨pt, rfl⟩ : ∃ n9 : Nat, a4 = ((n9 : Nat) : Int) := ⟨a4.toNat, by omega⟩
  exact lf_crossing_0 X hLI hi hc (nn := nn) (up := up) (lo := lo) (pt := pt) (by omega) (by omega) (by omega) (by omega) ha1 ha2 ha3 ha4 hP hD hS hl kk
theorem lc_least {p : Program} {l : Launch} {e : Env} {s : State} {m : MethodId} {below : List Frame} {meth : Method} {c : Code} {Q : State → Prop} {sb L : Nat} {xs : Nat → Int32} {D : va_G} {A : Nat → Prop} {ad : Nat → Nat} {cI cZ cL : ClassId} {J : SJ} {rd : Nat → Int} {pr : Nat → Nat} {G : SH} {K : SK} {M : SM} {ov : Nat → Int64} {H : Heap} {locs : List Loc} {cells slots i : Nat} {ls : Array Slot} (X : LX p l s m meth c sb L xs D cI cZ cL A) (hLI : LI J rd pr M) (hi : i + 4 < L) (hc : cells + 1 ≤ 1061 ∧ slots + 6 ≤ 9679) (hP : va_P D classes (wdC ad cI cZ cL J rd pr G K (wdM ad cI cZ cL J rd pr M ov)) H) (hD : va_D A (wdC ad cI cZ cL J rd pr G K (wdM ad cI cZ cL J rd pr M ov))) (hS : va_S A s.heap H locs) (hl : lv_has ls 8 (lwL ad sb i)) (kk : LK p l e s m below meth c Q sb D A ad cI cZ cL i (cells + 1) (slots + 6)) : W p l e room_1 s m #[Value.ref sb] below meth c H locs cells slots Q (F0 m 1076 ls []) := by
  obtain ⟨hI, hM, hR, hpq⟩ := id hLI
  have hn32 := hI.1
  have hk32 := hI.2.1
  obtain ⟨a1, hz1, ha1⟩ := iZ_ex (xs (i + 1))
  obtain ⟨a2, hz2, ha2⟩ := iZ_ex (xs (i + 2))
  obtain ⟨a3, hz3, ha3⟩ := iZ_ex (xs (i + 3))
  obtain ⟨a4, hz4, ha4⟩ := iZ_ex (xs (i + 4))
  by_cases w8 : a4 < 1 ∨ 1000 < a4
  · exact lf_least_x1 X hLI hi hc (a := a1) (b := a2) (c9 := a3) (d9 := a4) (by omega) (by omega) ha1 ha2 ha3 ha4 hP hD hS hl kk
  by_cases w10 : a3 < 0 ∨ a4 < a3
  · exact lf_least_x2 X hLI hi hc (a := a1) (b := a2) (c9 := a3) (d9 := a4) (by omega) (by omega) ha1 ha2 ha3 ha4 hP hD hS hl kk
  by_cases w12 : a1 < 1 ∨ 16 < a1
  · exact lf_least_x3 X hLI hi hc (a := a1) (b := a2) (c9 := a3) (d9 := a4) (by omega) (by omega) ha1 ha2 ha3 ha4 hP hD hS hl kk
  by_cases w14 : a2 < 1 ∨ 16 < a2
  · exact lf_least_x4 X hLI hi hc (a := a1) (b := a2) (c9 := a3) (d9 := a4) (by omega) ha1 ha2 ha3 ha4 hP hD hS hl kk
  obtain ⟨up, rfl⟩ : ∃ n9 : Nat, a1 = ((n9 : Nat) : Int) := ⟨a1.toNat, by omega⟩
  obtain ⟨lo, rfl⟩ : ∃ n9 : Nat, a2 = ((n9 : Nat) : Int) := ⟨a2.toNat, by omega⟩
  obtain ⟨ab, rfl⟩ : ∃ n9 : Nat, a3 = ((n9 : Nat) : Int) := ⟨a3.toNat, by omega⟩
  obtain ⟨be, rfl⟩ : ∃ n9 : Nat, a4 = ((n9 : Nat) : Int) := ⟨a4.toNat, by omega⟩
  exact lf_least_0 X hLI hi hc (up := up) (lo := lo) (ab := ab) (be := be) (by omega) (by omega) (by omega) (by omega) ha1 ha2 ha3 ha4 hP hD hS hl kk
theorem lc_mean {p : Program} {l : Launch} {e : Env} {s : State} {m : MethodId} {below : List Frame} {meth : Method} {c : Code} {Q : State → Prop} {sb L : Nat} {xs : Nat → Int32} {D : va_G} {A : Nat → Prop} {ad : Nat → Nat} {cI cZ cL : ClassId} {J : SJ} {rd : Nat → Int} {pr : Nat → Nat} {G : SH} {K : SK} {M : SM} {ov : Nat → Int64} {H : Heap} {locs : List Loc} {cells slots i : Nat} {ls : Array Slot} (X : LX p l s m meth c sb L xs D cI cZ cL A) (hLI : LI J rd pr M) (hi : i + 4 < L) (hc : cells + 1 ≤ 1061 ∧ slots + 6 ≤ 9679) (hP : va_P D classes (wdC ad cI cZ cL J rd pr G K (wdM ad cI cZ cL J rd pr M ov)) H) (hD : va_D A (wdC ad cI cZ cL J rd pr G K (wdM ad cI cZ cL J rd pr M ov))) (hS : va_S A s.heap H locs) (hl : lv_has ls 8 (lwL ad sb i)) (kk : LK p l e s m below meth c Q sb D A ad cI cZ cL i (cells + 1) (slots + 6)) : W p l e room_1 s m #[Value.ref sb] below meth c H locs cells slots Q (F0 m 1168 ls []) := by
  obtain ⟨hI, hM, hR, hpq⟩ := id hLI
  have hn32 := hI.1
  have hk32 := hI.2.1
  obtain ⟨a1, hz1, ha1⟩ := iZ_ex (xs (i + 1))
  obtain ⟨a2, hz2, ha2⟩ := iZ_ex (xs (i + 2))
  obtain ⟨a3, hz3, ha3⟩ := iZ_ex (xs (i + 3))
  by_cases w7 : a1 < 0 ∨ 4 ≤ a1
  · exact lf_mean_x1 X hLI hi hc (a := a1) (b := a2) (c9 := a3) (by omega) (by omega) ha1 ha2 ha3 hP hD hS hl kk
  obtain ⟨sh, rfl⟩ : ∃ n9 : Nat, a1 = ((n9 : Nat) : Int) := ⟨a1.toNat, by omega⟩
  by_cases w10 : a2 < 0 ∨ 3 ≤ a2
  · exact lf_mean_x2 X hLI hi hc (sh := sh) (b := a2) (c9 := a3) (by omega) (by omega) (by omega) ha1 ha2 ha3 hP hD hS hl kk
  obtain ⟨kd, rfl⟩ : ∃ n9 : Nat, a2 = ((n9 : Nat) : Int) := ⟨a2.toNat, by omega⟩
  by_cases w13 : a3 < 0 ∨ 2 ≤ a3
  · exact lf_mean_x3 X hLI hi hc (sh := sh) (kd := kd) (c9 := a3) (by omega) (by omega) (by omega) ha1 ha2 ha3 hP hD hS hl kk
  obtain ⟨pt, rfl⟩ : ∃ n9 : Nat, a3 = ((n9 : Nat) : Int) := ⟨a3.toNat, by omega⟩
  exact lf_mean_0 X hLI hi hc (sh := sh) (kd := kd) (pt := pt) (by omega) (by omega) (by omega) ha1 ha2 ha3 hP hD hS hl kk
theorem lc_weight {p : Program} {l : Launch} {e : Env} {s : State} {m : MethodId} {below : List Frame} {meth : Method} {c : Code} {Q : State → Prop} {sb L : Nat} {xs : Nat → Int32} {D : va_G} {A : Nat → Prop} {ad : Nat → Nat} {cI cZ cL : ClassId} {J : SJ} {rd : Nat → Int} {pr : Nat → Nat} {G : SH} {K : SK} {M : SM} {ov : Nat → Int64} {H : Heap} {locs : List Loc} {cells slots i : Nat} {ls : Array Slot} (X : LX p l s m meth c sb L xs D cI cZ cL A) (hLI : LI J rd pr M) (hi : i + 4 < L) (hc : cells + 1 ≤ 1061 ∧ slots + 6 ≤ 9679) (hP : va_P D classes (wdC ad cI cZ cL J rd pr G K (wdM ad cI cZ cL J rd pr M ov)) H) (hD : va_D A (wdC ad cI cZ cL J rd pr G K (wdM ad cI cZ cL J rd pr M ov))) (hS : va_S A s.heap H locs) (hl : lv_has ls 8 (lwL ad sb i)) (kk : LK p l e s m below meth c Q sb D A ad cI cZ cL i (cells + 1) (slots + 6)) : W p l e room_1 s m #[Value.ref sb] below meth c H locs cells slots Q (F0 m 1247 ls []) := by
  obtain ⟨hI, hM, hR, hpq⟩ := id hLI
  have hn32 := hI.1
  have hk32 := hI.2.1
  obtain ⟨a1, hz1, ha1⟩ := iZ_ex (xs (i + 1))
  obtain ⟨a2, hz2, ha2⟩ := iZ_ex (xs (i + 2))
  obtain ⟨a3, hz3, ha3⟩ := iZ_ex (xs (i + 3))
  by_cases w7 : a1 < 0 ∨ 4 ≤ a1
  · exact lf_weight_x1 X hLI hi hc (a := a1) (b := a2) (c9 := a3) (by omega) (by omega) ha1 ha2 ha3 hP hD hS hl kk
  obtain ⟨sh, rfl⟩ : ∃ n9 : Nat, a1 = ((n9 : Nat) : Int) := ⟨a1.toNat, by omega⟩
  by_cases w10 : a2 < 0 ∨ 3 ≤ a2
  · exact lf_weight_x2 X hLI hi hc (sh := sh) (b := a2) (c9 := a3) (by omega) (by omega) (by omega) ha1 ha2 ha3 hP hD hS hl kk
  obtain ⟨kd, rfl⟩ : ∃ n9 : Nat, a2 = ((n9 : Nat) : Int) := ⟨a2.toNat, by omega⟩
  by_cases w13 : a3 < 0 ∨ 2 ≤ a3
  · exact lf_weight_x3 X hLI hi hc (sh := sh) (kd := kd) (c9 := a3) (by omega) (by omega) (by omega) ha1 ha2 ha3 hP hD hS hl kk
  obtain ⟨pt, rfl⟩ : ∃ n9 : Nat, a3 = ((n9 : Nat) : Int) := ⟨a3.toNat, by omega⟩
  exact lf_weight_0 X hLI hi hc (sh := sh) (kd := kd) (pt := pt) (by omega) (by omega) (by omega) ha1 ha2 ha3 hP hD hS hl kk
theorem lc_reader {p : Program} {l : Launch} {e : Env} {s : State} {m : MethodId} {below : List Frame} {meth : Method} {c : Code} {Q : State → Prop} {sb L : Nat} {xs : Nat → Int32} {D : va_G} {A : Nat → Prop} {ad : Nat → Nat} {cI cZ cL : ClassId} {J : SJ} {rd : Nat → Int} {pr : Nat → Nat} {G : SH} {K : SK} {M : SM} {ov : Nat → Int64} {H : Heap} {locs : List Loc} {cells slots i : Nat} {ls : Array Slot} (X : LX p l s m meth c sb L xs D cI cZ cL A) (hLI : LI J rd pr M) (hi : i + 4 < L) (hc : cells + 1 ≤ 1061 ∧ slots + 6 ≤ 9679) (hP : va_P D classes (wdC ad cI cZ cL J rd pr G K (wdM ad cI cZ cL J rd pr M ov)) H) (hD : va_D A (wdC ad cI cZ cL J rd pr G K (wdM ad cI cZ cL J rd pr M ov))) (hS : va_S A s.heap H locs) (hl : lv_has ls 8 (lwL ad sb i)) (kk : LK p l e s m below meth c Q sb D A ad cI cZ cL i (cells + 1) (slots + 6)) : W p l e room_1 s m #[Value.ref sb] below meth c H locs cells slots Q (F0 m 1393 ls []) := by
  obtain ⟨hI, hM, hR, hpq⟩ := id hLI
  have hn32 := hI.1
  have hk32 := hI.2.1
  obtain ⟨a1, hz1, ha1⟩ := iZ_ex (xs (i + 1))
  obtain ⟨a2, hz2, ha2⟩ := iZ_ex (xs (i + 2))
  obtain ⟨a3, hz3, ha3⟩ := iZ_ex (xs (i + 3))
  by_cases w7 : a1 < 0 ∨ ((jn J : Nat) : Int) ≤ a1
  · exact lf_reader_x1 X hLI hi hc (a := a1) (b := a2) (c9 := a3) (by omega) (by omega) ha1 ha2 ha3 hP hD hS hl kk
  obtain ⟨h, rfl⟩ : ∃ n9 : Nat, a1 = ((n9 : Nat) : Int) := ⟨a1.toNat, by omega⟩
  by_cases w10 : a2 < 0 ∨ 2 ≤ a2
  · exact lf_reader_x2 X hLI hi hc (h := h) (b := a2) (c9 := a3) (by omega) (by omega) ha1 ha2 ha3 hP hD hS hl kk
  obtain ⟨rr, rfl⟩ : ∃ n9 : Nat, a2 = ((n9 : Nat) : Int) := ⟨a2.toNat, by omega⟩
  by_cases w13 : a3 < 0 ∨ 100000 < a3
  · exact lf_reader_x3 X hLI hi hc (h := h) (rr := rr) (c9 := a3) (by omega) (by omega) (by omega) ha1 ha2 ha3 hP hD hS hl kk
  obtain ⟨v, rfl⟩ : ∃ n9 : Nat, a3 = ((n9 : Nat) : Int) := ⟨a3.toNat, by omega⟩
  exact lf_reader_0 X hLI hi hc (h := h) (rr := rr) (v := v) (by omega) (by omega) (by omega) ha1 ha2 ha3 hP hD hS hl kk
theorem lc_unlike {p : Program} {l : Launch} {e : Env} {s : State} {m : MethodId} {below : List Frame} {meth : Method} {c : Code} {Q : State → Prop} {sb L : Nat} {xs : Nat → Int32} {D : va_G} {A : Nat → Prop} {ad : Nat → Nat} {cI cZ cL : ClassId} {J : SJ} {rd : Nat → Int} {pr : Nat → Nat} {G : SH} {K : SK} {M : SM} {ov : Nat → Int64} {H : Heap} {locs : List Loc} {cells slots i : Nat} {ls : Array Slot} (X : LX p l s m meth c sb L xs D cI cZ cL A) (hLI : LI J rd pr M) (hi : i + 4 < L) (hc : cells + 1 ≤ 1061 ∧ slots + 6 ≤ 9679) (hP : va_P D classes (wdC ad cI cZ cL J rd pr G K (wdM ad cI cZ cL J rd pr M ov)) H) (hD : va_D A (wdC ad cI cZ cL J rd pr G K (wdM ad cI cZ cL J rd pr M ov))) (hS : va_S A s.heap H locs) (hl : lv_has ls 8 (lwL ad sb i)) (kk : LK p l e s m below meth c Q sb D A ad cI cZ cL i (cells + 1) (slots + 6)) : W p l e room_1 s m #[Value.ref sb] below meth c H locs cells slots Q (F0 m 1480 ls []) := by
  obtain ⟨hI, hM, hR, hpq⟩ := id hLI
  have hn32 := hI.1
  have hk32 := hI.2.1
  obtain ⟨a1, hz1, ha1⟩ := iZ_ex (xs (i + 1))
  by_cases w5 : a1 < 0 ∨ ((jn J : Nat) : Int) < a1
  · exact lf_unlike_x1 X hLI hi hc (a := a1) (by omega) ha1 hP hD hS hl kk
  obtain ⟨fm, rfl⟩ : ∃ n9 : Nat, a1 = ((n9 : Nat) : Int) := ⟨a1.toNat, by omega⟩
  exact lf_unlike_0 X hLI hi hc (fm := fm) (by omega) ha1 hP hD hS hl kk
theorem lc_price {p : Program} {l : Launch} {e : Env} {s : State} {m : MethodId} {below : List Frame} {meth : Method} {c : Code} {Q : State → Prop} {sb L : Nat} {xs : Nat → Int32} {D : va_G} {A : Nat → Prop} {ad : Nat → Nat} {cI cZ cL : ClassId} {J : SJ} {rd : Nat → Int} {pr : Nat → Nat} {G : SH} {K : SK} {M : SM} {ov : Nat → Int64} {H : Heap} {locs : List Loc} {cells slots i : Nat} {ls : Array Slot} (X : LX p l s m meth c sb L xs D cI cZ cL A) (hLI : LI J rd pr M) (hi : i + 4 < L) (hc : cells + 1 ≤ 1061 ∧ slots + 6 ≤ 9679) (hP : va_P D classes (wdC ad cI cZ cL J rd pr G K (wdM ad cI cZ cL J rd pr M ov)) H) (hD : va_D A (wdC ad cI cZ cL J rd pr G K (wdM ad cI cZ cL J rd pr M ov))) (hS : va_S A s.heap H locs) (hl : lv_has ls 8 (lwL ad sb i)) (kk : LK p l e s m below meth c Q sb D A ad cI cZ cL i (cells + 1) (slots + 6)) : W p l e room_1 s m #[Value.ref sb] below meth c H locs cells slots Q (F0 m 1536 ls []) := by
  obtain ⟨hI, hM, hR, hpq⟩ := id hLI
  have hn32 := hI.1
  have hk32 := hI.2.1
  obtain ⟨a1, hz1, ha1⟩ := iZ_ex (xs (i + 1))
  obtain ⟨a2, hz2, ha2⟩ := iZ_ex (xs (i + 2))
  by_cases w6 : a1 < 0 ∨ 3 ≤ a1
  · exact lf_price_x1 X hLI hi hc (a := a1) (b := a2) (by omega) (by omega) ha1 ha2 hP hD hS hl kk
  obtain ⟨kd, rfl⟩ : ∃ n9 : Nat, a1 = ((n9 : Nat) : Int) := ⟨a1.toNat, by omega⟩
  by_cases w9 : a2 < 0 ∨ 100000 < a2
  · exact lf_price_x2 X hLI hi hc (kd := kd) (b := a2) (by omega) (by omega) ha1 ha2 hP hD hS hl kk
  obtain ⟨v, rfl⟩ : ∃ n9 : Nat, a2 = ((n9 : Nat) : Int) := ⟨a2.toNat, by omega⟩
  exact lf_price_0 X hLI hi hc (kd := kd) (v := v) (by omega) (by omega) ha1 ha2 hP hD hS hl kk
theorem lc_pairs {p : Program} {l : Launch} {e : Env} {s : State} {m : MethodId} {below : List Frame} {meth : Method} {c : Code} {Q : State → Prop} {sb L : Nat} {xs : Nat → Int32} {D : va_G} {A : Nat → Prop} {ad : Nat → Nat} {cI cZ cL : ClassId} {J : SJ} {rd : Nat → Int} {pr : Nat → Nat} {G : SH} {K : SK} {M : SM} {ov : Nat → Int64} {H : Heap} {locs : List Loc} {cells slots i : Nat} {ls : Array Slot} (X : LX p l s m meth c sb L xs D cI cZ cL A) (hLI : LI J rd pr M) (hi : i + 4 < L) (hc : cells + 1 ≤ 1061 ∧ slots + 6 ≤ 9679) (hP : va_P D classes (wdC ad cI cZ cL J rd pr G K (wdM ad cI cZ cL J rd pr M ov)) H) (hD : va_D A (wdC ad cI cZ cL J rd pr G K (wdM ad cI cZ cL J rd pr M ov))) (hS : va_S A s.heap H locs) (hl : lv_has ls 8 (lwL ad sb i)) (kk : LK p l e s m below meth c Q sb D A ad cI cZ cL i (cells + 1) (slots + 6)) : W p l e room_1 s m #[Value.ref sb] below meth c H locs cells slots Q (F0 m 510 ls []) := by
  exact lf_pairs_0 X hLI hi hc hP hD hS hl kk
theorem lc_lost {p : Program} {l : Launch} {e : Env} {s : State} {m : MethodId} {below : List Frame} {meth : Method} {c : Code} {Q : State → Prop} {sb L : Nat} {xs : Nat → Int32} {D : va_G} {A : Nat → Prop} {ad : Nat → Nat} {cI cZ cL : ClassId} {J : SJ} {rd : Nat → Int} {pr : Nat → Nat} {G : SH} {K : SK} {M : SM} {ov : Nat → Int64} {H : Heap} {locs : List Loc} {cells slots i : Nat} {ls : Array Slot} (X : LX p l s m meth c sb L xs D cI cZ cL A) (hLI : LI J rd pr M) (hi : i + 4 < L) (hc : cells + 1 ≤ 1061 ∧ slots + 6 ≤ 9679) (hP : va_P D classes (wdC ad cI cZ cL J rd pr G K (wdM ad cI cZ cL J rd pr M ov)) H) (hD : va_D A (wdC ad cI cZ cL J rd pr G K (wdM ad cI cZ cL J rd pr M ov))) (hS : va_S A s.heap H locs) (hl : lv_has ls 8 (lwL ad sb i)) (kk : LK p l e s m below meth c Q sb D A ad cI cZ cL i (cells + 1) (slots + 6)) : W p l e room_1 s m #[Value.ref sb] below meth c H locs cells slots Q (F0 m 1584 ls []) := by
  exact lf_lost_0 X hLI hi hc hP hD hS hl kk
set_option maxHeartbeats 4000000 in
set_option maxRecDepth 100000 in
/-- the law's loop -/
theorem law_loop {p : Program} {l : Launch} {e : Env} {s : State} {m : MethodId} {below : List Frame} {meth : Method} {c : Code} {Q : State → Prop} {sb L : Nat} {xs : Nat → Int32} {D : va_G} {A : Nat → Prop} {ad : Nat → Nat} {cI cZ cL : ClassId} (X : LX p l s m meth c sb L xs D cI cZ cL A) (hexit : ∀ (H : Heap) (locs : List Loc) (cells slots : Nat) (ls : Array Slot), va_S A s.heap H locs → cells ≤ 1061 → slots ≤ 9679 → W p l e room_1 s m #[Value.ref sb] below meth c H locs cells slots Q (F0 m 1604 ls [])) : ∀ (N k : Nat) (J : SJ) (rd : Nat → Int) (pr : Nat → Nat) (G : SH) (K : SK) (M : SM) (ov : Nat → Int64) (H : Heap) (locs : List Loc) (ls : Array Slot), k ≤ 513 → 513 - k < N → LI J rd pr M → va_P D classes (wdC ad cI cZ cL J rd pr G K (wdM ad cI cZ cL J rd pr M ov)) H → va_D A (wdC ad cI cZ cL J rd pr G K (wdM ad cI cZ cL J rd pr M ov)) → va_S A s.heap H locs → lv_has ls 8 (lwL ad sb (5 * k + 1)) → W p l e room_1 s m #[Value.ref sb] below meth c H locs (34 + k) (1469 + 6 * k) Q (F0 m 33 ls []) := by
  intro N
  induction N with
  | zero =>
    intro k J rd pr G K M ov H locs ls hk hN
    exact absurd hN (Nat.not_lt_zero _)
  | succ N ih =>
    intro k J rd pr G K M ov H locs ls hk hN hLI hP hD hS hl
    obtain ⟨hl0, Z, hX, hbl, hK, hA, hbA, hTT, hSt, hL⟩ := id X
    obtain ⟨hx, hb, hr, hml, hown, hts, hE, hlocks⟩ := id Z
    have hl : lv_has ls 8 [(4, .int (iZ ((5 * k + 1 : Nat) : Int))), (0, .ref sb), (1, .ref (ad 0)), (2, .ref (ad 19)), (3, .ref (ad 33))] := hl
    refine lv_iload hx hb d_L_law_33 (lv_at hl 0 rfl) ?_
    refine lv_aload_n hx hb d_L_law_35 rfl (lv_at hl 1 rfl) ?_
    refine va_slen hx hb hX hbl hbA hS d_L_law_36 ?_
    refine z_topI (b := iZ ((L : Nat) : Int)) (sh_tn L).symm ?_
    refine lv_iconst (v := iZ ((5 : Nat) : Int)) hx hb d_L_law_37 (by decide) ?_
    refine z_isub (a := ((L : Nat) : Int)) (b := ((5 : Nat) : Int)) hx hb d_L_law_38 ?_
    refine z_icmp_gt (a := ((5 * k + 1 : Nat) : Int)) (b := ((L : Nat) : Int) - ((5 : Nat) : Int)) (tgt := 1604) hx hb (by omega) d_L_law_39 (by decide) (fun q39 => ?_) (fun q39 => ?_)
    · exact hexit H locs _ _ ls hS (by omega) (by omega)
    · have hi : 5 * k + 1 + 4 < L := by omega
      have kk : LK p l e s m below meth c Q sb D A ad cI cZ cL (5 * k + 1) (34 + k + 1) (1469 + 6 * k + 6) := by
        intro J rd pr G K M ov H locs ls hLI hP hD hS hl
        refine lv_iinc (v := iZ ((5 * k + 1 + 5 : Nat) : Int)) (lv' := [(4, .int (iZ ((5 * k + 1 + 5 : Nat) : Int))), (0, .ref sb), (1, .ref (ad 0)), (2, .ref (ad 19)), (3, .ref (ad 33))]) hx hb d_L_law_1598 hl (k := 0) rfl (iZ_inc (5 * k + 1) 5) (by decide) rfl (fun ls hl => ?_)
        refine lv_goto (tgt := 33) hx hb d_L_law_1601 (by decide) ?_
        have h9 := ih (k + 1) J rd pr G K M ov H locs ls (by omega) (by omega) hLI hP hD hS (by rw [show 5 * (k + 1) + 1 = 5 * k + 1 + 5 by omega]; exact hl)
        rw [show 34 + (k + 1) = 34 + k + 1 by omega, show 1469 + 6 * (k + 1) = 1469 + 6 * k + 6 by omega] at h9
        exact h9
      have hc : 34 + k + 1 ≤ 1061 ∧ 1469 + 6 * k + 6 ≤ 9679 := by omega
      refine lv_aload_n hx hb d_L_law_42 rfl (lv_at hl 1 rfl) ?_
      refine lv_iload hx hb d_L_law_43 (lv_at hl 0 rfl) ?_
      refine z_sld (v := xs (5 * k + 1)) hx hb hX hbl hbA hS (5 * k + 1) (by omega) rfl d_L_law_45 ?_
      refine lv_bipush (v := iZ ((31 : Nat) : Int)) hx hb d_L_law_46 (by decide) ?_
      refine lv_iand hx hb d_L_law_48 ?_
      obtain ⟨c9, hc9, he9⟩ := pk_andE (xs (5 * k + 1)) (m := iZ ((31 : Nat) : Int)) 5 (by decide)
      refine z_topI (b := iZ ((c9 : Nat) : Int)) (he9.trans (sh_tn c9).symm) ?_
      have h22 : c9 = 0 ∨ c9 = 1 ∨ c9 = 2 ∨ c9 = 3 ∨ c9 = 4 ∨ c9 = 5 ∨ c9 = 6 ∨ c9 = 7 ∨ c9 = 8 ∨ c9 = 9 ∨ c9 = 10 ∨ c9 = 11 ∨ c9 = 12 ∨ c9 = 13 ∨ c9 = 14 ∨ c9 = 15 ∨ c9 = 16 ∨ c9 = 17 ∨ c9 = 18 ∨ c9 = 19 ∨ c9 = 20 ∨ c9 = 21 ∨ 22 ≤ c9 := by omega
      rcases h22 with rfl | rfl | rfl | rfl | rfl | rfl | rfl | rfl | rfl | rfl | rfl | rfl | rfl | rfl | rfl | rfl | rfl | rfl | rfl | rfl | rfl | rfl | h22
      · exact lv_tableIn (off := 103) (tgt := 152) hx hb d_L_law_49 (by decide) (by decide) (by decide) (by decide) (lc_haul X hLI hi hc hP hD hS hl kk)
      · exact lv_tableIn (off := 159) (tgt := 208) hx hb d_L_law_49 (by decide) (by decide) (by decide) (by decide) (lc_caught X hLI hi hc hP hD hS hl kk)
      · exact lv_tableIn (off := 246) (tgt := 295) hx hb d_L_law_49 (by decide) (by decide) (by decide) (by decide) (lc_out X hLI hi hc hP hD hS hl kk)
      · exact lv_tableIn (off := 337) (tgt := 386) hx hb d_L_law_49 (by decide) (by decide) (by decide) (by decide) (lc_arm X hLI hi hc hP hD hS hl kk)
      · exact lv_tableIn (off := 393) (tgt := 442) hx hb d_L_law_49 (by decide) (by decide) (by decide) (by decide) (lc_pair X hLI hi hc hP hD hS hl kk)
      · exact lv_tableIn (off := 461) (tgt := 510) hx hb d_L_law_49 (by decide) (by decide) (by decide) (by decide) (lc_pairs X hLI hi hc hP hD hS hl kk)
      · exact lv_tableIn (off := 474) (tgt := 523) hx hb d_L_law_49 (by decide) (by decide) (by decide) (by decide) (lc_difference X hLI hi hc hP hD hS hl kk)
      · exact lv_tableIn (off := 542) (tgt := 591) hx hb d_L_law_49 (by decide) (by decide) (by decide) (by decide) (lc_kept X hLI hi hc hP hD hS hl kk)
      · exact lv_tableIn (off := 598) (tgt := 647) hx hb d_L_law_49 (by decide) (by decide) (by decide) (by decide) (lc_sum X hLI hi hc hP hD hS hl kk)
      · exact lv_tableIn (off := 654) (tgt := 703) hx hb d_L_law_49 (by decide) (by decide) (by decide) (by decide) (lc_odds X hLI hi hc hP hD hS hl kk)
      · exact lv_tableIn (off := 721) (tgt := 770) hx hb d_L_law_49 (by decide) (by decide) (by decide) (by decide) (lc_rank X hLI hi hc hP hD hS hl kk)
      · exact lv_tableIn (off := 789) (tgt := 838) hx hb d_L_law_49 (by decide) (by decide) (by decide) (by decide) (lc_rankOdds X hLI hi hc hP hD hS hl kk)
      · exact lv_tableIn (off := 856) (tgt := 905) hx hb d_L_law_49 (by decide) (by decide) (by decide) (by decide) (lc_stopped X hLI hi hc hP hD hS hl kk)
      · exact lv_tableIn (off := 936) (tgt := 985) hx hb d_L_law_49 (by decide) (by decide) (by decide) (by decide) (lc_crossing X hLI hi hc hP hD hS hl kk)
      · exact lv_tableIn (off := 1027) (tgt := 1076) hx hb d_L_law_49 (by decide) (by decide) (by decide) (by decide) (lc_least X hLI hi hc hP hD hS hl kk)
      · exact lv_tableIn (off := 1119) (tgt := 1168) hx hb d_L_law_49 (by decide) (by decide) (by decide) (by decide) (lc_mean X hLI hi hc hP hD hS hl kk)
      · exact lv_tableIn (off := 1198) (tgt := 1247) hx hb d_L_law_49 (by decide) (by decide) (by decide) (by decide) (lc_weight X hLI hi hc hP hD hS hl kk)
      · exact lv_tableIn (off := 1277) (tgt := 1326) hx hb d_L_law_49 (by decide) (by decide) (by decide) (by decide) (lc_joined X hLI hi hc hP hD hS hl kk)
      · exact lv_tableIn (off := 1344) (tgt := 1393) hx hb d_L_law_49 (by decide) (by decide) (by decide) (by decide) (lc_reader X hLI hi hc hP hD hS hl kk)
      · exact lv_tableIn (off := 1431) (tgt := 1480) hx hb d_L_law_49 (by decide) (by decide) (by decide) (by decide) (lc_unlike X hLI hi hc hP hD hS hl kk)
      · exact lv_tableIn (off := 1487) (tgt := 1536) hx hb d_L_law_49 (by decide) (by decide) (by decide) (by decide) (lc_price X hLI hi hc hP hD hS hl kk)
      · exact lv_tableIn (off := 1535) (tgt := 1584) hx hb d_L_law_49 (by decide) (by decide) (by decide) (by decide) (lc_lost X hLI hi hc hP hD hS hl kk)
      · have hc9 : c9 < 32 := hc9
        refine lv_tableOut (tgt := 1598) hx hb d_L_law_49 (Or.inr ?_) (by decide) ?_
        · rw [iZ_t (by omega)]; omega
        · refine W.widen (k := 34 + k + 1) (n := 1469 + 6 * k + 6) (by omega) (by omega) ?_
          exact kk J rd pr G K M ov H locs ls hLI hP hD hS hl
