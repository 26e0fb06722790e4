/-! What the face throws, and when. -/
set_option maxHeartbeats 4000000 in
set_option maxRecDepth 100000 in
theorem x_D_haul1 {l : Launch} {D : va_G} (hl0 : l.stackTraces = false) {ad : Nat → Nat} {cI cZ cL : ClassId} {J : SJ} {rd : Nat → Int} {pr : Nat → Nat} {G : SH} {K : SK} {tl : va_W} (hI : JI J) {a : Int} (h : z32 a ∧ (a < 0 ∨ 4 ≤ a)) : zMt l D (tysW cI cZ cL) y_D_haul w_D_haul 9 141 [.ref (ad 0), .int (iZ (a))] (wdC ad cI cZ cL J rd pr G K tl) "java/lang/IndexOutOfBoundsException" := by
  refine z_ofX (by decide) (Nat.le_of_ble_eq_true rfl) ?_
  intro p e s m below meth c ls Z htab hP hK hT hSt hl
  obtain ⟨hx, hb, hr, hml, hown, hts, hE, hlocks⟩ := id Z
  have hl : lv_has ls 2 [(0, .ref (ad 0)), (1, .int (iZ (a)))] := hl
  obtain ⟨hn32, hk2, hpr, hct⟩ := id hI
  refine lv_iload_n hx hb d_D_haul_0 rfl (lv_at hl 1 rfl) ?_
  refine z_xS (As := [.int (iZ (a))]) (rest := []) Z (x_D_needShip hl0 (a := a) (by omega)) ⟨ml_D_43, sm_D_needShip, ini_D, co_D_needShip⟩ zd_D_needShip ⟨Nat.le_of_ble_eq_true rfl, Nat.le_of_ble_eq_true rfl⟩ hP hK hT hSt hl.1 rfl (Nat.le_of_ble_eq_true rfl) d_D_haul_1 ⟨Nat.le_of_ble_eq_true rfl, Nat.le_of_ble_eq_true rfl⟩ (fun q9 ce9 H9 hz9 hk9 hc9 hv9 hcl9 => ?_)
  exact z_xout Z htab hz9 hk9 hc9 hv9 hcl9

set_option maxHeartbeats 4000000 in
set_option maxRecDepth 100000 in
theorem x_D_haul2 {l : Launch} {D : va_G} (hl0 : l.stackTraces = false) {ad : Nat → Nat} {cI cZ cL : ClassId} {J : SJ} {rd : Nat → Int} {pr : Nat → Nat} {G : SH} {K : SK} {tl : va_W} (hI : JI J) {sh : Nat} (h : sh < 4) (h2 : jn J = 32) : zMt l D (tysW cI cZ cL) y_D_haul w_D_haul 9 141 [.ref (ad 0), .int (iZ ((sh : Nat) : Int))] (wdC ad cI cZ cL J rd pr G K tl) "java/lang/IllegalStateException" := by
  refine z_ofX (by decide) (Nat.le_of_ble_eq_true rfl) ?_
  intro p e s m below meth c ls Z htab hP hK hT hSt hl
  obtain ⟨hx, hb, hr, hml, hown, hts, hE, hlocks⟩ := id Z
  have hl : lv_has ls 2 [(0, .ref (ad 0)), (1, .int (iZ ((sh : Nat) : Int)))] := hl
  obtain ⟨hn32, hk2, hpr, hct⟩ := id hI
  refine lv_iload_n hx hb d_D_haul_0 rfl (lv_at hl 1 rfl) ?_
  refine z_callSR (As := [.int (iZ ((sh : Nat) : Int))]) (rest := []) zTB Z (k_D_needShip (a := ((sh : Nat) : Int)) (by omega)) ⟨ml_D_43, sm_D_needShip, ini_D, co_D_needShip⟩ zd_D_needShip ⟨Nat.le_of_ble_eq_true rfl, Nat.le_of_ble_eq_true rfl⟩ hP hK hl.1 rfl (Nat.le_of_ble_eq_true rfl) d_D_haul_1 ⟨Nat.zero_le _, Nat.zero_le _⟩ ?_
  refine W.eq (g2 := F0 m 4 ls []) rfl ?_
  refine lv_aload_n hx hb d_D_haul_4 rfl (lv_at hl 0 rfl) ?_
  refine va_get (D := D) (ci := 0) (v := .ref (ad 1)) (C := n_D) (T := f_D) (N := 5) hx hb hts in_D hown hK hP 0 rfl rfl 0 (by decide) (hts _ fl_D_14) (fun _ h9 => h9) rfl d_D_haul_5 ?_
  refine va_getN (D := D) (ci := 1) (v := .int (iZ ((jn J : Nat) : Int))) (C := n_J) (T := f_J) (N := 10) hx hb hts in_J hown hK hP 1 rfl rfl 1 (by decide) (hts _ fl_D_46) (fun _ h9 => h9) rfl d_D_haul_8 ?_
  refine lv_bipush (v := iZ ((32 : Nat) : Int)) hx hb d_D_haul_11 (by decide) ?_
  refine z_icmp_lt (a := ((jn J : Nat) : Int)) (b := ((32 : Nat) : Int)) (tgt := 26) hx hb (by omega) d_D_haul_13 (by decide) (fun q13 => ?_) (fun q13 => ?_)
  · skip
    exfalso; omega
  · skip
    obtain ⟨sa, hsa⟩ := hSt _ (List.mem_of_getElem? (i := 1) rfl)
    exact z_throwS (names := ["java/lang/RuntimeException", "java/lang/Exception"]) hl0 Z htab hT (by decide +kernel) (by decide +kernel) kl_D_50 ini_IllegalStateException (by decide +kernel) hsa hl.1 d_D_haul_16 d_D_haul_19 d_D_haul_20 d_D_haul_22 d_D_haul_25 (by decide) (Nat.le_of_ble_eq_true rfl) (by decide) (by decide)

set_option maxHeartbeats 4000000 in
set_option maxRecDepth 100000 in
theorem x_D_caught1 {l : Launch} {D : va_G} (hl0 : l.stackTraces = false) {ad : Nat → Nat} {cI cZ cL : ClassId} {J : SJ} {rd : Nat → Int} {pr : Nat → Nat} {G : SH} {K : SK} {tl : va_W} (hI : JI J) {a b c9 : Int} (h : z32 a ∧ (a < 0 ∨ ((jn J : Nat) : Int) ≤ a)) : zMt l D (tysW cI cZ cL) y_D_caught w_D_caught 9 142 [.ref (ad 0), .int (iZ (a)), .int (iZ (b)), .int (iZ (c9))] (wdC ad cI cZ cL J rd pr G K tl) "java/lang/IndexOutOfBoundsException" := by
  refine z_ofX (by decide) (Nat.le_of_ble_eq_true rfl) ?_
  intro p e s m below meth c ls Z htab hP hK hT hSt hl
  obtain ⟨hx, hb, hr, hml, hown, hts, hE, hlocks⟩ := id Z
  have hl : lv_has ls 4 [(0, .ref (ad 0)), (1, .int (iZ (a))), (2, .int (iZ (b))), (3, .int (iZ (c9)))] := hl
  obtain ⟨hn32, hk2, hpr, hct⟩ := id hI
  refine lv_aload_n hx hb d_D_caught_0 rfl (lv_at hl 0 rfl) ?_
  refine lv_iload_n hx hb d_D_caught_1 rfl (lv_at hl 1 rfl) ?_
  refine z_xV (As := [.int (iZ (a))]) (rest := []) Z (x_D_needHaul hl0 (a := a) (by omega)) ⟨ml_D_61, im_D_needHaul, se_D_needHaul, ini_D, co_D_needHaul⟩ zd_D_needHaul ⟨Nat.le_of_ble_eq_true rfl, Nat.le_of_ble_eq_true rfl⟩ hP hK hT hSt (ci := 0) (q0 := 0) rfl rfl rfl hl.1 rfl (Nat.le_of_ble_eq_true rfl) d_D_caught_2 ⟨Nat.le_of_ble_eq_true rfl, Nat.le_of_ble_eq_true rfl⟩ (fun q9 ce9 H9 hz9 hk9 hc9 hv9 hcl9 => ?_)
  exact z_xout Z htab hz9 hk9 hc9 hv9 hcl9

set_option maxHeartbeats 4000000 in
set_option maxRecDepth 100000 in
theorem x_D_caught2 {l : Launch} {D : va_G} (hl0 : l.stackTraces = false) {ad : Nat → Nat} {cI cZ cL : ClassId} {J : SJ} {rd : Nat → Int} {pr : Nat → Nat} {G : SH} {K : SK} {tl : va_W} (hI : JI J) {h : Nat} {b c9 : Int} (hh : h < jn J) (h2 : z32 b ∧ (b < 0 ∨ 3 ≤ b)) : zMt l D (tysW cI cZ cL) y_D_caught w_D_caught 9 142 [.ref (ad 0), .int (iZ ((h : Nat) : Int)), .int (iZ (b)), .int (iZ (c9))] (wdC ad cI cZ cL J rd pr G K tl) "java/lang/IndexOutOfBoundsException" := by
  refine z_ofX (by decide) (Nat.le_of_ble_eq_true rfl) ?_
  intro p e s m below meth c ls Z htab hP hK hT hSt hl
  obtain ⟨hx, hb, hr, hml, hown, hts, hE, hlocks⟩ := id Z
  have hl : lv_has ls 4 [(0, .ref (ad 0)), (1, .int (iZ ((h : Nat) : Int))), (2, .int (iZ (b))), (3, .int (iZ (c9)))] := hl
  obtain ⟨hn32, hk2, hpr, hct⟩ := id hI
  refine lv_aload_n hx hb d_D_caught_0 rfl (lv_at hl 0 rfl) ?_
  refine lv_iload_n hx hb d_D_caught_1 rfl (lv_at hl 1 rfl) ?_
  refine z_callVR (As := [.int (iZ ((h : Nat) : Int))]) (rest := []) zTB Z (k_D_needHaul (a := ((h : Nat) : Int)) (by omega)) ⟨ml_D_61, im_D_needHaul, se_D_needHaul, ini_D, co_D_needHaul⟩ zd_D_needHaul ⟨Nat.le_of_ble_eq_true rfl, Nat.le_of_ble_eq_true rfl⟩ hP hK (ci := 0) (q0 := 0) rfl rfl rfl hl.1 rfl (Nat.le_of_ble_eq_true rfl) d_D_caught_2 ⟨Nat.zero_le _, Nat.zero_le _⟩ ?_
  refine W.eq (g2 := F0 m 5 ls []) rfl ?_
  refine lv_iload_n hx hb d_D_caught_5 rfl (lv_at hl 2 rfl) ?_
  refine z_xS (As := [.int (iZ (b))]) (rest := []) Z (x_D_needKind hl0 (a := b) (by omega)) ⟨ml_D_64, sm_D_needKind, ini_D, co_D_needKind⟩ zd_D_needKind ⟨Nat.le_of_ble_eq_true rfl, Nat.le_of_ble_eq_true rfl⟩ hP hK hT hSt hl.1 rfl (Nat.le_of_ble_eq_true rfl) d_D_caught_6 ⟨Nat.le_of_ble_eq_true rfl, Nat.le_of_ble_eq_true rfl⟩ (fun q9 ce9 H9 hz9 hk9 hc9 hv9 hcl9 => ?_)
  exact z_xout Z htab hz9 hk9 hc9 hv9 hcl9

set_option maxHeartbeats 4000000 in
set_option maxRecDepth 100000 in
theorem x_D_caught3 {l : Launch} {D : va_G} (hl0 : l.stackTraces = false) {ad : Nat → Nat} {cI cZ cL : ClassId} {J : SJ} {rd : Nat → Int} {pr : Nat → Nat} {G : SH} {K : SK} {tl : va_W} (hI : JI J) {h kd : Nat} {c9 : Int} (hh : h < jn J) (hkd : kd < 3) (h2 : z32 c9 ∧ (c9 < 0 ∨ 1000 < c9)) : zMt l D (tysW cI cZ cL) y_D_caught w_D_caught 9 142 [.ref (ad 0), .int (iZ ((h : Nat) : Int)), .int (iZ ((kd : Nat) : Int)), .int (iZ (c9))] (wdC ad cI cZ cL J rd pr G K tl) "java/lang/IllegalArgumentException" := by
  refine z_ofX (by decide) (Nat.le_of_ble_eq_true rfl) ?_
  intro p e s m below meth c ls Z htab hP hK hT hSt hl
  obtain ⟨hx, hb, hr, hml, hown, hts, hE, hlocks⟩ := id Z
  have hl : lv_has ls 4 [(0, .ref (ad 0)), (1, .int (iZ ((h : Nat) : Int))), (2, .int (iZ ((kd : Nat) : Int))), (3, .int (iZ (c9)))] := hl
  obtain ⟨hn32, hk2, hpr, hct⟩ := id hI
  refine lv_aload_n hx hb d_D_caught_0 rfl (lv_at hl 0 rfl) ?_
  refine lv_iload_n hx hb d_D_caught_1 rfl (lv_at hl 1 rfl) ?_
  refine z_callVR (As := [.int (iZ ((h : Nat) : Int))]) (rest := []) zTB Z (k_D_needHaul (a := ((h : Nat) : Int)) (by omega)) ⟨ml_D_61, im_D_needHaul, se_D_needHaul, ini_D, co_D_needHaul⟩ zd_D_needHaul ⟨Nat.le_of_ble_eq_true rfl, Nat.le_of_ble_eq_true rfl⟩ hP hK (ci := 0) (q0 := 0) rfl rfl rfl hl.1 rfl (Nat.le_of_ble_eq_true rfl) d_D_caught_2 ⟨Nat.zero_le _, Nat.zero_le _⟩ ?_
  refine W.eq (g2 := F0 m 5 ls []) rfl ?_
  refine lv_iload_n hx hb d_D_caught_5 rfl (lv_at hl 2 rfl) ?_
  refine z_callSR (As := [.int (iZ ((kd : Nat) : Int))]) (rest := []) zTB Z (k_D_needKind (a := ((kd : Nat) : Int)) (by omega)) ⟨ml_D_64, sm_D_needKind, ini_D, co_D_needKind⟩ zd_D_needKind ⟨Nat.le_of_ble_eq_true rfl, Nat.le_of_ble_eq_true rfl⟩ hP hK hl.1 rfl (Nat.le_of_ble_eq_true rfl) d_D_caught_6 ⟨Nat.zero_le _, Nat.zero_le _⟩ ?_
  refine W.eq (g2 := F0 m 9 ls []) rfl ?_
  refine lv_iload_n hx hb d_D_caught_9 rfl (lv_at hl 3 rfl) ?_
  refine lv_iconst (v := iZ ((0 : Nat) : Int)) hx hb d_D_caught_10 (by decide) ?_
  refine lv_sipush (v := iZ ((1000 : Nat) : Int)) hx hb d_D_caught_11 (by decide) ?_
  refine z_xS (As := [.int (iZ (c9)), .int (iZ ((0 : Nat) : Int)), .int (iZ ((1000 : Nat) : Int))]) (rest := []) Z (x_D_needNumber hl0 (a := c9) (b := ((0 : Nat) : Int)) (c9 := ((1000 : Nat) : Int)) (by omega)) ⟨ml_D_67, sm_D_needNumber, ini_D, co_D_needNumber⟩ zd_D_needNumber ⟨Nat.le_of_ble_eq_true rfl, Nat.le_of_ble_eq_true rfl⟩ hP hK hT hSt hl.1 rfl (Nat.le_of_ble_eq_true rfl) d_D_caught_14 ⟨Nat.le_of_ble_eq_true rfl, Nat.le_of_ble_eq_true rfl⟩ (fun q9 ce9 H9 hz9 hk9 hc9 hv9 hcl9 => ?_)
  exact z_xout Z htab hz9 hk9 hc9 hv9 hcl9

set_option maxHeartbeats 4000000 in
set_option maxRecDepth 100000 in
theorem x_D_out1 {l : Launch} {D : va_G} (hl0 : l.stackTraces = false) {ad : Nat → Nat} {cI cZ cL : ClassId} {J : SJ} {rd : Nat → Int} {pr : Nat → Nat} {G : SH} {K : SK} {tl : va_W} (hI : JI J) {a : Int} {on : Bool} (h : z32 a ∧ (a < 0 ∨ 4 ≤ a)) : zMt l D (tysW cI cZ cL) y_D_out w_D_out 9 141 [.ref (ad 0), .int (iZ (a)), .int (bI (on))] (wdC ad cI cZ cL J rd pr G K tl) "java/lang/IndexOutOfBoundsException" := by
  refine z_ofX (by decide) (Nat.le_of_ble_eq_true rfl) ?_
  intro p e s m below meth c ls Z htab hP hK hT hSt hl
  obtain ⟨hx, hb, hr, hml, hown, hts, hE, hlocks⟩ := id Z
  have hl : lv_has ls 3 [(0, .ref (ad 0)), (1, .int (iZ (a))), (2, .int (bI (on)))] := hl
  obtain ⟨hn32, hk2, hpr, hct⟩ := id hI
  refine lv_iload_n hx hb d_D_out_0 rfl (lv_at hl 1 rfl) ?_
  refine z_xS (As := [.int (iZ (a))]) (rest := []) Z (x_D_needShip hl0 (a := a) (by omega)) ⟨ml_D_43, sm_D_needShip, ini_D, co_D_needShip⟩ zd_D_needShip ⟨Nat.le_of_ble_eq_true rfl, Nat.le_of_ble_eq_true rfl⟩ hP hK hT hSt hl.1 rfl (Nat.le_of_ble_eq_true rfl) d_D_out_1 ⟨Nat.le_of_ble_eq_true rfl, Nat.le_of_ble_eq_true rfl⟩ (fun q9 ce9 H9 hz9 hk9 hc9 hv9 hcl9 => ?_)
  exact z_xout Z htab hz9 hk9 hc9 hv9 hcl9

set_option maxHeartbeats 4000000 in
set_option maxRecDepth 100000 in
theorem x_D_arm1 {l : Launch} {D : va_G} (hl0 : l.stackTraces = false) {ad : Nat → Nat} {cI cZ cL : ClassId} {J : SJ} {rd : Nat → Int} {pr : Nat → Nat} {G : SH} {K : SK} {tl : va_W} (hI : JI J) {a : Int} (h : z32 a ∧ (a < 0 ∨ ((jn J : Nat) : Int) ≤ a)) : zMt l D (tysW cI cZ cL) y_D_arm w_D_arm 9 142 [.ref (ad 0), .int (iZ (a))] (wdC ad cI cZ cL J rd pr G K tl) "java/lang/IndexOutOfBoundsException" := by
  refine z_ofX (by decide) (Nat.le_of_ble_eq_true rfl) ?_
  intro p e s m below meth c ls Z htab hP hK hT hSt hl
  obtain ⟨hx, hb, hr, hml, hown, hts, hE, hlocks⟩ := id Z
  have hl : lv_has ls 2 [(0, .ref (ad 0)), (1, .int (iZ (a)))] := hl
  obtain ⟨hn32, hk2, hpr, hct⟩ := id hI
  refine lv_aload_n hx hb d_D_arm_0 rfl (lv_at hl 0 rfl) ?_
  refine lv_iload_n hx hb d_D_arm_1 rfl (lv_at hl 1 rfl) ?_
  refine z_xV (As := [.int (iZ (a))]) (rest := []) Z (x_D_needHaul hl0 (a := a) (by omega)) ⟨ml_D_61, im_D_needHaul, se_D_needHaul, ini_D, co_D_needHaul⟩ zd_D_needHaul ⟨Nat.le_of_ble_eq_true rfl, Nat.le_of_ble_eq_true rfl⟩ hP hK hT hSt (ci := 0) (q0 := 0) rfl rfl rfl hl.1 rfl (Nat.le_of_ble_eq_true rfl) d_D_arm_2 ⟨Nat.le_of_ble_eq_true rfl, Nat.le_of_ble_eq_true rfl⟩ (fun q9 ce9 H9 hz9 hk9 hc9 hv9 hcl9 => ?_)
  exact z_xout Z htab hz9 hk9 hc9 hv9 hcl9

set_option maxHeartbeats 4000000 in
set_option maxRecDepth 100000 in
theorem x_D_pair1 {l : Launch} {D : va_G} (hl0 : l.stackTraces = false) {ad : Nat → Nat} {cI cZ cL : ClassId} {J : SJ} {rd : Nat → Int} {pr : Nat → Nat} {G : SH} {K : SK} {tl : va_W} (hI : JI J) {a b : Int} (h : z32 a ∧ (a < 0 ∨ ((jk J : Nat) : Int) ≤ a)) : zMt l D (tysW cI cZ cL) y_D_pair w_D_pair 9 142 [.ref (ad 0), .int (iZ (a)), .int (iZ (b))] (wdC ad cI cZ cL J rd pr G K tl) "java/lang/IndexOutOfBoundsException" := by
  refine z_ofX (by decide) (Nat.le_of_ble_eq_true rfl) ?_
  intro p e s m below meth c ls Z htab hP hK hT hSt hl
  obtain ⟨hx, hb, hr, hml, hown, hts, hE, hlocks⟩ := id Z
  have hl : lv_has ls 3 [(0, .ref (ad 0)), (1, .int (iZ (a))), (2, .int (iZ (b)))] := hl
  obtain ⟨hn32, hk2, hpr, hct⟩ := id hI
  refine lv_aload_n hx hb d_D_pair_0 rfl (lv_at hl 0 rfl) ?_
  refine lv_iload_n hx hb d_D_pair_1 rfl (lv_at hl 1 rfl) ?_
  refine z_xV (As := [.int (iZ (a))]) (rest := []) Z (x_D_needPair hl0 (a := a) (by omega)) ⟨ml_D_83, im_D_needPair, se_D_needPair, ini_D, co_D_needPair⟩ zd_D_needPair ⟨Nat.le_of_ble_eq_true rfl, Nat.le_of_ble_eq_true rfl⟩ hP hK hT hSt (ci := 0) (q0 := 0) rfl rfl rfl hl.1 rfl (Nat.le_of_ble_eq_true rfl) d_D_pair_2 ⟨Nat.le_of_ble_eq_true rfl, Nat.le_of_ble_eq_true rfl⟩ (fun q9 ce9 H9 hz9 hk9 hc9 hv9 hcl9 => ?_)
  exact z_xout Z htab hz9 hk9 hc9 hv9 hcl9

set_option maxHeartbeats 4000000 in
set_option maxRecDepth 100000 in
theorem x_D_pair2 {l : Launch} {D : va_G} (hl0 : l.stackTraces = false) {ad : Nat → Nat} {cI cZ cL : ClassId} {J : SJ} {rd : Nat → Int} {pr : Nat → Nat} {G : SH} {K : SK} {tl : va_W} (hI : JI J) {pp : Nat} {b : Int} (hp : pp < jk J) (h : z32 b ∧ (b < 0 ∨ 3 ≤ b)) : zMt l D (tysW cI cZ cL) y_D_pair w_D_pair 9 142 [.ref (ad 0), .int (iZ ((pp : Nat) : Int)), .int (iZ (b))] (wdC ad cI cZ cL J rd pr G K tl) "java/lang/IndexOutOfBoundsException" := by
  refine z_ofX (by decide) (Nat.le_of_ble_eq_true rfl) ?_
  intro p e s m below meth c ls Z htab hP hK hT hSt hl
  obtain ⟨hx, hb, hr, hml, hown, hts, hE, hlocks⟩ := id Z
  have hl : lv_has ls 3 [(0, .ref (ad 0)), (1, .int (iZ ((pp : Nat) : Int))), (2, .int (iZ (b)))] := hl
  obtain ⟨hn32, hk2, hpr, hct⟩ := id hI
  refine lv_aload_n hx hb d_D_pair_0 rfl (lv_at hl 0 rfl) ?_
  refine lv_iload_n hx hb d_D_pair_1 rfl (lv_at hl 1 rfl) ?_
  refine z_callVR (As := [.int (iZ ((pp : Nat) : Int))]) (rest := []) zTB Z (k_D_needPair (a := ((pp : Nat) : Int)) (by omega)) ⟨ml_D_83, im_D_needPair, se_D_needPair, ini_D, co_D_needPair⟩ zd_D_needPair ⟨Nat.le_of_ble_eq_true rfl, Nat.le_of_ble_eq_true rfl⟩ hP hK (ci := 0) (q0 := 0) rfl rfl rfl hl.1 rfl (Nat.le_of_ble_eq_true rfl) d_D_pair_2 ⟨Nat.zero_le _, Nat.zero_le _⟩ ?_
  refine W.eq (g2 := F0 m 5 ls []) rfl ?_
  refine lv_iload_n hx hb d_D_pair_5 rfl (lv_at hl 2 rfl) ?_
  refine lv_iconst (v := iZ ((3 : Nat) : Int)) hx hb d_D_pair_6 (by decide) ?_
  refine z_xS (As := [.int (iZ (b)), .int (iZ ((3 : Nat) : Int))]) (rest := []) Z (x_D_needIndex hl0 (a := b) (b := ((3 : Nat) : Int)) (by omega)) ⟨ml_D_86, sm_D_needIndex, ini_D, co_D_needIndex⟩ zd_D_needIndex ⟨Nat.le_of_ble_eq_true rfl, Nat.le_of_ble_eq_true rfl⟩ hP hK hT hSt hl.1 rfl (Nat.le_of_ble_eq_true rfl) d_D_pair_7 ⟨Nat.le_of_ble_eq_true rfl, Nat.le_of_ble_eq_true rfl⟩ (fun q9 ce9 H9 hz9 hk9 hc9 hv9 hcl9 => ?_)
  exact z_xout Z htab hz9 hk9 hc9 hv9 hcl9

set_option maxHeartbeats 4000000 in
set_option maxRecDepth 100000 in
theorem x_D_difference1 {l : Launch} {D : va_G} (hl0 : l.stackTraces = false) {ad : Nat → Nat} {cI cZ cL : ClassId} {J : SJ} {rd : Nat → Int} {pr : Nat → Nat} {G : SH} {K : SK} {tl : va_W} (hI : JI J) {a b : Int} (h : z32 a ∧ (a < 0 ∨ ((jk J : Nat) : Int) ≤ a)) : zMt l D (tysW cI cZ cL) y_D_difference w_D_difference 9 142 [.ref (ad 0), .int (iZ (a)), .int (iZ (b))] (wdC ad cI cZ cL J rd pr G K tl) "java/lang/IndexOutOfBoundsException" := by
  refine z_ofX (by decide) (Nat.le_of_ble_eq_true rfl) ?_
  intro p e s m below meth c ls Z htab hP hK hT hSt hl
  obtain ⟨hx, hb, hr, hml, hown, hts, hE, hlocks⟩ := id Z
  have hl : lv_has ls 3 [(0, .ref (ad 0)), (1, .int (iZ (a))), (2, .int (iZ (b)))] := hl
  obtain ⟨hn32, hk2, hpr, hct⟩ := id hI
  refine lv_aload_n hx hb d_D_difference_0 rfl (lv_at hl 0 rfl) ?_
  refine lv_iload_n hx hb d_D_difference_1 rfl (lv_at hl 1 rfl) ?_
  refine z_xV (As := [.int (iZ (a))]) (rest := []) Z (x_D_needPair hl0 (a := a) (by omega)) ⟨ml_D_83, im_D_needPair, se_D_needPair, ini_D, co_D_needPair⟩ zd_D_needPair ⟨Nat.le_of_ble_eq_true rfl, Nat.le_of_ble_eq_true rfl⟩ hP hK hT hSt (ci := 0) (q0 := 0) rfl rfl rfl hl.1 rfl (Nat.le_of_ble_eq_true rfl) d_D_difference_2 ⟨Nat.le_of_ble_eq_true rfl, Nat.le_of_ble_eq_true rfl⟩ (fun q9 ce9 H9 hz9 hk9 hc9 hv9 hcl9 => ?_)
  exact z_xout Z htab hz9 hk9 hc9 hv9 hcl9

set_option maxHeartbeats 4000000 in
set_option maxRecDepth 100000 in
theorem x_D_difference2 {l : Launch} {D : va_G} (hl0 : l.stackTraces = false) {ad : Nat → Nat} {cI cZ cL : ClassId} {J : SJ} {rd : Nat → Int} {pr : Nat → Nat} {G : SH} {K : SK} {tl : va_W} (hI : JI J) {pp : Nat} {b : Int} (hp : pp < jk J) (h : z32 b ∧ (b < 0 ∨ 3 ≤ b)) : zMt l D (tysW cI cZ cL) y_D_difference w_D_difference 9 142 [.ref (ad 0), .int (iZ ((pp : Nat) : Int)), .int (iZ (b))] (wdC ad cI cZ cL J rd pr G K tl) "java/lang/IndexOutOfBoundsException" := by
  refine z_ofX (by decide) (Nat.le_of_ble_eq_true rfl) ?_
  intro p e s m below meth c ls Z htab hP hK hT hSt hl
  obtain ⟨hx, hb, hr, hml, hown, hts, hE, hlocks⟩ := id Z
  have hl : lv_has ls 3 [(0, .ref (ad 0)), (1, .int (iZ ((pp : Nat) : Int))), (2, .int (iZ (b)))] := hl
  obtain ⟨hn32, hk2, hpr, hct⟩ := id hI
  refine lv_aload_n hx hb d_D_difference_0 rfl (lv_at hl 0 rfl) ?_
  refine lv_iload_n hx hb d_D_difference_1 rfl (lv_at hl 1 rfl) ?_
  refine z_callVR (As := [.int (iZ ((pp : Nat) : Int))]) (rest := []) zTB Z (k_D_needPair (a := ((pp : Nat) : Int)) (by omega)) ⟨ml_D_83, im_D_needPair, se_D_needPair, ini_D, co_D_needPair⟩ zd_D_needPair ⟨Nat.le_of_ble_eq_true rfl, Nat.le_of_ble_eq_true rfl⟩ hP hK (ci := 0) (q0 := 0) rfl rfl rfl hl.1 rfl (Nat.le_of_ble_eq_true rfl) d_D_difference_2 ⟨Nat.zero_le _, Nat.zero_le _⟩ ?_
  refine W.eq (g2 := F0 m 5 ls []) rfl ?_
  refine lv_iload_n hx hb d_D_difference_5 rfl (lv_at hl 2 rfl) ?_
  refine z_xS (As := [.int (iZ (b))]) (rest := []) Z (x_D_needKind hl0 (a := b) (by omega)) ⟨ml_D_64, sm_D_needKind, ini_D, co_D_needKind⟩ zd_D_needKind ⟨Nat.le_of_ble_eq_true rfl, Nat.le_of_ble_eq_true rfl⟩ hP hK hT hSt hl.1 rfl (Nat.le_of_ble_eq_true rfl) d_D_difference_6 ⟨Nat.le_of_ble_eq_true rfl, Nat.le_of_ble_eq_true rfl⟩ (fun q9 ce9 H9 hz9 hk9 hc9 hv9 hcl9 => ?_)
  exact z_xout Z htab hz9 hk9 hc9 hv9 hcl9

set_option maxHeartbeats 4000000 in
set_option maxRecDepth 100000 in
theorem x_D_rank1 {l : Launch} {D : va_G} (hl0 : l.stackTraces = false) {ad : Nat → Nat} {cI cZ cL : ClassId} {J : SJ} {rd : Nat → Int} {pr : Nat → Nat} {G : SH} {K : SK} {tl : va_W} (hI : JI J) {a b : Int} (h : z32 a ∧ (a < 0 ∨ ((jk J : Nat) : Int) ≤ a)) : zMt l D (tysW cI cZ cL) y_D_rank w_D_rank 9 142 [.ref (ad 0), .int (iZ (a)), .int (iZ (b))] (wdC ad cI cZ cL J rd pr G K tl) "java/lang/IndexOutOfBoundsException" := by
  refine z_ofX (by decide) (Nat.le_of_ble_eq_true rfl) ?_
  intro p e s m below meth c ls Z htab hP hK hT hSt hl
  obtain ⟨hx, hb, hr, hml, hown, hts, hE, hlocks⟩ := id Z
  have hl : lv_has ls 3 [(0, .ref (ad 0)), (1, .int (iZ (a))), (2, .int (iZ (b)))] := hl
  obtain ⟨hn32, hk2, hpr, hct⟩ := id hI
  refine lv_aload_n hx hb d_D_rank_0 rfl (lv_at hl 0 rfl) ?_
  refine lv_iload_n hx hb d_D_rank_1 rfl (lv_at hl 1 rfl) ?_
  refine z_xV (As := [.int (iZ (a))]) (rest := []) Z (x_D_needPair hl0 (a := a) (by omega)) ⟨ml_D_83, im_D_needPair, se_D_needPair, ini_D, co_D_needPair⟩ zd_D_needPair ⟨Nat.le_of_ble_eq_true rfl, Nat.le_of_ble_eq_true rfl⟩ hP hK hT hSt (ci := 0) (q0 := 0) rfl rfl rfl hl.1 rfl (Nat.le_of_ble_eq_true rfl) d_D_rank_2 ⟨Nat.le_of_ble_eq_true rfl, Nat.le_of_ble_eq_true rfl⟩ (fun q9 ce9 H9 hz9 hk9 hc9 hv9 hcl9 => ?_)
  exact z_xout Z htab hz9 hk9 hc9 hv9 hcl9

set_option maxHeartbeats 4000000 in
set_option maxRecDepth 100000 in
theorem x_D_rank2 {l : Launch} {D : va_G} (hl0 : l.stackTraces = false) {ad : Nat → Nat} {cI cZ cL : ClassId} {J : SJ} {rd : Nat → Int} {pr : Nat → Nat} {G : SH} {K : SK} {tl : va_W} (hI : JI J) {pp : Nat} {b : Int} (hp : pp < jk J) (h : z32 b ∧ (b < 0 ∨ 3 ≤ b)) : zMt l D (tysW cI cZ cL) y_D_rank w_D_rank 9 142 [.ref (ad 0), .int (iZ ((pp : Nat) : Int)), .int (iZ (b))] (wdC ad cI cZ cL J rd pr G K tl) "java/lang/IndexOutOfBoundsException" := by
  refine z_ofX (by decide) (Nat.le_of_ble_eq_true rfl) ?_
  intro p e s m below meth c ls Z htab hP hK hT hSt hl
  obtain ⟨hx, hb, hr, hml, hown, hts, hE, hlocks⟩ := id Z
  have hl : lv_has ls 3 [(0, .ref (ad 0)), (1, .int (iZ ((pp : Nat) : Int))), (2, .int (iZ (b)))] := hl
  obtain ⟨hn32, hk2, hpr, hct⟩ := id hI
  refine lv_aload_n hx hb d_D_rank_0 rfl (lv_at hl 0 rfl) ?_
  refine lv_iload_n hx hb d_D_rank_1 rfl (lv_at hl 1 rfl) ?_
  refine z_callVR (As := [.int (iZ ((pp : Nat) : Int))]) (rest := []) zTB Z (k_D_needPair (a := ((pp : Nat) : Int)) (by omega)) ⟨ml_D_83, im_D_needPair, se_D_needPair, ini_D, co_D_needPair⟩ zd_D_needPair ⟨Nat.le_of_ble_eq_true rfl, Nat.le_of_ble_eq_true rfl⟩ hP hK (ci := 0) (q0 := 0) rfl rfl rfl hl.1 rfl (Nat.le_of_ble_eq_true rfl) d_D_rank_2 ⟨Nat.zero_le _, Nat.zero_le _⟩ ?_
  refine W.eq (g2 := F0 m 5 ls []) rfl ?_
  refine lv_iload_n hx hb d_D_rank_5 rfl (lv_at hl 2 rfl) ?_
  refine z_xS (As := [.int (iZ (b))]) (rest := []) Z (x_D_needKind hl0 (a := b) (by omega)) ⟨ml_D_64, sm_D_needKind, ini_D, co_D_needKind⟩ zd_D_needKind ⟨Nat.le_of_ble_eq_true rfl, Nat.le_of_ble_eq_true rfl⟩ hP hK hT hSt hl.1 rfl (Nat.le_of_ble_eq_true rfl) d_D_rank_6 ⟨Nat.le_of_ble_eq_true rfl, Nat.le_of_ble_eq_true rfl⟩ (fun q9 ce9 H9 hz9 hk9 hc9 hv9 hcl9 => ?_)
  exact z_xout Z htab hz9 hk9 hc9 hv9 hcl9

set_option maxHeartbeats 4000000 in
set_option maxRecDepth 100000 in
theorem x_D_kept1 {l : Launch} {D : va_G} (hl0 : l.stackTraces = false) {ad : Nat → Nat} {cI cZ cL : ClassId} {J : SJ} {rd : Nat → Int} {pr : Nat → Nat} {G : SH} {K : SK} {tl : va_W} (hI : JI J) {a : Int} (h : z32 a ∧ (a < 0 ∨ 3 ≤ a)) : zMt l D (tysW cI cZ cL) y_D_kept w_D_kept 9 141 [.ref (ad 0), .int (iZ (a))] (wdC ad cI cZ cL J rd pr G K tl) "java/lang/IndexOutOfBoundsException" := by
  refine z_ofX (by decide) (Nat.le_of_ble_eq_true rfl) ?_
  intro p e s m below meth c ls Z htab hP hK hT hSt hl
  obtain ⟨hx, hb, hr, hml, hown, hts, hE, hlocks⟩ := id Z
  have hl : lv_has ls 2 [(0, .ref (ad 0)), (1, .int (iZ (a)))] := hl
  obtain ⟨hn32, hk2, hpr, hct⟩ := id hI
  refine lv_iload_n hx hb d_D_kept_0 rfl (lv_at hl 1 rfl) ?_
  refine z_xS (As := [.int (iZ (a))]) (rest := []) Z (x_D_needKind hl0 (a := a) (by omega)) ⟨ml_D_64, sm_D_needKind, ini_D, co_D_needKind⟩ zd_D_needKind ⟨Nat.le_of_ble_eq_true rfl, Nat.le_of_ble_eq_true rfl⟩ hP hK hT hSt hl.1 rfl (Nat.le_of_ble_eq_true rfl) d_D_kept_1 ⟨Nat.le_of_ble_eq_true rfl, Nat.le_of_ble_eq_true rfl⟩ (fun q9 ce9 H9 hz9 hk9 hc9 hv9 hcl9 => ?_)
  exact z_xout Z htab hz9 hk9 hc9 hv9 hcl9

set_option maxHeartbeats 4000000 in
set_option maxRecDepth 100000 in
theorem x_D_sum1 {l : Launch} {D : va_G} (hl0 : l.stackTraces = false) {ad : Nat → Nat} {cI cZ cL : ClassId} {J : SJ} {rd : Nat → Int} {pr : Nat → Nat} {G : SH} {K : SK} {tl : va_W} (hI : JI J) {a : Int} (h : z32 a ∧ (a < 0 ∨ 3 ≤ a)) : zMt l D (tysW cI cZ cL) y_D_sum w_D_sum 9 141 [.ref (ad 0), .int (iZ (a))] (wdC ad cI cZ cL J rd pr G K tl) "java/lang/IndexOutOfBoundsException" := by
  refine z_ofX (by decide) (Nat.le_of_ble_eq_true rfl) ?_
  intro p e s m below meth c ls Z htab hP hK hT hSt hl
  obtain ⟨hx, hb, hr, hml, hown, hts, hE, hlocks⟩ := id Z
  have hl : lv_has ls 2 [(0, .ref (ad 0)), (1, .int (iZ (a)))] := hl
  obtain ⟨hn32, hk2, hpr, hct⟩ := id hI
  refine lv_iload_n hx hb d_D_sum_0 rfl (lv_at hl 1 rfl) ?_
  refine z_xS (As := [.int (iZ (a))]) (rest := []) Z (x_D_needKind hl0 (a := a) (by omega)) ⟨ml_D_64, sm_D_needKind, ini_D, co_D_needKind⟩ zd_D_needKind ⟨Nat.le_of_ble_eq_true rfl, Nat.le_of_ble_eq_true rfl⟩ hP hK hT hSt hl.1 rfl (Nat.le_of_ble_eq_true rfl) d_D_sum_1 ⟨Nat.le_of_ble_eq_true rfl, Nat.le_of_ble_eq_true rfl⟩ (fun q9 ce9 H9 hz9 hk9 hc9 hv9 hcl9 => ?_)
  exact z_xout Z htab hz9 hk9 hc9 hv9 hcl9

set_option maxHeartbeats 4000000 in
set_option maxRecDepth 100000 in
theorem x_D_odds1 {l : Launch} {D : va_G} (hl0 : l.stackTraces = false) {ad : Nat → Nat} {cI cZ cL : ClassId} {J : SJ} {rd : Nat → Int} {pr : Nat → Nat} {G : SH} {K : SK} {tl : va_W} (hI : JI J) {a b : Int} (h : z32 a ∧ (a < 0 ∨ 3 ≤ a)) : zMt l D (tysW cI cZ cL) y_D_odds w_D_odds 9 141 [.ref (ad 0), .int (iZ (a)), .int (iZ (b))] (wdC ad cI cZ cL J rd pr G K tl) "java/lang/IndexOutOfBoundsException" := by
  refine z_ofX (by decide) (Nat.le_of_ble_eq_true rfl) ?_
  intro p e s m below meth c ls Z htab hP hK hT hSt hl
  obtain ⟨hx, hb, hr, hml, hown, hts, hE, hlocks⟩ := id Z
  have hl : lv_has ls 5 [(0, .ref (ad 0)), (1, .int (iZ (a))), (2, .int (iZ (b)))] := hl
  obtain ⟨hn32, hk2, hpr, hct⟩ := id hI
  refine lv_iload_n hx hb d_D_odds_0 rfl (lv_at hl 1 rfl) ?_
  refine z_xS (As := [.int (iZ (a))]) (rest := []) Z (x_D_needKind hl0 (a := a) (by omega)) ⟨ml_D_64, sm_D_needKind, ini_D, co_D_needKind⟩ zd_D_needKind ⟨Nat.le_of_ble_eq_true rfl, Nat.le_of_ble_eq_true rfl⟩ hP hK hT hSt hl.1 rfl (Nat.le_of_ble_eq_true rfl) d_D_odds_1 ⟨Nat.le_of_ble_eq_true rfl, Nat.le_of_ble_eq_true rfl⟩ (fun q9 ce9 H9 hz9 hk9 hc9 hv9 hcl9 => ?_)
  exact z_xout Z htab hz9 hk9 hc9 hv9 hcl9

set_option maxHeartbeats 4000000 in
set_option maxRecDepth 100000 in
theorem x_D_odds2 {l : Launch} {D : va_G} (hl0 : l.stackTraces = false) {ad : Nat → Nat} {cI cZ cL : ClassId} {J : SJ} {rd : Nat → Int} {pr : Nat → Nat} {G : SH} {K : SK} {tl : va_W} (hI : JI J) {kd : Nat} {b : Int} (hkd : kd < 3) (h : z32 b ∧ (b < 0 ∨ 2 ≤ b)) : zMt l D (tysW cI cZ cL) y_D_odds w_D_odds 9 141 [.ref (ad 0), .int (iZ ((kd : Nat) : Int)), .int (iZ (b))] (wdC ad cI cZ cL J rd pr G K tl) "java/lang/IndexOutOfBoundsException" := by
  refine z_ofX (by decide) (Nat.le_of_ble_eq_true rfl) ?_
  intro p e s m below meth c ls Z htab hP hK hT hSt hl
  obtain ⟨hx, hb, hr, hml, hown, hts, hE, hlocks⟩ := id Z
  have hl : lv_has ls 5 [(0, .ref (ad 0)), (1, .int (iZ ((kd : Nat) : Int))), (2, .int (iZ (b)))] := hl
  obtain ⟨hn32, hk2, hpr, hct⟩ := id hI
  refine lv_iload_n hx hb d_D_odds_0 rfl (lv_at hl 1 rfl) ?_
  refine z_callSR (As := [.int (iZ ((kd : Nat) : Int))]) (rest := []) zTB Z (k_D_needKind (a := ((kd : Nat) : Int)) (by omega)) ⟨ml_D_64, sm_D_needKind, ini_D, co_D_needKind⟩ zd_D_needKind ⟨Nat.le_of_ble_eq_true rfl, Nat.le_of_ble_eq_true rfl⟩ hP hK hl.1 rfl (Nat.le_of_ble_eq_true rfl) d_D_odds_1 ⟨Nat.zero_le _, Nat.zero_le _⟩ ?_
  refine W.eq (g2 := F0 m 4 ls []) rfl ?_
  refine lv_iload_n hx hb d_D_odds_4 rfl (lv_at hl 2 rfl) ?_
  refine z_xS (As := [.int (iZ (b))]) (rest := []) Z (x_D_needPart hl0 (a := b) (by omega)) ⟨ml_D_112, sm_D_needPart, ini_D, co_D_needPart⟩ zd_D_needPart ⟨Nat.le_of_ble_eq_true rfl, Nat.le_of_ble_eq_true rfl⟩ hP hK hT hSt hl.1 rfl (Nat.le_of_ble_eq_true rfl) d_D_odds_5 ⟨Nat.le_of_ble_eq_true rfl, Nat.le_of_ble_eq_true rfl⟩ (fun q9 ce9 H9 hz9 hk9 hc9 hv9 hcl9 => ?_)
  exact z_xout Z htab hz9 hk9 hc9 hv9 hcl9

set_option maxHeartbeats 4000000 in
set_option maxRecDepth 100000 in
theorem x_D_rankOdds1 {l : Launch} {D : va_G} (hl0 : l.stackTraces = false) {ad : Nat → Nat} {cI cZ cL : ClassId} {J : SJ} {rd : Nat → Int} {pr : Nat → Nat} {G : SH} {K : SK} {tl : va_W} (hI : JI J) {a b : Int} (h : z32 a ∧ (a < 0 ∨ 3 ≤ a)) : zMt l D (tysW cI cZ cL) y_D_rankOdds w_D_rankOdds 9 141 [.ref (ad 0), .int (iZ (a)), .int (iZ (b))] (wdC ad cI cZ cL J rd pr G K tl) "java/lang/IndexOutOfBoundsException" := by
  refine z_ofX (by decide) (Nat.le_of_ble_eq_true rfl) ?_
  intro p e s m below meth c ls Z htab hP hK hT hSt hl
  obtain ⟨hx, hb, hr, hml, hown, hts, hE, hlocks⟩ := id Z
  have hl : lv_has ls 5 [(0, .ref (ad 0)), (1, .int (iZ (a))), (2, .int (iZ (b)))] := hl
  obtain ⟨hn32, hk2, hpr, hct⟩ := id hI
  refine lv_iload_n hx hb d_D_rankOdds_0 rfl (lv_at hl 1 rfl) ?_
  refine z_xS (As := [.int (iZ (a))]) (rest := []) Z (x_D_needKind hl0 (a := a) (by omega)) ⟨ml_D_64, sm_D_needKind, ini_D, co_D_needKind⟩ zd_D_needKind ⟨Nat.le_of_ble_eq_true rfl, Nat.le_of_ble_eq_true rfl⟩ hP hK hT hSt hl.1 rfl (Nat.le_of_ble_eq_true rfl) d_D_rankOdds_1 ⟨Nat.le_of_ble_eq_true rfl, Nat.le_of_ble_eq_true rfl⟩ (fun q9 ce9 H9 hz9 hk9 hc9 hv9 hcl9 => ?_)
  exact z_xout Z htab hz9 hk9 hc9 hv9 hcl9

set_option maxHeartbeats 4000000 in
set_option maxRecDepth 100000 in
theorem x_D_rankOdds2 {l : Launch} {D : va_G} (hl0 : l.stackTraces = false) {ad : Nat → Nat} {cI cZ cL : ClassId} {J : SJ} {rd : Nat → Int} {pr : Nat → Nat} {G : SH} {K : SK} {tl : va_W} (hI : JI J) {kd : Nat} {b : Int} (hkd : kd < 3) (h : z32 b ∧ (b < 0 ∨ 2 ≤ b)) : zMt l D (tysW cI cZ cL) y_D_rankOdds w_D_rankOdds 9 141 [.ref (ad 0), .int (iZ ((kd : Nat) : Int)), .int (iZ (b))] (wdC ad cI cZ cL J rd pr G K tl) "java/lang/IndexOutOfBoundsException" := by
  refine z_ofX (by decide) (Nat.le_of_ble_eq_true rfl) ?_
  intro p e s m below meth c ls Z htab hP hK hT hSt hl
  obtain ⟨hx, hb, hr, hml, hown, hts, hE, hlocks⟩ := id Z
  have hl : lv_has ls 5 [(0, .ref (ad 0)), (1, .int (iZ ((kd : Nat) : Int))), (2, .int (iZ (b)))] := hl
  obtain ⟨hn32, hk2, hpr, hct⟩ := id hI
  refine lv_iload_n hx hb d_D_rankOdds_0 rfl (lv_at hl 1 rfl) ?_
  refine z_callSR (As := [.int (iZ ((kd : Nat) : Int))]) (rest := []) zTB Z (k_D_needKind (a := ((kd : Nat) : Int)) (by omega)) ⟨ml_D_64, sm_D_needKind, ini_D, co_D_needKind⟩ zd_D_needKind ⟨Nat.le_of_ble_eq_true rfl, Nat.le_of_ble_eq_true rfl⟩ hP hK hl.1 rfl (Nat.le_of_ble_eq_true rfl) d_D_rankOdds_1 ⟨Nat.zero_le _, Nat.zero_le _⟩ ?_
  refine W.eq (g2 := F0 m 4 ls []) rfl ?_
  refine lv_iload_n hx hb d_D_rankOdds_4 rfl (lv_at hl 2 rfl) ?_
  refine z_xS (As := [.int (iZ (b))]) (rest := []) Z (x_D_needPart hl0 (a := b) (by omega)) ⟨ml_D_112, sm_D_needPart, ini_D, co_D_needPart⟩ zd_D_needPart ⟨Nat.le_of_ble_eq_true rfl, Nat.le_of_ble_eq_true rfl⟩ hP hK hT hSt hl.1 rfl (Nat.le_of_ble_eq_true rfl) d_D_rankOdds_5 ⟨Nat.le_of_ble_eq_true rfl, Nat.le_of_ble_eq_true rfl⟩ (fun q9 ce9 H9 hz9 hk9 hc9 hv9 hcl9 => ?_)
  exact z_xout Z htab hz9 hk9 hc9 hv9 hcl9

set_option maxHeartbeats 4000000 in
set_option maxRecDepth 100000 in
theorem x_D_joined1 {l : Launch} {D : va_G} (hl0 : l.stackTraces = false) {ad : Nat → Nat} {cI cZ cL : ClassId} {J : SJ} {rd : Nat → Int} {pr : Nat → Nat} {G : SH} {K : SK} {tl : va_W} (hI : JI J) {a b : Int} (h : z32 a ∧ (a < 0 ∨ 3 ≤ a)) : zMt l D (tysW cI cZ cL) y_D_joined w_D_joined 9 141 [.ref (ad 0), .int (iZ (a)), .int (iZ (b))] (wdC ad cI cZ cL J rd pr G K tl) "java/lang/IndexOutOfBoundsException" := by
  refine z_ofX (by decide) (Nat.le_of_ble_eq_true rfl) ?_
  intro p e s m below meth c ls Z htab hP hK hT hSt hl
  obtain ⟨hx, hb, hr, hml, hown, hts, hE, hlocks⟩ := id Z
  have hl : lv_has ls 3 [(0, .ref (ad 0)), (1, .int (iZ (a))), (2, .int (iZ (b)))] := hl
  obtain ⟨hn32, hk2, hpr, hct⟩ := id hI
  refine lv_iload_n hx hb d_D_joined_0 rfl (lv_at hl 1 rfl) ?_
  refine z_xS (As := [.int (iZ (a))]) (rest := []) Z (x_D_needKind hl0 (a := a) (by omega)) ⟨ml_D_64, sm_D_needKind, ini_D, co_D_needKind⟩ zd_D_needKind ⟨Nat.le_of_ble_eq_true rfl, Nat.le_of_ble_eq_true rfl⟩ hP hK hT hSt hl.1 rfl (Nat.le_of_ble_eq_true rfl) d_D_joined_1 ⟨Nat.le_of_ble_eq_true rfl, Nat.le_of_ble_eq_true rfl⟩ (fun q9 ce9 H9 hz9 hk9 hc9 hv9 hcl9 => ?_)
  exact z_xout Z htab hz9 hk9 hc9 hv9 hcl9

set_option maxHeartbeats 4000000 in
set_option maxRecDepth 100000 in
theorem x_D_joined2 {l : Launch} {D : va_G} (hl0 : l.stackTraces = false) {ad : Nat → Nat} {cI cZ cL : ClassId} {J : SJ} {rd : Nat → Int} {pr : Nat → Nat} {G : SH} {K : SK} {tl : va_W} (hI : JI J) {kd : Nat} {b : Int} (hkd : kd < 3) (h : z32 b ∧ (b < 0 ∨ 2 ≤ b)) : zMt l D (tysW cI cZ cL) y_D_joined w_D_joined 9 141 [.ref (ad 0), .int (iZ ((kd : Nat) : Int)), .int (iZ (b))] (wdC ad cI cZ cL J rd pr G K tl) "java/lang/IndexOutOfBoundsException" := by
  refine z_ofX (by decide) (Nat.le_of_ble_eq_true rfl) ?_
  intro p e s m below meth c ls Z htab hP hK hT hSt hl
  obtain ⟨hx, hb, hr, hml, hown, hts, hE, hlocks⟩ := id Z
  have hl : lv_has ls 3 [(0, .ref (ad 0)), (1, .int (iZ ((kd : Nat) : Int))), (2, .int (iZ (b)))] := hl
  obtain ⟨hn32, hk2, hpr, hct⟩ := id hI
  refine lv_iload_n hx hb d_D_joined_0 rfl (lv_at hl 1 rfl) ?_
  refine z_callSR (As := [.int (iZ ((kd : Nat) : Int))]) (rest := []) zTB Z (k_D_needKind (a := ((kd : Nat) : Int)) (by omega)) ⟨ml_D_64, sm_D_needKind, ini_D, co_D_needKind⟩ zd_D_needKind ⟨Nat.le_of_ble_eq_true rfl, Nat.le_of_ble_eq_true rfl⟩ hP hK hl.1 rfl (Nat.le_of_ble_eq_true rfl) d_D_joined_1 ⟨Nat.zero_le _, Nat.zero_le _⟩ ?_
  refine W.eq (g2 := F0 m 4 ls []) rfl ?_
  refine lv_iload_n hx hb d_D_joined_4 rfl (lv_at hl 2 rfl) ?_
  refine z_xS (As := [.int (iZ (b))]) (rest := []) Z (x_D_needPart hl0 (a := b) (by omega)) ⟨ml_D_112, sm_D_needPart, ini_D, co_D_needPart⟩ zd_D_needPart ⟨Nat.le_of_ble_eq_true rfl, Nat.le_of_ble_eq_true rfl⟩ hP hK hT hSt hl.1 rfl (Nat.le_of_ble_eq_true rfl) d_D_joined_5 ⟨Nat.le_of_ble_eq_true rfl, Nat.le_of_ble_eq_true rfl⟩ (fun q9 ce9 H9 hz9 hk9 hc9 hv9 hcl9 => ?_)
  exact z_xout Z htab hz9 hk9 hc9 hv9 hcl9

set_option maxHeartbeats 4000000 in
set_option maxRecDepth 100000 in
theorem x_D_stopped1 {l : Launch} {D : va_G} (hl0 : l.stackTraces = false) {ad : Nat → Nat} {cI cZ cL : ClassId} {J : SJ} {rd : Nat → Int} {pr : Nat → Nat} {G : SH} {K : SK} {tl : va_W} (hI : JI J) {a b c9 : Int} (h : z32 a ∧ (a < 0 ∨ 3 ≤ a)) : zMt l D (tysW cI cZ cL) y_D_stopped w_D_stopped 9 143 [.ref (ad 0), .int (iZ (a)), .int (iZ (b)), .int (iZ (c9))] (wdC ad cI cZ cL J rd pr G K tl) "java/lang/IndexOutOfBoundsException" := by
  refine z_ofX (by decide) (Nat.le_of_ble_eq_true rfl) ?_
  intro p e s m below meth c ls Z htab hP hK hT hSt hl
  obtain ⟨hx, hb, hr, hml, hown, hts, hE, hlocks⟩ := id Z
  have hl : lv_has ls 6 [(0, .ref (ad 0)), (1, .int (iZ (a))), (2, .int (iZ (b))), (3, .int (iZ (c9)))] := hl
  obtain ⟨hn32, hk2, hpr, hct⟩ := id hI
  refine lv_iload_n hx hb d_D_stopped_0 rfl (lv_at hl 1 rfl) ?_
  refine z_xS (As := [.int (iZ (a))]) (rest := []) Z (x_D_needKind hl0 (a := a) (by omega)) ⟨ml_D_64, sm_D_needKind, ini_D, co_D_needKind⟩ zd_D_needKind ⟨Nat.le_of_ble_eq_true rfl, Nat.le_of_ble_eq_true rfl⟩ hP hK hT hSt hl.1 rfl (Nat.le_of_ble_eq_true rfl) d_D_stopped_1 ⟨Nat.le_of_ble_eq_true rfl, Nat.le_of_ble_eq_true rfl⟩ (fun q9 ce9 H9 hz9 hk9 hc9 hv9 hcl9 => ?_)
  exact z_xout Z htab hz9 hk9 hc9 hv9 hcl9

set_option maxHeartbeats 4000000 in
set_option maxRecDepth 100000 in
theorem x_D_stopped2 {l : Launch} {D : va_G} (hl0 : l.stackTraces = false) {ad : Nat → Nat} {cI cZ cL : ClassId} {J : SJ} {rd : Nat → Int} {pr : Nat → Nat} {G : SH} {K : SK} {tl : va_W} (hI : JI J) {kd : Nat} {b c9 : Int} (hkd : kd < 3) (h : z32 b ∧ (b < 1 ∨ 16 < b)) : zMt l D (tysW cI cZ cL) y_D_stopped w_D_stopped 9 143 [.ref (ad 0), .int (iZ ((kd : Nat) : Int)), .int (iZ (b)), .int (iZ (c9))] (wdC ad cI cZ cL J rd pr G K tl) "java/lang/IllegalArgumentException" := by
  refine z_ofX (by decide) (Nat.le_of_ble_eq_true rfl) ?_
  intro p e s m below meth c ls Z htab hP hK hT hSt hl
  obtain ⟨hx, hb, hr, hml, hown, hts, hE, hlocks⟩ := id Z
  have hl : lv_has ls 6 [(0, .ref (ad 0)), (1, .int (iZ ((kd : Nat) : Int))), (2, .int (iZ (b))), (3, .int (iZ (c9)))] := hl
  obtain ⟨hn32, hk2, hpr, hct⟩ := id hI
  refine lv_iload_n hx hb d_D_stopped_0 rfl (lv_at hl 1 rfl) ?_
  refine z_callSR (As := [.int (iZ ((kd : Nat) : Int))]) (rest := []) zTB Z (k_D_needKind (a := ((kd : Nat) : Int)) (by omega)) ⟨ml_D_64, sm_D_needKind, ini_D, co_D_needKind⟩ zd_D_needKind ⟨Nat.le_of_ble_eq_true rfl, Nat.le_of_ble_eq_true rfl⟩ hP hK hl.1 rfl (Nat.le_of_ble_eq_true rfl) d_D_stopped_1 ⟨Nat.zero_le _, Nat.zero_le _⟩ ?_
  refine W.eq (g2 := F0 m 4 ls []) rfl ?_
  refine lv_iload_n hx hb d_D_stopped_4 rfl (lv_at hl 2 rfl) ?_
  refine lv_iload_n hx hb d_D_stopped_5 rfl (lv_at hl 3 rfl) ?_
  refine z_xS (As := [.int (iZ (b)), .int (iZ (c9))]) (rest := []) Z (x_D_needBounds hl0 (a := b) (b := c9) (by omega)) ⟨ml_D_145, sm_D_needBounds, ini_D, co_D_needBounds⟩ zd_D_needBounds ⟨Nat.le_of_ble_eq_true rfl, Nat.le_of_ble_eq_true rfl⟩ hP hK hT hSt hl.1 rfl (Nat.le_of_ble_eq_true rfl) d_D_stopped_6 ⟨Nat.le_of_ble_eq_true rfl, Nat.le_of_ble_eq_true rfl⟩ (fun q9 ce9 H9 hz9 hk9 hc9 hv9 hcl9 => ?_)
  exact z_xout Z htab hz9 hk9 hc9 hv9 hcl9

set_option maxHeartbeats 4000000 in
set_option maxRecDepth 100000 in
theorem x_D_stopped3 {l : Launch} {D : va_G} (hl0 : l.stackTraces = false) {ad : Nat → Nat} {cI cZ cL : ClassId} {J : SJ} {rd : Nat → Int} {pr : Nat → Nat} {G : SH} {K : SK} {tl : va_W} (hI : JI J) {kd : Nat} {b c9 : Int} (hkd : kd < 3) (h : 1 ≤ b ∧ b ≤ 16 ∧ z32 c9 ∧ (c9 < 1 ∨ 16 < c9)) : zMt l D (tysW cI cZ cL) y_D_stopped w_D_stopped 9 143 [.ref (ad 0), .int (iZ ((kd : Nat) : Int)), .int (iZ (b)), .int (iZ (c9))] (wdC ad cI cZ cL J rd pr G K tl) "java/lang/IllegalArgumentException" := by
  refine z_ofX (by decide) (Nat.le_of_ble_eq_true rfl) ?_
  intro p e s m below meth c ls Z htab hP hK hT hSt hl
  obtain ⟨hx, hb, hr, hml, hown, hts, hE, hlocks⟩ := id Z
  have hl : lv_has ls 6 [(0, .ref (ad 0)), (1, .int (iZ ((kd : Nat) : Int))), (2, .int (iZ (b))), (3, .int (iZ (c9)))] := hl
  obtain ⟨hn32, hk2, hpr, hct⟩ := id hI
  refine lv_iload_n hx hb d_D_stopped_0 rfl (lv_at hl 1 rfl) ?_
  refine z_callSR (As := [.int (iZ ((kd : Nat) : Int))]) (rest := []) zTB Z (k_D_needKind (a := ((kd : Nat) : Int)) (by omega)) ⟨ml_D_64, sm_D_needKind, ini_D, co_D_needKind⟩ zd_D_needKind ⟨Nat.le_of_ble_eq_true rfl, Nat.le_of_ble_eq_true rfl⟩ hP hK hl.1 rfl (Nat.le_of_ble_eq_true rfl) d_D_stopped_1 ⟨Nat.zero_le _, Nat.zero_le _⟩ ?_
  refine W.eq (g2 := F0 m 4 ls []) rfl ?_
  refine lv_iload_n hx hb d_D_stopped_4 rfl (lv_at hl 2 rfl) ?_
  refine lv_iload_n hx hb d_D_stopped_5 rfl (lv_at hl 3 rfl) ?_
  refine z_xS (As := [.int (iZ (b)), .int (iZ (c9))]) (rest := []) Z (y_D_needBounds2 hl0 (a := b) (b := c9) (by omega)) ⟨ml_D_145, sm_D_needBounds, ini_D, co_D_needBounds⟩ zd_D_needBounds ⟨Nat.le_of_ble_eq_true rfl, Nat.le_of_ble_eq_true rfl⟩ hP hK hT hSt hl.1 rfl (Nat.le_of_ble_eq_true rfl) d_D_stopped_6 ⟨Nat.le_of_ble_eq_true rfl, Nat.le_of_ble_eq_true rfl⟩ (fun q9 ce9 H9 hz9 hk9 hc9 hv9 hcl9 => ?_)
  exact z_xout Z htab hz9 hk9 hc9 hv9 hcl9

set_option maxHeartbeats 4000000 in
set_option maxRecDepth 100000 in
theorem x_D_crossing1 {l : Launch} {D : va_G} (hl0 : l.stackTraces = false) {ad : Nat → Nat} {cI cZ cL : ClassId} {J : SJ} {rd : Nat → Int} {pr : Nat → Nat} {G : SH} {K : SK} {tl : va_W} (hI : JI J) {a b c9 d9 : Int} (h : z32 d9 ∧ (d9 < 0 ∨ 2 ≤ d9)) : zMt l D (tysW cI cZ cL) y_D_crossing w_D_crossing 9 143 [.ref (ad 0), .int (iZ (a)), .int (iZ (b)), .int (iZ (c9)), .int (iZ (d9))] (wdC ad cI cZ cL J rd pr G K tl) "java/lang/IndexOutOfBoundsException" := by
  refine z_ofX (by decide) (Nat.le_of_ble_eq_true rfl) ?_
  intro p e s m below meth c ls Z htab hP hK hT hSt hl
  obtain ⟨hx, hb, hr, hml, hown, hts, hE, hlocks⟩ := id Z
  have hl : lv_has ls 6 [(0, .ref (ad 0)), (1, .int (iZ (a))), (2, .int (iZ (b))), (3, .int (iZ (c9))), (4, .int (iZ (d9)))] := hl
  obtain ⟨hn32, hk2, hpr, hct⟩ := id hI
  refine lv_iload hx hb d_D_crossing_0 (lv_at hl 4 rfl) ?_
  refine z_xS (As := [.int (iZ (d9))]) (rest := []) Z (x_D_needPart hl0 (a := d9) (by omega)) ⟨ml_D_112, sm_D_needPart, ini_D, co_D_needPart⟩ zd_D_needPart ⟨Nat.le_of_ble_eq_true rfl, Nat.le_of_ble_eq_true rfl⟩ hP hK hT hSt hl.1 rfl (Nat.le_of_ble_eq_true rfl) d_D_crossing_2 ⟨Nat.le_of_ble_eq_true rfl, Nat.le_of_ble_eq_true rfl⟩ (fun q9 ce9 H9 hz9 hk9 hc9 hv9 hcl9 => ?_)
  exact z_xout Z htab hz9 hk9 hc9 hv9 hcl9

set_option maxHeartbeats 4000000 in
set_option maxRecDepth 100000 in
theorem x_D_crossing2 {l : Launch} {D : va_G} (hl0 : l.stackTraces = false) {ad : Nat → Nat} {cI cZ cL : ClassId} {J : SJ} {rd : Nat → Int} {pr : Nat → Nat} {G : SH} {K : SK} {tl : va_W} (hI : JI J) {a b c9 d9 : Int} (h : 0 ≤ d9 ∧ d9 < 2 ∧ z32 a ∧ (a < 0 ∨ 40 < a)) : zMt l D (tysW cI cZ cL) y_D_crossing w_D_crossing 9 143 [.ref (ad 0), .int (iZ (a)), .int (iZ (b)), .int (iZ (c9)), .int (iZ (d9))] (wdC ad cI cZ cL J rd pr G K tl) "java/lang/IllegalArgumentException" := by
  refine z_ofX (by decide) (Nat.le_of_ble_eq_true rfl) ?_
  intro p e s m below meth c ls Z htab hP hK hT hSt hl
  obtain ⟨hx, hb, hr, hml, hown, hts, hE, hlocks⟩ := id Z
  have hl : lv_has ls 6 [(0, .ref (ad 0)), (1, .int (iZ (a))), (2, .int (iZ (b))), (3, .int (iZ (c9))), (4, .int (iZ (d9)))] := hl
  obtain ⟨hn32, hk2, hpr, hct⟩ := id hI
  refine lv_iload hx hb d_D_crossing_0 (lv_at hl 4 rfl) ?_
  refine z_callSR (As := [.int (iZ (d9))]) (rest := []) zTB Z (k_D_needPart (a := d9) (by omega)) ⟨ml_D_112, sm_D_needPart, ini_D, co_D_needPart⟩ zd_D_needPart ⟨Nat.le_of_ble_eq_true rfl, Nat.le_of_ble_eq_true rfl⟩ hP hK hl.1 rfl (Nat.le_of_ble_eq_true rfl) d_D_crossing_2 ⟨Nat.zero_le _, Nat.zero_le _⟩ ?_
  refine W.eq (g2 := F0 m 5 ls []) rfl ?_
  refine lv_iload_n hx hb d_D_crossing_5 rfl (lv_at hl 1 rfl) ?_
  refine lv_iconst (v := iZ ((0 : Nat) : Int)) hx hb d_D_crossing_6 (by decide) ?_
  refine lv_bipush (v := iZ ((40 : Nat) : Int)) hx hb d_D_crossing_7 (by decide) ?_
  refine z_xS (As := [.int (iZ (a)), .int (iZ ((0 : Nat) : Int)), .int (iZ ((40 : Nat) : Int))]) (rest := []) Z (x_D_needNumber hl0 (a := a) (b := ((0 : Nat) : Int)) (c9 := ((40 : Nat) : Int)) (by omega)) ⟨ml_D_67, sm_D_needNumber, ini_D, co_D_needNumber⟩ zd_D_needNumber ⟨Nat.le_of_ble_eq_true rfl, Nat.le_of_ble_eq_true rfl⟩ hP hK hT hSt hl.1 rfl (Nat.le_of_ble_eq_true rfl) d_D_crossing_9 ⟨Nat.le_of_ble_eq_true rfl, Nat.le_of_ble_eq_true rfl⟩ (fun q9 ce9 H9 hz9 hk9 hc9 hv9 hcl9 => ?_)
  exact z_xout Z htab hz9 hk9 hc9 hv9 hcl9

set_option maxHeartbeats 4000000 in
set_option maxRecDepth 100000 in
theorem x_D_crossing3 {l : Launch} {D : va_G} (hl0 : l.stackTraces = false) {ad : Nat → Nat} {cI cZ cL : ClassId} {J : SJ} {rd : Nat → Int} {pr : Nat → Nat} {G : SH} {K : SK} {tl : va_W} (hI : JI J) {a b c9 d9 : Int} (h : 0 ≤ d9 ∧ d9 < 2 ∧ 0 ≤ a ∧ a ≤ 40 ∧ z32 b ∧ (b < 1 ∨ 16 < b)) : zMt l D (tysW cI cZ cL) y_D_crossing w_D_crossing 9 143 [.ref (ad 0), .int (iZ (a)), .int (iZ (b)), .int (iZ (c9)), .int (iZ (d9))] (wdC ad cI cZ cL J rd pr G K tl) "java/lang/IllegalArgumentException" := by
  refine z_ofX (by decide) (Nat.le_of_ble_eq_true rfl) ?_
  intro p e s m below meth c ls Z htab hP hK hT hSt hl
  obtain ⟨hx, hb, hr, hml, hown, hts, hE, hlocks⟩ := id Z
  have hl : lv_has ls 6 [(0, .ref (ad 0)), (1, .int (iZ (a))), (2, .int (iZ (b))), (3, .int (iZ (c9))), (4, .int (iZ (d9)))] := hl
  obtain ⟨hn32, hk2, hpr, hct⟩ := id hI
  refine lv_iload hx hb d_D_crossing_0 (lv_at hl 4 rfl) ?_
  refine z_callSR (As := [.int (iZ (d9))]) (rest := []) zTB Z (k_D_needPart (a := d9) (by omega)) ⟨ml_D_112, sm_D_needPart, ini_D, co_D_needPart⟩ zd_D_needPart ⟨Nat.le_of_ble_eq_true rfl, Nat.le_of_ble_eq_true rfl⟩ hP hK hl.1 rfl (Nat.le_of_ble_eq_true rfl) d_D_crossing_2 ⟨Nat.zero_le _, Nat.zero_le _⟩ ?_
  refine W.eq (g2 := F0 m 5 ls []) rfl ?_
  refine lv_iload_n hx hb d_D_crossing_5 rfl (lv_at hl 1 rfl) ?_
  refine lv_iconst (v := iZ ((0 : Nat) : Int)) hx hb d_D_crossing_6 (by decide) ?_
  refine lv_bipush (v := iZ ((40 : Nat) : Int)) hx hb d_D_crossing_7 (by decide) ?_
  refine z_callSR (As := [.int (iZ (a)), .int (iZ ((0 : Nat) : Int)), .int (iZ ((40 : Nat) : Int))]) (rest := []) zTB Z (k_D_needNumber (a := a) (b := ((0 : Nat) : Int)) (c9 := ((40 : Nat) : Int)) (by omega)) ⟨ml_D_67, sm_D_needNumber, ini_D, co_D_needNumber⟩ zd_D_needNumber ⟨Nat.le_of_ble_eq_true rfl, Nat.le_of_ble_eq_true rfl⟩ hP hK hl.1 rfl (Nat.le_of_ble_eq_true rfl) d_D_crossing_9 ⟨Nat.zero_le _, Nat.zero_le _⟩ ?_
  refine W.eq (g2 := F0 m 12 ls []) rfl ?_
  refine lv_iload_n hx hb d_D_crossing_12 rfl (lv_at hl 2 rfl) ?_
  refine lv_iload_n hx hb d_D_crossing_13 rfl (lv_at hl 3 rfl) ?_
  refine z_xS (As := [.int (iZ (b)), .int (iZ (c9))]) (rest := []) Z (x_D_needBounds hl0 (a := b) (b := c9) (by omega)) ⟨ml_D_145, sm_D_needBounds, ini_D, co_D_needBounds⟩ zd_D_needBounds ⟨Nat.le_of_ble_eq_true rfl, Nat.le_of_ble_eq_true rfl⟩ hP hK hT hSt hl.1 rfl (Nat.le_of_ble_eq_true rfl) d_D_crossing_14 ⟨Nat.le_of_ble_eq_true rfl, Nat.le_of_ble_eq_true rfl⟩ (fun q9 ce9 H9 hz9 hk9 hc9 hv9 hcl9 => ?_)
  exact z_xout Z htab hz9 hk9 hc9 hv9 hcl9

set_option maxHeartbeats 4000000 in
set_option maxRecDepth 100000 in
theorem x_D_crossing4 {l : Launch} {D : va_G} (hl0 : l.stackTraces = false) {ad : Nat → Nat} {cI cZ cL : ClassId} {J : SJ} {rd : Nat → Int} {pr : Nat → Nat} {G : SH} {K : SK} {tl : va_W} (hI : JI J) {a b c9 d9 : Int} (h : 0 ≤ d9 ∧ d9 < 2 ∧ 0 ≤ a ∧ a ≤ 40 ∧ 1 ≤ b ∧ b ≤ 16 ∧ z32 c9 ∧ (c9 < 1 ∨ 16 < c9)) : zMt l D (tysW cI cZ cL) y_D_crossing w_D_crossing 9 143 [.ref (ad 0), .int (iZ (a)), .int (iZ (b)), .int (iZ (c9)), .int (iZ (d9))] (wdC ad cI cZ cL J rd pr G K tl) "java/lang/IllegalArgumentException" := by
  refine z_ofX (by decide) (Nat.le_of_ble_eq_true rfl) ?_
  intro p e s m below meth c ls Z htab hP hK hT hSt hl
  obtain ⟨hx, hb, hr, hml, hown, hts, hE, hlocks⟩ := id Z
  have hl : lv_has ls 6 [(0, .ref (ad 0)), (1, .int (iZ (a))), (2, .int (iZ (b))), (3, .int (iZ (c9))), (4, .int (iZ (d9)))] := hl
  obtain ⟨hn32, hk2, hpr, hct⟩ := id hI
  refine lv_iload hx hb d_D_crossing_0 (lv_at hl 4 rfl) ?_
  refine z_callSR (As := [.int (iZ (d9))]) (rest := []) zTB Z (k_D_needPart (a := d9) (by omega)) ⟨ml_D_112, sm_D_needPart, ini_D, co_D_needPart⟩ zd_D_needPart ⟨Nat.le_of_ble_eq_true rfl, Nat.le_of_ble_eq_true rfl⟩ hP hK hl.1 rfl (Nat.le_of_ble_eq_true rfl) d_D_crossing_2 ⟨Nat.zero_le _, Nat.zero_le _⟩ ?_
  refine W.eq (g2 := F0 m 5 ls []) rfl ?_
  refine lv_iload_n hx hb d_D_crossing_5 rfl (lv_at hl 1 rfl) ?_
  refine lv_iconst (v := iZ ((0 : Nat) : Int)) hx hb d_D_crossing_6 (by decide) ?_
  refine lv_bipush (v := iZ ((40 : Nat) : Int)) hx hb d_D_crossing_7 (by decide) ?_
  refine z_callSR (As := [.int (iZ (a)), .int (iZ ((0 : Nat) : Int)), .int (iZ ((40 : Nat) : Int))]) (rest := []) zTB Z (k_D_needNumber (a := a) (b := ((0 : Nat) : Int)) (c9 := ((40 : Nat) : Int)) (by omega)) ⟨ml_D_67, sm_D_needNumber, ini_D, co_D_needNumber⟩ zd_D_needNumber ⟨Nat.le_of_ble_eq_true rfl, Nat.le_of_ble_eq_true rfl⟩ hP hK hl.1 rfl (Nat.le_of_ble_eq_true rfl) d_D_crossing_9 ⟨Nat.zero_le _, Nat.zero_le _⟩ ?_
  refine W.eq (g2 := F0 m 12 ls []) rfl ?_
  refine lv_iload_n hx hb d_D_crossing_12 rfl (lv_at hl 2 rfl) ?_
  refine lv_iload_n hx hb d_D_crossing_13 rfl (lv_at hl 3 rfl) ?_
  refine z_xS (As := [.int (iZ (b)), .int (iZ (c9))]) (rest := []) Z (y_D_needBounds2 hl0 (a := b) (b := c9) (by omega)) ⟨ml_D_145, sm_D_needBounds, ini_D, co_D_needBounds⟩ zd_D_needBounds ⟨Nat.le_of_ble_eq_true rfl, Nat.le_of_ble_eq_true rfl⟩ hP hK hT hSt hl.1 rfl (Nat.le_of_ble_eq_true rfl) d_D_crossing_14 ⟨Nat.le_of_ble_eq_true rfl, Nat.le_of_ble_eq_true rfl⟩ (fun q9 ce9 H9 hz9 hk9 hc9 hv9 hcl9 => ?_)
  exact z_xout Z htab hz9 hk9 hc9 hv9 hcl9

set_option maxHeartbeats 4000000 in
set_option maxRecDepth 100000 in
theorem x_D_least1 {l : Launch} {D : va_G} (hl0 : l.stackTraces = false) {ad : Nat → Nat} {cI cZ cL : ClassId} {J : SJ} {rd : Nat → Int} {pr : Nat → Nat} {G : SH} {K : SK} {tl : va_W} (hI : JI J) {a b c9 d9 : Int} (h : z32 d9 ∧ (d9 < 1 ∨ 1000 < d9)) : zMt l D (tysW cI cZ cL) y_D_least w_D_least 9 143 [.ref (ad 0), .int (iZ (a)), .int (iZ (b)), .int (iZ (c9)), .int (iZ (d9))] (wdC ad cI cZ cL J rd pr G K tl) "java/lang/IllegalArgumentException" := by
  refine z_ofX (by decide) (Nat.le_of_ble_eq_true rfl) ?_
  intro p e s m below meth c ls Z htab hP hK hT hSt hl
  obtain ⟨hx, hb, hr, hml, hown, hts, hE, hlocks⟩ := id Z
  have hl : lv_has ls 6 [(0, .ref (ad 0)), (1, .int (iZ (a))), (2, .int (iZ (b))), (3, .int (iZ (c9))), (4, .int (iZ (d9)))] := hl
  obtain ⟨hn32, hk2, hpr, hct⟩ := id hI
  refine lv_iload hx hb d_D_least_0 (lv_at hl 4 rfl) ?_
  refine lv_iconst (v := iZ ((1 : Nat) : Int)) hx hb d_D_least_2 (by decide) ?_
  refine lv_sipush (v := iZ ((1000 : Nat) : Int)) hx hb d_D_least_3 (by decide) ?_
  refine z_xS (As := [.int (iZ (d9)), .int (iZ ((1 : Nat) : Int)), .int (iZ ((1000 : Nat) : Int))]) (rest := []) Z (x_D_needNumber hl0 (a := d9) (b := ((1 : Nat) : Int)) (c9 := ((1000 : Nat) : Int)) (by omega)) ⟨ml_D_67, sm_D_needNumber, ini_D, co_D_needNumber⟩ zd_D_needNumber ⟨Nat.le_of_ble_eq_true rfl, Nat.le_of_ble_eq_true rfl⟩ hP hK hT hSt hl.1 rfl (Nat.le_of_ble_eq_true rfl) d_D_least_6 ⟨Nat.le_of_ble_eq_true rfl, Nat.le_of_ble_eq_true rfl⟩ (fun q9 ce9 H9 hz9 hk9 hc9 hv9 hcl9 => ?_)
  exact z_xout Z htab hz9 hk9 hc9 hv9 hcl9

set_option maxHeartbeats 4000000 in
set_option maxRecDepth 100000 in
theorem x_D_least2 {l : Launch} {D : va_G} (hl0 : l.stackTraces = false) {ad : Nat → Nat} {cI cZ cL : ClassId} {J : SJ} {rd : Nat → Int} {pr : Nat → Nat} {G : SH} {K : SK} {tl : va_W} (hI : JI J) {a b c9 d9 : Int} (h : 1 ≤ d9 ∧ d9 ≤ 1000 ∧ z32 c9 ∧ (c9 < 0 ∨ d9 < c9)) : zMt l D (tysW cI cZ cL) y_D_least w_D_least 9 143 [.ref (ad 0), .int (iZ (a)), .int (iZ (b)), .int (iZ (c9)), .int (iZ (d9))] (wdC ad cI cZ cL J rd pr G K tl) "java/lang/IllegalArgumentException" := by
  refine z_ofX (by decide) (Nat.le_of_ble_eq_true rfl) ?_
  intro p e s m below meth c ls Z htab hP hK hT hSt hl
  obtain ⟨hx, hb, hr, hml, hown, hts, hE, hlocks⟩ := id Z
  have hl : lv_has ls 6 [(0, .ref (ad 0)), (1, .int (iZ (a))), (2, .int (iZ (b))), (3, .int (iZ (c9))), (4, .int (iZ (d9)))] := hl
  obtain ⟨hn32, hk2, hpr, hct⟩ := id hI
  refine lv_iload hx hb d_D_least_0 (lv_at hl 4 rfl) ?_
  refine lv_iconst (v := iZ ((1 : Nat) : Int)) hx hb d_D_least_2 (by decide) ?_
  refine lv_sipush (v := iZ ((1000 : Nat) : Int)) hx hb d_D_least_3 (by decide) ?_
  refine z_callSR (As := [.int (iZ (d9)), .int (iZ ((1 : Nat) : Int)), .int (iZ ((1000 : Nat) : Int))]) (rest := []) zTB Z (k_D_needNumber (a := d9) (b := ((1 : Nat) : Int)) (c9 := ((1000 : Nat) : Int)) (by omega)) ⟨ml_D_67, sm_D_needNumber, ini_D, co_D_needNumber⟩ zd_D_needNumber ⟨Nat.le_of_ble_eq_true rfl, Nat.le_of_ble_eq_true rfl⟩ hP hK hl.1 rfl (Nat.le_of_ble_eq_true rfl) d_D_least_6 ⟨Nat.zero_le _, Nat.zero_le _⟩ ?_
  refine W.eq (g2 := F0 m 9 ls []) rfl ?_
  refine lv_iload_n hx hb d_D_least_9 rfl (lv_at hl 3 rfl) ?_
  refine lv_iconst (v := iZ ((0 : Nat) : Int)) hx hb d_D_least_10 (by decide) ?_
  refine lv_iload hx hb d_D_least_11 (lv_at hl 4 rfl) ?_
  refine z_xS (As := [.int (iZ (c9)), .int (iZ ((0 : Nat) : Int)), .int (iZ (d9))]) (rest := []) Z (x_D_needNumber hl0 (a := c9) (b := ((0 : Nat) : Int)) (c9 := d9) (by omega)) ⟨ml_D_67, sm_D_needNumber, ini_D, co_D_needNumber⟩ zd_D_needNumber ⟨Nat.le_of_ble_eq_true rfl, Nat.le_of_ble_eq_true rfl⟩ hP hK hT hSt hl.1 rfl (Nat.le_of_ble_eq_true rfl) d_D_least_13 ⟨Nat.le_of_ble_eq_true rfl, Nat.le_of_ble_eq_true rfl⟩ (fun q9 ce9 H9 hz9 hk9 hc9 hv9 hcl9 => ?_)
  exact z_xout Z htab hz9 hk9 hc9 hv9 hcl9

set_option maxHeartbeats 4000000 in
set_option maxRecDepth 100000 in
theorem x_D_least3 {l : Launch} {D : va_G} (hl0 : l.stackTraces = false) {ad : Nat → Nat} {cI cZ cL : ClassId} {J : SJ} {rd : Nat → Int} {pr : Nat → Nat} {G : SH} {K : SK} {tl : va_W} (hI : JI J) {a b c9 d9 : Int} (h : 1 ≤ d9 ∧ d9 ≤ 1000 ∧ 0 ≤ c9 ∧ c9 ≤ d9 ∧ z32 a ∧ (a < 1 ∨ 16 < a)) : zMt l D (tysW cI cZ cL) y_D_least w_D_least 9 143 [.ref (ad 0), .int (iZ (a)), .int (iZ (b)), .int (iZ (c9)), .int (iZ (d9))] (wdC ad cI cZ cL J rd pr G K tl) "java/lang/IllegalArgumentException" := by
  refine z_ofX (by decide) (Nat.le_of_ble_eq_true rfl) ?_
  intro p e s m below meth c ls Z htab hP hK hT hSt hl
  obtain ⟨hx, hb, hr, hml, hown, hts, hE, hlocks⟩ := id Z
  have hl : lv_has ls 6 [(0, .ref (ad 0)), (1, .int (iZ (a))), (2, .int (iZ (b))), (3, .int (iZ (c9))), (4, .int (iZ (d9)))] := hl
  obtain ⟨hn32, hk2, hpr, hct⟩ := id hI
  refine lv_iload hx hb d_D_least_0 (lv_at hl 4 rfl) ?_
  refine lv_iconst (v := iZ ((1 : Nat) : Int)) hx hb d_D_least_2 (by decide) ?_
  refine lv_sipush (v := iZ ((1000 : Nat) : Int)) hx hb d_D_least_3 (by decide) ?_
  refine z_callSR (As := [.int (iZ (d9)), .int (iZ ((1 : Nat) : Int)), .int (iZ ((1000 : Nat) : Int))]) (rest := []) zTB Z (k_D_needNumber (a := d9) (b := ((1 : Nat) : Int)) (c9 := ((1000 : Nat) : Int)) (by omega)) ⟨ml_D_67, sm_D_needNumber, ini_D, co_D_needNumber⟩ zd_D_needNumber ⟨Nat.le_of_ble_eq_true rfl, Nat.le_of_ble_eq_true rfl⟩ hP hK hl.1 rfl (Nat.le_of_ble_eq_true rfl) d_D_least_6 ⟨Nat.zero_le _, Nat.zero_le _⟩ ?_
  refine W.eq (g2 := F0 m 9 ls []) rfl ?_
  refine lv_iload_n hx hb d_D_least_9 rfl (lv_at hl 3 rfl) ?_
  refine lv_iconst (v := iZ ((0 : Nat) : Int)) hx hb d_D_least_10 (by decide) ?_
  refine lv_iload hx hb d_D_least_11 (lv_at hl 4 rfl) ?_
  refine z_callSR (As := [.int (iZ (c9)), .int (iZ ((0 : Nat) : Int)), .int (iZ (d9))]) (rest := []) zTB Z (k_D_needNumber (a := c9) (b := ((0 : Nat) : Int)) (c9 := d9) (by omega)) ⟨ml_D_67, sm_D_needNumber, ini_D, co_D_needNumber⟩ zd_D_needNumber ⟨Nat.le_of_ble_eq_true rfl, Nat.le_of_ble_eq_true rfl⟩ hP hK hl.1 rfl (Nat.le_of_ble_eq_true rfl) d_D_least_13 ⟨Nat.zero_le _, Nat.zero_le _⟩ ?_
  refine W.eq (g2 := F0 m 16 ls []) rfl ?_
  refine lv_iload_n hx hb d_D_least_16 rfl (lv_at hl 1 rfl) ?_
  refine lv_iload_n hx hb d_D_least_17 rfl (lv_at hl 2 rfl) ?_
  refine z_xS (As := [.int (iZ (a)), .int (iZ (b))]) (rest := []) Z (x_D_needBounds hl0 (a := a) (b := b) (by omega)) ⟨ml_D_145, sm_D_needBounds, ini_D, co_D_needBounds⟩ zd_D_needBounds ⟨Nat.le_of_ble_eq_true rfl, Nat.le_of_ble_eq_true rfl⟩ hP hK hT hSt hl.1 rfl (Nat.le_of_ble_eq_true rfl) d_D_least_18 ⟨Nat.le_of_ble_eq_true rfl, Nat.le_of_ble_eq_true rfl⟩ (fun q9 ce9 H9 hz9 hk9 hc9 hv9 hcl9 => ?_)
  exact z_xout Z htab hz9 hk9 hc9 hv9 hcl9

set_option maxHeartbeats 4000000 in
set_option maxRecDepth 100000 in
theorem x_D_least4 {l : Launch} {D : va_G} (hl0 : l.stackTraces = false) {ad : Nat → Nat} {cI cZ cL : ClassId} {J : SJ} {rd : Nat → Int} {pr : Nat → Nat} {G : SH} {K : SK} {tl : va_W} (hI : JI J) {a b c9 d9 : Int} (h : 1 ≤ d9 ∧ d9 ≤ 1000 ∧ 0 ≤ c9 ∧ c9 ≤ d9 ∧ 1 ≤ a ∧ a ≤ 16 ∧ z32 b ∧ (b < 1 ∨ 16 < b)) : zMt l D (tysW cI cZ cL) y_D_least w_D_least 9 143 [.ref (ad 0), .int (iZ (a)), .int (iZ (b)), .int (iZ (c9)), .int (iZ (d9))] (wdC ad cI cZ cL J rd pr G K tl) "java/lang/IllegalArgumentException" := by
  refine z_ofX (by decide) (Nat.le_of_ble_eq_true rfl) ?_
  intro p e s m below meth c ls Z htab hP hK hT hSt hl
  obtain ⟨hx, hb, hr, hml, hown, hts, hE, hlocks⟩ := id Z
  have hl : lv_has ls 6 [(0, .ref (ad 0)), (1, .int (iZ (a))), (2, .int (iZ (b))), (3, .int (iZ (c9))), (4, .int (iZ (d9)))] := hl
  obtain ⟨hn32, hk2, hpr, hct⟩ := id hI
  refine lv_iload hx hb d_D_least_0 (lv_at hl 4 rfl) ?_
  refine lv_iconst (v := iZ ((1 : Nat) : Int)) hx hb d_D_least_2 (by decide) ?_
  refine lv_sipush (v := iZ ((1000 : Nat) : Int)) hx hb d_D_least_3 (by decide) ?_
  refine z_callSR (As := [.int (iZ (d9)), .int (iZ ((1 : Nat) : Int)), .int (iZ ((1000 : Nat) : Int))]) (rest := []) zTB Z (k_D_needNumber (a := d9) (b := ((1 : Nat) : Int)) (c9 := ((1000 : Nat) : Int)) (by omega)) ⟨ml_D_67, sm_D_needNumber, ini_D, co_D_needNumber⟩ zd_D_needNumber ⟨Nat.le_of_ble_eq_true rfl, Nat.le_of_ble_eq_true rfl⟩ hP hK hl.1 rfl (Nat.le_of_ble_eq_true rfl) d_D_least_6 ⟨Nat.zero_le _, Nat.zero_le _⟩ ?_
  refine W.eq (g2 := F0 m 9 ls []) rfl ?_
  refine lv_iload_n hx hb d_D_least_9 rfl (lv_at hl 3 rfl) ?_
  refine lv_iconst (v := iZ ((0 : Nat) : Int)) hx hb d_D_least_10 (by decide) ?_
  refine lv_iload hx hb d_D_least_11 (lv_at hl 4 rfl) ?_
  refine z_callSR (As := [.int (iZ (c9)), .int (iZ ((0 : Nat) : Int)), .int (iZ (d9))]) (rest := []) zTB Z (k_D_needNumber (a := c9) (b := ((0 : Nat) : Int)) (c9 := d9) (by omega)) ⟨ml_D_67, sm_D_needNumber, ini_D, co_D_needNumber⟩ zd_D_needNumber ⟨Nat.le_of_ble_eq_true rfl, Nat.le_of_ble_eq_true rfl⟩ hP hK hl.1 rfl (Nat.le_of_ble_eq_true rfl) d_D_least_13 ⟨Nat.zero_le _, Nat.zero_le _⟩ ?_
  refine W.eq (g2 := F0 m 16 ls []) rfl ?_
  refine lv_iload_n hx hb d_D_least_16 rfl (lv_at hl 1 rfl) ?_
  refine lv_iload_n hx hb d_D_least_17 rfl (lv_at hl 2 rfl) ?_
  refine z_xS (As := [.int (iZ (a)), .int (iZ (b))]) (rest := []) Z (y_D_needBounds2 hl0 (a := a) (b := b) (by omega)) ⟨ml_D_145, sm_D_needBounds, ini_D, co_D_needBounds⟩ zd_D_needBounds ⟨Nat.le_of_ble_eq_true rfl, Nat.le_of_ble_eq_true rfl⟩ hP hK hT hSt hl.1 rfl (Nat.le_of_ble_eq_true rfl) d_D_least_18 ⟨Nat.le_of_ble_eq_true rfl, Nat.le_of_ble_eq_true rfl⟩ (fun q9 ce9 H9 hz9 hk9 hc9 hv9 hcl9 => ?_)
  exact z_xout Z htab hz9 hk9 hc9 hv9 hcl9

set_option maxHeartbeats 4000000 in
set_option maxRecDepth 100000 in
theorem x_D_mean1 {l : Launch} {D : va_G} (hl0 : l.stackTraces = false) {ad : Nat → Nat} {cI cZ cL : ClassId} {J : SJ} {rd : Nat → Int} {pr : Nat → Nat} {G : SH} {K : SK} {tl : va_W} (hI : JI J) {a b c9 : Int} (h : z32 a ∧ (a < 0 ∨ 4 ≤ a)) : zMt l D (tysW cI cZ cL) y_D_mean w_D_mean 9 141 [.ref (ad 0), .int (iZ (a)), .int (iZ (b)), .int (iZ (c9))] (wdC ad cI cZ cL J rd pr G K tl) "java/lang/IndexOutOfBoundsException" := by
  refine z_ofX (by decide) (Nat.le_of_ble_eq_true rfl) ?_
  intro p e s m below meth c ls Z htab hP hK hT hSt hl
  obtain ⟨hx, hb, hr, hml, hown, hts, hE, hlocks⟩ := id Z
  have hl : lv_has ls 4 [(0, .ref (ad 0)), (1, .int (iZ (a))), (2, .int (iZ (b))), (3, .int (iZ (c9)))] := hl
  obtain ⟨hn32, hk2, hpr, hct⟩ := id hI
  refine lv_iload_n hx hb d_D_mean_0 rfl (lv_at hl 1 rfl) ?_
  refine z_xS (As := [.int (iZ (a))]) (rest := []) Z (x_D_needShip hl0 (a := a) (by omega)) ⟨ml_D_43, sm_D_needShip, ini_D, co_D_needShip⟩ zd_D_needShip ⟨Nat.le_of_ble_eq_true rfl, Nat.le_of_ble_eq_true rfl⟩ hP hK hT hSt hl.1 rfl (Nat.le_of_ble_eq_true rfl) d_D_mean_1 ⟨Nat.le_of_ble_eq_true rfl, Nat.le_of_ble_eq_true rfl⟩ (fun q9 ce9 H9 hz9 hk9 hc9 hv9 hcl9 => ?_)
  exact z_xout Z htab hz9 hk9 hc9 hv9 hcl9

set_option maxHeartbeats 4000000 in
set_option maxRecDepth 100000 in
theorem x_D_mean2 {l : Launch} {D : va_G} (hl0 : l.stackTraces = false) {ad : Nat → Nat} {cI cZ cL : ClassId} {J : SJ} {rd : Nat → Int} {pr : Nat → Nat} {G : SH} {K : SK} {tl : va_W} (hI : JI J) {sh : Nat} {b c9 : Int} (hsh : sh < 4) (h : z32 b ∧ (b < 0 ∨ 3 ≤ b)) : zMt l D (tysW cI cZ cL) y_D_mean w_D_mean 9 141 [.ref (ad 0), .int (iZ ((sh : Nat) : Int)), .int (iZ (b)), .int (iZ (c9))] (wdC ad cI cZ cL J rd pr G K tl) "java/lang/IndexOutOfBoundsException" := by
  refine z_ofX (by decide) (Nat.le_of_ble_eq_true rfl) ?_
  intro p e s m below meth c ls Z htab hP hK hT hSt hl
  obtain ⟨hx, hb, hr, hml, hown, hts, hE, hlocks⟩ := id Z
  have hl : lv_has ls 4 [(0, .ref (ad 0)), (1, .int (iZ ((sh : Nat) : Int))), (2, .int (iZ (b))), (3, .int (iZ (c9)))] := hl
  obtain ⟨hn32, hk2, hpr, hct⟩ := id hI
  refine lv_iload_n hx hb d_D_mean_0 rfl (lv_at hl 1 rfl) ?_
  refine z_callSR (As := [.int (iZ ((sh : Nat) : Int))]) (rest := []) zTB Z (k_D_needShip (a := ((sh : Nat) : Int)) (by omega)) ⟨ml_D_43, sm_D_needShip, ini_D, co_D_needShip⟩ zd_D_needShip ⟨Nat.le_of_ble_eq_true rfl, Nat.le_of_ble_eq_true rfl⟩ hP hK hl.1 rfl (Nat.le_of_ble_eq_true rfl) d_D_mean_1 ⟨Nat.zero_le _, Nat.zero_le _⟩ ?_
  refine W.eq (g2 := F0 m 4 ls []) rfl ?_
  refine lv_iload_n hx hb d_D_mean_4 rfl (lv_at hl 2 rfl) ?_
  refine z_xS (As := [.int (iZ (b))]) (rest := []) Z (x_D_needKind hl0 (a := b) (by omega)) ⟨ml_D_64, sm_D_needKind, ini_D, co_D_needKind⟩ zd_D_needKind ⟨Nat.le_of_ble_eq_true rfl, Nat.le_of_ble_eq_true rfl⟩ hP hK hT hSt hl.1 rfl (Nat.le_of_ble_eq_true rfl) d_D_mean_5 ⟨Nat.le_of_ble_eq_true rfl, Nat.le_of_ble_eq_true rfl⟩ (fun q9 ce9 H9 hz9 hk9 hc9 hv9 hcl9 => ?_)
  exact z_xout Z htab hz9 hk9 hc9 hv9 hcl9

set_option maxHeartbeats 4000000 in
set_option maxRecDepth 100000 in
theorem x_D_mean3 {l : Launch} {D : va_G} (hl0 : l.stackTraces = false) {ad : Nat → Nat} {cI cZ cL : ClassId} {J : SJ} {rd : Nat → Int} {pr : Nat → Nat} {G : SH} {K : SK} {tl : va_W} (hI : JI J) {sh kd : Nat} {c9 : Int} (hsh : sh < 4) (hkd : kd < 3) (h : z32 c9 ∧ (c9 < 0 ∨ 2 ≤ c9)) : zMt l D (tysW cI cZ cL) y_D_mean w_D_mean 9 141 [.ref (ad 0), .int (iZ ((sh : Nat) : Int)), .int (iZ ((kd : Nat) : Int)), .int (iZ (c9))] (wdC ad cI cZ cL J rd pr G K tl) "java/lang/IndexOutOfBoundsException" := by
  refine z_ofX (by decide) (Nat.le_of_ble_eq_true rfl) ?_
  intro p e s m below meth c ls Z htab hP hK hT hSt hl
  obtain ⟨hx, hb, hr, hml, hown, hts, hE, hlocks⟩ := id Z
  have hl : lv_has ls 4 [(0, .ref (ad 0)), (1, .int (iZ ((sh : Nat) : Int))), (2, .int (iZ ((kd : Nat) : Int))), (3, .int (iZ (c9)))] := hl
  obtain ⟨hn32, hk2, hpr, hct⟩ := id hI
  refine lv_iload_n hx hb d_D_mean_0 rfl (lv_at hl 1 rfl) ?_
  refine z_callSR (As := [.int (iZ ((sh : Nat) : Int))]) (rest := []) zTB Z (k_D_needShip (a := ((sh : Nat) : Int)) (by omega)) ⟨ml_D_43, sm_D_needShip, ini_D, co_D_needShip⟩ zd_D_needShip ⟨Nat.le_of_ble_eq_true rfl, Nat.le_of_ble_eq_true rfl⟩ hP hK hl.1 rfl (Nat.le_of_ble_eq_true rfl) d_D_mean_1 ⟨Nat.zero_le _, Nat.zero_le _⟩ ?_
  refine W.eq (g2 := F0 m 4 ls []) rfl ?_
  refine lv_iload_n hx hb d_D_mean_4 rfl (lv_at hl 2 rfl) ?_
  refine z_callSR (As := [.int (iZ ((kd : Nat) : Int))]) (rest := []) zTB Z (k_D_needKind (a := ((kd : Nat) : Int)) (by omega)) ⟨ml_D_64, sm_D_needKind, ini_D, co_D_needKind⟩ zd_D_needKind ⟨Nat.le_of_ble_eq_true rfl, Nat.le_of_ble_eq_true rfl⟩ hP hK hl.1 rfl (Nat.le_of_ble_eq_true rfl) d_D_mean_5 ⟨Nat.zero_le _, Nat.zero_le _⟩ ?_
  refine W.eq (g2 := F0 m 8 ls []) rfl ?_
  refine lv_iload_n hx hb d_D_mean_8 rfl (lv_at hl 3 rfl) ?_
  refine z_xS (As := [.int (iZ (c9))]) (rest := []) Z (x_D_needPart hl0 (a := c9) (by omega)) ⟨ml_D_112, sm_D_needPart, ini_D, co_D_needPart⟩ zd_D_needPart ⟨Nat.le_of_ble_eq_true rfl, Nat.le_of_ble_eq_true rfl⟩ hP hK hT hSt hl.1 rfl (Nat.le_of_ble_eq_true rfl) d_D_mean_9 ⟨Nat.le_of_ble_eq_true rfl, Nat.le_of_ble_eq_true rfl⟩ (fun q9 ce9 H9 hz9 hk9 hc9 hv9 hcl9 => ?_)
  exact z_xout Z htab hz9 hk9 hc9 hv9 hcl9

set_option maxHeartbeats 4000000 in
set_option maxRecDepth 100000 in
theorem x_D_weight1 {l : Launch} {D : va_G} (hl0 : l.stackTraces = false) {ad : Nat → Nat} {cI cZ cL : ClassId} {J : SJ} {rd : Nat → Int} {pr : Nat → Nat} {G : SH} {K : SK} {tl : va_W} (hI : JI J) {a b c9 : Int} (h : z32 a ∧ (a < 0 ∨ 4 ≤ a)) : zMt l D (tysW cI cZ cL) y_D_weight w_D_weight 9 141 [.ref (ad 0), .int (iZ (a)), .int (iZ (b)), .int (iZ (c9))] (wdC ad cI cZ cL J rd pr G K tl) "java/lang/IndexOutOfBoundsException" := by
  refine z_ofX (by decide) (Nat.le_of_ble_eq_true rfl) ?_
  intro p e s m below meth c ls Z htab hP hK hT hSt hl
  obtain ⟨hx, hb, hr, hml, hown, hts, hE, hlocks⟩ := id Z
  have hl : lv_has ls 4 [(0, .ref (ad 0)), (1, .int (iZ (a))), (2, .int (iZ (b))), (3, .int (iZ (c9)))] := hl
  obtain ⟨hn32, hk2, hpr, hct⟩ := id hI
  refine lv_iload_n hx hb d_D_weight_0 rfl (lv_at hl 1 rfl) ?_
  refine z_xS (As := [.int (iZ (a))]) (rest := []) Z (x_D_needShip hl0 (a := a) (by omega)) ⟨ml_D_43, sm_D_needShip, ini_D, co_D_needShip⟩ zd_D_needShip ⟨Nat.le_of_ble_eq_true rfl, Nat.le_of_ble_eq_true rfl⟩ hP hK hT hSt hl.1 rfl (Nat.le_of_ble_eq_true rfl) d_D_weight_1 ⟨Nat.le_of_ble_eq_true rfl, Nat.le_of_ble_eq_true rfl⟩ (fun q9 ce9 H9 hz9 hk9 hc9 hv9 hcl9 => ?_)
  exact z_xout Z htab hz9 hk9 hc9 hv9 hcl9

set_option maxHeartbeats 4000000 in
set_option maxRecDepth 100000 in
theorem x_D_weight2 {l : Launch} {D : va_G} (hl0 : l.stackTraces = false) {ad : Nat → Nat} {cI cZ cL : ClassId} {J : SJ} {rd : Nat → Int} {pr : Nat → Nat} {G : SH} {K : SK} {tl : va_W} (hI : JI J) {sh : Nat} {b c9 : Int} (hsh : sh < 4) (h : z32 b ∧ (b < 0 ∨ 3 ≤ b)) : zMt l D (tysW cI cZ cL) y_D_weight w_D_weight 9 141 [.ref (ad 0), .int (iZ ((sh : Nat) : Int)), .int (iZ (b)), .int (iZ (c9))] (wdC ad cI cZ cL J rd pr G K tl) "java/lang/IndexOutOfBoundsException" := by
  refine z_ofX (by decide) (Nat.le_of_ble_eq_true rfl) ?_
  intro p e s m below meth c ls Z htab hP hK hT hSt hl
  obtain ⟨hx, hb, hr, hml, hown, hts, hE, hlocks⟩ := id Z
  have hl : lv_has ls 4 [(0, .ref (ad 0)), (1, .int (iZ ((sh : Nat) : Int))), (2, .int (iZ (b))), (3, .int (iZ (c9)))] := hl
  obtain ⟨hn32, hk2, hpr, hct⟩ := id hI
  refine lv_iload_n hx hb d_D_weight_0 rfl (lv_at hl 1 rfl) ?_
  refine z_callSR (As := [.int (iZ ((sh : Nat) : Int))]) (rest := []) zTB Z (k_D_needShip (a := ((sh : Nat) : Int)) (by omega)) ⟨ml_D_43, sm_D_needShip, ini_D, co_D_needShip⟩ zd_D_needShip ⟨Nat.le_of_ble_eq_true rfl, Nat.le_of_ble_eq_true rfl⟩ hP hK hl.1 rfl (Nat.le_of_ble_eq_true rfl) d_D_weight_1 ⟨Nat.zero_le _, Nat.zero_le _⟩ ?_
  refine W.eq (g2 := F0 m 4 ls []) rfl ?_
  refine lv_iload_n hx hb d_D_weight_4 rfl (lv_at hl 2 rfl) ?_
  refine z_xS (As := [.int (iZ (b))]) (rest := []) Z (x_D_needKind hl0 (a := b) (by omega)) ⟨ml_D_64, sm_D_needKind, ini_D, co_D_needKind⟩ zd_D_needKind ⟨Nat.le_of_ble_eq_true rfl, Nat.le_of_ble_eq_true rfl⟩ hP hK hT hSt hl.1 rfl (Nat.le_of_ble_eq_true rfl) d_D_weight_5 ⟨Nat.le_of_ble_eq_true rfl, Nat.le_of_ble_eq_true rfl⟩ (fun q9 ce9 H9 hz9 hk9 hc9 hv9 hcl9 => ?_)
  exact z_xout Z htab hz9 hk9 hc9 hv9 hcl9

set_option maxHeartbeats 4000000 in
set_option maxRecDepth 100000 in
theorem x_D_weight3 {l : Launch} {D : va_G} (hl0 : l.stackTraces = false) {ad : Nat → Nat} {cI cZ cL : ClassId} {J : SJ} {rd : Nat → Int} {pr : Nat → Nat} {G : SH} {K : SK} {tl : va_W} (hI : JI J) {sh kd : Nat} {c9 : Int} (hsh : sh < 4) (hkd : kd < 3) (h : z32 c9 ∧ (c9 < 0 ∨ 2 ≤ c9)) : zMt l D (tysW cI cZ cL) y_D_weight w_D_weight 9 141 [.ref (ad 0), .int (iZ ((sh : Nat) : Int)), .int (iZ ((kd : Nat) : Int)), .int (iZ (c9))] (wdC ad cI cZ cL J rd pr G K tl) "java/lang/IndexOutOfBoundsException" := by
  refine z_ofX (by decide) (Nat.le_of_ble_eq_true rfl) ?_
  intro p e s m below meth c ls Z htab hP hK hT hSt hl
  obtain ⟨hx, hb, hr, hml, hown, hts, hE, hlocks⟩ := id Z
  have hl : lv_has ls 4 [(0, .ref (ad 0)), (1, .int (iZ ((sh : Nat) : Int))), (2, .int (iZ ((kd : Nat) : Int))), (3, .int (iZ (c9)))] := hl
  obtain ⟨hn32, hk2, hpr, hct⟩ := id hI
  refine lv_iload_n hx hb d_D_weight_0 rfl (lv_at hl 1 rfl) ?_
  refine z_callSR (As := [.int (iZ ((sh : Nat) : Int))]) (rest := []) zTB Z (k_D_needShip (a := ((sh : Nat) : Int)) (by omega)) ⟨ml_D_43, sm_D_needShip, ini_D, co_D_needShip⟩ zd_D_needShip ⟨Nat.le_of_ble_eq_true rfl, Nat.le_of_ble_eq_true rfl⟩ hP hK hl.1 rfl (Nat.le_of_ble_eq_true rfl) d_D_weight_1 ⟨Nat.zero_le _, Nat.zero_le _⟩ ?_
  refine W.eq (g2 := F0 m 4 ls []) rfl ?_
  refine lv_iload_n hx hb d_D_weight_4 rfl (lv_at hl 2 rfl) ?_
  refine z_callSR (As := [.int (iZ ((kd : Nat) : Int))]) (rest := []) zTB Z (k_D_needKind (a := ((kd : Nat) : Int)) (by omega)) ⟨ml_D_64, sm_D_needKind, ini_D, co_D_needKind⟩ zd_D_needKind ⟨Nat.le_of_ble_eq_true rfl, Nat.le_of_ble_eq_true rfl⟩ hP hK hl.1 rfl (Nat.le_of_ble_eq_true rfl) d_D_weight_5 ⟨Nat.zero_le _, Nat.zero_le _⟩ ?_
  refine W.eq (g2 := F0 m 8 ls []) rfl ?_
  refine lv_iload_n hx hb d_D_weight_8 rfl (lv_at hl 3 rfl) ?_
  refine z_xS (As := [.int (iZ (c9))]) (rest := []) Z (x_D_needPart hl0 (a := c9) (by omega)) ⟨ml_D_112, sm_D_needPart, ini_D, co_D_needPart⟩ zd_D_needPart ⟨Nat.le_of_ble_eq_true rfl, Nat.le_of_ble_eq_true rfl⟩ hP hK hT hSt hl.1 rfl (Nat.le_of_ble_eq_true rfl) d_D_weight_9 ⟨Nat.le_of_ble_eq_true rfl, Nat.le_of_ble_eq_true rfl⟩ (fun q9 ce9 H9 hz9 hk9 hc9 hv9 hcl9 => ?_)
  exact z_xout Z htab hz9 hk9 hc9 hv9 hcl9

set_option maxHeartbeats 4000000 in
set_option maxRecDepth 100000 in
theorem x_D_reader1 {l : Launch} {D : va_G} (hl0 : l.stackTraces = false) {ad : Nat → Nat} {cI cZ cL : ClassId} {J : SJ} {rd : Nat → Int} {pr : Nat → Nat} {G : SH} {K : SK} {tl : va_W} (hI : JI J) {a b c9 : Int} (h : z32 a ∧ (a < 0 ∨ ((jn J : Nat) : Int) ≤ a)) : zMt l D (tysW cI cZ cL) y_D_reader w_D_reader 9 142 [.ref (ad 0), .int (iZ (a)), .int (iZ (b)), .int (iZ (c9))] (wdC ad cI cZ cL J rd pr G K tl) "java/lang/IndexOutOfBoundsException" := by
  refine z_ofX (by decide) (Nat.le_of_ble_eq_true rfl) ?_
  intro p e s m below meth c ls Z htab hP hK hT hSt hl
  obtain ⟨hx, hb, hr, hml, hown, hts, hE, hlocks⟩ := id Z
  have hl : lv_has ls 4 [(0, .ref (ad 0)), (1, .int (iZ (a))), (2, .int (iZ (b))), (3, .int (iZ (c9)))] := hl
  obtain ⟨hn32, hk2, hpr, hct⟩ := id hI
  refine lv_aload_n hx hb d_D_reader_0 rfl (lv_at hl 0 rfl) ?_
  refine lv_iload_n hx hb d_D_reader_1 rfl (lv_at hl 1 rfl) ?_
  refine z_xV (As := [.int (iZ (a))]) (rest := []) Z (x_D_needHaul hl0 (a := a) (by omega)) ⟨ml_D_61, im_D_needHaul, se_D_needHaul, ini_D, co_D_needHaul⟩ zd_D_needHaul ⟨Nat.le_of_ble_eq_true rfl, Nat.le_of_ble_eq_true rfl⟩ hP hK hT hSt (ci := 0) (q0 := 0) rfl rfl rfl hl.1 rfl (Nat.le_of_ble_eq_true rfl) d_D_reader_2 ⟨Nat.le_of_ble_eq_true rfl, Nat.le_of_ble_eq_true rfl⟩ (fun q9 ce9 H9 hz9 hk9 hc9 hv9 hcl9 => ?_)
  exact z_xout Z htab hz9 hk9 hc9 hv9 hcl9

set_option maxHeartbeats 4000000 in
set_option maxRecDepth 100000 in
theorem x_D_reader2 {l : Launch} {D : va_G} (hl0 : l.stackTraces = false) {ad : Nat → Nat} {cI cZ cL : ClassId} {J : SJ} {rd : Nat → Int} {pr : Nat → Nat} {G : SH} {K : SK} {tl : va_W} (hI : JI J) {h : Nat} {b c9 : Int} (hh : h < jn J) (h2 : z32 b ∧ (b < 0 ∨ 2 ≤ b)) : zMt l D (tysW cI cZ cL) y_D_reader w_D_reader 9 142 [.ref (ad 0), .int (iZ ((h : Nat) : Int)), .int (iZ (b)), .int (iZ (c9))] (wdC ad cI cZ cL J rd pr G K tl) "java/lang/IndexOutOfBoundsException" := by
  refine z_ofX (by decide) (Nat.le_of_ble_eq_true rfl) ?_
  intro p e s m below meth c ls Z htab hP hK hT hSt hl
  obtain ⟨hx, hb, hr, hml, hown, hts, hE, hlocks⟩ := id Z
  have hl : lv_has ls 4 [(0, .ref (ad 0)), (1, .int (iZ ((h : Nat) : Int))), (2, .int (iZ (b))), (3, .int (iZ (c9)))] := hl
  obtain ⟨hn32, hk2, hpr, hct⟩ := id hI
  refine lv_aload_n hx hb d_D_reader_0 rfl (lv_at hl 0 rfl) ?_
  refine lv_iload_n hx hb d_D_reader_1 rfl (lv_at hl 1 rfl) ?_
  refine z_callVR (As := [.int (iZ ((h : Nat) : Int))]) (rest := []) zTB Z (k_D_needHaul (a := ((h : Nat) : Int)) (by omega)) ⟨ml_D_61, im_D_needHaul, se_D_needHaul, ini_D, co_D_needHaul⟩ zd_D_needHaul ⟨Nat.le_of_ble_eq_true rfl, Nat.le_of_ble_eq_true rfl⟩ hP hK (ci := 0) (q0 := 0) rfl rfl rfl hl.1 rfl (Nat.le_of_ble_eq_true rfl) d_D_reader_2 ⟨Nat.zero_le _, Nat.zero_le _⟩ ?_
  refine W.eq (g2 := F0 m 5 ls []) rfl ?_
  refine lv_iload_n hx hb d_D_reader_5 rfl (lv_at hl 2 rfl) ?_
  refine lv_iconst (v := iZ ((2 : Nat) : Int)) hx hb d_D_reader_6 (by decide) ?_
  refine z_xS (As := [.int (iZ (b)), .int (iZ ((2 : Nat) : Int))]) (rest := []) Z (x_D_needIndex hl0 (a := b) (b := ((2 : Nat) : Int)) (by omega)) ⟨ml_D_86, sm_D_needIndex, ini_D, co_D_needIndex⟩ zd_D_needIndex ⟨Nat.le_of_ble_eq_true rfl, Nat.le_of_ble_eq_true rfl⟩ hP hK hT hSt hl.1 rfl (Nat.le_of_ble_eq_true rfl) d_D_reader_7 ⟨Nat.le_of_ble_eq_true rfl, Nat.le_of_ble_eq_true rfl⟩ (fun q9 ce9 H9 hz9 hk9 hc9 hv9 hcl9 => ?_)
  exact z_xout Z htab hz9 hk9 hc9 hv9 hcl9

set_option maxHeartbeats 4000000 in
set_option maxRecDepth 100000 in
theorem x_D_reader3 {l : Launch} {D : va_G} (hl0 : l.stackTraces = false) {ad : Nat → Nat} {cI cZ cL : ClassId} {J : SJ} {rd : Nat → Int} {pr : Nat → Nat} {G : SH} {K : SK} {tl : va_W} (hI : JI J) {h rr : Nat} {c9 : Int} (hh : h < jn J) (hrr : rr < 2) (h2 : z32 c9 ∧ (c9 < 0 ∨ 100000 < c9)) : zMt l D (tysW cI cZ cL) y_D_reader w_D_reader 9 142 [.ref (ad 0), .int (iZ ((h : Nat) : Int)), .int (iZ ((rr : Nat) : Int)), .int (iZ (c9))] (wdC ad cI cZ cL J rd pr G K tl) "java/lang/IllegalArgumentException" := by
  refine z_ofX (by decide) (Nat.le_of_ble_eq_true rfl) ?_
  intro p e s m below meth c ls Z htab hP hK hT hSt hl
  obtain ⟨hx, hb, hr, hml, hown, hts, hE, hlocks⟩ := id Z
  have hl : lv_has ls 4 [(0, .ref (ad 0)), (1, .int (iZ ((h : Nat) : Int))), (2, .int (iZ ((rr : Nat) : Int))), (3, .int (iZ (c9)))] := hl
  obtain ⟨hn32, hk2, hpr, hct⟩ := id hI
  refine lv_aload_n hx hb d_D_reader_0 rfl (lv_at hl 0 rfl) ?_
  refine lv_iload_n hx hb d_D_reader_1 rfl (lv_at hl 1 rfl) ?_
  refine z_callVR (As := [.int (iZ ((h : Nat) : Int))]) (rest := []) zTB Z (k_D_needHaul (a := ((h : Nat) : Int)) (by omega)) ⟨ml_D_61, im_D_needHaul, se_D_needHaul, ini_D, co_D_needHaul⟩ zd_D_needHaul ⟨Nat.le_of_ble_eq_true rfl, Nat.le_of_ble_eq_true rfl⟩ hP hK (ci := 0) (q0 := 0) rfl rfl rfl hl.1 rfl (Nat.le_of_ble_eq_true rfl) d_D_reader_2 ⟨Nat.zero_le _, Nat.zero_le _⟩ ?_
  refine W.eq (g2 := F0 m 5 ls []) rfl ?_
  refine lv_iload_n hx hb d_D_reader_5 rfl (lv_at hl 2 rfl) ?_
  refine lv_iconst (v := iZ ((2 : Nat) : Int)) hx hb d_D_reader_6 (by decide) ?_
  refine z_callSR (As := [.int (iZ ((rr : Nat) : Int)), .int (iZ ((2 : Nat) : Int))]) (rest := []) zTB Z (k_D_needIndex (a := ((rr : Nat) : Int)) (b := ((2 : Nat) : Int)) (by omega)) ⟨ml_D_86, sm_D_needIndex, ini_D, co_D_needIndex⟩ zd_D_needIndex ⟨Nat.le_of_ble_eq_true rfl, Nat.le_of_ble_eq_true rfl⟩ hP hK hl.1 rfl (Nat.le_of_ble_eq_true rfl) d_D_reader_7 ⟨Nat.zero_le _, Nat.zero_le _⟩ ?_
  refine W.eq (g2 := F0 m 10 ls []) rfl ?_
  refine lv_iload_n hx hb d_D_reader_10 rfl (lv_at hl 3 rfl) ?_
  refine lv_iconst (v := iZ ((0 : Nat) : Int)) hx hb d_D_reader_11 (by decide) ?_
  refine lv_ldc (v := iZ ((100000 : Nat) : Int)) hx hb hown (hts _ ck9_D_169) d_D_reader_12 ?_
  refine z_xS (As := [.int (iZ (c9)), .int (iZ ((0 : Nat) : Int)), .int (iZ ((100000 : Nat) : Int))]) (rest := []) Z (x_D_needNumber hl0 (a := c9) (b := ((0 : Nat) : Int)) (c9 := ((100000 : Nat) : Int)) (by omega)) ⟨ml_D_67, sm_D_needNumber, ini_D, co_D_needNumber⟩ zd_D_needNumber ⟨Nat.le_of_ble_eq_true rfl, Nat.le_of_ble_eq_true rfl⟩ hP hK hT hSt hl.1 rfl (Nat.le_of_ble_eq_true rfl) d_D_reader_14 ⟨Nat.le_of_ble_eq_true rfl, Nat.le_of_ble_eq_true rfl⟩ (fun q9 ce9 H9 hz9 hk9 hc9 hv9 hcl9 => ?_)
  exact z_xout Z htab hz9 hk9 hc9 hv9 hcl9

set_option maxHeartbeats 4000000 in
set_option maxRecDepth 100000 in
theorem x_D_unlike1 {l : Launch} {D : va_G} (hl0 : l.stackTraces = false) {ad : Nat → Nat} {cI cZ cL : ClassId} {J : SJ} {rd : Nat → Int} {pr : Nat → Nat} {G : SH} {K : SK} {tl : va_W} (hI : JI J) {a : Int} (h : z32 a ∧ (a < 0 ∨ ((jn J : Nat) : Int) < a)) : zMt l D (tysW cI cZ cL) y_D_unlike w_D_unlike 8 121 [.ref (ad 0), .int (iZ (a))] (wdC ad cI cZ cL J rd pr G K tl) "java/lang/IndexOutOfBoundsException" := by
  refine z_ofX (by decide) (Nat.le_of_ble_eq_true rfl) ?_
  intro p e s m below meth c ls Z htab hP hK hT hSt hl
  obtain ⟨hx, hb, hr, hml, hown, hts, hE, hlocks⟩ := id Z
  have hl : lv_has ls 3 [(0, .ref (ad 0)), (1, .int (iZ (a)))] := hl
  obtain ⟨hn32, hk2, hpr, hct⟩ := id hI
  refine lv_iload_n hx hb d_D_unlike_0 rfl (lv_at hl 1 rfl) ?_
  refine lv_aload_n hx hb d_D_unlike_1 rfl (lv_at hl 0 rfl) ?_
  refine va_get (D := D) (ci := 0) (v := .ref (ad 1)) (C := n_D) (T := f_D) (N := 5) hx hb hts in_D hown hK hP 0 rfl rfl 0 (by decide) (hts _ fl_D_14) (fun _ h9 => h9) rfl d_D_unlike_2 ?_
  refine va_getN (D := D) (ci := 1) (v := .int (iZ ((jn J : Nat) : Int))) (C := n_J) (T := f_J) (N := 10) hx hb hts in_J hown hK hP 1 rfl rfl 1 (by decide) (hts _ fl_D_46) (fun _ h9 => h9) rfl d_D_unlike_5 ?_
  refine lv_iconst (v := iZ ((1 : Nat) : Int)) hx hb d_D_unlike_8 (by decide) ?_
  refine z_iaddN (u := jn J) (v := 1) hx hb d_D_unlike_9 ?_
  refine z_xS (As := [.int (iZ (a)), .int (iZ (((jn J) + 1 : Nat) : Int))]) (rest := []) Z (x_D_needIndex hl0 (a := a) (b := (((jn J) + 1 : Nat) : Int)) (by omega)) ⟨ml_D_86, sm_D_needIndex, ini_D, co_D_needIndex⟩ zd_D_needIndex ⟨Nat.le_of_ble_eq_true rfl, Nat.le_of_ble_eq_true rfl⟩ hP hK hT hSt hl.1 rfl (Nat.le_of_ble_eq_true rfl) d_D_unlike_10 ⟨Nat.le_of_ble_eq_true rfl, Nat.le_of_ble_eq_true rfl⟩ (fun q9 ce9 H9 hz9 hk9 hc9 hv9 hcl9 => ?_)
  exact z_xout Z htab hz9 hk9 hc9 hv9 hcl9

set_option maxHeartbeats 4000000 in
set_option maxRecDepth 100000 in
theorem x_D_price1 {l : Launch} {D : va_G} (hl0 : l.stackTraces = false) {ad : Nat → Nat} {cI cZ cL : ClassId} {J : SJ} {rd : Nat → Int} {pr : Nat → Nat} {G : SH} {K : SK} {tl : va_W} (hI : JI J) {a b : Int} (h : z32 a ∧ (a < 0 ∨ 3 ≤ a)) : zMt l D (tysW cI cZ cL) y_D_price w_D_price 9 141 [.ref (ad 0), .int (iZ (a)), .int (iZ (b))] (wdC ad cI cZ cL J rd pr G K tl) "java/lang/IndexOutOfBoundsException" := by
  refine z_ofX (by decide) (Nat.le_of_ble_eq_true rfl) ?_
  intro p e s m below meth c ls Z htab hP hK hT hSt hl
  obtain ⟨hx, hb, hr, hml, hown, hts, hE, hlocks⟩ := id Z
  have hl : lv_has ls 3 [(0, .ref (ad 0)), (1, .int (iZ (a))), (2, .int (iZ (b)))] := hl
  obtain ⟨hn32, hk2, hpr, hct⟩ := id hI
  refine lv_iload_n hx hb d_D_price_0 rfl (lv_at hl 1 rfl) ?_
  refine z_xS (As := [.int (iZ (a))]) (rest := []) Z (x_D_needKind hl0 (a := a) (by omega)) ⟨ml_D_64, sm_D_needKind, ini_D, co_D_needKind⟩ zd_D_needKind ⟨Nat.le_of_ble_eq_true rfl, Nat.le_of_ble_eq_true rfl⟩ hP hK hT hSt hl.1 rfl (Nat.le_of_ble_eq_true rfl) d_D_price_1 ⟨Nat.le_of_ble_eq_true rfl, Nat.le_of_ble_eq_true rfl⟩ (fun q9 ce9 H9 hz9 hk9 hc9 hv9 hcl9 => ?_)
  exact z_xout Z htab hz9 hk9 hc9 hv9 hcl9

set_option maxHeartbeats 4000000 in
set_option maxRecDepth 100000 in
theorem x_D_price2 {l : Launch} {D : va_G} (hl0 : l.stackTraces = false) {ad : Nat → Nat} {cI cZ cL : ClassId} {J : SJ} {rd : Nat → Int} {pr : Nat → Nat} {G : SH} {K : SK} {tl : va_W} (hI : JI J) {kd : Nat} {b : Int} (hkd : kd < 3) (h : z32 b ∧ (b < 0 ∨ 100000 < b)) : zMt l D (tysW cI cZ cL) y_D_price w_D_price 9 141 [.ref (ad 0), .int (iZ ((kd : Nat) : Int)), .int (iZ (b))] (wdC ad cI cZ cL J rd pr G K tl) "java/lang/IllegalArgumentException" := by
  refine z_ofX (by decide) (Nat.le_of_ble_eq_true rfl) ?_
  intro p e s m below meth c ls Z htab hP hK hT hSt hl
  obtain ⟨hx, hb, hr, hml, hown, hts, hE, hlocks⟩ := id Z
  have hl : lv_has ls 3 [(0, .ref (ad 0)), (1, .int (iZ ((kd : Nat) : Int))), (2, .int (iZ (b)))] := hl
  obtain ⟨hn32, hk2, hpr, hct⟩ := id hI
  refine lv_iload_n hx hb d_D_price_0 rfl (lv_at hl 1 rfl) ?_
  refine z_callSR (As := [.int (iZ ((kd : Nat) : Int))]) (rest := []) zTB Z (k_D_needKind (a := ((kd : Nat) : Int)) (by omega)) ⟨ml_D_64, sm_D_needKind, ini_D, co_D_needKind⟩ zd_D_needKind ⟨Nat.le_of_ble_eq_true rfl, Nat.le_of_ble_eq_true rfl⟩ hP hK hl.1 rfl (Nat.le_of_ble_eq_true rfl) d_D_price_1 ⟨Nat.zero_le _, Nat.zero_le _⟩ ?_
  refine W.eq (g2 := F0 m 4 ls []) rfl ?_
  refine lv_iload_n hx hb d_D_price_4 rfl (lv_at hl 2 rfl) ?_
  refine lv_iconst (v := iZ ((0 : Nat) : Int)) hx hb d_D_price_5 (by decide) ?_
  refine lv_ldc (v := iZ ((100000 : Nat) : Int)) hx hb hown (hts _ ck9_D_169) d_D_price_6 ?_
  refine z_xS (As := [.int (iZ (b)), .int (iZ ((0 : Nat) : Int)), .int (iZ ((100000 : Nat) : Int))]) (rest := []) Z (x_D_needNumber hl0 (a := b) (b := ((0 : Nat) : Int)) (c9 := ((100000 : Nat) : Int)) (by omega)) ⟨ml_D_67, sm_D_needNumber, ini_D, co_D_needNumber⟩ zd_D_needNumber ⟨Nat.le_of_ble_eq_true rfl, Nat.le_of_ble_eq_true rfl⟩ hP hK hT hSt hl.1 rfl (Nat.le_of_ble_eq_true rfl) d_D_price_8 ⟨Nat.le_of_ble_eq_true rfl, Nat.le_of_ble_eq_true rfl⟩ (fun q9 ce9 H9 hz9 hk9 hc9 hv9 hcl9 => ?_)
  exact z_xout Z htab hz9 hk9 hc9 hv9 hcl9

