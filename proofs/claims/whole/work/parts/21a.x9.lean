abbrev rmX9_isCell : Room := { frames := 1, cells := 0, slots := 0, locals := 20 }
set_option maxHeartbeats 4000000 in
set_option maxRecDepth 100000 in
theorem k_X9_isCell (l : Launch) (D : va_G) (cI cC cB cS : ClassId) (w0 w1 w2 w4 w5 w6 w7 w8 w9 w10 w11 w12 : Nat) (p0 p1 p2 p3 : Nat) (P : PL) (x1 : Int32) (z1 : Int) (hz1 : x1.toInt = z1) (hp : pOK P) : CI l D (kT cI cC cB cS) yX9_isCell wsX9_isCell rmX9_isCell [.ref w0, .int (x1)] (rwW w0 w1 w2 p0 w4 w5 w6 w7 w8 w9 w10 w11 w12 ++ plW p0 p1 p2 p3 cI P) (fun r u => r = nI (if okX (pCells P) z1 then 1 else 0) ∧ u = rwW w0 w1 w2 p0 w4 w5 w6 w7 w8 w9 w10 w11 w12 ++ plW p0 p1 p2 p3 cI P) := by
  refine ci_intro (by decide) rfl (Nat.le_of_ble_eq_true rfl) ?_
  intro p e s m args below meth c ls A QF hF hK hP hV hS hA hN hl hret
  obtain ⟨hx, hb, hml, hown, hts⟩ := id hF
  have hP : va_P D vwCl (rwW w0 w1 w2 p0 w4 w5 w6 w7 w8 w9 w10 w11 w12 ++ plW p0 p1 p2 p3 cI P) s.heap := hP
  have hl : lv_has ls 2 [(0, .ref w0), (1, .int (x1))] := hl
  have wf26 := hts (.fieldLink RX9 26 "RemorseWall" "plan" "LRemorseWall$Plan;") (by decide +kernel)
  have hiX9 : ∀ w ∈ u_ws RX9 TX9 12, w ∈ wsX9_isCell := by decide +kernel
  have hcl := pCells_le hp
  obtain ⟨hp1, hp2, hp3, hp4, hp5, hp6, hp7⟩ := id hp
  refine lv_iload_n (pc := 0) hx hb dX9_isCell_0 rfl (lv_at hl 1 rfl) ?_
  refine r0_lt (pc := 1) (tgt := 19) hx hb hz1 dX9_isCell_1 (by decide) (fun c1 => ?_) (fun c1 => ?_)
  · refine lv_iconst (pc := 19) (v := nI 0) hx hb dX9_isCell_19 (by decide) ?_
    exact hret 20 _ hP hS dX9_isCell_20 rfl rfl ⟨(by rw [if_neg (show ¬ okX (pCells P) z1 by unfold okX; omega)]), rfl⟩
  · refine lv_iload_n (pc := 4) hx hb dX9_isCell_4 rfl (lv_at hl 1 rfl) ?_
    refine lv_aload_n (pc := 5) hx hb dX9_isCell_5 rfl (lv_at hl 0 rfl) ?_
    refine va_get (pc := 6) (D := D) (ci := 9) (v := .ref p0) (C := RX9) (T := TX9) (N := 12) hx hb hts hiX9 hown hK hP 0 rfl rfl 2 (by decide) wf26 (fun _ h9 => h9) rfl dX9_isCell_6 ?_
    refine ci_Vd (pc := 9) (r0 := nI (pCells P)) hF hN hK hP hV hS hA (k_X2_cellCount l D cI cC cB cS p0 p1 p2 p3 P) (cwV 0 hts gX9_isCell_X2_cellCount rfl rfl rfl (by decide +kernel) ⟨Nat.le_of_ble_eq_true rfl, Nat.le_of_ble_eq_true rfl⟩) [1, 2, 3, 4] rfl (by decide) 0 2 rfl rfl rfl hl.1 rfl (Nat.le_of_ble_eq_true rfl) dX9_isCell_9 ⟨Nat.le_refl _, Nat.le_refl _⟩ rfl (ws2 := rwW w0 w1 w2 p0 w4 w5 w6 w7 w8 w9 w10 w11 w12 ++ plW p0 p1 p2 p3 cI P) rfl (fun H locs hP hS => ?_)
    refine rc_ge (pc := 12) (tgt := 19) hx hb hz1 (tI_nI (by omega)) dX9_isCell_12 (by decide) (fun c12 => ?_) (fun c12 => ?_)
    · refine lv_iconst (pc := 19) (v := nI 0) hx hb dX9_isCell_19 (by decide) ?_
      exact hret 20 _ hP hS dX9_isCell_20 rfl rfl ⟨(by rw [if_neg (show ¬ okX (pCells P) z1 by unfold okX; omega)]), rfl⟩
    · refine lv_iconst (pc := 15) (v := nI 1) hx hb dX9_isCell_15 (by decide) ?_
      refine lv_goto (pc := 16) (tgt := 20) hx hb dX9_isCell_16 (by decide) ?_
      exact hret 20 _ hP hS dX9_isCell_20 rfl rfl ⟨(by rw [if_pos (show okX (pCells P) z1 by unfold okX; omega)]), rfl⟩
abbrev rmX9_isCase : Room := { frames := 1, cells := 0, slots := 0, locals := 20 }
set_option maxHeartbeats 4000000 in
set_option maxRecDepth 100000 in
theorem k_X9_isCase (l : Launch) (D : va_G) (cI cC cB cS : ClassId) (w0 w1 w2 w4 w5 w6 w7 w8 w9 w10 w11 w12 : Nat) (p0 p1 p2 p3 : Nat) (P : PL) (x1 : Int32) (z1 : Int) (hz1 : x1.toInt = z1) (hp : pOK P) : CI l D (kT cI cC cB cS) yX9_isCase wsX9_isCase rmX9_isCase [.ref w0, .int (x1)] (rwW w0 w1 w2 p0 w4 w5 w6 w7 w8 w9 w10 w11 w12 ++ plW p0 p1 p2 p3 cI P) (fun r u => r = nI (if okX (P.2.2.2.2.2.1) z1 then 1 else 0) ∧ u = rwW w0 w1 w2 p0 w4 w5 w6 w7 w8 w9 w10 w11 w12 ++ plW p0 p1 p2 p3 cI P) := by
  refine ci_intro (by decide) rfl (Nat.le_of_ble_eq_true rfl) ?_
  intro p e s m args below meth c ls A QF hF hK hP hV hS hA hN hl hret
  obtain ⟨hx, hb, hml, hown, hts⟩ := id hF
  have hP : va_P D vwCl (rwW w0 w1 w2 p0 w4 w5 w6 w7 w8 w9 w10 w11 w12 ++ plW p0 p1 p2 p3 cI P) s.heap := hP
  have hl : lv_has ls 2 [(0, .ref w0), (1, .int (x1))] := hl
  have wf26 := hts (.fieldLink RX9 26 "RemorseWall" "plan" "LRemorseWall$Plan;") (by decide +kernel)
  have hiX9 : ∀ w ∈ u_ws RX9 TX9 12, w ∈ wsX9_isCase := by decide +kernel
  have hcl := pCells_le hp
  obtain ⟨hp1, hp2, hp3, hp4, hp5, hp6, hp7⟩ := id hp
  refine lv_iload_n (pc := 0) hx hb dX9_isCase_0 rfl (lv_at hl 1 rfl) ?_
  refine r0_lt (pc := 1) (tgt := 19) hx hb hz1 dX9_isCase_1 (by decide) (fun c1 => ?_) (fun c1 => ?_)
  · refine lv_iconst (pc := 19) (v := nI 0) hx hb dX9_isCase_19 (by decide) ?_
    exact hret 20 _ hP hS dX9_isCase_20 rfl rfl ⟨(by rw [if_neg (show ¬ okX (P.2.2.2.2.2.1) z1 by unfold okX; omega)]), rfl⟩
  · refine lv_iload_n (pc := 4) hx hb dX9_isCase_4 rfl (lv_at hl 1 rfl) ?_
    refine lv_aload_n (pc := 5) hx hb dX9_isCase_5 rfl (lv_at hl 0 rfl) ?_
    refine va_get (pc := 6) (D := D) (ci := 9) (v := .ref p0) (C := RX9) (T := TX9) (N := 12) hx hb hts hiX9 hown hK hP 0 rfl rfl 2 (by decide) wf26 (fun _ h9 => h9) rfl dX9_isCase_6 ?_
    refine ci_Vd (pc := 9) (r0 := nI P.2.2.2.2.2.1) hF hN hK hP hV hS hA (k_X2_caseCount l D cI cC cB cS p0 p1 p2 p3 P) (cwV 0 hts gX9_isCase_X2_caseCount rfl rfl rfl (by decide +kernel) ⟨Nat.le_of_ble_eq_true rfl, Nat.le_of_ble_eq_true rfl⟩) [1, 2, 3, 4] rfl (by decide) 0 2 rfl rfl rfl hl.1 rfl (Nat.le_of_ble_eq_true rfl) dX9_isCase_9 ⟨Nat.le_refl _, Nat.le_refl _⟩ rfl (ws2 := rwW w0 w1 w2 p0 w4 w5 w6 w7 w8 w9 w10 w11 w12 ++ plW p0 p1 p2 p3 cI P) rfl (fun H locs hP hS => ?_)
    refine rc_ge (pc := 12) (tgt := 19) hx hb hz1 (tI_nI (by omega)) dX9_isCase_12 (by decide) (fun c12 => ?_) (fun c12 => ?_)
    · refine lv_iconst (pc := 19) (v := nI 0) hx hb dX9_isCase_19 (by decide) ?_
      exact hret 20 _ hP hS dX9_isCase_20 rfl rfl ⟨(by rw [if_neg (show ¬ okX (P.2.2.2.2.2.1) z1 by unfold okX; omega)]), rfl⟩
    · refine lv_iconst (pc := 15) (v := nI 1) hx hb dX9_isCase_15 (by decide) ?_
      refine lv_goto (pc := 16) (tgt := 20) hx hb dX9_isCase_16 (by decide) ?_
      exact hret 20 _ hP hS dX9_isCase_20 rfl rfl ⟨(by rw [if_pos (show okX (P.2.2.2.2.2.1) z1 by unfold okX; omega)]), rfl⟩
abbrev rmX9_isMaid : Room := { frames := 1, cells := 0, slots := 0, locals := 20 }
set_option maxHeartbeats 4000000 in
set_option maxRecDepth 100000 in
theorem k_X9_isMaid (l : Launch) (D : va_G) (cI cC cB cS : ClassId) (w0 w1 w2 w4 w5 w6 w7 w8 w9 w10 w11 w12 : Nat) (p0 p1 p2 p3 : Nat) (P : PL) (x1 : Int32) (z1 : Int) (hz1 : x1.toInt = z1) (hp : pOK P) : CI l D (kT cI cC cB cS) yX9_isMaid wsX9_isMaid rmX9_isMaid [.ref w0, .int (x1)] (rwW w0 w1 w2 p0 w4 w5 w6 w7 w8 w9 w10 w11 w12 ++ plW p0 p1 p2 p3 cI P) (fun r u => r = nI (if okX (P.2.2.2.2.2.2) z1 then 1 else 0) ∧ u = rwW w0 w1 w2 p0 w4 w5 w6 w7 w8 w9 w10 w11 w12 ++ plW p0 p1 p2 p3 cI P) := by
  refine ci_intro (by decide) rfl (Nat.le_of_ble_eq_true rfl) ?_
  intro p e s m args below meth c ls A QF hF hK hP hV hS hA hN hl hret
  obtain ⟨hx, hb, hml, hown, hts⟩ := id hF
  have hP : va_P D vwCl (rwW w0 w1 w2 p0 w4 w5 w6 w7 w8 w9 w10 w11 w12 ++ plW p0 p1 p2 p3 cI P) s.heap := hP
  have hl : lv_has ls 2 [(0, .ref w0), (1, .int (x1))] := hl
  have wf26 := hts (.fieldLink RX9 26 "RemorseWall" "plan" "LRemorseWall$Plan;") (by decide +kernel)
  have hiX9 : ∀ w ∈ u_ws RX9 TX9 12, w ∈ wsX9_isMaid := by decide +kernel
  have hcl := pCells_le hp
  obtain ⟨hp1, hp2, hp3, hp4, hp5, hp6, hp7⟩ := id hp
  refine lv_iload_n (pc := 0) hx hb dX9_isMaid_0 rfl (lv_at hl 1 rfl) ?_
  refine r0_lt (pc := 1) (tgt := 19) hx hb hz1 dX9_isMaid_1 (by decide) (fun c1 => ?_) (fun c1 => ?_)
  · refine lv_iconst (pc := 19) (v := nI 0) hx hb dX9_isMaid_19 (by decide) ?_
    exact hret 20 _ hP hS dX9_isMaid_20 rfl rfl ⟨(by rw [if_neg (show ¬ okX (P.2.2.2.2.2.2) z1 by unfold okX; omega)]), rfl⟩
  · refine lv_iload_n (pc := 4) hx hb dX9_isMaid_4 rfl (lv_at hl 1 rfl) ?_
    refine lv_aload_n (pc := 5) hx hb dX9_isMaid_5 rfl (lv_at hl 0 rfl) ?_
    refine va_get (pc := 6) (D := D) (ci := 9) (v := .ref p0) (C := RX9) (T := TX9) (N := 12) hx hb hts hiX9 hown hK hP 0 rfl rfl 2 (by decide) wf26 (fun _ h9 => h9) rfl dX9_isMaid_6 ?_
    refine ci_Vd (pc := 9) (r0 := nI P.2.2.2.2.2.2) hF hN hK hP hV hS hA (k_X2_maidCount l D cI cC cB cS p0 p1 p2 p3 P) (cwV 0 hts gX9_isMaid_X2_maidCount rfl rfl rfl (by decide +kernel) ⟨Nat.le_of_ble_eq_true rfl, Nat.le_of_ble_eq_true rfl⟩) [1, 2, 3, 4] rfl (by decide) 0 2 rfl rfl rfl hl.1 rfl (Nat.le_of_ble_eq_true rfl) dX9_isMaid_9 ⟨Nat.le_refl _, Nat.le_refl _⟩ rfl (ws2 := rwW w0 w1 w2 p0 w4 w5 w6 w7 w8 w9 w10 w11 w12 ++ plW p0 p1 p2 p3 cI P) rfl (fun H locs hP hS => ?_)
    refine rc_ge (pc := 12) (tgt := 19) hx hb hz1 (tI_nI (by omega)) dX9_isMaid_12 (by decide) (fun c12 => ?_) (fun c12 => ?_)
    · refine lv_iconst (pc := 19) (v := nI 0) hx hb dX9_isMaid_19 (by decide) ?_
      exact hret 20 _ hP hS dX9_isMaid_20 rfl rfl ⟨(by rw [if_neg (show ¬ okX (P.2.2.2.2.2.2) z1 by unfold okX; omega)]), rfl⟩
    · refine lv_iconst (pc := 15) (v := nI 1) hx hb dX9_isMaid_15 (by decide) ?_
      refine lv_goto (pc := 16) (tgt := 20) hx hb dX9_isMaid_16 (by decide) ?_
      exact hret 20 _ hP hS dX9_isMaid_20 rfl rfl ⟨(by rw [if_pos (show okX (P.2.2.2.2.2.2) z1 by unfold okX; omega)]), rfl⟩
abbrev rmX9_high : Room := { frames := 2, cells := 0, slots := 0, locals := 41 }
set_option maxHeartbeats 4000000 in
set_option maxRecDepth 100000 in
theorem k_X9_high (l : Launch) (D : va_G) (cI cC cB cS : ClassId) (w0 w1 w2 w4 w6 w7 w8 w9 w10 w11 w12 : Nat) (p0 p1 p2 p3 : Nat) (P : PL) (s0 s1 s2 s3 : Nat) (S : ST) (x1 : Int32) (z1 : Int) (hz1 : x1.toInt = z1) (hp : pOK P) (hi : sHi S) : CI l D (kT cI cC cB cS) yX9_high wsX9_high rmX9_high [.ref w0, .int (x1)] (rwW w0 w1 w2 p0 w4 s0 w6 w7 w8 w9 w10 w11 w12 ++ plW p0 p1 p2 p3 cI P ++ stW s0 s1 s2 s3 cI S) (fun r u => r = jI (zHigh P S z1) ∧ u = rwW w0 w1 w2 p0 w4 s0 w6 w7 w8 w9 w10 w11 w12 ++ plW p0 p1 p2 p3 cI P ++ stW s0 s1 s2 s3 cI S) := by
  refine ci_intro (by decide) rfl (Nat.le_of_ble_eq_true rfl) ?_
  intro p e s m args below meth c ls A QF hF hK hP hV hS hA hN hl hret
  obtain ⟨hx, hb, hml, hown, hts⟩ := id hF
  have hP : va_P D vwCl (rwW w0 w1 w2 p0 w4 s0 w6 w7 w8 w9 w10 w11 w12 ++ plW p0 p1 p2 p3 cI P ++ stW s0 s1 s2 s3 cI S) s.heap := hP
  have hl : lv_has ls 2 [(0, .ref w0), (1, .int (x1))] := hl
  have wf36 := hts (.fieldLink RX9 36 "RemorseWall" "now" "LRemorseWall$Standing;") (by decide +kernel)
  have hiX9 : ∀ w ∈ u_ws RX9 TX9 12, w ∈ wsX9_high := by decide +kernel
  refine lv_aload_n (pc := 0) hx hb dX9_high_0 rfl (lv_at hl 0 rfl) ?_
  refine lv_iload_n (pc := 1) hx hb dX9_high_1 rfl (lv_at hl 1 rfl) ?_
  refine ci_Vd (pc := 2) (r0 := nI (if okX (pCells P) z1 then 1 else 0)) hF hN hK hP hV hS hA (k_X9_isCell l D cI cC cB cS w0 w1 w2 w4 s0 w6 w7 w8 w9 w10 w11 w12 p0 p1 p2 p3 P (x1) z1 hz1 hp) (cwV 1 hts gX9_high_X9_isCell rfl rfl rfl (by decide +kernel) ⟨Nat.le_of_ble_eq_true rfl, Nat.le_of_ble_eq_true rfl⟩) [0, 1, 2, 3, 4] rfl (by decide) 0 9 rfl rfl rfl hl.1 rfl (Nat.le_of_ble_eq_true rfl) dX9_high_2 ⟨Nat.le_refl _, Nat.le_refl _⟩ rfl (ws2 := rwW w0 w1 w2 p0 w4 s0 w6 w7 w8 w9 w10 w11 w12 ++ plW p0 p1 p2 p3 cI P ++ stW s0 s1 s2 s3 cI S) rfl (fun H locs hP hS => ?_)
  refine rb_eq (pc := 5) (tgt := 19) hx hb dX9_high_5 (by decide) (fun c5 => ?_) (fun c5 => ?_)
  · refine lv_iconst (pc := 19) (v := jI (-1)) hx hb dX9_high_19 (by decide) ?_
    exact hret 20 _ hP hS dX9_high_20 rfl rfl ⟨(by unfold zHigh; (repeat' split) <;> first | (exfalso; omega) | rfl | exact jI_nat _), rfl⟩
  · refine lv_aload_n (pc := 8) hx hb dX9_high_8 rfl (lv_at hl 0 rfl) ?_
    refine va_get (pc := 9) (D := D) (ci := 9) (v := .ref s0) (C := RX9) (T := TX9) (N := 12) hx hb hts hiX9 hown hK hP 0 rfl rfl 4 (by decide) wf36 (fun _ h9 => h9) rfl dX9_high_9 ?_
    refine lv_iload_n (pc := 12) hx hb dX9_high_12 rfl (lv_at hl 1 rfl) ?_
    refine ci_Vd (pc := 13) (r0 := nI (sAt S z1)) hF hN hK hP hV hS hA (k_X8_highAt l D cI cC cB cS s0 s1 s2 s3 S (x1) z1 hz1) (cwV 1 hts gX9_high_X8_highAt rfl rfl rfl (by decide +kernel) ⟨Nat.le_of_ble_eq_true rfl, Nat.le_of_ble_eq_true rfl⟩) [5, 6, 7, 8] rfl (by decide) 0 8 rfl rfl rfl hl.1 rfl (Nat.le_of_ble_eq_true rfl) dX9_high_13 ⟨Nat.le_refl _, Nat.le_refl _⟩ rfl (ws2 := rwW w0 w1 w2 p0 w4 s0 w6 w7 w8 w9 w10 w11 w12 ++ plW p0 p1 p2 p3 cI P ++ stW s0 s1 s2 s3 cI S) rfl (fun H locs hP hS => ?_)
    refine lv_goto (pc := 16) (tgt := 20) hx hb dX9_high_16 (by decide) ?_
    exact hret 20 _ hP hS dX9_high_20 rfl rfl ⟨(by unfold zHigh; (repeat' split) <;> first | (exfalso; omega) | rfl | exact jI_nat _), rfl⟩
abbrev rmX9_casesNotPardoned : Room := { frames := 2, cells := 0, slots := 0, locals := 40 }
set_option maxHeartbeats 4000000 in
set_option maxRecDepth 100000 in
theorem k_X9_casesNotPardoned (l : Launch) (D : va_G) (cI cC cB cS : ClassId) (w0 w1 w2 w4 w6 w7 w8 w9 w10 w11 w12 : Nat) (p0 p1 p2 p3 : Nat) (P : PL) (s0 s1 s2 s3 : Nat) (S : ST) (hp : pOK P) (hpa : S.2.2.2.1 < 64) (hpo : popN S.2.2.2.1 6 ≤ P.2.2.2.2.2.1) : CI l D (kT cI cC cB cS) yX9_casesNotPardoned wsX9_casesNotPardoned rmX9_casesNotPardoned [.ref w0] (rwW w0 w1 w2 p0 w4 s0 w6 w7 w8 w9 w10 w11 w12 ++ plW p0 p1 p2 p3 cI P ++ stW s0 s1 s2 s3 cI S) (fun r u => r = nI (P.2.2.2.2.2.1 - popN S.2.2.2.1 6) ∧ u = rwW w0 w1 w2 p0 w4 s0 w6 w7 w8 w9 w10 w11 w12 ++ plW p0 p1 p2 p3 cI P ++ stW s0 s1 s2 s3 cI S) := by
  refine ci_intro (by decide) rfl (Nat.le_of_ble_eq_true rfl) ?_
  intro p e s m args below meth c ls A QF hF hK hP hV hS hA hN hl hret
  obtain ⟨hx, hb, hml, hown, hts⟩ := id hF
  have hP : va_P D vwCl (rwW w0 w1 w2 p0 w4 s0 w6 w7 w8 w9 w10 w11 w12 ++ plW p0 p1 p2 p3 cI P ++ stW s0 s1 s2 s3 cI S) s.heap := hP
  have hl : lv_has ls 1 [(0, .ref w0)] := hl
  have wf26 := hts (.fieldLink RX9 26 "RemorseWall" "plan" "LRemorseWall$Plan;") (by decide +kernel)
  have wf36 := hts (.fieldLink RX9 36 "RemorseWall" "now" "LRemorseWall$Standing;") (by decide +kernel)
  have hiX9 : ∀ w ∈ u_ws RX9 TX9 12, w ∈ wsX9_casesNotPardoned := by decide +kernel
  refine lv_aload_n (pc := 0) hx hb dX9_casesNotPardoned_0 rfl (lv_at hl 0 rfl) ?_
  refine va_get (pc := 1) (D := D) (ci := 9) (v := .ref p0) (C := RX9) (T := TX9) (N := 12) hx hb hts hiX9 hown hK hP 0 rfl rfl 2 (by decide) wf26 (fun _ h9 => h9) rfl dX9_casesNotPardoned_1 ?_
  refine ci_Vd (pc := 4) (r0 := nI P.2.2.2.2.2.1) hF hN hK hP hV hS hA (k_X2_caseCount l D cI cC cB cS p0 p1 p2 p3 P) (cwV 0 hts gX9_casesNotPardoned_X2_caseCount rfl rfl rfl (by decide +kernel) ⟨Nat.le_of_ble_eq_true rfl, Nat.le_of_ble_eq_true rfl⟩) [1, 2, 3, 4] rfl (by decide) 0 2 rfl rfl rfl hl.1 rfl (Nat.le_of_ble_eq_true rfl) dX9_casesNotPardoned_4 ⟨Nat.le_refl _, Nat.le_refl _⟩ rfl (ws2 := rwW w0 w1 w2 p0 w4 s0 w6 w7 w8 w9 w10 w11 w12 ++ plW p0 p1 p2 p3 cI P ++ stW s0 s1 s2 s3 cI S) rfl (fun H locs hP hS => ?_)
  refine lv_aload_n (pc := 7) hx hb dX9_casesNotPardoned_7 rfl (lv_at hl 0 rfl) ?_
  refine va_get (pc := 8) (D := D) (ci := 9) (v := .ref s0) (C := RX9) (T := TX9) (N := 12) hx hb hts hiX9 hown hK hP 0 rfl rfl 4 (by decide) wf36 (fun _ h9 => h9) rfl dX9_casesNotPardoned_8 ?_
  refine ci_Vd (pc := 11) (r0 := nI (popN S.2.2.2.1 6)) hF hN hK hP hV hS hA (k_X8_pardonedCases l D cI cC cB cS s0 s1 s2 s3 S hpa) (cwV 0 hts gX9_casesNotPardoned_X8_pardonedCases rfl rfl rfl (by decide +kernel) ⟨Nat.le_of_ble_eq_true rfl, Nat.le_of_ble_eq_true rfl⟩) [5, 6, 7, 8] rfl (by decide) 0 8 rfl rfl rfl hl.1 rfl (Nat.le_of_ble_eq_true rfl) dX9_casesNotPardoned_11 ⟨Nat.le_refl _, Nat.le_refl _⟩ rfl (ws2 := rwW w0 w1 w2 p0 w4 s0 w6 w7 w8 w9 w10 w11 w12 ++ plW p0 p1 p2 p3 cI P ++ stW s0 s1 s2 s3 cI S) rfl (fun H locs hP hS => ?_)
  refine rn_isub (pc := 14) hx hb (by omega) dX9_casesNotPardoned_14 ?_
  exact hret 15 _ hP hS dX9_casesNotPardoned_15 rfl rfl ⟨rfl, rfl⟩
