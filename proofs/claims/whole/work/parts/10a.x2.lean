abbrev rmX2_clear : Room := { frames := 1, cells := 0, slots := 0, locals := 23 }
set_option maxHeartbeats 4000000 in
set_option maxRecDepth 100000 in
theorem k_X2_clear (l : Launch) (D : va_G) (cI cC cB cS : ClassId) (p0 p1 p2 p3 : Nat) (P : PL) : CV l D (kT cI cC cB cS) yX2_clear wsX2_clear rmX2_clear [.ref p0] (plW p0 p1 p2 p3 cI P) (fun u => u = plW p0 p1 p2 p3 cI ((fun _ => 0), P.2.1, P.2.2.1, 0, 0, 0, 0)) := by
  refine cv_intro (by decide) rfl (Nat.le_of_ble_eq_true rfl) ?_
  intro p e s m args below meth c ls A QF hF hK hP hV hS hA hN hl hret
  obtain ⟨hx, hb, hml, hown, hts⟩ := id hF
  have hP : va_P D vwCl (plW p0 p1 p2 p3 cI P) s.heap := hP
  have hl : lv_has ls 1 [(0, .ref p0)] := hl
  have wf9 := hts (.fieldLink RX2 9 "RemorseWall$Plan" "firstHigh" "[I") (by decide +kernel)
  have wf21 := hts (.fieldLink RX2 21 "RemorseWall$Plan" "width" "I") (by decide +kernel)
  have wf25 := hts (.fieldLink RX2 25 "RemorseWall$Plan" "rows" "I") (by decide +kernel)
  have wf28 := hts (.fieldLink RX2 28 "RemorseWall$Plan" "caseCount" "I") (by decide +kernel)
  have wf31 := hts (.fieldLink RX2 31 "RemorseWall$Plan" "maidCount" "I") (by decide +kernel)
  have hiX2 : ∀ w ∈ u_ws RX2 TX2 7, w ∈ wsX2_clear := by decide +kernel
  refine lv_aload_n (pc := 0) hx hb dX2_clear_0 rfl (lv_at hl 0 rfl) ?_
  refine va_get (pc := 1) (D := D) (ci := 2) (v := .ref p1) (C := RX2) (T := TX2) (N := 7) hx hb hts hiX2 hown hK hP 0 rfl rfl 0 (by decide) wf9 (fun _ h9 => h9) rfl dX2_clear_1 ?_
  refine lv_iconst (pc := 4) (v := nI 0) hx hb dX2_clear_4 (by decide) ?_
  refine cv_Sd (pc := 5) hF hN hK hP hV hS hA (k_J7_fill l D cI cC cB cS p1 24 (fun j => nI (P.1 j)) (nI 0) (by decide)) (va_cwS 2 hts gX2_clear_J7_fill_53178 rfl rfl rfl (by decide +kernel) ⟨Nat.le_of_ble_eq_true rfl, Nat.le_of_ble_eq_true rfl⟩) [1] rfl (by decide) rfl hl.1 rfl (Nat.le_of_ble_eq_true rfl) dX2_clear_5 ⟨Nat.le_refl _, Nat.le_refl _⟩ rfl (ws2 := plW p0 p1 p2 p3 cI (fun _ => 0, P.2.1, P.2.2.1, P.2.2.2.1, P.2.2.2.2.1, P.2.2.2.2.2.1, P.2.2.2.2.2.2)) rfl (fun H locs hP hS => ?_)
  refine lv_aload_n (pc := 8) hx hb dX2_clear_8 rfl (lv_at hl 0 rfl) ?_
  refine lv_iconst (pc := 9) (v := nI 0) hx hb dX2_clear_9 (by decide) ?_
  refine ra_put (pc := 10) (D := D) (ci := 2) (v := .int (nI 0)) (ty := .int) (C := RX2) (T := TX2) (N := 7) (ws2 := plW p0 p1 p2 p3 cI (fun _ => 0, P.2.1, P.2.2.1, 0, P.2.2.2.2.1, P.2.2.2.2.2.1, P.2.2.2.2.2.2)) hx hb hts hiX2 tyX2 tyX2_ok nmX2 hown hK hP hV hS 0 rfl rfl 3 (by decide) wf21 (fun _ h9 => h9) rfl (by decide +kernel) rfl rfl (Nat.le_of_ble_eq_true rfl) dX2_clear_10 rfl rfl (fun H locs hP hS => ?_)
  refine lv_aload_n (pc := 13) hx hb dX2_clear_13 rfl (lv_at hl 0 rfl) ?_
  refine lv_iconst (pc := 14) (v := nI 0) hx hb dX2_clear_14 (by decide) ?_
  refine ra_put (pc := 15) (D := D) (ci := 2) (v := .int (nI 0)) (ty := .int) (C := RX2) (T := TX2) (N := 7) (ws2 := plW p0 p1 p2 p3 cI (fun _ => 0, P.2.1, P.2.2.1, 0, 0, P.2.2.2.2.2.1, P.2.2.2.2.2.2)) hx hb hts hiX2 tyX2 tyX2_ok nmX2 hown hK hP hV hS 0 rfl rfl 4 (by decide) wf25 (fun _ h9 => h9) rfl (by decide +kernel) rfl rfl (Nat.le_of_ble_eq_true rfl) dX2_clear_15 rfl rfl (fun H locs hP hS => ?_)
  refine lv_aload_n (pc := 18) hx hb dX2_clear_18 rfl (lv_at hl 0 rfl) ?_
  refine lv_iconst (pc := 19) (v := nI 0) hx hb dX2_clear_19 (by decide) ?_
  refine ra_put (pc := 20) (D := D) (ci := 2) (v := .int (nI 0)) (ty := .int) (C := RX2) (T := TX2) (N := 7) (ws2 := plW p0 p1 p2 p3 cI (fun _ => 0, P.2.1, P.2.2.1, 0, 0, 0, P.2.2.2.2.2.2)) hx hb hts hiX2 tyX2 tyX2_ok nmX2 hown hK hP hV hS 0 rfl rfl 5 (by decide) wf28 (fun _ h9 => h9) rfl (by decide +kernel) rfl rfl (Nat.le_of_ble_eq_true rfl) dX2_clear_20 rfl rfl (fun H locs hP hS => ?_)
  refine lv_aload_n (pc := 23) hx hb dX2_clear_23 rfl (lv_at hl 0 rfl) ?_
  refine lv_iconst (pc := 24) (v := nI 0) hx hb dX2_clear_24 (by decide) ?_
  refine ra_put (pc := 25) (D := D) (ci := 2) (v := .int (nI 0)) (ty := .int) (C := RX2) (T := TX2) (N := 7) (ws2 := plW p0 p1 p2 p3 cI (fun _ => 0, P.2.1, P.2.2.1, 0, 0, 0, 0)) hx hb hts hiX2 tyX2 tyX2_ok nmX2 hown hK hP hV hS 0 rfl rfl 6 (by decide) wf31 (fun _ h9 => h9) rfl (by decide +kernel) rfl rfl (Nat.le_of_ble_eq_true rfl) dX2_clear_25 rfl rfl (fun H locs hP hS => ?_)
  exact hret 28 _ hP hS dX2_clear_28 rfl rfl
abbrev rmX2_copyFrom : Room := { frames := 1, cells := 0, slots := 0, locals := 40 }
set_option maxHeartbeats 4000000 in
set_option maxRecDepth 100000 in
theorem k_X2_copyFrom (l : Launch) (D : va_G) (cI cC cB cS : ClassId) (p0 p1 p2 p3 : Nat) (P : PL) (q20 q21 q22 q23 : Nat) (Q2 : PL) : CV l D (kT cI cC cB cS) yX2_copyFrom wsX2_copyFrom rmX2_copyFrom [.ref p0, .ref q20] (plW p0 p1 p2 p3 cI P ++ plW q20 q21 q22 q23 cI Q2) (fun u => u = plW p0 p1 p2 p3 cI Q2 ++ plW q20 q21 q22 q23 cI Q2) := by
  refine cv_intro (by decide) rfl (Nat.le_of_ble_eq_true rfl) ?_
  intro p e s m args below meth c ls A QF hF hK hP hV hS hA hN hl hret
  obtain ⟨hx, hb, hml, hown, hts⟩ := id hF
  have hP : va_P D vwCl (plW p0 p1 p2 p3 cI P ++ plW q20 q21 q22 q23 cI Q2) s.heap := hP
  have hl : lv_has ls 2 [(0, .ref p0), (1, .ref q20)] := hl
  have wf9 := hts (.fieldLink RX2 9 "RemorseWall$Plan" "firstHigh" "[I") (by decide +kernel)
  have wf15 := hts (.fieldLink RX2 15 "RemorseWall$Plan" "cases" "[I") (by decide +kernel)
  have wf18 := hts (.fieldLink RX2 18 "RemorseWall$Plan" "maids" "[I") (by decide +kernel)
  have wf21 := hts (.fieldLink RX2 21 "RemorseWall$Plan" "width" "I") (by decide +kernel)
  have wf25 := hts (.fieldLink RX2 25 "RemorseWall$Plan" "rows" "I") (by decide +kernel)
  have wf28 := hts (.fieldLink RX2 28 "RemorseWall$Plan" "caseCount" "I") (by decide +kernel)
  have wf31 := hts (.fieldLink RX2 31 "RemorseWall$Plan" "maidCount" "I") (by decide +kernel)
  have ac_n := hts (.native arraycopyName) (by decide +kernel)
  have ac_s := hts (.static arraycopyName) (by decide +kernel)
  have ac_i := hts (.initialized "java/lang/System") (by decide +kernel)
  have ac_40 := hts (.methodLink RX2 40 arraycopyName) (by decide +kernel)
  have hiX2 : ∀ w ∈ u_ws RX2 TX2 7, w ∈ wsX2_copyFrom := by decide +kernel
  refine lv_aload_n (pc := 0) hx hb dX2_copyFrom_0 rfl (lv_at hl 1 rfl) ?_
  refine va_get (pc := 1) (D := D) (ci := 2) (v := .ref q21) (C := RX2) (T := TX2) (N := 7) hx hb hts hiX2 hown hK hP 4 rfl rfl 0 (by decide) wf9 (fun _ h9 => h9) rfl dX2_copyFrom_1 ?_
  refine lv_iconst (pc := 4) (v := nI 0) hx hb dX2_copyFrom_4 (by decide) ?_
  refine lv_aload_n (pc := 5) hx hb dX2_copyFrom_5 rfl (lv_at hl 0 rfl) ?_
  refine va_get (pc := 6) (D := D) (ci := 2) (v := .ref p1) (C := RX2) (T := TX2) (N := 7) hx hb hts hiX2 hown hK hP 0 rfl rfl 0 (by decide) wf9 (fun _ h9 => h9) rfl dX2_copyFrom_6 ?_
  refine lv_iconst (pc := 9) (v := nI 0) hx hb dX2_copyFrom_9 (by decide) ?_
  refine lv_bipush (pc := 10) (v := nI 24) hx hb dX2_copyFrom_10 (by decide) ?_
  refine ra_copy (pc := 12) (sp := 0) (dp := 0) (n := 24) (g2 := fun j => nI (Q2.1 j)) (ws2 := plW p0 p1 p2 p3 cI (Q2.1, P.2.1, P.2.2.1, P.2.2.2.1, P.2.2.2.2.1, P.2.2.2.2.2.1, P.2.2.2.2.2.2) ++ plW q20 q21 q22 q23 cI Q2) hx hb (hml.trans hl.1.symm) hown ac_40 ac_n ac_s ac_i hK hP hV hS 5 1 0 rfl rfl rfl (by omega) (by omega) (by decide) (by decide) (fun j hj => cpy_all hj) (Nat.le_of_ble_eq_true rfl) (Nat.le_of_ble_eq_true rfl) dX2_copyFrom_12 rfl rfl (fun H locs hP hS => ?_)
  refine lv_aload_n (pc := 15) hx hb dX2_copyFrom_15 rfl (lv_at hl 1 rfl) ?_
  refine va_get (pc := 16) (D := D) (ci := 2) (v := .ref q22) (C := RX2) (T := TX2) (N := 7) hx hb hts hiX2 hown hK hP 4 rfl rfl 1 (by decide) wf15 (fun _ h9 => h9) rfl dX2_copyFrom_16 ?_
  refine lv_iconst (pc := 19) (v := nI 0) hx hb dX2_copyFrom_19 (by decide) ?_
  refine lv_aload_n (pc := 20) hx hb dX2_copyFrom_20 rfl (lv_at hl 0 rfl) ?_
  refine va_get (pc := 21) (D := D) (ci := 2) (v := .ref p2) (C := RX2) (T := TX2) (N := 7) hx hb hts hiX2 hown hK hP 0 rfl rfl 1 (by decide) wf15 (fun _ h9 => h9) rfl dX2_copyFrom_21 ?_
  refine lv_iconst (pc := 24) (v := nI 0) hx hb dX2_copyFrom_24 (by decide) ?_
  refine lv_bipush (pc := 25) (v := nI 24) hx hb dX2_copyFrom_25 (by decide) ?_
  refine ra_copy (pc := 27) (sp := 0) (dp := 0) (n := 24) (g2 := fun j => nI (Q2.2.1 j)) (ws2 := plW p0 p1 p2 p3 cI (Q2.1, Q2.2.1, P.2.2.1, P.2.2.2.1, P.2.2.2.2.1, P.2.2.2.2.2.1, P.2.2.2.2.2.2) ++ plW q20 q21 q22 q23 cI Q2) hx hb (hml.trans hl.1.symm) hown ac_40 ac_n ac_s ac_i hK hP hV hS 6 2 0 rfl rfl rfl (by omega) (by omega) (by decide) (by decide) (fun j hj => cpy_all hj) (Nat.le_of_ble_eq_true rfl) (Nat.le_of_ble_eq_true rfl) dX2_copyFrom_27 rfl rfl (fun H locs hP hS => ?_)
  refine lv_aload_n (pc := 30) hx hb dX2_copyFrom_30 rfl (lv_at hl 1 rfl) ?_
  refine va_get (pc := 31) (D := D) (ci := 2) (v := .ref q23) (C := RX2) (T := TX2) (N := 7) hx hb hts hiX2 hown hK hP 4 rfl rfl 2 (by decide) wf18 (fun _ h9 => h9) rfl dX2_copyFrom_31 ?_
  refine lv_iconst (pc := 34) (v := nI 0) hx hb dX2_copyFrom_34 (by decide) ?_
  refine lv_aload_n (pc := 35) hx hb dX2_copyFrom_35 rfl (lv_at hl 0 rfl) ?_
  refine va_get (pc := 36) (D := D) (ci := 2) (v := .ref p3) (C := RX2) (T := TX2) (N := 7) hx hb hts hiX2 hown hK hP 0 rfl rfl 2 (by decide) wf18 (fun _ h9 => h9) rfl dX2_copyFrom_36 ?_
  refine lv_iconst (pc := 39) (v := nI 0) hx hb dX2_copyFrom_39 (by decide) ?_
  refine lv_bipush (pc := 40) (v := nI 12) hx hb dX2_copyFrom_40 (by decide) ?_
  refine ra_copy (pc := 42) (sp := 0) (dp := 0) (n := 12) (g2 := fun j => nI (Q2.2.2.1 j)) (ws2 := plW p0 p1 p2 p3 cI (Q2.1, Q2.2.1, Q2.2.2.1, P.2.2.2.1, P.2.2.2.2.1, P.2.2.2.2.2.1, P.2.2.2.2.2.2) ++ plW q20 q21 q22 q23 cI Q2) hx hb (hml.trans hl.1.symm) hown ac_40 ac_n ac_s ac_i hK hP hV hS 7 3 0 rfl rfl rfl (by omega) (by omega) (by decide) (by decide) (fun j hj => cpy_all hj) (Nat.le_of_ble_eq_true rfl) (Nat.le_of_ble_eq_true rfl) dX2_copyFrom_42 rfl rfl (fun H locs hP hS => ?_)
  refine lv_aload_n (pc := 45) hx hb dX2_copyFrom_45 rfl (lv_at hl 0 rfl) ?_
  refine lv_aload_n (pc := 46) hx hb dX2_copyFrom_46 rfl (lv_at hl 1 rfl) ?_
  refine va_get (pc := 47) (D := D) (ci := 2) (v := .int (nI Q2.2.2.2.1)) (C := RX2) (T := TX2) (N := 7) hx hb hts hiX2 hown hK hP 4 rfl rfl 3 (by decide) wf21 (fun _ h9 => h9) rfl dX2_copyFrom_47 ?_
  refine ra_put (pc := 50) (D := D) (ci := 2) (v := .int (nI Q2.2.2.2.1)) (ty := .int) (C := RX2) (T := TX2) (N := 7) (ws2 := plW p0 p1 p2 p3 cI (Q2.1, Q2.2.1, Q2.2.2.1, Q2.2.2.2.1, P.2.2.2.2.1, P.2.2.2.2.2.1, P.2.2.2.2.2.2) ++ plW q20 q21 q22 q23 cI Q2) hx hb hts hiX2 tyX2 tyX2_ok nmX2 hown hK hP hV hS 0 rfl rfl 3 (by decide) wf21 (fun _ h9 => h9) rfl (by decide +kernel) rfl rfl (Nat.le_of_ble_eq_true rfl) dX2_copyFrom_50 rfl rfl (fun H locs hP hS => ?_)
  refine lv_aload_n (pc := 53) hx hb dX2_copyFrom_53 rfl (lv_at hl 0 rfl) ?_
  refine lv_aload_n (pc := 54) hx hb dX2_copyFrom_54 rfl (lv_at hl 1 rfl) ?_
  refine va_get (pc := 55) (D := D) (ci := 2) (v := .int (nI Q2.2.2.2.2.1)) (C := RX2) (T := TX2) (N := 7) hx hb hts hiX2 hown hK hP 4 rfl rfl 4 (by decide) wf25 (fun _ h9 => h9) rfl dX2_copyFrom_55 ?_
  refine ra_put (pc := 58) (D := D) (ci := 2) (v := .int (nI Q2.2.2.2.2.1)) (ty := .int) (C := RX2) (T := TX2) (N := 7) (ws2 := plW p0 p1 p2 p3 cI (Q2.1, Q2.2.1, Q2.2.2.1, Q2.2.2.2.1, Q2.2.2.2.2.1, P.2.2.2.2.2.1, P.2.2.2.2.2.2) ++ plW q20 q21 q22 q23 cI Q2) hx hb hts hiX2 tyX2 tyX2_ok nmX2 hown hK hP hV hS 0 rfl rfl 4 (by decide) wf25 (fun _ h9 => h9) rfl (by decide +kernel) rfl rfl (Nat.le_of_ble_eq_true rfl) dX2_copyFrom_58 rfl rfl (fun H locs hP hS => ?_)
  refine lv_aload_n (pc := 61) hx hb dX2_copyFrom_61 rfl (lv_at hl 0 rfl) ?_
  refine lv_aload_n (pc := 62) hx hb dX2_copyFrom_62 rfl (lv_at hl 1 rfl) ?_
  refine va_get (pc := 63) (D := D) (ci := 2) (v := .int (nI Q2.2.2.2.2.2.1)) (C := RX2) (T := TX2) (N := 7) hx hb hts hiX2 hown hK hP 4 rfl rfl 5 (by decide) wf28 (fun _ h9 => h9) rfl dX2_copyFrom_63 ?_
  refine ra_put (pc := 66) (D := D) (ci := 2) (v := .int (nI Q2.2.2.2.2.2.1)) (ty := .int) (C := RX2) (T := TX2) (N := 7) (ws2 := plW p0 p1 p2 p3 cI (Q2.1, Q2.2.1, Q2.2.2.1, Q2.2.2.2.1, Q2.2.2.2.2.1, Q2.2.2.2.2.2.1, P.2.2.2.2.2.2) ++ plW q20 q21 q22 q23 cI Q2) hx hb hts hiX2 tyX2 tyX2_ok nmX2 hown hK hP hV hS 0 rfl rfl 5 (by decide) wf28 (fun _ h9 => h9) rfl (by decide +kernel) rfl rfl (Nat.le_of_ble_eq_true rfl) dX2_copyFrom_66 rfl rfl (fun H locs hP hS => ?_)
  refine lv_aload_n (pc := 69) hx hb dX2_copyFrom_69 rfl (lv_at hl 0 rfl) ?_
  refine lv_aload_n (pc := 70) hx hb dX2_copyFrom_70 rfl (lv_at hl 1 rfl) ?_
  refine va_get (pc := 71) (D := D) (ci := 2) (v := .int (nI Q2.2.2.2.2.2.2)) (C := RX2) (T := TX2) (N := 7) hx hb hts hiX2 hown hK hP 4 rfl rfl 6 (by decide) wf31 (fun _ h9 => h9) rfl dX2_copyFrom_71 ?_
  refine ra_put (pc := 74) (D := D) (ci := 2) (v := .int (nI Q2.2.2.2.2.2.2)) (ty := .int) (C := RX2) (T := TX2) (N := 7) (ws2 := plW p0 p1 p2 p3 cI (Q2.1, Q2.2.1, Q2.2.2.1, Q2.2.2.2.1, Q2.2.2.2.2.1, Q2.2.2.2.2.2.1, Q2.2.2.2.2.2.2) ++ plW q20 q21 q22 q23 cI Q2) hx hb hts hiX2 tyX2 tyX2_ok nmX2 hown hK hP hV hS 0 rfl rfl 6 (by decide) wf31 (fun _ h9 => h9) rfl (by decide +kernel) rfl rfl (Nat.le_of_ble_eq_true rfl) dX2_copyFrom_74 rfl rfl (fun H locs hP hS => ?_)
  exact hret 77 _ hP hS dX2_copyFrom_77 rfl rfl
abbrev rmX2_setDepth : Room := { frames := 0, cells := 0, slots := 0, locals := 0 }
set_option maxHeartbeats 4000000 in
set_option maxRecDepth 100000 in
theorem k_X2_setDepth (l : Launch) (D : va_G) (cI cC cB cS : ClassId) (p0 p1 p2 p3 : Nat) (P : PL) (k : Nat) (v : Nat) (hk : k < 6) : CV l D (kT cI cC cB cS) yX2_setDepth wsX2_setDepth rmX2_setDepth [.ref p0, .int (nI k), .int (nI v)] (plW p0 p1 p2 p3 cI P) (fun u => u = plW p0 p1 p2 p3 cI (P.1, va_up P.2.1 (k * 4 + 2) v, P.2.2)) := by
  refine cv_intro (by decide) rfl (Nat.le_of_ble_eq_true rfl) ?_
  intro p e s m args below meth c ls A QF hF hK hP hV hS hA hN hl hret
  obtain ⟨hx, hb, hml, hown, hts⟩ := id hF
  have hP : va_P D vwCl (plW p0 p1 p2 p3 cI P) s.heap := hP
  have hl : lv_has ls 4 [(0, .ref p0), (1, .int (nI k)), (2, .int (nI v))] := hl
  have wf15 := hts (.fieldLink RX2 15 "RemorseWall$Plan" "cases" "[I") (by decide +kernel)
  have hiX2 : ∀ w ∈ u_ws RX2 TX2 7, w ∈ wsX2_setDepth := by decide +kernel
  refine lv_iload_n (pc := 0) hx hb dX2_setDepth_0 rfl (lv_at hl 1 rfl) ?_
  refine lv_iconst (pc := 1) (v := nI 4) hx hb dX2_setDepth_1 (by decide) ?_
  refine rn_imul (pc := 2) hx hb dX2_setDepth_2 ?_
  refine lv_iconst (pc := 3) (v := nI 2) hx hb dX2_setDepth_3 (by decide) ?_
  refine rn_iadd (pc := 4) hx hb dX2_setDepth_4 ?_
  refine lv_istore_n (pc := 5) (lv' := [(3, .int (nI ((k * 4) + 2))), (0, .ref p0), (1, .int (nI k)), (2, .int (nI v))]) hx hb dX2_setDepth_5 rfl hl (by decide) rfl (fun ls hl => ?_)
  refine lv_iload_n (pc := 6) hx hb dX2_setDepth_6 rfl (lv_at hl 0 rfl) ?_
  refine r0_lt (pc := 7) (tgt := 26) hx hb (tI_nI (by omega)) dX2_setDepth_7 (by decide) (fun c7 => ?_) (fun c7 => ?_)
  · omega
  · refine lv_iload_n (pc := 10) hx hb dX2_setDepth_10 rfl (lv_at hl 0 rfl) ?_
    refine lv_aload_n (pc := 11) hx hb dX2_setDepth_11 rfl (lv_at hl 1 rfl) ?_
    refine va_get (pc := 12) (D := D) (ci := 2) (v := .ref p2) (C := RX2) (T := TX2) (N := 7) hx hb hts hiX2 hown hK hP 0 rfl rfl 1 (by decide) wf15 (fun _ h9 => h9) rfl dX2_setDepth_12 ?_
    refine va_alen (pc := 15) (v := nI 24) hx hb hK hP 2 0 rfl rfl rfl dX2_setDepth_15 ?_
    refine rc_ge (pc := 16) (tgt := 26) hx hb (tI_nI (by omega)) (tI_nI (by omega)) dX2_setDepth_16 (by decide) (fun c16 => ?_) (fun c16 => ?_)
    · omega
    · refine lv_aload_n (pc := 19) hx hb dX2_setDepth_19 rfl (lv_at hl 1 rfl) ?_
      refine va_get (pc := 20) (D := D) (ci := 2) (v := .ref p2) (C := RX2) (T := TX2) (N := 7) hx hb hts hiX2 hown hK hP 0 rfl rfl 1 (by decide) wf15 (fun _ h9 => h9) rfl dX2_setDepth_20 ?_
      refine lv_iload_n (pc := 23) hx hb dX2_setDepth_23 rfl (lv_at hl 0 rfl) ?_
      refine lv_iload_n (pc := 24) hx hb dX2_setDepth_24 rfl (lv_at hl 3 rfl) ?_
      refine rn_iast (pc := 25) (f := P.2.1) (k := (k * 4) + 2) (x := v) (ws2 := plW p0 p1 p2 p3 cI (P.1, va_up P.2.1 ((k * 4) + 2) v, P.2.2.1, P.2.2.2.1, P.2.2.2.2.1, P.2.2.2.2.2.1, P.2.2.2.2.2.2)) hx hb hK hP hV hS 2 0 rfl rfl (by omega) (by decide) dX2_setDepth_25 rfl rfl (fun H locs hP hS => ?_)
      exact hret 26 _ hP hS dX2_setDepth_26 rfl rfl
abbrev rmX2_addRow : Room := { frames := 1, cells := 0, slots := 0, locals := 20 }
set_option maxHeartbeats 4000000 in
set_option maxRecDepth 100000 in
theorem k_X2_addRow (l : Launch) (D : va_G) (cI cC cB cS : ClassId) (p0 p1 p2 p3 : Nat) (P : PL) (f0 : Nat) (f : Nat → Nat) (w2 : Nat) (hp : pOK P) (hf : ∀ k, f k ≤ 9) (hw6 : w2 ≤ 6) : CI l D (kT cI cC cB cS) yX2_addRow wsX2_addRow rmX2_addRow [.ref p0, .ref f0, .int (nI w2)] (plW p0 p1 p2 p3 cI P ++ n6W f0 cI f) (fun r u => r = nI (if rowOK P w2 then 1 else 0) ∧ u = plW p0 p1 p2 p3 cI (if rowOK P w2 then pRow P f w2 else P) ++ n6W f0 cI f) := by
  refine ci_intro (by decide) rfl (Nat.le_of_ble_eq_true rfl) ?_
  intro p e s m args below meth c ls A QF hF hK hP hV hS hA hN hl hret
  obtain ⟨hx, hb, hml, hown, hts⟩ := id hF
  have hP : va_P D vwCl (plW p0 p1 p2 p3 cI P ++ n6W f0 cI f) s.heap := hP
  have hl : lv_has ls 5 [(0, .ref p0), (1, .ref f0), (2, .int (nI w2))] := hl
  have wf9 := hts (.fieldLink RX2 9 "RemorseWall$Plan" "firstHigh" "[I") (by decide +kernel)
  have wf21 := hts (.fieldLink RX2 21 "RemorseWall$Plan" "width" "I") (by decide +kernel)
  have wf25 := hts (.fieldLink RX2 25 "RemorseWall$Plan" "rows" "I") (by decide +kernel)
  have hiX2 : ∀ w ∈ u_ws RX2 TX2 7, w ∈ wsX2_addRow := by decide +kernel
  obtain ⟨hp1, hp2, hp3, hp4, hp5, hp6, hp7⟩ := id hp
  have cut44 : ∀  (H : Heap) (locs : List Loc) (ls : Array Slot) (hok : rowOK P w2), va_P D vwCl (plW p0 p1 p2 p3 cI P ++ n6W f0 cI f) H → va_S A s.heap H locs → lv_has ls 5 [(2, .int (nI w2)), (1, .ref f0), (0, .ref p0)] → W p l e rmX2_addRow s m args below meth c H locs 0 0 QF (F0 m 44 ls []) := by
    intro  H locs ls hok hP hS hl
    have hin := rowOK_in hok
    have hcd : pCells P = P.2.2.2.2.1 * P.2.2.2.1 := rfl
    refine lv_aload_n (pc := 44) hx hb dX2_addRow_44 rfl (lv_at hl 2 rfl) ?_
    refine ci_Vd (pc := 45) (r0 := nI (pCells P)) hF hN hK hP hV hS hA (k_X2_cellCount l D cI cC cB cS p0 p1 p2 p3 P) (cwV 0 hts gX2_addRow_X2_cellCount rfl rfl rfl (by decide +kernel) ⟨Nat.le_of_ble_eq_true rfl, Nat.le_of_ble_eq_true rfl⟩) [0, 1, 2, 3] rfl (by decide) 0 2 rfl rfl rfl hl.1 rfl (Nat.le_of_ble_eq_true rfl) dX2_addRow_45 ⟨Nat.le_refl _, Nat.le_refl _⟩ rfl (ws2 := plW p0 p1 p2 p3 cI P ++ n6W f0 cI f) rfl (fun H locs hP hS => ?_)
    refine lv_istore_n (pc := 48) (lv' := [(3, .int (nI (pCells P))), (2, .int (nI w2)), (1, .ref f0), (0, .ref p0)]) hx hb dX2_addRow_48 rfl hl (by decide) rfl (fun ls hl => ?_)
    refine lv_iconst (pc := 49) (v := nI 0) hx hb dX2_addRow_49 (by decide) ?_
    refine lv_istore (pc := 50) (lv' := [(4, .int (nI 0)), (3, .int (nI (pCells P))), (2, .int (nI w2)), (1, .ref f0), (0, .ref p0)]) hx hb dX2_addRow_50 hl (by decide) rfl (fun ls hl => ?_)
    have cut52 : ∀ (fuel : Nat) (k : Nat) (g : Nat → Nat) (H : Heap) (locs : List Loc) (ls : Array Slot) (hk : k ≤ w2) (hg : g = rowFill P.1 (pCells P) f k) (hfu : w2 - k < fuel), va_P D vwCl (plW p0 p1 p2 p3 cI (g, P.2.1, P.2.2.1, P.2.2.2.1, P.2.2.2.2.1, P.2.2.2.2.2.1, P.2.2.2.2.2.2) ++ n6W f0 cI f) H → va_S A s.heap H locs → lv_has ls 5 [(4, .int (nI k)), (3, .int (nI (pCells P))), (2, .int (nI w2)), (1, .ref f0), (0, .ref p0)] → W p l e rmX2_addRow s m args below meth c H locs 0 0 QF (F0 m 52 ls []) := by
      intro fuel
      induction fuel with
      | zero => intro k g H locs ls hk hg hfu; omega
      | succ fuel ih52 =>
        intro k g H locs ls hk hg hfu hP hS hl
        refine lv_iload (pc := 52) hx hb dX2_addRow_52 (lv_at hl 0 rfl) ?_
        refine lv_iload_n (pc := 54) hx hb dX2_addRow_54 rfl (lv_at hl 2 rfl) ?_
        refine rc_ge (pc := 55) (tgt := 89) hx hb (tI_nI (by omega)) (tI_nI (by omega)) dX2_addRow_55 (by decide) (fun c55 => ?_) (fun c55 => ?_)
        · refine lv_aload_n (pc := 89) hx hb dX2_addRow_89 rfl (lv_at hl 4 rfl) ?_
          refine lv_iload_n (pc := 90) hx hb dX2_addRow_90 rfl (lv_at hl 2 rfl) ?_
          refine ra_put (pc := 91) (D := D) (ci := 2) (v := .int (nI w2)) (ty := .int) (C := RX2) (T := TX2) (N := 7) (ws2 := plW p0 p1 p2 p3 cI (g, P.2.1, P.2.2.1, w2, P.2.2.2.2.1, P.2.2.2.2.2.1, P.2.2.2.2.2.2) ++ n6W f0 cI f) hx hb hts hiX2 tyX2 tyX2_ok nmX2 hown hK hP hV hS 0 rfl rfl 3 (by decide) wf21 (fun _ h9 => h9) rfl (by decide +kernel) rfl rfl (Nat.le_of_ble_eq_true rfl) dX2_addRow_91 rfl rfl (fun H locs hP hS => ?_)
          refine lv_aload_n (pc := 94) hx hb dX2_addRow_94 rfl (lv_at hl 4 rfl) ?_
          refine lv_dup (pc := 95) hx hb dX2_addRow_95 rfl ?_
          refine va_get (pc := 96) (D := D) (ci := 2) (v := .int (nI P.2.2.2.2.1)) (C := RX2) (T := TX2) (N := 7) hx hb hts hiX2 hown hK hP 0 rfl rfl 4 (by decide) wf25 (fun _ h9 => h9) rfl dX2_addRow_96 ?_
          refine lv_iconst (pc := 99) (v := nI 1) hx hb dX2_addRow_99 (by decide) ?_
          refine rn_iadd (pc := 100) hx hb dX2_addRow_100 ?_
          refine ra_put (pc := 101) (D := D) (ci := 2) (v := .int (nI (P.2.2.2.2.1 + 1))) (ty := .int) (C := RX2) (T := TX2) (N := 7) (ws2 := plW p0 p1 p2 p3 cI (g, P.2.1, P.2.2.1, w2, P.2.2.2.2.1 + 1, P.2.2.2.2.2.1, P.2.2.2.2.2.2) ++ n6W f0 cI f) hx hb hts hiX2 tyX2 tyX2_ok nmX2 hown hK hP hV hS 0 rfl rfl 4 (by decide) wf25 (fun _ h9 => h9) rfl (by decide +kernel) rfl rfl (Nat.le_of_ble_eq_true rfl) dX2_addRow_101 rfl rfl (fun H locs hP hS => ?_)
          refine lv_iconst (pc := 104) (v := nI 1) hx hb dX2_addRow_104 (by decide) ?_
          exact hret 105 _ hP hS dX2_addRow_105 rfl rfl ⟨(by rw [if_pos hok]), (by rw [if_pos hok, hg, show k = w2 by omega]; rfl)⟩
        · refine lv_iload_n (pc := 58) hx hb dX2_addRow_58 rfl (lv_at hl 1 rfl) ?_
          refine lv_iload (pc := 59) hx hb dX2_addRow_59 (lv_at hl 0 rfl) ?_
          refine rn_iadd (pc := 61) hx hb dX2_addRow_61 ?_
          refine lv_aload_n (pc := 62) hx hb dX2_addRow_62 rfl (lv_at hl 4 rfl) ?_
          refine va_get (pc := 63) (D := D) (ci := 2) (v := .ref p1) (C := RX2) (T := TX2) (N := 7) hx hb hts hiX2 hown hK hP 0 rfl rfl 0 (by decide) wf9 (fun _ h9 => h9) rfl dX2_addRow_63 ?_
          refine va_alen (pc := 66) (v := nI 24) hx hb hK hP 1 0 rfl rfl rfl dX2_addRow_66 ?_
          refine rc_ge (pc := 67) (tgt := 83) hx hb (tI_nI (by omega)) (tI_nI (by omega)) dX2_addRow_67 (by decide) (fun c67 => ?_) (fun c67 => ?_)
          · omega
          · refine lv_aload_n (pc := 70) hx hb dX2_addRow_70 rfl (lv_at hl 4 rfl) ?_
            refine va_get (pc := 71) (D := D) (ci := 2) (v := .ref p1) (C := RX2) (T := TX2) (N := 7) hx hb hts hiX2 hown hK hP 0 rfl rfl 0 (by decide) wf9 (fun _ h9 => h9) rfl dX2_addRow_71 ?_
            refine lv_iload_n (pc := 74) hx hb dX2_addRow_74 rfl (lv_at hl 1 rfl) ?_
            refine lv_iload (pc := 75) hx hb dX2_addRow_75 (lv_at hl 0 rfl) ?_
            refine rn_iadd (pc := 77) hx hb dX2_addRow_77 ?_
            refine lv_aload_n (pc := 78) hx hb dX2_addRow_78 rfl (lv_at hl 3 rfl) ?_
            refine lv_iload (pc := 79) hx hb dX2_addRow_79 (lv_at hl 0 rfl) ?_
            refine ra_iald (pc := 81) (k := k) (v := nI (f k)) hx hb hK hP 4 0 rfl rfl (by omega) (by decide) rfl dX2_addRow_81 ?_
            refine rn_iast (pc := 82) (f := g) (k := (pCells P) + k) (x := f k) (ws2 := plW p0 p1 p2 p3 cI (va_up g ((pCells P) + k) (f k), P.2.1, P.2.2.1, P.2.2.2.1, P.2.2.2.2.1, P.2.2.2.2.2.1, P.2.2.2.2.2.2) ++ n6W f0 cI f) hx hb hK hP hV hS 1 0 rfl rfl (by omega) (by decide) dX2_addRow_82 rfl rfl (fun H locs hP hS => ?_)
            refine lv_iinc (pc := 83) (v := nI (k + 1)) (lv' := [(4, .int (nI (k + 1))), (3, .int (nI (pCells P))), (2, .int (nI w2)), (1, .ref f0), (0, .ref p0)]) hx hb dX2_addRow_83 hl (k := 0) rfl (by rw [← nI_add]; rfl) (by decide) rfl (fun ls hl => ?_)
            refine lv_goto (pc := 86) (tgt := 52) hx hb dX2_addRow_86 (by decide) ?_
            exact ih52 (k + 1) (va_up g (pCells P + k) (f k)) _ _ _ (by omega) (by rw [hg]; rfl) (by omega) hP hS (lv_sub hl [0, 1, 2, 3, 4] rfl)
    exact cut52 _ 0 P.1 _ _ _ (Nat.zero_le _) rfl (Nat.lt_succ_self _) hP hS (lv_sub hl [0, 1, 2, 3, 4] rfl)
  refine lv_iload_n (pc := 0) hx hb dX2_addRow_0 rfl (lv_at hl 2 rfl) ?_
  refine lv_iconst (pc := 1) (v := nI 1) hx hb dX2_addRow_1 (by decide) ?_
  refine rc_lt (pc := 2) (tgt := 25) hx hb (tI_nI (by omega)) (tI_nI (by omega)) dX2_addRow_2 (by decide) (fun c2 => ?_) (fun c2 => ?_)
  · refine lv_iconst (pc := 25) (v := nI 0) hx hb dX2_addRow_25 (by decide) ?_
    exact hret 26 _ hP hS dX2_addRow_26 rfl rfl ⟨(by rw [if_neg (fun q => by unfold rowOK at q; omega)]), (by rw [if_neg (fun q => by unfold rowOK at q; omega)])⟩
  · refine lv_iload_n (pc := 5) hx hb dX2_addRow_5 rfl (lv_at hl 2 rfl) ?_
    refine lv_aload_n (pc := 6) hx hb dX2_addRow_6 rfl (lv_at hl 1 rfl) ?_
    refine va_alen (pc := 7) (v := nI 6) hx hb hK hP 4 0 rfl rfl rfl dX2_addRow_7 ?_
    refine rc_gt (pc := 8) (tgt := 25) hx hb (tI_nI (by omega)) (tI_nI (by omega)) dX2_addRow_8 (by decide) (fun c8 => ?_) (fun c8 => ?_)
    · omega
    · refine lv_iload_n (pc := 11) hx hb dX2_addRow_11 rfl (lv_at hl 2 rfl) ?_
      refine lv_bipush (pc := 12) (v := nI 6) hx hb dX2_addRow_12 (by decide) ?_
      refine rc_gt (pc := 14) (tgt := 25) hx hb (tI_nI (by omega)) (tI_nI (by omega)) dX2_addRow_14 (by decide) (fun c14 => ?_) (fun c14 => ?_)
      · refine lv_iconst (pc := 25) (v := nI 0) hx hb dX2_addRow_25 (by decide) ?_
        exact hret 26 _ hP hS dX2_addRow_26 rfl rfl ⟨(by rw [if_neg (fun q => by unfold rowOK at q; omega)]), (by rw [if_neg (fun q => by unfold rowOK at q; omega)])⟩
      · refine lv_aload_n (pc := 17) hx hb dX2_addRow_17 rfl (lv_at hl 0 rfl) ?_
        refine va_get (pc := 18) (D := D) (ci := 2) (v := .int (nI P.2.2.2.2.1)) (C := RX2) (T := TX2) (N := 7) hx hb hts hiX2 hown hK hP 0 rfl rfl 4 (by decide) wf25 (fun _ h9 => h9) rfl dX2_addRow_18 ?_
        refine lv_iconst (pc := 21) (v := nI 4) hx hb dX2_addRow_21 (by decide) ?_
        refine rc_lt (pc := 22) (tgt := 27) hx hb (tI_nI (by omega)) (tI_nI (by omega)) dX2_addRow_22 (by decide) (fun c22 => ?_) (fun c22 => ?_)
        · refine lv_aload_n (pc := 27) hx hb dX2_addRow_27 rfl (lv_at hl 0 rfl) ?_
          refine va_get (pc := 28) (D := D) (ci := 2) (v := .int (nI P.2.2.2.2.1)) (C := RX2) (T := TX2) (N := 7) hx hb hts hiX2 hown hK hP 0 rfl rfl 4 (by decide) wf25 (fun _ h9 => h9) rfl dX2_addRow_28 ?_
          refine r0_le (pc := 31) (tgt := 44) hx hb (tI_nI (by omega)) dX2_addRow_31 (by decide) (fun c31 => ?_) (fun c31 => ?_)
          · exact cut44  _ _ _ (by unfold rowOK; omega)  hP hS (lv_sub hl [2, 1, 0] rfl)
          · refine lv_iload_n (pc := 34) hx hb dX2_addRow_34 rfl (lv_at hl 2 rfl) ?_
            refine lv_aload_n (pc := 35) hx hb dX2_addRow_35 rfl (lv_at hl 0 rfl) ?_
            refine va_get (pc := 36) (D := D) (ci := 2) (v := .int (nI P.2.2.2.1)) (C := RX2) (T := TX2) (N := 7) hx hb hts hiX2 hown hK hP 0 rfl rfl 3 (by decide) wf21 (fun _ h9 => h9) rfl dX2_addRow_36 ?_
            refine rc_eq (pc := 39) (tgt := 44) hx hb (tI_nI (by omega)) (tI_nI (by omega)) dX2_addRow_39 (by decide) (fun c39 => ?_) (fun c39 => ?_)
            · exact cut44  _ _ _ (by unfold rowOK; omega)  hP hS (lv_sub hl [2, 1, 0] rfl)
            · refine lv_iconst (pc := 42) (v := nI 0) hx hb dX2_addRow_42 (by decide) ?_
              exact hret 43 _ hP hS dX2_addRow_43 rfl rfl ⟨(by rw [if_neg (fun q => by unfold rowOK at q; omega)]), (by rw [if_neg (fun q => by unfold rowOK at q; omega)])⟩
        · refine lv_iconst (pc := 25) (v := nI 0) hx hb dX2_addRow_25 (by decide) ?_
          exact hret 26 _ hP hS dX2_addRow_26 rfl rfl ⟨(by rw [if_neg (fun q => by unfold rowOK at q; omega)]), (by rw [if_neg (fun q => by unfold rowOK at q; omega)])⟩
abbrev rmX2_addCase : Room := { frames := 1, cells := 0, slots := 0, locals := 40 }
set_option maxHeartbeats 4000000 in
set_option maxRecDepth 100000 in
theorem k_X2_addCase (l : Launch) (D : va_G) (cI cC cB cS : ClassId) (p0 p1 p2 p3 : Nat) (P : PL) (f0 : Nat) (f : Nat → Nat) (hp : pOK P) (hf : ∀ k, f k < 100) : CI l D (kT cI cC cB cS) yX2_addCase wsX2_addCase rmX2_addCase [.ref p0, .ref f0] (plW p0 p1 p2 p3 cI P ++ n4W f0 cI f) (fun r u => r = nI (if casOK P f then 1 else 0) ∧ u = plW p0 p1 p2 p3 cI (if casOK P f then pCas P f else P) ++ n4W f0 cI f) := by
  refine ci_intro (by decide) rfl (Nat.le_of_ble_eq_true rfl) ?_
  intro p e s m args below meth c ls A QF hF hK hP hV hS hA hN hl hret
  obtain ⟨hx, hb, hml, hown, hts⟩ := id hF
  have hP : va_P D vwCl (plW p0 p1 p2 p3 cI P ++ n4W f0 cI f) s.heap := hP
  have hl : lv_has ls 2 [(0, .ref p0), (1, .ref f0)] := hl
  have wf15 := hts (.fieldLink RX2 15 "RemorseWall$Plan" "cases" "[I") (by decide +kernel)
  have wf28 := hts (.fieldLink RX2 28 "RemorseWall$Plan" "caseCount" "I") (by decide +kernel)
  have ac_n := hts (.native arraycopyName) (by decide +kernel)
  have ac_s := hts (.static arraycopyName) (by decide +kernel)
  have ac_i := hts (.initialized "java/lang/System") (by decide +kernel)
  have ac_40 := hts (.methodLink RX2 40 arraycopyName) (by decide +kernel)
  have hiX2 : ∀ w ∈ u_ws RX2 TX2 7, w ∈ wsX2_addCase := by decide +kernel
  obtain ⟨hp1, hp2, hp3, hp4, hp5, hp6, hp7⟩ := id hp
  have hf0 := hf 0
  have hf1 := hf 1
  have hf2 := hf 2
  have hf3 := hf 3
  have hcl := pCells_le hp
  refine lv_aload_n (pc := 0) hx hb dX2_addCase_0 rfl (lv_at hl 0 rfl) ?_
  refine va_get (pc := 1) (D := D) (ci := 2) (v := .int (nI P.2.2.2.2.2.1)) (C := RX2) (T := TX2) (N := 7) hx hb hts hiX2 hown hK hP 0 rfl rfl 5 (by decide) wf28 (fun _ h9 => h9) rfl dX2_addCase_1 ?_
  refine lv_bipush (pc := 4) (v := nI 6) hx hb dX2_addCase_4 (by decide) ?_
  refine rc_ge (pc := 6) (tgt := 15) hx hb (tI_nI (by omega)) (tI_nI (by omega)) dX2_addCase_6 (by decide) (fun c6 => ?_) (fun c6 => ?_)
  · refine lv_iconst (pc := 15) (v := nI 0) hx hb dX2_addCase_15 (by decide) ?_
    exact hret 16 _ hP hS dX2_addCase_16 rfl rfl ⟨(by rw [if_neg (fun q => by unfold casOK at q; omega)]), (by rw [if_neg (fun q => by unfold casOK at q; omega)])⟩
  · refine lv_aload_n (pc := 9) hx hb dX2_addCase_9 rfl (lv_at hl 1 rfl) ?_
    refine va_alen (pc := 10) (v := nI 4) hx hb hK hP 4 0 rfl rfl rfl dX2_addCase_10 ?_
    refine lv_iconst (pc := 11) (v := nI 4) hx hb dX2_addCase_11 (by decide) ?_
    refine rc_eq (pc := 12) (tgt := 17) hx hb (tI_nI (by omega)) (tI_nI (by omega)) dX2_addCase_12 (by decide) (fun c12 => ?_) (fun c12 => (by omega))
    refine lv_aload_n (pc := 17) hx hb dX2_addCase_17 rfl (lv_at hl 1 rfl) ?_
    refine lv_iconst (pc := 18) (v := nI 0) hx hb dX2_addCase_18 (by decide) ?_
    refine ra_iald (pc := 19) (k := 0) (v := nI (f 0)) hx hb hK hP 4 0 rfl rfl (by omega) (by decide) rfl dX2_addCase_19 ?_
    refine lv_iconst (pc := 20) (v := nI 3) hx hb dX2_addCase_20 (by decide) ?_
    refine rc_gt (pc := 21) (tgt := 57) hx hb (tI_nI (by omega)) (tI_nI (by omega)) dX2_addCase_21 (by decide) (fun c21 => ?_) (fun c21 => ?_)
    · refine lv_iconst (pc := 57) (v := nI 0) hx hb dX2_addCase_57 (by decide) ?_
      exact hret 58 _ hP hS dX2_addCase_58 rfl rfl ⟨(by rw [if_neg (fun q => by unfold casOK at q; omega)]), (by rw [if_neg (fun q => by unfold casOK at q; omega)])⟩
    · refine lv_aload_n (pc := 24) hx hb dX2_addCase_24 rfl (lv_at hl 1 rfl) ?_
      refine lv_iconst (pc := 25) (v := nI 1) hx hb dX2_addCase_25 (by decide) ?_
      refine ra_iald (pc := 26) (k := 1) (v := nI (f 1)) hx hb hK hP 4 0 rfl rfl (by omega) (by decide) rfl dX2_addCase_26 ?_
      refine lv_aload_n (pc := 27) hx hb dX2_addCase_27 rfl (lv_at hl 0 rfl) ?_
      refine ci_Vd (pc := 28) (r0 := nI (pCells P)) hF hN hK hP hV hS hA (k_X2_cellCount l D cI cC cB cS p0 p1 p2 p3 P) (cwV 0 hts gX2_addCase_X2_cellCount rfl rfl rfl (by decide +kernel) ⟨Nat.le_of_ble_eq_true rfl, Nat.le_of_ble_eq_true rfl⟩) [0, 1, 2, 3] rfl (by decide) 0 2 rfl rfl rfl hl.1 rfl (Nat.le_of_ble_eq_true rfl) dX2_addCase_28 ⟨Nat.le_refl _, Nat.le_refl _⟩ rfl (ws2 := plW p0 p1 p2 p3 cI P ++ n4W f0 cI f) rfl (fun H locs hP hS => ?_)
      refine rc_ge (pc := 31) (tgt := 57) hx hb (tI_nI (by omega)) (tI_nI (by omega)) dX2_addCase_31 (by decide) (fun c31 => ?_) (fun c31 => ?_)
      · refine lv_iconst (pc := 57) (v := nI 0) hx hb dX2_addCase_57 (by decide) ?_
        exact hret 58 _ hP hS dX2_addCase_58 rfl rfl ⟨(by rw [if_neg (fun q => by unfold casOK at q; omega)]), (by rw [if_neg (fun q => by unfold casOK at q; omega)])⟩
      · refine lv_aload_n (pc := 34) hx hb dX2_addCase_34 rfl (lv_at hl 1 rfl) ?_
        refine lv_iconst (pc := 35) (v := nI 2) hx hb dX2_addCase_35 (by decide) ?_
        refine ra_iald (pc := 36) (k := 2) (v := nI (f 2)) hx hb hK hP 4 0 rfl rfl (by omega) (by decide) rfl dX2_addCase_36 ?_
        refine lv_iconst (pc := 37) (v := nI 1) hx hb dX2_addCase_37 (by decide) ?_
        refine rc_lt (pc := 38) (tgt := 57) hx hb (tI_nI (by omega)) (tI_nI (by omega)) dX2_addCase_38 (by decide) (fun c38 => ?_) (fun c38 => ?_)
        · refine lv_iconst (pc := 57) (v := nI 0) hx hb dX2_addCase_57 (by decide) ?_
          exact hret 58 _ hP hS dX2_addCase_58 rfl rfl ⟨(by rw [if_neg (fun q => by unfold casOK at q; omega)]), (by rw [if_neg (fun q => by unfold casOK at q; omega)])⟩
        · refine lv_aload_n (pc := 41) hx hb dX2_addCase_41 rfl (lv_at hl 1 rfl) ?_
          refine lv_iconst (pc := 42) (v := nI 2) hx hb dX2_addCase_42 (by decide) ?_
          refine ra_iald (pc := 43) (k := 2) (v := nI (f 2)) hx hb hK hP 4 0 rfl rfl (by omega) (by decide) rfl dX2_addCase_43 ?_
          refine lv_bipush (pc := 44) (v := nI 9) hx hb dX2_addCase_44 (by decide) ?_
          refine rc_gt (pc := 46) (tgt := 57) hx hb (tI_nI (by omega)) (tI_nI (by omega)) dX2_addCase_46 (by decide) (fun c46 => ?_) (fun c46 => ?_)
          · refine lv_iconst (pc := 57) (v := nI 0) hx hb dX2_addCase_57 (by decide) ?_
            exact hret 58 _ hP hS dX2_addCase_58 rfl rfl ⟨(by rw [if_neg (fun q => by unfold casOK at q; omega)]), (by rw [if_neg (fun q => by unfold casOK at q; omega)])⟩
          · refine lv_aload_n (pc := 49) hx hb dX2_addCase_49 rfl (lv_at hl 1 rfl) ?_
            refine lv_iconst (pc := 50) (v := nI 3) hx hb dX2_addCase_50 (by decide) ?_
            refine ra_iald (pc := 51) (k := 3) (v := nI (f 3)) hx hb hK hP 4 0 rfl rfl (by omega) (by decide) rfl dX2_addCase_51 ?_
            refine lv_bipush (pc := 52) (v := nI 20) hx hb dX2_addCase_52 (by decide) ?_
            refine rc_lt (pc := 54) (tgt := 59) hx hb (tI_nI (by omega)) (tI_nI (by omega)) dX2_addCase_54 (by decide) (fun c54 => ?_) (fun c54 => ?_)
            · have hok : casOK P f := by unfold casOK; omega
              refine lv_aload_n (pc := 59) hx hb dX2_addCase_59 rfl (lv_at hl 1 rfl) ?_
              refine lv_iconst (pc := 60) (v := nI 0) hx hb dX2_addCase_60 (by decide) ?_
              refine lv_aload_n (pc := 61) hx hb dX2_addCase_61 rfl (lv_at hl 0 rfl) ?_
              refine va_get (pc := 62) (D := D) (ci := 2) (v := .ref p2) (C := RX2) (T := TX2) (N := 7) hx hb hts hiX2 hown hK hP 0 rfl rfl 1 (by decide) wf15 (fun _ h9 => h9) rfl dX2_addCase_62 ?_
              refine lv_aload_n (pc := 65) hx hb dX2_addCase_65 rfl (lv_at hl 0 rfl) ?_
              refine va_get (pc := 66) (D := D) (ci := 2) (v := .int (nI P.2.2.2.2.2.1)) (C := RX2) (T := TX2) (N := 7) hx hb hts hiX2 hown hK hP 0 rfl rfl 5 (by decide) wf28 (fun _ h9 => h9) rfl dX2_addCase_66 ?_
              refine lv_iconst (pc := 69) (v := nI 4) hx hb dX2_addCase_69 (by decide) ?_
              refine rn_imul (pc := 70) hx hb dX2_addCase_70 ?_
              refine lv_iconst (pc := 71) (v := nI 4) hx hb dX2_addCase_71 (by decide) ?_
              refine ra_copy (pc := 72) (sp := 0) (dp := P.2.2.2.2.2.1 * 4) (n := 4) (g2 := fun j => nI ((va_cpy f P.2.1 0 (P.2.2.2.2.2.1 * 4) 4) j)) (ws2 := plW p0 p1 p2 p3 cI (P.1, va_cpy f P.2.1 0 (P.2.2.2.2.2.1 * 4) 4, P.2.2.1, P.2.2.2.1, P.2.2.2.2.1, P.2.2.2.2.2.1, P.2.2.2.2.2.2) ++ n4W f0 cI f) hx hb (hml.trans hl.1.symm) hown ac_40 ac_n ac_s ac_i hK hP hV hS 4 2 0 rfl rfl rfl (by omega) (by omega) (by decide) (by decide) (fun j hj => congrFun cpy_n j) (Nat.le_of_ble_eq_true rfl) (Nat.le_of_ble_eq_true rfl) dX2_addCase_72 rfl rfl (fun H locs hP hS => ?_)
              refine lv_aload_n (pc := 75) hx hb dX2_addCase_75 rfl (lv_at hl 0 rfl) ?_
              refine lv_dup (pc := 76) hx hb dX2_addCase_76 rfl ?_
              refine va_get (pc := 77) (D := D) (ci := 2) (v := .int (nI P.2.2.2.2.2.1)) (C := RX2) (T := TX2) (N := 7) hx hb hts hiX2 hown hK hP 0 rfl rfl 5 (by decide) wf28 (fun _ h9 => h9) rfl dX2_addCase_77 ?_
              refine lv_iconst (pc := 80) (v := nI 1) hx hb dX2_addCase_80 (by decide) ?_
              refine rn_iadd (pc := 81) hx hb dX2_addCase_81 ?_
              refine ra_put (pc := 82) (D := D) (ci := 2) (v := .int (nI (P.2.2.2.2.2.1 + 1))) (ty := .int) (C := RX2) (T := TX2) (N := 7) (ws2 := plW p0 p1 p2 p3 cI (P.1, va_cpy f P.2.1 0 (P.2.2.2.2.2.1 * 4) 4, P.2.2.1, P.2.2.2.1, P.2.2.2.2.1, P.2.2.2.2.2.1 + 1, P.2.2.2.2.2.2) ++ n4W f0 cI f) hx hb hts hiX2 tyX2 tyX2_ok nmX2 hown hK hP hV hS 0 rfl rfl 5 (by decide) wf28 (fun _ h9 => h9) rfl (by decide +kernel) rfl rfl (Nat.le_of_ble_eq_true rfl) dX2_addCase_82 rfl rfl (fun H locs hP hS => ?_)
              refine lv_iconst (pc := 85) (v := nI 1) hx hb dX2_addCase_85 (by decide) ?_
              exact hret 86 _ hP hS dX2_addCase_86 rfl rfl ⟨(by rw [if_pos hok]), (by rw [if_pos hok]; rfl)⟩
            · refine lv_iconst (pc := 57) (v := nI 0) hx hb dX2_addCase_57 (by decide) ?_
              exact hret 58 _ hP hS dX2_addCase_58 rfl rfl ⟨(by rw [if_neg (fun q => by unfold casOK at q; omega)]), (by rw [if_neg (fun q => by unfold casOK at q; omega)])⟩
abbrev rmX2_addMaid : Room := { frames := 1, cells := 0, slots := 0, locals := 40 }
set_option maxHeartbeats 4000000 in
set_option maxRecDepth 100000 in
theorem k_X2_addMaid (l : Launch) (D : va_G) (cI cC cB cS : ClassId) (p0 p1 p2 p3 : Nat) (P : PL) (f0 : Nat) (f : Nat → Nat) (hp : pOK P) (hf : ∀ k, f k < 100) : CI l D (kT cI cC cB cS) yX2_addMaid wsX2_addMaid rmX2_addMaid [.ref p0, .ref f0] (plW p0 p1 p2 p3 cI P ++ n4W f0 cI f) (fun r u => r = nI (if maiOK P f then 1 else 0) ∧ u = plW p0 p1 p2 p3 cI (if maiOK P f then pMai P f else P) ++ n4W f0 cI f) := by
  refine ci_intro (by decide) rfl (Nat.le_of_ble_eq_true rfl) ?_
  intro p e s m args below meth c ls A QF hF hK hP hV hS hA hN hl hret
  obtain ⟨hx, hb, hml, hown, hts⟩ := id hF
  have hP : va_P D vwCl (plW p0 p1 p2 p3 cI P ++ n4W f0 cI f) s.heap := hP
  have hl : lv_has ls 2 [(0, .ref p0), (1, .ref f0)] := hl
  have wf18 := hts (.fieldLink RX2 18 "RemorseWall$Plan" "maids" "[I") (by decide +kernel)
  have wf31 := hts (.fieldLink RX2 31 "RemorseWall$Plan" "maidCount" "I") (by decide +kernel)
  have ac_n := hts (.native arraycopyName) (by decide +kernel)
  have ac_s := hts (.static arraycopyName) (by decide +kernel)
  have ac_i := hts (.initialized "java/lang/System") (by decide +kernel)
  have ac_40 := hts (.methodLink RX2 40 arraycopyName) (by decide +kernel)
  have hiX2 : ∀ w ∈ u_ws RX2 TX2 7, w ∈ wsX2_addMaid := by decide +kernel
  obtain ⟨hp1, hp2, hp3, hp4, hp5, hp6, hp7⟩ := id hp
  have hf0 := hf 0
  have hf1 := hf 1
  have hf2 := hf 2
  have hf3 := hf 3
  have hcl := pCells_le hp
  refine lv_aload_n (pc := 0) hx hb dX2_addMaid_0 rfl (lv_at hl 0 rfl) ?_
  refine va_get (pc := 1) (D := D) (ci := 2) (v := .int (nI P.2.2.2.2.2.2)) (C := RX2) (T := TX2) (N := 7) hx hb hts hiX2 hown hK hP 0 rfl rfl 6 (by decide) wf31 (fun _ h9 => h9) rfl dX2_addMaid_1 ?_
  refine lv_iconst (pc := 4) (v := nI 3) hx hb dX2_addMaid_4 (by decide) ?_
  refine rc_ge (pc := 5) (tgt := 14) hx hb (tI_nI (by omega)) (tI_nI (by omega)) dX2_addMaid_5 (by decide) (fun c5 => ?_) (fun c5 => ?_)
  · refine lv_iconst (pc := 14) (v := nI 0) hx hb dX2_addMaid_14 (by decide) ?_
    exact hret 15 _ hP hS dX2_addMaid_15 rfl rfl ⟨(by rw [if_neg (fun q => by unfold maiOK at q; omega)]), (by rw [if_neg (fun q => by unfold maiOK at q; omega)])⟩
  · refine lv_aload_n (pc := 8) hx hb dX2_addMaid_8 rfl (lv_at hl 1 rfl) ?_
    refine va_alen (pc := 9) (v := nI 4) hx hb hK hP 4 0 rfl rfl rfl dX2_addMaid_9 ?_
    refine lv_iconst (pc := 10) (v := nI 4) hx hb dX2_addMaid_10 (by decide) ?_
    refine rc_eq (pc := 11) (tgt := 16) hx hb (tI_nI (by omega)) (tI_nI (by omega)) dX2_addMaid_11 (by decide) (fun c11 => ?_) (fun c11 => (by omega))
    refine lv_aload_n (pc := 16) hx hb dX2_addMaid_16 rfl (lv_at hl 1 rfl) ?_
    refine lv_iconst (pc := 17) (v := nI 0) hx hb dX2_addMaid_17 (by decide) ?_
    refine ra_iald (pc := 18) (k := 0) (v := nI (f 0)) hx hb hK hP 4 0 rfl rfl (by omega) (by decide) rfl dX2_addMaid_18 ?_
    refine lv_iconst (pc := 19) (v := nI 3) hx hb dX2_addMaid_19 (by decide) ?_
    refine rc_gt (pc := 20) (tgt := 63) hx hb (tI_nI (by omega)) (tI_nI (by omega)) dX2_addMaid_20 (by decide) (fun c20 => ?_) (fun c20 => ?_)
    · refine lv_iconst (pc := 63) (v := nI 0) hx hb dX2_addMaid_63 (by decide) ?_
      exact hret 64 _ hP hS dX2_addMaid_64 rfl rfl ⟨(by rw [if_neg (fun q => by unfold maiOK at q; omega)]), (by rw [if_neg (fun q => by unfold maiOK at q; omega)])⟩
    · refine lv_aload_n (pc := 23) hx hb dX2_addMaid_23 rfl (lv_at hl 1 rfl) ?_
      refine lv_iconst (pc := 24) (v := nI 3) hx hb dX2_addMaid_24 (by decide) ?_
      refine ra_iald (pc := 25) (k := 3) (v := nI (f 3)) hx hb hK hP 4 0 rfl rfl (by omega) (by decide) rfl dX2_addMaid_25 ?_
      refine lv_aload_n (pc := 26) hx hb dX2_addMaid_26 rfl (lv_at hl 0 rfl) ?_
      refine ci_Vd (pc := 27) (r0 := nI (pCells P)) hF hN hK hP hV hS hA (k_X2_cellCount l D cI cC cB cS p0 p1 p2 p3 P) (cwV 0 hts gX2_addMaid_X2_cellCount rfl rfl rfl (by decide +kernel) ⟨Nat.le_of_ble_eq_true rfl, Nat.le_of_ble_eq_true rfl⟩) [0, 1, 2, 3] rfl (by decide) 0 2 rfl rfl rfl hl.1 rfl (Nat.le_of_ble_eq_true rfl) dX2_addMaid_27 ⟨Nat.le_refl _, Nat.le_refl _⟩ rfl (ws2 := plW p0 p1 p2 p3 cI P ++ n4W f0 cI f) rfl (fun H locs hP hS => ?_)
      refine rc_ge (pc := 30) (tgt := 63) hx hb (tI_nI (by omega)) (tI_nI (by omega)) dX2_addMaid_30 (by decide) (fun c30 => ?_) (fun c30 => ?_)
      · refine lv_iconst (pc := 63) (v := nI 0) hx hb dX2_addMaid_63 (by decide) ?_
        exact hret 64 _ hP hS dX2_addMaid_64 rfl rfl ⟨(by rw [if_neg (fun q => by unfold maiOK at q; omega)]), (by rw [if_neg (fun q => by unfold maiOK at q; omega)])⟩
      · refine lv_aload_n (pc := 33) hx hb dX2_addMaid_33 rfl (lv_at hl 1 rfl) ?_
        refine lv_iconst (pc := 34) (v := nI 1) hx hb dX2_addMaid_34 (by decide) ?_
        refine ra_iald (pc := 35) (k := 1) (v := nI (f 1)) hx hb hK hP 4 0 rfl rfl (by omega) (by decide) rfl dX2_addMaid_35 ?_
        refine lv_iconst (pc := 36) (v := nI 1) hx hb dX2_addMaid_36 (by decide) ?_
        refine rc_lt (pc := 37) (tgt := 63) hx hb (tI_nI (by omega)) (tI_nI (by omega)) dX2_addMaid_37 (by decide) (fun c37 => ?_) (fun c37 => ?_)
        · refine lv_iconst (pc := 63) (v := nI 0) hx hb dX2_addMaid_63 (by decide) ?_
          exact hret 64 _ hP hS dX2_addMaid_64 rfl rfl ⟨(by rw [if_neg (fun q => by unfold maiOK at q; omega)]), (by rw [if_neg (fun q => by unfold maiOK at q; omega)])⟩
        · refine lv_aload_n (pc := 40) hx hb dX2_addMaid_40 rfl (lv_at hl 1 rfl) ?_
          refine lv_iconst (pc := 41) (v := nI 1) hx hb dX2_addMaid_41 (by decide) ?_
          refine ra_iald (pc := 42) (k := 1) (v := nI (f 1)) hx hb hK hP 4 0 rfl rfl (by omega) (by decide) rfl dX2_addMaid_42 ?_
          refine lv_bipush (pc := 43) (v := nI 9) hx hb dX2_addMaid_43 (by decide) ?_
          refine rc_gt (pc := 45) (tgt := 63) hx hb (tI_nI (by omega)) (tI_nI (by omega)) dX2_addMaid_45 (by decide) (fun c45 => ?_) (fun c45 => ?_)
          · refine lv_iconst (pc := 63) (v := nI 0) hx hb dX2_addMaid_63 (by decide) ?_
            exact hret 64 _ hP hS dX2_addMaid_64 rfl rfl ⟨(by rw [if_neg (fun q => by unfold maiOK at q; omega)]), (by rw [if_neg (fun q => by unfold maiOK at q; omega)])⟩
          · refine lv_aload_n (pc := 48) hx hb dX2_addMaid_48 rfl (lv_at hl 1 rfl) ?_
            refine lv_iconst (pc := 49) (v := nI 2) hx hb dX2_addMaid_49 (by decide) ?_
            refine ra_iald (pc := 50) (k := 2) (v := nI (f 2)) hx hb hK hP 4 0 rfl rfl (by omega) (by decide) rfl dX2_addMaid_50 ?_
            refine lv_iconst (pc := 51) (v := nI 1) hx hb dX2_addMaid_51 (by decide) ?_
            refine rc_lt (pc := 52) (tgt := 63) hx hb (tI_nI (by omega)) (tI_nI (by omega)) dX2_addMaid_52 (by decide) (fun c52 => ?_) (fun c52 => ?_)
            · refine lv_iconst (pc := 63) (v := nI 0) hx hb dX2_addMaid_63 (by decide) ?_
              exact hret 64 _ hP hS dX2_addMaid_64 rfl rfl ⟨(by rw [if_neg (fun q => by unfold maiOK at q; omega)]), (by rw [if_neg (fun q => by unfold maiOK at q; omega)])⟩
            · refine lv_aload_n (pc := 55) hx hb dX2_addMaid_55 rfl (lv_at hl 1 rfl) ?_
              refine lv_iconst (pc := 56) (v := nI 2) hx hb dX2_addMaid_56 (by decide) ?_
              refine ra_iald (pc := 57) (k := 2) (v := nI (f 2)) hx hb hK hP 4 0 rfl rfl (by omega) (by decide) rfl dX2_addMaid_57 ?_
              refine lv_bipush (pc := 58) (v := nI 9) hx hb dX2_addMaid_58 (by decide) ?_
              refine rc_le (pc := 60) (tgt := 65) hx hb (tI_nI (by omega)) (tI_nI (by omega)) dX2_addMaid_60 (by decide) (fun c60 => ?_) (fun c60 => ?_)
              · have hok : maiOK P f := by unfold maiOK; omega
                refine lv_aload_n (pc := 65) hx hb dX2_addMaid_65 rfl (lv_at hl 1 rfl) ?_
                refine lv_iconst (pc := 66) (v := nI 0) hx hb dX2_addMaid_66 (by decide) ?_
                refine lv_aload_n (pc := 67) hx hb dX2_addMaid_67 rfl (lv_at hl 0 rfl) ?_
                refine va_get (pc := 68) (D := D) (ci := 2) (v := .ref p3) (C := RX2) (T := TX2) (N := 7) hx hb hts hiX2 hown hK hP 0 rfl rfl 2 (by decide) wf18 (fun _ h9 => h9) rfl dX2_addMaid_68 ?_
                refine lv_aload_n (pc := 71) hx hb dX2_addMaid_71 rfl (lv_at hl 0 rfl) ?_
                refine va_get (pc := 72) (D := D) (ci := 2) (v := .int (nI P.2.2.2.2.2.2)) (C := RX2) (T := TX2) (N := 7) hx hb hts hiX2 hown hK hP 0 rfl rfl 6 (by decide) wf31 (fun _ h9 => h9) rfl dX2_addMaid_72 ?_
                refine lv_iconst (pc := 75) (v := nI 4) hx hb dX2_addMaid_75 (by decide) ?_
                refine rn_imul (pc := 76) hx hb dX2_addMaid_76 ?_
                refine lv_iconst (pc := 77) (v := nI 4) hx hb dX2_addMaid_77 (by decide) ?_
                refine ra_copy (pc := 78) (sp := 0) (dp := P.2.2.2.2.2.2 * 4) (n := 4) (g2 := fun j => nI ((va_cpy f P.2.2.1 0 (P.2.2.2.2.2.2 * 4) 4) j)) (ws2 := plW p0 p1 p2 p3 cI (P.1, P.2.1, va_cpy f P.2.2.1 0 (P.2.2.2.2.2.2 * 4) 4, P.2.2.2.1, P.2.2.2.2.1, P.2.2.2.2.2.1, P.2.2.2.2.2.2) ++ n4W f0 cI f) hx hb (hml.trans hl.1.symm) hown ac_40 ac_n ac_s ac_i hK hP hV hS 4 3 0 rfl rfl rfl (by omega) (by omega) (by decide) (by decide) (fun j hj => congrFun cpy_n j) (Nat.le_of_ble_eq_true rfl) (Nat.le_of_ble_eq_true rfl) dX2_addMaid_78 rfl rfl (fun H locs hP hS => ?_)
                refine lv_aload_n (pc := 81) hx hb dX2_addMaid_81 rfl (lv_at hl 0 rfl) ?_
                refine lv_dup (pc := 82) hx hb dX2_addMaid_82 rfl ?_
                refine va_get (pc := 83) (D := D) (ci := 2) (v := .int (nI P.2.2.2.2.2.2)) (C := RX2) (T := TX2) (N := 7) hx hb hts hiX2 hown hK hP 0 rfl rfl 6 (by decide) wf31 (fun _ h9 => h9) rfl dX2_addMaid_83 ?_
                refine lv_iconst (pc := 86) (v := nI 1) hx hb dX2_addMaid_86 (by decide) ?_
                refine rn_iadd (pc := 87) hx hb dX2_addMaid_87 ?_
                refine ra_put (pc := 88) (D := D) (ci := 2) (v := .int (nI (P.2.2.2.2.2.2 + 1))) (ty := .int) (C := RX2) (T := TX2) (N := 7) (ws2 := plW p0 p1 p2 p3 cI (P.1, P.2.1, va_cpy f P.2.2.1 0 (P.2.2.2.2.2.2 * 4) 4, P.2.2.2.1, P.2.2.2.2.1, P.2.2.2.2.2.1, P.2.2.2.2.2.2 + 1) ++ n4W f0 cI f) hx hb hts hiX2 tyX2 tyX2_ok nmX2 hown hK hP hV hS 0 rfl rfl 6 (by decide) wf31 (fun _ h9 => h9) rfl (by decide +kernel) rfl rfl (Nat.le_of_ble_eq_true rfl) dX2_addMaid_88 rfl rfl (fun H locs hP hS => ?_)
                refine lv_iconst (pc := 91) (v := nI 1) hx hb dX2_addMaid_91 (by decide) ?_
                exact hret 92 _ hP hS dX2_addMaid_92 rfl rfl ⟨(by rw [if_pos hok]), (by rw [if_pos hok]; rfl)⟩
              · refine lv_iconst (pc := 63) (v := nI 0) hx hb dX2_addMaid_63 (by decide) ?_
                exact hret 64 _ hP hS dX2_addMaid_64 rfl rfl ⟨(by rw [if_neg (fun q => by unfold maiOK at q; omega)]), (by rw [if_neg (fun q => by unfold maiOK at q; omega)])⟩
