abbrev rmX8_clear : Room := { frames := 1, cells := 0, slots := 0, locals := 23 }
set_option maxHeartbeats 4000000 in
set_option maxRecDepth 100000 in
theorem k_X8_clear (l : Launch) (D : va_G) (cI cC cB cS : ClassId) (s0 s1 s2 s3 : Nat) (S : ST) : CV l D (kT cI cC cB cS) yX8_clear wsX8_clear rmX8_clear [.ref s0] (stW s0 s1 s2 s3 cI S) (fun u => u = stW s0 s1 s2 s3 cI ((fun _ => 0), (fun _ => 0), (fun _ => 0), 0, 0)) := by
  refine cv_intro (by decide) rfl (Nat.le_of_ble_eq_true rfl) ?_
  intro p e s m args below meth c ls A QF hF hK hP hV hS hA hN hl hret
  obtain ⟨hx, hb, hml, hown, hts⟩ := id hF
  have hP : va_P D vwCl (stW s0 s1 s2 s3 cI S) s.heap := hP
  have hl : lv_has ls 1 [(0, .ref s0)] := hl
  have wf9 := hts (.fieldLink RX8 9 "RemorseWall$Standing" "high" "[I") (by decide +kernel)
  have wf15 := hts (.fieldLink RX8 15 "RemorseWall$Standing" "left" "[I") (by decide +kernel)
  have wf18 := hts (.fieldLink RX8 18 "RemorseWall$Standing" "place" "[I") (by decide +kernel)
  have wf21 := hts (.fieldLink RX8 21 "RemorseWall$Standing" "pardoned" "I") (by decide +kernel)
  have wf25 := hts (.fieldLink RX8 25 "RemorseWall$Standing" "year" "I") (by decide +kernel)
  have hiX8 : ∀ w ∈ u_ws RX8 TX8 5, w ∈ wsX8_clear := by decide +kernel
  refine lv_aload_n (pc := 0) hx hb dX8_clear_0 rfl (lv_at hl 0 rfl) ?_
  refine va_get (pc := 1) (D := D) (ci := 8) (v := .ref s1) (C := RX8) (T := TX8) (N := 5) hx hb hts hiX8 hown hK hP 0 rfl rfl 0 (by decide) wf9 (fun _ h9 => h9) rfl dX8_clear_1 ?_
  refine lv_iconst (pc := 4) (v := nI 0) hx hb dX8_clear_4 (by decide) ?_
  refine cv_Sd (pc := 5) hF hN hK hP hV hS hA (k_J7_fill l D cI cC cB cS s1 24 (fun j => nI (S.1 j)) (nI 0) (by decide)) (va_cwS 2 hts gX8_clear_J7_fill_53178 rfl rfl rfl (by decide +kernel) ⟨Nat.le_of_ble_eq_true rfl, Nat.le_of_ble_eq_true rfl⟩) [1] rfl (by decide) rfl hl.1 rfl (Nat.le_of_ble_eq_true rfl) dX8_clear_5 ⟨Nat.le_refl _, Nat.le_refl _⟩ rfl (ws2 := stW s0 s1 s2 s3 cI (fun _ => 0, S.2.1, S.2.2.1, S.2.2.2.1, S.2.2.2.2)) rfl (fun H locs hP hS => ?_)
  refine lv_aload_n (pc := 8) hx hb dX8_clear_8 rfl (lv_at hl 0 rfl) ?_
  refine va_get (pc := 9) (D := D) (ci := 8) (v := .ref s2) (C := RX8) (T := TX8) (N := 5) hx hb hts hiX8 hown hK hP 0 rfl rfl 1 (by decide) wf15 (fun _ h9 => h9) rfl dX8_clear_9 ?_
  refine lv_iconst (pc := 12) (v := nI 0) hx hb dX8_clear_12 (by decide) ?_
  refine cv_Sd (pc := 13) hF hN hK hP hV hS hA (k_J7_fill l D cI cC cB cS s2 3 (fun j => nI (S.2.1 j)) (nI 0) (by decide)) (va_cwS 2 hts gX8_clear_J7_fill_53178 rfl rfl rfl (by decide +kernel) ⟨Nat.le_of_ble_eq_true rfl, Nat.le_of_ble_eq_true rfl⟩) [2] rfl (by decide) rfl hl.1 rfl (Nat.le_of_ble_eq_true rfl) dX8_clear_13 ⟨Nat.le_refl _, Nat.le_refl _⟩ rfl (ws2 := stW s0 s1 s2 s3 cI (fun _ => 0, fun _ => 0, S.2.2.1, S.2.2.2.1, S.2.2.2.2)) rfl (fun H locs hP hS => ?_)
  refine lv_aload_n (pc := 16) hx hb dX8_clear_16 rfl (lv_at hl 0 rfl) ?_
  refine va_get (pc := 17) (D := D) (ci := 8) (v := .ref s3) (C := RX8) (T := TX8) (N := 5) hx hb hts hiX8 hown hK hP 0 rfl rfl 2 (by decide) wf18 (fun _ h9 => h9) rfl dX8_clear_17 ?_
  refine lv_iconst (pc := 20) (v := nI 0) hx hb dX8_clear_20 (by decide) ?_
  refine cv_Sd (pc := 21) hF hN hK hP hV hS hA (k_J7_fill l D cI cC cB cS s3 3 (fun j => nI (S.2.2.1 j)) (nI 0) (by decide)) (va_cwS 2 hts gX8_clear_J7_fill_53178 rfl rfl rfl (by decide +kernel) ⟨Nat.le_of_ble_eq_true rfl, Nat.le_of_ble_eq_true rfl⟩) [3] rfl (by decide) rfl hl.1 rfl (Nat.le_of_ble_eq_true rfl) dX8_clear_21 ⟨Nat.le_refl _, Nat.le_refl _⟩ rfl (ws2 := stW s0 s1 s2 s3 cI (fun _ => 0, fun _ => 0, fun _ => 0, S.2.2.2.1, S.2.2.2.2)) rfl (fun H locs hP hS => ?_)
  refine lv_aload_n (pc := 24) hx hb dX8_clear_24 rfl (lv_at hl 0 rfl) ?_
  refine lv_iconst (pc := 25) (v := nI 0) hx hb dX8_clear_25 (by decide) ?_
  refine ra_put (pc := 26) (D := D) (ci := 8) (v := .int (nI 0)) (ty := .int) (C := RX8) (T := TX8) (N := 5) (ws2 := stW s0 s1 s2 s3 cI (fun _ => 0, fun _ => 0, fun _ => 0, 0, S.2.2.2.2)) hx hb hts hiX8 tyX8 tyX8_ok nmX8 hown hK hP hV hS 0 rfl rfl 3 (by decide) wf21 (fun _ h9 => h9) rfl (by decide +kernel) rfl rfl (Nat.le_of_ble_eq_true rfl) dX8_clear_26 rfl rfl (fun H locs hP hS => ?_)
  refine lv_aload_n (pc := 29) hx hb dX8_clear_29 rfl (lv_at hl 0 rfl) ?_
  refine lv_iconst (pc := 30) (v := nI 0) hx hb dX8_clear_30 (by decide) ?_
  refine ra_put (pc := 31) (D := D) (ci := 8) (v := .int (nI 0)) (ty := .int) (C := RX8) (T := TX8) (N := 5) (ws2 := stW s0 s1 s2 s3 cI (fun _ => 0, fun _ => 0, fun _ => 0, 0, 0)) hx hb hts hiX8 tyX8 tyX8_ok nmX8 hown hK hP hV hS 0 rfl rfl 4 (by decide) wf25 (fun _ h9 => h9) rfl (by decide +kernel) rfl rfl (Nat.le_of_ble_eq_true rfl) dX8_clear_31 rfl rfl (fun H locs hP hS => ?_)
  exact hret 34 _ hP hS dX8_clear_34 rfl rfl
abbrev rmX8_copyFrom : Room := { frames := 1, cells := 0, slots := 0, locals := 40 }
set_option maxHeartbeats 4000000 in
set_option maxRecDepth 100000 in
theorem k_X8_copyFrom (l : Launch) (D : va_G) (cI cC cB cS : ClassId) (s0 s1 s2 s3 : Nat) (S : ST) (t0 t1 t2 t3 : Nat) (T : ST) : CV l D (kT cI cC cB cS) yX8_copyFrom wsX8_copyFrom rmX8_copyFrom [.ref s0, .ref t0] (stW s0 s1 s2 s3 cI S ++ stW t0 t1 t2 t3 cI T) (fun u => u = stW s0 s1 s2 s3 cI T ++ stW t0 t1 t2 t3 cI T) := by
  refine cv_intro (by decide) rfl (Nat.le_of_ble_eq_true rfl) ?_
  intro p e s m args below meth c ls A QF hF hK hP hV hS hA hN hl hret
  obtain ⟨hx, hb, hml, hown, hts⟩ := id hF
  have hP : va_P D vwCl (stW s0 s1 s2 s3 cI S ++ stW t0 t1 t2 t3 cI T) s.heap := hP
  have hl : lv_has ls 2 [(0, .ref s0), (1, .ref t0)] := hl
  have wf9 := hts (.fieldLink RX8 9 "RemorseWall$Standing" "high" "[I") (by decide +kernel)
  have wf15 := hts (.fieldLink RX8 15 "RemorseWall$Standing" "left" "[I") (by decide +kernel)
  have wf18 := hts (.fieldLink RX8 18 "RemorseWall$Standing" "place" "[I") (by decide +kernel)
  have wf21 := hts (.fieldLink RX8 21 "RemorseWall$Standing" "pardoned" "I") (by decide +kernel)
  have wf25 := hts (.fieldLink RX8 25 "RemorseWall$Standing" "year" "I") (by decide +kernel)
  have ac_n := hts (.native arraycopyName) (by decide +kernel)
  have ac_s := hts (.static arraycopyName) (by decide +kernel)
  have ac_i := hts (.initialized "java/lang/System") (by decide +kernel)
  have ac_34 := hts (.methodLink RX8 34 arraycopyName) (by decide +kernel)
  have hiX8 : ∀ w ∈ u_ws RX8 TX8 5, w ∈ wsX8_copyFrom := by decide +kernel
  refine lv_aload_n (pc := 0) hx hb dX8_copyFrom_0 rfl (lv_at hl 1 rfl) ?_
  refine va_get (pc := 1) (D := D) (ci := 8) (v := .ref t1) (C := RX8) (T := TX8) (N := 5) hx hb hts hiX8 hown hK hP 4 rfl rfl 0 (by decide) wf9 (fun _ h9 => h9) rfl dX8_copyFrom_1 ?_
  refine lv_iconst (pc := 4) (v := nI 0) hx hb dX8_copyFrom_4 (by decide) ?_
  refine lv_aload_n (pc := 5) hx hb dX8_copyFrom_5 rfl (lv_at hl 0 rfl) ?_
  refine va_get (pc := 6) (D := D) (ci := 8) (v := .ref s1) (C := RX8) (T := TX8) (N := 5) hx hb hts hiX8 hown hK hP 0 rfl rfl 0 (by decide) wf9 (fun _ h9 => h9) rfl dX8_copyFrom_6 ?_
  refine lv_iconst (pc := 9) (v := nI 0) hx hb dX8_copyFrom_9 (by decide) ?_
  refine lv_bipush (pc := 10) (v := nI 24) hx hb dX8_copyFrom_10 (by decide) ?_
  refine ra_copy (pc := 12) (sp := 0) (dp := 0) (n := 24) (g2 := fun j => nI (T.1 j)) (ws2 := stW s0 s1 s2 s3 cI (T.1, S.2.1, S.2.2.1, S.2.2.2.1, S.2.2.2.2) ++ stW t0 t1 t2 t3 cI T) hx hb (hml.trans hl.1.symm) hown ac_34 ac_n ac_s ac_i hK hP hV hS 5 1 0 rfl rfl rfl (by omega) (by omega) (by decide) (by decide) (fun j hj => cpy_all hj) (Nat.le_of_ble_eq_true rfl) (Nat.le_of_ble_eq_true rfl) dX8_copyFrom_12 rfl rfl (fun H locs hP hS => ?_)
  refine lv_aload_n (pc := 15) hx hb dX8_copyFrom_15 rfl (lv_at hl 1 rfl) ?_
  refine va_get (pc := 16) (D := D) (ci := 8) (v := .ref t2) (C := RX8) (T := TX8) (N := 5) hx hb hts hiX8 hown hK hP 4 rfl rfl 1 (by decide) wf15 (fun _ h9 => h9) rfl dX8_copyFrom_16 ?_
  refine lv_iconst (pc := 19) (v := nI 0) hx hb dX8_copyFrom_19 (by decide) ?_
  refine lv_aload_n (pc := 20) hx hb dX8_copyFrom_20 rfl (lv_at hl 0 rfl) ?_
  refine va_get (pc := 21) (D := D) (ci := 8) (v := .ref s2) (C := RX8) (T := TX8) (N := 5) hx hb hts hiX8 hown hK hP 0 rfl rfl 1 (by decide) wf15 (fun _ h9 => h9) rfl dX8_copyFrom_21 ?_
  refine lv_iconst (pc := 24) (v := nI 0) hx hb dX8_copyFrom_24 (by decide) ?_
  refine lv_iconst (pc := 25) (v := nI 3) hx hb dX8_copyFrom_25 (by decide) ?_
  refine ra_copy (pc := 26) (sp := 0) (dp := 0) (n := 3) (g2 := fun j => nI (T.2.1 j)) (ws2 := stW s0 s1 s2 s3 cI (T.1, T.2.1, S.2.2.1, S.2.2.2.1, S.2.2.2.2) ++ stW t0 t1 t2 t3 cI T) hx hb (hml.trans hl.1.symm) hown ac_34 ac_n ac_s ac_i hK hP hV hS 6 2 0 rfl rfl rfl (by omega) (by omega) (by decide) (by decide) (fun j hj => cpy_all hj) (Nat.le_of_ble_eq_true rfl) (Nat.le_of_ble_eq_true rfl) dX8_copyFrom_26 rfl rfl (fun H locs hP hS => ?_)
  refine lv_aload_n (pc := 29) hx hb dX8_copyFrom_29 rfl (lv_at hl 1 rfl) ?_
  refine va_get (pc := 30) (D := D) (ci := 8) (v := .ref t3) (C := RX8) (T := TX8) (N := 5) hx hb hts hiX8 hown hK hP 4 rfl rfl 2 (by decide) wf18 (fun _ h9 => h9) rfl dX8_copyFrom_30 ?_
  refine lv_iconst (pc := 33) (v := nI 0) hx hb dX8_copyFrom_33 (by decide) ?_
  refine lv_aload_n (pc := 34) hx hb dX8_copyFrom_34 rfl (lv_at hl 0 rfl) ?_
  refine va_get (pc := 35) (D := D) (ci := 8) (v := .ref s3) (C := RX8) (T := TX8) (N := 5) hx hb hts hiX8 hown hK hP 0 rfl rfl 2 (by decide) wf18 (fun _ h9 => h9) rfl dX8_copyFrom_35 ?_
  refine lv_iconst (pc := 38) (v := nI 0) hx hb dX8_copyFrom_38 (by decide) ?_
  refine lv_iconst (pc := 39) (v := nI 3) hx hb dX8_copyFrom_39 (by decide) ?_
  refine ra_copy (pc := 40) (sp := 0) (dp := 0) (n := 3) (g2 := fun j => nI (T.2.2.1 j)) (ws2 := stW s0 s1 s2 s3 cI (T.1, T.2.1, T.2.2.1, S.2.2.2.1, S.2.2.2.2) ++ stW t0 t1 t2 t3 cI T) hx hb (hml.trans hl.1.symm) hown ac_34 ac_n ac_s ac_i hK hP hV hS 7 3 0 rfl rfl rfl (by omega) (by omega) (by decide) (by decide) (fun j hj => cpy_all hj) (Nat.le_of_ble_eq_true rfl) (Nat.le_of_ble_eq_true rfl) dX8_copyFrom_40 rfl rfl (fun H locs hP hS => ?_)
  refine lv_aload_n (pc := 43) hx hb dX8_copyFrom_43 rfl (lv_at hl 0 rfl) ?_
  refine lv_aload_n (pc := 44) hx hb dX8_copyFrom_44 rfl (lv_at hl 1 rfl) ?_
  refine va_get (pc := 45) (D := D) (ci := 8) (v := .int (nI T.2.2.2.1)) (C := RX8) (T := TX8) (N := 5) hx hb hts hiX8 hown hK hP 4 rfl rfl 3 (by decide) wf21 (fun _ h9 => h9) rfl dX8_copyFrom_45 ?_
  refine ra_put (pc := 48) (D := D) (ci := 8) (v := .int (nI T.2.2.2.1)) (ty := .int) (C := RX8) (T := TX8) (N := 5) (ws2 := stW s0 s1 s2 s3 cI (T.1, T.2.1, T.2.2.1, T.2.2.2.1, S.2.2.2.2) ++ stW t0 t1 t2 t3 cI T) hx hb hts hiX8 tyX8 tyX8_ok nmX8 hown hK hP hV hS 0 rfl rfl 3 (by decide) wf21 (fun _ h9 => h9) rfl (by decide +kernel) rfl rfl (Nat.le_of_ble_eq_true rfl) dX8_copyFrom_48 rfl rfl (fun H locs hP hS => ?_)
  refine lv_aload_n (pc := 51) hx hb dX8_copyFrom_51 rfl (lv_at hl 0 rfl) ?_
  refine lv_aload_n (pc := 52) hx hb dX8_copyFrom_52 rfl (lv_at hl 1 rfl) ?_
  refine va_get (pc := 53) (D := D) (ci := 8) (v := .int (nI T.2.2.2.2)) (C := RX8) (T := TX8) (N := 5) hx hb hts hiX8 hown hK hP 4 rfl rfl 4 (by decide) wf25 (fun _ h9 => h9) rfl dX8_copyFrom_53 ?_
  refine ra_put (pc := 56) (D := D) (ci := 8) (v := .int (nI T.2.2.2.2)) (ty := .int) (C := RX8) (T := TX8) (N := 5) (ws2 := stW s0 s1 s2 s3 cI (T.1, T.2.1, T.2.2.1, T.2.2.2.1, T.2.2.2.2) ++ stW t0 t1 t2 t3 cI T) hx hb hts hiX8 tyX8 tyX8_ok nmX8 hown hK hP hV hS 0 rfl rfl 4 (by decide) wf25 (fun _ h9 => h9) rfl (by decide +kernel) rfl rfl (Nat.le_of_ble_eq_true rfl) dX8_copyFrom_56 rfl rfl (fun H locs hP hS => ?_)
  exact hret 59 _ hP hS dX8_copyFrom_59 rfl rfl
