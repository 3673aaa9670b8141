abbrev rmX7_cellOfStroke : Room := { frames := 0, cells := 0, slots := 0, locals := 0 }
set_option maxHeartbeats 4000000 in
set_option maxRecDepth 100000 in
theorem k_X7_cellOfStroke (l : Launch) (D : va_G) (cI cC cB cS : ClassId) (m0 m1 m2 : Nat) (M : SM) (k : Nat) (hk : k < 9) : CI l D (kT cI cC cB cS) yX7_cellOfStroke wsX7_cellOfStroke rmX7_cellOfStroke [.ref m0, .int (nI k)] (smW m0 m1 m2 cI M) (fun r u => r = nI (M.2 k) ∧ u = smW m0 m1 m2 cI M) := by
  refine ci_intro (by decide) rfl (Nat.le_of_ble_eq_true rfl) ?_
  intro p e s m args below meth c ls A QF hF hK hP hV hS hA hN hl hret
  obtain ⟨hx, hb, hml, hown, hts⟩ := id hF
  have hP : va_P D vwCl (smW m0 m1 m2 cI M) s.heap := hP
  have hl : lv_has ls 2 [(0, .ref m0), (1, .int (nI k))] := hl
  have wf15 := hts (.fieldLink RX7 15 "RemorseWall$Smoothing" "row" "[I") (by decide +kernel)
  have hiX7 : ∀ w ∈ u_ws RX7 TX7 2, w ∈ wsX7_cellOfStroke := by decide +kernel
  refine lv_iload_n (pc := 0) hx hb dX7_cellOfStroke_0 rfl (lv_at hl 1 rfl) ?_
  refine r0_lt (pc := 1) (tgt := 22) hx hb (tI_nI (by omega)) dX7_cellOfStroke_1 (by decide) (fun c1 => ?_) (fun c1 => ?_)
  · omega
  · refine lv_iload_n (pc := 4) hx hb dX7_cellOfStroke_4 rfl (lv_at hl 1 rfl) ?_
    refine lv_aload_n (pc := 5) hx hb dX7_cellOfStroke_5 rfl (lv_at hl 0 rfl) ?_
    refine va_get (pc := 6) (D := D) (ci := 7) (v := .ref m2) (C := RX7) (T := TX7) (N := 2) hx hb hts hiX7 hown hK hP 0 rfl rfl 1 (by decide) wf15 (fun _ h9 => h9) rfl dX7_cellOfStroke_6 ?_
    refine va_alen (pc := 9) (v := nI 9) hx hb hK hP 2 0 rfl rfl rfl dX7_cellOfStroke_9 ?_
    refine rc_ge (pc := 10) (tgt := 22) hx hb (tI_nI (by omega)) (tI_nI (by omega)) dX7_cellOfStroke_10 (by decide) (fun c10 => ?_) (fun c10 => ?_)
    · omega
    · refine lv_aload_n (pc := 13) hx hb dX7_cellOfStroke_13 rfl (lv_at hl 0 rfl) ?_
      refine va_get (pc := 14) (D := D) (ci := 7) (v := .ref m2) (C := RX7) (T := TX7) (N := 2) hx hb hts hiX7 hown hK hP 0 rfl rfl 1 (by decide) wf15 (fun _ h9 => h9) rfl dX7_cellOfStroke_14 ?_
      refine lv_iload_n (pc := 17) hx hb dX7_cellOfStroke_17 rfl (lv_at hl 1 rfl) ?_
      refine ra_iald (pc := 18) (k := k) (v := nI (M.2 k)) hx hb hK hP 2 0 rfl rfl (by omega) (by decide) rfl dX7_cellOfStroke_18 ?_
      refine lv_goto (pc := 19) (tgt := 24) hx hb dX7_cellOfStroke_19 (by decide) ?_
      exact hret 24 _ hP hS dX7_cellOfStroke_24 rfl rfl ⟨rfl, rfl⟩
abbrev rmX7_fewestFrom : Room := { frames := 0, cells := 0, slots := 0, locals := 0 }
set_option maxHeartbeats 4000000 in
set_option maxRecDepth 100000 in
theorem k_X7_fewestFrom (l : Launch) (D : va_G) (cI cC cB cS : ClassId) (m0 m1 m2 : Nat) (M : SM) (k : Nat) (h : Nat) (hk : k < 24) (hh : h ≤ 40) : CI l D (kT cI cC cB cS) yX7_fewestFrom wsX7_fewestFrom rmX7_fewestFrom [.ref m0, .int (nI k), .int (nI h)] (smW m0 m1 m2 cI M) (fun r u => r = jI (M.1 (k * 41 + h)) ∧ u = smW m0 m1 m2 cI M) := by
  refine ci_intro (by decide) rfl (Nat.le_of_ble_eq_true rfl) ?_
  intro p e s m args below meth c ls A QF hF hK hP hV hS hA hN hl hret
  obtain ⟨hx, hb, hml, hown, hts⟩ := id hF
  have hP : va_P D vwCl (smW m0 m1 m2 cI M) s.heap := hP
  have hl : lv_has ls 4 [(0, .ref m0), (1, .int (nI k)), (2, .int (nI h))] := hl
  have wf11 := hts (.fieldLink RX7 11 "RemorseWall$Smoothing" "fewest" "[I") (by decide +kernel)
  have hiX7 : ∀ w ∈ u_ws RX7 TX7 2, w ∈ wsX7_fewestFrom := by decide +kernel
  refine lv_iload_n (pc := 0) hx hb dX7_fewestFrom_0 rfl (lv_at hl 1 rfl) ?_
  refine lv_bipush (pc := 1) (v := nI 41) hx hb dX7_fewestFrom_1 (by decide) ?_
  refine rn_imul (pc := 3) hx hb dX7_fewestFrom_3 ?_
  refine lv_iload_n (pc := 4) hx hb dX7_fewestFrom_4 rfl (lv_at hl 2 rfl) ?_
  refine rn_iadd (pc := 5) hx hb dX7_fewestFrom_5 ?_
  refine lv_istore_n (pc := 6) (lv' := [(3, .int (nI ((k * 41) + h))), (0, .ref m0), (1, .int (nI k)), (2, .int (nI h))]) hx hb dX7_fewestFrom_6 rfl hl (by decide) rfl (fun ls hl => ?_)
  refine lv_iload_n (pc := 7) hx hb dX7_fewestFrom_7 rfl (lv_at hl 0 rfl) ?_
  refine r0_lt (pc := 8) (tgt := 29) hx hb (tI_nI (by omega)) dX7_fewestFrom_8 (by decide) (fun c8 => ?_) (fun c8 => ?_)
  · omega
  · refine lv_iload_n (pc := 11) hx hb dX7_fewestFrom_11 rfl (lv_at hl 0 rfl) ?_
    refine lv_aload_n (pc := 12) hx hb dX7_fewestFrom_12 rfl (lv_at hl 1 rfl) ?_
    refine va_get (pc := 13) (D := D) (ci := 7) (v := .ref m1) (C := RX7) (T := TX7) (N := 2) hx hb hts hiX7 hown hK hP 0 rfl rfl 0 (by decide) wf11 (fun _ h9 => h9) rfl dX7_fewestFrom_13 ?_
    refine va_alen (pc := 16) (v := nI 984) hx hb hK hP 1 0 rfl rfl rfl dX7_fewestFrom_16 ?_
    refine rc_ge (pc := 17) (tgt := 29) hx hb (tI_nI (by omega)) (tI_nI (by omega)) dX7_fewestFrom_17 (by decide) (fun c17 => ?_) (fun c17 => ?_)
    · omega
    · refine lv_aload_n (pc := 20) hx hb dX7_fewestFrom_20 rfl (lv_at hl 1 rfl) ?_
      refine va_get (pc := 21) (D := D) (ci := 7) (v := .ref m1) (C := RX7) (T := TX7) (N := 2) hx hb hts hiX7 hown hK hP 0 rfl rfl 0 (by decide) wf11 (fun _ h9 => h9) rfl dX7_fewestFrom_21 ?_
      refine lv_iload_n (pc := 24) hx hb dX7_fewestFrom_24 rfl (lv_at hl 0 rfl) ?_
      refine ra_iald (pc := 25) (k := (k * 41) + h) (v := jI (M.1 ((k * 41) + h))) hx hb hK hP 1 0 rfl rfl (by omega) (by decide) rfl dX7_fewestFrom_25 ?_
      refine lv_goto (pc := 26) (tgt := 31) hx hb dX7_fewestFrom_26 (by decide) ?_
      exact hret 31 _ hP hS dX7_fewestFrom_31 rfl rfl ⟨rfl, rfl⟩
abbrev rmX7_lowered : Room := { frames := 2, cells := 0, slots := 0, locals := 46 }
set_option maxHeartbeats 4000000 in
set_option maxRecDepth 100000 in
theorem k_X7_lowered (l : Launch) (D : va_G) (cI cC cB cS : ClassId) (p0 p1 p2 p3 : Nat) (P : PL) (mm : Nat) (x : Nat) (h : Nat) (y : Nat) (hp : pOK P) (hmm : mm < 3) (hxc : x < pCells P) (hh : h ≤ 40) (hyc : y < pCells P) : CI l D (kT cI cC cB cS) yX7_lowered wsX7_lowered rmX7_lowered [.ref p0, .int (nI mm), .int (nI x), .int (nI h), .int (nI y)] (plW p0 p1 p2 p3 cI P) (fun r u => r = nI (lowS P mm x h y) ∧ u = plW p0 p1 p2 p3 cI P) := by
  refine ci_intro (by decide) rfl (Nat.le_of_ble_eq_true rfl) ?_
  intro p e s m args below meth c ls A QF hF hK hP hV hS hA hN hl hret
  obtain ⟨hx, hb, hml, hown, hts⟩ := id hF
  have hP : va_P D vwCl (plW p0 p1 p2 p3 cI P) s.heap := hP
  have hl : lv_has ls 5 [(0, .ref p0), (1, .int (nI mm)), (2, .int (nI x)), (3, .int (nI h)), (4, .int (nI y))] := hl
  have mk_max_s := hts (.static Lib.Math.max.name) (by decide +kernel)
  have mk_max_i := hts (.initialized "java/lang/Math") (by decide +kernel)
  have mk_max_c := hts (.code Lib.Math.max.name Lib.Math.max.code 2 (some .int)) (by decide +kernel)
  have mk_max_64 := hts (.methodLink RX7 64 Lib.Math.max.name) (by decide +kernel)
  have hcl := pCells_le hp
  refine lv_iload (pc := 0) hx hb dX7_lowered_0 (lv_at hl 4 rfl) ?_
  refine lv_iload_n (pc := 2) hx hb dX7_lowered_2 rfl (lv_at hl 2 rfl) ?_
  refine rc_ne (pc := 3) (tgt := 19) hx hb (tI_nI (by omega)) (tI_nI (by omega)) dX7_lowered_3 (by decide) (fun c3 => ?_) (fun c3 => ?_)
  · refine lv_aload_n (pc := 19) hx hb dX7_lowered_19 rfl (lv_at hl 0 rfl) ?_
    refine lv_iload (pc := 20) hx hb dX7_lowered_20 (lv_at hl 4 rfl) ?_
    refine ci_Vd (pc := 22) (r0 := jI (wayZ P y 3)) hF hN hK hP hV hS hA (k_X2_after l D cI cC cB cS p0 p1 p2 p3 P y hp hyc) (cwV 1 hts gX7_lowered_X2_after rfl rfl rfl (by decide +kernel) ⟨Nat.le_of_ble_eq_true rfl, Nat.le_of_ble_eq_true rfl⟩) [0, 1, 2, 3] rfl (by decide) 0 2 rfl rfl rfl hl.1 rfl (Nat.le_of_ble_eq_true rfl) dX7_lowered_22 ⟨Nat.le_refl _, Nat.le_refl _⟩ rfl (ws2 := plW p0 p1 p2 p3 cI P) rfl (fun H locs hP hS => ?_)
    have fq1 := wayZ_w hp (show y < pCells P from hyc) 3
    refine lv_iload_n (pc := 25) hx hb dX7_lowered_25 rfl (lv_at hl 2 rfl) ?_
    refine rc_ne (pc := 26) (tgt := 43) hx hb (jI_to (by omega)) (tI_nI (by omega)) dX7_lowered_26 (by decide) (fun c26 => ?_) (fun c26 => ?_)
    · refine lv_iload_n (pc := 43) hx hb dX7_lowered_43 rfl (lv_at hl 3 rfl) ?_
      exact hret 44 _ hP hS dX7_lowered_44 rfl rfl ⟨(by unfold lowS; (repeat' split) <;> first | omega | rfl), rfl⟩
    · refine lv_iconst (pc := 29) (v := nI 0) hx hb dX7_lowered_29 (by decide) ?_
      refine lv_iload_n (pc := 30) hx hb dX7_lowered_30 rfl (lv_at hl 3 rfl) ?_
      refine lv_aload_n (pc := 31) hx hb dX7_lowered_31 rfl (lv_at hl 0 rfl) ?_
      refine lv_iload_n (pc := 32) hx hb dX7_lowered_32 rfl (lv_at hl 1 rfl) ?_
      refine ci_Vd (pc := 33) (r0 := nI (takeA P mm)) hF hN hK hP hV hS hA (k_X2_takesAfter l D cI cC cB cS p0 p1 p2 p3 P mm hp hmm) (cwV 1 hts gX7_lowered_X2_takesAfter rfl rfl rfl (by decide +kernel) ⟨Nat.le_of_ble_eq_true rfl, Nat.le_of_ble_eq_true rfl⟩) [0, 1, 2, 3] rfl (by decide) 0 2 rfl rfl rfl hl.1 rfl (Nat.le_of_ble_eq_true rfl) dX7_lowered_33 ⟨Nat.le_refl _, Nat.le_refl _⟩ rfl (ws2 := plW p0 p1 p2 p3 cI P) rfl (fun H locs hP hS => ?_)
      have fq2 := takeA_le hp mm
      refine rz_isub (pc := 36) hx hb (jI_nat _) (jI_nat _) dX7_lowered_36 ?_
      refine va_mmax (pc := 37) hx hb (hml.trans hl.1.symm) hown mk_max_64 mk_max_s mk_max_i mk_max_c (Nat.le_of_ble_eq_true rfl) (Nat.le_of_ble_eq_true rfl) (Nat.le_refl _) (Nat.le_refl _) dX7_lowered_37 ?_
      refine r_top (jI_max (show nI 0 = jI 0 from jI_nat 0) rfl (by omega) (by omega)) ?_
      refine r_top (show _ = nI (h - takeA P mm) from (by rw [jI_nat]; congr 1; omega)) ?_
      refine lv_goto (pc := 40) (tgt := 44) hx hb dX7_lowered_40 (by decide) ?_
      exact hret 44 _ hP hS dX7_lowered_44 rfl rfl ⟨(by unfold lowS; (repeat' split) <;> first | omega | rfl), rfl⟩
  · refine lv_iconst (pc := 6) (v := nI 0) hx hb dX7_lowered_6 (by decide) ?_
    refine lv_iload_n (pc := 7) hx hb dX7_lowered_7 rfl (lv_at hl 3 rfl) ?_
    refine lv_aload_n (pc := 8) hx hb dX7_lowered_8 rfl (lv_at hl 0 rfl) ?_
    refine lv_iload_n (pc := 9) hx hb dX7_lowered_9 rfl (lv_at hl 1 rfl) ?_
    refine lv_iload_n (pc := 10) hx hb dX7_lowered_10 rfl (lv_at hl 3 rfl) ?_
    refine ci_Vd (pc := 11) (r0 := nI (takeS P mm h)) hF hN hK hP hV hS hA (k_X2_takes l D cI cC cB cS p0 p1 p2 p3 P mm h hp hmm (by omega)) (cwV 2 hts gX7_lowered_X2_takes rfl rfl rfl (by decide +kernel) ⟨Nat.le_of_ble_eq_true rfl, Nat.le_of_ble_eq_true rfl⟩) [0, 1, 2, 3] rfl (by decide) 0 2 rfl rfl rfl hl.1 rfl (Nat.le_of_ble_eq_true rfl) dX7_lowered_11 ⟨Nat.le_refl _, Nat.le_refl _⟩ rfl (ws2 := plW p0 p1 p2 p3 cI P) rfl (fun H locs hP hS => ?_)
    have fq3 := takeS_le hp mm h
    refine rz_isub (pc := 14) hx hb (jI_nat _) (jI_nat _) dX7_lowered_14 ?_
    refine va_mmax (pc := 15) hx hb (hml.trans hl.1.symm) hown mk_max_64 mk_max_s mk_max_i mk_max_c (Nat.le_of_ble_eq_true rfl) (Nat.le_of_ble_eq_true rfl) (Nat.le_refl _) (Nat.le_refl _) dX7_lowered_15 ?_
    refine r_top (jI_max (show nI 0 = jI 0 from jI_nat 0) rfl (by omega) (by omega)) ?_
    refine r_top (show _ = nI (h - takeS P mm h) from (by rw [jI_nat]; congr 1; omega)) ?_
    exact hret 18 _ hP hS dX7_lowered_18 rfl rfl ⟨(by unfold lowS; (repeat' split) <;> first | omega | rfl), rfl⟩
