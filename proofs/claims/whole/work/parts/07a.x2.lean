abbrev rmX2_cellCount : Room := { frames := 0, cells := 0, slots := 0, locals := 0 }
set_option maxHeartbeats 4000000 in
set_option maxRecDepth 100000 in
theorem k_X2_cellCount (l : Launch) (D : va_G) (cI cC cB cS : ClassId) (p0 p1 p2 p3 : Nat) (P : PL) : CI l D (kT cI cC cB cS) yX2_cellCount wsX2_cellCount rmX2_cellCount [.ref p0] (plW p0 p1 p2 p3 cI P) (fun r u => r = nI (pCells P) ∧ u = plW p0 p1 p2 p3 cI P) := by
  refine ci_intro (by decide) rfl (Nat.le_of_ble_eq_true rfl) ?_
  intro p e s m args below meth c ls A QF hF hK hP hV hS hA hN hl hret
  obtain ⟨hx, hb, hml, hown, hts⟩ := id hF
  have hP : va_P D vwCl (plW p0 p1 p2 p3 cI P) s.heap := hP
  have hl : lv_has ls 1 [(0, .ref p0)] := hl
  have wf21 := hts (.fieldLink RX2 21 "RemorseWall$Plan" "width" "I") (by decide +kernel)
  have wf25 := hts (.fieldLink RX2 25 "RemorseWall$Plan" "rows" "I") (by decide +kernel)
  have hiX2 : ∀ w ∈ u_ws RX2 TX2 7, w ∈ wsX2_cellCount := by decide +kernel
  refine lv_aload_n (pc := 0) hx hb dX2_cellCount_0 rfl (lv_at hl 0 rfl) ?_
  refine va_get (pc := 1) (D := D) (ci := 2) (v := .int (nI P.2.2.2.2.1)) (C := RX2) (T := TX2) (N := 7) hx hb hts hiX2 hown hK hP 0 rfl rfl 4 (by decide) wf25 (fun _ h9 => h9) rfl dX2_cellCount_1 ?_
  refine lv_aload_n (pc := 4) hx hb dX2_cellCount_4 rfl (lv_at hl 0 rfl) ?_
  refine va_get (pc := 5) (D := D) (ci := 2) (v := .int (nI P.2.2.2.1)) (C := RX2) (T := TX2) (N := 7) hx hb hts hiX2 hown hK hP 0 rfl rfl 3 (by decide) wf21 (fun _ h9 => h9) rfl dX2_cellCount_5 ?_
  refine rn_imul (pc := 8) hx hb dX2_cellCount_8 ?_
  exact hret 9 _ hP hS dX2_cellCount_9 rfl rfl ⟨rfl, rfl⟩
abbrev rmX2_cellsInRow : Room := { frames := 0, cells := 0, slots := 0, locals := 0 }
set_option maxHeartbeats 4000000 in
set_option maxRecDepth 100000 in
theorem k_X2_cellsInRow (l : Launch) (D : va_G) (cI cC cB cS : ClassId) (p0 p1 p2 p3 : Nat) (P : PL) : CI l D (kT cI cC cB cS) yX2_cellsInRow wsX2_cellsInRow rmX2_cellsInRow [.ref p0] (plW p0 p1 p2 p3 cI P) (fun r u => r = nI P.2.2.2.1 ∧ u = plW p0 p1 p2 p3 cI P) := by
  refine ci_intro (by decide) rfl (Nat.le_of_ble_eq_true rfl) ?_
  intro p e s m args below meth c ls A QF hF hK hP hV hS hA hN hl hret
  obtain ⟨hx, hb, hml, hown, hts⟩ := id hF
  have hP : va_P D vwCl (plW p0 p1 p2 p3 cI P) s.heap := hP
  have hl : lv_has ls 1 [(0, .ref p0)] := hl
  have wf21 := hts (.fieldLink RX2 21 "RemorseWall$Plan" "width" "I") (by decide +kernel)
  have hiX2 : ∀ w ∈ u_ws RX2 TX2 7, w ∈ wsX2_cellsInRow := by decide +kernel
  refine lv_aload_n (pc := 0) hx hb dX2_cellsInRow_0 rfl (lv_at hl 0 rfl) ?_
  refine va_get (pc := 1) (D := D) (ci := 2) (v := .int (nI P.2.2.2.1)) (C := RX2) (T := TX2) (N := 7) hx hb hts hiX2 hown hK hP 0 rfl rfl 3 (by decide) wf21 (fun _ h9 => h9) rfl dX2_cellsInRow_1 ?_
  exact hret 4 _ hP hS dX2_cellsInRow_4 rfl rfl ⟨rfl, rfl⟩
abbrev rmX2_rowCount : Room := { frames := 0, cells := 0, slots := 0, locals := 0 }
set_option maxHeartbeats 4000000 in
set_option maxRecDepth 100000 in
theorem k_X2_rowCount (l : Launch) (D : va_G) (cI cC cB cS : ClassId) (p0 p1 p2 p3 : Nat) (P : PL) : CI l D (kT cI cC cB cS) yX2_rowCount wsX2_rowCount rmX2_rowCount [.ref p0] (plW p0 p1 p2 p3 cI P) (fun r u => r = nI P.2.2.2.2.1 ∧ u = plW p0 p1 p2 p3 cI P) := by
  refine ci_intro (by decide) rfl (Nat.le_of_ble_eq_true rfl) ?_
  intro p e s m args below meth c ls A QF hF hK hP hV hS hA hN hl hret
  obtain ⟨hx, hb, hml, hown, hts⟩ := id hF
  have hP : va_P D vwCl (plW p0 p1 p2 p3 cI P) s.heap := hP
  have hl : lv_has ls 1 [(0, .ref p0)] := hl
  have wf25 := hts (.fieldLink RX2 25 "RemorseWall$Plan" "rows" "I") (by decide +kernel)
  have hiX2 : ∀ w ∈ u_ws RX2 TX2 7, w ∈ wsX2_rowCount := by decide +kernel
  refine lv_aload_n (pc := 0) hx hb dX2_rowCount_0 rfl (lv_at hl 0 rfl) ?_
  refine va_get (pc := 1) (D := D) (ci := 2) (v := .int (nI P.2.2.2.2.1)) (C := RX2) (T := TX2) (N := 7) hx hb hts hiX2 hown hK hP 0 rfl rfl 4 (by decide) wf25 (fun _ h9 => h9) rfl dX2_rowCount_1 ?_
  exact hret 4 _ hP hS dX2_rowCount_4 rfl rfl ⟨rfl, rfl⟩
abbrev rmX2_caseCount : Room := { frames := 0, cells := 0, slots := 0, locals := 0 }
set_option maxHeartbeats 4000000 in
set_option maxRecDepth 100000 in
theorem k_X2_caseCount (l : Launch) (D : va_G) (cI cC cB cS : ClassId) (p0 p1 p2 p3 : Nat) (P : PL) : CI l D (kT cI cC cB cS) yX2_caseCount wsX2_caseCount rmX2_caseCount [.ref p0] (plW p0 p1 p2 p3 cI P) (fun r u => r = nI P.2.2.2.2.2.1 ∧ u = plW p0 p1 p2 p3 cI P) := by
  refine ci_intro (by decide) rfl (Nat.le_of_ble_eq_true rfl) ?_
  intro p e s m args below meth c ls A QF hF hK hP hV hS hA hN hl hret
  obtain ⟨hx, hb, hml, hown, hts⟩ := id hF
  have hP : va_P D vwCl (plW p0 p1 p2 p3 cI P) s.heap := hP
  have hl : lv_has ls 1 [(0, .ref p0)] := hl
  have wf28 := hts (.fieldLink RX2 28 "RemorseWall$Plan" "caseCount" "I") (by decide +kernel)
  have hiX2 : ∀ w ∈ u_ws RX2 TX2 7, w ∈ wsX2_caseCount := by decide +kernel
  refine lv_aload_n (pc := 0) hx hb dX2_caseCount_0 rfl (lv_at hl 0 rfl) ?_
  refine va_get (pc := 1) (D := D) (ci := 2) (v := .int (nI P.2.2.2.2.2.1)) (C := RX2) (T := TX2) (N := 7) hx hb hts hiX2 hown hK hP 0 rfl rfl 5 (by decide) wf28 (fun _ h9 => h9) rfl dX2_caseCount_1 ?_
  exact hret 4 _ hP hS dX2_caseCount_4 rfl rfl ⟨rfl, rfl⟩
abbrev rmX2_maidCount : Room := { frames := 0, cells := 0, slots := 0, locals := 0 }
set_option maxHeartbeats 4000000 in
set_option maxRecDepth 100000 in
theorem k_X2_maidCount (l : Launch) (D : va_G) (cI cC cB cS : ClassId) (p0 p1 p2 p3 : Nat) (P : PL) : CI l D (kT cI cC cB cS) yX2_maidCount wsX2_maidCount rmX2_maidCount [.ref p0] (plW p0 p1 p2 p3 cI P) (fun r u => r = nI P.2.2.2.2.2.2 ∧ u = plW p0 p1 p2 p3 cI P) := by
  refine ci_intro (by decide) rfl (Nat.le_of_ble_eq_true rfl) ?_
  intro p e s m args below meth c ls A QF hF hK hP hV hS hA hN hl hret
  obtain ⟨hx, hb, hml, hown, hts⟩ := id hF
  have hP : va_P D vwCl (plW p0 p1 p2 p3 cI P) s.heap := hP
  have hl : lv_has ls 1 [(0, .ref p0)] := hl
  have wf31 := hts (.fieldLink RX2 31 "RemorseWall$Plan" "maidCount" "I") (by decide +kernel)
  have hiX2 : ∀ w ∈ u_ws RX2 TX2 7, w ∈ wsX2_maidCount := by decide +kernel
  refine lv_aload_n (pc := 0) hx hb dX2_maidCount_0 rfl (lv_at hl 0 rfl) ?_
  refine va_get (pc := 1) (D := D) (ci := 2) (v := .int (nI P.2.2.2.2.2.2)) (C := RX2) (T := TX2) (N := 7) hx hb hts hiX2 hown hK hP 0 rfl rfl 6 (by decide) wf31 (fun _ h9 => h9) rfl dX2_maidCount_1 ?_
  exact hret 4 _ hP hS dX2_maidCount_4 rfl rfl ⟨rfl, rfl⟩
abbrev rmX2_ofCase : Room := { frames := 0, cells := 0, slots := 0, locals := 0 }
set_option maxHeartbeats 4000000 in
set_option maxRecDepth 100000 in
theorem k_X2_ofCase (l : Launch) (D : va_G) (cI cC cB cS : ClassId) (p0 p1 p2 p3 : Nat) (P : PL) (k : Nat) (j : Nat) (hp : pOK P) (hk : k < 6) (hj : j < 4) : CI l D (kT cI cC cB cS) yX2_ofCase wsX2_ofCase rmX2_ofCase [.ref p0, .int (nI k), .int (nI j)] (plW p0 p1 p2 p3 cI P) (fun r u => r = nI (P.2.1 (k * 4 + j)) ∧ u = plW p0 p1 p2 p3 cI P) := by
  refine ci_intro (by decide) rfl (Nat.le_of_ble_eq_true rfl) ?_
  intro p e s m args below meth c ls A QF hF hK hP hV hS hA hN hl hret
  obtain ⟨hx, hb, hml, hown, hts⟩ := id hF
  have hP : va_P D vwCl (plW p0 p1 p2 p3 cI P) s.heap := hP
  have hl : lv_has ls 4 [(0, .ref p0), (1, .int (nI k)), (2, .int (nI j))] := hl
  have wf15 := hts (.fieldLink RX2 15 "RemorseWall$Plan" "cases" "[I") (by decide +kernel)
  have hiX2 : ∀ w ∈ u_ws RX2 TX2 7, w ∈ wsX2_ofCase := by decide +kernel
  refine lv_iload_n (pc := 0) hx hb dX2_ofCase_0 rfl (lv_at hl 1 rfl) ?_
  refine lv_iconst (pc := 1) (v := nI 4) hx hb dX2_ofCase_1 (by decide) ?_
  refine rn_imul (pc := 2) hx hb dX2_ofCase_2 ?_
  refine lv_iload_n (pc := 3) hx hb dX2_ofCase_3 rfl (lv_at hl 2 rfl) ?_
  refine rn_iadd (pc := 4) hx hb dX2_ofCase_4 ?_
  refine lv_istore_n (pc := 5) (lv' := [(3, .int (nI ((k * 4) + j))), (0, .ref p0), (1, .int (nI k)), (2, .int (nI j))]) hx hb dX2_ofCase_5 rfl hl (by decide) rfl (fun ls hl => ?_)
  refine lv_iload_n (pc := 6) hx hb dX2_ofCase_6 rfl (lv_at hl 0 rfl) ?_
  refine r0_lt (pc := 7) (tgt := 28) hx hb (tI_nI (by omega)) dX2_ofCase_7 (by decide) (fun c7 => ?_) (fun c7 => ?_)
  · omega
  · refine lv_iload_n (pc := 10) hx hb dX2_ofCase_10 rfl (lv_at hl 0 rfl) ?_
    refine lv_aload_n (pc := 11) hx hb dX2_ofCase_11 rfl (lv_at hl 1 rfl) ?_
    refine va_get (pc := 12) (D := D) (ci := 2) (v := .ref p2) (C := RX2) (T := TX2) (N := 7) hx hb hts hiX2 hown hK hP 0 rfl rfl 1 (by decide) wf15 (fun _ h9 => h9) rfl dX2_ofCase_12 ?_
    refine va_alen (pc := 15) (v := nI 24) hx hb hK hP 2 0 rfl rfl rfl dX2_ofCase_15 ?_
    refine rc_ge (pc := 16) (tgt := 28) hx hb (tI_nI (by omega)) (tI_nI (by omega)) dX2_ofCase_16 (by decide) (fun c16 => ?_) (fun c16 => ?_)
    · omega
    · refine lv_aload_n (pc := 19) hx hb dX2_ofCase_19 rfl (lv_at hl 1 rfl) ?_
      refine va_get (pc := 20) (D := D) (ci := 2) (v := .ref p2) (C := RX2) (T := TX2) (N := 7) hx hb hts hiX2 hown hK hP 0 rfl rfl 1 (by decide) wf15 (fun _ h9 => h9) rfl dX2_ofCase_20 ?_
      refine lv_iload_n (pc := 23) hx hb dX2_ofCase_23 rfl (lv_at hl 0 rfl) ?_
      refine ra_iald (pc := 24) (k := (k * 4) + j) (v := nI (P.2.1 ((k * 4) + j))) hx hb hK hP 2 0 rfl rfl (by omega) (by decide) rfl dX2_ofCase_24 ?_
      refine lv_goto (pc := 25) (tgt := 29) hx hb dX2_ofCase_25 (by decide) ?_
      exact hret 29 _ hP hS dX2_ofCase_29 rfl rfl ⟨rfl, rfl⟩
abbrev rmX2_ofMaid : Room := { frames := 0, cells := 0, slots := 0, locals := 0 }
set_option maxHeartbeats 4000000 in
set_option maxRecDepth 100000 in
theorem k_X2_ofMaid (l : Launch) (D : va_G) (cI cC cB cS : ClassId) (p0 p1 p2 p3 : Nat) (P : PL) (k : Nat) (j : Nat) (hp : pOK P) (hk : k < 3) (hj : j < 4) : CI l D (kT cI cC cB cS) yX2_ofMaid wsX2_ofMaid rmX2_ofMaid [.ref p0, .int (nI k), .int (nI j)] (plW p0 p1 p2 p3 cI P) (fun r u => r = nI (P.2.2.1 (k * 4 + j)) ∧ u = plW p0 p1 p2 p3 cI P) := by
  refine ci_intro (by decide) rfl (Nat.le_of_ble_eq_true rfl) ?_
  intro p e s m args below meth c ls A QF hF hK hP hV hS hA hN hl hret
  obtain ⟨hx, hb, hml, hown, hts⟩ := id hF
  have hP : va_P D vwCl (plW p0 p1 p2 p3 cI P) s.heap := hP
  have hl : lv_has ls 4 [(0, .ref p0), (1, .int (nI k)), (2, .int (nI j))] := hl
  have wf18 := hts (.fieldLink RX2 18 "RemorseWall$Plan" "maids" "[I") (by decide +kernel)
  have hiX2 : ∀ w ∈ u_ws RX2 TX2 7, w ∈ wsX2_ofMaid := by decide +kernel
  refine lv_iload_n (pc := 0) hx hb dX2_ofMaid_0 rfl (lv_at hl 1 rfl) ?_
  refine lv_iconst (pc := 1) (v := nI 4) hx hb dX2_ofMaid_1 (by decide) ?_
  refine rn_imul (pc := 2) hx hb dX2_ofMaid_2 ?_
  refine lv_iload_n (pc := 3) hx hb dX2_ofMaid_3 rfl (lv_at hl 2 rfl) ?_
  refine rn_iadd (pc := 4) hx hb dX2_ofMaid_4 ?_
  refine lv_istore_n (pc := 5) (lv' := [(3, .int (nI ((k * 4) + j))), (0, .ref p0), (1, .int (nI k)), (2, .int (nI j))]) hx hb dX2_ofMaid_5 rfl hl (by decide) rfl (fun ls hl => ?_)
  refine lv_iload_n (pc := 6) hx hb dX2_ofMaid_6 rfl (lv_at hl 0 rfl) ?_
  refine r0_lt (pc := 7) (tgt := 28) hx hb (tI_nI (by omega)) dX2_ofMaid_7 (by decide) (fun c7 => ?_) (fun c7 => ?_)
  · omega
  · refine lv_iload_n (pc := 10) hx hb dX2_ofMaid_10 rfl (lv_at hl 0 rfl) ?_
    refine lv_aload_n (pc := 11) hx hb dX2_ofMaid_11 rfl (lv_at hl 1 rfl) ?_
    refine va_get (pc := 12) (D := D) (ci := 2) (v := .ref p3) (C := RX2) (T := TX2) (N := 7) hx hb hts hiX2 hown hK hP 0 rfl rfl 2 (by decide) wf18 (fun _ h9 => h9) rfl dX2_ofMaid_12 ?_
    refine va_alen (pc := 15) (v := nI 12) hx hb hK hP 3 0 rfl rfl rfl dX2_ofMaid_15 ?_
    refine rc_ge (pc := 16) (tgt := 28) hx hb (tI_nI (by omega)) (tI_nI (by omega)) dX2_ofMaid_16 (by decide) (fun c16 => ?_) (fun c16 => ?_)
    · omega
    · refine lv_aload_n (pc := 19) hx hb dX2_ofMaid_19 rfl (lv_at hl 1 rfl) ?_
      refine va_get (pc := 20) (D := D) (ci := 2) (v := .ref p3) (C := RX2) (T := TX2) (N := 7) hx hb hts hiX2 hown hK hP 0 rfl rfl 2 (by decide) wf18 (fun _ h9 => h9) rfl dX2_ofMaid_20 ?_
      refine lv_iload_n (pc := 23) hx hb dX2_ofMaid_23 rfl (lv_at hl 0 rfl) ?_
      refine ra_iald (pc := 24) (k := (k * 4) + j) (v := nI (P.2.2.1 ((k * 4) + j))) hx hb hK hP 3 0 rfl rfl (by omega) (by decide) rfl dX2_ofMaid_24 ?_
      refine lv_goto (pc := 25) (tgt := 29) hx hb dX2_ofMaid_25 (by decide) ?_
      exact hret 29 _ hP hS dX2_ofMaid_29 rfl rfl ⟨rfl, rfl⟩
abbrev rmX2_wayFrom : Room := { frames := 0, cells := 0, slots := 0, locals := 0 }
set_option maxHeartbeats 4000000 in
set_option maxRecDepth 100000 in
theorem k_X2_wayFrom (l : Launch) (D : va_G) (cI cC cB cS : ClassId) (p0 p1 p2 p3 : Nat) (P : PL) (k : Nat) (j : Nat) (hp : pOK P) (hk : k < pCells P) (hj : j < 5) : CI l D (kT cI cC cB cS) yX2_wayFrom wsX2_wayFrom rmX2_wayFrom [.ref p0, .int (nI k), .int (nI j)] (plW p0 p1 p2 p3 cI P) (fun r u => r = jI (wayZ P k j) ∧ u = plW p0 p1 p2 p3 cI P) := by
  refine ci_intro (by decide) rfl (Nat.le_of_ble_eq_true rfl) ?_
  intro p e s m args below meth c ls A QF hF hK hP hV hS hA hN hl hret
  obtain ⟨hx, hb, hml, hown, hts⟩ := id hF
  have hP : va_P D vwCl (plW p0 p1 p2 p3 cI P) s.heap := hP
  have hl : lv_has ls 4 [(0, .ref p0), (1, .int (nI k)), (2, .int (nI j))] := hl
  have wf21 := hts (.fieldLink RX2 21 "RemorseWall$Plan" "width" "I") (by decide +kernel)
  have wf25 := hts (.fieldLink RX2 25 "RemorseWall$Plan" "rows" "I") (by decide +kernel)
  have hiX2 : ∀ w ∈ u_ws RX2 TX2 7, w ∈ wsX2_wayFrom := by decide +kernel
  obtain ⟨hp1, hp2, hp3, hp4, hp5, hp6, hp7⟩ := id hp
  have hc := pCells_le hp
  have hw := pWi_pos hk
  have hk2 : k < P.2.2.2.2.1 * P.2.2.2.1 := hk
  have hc2 : P.2.2.2.2.1 * P.2.2.2.1 ≤ 24 := hc
  have hm := Nat.mod_le k P.2.2.2.1
  have hcd : pCells P = P.2.2.2.2.1 * P.2.2.2.1 := rfl
  refine lv_aload_n (pc := 0) hx hb dX2_wayFrom_0 rfl (lv_at hl 0 rfl) ?_
  refine va_get (pc := 1) (D := D) (ci := 2) (v := .int (nI P.2.2.2.2.1)) (C := RX2) (T := TX2) (N := 7) hx hb hts hiX2 hown hK hP 0 rfl rfl 4 (by decide) wf25 (fun _ h9 => h9) rfl dX2_wayFrom_1 ?_
  refine lv_aload_n (pc := 4) hx hb dX2_wayFrom_4 rfl (lv_at hl 0 rfl) ?_
  refine va_get (pc := 5) (D := D) (ci := 2) (v := .int (nI P.2.2.2.1)) (C := RX2) (T := TX2) (N := 7) hx hb hts hiX2 hown hK hP 0 rfl rfl 3 (by decide) wf21 (fun _ h9 => h9) rfl dX2_wayFrom_5 ?_
  refine rn_imul (pc := 8) hx hb dX2_wayFrom_8 ?_
  refine lv_istore_n (pc := 9) (lv' := [(3, .int (nI (P.2.2.2.2.1 * P.2.2.2.1))), (0, .ref p0), (1, .int (nI k)), (2, .int (nI j))]) hx hb dX2_wayFrom_9 rfl hl (by decide) rfl (fun ls hl => ?_)
  refine lv_iload_n (pc := 10) hx hb dX2_wayFrom_10 rfl (lv_at hl 2 rfl) ?_
  refine r0_lt (pc := 11) (tgt := 27) hx hb (tI_nI (by omega)) dX2_wayFrom_11 (by decide) (fun c11 => ?_) (fun c11 => ?_)
  · omega
  · refine lv_iload_n (pc := 14) hx hb dX2_wayFrom_14 rfl (lv_at hl 2 rfl) ?_
    refine lv_iload_n (pc := 15) hx hb dX2_wayFrom_15 rfl (lv_at hl 0 rfl) ?_
    refine rc_ge (pc := 16) (tgt := 27) hx hb (tI_nI (by omega)) (tI_nI (by omega)) dX2_wayFrom_16 (by decide) (fun c16 => ?_) (fun c16 => ?_)
    · omega
    · refine lv_aload_n (pc := 19) hx hb dX2_wayFrom_19 rfl (lv_at hl 1 rfl) ?_
      refine va_get (pc := 20) (D := D) (ci := 2) (v := .int (nI P.2.2.2.1)) (C := RX2) (T := TX2) (N := 7) hx hb hts hiX2 hown hK hP 0 rfl rfl 3 (by decide) wf21 (fun _ h9 => h9) rfl dX2_wayFrom_20 ?_
      refine lv_iconst (pc := 23) (v := nI 1) hx hb dX2_wayFrom_23 (by decide) ?_
      refine rc_ge (pc := 24) (tgt := 29) hx hb (tI_nI (by omega)) (tI_nI (by omega)) dX2_wayFrom_24 (by decide) (fun c24 => ?_) (fun c24 => ?_)
      · refine lv_iload_n (pc := 29) hx hb dX2_wayFrom_29 rfl (lv_at hl 3 rfl) ?_
        have ex30 : (nI j).toInt = ((j : Nat) : Int) := (tI_nI (by omega))
        rcases (show ((j : Nat) : Int) < 0 ∨ 4 < ((j : Nat) : Int) ∨ ((j : Nat) : Int) = 0 ∨ ((j : Nat) : Int) = 1 ∨ ((j : Nat) : Int) = 2 ∨ ((j : Nat) : Int) = 3 ∨ ((j : Nat) : Int) = 4 by omega) with c30 | c30 | c30 | c30 | c30 | c30 | c30
        · omega
        · omega
        · refine lv_tableIn (pc := 30) (tgt := 64) hx hb dX2_wayFrom_30 (by rw [ex30]; omega) (by rw [ex30]; omega) (by rw [ex30, c30] <;> rfl) (by decide) ?_
          refine lv_iload_n (pc := 64) hx hb dX2_wayFrom_64 rfl (lv_at hl 2 rfl) ?_
          refine lv_aload_n (pc := 65) hx hb dX2_wayFrom_65 rfl (lv_at hl 1 rfl) ?_
          refine va_get (pc := 66) (D := D) (ci := 2) (v := .int (nI P.2.2.2.1)) (C := RX2) (T := TX2) (N := 7) hx hb hts hiX2 hown hK hP 0 rfl rfl 3 (by decide) wf21 (fun _ h9 => h9) rfl dX2_wayFrom_66 ?_
          refine rc_lt (pc := 69) (tgt := 81) hx hb (tI_nI (by omega)) (tI_nI (by omega)) dX2_wayFrom_69 (by decide) (fun c69 => ?_) (fun c69 => ?_)
          · refine lv_iconst (pc := 81) (v := jI (-1)) hx hb dX2_wayFrom_81 (by decide) ?_
            exact hret 82 _ hP hS dX2_wayFrom_82 rfl rfl ⟨(by unfold wayZ; (repeat' split) <;> first | omega | exact jI_nat _ | rfl), rfl⟩
          · refine lv_iload_n (pc := 72) hx hb dX2_wayFrom_72 rfl (lv_at hl 2 rfl) ?_
            refine lv_aload_n (pc := 73) hx hb dX2_wayFrom_73 rfl (lv_at hl 1 rfl) ?_
            refine va_get (pc := 74) (D := D) (ci := 2) (v := .int (nI P.2.2.2.1)) (C := RX2) (T := TX2) (N := 7) hx hb hts hiX2 hown hK hP 0 rfl rfl 3 (by decide) wf21 (fun _ h9 => h9) rfl dX2_wayFrom_74 ?_
            refine rn_isub (pc := 77) hx hb (by omega) dX2_wayFrom_77 ?_
            refine lv_goto (pc := 78) (tgt := 82) hx hb dX2_wayFrom_78 (by decide) ?_
            exact hret 82 _ hP hS dX2_wayFrom_82 rfl rfl ⟨(by unfold wayZ; (repeat' split) <;> first | omega | exact jI_nat _ | rfl), rfl⟩
        · refine lv_tableIn (pc := 30) (tgt := 83) hx hb dX2_wayFrom_30 (by rw [ex30]; omega) (by rw [ex30]; omega) (by rw [ex30, c30] <;> rfl) (by decide) ?_
          refine lv_iload_n (pc := 83) hx hb dX2_wayFrom_83 rfl (lv_at hl 2 rfl) ?_
          refine lv_aload_n (pc := 84) hx hb dX2_wayFrom_84 rfl (lv_at hl 1 rfl) ?_
          refine va_get (pc := 85) (D := D) (ci := 2) (v := .int (nI P.2.2.2.1)) (C := RX2) (T := TX2) (N := 7) hx hb hts hiX2 hown hK hP 0 rfl rfl 3 (by decide) wf21 (fun _ h9 => h9) rfl dX2_wayFrom_85 ?_
          refine rn_irem (pc := 88) hx hb (by omega) (by omega) dX2_wayFrom_88 ?_
          refine r0_le (pc := 89) (tgt := 98) hx hb (tI_nI (by omega)) dX2_wayFrom_89 (by decide) (fun c89 => ?_) (fun c89 => ?_)
          · refine lv_iconst (pc := 98) (v := jI (-1)) hx hb dX2_wayFrom_98 (by decide) ?_
            exact hret 99 _ hP hS dX2_wayFrom_99 rfl rfl ⟨(by unfold wayZ; (repeat' split) <;> first | omega | exact jI_nat _ | rfl), rfl⟩
          · refine lv_iload_n (pc := 92) hx hb dX2_wayFrom_92 rfl (lv_at hl 2 rfl) ?_
            refine lv_iconst (pc := 93) (v := nI 1) hx hb dX2_wayFrom_93 (by decide) ?_
            refine rn_isub (pc := 94) hx hb (by omega) dX2_wayFrom_94 ?_
            refine lv_goto (pc := 95) (tgt := 99) hx hb dX2_wayFrom_95 (by decide) ?_
            exact hret 99 _ hP hS dX2_wayFrom_99 rfl rfl ⟨(by unfold wayZ; (repeat' split) <;> first | omega | exact jI_nat _ | rfl), rfl⟩
        · refine lv_tableIn (pc := 30) (tgt := 100) hx hb dX2_wayFrom_30 (by rw [ex30]; omega) (by rw [ex30]; omega) (by rw [ex30, c30] <;> rfl) (by decide) ?_
          refine lv_iload_n (pc := 100) hx hb dX2_wayFrom_100 rfl (lv_at hl 2 rfl) ?_
          exact hret 101 _ hP hS dX2_wayFrom_101 rfl rfl ⟨(by unfold wayZ; (repeat' split) <;> first | omega | exact jI_nat _ | rfl), rfl⟩
        · refine lv_tableIn (pc := 30) (tgt := 102) hx hb dX2_wayFrom_30 (by rw [ex30]; omega) (by rw [ex30]; omega) (by rw [ex30, c30] <;> rfl) (by decide) ?_
          refine lv_iload_n (pc := 102) hx hb dX2_wayFrom_102 rfl (lv_at hl 2 rfl) ?_
          refine lv_aload_n (pc := 103) hx hb dX2_wayFrom_103 rfl (lv_at hl 1 rfl) ?_
          refine va_get (pc := 104) (D := D) (ci := 2) (v := .int (nI P.2.2.2.1)) (C := RX2) (T := TX2) (N := 7) hx hb hts hiX2 hown hK hP 0 rfl rfl 3 (by decide) wf21 (fun _ h9 => h9) rfl dX2_wayFrom_104 ?_
          refine rn_irem (pc := 107) hx hb (by omega) (by omega) dX2_wayFrom_107 ?_
          refine lv_aload_n (pc := 108) hx hb dX2_wayFrom_108 rfl (lv_at hl 1 rfl) ?_
          refine va_get (pc := 109) (D := D) (ci := 2) (v := .int (nI P.2.2.2.1)) (C := RX2) (T := TX2) (N := 7) hx hb hts hiX2 hown hK hP 0 rfl rfl 3 (by decide) wf21 (fun _ h9 => h9) rfl dX2_wayFrom_109 ?_
          refine lv_iconst (pc := 112) (v := nI 1) hx hb dX2_wayFrom_112 (by decide) ?_
          refine rn_isub (pc := 113) hx hb (by omega) dX2_wayFrom_113 ?_
          refine rc_ge (pc := 114) (tgt := 123) hx hb (tI_nI (by omega)) (tI_nI (by omega)) dX2_wayFrom_114 (by decide) (fun c114 => ?_) (fun c114 => ?_)
          · refine lv_iconst (pc := 123) (v := jI (-1)) hx hb dX2_wayFrom_123 (by decide) ?_
            exact hret 124 _ hP hS dX2_wayFrom_124 rfl rfl ⟨(by unfold wayZ; (repeat' split) <;> first | omega | exact jI_nat _ | rfl), rfl⟩
          · refine lv_iload_n (pc := 117) hx hb dX2_wayFrom_117 rfl (lv_at hl 2 rfl) ?_
            refine lv_iconst (pc := 118) (v := nI 1) hx hb dX2_wayFrom_118 (by decide) ?_
            refine rn_iadd (pc := 119) hx hb dX2_wayFrom_119 ?_
            refine lv_goto (pc := 120) (tgt := 124) hx hb dX2_wayFrom_120 (by decide) ?_
            exact hret 124 _ hP hS dX2_wayFrom_124 rfl rfl ⟨(by unfold wayZ; (repeat' split) <;> first | omega | exact jI_nat _ | rfl), rfl⟩
        · refine lv_tableIn (pc := 30) (tgt := 125) hx hb dX2_wayFrom_30 (by rw [ex30]; omega) (by rw [ex30]; omega) (by rw [ex30, c30] <;> rfl) (by decide) ?_
          refine lv_iload_n (pc := 125) hx hb dX2_wayFrom_125 rfl (lv_at hl 2 rfl) ?_
          refine lv_aload_n (pc := 126) hx hb dX2_wayFrom_126 rfl (lv_at hl 1 rfl) ?_
          refine va_get (pc := 127) (D := D) (ci := 2) (v := .int (nI P.2.2.2.1)) (C := RX2) (T := TX2) (N := 7) hx hb hts hiX2 hown hK hP 0 rfl rfl 3 (by decide) wf21 (fun _ h9 => h9) rfl dX2_wayFrom_127 ?_
          refine rn_iadd (pc := 130) hx hb dX2_wayFrom_130 ?_
          refine lv_iload_n (pc := 131) hx hb dX2_wayFrom_131 rfl (lv_at hl 0 rfl) ?_
          refine rc_ge (pc := 132) (tgt := 144) hx hb (tI_nI (by omega)) (tI_nI (by omega)) dX2_wayFrom_132 (by decide) (fun c132 => ?_) (fun c132 => ?_)
          · refine lv_iconst (pc := 144) (v := jI (-1)) hx hb dX2_wayFrom_144 (by decide) ?_
            exact hret 145 _ hP hS dX2_wayFrom_145 rfl rfl ⟨(by unfold wayZ; (repeat' split) <;> first | omega | exact jI_nat _ | rfl), rfl⟩
          · refine lv_iload_n (pc := 135) hx hb dX2_wayFrom_135 rfl (lv_at hl 2 rfl) ?_
            refine lv_aload_n (pc := 136) hx hb dX2_wayFrom_136 rfl (lv_at hl 1 rfl) ?_
            refine va_get (pc := 137) (D := D) (ci := 2) (v := .int (nI P.2.2.2.1)) (C := RX2) (T := TX2) (N := 7) hx hb hts hiX2 hown hK hP 0 rfl rfl 3 (by decide) wf21 (fun _ h9 => h9) rfl dX2_wayFrom_137 ?_
            refine rn_iadd (pc := 140) hx hb dX2_wayFrom_140 ?_
            refine lv_goto (pc := 141) (tgt := 145) hx hb dX2_wayFrom_141 (by decide) ?_
            exact hret 145 _ hP hS dX2_wayFrom_145 rfl rfl ⟨(by unfold wayZ; (repeat' split) <;> first | omega | exact jI_nat _ | rfl), rfl⟩
      · omega
abbrev rmX2_after : Room := { frames := 1, cells := 0, slots := 0, locals := 23 }
set_option maxHeartbeats 4000000 in
set_option maxRecDepth 100000 in
theorem k_X2_after (l : Launch) (D : va_G) (cI cC cB cS : ClassId) (p0 p1 p2 p3 : Nat) (P : PL) (k : Nat) (hp : pOK P) (hk : k < pCells P) : CI l D (kT cI cC cB cS) yX2_after wsX2_after rmX2_after [.ref p0, .int (nI k)] (plW p0 p1 p2 p3 cI P) (fun r u => r = jI (wayZ P k 3) ∧ u = plW p0 p1 p2 p3 cI P) := by
  refine ci_intro (by decide) rfl (Nat.le_of_ble_eq_true rfl) ?_
  intro p e s m args below meth c ls A QF hF hK hP hV hS hA hN hl hret
  obtain ⟨hx, hb, hml, hown, hts⟩ := id hF
  have hP : va_P D vwCl (plW p0 p1 p2 p3 cI P) s.heap := hP
  have hl : lv_has ls 2 [(0, .ref p0), (1, .int (nI k))] := hl
  have hc := pCells_le hp
  refine lv_aload_n (pc := 0) hx hb dX2_after_0 rfl (lv_at hl 0 rfl) ?_
  refine lv_iload_n (pc := 1) hx hb dX2_after_1 rfl (lv_at hl 1 rfl) ?_
  refine lv_iconst (pc := 2) (v := nI 3) hx hb dX2_after_2 (by decide) ?_
  refine ci_Vd (pc := 3) (r0 := jI (wayZ P k 3)) hF hN hK hP hV hS hA (k_X2_wayFrom l D cI cC cB cS p0 p1 p2 p3 P k 3 hp hk (by omega)) (cwV 2 hts gX2_after_X2_wayFrom rfl rfl rfl (by decide +kernel) ⟨Nat.le_of_ble_eq_true rfl, Nat.le_of_ble_eq_true rfl⟩) [0, 1, 2, 3] rfl (by decide) 0 2 rfl rfl rfl hl.1 rfl (Nat.le_of_ble_eq_true rfl) dX2_after_3 ⟨Nat.le_refl _, Nat.le_refl _⟩ rfl (ws2 := plW p0 p1 p2 p3 cI P) rfl (fun H locs hP hS => ?_)
  have fq1 := wayZ_w hp (show k < pCells P from hk) 3
  exact hret 6 _ hP hS dX2_after_6 rfl rfl ⟨rfl, rfl⟩
abbrev rmX2_reaches : Room := { frames := 1, cells := 0, slots := 0, locals := 23 }
set_option maxHeartbeats 4000000 in
set_option maxRecDepth 100000 in
theorem k_X2_reaches (l : Launch) (D : va_G) (cI cC cB cS : ClassId) (p0 p1 p2 p3 : Nat) (P : PL) (k : Nat) (x : Nat) (hp : pOK P) (hk : k < pCells P) (hxc : x < pCells P) : CI l D (kT cI cC cB cS) yX2_reaches wsX2_reaches rmX2_reaches [.ref p0, .int (nI k), .int (nI x)] (plW p0 p1 p2 p3 cI P) (fun r u => r = nI (if reach P k x then 1 else 0) ∧ u = plW p0 p1 p2 p3 cI P) := by
  refine ci_intro (by decide) rfl (Nat.le_of_ble_eq_true rfl) ?_
  intro p e s m args below meth c ls A QF hF hK hP hV hS hA hN hl hret
  obtain ⟨hx, hb, hml, hown, hts⟩ := id hF
  have hP : va_P D vwCl (plW p0 p1 p2 p3 cI P) s.heap := hP
  have hl : lv_has ls 4 [(0, .ref p0), (1, .int (nI k)), (2, .int (nI x))] := hl
  have hc := pCells_le hp
  refine lv_iconst (pc := 0) (v := nI 0) hx hb dX2_reaches_0 (by decide) ?_
  refine lv_istore_n (pc := 1) (lv' := [(3, .int (nI 0)), (0, .ref p0), (1, .int (nI k)), (2, .int (nI x))]) hx hb dX2_reaches_1 rfl hl (by decide) rfl (fun ls hl => ?_)
  refine lv_iload_n (pc := 2) hx hb dX2_reaches_2 rfl (lv_at hl 0 rfl) ?_
  refine lv_iconst (pc := 3) (v := nI 5) hx hb dX2_reaches_3 (by decide) ?_
  refine rc_ge (pc := 4) (tgt := 25) hx hb (tI_nI (by omega)) (tI_nI (by omega)) dX2_reaches_4 (by decide) (fun c4 => (by omega)) (fun c4 => ?_)
  refine lv_aload_n (pc := 7) hx hb dX2_reaches_7 rfl (lv_at hl 1 rfl) ?_
  refine lv_iload_n (pc := 8) hx hb dX2_reaches_8 rfl (lv_at hl 2 rfl) ?_
  refine lv_iload_n (pc := 9) hx hb dX2_reaches_9 rfl (lv_at hl 0 rfl) ?_
  refine ci_Vd (pc := 10) (r0 := jI (wayZ P k 0)) hF hN hK hP hV hS hA (k_X2_wayFrom l D cI cC cB cS p0 p1 p2 p3 P k 0 hp hk (by omega)) (cwV 2 hts gX2_reaches_X2_wayFrom rfl rfl rfl (by decide +kernel) ⟨Nat.le_of_ble_eq_true rfl, Nat.le_of_ble_eq_true rfl⟩) [0, 1, 2, 3] rfl (by decide) 0 2 rfl rfl rfl hl.1 rfl (Nat.le_of_ble_eq_true rfl) dX2_reaches_10 ⟨Nat.le_refl _, Nat.le_refl _⟩ rfl (ws2 := plW p0 p1 p2 p3 cI P) rfl (fun H locs hP hS => ?_)
  have fq1 := wayZ_w hp (show k < pCells P from hk) 0
  refine lv_iload_n (pc := 13) hx hb dX2_reaches_13 rfl (lv_at hl 3 rfl) ?_
  refine rc_ne (pc := 14) (tgt := 19) hx hb (jI_to (by omega)) (tI_nI (by omega)) dX2_reaches_14 (by decide) (fun c14 => ?_) (fun c14 => ?_)
  · refine lv_iinc (pc := 19) (v := nI 1) (lv' := [(3, .int (nI 1)), (0, .ref p0), (1, .int (nI k)), (2, .int (nI x))]) hx hb dX2_reaches_19 hl (k := 0) rfl (by decide) (by decide) rfl (fun ls hl => ?_)
    refine lv_goto (pc := 22) (tgt := 2) hx hb dX2_reaches_22 (by decide) ?_
    refine lv_iload_n (pc := 2) hx hb dX2_reaches_2 rfl (lv_at hl 0 rfl) ?_
    refine lv_iconst (pc := 3) (v := nI 5) hx hb dX2_reaches_3 (by decide) ?_
    refine rc_ge (pc := 4) (tgt := 25) hx hb (tI_nI (by omega)) (tI_nI (by omega)) dX2_reaches_4 (by decide) (fun c4 => (by omega)) (fun c4 => ?_)
    refine lv_aload_n (pc := 7) hx hb dX2_reaches_7 rfl (lv_at hl 1 rfl) ?_
    refine lv_iload_n (pc := 8) hx hb dX2_reaches_8 rfl (lv_at hl 2 rfl) ?_
    refine lv_iload_n (pc := 9) hx hb dX2_reaches_9 rfl (lv_at hl 0 rfl) ?_
    refine ci_Vd (pc := 10) (r0 := jI (wayZ P k 1)) hF hN hK hP hV hS hA (k_X2_wayFrom l D cI cC cB cS p0 p1 p2 p3 P k 1 hp hk (by omega)) (cwV 2 hts gX2_reaches_X2_wayFrom rfl rfl rfl (by decide +kernel) ⟨Nat.le_of_ble_eq_true rfl, Nat.le_of_ble_eq_true rfl⟩) [0, 1, 2, 3] rfl (by decide) 0 2 rfl rfl rfl hl.1 rfl (Nat.le_of_ble_eq_true rfl) dX2_reaches_10 ⟨Nat.le_refl _, Nat.le_refl _⟩ rfl (ws2 := plW p0 p1 p2 p3 cI P) rfl (fun H locs hP hS => ?_)
    have fq2 := wayZ_w hp (show k < pCells P from hk) 1
    refine lv_iload_n (pc := 13) hx hb dX2_reaches_13 rfl (lv_at hl 3 rfl) ?_
    refine rc_ne (pc := 14) (tgt := 19) hx hb (jI_to (by omega)) (tI_nI (by omega)) dX2_reaches_14 (by decide) (fun c14 => ?_) (fun c14 => ?_)
    · refine lv_iinc (pc := 19) (v := nI 2) (lv' := [(3, .int (nI 2)), (0, .ref p0), (1, .int (nI k)), (2, .int (nI x))]) hx hb dX2_reaches_19 hl (k := 0) rfl (by decide) (by decide) rfl (fun ls hl => ?_)
      refine lv_goto (pc := 22) (tgt := 2) hx hb dX2_reaches_22 (by decide) ?_
      refine lv_iload_n (pc := 2) hx hb dX2_reaches_2 rfl (lv_at hl 0 rfl) ?_
      refine lv_iconst (pc := 3) (v := nI 5) hx hb dX2_reaches_3 (by decide) ?_
      refine rc_ge (pc := 4) (tgt := 25) hx hb (tI_nI (by omega)) (tI_nI (by omega)) dX2_reaches_4 (by decide) (fun c4 => (by omega)) (fun c4 => ?_)
      refine lv_aload_n (pc := 7) hx hb dX2_reaches_7 rfl (lv_at hl 1 rfl) ?_
      refine lv_iload_n (pc := 8) hx hb dX2_reaches_8 rfl (lv_at hl 2 rfl) ?_
      refine lv_iload_n (pc := 9) hx hb dX2_reaches_9 rfl (lv_at hl 0 rfl) ?_
      refine ci_Vd (pc := 10) (r0 := jI (wayZ P k 2)) hF hN hK hP hV hS hA (k_X2_wayFrom l D cI cC cB cS p0 p1 p2 p3 P k 2 hp hk (by omega)) (cwV 2 hts gX2_reaches_X2_wayFrom rfl rfl rfl (by decide +kernel) ⟨Nat.le_of_ble_eq_true rfl, Nat.le_of_ble_eq_true rfl⟩) [0, 1, 2, 3] rfl (by decide) 0 2 rfl rfl rfl hl.1 rfl (Nat.le_of_ble_eq_true rfl) dX2_reaches_10 ⟨Nat.le_refl _, Nat.le_refl _⟩ rfl (ws2 := plW p0 p1 p2 p3 cI P) rfl (fun H locs hP hS => ?_)
      have fq3 := wayZ_w hp (show k < pCells P from hk) 2
      refine lv_iload_n (pc := 13) hx hb dX2_reaches_13 rfl (lv_at hl 3 rfl) ?_
      refine rc_ne (pc := 14) (tgt := 19) hx hb (jI_to (by omega)) (tI_nI (by omega)) dX2_reaches_14 (by decide) (fun c14 => ?_) (fun c14 => ?_)
      · refine lv_iinc (pc := 19) (v := nI 3) (lv' := [(3, .int (nI 3)), (0, .ref p0), (1, .int (nI k)), (2, .int (nI x))]) hx hb dX2_reaches_19 hl (k := 0) rfl (by decide) (by decide) rfl (fun ls hl => ?_)
        refine lv_goto (pc := 22) (tgt := 2) hx hb dX2_reaches_22 (by decide) ?_
        refine lv_iload_n (pc := 2) hx hb dX2_reaches_2 rfl (lv_at hl 0 rfl) ?_
        refine lv_iconst (pc := 3) (v := nI 5) hx hb dX2_reaches_3 (by decide) ?_
        refine rc_ge (pc := 4) (tgt := 25) hx hb (tI_nI (by omega)) (tI_nI (by omega)) dX2_reaches_4 (by decide) (fun c4 => (by omega)) (fun c4 => ?_)
        refine lv_aload_n (pc := 7) hx hb dX2_reaches_7 rfl (lv_at hl 1 rfl) ?_
        refine lv_iload_n (pc := 8) hx hb dX2_reaches_8 rfl (lv_at hl 2 rfl) ?_
        refine lv_iload_n (pc := 9) hx hb dX2_reaches_9 rfl (lv_at hl 0 rfl) ?_
        refine ci_Vd (pc := 10) (r0 := jI (wayZ P k 3)) hF hN hK hP hV hS hA (k_X2_wayFrom l D cI cC cB cS p0 p1 p2 p3 P k 3 hp hk (by omega)) (cwV 2 hts gX2_reaches_X2_wayFrom rfl rfl rfl (by decide +kernel) ⟨Nat.le_of_ble_eq_true rfl, Nat.le_of_ble_eq_true rfl⟩) [0, 1, 2, 3] rfl (by decide) 0 2 rfl rfl rfl hl.1 rfl (Nat.le_of_ble_eq_true rfl) dX2_reaches_10 ⟨Nat.le_refl _, Nat.le_refl _⟩ rfl (ws2 := plW p0 p1 p2 p3 cI P) rfl (fun H locs hP hS => ?_)
        have fq4 := wayZ_w hp (show k < pCells P from hk) 3
        refine lv_iload_n (pc := 13) hx hb dX2_reaches_13 rfl (lv_at hl 3 rfl) ?_
        refine rc_ne (pc := 14) (tgt := 19) hx hb (jI_to (by omega)) (tI_nI (by omega)) dX2_reaches_14 (by decide) (fun c14 => ?_) (fun c14 => ?_)
        · refine lv_iinc (pc := 19) (v := nI 4) (lv' := [(3, .int (nI 4)), (0, .ref p0), (1, .int (nI k)), (2, .int (nI x))]) hx hb dX2_reaches_19 hl (k := 0) rfl (by decide) (by decide) rfl (fun ls hl => ?_)
          refine lv_goto (pc := 22) (tgt := 2) hx hb dX2_reaches_22 (by decide) ?_
          refine lv_iload_n (pc := 2) hx hb dX2_reaches_2 rfl (lv_at hl 0 rfl) ?_
          refine lv_iconst (pc := 3) (v := nI 5) hx hb dX2_reaches_3 (by decide) ?_
          refine rc_ge (pc := 4) (tgt := 25) hx hb (tI_nI (by omega)) (tI_nI (by omega)) dX2_reaches_4 (by decide) (fun c4 => (by omega)) (fun c4 => ?_)
          refine lv_aload_n (pc := 7) hx hb dX2_reaches_7 rfl (lv_at hl 1 rfl) ?_
          refine lv_iload_n (pc := 8) hx hb dX2_reaches_8 rfl (lv_at hl 2 rfl) ?_
          refine lv_iload_n (pc := 9) hx hb dX2_reaches_9 rfl (lv_at hl 0 rfl) ?_
          refine ci_Vd (pc := 10) (r0 := jI (wayZ P k 4)) hF hN hK hP hV hS hA (k_X2_wayFrom l D cI cC cB cS p0 p1 p2 p3 P k 4 hp hk (by omega)) (cwV 2 hts gX2_reaches_X2_wayFrom rfl rfl rfl (by decide +kernel) ⟨Nat.le_of_ble_eq_true rfl, Nat.le_of_ble_eq_true rfl⟩) [0, 1, 2, 3] rfl (by decide) 0 2 rfl rfl rfl hl.1 rfl (Nat.le_of_ble_eq_true rfl) dX2_reaches_10 ⟨Nat.le_refl _, Nat.le_refl _⟩ rfl (ws2 := plW p0 p1 p2 p3 cI P) rfl (fun H locs hP hS => ?_)
          have fq5 := wayZ_w hp (show k < pCells P from hk) 4
          refine lv_iload_n (pc := 13) hx hb dX2_reaches_13 rfl (lv_at hl 3 rfl) ?_
          refine rc_ne (pc := 14) (tgt := 19) hx hb (jI_to (by omega)) (tI_nI (by omega)) dX2_reaches_14 (by decide) (fun c14 => ?_) (fun c14 => ?_)
          · refine lv_iinc (pc := 19) (v := nI 5) (lv' := [(3, .int (nI 5)), (0, .ref p0), (1, .int (nI k)), (2, .int (nI x))]) hx hb dX2_reaches_19 hl (k := 0) rfl (by decide) (by decide) rfl (fun ls hl => ?_)
            refine lv_goto (pc := 22) (tgt := 2) hx hb dX2_reaches_22 (by decide) ?_
            refine lv_iload_n (pc := 2) hx hb dX2_reaches_2 rfl (lv_at hl 0 rfl) ?_
            refine lv_iconst (pc := 3) (v := nI 5) hx hb dX2_reaches_3 (by decide) ?_
            refine rc_ge (pc := 4) (tgt := 25) hx hb (tI_nI (by omega)) (tI_nI (by omega)) dX2_reaches_4 (by decide) (fun c4 => ?_) (fun c4 => (by omega))
            refine lv_iconst (pc := 25) (v := nI 0) hx hb dX2_reaches_25 (by decide) ?_
            exact hret 26 _ hP hS dX2_reaches_26 rfl rfl ⟨(by have h9 : ¬ reach P k x := by { unfold reach; omega }; rw [if_neg h9]), rfl⟩
          · refine lv_iconst (pc := 17) (v := nI 1) hx hb dX2_reaches_17 (by decide) ?_
            exact hret 18 _ hP hS dX2_reaches_18 rfl rfl ⟨(by have h9 : reach P k x := by { unfold reach; omega }; rw [if_pos h9]), rfl⟩
        · refine lv_iconst (pc := 17) (v := nI 1) hx hb dX2_reaches_17 (by decide) ?_
          exact hret 18 _ hP hS dX2_reaches_18 rfl rfl ⟨(by have h9 : reach P k x := by { unfold reach; omega }; rw [if_pos h9]), rfl⟩
      · refine lv_iconst (pc := 17) (v := nI 1) hx hb dX2_reaches_17 (by decide) ?_
        exact hret 18 _ hP hS dX2_reaches_18 rfl rfl ⟨(by have h9 : reach P k x := by { unfold reach; omega }; rw [if_pos h9]), rfl⟩
    · refine lv_iconst (pc := 17) (v := nI 1) hx hb dX2_reaches_17 (by decide) ?_
      exact hret 18 _ hP hS dX2_reaches_18 rfl rfl ⟨(by have h9 : reach P k x := by { unfold reach; omega }; rw [if_pos h9]), rfl⟩
  · refine lv_iconst (pc := 17) (v := nI 1) hx hb dX2_reaches_17 (by decide) ?_
    exact hret 18 _ hP hS dX2_reaches_18 rfl rfl ⟨(by have h9 : reach P k x := by { unfold reach; omega }; rw [if_pos h9]), rfl⟩
abbrev rmX2_raisesOwn : Room := { frames := 1, cells := 0, slots := 0, locals := 23 }
set_option maxHeartbeats 4000000 in
set_option maxRecDepth 100000 in
theorem k_X2_raisesOwn (l : Launch) (D : va_G) (cI cC cB cS : ClassId) (p0 p1 p2 p3 : Nat) (P : PL) (k : Nat) (h : Nat) (hp : pOK P) (hk : k < 6) (hh : h < 1000) : CI l D (kT cI cC cB cS) yX2_raisesOwn wsX2_raisesOwn rmX2_raisesOwn [.ref p0, .int (nI k), .int (nI h)] (plW p0 p1 p2 p3 cI P) (fun r u => r = nI (raiseOwn P k h) ∧ u = plW p0 p1 p2 p3 cI P) := by
  refine ci_intro (by decide) rfl (Nat.le_of_ble_eq_true rfl) ?_
  intro p e s m args below meth c ls A QF hF hK hP hV hS hA hN hl hret
  obtain ⟨hx, hb, hml, hown, hts⟩ := id hF
  have hP : va_P D vwCl (plW p0 p1 p2 p3 cI P) s.heap := hP
  have hl : lv_has ls 4 [(0, .ref p0), (1, .int (nI k)), (2, .int (nI h))] := hl
  refine lv_aload_n (pc := 0) hx hb dX2_raisesOwn_0 rfl (lv_at hl 0 rfl) ?_
  refine lv_iload_n (pc := 1) hx hb dX2_raisesOwn_1 rfl (lv_at hl 1 rfl) ?_
  refine lv_iconst (pc := 2) (v := nI 2) hx hb dX2_raisesOwn_2 (by decide) ?_
  refine ci_Vd (pc := 3) (r0 := nI (P.2.1 (k * 4 + 2))) hF hN hK hP hV hS hA (k_X2_ofCase l D cI cC cB cS p0 p1 p2 p3 P k 2 hp hk (by omega)) (cwV 2 hts gX2_raisesOwn_X2_ofCase rfl rfl rfl (by decide +kernel) ⟨Nat.le_of_ble_eq_true rfl, Nat.le_of_ble_eq_true rfl⟩) [0, 1, 2, 3] rfl (by decide) 0 2 rfl rfl rfl hl.1 rfl (Nat.le_of_ble_eq_true rfl) dX2_raisesOwn_3 ⟨Nat.le_refl _, Nat.le_refl _⟩ rfl (ws2 := plW p0 p1 p2 p3 cI P) rfl (fun H locs hP hS => ?_)
  have fq1 := hp.2.1 (k * 4 + 2)
  refine lv_istore_n (pc := 6) (lv' := [(3, .int (nI (P.2.1 (k * 4 + 2)))), (0, .ref p0), (1, .int (nI k)), (2, .int (nI h))]) hx hb dX2_raisesOwn_6 rfl hl (by decide) rfl (fun ls hl => ?_)
  refine lv_aload_n (pc := 7) hx hb dX2_raisesOwn_7 rfl (lv_at hl 1 rfl) ?_
  refine lv_iload_n (pc := 8) hx hb dX2_raisesOwn_8 rfl (lv_at hl 2 rfl) ?_
  refine lv_iconst (pc := 9) (v := nI 0) hx hb dX2_raisesOwn_9 (by decide) ?_
  refine ci_Vd (pc := 10) (r0 := nI (P.2.1 (k * 4 + 0))) hF hN hK hP hV hS hA (k_X2_ofCase l D cI cC cB cS p0 p1 p2 p3 P k 0 hp hk (by omega)) (cwV 2 hts gX2_raisesOwn_X2_ofCase rfl rfl rfl (by decide +kernel) ⟨Nat.le_of_ble_eq_true rfl, Nat.le_of_ble_eq_true rfl⟩) [0, 1, 2, 3] rfl (by decide) 0 2 rfl rfl rfl hl.1 rfl (Nat.le_of_ble_eq_true rfl) dX2_raisesOwn_10 ⟨Nat.le_refl _, Nat.le_refl _⟩ rfl (ws2 := plW p0 p1 p2 p3 cI P) rfl (fun H locs hP hS => ?_)
  have fq2 := hp.2.1 (k * 4 + 0)
  have ex13 : (nI (P.2.1 (k * 4 + 0))).toInt = ((P.2.1 (k * 4 + 0) : Nat) : Int) := (tI_nI (by omega))
  rcases (show (((P.2.1 (k * 4 + 0) : Nat) : Int) ≠ 2 ∧ ((P.2.1 (k * 4 + 0) : Nat) : Int) ≠ 3) ∨ ((P.2.1 (k * 4 + 0) : Nat) : Int) = 2 ∨ ((P.2.1 (k * 4 + 0) : Nat) : Int) = 3 by omega) with c13 | c13 | c13
  · refine lv_lookup (pc := 13) (tgt := 57) hx hb dX2_raisesOwn_13 (by decide) (look_2 (by rw [ex13]; exact c13)) (by decide) ?_
    refine lv_iload_n (pc := 57) hx hb dX2_raisesOwn_57 rfl (lv_at hl 0 rfl) ?_
    exact hret 58 _ hP hS dX2_raisesOwn_58 rfl rfl ⟨(by unfold raiseOwn; (repeat' split) <;> first | omega | rfl), rfl⟩
  · refine lv_lookup (pc := 13) (tgt := 40) hx hb dX2_raisesOwn_13 (by decide) (by rw [ex13, c13] <;> rfl) (by decide) ?_
    refine lv_iconst (pc := 40) (v := nI 0) hx hb dX2_raisesOwn_40 (by decide) ?_
    exact hret 41 _ hP hS dX2_raisesOwn_41 rfl rfl ⟨(by unfold raiseOwn; (repeat' split) <;> first | omega | rfl), rfl⟩
  · refine lv_lookup (pc := 13) (tgt := 42) hx hb dX2_raisesOwn_13 (by decide) (by rw [ex13, c13] <;> rfl) (by decide) ?_
    refine lv_iload_n (pc := 42) hx hb dX2_raisesOwn_42 rfl (lv_at hl 3 rfl) ?_
    refine ci_SN (pc := 43) hF hN hK hP hV hS hA (k_X9_isHollow l D cI cC cB cS (nI h) ((h : Nat) : Int) (tI_nI (by omega))) ⟨va_cnB 1 hts ggX2_raisesOwn_X9_isHollow rfl rfl rfl (hN _ (List.mem_of_getElem? (i := 9) rfl)) (hts _ (by decide +kernel)) (by decide +kernel) ⟨Nat.le_of_ble_eq_true rfl, Nat.le_of_ble_eq_true rfl⟩, hts _ (by decide +kernel), trivial⟩ rfl hl.1 rfl (Nat.le_of_ble_eq_true rfl) dX2_raisesOwn_43 ⟨Nat.le_refl _, Nat.le_refl _⟩ rfl (fun H locs hP hS => ?_)
    refine rb_eq (pc := 46) (tgt := 55) hx hb dX2_raisesOwn_46 (by decide) (fun c46 => ?_) (fun c46 => ?_)
    · refine lv_iload_n (pc := 55) hx hb dX2_raisesOwn_55 rfl (lv_at hl 0 rfl) ?_
      exact hret 56 _ hP hS dX2_raisesOwn_56 rfl rfl ⟨(by unfold raiseOwn; (repeat' split) <;> first | omega | rfl), rfl⟩
    · refine lv_iconst (pc := 49) (v := nI 2) hx hb dX2_raisesOwn_49 (by decide) ?_
      refine lv_iload_n (pc := 50) hx hb dX2_raisesOwn_50 rfl (lv_at hl 0 rfl) ?_
      refine rn_imul (pc := 51) hx hb dX2_raisesOwn_51 ?_
      refine lv_goto (pc := 52) (tgt := 56) hx hb dX2_raisesOwn_52 (by decide) ?_
      exact hret 56 _ hP hS dX2_raisesOwn_56 rfl rfl ⟨(by unfold raiseOwn; (repeat' split) <;> first | omega | rfl), rfl⟩
