abbrev rmX10_lies : Room := { frames := 0, cells := 0, slots := 0, locals := 0 }
set_option maxHeartbeats 4000000 in
set_option maxRecDepth 100000 in
theorem k_X10_lies (l : Launch) (D : va_G) (cI cC cB cS : ClassId) (o : Nat) (ad : Nat → Nat) (P : PL) (I : RI) (ns : Nat → Nat) (nc : Nat → Nat) (nd : Nat → Nat) (ni : Nat → Nat) (v1 : Nat) (v2 : Nat) (v3 : Nat) (v4 : Nat) (hn3 : I.2.2.1 < 6) : CV l D (kT cI cC cB cS) yX10_lies wsX10_lies rmX10_lies [.ref o, .int (nI v1), .int (nI v2), .int (nI v3), .int (nI v4)] ([rmE o ad (pCells P) P.2.2.2.1 P.2.2.2.2.2.1 P.2.2.2.2.2.2 I, nE 6 (ad 16) cI ns, nE 6 (ad 17) cI nc, nE 6 (ad 18) cI nd, nE 6 (ad 19) cI ni]) (fun u => u = [rmE o ad (pCells P) P.2.2.2.1 P.2.2.2.2.2.1 P.2.2.2.2.2.2 (I.1, I.2.1, I.2.2.1 + 1, I.2.2.2.1, I.2.2.2.2.1, I.2.2.2.2.2.1, I.2.2.2.2.2.2.1, I.2.2.2.2.2.2.2.1, I.2.2.2.2.2.2.2.2.1, I.2.2.2.2.2.2.2.2.2.1, I.2.2.2.2.2.2.2.2.2.2.1, I.2.2.2.2.2.2.2.2.2.2.2), nE 6 (ad 16) cI (va_up ns I.2.2.1 v1), nE 6 (ad 17) cI (va_up nc I.2.2.1 v2), nE 6 (ad 18) cI (va_up nd I.2.2.1 v3), nE 6 (ad 19) cI (va_up ni I.2.2.1 v4)]) := by
  refine cv_intro (by decide) rfl (Nat.le_of_ble_eq_true rfl) ?_
  intro p e s m args below meth c ls A QF hF hK hP hV hS hA hN hl hret
  obtain ⟨hx, hb, hml, hown, hts⟩ := id hF
  have hP : va_P D vwCl ([rmE o ad (pCells P) P.2.2.2.1 P.2.2.2.2.2.1 P.2.2.2.2.2.2 I, nE 6 (ad 16) cI ns, nE 6 (ad 17) cI nc, nE 6 (ad 18) cI nd, nE 6 (ad 19) cI ni]) s.heap := hP
  have hl : lv_has ls 5 [(0, .ref o), (1, .int (nI v1)), (2, .int (nI v2)), (3, .int (nI v3)), (4, .int (nI v4))] := hl
  have wf37 := hts (.fieldLink RX10 37 "RemorseWallModel" "newSort" "[I") (by decide +kernel)
  have wf40 := hts (.fieldLink RX10 40 "RemorseWallModel" "newCell" "[I") (by decide +kernel)
  have wf43 := hts (.fieldLink RX10 43 "RemorseWallModel" "newDeep" "[I") (by decide +kernel)
  have wf46 := hts (.fieldLink RX10 46 "RemorseWallModel" "newSince" "[I") (by decide +kernel)
  have wf115 := hts (.fieldLink RX10 115 "RemorseWallModel" "newCases" "I") (by decide +kernel)
  have hiX10 : ∀ w ∈ u_ws RX10 TX10 44, w ∈ wsX10_lies := by decide +kernel
  refine lv_aload_n (pc := 0) hx hb dX10_lies_0 rfl (lv_at hl 0 rfl) ?_
  refine va_get (pc := 1) (D := D) (ci := 10) (v := .ref (ad 16)) (C := RX10) (T := TX10) (N := 44) hx hb hts hiX10 hown hK hP 0 rfl rfl 16 (by decide) wf37 (fun _ h9 => h9) rfl dX10_lies_1 ?_
  refine lv_aload_n (pc := 4) hx hb dX10_lies_4 rfl (lv_at hl 0 rfl) ?_
  refine va_get (pc := 5) (D := D) (ci := 10) (v := .int (nI I.2.2.1)) (C := RX10) (T := TX10) (N := 44) hx hb hts hiX10 hown hK hP 0 rfl rfl 15 (by decide) wf115 (fun _ h9 => h9) rfl dX10_lies_5 ?_
  refine lv_iload_n (pc := 8) hx hb dX10_lies_8 rfl (lv_at hl 1 rfl) ?_
  refine rn_iast (pc := 9) (f := ns) (k := I.2.2.1) (x := v1) (ws2 := [rmE o ad (pCells P) P.2.2.2.1 P.2.2.2.2.2.1 P.2.2.2.2.2.2 I, nE 6 (ad 16) cI (va_up ns I.2.2.1 v1), nE 6 (ad 17) cI nc, nE 6 (ad 18) cI nd, nE 6 (ad 19) cI ni]) hx hb hK hP hV hS 1 0 rfl rfl (by omega) (by decide) dX10_lies_9 rfl rfl (fun H locs hP hS => ?_)
  refine lv_aload_n (pc := 10) hx hb dX10_lies_10 rfl (lv_at hl 0 rfl) ?_
  refine va_get (pc := 11) (D := D) (ci := 10) (v := .ref (ad 17)) (C := RX10) (T := TX10) (N := 44) hx hb hts hiX10 hown hK hP 0 rfl rfl 17 (by decide) wf40 (fun _ h9 => h9) rfl dX10_lies_11 ?_
  refine lv_aload_n (pc := 14) hx hb dX10_lies_14 rfl (lv_at hl 0 rfl) ?_
  refine va_get (pc := 15) (D := D) (ci := 10) (v := .int (nI I.2.2.1)) (C := RX10) (T := TX10) (N := 44) hx hb hts hiX10 hown hK hP 0 rfl rfl 15 (by decide) wf115 (fun _ h9 => h9) rfl dX10_lies_15 ?_
  refine lv_iload_n (pc := 18) hx hb dX10_lies_18 rfl (lv_at hl 2 rfl) ?_
  refine rn_iast (pc := 19) (f := nc) (k := I.2.2.1) (x := v2) (ws2 := [rmE o ad (pCells P) P.2.2.2.1 P.2.2.2.2.2.1 P.2.2.2.2.2.2 I, nE 6 (ad 16) cI (va_up ns I.2.2.1 v1), nE 6 (ad 17) cI (va_up nc I.2.2.1 v2), nE 6 (ad 18) cI nd, nE 6 (ad 19) cI ni]) hx hb hK hP hV hS 2 0 rfl rfl (by omega) (by decide) dX10_lies_19 rfl rfl (fun H locs hP hS => ?_)
  refine lv_aload_n (pc := 20) hx hb dX10_lies_20 rfl (lv_at hl 0 rfl) ?_
  refine va_get (pc := 21) (D := D) (ci := 10) (v := .ref (ad 18)) (C := RX10) (T := TX10) (N := 44) hx hb hts hiX10 hown hK hP 0 rfl rfl 18 (by decide) wf43 (fun _ h9 => h9) rfl dX10_lies_21 ?_
  refine lv_aload_n (pc := 24) hx hb dX10_lies_24 rfl (lv_at hl 0 rfl) ?_
  refine va_get (pc := 25) (D := D) (ci := 10) (v := .int (nI I.2.2.1)) (C := RX10) (T := TX10) (N := 44) hx hb hts hiX10 hown hK hP 0 rfl rfl 15 (by decide) wf115 (fun _ h9 => h9) rfl dX10_lies_25 ?_
  refine lv_iload_n (pc := 28) hx hb dX10_lies_28 rfl (lv_at hl 3 rfl) ?_
  refine rn_iast (pc := 29) (f := nd) (k := I.2.2.1) (x := v3) (ws2 := [rmE o ad (pCells P) P.2.2.2.1 P.2.2.2.2.2.1 P.2.2.2.2.2.2 I, nE 6 (ad 16) cI (va_up ns I.2.2.1 v1), nE 6 (ad 17) cI (va_up nc I.2.2.1 v2), nE 6 (ad 18) cI (va_up nd I.2.2.1 v3), nE 6 (ad 19) cI ni]) hx hb hK hP hV hS 3 0 rfl rfl (by omega) (by decide) dX10_lies_29 rfl rfl (fun H locs hP hS => ?_)
  refine lv_aload_n (pc := 30) hx hb dX10_lies_30 rfl (lv_at hl 0 rfl) ?_
  refine va_get (pc := 31) (D := D) (ci := 10) (v := .ref (ad 19)) (C := RX10) (T := TX10) (N := 44) hx hb hts hiX10 hown hK hP 0 rfl rfl 19 (by decide) wf46 (fun _ h9 => h9) rfl dX10_lies_31 ?_
  refine lv_aload_n (pc := 34) hx hb dX10_lies_34 rfl (lv_at hl 0 rfl) ?_
  refine va_get (pc := 35) (D := D) (ci := 10) (v := .int (nI I.2.2.1)) (C := RX10) (T := TX10) (N := 44) hx hb hts hiX10 hown hK hP 0 rfl rfl 15 (by decide) wf115 (fun _ h9 => h9) rfl dX10_lies_35 ?_
  refine lv_iload (pc := 38) hx hb dX10_lies_38 (lv_at hl 4 rfl) ?_
  refine rn_iast (pc := 40) (f := ni) (k := I.2.2.1) (x := v4) (ws2 := [rmE o ad (pCells P) P.2.2.2.1 P.2.2.2.2.2.1 P.2.2.2.2.2.2 I, nE 6 (ad 16) cI (va_up ns I.2.2.1 v1), nE 6 (ad 17) cI (va_up nc I.2.2.1 v2), nE 6 (ad 18) cI (va_up nd I.2.2.1 v3), nE 6 (ad 19) cI (va_up ni I.2.2.1 v4)]) hx hb hK hP hV hS 4 0 rfl rfl (by omega) (by decide) dX10_lies_40 rfl rfl (fun H locs hP hS => ?_)
  refine lv_aload_n (pc := 41) hx hb dX10_lies_41 rfl (lv_at hl 0 rfl) ?_
  refine lv_dup (pc := 42) hx hb dX10_lies_42 rfl ?_
  refine va_get (pc := 43) (D := D) (ci := 10) (v := .int (nI I.2.2.1)) (C := RX10) (T := TX10) (N := 44) hx hb hts hiX10 hown hK hP 0 rfl rfl 15 (by decide) wf115 (fun _ h9 => h9) rfl dX10_lies_43 ?_
  refine lv_iconst (pc := 46) (v := nI 1) hx hb dX10_lies_46 (by decide) ?_
  refine rn_iadd (pc := 47) hx hb dX10_lies_47 ?_
  refine ra_put (pc := 48) (D := D) (ci := 10) (v := .int (nI (I.2.2.1 + 1))) (ty := .int) (C := RX10) (T := TX10) (N := 44) (ws2 := [rmE o ad (pCells P) P.2.2.2.1 P.2.2.2.2.2.1 P.2.2.2.2.2.2 (I.1, I.2.1, I.2.2.1 + 1, I.2.2.2.1, I.2.2.2.2.1, I.2.2.2.2.2.1, I.2.2.2.2.2.2.1, I.2.2.2.2.2.2.2.1, I.2.2.2.2.2.2.2.2.1, I.2.2.2.2.2.2.2.2.2.1, I.2.2.2.2.2.2.2.2.2.2.1, I.2.2.2.2.2.2.2.2.2.2.2), nE 6 (ad 16) cI (va_up ns I.2.2.1 v1), nE 6 (ad 17) cI (va_up nc I.2.2.1 v2), nE 6 (ad 18) cI (va_up nd I.2.2.1 v3), nE 6 (ad 19) cI (va_up ni I.2.2.1 v4)]) hx hb hts hiX10 tyX10 tyX10_ok nmX10 hown hK hP hV hS 0 rfl rfl 15 (by decide) wf115 (fun _ h9 => h9) rfl (by decide +kernel) rfl rfl (Nat.le_of_ble_eq_true rfl) dX10_lies_48 rfl rfl (fun H locs hP hS => ?_)
  exact hret 51 _ hP hS dX10_lies_51 rfl rfl
abbrev rmX10_comes : Room := { frames := 0, cells := 0, slots := 0, locals := 0 }
set_option maxHeartbeats 4000000 in
set_option maxRecDepth 100000 in
theorem k_X10_comes (l : Launch) (D : va_G) (cI cC cB cS : ClassId) (o : Nat) (ad : Nat → Nat) (P : PL) (I : RI) (nw : Nat → Nat) (nr : Nat → Nat) (nk : Nat → Nat) (na : Nat → Nat) (v1 : Nat) (v2 : Nat) (v3 : Nat) (v4 : Nat) (hn3 : I.2.2.2.1 < 3) : CV l D (kT cI cC cB cS) yX10_comes wsX10_comes rmX10_comes [.ref o, .int (nI v1), .int (nI v2), .int (nI v3), .int (nI v4)] ([rmE o ad (pCells P) P.2.2.2.1 P.2.2.2.2.2.1 P.2.2.2.2.2.2 I, nE 3 (ad 21) cI nw, nE 3 (ad 22) cI nr, nE 3 (ad 23) cI nk, nE 3 (ad 24) cI na]) (fun u => u = [rmE o ad (pCells P) P.2.2.2.1 P.2.2.2.2.2.1 P.2.2.2.2.2.2 (I.1, I.2.1, I.2.2.1, I.2.2.2.1 + 1, I.2.2.2.2.1, I.2.2.2.2.2.1, I.2.2.2.2.2.2.1, I.2.2.2.2.2.2.2.1, I.2.2.2.2.2.2.2.2.1, I.2.2.2.2.2.2.2.2.2.1, I.2.2.2.2.2.2.2.2.2.2.1, I.2.2.2.2.2.2.2.2.2.2.2), nE 3 (ad 21) cI (va_up nw I.2.2.2.1 v1), nE 3 (ad 22) cI (va_up nr I.2.2.2.1 v2), nE 3 (ad 23) cI (va_up nk I.2.2.2.1 v3), nE 3 (ad 24) cI (va_up na I.2.2.2.1 v4)]) := by
  refine cv_intro (by decide) rfl (Nat.le_of_ble_eq_true rfl) ?_
  intro p e s m args below meth c ls A QF hF hK hP hV hS hA hN hl hret
  obtain ⟨hx, hb, hml, hown, hts⟩ := id hF
  have hP : va_P D vwCl ([rmE o ad (pCells P) P.2.2.2.1 P.2.2.2.2.2.1 P.2.2.2.2.2.2 I, nE 3 (ad 21) cI nw, nE 3 (ad 22) cI nr, nE 3 (ad 23) cI nk, nE 3 (ad 24) cI na]) s.heap := hP
  have hl : lv_has ls 5 [(0, .ref o), (1, .int (nI v1)), (2, .int (nI v2)), (3, .int (nI v3)), (4, .int (nI v4))] := hl
  have wf49 := hts (.fieldLink RX10 49 "RemorseWallModel" "newWay" "[I") (by decide +kernel)
  have wf52 := hts (.fieldLink RX10 52 "RemorseWallModel" "newIron" "[I") (by decide +kernel)
  have wf55 := hts (.fieldLink RX10 55 "RemorseWallModel" "newStrokes" "[I") (by decide +kernel)
  have wf58 := hts (.fieldLink RX10 58 "RemorseWallModel" "newAt" "[I") (by decide +kernel)
  have wf118 := hts (.fieldLink RX10 118 "RemorseWallModel" "newMaids" "I") (by decide +kernel)
  have hiX10 : ∀ w ∈ u_ws RX10 TX10 44, w ∈ wsX10_comes := by decide +kernel
  refine lv_aload_n (pc := 0) hx hb dX10_comes_0 rfl (lv_at hl 0 rfl) ?_
  refine va_get (pc := 1) (D := D) (ci := 10) (v := .ref (ad 21)) (C := RX10) (T := TX10) (N := 44) hx hb hts hiX10 hown hK hP 0 rfl rfl 21 (by decide) wf49 (fun _ h9 => h9) rfl dX10_comes_1 ?_
  refine lv_aload_n (pc := 4) hx hb dX10_comes_4 rfl (lv_at hl 0 rfl) ?_
  refine va_get (pc := 5) (D := D) (ci := 10) (v := .int (nI I.2.2.2.1)) (C := RX10) (T := TX10) (N := 44) hx hb hts hiX10 hown hK hP 0 rfl rfl 20 (by decide) wf118 (fun _ h9 => h9) rfl dX10_comes_5 ?_
  refine lv_iload_n (pc := 8) hx hb dX10_comes_8 rfl (lv_at hl 1 rfl) ?_
  refine rn_iast (pc := 9) (f := nw) (k := I.2.2.2.1) (x := v1) (ws2 := [rmE o ad (pCells P) P.2.2.2.1 P.2.2.2.2.2.1 P.2.2.2.2.2.2 I, nE 3 (ad 21) cI (va_up nw I.2.2.2.1 v1), nE 3 (ad 22) cI nr, nE 3 (ad 23) cI nk, nE 3 (ad 24) cI na]) hx hb hK hP hV hS 1 0 rfl rfl (by omega) (by decide) dX10_comes_9 rfl rfl (fun H locs hP hS => ?_)
  refine lv_aload_n (pc := 10) hx hb dX10_comes_10 rfl (lv_at hl 0 rfl) ?_
  refine va_get (pc := 11) (D := D) (ci := 10) (v := .ref (ad 22)) (C := RX10) (T := TX10) (N := 44) hx hb hts hiX10 hown hK hP 0 rfl rfl 22 (by decide) wf52 (fun _ h9 => h9) rfl dX10_comes_11 ?_
  refine lv_aload_n (pc := 14) hx hb dX10_comes_14 rfl (lv_at hl 0 rfl) ?_
  refine va_get (pc := 15) (D := D) (ci := 10) (v := .int (nI I.2.2.2.1)) (C := RX10) (T := TX10) (N := 44) hx hb hts hiX10 hown hK hP 0 rfl rfl 20 (by decide) wf118 (fun _ h9 => h9) rfl dX10_comes_15 ?_
  refine lv_iload_n (pc := 18) hx hb dX10_comes_18 rfl (lv_at hl 2 rfl) ?_
  refine rn_iast (pc := 19) (f := nr) (k := I.2.2.2.1) (x := v2) (ws2 := [rmE o ad (pCells P) P.2.2.2.1 P.2.2.2.2.2.1 P.2.2.2.2.2.2 I, nE 3 (ad 21) cI (va_up nw I.2.2.2.1 v1), nE 3 (ad 22) cI (va_up nr I.2.2.2.1 v2), nE 3 (ad 23) cI nk, nE 3 (ad 24) cI na]) hx hb hK hP hV hS 2 0 rfl rfl (by omega) (by decide) dX10_comes_19 rfl rfl (fun H locs hP hS => ?_)
  refine lv_aload_n (pc := 20) hx hb dX10_comes_20 rfl (lv_at hl 0 rfl) ?_
  refine va_get (pc := 21) (D := D) (ci := 10) (v := .ref (ad 23)) (C := RX10) (T := TX10) (N := 44) hx hb hts hiX10 hown hK hP 0 rfl rfl 23 (by decide) wf55 (fun _ h9 => h9) rfl dX10_comes_21 ?_
  refine lv_aload_n (pc := 24) hx hb dX10_comes_24 rfl (lv_at hl 0 rfl) ?_
  refine va_get (pc := 25) (D := D) (ci := 10) (v := .int (nI I.2.2.2.1)) (C := RX10) (T := TX10) (N := 44) hx hb hts hiX10 hown hK hP 0 rfl rfl 20 (by decide) wf118 (fun _ h9 => h9) rfl dX10_comes_25 ?_
  refine lv_iload_n (pc := 28) hx hb dX10_comes_28 rfl (lv_at hl 3 rfl) ?_
  refine rn_iast (pc := 29) (f := nk) (k := I.2.2.2.1) (x := v3) (ws2 := [rmE o ad (pCells P) P.2.2.2.1 P.2.2.2.2.2.1 P.2.2.2.2.2.2 I, nE 3 (ad 21) cI (va_up nw I.2.2.2.1 v1), nE 3 (ad 22) cI (va_up nr I.2.2.2.1 v2), nE 3 (ad 23) cI (va_up nk I.2.2.2.1 v3), nE 3 (ad 24) cI na]) hx hb hK hP hV hS 3 0 rfl rfl (by omega) (by decide) dX10_comes_29 rfl rfl (fun H locs hP hS => ?_)
  refine lv_aload_n (pc := 30) hx hb dX10_comes_30 rfl (lv_at hl 0 rfl) ?_
  refine va_get (pc := 31) (D := D) (ci := 10) (v := .ref (ad 24)) (C := RX10) (T := TX10) (N := 44) hx hb hts hiX10 hown hK hP 0 rfl rfl 24 (by decide) wf58 (fun _ h9 => h9) rfl dX10_comes_31 ?_
  refine lv_aload_n (pc := 34) hx hb dX10_comes_34 rfl (lv_at hl 0 rfl) ?_
  refine va_get (pc := 35) (D := D) (ci := 10) (v := .int (nI I.2.2.2.1)) (C := RX10) (T := TX10) (N := 44) hx hb hts hiX10 hown hK hP 0 rfl rfl 20 (by decide) wf118 (fun _ h9 => h9) rfl dX10_comes_35 ?_
  refine lv_iload (pc := 38) hx hb dX10_comes_38 (lv_at hl 4 rfl) ?_
  refine rn_iast (pc := 40) (f := na) (k := I.2.2.2.1) (x := v4) (ws2 := [rmE o ad (pCells P) P.2.2.2.1 P.2.2.2.2.2.1 P.2.2.2.2.2.2 I, nE 3 (ad 21) cI (va_up nw I.2.2.2.1 v1), nE 3 (ad 22) cI (va_up nr I.2.2.2.1 v2), nE 3 (ad 23) cI (va_up nk I.2.2.2.1 v3), nE 3 (ad 24) cI (va_up na I.2.2.2.1 v4)]) hx hb hK hP hV hS 4 0 rfl rfl (by omega) (by decide) dX10_comes_40 rfl rfl (fun H locs hP hS => ?_)
  refine lv_aload_n (pc := 41) hx hb dX10_comes_41 rfl (lv_at hl 0 rfl) ?_
  refine lv_dup (pc := 42) hx hb dX10_comes_42 rfl ?_
  refine va_get (pc := 43) (D := D) (ci := 10) (v := .int (nI I.2.2.2.1)) (C := RX10) (T := TX10) (N := 44) hx hb hts hiX10 hown hK hP 0 rfl rfl 20 (by decide) wf118 (fun _ h9 => h9) rfl dX10_comes_43 ?_
  refine lv_iconst (pc := 46) (v := nI 1) hx hb dX10_comes_46 (by decide) ?_
  refine rn_iadd (pc := 47) hx hb dX10_comes_47 ?_
  refine ra_put (pc := 48) (D := D) (ci := 10) (v := .int (nI (I.2.2.2.1 + 1))) (ty := .int) (C := RX10) (T := TX10) (N := 44) (ws2 := [rmE o ad (pCells P) P.2.2.2.1 P.2.2.2.2.2.1 P.2.2.2.2.2.2 (I.1, I.2.1, I.2.2.1, I.2.2.2.1 + 1, I.2.2.2.2.1, I.2.2.2.2.2.1, I.2.2.2.2.2.2.1, I.2.2.2.2.2.2.2.1, I.2.2.2.2.2.2.2.2.1, I.2.2.2.2.2.2.2.2.2.1, I.2.2.2.2.2.2.2.2.2.2.1, I.2.2.2.2.2.2.2.2.2.2.2), nE 3 (ad 21) cI (va_up nw I.2.2.2.1 v1), nE 3 (ad 22) cI (va_up nr I.2.2.2.1 v2), nE 3 (ad 23) cI (va_up nk I.2.2.2.1 v3), nE 3 (ad 24) cI (va_up na I.2.2.2.1 v4)]) hx hb hts hiX10 tyX10 tyX10_ok nmX10 hown hK hP hV hS 0 rfl rfl 20 (by decide) wf118 (fun _ h9 => h9) rfl (by decide +kernel) rfl rfl (Nat.le_of_ble_eq_true rfl) dX10_comes_48 rfl rfl (fun H locs hP hS => ?_)
  exact hret 51 _ hP hS dX10_comes_51 rfl rfl
