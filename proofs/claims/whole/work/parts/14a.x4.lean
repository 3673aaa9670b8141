abbrev rmX4_noteIfBetter : Room := { frames := 1, cells := 0, slots := 0, locals := 40 }
set_option maxHeartbeats 4000000 in
set_option maxRecDepth 100000 in
theorem k_X4_noteIfBetter (l : Launch) (D : va_G) (cI cC cB cS : ClassId) (r0 r1 r2 : Nat) (R : RO) (b : Nat) (hr : rOK R) (hb1 : b ≤ 1000) : CV l D (kT cI cC cB cS) yX4_noteIfBetter wsX4_noteIfBetter rmX4_noteIfBetter [.ref r0, .int (nI b)] (roW r0 r1 r2 cI R) (fun u => u = roW r0 r1 r2 cI (noteS R b)) := by
  refine cv_intro (by decide) rfl (Nat.le_of_ble_eq_true rfl) ?_
  intro p e s m args below meth c ls A QF hF hK hP hV hS hA hN hl hret
  obtain ⟨hx, hb, hml, hown, hts⟩ := id hF
  have hP : va_P D vwCl (roW r0 r1 r2 cI R) s.heap := hP
  have hl : lv_has ls 2 [(0, .ref r0), (1, .int (nI b))] := hl
  have wf9 := hts (.fieldLink RX4 9 "RemorseWall$Rounds" "trying" "[I") (by decide +kernel)
  have wf15 := hts (.fieldLink RX4 15 "RemorseWall$Rounds" "best" "[I") (by decide +kernel)
  have wf18 := hts (.fieldLink RX4 18 "RemorseWall$Rounds" "least" "I") (by decide +kernel)
  have ac_n := hts (.native arraycopyName) (by decide +kernel)
  have ac_s := hts (.static arraycopyName) (by decide +kernel)
  have ac_i := hts (.initialized "java/lang/System") (by decide +kernel)
  have ac_69 := hts (.methodLink RX4 69 arraycopyName) (by decide +kernel)
  have hiX4 : ∀ w ∈ u_ws RX4 TX4 3, w ∈ wsX4_noteIfBetter := by decide +kernel
  have hr1 := hr.1
  have hr2 := hr.2
  refine lv_aload_n (pc := 0) hx hb dX4_noteIfBetter_0 rfl (lv_at hl 0 rfl) ?_
  refine va_get (pc := 1) (D := D) (ci := 4) (v := .int (jI R.2.2)) (C := RX4) (T := TX4) (N := 3) hx hb hts hiX4 hown hK hP 0 rfl rfl 2 (by decide) wf18 (fun _ h9 => h9) rfl dX4_noteIfBetter_1 ?_
  refine lv_bipush (pc := 4) (v := jI (-4)) hx hb dX4_noteIfBetter_4 (by decide) ?_
  refine rc_eq (pc := 6) (tgt := 17) hx hb (jI_to (by omega)) (jI_to (by omega)) dX4_noteIfBetter_6 (by decide) (fun c6 => ?_) (fun c6 => ?_)
  · refine lv_aload_n (pc := 17) hx hb dX4_noteIfBetter_17 rfl (lv_at hl 0 rfl) ?_
    refine lv_iload_n (pc := 18) hx hb dX4_noteIfBetter_18 rfl (lv_at hl 1 rfl) ?_
    refine ra_put (pc := 19) (D := D) (ci := 4) (v := .int (nI b)) (ty := .int) (C := RX4) (T := TX4) (N := 3) (ws2 := roW r0 r1 r2 cI (R.1, R.2.1, (b : Nat))) hx hb hts hiX4 tyX4 tyX4_ok nmX4 hown hK hP hV hS 0 rfl rfl 2 (by decide) wf18 (fun _ h9 => h9) rfl (by decide +kernel) rfl rfl (Nat.le_of_ble_eq_true rfl) dX4_noteIfBetter_19 rfl rfl (fun H locs hP hS => ?_)
    refine lv_aload_n (pc := 22) hx hb dX4_noteIfBetter_22 rfl (lv_at hl 0 rfl) ?_
    refine va_get (pc := 23) (D := D) (ci := 4) (v := .ref r1) (C := RX4) (T := TX4) (N := 3) hx hb hts hiX4 hown hK hP 0 rfl rfl 0 (by decide) wf9 (fun _ h9 => h9) rfl dX4_noteIfBetter_23 ?_
    refine lv_iconst (pc := 26) (v := nI 0) hx hb dX4_noteIfBetter_26 (by decide) ?_
    refine lv_aload_n (pc := 27) hx hb dX4_noteIfBetter_27 rfl (lv_at hl 0 rfl) ?_
    refine va_get (pc := 28) (D := D) (ci := 4) (v := .ref r2) (C := RX4) (T := TX4) (N := 3) hx hb hts hiX4 hown hK hP 0 rfl rfl 1 (by decide) wf15 (fun _ h9 => h9) rfl dX4_noteIfBetter_28 ?_
    refine lv_iconst (pc := 31) (v := nI 0) hx hb dX4_noteIfBetter_31 (by decide) ?_
    refine lv_iconst (pc := 32) (v := nI 5) hx hb dX4_noteIfBetter_32 (by decide) ?_
    refine ra_copy (pc := 33) (sp := 0) (dp := 0) (n := 5) (g2 := fun j => nI (R.1 j)) (ws2 := roW r0 r1 r2 cI (R.1, R.1, (b : Nat))) hx hb (hml.trans hl.1.symm) hown ac_69 ac_n ac_s ac_i hK hP hV hS 1 2 0 rfl rfl rfl (by omega) (by omega) (by decide) (by decide) (fun j hj => cpy_all hj) (Nat.le_of_ble_eq_true rfl) (Nat.le_of_ble_eq_true rfl) dX4_noteIfBetter_33 rfl rfl (fun H locs hP hS => ?_)
    exact hret 36 _ hP hS dX4_noteIfBetter_36 rfl (by unfold noteS; (repeat' split) <;> first | omega | rfl)
  · refine lv_iload_n (pc := 9) hx hb dX4_noteIfBetter_9 rfl (lv_at hl 1 rfl) ?_
    refine lv_aload_n (pc := 10) hx hb dX4_noteIfBetter_10 rfl (lv_at hl 0 rfl) ?_
    refine va_get (pc := 11) (D := D) (ci := 4) (v := .int (jI R.2.2)) (C := RX4) (T := TX4) (N := 3) hx hb hts hiX4 hown hK hP 0 rfl rfl 2 (by decide) wf18 (fun _ h9 => h9) rfl dX4_noteIfBetter_11 ?_
    refine rc_ge (pc := 14) (tgt := 36) hx hb (tI_nI (by omega)) (jI_to (by omega)) dX4_noteIfBetter_14 (by decide) (fun c14 => ?_) (fun c14 => ?_)
    · exact hret 36 _ hP hS dX4_noteIfBetter_36 rfl (by unfold noteS; (repeat' split) <;> first | omega | rfl)
    · refine lv_aload_n (pc := 17) hx hb dX4_noteIfBetter_17 rfl (lv_at hl 0 rfl) ?_
      refine lv_iload_n (pc := 18) hx hb dX4_noteIfBetter_18 rfl (lv_at hl 1 rfl) ?_
      refine ra_put (pc := 19) (D := D) (ci := 4) (v := .int (nI b)) (ty := .int) (C := RX4) (T := TX4) (N := 3) (ws2 := roW r0 r1 r2 cI (R.1, R.2.1, (b : Nat))) hx hb hts hiX4 tyX4 tyX4_ok nmX4 hown hK hP hV hS 0 rfl rfl 2 (by decide) wf18 (fun _ h9 => h9) rfl (by decide +kernel) rfl rfl (Nat.le_of_ble_eq_true rfl) dX4_noteIfBetter_19 rfl rfl (fun H locs hP hS => ?_)
      refine lv_aload_n (pc := 22) hx hb dX4_noteIfBetter_22 rfl (lv_at hl 0 rfl) ?_
      refine va_get (pc := 23) (D := D) (ci := 4) (v := .ref r1) (C := RX4) (T := TX4) (N := 3) hx hb hts hiX4 hown hK hP 0 rfl rfl 0 (by decide) wf9 (fun _ h9 => h9) rfl dX4_noteIfBetter_23 ?_
      refine lv_iconst (pc := 26) (v := nI 0) hx hb dX4_noteIfBetter_26 (by decide) ?_
      refine lv_aload_n (pc := 27) hx hb dX4_noteIfBetter_27 rfl (lv_at hl 0 rfl) ?_
      refine va_get (pc := 28) (D := D) (ci := 4) (v := .ref r2) (C := RX4) (T := TX4) (N := 3) hx hb hts hiX4 hown hK hP 0 rfl rfl 1 (by decide) wf15 (fun _ h9 => h9) rfl dX4_noteIfBetter_28 ?_
      refine lv_iconst (pc := 31) (v := nI 0) hx hb dX4_noteIfBetter_31 (by decide) ?_
      refine lv_iconst (pc := 32) (v := nI 5) hx hb dX4_noteIfBetter_32 (by decide) ?_
      refine ra_copy (pc := 33) (sp := 0) (dp := 0) (n := 5) (g2 := fun j => nI (R.1 j)) (ws2 := roW r0 r1 r2 cI (R.1, R.1, (b : Nat))) hx hb (hml.trans hl.1.symm) hown ac_69 ac_n ac_s ac_i hK hP hV hS 1 2 0 rfl rfl rfl (by omega) (by omega) (by decide) (by decide) (fun j hj => cpy_all hj) (Nat.le_of_ble_eq_true rfl) (Nat.le_of_ble_eq_true rfl) dX4_noteIfBetter_33 rfl rfl (fun H locs hP hS => ?_)
      exact hret 36 _ hP hS dX4_noteIfBetter_36 rfl (by unfold noteS; (repeat' split) <;> first | omega | rfl)
abbrev rmX4_cellOfStroke : Room := { frames := 0, cells := 0, slots := 0, locals := 0 }
set_option maxHeartbeats 4000000 in
set_option maxRecDepth 100000 in
theorem k_X4_cellOfStroke (l : Launch) (D : va_G) (cI cC cB cS : ClassId) (r0 r1 r2 : Nat) (R : RO) (k : Nat) (hk : k < 5) : CI l D (kT cI cC cB cS) yX4_cellOfStroke wsX4_cellOfStroke rmX4_cellOfStroke [.ref r0, .int (nI k)] (roW r0 r1 r2 cI R) (fun r u => r = nI (R.2.1 k) ∧ u = roW r0 r1 r2 cI R) := by
  refine ci_intro (by decide) rfl (Nat.le_of_ble_eq_true rfl) ?_
  intro p e s m args below meth c ls A QF hF hK hP hV hS hA hN hl hret
  obtain ⟨hx, hb, hml, hown, hts⟩ := id hF
  have hP : va_P D vwCl (roW r0 r1 r2 cI R) s.heap := hP
  have hl : lv_has ls 2 [(0, .ref r0), (1, .int (nI k))] := hl
  have wf15 := hts (.fieldLink RX4 15 "RemorseWall$Rounds" "best" "[I") (by decide +kernel)
  have hiX4 : ∀ w ∈ u_ws RX4 TX4 3, w ∈ wsX4_cellOfStroke := by decide +kernel
  refine lv_iload_n (pc := 0) hx hb dX4_cellOfStroke_0 rfl (lv_at hl 1 rfl) ?_
  refine r0_lt (pc := 1) (tgt := 22) hx hb (tI_nI (by omega)) dX4_cellOfStroke_1 (by decide) (fun c1 => ?_) (fun c1 => ?_)
  · omega
  · refine lv_iload_n (pc := 4) hx hb dX4_cellOfStroke_4 rfl (lv_at hl 1 rfl) ?_
    refine lv_aload_n (pc := 5) hx hb dX4_cellOfStroke_5 rfl (lv_at hl 0 rfl) ?_
    refine va_get (pc := 6) (D := D) (ci := 4) (v := .ref r2) (C := RX4) (T := TX4) (N := 3) hx hb hts hiX4 hown hK hP 0 rfl rfl 1 (by decide) wf15 (fun _ h9 => h9) rfl dX4_cellOfStroke_6 ?_
    refine va_alen (pc := 9) (v := nI 5) hx hb hK hP 2 0 rfl rfl rfl dX4_cellOfStroke_9 ?_
    refine rc_ge (pc := 10) (tgt := 22) hx hb (tI_nI (by omega)) (tI_nI (by omega)) dX4_cellOfStroke_10 (by decide) (fun c10 => ?_) (fun c10 => ?_)
    · omega
    · refine lv_aload_n (pc := 13) hx hb dX4_cellOfStroke_13 rfl (lv_at hl 0 rfl) ?_
      refine va_get (pc := 14) (D := D) (ci := 4) (v := .ref r2) (C := RX4) (T := TX4) (N := 3) hx hb hts hiX4 hown hK hP 0 rfl rfl 1 (by decide) wf15 (fun _ h9 => h9) rfl dX4_cellOfStroke_14 ?_
      refine lv_iload_n (pc := 17) hx hb dX4_cellOfStroke_17 rfl (lv_at hl 1 rfl) ?_
      refine ra_iald (pc := 18) (k := k) (v := nI (R.2.1 k)) hx hb hK hP 2 0 rfl rfl (by omega) (by decide) rfl dX4_cellOfStroke_18 ?_
      refine lv_goto (pc := 19) (tgt := 24) hx hb dX4_cellOfStroke_19 (by decide) ?_
      exact hret 24 _ hP hS dX4_cellOfStroke_24 rfl rfl ⟨rfl, rfl⟩
abbrev rmX4_tryFrom (d : Nat) : Room := { frames := 10 + d, cells := 0, slots := 0, locals := 200 + 60 * d }
