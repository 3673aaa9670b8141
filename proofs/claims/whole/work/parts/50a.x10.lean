abbrev rmX10_undo : Room := { frames := 1, cells := 0, slots := 0, locals := 23 }
set_option maxHeartbeats 4000000 in
set_option maxRecDepth 100000 in
theorem k_X10_undo (l : Launch) (D : va_G) (cI cC cB cS : ClassId) (o : Nat) (ad : Nat → Nat) (P : PL) (I : RI) (sl : Nat → Nat) (hac : I.2.2.2.2.1 ≤ 8) : CI l D (kT cI cC cB cS) yX10_undo wsX10_undo rmX10_undo [.ref o] ([rmE o ad (pCells P) P.2.2.2.1 P.2.2.2.2.2.1 P.2.2.2.2.2.2 I, nE 384 (ad 25) cI sl]) (fun r u => r = jI (zUndo I.2.2.2.2.1) ∧ u = [rmE o ad (pCells P) P.2.2.2.1 P.2.2.2.2.2.1 P.2.2.2.2.2.2 (I.1, I.2.1, I.2.2.1, I.2.2.2.1, I.2.2.2.2.1 - 1, I.2.2.2.2.2.1, I.2.2.2.2.2.2.1, I.2.2.2.2.2.2.2.1, I.2.2.2.2.2.2.2.2.1, I.2.2.2.2.2.2.2.2.2.1, I.2.2.2.2.2.2.2.2.2.2.1, I.2.2.2.2.2.2.2.2.2.2.2), nE 384 (ad 25) cI (if I.2.2.2.2.1 = 0 then sl else cpN sl (I.2.2.2.2.1 * 32) 0 32)]) := by
  refine ci_intro (by decide) rfl (Nat.le_of_ble_eq_true rfl) ?_
  intro p e s m args below meth c ls A QF hF hK hP hV hS hA hN hl hret
  obtain ⟨hx, hb, hml, hown, hts⟩ := id hF
  have hP : va_P D vwCl ([rmE o ad (pCells P) P.2.2.2.1 P.2.2.2.2.2.1 P.2.2.2.2.2.2 I, nE 384 (ad 25) cI sl]) s.heap := hP
  have hl : lv_has ls 1 [(0, .ref o)] := hl
  have wf194 := hts (.fieldLink RX10 194 "RemorseWallModel" "acts" "I") (by decide +kernel)
  have hiX10 : ∀ w ∈ u_ws RX10 TX10 44, w ∈ wsX10_undo := by decide +kernel
  refine lv_aload_n (pc := 0) hx hb dX10_undo_0 rfl (lv_at hl 0 rfl) ?_
  refine va_get (pc := 1) (D := D) (ci := 10) (v := .int (nI I.2.2.2.2.1)) (C := RX10) (T := TX10) (N := 44) hx hb hts hiX10 hown hK hP 0 rfl rfl 26 (by decide) wf194 (fun _ h9 => h9) rfl dX10_undo_1 ?_
  refine r0_ne (pc := 4) (tgt := 10) hx hb (tI_nI (by omega)) dX10_undo_4 (by decide) (fun c4 => ?_) (fun c4 => ?_)
  · refine lv_aload_n (pc := 10) hx hb dX10_undo_10 rfl (lv_at hl 0 rfl) ?_
    refine lv_aload_n (pc := 11) hx hb dX10_undo_11 rfl (lv_at hl 0 rfl) ?_
    refine va_get (pc := 12) (D := D) (ci := 10) (v := .int (nI I.2.2.2.2.1)) (C := RX10) (T := TX10) (N := 44) hx hb hts hiX10 hown hK hP 0 rfl rfl 26 (by decide) wf194 (fun _ h9 => h9) rfl dX10_undo_12 ?_
    refine lv_bipush (pc := 15) (v := nI 32) hx hb dX10_undo_15 (by decide) ?_
    refine rn_imul (pc := 17) hx hb dX10_undo_17 ?_
    refine lv_iconst (pc := 18) (v := nI 0) hx hb dX10_undo_18 (by decide) ?_
    refine cv_Vd (pc := 19) hF hN hK hP hV hS hA (k_X10_copies l D cI cC cB cS o ad P I sl (I.2.2.2.2.1 * 32) 0 (by omega) (by omega) (by omega)) (cwV 2 hts gX10_undo_X10_copies rfl rfl rfl (by decide +kernel) ⟨Nat.le_of_ble_eq_true rfl, Nat.le_of_ble_eq_true rfl⟩) [0, 1] rfl (by decide) 0 10 rfl rfl rfl hl.1 rfl (Nat.le_of_ble_eq_true rfl) dX10_undo_19 ⟨Nat.le_refl _, Nat.le_refl _⟩ rfl (ws2 := [rmE o ad (pCells P) P.2.2.2.1 P.2.2.2.2.2.1 P.2.2.2.2.2.2 I, nE 384 (ad 25) cI (cpN sl (I.2.2.2.2.1 * 32) 0 32)]) rfl (fun H locs hP hS => ?_)
    refine lv_aload_n (pc := 22) hx hb dX10_undo_22 rfl (lv_at hl 0 rfl) ?_
    refine lv_dup (pc := 23) hx hb dX10_undo_23 rfl ?_
    refine va_get (pc := 24) (D := D) (ci := 10) (v := .int (nI I.2.2.2.2.1)) (C := RX10) (T := TX10) (N := 44) hx hb hts hiX10 hown hK hP 0 rfl rfl 26 (by decide) wf194 (fun _ h9 => h9) rfl dX10_undo_24 ?_
    refine lv_iconst (pc := 27) (v := nI 1) hx hb dX10_undo_27 (by decide) ?_
    refine rn_isub (pc := 28) hx hb (by omega) dX10_undo_28 ?_
    refine ra_put (pc := 29) (D := D) (ci := 10) (v := .int (nI (I.2.2.2.2.1 - 1))) (ty := .int) (C := RX10) (T := TX10) (N := 44) (ws2 := [rmE o ad (pCells P) P.2.2.2.1 P.2.2.2.2.2.1 P.2.2.2.2.2.2 (I.1, I.2.1, I.2.2.1, I.2.2.2.1, I.2.2.2.2.1 - 1, I.2.2.2.2.2.1, I.2.2.2.2.2.2.1, I.2.2.2.2.2.2.2.1, I.2.2.2.2.2.2.2.2.1, I.2.2.2.2.2.2.2.2.2.1, I.2.2.2.2.2.2.2.2.2.2.1, I.2.2.2.2.2.2.2.2.2.2.2), nE 384 (ad 25) cI (cpN sl (I.2.2.2.2.1 * 32) 0 32)]) hx hb hts hiX10 tyX10 tyX10_ok nmX10 hown hK hP hV hS 0 rfl rfl 26 (by decide) wf194 (fun _ h9 => h9) rfl (by decide +kernel) rfl rfl (Nat.le_of_ble_eq_true rfl) dX10_undo_29 rfl rfl (fun H locs hP hS => ?_)
    refine lv_aload_n (pc := 32) hx hb dX10_undo_32 rfl (lv_at hl 0 rfl) ?_
    refine va_get (pc := 33) (D := D) (ci := 10) (v := .int (nI (I.2.2.2.2.1 - 1))) (C := RX10) (T := TX10) (N := 44) hx hb hts hiX10 hown hK hP 0 rfl rfl 26 (by decide) wf194 (fun _ h9 => h9) rfl dX10_undo_33 ?_
    exact hret 36 _ hP hS dX10_undo_36 rfl rfl ⟨(by unfold zUndo; rw [if_neg (by omega)]; exact jI_nat _), (by rw [if_neg (by omega)])⟩
  · refine lv_bipush (pc := 7) (v := jI (-2)) hx hb dX10_undo_7 (by decide) ?_
    exact hret 9 _ hP hS dX10_undo_9 rfl rfl ⟨(by unfold zUndo; rw [if_pos (by omega)]), (by rw [if_pos (by omega), show I.2.2.2.2.1 - 1 = I.2.2.2.2.1 by omega])⟩
abbrev rmX10_keep : Room := { frames := 1, cells := 0, slots := 0, locals := 23 }
set_option maxHeartbeats 4000000 in
set_option maxRecDepth 100000 in
theorem k_X10_keep (l : Launch) (D : va_G) (cI cC cB cS : ClassId) (o : Nat) (ad : Nat → Nat) (P : PL) (I : RI) (sl : Nat → Nat) (hkp : I.2.2.2.2.2.1 ≤ 2) : CI l D (kT cI cC cB cS) yX10_keep wsX10_keep rmX10_keep [.ref o] ([rmE o ad (pCells P) P.2.2.2.1 P.2.2.2.2.2.1 P.2.2.2.2.2.2 I, nE 384 (ad 25) cI sl]) (fun r u => r = jI (zKeep I.2.2.2.2.2.1) ∧ u = [rmE o ad (pCells P) P.2.2.2.1 P.2.2.2.2.2.1 P.2.2.2.2.2.2 (I.1, I.2.1, I.2.2.1, I.2.2.2.1, I.2.2.2.2.1, if I.2.2.2.2.2.1 = 2 then 2 else I.2.2.2.2.2.1 + 1, I.2.2.2.2.2.2.1, I.2.2.2.2.2.2.2.1, I.2.2.2.2.2.2.2.2.1, I.2.2.2.2.2.2.2.2.2.1, I.2.2.2.2.2.2.2.2.2.2.1, I.2.2.2.2.2.2.2.2.2.2.2), nE 384 (ad 25) cI (if I.2.2.2.2.2.1 = 2 then sl else cpN sl 0 ((9 + I.2.2.2.2.2.1) * 32) 32)]) := by
  refine ci_intro (by decide) rfl (Nat.le_of_ble_eq_true rfl) ?_
  intro p e s m args below meth c ls A QF hF hK hP hV hS hA hN hl hret
  obtain ⟨hx, hb, hml, hown, hts⟩ := id hF
  have hP : va_P D vwCl ([rmE o ad (pCells P) P.2.2.2.1 P.2.2.2.2.2.1 P.2.2.2.2.2.2 I, nE 384 (ad 25) cI sl]) s.heap := hP
  have hl : lv_has ls 1 [(0, .ref o)] := hl
  have wf197 := hts (.fieldLink RX10 197 "RemorseWallModel" "keeps" "I") (by decide +kernel)
  have hiX10 : ∀ w ∈ u_ws RX10 TX10 44, w ∈ wsX10_keep := by decide +kernel
  refine lv_aload_n (pc := 0) hx hb dX10_keep_0 rfl (lv_at hl 0 rfl) ?_
  refine va_get (pc := 1) (D := D) (ci := 10) (v := .int (nI I.2.2.2.2.2.1)) (C := RX10) (T := TX10) (N := 44) hx hb hts hiX10 hown hK hP 0 rfl rfl 27 (by decide) wf197 (fun _ h9 => h9) rfl dX10_keep_1 ?_
  refine lv_iconst (pc := 4) (v := nI 2) hx hb dX10_keep_4 (by decide) ?_
  refine rc_ne (pc := 5) (tgt := 11) hx hb (tI_nI (by omega)) (tI_nI (by omega)) dX10_keep_5 (by decide) (fun c5 => ?_) (fun c5 => ?_)
  · refine lv_aload_n (pc := 11) hx hb dX10_keep_11 rfl (lv_at hl 0 rfl) ?_
    refine lv_iconst (pc := 12) (v := nI 0) hx hb dX10_keep_12 (by decide) ?_
    refine lv_bipush (pc := 13) (v := nI 9) hx hb dX10_keep_13 (by decide) ?_
    refine lv_aload_n (pc := 15) hx hb dX10_keep_15 rfl (lv_at hl 0 rfl) ?_
    refine va_get (pc := 16) (D := D) (ci := 10) (v := .int (nI I.2.2.2.2.2.1)) (C := RX10) (T := TX10) (N := 44) hx hb hts hiX10 hown hK hP 0 rfl rfl 27 (by decide) wf197 (fun _ h9 => h9) rfl dX10_keep_16 ?_
    refine rn_iadd (pc := 19) hx hb dX10_keep_19 ?_
    refine lv_bipush (pc := 20) (v := nI 32) hx hb dX10_keep_20 (by decide) ?_
    refine rn_imul (pc := 22) hx hb dX10_keep_22 ?_
    refine cv_Vd (pc := 23) hF hN hK hP hV hS hA (k_X10_copies l D cI cC cB cS o ad P I sl 0 ((9 + I.2.2.2.2.2.1) * 32) (by omega) (by omega) (by omega)) (cwV 2 hts gX10_keep_X10_copies rfl rfl rfl (by decide +kernel) ⟨Nat.le_of_ble_eq_true rfl, Nat.le_of_ble_eq_true rfl⟩) [0, 1] rfl (by decide) 0 10 rfl rfl rfl hl.1 rfl (Nat.le_of_ble_eq_true rfl) dX10_keep_23 ⟨Nat.le_refl _, Nat.le_refl _⟩ rfl (ws2 := [rmE o ad (pCells P) P.2.2.2.1 P.2.2.2.2.2.1 P.2.2.2.2.2.2 I, nE 384 (ad 25) cI (cpN sl 0 ((9 + I.2.2.2.2.2.1) * 32) 32)]) rfl (fun H locs hP hS => ?_)
    refine lv_aload_n (pc := 26) hx hb dX10_keep_26 rfl (lv_at hl 0 rfl) ?_
    refine lv_dup (pc := 27) hx hb dX10_keep_27 rfl ?_
    refine va_get (pc := 28) (D := D) (ci := 10) (v := .int (nI I.2.2.2.2.2.1)) (C := RX10) (T := TX10) (N := 44) hx hb hts hiX10 hown hK hP 0 rfl rfl 27 (by decide) wf197 (fun _ h9 => h9) rfl dX10_keep_28 ?_
    refine lv_iconst (pc := 31) (v := nI 1) hx hb dX10_keep_31 (by decide) ?_
    refine rn_iadd (pc := 32) hx hb dX10_keep_32 ?_
    refine ra_put (pc := 33) (D := D) (ci := 10) (v := .int (nI (I.2.2.2.2.2.1 + 1))) (ty := .int) (C := RX10) (T := TX10) (N := 44) (ws2 := [rmE o ad (pCells P) P.2.2.2.1 P.2.2.2.2.2.1 P.2.2.2.2.2.2 (I.1, I.2.1, I.2.2.1, I.2.2.2.1, I.2.2.2.2.1, I.2.2.2.2.2.1 + 1, I.2.2.2.2.2.2.1, I.2.2.2.2.2.2.2.1, I.2.2.2.2.2.2.2.2.1, I.2.2.2.2.2.2.2.2.2.1, I.2.2.2.2.2.2.2.2.2.2.1, I.2.2.2.2.2.2.2.2.2.2.2), nE 384 (ad 25) cI (cpN sl 0 ((9 + I.2.2.2.2.2.1) * 32) 32)]) hx hb hts hiX10 tyX10 tyX10_ok nmX10 hown hK hP hV hS 0 rfl rfl 27 (by decide) wf197 (fun _ h9 => h9) rfl (by decide +kernel) rfl rfl (Nat.le_of_ble_eq_true rfl) dX10_keep_33 rfl rfl (fun H locs hP hS => ?_)
    refine lv_aload_n (pc := 36) hx hb dX10_keep_36 rfl (lv_at hl 0 rfl) ?_
    refine va_get (pc := 37) (D := D) (ci := 10) (v := .int (nI (I.2.2.2.2.2.1 + 1))) (C := RX10) (T := TX10) (N := 44) hx hb hts hiX10 hown hK hP 0 rfl rfl 27 (by decide) wf197 (fun _ h9 => h9) rfl dX10_keep_37 ?_
    exact hret 40 _ hP hS dX10_keep_40 rfl rfl ⟨(by unfold zKeep; rw [if_neg (by omega)]; exact jI_nat _), (by have h9 : ¬ I.2.2.2.2.2.1 = 2 := (by omega); simp only [if_neg h9])⟩
  · refine lv_bipush (pc := 8) (v := jI (-3)) hx hb dX10_keep_8 (by decide) ?_
    exact hret 10 _ hP hS dX10_keep_10 rfl rfl ⟨(by unfold zKeep; rw [if_pos (by omega)]), (by have h9 : I.2.2.2.2.2.1 = 2 := (by omega); simp only [if_pos h9]; rw [show (2 : Nat) = I.2.2.2.2.2.1 from h9.symm])⟩
abbrev rmX10_back : Room := { frames := 1, cells := 0, slots := 0, locals := 23 }
set_option maxHeartbeats 4000000 in
set_option maxRecDepth 100000 in
theorem k_X10_back (l : Launch) (D : va_G) (cI cC cB cS : ClassId) (o : Nat) (ad : Nat → Nat) (P : PL) (I : RI) (sl : Nat → Nat) (hkp : I.2.2.2.2.2.1 ≤ 2) : CI l D (kT cI cC cB cS) yX10_back wsX10_back rmX10_back [.ref o] ([rmE o ad (pCells P) P.2.2.2.1 P.2.2.2.2.2.1 P.2.2.2.2.2.2 I, nE 384 (ad 25) cI sl]) (fun r u => r = jI (zUndo I.2.2.2.2.2.1) ∧ u = [rmE o ad (pCells P) P.2.2.2.1 P.2.2.2.2.2.1 P.2.2.2.2.2.2 (I.1, I.2.1, I.2.2.1, I.2.2.2.1, if I.2.2.2.2.2.1 = 0 then I.2.2.2.2.1 else 0, I.2.2.2.2.2.1 - 1, I.2.2.2.2.2.2.1, I.2.2.2.2.2.2.2.1, I.2.2.2.2.2.2.2.2.1, I.2.2.2.2.2.2.2.2.2.1, I.2.2.2.2.2.2.2.2.2.2.1, I.2.2.2.2.2.2.2.2.2.2.2), nE 384 (ad 25) cI (if I.2.2.2.2.2.1 = 0 then sl else cpN sl ((9 + (I.2.2.2.2.2.1 - 1)) * 32) 0 32)]) := by
  refine ci_intro (by decide) rfl (Nat.le_of_ble_eq_true rfl) ?_
  intro p e s m args below meth c ls A QF hF hK hP hV hS hA hN hl hret
  obtain ⟨hx, hb, hml, hown, hts⟩ := id hF
  have hP : va_P D vwCl ([rmE o ad (pCells P) P.2.2.2.1 P.2.2.2.2.2.1 P.2.2.2.2.2.2 I, nE 384 (ad 25) cI sl]) s.heap := hP
  have hl : lv_has ls 1 [(0, .ref o)] := hl
  have wf194 := hts (.fieldLink RX10 194 "RemorseWallModel" "acts" "I") (by decide +kernel)
  have wf197 := hts (.fieldLink RX10 197 "RemorseWallModel" "keeps" "I") (by decide +kernel)
  have hiX10 : ∀ w ∈ u_ws RX10 TX10 44, w ∈ wsX10_back := by decide +kernel
  refine lv_aload_n (pc := 0) hx hb dX10_back_0 rfl (lv_at hl 0 rfl) ?_
  refine va_get (pc := 1) (D := D) (ci := 10) (v := .int (nI I.2.2.2.2.2.1)) (C := RX10) (T := TX10) (N := 44) hx hb hts hiX10 hown hK hP 0 rfl rfl 27 (by decide) wf197 (fun _ h9 => h9) rfl dX10_back_1 ?_
  refine r0_ne (pc := 4) (tgt := 10) hx hb (tI_nI (by omega)) dX10_back_4 (by decide) (fun c4 => ?_) (fun c4 => ?_)
  · refine lv_aload_n (pc := 10) hx hb dX10_back_10 rfl (lv_at hl 0 rfl) ?_
    refine lv_dup (pc := 11) hx hb dX10_back_11 rfl ?_
    refine va_get (pc := 12) (D := D) (ci := 10) (v := .int (nI I.2.2.2.2.2.1)) (C := RX10) (T := TX10) (N := 44) hx hb hts hiX10 hown hK hP 0 rfl rfl 27 (by decide) wf197 (fun _ h9 => h9) rfl dX10_back_12 ?_
    refine lv_iconst (pc := 15) (v := nI 1) hx hb dX10_back_15 (by decide) ?_
    refine rn_isub (pc := 16) hx hb (by omega) dX10_back_16 ?_
    refine ra_put (pc := 17) (D := D) (ci := 10) (v := .int (nI (I.2.2.2.2.2.1 - 1))) (ty := .int) (C := RX10) (T := TX10) (N := 44) (ws2 := [rmE o ad (pCells P) P.2.2.2.1 P.2.2.2.2.2.1 P.2.2.2.2.2.2 (I.1, I.2.1, I.2.2.1, I.2.2.2.1, I.2.2.2.2.1, I.2.2.2.2.2.1 - 1, I.2.2.2.2.2.2.1, I.2.2.2.2.2.2.2.1, I.2.2.2.2.2.2.2.2.1, I.2.2.2.2.2.2.2.2.2.1, I.2.2.2.2.2.2.2.2.2.2.1, I.2.2.2.2.2.2.2.2.2.2.2), nE 384 (ad 25) cI sl]) hx hb hts hiX10 tyX10 tyX10_ok nmX10 hown hK hP hV hS 0 rfl rfl 27 (by decide) wf197 (fun _ h9 => h9) rfl (by decide +kernel) rfl rfl (Nat.le_of_ble_eq_true rfl) dX10_back_17 rfl rfl (fun H locs hP hS => ?_)
    refine lv_aload_n (pc := 20) hx hb dX10_back_20 rfl (lv_at hl 0 rfl) ?_
    refine lv_bipush (pc := 21) (v := nI 9) hx hb dX10_back_21 (by decide) ?_
    refine lv_aload_n (pc := 23) hx hb dX10_back_23 rfl (lv_at hl 0 rfl) ?_
    refine va_get (pc := 24) (D := D) (ci := 10) (v := .int (nI (I.2.2.2.2.2.1 - 1))) (C := RX10) (T := TX10) (N := 44) hx hb hts hiX10 hown hK hP 0 rfl rfl 27 (by decide) wf197 (fun _ h9 => h9) rfl dX10_back_24 ?_
    refine rn_iadd (pc := 27) hx hb dX10_back_27 ?_
    refine lv_bipush (pc := 28) (v := nI 32) hx hb dX10_back_28 (by decide) ?_
    refine rn_imul (pc := 30) hx hb dX10_back_30 ?_
    refine lv_iconst (pc := 31) (v := nI 0) hx hb dX10_back_31 (by decide) ?_
    refine cv_Vd (pc := 32) hF hN hK hP hV hS hA (k_X10_copies l D cI cC cB cS o ad P (I.1, I.2.1, I.2.2.1, I.2.2.2.1, I.2.2.2.2.1, I.2.2.2.2.2.1 - 1, I.2.2.2.2.2.2.1, I.2.2.2.2.2.2.2.1, I.2.2.2.2.2.2.2.2.1, I.2.2.2.2.2.2.2.2.2.1, I.2.2.2.2.2.2.2.2.2.2.1, I.2.2.2.2.2.2.2.2.2.2.2) sl ((9 + (I.2.2.2.2.2.1 - 1)) * 32) 0 (by omega) (by omega) (by omega)) (cwV 2 hts gX10_back_X10_copies rfl rfl rfl (by decide +kernel) ⟨Nat.le_of_ble_eq_true rfl, Nat.le_of_ble_eq_true rfl⟩) [0, 1] rfl (by decide) 0 10 rfl rfl rfl hl.1 rfl (Nat.le_of_ble_eq_true rfl) dX10_back_32 ⟨Nat.le_refl _, Nat.le_refl _⟩ rfl (ws2 := [rmE o ad (pCells P) P.2.2.2.1 P.2.2.2.2.2.1 P.2.2.2.2.2.2 (I.1, I.2.1, I.2.2.1, I.2.2.2.1, I.2.2.2.2.1, I.2.2.2.2.2.1 - 1, I.2.2.2.2.2.2.1, I.2.2.2.2.2.2.2.1, I.2.2.2.2.2.2.2.2.1, I.2.2.2.2.2.2.2.2.2.1, I.2.2.2.2.2.2.2.2.2.2.1, I.2.2.2.2.2.2.2.2.2.2.2), nE 384 (ad 25) cI (cpN sl ((9 + (I.2.2.2.2.2.1 - 1)) * 32) 0 32)]) rfl (fun H locs hP hS => ?_)
    refine lv_aload_n (pc := 35) hx hb dX10_back_35 rfl (lv_at hl 0 rfl) ?_
    refine lv_iconst (pc := 36) (v := nI 0) hx hb dX10_back_36 (by decide) ?_
    refine ra_put (pc := 37) (D := D) (ci := 10) (v := .int (nI 0)) (ty := .int) (C := RX10) (T := TX10) (N := 44) (ws2 := [rmE o ad (pCells P) P.2.2.2.1 P.2.2.2.2.2.1 P.2.2.2.2.2.2 (I.1, I.2.1, I.2.2.1, I.2.2.2.1, 0, I.2.2.2.2.2.1 - 1, I.2.2.2.2.2.2.1, I.2.2.2.2.2.2.2.1, I.2.2.2.2.2.2.2.2.1, I.2.2.2.2.2.2.2.2.2.1, I.2.2.2.2.2.2.2.2.2.2.1, I.2.2.2.2.2.2.2.2.2.2.2), nE 384 (ad 25) cI (cpN sl ((9 + (I.2.2.2.2.2.1 - 1)) * 32) 0 32)]) hx hb hts hiX10 tyX10 tyX10_ok nmX10 hown hK hP hV hS 0 rfl rfl 26 (by decide) wf194 (fun _ h9 => h9) rfl (by decide +kernel) rfl rfl (Nat.le_of_ble_eq_true rfl) dX10_back_37 rfl rfl (fun H locs hP hS => ?_)
    refine lv_aload_n (pc := 40) hx hb dX10_back_40 rfl (lv_at hl 0 rfl) ?_
    refine va_get (pc := 41) (D := D) (ci := 10) (v := .int (nI (I.2.2.2.2.2.1 - 1))) (C := RX10) (T := TX10) (N := 44) hx hb hts hiX10 hown hK hP 0 rfl rfl 27 (by decide) wf197 (fun _ h9 => h9) rfl dX10_back_41 ?_
    exact hret 44 _ hP hS dX10_back_44 rfl rfl ⟨(by unfold zUndo; rw [if_neg (by omega)]; exact jI_nat _), (by have h9 : ¬ I.2.2.2.2.2.1 = 0 := (by omega); simp only [if_neg h9])⟩
  · refine lv_bipush (pc := 7) (v := jI (-2)) hx hb dX10_back_7 (by decide) ?_
    exact hret 9 _ hP hS dX10_back_9 rfl rfl ⟨(by unfold zUndo; rw [if_pos (by omega)]), (by have h9 : I.2.2.2.2.2.1 = 0 := (by omega); simp only [if_pos h9]; rw [show I.2.2.2.2.2.1 - 1 = I.2.2.2.2.2.1 by omega])⟩
