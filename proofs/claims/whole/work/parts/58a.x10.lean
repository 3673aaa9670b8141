abbrev rmX10_next : Room := { frames := 0, cells := 0, slots := 0, locals := 0 }
set_option maxHeartbeats 4000000 in
set_option maxRecDepth 100000 in
theorem k_X10_next (l : Launch) (D : va_G) (cI cC cB cS : ClassId) (o : Nat) (ad : Nat → Nat) (P : PL) (I : RI) (tx : Nat → Nat) (hlt : ltOK (tx, I.2.2.2.2.2.2.1)) (hat8 : I.2.2.2.2.2.2.2.1 < 100000) : CI l D (kT cI cC cB cS) yX10_next wsX10_next rmX10_next [.ref o] ([rmE o ad (pCells P) P.2.2.2.1 P.2.2.2.2.2.1 P.2.2.2.2.2.2 I, nE 200 (ad 29) cB tx]) (fun r u => r = jI (nxZ (tx, I.2.2.2.2.2.2.1) I.2.2.2.2.2.2.2.1) ∧ u = [rmE o ad (pCells P) P.2.2.2.1 P.2.2.2.2.2.1 P.2.2.2.2.2.2 I, nE 200 (ad 29) cB tx]) := by
  refine ci_intro (by decide) rfl (Nat.le_of_ble_eq_true rfl) ?_
  intro p e s m args below meth c ls A QF hF hK hP hV hS hA hN hl hret
  obtain ⟨hx, hb, hml, hown, hts⟩ := id hF
  have hP : va_P D vwCl ([rmE o ad (pCells P) P.2.2.2.1 P.2.2.2.2.2.1 P.2.2.2.2.2.2 I, nE 200 (ad 29) cB tx]) s.heap := hP
  have hl : lv_has ls 1 [(0, .ref o)] := hl
  have wf64 := hts (.fieldLink RX10 64 "RemorseWallModel" "text" "[B") (by decide +kernel)
  have wf145 := hts (.fieldLink RX10 145 "RemorseWallModel" "length" "I") (by decide +kernel)
  have wf148 := hts (.fieldLink RX10 148 "RemorseWallModel" "at" "I") (by decide +kernel)
  have hiX10 : ∀ w ∈ u_ws RX10 TX10 44, w ∈ wsX10_next := by decide +kernel
  have hl8 := hlt.2
  dsimp only at hl8
  refine lv_aload_n (pc := 0) hx hb dX10_next_0 rfl (lv_at hl 0 rfl) ?_
  refine va_get (pc := 1) (D := D) (ci := 10) (v := .int (nI I.2.2.2.2.2.2.2.1)) (C := RX10) (T := TX10) (N := 44) hx hb hts hiX10 hown hK hP 0 rfl rfl 30 (by decide) wf148 (fun _ h9 => h9) rfl dX10_next_1 ?_
  refine lv_aload_n (pc := 4) hx hb dX10_next_4 rfl (lv_at hl 0 rfl) ?_
  refine va_get (pc := 5) (D := D) (ci := 10) (v := .int (nI I.2.2.2.2.2.2.1)) (C := RX10) (T := TX10) (N := 44) hx hb hts hiX10 hown hK hP 0 rfl rfl 28 (by decide) wf145 (fun _ h9 => h9) rfl dX10_next_5 ?_
  refine rc_ge (pc := 8) (tgt := 23) hx hb (tI_nI (by omega)) (tI_nI (by omega)) dX10_next_8 (by decide) (fun c8 => ?_) (fun c8 => ?_)
  · refine lv_iconst (pc := 23) (v := jI (-1)) hx hb dX10_next_23 (by decide) ?_
    exact hret 24 _ hP hS dX10_next_24 rfl rfl ⟨(by unfold nxZ; rw [if_neg (by dsimp only; omega)]), rfl⟩
  · refine lv_aload_n (pc := 11) hx hb dX10_next_11 rfl (lv_at hl 0 rfl) ?_
    refine va_get (pc := 12) (D := D) (ci := 10) (v := .ref (ad 29)) (C := RX10) (T := TX10) (N := 44) hx hb hts hiX10 hown hK hP 0 rfl rfl 29 (by decide) wf64 (fun _ h9 => h9) rfl dX10_next_12 ?_
    refine lv_aload_n (pc := 15) hx hb dX10_next_15 rfl (lv_at hl 0 rfl) ?_
    refine va_get (pc := 16) (D := D) (ci := 10) (v := .int (nI I.2.2.2.2.2.2.2.1)) (C := RX10) (T := TX10) (N := 44) hx hb hts hiX10 hown hK hP 0 rfl rfl 30 (by decide) wf148 (fun _ h9 => h9) rfl dX10_next_16 ?_
    refine ra_bald (pc := 19) (k := I.2.2.2.2.2.2.2.1) (v := nI (tx I.2.2.2.2.2.2.2.1)) hx hb hK hP 1 2 rfl rfl (by omega) (by decide) rfl dX10_next_19 ?_
    have hq := hlt.1 I.2.2.2.2.2.2.2.1
    refine lv_goto (pc := 20) (tgt := 24) hx hb dX10_next_20 (by decide) ?_
    exact hret 24 _ hP hS dX10_next_24 rfl rfl ⟨(by unfold nxZ; rw [if_pos (by dsimp only; omega)]; exact jI_nat _), rfl⟩
abbrev rmX10_number : Room := { frames := 1, cells := 0, slots := 0, locals := 25 }
set_option maxHeartbeats 4000000 in
set_option maxRecDepth 100000 in
theorem k_X10_number (l : Launch) (D : va_G) (cI cC cB cS : ClassId) (o : Nat) (ad : Nat → Nat) (P : PL) (I : RI) (tx : Nat → Nat) (x1 : Int32) (z1 : Int) (hz1 : x1.toInt = z1) (x2 : Int32) (z2 : Int) (hz2 : x2.toInt = z2) (hlt : ltOK (tx, I.2.2.2.2.2.2.1)) (hw0 : I.2.2.2.2.2.2.2.2.2.1 = 0) (hat9 : I.2.2.2.2.2.2.2.1 < 50000) : CI l D (kT cI cC cB cS) yX10_number wsX10_number rmX10_number [.ref o, .int (x1), .int (x2)] ([rmE o ad (pCells P) P.2.2.2.1 P.2.2.2.2.2.1 P.2.2.2.2.2.2 I, nE 200 (ad 29) cB tx]) (fun r u => (∃ v k1, numR (tx, I.2.2.2.2.2.2.1) I.2.2.2.2.2.2.2.1 z1 z2 = some (v, k1) ∧ r = nI v ∧ u = [rmE o ad (pCells P) P.2.2.2.1 P.2.2.2.2.2.1 P.2.2.2.2.2.2 (I.1, I.2.1, I.2.2.1, I.2.2.2.1, I.2.2.2.2.1, I.2.2.2.2.2.1, I.2.2.2.2.2.2.1, k1, I.2.2.2.2.2.2.2.2.1, 0, I.2.2.2.2.2.2.2.2.2.2.1, I.2.2.2.2.2.2.2.2.2.2.2), nE 200 (ad 29) cB tx]) ∨ (numR (tx, I.2.2.2.2.2.2.1) I.2.2.2.2.2.2.2.1 z1 z2 = none ∧ ∃ k1, (I.2.2.2.2.2.2.2.1 ≤ k1 ∧ k1 ≤ I.2.2.2.2.2.2.2.1 + 3) ∧ r = nI 0 ∧ u = [rmE o ad (pCells P) P.2.2.2.1 P.2.2.2.2.2.1 P.2.2.2.2.2.2 (I.1, I.2.1, I.2.2.1, I.2.2.2.1, I.2.2.2.2.1, I.2.2.2.2.2.1, I.2.2.2.2.2.2.1, k1, I.2.2.2.2.2.2.2.2.1, 1, I.2.2.2.2.2.2.2.2.2.2.1, I.2.2.2.2.2.2.2.2.2.2.2), nE 200 (ad 29) cB tx])) := by
  refine ci_intro (by decide) rfl (Nat.le_of_ble_eq_true rfl) ?_
  intro p e s m args below meth c ls A QF hF hK hP hV hS hA hN hl hret
  obtain ⟨hx, hb, hml, hown, hts⟩ := id hF
  have hP : va_P D vwCl ([rmE o ad (pCells P) P.2.2.2.1 P.2.2.2.2.2.1 P.2.2.2.2.2.2 I, nE 200 (ad 29) cB tx]) s.heap := hP
  have hl : lv_has ls 5 [(0, .ref o), (1, .int (x1)), (2, .int (x2))] := hl
  have wf148 := hts (.fieldLink RX10 148 "RemorseWallModel" "at" "I") (by decide +kernel)
  have wf159 := hts (.fieldLink RX10 159 "RemorseWallModel" "isWrong" "Z") (by decide +kernel)
  have hiX10 : ∀ w ∈ u_ws RX10 TX10 44, w ∈ wsX10_number := by decide +kernel
  have hr1 := i32_rng x1
  rw [hz1] at hr1
  have hr2 := i32_rng x2
  rw [hz2] at hr2
  refine lv_iconst (pc := 0) (v := nI 0) hx hb dX10_number_0 (by decide) ?_
  refine lv_istore_n (pc := 1) (lv' := [(3, .int (nI 0)), (0, .ref o), (1, .int (x1)), (2, .int (x2))]) hx hb dX10_number_1 rfl hl (by decide) rfl (fun ls hl => ?_)
  refine lv_iconst (pc := 2) (v := nI 0) hx hb dX10_number_2 (by decide) ?_
  refine lv_istore (pc := 3) (lv' := [(4, .int (nI 0)), (3, .int (nI 0)), (0, .ref o), (1, .int (x1)), (2, .int (x2))]) hx hb dX10_number_3 hl (by decide) rfl (fun ls hl => ?_)
  refine lv_aload_n (pc := 5) hx hb dX10_number_5 rfl (lv_at hl 2 rfl) ?_
  refine ci_Vd (pc := 6) (r0 := jI (nxZ (tx, I.2.2.2.2.2.2.1) I.2.2.2.2.2.2.2.1)) hF hN hK hP hV hS hA (k_X10_next l D cI cC cB cS o ad P I tx hlt (by omega)) (cwV 0 hts gX10_number_X10_next rfl rfl rfl (by decide +kernel) ⟨Nat.le_of_ble_eq_true rfl, Nat.le_of_ble_eq_true rfl⟩) [0, 1] rfl (by decide) 0 10 rfl rfl rfl hl.1 rfl (Nat.le_of_ble_eq_true rfl) dX10_number_6 ⟨Nat.le_refl _, Nat.le_refl _⟩ rfl (ws2 := [rmE o ad (pCells P) P.2.2.2.1 P.2.2.2.2.2.1 P.2.2.2.2.2.2 I, nE 200 (ad 29) cB tx]) rfl (fun H locs hP hS => ?_)
  have fq1 := nxZ_t (tx, I.2.2.2.2.2.2.1) I.2.2.2.2.2.2.2.1
  have gq1 := tAt_lt hlt I.2.2.2.2.2.2.2.1
  refine lv_i2l (pc := 9) (v := jL (nxZ (tx, I.2.2.2.2.2.2.1) I.2.2.2.2.2.2.2.1)) hx hb dX10_number_9 (i2l_j (jI_to (by omega))) ?_
  refine lv_ldc2 (pc := 10) (v := jL 48) hx hb hown (hts (.constantLong RX10 155 (jL 48)) (by decide +kernel)) dX10_number_10 ?_
  refine lv_ldc2 (pc := 13) (v := jL 57) hx hb hown (hts (.constantLong RX10 157 (jL 57)) (by decide +kernel)) dX10_number_13 ?_
  refine ci_Sd (pc := 16) hF hN hK hP hV hS hA (k_X10_in l D cI cC cB cS (nxZ (tx, I.2.2.2.2.2.2.1) I.2.2.2.2.2.2.2.1) 48 57 (by omega)) (va_cwS 3 hts gX10_number_X10_in rfl rfl rfl (by decide +kernel) ⟨Nat.le_of_ble_eq_true rfl, Nat.le_of_ble_eq_true rfl⟩) [] rfl (by decide) rfl hl.1 rfl (Nat.le_of_ble_eq_true rfl) dX10_number_16 ⟨Nat.le_refl _, Nat.le_refl _⟩ rfl (ws2 := [rmE o ad (pCells P) P.2.2.2.1 P.2.2.2.2.2.1 P.2.2.2.2.2.2 I, nE 200 (ad 29) cB tx]) rfl (fun H locs hP hS => ?_)
  refine rb_eq (pc := 19) (tgt := 57) hx hb dX10_number_19 (by decide) (fun c19 => ?_) (fun c19 => ?_)
  · refine lv_aload_n (pc := 57) hx hb dX10_number_57 rfl (lv_at hl 2 rfl) ?_
    refine lv_aload_n (pc := 58) hx hb dX10_number_58 rfl (lv_at hl 2 rfl) ?_
    refine va_get (pc := 59) (D := D) (ci := 10) (v := .int (nI I.2.2.2.2.2.2.2.2.2.1)) (C := RX10) (T := TX10) (N := 44) hx hb hts hiX10 hown hK hP 0 rfl rfl 32 (by decide) wf159 (fun _ h9 => h9) rfl dX10_number_59 ?_
    refine r0_ne (pc := 62) (tgt := 88) hx hb (tI_nI (by omega)) dX10_number_62 (by decide) (fun c62 => ?_) (fun c62 => ?_)
    · omega
    · refine lv_iload (pc := 65) hx hb dX10_number_65 (lv_at hl 0 rfl) ?_
      refine r0_eq (pc := 67) (tgt := 88) hx hb (tI_nI (by omega)) dX10_number_67 (by decide) (fun c67 => ?_) (fun c67 => (by omega))
      refine lv_iconst (pc := 88) (v := nI 1) hx hb dX10_number_88 (by decide) ?_
      refine lv_goto (pc := 89) (tgt := 93) hx hb dX10_number_89 (by decide) ?_
      refine ra_put (pc := 93) (D := D) (ci := 10) (v := .int (nI 1)) (ty := .boolean) (C := RX10) (T := TX10) (N := 44) (ws2 := [rmE o ad (pCells P) P.2.2.2.1 P.2.2.2.2.2.1 P.2.2.2.2.2.2 (I.1, I.2.1, I.2.2.1, I.2.2.2.1, I.2.2.2.2.1, I.2.2.2.2.2.1, I.2.2.2.2.2.2.1, I.2.2.2.2.2.2.2.1, I.2.2.2.2.2.2.2.2.1, 1, I.2.2.2.2.2.2.2.2.2.2.1, I.2.2.2.2.2.2.2.2.2.2.2), nE 200 (ad 29) cB tx]) hx hb hts hiX10 tyX10 tyX10_ok nmX10 hown hK hP hV hS 0 rfl rfl 32 (by decide) wf159 (fun _ h9 => h9) rfl (by decide +kernel) rfl rfl (Nat.le_of_ble_eq_true rfl) dX10_number_93 rfl rfl (fun H locs hP hS => ?_)
      refine lv_aload_n (pc := 96) hx hb dX10_number_96 rfl (lv_at hl 2 rfl) ?_
      refine va_get (pc := 97) (D := D) (ci := 10) (v := .int (nI 1)) (C := RX10) (T := TX10) (N := 44) hx hb hts hiX10 hown hK hP 0 rfl rfl 32 (by decide) wf159 (fun _ h9 => h9) rfl dX10_number_97 ?_
      refine r0_eq (pc := 100) (tgt := 107) hx hb (tI_nI (by omega)) dX10_number_100 (by decide) (fun c100 => (by omega)) (fun c100 => ?_)
      refine lv_iconst (pc := 103) (v := nI 0) hx hb dX10_number_103 (by decide) ?_
      refine lv_goto (pc := 104) (tgt := 108) hx hb dX10_number_104 (by decide) ?_
      exact hret 108 _ hP hS dX10_number_108 rfl rfl (Or.inr ⟨numR_0 (by omega), I.2.2.2.2.2.2.2.1, (by omega), rfl, rfl⟩)
  · refine lv_iload (pc := 22) hx hb dX10_number_22 (lv_at hl 0 rfl) ?_
    refine lv_iconst (pc := 24) (v := nI 3) hx hb dX10_number_24 (by decide) ?_
    refine rc_ge (pc := 25) (tgt := 57) hx hb (tI_nI (by omega)) (tI_nI (by omega)) dX10_number_25 (by decide) (fun c25 => (by omega)) (fun c25 => ?_)
    refine lv_bipush (pc := 28) (v := nI 10) hx hb dX10_number_28 (by decide) ?_
    refine lv_iload_n (pc := 30) hx hb dX10_number_30 rfl (lv_at hl 1 rfl) ?_
    refine rn_imul (pc := 31) hx hb dX10_number_31 ?_
    refine lv_aload_n (pc := 32) hx hb dX10_number_32 rfl (lv_at hl 2 rfl) ?_
    refine ci_Vd (pc := 33) (r0 := jI (nxZ (tx, I.2.2.2.2.2.2.1) I.2.2.2.2.2.2.2.1)) hF hN hK hP hV hS hA (k_X10_next l D cI cC cB cS o ad P I tx hlt (by omega)) (cwV 0 hts gX10_number_X10_next rfl rfl rfl (by decide +kernel) ⟨Nat.le_of_ble_eq_true rfl, Nat.le_of_ble_eq_true rfl⟩) [0, 1] rfl (by decide) 0 10 rfl rfl rfl hl.1 rfl (Nat.le_of_ble_eq_true rfl) dX10_number_33 ⟨Nat.le_refl _, Nat.le_refl _⟩ rfl (ws2 := [rmE o ad (pCells P) P.2.2.2.1 P.2.2.2.2.2.1 P.2.2.2.2.2.2 I, nE 200 (ad 29) cB tx]) rfl (fun H locs hP hS => ?_)
    have fq3 := nxZ_t (tx, I.2.2.2.2.2.2.1) I.2.2.2.2.2.2.2.1
    have gq3 := tAt_lt hlt I.2.2.2.2.2.2.2.1
    refine rz_iadd (pc := 36) hx hb (jI_nat _) rfl dX10_number_36 ?_
    refine lv_bipush (pc := 37) (v := nI 48) hx hb dX10_number_37 (by decide) ?_
    refine rz_isub (pc := 39) hx hb rfl (show nI 48 = jI 48 from jI_nat 48) dX10_number_39 ?_
    refine lv_istore_n (pc := 40) (lv' := [(3, .int (jI (((10 * 0 : Nat) + (nxZ (tx, I.2.2.2.2.2.2.1) I.2.2.2.2.2.2.2.1)) - 48))), (4, .int (nI 0)), (0, .ref o), (1, .int (x1)), (2, .int (x2))]) hx hb dX10_number_40 rfl hl (by decide) rfl (fun ls hl => ?_)
    refine lv_iinc (pc := 41) (v := nI 1) (lv' := [(4, .int (nI 1)), (3, .int (jI (((10 * 0 : Nat) + (nxZ (tx, I.2.2.2.2.2.2.1) I.2.2.2.2.2.2.2.1)) - 48))), (0, .ref o), (1, .int (x1)), (2, .int (x2))]) hx hb dX10_number_41 hl (k := 1) rfl (by decide) (by decide) rfl (fun ls hl => ?_)
    refine lv_aload_n (pc := 44) hx hb dX10_number_44 rfl (lv_at hl 2 rfl) ?_
    refine lv_dup (pc := 45) hx hb dX10_number_45 rfl ?_
    refine va_get (pc := 46) (D := D) (ci := 10) (v := .int (nI I.2.2.2.2.2.2.2.1)) (C := RX10) (T := TX10) (N := 44) hx hb hts hiX10 hown hK hP 0 rfl rfl 30 (by decide) wf148 (fun _ h9 => h9) rfl dX10_number_46 ?_
    refine lv_iconst (pc := 49) (v := nI 1) hx hb dX10_number_49 (by decide) ?_
    refine rn_iadd (pc := 50) hx hb dX10_number_50 ?_
    refine ra_put (pc := 51) (D := D) (ci := 10) (v := .int (nI (I.2.2.2.2.2.2.2.1 + 1))) (ty := .int) (C := RX10) (T := TX10) (N := 44) (ws2 := [rmE o ad (pCells P) P.2.2.2.1 P.2.2.2.2.2.1 P.2.2.2.2.2.2 (I.1, I.2.1, I.2.2.1, I.2.2.2.1, I.2.2.2.2.1, I.2.2.2.2.2.1, I.2.2.2.2.2.2.1, I.2.2.2.2.2.2.2.1 + 1, I.2.2.2.2.2.2.2.2.1, I.2.2.2.2.2.2.2.2.2.1, I.2.2.2.2.2.2.2.2.2.2.1, I.2.2.2.2.2.2.2.2.2.2.2), nE 200 (ad 29) cB tx]) hx hb hts hiX10 tyX10 tyX10_ok nmX10 hown hK hP hV hS 0 rfl rfl 30 (by decide) wf148 (fun _ h9 => h9) rfl (by decide +kernel) rfl rfl (Nat.le_of_ble_eq_true rfl) dX10_number_51 rfl rfl (fun H locs hP hS => ?_)
    refine lv_goto (pc := 54) (tgt := 5) hx hb dX10_number_54 (by decide) ?_
    refine lv_aload_n (pc := 5) hx hb dX10_number_5 rfl (lv_at hl 2 rfl) ?_
    refine ci_Vd (pc := 6) (r0 := jI (nxZ (tx, I.2.2.2.2.2.2.1) (I.2.2.2.2.2.2.2.1 + 1))) hF hN hK hP hV hS hA (k_X10_next l D cI cC cB cS o ad P (I.1, I.2.1, I.2.2.1, I.2.2.2.1, I.2.2.2.2.1, I.2.2.2.2.2.1, I.2.2.2.2.2.2.1, I.2.2.2.2.2.2.2.1 + 1, I.2.2.2.2.2.2.2.2.1, I.2.2.2.2.2.2.2.2.2.1, I.2.2.2.2.2.2.2.2.2.2.1, I.2.2.2.2.2.2.2.2.2.2.2) tx hlt (show (I.2.2.2.2.2.2.2.1 + 1) < 100000 by omega)) (cwV 0 hts gX10_number_X10_next rfl rfl rfl (by decide +kernel) ⟨Nat.le_of_ble_eq_true rfl, Nat.le_of_ble_eq_true rfl⟩) [0, 1] rfl (by decide) 0 10 rfl rfl rfl hl.1 rfl (Nat.le_of_ble_eq_true rfl) dX10_number_6 ⟨Nat.le_refl _, Nat.le_refl _⟩ rfl (ws2 := [rmE o ad (pCells P) P.2.2.2.1 P.2.2.2.2.2.1 P.2.2.2.2.2.2 (I.1, I.2.1, I.2.2.1, I.2.2.2.1, I.2.2.2.2.1, I.2.2.2.2.2.1, I.2.2.2.2.2.2.1, I.2.2.2.2.2.2.2.1 + 1, I.2.2.2.2.2.2.2.2.1, I.2.2.2.2.2.2.2.2.2.1, I.2.2.2.2.2.2.2.2.2.2.1, I.2.2.2.2.2.2.2.2.2.2.2), nE 200 (ad 29) cB tx]) rfl (fun H locs hP hS => ?_)
    have fq4 := nxZ_t (tx, I.2.2.2.2.2.2.1) (I.2.2.2.2.2.2.2.1 + 1)
    have gq4 := tAt_lt hlt (I.2.2.2.2.2.2.2.1 + 1)
    refine lv_i2l (pc := 9) (v := jL (nxZ (tx, I.2.2.2.2.2.2.1) (I.2.2.2.2.2.2.2.1 + 1))) hx hb dX10_number_9 (i2l_j (jI_to (by omega))) ?_
    refine lv_ldc2 (pc := 10) (v := jL 48) hx hb hown (hts (.constantLong RX10 155 (jL 48)) (by decide +kernel)) dX10_number_10 ?_
    refine lv_ldc2 (pc := 13) (v := jL 57) hx hb hown (hts (.constantLong RX10 157 (jL 57)) (by decide +kernel)) dX10_number_13 ?_
    refine ci_Sd (pc := 16) hF hN hK hP hV hS hA (k_X10_in l D cI cC cB cS (nxZ (tx, I.2.2.2.2.2.2.1) (I.2.2.2.2.2.2.2.1 + 1)) 48 57 (by omega)) (va_cwS 3 hts gX10_number_X10_in rfl rfl rfl (by decide +kernel) ⟨Nat.le_of_ble_eq_true rfl, Nat.le_of_ble_eq_true rfl⟩) [] rfl (by decide) rfl hl.1 rfl (Nat.le_of_ble_eq_true rfl) dX10_number_16 ⟨Nat.le_refl _, Nat.le_refl _⟩ rfl (ws2 := [rmE o ad (pCells P) P.2.2.2.1 P.2.2.2.2.2.1 P.2.2.2.2.2.2 (I.1, I.2.1, I.2.2.1, I.2.2.2.1, I.2.2.2.2.1, I.2.2.2.2.2.1, I.2.2.2.2.2.2.1, I.2.2.2.2.2.2.2.1 + 1, I.2.2.2.2.2.2.2.2.1, I.2.2.2.2.2.2.2.2.2.1, I.2.2.2.2.2.2.2.2.2.2.1, I.2.2.2.2.2.2.2.2.2.2.2), nE 200 (ad 29) cB tx]) rfl (fun H locs hP hS => ?_)
    refine rb_eq (pc := 19) (tgt := 57) hx hb dX10_number_19 (by decide) (fun c19 => ?_) (fun c19 => ?_)
    · rw [show jI (((10 * 0 : Nat) + (nxZ (tx, I.2.2.2.2.2.2.1) I.2.2.2.2.2.2.2.1)) - 48) = nI (tAt (tx, I.2.2.2.2.2.2.1) I.2.2.2.2.2.2.2.1 - 48) from (by rw [jI_nat]; congr 1; omega)] at hl
      refine lv_aload_n (pc := 57) hx hb dX10_number_57 rfl (lv_at hl 2 rfl) ?_
      refine lv_aload_n (pc := 58) hx hb dX10_number_58 rfl (lv_at hl 2 rfl) ?_
      refine va_get (pc := 59) (D := D) (ci := 10) (v := .int (nI I.2.2.2.2.2.2.2.2.2.1)) (C := RX10) (T := TX10) (N := 44) hx hb hts hiX10 hown hK hP 0 rfl rfl 32 (by decide) wf159 (fun _ h9 => h9) rfl dX10_number_59 ?_
      refine r0_ne (pc := 62) (tgt := 88) hx hb (tI_nI (by omega)) dX10_number_62 (by decide) (fun c62 => ?_) (fun c62 => ?_)
      · omega
      · refine lv_iload (pc := 65) hx hb dX10_number_65 (lv_at hl 0 rfl) ?_
        refine r0_eq (pc := 67) (tgt := 88) hx hb (tI_nI (by omega)) dX10_number_67 (by decide) (fun c67 => (by omega)) (fun c67 => ?_)
        refine lv_iload (pc := 70) hx hb dX10_number_70 (lv_at hl 0 rfl) ?_
        refine lv_iconst (pc := 72) (v := nI 2) hx hb dX10_number_72 (by decide) ?_
        refine rc_gt (pc := 73) (tgt := 88) hx hb (tI_nI (by omega)) (tI_nI (by omega)) dX10_number_73 (by decide) (fun c73 => (by omega)) (fun c73 => ?_)
        refine lv_iload_n (pc := 76) hx hb dX10_number_76 rfl (lv_at hl 1 rfl) ?_
        refine lv_i2l (pc := 77) (v := jL ((tAt (tx, I.2.2.2.2.2.2.1) I.2.2.2.2.2.2.2.1 - 48 : Nat) : Int)) hx hb dX10_number_77 (i2l_j (tI_nI (by omega))) ?_
        refine lv_iload_n (pc := 78) hx hb dX10_number_78 rfl (lv_at hl 3 rfl) ?_
        refine lv_i2l (pc := 79) (v := jL z1) hx hb dX10_number_79 (i2l_j hz1) ?_
        refine lv_iload_n (pc := 80) hx hb dX10_number_80 rfl (lv_at hl 4 rfl) ?_
        refine lv_i2l (pc := 81) (v := jL z2) hx hb dX10_number_81 (i2l_j hz2) ?_
        refine ci_Sd (pc := 82) hF hN hK hP hV hS hA (k_X10_in l D cI cC cB cS ((tAt (tx, I.2.2.2.2.2.2.1) I.2.2.2.2.2.2.2.1 - 48 : Nat) : Int) z1 z2 (by omega)) (va_cwS 3 hts gX10_number_X10_in rfl rfl rfl (by decide +kernel) ⟨Nat.le_of_ble_eq_true rfl, Nat.le_of_ble_eq_true rfl⟩) [] rfl (by decide) rfl hl.1 rfl (Nat.le_of_ble_eq_true rfl) dX10_number_82 ⟨Nat.le_refl _, Nat.le_refl _⟩ rfl (ws2 := [rmE o ad (pCells P) P.2.2.2.1 P.2.2.2.2.2.1 P.2.2.2.2.2.2 (I.1, I.2.1, I.2.2.1, I.2.2.2.1, I.2.2.2.2.1, I.2.2.2.2.2.1, I.2.2.2.2.2.2.1, I.2.2.2.2.2.2.2.1 + 1, I.2.2.2.2.2.2.2.2.1, I.2.2.2.2.2.2.2.2.2.1, I.2.2.2.2.2.2.2.2.2.2.1, I.2.2.2.2.2.2.2.2.2.2.2), nE 200 (ad 29) cB tx]) rfl (fun H locs hP hS => ?_)
        refine rb_ne (pc := 85) (tgt := 92) hx hb dX10_number_85 (by decide) (fun c85 => ?_) (fun c85 => ?_)
        · refine lv_iconst (pc := 92) (v := nI 0) hx hb dX10_number_92 (by decide) ?_
          refine ra_put (pc := 93) (D := D) (ci := 10) (v := .int (nI 0)) (ty := .boolean) (C := RX10) (T := TX10) (N := 44) (ws2 := [rmE o ad (pCells P) P.2.2.2.1 P.2.2.2.2.2.1 P.2.2.2.2.2.2 (I.1, I.2.1, I.2.2.1, I.2.2.2.1, I.2.2.2.2.1, I.2.2.2.2.2.1, I.2.2.2.2.2.2.1, I.2.2.2.2.2.2.2.1 + 1, I.2.2.2.2.2.2.2.2.1, 0, I.2.2.2.2.2.2.2.2.2.2.1, I.2.2.2.2.2.2.2.2.2.2.2), nE 200 (ad 29) cB tx]) hx hb hts hiX10 tyX10 tyX10_ok nmX10 hown hK hP hV hS 0 rfl rfl 32 (by decide) wf159 (fun _ h9 => h9) rfl (by decide +kernel) rfl rfl (Nat.le_of_ble_eq_true rfl) dX10_number_93 rfl rfl (fun H locs hP hS => ?_)
          refine lv_aload_n (pc := 96) hx hb dX10_number_96 rfl (lv_at hl 2 rfl) ?_
          refine va_get (pc := 97) (D := D) (ci := 10) (v := .int (nI 0)) (C := RX10) (T := TX10) (N := 44) hx hb hts hiX10 hown hK hP 0 rfl rfl 32 (by decide) wf159 (fun _ h9 => h9) rfl dX10_number_97 ?_
          refine r0_eq (pc := 100) (tgt := 107) hx hb (tI_nI (by omega)) dX10_number_100 (by decide) (fun c100 => ?_) (fun c100 => (by omega))
          refine lv_iload_n (pc := 107) hx hb dX10_number_107 rfl (lv_at hl 1 rfl) ?_
          exact hret 108 _ hP hS dX10_number_108 rfl rfl (Or.inl ⟨_, _, numR_1 ⟨by omega, by omega⟩ (by omega) (by omega), rfl, rfl⟩)
        · refine lv_iconst (pc := 88) (v := nI 1) hx hb dX10_number_88 (by decide) ?_
          refine lv_goto (pc := 89) (tgt := 93) hx hb dX10_number_89 (by decide) ?_
          refine ra_put (pc := 93) (D := D) (ci := 10) (v := .int (nI 1)) (ty := .boolean) (C := RX10) (T := TX10) (N := 44) (ws2 := [rmE o ad (pCells P) P.2.2.2.1 P.2.2.2.2.2.1 P.2.2.2.2.2.2 (I.1, I.2.1, I.2.2.1, I.2.2.2.1, I.2.2.2.2.1, I.2.2.2.2.2.1, I.2.2.2.2.2.2.1, I.2.2.2.2.2.2.2.1 + 1, I.2.2.2.2.2.2.2.2.1, 1, I.2.2.2.2.2.2.2.2.2.2.1, I.2.2.2.2.2.2.2.2.2.2.2), nE 200 (ad 29) cB tx]) hx hb hts hiX10 tyX10 tyX10_ok nmX10 hown hK hP hV hS 0 rfl rfl 32 (by decide) wf159 (fun _ h9 => h9) rfl (by decide +kernel) rfl rfl (Nat.le_of_ble_eq_true rfl) dX10_number_93 rfl rfl (fun H locs hP hS => ?_)
          refine lv_aload_n (pc := 96) hx hb dX10_number_96 rfl (lv_at hl 2 rfl) ?_
          refine va_get (pc := 97) (D := D) (ci := 10) (v := .int (nI 1)) (C := RX10) (T := TX10) (N := 44) hx hb hts hiX10 hown hK hP 0 rfl rfl 32 (by decide) wf159 (fun _ h9 => h9) rfl dX10_number_97 ?_
          refine r0_eq (pc := 100) (tgt := 107) hx hb (tI_nI (by omega)) dX10_number_100 (by decide) (fun c100 => (by omega)) (fun c100 => ?_)
          refine lv_iconst (pc := 103) (v := nI 0) hx hb dX10_number_103 (by decide) ?_
          refine lv_goto (pc := 104) (tgt := 108) hx hb dX10_number_104 (by decide) ?_
          exact hret 108 _ hP hS dX10_number_108 rfl rfl (Or.inr ⟨numR_n1 ⟨by omega, by omega⟩ (by omega) (by omega), I.2.2.2.2.2.2.2.1 + 1, (by omega), rfl, rfl⟩)
    · refine lv_iload (pc := 22) hx hb dX10_number_22 (lv_at hl 0 rfl) ?_
      refine lv_iconst (pc := 24) (v := nI 3) hx hb dX10_number_24 (by decide) ?_
      refine rc_ge (pc := 25) (tgt := 57) hx hb (tI_nI (by omega)) (tI_nI (by omega)) dX10_number_25 (by decide) (fun c25 => (by omega)) (fun c25 => ?_)
      refine lv_bipush (pc := 28) (v := nI 10) hx hb dX10_number_28 (by decide) ?_
      refine lv_iload_n (pc := 30) hx hb dX10_number_30 rfl (lv_at hl 1 rfl) ?_
      refine rz_imul (pc := 31) hx hb (show nI 10 = jI 10 from jI_nat 10) rfl dX10_number_31 ?_
      refine lv_aload_n (pc := 32) hx hb dX10_number_32 rfl (lv_at hl 2 rfl) ?_
      refine ci_Vd (pc := 33) (r0 := jI (nxZ (tx, I.2.2.2.2.2.2.1) (I.2.2.2.2.2.2.2.1 + 1))) hF hN hK hP hV hS hA (k_X10_next l D cI cC cB cS o ad P (I.1, I.2.1, I.2.2.1, I.2.2.2.1, I.2.2.2.2.1, I.2.2.2.2.2.1, I.2.2.2.2.2.2.1, I.2.2.2.2.2.2.2.1 + 1, I.2.2.2.2.2.2.2.2.1, I.2.2.2.2.2.2.2.2.2.1, I.2.2.2.2.2.2.2.2.2.2.1, I.2.2.2.2.2.2.2.2.2.2.2) tx hlt (show (I.2.2.2.2.2.2.2.1 + 1) < 100000 by omega)) (cwV 0 hts gX10_number_X10_next rfl rfl rfl (by decide +kernel) ⟨Nat.le_of_ble_eq_true rfl, Nat.le_of_ble_eq_true rfl⟩) [0, 1] rfl (by decide) 0 10 rfl rfl rfl hl.1 rfl (Nat.le_of_ble_eq_true rfl) dX10_number_33 ⟨Nat.le_refl _, Nat.le_refl _⟩ rfl (ws2 := [rmE o ad (pCells P) P.2.2.2.1 P.2.2.2.2.2.1 P.2.2.2.2.2.2 (I.1, I.2.1, I.2.2.1, I.2.2.2.1, I.2.2.2.2.1, I.2.2.2.2.2.1, I.2.2.2.2.2.2.1, I.2.2.2.2.2.2.2.1 + 1, I.2.2.2.2.2.2.2.2.1, I.2.2.2.2.2.2.2.2.2.1, I.2.2.2.2.2.2.2.2.2.2.1, I.2.2.2.2.2.2.2.2.2.2.2), nE 200 (ad 29) cB tx]) rfl (fun H locs hP hS => ?_)
      have fq7 := nxZ_t (tx, I.2.2.2.2.2.2.1) (I.2.2.2.2.2.2.2.1 + 1)
      have gq7 := tAt_lt hlt (I.2.2.2.2.2.2.2.1 + 1)
      refine rz_iadd (pc := 36) hx hb rfl rfl dX10_number_36 ?_
      refine lv_bipush (pc := 37) (v := nI 48) hx hb dX10_number_37 (by decide) ?_
      refine rz_isub (pc := 39) hx hb rfl (show nI 48 = jI 48 from jI_nat 48) dX10_number_39 ?_
      refine lv_istore_n (pc := 40) (lv' := [(3, .int (jI (((10 * (((10 * 0 : Nat) + (nxZ (tx, I.2.2.2.2.2.2.1) I.2.2.2.2.2.2.2.1)) - 48)) + (nxZ (tx, I.2.2.2.2.2.2.1) (I.2.2.2.2.2.2.2.1 + 1))) - 48))), (4, .int (nI 1)), (0, .ref o), (1, .int (x1)), (2, .int (x2))]) hx hb dX10_number_40 rfl hl (by decide) rfl (fun ls hl => ?_)
      refine lv_iinc (pc := 41) (v := nI 2) (lv' := [(4, .int (nI 2)), (3, .int (jI (((10 * (((10 * 0 : Nat) + (nxZ (tx, I.2.2.2.2.2.2.1) I.2.2.2.2.2.2.2.1)) - 48)) + (nxZ (tx, I.2.2.2.2.2.2.1) (I.2.2.2.2.2.2.2.1 + 1))) - 48))), (0, .ref o), (1, .int (x1)), (2, .int (x2))]) hx hb dX10_number_41 hl (k := 1) rfl (by decide) (by decide) rfl (fun ls hl => ?_)
      refine lv_aload_n (pc := 44) hx hb dX10_number_44 rfl (lv_at hl 2 rfl) ?_
      refine lv_dup (pc := 45) hx hb dX10_number_45 rfl ?_
      refine va_get (pc := 46) (D := D) (ci := 10) (v := .int (nI (I.2.2.2.2.2.2.2.1 + 1))) (C := RX10) (T := TX10) (N := 44) hx hb hts hiX10 hown hK hP 0 rfl rfl 30 (by decide) wf148 (fun _ h9 => h9) rfl dX10_number_46 ?_
      refine lv_iconst (pc := 49) (v := nI 1) hx hb dX10_number_49 (by decide) ?_
      refine rn_iadd (pc := 50) hx hb dX10_number_50 ?_
      refine ra_put (pc := 51) (D := D) (ci := 10) (v := .int (nI ((I.2.2.2.2.2.2.2.1 + 1) + 1))) (ty := .int) (C := RX10) (T := TX10) (N := 44) (ws2 := [rmE o ad (pCells P) P.2.2.2.1 P.2.2.2.2.2.1 P.2.2.2.2.2.2 (I.1, I.2.1, I.2.2.1, I.2.2.2.1, I.2.2.2.2.1, I.2.2.2.2.2.1, I.2.2.2.2.2.2.1, (I.2.2.2.2.2.2.2.1 + 1) + 1, I.2.2.2.2.2.2.2.2.1, I.2.2.2.2.2.2.2.2.2.1, I.2.2.2.2.2.2.2.2.2.2.1, I.2.2.2.2.2.2.2.2.2.2.2), nE 200 (ad 29) cB tx]) hx hb hts hiX10 tyX10 tyX10_ok nmX10 hown hK hP hV hS 0 rfl rfl 30 (by decide) wf148 (fun _ h9 => h9) rfl (by decide +kernel) rfl rfl (Nat.le_of_ble_eq_true rfl) dX10_number_51 rfl rfl (fun H locs hP hS => ?_)
      refine lv_goto (pc := 54) (tgt := 5) hx hb dX10_number_54 (by decide) ?_
      refine lv_aload_n (pc := 5) hx hb dX10_number_5 rfl (lv_at hl 2 rfl) ?_
      refine ci_Vd (pc := 6) (r0 := jI (nxZ (tx, I.2.2.2.2.2.2.1) ((I.2.2.2.2.2.2.2.1 + 1) + 1))) hF hN hK hP hV hS hA (k_X10_next l D cI cC cB cS o ad P (I.1, I.2.1, I.2.2.1, I.2.2.2.1, I.2.2.2.2.1, I.2.2.2.2.2.1, I.2.2.2.2.2.2.1, (I.2.2.2.2.2.2.2.1 + 1) + 1, I.2.2.2.2.2.2.2.2.1, I.2.2.2.2.2.2.2.2.2.1, I.2.2.2.2.2.2.2.2.2.2.1, I.2.2.2.2.2.2.2.2.2.2.2) tx hlt (show ((I.2.2.2.2.2.2.2.1 + 1) + 1) < 100000 by omega)) (cwV 0 hts gX10_number_X10_next rfl rfl rfl (by decide +kernel) ⟨Nat.le_of_ble_eq_true rfl, Nat.le_of_ble_eq_true rfl⟩) [0, 1] rfl (by decide) 0 10 rfl rfl rfl hl.1 rfl (Nat.le_of_ble_eq_true rfl) dX10_number_6 ⟨Nat.le_refl _, Nat.le_refl _⟩ rfl (ws2 := [rmE o ad (pCells P) P.2.2.2.1 P.2.2.2.2.2.1 P.2.2.2.2.2.2 (I.1, I.2.1, I.2.2.1, I.2.2.2.1, I.2.2.2.2.1, I.2.2.2.2.2.1, I.2.2.2.2.2.2.1, (I.2.2.2.2.2.2.2.1 + 1) + 1, I.2.2.2.2.2.2.2.2.1, I.2.2.2.2.2.2.2.2.2.1, I.2.2.2.2.2.2.2.2.2.2.1, I.2.2.2.2.2.2.2.2.2.2.2), nE 200 (ad 29) cB tx]) rfl (fun H locs hP hS => ?_)
      have fq8 := nxZ_t (tx, I.2.2.2.2.2.2.1) ((I.2.2.2.2.2.2.2.1 + 1) + 1)
      have gq8 := tAt_lt hlt ((I.2.2.2.2.2.2.2.1 + 1) + 1)
      refine lv_i2l (pc := 9) (v := jL (nxZ (tx, I.2.2.2.2.2.2.1) ((I.2.2.2.2.2.2.2.1 + 1) + 1))) hx hb dX10_number_9 (i2l_j (jI_to (by omega))) ?_
      refine lv_ldc2 (pc := 10) (v := jL 48) hx hb hown (hts (.constantLong RX10 155 (jL 48)) (by decide +kernel)) dX10_number_10 ?_
      refine lv_ldc2 (pc := 13) (v := jL 57) hx hb hown (hts (.constantLong RX10 157 (jL 57)) (by decide +kernel)) dX10_number_13 ?_
      refine ci_Sd (pc := 16) hF hN hK hP hV hS hA (k_X10_in l D cI cC cB cS (nxZ (tx, I.2.2.2.2.2.2.1) ((I.2.2.2.2.2.2.2.1 + 1) + 1)) 48 57 (by omega)) (va_cwS 3 hts gX10_number_X10_in rfl rfl rfl (by decide +kernel) ⟨Nat.le_of_ble_eq_true rfl, Nat.le_of_ble_eq_true rfl⟩) [] rfl (by decide) rfl hl.1 rfl (Nat.le_of_ble_eq_true rfl) dX10_number_16 ⟨Nat.le_refl _, Nat.le_refl _⟩ rfl (ws2 := [rmE o ad (pCells P) P.2.2.2.1 P.2.2.2.2.2.1 P.2.2.2.2.2.2 (I.1, I.2.1, I.2.2.1, I.2.2.2.1, I.2.2.2.2.1, I.2.2.2.2.2.1, I.2.2.2.2.2.2.1, (I.2.2.2.2.2.2.2.1 + 1) + 1, I.2.2.2.2.2.2.2.2.1, I.2.2.2.2.2.2.2.2.2.1, I.2.2.2.2.2.2.2.2.2.2.1, I.2.2.2.2.2.2.2.2.2.2.2), nE 200 (ad 29) cB tx]) rfl (fun H locs hP hS => ?_)
      refine rb_eq (pc := 19) (tgt := 57) hx hb dX10_number_19 (by decide) (fun c19 => ?_) (fun c19 => ?_)
      · rw [show jI (((10 * (((10 * 0 : Nat) + (nxZ (tx, I.2.2.2.2.2.2.1) I.2.2.2.2.2.2.2.1)) - 48)) + (nxZ (tx, I.2.2.2.2.2.2.1) (I.2.2.2.2.2.2.2.1 + 1))) - 48) = nI (10 * (tAt (tx, I.2.2.2.2.2.2.1) I.2.2.2.2.2.2.2.1 - 48) + (tAt (tx, I.2.2.2.2.2.2.1) (I.2.2.2.2.2.2.2.1 + 1) - 48)) from (by rw [jI_nat]; congr 1; omega)] at hl
        refine lv_aload_n (pc := 57) hx hb dX10_number_57 rfl (lv_at hl 2 rfl) ?_
        refine lv_aload_n (pc := 58) hx hb dX10_number_58 rfl (lv_at hl 2 rfl) ?_
        refine va_get (pc := 59) (D := D) (ci := 10) (v := .int (nI I.2.2.2.2.2.2.2.2.2.1)) (C := RX10) (T := TX10) (N := 44) hx hb hts hiX10 hown hK hP 0 rfl rfl 32 (by decide) wf159 (fun _ h9 => h9) rfl dX10_number_59 ?_
        refine r0_ne (pc := 62) (tgt := 88) hx hb (tI_nI (by omega)) dX10_number_62 (by decide) (fun c62 => ?_) (fun c62 => ?_)
        · omega
        · refine lv_iload (pc := 65) hx hb dX10_number_65 (lv_at hl 0 rfl) ?_
          refine r0_eq (pc := 67) (tgt := 88) hx hb (tI_nI (by omega)) dX10_number_67 (by decide) (fun c67 => (by omega)) (fun c67 => ?_)
          refine lv_iload (pc := 70) hx hb dX10_number_70 (lv_at hl 0 rfl) ?_
          refine lv_iconst (pc := 72) (v := nI 2) hx hb dX10_number_72 (by decide) ?_
          refine rc_gt (pc := 73) (tgt := 88) hx hb (tI_nI (by omega)) (tI_nI (by omega)) dX10_number_73 (by decide) (fun c73 => (by omega)) (fun c73 => ?_)
          refine lv_iload_n (pc := 76) hx hb dX10_number_76 rfl (lv_at hl 1 rfl) ?_
          refine lv_i2l (pc := 77) (v := jL ((10 * (tAt (tx, I.2.2.2.2.2.2.1) I.2.2.2.2.2.2.2.1 - 48) + (tAt (tx, I.2.2.2.2.2.2.1) (I.2.2.2.2.2.2.2.1 + 1) - 48) : Nat) : Int)) hx hb dX10_number_77 (i2l_j (tI_nI (by omega))) ?_
          refine lv_iload_n (pc := 78) hx hb dX10_number_78 rfl (lv_at hl 3 rfl) ?_
          refine lv_i2l (pc := 79) (v := jL z1) hx hb dX10_number_79 (i2l_j hz1) ?_
          refine lv_iload_n (pc := 80) hx hb dX10_number_80 rfl (lv_at hl 4 rfl) ?_
          refine lv_i2l (pc := 81) (v := jL z2) hx hb dX10_number_81 (i2l_j hz2) ?_
          refine ci_Sd (pc := 82) hF hN hK hP hV hS hA (k_X10_in l D cI cC cB cS ((10 * (tAt (tx, I.2.2.2.2.2.2.1) I.2.2.2.2.2.2.2.1 - 48) + (tAt (tx, I.2.2.2.2.2.2.1) (I.2.2.2.2.2.2.2.1 + 1) - 48) : Nat) : Int) z1 z2 (by omega)) (va_cwS 3 hts gX10_number_X10_in rfl rfl rfl (by decide +kernel) ⟨Nat.le_of_ble_eq_true rfl, Nat.le_of_ble_eq_true rfl⟩) [] rfl (by decide) rfl hl.1 rfl (Nat.le_of_ble_eq_true rfl) dX10_number_82 ⟨Nat.le_refl _, Nat.le_refl _⟩ rfl (ws2 := [rmE o ad (pCells P) P.2.2.2.1 P.2.2.2.2.2.1 P.2.2.2.2.2.2 (I.1, I.2.1, I.2.2.1, I.2.2.2.1, I.2.2.2.2.1, I.2.2.2.2.2.1, I.2.2.2.2.2.2.1, (I.2.2.2.2.2.2.2.1 + 1) + 1, I.2.2.2.2.2.2.2.2.1, I.2.2.2.2.2.2.2.2.2.1, I.2.2.2.2.2.2.2.2.2.2.1, I.2.2.2.2.2.2.2.2.2.2.2), nE 200 (ad 29) cB tx]) rfl (fun H locs hP hS => ?_)
          refine rb_ne (pc := 85) (tgt := 92) hx hb dX10_number_85 (by decide) (fun c85 => ?_) (fun c85 => ?_)
          · refine lv_iconst (pc := 92) (v := nI 0) hx hb dX10_number_92 (by decide) ?_
            refine ra_put (pc := 93) (D := D) (ci := 10) (v := .int (nI 0)) (ty := .boolean) (C := RX10) (T := TX10) (N := 44) (ws2 := [rmE o ad (pCells P) P.2.2.2.1 P.2.2.2.2.2.1 P.2.2.2.2.2.2 (I.1, I.2.1, I.2.2.1, I.2.2.2.1, I.2.2.2.2.1, I.2.2.2.2.2.1, I.2.2.2.2.2.2.1, (I.2.2.2.2.2.2.2.1 + 1) + 1, I.2.2.2.2.2.2.2.2.1, 0, I.2.2.2.2.2.2.2.2.2.2.1, I.2.2.2.2.2.2.2.2.2.2.2), nE 200 (ad 29) cB tx]) hx hb hts hiX10 tyX10 tyX10_ok nmX10 hown hK hP hV hS 0 rfl rfl 32 (by decide) wf159 (fun _ h9 => h9) rfl (by decide +kernel) rfl rfl (Nat.le_of_ble_eq_true rfl) dX10_number_93 rfl rfl (fun H locs hP hS => ?_)
            refine lv_aload_n (pc := 96) hx hb dX10_number_96 rfl (lv_at hl 2 rfl) ?_
            refine va_get (pc := 97) (D := D) (ci := 10) (v := .int (nI 0)) (C := RX10) (T := TX10) (N := 44) hx hb hts hiX10 hown hK hP 0 rfl rfl 32 (by decide) wf159 (fun _ h9 => h9) rfl dX10_number_97 ?_
            refine r0_eq (pc := 100) (tgt := 107) hx hb (tI_nI (by omega)) dX10_number_100 (by decide) (fun c100 => ?_) (fun c100 => (by omega))
            refine lv_iload_n (pc := 107) hx hb dX10_number_107 rfl (lv_at hl 1 rfl) ?_
            exact hret 108 _ hP hS dX10_number_108 rfl rfl (Or.inl ⟨_, _, numR_2 ⟨by omega, by omega⟩ ⟨by omega, by omega⟩ (show ¬ isF (tx, I.2.2.2.2.2.2.1) (I.2.2.2.2.2.2.2.1 + 1 + 1) by omega) (by omega), rfl, rfl⟩)
          · refine lv_iconst (pc := 88) (v := nI 1) hx hb dX10_number_88 (by decide) ?_
            refine lv_goto (pc := 89) (tgt := 93) hx hb dX10_number_89 (by decide) ?_
            refine ra_put (pc := 93) (D := D) (ci := 10) (v := .int (nI 1)) (ty := .boolean) (C := RX10) (T := TX10) (N := 44) (ws2 := [rmE o ad (pCells P) P.2.2.2.1 P.2.2.2.2.2.1 P.2.2.2.2.2.2 (I.1, I.2.1, I.2.2.1, I.2.2.2.1, I.2.2.2.2.1, I.2.2.2.2.2.1, I.2.2.2.2.2.2.1, (I.2.2.2.2.2.2.2.1 + 1) + 1, I.2.2.2.2.2.2.2.2.1, 1, I.2.2.2.2.2.2.2.2.2.2.1, I.2.2.2.2.2.2.2.2.2.2.2), nE 200 (ad 29) cB tx]) hx hb hts hiX10 tyX10 tyX10_ok nmX10 hown hK hP hV hS 0 rfl rfl 32 (by decide) wf159 (fun _ h9 => h9) rfl (by decide +kernel) rfl rfl (Nat.le_of_ble_eq_true rfl) dX10_number_93 rfl rfl (fun H locs hP hS => ?_)
            refine lv_aload_n (pc := 96) hx hb dX10_number_96 rfl (lv_at hl 2 rfl) ?_
            refine va_get (pc := 97) (D := D) (ci := 10) (v := .int (nI 1)) (C := RX10) (T := TX10) (N := 44) hx hb hts hiX10 hown hK hP 0 rfl rfl 32 (by decide) wf159 (fun _ h9 => h9) rfl dX10_number_97 ?_
            refine r0_eq (pc := 100) (tgt := 107) hx hb (tI_nI (by omega)) dX10_number_100 (by decide) (fun c100 => (by omega)) (fun c100 => ?_)
            refine lv_iconst (pc := 103) (v := nI 0) hx hb dX10_number_103 (by decide) ?_
            refine lv_goto (pc := 104) (tgt := 108) hx hb dX10_number_104 (by decide) ?_
            exact hret 108 _ hP hS dX10_number_108 rfl rfl (Or.inr ⟨numR_n2 ⟨by omega, by omega⟩ ⟨by omega, by omega⟩ (by omega), (I.2.2.2.2.2.2.2.1 + 1) + 1, (by omega), rfl, rfl⟩)
      · refine lv_iload (pc := 22) hx hb dX10_number_22 (lv_at hl 0 rfl) ?_
        refine lv_iconst (pc := 24) (v := nI 3) hx hb dX10_number_24 (by decide) ?_
        refine rc_ge (pc := 25) (tgt := 57) hx hb (tI_nI (by omega)) (tI_nI (by omega)) dX10_number_25 (by decide) (fun c25 => (by omega)) (fun c25 => ?_)
        refine lv_bipush (pc := 28) (v := nI 10) hx hb dX10_number_28 (by decide) ?_
        refine lv_iload_n (pc := 30) hx hb dX10_number_30 rfl (lv_at hl 1 rfl) ?_
        refine rz_imul (pc := 31) hx hb (show nI 10 = jI 10 from jI_nat 10) rfl dX10_number_31 ?_
        refine lv_aload_n (pc := 32) hx hb dX10_number_32 rfl (lv_at hl 2 rfl) ?_
        refine ci_Vd (pc := 33) (r0 := jI (nxZ (tx, I.2.2.2.2.2.2.1) ((I.2.2.2.2.2.2.2.1 + 1) + 1))) hF hN hK hP hV hS hA (k_X10_next l D cI cC cB cS o ad P (I.1, I.2.1, I.2.2.1, I.2.2.2.1, I.2.2.2.2.1, I.2.2.2.2.2.1, I.2.2.2.2.2.2.1, (I.2.2.2.2.2.2.2.1 + 1) + 1, I.2.2.2.2.2.2.2.2.1, I.2.2.2.2.2.2.2.2.2.1, I.2.2.2.2.2.2.2.2.2.2.1, I.2.2.2.2.2.2.2.2.2.2.2) tx hlt (show ((I.2.2.2.2.2.2.2.1 + 1) + 1) < 100000 by omega)) (cwV 0 hts gX10_number_X10_next rfl rfl rfl (by decide +kernel) ⟨Nat.le_of_ble_eq_true rfl, Nat.le_of_ble_eq_true rfl⟩) [0, 1] rfl (by decide) 0 10 rfl rfl rfl hl.1 rfl (Nat.le_of_ble_eq_true rfl) dX10_number_33 ⟨Nat.le_refl _, Nat.le_refl _⟩ rfl (ws2 := [rmE o ad (pCells P) P.2.2.2.1 P.2.2.2.2.2.1 P.2.2.2.2.2.2 (I.1, I.2.1, I.2.2.1, I.2.2.2.1, I.2.2.2.2.1, I.2.2.2.2.2.1, I.2.2.2.2.2.2.1, (I.2.2.2.2.2.2.2.1 + 1) + 1, I.2.2.2.2.2.2.2.2.1, I.2.2.2.2.2.2.2.2.2.1, I.2.2.2.2.2.2.2.2.2.2.1, I.2.2.2.2.2.2.2.2.2.2.2), nE 200 (ad 29) cB tx]) rfl (fun H locs hP hS => ?_)
        have fq11 := nxZ_t (tx, I.2.2.2.2.2.2.1) ((I.2.2.2.2.2.2.2.1 + 1) + 1)
        have gq11 := tAt_lt hlt ((I.2.2.2.2.2.2.2.1 + 1) + 1)
        refine rz_iadd (pc := 36) hx hb rfl rfl dX10_number_36 ?_
        refine lv_bipush (pc := 37) (v := nI 48) hx hb dX10_number_37 (by decide) ?_
        refine rz_isub (pc := 39) hx hb rfl (show nI 48 = jI 48 from jI_nat 48) dX10_number_39 ?_
        refine lv_istore_n (pc := 40) (lv' := [(3, .int (jI (((10 * (((10 * (((10 * 0 : Nat) + (nxZ (tx, I.2.2.2.2.2.2.1) I.2.2.2.2.2.2.2.1)) - 48)) + (nxZ (tx, I.2.2.2.2.2.2.1) (I.2.2.2.2.2.2.2.1 + 1))) - 48)) + (nxZ (tx, I.2.2.2.2.2.2.1) ((I.2.2.2.2.2.2.2.1 + 1) + 1))) - 48))), (4, .int (nI 2)), (0, .ref o), (1, .int (x1)), (2, .int (x2))]) hx hb dX10_number_40 rfl hl (by decide) rfl (fun ls hl => ?_)
        refine lv_iinc (pc := 41) (v := nI 3) (lv' := [(4, .int (nI 3)), (3, .int (jI (((10 * (((10 * (((10 * 0 : Nat) + (nxZ (tx, I.2.2.2.2.2.2.1) I.2.2.2.2.2.2.2.1)) - 48)) + (nxZ (tx, I.2.2.2.2.2.2.1) (I.2.2.2.2.2.2.2.1 + 1))) - 48)) + (nxZ (tx, I.2.2.2.2.2.2.1) ((I.2.2.2.2.2.2.2.1 + 1) + 1))) - 48))), (0, .ref o), (1, .int (x1)), (2, .int (x2))]) hx hb dX10_number_41 hl (k := 1) rfl (by decide) (by decide) rfl (fun ls hl => ?_)
        refine lv_aload_n (pc := 44) hx hb dX10_number_44 rfl (lv_at hl 2 rfl) ?_
        refine lv_dup (pc := 45) hx hb dX10_number_45 rfl ?_
        refine va_get (pc := 46) (D := D) (ci := 10) (v := .int (nI ((I.2.2.2.2.2.2.2.1 + 1) + 1))) (C := RX10) (T := TX10) (N := 44) hx hb hts hiX10 hown hK hP 0 rfl rfl 30 (by decide) wf148 (fun _ h9 => h9) rfl dX10_number_46 ?_
        refine lv_iconst (pc := 49) (v := nI 1) hx hb dX10_number_49 (by decide) ?_
        refine rn_iadd (pc := 50) hx hb dX10_number_50 ?_
        refine ra_put (pc := 51) (D := D) (ci := 10) (v := .int (nI (((I.2.2.2.2.2.2.2.1 + 1) + 1) + 1))) (ty := .int) (C := RX10) (T := TX10) (N := 44) (ws2 := [rmE o ad (pCells P) P.2.2.2.1 P.2.2.2.2.2.1 P.2.2.2.2.2.2 (I.1, I.2.1, I.2.2.1, I.2.2.2.1, I.2.2.2.2.1, I.2.2.2.2.2.1, I.2.2.2.2.2.2.1, ((I.2.2.2.2.2.2.2.1 + 1) + 1) + 1, I.2.2.2.2.2.2.2.2.1, I.2.2.2.2.2.2.2.2.2.1, I.2.2.2.2.2.2.2.2.2.2.1, I.2.2.2.2.2.2.2.2.2.2.2), nE 200 (ad 29) cB tx]) hx hb hts hiX10 tyX10 tyX10_ok nmX10 hown hK hP hV hS 0 rfl rfl 30 (by decide) wf148 (fun _ h9 => h9) rfl (by decide +kernel) rfl rfl (Nat.le_of_ble_eq_true rfl) dX10_number_51 rfl rfl (fun H locs hP hS => ?_)
        refine lv_goto (pc := 54) (tgt := 5) hx hb dX10_number_54 (by decide) ?_
        refine lv_aload_n (pc := 5) hx hb dX10_number_5 rfl (lv_at hl 2 rfl) ?_
        refine ci_Vd (pc := 6) (r0 := jI (nxZ (tx, I.2.2.2.2.2.2.1) (((I.2.2.2.2.2.2.2.1 + 1) + 1) + 1))) hF hN hK hP hV hS hA (k_X10_next l D cI cC cB cS o ad P (I.1, I.2.1, I.2.2.1, I.2.2.2.1, I.2.2.2.2.1, I.2.2.2.2.2.1, I.2.2.2.2.2.2.1, ((I.2.2.2.2.2.2.2.1 + 1) + 1) + 1, I.2.2.2.2.2.2.2.2.1, I.2.2.2.2.2.2.2.2.2.1, I.2.2.2.2.2.2.2.2.2.2.1, I.2.2.2.2.2.2.2.2.2.2.2) tx hlt (show (((I.2.2.2.2.2.2.2.1 + 1) + 1) + 1) < 100000 by omega)) (cwV 0 hts gX10_number_X10_next rfl rfl rfl (by decide +kernel) ⟨Nat.le_of_ble_eq_true rfl, Nat.le_of_ble_eq_true rfl⟩) [0, 1] rfl (by decide) 0 10 rfl rfl rfl hl.1 rfl (Nat.le_of_ble_eq_true rfl) dX10_number_6 ⟨Nat.le_refl _, Nat.le_refl _⟩ rfl (ws2 := [rmE o ad (pCells P) P.2.2.2.1 P.2.2.2.2.2.1 P.2.2.2.2.2.2 (I.1, I.2.1, I.2.2.1, I.2.2.2.1, I.2.2.2.2.1, I.2.2.2.2.2.1, I.2.2.2.2.2.2.1, ((I.2.2.2.2.2.2.2.1 + 1) + 1) + 1, I.2.2.2.2.2.2.2.2.1, I.2.2.2.2.2.2.2.2.2.1, I.2.2.2.2.2.2.2.2.2.2.1, I.2.2.2.2.2.2.2.2.2.2.2), nE 200 (ad 29) cB tx]) rfl (fun H locs hP hS => ?_)
        have fq12 := nxZ_t (tx, I.2.2.2.2.2.2.1) (((I.2.2.2.2.2.2.2.1 + 1) + 1) + 1)
        have gq12 := tAt_lt hlt (((I.2.2.2.2.2.2.2.1 + 1) + 1) + 1)
        refine lv_i2l (pc := 9) (v := jL (nxZ (tx, I.2.2.2.2.2.2.1) (((I.2.2.2.2.2.2.2.1 + 1) + 1) + 1))) hx hb dX10_number_9 (i2l_j (jI_to (by omega))) ?_
        refine lv_ldc2 (pc := 10) (v := jL 48) hx hb hown (hts (.constantLong RX10 155 (jL 48)) (by decide +kernel)) dX10_number_10 ?_
        refine lv_ldc2 (pc := 13) (v := jL 57) hx hb hown (hts (.constantLong RX10 157 (jL 57)) (by decide +kernel)) dX10_number_13 ?_
        refine ci_Sd (pc := 16) hF hN hK hP hV hS hA (k_X10_in l D cI cC cB cS (nxZ (tx, I.2.2.2.2.2.2.1) (((I.2.2.2.2.2.2.2.1 + 1) + 1) + 1)) 48 57 (by omega)) (va_cwS 3 hts gX10_number_X10_in rfl rfl rfl (by decide +kernel) ⟨Nat.le_of_ble_eq_true rfl, Nat.le_of_ble_eq_true rfl⟩) [] rfl (by decide) rfl hl.1 rfl (Nat.le_of_ble_eq_true rfl) dX10_number_16 ⟨Nat.le_refl _, Nat.le_refl _⟩ rfl (ws2 := [rmE o ad (pCells P) P.2.2.2.1 P.2.2.2.2.2.1 P.2.2.2.2.2.2 (I.1, I.2.1, I.2.2.1, I.2.2.2.1, I.2.2.2.2.1, I.2.2.2.2.2.1, I.2.2.2.2.2.2.1, ((I.2.2.2.2.2.2.2.1 + 1) + 1) + 1, I.2.2.2.2.2.2.2.2.1, I.2.2.2.2.2.2.2.2.2.1, I.2.2.2.2.2.2.2.2.2.2.1, I.2.2.2.2.2.2.2.2.2.2.2), nE 200 (ad 29) cB tx]) rfl (fun H locs hP hS => ?_)
        refine rb_eq (pc := 19) (tgt := 57) hx hb dX10_number_19 (by decide) (fun c19 => ?_) (fun c19 => ?_)
        · refine lv_aload_n (pc := 57) hx hb dX10_number_57 rfl (lv_at hl 2 rfl) ?_
          refine lv_aload_n (pc := 58) hx hb dX10_number_58 rfl (lv_at hl 2 rfl) ?_
          refine va_get (pc := 59) (D := D) (ci := 10) (v := .int (nI I.2.2.2.2.2.2.2.2.2.1)) (C := RX10) (T := TX10) (N := 44) hx hb hts hiX10 hown hK hP 0 rfl rfl 32 (by decide) wf159 (fun _ h9 => h9) rfl dX10_number_59 ?_
          refine r0_ne (pc := 62) (tgt := 88) hx hb (tI_nI (by omega)) dX10_number_62 (by decide) (fun c62 => ?_) (fun c62 => ?_)
          · omega
          · refine lv_iload (pc := 65) hx hb dX10_number_65 (lv_at hl 0 rfl) ?_
            refine r0_eq (pc := 67) (tgt := 88) hx hb (tI_nI (by omega)) dX10_number_67 (by decide) (fun c67 => (by omega)) (fun c67 => ?_)
            refine lv_iload (pc := 70) hx hb dX10_number_70 (lv_at hl 0 rfl) ?_
            refine lv_iconst (pc := 72) (v := nI 2) hx hb dX10_number_72 (by decide) ?_
            refine rc_gt (pc := 73) (tgt := 88) hx hb (tI_nI (by omega)) (tI_nI (by omega)) dX10_number_73 (by decide) (fun c73 => ?_) (fun c73 => (by omega))
            refine lv_iconst (pc := 88) (v := nI 1) hx hb dX10_number_88 (by decide) ?_
            refine lv_goto (pc := 89) (tgt := 93) hx hb dX10_number_89 (by decide) ?_
            refine ra_put (pc := 93) (D := D) (ci := 10) (v := .int (nI 1)) (ty := .boolean) (C := RX10) (T := TX10) (N := 44) (ws2 := [rmE o ad (pCells P) P.2.2.2.1 P.2.2.2.2.2.1 P.2.2.2.2.2.2 (I.1, I.2.1, I.2.2.1, I.2.2.2.1, I.2.2.2.2.1, I.2.2.2.2.2.1, I.2.2.2.2.2.2.1, ((I.2.2.2.2.2.2.2.1 + 1) + 1) + 1, I.2.2.2.2.2.2.2.2.1, 1, I.2.2.2.2.2.2.2.2.2.2.1, I.2.2.2.2.2.2.2.2.2.2.2), nE 200 (ad 29) cB tx]) hx hb hts hiX10 tyX10 tyX10_ok nmX10 hown hK hP hV hS 0 rfl rfl 32 (by decide) wf159 (fun _ h9 => h9) rfl (by decide +kernel) rfl rfl (Nat.le_of_ble_eq_true rfl) dX10_number_93 rfl rfl (fun H locs hP hS => ?_)
            refine lv_aload_n (pc := 96) hx hb dX10_number_96 rfl (lv_at hl 2 rfl) ?_
            refine va_get (pc := 97) (D := D) (ci := 10) (v := .int (nI 1)) (C := RX10) (T := TX10) (N := 44) hx hb hts hiX10 hown hK hP 0 rfl rfl 32 (by decide) wf159 (fun _ h9 => h9) rfl dX10_number_97 ?_
            refine r0_eq (pc := 100) (tgt := 107) hx hb (tI_nI (by omega)) dX10_number_100 (by decide) (fun c100 => (by omega)) (fun c100 => ?_)
            refine lv_iconst (pc := 103) (v := nI 0) hx hb dX10_number_103 (by decide) ?_
            refine lv_goto (pc := 104) (tgt := 108) hx hb dX10_number_104 (by decide) ?_
            exact hret 108 _ hP hS dX10_number_108 rfl rfl (Or.inr ⟨numR_3 ⟨by omega, by omega⟩ ⟨by omega, by omega⟩ (show isF (tx, I.2.2.2.2.2.2.1) (I.2.2.2.2.2.2.2.1 + 1 + 1) from ⟨by omega, by omega⟩), ((I.2.2.2.2.2.2.2.1 + 1) + 1) + 1, (by omega), rfl, rfl⟩)
        · refine lv_iload (pc := 22) hx hb dX10_number_22 (lv_at hl 0 rfl) ?_
          refine lv_iconst (pc := 24) (v := nI 3) hx hb dX10_number_24 (by decide) ?_
          refine rc_ge (pc := 25) (tgt := 57) hx hb (tI_nI (by omega)) (tI_nI (by omega)) dX10_number_25 (by decide) (fun c25 => ?_) (fun c25 => (by omega))
          refine lv_aload_n (pc := 57) hx hb dX10_number_57 rfl (lv_at hl 2 rfl) ?_
          refine lv_aload_n (pc := 58) hx hb dX10_number_58 rfl (lv_at hl 2 rfl) ?_
          refine va_get (pc := 59) (D := D) (ci := 10) (v := .int (nI I.2.2.2.2.2.2.2.2.2.1)) (C := RX10) (T := TX10) (N := 44) hx hb hts hiX10 hown hK hP 0 rfl rfl 32 (by decide) wf159 (fun _ h9 => h9) rfl dX10_number_59 ?_
          refine r0_ne (pc := 62) (tgt := 88) hx hb (tI_nI (by omega)) dX10_number_62 (by decide) (fun c62 => ?_) (fun c62 => ?_)
          · omega
          · refine lv_iload (pc := 65) hx hb dX10_number_65 (lv_at hl 0 rfl) ?_
            refine r0_eq (pc := 67) (tgt := 88) hx hb (tI_nI (by omega)) dX10_number_67 (by decide) (fun c67 => (by omega)) (fun c67 => ?_)
            refine lv_iload (pc := 70) hx hb dX10_number_70 (lv_at hl 0 rfl) ?_
            refine lv_iconst (pc := 72) (v := nI 2) hx hb dX10_number_72 (by decide) ?_
            refine rc_gt (pc := 73) (tgt := 88) hx hb (tI_nI (by omega)) (tI_nI (by omega)) dX10_number_73 (by decide) (fun c73 => ?_) (fun c73 => (by omega))
            refine lv_iconst (pc := 88) (v := nI 1) hx hb dX10_number_88 (by decide) ?_
            refine lv_goto (pc := 89) (tgt := 93) hx hb dX10_number_89 (by decide) ?_
            refine ra_put (pc := 93) (D := D) (ci := 10) (v := .int (nI 1)) (ty := .boolean) (C := RX10) (T := TX10) (N := 44) (ws2 := [rmE o ad (pCells P) P.2.2.2.1 P.2.2.2.2.2.1 P.2.2.2.2.2.2 (I.1, I.2.1, I.2.2.1, I.2.2.2.1, I.2.2.2.2.1, I.2.2.2.2.2.1, I.2.2.2.2.2.2.1, ((I.2.2.2.2.2.2.2.1 + 1) + 1) + 1, I.2.2.2.2.2.2.2.2.1, 1, I.2.2.2.2.2.2.2.2.2.2.1, I.2.2.2.2.2.2.2.2.2.2.2), nE 200 (ad 29) cB tx]) hx hb hts hiX10 tyX10 tyX10_ok nmX10 hown hK hP hV hS 0 rfl rfl 32 (by decide) wf159 (fun _ h9 => h9) rfl (by decide +kernel) rfl rfl (Nat.le_of_ble_eq_true rfl) dX10_number_93 rfl rfl (fun H locs hP hS => ?_)
            refine lv_aload_n (pc := 96) hx hb dX10_number_96 rfl (lv_at hl 2 rfl) ?_
            refine va_get (pc := 97) (D := D) (ci := 10) (v := .int (nI 1)) (C := RX10) (T := TX10) (N := 44) hx hb hts hiX10 hown hK hP 0 rfl rfl 32 (by decide) wf159 (fun _ h9 => h9) rfl dX10_number_97 ?_
            refine r0_eq (pc := 100) (tgt := 107) hx hb (tI_nI (by omega)) dX10_number_100 (by decide) (fun c100 => (by omega)) (fun c100 => ?_)
            refine lv_iconst (pc := 103) (v := nI 0) hx hb dX10_number_103 (by decide) ?_
            refine lv_goto (pc := 104) (tgt := 108) hx hb dX10_number_104 (by decide) ?_
            exact hret 108 _ hP hS dX10_number_108 rfl rfl (Or.inr ⟨numR_3 ⟨by omega, by omega⟩ ⟨by omega, by omega⟩ (show isF (tx, I.2.2.2.2.2.2.1) (I.2.2.2.2.2.2.2.1 + 1 + 1) from ⟨by omega, by omega⟩), ((I.2.2.2.2.2.2.2.1 + 1) + 1) + 1, (by omega), rfl, rfl⟩)
abbrev rmX10_more : Room := { frames := 2, cells := 0, slots := 0, locals := 49 }
set_option maxHeartbeats 4000000 in
set_option maxRecDepth 100000 in
theorem k_X10_more (l : Launch) (D : va_G) (cI cC cB cS : ClassId) (o : Nat) (ad : Nat → Nat) (P : PL) (I : RI) (tx : Nat → Nat) (x1 : Int32) (z1 : Int) (hz1 : x1.toInt = z1) (x2 : Int32) (z2 : Int) (hz2 : x2.toInt = z2) (hlt : ltOK (tx, I.2.2.2.2.2.2.1)) (hw0 : I.2.2.2.2.2.2.2.2.2.1 = 0) (hat7 : I.2.2.2.2.2.2.2.1 < 40000) : CI l D (kT cI cC cB cS) yX10_more wsX10_more rmX10_more [.ref o, .int (x1), .int (x2)] ([rmE o ad (pCells P) P.2.2.2.1 P.2.2.2.2.2.1 P.2.2.2.2.2.2 I, nE 200 (ad 29) cB tx]) (fun r u => (∃ v k1, moreR (tx, I.2.2.2.2.2.2.1) I.2.2.2.2.2.2.2.1 z1 z2 = some (v, k1) ∧ r = nI v ∧ u = [rmE o ad (pCells P) P.2.2.2.1 P.2.2.2.2.2.1 P.2.2.2.2.2.2 (I.1, I.2.1, I.2.2.1, I.2.2.2.1, I.2.2.2.2.1, I.2.2.2.2.2.1, I.2.2.2.2.2.2.1, k1, I.2.2.2.2.2.2.2.2.1, 0, I.2.2.2.2.2.2.2.2.2.2.1, I.2.2.2.2.2.2.2.2.2.2.2), nE 200 (ad 29) cB tx]) ∨ (moreR (tx, I.2.2.2.2.2.2.1) I.2.2.2.2.2.2.2.1 z1 z2 = none ∧ ∃ k1, (I.2.2.2.2.2.2.2.1 ≤ k1 ∧ k1 ≤ I.2.2.2.2.2.2.2.1 + 5) ∧ r = nI 0 ∧ u = [rmE o ad (pCells P) P.2.2.2.1 P.2.2.2.2.2.1 P.2.2.2.2.2.2 (I.1, I.2.1, I.2.2.1, I.2.2.2.1, I.2.2.2.2.1, I.2.2.2.2.2.1, I.2.2.2.2.2.2.1, k1, I.2.2.2.2.2.2.2.2.1, 1, I.2.2.2.2.2.2.2.2.2.2.1, I.2.2.2.2.2.2.2.2.2.2.2), nE 200 (ad 29) cB tx])) := by
  refine ci_intro (by decide) rfl (Nat.le_of_ble_eq_true rfl) ?_
  intro p e s m args below meth c ls A QF hF hK hP hV hS hA hN hl hret
  obtain ⟨hx, hb, hml, hown, hts⟩ := id hF
  have hP : va_P D vwCl ([rmE o ad (pCells P) P.2.2.2.1 P.2.2.2.2.2.1 P.2.2.2.2.2.2 I, nE 200 (ad 29) cB tx]) s.heap := hP
  have hl : lv_has ls 3 [(0, .ref o), (1, .int (x1)), (2, .int (x2))] := hl
  have wf148 := hts (.fieldLink RX10 148 "RemorseWallModel" "at" "I") (by decide +kernel)
  have wf159 := hts (.fieldLink RX10 159 "RemorseWallModel" "isWrong" "Z") (by decide +kernel)
  have hiX10 : ∀ w ∈ u_ws RX10 TX10 44, w ∈ wsX10_more := by decide +kernel
  refine lv_aload_n (pc := 0) hx hb dX10_more_0 rfl (lv_at hl 0 rfl) ?_
  refine lv_aload_n (pc := 1) hx hb dX10_more_1 rfl (lv_at hl 0 rfl) ?_
  refine va_get (pc := 2) (D := D) (ci := 10) (v := .int (nI I.2.2.2.2.2.2.2.2.2.1)) (C := RX10) (T := TX10) (N := 44) hx hb hts hiX10 hown hK hP 0 rfl rfl 32 (by decide) wf159 (fun _ h9 => h9) rfl dX10_more_2 ?_
  refine r0_ne (pc := 5) (tgt := 17) hx hb (tI_nI (by omega)) dX10_more_5 (by decide) (fun c5 => ?_) (fun c5 => ?_)
  · omega
  · refine lv_aload_n (pc := 8) hx hb dX10_more_8 rfl (lv_at hl 0 rfl) ?_
    refine ci_Vd (pc := 9) (r0 := jI (nxZ (tx, I.2.2.2.2.2.2.1) I.2.2.2.2.2.2.2.1)) hF hN hK hP hV hS hA (k_X10_next l D cI cC cB cS o ad P I tx hlt (by omega)) (cwV 0 hts gX10_more_X10_next rfl rfl rfl (by decide +kernel) ⟨Nat.le_of_ble_eq_true rfl, Nat.le_of_ble_eq_true rfl⟩) [0, 1] rfl (by decide) 0 10 rfl rfl rfl hl.1 rfl (Nat.le_of_ble_eq_true rfl) dX10_more_9 ⟨Nat.le_refl _, Nat.le_refl _⟩ rfl (ws2 := [rmE o ad (pCells P) P.2.2.2.1 P.2.2.2.2.2.1 P.2.2.2.2.2.2 I, nE 200 (ad 29) cB tx]) rfl (fun H locs hP hS => ?_)
    have fq1 := nxZ_t (tx, I.2.2.2.2.2.2.1) I.2.2.2.2.2.2.2.1
    have gq1 := tAt_lt hlt I.2.2.2.2.2.2.2.1
    refine lv_bipush (pc := 12) (v := nI 44) hx hb dX10_more_12 (by decide) ?_
    refine rc_eq (pc := 14) (tgt := 21) hx hb (jI_to (by omega)) (tI_nI (by omega)) dX10_more_14 (by decide) (fun c14 => ?_) (fun c14 => ?_)
    · refine lv_iconst (pc := 21) (v := nI 0) hx hb dX10_more_21 (by decide) ?_
      refine ra_put (pc := 22) (D := D) (ci := 10) (v := .int (nI 0)) (ty := .boolean) (C := RX10) (T := TX10) (N := 44) (ws2 := [rmE o ad (pCells P) P.2.2.2.1 P.2.2.2.2.2.1 P.2.2.2.2.2.2 (I.1, I.2.1, I.2.2.1, I.2.2.2.1, I.2.2.2.2.1, I.2.2.2.2.2.1, I.2.2.2.2.2.2.1, I.2.2.2.2.2.2.2.1, I.2.2.2.2.2.2.2.2.1, 0, I.2.2.2.2.2.2.2.2.2.2.1, I.2.2.2.2.2.2.2.2.2.2.2), nE 200 (ad 29) cB tx]) hx hb hts hiX10 tyX10 tyX10_ok nmX10 hown hK hP hV hS 0 rfl rfl 32 (by decide) wf159 (fun _ h9 => h9) rfl (by decide +kernel) rfl rfl (Nat.le_of_ble_eq_true rfl) dX10_more_22 rfl rfl (fun H locs hP hS => ?_)
      refine lv_aload_n (pc := 25) hx hb dX10_more_25 rfl (lv_at hl 0 rfl) ?_
      refine lv_dup (pc := 26) hx hb dX10_more_26 rfl ?_
      refine va_get (pc := 27) (D := D) (ci := 10) (v := .int (nI I.2.2.2.2.2.2.2.1)) (C := RX10) (T := TX10) (N := 44) hx hb hts hiX10 hown hK hP 0 rfl rfl 30 (by decide) wf148 (fun _ h9 => h9) rfl dX10_more_27 ?_
      refine lv_iconst (pc := 30) (v := nI 1) hx hb dX10_more_30 (by decide) ?_
      refine rn_iadd (pc := 31) hx hb dX10_more_31 ?_
      refine ra_put (pc := 32) (D := D) (ci := 10) (v := .int (nI (I.2.2.2.2.2.2.2.1 + 1))) (ty := .int) (C := RX10) (T := TX10) (N := 44) (ws2 := [rmE o ad (pCells P) P.2.2.2.1 P.2.2.2.2.2.1 P.2.2.2.2.2.2 (I.1, I.2.1, I.2.2.1, I.2.2.2.1, I.2.2.2.2.1, I.2.2.2.2.2.1, I.2.2.2.2.2.2.1, I.2.2.2.2.2.2.2.1 + 1, I.2.2.2.2.2.2.2.2.1, 0, I.2.2.2.2.2.2.2.2.2.2.1, I.2.2.2.2.2.2.2.2.2.2.2), nE 200 (ad 29) cB tx]) hx hb hts hiX10 tyX10 tyX10_ok nmX10 hown hK hP hV hS 0 rfl rfl 30 (by decide) wf148 (fun _ h9 => h9) rfl (by decide +kernel) rfl rfl (Nat.le_of_ble_eq_true rfl) dX10_more_32 rfl rfl (fun H locs hP hS => ?_)
      refine lv_aload_n (pc := 35) hx hb dX10_more_35 rfl (lv_at hl 0 rfl) ?_
      refine va_get (pc := 36) (D := D) (ci := 10) (v := .int (nI 0)) (C := RX10) (T := TX10) (N := 44) hx hb hts hiX10 hown hK hP 0 rfl rfl 32 (by decide) wf159 (fun _ h9 => h9) rfl dX10_more_36 ?_
      refine r0_eq (pc := 39) (tgt := 46) hx hb (tI_nI (by omega)) dX10_more_39 (by decide) (fun c39 => ?_) (fun c39 => (by omega))
      refine lv_aload_n (pc := 46) hx hb dX10_more_46 rfl (lv_at hl 0 rfl) ?_
      refine lv_iload_n (pc := 47) hx hb dX10_more_47 rfl (lv_at hl 1 rfl) ?_
      refine lv_iload_n (pc := 48) hx hb dX10_more_48 rfl (lv_at hl 2 rfl) ?_
      refine ci_V (pc := 49) hF hN hK hP hV hS hA (k_X10_number l D cI cC cB cS o ad P (I.1, I.2.1, I.2.2.1, I.2.2.2.1, I.2.2.2.2.1, I.2.2.2.2.2.1, I.2.2.2.2.2.2.1, I.2.2.2.2.2.2.2.1 + 1, I.2.2.2.2.2.2.2.2.1, 0, I.2.2.2.2.2.2.2.2.2.2.1, I.2.2.2.2.2.2.2.2.2.2.2) tx (x1) z1 hz1 (x2) z2 hz2 hlt (show 0 = 0 by omega) (show (I.2.2.2.2.2.2.2.1 + 1) < 50000 by omega)) (cwV 2 hts gX10_more_X10_number rfl rfl rfl (by decide +kernel) ⟨Nat.le_of_ble_eq_true rfl, Nat.le_of_ble_eq_true rfl⟩) [0, 1] rfl (by decide) 0 10 rfl rfl rfl hl.1 rfl (Nat.le_of_ble_eq_true rfl) dX10_more_49 ⟨Nat.le_refl _, Nat.le_refl _⟩ rfl (fun r u H locs hq hu hP hS => ?_)
      rcases hq with ⟨vn3, kn3, hvn3, rfl, rfl⟩ | ⟨hvn3, kn3, hkn3, rfl, rfl⟩
      · have hP : va_P D vwCl ([rmE o ad (pCells P) P.2.2.2.1 P.2.2.2.2.2.1 P.2.2.2.2.2.2 (I.1, I.2.1, I.2.2.1, I.2.2.2.1, I.2.2.2.2.1, I.2.2.2.2.2.1, I.2.2.2.2.2.2.1, kn3, I.2.2.2.2.2.2.2.2.1, 0, I.2.2.2.2.2.2.2.2.2.2.1, I.2.2.2.2.2.2.2.2.2.2.2), nE 200 (ad 29) cB tx]) H := hP
        try dsimp only at hvn3
        exact hret 52 _ hP hS dX10_more_52 rfl rfl (Or.inl ⟨vn3, kn3, (by rw [moreR_yes (by omega)]; exact hvn3), rfl, rfl⟩)
      · have hP : va_P D vwCl ([rmE o ad (pCells P) P.2.2.2.1 P.2.2.2.2.2.1 P.2.2.2.2.2.2 (I.1, I.2.1, I.2.2.1, I.2.2.2.1, I.2.2.2.2.1, I.2.2.2.2.2.1, I.2.2.2.2.2.2.1, kn3, I.2.2.2.2.2.2.2.2.1, 1, I.2.2.2.2.2.2.2.2.2.2.1, I.2.2.2.2.2.2.2.2.2.2.2), nE 200 (ad 29) cB tx]) H := hP
        try dsimp only at hkn3 hvn3
        exact hret 52 _ hP hS dX10_more_52 rfl rfl (Or.inr ⟨(by rw [moreR_yes (by omega)]; exact hvn3), kn3, (by omega), rfl, rfl⟩)
    · refine lv_iconst (pc := 17) (v := nI 1) hx hb dX10_more_17 (by decide) ?_
      refine lv_goto (pc := 18) (tgt := 22) hx hb dX10_more_18 (by decide) ?_
      refine ra_put (pc := 22) (D := D) (ci := 10) (v := .int (nI 1)) (ty := .boolean) (C := RX10) (T := TX10) (N := 44) (ws2 := [rmE o ad (pCells P) P.2.2.2.1 P.2.2.2.2.2.1 P.2.2.2.2.2.2 (I.1, I.2.1, I.2.2.1, I.2.2.2.1, I.2.2.2.2.1, I.2.2.2.2.2.1, I.2.2.2.2.2.2.1, I.2.2.2.2.2.2.2.1, I.2.2.2.2.2.2.2.2.1, 1, I.2.2.2.2.2.2.2.2.2.2.1, I.2.2.2.2.2.2.2.2.2.2.2), nE 200 (ad 29) cB tx]) hx hb hts hiX10 tyX10 tyX10_ok nmX10 hown hK hP hV hS 0 rfl rfl 32 (by decide) wf159 (fun _ h9 => h9) rfl (by decide +kernel) rfl rfl (Nat.le_of_ble_eq_true rfl) dX10_more_22 rfl rfl (fun H locs hP hS => ?_)
      refine lv_aload_n (pc := 25) hx hb dX10_more_25 rfl (lv_at hl 0 rfl) ?_
      refine lv_dup (pc := 26) hx hb dX10_more_26 rfl ?_
      refine va_get (pc := 27) (D := D) (ci := 10) (v := .int (nI I.2.2.2.2.2.2.2.1)) (C := RX10) (T := TX10) (N := 44) hx hb hts hiX10 hown hK hP 0 rfl rfl 30 (by decide) wf148 (fun _ h9 => h9) rfl dX10_more_27 ?_
      refine lv_iconst (pc := 30) (v := nI 1) hx hb dX10_more_30 (by decide) ?_
      refine rn_iadd (pc := 31) hx hb dX10_more_31 ?_
      refine ra_put (pc := 32) (D := D) (ci := 10) (v := .int (nI (I.2.2.2.2.2.2.2.1 + 1))) (ty := .int) (C := RX10) (T := TX10) (N := 44) (ws2 := [rmE o ad (pCells P) P.2.2.2.1 P.2.2.2.2.2.1 P.2.2.2.2.2.2 (I.1, I.2.1, I.2.2.1, I.2.2.2.1, I.2.2.2.2.1, I.2.2.2.2.2.1, I.2.2.2.2.2.2.1, I.2.2.2.2.2.2.2.1 + 1, I.2.2.2.2.2.2.2.2.1, 1, I.2.2.2.2.2.2.2.2.2.2.1, I.2.2.2.2.2.2.2.2.2.2.2), nE 200 (ad 29) cB tx]) hx hb hts hiX10 tyX10 tyX10_ok nmX10 hown hK hP hV hS 0 rfl rfl 30 (by decide) wf148 (fun _ h9 => h9) rfl (by decide +kernel) rfl rfl (Nat.le_of_ble_eq_true rfl) dX10_more_32 rfl rfl (fun H locs hP hS => ?_)
      refine lv_aload_n (pc := 35) hx hb dX10_more_35 rfl (lv_at hl 0 rfl) ?_
      refine va_get (pc := 36) (D := D) (ci := 10) (v := .int (nI 1)) (C := RX10) (T := TX10) (N := 44) hx hb hts hiX10 hown hK hP 0 rfl rfl 32 (by decide) wf159 (fun _ h9 => h9) rfl dX10_more_36 ?_
      refine r0_eq (pc := 39) (tgt := 46) hx hb (tI_nI (by omega)) dX10_more_39 (by decide) (fun c39 => (by omega)) (fun c39 => ?_)
      refine lv_iconst (pc := 42) (v := nI 0) hx hb dX10_more_42 (by decide) ?_
      refine lv_goto (pc := 43) (tgt := 52) hx hb dX10_more_43 (by decide) ?_
      exact hret 52 _ hP hS dX10_more_52 rfl rfl (Or.inr ⟨moreR_no (by omega), I.2.2.2.2.2.2.2.1 + 1, (by omega), rfl, rfl⟩)
set_option maxHeartbeats 4000000 in
set_option maxRecDepth 100000 in
theorem k_X10_moreW (l : Launch) (D : va_G) (cI cC cB cS : ClassId) (o : Nat) (ad : Nat → Nat) (P : PL) (I : RI) (tx : Nat → Nat) (x1 : Int32) (z1 : Int) (hz1 : x1.toInt = z1) (x2 : Int32) (z2 : Int) (hz2 : x2.toInt = z2) (hlt : ltOK (tx, I.2.2.2.2.2.2.1)) (hw1 : I.2.2.2.2.2.2.2.2.2.1 = 1) (hat7 : I.2.2.2.2.2.2.2.1 < 40000) : CI l D (kT cI cC cB cS) yX10_more wsX10_more rmX10_more [.ref o, .int (x1), .int (x2)] ([rmE o ad (pCells P) P.2.2.2.1 P.2.2.2.2.2.1 P.2.2.2.2.2.2 I, nE 200 (ad 29) cB tx]) (fun r u => r = nI 0 ∧ u = [rmE o ad (pCells P) P.2.2.2.1 P.2.2.2.2.2.1 P.2.2.2.2.2.2 (I.1, I.2.1, I.2.2.1, I.2.2.2.1, I.2.2.2.2.1, I.2.2.2.2.2.1, I.2.2.2.2.2.2.1, I.2.2.2.2.2.2.2.1 + 1, I.2.2.2.2.2.2.2.2.1, 1, I.2.2.2.2.2.2.2.2.2.2.1, I.2.2.2.2.2.2.2.2.2.2.2), nE 200 (ad 29) cB tx]) := by
  refine ci_intro (by decide) rfl (Nat.le_of_ble_eq_true rfl) ?_
  intro p e s m args below meth c ls A QF hF hK hP hV hS hA hN hl hret
  obtain ⟨hx, hb, hml, hown, hts⟩ := id hF
  have hP : va_P D vwCl ([rmE o ad (pCells P) P.2.2.2.1 P.2.2.2.2.2.1 P.2.2.2.2.2.2 I, nE 200 (ad 29) cB tx]) s.heap := hP
  have hl : lv_has ls 3 [(0, .ref o), (1, .int (x1)), (2, .int (x2))] := hl
  have wf148 := hts (.fieldLink RX10 148 "RemorseWallModel" "at" "I") (by decide +kernel)
  have wf159 := hts (.fieldLink RX10 159 "RemorseWallModel" "isWrong" "Z") (by decide +kernel)
  have hiX10 : ∀ w ∈ u_ws RX10 TX10 44, w ∈ wsX10_more := by decide +kernel
  refine lv_aload_n (pc := 0) hx hb dX10_more_0 rfl (lv_at hl 0 rfl) ?_
  refine lv_aload_n (pc := 1) hx hb dX10_more_1 rfl (lv_at hl 0 rfl) ?_
  refine va_get (pc := 2) (D := D) (ci := 10) (v := .int (nI I.2.2.2.2.2.2.2.2.2.1)) (C := RX10) (T := TX10) (N := 44) hx hb hts hiX10 hown hK hP 0 rfl rfl 32 (by decide) wf159 (fun _ h9 => h9) rfl dX10_more_2 ?_
  refine r0_ne (pc := 5) (tgt := 17) hx hb (tI_nI (by omega)) dX10_more_5 (by decide) (fun c5 => ?_) (fun c5 => ?_)
  · refine lv_iconst (pc := 17) (v := nI 1) hx hb dX10_more_17 (by decide) ?_
    refine lv_goto (pc := 18) (tgt := 22) hx hb dX10_more_18 (by decide) ?_
    refine ra_put (pc := 22) (D := D) (ci := 10) (v := .int (nI 1)) (ty := .boolean) (C := RX10) (T := TX10) (N := 44) (ws2 := [rmE o ad (pCells P) P.2.2.2.1 P.2.2.2.2.2.1 P.2.2.2.2.2.2 (I.1, I.2.1, I.2.2.1, I.2.2.2.1, I.2.2.2.2.1, I.2.2.2.2.2.1, I.2.2.2.2.2.2.1, I.2.2.2.2.2.2.2.1, I.2.2.2.2.2.2.2.2.1, 1, I.2.2.2.2.2.2.2.2.2.2.1, I.2.2.2.2.2.2.2.2.2.2.2), nE 200 (ad 29) cB tx]) hx hb hts hiX10 tyX10 tyX10_ok nmX10 hown hK hP hV hS 0 rfl rfl 32 (by decide) wf159 (fun _ h9 => h9) rfl (by decide +kernel) rfl rfl (Nat.le_of_ble_eq_true rfl) dX10_more_22 rfl rfl (fun H locs hP hS => ?_)
    refine lv_aload_n (pc := 25) hx hb dX10_more_25 rfl (lv_at hl 0 rfl) ?_
    refine lv_dup (pc := 26) hx hb dX10_more_26 rfl ?_
    refine va_get (pc := 27) (D := D) (ci := 10) (v := .int (nI I.2.2.2.2.2.2.2.1)) (C := RX10) (T := TX10) (N := 44) hx hb hts hiX10 hown hK hP 0 rfl rfl 30 (by decide) wf148 (fun _ h9 => h9) rfl dX10_more_27 ?_
    refine lv_iconst (pc := 30) (v := nI 1) hx hb dX10_more_30 (by decide) ?_
    refine rn_iadd (pc := 31) hx hb dX10_more_31 ?_
    refine ra_put (pc := 32) (D := D) (ci := 10) (v := .int (nI (I.2.2.2.2.2.2.2.1 + 1))) (ty := .int) (C := RX10) (T := TX10) (N := 44) (ws2 := [rmE o ad (pCells P) P.2.2.2.1 P.2.2.2.2.2.1 P.2.2.2.2.2.2 (I.1, I.2.1, I.2.2.1, I.2.2.2.1, I.2.2.2.2.1, I.2.2.2.2.2.1, I.2.2.2.2.2.2.1, I.2.2.2.2.2.2.2.1 + 1, I.2.2.2.2.2.2.2.2.1, 1, I.2.2.2.2.2.2.2.2.2.2.1, I.2.2.2.2.2.2.2.2.2.2.2), nE 200 (ad 29) cB tx]) hx hb hts hiX10 tyX10 tyX10_ok nmX10 hown hK hP hV hS 0 rfl rfl 30 (by decide) wf148 (fun _ h9 => h9) rfl (by decide +kernel) rfl rfl (Nat.le_of_ble_eq_true rfl) dX10_more_32 rfl rfl (fun H locs hP hS => ?_)
    refine lv_aload_n (pc := 35) hx hb dX10_more_35 rfl (lv_at hl 0 rfl) ?_
    refine va_get (pc := 36) (D := D) (ci := 10) (v := .int (nI 1)) (C := RX10) (T := TX10) (N := 44) hx hb hts hiX10 hown hK hP 0 rfl rfl 32 (by decide) wf159 (fun _ h9 => h9) rfl dX10_more_36 ?_
    refine r0_eq (pc := 39) (tgt := 46) hx hb (tI_nI (by omega)) dX10_more_39 (by decide) (fun c39 => (by omega)) (fun c39 => ?_)
    refine lv_iconst (pc := 42) (v := nI 0) hx hb dX10_more_42 (by decide) ?_
    refine lv_goto (pc := 43) (tgt := 52) hx hb dX10_more_43 (by decide) ?_
    exact hret 52 _ hP hS dX10_more_52 rfl rfl ⟨rfl, rfl⟩
  · omega
