abbrev rmX10_write : Room := { frames := 1, cells := 0, slots := 0, locals := 25 }
set_option maxHeartbeats 4000000 in
set_option maxRecDepth 100000 in
theorem k_X10_write (l : Launch) (D : va_G) (cI cC cB cS : ClassId) (o : Nat) (ad : Nat → Nat) (P : PL) (I : RI) (tx : Nat → Nat) (x1 : Int32) (z1 : Int) (hz1 : x1.toInt = z1) (hlen : I.2.2.2.2.2.2.1 ≤ 200) : CI l D (kT cI cC cB cS) yX10_write wsX10_write rmX10_write [.ref o, .int (x1)] ([rmE o ad (pCells P) P.2.2.2.1 P.2.2.2.2.2.1 P.2.2.2.2.2.2 I, nE 200 (ad 29) cB tx]) (fun r u => r = jI (zWrite (tx, I.2.2.2.2.2.2.1) z1) ∧ u = [rmE o ad (pCells P) P.2.2.2.1 P.2.2.2.2.2.1 P.2.2.2.2.2.2 (I.1, I.2.1, I.2.2.1, I.2.2.2.1, I.2.2.2.2.1, I.2.2.2.2.2.1, (tWrite (tx, I.2.2.2.2.2.2.1) z1).2, I.2.2.2.2.2.2.2.1, I.2.2.2.2.2.2.2.2.1, I.2.2.2.2.2.2.2.2.2.1, I.2.2.2.2.2.2.2.2.2.2.1, I.2.2.2.2.2.2.2.2.2.2.2), nE 200 (ad 29) cB ((tWrite (tx, I.2.2.2.2.2.2.1) z1).1)]) := by
  refine ci_intro (by decide) rfl (Nat.le_of_ble_eq_true rfl) ?_
  intro p e s m args below meth c ls A QF hF hK hP hV hS hA hN hl hret
  obtain ⟨hx, hb, hml, hown, hts⟩ := id hF
  have hP : va_P D vwCl ([rmE o ad (pCells P) P.2.2.2.1 P.2.2.2.2.2.1 P.2.2.2.2.2.2 I, nE 200 (ad 29) cB tx]) s.heap := hP
  have hl : lv_has ls 2 [(0, .ref o), (1, .int (x1))] := hl
  have wf64 := hts (.fieldLink RX10 64 "RemorseWallModel" "text" "[B") (by decide +kernel)
  have wf145 := hts (.fieldLink RX10 145 "RemorseWallModel" "length" "I") (by decide +kernel)
  have hiX10 : ∀ w ∈ u_ws RX10 TX10 44, w ∈ wsX10_write := by decide +kernel
  have hr1 := i32_rng x1
  rw [hz1] at hr1
  refine lv_iload_n (pc := 0) hx hb dX10_write_0 rfl (lv_at hl 1 rfl) ?_
  refine lv_i2l (pc := 1) (v := jL z1) hx hb dX10_write_1 (i2l_j hz1) ?_
  refine lv_ldc2 (pc := 2) (v := jL 32) hx hb hown (hts (.constantLong RX10 141 (jL 32)) (by decide +kernel)) dX10_write_2 ?_
  refine lv_ldc2 (pc := 5) (v := jL 126) hx hb hown (hts (.constantLong RX10 143 (jL 126)) (by decide +kernel)) dX10_write_5 ?_
  refine ci_Sd (pc := 8) hF hN hK hP hV hS hA (k_X10_in l D cI cC cB cS z1 32 126 (by omega)) (va_cwS 3 hts gX10_write_X10_in rfl rfl rfl (by decide +kernel) ⟨Nat.le_of_ble_eq_true rfl, Nat.le_of_ble_eq_true rfl⟩) [] rfl (by decide) rfl hl.1 rfl (Nat.le_of_ble_eq_true rfl) dX10_write_8 ⟨Nat.le_refl _, Nat.le_refl _⟩ rfl (ws2 := [rmE o ad (pCells P) P.2.2.2.1 P.2.2.2.2.2.1 P.2.2.2.2.2.2 I, nE 200 (ad 29) cB tx]) rfl (fun H locs hP hS => ?_)
  refine rb_ne (pc := 11) (tgt := 16) hx hb dX10_write_11 (by decide) (fun c11 => ?_) (fun c11 => ?_)
  · obtain ⟨k, rfl⟩ : ∃ k : Nat, z1 = k := ⟨z1.toNat, by omega⟩
    obtain rfl : x1 = nI k := eq_nI hz1
    refine lv_aload_n (pc := 16) hx hb dX10_write_16 rfl (lv_at hl 0 rfl) ?_
    refine va_get (pc := 17) (D := D) (ci := 10) (v := .int (nI I.2.2.2.2.2.2.1)) (C := RX10) (T := TX10) (N := 44) hx hb hts hiX10 hown hK hP 0 rfl rfl 28 (by decide) wf145 (fun _ h9 => h9) rfl dX10_write_17 ?_
    refine lv_sipush (pc := 20) (v := nI 200) hx hb dX10_write_20 (by decide) ?_
    refine rc_ne (pc := 23) (tgt := 29) hx hb (tI_nI (by omega)) (tI_nI (by omega)) dX10_write_23 (by decide) (fun c23 => ?_) (fun c23 => ?_)
    · refine lv_aload_n (pc := 29) hx hb dX10_write_29 rfl (lv_at hl 0 rfl) ?_
      refine va_get (pc := 30) (D := D) (ci := 10) (v := .ref (ad 29)) (C := RX10) (T := TX10) (N := 44) hx hb hts hiX10 hown hK hP 0 rfl rfl 29 (by decide) wf64 (fun _ h9 => h9) rfl dX10_write_30 ?_
      refine lv_aload_n (pc := 33) hx hb dX10_write_33 rfl (lv_at hl 0 rfl) ?_
      refine va_get (pc := 34) (D := D) (ci := 10) (v := .int (nI I.2.2.2.2.2.2.1)) (C := RX10) (T := TX10) (N := 44) hx hb hts hiX10 hown hK hP 0 rfl rfl 28 (by decide) wf145 (fun _ h9 => h9) rfl dX10_write_34 ?_
      refine lv_iload_n (pc := 37) hx hb dX10_write_37 rfl (lv_at hl 1 rfl) ?_
      refine lv_i2b (pc := 38) (v := nI k) hx hb dX10_write_38 (i2b_n _ (by omega)) ?_
      refine rn_bast (pc := 39) (f := tx) (k := I.2.2.2.2.2.2.1) (x := k) (ws2 := [rmE o ad (pCells P) P.2.2.2.1 P.2.2.2.2.2.1 P.2.2.2.2.2.2 I, nE 200 (ad 29) cB (va_up tx I.2.2.2.2.2.2.1 k)]) hx hb hK hP hV hS 1 2 rfl rfl (by omega) (by decide) (nar_by _ (by omega)) dX10_write_39 rfl rfl (fun H locs hP hS => ?_)
      refine lv_aload_n (pc := 40) hx hb dX10_write_40 rfl (lv_at hl 0 rfl) ?_
      refine lv_dup (pc := 41) hx hb dX10_write_41 rfl ?_
      refine va_get (pc := 42) (D := D) (ci := 10) (v := .int (nI I.2.2.2.2.2.2.1)) (C := RX10) (T := TX10) (N := 44) hx hb hts hiX10 hown hK hP 0 rfl rfl 28 (by decide) wf145 (fun _ h9 => h9) rfl dX10_write_42 ?_
      refine lv_iconst (pc := 45) (v := nI 1) hx hb dX10_write_45 (by decide) ?_
      refine rn_iadd (pc := 46) hx hb dX10_write_46 ?_
      refine ra_put (pc := 47) (D := D) (ci := 10) (v := .int (nI (I.2.2.2.2.2.2.1 + 1))) (ty := .int) (C := RX10) (T := TX10) (N := 44) (ws2 := [rmE o ad (pCells P) P.2.2.2.1 P.2.2.2.2.2.1 P.2.2.2.2.2.2 (I.1, I.2.1, I.2.2.1, I.2.2.2.1, I.2.2.2.2.1, I.2.2.2.2.2.1, I.2.2.2.2.2.2.1 + 1, I.2.2.2.2.2.2.2.1, I.2.2.2.2.2.2.2.2.1, I.2.2.2.2.2.2.2.2.2.1, I.2.2.2.2.2.2.2.2.2.2.1, I.2.2.2.2.2.2.2.2.2.2.2), nE 200 (ad 29) cB (va_up tx I.2.2.2.2.2.2.1 k)]) hx hb hts hiX10 tyX10 tyX10_ok nmX10 hown hK hP hV hS 0 rfl rfl 28 (by decide) wf145 (fun _ h9 => h9) rfl (by decide +kernel) rfl rfl (Nat.le_of_ble_eq_true rfl) dX10_write_47 rfl rfl (fun H locs hP hS => ?_)
      refine lv_aload_n (pc := 50) hx hb dX10_write_50 rfl (lv_at hl 0 rfl) ?_
      refine va_get (pc := 51) (D := D) (ci := 10) (v := .int (nI (I.2.2.2.2.2.2.1 + 1))) (C := RX10) (T := TX10) (N := 44) hx hb hts hiX10 hown hK hP 0 rfl rfl 28 (by decide) wf145 (fun _ h9 => h9) rfl dX10_write_51 ?_
      exact hret 54 _ hP hS dX10_write_54 rfl rfl ⟨(by unfold zWrite; (repeat' split) <;> first | (exfalso; omega) | rfl | exact jI_nat _), (by unfold tWrite; (repeat' split) <;> first | (exfalso; omega) | rfl | exact jI_nat _)⟩
    · refine lv_bipush (pc := 26) (v := jI (-3)) hx hb dX10_write_26 (by decide) ?_
      exact hret 28 _ hP hS dX10_write_28 rfl rfl ⟨(by unfold zWrite; (repeat' split) <;> first | (exfalso; omega) | rfl | exact jI_nat _), (by unfold tWrite; (repeat' split) <;> first | (exfalso; omega) | rfl | exact jI_nat _)⟩
  · refine lv_iconst (pc := 14) (v := jI (-1)) hx hb dX10_write_14 (by decide) ?_
    exact hret 15 _ hP hS dX10_write_15 rfl rfl ⟨(by unfold zWrite; (repeat' split) <;> first | (exfalso; omega) | rfl | exact jI_nat _), (by unfold tWrite; (repeat' split) <;> first | (exfalso; omega) | rfl | exact jI_nat _)⟩
abbrev rmX10_wipe : Room := { frames := 0, cells := 0, slots := 0, locals := 0 }
set_option maxHeartbeats 4000000 in
set_option maxRecDepth 100000 in
theorem k_X10_wipe (l : Launch) (D : va_G) (cI cC cB cS : ClassId) (o : Nat) (ad : Nat → Nat) (P : PL) (I : RI) (hlen : I.2.2.2.2.2.2.1 ≤ 200) : CI l D (kT cI cC cB cS) yX10_wipe wsX10_wipe rmX10_wipe [.ref o] ([rmE o ad (pCells P) P.2.2.2.1 P.2.2.2.2.2.1 P.2.2.2.2.2.2 I]) (fun r u => r = nI I.2.2.2.2.2.2.1 ∧ u = [rmE o ad (pCells P) P.2.2.2.1 P.2.2.2.2.2.1 P.2.2.2.2.2.2 (I.1, I.2.1, I.2.2.1, I.2.2.2.1, I.2.2.2.2.1, I.2.2.2.2.2.1, 0, I.2.2.2.2.2.2.2.1, I.2.2.2.2.2.2.2.2.1, I.2.2.2.2.2.2.2.2.2.1, I.2.2.2.2.2.2.2.2.2.2.1, I.2.2.2.2.2.2.2.2.2.2.2)]) := by
  refine ci_intro (by decide) rfl (Nat.le_of_ble_eq_true rfl) ?_
  intro p e s m args below meth c ls A QF hF hK hP hV hS hA hN hl hret
  obtain ⟨hx, hb, hml, hown, hts⟩ := id hF
  have hP : va_P D vwCl ([rmE o ad (pCells P) P.2.2.2.1 P.2.2.2.2.2.1 P.2.2.2.2.2.2 I]) s.heap := hP
  have hl : lv_has ls 2 [(0, .ref o)] := hl
  have wf145 := hts (.fieldLink RX10 145 "RemorseWallModel" "length" "I") (by decide +kernel)
  have hiX10 : ∀ w ∈ u_ws RX10 TX10 44, w ∈ wsX10_wipe := by decide +kernel
  refine lv_aload_n (pc := 0) hx hb dX10_wipe_0 rfl (lv_at hl 0 rfl) ?_
  refine va_get (pc := 1) (D := D) (ci := 10) (v := .int (nI I.2.2.2.2.2.2.1)) (C := RX10) (T := TX10) (N := 44) hx hb hts hiX10 hown hK hP 0 rfl rfl 28 (by decide) wf145 (fun _ h9 => h9) rfl dX10_wipe_1 ?_
  refine lv_istore_n (pc := 4) (lv' := [(1, .int (nI I.2.2.2.2.2.2.1)), (0, .ref o)]) hx hb dX10_wipe_4 rfl hl (by decide) rfl (fun ls hl => ?_)
  refine lv_aload_n (pc := 5) hx hb dX10_wipe_5 rfl (lv_at hl 1 rfl) ?_
  refine lv_iconst (pc := 6) (v := nI 0) hx hb dX10_wipe_6 (by decide) ?_
  refine ra_put (pc := 7) (D := D) (ci := 10) (v := .int (nI 0)) (ty := .int) (C := RX10) (T := TX10) (N := 44) (ws2 := [rmE o ad (pCells P) P.2.2.2.1 P.2.2.2.2.2.1 P.2.2.2.2.2.2 (I.1, I.2.1, I.2.2.1, I.2.2.2.1, I.2.2.2.2.1, I.2.2.2.2.2.1, 0, I.2.2.2.2.2.2.2.1, I.2.2.2.2.2.2.2.2.1, I.2.2.2.2.2.2.2.2.2.1, I.2.2.2.2.2.2.2.2.2.2.1, I.2.2.2.2.2.2.2.2.2.2.2)]) hx hb hts hiX10 tyX10 tyX10_ok nmX10 hown hK hP hV hS 0 rfl rfl 28 (by decide) wf145 (fun _ h9 => h9) rfl (by decide +kernel) rfl rfl (Nat.le_of_ble_eq_true rfl) dX10_wipe_7 rfl rfl (fun H locs hP hS => ?_)
  refine lv_iload_n (pc := 10) hx hb dX10_wipe_10 rfl (lv_at hl 0 rfl) ?_
  exact hret 11 _ hP hS dX10_wipe_11 rfl rfl ⟨rfl, rfl⟩
abbrev rmX10_see : Room := { frames := 2, cells := 0, slots := 0, locals := 46 }
set_option maxHeartbeats 4000000 in
set_option maxRecDepth 100000 in
theorem k_X10_see (l : Launch) (D : va_G) (cI cC cB cS : ClassId) (o : Nat) (ad : Nat → Nat) (P : PL) (I : RI) (sc : Nat → Nat) (sh : Nat → Nat) (x1 : Int32) (z1 : Int) (hz1 : x1.toInt = z1) (x2 : Int32) (z2 : Int) (hz2 : x2.toInt = z2) (hp : pOK P) (hsn : I.2.2.2.2.2.2.2.2.2.2.1 ≤ 8) : CI l D (kT cI cC cB cS) yX10_see wsX10_see rmX10_see [.ref o, .int (x1), .int (x2)] ([rmE o ad (pCells P) P.2.2.2.1 P.2.2.2.2.2.1 P.2.2.2.2.2.2 I, nE 8 (ad 34) cI sc, nE 8 (ad 35) cI sh]) (fun r u => r = jI (zSee P (sc, sh, I.2.2.2.2.2.2.2.2.2.2.1) z1 z2) ∧ u = [rmE o ad (pCells P) P.2.2.2.1 P.2.2.2.2.2.1 P.2.2.2.2.2.2 (I.1, I.2.1, I.2.2.1, I.2.2.2.1, I.2.2.2.2.1, I.2.2.2.2.2.1, I.2.2.2.2.2.2.1, I.2.2.2.2.2.2.2.1, I.2.2.2.2.2.2.2.2.1, I.2.2.2.2.2.2.2.2.2.1, (gSee P (sc, sh, I.2.2.2.2.2.2.2.2.2.2.1) z1 z2).2.2, I.2.2.2.2.2.2.2.2.2.2.2), nE 8 (ad 34) cI ((gSee P (sc, sh, I.2.2.2.2.2.2.2.2.2.2.1) z1 z2).1), nE 8 (ad 35) cI ((gSee P (sc, sh, I.2.2.2.2.2.2.2.2.2.2.1) z1 z2).2.1)]) := by
  refine ci_intro (by decide) rfl (Nat.le_of_ble_eq_true rfl) ?_
  intro p e s m args below meth c ls A QF hF hK hP hV hS hA hN hl hret
  obtain ⟨hx, hb, hml, hown, hts⟩ := id hF
  have hP : va_P D vwCl ([rmE o ad (pCells P) P.2.2.2.1 P.2.2.2.2.2.1 P.2.2.2.2.2.2 I, nE 8 (ad 34) cI sc, nE 8 (ad 35) cI sh]) s.heap := hP
  have hl : lv_has ls 3 [(0, .ref o), (1, .int (x1)), (2, .int (x2))] := hl
  have wf68 := hts (.fieldLink RX10 68 "RemorseWallModel" "sawCell" "[I") (by decide +kernel)
  have wf71 := hts (.fieldLink RX10 71 "RemorseWallModel" "sawHigh" "[I") (by decide +kernel)
  have wf200 := hts (.fieldLink RX10 200 "RemorseWallModel" "seens" "I") (by decide +kernel)
  have hiX10 : ∀ w ∈ u_ws RX10 TX10 44, w ∈ wsX10_see := by decide +kernel
  obtain ⟨hp1, hp2, hp3, hp4, hp5, hp6, hp7⟩ := id hp
  have hcl := pCells_le hp
  have hr1 := i32_rng x1
  rw [hz1] at hr1
  have hr2 := i32_rng x2
  rw [hz2] at hr2
  refine lv_aload_n (pc := 0) hx hb dX10_see_0 rfl (lv_at hl 0 rfl) ?_
  refine lv_iload_n (pc := 1) hx hb dX10_see_1 rfl (lv_at hl 1 rfl) ?_
  refine ci_Vd (pc := 2) (r0 := nI (if okX (pCells P) z1 then 1 else 0)) hF hN hK hP hV hS hA (k_X10_isCell l D cI cC cB cS o ad P I (x1) z1 hz1 hp) (cwV 1 hts gX10_see_X10_isCell rfl rfl rfl (by decide +kernel) ⟨Nat.le_of_ble_eq_true rfl, Nat.le_of_ble_eq_true rfl⟩) [0] rfl (by decide) 0 10 rfl rfl rfl hl.1 rfl (Nat.le_of_ble_eq_true rfl) dX10_see_2 ⟨Nat.le_refl _, Nat.le_refl _⟩ rfl (ws2 := [rmE o ad (pCells P) P.2.2.2.1 P.2.2.2.2.2.1 P.2.2.2.2.2.2 I, nE 8 (ad 34) cI sc, nE 8 (ad 35) cI sh]) rfl (fun H locs hP hS => ?_)
  refine rb_eq (pc := 5) (tgt := 20) hx hb dX10_see_5 (by decide) (fun c5 => ?_) (fun c5 => ?_)
  · refine lv_iconst (pc := 20) (v := jI (-1)) hx hb dX10_see_20 (by decide) ?_
    exact hret 21 _ hP hS dX10_see_21 rfl rfl ⟨(by unfold zSee; dsimp only; (repeat' split) <;> first | (exfalso; omega) | rfl | exact jI_nat _), (by unfold gSee; dsimp only; (repeat' split) <;> first | (exfalso; omega) | rfl | exact jI_nat _)⟩
  · refine lv_iload_n (pc := 8) hx hb dX10_see_8 rfl (lv_at hl 2 rfl) ?_
    refine lv_i2l (pc := 9) (v := jL z2) hx hb dX10_see_9 (i2l_j hz2) ?_
    refine lv_lconst (pc := 10) (v := jL 0) hx hb dX10_see_10 (by decide) ?_
    refine lv_ldc2 (pc := 11) (v := jL 40) hx hb hown (hts (.constantLong RX10 287 (jL 40)) (by decide +kernel)) dX10_see_11 ?_
    refine ci_Sd (pc := 14) hF hN hK hP hV hS hA (k_X10_in l D cI cC cB cS z2 0 40 (by omega)) (va_cwS 3 hts gX10_see_X10_in rfl rfl rfl (by decide +kernel) ⟨Nat.le_of_ble_eq_true rfl, Nat.le_of_ble_eq_true rfl⟩) [] rfl (by decide) rfl hl.1 rfl (Nat.le_of_ble_eq_true rfl) dX10_see_14 ⟨Nat.le_refl _, Nat.le_refl _⟩ rfl (ws2 := [rmE o ad (pCells P) P.2.2.2.1 P.2.2.2.2.2.1 P.2.2.2.2.2.2 I, nE 8 (ad 34) cI sc, nE 8 (ad 35) cI sh]) rfl (fun H locs hP hS => ?_)
    refine rb_ne (pc := 17) (tgt := 22) hx hb dX10_see_17 (by decide) (fun c17 => ?_) (fun c17 => ?_)
    · obtain ⟨k, rfl⟩ : ∃ k : Nat, z1 = k := ⟨z1.toNat, by omega⟩
      obtain rfl : x1 = nI k := eq_nI hz1
      obtain ⟨h, rfl⟩ : ∃ k : Nat, z2 = k := ⟨z2.toNat, by omega⟩
      obtain rfl : x2 = nI h := eq_nI hz2
      refine lv_aload_n (pc := 22) hx hb dX10_see_22 rfl (lv_at hl 0 rfl) ?_
      refine va_get (pc := 23) (D := D) (ci := 10) (v := .int (nI I.2.2.2.2.2.2.2.2.2.2.1)) (C := RX10) (T := TX10) (N := 44) hx hb hts hiX10 hown hK hP 0 rfl rfl 33 (by decide) wf200 (fun _ h9 => h9) rfl dX10_see_23 ?_
      refine lv_bipush (pc := 26) (v := nI 8) hx hb dX10_see_26 (by decide) ?_
      refine rc_ne (pc := 28) (tgt := 34) hx hb (tI_nI (by omega)) (tI_nI (by omega)) dX10_see_28 (by decide) (fun c28 => ?_) (fun c28 => ?_)
      · refine lv_aload_n (pc := 34) hx hb dX10_see_34 rfl (lv_at hl 0 rfl) ?_
        refine va_get (pc := 35) (D := D) (ci := 10) (v := .ref (ad 34)) (C := RX10) (T := TX10) (N := 44) hx hb hts hiX10 hown hK hP 0 rfl rfl 34 (by decide) wf68 (fun _ h9 => h9) rfl dX10_see_35 ?_
        refine lv_aload_n (pc := 38) hx hb dX10_see_38 rfl (lv_at hl 0 rfl) ?_
        refine va_get (pc := 39) (D := D) (ci := 10) (v := .int (nI I.2.2.2.2.2.2.2.2.2.2.1)) (C := RX10) (T := TX10) (N := 44) hx hb hts hiX10 hown hK hP 0 rfl rfl 33 (by decide) wf200 (fun _ h9 => h9) rfl dX10_see_39 ?_
        refine lv_iload_n (pc := 42) hx hb dX10_see_42 rfl (lv_at hl 1 rfl) ?_
        refine rn_iast (pc := 43) (f := sc) (k := I.2.2.2.2.2.2.2.2.2.2.1) (x := k) (ws2 := [rmE o ad (pCells P) P.2.2.2.1 P.2.2.2.2.2.1 P.2.2.2.2.2.2 I, nE 8 (ad 34) cI (va_up sc I.2.2.2.2.2.2.2.2.2.2.1 k), nE 8 (ad 35) cI sh]) hx hb hK hP hV hS 1 0 rfl rfl (by omega) (by decide) dX10_see_43 rfl rfl (fun H locs hP hS => ?_)
        refine lv_aload_n (pc := 44) hx hb dX10_see_44 rfl (lv_at hl 0 rfl) ?_
        refine va_get (pc := 45) (D := D) (ci := 10) (v := .ref (ad 35)) (C := RX10) (T := TX10) (N := 44) hx hb hts hiX10 hown hK hP 0 rfl rfl 35 (by decide) wf71 (fun _ h9 => h9) rfl dX10_see_45 ?_
        refine lv_aload_n (pc := 48) hx hb dX10_see_48 rfl (lv_at hl 0 rfl) ?_
        refine va_get (pc := 49) (D := D) (ci := 10) (v := .int (nI I.2.2.2.2.2.2.2.2.2.2.1)) (C := RX10) (T := TX10) (N := 44) hx hb hts hiX10 hown hK hP 0 rfl rfl 33 (by decide) wf200 (fun _ h9 => h9) rfl dX10_see_49 ?_
        refine lv_iload_n (pc := 52) hx hb dX10_see_52 rfl (lv_at hl 2 rfl) ?_
        refine rn_iast (pc := 53) (f := sh) (k := I.2.2.2.2.2.2.2.2.2.2.1) (x := h) (ws2 := [rmE o ad (pCells P) P.2.2.2.1 P.2.2.2.2.2.1 P.2.2.2.2.2.2 I, nE 8 (ad 34) cI (va_up sc I.2.2.2.2.2.2.2.2.2.2.1 k), nE 8 (ad 35) cI (va_up sh I.2.2.2.2.2.2.2.2.2.2.1 h)]) hx hb hK hP hV hS 2 0 rfl rfl (by omega) (by decide) dX10_see_53 rfl rfl (fun H locs hP hS => ?_)
        refine lv_aload_n (pc := 54) hx hb dX10_see_54 rfl (lv_at hl 0 rfl) ?_
        refine lv_dup (pc := 55) hx hb dX10_see_55 rfl ?_
        refine va_get (pc := 56) (D := D) (ci := 10) (v := .int (nI I.2.2.2.2.2.2.2.2.2.2.1)) (C := RX10) (T := TX10) (N := 44) hx hb hts hiX10 hown hK hP 0 rfl rfl 33 (by decide) wf200 (fun _ h9 => h9) rfl dX10_see_56 ?_
        refine lv_iconst (pc := 59) (v := nI 1) hx hb dX10_see_59 (by decide) ?_
        refine rn_iadd (pc := 60) hx hb dX10_see_60 ?_
        refine ra_put (pc := 61) (D := D) (ci := 10) (v := .int (nI (I.2.2.2.2.2.2.2.2.2.2.1 + 1))) (ty := .int) (C := RX10) (T := TX10) (N := 44) (ws2 := [rmE o ad (pCells P) P.2.2.2.1 P.2.2.2.2.2.1 P.2.2.2.2.2.2 (I.1, I.2.1, I.2.2.1, I.2.2.2.1, I.2.2.2.2.1, I.2.2.2.2.2.1, I.2.2.2.2.2.2.1, I.2.2.2.2.2.2.2.1, I.2.2.2.2.2.2.2.2.1, I.2.2.2.2.2.2.2.2.2.1, I.2.2.2.2.2.2.2.2.2.2.1 + 1, I.2.2.2.2.2.2.2.2.2.2.2), nE 8 (ad 34) cI (va_up sc I.2.2.2.2.2.2.2.2.2.2.1 k), nE 8 (ad 35) cI (va_up sh I.2.2.2.2.2.2.2.2.2.2.1 h)]) hx hb hts hiX10 tyX10 tyX10_ok nmX10 hown hK hP hV hS 0 rfl rfl 33 (by decide) wf200 (fun _ h9 => h9) rfl (by decide +kernel) rfl rfl (Nat.le_of_ble_eq_true rfl) dX10_see_61 rfl rfl (fun H locs hP hS => ?_)
        refine lv_aload_n (pc := 64) hx hb dX10_see_64 rfl (lv_at hl 0 rfl) ?_
        refine va_get (pc := 65) (D := D) (ci := 10) (v := .int (nI (I.2.2.2.2.2.2.2.2.2.2.1 + 1))) (C := RX10) (T := TX10) (N := 44) hx hb hts hiX10 hown hK hP 0 rfl rfl 33 (by decide) wf200 (fun _ h9 => h9) rfl dX10_see_65 ?_
        exact hret 68 _ hP hS dX10_see_68 rfl rfl ⟨(by unfold zSee; dsimp only; (repeat' split) <;> first | (exfalso; omega) | rfl | exact jI_nat _), (by unfold gSee; dsimp only; (repeat' split) <;> first | (exfalso; omega) | rfl | exact jI_nat _)⟩
      · refine lv_bipush (pc := 31) (v := jI (-3)) hx hb dX10_see_31 (by decide) ?_
        exact hret 33 _ hP hS dX10_see_33 rfl rfl ⟨(by unfold zSee; dsimp only; (repeat' split) <;> first | (exfalso; omega) | rfl | exact jI_nat _), (by unfold gSee; dsimp only; (repeat' split) <;> first | (exfalso; omega) | rfl | exact jI_nat _)⟩
    · refine lv_iconst (pc := 20) (v := jI (-1)) hx hb dX10_see_20 (by decide) ?_
      exact hret 21 _ hP hS dX10_see_21 rfl rfl ⟨(by unfold zSee; dsimp only; (repeat' split) <;> first | (exfalso; omega) | rfl | exact jI_nat _), (by unfold gSee; dsimp only; (repeat' split) <;> first | (exfalso; omega) | rfl | exact jI_nat _)⟩
abbrev rmX10_forget : Room := { frames := 0, cells := 0, slots := 0, locals := 0 }
set_option maxHeartbeats 4000000 in
set_option maxRecDepth 100000 in
theorem k_X10_forget (l : Launch) (D : va_G) (cI cC cB cS : ClassId) (o : Nat) (ad : Nat → Nat) (P : PL) (I : RI)  : CI l D (kT cI cC cB cS) yX10_forget wsX10_forget rmX10_forget [.ref o] ([rmE o ad (pCells P) P.2.2.2.1 P.2.2.2.2.2.1 P.2.2.2.2.2.2 I]) (fun r u => r = nI I.2.2.2.2.2.2.2.2.2.2.1 ∧ u = [rmE o ad (pCells P) P.2.2.2.1 P.2.2.2.2.2.1 P.2.2.2.2.2.2 (I.1, I.2.1, I.2.2.1, I.2.2.2.1, I.2.2.2.2.1, I.2.2.2.2.2.1, I.2.2.2.2.2.2.1, I.2.2.2.2.2.2.2.1, I.2.2.2.2.2.2.2.2.1, I.2.2.2.2.2.2.2.2.2.1, 0, I.2.2.2.2.2.2.2.2.2.2.2)]) := by
  refine ci_intro (by decide) rfl (Nat.le_of_ble_eq_true rfl) ?_
  intro p e s m args below meth c ls A QF hF hK hP hV hS hA hN hl hret
  obtain ⟨hx, hb, hml, hown, hts⟩ := id hF
  have hP : va_P D vwCl ([rmE o ad (pCells P) P.2.2.2.1 P.2.2.2.2.2.1 P.2.2.2.2.2.2 I]) s.heap := hP
  have hl : lv_has ls 2 [(0, .ref o)] := hl
  have wf200 := hts (.fieldLink RX10 200 "RemorseWallModel" "seens" "I") (by decide +kernel)
  have hiX10 : ∀ w ∈ u_ws RX10 TX10 44, w ∈ wsX10_forget := by decide +kernel
  refine lv_aload_n (pc := 0) hx hb dX10_forget_0 rfl (lv_at hl 0 rfl) ?_
  refine va_get (pc := 1) (D := D) (ci := 10) (v := .int (nI I.2.2.2.2.2.2.2.2.2.2.1)) (C := RX10) (T := TX10) (N := 44) hx hb hts hiX10 hown hK hP 0 rfl rfl 33 (by decide) wf200 (fun _ h9 => h9) rfl dX10_forget_1 ?_
  refine lv_istore_n (pc := 4) (lv' := [(1, .int (nI I.2.2.2.2.2.2.2.2.2.2.1)), (0, .ref o)]) hx hb dX10_forget_4 rfl hl (by decide) rfl (fun ls hl => ?_)
  refine lv_aload_n (pc := 5) hx hb dX10_forget_5 rfl (lv_at hl 1 rfl) ?_
  refine lv_iconst (pc := 6) (v := nI 0) hx hb dX10_forget_6 (by decide) ?_
  refine ra_put (pc := 7) (D := D) (ci := 10) (v := .int (nI 0)) (ty := .int) (C := RX10) (T := TX10) (N := 44) (ws2 := [rmE o ad (pCells P) P.2.2.2.1 P.2.2.2.2.2.1 P.2.2.2.2.2.2 (I.1, I.2.1, I.2.2.1, I.2.2.2.1, I.2.2.2.2.1, I.2.2.2.2.2.1, I.2.2.2.2.2.2.1, I.2.2.2.2.2.2.2.1, I.2.2.2.2.2.2.2.2.1, I.2.2.2.2.2.2.2.2.2.1, 0, I.2.2.2.2.2.2.2.2.2.2.2)]) hx hb hts hiX10 tyX10 tyX10_ok nmX10 hown hK hP hV hS 0 rfl rfl 33 (by decide) wf200 (fun _ h9 => h9) rfl (by decide +kernel) rfl rfl (Nat.le_of_ble_eq_true rfl) dX10_forget_7 rfl rfl (fun H locs hP hS => ?_)
  refine lv_iload_n (pc := 10) hx hb dX10_forget_10 rfl (lv_at hl 0 rfl) ?_
  exact hret 11 _ hP hS dX10_forget_11 rfl rfl ⟨rfl, rfl⟩
