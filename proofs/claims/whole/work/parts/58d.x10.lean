abbrev rmX10_maidItem : Room := { frames := 3, cells := 0, slots := 0, locals := 71 }
set_option maxHeartbeats 4000000 in
set_option maxRecDepth 100000 in
theorem k_X10_maidItem (l : Launch) (D : va_G) (cI cC cB cS : ClassId) (o : Nat) (ad : Nat → Nat) (P : PL) (I : RI) (tx : Nat → Nat) (nw : Nat → Nat) (nr : Nat → Nat) (nk : Nat → Nat) (na : Nat → Nat) (O : PL) (hpo : pOK O) (hlt : ltOK (tx, I.2.2.2.2.2.2.1)) (hat6 : I.2.2.2.2.2.2.2.1 < 30000) (hnc : I.1 = pCells O) (hcc9 : I.2.2.2.1 = O.2.2.2.2.2.2) : CV l D (kT cI cC cB cS) yX10_maidItem wsX10_maidItem rmX10_maidItem [.ref o] ([rmE o ad (pCells P) P.2.2.2.1 P.2.2.2.2.2.1 P.2.2.2.2.2.2 I, nE 200 (ad 29) cB tx, nE 3 (ad 21) cI nw, nE 3 (ad 22) cI nr, nE 3 (ad 23) cI nk, nE 3 (ad 24) cI na]) (fun u => (∃ a b c9 d k1, maiR (tx, I.2.2.2.2.2.2.1) O I.2.2.2.2.2.2.2.1 = some ((a, b, c9, d), k1) ∧ u = [rmE o ad (pCells P) P.2.2.2.1 P.2.2.2.2.2.1 P.2.2.2.2.2.2 (I.1, I.2.1, I.2.2.1, I.2.2.2.1 + 1, I.2.2.2.2.1, I.2.2.2.2.2.1, I.2.2.2.2.2.2.1, k1, I.2.2.2.2.2.2.2.2.1, 0, I.2.2.2.2.2.2.2.2.2.2.1, I.2.2.2.2.2.2.2.2.2.2.2), nE 200 (ad 29) cB tx, nE 3 (ad 21) cI (va_up nw I.2.2.2.1 a), nE 3 (ad 22) cI (va_up nr I.2.2.2.1 b), nE 3 (ad 23) cI (va_up nk I.2.2.2.1 c9), nE 3 (ad 24) cI (va_up na I.2.2.2.1 d)]) ∨ (maiR (tx, I.2.2.2.2.2.2.1) O I.2.2.2.2.2.2.2.1 = none ∧ ∃ k1, (I.2.2.2.2.2.2.2.1 ≤ k1 ∧ k1 ≤ I.2.2.2.2.2.2.2.1 + 30) ∧ u = [rmE o ad (pCells P) P.2.2.2.1 P.2.2.2.2.2.1 P.2.2.2.2.2.2 (I.1, I.2.1, I.2.2.1, I.2.2.2.1, I.2.2.2.2.1, I.2.2.2.2.2.1, I.2.2.2.2.2.2.1, k1, I.2.2.2.2.2.2.2.2.1, 1, I.2.2.2.2.2.2.2.2.2.2.1, I.2.2.2.2.2.2.2.2.2.2.2), nE 200 (ad 29) cB tx, nE 3 (ad 21) cI nw, nE 3 (ad 22) cI nr, nE 3 (ad 23) cI nk, nE 3 (ad 24) cI na])) := by
  refine cv_intro (by decide) rfl (Nat.le_of_ble_eq_true rfl) ?_
  intro p e s m args below meth c ls A QF hF hK hP hV hS hA hN hl hret
  obtain ⟨hx, hb, hml, hown, hts⟩ := id hF
  have hP : va_P D vwCl ([rmE o ad (pCells P) P.2.2.2.1 P.2.2.2.2.2.1 P.2.2.2.2.2.2 I, nE 200 (ad 29) cB tx, nE 3 (ad 21) cI nw, nE 3 (ad 22) cI nr, nE 3 (ad 23) cI nk, nE 3 (ad 24) cI na]) s.heap := hP
  have hl : lv_has ls 5 [(0, .ref o)] := hl
  have wf102 := hts (.fieldLink RX10 102 "RemorseWallModel" "newCells" "I") (by decide +kernel)
  have wf118 := hts (.fieldLink RX10 118 "RemorseWallModel" "newMaids" "I") (by decide +kernel)
  have wf159 := hts (.fieldLink RX10 159 "RemorseWallModel" "isWrong" "Z") (by decide +kernel)
  have hiX10 : ∀ w ∈ u_ws RX10 TX10 44, w ∈ wsX10_maidItem := by decide +kernel
  obtain ⟨ho1, ho2, ho3, ho4, ho5, ho6, ho7⟩ := id hpo
  have hcl := pCells_le hpo
  refine lv_aload_n (pc := 0) hx hb dX10_maidItem_0 rfl (lv_at hl 0 rfl) ?_
  refine lv_aload_n (pc := 1) hx hb dX10_maidItem_1 rfl (lv_at hl 0 rfl) ?_
  refine va_get (pc := 2) (D := D) (ci := 10) (v := .int (nI I.2.2.2.1)) (C := RX10) (T := TX10) (N := 44) hx hb hts hiX10 hown hK hP 0 rfl rfl 20 (by decide) wf118 (fun _ h9 => h9) rfl dX10_maidItem_2 ?_
  refine lv_iconst (pc := 5) (v := nI 3) hx hb dX10_maidItem_5 (by decide) ?_
  refine rc_ne (pc := 6) (tgt := 13) hx hb (tI_nI (by omega)) (tI_nI (by omega)) dX10_maidItem_6 (by decide) (fun c6 => ?_) (fun c6 => ?_)
  · refine lv_iconst (pc := 13) (v := nI 0) hx hb dX10_maidItem_13 (by decide) ?_
    refine ra_put (pc := 14) (D := D) (ci := 10) (v := .int (nI 0)) (ty := .boolean) (C := RX10) (T := TX10) (N := 44) (ws2 := [rmE o ad (pCells P) P.2.2.2.1 P.2.2.2.2.2.1 P.2.2.2.2.2.2 (I.1, I.2.1, I.2.2.1, I.2.2.2.1, I.2.2.2.2.1, I.2.2.2.2.2.1, I.2.2.2.2.2.2.1, I.2.2.2.2.2.2.2.1, I.2.2.2.2.2.2.2.2.1, 0, I.2.2.2.2.2.2.2.2.2.2.1, I.2.2.2.2.2.2.2.2.2.2.2), nE 200 (ad 29) cB tx, nE 3 (ad 21) cI nw, nE 3 (ad 22) cI nr, nE 3 (ad 23) cI nk, nE 3 (ad 24) cI na]) hx hb hts hiX10 tyX10 tyX10_ok nmX10 hown hK hP hV hS 0 rfl rfl 32 (by decide) wf159 (fun _ h9 => h9) rfl (by decide +kernel) rfl rfl (Nat.le_of_ble_eq_true rfl) dX10_maidItem_14 rfl rfl (fun H locs hP hS => ?_)
    refine lv_aload_n (pc := 17) hx hb dX10_maidItem_17 rfl (lv_at hl 0 rfl) ?_
    refine va_get (pc := 18) (D := D) (ci := 10) (v := .int (nI 0)) (C := RX10) (T := TX10) (N := 44) hx hb hts hiX10 hown hK hP 0 rfl rfl 32 (by decide) wf159 (fun _ h9 => h9) rfl dX10_maidItem_18 ?_
    refine r0_eq (pc := 21) (tgt := 28) hx hb (tI_nI (by omega)) dX10_maidItem_21 (by decide) (fun c21 => ?_) (fun c21 => (by omega))
    refine lv_aload_n (pc := 28) hx hb dX10_maidItem_28 rfl (lv_at hl 0 rfl) ?_
    refine lv_iconst (pc := 29) (v := nI 0) hx hb dX10_maidItem_29 (by decide) ?_
    refine lv_iconst (pc := 30) (v := nI 3) hx hb dX10_maidItem_30 (by decide) ?_
    refine ci_V (pc := 31) hF hN hK hP hV hS hA (k_X10_number l D cI cC cB cS o ad P (I.1, I.2.1, I.2.2.1, I.2.2.2.1, I.2.2.2.2.1, I.2.2.2.2.2.1, I.2.2.2.2.2.2.1, I.2.2.2.2.2.2.2.1, I.2.2.2.2.2.2.2.2.1, 0, I.2.2.2.2.2.2.2.2.2.2.1, I.2.2.2.2.2.2.2.2.2.2.2) tx (nI 0) ((0 : Nat) : Int) (tI_nI (by omega)) (nI 3) ((3 : Nat) : Int) (tI_nI (by omega)) hlt (show 0 = 0 by omega) (show I.2.2.2.2.2.2.2.1 < 50000 by omega)) (cwV 2 hts gX10_maidItem_X10_number rfl rfl rfl (by decide +kernel) ⟨Nat.le_of_ble_eq_true rfl, Nat.le_of_ble_eq_true rfl⟩) [0, 1] rfl (by decide) 0 10 rfl rfl rfl hl.1 rfl (Nat.le_of_ble_eq_true rfl) dX10_maidItem_31 ⟨Nat.le_refl _, Nat.le_refl _⟩ rfl (fun r u H locs hq hu hP hS => ?_)
    rcases hq with ⟨vn2, kn2, hvn2, rfl, rfl⟩ | ⟨hvn2, kn2, hkn2, rfl, rfl⟩
    · have hP : va_P D vwCl ([rmE o ad (pCells P) P.2.2.2.1 P.2.2.2.2.2.1 P.2.2.2.2.2.2 (I.1, I.2.1, I.2.2.1, I.2.2.2.1, I.2.2.2.2.1, I.2.2.2.2.2.1, I.2.2.2.2.2.2.1, kn2, I.2.2.2.2.2.2.2.2.1, 0, I.2.2.2.2.2.2.2.2.2.2.1, I.2.2.2.2.2.2.2.2.2.2.2), nE 200 (ad 29) cB tx, nE 3 (ad 21) cI nw, nE 3 (ad 22) cI nr, nE 3 (ad 23) cI nk, nE 3 (ad 24) cI na]) H := hP
      try dsimp only at hvn2
      try rw [hnc] at hvn2
      have hsn2 := numR_some hvn2
      refine lv_istore_n (pc := 34) (lv' := [(1, .int (nI vn2)), (0, .ref o)]) hx hb dX10_maidItem_34 rfl hl (by decide) rfl (fun ls hl => ?_)
      refine lv_aload_n (pc := 35) hx hb dX10_maidItem_35 rfl (lv_at hl 1 rfl) ?_
      refine lv_iconst (pc := 36) (v := nI 1) hx hb dX10_maidItem_36 (by decide) ?_
      refine lv_bipush (pc := 37) (v := nI 9) hx hb dX10_maidItem_37 (by decide) ?_
      refine ci_V (pc := 39) hF hN hK hP hV hS hA (k_X10_more l D cI cC cB cS o ad P (I.1, I.2.1, I.2.2.1, I.2.2.2.1, I.2.2.2.2.1, I.2.2.2.2.2.1, I.2.2.2.2.2.2.1, kn2, I.2.2.2.2.2.2.2.2.1, 0, I.2.2.2.2.2.2.2.2.2.2.1, I.2.2.2.2.2.2.2.2.2.2.2) tx (nI 1) ((1 : Nat) : Int) (tI_nI (by omega)) (nI 9) ((9 : Nat) : Int) (tI_nI (by omega)) hlt (show 0 = 0 by omega) (show kn2 < 40000 by omega)) (cwV 2 hts gX10_maidItem_X10_more rfl rfl rfl (by decide +kernel) ⟨Nat.le_of_ble_eq_true rfl, Nat.le_of_ble_eq_true rfl⟩) [0, 1] rfl (by decide) 0 10 rfl rfl rfl hl.1 rfl (Nat.le_of_ble_eq_true rfl) dX10_maidItem_39 ⟨Nat.le_refl _, Nat.le_refl _⟩ rfl (fun r u H locs hq hu hP hS => ?_)
      rcases hq with ⟨vn4, kn4, hvn4, rfl, rfl⟩ | ⟨hvn4, kn4, hkn4, rfl, rfl⟩
      · have hP : va_P D vwCl ([rmE o ad (pCells P) P.2.2.2.1 P.2.2.2.2.2.1 P.2.2.2.2.2.2 (I.1, I.2.1, I.2.2.1, I.2.2.2.1, I.2.2.2.2.1, I.2.2.2.2.2.1, I.2.2.2.2.2.2.1, kn4, I.2.2.2.2.2.2.2.2.1, 0, I.2.2.2.2.2.2.2.2.2.2.1, I.2.2.2.2.2.2.2.2.2.2.2), nE 200 (ad 29) cB tx, nE 3 (ad 21) cI nw, nE 3 (ad 22) cI nr, nE 3 (ad 23) cI nk, nE 3 (ad 24) cI na]) H := hP
        try dsimp only at hvn4
        try rw [hnc] at hvn4
        have hsn4 := more_b hvn4
        refine lv_istore_n (pc := 42) (lv' := [(2, .int (nI vn4)), (1, .int (nI vn2)), (0, .ref o)]) hx hb dX10_maidItem_42 rfl hl (by decide) rfl (fun ls hl => ?_)
        refine lv_aload_n (pc := 43) hx hb dX10_maidItem_43 rfl (lv_at hl 2 rfl) ?_
        refine lv_iconst (pc := 44) (v := nI 1) hx hb dX10_maidItem_44 (by decide) ?_
        refine lv_bipush (pc := 45) (v := nI 9) hx hb dX10_maidItem_45 (by decide) ?_
        refine ci_V (pc := 47) hF hN hK hP hV hS hA (k_X10_more l D cI cC cB cS o ad P (I.1, I.2.1, I.2.2.1, I.2.2.2.1, I.2.2.2.2.1, I.2.2.2.2.2.1, I.2.2.2.2.2.2.1, kn4, I.2.2.2.2.2.2.2.2.1, 0, I.2.2.2.2.2.2.2.2.2.2.1, I.2.2.2.2.2.2.2.2.2.2.2) tx (nI 1) ((1 : Nat) : Int) (tI_nI (by omega)) (nI 9) ((9 : Nat) : Int) (tI_nI (by omega)) hlt (show 0 = 0 by omega) (show kn4 < 40000 by omega)) (cwV 2 hts gX10_maidItem_X10_more rfl rfl rfl (by decide +kernel) ⟨Nat.le_of_ble_eq_true rfl, Nat.le_of_ble_eq_true rfl⟩) [0, 1] rfl (by decide) 0 10 rfl rfl rfl hl.1 rfl (Nat.le_of_ble_eq_true rfl) dX10_maidItem_47 ⟨Nat.le_refl _, Nat.le_refl _⟩ rfl (fun r u H locs hq hu hP hS => ?_)
        rcases hq with ⟨vn6, kn6, hvn6, rfl, rfl⟩ | ⟨hvn6, kn6, hkn6, rfl, rfl⟩
        · have hP : va_P D vwCl ([rmE o ad (pCells P) P.2.2.2.1 P.2.2.2.2.2.1 P.2.2.2.2.2.2 (I.1, I.2.1, I.2.2.1, I.2.2.2.1, I.2.2.2.2.1, I.2.2.2.2.2.1, I.2.2.2.2.2.2.1, kn6, I.2.2.2.2.2.2.2.2.1, 0, I.2.2.2.2.2.2.2.2.2.2.1, I.2.2.2.2.2.2.2.2.2.2.2), nE 200 (ad 29) cB tx, nE 3 (ad 21) cI nw, nE 3 (ad 22) cI nr, nE 3 (ad 23) cI nk, nE 3 (ad 24) cI na]) H := hP
          try dsimp only at hvn6
          try rw [hnc] at hvn6
          have hsn6 := more_b hvn6
          refine lv_istore_n (pc := 50) (lv' := [(3, .int (nI vn6)), (2, .int (nI vn4)), (1, .int (nI vn2)), (0, .ref o)]) hx hb dX10_maidItem_50 rfl hl (by decide) rfl (fun ls hl => ?_)
          refine lv_aload_n (pc := 51) hx hb dX10_maidItem_51 rfl (lv_at hl 3 rfl) ?_
          refine lv_iconst (pc := 52) (v := nI 0) hx hb dX10_maidItem_52 (by decide) ?_
          refine lv_aload_n (pc := 53) hx hb dX10_maidItem_53 rfl (lv_at hl 3 rfl) ?_
          refine va_get (pc := 54) (D := D) (ci := 10) (v := .int (nI I.1)) (C := RX10) (T := TX10) (N := 44) hx hb hts hiX10 hown hK hP 0 rfl rfl 12 (by decide) wf102 (fun _ h9 => h9) rfl dX10_maidItem_54 ?_
          refine lv_iconst (pc := 57) (v := nI 1) hx hb dX10_maidItem_57 (by decide) ?_
          refine rz_isub (pc := 58) hx hb (jI_nat _) (show nI 1 = jI 1 from jI_nat 1) dX10_maidItem_58 ?_
          refine ci_V (pc := 59) hF hN hK hP hV hS hA (k_X10_more l D cI cC cB cS o ad P (I.1, I.2.1, I.2.2.1, I.2.2.2.1, I.2.2.2.2.1, I.2.2.2.2.2.1, I.2.2.2.2.2.2.1, kn6, I.2.2.2.2.2.2.2.2.1, 0, I.2.2.2.2.2.2.2.2.2.2.1, I.2.2.2.2.2.2.2.2.2.2.2) tx (nI 0) ((0 : Nat) : Int) (tI_nI (by omega)) (jI ((I.1 : Nat) - 1)) ((I.1 : Nat) - 1) (jI_to (by omega)) hlt (show 0 = 0 by omega) (show kn6 < 40000 by omega)) (cwV 2 hts gX10_maidItem_X10_more rfl rfl rfl (by decide +kernel) ⟨Nat.le_of_ble_eq_true rfl, Nat.le_of_ble_eq_true rfl⟩) [0, 1] rfl (by decide) 0 10 rfl rfl rfl hl.1 rfl (Nat.le_of_ble_eq_true rfl) dX10_maidItem_59 ⟨Nat.le_refl _, Nat.le_refl _⟩ rfl (fun r u H locs hq hu hP hS => ?_)
          rcases hq with ⟨vn8, kn8, hvn8, rfl, rfl⟩ | ⟨hvn8, kn8, hkn8, rfl, rfl⟩
          · have hP : va_P D vwCl ([rmE o ad (pCells P) P.2.2.2.1 P.2.2.2.2.2.1 P.2.2.2.2.2.2 (I.1, I.2.1, I.2.2.1, I.2.2.2.1, I.2.2.2.2.1, I.2.2.2.2.2.1, I.2.2.2.2.2.2.1, kn8, I.2.2.2.2.2.2.2.2.1, 0, I.2.2.2.2.2.2.2.2.2.2.1, I.2.2.2.2.2.2.2.2.2.2.2), nE 200 (ad 29) cB tx, nE 3 (ad 21) cI nw, nE 3 (ad 22) cI nr, nE 3 (ad 23) cI nk, nE 3 (ad 24) cI na]) H := hP
            try dsimp only at hvn8
            try rw [hnc] at hvn8
            have hsn8 := more_b hvn8
            refine lv_istore (pc := 62) (lv' := [(4, .int (nI vn8)), (3, .int (nI vn6)), (2, .int (nI vn4)), (1, .int (nI vn2)), (0, .ref o)]) hx hb dX10_maidItem_62 hl (by decide) rfl (fun ls hl => ?_)
            refine lv_aload_n (pc := 64) hx hb dX10_maidItem_64 rfl (lv_at hl 4 rfl) ?_
            refine va_get (pc := 65) (D := D) (ci := 10) (v := .int (nI 0)) (C := RX10) (T := TX10) (N := 44) hx hb hts hiX10 hown hK hP 0 rfl rfl 32 (by decide) wf159 (fun _ h9 => h9) rfl dX10_maidItem_65 ?_
            refine r0_ne (pc := 68) (tgt := 80) hx hb (tI_nI (by omega)) dX10_maidItem_68 (by decide) (fun c68 => (by omega)) (fun c68 => ?_)
            refine lv_aload_n (pc := 71) hx hb dX10_maidItem_71 rfl (lv_at hl 4 rfl) ?_
            refine lv_iload_n (pc := 72) hx hb dX10_maidItem_72 rfl (lv_at hl 3 rfl) ?_
            refine lv_iload_n (pc := 73) hx hb dX10_maidItem_73 rfl (lv_at hl 2 rfl) ?_
            refine lv_iload_n (pc := 74) hx hb dX10_maidItem_74 rfl (lv_at hl 1 rfl) ?_
            refine lv_iload (pc := 75) hx hb dX10_maidItem_75 (lv_at hl 0 rfl) ?_
            refine cv_Vd (pc := 77) hF hN hK hP hV hS hA (k_X10_comes l D cI cC cB cS o ad P (I.1, I.2.1, I.2.2.1, I.2.2.2.1, I.2.2.2.2.1, I.2.2.2.2.2.1, I.2.2.2.2.2.2.1, kn8, I.2.2.2.2.2.2.2.2.1, 0, I.2.2.2.2.2.2.2.2.2.2.1, I.2.2.2.2.2.2.2.2.2.2.2) nw nr nk na vn2 vn4 vn6 vn8 (show I.2.2.2.1 < 3 by omega)) (cwV 4 hts gX10_maidItem_X10_comes rfl rfl rfl (by decide +kernel) ⟨Nat.le_of_ble_eq_true rfl, Nat.le_of_ble_eq_true rfl⟩) [0, 2, 3, 4, 5] rfl (by decide) 0 10 rfl rfl rfl hl.1 rfl (Nat.le_of_ble_eq_true rfl) dX10_maidItem_77 ⟨Nat.le_refl _, Nat.le_refl _⟩ rfl (ws2 := [rmE o ad (pCells P) P.2.2.2.1 P.2.2.2.2.2.1 P.2.2.2.2.2.2 (I.1, I.2.1, I.2.2.1, I.2.2.2.1 + 1, I.2.2.2.2.1, I.2.2.2.2.2.1, I.2.2.2.2.2.2.1, kn8, I.2.2.2.2.2.2.2.2.1, 0, I.2.2.2.2.2.2.2.2.2.2.1, I.2.2.2.2.2.2.2.2.2.2.2), nE 200 (ad 29) cB tx, nE 3 (ad 21) cI (va_up nw I.2.2.2.1 vn2), nE 3 (ad 22) cI (va_up nr I.2.2.2.1 vn4), nE 3 (ad 23) cI (va_up nk I.2.2.2.1 vn6), nE 3 (ad 24) cI (va_up na I.2.2.2.1 vn8)]) rfl (fun H locs hP hS => ?_)
            exact hret 80 _ hP hS dX10_maidItem_80 rfl (Or.inl ⟨vn2, vn4, vn6, vn8, kn8, maiR_4 (by omega) hvn2 hvn4 hvn6 hvn8, rfl⟩)
          · have hP : va_P D vwCl ([rmE o ad (pCells P) P.2.2.2.1 P.2.2.2.2.2.1 P.2.2.2.2.2.2 (I.1, I.2.1, I.2.2.1, I.2.2.2.1, I.2.2.2.2.1, I.2.2.2.2.2.1, I.2.2.2.2.2.2.1, kn8, I.2.2.2.2.2.2.2.2.1, 1, I.2.2.2.2.2.2.2.2.2.2.1, I.2.2.2.2.2.2.2.2.2.2.2), nE 200 (ad 29) cB tx, nE 3 (ad 21) cI nw, nE 3 (ad 22) cI nr, nE 3 (ad 23) cI nk, nE 3 (ad 24) cI na]) H := hP
            try dsimp only at hkn8 hvn8
            try rw [hnc] at hvn8
            refine lv_istore (pc := 62) (lv' := [(4, .int (nI 0)), (3, .int (nI vn6)), (2, .int (nI vn4)), (1, .int (nI vn2)), (0, .ref o)]) hx hb dX10_maidItem_62 hl (by decide) rfl (fun ls hl => ?_)
            refine lv_aload_n (pc := 64) hx hb dX10_maidItem_64 rfl (lv_at hl 4 rfl) ?_
            refine va_get (pc := 65) (D := D) (ci := 10) (v := .int (nI 1)) (C := RX10) (T := TX10) (N := 44) hx hb hts hiX10 hown hK hP 0 rfl rfl 32 (by decide) wf159 (fun _ h9 => h9) rfl dX10_maidItem_65 ?_
            refine r0_ne (pc := 68) (tgt := 80) hx hb (tI_nI (by omega)) dX10_maidItem_68 (by decide) (fun c68 => ?_) (fun c68 => (by omega))
            exact hret 80 _ hP hS dX10_maidItem_80 rfl (Or.inr ⟨maiR_3 (by omega) hvn2 hvn4 hvn6 hvn8, kn8, (by omega), rfl⟩)
        · have hP : va_P D vwCl ([rmE o ad (pCells P) P.2.2.2.1 P.2.2.2.2.2.1 P.2.2.2.2.2.2 (I.1, I.2.1, I.2.2.1, I.2.2.2.1, I.2.2.2.2.1, I.2.2.2.2.2.1, I.2.2.2.2.2.2.1, kn6, I.2.2.2.2.2.2.2.2.1, 1, I.2.2.2.2.2.2.2.2.2.2.1, I.2.2.2.2.2.2.2.2.2.2.2), nE 200 (ad 29) cB tx, nE 3 (ad 21) cI nw, nE 3 (ad 22) cI nr, nE 3 (ad 23) cI nk, nE 3 (ad 24) cI na]) H := hP
          try dsimp only at hkn6 hvn6
          try rw [hnc] at hvn6
          refine lv_istore_n (pc := 50) (lv' := [(3, .int (nI 0)), (2, .int (nI vn4)), (1, .int (nI vn2)), (0, .ref o)]) hx hb dX10_maidItem_50 rfl hl (by decide) rfl (fun ls hl => ?_)
          refine lv_aload_n (pc := 51) hx hb dX10_maidItem_51 rfl (lv_at hl 3 rfl) ?_
          refine lv_iconst (pc := 52) (v := nI 0) hx hb dX10_maidItem_52 (by decide) ?_
          refine lv_aload_n (pc := 53) hx hb dX10_maidItem_53 rfl (lv_at hl 3 rfl) ?_
          refine va_get (pc := 54) (D := D) (ci := 10) (v := .int (nI I.1)) (C := RX10) (T := TX10) (N := 44) hx hb hts hiX10 hown hK hP 0 rfl rfl 12 (by decide) wf102 (fun _ h9 => h9) rfl dX10_maidItem_54 ?_
          refine lv_iconst (pc := 57) (v := nI 1) hx hb dX10_maidItem_57 (by decide) ?_
          refine rz_isub (pc := 58) hx hb (jI_nat _) (show nI 1 = jI 1 from jI_nat 1) dX10_maidItem_58 ?_
          refine ci_Vd (pc := 59) (r0 := nI 0) hF hN hK hP hV hS hA (k_X10_moreW l D cI cC cB cS o ad P (I.1, I.2.1, I.2.2.1, I.2.2.2.1, I.2.2.2.2.1, I.2.2.2.2.2.1, I.2.2.2.2.2.2.1, kn6, I.2.2.2.2.2.2.2.2.1, 1, I.2.2.2.2.2.2.2.2.2.2.1, I.2.2.2.2.2.2.2.2.2.2.2) tx (nI 0) ((0 : Nat) : Int) (tI_nI (by omega)) (jI ((I.1 : Nat) - 1)) ((I.1 : Nat) - 1) (jI_to (by omega)) hlt (show 1 = 1 by omega) (show kn6 < 40000 by omega)) (cwV 2 hts gX10_maidItem_X10_more rfl rfl rfl (by decide +kernel) ⟨Nat.le_of_ble_eq_true rfl, Nat.le_of_ble_eq_true rfl⟩) [0, 1] rfl (by decide) 0 10 rfl rfl rfl hl.1 rfl (Nat.le_of_ble_eq_true rfl) dX10_maidItem_59 ⟨Nat.le_refl _, Nat.le_refl _⟩ rfl (ws2 := [rmE o ad (pCells P) P.2.2.2.1 P.2.2.2.2.2.1 P.2.2.2.2.2.2 (I.1, I.2.1, I.2.2.1, I.2.2.2.1, I.2.2.2.2.1, I.2.2.2.2.2.1, I.2.2.2.2.2.2.1, kn6 + 1, I.2.2.2.2.2.2.2.2.1, 1, I.2.2.2.2.2.2.2.2.2.2.1, I.2.2.2.2.2.2.2.2.2.2.2), nE 200 (ad 29) cB tx, nE 3 (ad 21) cI nw, nE 3 (ad 22) cI nr, nE 3 (ad 23) cI nk, nE 3 (ad 24) cI na]) rfl (fun H locs hP hS => ?_)
          refine lv_istore (pc := 62) (lv' := [(4, .int (nI 0)), (3, .int (nI 0)), (2, .int (nI vn4)), (1, .int (nI vn2)), (0, .ref o)]) hx hb dX10_maidItem_62 hl (by decide) rfl (fun ls hl => ?_)
          refine lv_aload_n (pc := 64) hx hb dX10_maidItem_64 rfl (lv_at hl 4 rfl) ?_
          refine va_get (pc := 65) (D := D) (ci := 10) (v := .int (nI 1)) (C := RX10) (T := TX10) (N := 44) hx hb hts hiX10 hown hK hP 0 rfl rfl 32 (by decide) wf159 (fun _ h9 => h9) rfl dX10_maidItem_65 ?_
          refine r0_ne (pc := 68) (tgt := 80) hx hb (tI_nI (by omega)) dX10_maidItem_68 (by decide) (fun c68 => ?_) (fun c68 => (by omega))
          exact hret 80 _ hP hS dX10_maidItem_80 rfl (Or.inr ⟨maiR_2 (by omega) hvn2 hvn4 hvn6, kn6 + 1, (by omega), rfl⟩)
      · have hP : va_P D vwCl ([rmE o ad (pCells P) P.2.2.2.1 P.2.2.2.2.2.1 P.2.2.2.2.2.2 (I.1, I.2.1, I.2.2.1, I.2.2.2.1, I.2.2.2.2.1, I.2.2.2.2.2.1, I.2.2.2.2.2.2.1, kn4, I.2.2.2.2.2.2.2.2.1, 1, I.2.2.2.2.2.2.2.2.2.2.1, I.2.2.2.2.2.2.2.2.2.2.2), nE 200 (ad 29) cB tx, nE 3 (ad 21) cI nw, nE 3 (ad 22) cI nr, nE 3 (ad 23) cI nk, nE 3 (ad 24) cI na]) H := hP
        try dsimp only at hkn4 hvn4
        try rw [hnc] at hvn4
        refine lv_istore_n (pc := 42) (lv' := [(2, .int (nI 0)), (1, .int (nI vn2)), (0, .ref o)]) hx hb dX10_maidItem_42 rfl hl (by decide) rfl (fun ls hl => ?_)
        refine lv_aload_n (pc := 43) hx hb dX10_maidItem_43 rfl (lv_at hl 2 rfl) ?_
        refine lv_iconst (pc := 44) (v := nI 1) hx hb dX10_maidItem_44 (by decide) ?_
        refine lv_bipush (pc := 45) (v := nI 9) hx hb dX10_maidItem_45 (by decide) ?_
        refine ci_Vd (pc := 47) (r0 := nI 0) hF hN hK hP hV hS hA (k_X10_moreW l D cI cC cB cS o ad P (I.1, I.2.1, I.2.2.1, I.2.2.2.1, I.2.2.2.2.1, I.2.2.2.2.2.1, I.2.2.2.2.2.2.1, kn4, I.2.2.2.2.2.2.2.2.1, 1, I.2.2.2.2.2.2.2.2.2.2.1, I.2.2.2.2.2.2.2.2.2.2.2) tx (nI 1) ((1 : Nat) : Int) (tI_nI (by omega)) (nI 9) ((9 : Nat) : Int) (tI_nI (by omega)) hlt (show 1 = 1 by omega) (show kn4 < 40000 by omega)) (cwV 2 hts gX10_maidItem_X10_more rfl rfl rfl (by decide +kernel) ⟨Nat.le_of_ble_eq_true rfl, Nat.le_of_ble_eq_true rfl⟩) [0, 1] rfl (by decide) 0 10 rfl rfl rfl hl.1 rfl (Nat.le_of_ble_eq_true rfl) dX10_maidItem_47 ⟨Nat.le_refl _, Nat.le_refl _⟩ rfl (ws2 := [rmE o ad (pCells P) P.2.2.2.1 P.2.2.2.2.2.1 P.2.2.2.2.2.2 (I.1, I.2.1, I.2.2.1, I.2.2.2.1, I.2.2.2.2.1, I.2.2.2.2.2.1, I.2.2.2.2.2.2.1, kn4 + 1, I.2.2.2.2.2.2.2.2.1, 1, I.2.2.2.2.2.2.2.2.2.2.1, I.2.2.2.2.2.2.2.2.2.2.2), nE 200 (ad 29) cB tx, nE 3 (ad 21) cI nw, nE 3 (ad 22) cI nr, nE 3 (ad 23) cI nk, nE 3 (ad 24) cI na]) rfl (fun H locs hP hS => ?_)
        refine lv_istore_n (pc := 50) (lv' := [(3, .int (nI 0)), (2, .int (nI 0)), (1, .int (nI vn2)), (0, .ref o)]) hx hb dX10_maidItem_50 rfl hl (by decide) rfl (fun ls hl => ?_)
        refine lv_aload_n (pc := 51) hx hb dX10_maidItem_51 rfl (lv_at hl 3 rfl) ?_
        refine lv_iconst (pc := 52) (v := nI 0) hx hb dX10_maidItem_52 (by decide) ?_
        refine lv_aload_n (pc := 53) hx hb dX10_maidItem_53 rfl (lv_at hl 3 rfl) ?_
        refine va_get (pc := 54) (D := D) (ci := 10) (v := .int (nI I.1)) (C := RX10) (T := TX10) (N := 44) hx hb hts hiX10 hown hK hP 0 rfl rfl 12 (by decide) wf102 (fun _ h9 => h9) rfl dX10_maidItem_54 ?_
        refine lv_iconst (pc := 57) (v := nI 1) hx hb dX10_maidItem_57 (by decide) ?_
        refine rz_isub (pc := 58) hx hb (jI_nat _) (show nI 1 = jI 1 from jI_nat 1) dX10_maidItem_58 ?_
        refine ci_Vd (pc := 59) (r0 := nI 0) hF hN hK hP hV hS hA (k_X10_moreW l D cI cC cB cS o ad P (I.1, I.2.1, I.2.2.1, I.2.2.2.1, I.2.2.2.2.1, I.2.2.2.2.2.1, I.2.2.2.2.2.2.1, kn4 + 1, I.2.2.2.2.2.2.2.2.1, 1, I.2.2.2.2.2.2.2.2.2.2.1, I.2.2.2.2.2.2.2.2.2.2.2) tx (nI 0) ((0 : Nat) : Int) (tI_nI (by omega)) (jI ((I.1 : Nat) - 1)) ((I.1 : Nat) - 1) (jI_to (by omega)) hlt (show 1 = 1 by omega) (show (kn4 + 1) < 40000 by omega)) (cwV 2 hts gX10_maidItem_X10_more rfl rfl rfl (by decide +kernel) ⟨Nat.le_of_ble_eq_true rfl, Nat.le_of_ble_eq_true rfl⟩) [0, 1] rfl (by decide) 0 10 rfl rfl rfl hl.1 rfl (Nat.le_of_ble_eq_true rfl) dX10_maidItem_59 ⟨Nat.le_refl _, Nat.le_refl _⟩ rfl (ws2 := [rmE o ad (pCells P) P.2.2.2.1 P.2.2.2.2.2.1 P.2.2.2.2.2.2 (I.1, I.2.1, I.2.2.1, I.2.2.2.1, I.2.2.2.2.1, I.2.2.2.2.2.1, I.2.2.2.2.2.2.1, (kn4 + 1) + 1, I.2.2.2.2.2.2.2.2.1, 1, I.2.2.2.2.2.2.2.2.2.2.1, I.2.2.2.2.2.2.2.2.2.2.2), nE 200 (ad 29) cB tx, nE 3 (ad 21) cI nw, nE 3 (ad 22) cI nr, nE 3 (ad 23) cI nk, nE 3 (ad 24) cI na]) rfl (fun H locs hP hS => ?_)
        refine lv_istore (pc := 62) (lv' := [(4, .int (nI 0)), (3, .int (nI 0)), (2, .int (nI 0)), (1, .int (nI vn2)), (0, .ref o)]) hx hb dX10_maidItem_62 hl (by decide) rfl (fun ls hl => ?_)
        refine lv_aload_n (pc := 64) hx hb dX10_maidItem_64 rfl (lv_at hl 4 rfl) ?_
        refine va_get (pc := 65) (D := D) (ci := 10) (v := .int (nI 1)) (C := RX10) (T := TX10) (N := 44) hx hb hts hiX10 hown hK hP 0 rfl rfl 32 (by decide) wf159 (fun _ h9 => h9) rfl dX10_maidItem_65 ?_
        refine r0_ne (pc := 68) (tgt := 80) hx hb (tI_nI (by omega)) dX10_maidItem_68 (by decide) (fun c68 => ?_) (fun c68 => (by omega))
        exact hret 80 _ hP hS dX10_maidItem_80 rfl (Or.inr ⟨maiR_1 (by omega) hvn2 hvn4, (kn4 + 1) + 1, (by omega), rfl⟩)
    · have hP : va_P D vwCl ([rmE o ad (pCells P) P.2.2.2.1 P.2.2.2.2.2.1 P.2.2.2.2.2.2 (I.1, I.2.1, I.2.2.1, I.2.2.2.1, I.2.2.2.2.1, I.2.2.2.2.2.1, I.2.2.2.2.2.2.1, kn2, I.2.2.2.2.2.2.2.2.1, 1, I.2.2.2.2.2.2.2.2.2.2.1, I.2.2.2.2.2.2.2.2.2.2.2), nE 200 (ad 29) cB tx, nE 3 (ad 21) cI nw, nE 3 (ad 22) cI nr, nE 3 (ad 23) cI nk, nE 3 (ad 24) cI na]) H := hP
      try dsimp only at hkn2 hvn2
      try rw [hnc] at hvn2
      refine lv_istore_n (pc := 34) (lv' := [(1, .int (nI 0)), (0, .ref o)]) hx hb dX10_maidItem_34 rfl hl (by decide) rfl (fun ls hl => ?_)
      refine lv_aload_n (pc := 35) hx hb dX10_maidItem_35 rfl (lv_at hl 1 rfl) ?_
      refine lv_iconst (pc := 36) (v := nI 1) hx hb dX10_maidItem_36 (by decide) ?_
      refine lv_bipush (pc := 37) (v := nI 9) hx hb dX10_maidItem_37 (by decide) ?_
      refine ci_Vd (pc := 39) (r0 := nI 0) hF hN hK hP hV hS hA (k_X10_moreW l D cI cC cB cS o ad P (I.1, I.2.1, I.2.2.1, I.2.2.2.1, I.2.2.2.2.1, I.2.2.2.2.2.1, I.2.2.2.2.2.2.1, kn2, I.2.2.2.2.2.2.2.2.1, 1, I.2.2.2.2.2.2.2.2.2.2.1, I.2.2.2.2.2.2.2.2.2.2.2) tx (nI 1) ((1 : Nat) : Int) (tI_nI (by omega)) (nI 9) ((9 : Nat) : Int) (tI_nI (by omega)) hlt (show 1 = 1 by omega) (show kn2 < 40000 by omega)) (cwV 2 hts gX10_maidItem_X10_more rfl rfl rfl (by decide +kernel) ⟨Nat.le_of_ble_eq_true rfl, Nat.le_of_ble_eq_true rfl⟩) [0, 1] rfl (by decide) 0 10 rfl rfl rfl hl.1 rfl (Nat.le_of_ble_eq_true rfl) dX10_maidItem_39 ⟨Nat.le_refl _, Nat.le_refl _⟩ rfl (ws2 := [rmE o ad (pCells P) P.2.2.2.1 P.2.2.2.2.2.1 P.2.2.2.2.2.2 (I.1, I.2.1, I.2.2.1, I.2.2.2.1, I.2.2.2.2.1, I.2.2.2.2.2.1, I.2.2.2.2.2.2.1, kn2 + 1, I.2.2.2.2.2.2.2.2.1, 1, I.2.2.2.2.2.2.2.2.2.2.1, I.2.2.2.2.2.2.2.2.2.2.2), nE 200 (ad 29) cB tx, nE 3 (ad 21) cI nw, nE 3 (ad 22) cI nr, nE 3 (ad 23) cI nk, nE 3 (ad 24) cI na]) rfl (fun H locs hP hS => ?_)
      refine lv_istore_n (pc := 42) (lv' := [(2, .int (nI 0)), (1, .int (nI 0)), (0, .ref o)]) hx hb dX10_maidItem_42 rfl hl (by decide) rfl (fun ls hl => ?_)
      refine lv_aload_n (pc := 43) hx hb dX10_maidItem_43 rfl (lv_at hl 2 rfl) ?_
      refine lv_iconst (pc := 44) (v := nI 1) hx hb dX10_maidItem_44 (by decide) ?_
      refine lv_bipush (pc := 45) (v := nI 9) hx hb dX10_maidItem_45 (by decide) ?_
      refine ci_Vd (pc := 47) (r0 := nI 0) hF hN hK hP hV hS hA (k_X10_moreW l D cI cC cB cS o ad P (I.1, I.2.1, I.2.2.1, I.2.2.2.1, I.2.2.2.2.1, I.2.2.2.2.2.1, I.2.2.2.2.2.2.1, kn2 + 1, I.2.2.2.2.2.2.2.2.1, 1, I.2.2.2.2.2.2.2.2.2.2.1, I.2.2.2.2.2.2.2.2.2.2.2) tx (nI 1) ((1 : Nat) : Int) (tI_nI (by omega)) (nI 9) ((9 : Nat) : Int) (tI_nI (by omega)) hlt (show 1 = 1 by omega) (show (kn2 + 1) < 40000 by omega)) (cwV 2 hts gX10_maidItem_X10_more rfl rfl rfl (by decide +kernel) ⟨Nat.le_of_ble_eq_true rfl, Nat.le_of_ble_eq_true rfl⟩) [0, 1] rfl (by decide) 0 10 rfl rfl rfl hl.1 rfl (Nat.le_of_ble_eq_true rfl) dX10_maidItem_47 ⟨Nat.le_refl _, Nat.le_refl _⟩ rfl (ws2 := [rmE o ad (pCells P) P.2.2.2.1 P.2.2.2.2.2.1 P.2.2.2.2.2.2 (I.1, I.2.1, I.2.2.1, I.2.2.2.1, I.2.2.2.2.1, I.2.2.2.2.2.1, I.2.2.2.2.2.2.1, (kn2 + 1) + 1, I.2.2.2.2.2.2.2.2.1, 1, I.2.2.2.2.2.2.2.2.2.2.1, I.2.2.2.2.2.2.2.2.2.2.2), nE 200 (ad 29) cB tx, nE 3 (ad 21) cI nw, nE 3 (ad 22) cI nr, nE 3 (ad 23) cI nk, nE 3 (ad 24) cI na]) rfl (fun H locs hP hS => ?_)
      refine lv_istore_n (pc := 50) (lv' := [(3, .int (nI 0)), (2, .int (nI 0)), (1, .int (nI 0)), (0, .ref o)]) hx hb dX10_maidItem_50 rfl hl (by decide) rfl (fun ls hl => ?_)
      refine lv_aload_n (pc := 51) hx hb dX10_maidItem_51 rfl (lv_at hl 3 rfl) ?_
      refine lv_iconst (pc := 52) (v := nI 0) hx hb dX10_maidItem_52 (by decide) ?_
      refine lv_aload_n (pc := 53) hx hb dX10_maidItem_53 rfl (lv_at hl 3 rfl) ?_
      refine va_get (pc := 54) (D := D) (ci := 10) (v := .int (nI I.1)) (C := RX10) (T := TX10) (N := 44) hx hb hts hiX10 hown hK hP 0 rfl rfl 12 (by decide) wf102 (fun _ h9 => h9) rfl dX10_maidItem_54 ?_
      refine lv_iconst (pc := 57) (v := nI 1) hx hb dX10_maidItem_57 (by decide) ?_
      refine rz_isub (pc := 58) hx hb (jI_nat _) (show nI 1 = jI 1 from jI_nat 1) dX10_maidItem_58 ?_
      refine ci_Vd (pc := 59) (r0 := nI 0) hF hN hK hP hV hS hA (k_X10_moreW l D cI cC cB cS o ad P (I.1, I.2.1, I.2.2.1, I.2.2.2.1, I.2.2.2.2.1, I.2.2.2.2.2.1, I.2.2.2.2.2.2.1, (kn2 + 1) + 1, I.2.2.2.2.2.2.2.2.1, 1, I.2.2.2.2.2.2.2.2.2.2.1, I.2.2.2.2.2.2.2.2.2.2.2) tx (nI 0) ((0 : Nat) : Int) (tI_nI (by omega)) (jI ((I.1 : Nat) - 1)) ((I.1 : Nat) - 1) (jI_to (by omega)) hlt (show 1 = 1 by omega) (show ((kn2 + 1) + 1) < 40000 by omega)) (cwV 2 hts gX10_maidItem_X10_more rfl rfl rfl (by decide +kernel) ⟨Nat.le_of_ble_eq_true rfl, Nat.le_of_ble_eq_true rfl⟩) [0, 1] rfl (by decide) 0 10 rfl rfl rfl hl.1 rfl (Nat.le_of_ble_eq_true rfl) dX10_maidItem_59 ⟨Nat.le_refl _, Nat.le_refl _⟩ rfl (ws2 := [rmE o ad (pCells P) P.2.2.2.1 P.2.2.2.2.2.1 P.2.2.2.2.2.2 (I.1, I.2.1, I.2.2.1, I.2.2.2.1, I.2.2.2.2.1, I.2.2.2.2.2.1, I.2.2.2.2.2.2.1, ((kn2 + 1) + 1) + 1, I.2.2.2.2.2.2.2.2.1, 1, I.2.2.2.2.2.2.2.2.2.2.1, I.2.2.2.2.2.2.2.2.2.2.2), nE 200 (ad 29) cB tx, nE 3 (ad 21) cI nw, nE 3 (ad 22) cI nr, nE 3 (ad 23) cI nk, nE 3 (ad 24) cI na]) rfl (fun H locs hP hS => ?_)
      refine lv_istore (pc := 62) (lv' := [(4, .int (nI 0)), (3, .int (nI 0)), (2, .int (nI 0)), (1, .int (nI 0)), (0, .ref o)]) hx hb dX10_maidItem_62 hl (by decide) rfl (fun ls hl => ?_)
      refine lv_aload_n (pc := 64) hx hb dX10_maidItem_64 rfl (lv_at hl 4 rfl) ?_
      refine va_get (pc := 65) (D := D) (ci := 10) (v := .int (nI 1)) (C := RX10) (T := TX10) (N := 44) hx hb hts hiX10 hown hK hP 0 rfl rfl 32 (by decide) wf159 (fun _ h9 => h9) rfl dX10_maidItem_65 ?_
      refine r0_ne (pc := 68) (tgt := 80) hx hb (tI_nI (by omega)) dX10_maidItem_68 (by decide) (fun c68 => ?_) (fun c68 => (by omega))
      exact hret 80 _ hP hS dX10_maidItem_80 rfl (Or.inr ⟨maiR_0 (by omega) hvn2, ((kn2 + 1) + 1) + 1, (by omega), rfl⟩)
  · refine lv_iconst (pc := 9) (v := nI 1) hx hb dX10_maidItem_9 (by decide) ?_
    refine lv_goto (pc := 10) (tgt := 14) hx hb dX10_maidItem_10 (by decide) ?_
    refine ra_put (pc := 14) (D := D) (ci := 10) (v := .int (nI 1)) (ty := .boolean) (C := RX10) (T := TX10) (N := 44) (ws2 := [rmE o ad (pCells P) P.2.2.2.1 P.2.2.2.2.2.1 P.2.2.2.2.2.2 (I.1, I.2.1, I.2.2.1, I.2.2.2.1, I.2.2.2.2.1, I.2.2.2.2.2.1, I.2.2.2.2.2.2.1, I.2.2.2.2.2.2.2.1, I.2.2.2.2.2.2.2.2.1, 1, I.2.2.2.2.2.2.2.2.2.2.1, I.2.2.2.2.2.2.2.2.2.2.2), nE 200 (ad 29) cB tx, nE 3 (ad 21) cI nw, nE 3 (ad 22) cI nr, nE 3 (ad 23) cI nk, nE 3 (ad 24) cI na]) hx hb hts hiX10 tyX10 tyX10_ok nmX10 hown hK hP hV hS 0 rfl rfl 32 (by decide) wf159 (fun _ h9 => h9) rfl (by decide +kernel) rfl rfl (Nat.le_of_ble_eq_true rfl) dX10_maidItem_14 rfl rfl (fun H locs hP hS => ?_)
    refine lv_aload_n (pc := 17) hx hb dX10_maidItem_17 rfl (lv_at hl 0 rfl) ?_
    refine va_get (pc := 18) (D := D) (ci := 10) (v := .int (nI 1)) (C := RX10) (T := TX10) (N := 44) hx hb hts hiX10 hown hK hP 0 rfl rfl 32 (by decide) wf159 (fun _ h9 => h9) rfl dX10_maidItem_18 ?_
    refine r0_eq (pc := 21) (tgt := 28) hx hb (tI_nI (by omega)) dX10_maidItem_21 (by decide) (fun c21 => (by omega)) (fun c21 => ?_)
    refine lv_iconst (pc := 24) (v := nI 0) hx hb dX10_maidItem_24 (by decide) ?_
    refine lv_goto (pc := 25) (tgt := 34) hx hb dX10_maidItem_25 (by decide) ?_
    refine lv_istore_n (pc := 34) (lv' := [(1, .int (nI 0)), (0, .ref o)]) hx hb dX10_maidItem_34 rfl hl (by decide) rfl (fun ls hl => ?_)
    refine lv_aload_n (pc := 35) hx hb dX10_maidItem_35 rfl (lv_at hl 1 rfl) ?_
    refine lv_iconst (pc := 36) (v := nI 1) hx hb dX10_maidItem_36 (by decide) ?_
    refine lv_bipush (pc := 37) (v := nI 9) hx hb dX10_maidItem_37 (by decide) ?_
    refine ci_Vd (pc := 39) (r0 := nI 0) hF hN hK hP hV hS hA (k_X10_moreW l D cI cC cB cS o ad P (I.1, I.2.1, I.2.2.1, I.2.2.2.1, I.2.2.2.2.1, I.2.2.2.2.2.1, I.2.2.2.2.2.2.1, I.2.2.2.2.2.2.2.1, I.2.2.2.2.2.2.2.2.1, 1, I.2.2.2.2.2.2.2.2.2.2.1, I.2.2.2.2.2.2.2.2.2.2.2) tx (nI 1) ((1 : Nat) : Int) (tI_nI (by omega)) (nI 9) ((9 : Nat) : Int) (tI_nI (by omega)) hlt (show 1 = 1 by omega) (show I.2.2.2.2.2.2.2.1 < 40000 by omega)) (cwV 2 hts gX10_maidItem_X10_more rfl rfl rfl (by decide +kernel) ⟨Nat.le_of_ble_eq_true rfl, Nat.le_of_ble_eq_true rfl⟩) [0, 1] rfl (by decide) 0 10 rfl rfl rfl hl.1 rfl (Nat.le_of_ble_eq_true rfl) dX10_maidItem_39 ⟨Nat.le_refl _, Nat.le_refl _⟩ rfl (ws2 := [rmE o ad (pCells P) P.2.2.2.1 P.2.2.2.2.2.1 P.2.2.2.2.2.2 (I.1, I.2.1, I.2.2.1, I.2.2.2.1, I.2.2.2.2.1, I.2.2.2.2.2.1, I.2.2.2.2.2.2.1, I.2.2.2.2.2.2.2.1 + 1, I.2.2.2.2.2.2.2.2.1, 1, I.2.2.2.2.2.2.2.2.2.2.1, I.2.2.2.2.2.2.2.2.2.2.2), nE 200 (ad 29) cB tx, nE 3 (ad 21) cI nw, nE 3 (ad 22) cI nr, nE 3 (ad 23) cI nk, nE 3 (ad 24) cI na]) rfl (fun H locs hP hS => ?_)
    refine lv_istore_n (pc := 42) (lv' := [(2, .int (nI 0)), (1, .int (nI 0)), (0, .ref o)]) hx hb dX10_maidItem_42 rfl hl (by decide) rfl (fun ls hl => ?_)
    refine lv_aload_n (pc := 43) hx hb dX10_maidItem_43 rfl (lv_at hl 2 rfl) ?_
    refine lv_iconst (pc := 44) (v := nI 1) hx hb dX10_maidItem_44 (by decide) ?_
    refine lv_bipush (pc := 45) (v := nI 9) hx hb dX10_maidItem_45 (by decide) ?_
    refine ci_Vd (pc := 47) (r0 := nI 0) hF hN hK hP hV hS hA (k_X10_moreW l D cI cC cB cS o ad P (I.1, I.2.1, I.2.2.1, I.2.2.2.1, I.2.2.2.2.1, I.2.2.2.2.2.1, I.2.2.2.2.2.2.1, I.2.2.2.2.2.2.2.1 + 1, I.2.2.2.2.2.2.2.2.1, 1, I.2.2.2.2.2.2.2.2.2.2.1, I.2.2.2.2.2.2.2.2.2.2.2) tx (nI 1) ((1 : Nat) : Int) (tI_nI (by omega)) (nI 9) ((9 : Nat) : Int) (tI_nI (by omega)) hlt (show 1 = 1 by omega) (show (I.2.2.2.2.2.2.2.1 + 1) < 40000 by omega)) (cwV 2 hts gX10_maidItem_X10_more rfl rfl rfl (by decide +kernel) ⟨Nat.le_of_ble_eq_true rfl, Nat.le_of_ble_eq_true rfl⟩) [0, 1] rfl (by decide) 0 10 rfl rfl rfl hl.1 rfl (Nat.le_of_ble_eq_true rfl) dX10_maidItem_47 ⟨Nat.le_refl _, Nat.le_refl _⟩ rfl (ws2 := [rmE o ad (pCells P) P.2.2.2.1 P.2.2.2.2.2.1 P.2.2.2.2.2.2 (I.1, I.2.1, I.2.2.1, I.2.2.2.1, I.2.2.2.2.1, I.2.2.2.2.2.1, I.2.2.2.2.2.2.1, (I.2.2.2.2.2.2.2.1 + 1) + 1, I.2.2.2.2.2.2.2.2.1, 1, I.2.2.2.2.2.2.2.2.2.2.1, I.2.2.2.2.2.2.2.2.2.2.2), nE 200 (ad 29) cB tx, nE 3 (ad 21) cI nw, nE 3 (ad 22) cI nr, nE 3 (ad 23) cI nk, nE 3 (ad 24) cI na]) rfl (fun H locs hP hS => ?_)
    refine lv_istore_n (pc := 50) (lv' := [(3, .int (nI 0)), (2, .int (nI 0)), (1, .int (nI 0)), (0, .ref o)]) hx hb dX10_maidItem_50 rfl hl (by decide) rfl (fun ls hl => ?_)
    refine lv_aload_n (pc := 51) hx hb dX10_maidItem_51 rfl (lv_at hl 3 rfl) ?_
    refine lv_iconst (pc := 52) (v := nI 0) hx hb dX10_maidItem_52 (by decide) ?_
    refine lv_aload_n (pc := 53) hx hb dX10_maidItem_53 rfl (lv_at hl 3 rfl) ?_
    refine va_get (pc := 54) (D := D) (ci := 10) (v := .int (nI I.1)) (C := RX10) (T := TX10) (N := 44) hx hb hts hiX10 hown hK hP 0 rfl rfl 12 (by decide) wf102 (fun _ h9 => h9) rfl dX10_maidItem_54 ?_
    refine lv_iconst (pc := 57) (v := nI 1) hx hb dX10_maidItem_57 (by decide) ?_
    refine rz_isub (pc := 58) hx hb (jI_nat _) (show nI 1 = jI 1 from jI_nat 1) dX10_maidItem_58 ?_
    refine ci_Vd (pc := 59) (r0 := nI 0) hF hN hK hP hV hS hA (k_X10_moreW l D cI cC cB cS o ad P (I.1, I.2.1, I.2.2.1, I.2.2.2.1, I.2.2.2.2.1, I.2.2.2.2.2.1, I.2.2.2.2.2.2.1, (I.2.2.2.2.2.2.2.1 + 1) + 1, I.2.2.2.2.2.2.2.2.1, 1, I.2.2.2.2.2.2.2.2.2.2.1, I.2.2.2.2.2.2.2.2.2.2.2) tx (nI 0) ((0 : Nat) : Int) (tI_nI (by omega)) (jI ((I.1 : Nat) - 1)) ((I.1 : Nat) - 1) (jI_to (by omega)) hlt (show 1 = 1 by omega) (show ((I.2.2.2.2.2.2.2.1 + 1) + 1) < 40000 by omega)) (cwV 2 hts gX10_maidItem_X10_more rfl rfl rfl (by decide +kernel) ⟨Nat.le_of_ble_eq_true rfl, Nat.le_of_ble_eq_true rfl⟩) [0, 1] rfl (by decide) 0 10 rfl rfl rfl hl.1 rfl (Nat.le_of_ble_eq_true rfl) dX10_maidItem_59 ⟨Nat.le_refl _, Nat.le_refl _⟩ rfl (ws2 := [rmE o ad (pCells P) P.2.2.2.1 P.2.2.2.2.2.1 P.2.2.2.2.2.2 (I.1, I.2.1, I.2.2.1, I.2.2.2.1, I.2.2.2.2.1, I.2.2.2.2.2.1, I.2.2.2.2.2.2.1, ((I.2.2.2.2.2.2.2.1 + 1) + 1) + 1, I.2.2.2.2.2.2.2.2.1, 1, I.2.2.2.2.2.2.2.2.2.2.1, I.2.2.2.2.2.2.2.2.2.2.2), nE 200 (ad 29) cB tx, nE 3 (ad 21) cI nw, nE 3 (ad 22) cI nr, nE 3 (ad 23) cI nk, nE 3 (ad 24) cI na]) rfl (fun H locs hP hS => ?_)
    refine lv_istore (pc := 62) (lv' := [(4, .int (nI 0)), (3, .int (nI 0)), (2, .int (nI 0)), (1, .int (nI 0)), (0, .ref o)]) hx hb dX10_maidItem_62 hl (by decide) rfl (fun ls hl => ?_)
    refine lv_aload_n (pc := 64) hx hb dX10_maidItem_64 rfl (lv_at hl 4 rfl) ?_
    refine va_get (pc := 65) (D := D) (ci := 10) (v := .int (nI 1)) (C := RX10) (T := TX10) (N := 44) hx hb hts hiX10 hown hK hP 0 rfl rfl 32 (by decide) wf159 (fun _ h9 => h9) rfl dX10_maidItem_65 ?_
    refine r0_ne (pc := 68) (tgt := 80) hx hb (tI_nI (by omega)) dX10_maidItem_68 (by decide) (fun c68 => ?_) (fun c68 => (by omega))
    exact hret 80 _ hP hS dX10_maidItem_80 rfl (Or.inr ⟨maiR_6 (by omega), ((I.2.2.2.2.2.2.2.1 + 1) + 1) + 1, (by omega), rfl⟩)
