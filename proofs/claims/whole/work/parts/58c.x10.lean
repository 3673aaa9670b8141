abbrev rmX10_caseItem : Room := { frames := 3, cells := 0, slots := 0, locals := 71 }
set_option maxHeartbeats 4000000 in
set_option maxRecDepth 100000 in
theorem k_X10_caseItem (l : Launch) (D : va_G) (cI cC cB cS : ClassId) (o : Nat) (ad : Nat → Nat) (P : PL) (I : RI) (tx : Nat → Nat) (ns : Nat → Nat) (nc : Nat → Nat) (nd : Nat → Nat) (ni : Nat → Nat) (O : PL) (hpo : pOK O) (hlt : ltOK (tx, I.2.2.2.2.2.2.1)) (hat6 : I.2.2.2.2.2.2.2.1 < 30000) (hnc : I.1 = pCells O) (hcc9 : I.2.2.1 = O.2.2.2.2.2.1) : CV l D (kT cI cC cB cS) yX10_caseItem wsX10_caseItem rmX10_caseItem [.ref o] ([rmE o ad (pCells P) P.2.2.2.1 P.2.2.2.2.2.1 P.2.2.2.2.2.2 I, nE 200 (ad 29) cB tx, nE 6 (ad 16) cI ns, nE 6 (ad 17) cI nc, nE 6 (ad 18) cI nd, nE 6 (ad 19) cI ni]) (fun u => (∃ a b c9 d k1, casR (tx, I.2.2.2.2.2.2.1) O I.2.2.2.2.2.2.2.1 = some ((a, b, c9, d), k1) ∧ u = [rmE o ad (pCells P) P.2.2.2.1 P.2.2.2.2.2.1 P.2.2.2.2.2.2 (I.1, I.2.1, I.2.2.1 + 1, I.2.2.2.1, I.2.2.2.2.1, I.2.2.2.2.2.1, I.2.2.2.2.2.2.1, k1, I.2.2.2.2.2.2.2.2.1, 0, I.2.2.2.2.2.2.2.2.2.2.1, I.2.2.2.2.2.2.2.2.2.2.2), nE 200 (ad 29) cB tx, nE 6 (ad 16) cI (va_up ns I.2.2.1 a), nE 6 (ad 17) cI (va_up nc I.2.2.1 b), nE 6 (ad 18) cI (va_up nd I.2.2.1 c9), nE 6 (ad 19) cI (va_up ni I.2.2.1 d)]) ∨ (casR (tx, I.2.2.2.2.2.2.1) O I.2.2.2.2.2.2.2.1 = none ∧ ∃ k1, (I.2.2.2.2.2.2.2.1 ≤ k1 ∧ k1 ≤ I.2.2.2.2.2.2.2.1 + 30) ∧ u = [rmE o ad (pCells P) P.2.2.2.1 P.2.2.2.2.2.1 P.2.2.2.2.2.2 (I.1, I.2.1, I.2.2.1, I.2.2.2.1, I.2.2.2.2.1, I.2.2.2.2.2.1, I.2.2.2.2.2.2.1, k1, I.2.2.2.2.2.2.2.2.1, 1, I.2.2.2.2.2.2.2.2.2.2.1, I.2.2.2.2.2.2.2.2.2.2.2), nE 200 (ad 29) cB tx, nE 6 (ad 16) cI ns, nE 6 (ad 17) cI nc, nE 6 (ad 18) cI nd, nE 6 (ad 19) cI ni])) := by
  refine cv_intro (by decide) rfl (Nat.le_of_ble_eq_true rfl) ?_
  intro p e s m args below meth c ls A QF hF hK hP hV hS hA hN hl hret
  obtain ⟨hx, hb, hml, hown, hts⟩ := id hF
  have hP : va_P D vwCl ([rmE o ad (pCells P) P.2.2.2.1 P.2.2.2.2.2.1 P.2.2.2.2.2.2 I, nE 200 (ad 29) cB tx, nE 6 (ad 16) cI ns, nE 6 (ad 17) cI nc, nE 6 (ad 18) cI nd, nE 6 (ad 19) cI ni]) s.heap := hP
  have hl : lv_has ls 5 [(0, .ref o)] := hl
  have wf102 := hts (.fieldLink RX10 102 "RemorseWallModel" "newCells" "I") (by decide +kernel)
  have wf115 := hts (.fieldLink RX10 115 "RemorseWallModel" "newCases" "I") (by decide +kernel)
  have wf159 := hts (.fieldLink RX10 159 "RemorseWallModel" "isWrong" "Z") (by decide +kernel)
  have hiX10 : ∀ w ∈ u_ws RX10 TX10 44, w ∈ wsX10_caseItem := by decide +kernel
  obtain ⟨ho1, ho2, ho3, ho4, ho5, ho6, ho7⟩ := id hpo
  have hcl := pCells_le hpo
  refine lv_aload_n (pc := 0) hx hb dX10_caseItem_0 rfl (lv_at hl 0 rfl) ?_
  refine lv_aload_n (pc := 1) hx hb dX10_caseItem_1 rfl (lv_at hl 0 rfl) ?_
  refine va_get (pc := 2) (D := D) (ci := 10) (v := .int (nI I.2.2.1)) (C := RX10) (T := TX10) (N := 44) hx hb hts hiX10 hown hK hP 0 rfl rfl 15 (by decide) wf115 (fun _ h9 => h9) rfl dX10_caseItem_2 ?_
  refine lv_bipush (pc := 5) (v := nI 6) hx hb dX10_caseItem_5 (by decide) ?_
  refine rc_ne (pc := 7) (tgt := 14) hx hb (tI_nI (by omega)) (tI_nI (by omega)) dX10_caseItem_7 (by decide) (fun c7 => ?_) (fun c7 => ?_)
  · refine lv_iconst (pc := 14) (v := nI 0) hx hb dX10_caseItem_14 (by decide) ?_
    refine ra_put (pc := 15) (D := D) (ci := 10) (v := .int (nI 0)) (ty := .boolean) (C := RX10) (T := TX10) (N := 44) (ws2 := [rmE o ad (pCells P) P.2.2.2.1 P.2.2.2.2.2.1 P.2.2.2.2.2.2 (I.1, I.2.1, I.2.2.1, I.2.2.2.1, I.2.2.2.2.1, I.2.2.2.2.2.1, I.2.2.2.2.2.2.1, I.2.2.2.2.2.2.2.1, I.2.2.2.2.2.2.2.2.1, 0, I.2.2.2.2.2.2.2.2.2.2.1, I.2.2.2.2.2.2.2.2.2.2.2), nE 200 (ad 29) cB tx, nE 6 (ad 16) cI ns, nE 6 (ad 17) cI nc, nE 6 (ad 18) cI nd, nE 6 (ad 19) cI ni]) hx hb hts hiX10 tyX10 tyX10_ok nmX10 hown hK hP hV hS 0 rfl rfl 32 (by decide) wf159 (fun _ h9 => h9) rfl (by decide +kernel) rfl rfl (Nat.le_of_ble_eq_true rfl) dX10_caseItem_15 rfl rfl (fun H locs hP hS => ?_)
    refine lv_aload_n (pc := 18) hx hb dX10_caseItem_18 rfl (lv_at hl 0 rfl) ?_
    refine va_get (pc := 19) (D := D) (ci := 10) (v := .int (nI 0)) (C := RX10) (T := TX10) (N := 44) hx hb hts hiX10 hown hK hP 0 rfl rfl 32 (by decide) wf159 (fun _ h9 => h9) rfl dX10_caseItem_19 ?_
    refine r0_eq (pc := 22) (tgt := 29) hx hb (tI_nI (by omega)) dX10_caseItem_22 (by decide) (fun c22 => ?_) (fun c22 => (by omega))
    refine lv_aload_n (pc := 29) hx hb dX10_caseItem_29 rfl (lv_at hl 0 rfl) ?_
    refine lv_iconst (pc := 30) (v := nI 0) hx hb dX10_caseItem_30 (by decide) ?_
    refine lv_iconst (pc := 31) (v := nI 3) hx hb dX10_caseItem_31 (by decide) ?_
    refine ci_V (pc := 32) hF hN hK hP hV hS hA (k_X10_number l D cI cC cB cS o ad P (I.1, I.2.1, I.2.2.1, I.2.2.2.1, I.2.2.2.2.1, I.2.2.2.2.2.1, I.2.2.2.2.2.2.1, I.2.2.2.2.2.2.2.1, I.2.2.2.2.2.2.2.2.1, 0, I.2.2.2.2.2.2.2.2.2.2.1, I.2.2.2.2.2.2.2.2.2.2.2) tx (nI 0) ((0 : Nat) : Int) (tI_nI (by omega)) (nI 3) ((3 : Nat) : Int) (tI_nI (by omega)) hlt (show 0 = 0 by omega) (show I.2.2.2.2.2.2.2.1 < 50000 by omega)) (cwV 2 hts gX10_caseItem_X10_number rfl rfl rfl (by decide +kernel) ⟨Nat.le_of_ble_eq_true rfl, Nat.le_of_ble_eq_true rfl⟩) [0, 1] rfl (by decide) 0 10 rfl rfl rfl hl.1 rfl (Nat.le_of_ble_eq_true rfl) dX10_caseItem_32 ⟨Nat.le_refl _, Nat.le_refl _⟩ rfl (fun r u H locs hq hu hP hS => ?_)
    rcases hq with ⟨vn2, kn2, hvn2, rfl, rfl⟩ | ⟨hvn2, kn2, hkn2, rfl, rfl⟩
    · have hP : va_P D vwCl ([rmE o ad (pCells P) P.2.2.2.1 P.2.2.2.2.2.1 P.2.2.2.2.2.2 (I.1, I.2.1, I.2.2.1, I.2.2.2.1, I.2.2.2.2.1, I.2.2.2.2.2.1, I.2.2.2.2.2.2.1, kn2, I.2.2.2.2.2.2.2.2.1, 0, I.2.2.2.2.2.2.2.2.2.2.1, I.2.2.2.2.2.2.2.2.2.2.2), nE 200 (ad 29) cB tx, nE 6 (ad 16) cI ns, nE 6 (ad 17) cI nc, nE 6 (ad 18) cI nd, nE 6 (ad 19) cI ni]) H := hP
      try dsimp only at hvn2
      try rw [hnc] at hvn2
      have hsn2 := numR_some hvn2
      refine lv_istore_n (pc := 35) (lv' := [(1, .int (nI vn2)), (0, .ref o)]) hx hb dX10_caseItem_35 rfl hl (by decide) rfl (fun ls hl => ?_)
      refine lv_aload_n (pc := 36) hx hb dX10_caseItem_36 rfl (lv_at hl 1 rfl) ?_
      refine lv_iconst (pc := 37) (v := nI 0) hx hb dX10_caseItem_37 (by decide) ?_
      refine lv_aload_n (pc := 38) hx hb dX10_caseItem_38 rfl (lv_at hl 1 rfl) ?_
      refine va_get (pc := 39) (D := D) (ci := 10) (v := .int (nI I.1)) (C := RX10) (T := TX10) (N := 44) hx hb hts hiX10 hown hK hP 0 rfl rfl 12 (by decide) wf102 (fun _ h9 => h9) rfl dX10_caseItem_39 ?_
      refine lv_iconst (pc := 42) (v := nI 1) hx hb dX10_caseItem_42 (by decide) ?_
      refine rz_isub (pc := 43) hx hb (jI_nat _) (show nI 1 = jI 1 from jI_nat 1) dX10_caseItem_43 ?_
      refine ci_V (pc := 44) hF hN hK hP hV hS hA (k_X10_more l D cI cC cB cS o ad P (I.1, I.2.1, I.2.2.1, I.2.2.2.1, I.2.2.2.2.1, I.2.2.2.2.2.1, I.2.2.2.2.2.2.1, kn2, I.2.2.2.2.2.2.2.2.1, 0, I.2.2.2.2.2.2.2.2.2.2.1, I.2.2.2.2.2.2.2.2.2.2.2) tx (nI 0) ((0 : Nat) : Int) (tI_nI (by omega)) (jI ((I.1 : Nat) - 1)) ((I.1 : Nat) - 1) (jI_to (by omega)) hlt (show 0 = 0 by omega) (show kn2 < 40000 by omega)) (cwV 2 hts gX10_caseItem_X10_more rfl rfl rfl (by decide +kernel) ⟨Nat.le_of_ble_eq_true rfl, Nat.le_of_ble_eq_true rfl⟩) [0, 1] rfl (by decide) 0 10 rfl rfl rfl hl.1 rfl (Nat.le_of_ble_eq_true rfl) dX10_caseItem_44 ⟨Nat.le_refl _, Nat.le_refl _⟩ rfl (fun r u H locs hq hu hP hS => ?_)
      rcases hq with ⟨vn4, kn4, hvn4, rfl, rfl⟩ | ⟨hvn4, kn4, hkn4, rfl, rfl⟩
      · have hP : va_P D vwCl ([rmE o ad (pCells P) P.2.2.2.1 P.2.2.2.2.2.1 P.2.2.2.2.2.2 (I.1, I.2.1, I.2.2.1, I.2.2.2.1, I.2.2.2.2.1, I.2.2.2.2.2.1, I.2.2.2.2.2.2.1, kn4, I.2.2.2.2.2.2.2.2.1, 0, I.2.2.2.2.2.2.2.2.2.2.1, I.2.2.2.2.2.2.2.2.2.2.2), nE 200 (ad 29) cB tx, nE 6 (ad 16) cI ns, nE 6 (ad 17) cI nc, nE 6 (ad 18) cI nd, nE 6 (ad 19) cI ni]) H := hP
        try dsimp only at hvn4
        try rw [hnc] at hvn4
        have hsn4 := more_b hvn4
        refine lv_istore_n (pc := 47) (lv' := [(2, .int (nI vn4)), (1, .int (nI vn2)), (0, .ref o)]) hx hb dX10_caseItem_47 rfl hl (by decide) rfl (fun ls hl => ?_)
        refine lv_aload_n (pc := 48) hx hb dX10_caseItem_48 rfl (lv_at hl 2 rfl) ?_
        refine lv_iconst (pc := 49) (v := nI 1) hx hb dX10_caseItem_49 (by decide) ?_
        refine lv_bipush (pc := 50) (v := nI 9) hx hb dX10_caseItem_50 (by decide) ?_
        refine ci_V (pc := 52) hF hN hK hP hV hS hA (k_X10_more l D cI cC cB cS o ad P (I.1, I.2.1, I.2.2.1, I.2.2.2.1, I.2.2.2.2.1, I.2.2.2.2.2.1, I.2.2.2.2.2.2.1, kn4, I.2.2.2.2.2.2.2.2.1, 0, I.2.2.2.2.2.2.2.2.2.2.1, I.2.2.2.2.2.2.2.2.2.2.2) tx (nI 1) ((1 : Nat) : Int) (tI_nI (by omega)) (nI 9) ((9 : Nat) : Int) (tI_nI (by omega)) hlt (show 0 = 0 by omega) (show kn4 < 40000 by omega)) (cwV 2 hts gX10_caseItem_X10_more rfl rfl rfl (by decide +kernel) ⟨Nat.le_of_ble_eq_true rfl, Nat.le_of_ble_eq_true rfl⟩) [0, 1] rfl (by decide) 0 10 rfl rfl rfl hl.1 rfl (Nat.le_of_ble_eq_true rfl) dX10_caseItem_52 ⟨Nat.le_refl _, Nat.le_refl _⟩ rfl (fun r u H locs hq hu hP hS => ?_)
        rcases hq with ⟨vn6, kn6, hvn6, rfl, rfl⟩ | ⟨hvn6, kn6, hkn6, rfl, rfl⟩
        · have hP : va_P D vwCl ([rmE o ad (pCells P) P.2.2.2.1 P.2.2.2.2.2.1 P.2.2.2.2.2.2 (I.1, I.2.1, I.2.2.1, I.2.2.2.1, I.2.2.2.2.1, I.2.2.2.2.2.1, I.2.2.2.2.2.2.1, kn6, I.2.2.2.2.2.2.2.2.1, 0, I.2.2.2.2.2.2.2.2.2.2.1, I.2.2.2.2.2.2.2.2.2.2.2), nE 200 (ad 29) cB tx, nE 6 (ad 16) cI ns, nE 6 (ad 17) cI nc, nE 6 (ad 18) cI nd, nE 6 (ad 19) cI ni]) H := hP
          try dsimp only at hvn6
          try rw [hnc] at hvn6
          have hsn6 := more_b hvn6
          refine lv_istore_n (pc := 55) (lv' := [(3, .int (nI vn6)), (2, .int (nI vn4)), (1, .int (nI vn2)), (0, .ref o)]) hx hb dX10_caseItem_55 rfl hl (by decide) rfl (fun ls hl => ?_)
          refine lv_aload_n (pc := 56) hx hb dX10_caseItem_56 rfl (lv_at hl 3 rfl) ?_
          refine lv_iconst (pc := 57) (v := nI 0) hx hb dX10_caseItem_57 (by decide) ?_
          refine lv_bipush (pc := 58) (v := nI 19) hx hb dX10_caseItem_58 (by decide) ?_
          refine ci_V (pc := 60) hF hN hK hP hV hS hA (k_X10_more l D cI cC cB cS o ad P (I.1, I.2.1, I.2.2.1, I.2.2.2.1, I.2.2.2.2.1, I.2.2.2.2.2.1, I.2.2.2.2.2.2.1, kn6, I.2.2.2.2.2.2.2.2.1, 0, I.2.2.2.2.2.2.2.2.2.2.1, I.2.2.2.2.2.2.2.2.2.2.2) tx (nI 0) ((0 : Nat) : Int) (tI_nI (by omega)) (nI 19) ((19 : Nat) : Int) (tI_nI (by omega)) hlt (show 0 = 0 by omega) (show kn6 < 40000 by omega)) (cwV 2 hts gX10_caseItem_X10_more rfl rfl rfl (by decide +kernel) ⟨Nat.le_of_ble_eq_true rfl, Nat.le_of_ble_eq_true rfl⟩) [0, 1] rfl (by decide) 0 10 rfl rfl rfl hl.1 rfl (Nat.le_of_ble_eq_true rfl) dX10_caseItem_60 ⟨Nat.le_refl _, Nat.le_refl _⟩ rfl (fun r u H locs hq hu hP hS => ?_)
          rcases hq with ⟨vn8, kn8, hvn8, rfl, rfl⟩ | ⟨hvn8, kn8, hkn8, rfl, rfl⟩
          · have hP : va_P D vwCl ([rmE o ad (pCells P) P.2.2.2.1 P.2.2.2.2.2.1 P.2.2.2.2.2.2 (I.1, I.2.1, I.2.2.1, I.2.2.2.1, I.2.2.2.2.1, I.2.2.2.2.2.1, I.2.2.2.2.2.2.1, kn8, I.2.2.2.2.2.2.2.2.1, 0, I.2.2.2.2.2.2.2.2.2.2.1, I.2.2.2.2.2.2.2.2.2.2.2), nE 200 (ad 29) cB tx, nE 6 (ad 16) cI ns, nE 6 (ad 17) cI nc, nE 6 (ad 18) cI nd, nE 6 (ad 19) cI ni]) H := hP
            try dsimp only at hvn8
            try rw [hnc] at hvn8
            have hsn8 := more_b hvn8
            refine lv_istore (pc := 63) (lv' := [(4, .int (nI vn8)), (3, .int (nI vn6)), (2, .int (nI vn4)), (1, .int (nI vn2)), (0, .ref o)]) hx hb dX10_caseItem_63 hl (by decide) rfl (fun ls hl => ?_)
            refine lv_aload_n (pc := 65) hx hb dX10_caseItem_65 rfl (lv_at hl 4 rfl) ?_
            refine va_get (pc := 66) (D := D) (ci := 10) (v := .int (nI 0)) (C := RX10) (T := TX10) (N := 44) hx hb hts hiX10 hown hK hP 0 rfl rfl 32 (by decide) wf159 (fun _ h9 => h9) rfl dX10_caseItem_66 ?_
            refine r0_ne (pc := 69) (tgt := 81) hx hb (tI_nI (by omega)) dX10_caseItem_69 (by decide) (fun c69 => (by omega)) (fun c69 => ?_)
            refine lv_aload_n (pc := 72) hx hb dX10_caseItem_72 rfl (lv_at hl 4 rfl) ?_
            refine lv_iload_n (pc := 73) hx hb dX10_caseItem_73 rfl (lv_at hl 3 rfl) ?_
            refine lv_iload_n (pc := 74) hx hb dX10_caseItem_74 rfl (lv_at hl 2 rfl) ?_
            refine lv_iload_n (pc := 75) hx hb dX10_caseItem_75 rfl (lv_at hl 1 rfl) ?_
            refine lv_iload (pc := 76) hx hb dX10_caseItem_76 (lv_at hl 0 rfl) ?_
            refine cv_Vd (pc := 78) hF hN hK hP hV hS hA (k_X10_lies l D cI cC cB cS o ad P (I.1, I.2.1, I.2.2.1, I.2.2.2.1, I.2.2.2.2.1, I.2.2.2.2.2.1, I.2.2.2.2.2.2.1, kn8, I.2.2.2.2.2.2.2.2.1, 0, I.2.2.2.2.2.2.2.2.2.2.1, I.2.2.2.2.2.2.2.2.2.2.2) ns nc nd ni vn2 vn4 vn6 vn8 (show I.2.2.1 < 6 by omega)) (cwV 4 hts gX10_caseItem_X10_lies rfl rfl rfl (by decide +kernel) ⟨Nat.le_of_ble_eq_true rfl, Nat.le_of_ble_eq_true rfl⟩) [0, 2, 3, 4, 5] rfl (by decide) 0 10 rfl rfl rfl hl.1 rfl (Nat.le_of_ble_eq_true rfl) dX10_caseItem_78 ⟨Nat.le_refl _, Nat.le_refl _⟩ rfl (ws2 := [rmE o ad (pCells P) P.2.2.2.1 P.2.2.2.2.2.1 P.2.2.2.2.2.2 (I.1, I.2.1, I.2.2.1 + 1, I.2.2.2.1, I.2.2.2.2.1, I.2.2.2.2.2.1, I.2.2.2.2.2.2.1, kn8, I.2.2.2.2.2.2.2.2.1, 0, I.2.2.2.2.2.2.2.2.2.2.1, I.2.2.2.2.2.2.2.2.2.2.2), nE 200 (ad 29) cB tx, nE 6 (ad 16) cI (va_up ns I.2.2.1 vn2), nE 6 (ad 17) cI (va_up nc I.2.2.1 vn4), nE 6 (ad 18) cI (va_up nd I.2.2.1 vn6), nE 6 (ad 19) cI (va_up ni I.2.2.1 vn8)]) rfl (fun H locs hP hS => ?_)
            exact hret 81 _ hP hS dX10_caseItem_81 rfl (Or.inl ⟨vn2, vn4, vn6, vn8, kn8, casR_4 (by omega) hvn2 hvn4 hvn6 hvn8, rfl⟩)
          · have hP : va_P D vwCl ([rmE o ad (pCells P) P.2.2.2.1 P.2.2.2.2.2.1 P.2.2.2.2.2.2 (I.1, I.2.1, I.2.2.1, I.2.2.2.1, I.2.2.2.2.1, I.2.2.2.2.2.1, I.2.2.2.2.2.2.1, kn8, I.2.2.2.2.2.2.2.2.1, 1, I.2.2.2.2.2.2.2.2.2.2.1, I.2.2.2.2.2.2.2.2.2.2.2), nE 200 (ad 29) cB tx, nE 6 (ad 16) cI ns, nE 6 (ad 17) cI nc, nE 6 (ad 18) cI nd, nE 6 (ad 19) cI ni]) H := hP
            try dsimp only at hkn8 hvn8
            try rw [hnc] at hvn8
            refine lv_istore (pc := 63) (lv' := [(4, .int (nI 0)), (3, .int (nI vn6)), (2, .int (nI vn4)), (1, .int (nI vn2)), (0, .ref o)]) hx hb dX10_caseItem_63 hl (by decide) rfl (fun ls hl => ?_)
            refine lv_aload_n (pc := 65) hx hb dX10_caseItem_65 rfl (lv_at hl 4 rfl) ?_
            refine va_get (pc := 66) (D := D) (ci := 10) (v := .int (nI 1)) (C := RX10) (T := TX10) (N := 44) hx hb hts hiX10 hown hK hP 0 rfl rfl 32 (by decide) wf159 (fun _ h9 => h9) rfl dX10_caseItem_66 ?_
            refine r0_ne (pc := 69) (tgt := 81) hx hb (tI_nI (by omega)) dX10_caseItem_69 (by decide) (fun c69 => ?_) (fun c69 => (by omega))
            exact hret 81 _ hP hS dX10_caseItem_81 rfl (Or.inr ⟨casR_3 (by omega) hvn2 hvn4 hvn6 hvn8, kn8, (by omega), rfl⟩)
        · have hP : va_P D vwCl ([rmE o ad (pCells P) P.2.2.2.1 P.2.2.2.2.2.1 P.2.2.2.2.2.2 (I.1, I.2.1, I.2.2.1, I.2.2.2.1, I.2.2.2.2.1, I.2.2.2.2.2.1, I.2.2.2.2.2.2.1, kn6, I.2.2.2.2.2.2.2.2.1, 1, I.2.2.2.2.2.2.2.2.2.2.1, I.2.2.2.2.2.2.2.2.2.2.2), nE 200 (ad 29) cB tx, nE 6 (ad 16) cI ns, nE 6 (ad 17) cI nc, nE 6 (ad 18) cI nd, nE 6 (ad 19) cI ni]) H := hP
          try dsimp only at hkn6 hvn6
          try rw [hnc] at hvn6
          refine lv_istore_n (pc := 55) (lv' := [(3, .int (nI 0)), (2, .int (nI vn4)), (1, .int (nI vn2)), (0, .ref o)]) hx hb dX10_caseItem_55 rfl hl (by decide) rfl (fun ls hl => ?_)
          refine lv_aload_n (pc := 56) hx hb dX10_caseItem_56 rfl (lv_at hl 3 rfl) ?_
          refine lv_iconst (pc := 57) (v := nI 0) hx hb dX10_caseItem_57 (by decide) ?_
          refine lv_bipush (pc := 58) (v := nI 19) hx hb dX10_caseItem_58 (by decide) ?_
          refine ci_Vd (pc := 60) (r0 := nI 0) hF hN hK hP hV hS hA (k_X10_moreW l D cI cC cB cS o ad P (I.1, I.2.1, I.2.2.1, I.2.2.2.1, I.2.2.2.2.1, I.2.2.2.2.2.1, I.2.2.2.2.2.2.1, kn6, I.2.2.2.2.2.2.2.2.1, 1, I.2.2.2.2.2.2.2.2.2.2.1, I.2.2.2.2.2.2.2.2.2.2.2) tx (nI 0) ((0 : Nat) : Int) (tI_nI (by omega)) (nI 19) ((19 : Nat) : Int) (tI_nI (by omega)) hlt (show 1 = 1 by omega) (show kn6 < 40000 by omega)) (cwV 2 hts gX10_caseItem_X10_more rfl rfl rfl (by decide +kernel) ⟨Nat.le_of_ble_eq_true rfl, Nat.le_of_ble_eq_true rfl⟩) [0, 1] rfl (by decide) 0 10 rfl rfl rfl hl.1 rfl (Nat.le_of_ble_eq_true rfl) dX10_caseItem_60 ⟨Nat.le_refl _, Nat.le_refl _⟩ rfl (ws2 := [rmE o ad (pCells P) P.2.2.2.1 P.2.2.2.2.2.1 P.2.2.2.2.2.2 (I.1, I.2.1, I.2.2.1, I.2.2.2.1, I.2.2.2.2.1, I.2.2.2.2.2.1, I.2.2.2.2.2.2.1, kn6 + 1, I.2.2.2.2.2.2.2.2.1, 1, I.2.2.2.2.2.2.2.2.2.2.1, I.2.2.2.2.2.2.2.2.2.2.2), nE 200 (ad 29) cB tx, nE 6 (ad 16) cI ns, nE 6 (ad 17) cI nc, nE 6 (ad 18) cI nd, nE 6 (ad 19) cI ni]) rfl (fun H locs hP hS => ?_)
          refine lv_istore (pc := 63) (lv' := [(4, .int (nI 0)), (3, .int (nI 0)), (2, .int (nI vn4)), (1, .int (nI vn2)), (0, .ref o)]) hx hb dX10_caseItem_63 hl (by decide) rfl (fun ls hl => ?_)
          refine lv_aload_n (pc := 65) hx hb dX10_caseItem_65 rfl (lv_at hl 4 rfl) ?_
          refine va_get (pc := 66) (D := D) (ci := 10) (v := .int (nI 1)) (C := RX10) (T := TX10) (N := 44) hx hb hts hiX10 hown hK hP 0 rfl rfl 32 (by decide) wf159 (fun _ h9 => h9) rfl dX10_caseItem_66 ?_
          refine r0_ne (pc := 69) (tgt := 81) hx hb (tI_nI (by omega)) dX10_caseItem_69 (by decide) (fun c69 => ?_) (fun c69 => (by omega))
          exact hret 81 _ hP hS dX10_caseItem_81 rfl (Or.inr ⟨casR_2 (by omega) hvn2 hvn4 hvn6, kn6 + 1, (by omega), rfl⟩)
      · have hP : va_P D vwCl ([rmE o ad (pCells P) P.2.2.2.1 P.2.2.2.2.2.1 P.2.2.2.2.2.2 (I.1, I.2.1, I.2.2.1, I.2.2.2.1, I.2.2.2.2.1, I.2.2.2.2.2.1, I.2.2.2.2.2.2.1, kn4, I.2.2.2.2.2.2.2.2.1, 1, I.2.2.2.2.2.2.2.2.2.2.1, I.2.2.2.2.2.2.2.2.2.2.2), nE 200 (ad 29) cB tx, nE 6 (ad 16) cI ns, nE 6 (ad 17) cI nc, nE 6 (ad 18) cI nd, nE 6 (ad 19) cI ni]) H := hP
        try dsimp only at hkn4 hvn4
        try rw [hnc] at hvn4
        refine lv_istore_n (pc := 47) (lv' := [(2, .int (nI 0)), (1, .int (nI vn2)), (0, .ref o)]) hx hb dX10_caseItem_47 rfl hl (by decide) rfl (fun ls hl => ?_)
        refine lv_aload_n (pc := 48) hx hb dX10_caseItem_48 rfl (lv_at hl 2 rfl) ?_
        refine lv_iconst (pc := 49) (v := nI 1) hx hb dX10_caseItem_49 (by decide) ?_
        refine lv_bipush (pc := 50) (v := nI 9) hx hb dX10_caseItem_50 (by decide) ?_
        refine ci_Vd (pc := 52) (r0 := nI 0) hF hN hK hP hV hS hA (k_X10_moreW l D cI cC cB cS o ad P (I.1, I.2.1, I.2.2.1, I.2.2.2.1, I.2.2.2.2.1, I.2.2.2.2.2.1, I.2.2.2.2.2.2.1, kn4, I.2.2.2.2.2.2.2.2.1, 1, I.2.2.2.2.2.2.2.2.2.2.1, I.2.2.2.2.2.2.2.2.2.2.2) tx (nI 1) ((1 : Nat) : Int) (tI_nI (by omega)) (nI 9) ((9 : Nat) : Int) (tI_nI (by omega)) hlt (show 1 = 1 by omega) (show kn4 < 40000 by omega)) (cwV 2 hts gX10_caseItem_X10_more rfl rfl rfl (by decide +kernel) ⟨Nat.le_of_ble_eq_true rfl, Nat.le_of_ble_eq_true rfl⟩) [0, 1] rfl (by decide) 0 10 rfl rfl rfl hl.1 rfl (Nat.le_of_ble_eq_true rfl) dX10_caseItem_52 ⟨Nat.le_refl _, Nat.le_refl _⟩ rfl (ws2 := [rmE o ad (pCells P) P.2.2.2.1 P.2.2.2.2.2.1 P.2.2.2.2.2.2 (I.1, I.2.1, I.2.2.1, I.2.2.2.1, I.2.2.2.2.1, I.2.2.2.2.2.1, I.2.2.2.2.2.2.1, kn4 + 1, I.2.2.2.2.2.2.2.2.1, 1, I.2.2.2.2.2.2.2.2.2.2.1, I.2.2.2.2.2.2.2.2.2.2.2), nE 200 (ad 29) cB tx, nE 6 (ad 16) cI ns, nE 6 (ad 17) cI nc, nE 6 (ad 18) cI nd, nE 6 (ad 19) cI ni]) rfl (fun H locs hP hS => ?_)
        refine lv_istore_n (pc := 55) (lv' := [(3, .int (nI 0)), (2, .int (nI 0)), (1, .int (nI vn2)), (0, .ref o)]) hx hb dX10_caseItem_55 rfl hl (by decide) rfl (fun ls hl => ?_)
        refine lv_aload_n (pc := 56) hx hb dX10_caseItem_56 rfl (lv_at hl 3 rfl) ?_
        refine lv_iconst (pc := 57) (v := nI 0) hx hb dX10_caseItem_57 (by decide) ?_
        refine lv_bipush (pc := 58) (v := nI 19) hx hb dX10_caseItem_58 (by decide) ?_
        refine ci_Vd (pc := 60) (r0 := nI 0) hF hN hK hP hV hS hA (k_X10_moreW l D cI cC cB cS o ad P (I.1, I.2.1, I.2.2.1, I.2.2.2.1, I.2.2.2.2.1, I.2.2.2.2.2.1, I.2.2.2.2.2.2.1, kn4 + 1, I.2.2.2.2.2.2.2.2.1, 1, I.2.2.2.2.2.2.2.2.2.2.1, I.2.2.2.2.2.2.2.2.2.2.2) tx (nI 0) ((0 : Nat) : Int) (tI_nI (by omega)) (nI 19) ((19 : Nat) : Int) (tI_nI (by omega)) hlt (show 1 = 1 by omega) (show (kn4 + 1) < 40000 by omega)) (cwV 2 hts gX10_caseItem_X10_more rfl rfl rfl (by decide +kernel) ⟨Nat.le_of_ble_eq_true rfl, Nat.le_of_ble_eq_true rfl⟩) [0, 1] rfl (by decide) 0 10 rfl rfl rfl hl.1 rfl (Nat.le_of_ble_eq_true rfl) dX10_caseItem_60 ⟨Nat.le_refl _, Nat.le_refl _⟩ rfl (ws2 := [rmE o ad (pCells P) P.2.2.2.1 P.2.2.2.2.2.1 P.2.2.2.2.2.2 (I.1, I.2.1, I.2.2.1, I.2.2.2.1, I.2.2.2.2.1, I.2.2.2.2.2.1, I.2.2.2.2.2.2.1, (kn4 + 1) + 1, I.2.2.2.2.2.2.2.2.1, 1, I.2.2.2.2.2.2.2.2.2.2.1, I.2.2.2.2.2.2.2.2.2.2.2), nE 200 (ad 29) cB tx, nE 6 (ad 16) cI ns, nE 6 (ad 17) cI nc, nE 6 (ad 18) cI nd, nE 6 (ad 19) cI ni]) rfl (fun H locs hP hS => ?_)
        refine lv_istore (pc := 63) (lv' := [(4, .int (nI 0)), (3, .int (nI 0)), (2, .int (nI 0)), (1, .int (nI vn2)), (0, .ref o)]) hx hb dX10_caseItem_63 hl (by decide) rfl (fun ls hl => ?_)
        refine lv_aload_n (pc := 65) hx hb dX10_caseItem_65 rfl (lv_at hl 4 rfl) ?_
        refine va_get (pc := 66) (D := D) (ci := 10) (v := .int (nI 1)) (C := RX10) (T := TX10) (N := 44) hx hb hts hiX10 hown hK hP 0 rfl rfl 32 (by decide) wf159 (fun _ h9 => h9) rfl dX10_caseItem_66 ?_
        refine r0_ne (pc := 69) (tgt := 81) hx hb (tI_nI (by omega)) dX10_caseItem_69 (by decide) (fun c69 => ?_) (fun c69 => (by omega))
        exact hret 81 _ hP hS dX10_caseItem_81 rfl (Or.inr ⟨casR_1 (by omega) hvn2 hvn4, (kn4 + 1) + 1, (by omega), rfl⟩)
    · have hP : va_P D vwCl ([rmE o ad (pCells P) P.2.2.2.1 P.2.2.2.2.2.1 P.2.2.2.2.2.2 (I.1, I.2.1, I.2.2.1, I.2.2.2.1, I.2.2.2.2.1, I.2.2.2.2.2.1, I.2.2.2.2.2.2.1, kn2, I.2.2.2.2.2.2.2.2.1, 1, I.2.2.2.2.2.2.2.2.2.2.1, I.2.2.2.2.2.2.2.2.2.2.2), nE 200 (ad 29) cB tx, nE 6 (ad 16) cI ns, nE 6 (ad 17) cI nc, nE 6 (ad 18) cI nd, nE 6 (ad 19) cI ni]) H := hP
      try dsimp only at hkn2 hvn2
      try rw [hnc] at hvn2
      refine lv_istore_n (pc := 35) (lv' := [(1, .int (nI 0)), (0, .ref o)]) hx hb dX10_caseItem_35 rfl hl (by decide) rfl (fun ls hl => ?_)
      refine lv_aload_n (pc := 36) hx hb dX10_caseItem_36 rfl (lv_at hl 1 rfl) ?_
      refine lv_iconst (pc := 37) (v := nI 0) hx hb dX10_caseItem_37 (by decide) ?_
      refine lv_aload_n (pc := 38) hx hb dX10_caseItem_38 rfl (lv_at hl 1 rfl) ?_
      refine va_get (pc := 39) (D := D) (ci := 10) (v := .int (nI I.1)) (C := RX10) (T := TX10) (N := 44) hx hb hts hiX10 hown hK hP 0 rfl rfl 12 (by decide) wf102 (fun _ h9 => h9) rfl dX10_caseItem_39 ?_
      refine lv_iconst (pc := 42) (v := nI 1) hx hb dX10_caseItem_42 (by decide) ?_
      refine rz_isub (pc := 43) hx hb (jI_nat _) (show nI 1 = jI 1 from jI_nat 1) dX10_caseItem_43 ?_
      refine ci_Vd (pc := 44) (r0 := nI 0) hF hN hK hP hV hS hA (k_X10_moreW l D cI cC cB cS o ad P (I.1, I.2.1, I.2.2.1, I.2.2.2.1, I.2.2.2.2.1, I.2.2.2.2.2.1, I.2.2.2.2.2.2.1, kn2, I.2.2.2.2.2.2.2.2.1, 1, I.2.2.2.2.2.2.2.2.2.2.1, I.2.2.2.2.2.2.2.2.2.2.2) tx (nI 0) ((0 : Nat) : Int) (tI_nI (by omega)) (jI ((I.1 : Nat) - 1)) ((I.1 : Nat) - 1) (jI_to (by omega)) hlt (show 1 = 1 by omega) (show kn2 < 40000 by omega)) (cwV 2 hts gX10_caseItem_X10_more rfl rfl rfl (by decide +kernel) ⟨Nat.le_of_ble_eq_true rfl, Nat.le_of_ble_eq_true rfl⟩) [0, 1] rfl (by decide) 0 10 rfl rfl rfl hl.1 rfl (Nat.le_of_ble_eq_true rfl) dX10_caseItem_44 ⟨Nat.le_refl _, Nat.le_refl _⟩ rfl (ws2 := [rmE o ad (pCells P) P.2.2.2.1 P.2.2.2.2.2.1 P.2.2.2.2.2.2 (I.1, I.2.1, I.2.2.1, I.2.2.2.1, I.2.2.2.2.1, I.2.2.2.2.2.1, I.2.2.2.2.2.2.1, kn2 + 1, I.2.2.2.2.2.2.2.2.1, 1, I.2.2.2.2.2.2.2.2.2.2.1, I.2.2.2.2.2.2.2.2.2.2.2), nE 200 (ad 29) cB tx, nE 6 (ad 16) cI ns, nE 6 (ad 17) cI nc, nE 6 (ad 18) cI nd, nE 6 (ad 19) cI ni]) rfl (fun H locs hP hS => ?_)
      refine lv_istore_n (pc := 47) (lv' := [(2, .int (nI 0)), (1, .int (nI 0)), (0, .ref o)]) hx hb dX10_caseItem_47 rfl hl (by decide) rfl (fun ls hl => ?_)
      refine lv_aload_n (pc := 48) hx hb dX10_caseItem_48 rfl (lv_at hl 2 rfl) ?_
      refine lv_iconst (pc := 49) (v := nI 1) hx hb dX10_caseItem_49 (by decide) ?_
      refine lv_bipush (pc := 50) (v := nI 9) hx hb dX10_caseItem_50 (by decide) ?_
      refine ci_Vd (pc := 52) (r0 := nI 0) hF hN hK hP hV hS hA (k_X10_moreW l D cI cC cB cS o ad P (I.1, I.2.1, I.2.2.1, I.2.2.2.1, I.2.2.2.2.1, I.2.2.2.2.2.1, I.2.2.2.2.2.2.1, kn2 + 1, I.2.2.2.2.2.2.2.2.1, 1, I.2.2.2.2.2.2.2.2.2.2.1, I.2.2.2.2.2.2.2.2.2.2.2) tx (nI 1) ((1 : Nat) : Int) (tI_nI (by omega)) (nI 9) ((9 : Nat) : Int) (tI_nI (by omega)) hlt (show 1 = 1 by omega) (show (kn2 + 1) < 40000 by omega)) (cwV 2 hts gX10_caseItem_X10_more rfl rfl rfl (by decide +kernel) ⟨Nat.le_of_ble_eq_true rfl, Nat.le_of_ble_eq_true rfl⟩) [0, 1] rfl (by decide) 0 10 rfl rfl rfl hl.1 rfl (Nat.le_of_ble_eq_true rfl) dX10_caseItem_52 ⟨Nat.le_refl _, Nat.le_refl _⟩ rfl (ws2 := [rmE o ad (pCells P) P.2.2.2.1 P.2.2.2.2.2.1 P.2.2.2.2.2.2 (I.1, I.2.1, I.2.2.1, I.2.2.2.1, I.2.2.2.2.1, I.2.2.2.2.2.1, I.2.2.2.2.2.2.1, (kn2 + 1) + 1, I.2.2.2.2.2.2.2.2.1, 1, I.2.2.2.2.2.2.2.2.2.2.1, I.2.2.2.2.2.2.2.2.2.2.2), nE 200 (ad 29) cB tx, nE 6 (ad 16) cI ns, nE 6 (ad 17) cI nc, nE 6 (ad 18) cI nd, nE 6 (ad 19) cI ni]) rfl (fun H locs hP hS => ?_)
      refine lv_istore_n (pc := 55) (lv' := [(3, .int (nI 0)), (2, .int (nI 0)), (1, .int (nI 0)), (0, .ref o)]) hx hb dX10_caseItem_55 rfl hl (by decide) rfl (fun ls hl => ?_)
      refine lv_aload_n (pc := 56) hx hb dX10_caseItem_56 rfl (lv_at hl 3 rfl) ?_
      refine lv_iconst (pc := 57) (v := nI 0) hx hb dX10_caseItem_57 (by decide) ?_
      refine lv_bipush (pc := 58) (v := nI 19) hx hb dX10_caseItem_58 (by decide) ?_
      refine ci_Vd (pc := 60) (r0 := nI 0) hF hN hK hP hV hS hA (k_X10_moreW l D cI cC cB cS o ad P (I.1, I.2.1, I.2.2.1, I.2.2.2.1, I.2.2.2.2.1, I.2.2.2.2.2.1, I.2.2.2.2.2.2.1, (kn2 + 1) + 1, I.2.2.2.2.2.2.2.2.1, 1, I.2.2.2.2.2.2.2.2.2.2.1, I.2.2.2.2.2.2.2.2.2.2.2) tx (nI 0) ((0 : Nat) : Int) (tI_nI (by omega)) (nI 19) ((19 : Nat) : Int) (tI_nI (by omega)) hlt (show 1 = 1 by omega) (show ((kn2 + 1) + 1) < 40000 by omega)) (cwV 2 hts gX10_caseItem_X10_more rfl rfl rfl (by decide +kernel) ⟨Nat.le_of_ble_eq_true rfl, Nat.le_of_ble_eq_true rfl⟩) [0, 1] rfl (by decide) 0 10 rfl rfl rfl hl.1 rfl (Nat.le_of_ble_eq_true rfl) dX10_caseItem_60 ⟨Nat.le_refl _, Nat.le_refl _⟩ rfl (ws2 := [rmE o ad (pCells P) P.2.2.2.1 P.2.2.2.2.2.1 P.2.2.2.2.2.2 (I.1, I.2.1, I.2.2.1, I.2.2.2.1, I.2.2.2.2.1, I.2.2.2.2.2.1, I.2.2.2.2.2.2.1, ((kn2 + 1) + 1) + 1, I.2.2.2.2.2.2.2.2.1, 1, I.2.2.2.2.2.2.2.2.2.2.1, I.2.2.2.2.2.2.2.2.2.2.2), nE 200 (ad 29) cB tx, nE 6 (ad 16) cI ns, nE 6 (ad 17) cI nc, nE 6 (ad 18) cI nd, nE 6 (ad 19) cI ni]) rfl (fun H locs hP hS => ?_)
      refine lv_istore (pc := 63) (lv' := [(4, .int (nI 0)), (3, .int (nI 0)), (2, .int (nI 0)), (1, .int (nI 0)), (0, .ref o)]) hx hb dX10_caseItem_63 hl (by decide) rfl (fun ls hl => ?_)
      refine lv_aload_n (pc := 65) hx hb dX10_caseItem_65 rfl (lv_at hl 4 rfl) ?_
      refine va_get (pc := 66) (D := D) (ci := 10) (v := .int (nI 1)) (C := RX10) (T := TX10) (N := 44) hx hb hts hiX10 hown hK hP 0 rfl rfl 32 (by decide) wf159 (fun _ h9 => h9) rfl dX10_caseItem_66 ?_
      refine r0_ne (pc := 69) (tgt := 81) hx hb (tI_nI (by omega)) dX10_caseItem_69 (by decide) (fun c69 => ?_) (fun c69 => (by omega))
      exact hret 81 _ hP hS dX10_caseItem_81 rfl (Or.inr ⟨casR_0 (by omega) hvn2, ((kn2 + 1) + 1) + 1, (by omega), rfl⟩)
  · refine lv_iconst (pc := 10) (v := nI 1) hx hb dX10_caseItem_10 (by decide) ?_
    refine lv_goto (pc := 11) (tgt := 15) hx hb dX10_caseItem_11 (by decide) ?_
    refine ra_put (pc := 15) (D := D) (ci := 10) (v := .int (nI 1)) (ty := .boolean) (C := RX10) (T := TX10) (N := 44) (ws2 := [rmE o ad (pCells P) P.2.2.2.1 P.2.2.2.2.2.1 P.2.2.2.2.2.2 (I.1, I.2.1, I.2.2.1, I.2.2.2.1, I.2.2.2.2.1, I.2.2.2.2.2.1, I.2.2.2.2.2.2.1, I.2.2.2.2.2.2.2.1, I.2.2.2.2.2.2.2.2.1, 1, I.2.2.2.2.2.2.2.2.2.2.1, I.2.2.2.2.2.2.2.2.2.2.2), nE 200 (ad 29) cB tx, nE 6 (ad 16) cI ns, nE 6 (ad 17) cI nc, nE 6 (ad 18) cI nd, nE 6 (ad 19) cI ni]) hx hb hts hiX10 tyX10 tyX10_ok nmX10 hown hK hP hV hS 0 rfl rfl 32 (by decide) wf159 (fun _ h9 => h9) rfl (by decide +kernel) rfl rfl (Nat.le_of_ble_eq_true rfl) dX10_caseItem_15 rfl rfl (fun H locs hP hS => ?_)
    refine lv_aload_n (pc := 18) hx hb dX10_caseItem_18 rfl (lv_at hl 0 rfl) ?_
    refine va_get (pc := 19) (D := D) (ci := 10) (v := .int (nI 1)) (C := RX10) (T := TX10) (N := 44) hx hb hts hiX10 hown hK hP 0 rfl rfl 32 (by decide) wf159 (fun _ h9 => h9) rfl dX10_caseItem_19 ?_
    refine r0_eq (pc := 22) (tgt := 29) hx hb (tI_nI (by omega)) dX10_caseItem_22 (by decide) (fun c22 => (by omega)) (fun c22 => ?_)
    refine lv_iconst (pc := 25) (v := nI 0) hx hb dX10_caseItem_25 (by decide) ?_
    refine lv_goto (pc := 26) (tgt := 35) hx hb dX10_caseItem_26 (by decide) ?_
    refine lv_istore_n (pc := 35) (lv' := [(1, .int (nI 0)), (0, .ref o)]) hx hb dX10_caseItem_35 rfl hl (by decide) rfl (fun ls hl => ?_)
    refine lv_aload_n (pc := 36) hx hb dX10_caseItem_36 rfl (lv_at hl 1 rfl) ?_
    refine lv_iconst (pc := 37) (v := nI 0) hx hb dX10_caseItem_37 (by decide) ?_
    refine lv_aload_n (pc := 38) hx hb dX10_caseItem_38 rfl (lv_at hl 1 rfl) ?_
    refine va_get (pc := 39) (D := D) (ci := 10) (v := .int (nI I.1)) (C := RX10) (T := TX10) (N := 44) hx hb hts hiX10 hown hK hP 0 rfl rfl 12 (by decide) wf102 (fun _ h9 => h9) rfl dX10_caseItem_39 ?_
    refine lv_iconst (pc := 42) (v := nI 1) hx hb dX10_caseItem_42 (by decide) ?_
    refine rz_isub (pc := 43) hx hb (jI_nat _) (show nI 1 = jI 1 from jI_nat 1) dX10_caseItem_43 ?_
    refine ci_Vd (pc := 44) (r0 := nI 0) hF hN hK hP hV hS hA (k_X10_moreW l D cI cC cB cS o ad P (I.1, I.2.1, I.2.2.1, I.2.2.2.1, I.2.2.2.2.1, I.2.2.2.2.2.1, I.2.2.2.2.2.2.1, I.2.2.2.2.2.2.2.1, I.2.2.2.2.2.2.2.2.1, 1, I.2.2.2.2.2.2.2.2.2.2.1, I.2.2.2.2.2.2.2.2.2.2.2) tx (nI 0) ((0 : Nat) : Int) (tI_nI (by omega)) (jI ((I.1 : Nat) - 1)) ((I.1 : Nat) - 1) (jI_to (by omega)) hlt (show 1 = 1 by omega) (show I.2.2.2.2.2.2.2.1 < 40000 by omega)) (cwV 2 hts gX10_caseItem_X10_more rfl rfl rfl (by decide +kernel) ⟨Nat.le_of_ble_eq_true rfl, Nat.le_of_ble_eq_true rfl⟩) [0, 1] rfl (by decide) 0 10 rfl rfl rfl hl.1 rfl (Nat.le_of_ble_eq_true rfl) dX10_caseItem_44 ⟨Nat.le_refl _, Nat.le_refl _⟩ rfl (ws2 := [rmE o ad (pCells P) P.2.2.2.1 P.2.2.2.2.2.1 P.2.2.2.2.2.2 (I.1, I.2.1, I.2.2.1, I.2.2.2.1, I.2.2.2.2.1, I.2.2.2.2.2.1, I.2.2.2.2.2.2.1, I.2.2.2.2.2.2.2.1 + 1, I.2.2.2.2.2.2.2.2.1, 1, I.2.2.2.2.2.2.2.2.2.2.1, I.2.2.2.2.2.2.2.2.2.2.2), nE 200 (ad 29) cB tx, nE 6 (ad 16) cI ns, nE 6 (ad 17) cI nc, nE 6 (ad 18) cI nd, nE 6 (ad 19) cI ni]) rfl (fun H locs hP hS => ?_)
    refine lv_istore_n (pc := 47) (lv' := [(2, .int (nI 0)), (1, .int (nI 0)), (0, .ref o)]) hx hb dX10_caseItem_47 rfl hl (by decide) rfl (fun ls hl => ?_)
    refine lv_aload_n (pc := 48) hx hb dX10_caseItem_48 rfl (lv_at hl 2 rfl) ?_
    refine lv_iconst (pc := 49) (v := nI 1) hx hb dX10_caseItem_49 (by decide) ?_
    refine lv_bipush (pc := 50) (v := nI 9) hx hb dX10_caseItem_50 (by decide) ?_
    refine ci_Vd (pc := 52) (r0 := nI 0) hF hN hK hP hV hS hA (k_X10_moreW l D cI cC cB cS o ad P (I.1, I.2.1, I.2.2.1, I.2.2.2.1, I.2.2.2.2.1, I.2.2.2.2.2.1, I.2.2.2.2.2.2.1, I.2.2.2.2.2.2.2.1 + 1, I.2.2.2.2.2.2.2.2.1, 1, I.2.2.2.2.2.2.2.2.2.2.1, I.2.2.2.2.2.2.2.2.2.2.2) tx (nI 1) ((1 : Nat) : Int) (tI_nI (by omega)) (nI 9) ((9 : Nat) : Int) (tI_nI (by omega)) hlt (show 1 = 1 by omega) (show (I.2.2.2.2.2.2.2.1 + 1) < 40000 by omega)) (cwV 2 hts gX10_caseItem_X10_more rfl rfl rfl (by decide +kernel) ⟨Nat.le_of_ble_eq_true rfl, Nat.le_of_ble_eq_true rfl⟩) [0, 1] rfl (by decide) 0 10 rfl rfl rfl hl.1 rfl (Nat.le_of_ble_eq_true rfl) dX10_caseItem_52 ⟨Nat.le_refl _, Nat.le_refl _⟩ rfl (ws2 := [rmE o ad (pCells P) P.2.2.2.1 P.2.2.2.2.2.1 P.2.2.2.2.2.2 (I.1, I.2.1, I.2.2.1, I.2.2.2.1, I.2.2.2.2.1, I.2.2.2.2.2.1, I.2.2.2.2.2.2.1, (I.2.2.2.2.2.2.2.1 + 1) + 1, I.2.2.2.2.2.2.2.2.1, 1, I.2.2.2.2.2.2.2.2.2.2.1, I.2.2.2.2.2.2.2.2.2.2.2), nE 200 (ad 29) cB tx, nE 6 (ad 16) cI ns, nE 6 (ad 17) cI nc, nE 6 (ad 18) cI nd, nE 6 (ad 19) cI ni]) rfl (fun H locs hP hS => ?_)
    refine lv_istore_n (pc := 55) (lv' := [(3, .int (nI 0)), (2, .int (nI 0)), (1, .int (nI 0)), (0, .ref o)]) hx hb dX10_caseItem_55 rfl hl (by decide) rfl (fun ls hl => ?_)
    refine lv_aload_n (pc := 56) hx hb dX10_caseItem_56 rfl (lv_at hl 3 rfl) ?_
    refine lv_iconst (pc := 57) (v := nI 0) hx hb dX10_caseItem_57 (by decide) ?_
    refine lv_bipush (pc := 58) (v := nI 19) hx hb dX10_caseItem_58 (by decide) ?_
    refine ci_Vd (pc := 60) (r0 := nI 0) hF hN hK hP hV hS hA (k_X10_moreW l D cI cC cB cS o ad P (I.1, I.2.1, I.2.2.1, I.2.2.2.1, I.2.2.2.2.1, I.2.2.2.2.2.1, I.2.2.2.2.2.2.1, (I.2.2.2.2.2.2.2.1 + 1) + 1, I.2.2.2.2.2.2.2.2.1, 1, I.2.2.2.2.2.2.2.2.2.2.1, I.2.2.2.2.2.2.2.2.2.2.2) tx (nI 0) ((0 : Nat) : Int) (tI_nI (by omega)) (nI 19) ((19 : Nat) : Int) (tI_nI (by omega)) hlt (show 1 = 1 by omega) (show ((I.2.2.2.2.2.2.2.1 + 1) + 1) < 40000 by omega)) (cwV 2 hts gX10_caseItem_X10_more rfl rfl rfl (by decide +kernel) ⟨Nat.le_of_ble_eq_true rfl, Nat.le_of_ble_eq_true rfl⟩) [0, 1] rfl (by decide) 0 10 rfl rfl rfl hl.1 rfl (Nat.le_of_ble_eq_true rfl) dX10_caseItem_60 ⟨Nat.le_refl _, Nat.le_refl _⟩ rfl (ws2 := [rmE o ad (pCells P) P.2.2.2.1 P.2.2.2.2.2.1 P.2.2.2.2.2.2 (I.1, I.2.1, I.2.2.1, I.2.2.2.1, I.2.2.2.2.1, I.2.2.2.2.2.1, I.2.2.2.2.2.2.1, ((I.2.2.2.2.2.2.2.1 + 1) + 1) + 1, I.2.2.2.2.2.2.2.2.1, 1, I.2.2.2.2.2.2.2.2.2.2.1, I.2.2.2.2.2.2.2.2.2.2.2), nE 200 (ad 29) cB tx, nE 6 (ad 16) cI ns, nE 6 (ad 17) cI nc, nE 6 (ad 18) cI nd, nE 6 (ad 19) cI ni]) rfl (fun H locs hP hS => ?_)
    refine lv_istore (pc := 63) (lv' := [(4, .int (nI 0)), (3, .int (nI 0)), (2, .int (nI 0)), (1, .int (nI 0)), (0, .ref o)]) hx hb dX10_caseItem_63 hl (by decide) rfl (fun ls hl => ?_)
    refine lv_aload_n (pc := 65) hx hb dX10_caseItem_65 rfl (lv_at hl 4 rfl) ?_
    refine va_get (pc := 66) (D := D) (ci := 10) (v := .int (nI 1)) (C := RX10) (T := TX10) (N := 44) hx hb hts hiX10 hown hK hP 0 rfl rfl 32 (by decide) wf159 (fun _ h9 => h9) rfl dX10_caseItem_66 ?_
    refine r0_ne (pc := 69) (tgt := 81) hx hb (tI_nI (by omega)) dX10_caseItem_69 (by decide) (fun c69 => ?_) (fun c69 => (by omega))
    exact hret 81 _ hP hS dX10_caseItem_81 rfl (Or.inr ⟨casR_6 (by omega), ((I.2.2.2.2.2.2.2.1 + 1) + 1) + 1, (by omega), rfl⟩)
