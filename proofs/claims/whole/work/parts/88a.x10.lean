abbrev rmX10_behindStroke : Room := { frames := 2, cells := 0, slots := 0, locals := 45 }
set_option maxHeartbeats 4000000 in
set_option maxRecDepth 100000 in
theorem k_X10_behindStroke (l : Launch) (D : va_G) (cI cC cB cS : ClassId) (o : Nat) (ad : Nat → Nat) (P : PL) (I : RI) (wa : Nat → Nat) (ir : Nat → Nat) (mm : Nat) (x : Nat) (h : Nat) (y : Nat) (ms : Nat → Nat) (hp : pOK P) (hm : rM P wa ir ms) (hir : ∀ j, ir j < 100) (hwa : ∀ j, wa j < 100) (hmm : mm < P.2.2.2.2.2.2) (hx9 : x < pCells P) (hy9 : y < pCells P) (hh : h ≤ 40) : CI l D (kT cI cC cB cS) yX10_behindStroke wsX10_behindStroke rmX10_behindStroke [.ref o, .int (nI mm), .int (nI x), .int (nI h), .int (nI y)] ([rmE o ad (pCells P) P.2.2.2.1 P.2.2.2.2.2.1 P.2.2.2.2.2.2 I, nE 3 (ad 9) cI wa, nE 3 (ad 10) cI ir]) (fun r u => r = nI (lowS P mm x h y) ∧ u = [rmE o ad (pCells P) P.2.2.2.1 P.2.2.2.2.2.1 P.2.2.2.2.2.2 I, nE 3 (ad 9) cI wa, nE 3 (ad 10) cI ir]) := by
  refine ci_intro (by decide) rfl (Nat.le_of_ble_eq_true rfl) ?_
  intro p e s m args below meth c ls A QF hF hK hP hV hS hA hN hl hret
  obtain ⟨hx, hb, hml, hown, hts⟩ := id hF
  have hP : va_P D vwCl ([rmE o ad (pCells P) P.2.2.2.1 P.2.2.2.2.2.1 P.2.2.2.2.2.2 I, nE 3 (ad 9) cI wa, nE 3 (ad 10) cI ir]) s.heap := hP
  have hl : lv_has ls 6 [(0, .ref o), (1, .int (nI mm)), (2, .int (nI x)), (3, .int (nI h)), (4, .int (nI y))] := hl
  have wf25 := hts (.fieldLink RX10 25 "RemorseWallModel" "way" "[I") (by decide +kernel)
  have wf28 := hts (.fieldLink RX10 28 "RemorseWallModel" "iron" "[I") (by decide +kernel)
  have hiX10 : ∀ w ∈ u_ws RX10 TX10 44, w ∈ wsX10_behindStroke := by decide +kernel
  obtain ⟨hp1, hp2, hp3, hp4, hp5, hp6, hp7⟩ := id hp
  have hcl := pCells_le hp
  obtain ⟨cs1, cs2, cs3⟩ := hm mm hmm
  have hirm := hir mm
  have hte := rTak_eq hm hmm h
  have hw3 := hbh_iff hy9
  refine lv_aload_n (pc := 0) hx hb dX10_behindStroke_0 rfl (lv_at hl 0 rfl) ?_
  refine va_get (pc := 1) (D := D) (ci := 10) (v := .ref (ad 9)) (C := RX10) (T := TX10) (N := 44) hx hb hts hiX10 hown hK hP 0 rfl rfl 9 (by decide) wf25 (fun _ h9 => h9) rfl dX10_behindStroke_1 ?_
  refine lv_iload_n (pc := 4) hx hb dX10_behindStroke_4 rfl (lv_at hl 1 rfl) ?_
  refine ra_iald (pc := 5) (k := mm) (v := nI (wa mm)) hx hb hK hP 1 0 rfl rfl (by omega) (by decide) rfl dX10_behindStroke_5 ?_
  have hq := hwa mm
  refine lv_iconst (pc := 6) (v := nI 1) hx hb dX10_behindStroke_6 (by decide) ?_
  refine rc_ne (pc := 7) (tgt := 31) hx hb (tI_nI (by omega)) (tI_nI (by omega)) dX10_behindStroke_7 (by decide) (fun c7 => ?_) (fun c7 => ?_)
  · refine lv_iconst (pc := 31) (v := nI 0) hx hb dX10_behindStroke_31 (by decide) ?_
    refine lv_istore (pc := 32) (lv' := [(5, .int (nI 0)), (0, .ref o), (1, .int (nI mm)), (2, .int (nI x)), (3, .int (nI h)), (4, .int (nI y))]) hx hb dX10_behindStroke_32 hl (by decide) rfl (fun ls hl => ?_)
    refine lv_iload (pc := 34) hx hb dX10_behindStroke_34 (lv_at hl 5 rfl) ?_
    refine lv_iload_n (pc := 36) hx hb dX10_behindStroke_36 rfl (lv_at hl 3 rfl) ?_
    refine rc_ne (pc := 37) (tgt := 51) hx hb (tI_nI (by omega)) (tI_nI (by omega)) dX10_behindStroke_37 (by decide) (fun c37 => ?_) (fun c37 => ?_)
    · refine lv_iload (pc := 51) hx hb dX10_behindStroke_51 (lv_at hl 0 rfl) ?_
      refine r0_eq (pc := 53) (tgt := 73) hx hb (tI_nI (by omega)) dX10_behindStroke_53 (by decide) (fun c53 => ?_) (fun c53 => (by omega))
      refine lv_iload_n (pc := 73) hx hb dX10_behindStroke_73 rfl (lv_at hl 4 rfl) ?_
      exact hret 74 _ hP hS dX10_behindStroke_74 rfl rfl ⟨(by unfold lowS takeA; rw [if_neg (by omega), if_neg (show ¬ P.2.2.1 (mm * 4 + 0) = 1 by omega)]; congr 1; split <;> omega), rfl⟩
    · refine lv_iload_n (pc := 40) hx hb dX10_behindStroke_40 rfl (lv_at hl 4 rfl) ?_
      refine lv_aload_n (pc := 41) hx hb dX10_behindStroke_41 rfl (lv_at hl 1 rfl) ?_
      refine lv_iload_n (pc := 42) hx hb dX10_behindStroke_42 rfl (lv_at hl 2 rfl) ?_
      refine lv_iload_n (pc := 43) hx hb dX10_behindStroke_43 rfl (lv_at hl 4 rfl) ?_
      refine ci_Vd (pc := 44) (r0 := nI (rTak wa ir mm h)) hF hN hK hP hV hS hA (k_X10_takes l D cI cC cB cS o ad P I wa ir mm h hir hwa (by omega) (by omega)) (cwV 2 hts gX10_behindStroke_X10_takes rfl rfl rfl (by decide +kernel) ⟨Nat.le_of_ble_eq_true rfl, Nat.le_of_ble_eq_true rfl⟩) [0, 1, 2] rfl (by decide) 0 10 rfl rfl rfl hl.1 rfl (Nat.le_of_ble_eq_true rfl) dX10_behindStroke_44 ⟨Nat.le_refl _, Nat.le_refl _⟩ rfl (ws2 := [rmE o ad (pCells P) P.2.2.2.1 P.2.2.2.2.2.1 P.2.2.2.2.2.2 I, nE 3 (ad 9) cI wa, nE 3 (ad 10) cI ir]) rfl (fun H locs hP hS => ?_)
      have fq1 := rTak_le wa ir mm h
      refine rn_isub (pc := 47) hx hb (by omega) dX10_behindStroke_47 ?_
      refine lv_goto (pc := 48) (tgt := 74) hx hb dX10_behindStroke_48 (by decide) ?_
      exact hret 74 _ hP hS dX10_behindStroke_74 rfl rfl ⟨(by unfold lowS; rw [if_pos (by omega)]; congr 1; omega), rfl⟩
  · refine lv_iload (pc := 10) hx hb dX10_behindStroke_10 (lv_at hl 4 rfl) ?_
    refine lv_iload_n (pc := 12) hx hb dX10_behindStroke_12 rfl (lv_at hl 2 rfl) ?_
    refine lv_iconst (pc := 13) (v := nI 1) hx hb dX10_behindStroke_13 (by decide) ?_
    refine rz_isub (pc := 14) hx hb (jI_nat _) (show nI 1 = jI 1 from jI_nat 1) dX10_behindStroke_14 ?_
    refine rc_ne (pc := 15) (tgt := 31) hx hb (tI_nI (by omega)) (jI_to (by omega)) dX10_behindStroke_15 (by decide) (fun c15 => ?_) (fun c15 => ?_)
    · refine lv_iconst (pc := 31) (v := nI 0) hx hb dX10_behindStroke_31 (by decide) ?_
      refine lv_istore (pc := 32) (lv' := [(5, .int (nI 0)), (0, .ref o), (1, .int (nI mm)), (2, .int (nI x)), (3, .int (nI h)), (4, .int (nI y))]) hx hb dX10_behindStroke_32 hl (by decide) rfl (fun ls hl => ?_)
      refine lv_iload (pc := 34) hx hb dX10_behindStroke_34 (lv_at hl 5 rfl) ?_
      refine lv_iload_n (pc := 36) hx hb dX10_behindStroke_36 rfl (lv_at hl 3 rfl) ?_
      refine rc_ne (pc := 37) (tgt := 51) hx hb (tI_nI (by omega)) (tI_nI (by omega)) dX10_behindStroke_37 (by decide) (fun c37 => ?_) (fun c37 => ?_)
      · refine lv_iload (pc := 51) hx hb dX10_behindStroke_51 (lv_at hl 0 rfl) ?_
        refine r0_eq (pc := 53) (tgt := 73) hx hb (tI_nI (by omega)) dX10_behindStroke_53 (by decide) (fun c53 => ?_) (fun c53 => (by omega))
        refine lv_iload_n (pc := 73) hx hb dX10_behindStroke_73 rfl (lv_at hl 4 rfl) ?_
        exact hret 74 _ hP hS dX10_behindStroke_74 rfl rfl ⟨(by unfold lowS; rw [if_neg (by omega), if_neg (by rw [hw3]; split <;> omega)]), rfl⟩
      · refine lv_iload_n (pc := 40) hx hb dX10_behindStroke_40 rfl (lv_at hl 4 rfl) ?_
        refine lv_aload_n (pc := 41) hx hb dX10_behindStroke_41 rfl (lv_at hl 1 rfl) ?_
        refine lv_iload_n (pc := 42) hx hb dX10_behindStroke_42 rfl (lv_at hl 2 rfl) ?_
        refine lv_iload_n (pc := 43) hx hb dX10_behindStroke_43 rfl (lv_at hl 4 rfl) ?_
        refine ci_Vd (pc := 44) (r0 := nI (rTak wa ir mm h)) hF hN hK hP hV hS hA (k_X10_takes l D cI cC cB cS o ad P I wa ir mm h hir hwa (by omega) (by omega)) (cwV 2 hts gX10_behindStroke_X10_takes rfl rfl rfl (by decide +kernel) ⟨Nat.le_of_ble_eq_true rfl, Nat.le_of_ble_eq_true rfl⟩) [0, 1, 2] rfl (by decide) 0 10 rfl rfl rfl hl.1 rfl (Nat.le_of_ble_eq_true rfl) dX10_behindStroke_44 ⟨Nat.le_refl _, Nat.le_refl _⟩ rfl (ws2 := [rmE o ad (pCells P) P.2.2.2.1 P.2.2.2.2.2.1 P.2.2.2.2.2.2 I, nE 3 (ad 9) cI wa, nE 3 (ad 10) cI ir]) rfl (fun H locs hP hS => ?_)
        have fq2 := rTak_le wa ir mm h
        refine rn_isub (pc := 47) hx hb (by omega) dX10_behindStroke_47 ?_
        refine lv_goto (pc := 48) (tgt := 74) hx hb dX10_behindStroke_48 (by decide) ?_
        exact hret 74 _ hP hS dX10_behindStroke_74 rfl rfl ⟨(by unfold lowS; rw [if_pos (by omega)]; congr 1; omega), rfl⟩
    · refine lv_aload_n (pc := 18) hx hb dX10_behindStroke_18 rfl (lv_at hl 0 rfl) ?_
      refine lv_iload (pc := 19) hx hb dX10_behindStroke_19 (lv_at hl 4 rfl) ?_
      refine ci_Vd (pc := 21) (r0 := nI (if hbh P y then 1 else 0)) hF hN hK hP hV hS hA (k_X10_hasBehind l D cI cC cB cS o ad P I y hp hy9) (cwV 1 hts gX10_behindStroke_X10_hasBehind rfl rfl rfl (by decide +kernel) ⟨Nat.le_of_ble_eq_true rfl, Nat.le_of_ble_eq_true rfl⟩) [0] rfl (by decide) 0 10 rfl rfl rfl hl.1 rfl (Nat.le_of_ble_eq_true rfl) dX10_behindStroke_21 ⟨Nat.le_refl _, Nat.le_refl _⟩ rfl (ws2 := [rmE o ad (pCells P) P.2.2.2.1 P.2.2.2.2.2.1 P.2.2.2.2.2.2 I, nE 3 (ad 9) cI wa, nE 3 (ad 10) cI ir]) rfl (fun H locs hP hS => ?_)
      refine rb_eq (pc := 24) (tgt := 31) hx hb dX10_behindStroke_24 (by decide) (fun c24 => ?_) (fun c24 => ?_)
      · refine lv_iconst (pc := 31) (v := nI 0) hx hb dX10_behindStroke_31 (by decide) ?_
        refine lv_istore (pc := 32) (lv' := [(5, .int (nI 0)), (0, .ref o), (1, .int (nI mm)), (2, .int (nI x)), (3, .int (nI h)), (4, .int (nI y))]) hx hb dX10_behindStroke_32 hl (by decide) rfl (fun ls hl => ?_)
        refine lv_iload (pc := 34) hx hb dX10_behindStroke_34 (lv_at hl 5 rfl) ?_
        refine lv_iload_n (pc := 36) hx hb dX10_behindStroke_36 rfl (lv_at hl 3 rfl) ?_
        refine rc_ne (pc := 37) (tgt := 51) hx hb (tI_nI (by omega)) (tI_nI (by omega)) dX10_behindStroke_37 (by decide) (fun c37 => ?_) (fun c37 => ?_)
        · refine lv_iload (pc := 51) hx hb dX10_behindStroke_51 (lv_at hl 0 rfl) ?_
          refine r0_eq (pc := 53) (tgt := 73) hx hb (tI_nI (by omega)) dX10_behindStroke_53 (by decide) (fun c53 => ?_) (fun c53 => (by omega))
          refine lv_iload_n (pc := 73) hx hb dX10_behindStroke_73 rfl (lv_at hl 4 rfl) ?_
          exact hret 74 _ hP hS dX10_behindStroke_74 rfl rfl ⟨(by unfold lowS; rw [if_neg (by omega), if_neg (by rw [hw3, if_neg c24]; omega)]), rfl⟩
        · refine lv_iload_n (pc := 40) hx hb dX10_behindStroke_40 rfl (lv_at hl 4 rfl) ?_
          refine lv_aload_n (pc := 41) hx hb dX10_behindStroke_41 rfl (lv_at hl 1 rfl) ?_
          refine lv_iload_n (pc := 42) hx hb dX10_behindStroke_42 rfl (lv_at hl 2 rfl) ?_
          refine lv_iload_n (pc := 43) hx hb dX10_behindStroke_43 rfl (lv_at hl 4 rfl) ?_
          refine ci_Vd (pc := 44) (r0 := nI (rTak wa ir mm h)) hF hN hK hP hV hS hA (k_X10_takes l D cI cC cB cS o ad P I wa ir mm h hir hwa (by omega) (by omega)) (cwV 2 hts gX10_behindStroke_X10_takes rfl rfl rfl (by decide +kernel) ⟨Nat.le_of_ble_eq_true rfl, Nat.le_of_ble_eq_true rfl⟩) [0, 1, 2] rfl (by decide) 0 10 rfl rfl rfl hl.1 rfl (Nat.le_of_ble_eq_true rfl) dX10_behindStroke_44 ⟨Nat.le_refl _, Nat.le_refl _⟩ rfl (ws2 := [rmE o ad (pCells P) P.2.2.2.1 P.2.2.2.2.2.1 P.2.2.2.2.2.2 I, nE 3 (ad 9) cI wa, nE 3 (ad 10) cI ir]) rfl (fun H locs hP hS => ?_)
          have fq4 := rTak_le wa ir mm h
          refine rn_isub (pc := 47) hx hb (by omega) dX10_behindStroke_47 ?_
          refine lv_goto (pc := 48) (tgt := 74) hx hb dX10_behindStroke_48 (by decide) ?_
          exact hret 74 _ hP hS dX10_behindStroke_74 rfl rfl ⟨(by unfold lowS; rw [if_pos (by omega)]; congr 1; omega), rfl⟩
      · refine lv_iconst (pc := 27) (v := nI 1) hx hb dX10_behindStroke_27 (by decide) ?_
        refine lv_goto (pc := 28) (tgt := 32) hx hb dX10_behindStroke_28 (by decide) ?_
        refine lv_istore (pc := 32) (lv' := [(5, .int (nI 1)), (0, .ref o), (1, .int (nI mm)), (2, .int (nI x)), (3, .int (nI h)), (4, .int (nI y))]) hx hb dX10_behindStroke_32 hl (by decide) rfl (fun ls hl => ?_)
        refine lv_iload (pc := 34) hx hb dX10_behindStroke_34 (lv_at hl 5 rfl) ?_
        refine lv_iload_n (pc := 36) hx hb dX10_behindStroke_36 rfl (lv_at hl 3 rfl) ?_
        refine rc_ne (pc := 37) (tgt := 51) hx hb (tI_nI (by omega)) (tI_nI (by omega)) dX10_behindStroke_37 (by decide) (fun c37 => ?_) (fun c37 => ?_)
        · refine lv_iload (pc := 51) hx hb dX10_behindStroke_51 (lv_at hl 0 rfl) ?_
          refine r0_eq (pc := 53) (tgt := 73) hx hb (tI_nI (by omega)) dX10_behindStroke_53 (by decide) (fun c53 => (by omega)) (fun c53 => ?_)
          refine lv_iconst (pc := 56) (v := nI 0) hx hb dX10_behindStroke_56 (by decide) ?_
          refine lv_iload_n (pc := 57) hx hb dX10_behindStroke_57 rfl (lv_at hl 4 rfl) ?_
          refine lv_aload_n (pc := 58) hx hb dX10_behindStroke_58 rfl (lv_at hl 1 rfl) ?_
          refine va_get (pc := 59) (D := D) (ci := 10) (v := .ref (ad 10)) (C := RX10) (T := TX10) (N := 44) hx hb hts hiX10 hown hK hP 0 rfl rfl 10 (by decide) wf28 (fun _ h9 => h9) rfl dX10_behindStroke_59 ?_
          refine lv_iload_n (pc := 62) hx hb dX10_behindStroke_62 rfl (lv_at hl 2 rfl) ?_
          refine ra_iald (pc := 63) (k := mm) (v := nI (ir mm)) hx hb hK hP 2 0 rfl rfl (by omega) (by decide) rfl dX10_behindStroke_63 ?_
          have hq := hir mm
          refine lv_iconst (pc := 64) (v := nI 2) hx hb dX10_behindStroke_64 (by decide) ?_
          refine rn_idiv (pc := 65) hx hb (by omega) (by omega) dX10_behindStroke_65 ?_
          refine rz_isub (pc := 66) hx hb (jI_nat _) (jI_nat _) dX10_behindStroke_66 ?_
          refine ci_Sd (pc := 67) hF hN hK hP hV hS hA (k_X10_larger l D cI cC cB cS (nI 0) ((0 : Nat) : Int) (tI_nI (by omega)) (jI ((h : Nat) - ((ir mm) / 2 : Nat))) ((h : Nat) - ((ir mm) / 2 : Nat)) (jI_to (by omega))) (va_cwS 2 hts gX10_behindStroke_X10_larger rfl rfl rfl (by decide +kernel) ⟨Nat.le_of_ble_eq_true rfl, Nat.le_of_ble_eq_true rfl⟩) [] rfl (by decide) rfl hl.1 rfl (Nat.le_of_ble_eq_true rfl) dX10_behindStroke_67 ⟨Nat.le_refl _, Nat.le_refl _⟩ rfl (ws2 := [rmE o ad (pCells P) P.2.2.2.1 P.2.2.2.2.2.1 P.2.2.2.2.2.2 I, nE 3 (ad 9) cI wa, nE 3 (ad 10) cI ir]) rfl (fun H locs hP hS => ?_)
          refine r_top (show _ = nI (h - ir mm / 2) from (by rw [jI_nat]; congr 1; omega)) ?_
          refine lv_goto (pc := 70) (tgt := 74) hx hb dX10_behindStroke_70 (by decide) ?_
          exact hret 74 _ hP hS dX10_behindStroke_74 rfl rfl ⟨(by unfold lowS takeA; rw [if_neg (by omega), if_pos (by rw [hw3, if_pos c24]; omega), if_pos (by omega), ← cs2]), rfl⟩
        · refine lv_iload_n (pc := 40) hx hb dX10_behindStroke_40 rfl (lv_at hl 4 rfl) ?_
          refine lv_aload_n (pc := 41) hx hb dX10_behindStroke_41 rfl (lv_at hl 1 rfl) ?_
          refine lv_iload_n (pc := 42) hx hb dX10_behindStroke_42 rfl (lv_at hl 2 rfl) ?_
          refine lv_iload_n (pc := 43) hx hb dX10_behindStroke_43 rfl (lv_at hl 4 rfl) ?_
          refine ci_Vd (pc := 44) (r0 := nI (rTak wa ir mm h)) hF hN hK hP hV hS hA (k_X10_takes l D cI cC cB cS o ad P I wa ir mm h hir hwa (by omega) (by omega)) (cwV 2 hts gX10_behindStroke_X10_takes rfl rfl rfl (by decide +kernel) ⟨Nat.le_of_ble_eq_true rfl, Nat.le_of_ble_eq_true rfl⟩) [0, 1, 2] rfl (by decide) 0 10 rfl rfl rfl hl.1 rfl (Nat.le_of_ble_eq_true rfl) dX10_behindStroke_44 ⟨Nat.le_refl _, Nat.le_refl _⟩ rfl (ws2 := [rmE o ad (pCells P) P.2.2.2.1 P.2.2.2.2.2.1 P.2.2.2.2.2.2 I, nE 3 (ad 9) cI wa, nE 3 (ad 10) cI ir]) rfl (fun H locs hP hS => ?_)
          have fq6 := rTak_le wa ir mm h
          refine rn_isub (pc := 47) hx hb (by omega) dX10_behindStroke_47 ?_
          refine lv_goto (pc := 48) (tgt := 74) hx hb dX10_behindStroke_48 (by decide) ?_
          exact hret 74 _ hP hS dX10_behindStroke_74 rfl rfl ⟨(by unfold lowS; rw [if_pos (by omega)]; congr 1; omega), rfl⟩
