abbrev rmX10_strikes : Room := { frames := 2, cells := 0, slots := 0, locals := 45 }
set_option maxHeartbeats 4000000 in
set_option maxRecDepth 100000 in
theorem k_X10_strikes (l : Launch) (D : va_G) (cI cC cB cS : ClassId) (o : Nat) (ad : Nat → Nat) (P : PL) (I : RI) (sl : Nat → Nat) (wa : Nat → Nat) (ir : Nat → Nat) (bs : Nat) (k : Nat) (x : Nat) (hp : pOK P) (hsl : ∀ j, sl j < 100000) (hir : ∀ j, ir j < 100) (hwa : ∀ j, wa j < 100) (hk3 : k < 3) (hbs : bs + 32 ≤ 384) (hx9 : x < pCells P) (hlk : 0 < sl (bs + 24 + k)) : CV l D (kT cI cC cB cS) yX10_strikes wsX10_strikes rmX10_strikes [.ref o, .int (nI bs), .int (nI k), .int (nI x)] ([rmE o ad (pCells P) P.2.2.2.1 P.2.2.2.2.2.1 P.2.2.2.2.2.2 I, nE 384 (ad 25) cI sl, nE 3 (ad 9) cI wa, nE 3 (ad 10) cI ir]) (fun u => u = [rmE o ad (pCells P) P.2.2.2.1 P.2.2.2.2.2.1 P.2.2.2.2.2.2 I, nE 384 (ad 25) cI (rStr P wa ir bs k x sl), nE 3 (ad 9) cI wa, nE 3 (ad 10) cI ir]) := by
  refine cv_intro (by decide) rfl (Nat.le_of_ble_eq_true rfl) ?_
  intro p e s m args below meth c ls A QF hF hK hP hV hS hA hN hl hret
  obtain ⟨hx, hb, hml, hown, hts⟩ := id hF
  have hP : va_P D vwCl ([rmE o ad (pCells P) P.2.2.2.1 P.2.2.2.2.2.1 P.2.2.2.2.2.2 I, nE 384 (ad 25) cI sl, nE 3 (ad 9) cI wa, nE 3 (ad 10) cI ir]) s.heap := hP
  have hl : lv_has ls 4 [(0, .ref o), (1, .int (nI bs)), (2, .int (nI k)), (3, .int (nI x))] := hl
  have wf25 := hts (.fieldLink RX10 25 "RemorseWallModel" "way" "[I") (by decide +kernel)
  have wf28 := hts (.fieldLink RX10 28 "RemorseWallModel" "iron" "[I") (by decide +kernel)
  have wf61 := hts (.fieldLink RX10 61 "RemorseWallModel" "slot" "[I") (by decide +kernel)
  have hiX10 : ∀ w ∈ u_ws RX10 TX10 44, w ∈ wsX10_strikes := by decide +kernel
  obtain ⟨hp1, hp2, hp3, hp4, hp5, hp6, hp7⟩ := id hp
  have hcl := pCells_le hp
  have hwp := pWi_pos hx9
  have hirk := hir k
  refine lv_aload_n (pc := 0) hx hb dX10_strikes_0 rfl (lv_at hl 0 rfl) ?_
  refine va_get (pc := 1) (D := D) (ci := 10) (v := .ref (ad 25)) (C := RX10) (T := TX10) (N := 44) hx hb hts hiX10 hown hK hP 0 rfl rfl 25 (by decide) wf61 (fun _ h9 => h9) rfl dX10_strikes_1 ?_
  refine lv_iload_n (pc := 4) hx hb dX10_strikes_4 rfl (lv_at hl 1 rfl) ?_
  refine lv_iload_n (pc := 5) hx hb dX10_strikes_5 rfl (lv_at hl 3 rfl) ?_
  refine rn_iadd (pc := 6) hx hb dX10_strikes_6 ?_
  refine lv_dup2_11 (pc := 7) hx hb dX10_strikes_7 rfl rfl ?_
  refine ra_iald (pc := 8) (k := bs + x) (v := nI (sl (bs + x))) hx hb hK hP 1 0 rfl rfl (by omega) (by decide) rfl dX10_strikes_8 ?_
  have hq := hsl (bs + x)
  refine lv_aload_n (pc := 9) hx hb dX10_strikes_9 rfl (lv_at hl 0 rfl) ?_
  refine lv_iload_n (pc := 10) hx hb dX10_strikes_10 rfl (lv_at hl 2 rfl) ?_
  refine lv_aload_n (pc := 11) hx hb dX10_strikes_11 rfl (lv_at hl 0 rfl) ?_
  refine va_get (pc := 12) (D := D) (ci := 10) (v := .ref (ad 25)) (C := RX10) (T := TX10) (N := 44) hx hb hts hiX10 hown hK hP 0 rfl rfl 25 (by decide) wf61 (fun _ h9 => h9) rfl dX10_strikes_12 ?_
  refine lv_iload_n (pc := 15) hx hb dX10_strikes_15 rfl (lv_at hl 1 rfl) ?_
  refine lv_iload_n (pc := 16) hx hb dX10_strikes_16 rfl (lv_at hl 3 rfl) ?_
  refine rn_iadd (pc := 17) hx hb dX10_strikes_17 ?_
  refine ra_iald (pc := 18) (k := bs + x) (v := nI (sl (bs + x))) hx hb hK hP 1 0 rfl rfl (by omega) (by decide) rfl dX10_strikes_18 ?_
  have hq := hsl (bs + x)
  refine ci_Vd (pc := 19) (r0 := nI (rTak wa ir k (sl (bs + x)))) hF hN hK hP hV hS hA (k_X10_takes l D cI cC cB cS o ad P I wa ir k (sl (bs + x)) hir hwa hk3 (by omega)) (cwV 2 hts gX10_strikes_X10_takes rfl rfl rfl (by decide +kernel) ⟨Nat.le_of_ble_eq_true rfl, Nat.le_of_ble_eq_true rfl⟩) [0, 2, 3] rfl (by decide) 0 10 rfl rfl rfl hl.1 rfl (Nat.le_of_ble_eq_true rfl) dX10_strikes_19 ⟨Nat.le_refl _, Nat.le_refl _⟩ rfl (ws2 := [rmE o ad (pCells P) P.2.2.2.1 P.2.2.2.2.2.1 P.2.2.2.2.2.2 I, nE 384 (ad 25) cI sl, nE 3 (ad 9) cI wa, nE 3 (ad 10) cI ir]) rfl (fun H locs hP hS => ?_)
  have fq1 := rTak_le wa ir k (sl (bs + x))
  refine rn_isub (pc := 22) hx hb (by omega) dX10_strikes_22 ?_
  refine rn_iast (pc := 23) (f := sl) (k := bs + x) (x := (sl (bs + x)) - (rTak wa ir k (sl (bs + x)))) (ws2 := [rmE o ad (pCells P) P.2.2.2.1 P.2.2.2.2.2.1 P.2.2.2.2.2.2 I, nE 384 (ad 25) cI (va_up sl (bs + x) ((sl (bs + x)) - (rTak wa ir k (sl (bs + x))))), nE 3 (ad 9) cI wa, nE 3 (ad 10) cI ir]) hx hb hK hP hV hS 1 0 rfl rfl (by omega) (by decide) dX10_strikes_23 rfl rfl (fun H locs hP hS => ?_)
  have hP : va_P D vwCl ([rmE o ad (pCells P) P.2.2.2.1 P.2.2.2.2.2.1 P.2.2.2.2.2.2 I, nE 384 (ad 25) cI (rStr1 sl wa ir bs k x), nE 3 (ad 9) cI wa, nE 3 (ad 10) cI ir]) H := (by rw [← (show va_up sl (bs + x) ((sl (bs + x)) - (rTak wa ir k (sl (bs + x)))) = rStr1 sl wa ir bs k x from rfl)]; exact hP)
  refine lv_aload_n (pc := 24) hx hb dX10_strikes_24 rfl (lv_at hl 0 rfl) ?_
  refine va_get (pc := 25) (D := D) (ci := 10) (v := .ref (ad 9)) (C := RX10) (T := TX10) (N := 44) hx hb hts hiX10 hown hK hP 0 rfl rfl 9 (by decide) wf25 (fun _ h9 => h9) rfl dX10_strikes_25 ?_
  refine lv_iload_n (pc := 28) hx hb dX10_strikes_28 rfl (lv_at hl 2 rfl) ?_
  refine ra_iald (pc := 29) (k := k) (v := nI (wa k)) hx hb hK hP 2 0 rfl rfl (by omega) (by decide) rfl dX10_strikes_29 ?_
  have hq := hwa k
  refine lv_iconst (pc := 30) (v := nI 1) hx hb dX10_strikes_30 (by decide) ?_
  refine rc_ne (pc := 31) (tgt := 75) hx hb (tI_nI (by omega)) (tI_nI (by omega)) dX10_strikes_31 (by decide) (fun c31 => ?_) (fun c31 => ?_)
  · have hP : va_P D vwCl ([rmE o ad (pCells P) P.2.2.2.1 P.2.2.2.2.2.1 P.2.2.2.2.2.2 I, nE 384 (ad 25) cI (rStr2 P sl wa ir bs k x), nE 3 (ad 9) cI wa, nE 3 (ad 10) cI ir]) H := (by rw [← (show rStr1 sl wa ir bs k x = rStr2 P sl wa ir bs k x from (by unfold rStr2; rw [if_neg (fun q => absurd q.1 (by omega))]))]; exact hP)
    refine lv_aload_n (pc := 75) hx hb dX10_strikes_75 rfl (lv_at hl 0 rfl) ?_
    refine va_get (pc := 76) (D := D) (ci := 10) (v := .ref (ad 25)) (C := RX10) (T := TX10) (N := 44) hx hb hts hiX10 hown hK hP 0 rfl rfl 25 (by decide) wf61 (fun _ h9 => h9) rfl dX10_strikes_76 ?_
    refine lv_iload_n (pc := 79) hx hb dX10_strikes_79 rfl (lv_at hl 1 rfl) ?_
    refine lv_bipush (pc := 80) (v := nI 27) hx hb dX10_strikes_80 (by decide) ?_
    refine rn_iadd (pc := 82) hx hb dX10_strikes_82 ?_
    refine lv_iload_n (pc := 83) hx hb dX10_strikes_83 rfl (lv_at hl 2 rfl) ?_
    refine rn_iadd (pc := 84) hx hb dX10_strikes_84 ?_
    refine lv_iload_n (pc := 85) hx hb dX10_strikes_85 rfl (lv_at hl 3 rfl) ?_
    refine rn_iast (pc := 86) (f := rStr2 P sl wa ir bs k x) (k := (bs + 27) + k) (x := x) (ws2 := [rmE o ad (pCells P) P.2.2.2.1 P.2.2.2.2.2.1 P.2.2.2.2.2.2 I, nE 384 (ad 25) cI (va_up (rStr2 P sl wa ir bs k x) ((bs + 27) + k) x), nE 3 (ad 9) cI wa, nE 3 (ad 10) cI ir]) hx hb hK hP hV hS 1 0 rfl rfl (by omega) (by decide) dX10_strikes_86 rfl rfl (fun H locs hP hS => ?_)
    refine lv_aload_n (pc := 87) hx hb dX10_strikes_87 rfl (lv_at hl 0 rfl) ?_
    refine va_get (pc := 88) (D := D) (ci := 10) (v := .ref (ad 25)) (C := RX10) (T := TX10) (N := 44) hx hb hts hiX10 hown hK hP 0 rfl rfl 25 (by decide) wf61 (fun _ h9 => h9) rfl dX10_strikes_88 ?_
    refine lv_iload_n (pc := 91) hx hb dX10_strikes_91 rfl (lv_at hl 1 rfl) ?_
    refine lv_bipush (pc := 92) (v := nI 24) hx hb dX10_strikes_92 (by decide) ?_
    refine rn_iadd (pc := 94) hx hb dX10_strikes_94 ?_
    refine lv_iload_n (pc := 95) hx hb dX10_strikes_95 rfl (lv_at hl 2 rfl) ?_
    refine rn_iadd (pc := 96) hx hb dX10_strikes_96 ?_
    refine lv_dup2_11 (pc := 97) hx hb dX10_strikes_97 rfl rfl ?_
    have h98 := str_l (P := P) (wa := wa) (ir := ir) hk3 hx9 hcl hlk (sl := sl)
    have h99 := rStr_bb (P := P) (wa := wa) (ir := ir) (bs := bs) (k := k) (x := x) hsl (by omega) (bs + 24 + k)
    refine ra_iald (pc := 98) (k := (bs + 24) + k) (v := nI ((va_up (rStr2 P sl wa ir bs k x) ((bs + 27) + k) x) ((bs + 24) + k))) hx hb hK hP 1 0 rfl rfl (by omega) (by decide) rfl dX10_strikes_98 ?_
    have hq := str_b1 (bs := bs) (k := k) (x := x) (wa := wa) (ir := ir) hsl ((bs + 24) + k)
    refine lv_iconst (pc := 99) (v := nI 1) hx hb dX10_strikes_99 (by decide) ?_
    refine rn_isub (pc := 100) hx hb (by omega) dX10_strikes_100 ?_
    refine rn_iast (pc := 101) (f := va_up (rStr2 P sl wa ir bs k x) ((bs + 27) + k) x) (k := (bs + 24) + k) (x := ((va_up (rStr2 P sl wa ir bs k x) ((bs + 27) + k) x) ((bs + 24) + k)) - 1) (ws2 := [rmE o ad (pCells P) P.2.2.2.1 P.2.2.2.2.2.1 P.2.2.2.2.2.2 I, nE 384 (ad 25) cI (va_up (va_up (rStr2 P sl wa ir bs k x) ((bs + 27) + k) x) ((bs + 24) + k) (((va_up (rStr2 P sl wa ir bs k x) ((bs + 27) + k) x) ((bs + 24) + k)) - 1)), nE 3 (ad 9) cI wa, nE 3 (ad 10) cI ir]) hx hb hK hP hV hS 1 0 rfl rfl (by omega) (by decide) dX10_strikes_101 rfl rfl (fun H locs hP hS => ?_)
    exact hret 102 _ hP hS dX10_strikes_102 rfl rfl
  · refine lv_aload_n (pc := 34) hx hb dX10_strikes_34 rfl (lv_at hl 0 rfl) ?_
    refine lv_iload_n (pc := 35) hx hb dX10_strikes_35 rfl (lv_at hl 3 rfl) ?_
    refine ci_Vd (pc := 36) (r0 := nI (if hbh P x then 1 else 0)) hF hN hK hP hV hS hA (k_X10_hasBehind l D cI cC cB cS o ad P I x hp hx9) (cwV 1 hts gX10_strikes_X10_hasBehind rfl rfl rfl (by decide +kernel) ⟨Nat.le_of_ble_eq_true rfl, Nat.le_of_ble_eq_true rfl⟩) [0] rfl (by decide) 0 10 rfl rfl rfl hl.1 rfl (Nat.le_of_ble_eq_true rfl) dX10_strikes_36 ⟨Nat.le_refl _, Nat.le_refl _⟩ rfl (ws2 := [rmE o ad (pCells P) P.2.2.2.1 P.2.2.2.2.2.1 P.2.2.2.2.2.2 I, nE 384 (ad 25) cI (rStr1 sl wa ir bs k x), nE 3 (ad 9) cI wa, nE 3 (ad 10) cI ir]) rfl (fun H locs hP hS => ?_)
    refine rb_eq (pc := 39) (tgt := 75) hx hb dX10_strikes_39 (by decide) (fun c39 => ?_) (fun c39 => ?_)
    · have hP : va_P D vwCl ([rmE o ad (pCells P) P.2.2.2.1 P.2.2.2.2.2.1 P.2.2.2.2.2.2 I, nE 384 (ad 25) cI (rStr2 P sl wa ir bs k x), nE 3 (ad 9) cI wa, nE 3 (ad 10) cI ir]) H := (by rw [← (show rStr1 sl wa ir bs k x = rStr2 P sl wa ir bs k x from (by unfold rStr2; rw [if_neg (fun q => c39 q.2)]))]; exact hP)
      refine lv_aload_n (pc := 75) hx hb dX10_strikes_75 rfl (lv_at hl 0 rfl) ?_
      refine va_get (pc := 76) (D := D) (ci := 10) (v := .ref (ad 25)) (C := RX10) (T := TX10) (N := 44) hx hb hts hiX10 hown hK hP 0 rfl rfl 25 (by decide) wf61 (fun _ h9 => h9) rfl dX10_strikes_76 ?_
      refine lv_iload_n (pc := 79) hx hb dX10_strikes_79 rfl (lv_at hl 1 rfl) ?_
      refine lv_bipush (pc := 80) (v := nI 27) hx hb dX10_strikes_80 (by decide) ?_
      refine rn_iadd (pc := 82) hx hb dX10_strikes_82 ?_
      refine lv_iload_n (pc := 83) hx hb dX10_strikes_83 rfl (lv_at hl 2 rfl) ?_
      refine rn_iadd (pc := 84) hx hb dX10_strikes_84 ?_
      refine lv_iload_n (pc := 85) hx hb dX10_strikes_85 rfl (lv_at hl 3 rfl) ?_
      refine rn_iast (pc := 86) (f := rStr2 P sl wa ir bs k x) (k := (bs + 27) + k) (x := x) (ws2 := [rmE o ad (pCells P) P.2.2.2.1 P.2.2.2.2.2.1 P.2.2.2.2.2.2 I, nE 384 (ad 25) cI (va_up (rStr2 P sl wa ir bs k x) ((bs + 27) + k) x), nE 3 (ad 9) cI wa, nE 3 (ad 10) cI ir]) hx hb hK hP hV hS 1 0 rfl rfl (by omega) (by decide) dX10_strikes_86 rfl rfl (fun H locs hP hS => ?_)
      refine lv_aload_n (pc := 87) hx hb dX10_strikes_87 rfl (lv_at hl 0 rfl) ?_
      refine va_get (pc := 88) (D := D) (ci := 10) (v := .ref (ad 25)) (C := RX10) (T := TX10) (N := 44) hx hb hts hiX10 hown hK hP 0 rfl rfl 25 (by decide) wf61 (fun _ h9 => h9) rfl dX10_strikes_88 ?_
      refine lv_iload_n (pc := 91) hx hb dX10_strikes_91 rfl (lv_at hl 1 rfl) ?_
      refine lv_bipush (pc := 92) (v := nI 24) hx hb dX10_strikes_92 (by decide) ?_
      refine rn_iadd (pc := 94) hx hb dX10_strikes_94 ?_
      refine lv_iload_n (pc := 95) hx hb dX10_strikes_95 rfl (lv_at hl 2 rfl) ?_
      refine rn_iadd (pc := 96) hx hb dX10_strikes_96 ?_
      refine lv_dup2_11 (pc := 97) hx hb dX10_strikes_97 rfl rfl ?_
      have h98 := str_l (P := P) (wa := wa) (ir := ir) hk3 hx9 hcl hlk (sl := sl)
      have h99 := rStr_bb (P := P) (wa := wa) (ir := ir) (bs := bs) (k := k) (x := x) hsl (by omega) (bs + 24 + k)
      refine ra_iald (pc := 98) (k := (bs + 24) + k) (v := nI ((va_up (rStr2 P sl wa ir bs k x) ((bs + 27) + k) x) ((bs + 24) + k))) hx hb hK hP 1 0 rfl rfl (by omega) (by decide) rfl dX10_strikes_98 ?_
      have hq := str_b1 (bs := bs) (k := k) (x := x) (wa := wa) (ir := ir) hsl ((bs + 24) + k)
      refine lv_iconst (pc := 99) (v := nI 1) hx hb dX10_strikes_99 (by decide) ?_
      refine rn_isub (pc := 100) hx hb (by omega) dX10_strikes_100 ?_
      refine rn_iast (pc := 101) (f := va_up (rStr2 P sl wa ir bs k x) ((bs + 27) + k) x) (k := (bs + 24) + k) (x := ((va_up (rStr2 P sl wa ir bs k x) ((bs + 27) + k) x) ((bs + 24) + k)) - 1) (ws2 := [rmE o ad (pCells P) P.2.2.2.1 P.2.2.2.2.2.1 P.2.2.2.2.2.2 I, nE 384 (ad 25) cI (va_up (va_up (rStr2 P sl wa ir bs k x) ((bs + 27) + k) x) ((bs + 24) + k) (((va_up (rStr2 P sl wa ir bs k x) ((bs + 27) + k) x) ((bs + 24) + k)) - 1)), nE 3 (ad 9) cI wa, nE 3 (ad 10) cI ir]) hx hb hK hP hV hS 1 0 rfl rfl (by omega) (by decide) dX10_strikes_101 rfl rfl (fun H locs hP hS => ?_)
      exact hret 102 _ hP hS dX10_strikes_102 rfl rfl
    · have hrow := row_in hx9 c39
      refine lv_aload_n (pc := 42) hx hb dX10_strikes_42 rfl (lv_at hl 0 rfl) ?_
      refine va_get (pc := 43) (D := D) (ci := 10) (v := .ref (ad 25)) (C := RX10) (T := TX10) (N := 44) hx hb hts hiX10 hown hK hP 0 rfl rfl 25 (by decide) wf61 (fun _ h9 => h9) rfl dX10_strikes_43 ?_
      refine lv_iload_n (pc := 46) hx hb dX10_strikes_46 rfl (lv_at hl 1 rfl) ?_
      refine lv_iload_n (pc := 47) hx hb dX10_strikes_47 rfl (lv_at hl 3 rfl) ?_
      refine rn_iadd (pc := 48) hx hb dX10_strikes_48 ?_
      refine lv_iconst (pc := 49) (v := nI 1) hx hb dX10_strikes_49 (by decide) ?_
      refine rn_iadd (pc := 50) hx hb dX10_strikes_50 ?_
      refine lv_iconst (pc := 51) (v := nI 0) hx hb dX10_strikes_51 (by decide) ?_
      refine lv_aload_n (pc := 52) hx hb dX10_strikes_52 rfl (lv_at hl 0 rfl) ?_
      refine va_get (pc := 53) (D := D) (ci := 10) (v := .ref (ad 25)) (C := RX10) (T := TX10) (N := 44) hx hb hts hiX10 hown hK hP 0 rfl rfl 25 (by decide) wf61 (fun _ h9 => h9) rfl dX10_strikes_53 ?_
      refine lv_iload_n (pc := 56) hx hb dX10_strikes_56 rfl (lv_at hl 1 rfl) ?_
      refine lv_iload_n (pc := 57) hx hb dX10_strikes_57 rfl (lv_at hl 3 rfl) ?_
      refine rn_iadd (pc := 58) hx hb dX10_strikes_58 ?_
      refine lv_iconst (pc := 59) (v := nI 1) hx hb dX10_strikes_59 (by decide) ?_
      refine rn_iadd (pc := 60) hx hb dX10_strikes_60 ?_
      refine ra_iald (pc := 61) (k := (bs + x) + 1) (v := nI ((rStr1 sl wa ir bs k x) ((bs + x) + 1))) hx hb hK hP 1 0 rfl rfl (by omega) (by decide) rfl dX10_strikes_61 ?_
      have hq := str_b1 (bs := bs) (k := k) (x := x) (wa := wa) (ir := ir) hsl ((bs + x) + 1)
      refine lv_aload_n (pc := 62) hx hb dX10_strikes_62 rfl (lv_at hl 0 rfl) ?_
      refine va_get (pc := 63) (D := D) (ci := 10) (v := .ref (ad 10)) (C := RX10) (T := TX10) (N := 44) hx hb hts hiX10 hown hK hP 0 rfl rfl 10 (by decide) wf28 (fun _ h9 => h9) rfl dX10_strikes_63 ?_
      refine lv_iload_n (pc := 66) hx hb dX10_strikes_66 rfl (lv_at hl 2 rfl) ?_
      refine ra_iald (pc := 67) (k := k) (v := nI (ir k)) hx hb hK hP 3 0 rfl rfl (by omega) (by decide) rfl dX10_strikes_67 ?_
      have hq := hir k
      refine lv_iconst (pc := 68) (v := nI 2) hx hb dX10_strikes_68 (by decide) ?_
      refine rn_idiv (pc := 69) hx hb (by omega) (by omega) dX10_strikes_69 ?_
      refine rz_isub (pc := 70) hx hb (jI_nat _) (jI_nat _) dX10_strikes_70 ?_
      refine ci_Sd (pc := 71) hF hN hK hP hV hS hA (k_X10_larger l D cI cC cB cS (nI 0) ((0 : Nat) : Int) (tI_nI (by omega)) (jI (((rStr1 sl wa ir bs k x) ((bs + x) + 1) : Nat) - ((ir k) / 2 : Nat))) (((rStr1 sl wa ir bs k x) ((bs + x) + 1) : Nat) - ((ir k) / 2 : Nat)) (jI_to (by omega))) (va_cwS 2 hts gX10_strikes_X10_larger rfl rfl rfl (by decide +kernel) ⟨Nat.le_of_ble_eq_true rfl, Nat.le_of_ble_eq_true rfl⟩) [] rfl (by decide) rfl hl.1 rfl (Nat.le_of_ble_eq_true rfl) dX10_strikes_71 ⟨Nat.le_refl _, Nat.le_refl _⟩ rfl (ws2 := [rmE o ad (pCells P) P.2.2.2.1 P.2.2.2.2.2.1 P.2.2.2.2.2.2 I, nE 384 (ad 25) cI (rStr1 sl wa ir bs k x), nE 3 (ad 9) cI wa, nE 3 (ad 10) cI ir]) rfl (fun H locs hP hS => ?_)
      refine r_top (show _ = nI (rStr1 sl wa ir bs k x (bs + x + 1) - ir k / 2) from (by rw [jI_nat]; congr 1; omega)) ?_
      refine rn_iast (pc := 74) (f := rStr1 sl wa ir bs k x) (k := (bs + x) + 1) (x := rStr1 sl wa ir bs k x (bs + x + 1) - ir k / 2) (ws2 := [rmE o ad (pCells P) P.2.2.2.1 P.2.2.2.2.2.1 P.2.2.2.2.2.2 I, nE 384 (ad 25) cI (va_up (rStr1 sl wa ir bs k x) ((bs + x) + 1) (rStr1 sl wa ir bs k x (bs + x + 1) - ir k / 2)), nE 3 (ad 9) cI wa, nE 3 (ad 10) cI ir]) hx hb hK hP hV hS 1 0 rfl rfl (by omega) (by decide) dX10_strikes_74 rfl rfl (fun H locs hP hS => ?_)
      have hP : va_P D vwCl ([rmE o ad (pCells P) P.2.2.2.1 P.2.2.2.2.2.1 P.2.2.2.2.2.2 I, nE 384 (ad 25) cI (rStr2 P sl wa ir bs k x), nE 3 (ad 9) cI wa, nE 3 (ad 10) cI ir]) H := (by rw [← (show va_up (rStr1 sl wa ir bs k x) ((bs + x) + 1) (rStr1 sl wa ir bs k x (bs + x + 1) - ir k / 2) = rStr2 P sl wa ir bs k x from (by unfold rStr2; rw [if_pos ⟨(by omega), c39⟩]))]; exact hP)
      refine lv_aload_n (pc := 75) hx hb dX10_strikes_75 rfl (lv_at hl 0 rfl) ?_
      refine va_get (pc := 76) (D := D) (ci := 10) (v := .ref (ad 25)) (C := RX10) (T := TX10) (N := 44) hx hb hts hiX10 hown hK hP 0 rfl rfl 25 (by decide) wf61 (fun _ h9 => h9) rfl dX10_strikes_76 ?_
      refine lv_iload_n (pc := 79) hx hb dX10_strikes_79 rfl (lv_at hl 1 rfl) ?_
      refine lv_bipush (pc := 80) (v := nI 27) hx hb dX10_strikes_80 (by decide) ?_
      refine rn_iadd (pc := 82) hx hb dX10_strikes_82 ?_
      refine lv_iload_n (pc := 83) hx hb dX10_strikes_83 rfl (lv_at hl 2 rfl) ?_
      refine rn_iadd (pc := 84) hx hb dX10_strikes_84 ?_
      refine lv_iload_n (pc := 85) hx hb dX10_strikes_85 rfl (lv_at hl 3 rfl) ?_
      refine rn_iast (pc := 86) (f := rStr2 P sl wa ir bs k x) (k := (bs + 27) + k) (x := x) (ws2 := [rmE o ad (pCells P) P.2.2.2.1 P.2.2.2.2.2.1 P.2.2.2.2.2.2 I, nE 384 (ad 25) cI (va_up (rStr2 P sl wa ir bs k x) ((bs + 27) + k) x), nE 3 (ad 9) cI wa, nE 3 (ad 10) cI ir]) hx hb hK hP hV hS 1 0 rfl rfl (by omega) (by decide) dX10_strikes_86 rfl rfl (fun H locs hP hS => ?_)
      refine lv_aload_n (pc := 87) hx hb dX10_strikes_87 rfl (lv_at hl 0 rfl) ?_
      refine va_get (pc := 88) (D := D) (ci := 10) (v := .ref (ad 25)) (C := RX10) (T := TX10) (N := 44) hx hb hts hiX10 hown hK hP 0 rfl rfl 25 (by decide) wf61 (fun _ h9 => h9) rfl dX10_strikes_88 ?_
      refine lv_iload_n (pc := 91) hx hb dX10_strikes_91 rfl (lv_at hl 1 rfl) ?_
      refine lv_bipush (pc := 92) (v := nI 24) hx hb dX10_strikes_92 (by decide) ?_
      refine rn_iadd (pc := 94) hx hb dX10_strikes_94 ?_
      refine lv_iload_n (pc := 95) hx hb dX10_strikes_95 rfl (lv_at hl 2 rfl) ?_
      refine rn_iadd (pc := 96) hx hb dX10_strikes_96 ?_
      refine lv_dup2_11 (pc := 97) hx hb dX10_strikes_97 rfl rfl ?_
      have h98 := str_l (P := P) (wa := wa) (ir := ir) hk3 hx9 hcl hlk (sl := sl)
      have h99 := rStr_bb (P := P) (wa := wa) (ir := ir) (bs := bs) (k := k) (x := x) hsl (by omega) (bs + 24 + k)
      refine ra_iald (pc := 98) (k := (bs + 24) + k) (v := nI ((va_up (rStr2 P sl wa ir bs k x) ((bs + 27) + k) x) ((bs + 24) + k))) hx hb hK hP 1 0 rfl rfl (by omega) (by decide) rfl dX10_strikes_98 ?_
      have hq := str_b1 (bs := bs) (k := k) (x := x) (wa := wa) (ir := ir) hsl ((bs + 24) + k)
      refine lv_iconst (pc := 99) (v := nI 1) hx hb dX10_strikes_99 (by decide) ?_
      refine rn_isub (pc := 100) hx hb (by omega) dX10_strikes_100 ?_
      refine rn_iast (pc := 101) (f := va_up (rStr2 P sl wa ir bs k x) ((bs + 27) + k) x) (k := (bs + 24) + k) (x := ((va_up (rStr2 P sl wa ir bs k x) ((bs + 27) + k) x) ((bs + 24) + k)) - 1) (ws2 := [rmE o ad (pCells P) P.2.2.2.1 P.2.2.2.2.2.1 P.2.2.2.2.2.2 I, nE 384 (ad 25) cI (va_up (va_up (rStr2 P sl wa ir bs k x) ((bs + 27) + k) x) ((bs + 24) + k) (((va_up (rStr2 P sl wa ir bs k x) ((bs + 27) + k) x) ((bs + 24) + k)) - 1)), nE 3 (ad 9) cI wa, nE 3 (ad 10) cI ir]) hx hb hK hP hV hS 1 0 rfl rfl (by omega) (by decide) dX10_strikes_101 rfl rfl (fun H locs hP hS => ?_)
      exact hret 102 _ hP hS dX10_strikes_102 rfl rfl
