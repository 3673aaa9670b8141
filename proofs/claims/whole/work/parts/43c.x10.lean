abbrev rmX10_open : Room := { frames := 0, cells := 0, slots := 0, locals := 0 }
set_option maxHeartbeats 4000000 in
set_option maxRecDepth 100000 in
theorem k_X10_open (l : Launch) (D : va_G) (cI cC cB cS : ClassId) (o : Nat) (ad : Nat → Nat) (P : PL) (I : RI) (sl : Nat → Nat) (bs : Nat) (hp : pOK P) (hpd : sl (bs + 30) < 64) (hbs : bs + 32 ≤ 384) : CI l D (kT cI cC cB cS) yX10_open wsX10_open rmX10_open [.ref o, .int (nI bs)] ([rmE o ad (pCells P) P.2.2.2.1 P.2.2.2.2.2.1 P.2.2.2.2.2.2 I, nE 384 (ad 25) cI sl]) (fun r u => r = nI (opN P.2.2.2.2.2.1 (sl (bs + 30))) ∧ u = [rmE o ad (pCells P) P.2.2.2.1 P.2.2.2.2.2.1 P.2.2.2.2.2.2 I, nE 384 (ad 25) cI sl]) := by
  refine ci_intro (by decide) rfl (Nat.le_of_ble_eq_true rfl) ?_
  intro p e s m args below meth c ls A QF hF hK hP hV hS hA hN hl hret
  obtain ⟨hx, hb, hml, hown, hts⟩ := id hF
  have hP : va_P D vwCl ([rmE o ad (pCells P) P.2.2.2.1 P.2.2.2.2.2.1 P.2.2.2.2.2.2 I, nE 384 (ad 25) cI sl]) s.heap := hP
  have hl : lv_has ls 2 [(0, .ref o), (1, .int (nI bs))] := hl
  have wf61 := hts (.fieldLink RX10 61 "RemorseWallModel" "slot" "[I") (by decide +kernel)
  have wf127 := hts (.fieldLink RX10 127 "RemorseWallModel" "cases" "I") (by decide +kernel)
  have hiX10 : ∀ w ∈ u_ws RX10 TX10 44, w ∈ wsX10_open := by decide +kernel
  obtain ⟨hp1, hp2, hp3, hp4, hp5, hp6, hp7⟩ := id hp
  have hcl := pCells_le hp
  have hpw := Nat.two_pow_pos P.2.2.2.2.2.1
  have hpw6 := pow_64 hp6
  refine lv_iconst (pc := 0) (v := nI 1) hx hb dX10_open_0 (by decide) ?_
  refine lv_aload_n (pc := 1) hx hb dX10_open_1 rfl (lv_at hl 0 rfl) ?_
  refine va_get (pc := 2) (D := D) (ci := 10) (v := .int (nI P.2.2.2.2.2.1)) (C := RX10) (T := TX10) (N := 44) hx hb hts hiX10 hown hK hP 0 rfl rfl 3 (by decide) wf127 (fun _ h9 => h9) rfl dX10_open_2 ?_
  refine lv_ishl (pc := 5) hx hb dX10_open_5 ?_
  refine r_top (nI_1shl (by omega)) ?_
  refine lv_iconst (pc := 6) (v := nI 1) hx hb dX10_open_6 (by decide) ?_
  refine rn_isub (pc := 7) hx hb (by omega) dX10_open_7 ?_
  refine lv_aload_n (pc := 8) hx hb dX10_open_8 rfl (lv_at hl 0 rfl) ?_
  refine va_get (pc := 9) (D := D) (ci := 10) (v := .ref (ad 25)) (C := RX10) (T := TX10) (N := 44) hx hb hts hiX10 hown hK hP 0 rfl rfl 25 (by decide) wf61 (fun _ h9 => h9) rfl dX10_open_9 ?_
  refine lv_iload_n (pc := 12) hx hb dX10_open_12 rfl (lv_at hl 1 rfl) ?_
  refine lv_bipush (pc := 13) (v := nI 30) hx hb dX10_open_13 (by decide) ?_
  refine rn_iadd (pc := 15) hx hb dX10_open_15 ?_
  refine ra_iald (pc := 16) (k := bs + 30) (v := nI (sl (bs + 30))) hx hb hK hP 1 0 rfl rfl (by omega) (by decide) rfl dX10_open_16 ?_
  refine lv_iconst (pc := 17) (v := jI (-1)) hx hb dX10_open_17 (by decide) ?_
  refine lv_ixor (pc := 18) hx hb dX10_open_18 ?_
  refine lv_iand (pc := 19) hx hb dX10_open_19 ?_
  refine r_top (open_n P.2.2.2.2.2.1 (by omega) (sl (bs + 30)) (by omega)) ?_
  exact hret 20 _ hP hS dX10_open_20 rfl rfl ⟨rfl, rfl⟩
abbrev rmX10_takes : Room := { frames := 1, cells := 0, slots := 0, locals := 21 }
set_option maxHeartbeats 4000000 in
set_option maxRecDepth 100000 in
theorem k_X10_takes (l : Launch) (D : va_G) (cI cC cB cS : ClassId) (o : Nat) (ad : Nat → Nat) (P : PL) (I : RI) (wa : Nat → Nat) (ir : Nat → Nat) (k : Nat) (h : Nat) (hir : ∀ j, ir j < 100) (hwa : ∀ j, wa j < 100) (hk3 : k < 3) (hh : h < 2147483648) : CI l D (kT cI cC cB cS) yX10_takes wsX10_takes rmX10_takes [.ref o, .int (nI k), .int (nI h)] ([rmE o ad (pCells P) P.2.2.2.1 P.2.2.2.2.2.1 P.2.2.2.2.2.2 I, nE 3 (ad 9) cI wa, nE 3 (ad 10) cI ir]) (fun r u => r = nI (rTak wa ir k h) ∧ u = [rmE o ad (pCells P) P.2.2.2.1 P.2.2.2.2.2.1 P.2.2.2.2.2.2 I, nE 3 (ad 9) cI wa, nE 3 (ad 10) cI ir]) := by
  refine ci_intro (by decide) rfl (Nat.le_of_ble_eq_true rfl) ?_
  intro p e s m args below meth c ls A QF hF hK hP hV hS hA hN hl hret
  obtain ⟨hx, hb, hml, hown, hts⟩ := id hF
  have hP : va_P D vwCl ([rmE o ad (pCells P) P.2.2.2.1 P.2.2.2.2.2.1 P.2.2.2.2.2.2 I, nE 3 (ad 9) cI wa, nE 3 (ad 10) cI ir]) s.heap := hP
  have hl : lv_has ls 5 [(0, .ref o), (1, .int (nI k)), (2, .int (nI h))] := hl
  have wf25 := hts (.fieldLink RX10 25 "RemorseWallModel" "way" "[I") (by decide +kernel)
  have wf28 := hts (.fieldLink RX10 28 "RemorseWallModel" "iron" "[I") (by decide +kernel)
  have hiX10 : ∀ w ∈ u_ws RX10 TX10 44, w ∈ wsX10_takes := by decide +kernel
  refine lv_aload_n (pc := 0) hx hb dX10_takes_0 rfl (lv_at hl 0 rfl) ?_
  refine va_get (pc := 1) (D := D) (ci := 10) (v := .ref (ad 10)) (C := RX10) (T := TX10) (N := 44) hx hb hts hiX10 hown hK hP 0 rfl rfl 10 (by decide) wf28 (fun _ h9 => h9) rfl dX10_takes_1 ?_
  refine lv_iload_n (pc := 4) hx hb dX10_takes_4 rfl (lv_at hl 1 rfl) ?_
  refine ra_iald (pc := 5) (k := k) (v := nI (ir k)) hx hb hK hP 2 0 rfl rfl (by omega) (by decide) rfl dX10_takes_5 ?_
  have hq := hir k
  refine lv_istore_n (pc := 6) (lv' := [(3, .int (nI (ir k))), (0, .ref o), (1, .int (nI k)), (2, .int (nI h))]) hx hb dX10_takes_6 rfl hl (by decide) rfl (fun ls hl => ?_)
  refine lv_aload_n (pc := 7) hx hb dX10_takes_7 rfl (lv_at hl 1 rfl) ?_
  refine va_get (pc := 8) (D := D) (ci := 10) (v := .ref (ad 9)) (C := RX10) (T := TX10) (N := 44) hx hb hts hiX10 hown hK hP 0 rfl rfl 9 (by decide) wf25 (fun _ h9 => h9) rfl dX10_takes_8 ?_
  refine lv_iload_n (pc := 11) hx hb dX10_takes_11 rfl (lv_at hl 2 rfl) ?_
  refine ra_iald (pc := 12) (k := k) (v := nI (wa k)) hx hb hK hP 1 0 rfl rfl (by omega) (by decide) rfl dX10_takes_12 ?_
  have hq := hwa k
  refine lv_iconst (pc := 13) (v := nI 2) hx hb dX10_takes_13 (by decide) ?_
  refine rc_ne (pc := 14) (tgt := 25) hx hb (tI_nI (by omega)) (tI_nI (by omega)) dX10_takes_14 (by decide) (fun c14 => ?_) (fun c14 => ?_)
  · refine lv_aload_n (pc := 25) hx hb dX10_takes_25 rfl (lv_at hl 1 rfl) ?_
    refine va_get (pc := 26) (D := D) (ci := 10) (v := .ref (ad 9)) (C := RX10) (T := TX10) (N := 44) hx hb hts hiX10 hown hK hP 0 rfl rfl 9 (by decide) wf25 (fun _ h9 => h9) rfl dX10_takes_26 ?_
    refine lv_iload_n (pc := 29) hx hb dX10_takes_29 rfl (lv_at hl 2 rfl) ?_
    refine ra_iald (pc := 30) (k := k) (v := nI (wa k)) hx hb hK hP 1 0 rfl rfl (by omega) (by decide) rfl dX10_takes_30 ?_
    have hq := hwa k
    refine lv_iconst (pc := 31) (v := nI 3) hx hb dX10_takes_31 (by decide) ?_
    refine rc_ne (pc := 32) (tgt := 51) hx hb (tI_nI (by omega)) (tI_nI (by omega)) dX10_takes_32 (by decide) (fun c32 => ?_) (fun c32 => ?_)
    · refine lv_iload_n (pc := 51) hx hb dX10_takes_51 rfl (lv_at hl 0 rfl) ?_
      refine lv_istore (pc := 52) (lv' := [(4, .int (nI (ir k))), (3, .int (nI (ir k))), (0, .ref o), (1, .int (nI k)), (2, .int (nI h))]) hx hb dX10_takes_52 hl (by decide) rfl (fun ls hl => ?_)
      refine lv_iload (pc := 54) hx hb dX10_takes_54 (lv_at hl 0 rfl) ?_
      refine lv_iload_n (pc := 56) hx hb dX10_takes_56 rfl (lv_at hl 4 rfl) ?_
      refine ci_Sd (pc := 57) hF hN hK hP hV hS hA (k_X10_smallerN l D cI cC cB cS (ir k) h (by omega) hh) (va_cwS 2 hts gX10_takes_X10_smaller rfl rfl rfl (by decide +kernel) ⟨Nat.le_of_ble_eq_true rfl, Nat.le_of_ble_eq_true rfl⟩) [] rfl (by decide) rfl hl.1 rfl (Nat.le_of_ble_eq_true rfl) dX10_takes_57 ⟨Nat.le_refl _, Nat.le_refl _⟩ rfl (ws2 := [rmE o ad (pCells P) P.2.2.2.1 P.2.2.2.2.2.1 P.2.2.2.2.2.2 I, nE 3 (ad 9) cI wa, nE 3 (ad 10) cI ir]) rfl (fun H locs hP hS => ?_)
      exact hret 60 _ hP hS dX10_takes_60 rfl rfl ⟨(by unfold rTak; (repeat' split) <;> first | rfl | (exfalso; omega)), rfl⟩
    · refine lv_iload_n (pc := 35) hx hb dX10_takes_35 rfl (lv_at hl 3 rfl) ?_
      refine lv_bipush (pc := 36) (v := nI 12) hx hb dX10_takes_36 (by decide) ?_
      refine rc_lt (pc := 38) (tgt := 45) hx hb (tI_nI (by omega)) (tI_nI (by omega)) dX10_takes_38 (by decide) (fun c38 => ?_) (fun c38 => ?_)
      · refine lv_iconst (pc := 45) (v := nI 2) hx hb dX10_takes_45 (by decide) ?_
        refine lv_iload_n (pc := 46) hx hb dX10_takes_46 rfl (lv_at hl 0 rfl) ?_
        refine rn_imul (pc := 47) hx hb dX10_takes_47 ?_
        refine lv_goto (pc := 48) (tgt := 52) hx hb dX10_takes_48 (by decide) ?_
        refine lv_istore (pc := 52) (lv' := [(4, .int (nI (2 * (ir k)))), (3, .int (nI (ir k))), (0, .ref o), (1, .int (nI k)), (2, .int (nI h))]) hx hb dX10_takes_52 hl (by decide) rfl (fun ls hl => ?_)
        refine lv_iload (pc := 54) hx hb dX10_takes_54 (lv_at hl 0 rfl) ?_
        refine lv_iload_n (pc := 56) hx hb dX10_takes_56 rfl (lv_at hl 4 rfl) ?_
        refine ci_Sd (pc := 57) hF hN hK hP hV hS hA (k_X10_smallerN l D cI cC cB cS (2 * (ir k)) h (by omega) hh) (va_cwS 2 hts gX10_takes_X10_smaller rfl rfl rfl (by decide +kernel) ⟨Nat.le_of_ble_eq_true rfl, Nat.le_of_ble_eq_true rfl⟩) [] rfl (by decide) rfl hl.1 rfl (Nat.le_of_ble_eq_true rfl) dX10_takes_57 ⟨Nat.le_refl _, Nat.le_refl _⟩ rfl (ws2 := [rmE o ad (pCells P) P.2.2.2.1 P.2.2.2.2.2.1 P.2.2.2.2.2.2 I, nE 3 (ad 9) cI wa, nE 3 (ad 10) cI ir]) rfl (fun H locs hP hS => ?_)
        exact hret 60 _ hP hS dX10_takes_60 rfl rfl ⟨(by unfold rTak; (repeat' split) <;> first | rfl | (exfalso; omega)), rfl⟩
      · refine lv_iconst (pc := 41) (v := nI 0) hx hb dX10_takes_41 (by decide) ?_
        refine lv_goto (pc := 42) (tgt := 52) hx hb dX10_takes_42 (by decide) ?_
        refine lv_istore (pc := 52) (lv' := [(4, .int (nI 0)), (3, .int (nI (ir k))), (0, .ref o), (1, .int (nI k)), (2, .int (nI h))]) hx hb dX10_takes_52 hl (by decide) rfl (fun ls hl => ?_)
        refine lv_iload (pc := 54) hx hb dX10_takes_54 (lv_at hl 0 rfl) ?_
        refine lv_iload_n (pc := 56) hx hb dX10_takes_56 rfl (lv_at hl 4 rfl) ?_
        refine ci_Sd (pc := 57) hF hN hK hP hV hS hA (k_X10_smallerN l D cI cC cB cS 0 h (by omega) hh) (va_cwS 2 hts gX10_takes_X10_smaller rfl rfl rfl (by decide +kernel) ⟨Nat.le_of_ble_eq_true rfl, Nat.le_of_ble_eq_true rfl⟩) [] rfl (by decide) rfl hl.1 rfl (Nat.le_of_ble_eq_true rfl) dX10_takes_57 ⟨Nat.le_refl _, Nat.le_refl _⟩ rfl (ws2 := [rmE o ad (pCells P) P.2.2.2.1 P.2.2.2.2.2.1 P.2.2.2.2.2.2 I, nE 3 (ad 9) cI wa, nE 3 (ad 10) cI ir]) rfl (fun H locs hP hS => ?_)
        exact hret 60 _ hP hS dX10_takes_60 rfl rfl ⟨(by unfold rTak; (repeat' split) <;> first | rfl | (exfalso; omega)), rfl⟩
  · refine lv_iconst (pc := 17) (v := nI 1) hx hb dX10_takes_17 (by decide) ?_
    refine lv_iload_n (pc := 18) hx hb dX10_takes_18 rfl (lv_at hl 0 rfl) ?_
    refine lv_iconst (pc := 19) (v := nI 2) hx hb dX10_takes_19 (by decide) ?_
    refine rn_idiv (pc := 20) hx hb (by omega) (by omega) dX10_takes_20 ?_
    refine rn_iadd (pc := 21) hx hb dX10_takes_21 ?_
    refine lv_goto (pc := 22) (tgt := 52) hx hb dX10_takes_22 (by decide) ?_
    refine lv_istore (pc := 52) (lv' := [(4, .int (nI (1 + ((ir k) / 2)))), (3, .int (nI (ir k))), (0, .ref o), (1, .int (nI k)), (2, .int (nI h))]) hx hb dX10_takes_52 hl (by decide) rfl (fun ls hl => ?_)
    refine lv_iload (pc := 54) hx hb dX10_takes_54 (lv_at hl 0 rfl) ?_
    refine lv_iload_n (pc := 56) hx hb dX10_takes_56 rfl (lv_at hl 4 rfl) ?_
    refine ci_Sd (pc := 57) hF hN hK hP hV hS hA (k_X10_smallerN l D cI cC cB cS (1 + ((ir k) / 2)) h (by omega) hh) (va_cwS 2 hts gX10_takes_X10_smaller rfl rfl rfl (by decide +kernel) ⟨Nat.le_of_ble_eq_true rfl, Nat.le_of_ble_eq_true rfl⟩) [] rfl (by decide) rfl hl.1 rfl (Nat.le_of_ble_eq_true rfl) dX10_takes_57 ⟨Nat.le_refl _, Nat.le_refl _⟩ rfl (ws2 := [rmE o ad (pCells P) P.2.2.2.1 P.2.2.2.2.2.1 P.2.2.2.2.2.2 I, nE 3 (ad 9) cI wa, nE 3 (ad 10) cI ir]) rfl (fun H locs hP hS => ?_)
    exact hret 60 _ hP hS dX10_takes_60 rfl rfl ⟨(by unfold rTak; (repeat' split) <;> first | rfl | (exfalso; omega)), rfl⟩
abbrev rmX10_canStrike : Room := { frames := 1, cells := 0, slots := 0, locals := 23 }
set_option maxHeartbeats 4000000 in
set_option maxRecDepth 100000 in
theorem k_X10_canStrike (l : Launch) (D : va_G) (cI cC cB cS : ClassId) (o : Nat) (ad : Nat → Nat) (P : PL) (I : RI) (sl : Nat → Nat) (bs : Nat) (k : Nat) (x : Nat) (hp : pOK P) (hsl : ∀ j, sl j < 100000) (hk3 : k < 3) (hbs : bs + 32 ≤ 384) (hpk : sl (bs + 27 + k) < pCells P) (hx9 : x < pCells P) : CI l D (kT cI cC cB cS) yX10_canStrike wsX10_canStrike rmX10_canStrike [.ref o, .int (nI bs), .int (nI k), .int (nI x)] ([rmE o ad (pCells P) P.2.2.2.1 P.2.2.2.2.2.1 P.2.2.2.2.2.2 I, nE 384 (ad 25) cI sl]) (fun r u => r = nI (if rCan P sl bs k x then 1 else 0) ∧ u = [rmE o ad (pCells P) P.2.2.2.1 P.2.2.2.2.2.1 P.2.2.2.2.2.2 I, nE 384 (ad 25) cI sl]) := by
  refine ci_intro (by decide) rfl (Nat.le_of_ble_eq_true rfl) ?_
  intro p e s m args below meth c ls A QF hF hK hP hV hS hA hN hl hret
  obtain ⟨hx, hb, hml, hown, hts⟩ := id hF
  have hP : va_P D vwCl ([rmE o ad (pCells P) P.2.2.2.1 P.2.2.2.2.2.1 P.2.2.2.2.2.2 I, nE 384 (ad 25) cI sl]) s.heap := hP
  have hl : lv_has ls 5 [(0, .ref o), (1, .int (nI bs)), (2, .int (nI k)), (3, .int (nI x))] := hl
  have wf61 := hts (.fieldLink RX10 61 "RemorseWallModel" "slot" "[I") (by decide +kernel)
  have hiX10 : ∀ w ∈ u_ws RX10 TX10 44, w ∈ wsX10_canStrike := by decide +kernel
  obtain ⟨hp1, hp2, hp3, hp4, hp5, hp6, hp7⟩ := id hp
  have hcl := pCells_le hp
  refine lv_aload_n (pc := 0) hx hb dX10_canStrike_0 rfl (lv_at hl 0 rfl) ?_
  refine va_get (pc := 1) (D := D) (ci := 10) (v := .ref (ad 25)) (C := RX10) (T := TX10) (N := 44) hx hb hts hiX10 hown hK hP 0 rfl rfl 25 (by decide) wf61 (fun _ h9 => h9) rfl dX10_canStrike_1 ?_
  refine lv_iload_n (pc := 4) hx hb dX10_canStrike_4 rfl (lv_at hl 1 rfl) ?_
  refine lv_bipush (pc := 5) (v := nI 27) hx hb dX10_canStrike_5 (by decide) ?_
  refine rn_iadd (pc := 7) hx hb dX10_canStrike_7 ?_
  refine lv_iload_n (pc := 8) hx hb dX10_canStrike_8 rfl (lv_at hl 2 rfl) ?_
  refine rn_iadd (pc := 9) hx hb dX10_canStrike_9 ?_
  refine ra_iald (pc := 10) (k := (bs + 27) + k) (v := nI (sl ((bs + 27) + k))) hx hb hK hP 1 0 rfl rfl (by omega) (by decide) rfl dX10_canStrike_10 ?_
  have hq := hsl ((bs + 27) + k)
  refine lv_istore (pc := 11) (lv' := [(4, .int (nI (sl ((bs + 27) + k)))), (0, .ref o), (1, .int (nI bs)), (2, .int (nI k)), (3, .int (nI x))]) hx hb dX10_canStrike_11 hl (by decide) rfl (fun ls hl => ?_)
  refine lv_aload_n (pc := 13) hx hb dX10_canStrike_13 rfl (lv_at hl 1 rfl) ?_
  refine va_get (pc := 14) (D := D) (ci := 10) (v := .ref (ad 25)) (C := RX10) (T := TX10) (N := 44) hx hb hts hiX10 hown hK hP 0 rfl rfl 25 (by decide) wf61 (fun _ h9 => h9) rfl dX10_canStrike_14 ?_
  refine lv_iload_n (pc := 17) hx hb dX10_canStrike_17 rfl (lv_at hl 2 rfl) ?_
  refine lv_bipush (pc := 18) (v := nI 24) hx hb dX10_canStrike_18 (by decide) ?_
  refine rn_iadd (pc := 20) hx hb dX10_canStrike_20 ?_
  refine lv_iload_n (pc := 21) hx hb dX10_canStrike_21 rfl (lv_at hl 3 rfl) ?_
  refine rn_iadd (pc := 22) hx hb dX10_canStrike_22 ?_
  refine ra_iald (pc := 23) (k := (bs + 24) + k) (v := nI (sl ((bs + 24) + k))) hx hb hK hP 1 0 rfl rfl (by omega) (by decide) rfl dX10_canStrike_23 ?_
  have hq := hsl ((bs + 24) + k)
  refine r0_le (pc := 24) (tgt := 47) hx hb (tI_nI (by omega)) dX10_canStrike_24 (by decide) (fun c24 => ?_) (fun c24 => ?_)
  · refine lv_iconst (pc := 47) (v := nI 0) hx hb dX10_canStrike_47 (by decide) ?_
    exact hret 48 _ hP hS dX10_canStrike_48 rfl rfl ⟨(by rw [if_neg (show ¬ rCan P sl bs k x from (fun q => by have q1 := q.1; rcases q.2 with q2 | q2 <;> first | omega | exact absurd q2 c40))]), rfl⟩
  · refine lv_iload (pc := 27) hx hb dX10_canStrike_27 (lv_at hl 0 rfl) ?_
    refine lv_iload_n (pc := 29) hx hb dX10_canStrike_29 rfl (lv_at hl 4 rfl) ?_
    refine rc_eq (pc := 30) (tgt := 43) hx hb (tI_nI (by omega)) (tI_nI (by omega)) dX10_canStrike_30 (by decide) (fun c30 => ?_) (fun c30 => ?_)
    · refine lv_iconst (pc := 43) (v := nI 1) hx hb dX10_canStrike_43 (by decide) ?_
      refine lv_goto (pc := 44) (tgt := 48) hx hb dX10_canStrike_44 (by decide) ?_
      exact hret 48 _ hP hS dX10_canStrike_48 rfl rfl ⟨(by rw [if_pos (show rCan P sl bs k x from ⟨(by omega), (by first | exact Or.inl (by omega) | exact Or.inr c40)⟩)]), rfl⟩
    · refine lv_aload_n (pc := 33) hx hb dX10_canStrike_33 rfl (lv_at hl 1 rfl) ?_
      refine lv_iload (pc := 34) hx hb dX10_canStrike_34 (lv_at hl 0 rfl) ?_
      refine lv_iload_n (pc := 36) hx hb dX10_canStrike_36 rfl (lv_at hl 4 rfl) ?_
      refine ci_Vd (pc := 37) (r0 := nI (if nxt P (sl ((bs + 27) + k)) x then 1 else 0)) hF hN hK hP hV hS hA (k_X10_isNext l D cI cC cB cS o ad P I (sl ((bs + 27) + k)) x hp hpk hx9) (cwV 2 hts gX10_canStrike_X10_isNext rfl rfl rfl (by decide +kernel) ⟨Nat.le_of_ble_eq_true rfl, Nat.le_of_ble_eq_true rfl⟩) [0] rfl (by decide) 0 10 rfl rfl rfl hl.1 rfl (Nat.le_of_ble_eq_true rfl) dX10_canStrike_37 ⟨Nat.le_refl _, Nat.le_refl _⟩ rfl (ws2 := [rmE o ad (pCells P) P.2.2.2.1 P.2.2.2.2.2.1 P.2.2.2.2.2.2 I, nE 384 (ad 25) cI sl]) rfl (fun H locs hP hS => ?_)
      refine rb_eq (pc := 40) (tgt := 47) hx hb dX10_canStrike_40 (by decide) (fun c40 => ?_) (fun c40 => ?_)
      · have hn40 := c40
        refine lv_iconst (pc := 47) (v := nI 0) hx hb dX10_canStrike_47 (by decide) ?_
        exact hret 48 _ hP hS dX10_canStrike_48 rfl rfl ⟨(by rw [if_neg (show ¬ rCan P sl bs k x from (fun q => by have q1 := q.1; rcases q.2 with q2 | q2 <;> first | omega | exact absurd q2 c40))]), rfl⟩
      · have hy40 := c40
        refine lv_iconst (pc := 43) (v := nI 1) hx hb dX10_canStrike_43 (by decide) ?_
        refine lv_goto (pc := 44) (tgt := 48) hx hb dX10_canStrike_44 (by decide) ?_
        exact hret 48 _ hP hS dX10_canStrike_48 rfl rfl ⟨(by rw [if_pos (show rCan P sl bs k x from ⟨(by omega), (by first | exact Or.inl (by omega) | exact Or.inr c40)⟩)]), rfl⟩
