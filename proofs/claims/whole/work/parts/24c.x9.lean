abbrev rmX9_goOnByDraw : Room := { frames := 5, cells := 0, slots := 0, locals := 117 }
set_option maxHeartbeats 4000000 in
set_option maxRecDepth 100000 in
theorem k_X9_goOnByDraw (l : Launch) (D : va_G) (cI cC cB cS : ClassId) (w0 w1 w2 w4 w5 w6 w7 w8 w9 w10 w11 w12 : Nat) (p0 p1 p2 p3 : Nat) (P : PL) (v0 v1 v2 v3 : Nat) (V : ST) (dr : Nat) (hw : pWF P) (hi : sHi V) (hls : (∀ k, V.2.1 k < 40) ∧ ∀ k, V.2.2.1 k < pCells P) (hpa : V.2.2.2.1 < 64) (hy : V.2.2.2.2 < 100000) (hdr : dr < 65521) : CV l D (kT cI cC cB cS) yX9_goOnByDraw wsX9_goOnByDraw rmX9_goOnByDraw [.ref w0, .ref v0, .int (nI dr)] (rwW w0 w1 w2 p0 w4 w5 w6 w7 w8 w9 w10 w11 w12 ++ plW p0 p1 p2 p3 cI P ++ stW v0 v1 v2 v3 cI V) (fun u => u = rwW w0 w1 w2 p0 w4 w5 w6 w7 w8 w9 w10 w11 w12 ++ plW p0 p1 p2 p3 cI P ++ stW v0 v1 v2 v3 cI (drawS P V dr)) := by
  refine cv_intro (by decide) rfl (Nat.le_of_ble_eq_true rfl) ?_
  intro p e s m args below meth c ls A QF hF hK hP hV hS hA hN hl hret
  obtain ⟨hx, hb, hml, hown, hts⟩ := id hF
  have hP : va_P D vwCl (rwW w0 w1 w2 p0 w4 w5 w6 w7 w8 w9 w10 w11 w12 ++ plW p0 p1 p2 p3 cI P ++ stW v0 v1 v2 v3 cI V) s.heap := hP
  have hl : lv_has ls 4 [(0, .ref w0), (1, .ref v0), (2, .int (nI dr))] := hl
  have wf26 := hts (.fieldLink RX9 26 "RemorseWall" "plan" "LRemorseWall$Plan;") (by decide +kernel)
  have hiX9 : ∀ w ∈ u_ws RX9 TX9 12, w ∈ wsX9_goOnByDraw := by decide +kernel
  obtain ⟨hp, hc1, hce, hme⟩ := id hw
  obtain ⟨hp1, hp2, hp3, hp4, hp5, hp6, hp7⟩ := id hp
  have hcl := pCells_le hp
  refine lv_iload_n (pc := 0) hx hb dX9_goOnByDraw_0 rfl (lv_at hl 2 rfl) ?_
  refine lv_bipush (pc := 1) (v := nI 8) hx hb dX9_goOnByDraw_1 (by decide) ?_
  refine rn_idiv (pc := 3) hx hb (by omega) (by omega) dX9_goOnByDraw_3 ?_
  refine lv_istore_n (pc := 4) (lv' := [(3, .int (nI (dr / 8))), (0, .ref w0), (1, .ref v0), (2, .int (nI dr))]) hx hb dX9_goOnByDraw_4 rfl hl (by decide) rfl (fun ls hl => ?_)
  refine lv_iload_n (pc := 5) hx hb dX9_goOnByDraw_5 rfl (lv_at hl 3 rfl) ?_
  refine lv_bipush (pc := 6) (v := nI 8) hx hb dX9_goOnByDraw_6 (by decide) ?_
  refine rn_irem (pc := 8) hx hb (by omega) (by omega) dX9_goOnByDraw_8 ?_
  have ex9 : (nI (dr % 8)).toInt = ((dr % 8 : Nat) : Int) := (tI_nI (by omega))
  rcases (show (((dr % 8 : Nat) : Int) ≠ 6 ∧ ((dr % 8 : Nat) : Int) ≠ 7) ∨ ((dr % 8 : Nat) : Int) = 6 ∨ ((dr % 8 : Nat) : Int) = 7 by omega) with c9 | c9 | c9
  · refine lv_lookup (pc := 9) (tgt := 84) hx hb dX9_goOnByDraw_9 (by decide) (look_2 (by rw [ex9]; exact c9)) (by decide) ?_
    refine lv_aload_n (pc := 84) hx hb dX9_goOnByDraw_84 rfl (lv_at hl 1 rfl) ?_
    refine va_get (pc := 85) (D := D) (ci := 9) (v := .ref p0) (C := RX9) (T := TX9) (N := 12) hx hb hts hiX9 hown hK hP 0 rfl rfl 2 (by decide) wf26 (fun _ h9 => h9) rfl dX9_goOnByDraw_85 ?_
    refine ci_Vd (pc := 88) (r0 := nI P.2.2.2.2.2.2) hF hN hK hP hV hS hA (k_X2_maidCount l D cI cC cB cS p0 p1 p2 p3 P) (cwV 0 hts gX9_goOnByDraw_X2_maidCount rfl rfl rfl (by decide +kernel) ⟨Nat.le_of_ble_eq_true rfl, Nat.le_of_ble_eq_true rfl⟩) [1, 2, 3, 4] rfl (by decide) 0 2 rfl rfl rfl hl.1 rfl (Nat.le_of_ble_eq_true rfl) dX9_goOnByDraw_88 ⟨Nat.le_refl _, Nat.le_refl _⟩ rfl (ws2 := rwW w0 w1 w2 p0 w4 w5 w6 w7 w8 w9 w10 w11 w12 ++ plW p0 p1 p2 p3 cI P ++ stW v0 v1 v2 v3 cI V) rfl (fun H locs hP hS => ?_)
    refine r0_le (pc := 91) (tgt := 130) hx hb (tI_nI (by omega)) dX9_goOnByDraw_91 (by decide) (fun c91 => ?_) (fun c91 => ?_)
    · exact hret 130 _ hP hS dX9_goOnByDraw_130 rfl (by unfold drawS; (repeat' split) <;> first | (exfalso; omega) | rfl)
    · refine lv_aload_n (pc := 94) hx hb dX9_goOnByDraw_94 rfl (lv_at hl 1 rfl) ?_
      refine va_get (pc := 95) (D := D) (ci := 9) (v := .ref p0) (C := RX9) (T := TX9) (N := 12) hx hb hts hiX9 hown hK hP 0 rfl rfl 2 (by decide) wf26 (fun _ h9 => h9) rfl dX9_goOnByDraw_95 ?_
      refine ci_Vd (pc := 98) (r0 := nI (pCells P)) hF hN hK hP hV hS hA (k_X2_cellCount l D cI cC cB cS p0 p1 p2 p3 P) (cwV 0 hts gX9_goOnByDraw_X2_cellCount rfl rfl rfl (by decide +kernel) ⟨Nat.le_of_ble_eq_true rfl, Nat.le_of_ble_eq_true rfl⟩) [1, 2, 3, 4] rfl (by decide) 0 2 rfl rfl rfl hl.1 rfl (Nat.le_of_ble_eq_true rfl) dX9_goOnByDraw_98 ⟨Nat.le_refl _, Nat.le_refl _⟩ rfl (ws2 := rwW w0 w1 w2 p0 w4 w5 w6 w7 w8 w9 w10 w11 w12 ++ plW p0 p1 p2 p3 cI P ++ stW v0 v1 v2 v3 cI V) rfl (fun H locs hP hS => ?_)
      refine r0_le (pc := 101) (tgt := 130) hx hb (tI_nI (by omega)) dX9_goOnByDraw_101 (by decide) (fun c101 => ?_) (fun c101 => ?_)
      · exact hret 130 _ hP hS dX9_goOnByDraw_130 rfl (by unfold drawS; (repeat' split) <;> first | (exfalso; omega) | rfl)
      · refine lv_aload_n (pc := 104) hx hb dX9_goOnByDraw_104 rfl (lv_at hl 1 rfl) ?_
        refine lv_aload_n (pc := 105) hx hb dX9_goOnByDraw_105 rfl (lv_at hl 2 rfl) ?_
        refine lv_iload_n (pc := 106) hx hb dX9_goOnByDraw_106 rfl (lv_at hl 0 rfl) ?_
        refine lv_aload_n (pc := 107) hx hb dX9_goOnByDraw_107 rfl (lv_at hl 1 rfl) ?_
        refine va_get (pc := 108) (D := D) (ci := 9) (v := .ref p0) (C := RX9) (T := TX9) (N := 12) hx hb hts hiX9 hown hK hP 0 rfl rfl 2 (by decide) wf26 (fun _ h9 => h9) rfl dX9_goOnByDraw_108 ?_
        refine ci_Vd (pc := 111) (r0 := nI P.2.2.2.2.2.2) hF hN hK hP hV hS hA (k_X2_maidCount l D cI cC cB cS p0 p1 p2 p3 P) (cwV 0 hts gX9_goOnByDraw_X2_maidCount rfl rfl rfl (by decide +kernel) ⟨Nat.le_of_ble_eq_true rfl, Nat.le_of_ble_eq_true rfl⟩) [1, 2, 3, 4] rfl (by decide) 0 2 rfl rfl rfl hl.1 rfl (Nat.le_of_ble_eq_true rfl) dX9_goOnByDraw_111 ⟨Nat.le_refl _, Nat.le_refl _⟩ rfl (ws2 := rwW w0 w1 w2 p0 w4 w5 w6 w7 w8 w9 w10 w11 w12 ++ plW p0 p1 p2 p3 cI P ++ stW v0 v1 v2 v3 cI V) rfl (fun H locs hP hS => ?_)
        refine rn_irem (pc := 114) hx hb (by omega) (by omega) dX9_goOnByDraw_114 ?_
        refine lv_iload_n (pc := 115) hx hb dX9_goOnByDraw_115 rfl (lv_at hl 3 rfl) ?_
        refine lv_bipush (pc := 116) (v := nI 64) hx hb dX9_goOnByDraw_116 (by decide) ?_
        refine rn_idiv (pc := 118) hx hb (by omega) (by omega) dX9_goOnByDraw_118 ?_
        refine lv_aload_n (pc := 119) hx hb dX9_goOnByDraw_119 rfl (lv_at hl 1 rfl) ?_
        refine va_get (pc := 120) (D := D) (ci := 9) (v := .ref p0) (C := RX9) (T := TX9) (N := 12) hx hb hts hiX9 hown hK hP 0 rfl rfl 2 (by decide) wf26 (fun _ h9 => h9) rfl dX9_goOnByDraw_120 ?_
        refine ci_Vd (pc := 123) (r0 := nI (pCells P)) hF hN hK hP hV hS hA (k_X2_cellCount l D cI cC cB cS p0 p1 p2 p3 P) (cwV 0 hts gX9_goOnByDraw_X2_cellCount rfl rfl rfl (by decide +kernel) ⟨Nat.le_of_ble_eq_true rfl, Nat.le_of_ble_eq_true rfl⟩) [1, 2, 3, 4] rfl (by decide) 0 2 rfl rfl rfl hl.1 rfl (Nat.le_of_ble_eq_true rfl) dX9_goOnByDraw_123 ⟨Nat.le_refl _, Nat.le_refl _⟩ rfl (ws2 := rwW w0 w1 w2 p0 w4 w5 w6 w7 w8 w9 w10 w11 w12 ++ plW p0 p1 p2 p3 cI P ++ stW v0 v1 v2 v3 cI V) rfl (fun H locs hP hS => ?_)
        refine rn_irem (pc := 126) hx hb (by omega) (by omega) dX9_goOnByDraw_126 ?_
        have hm1 := Nat.mod_lt (dr / 8) (show 0 < P.2.2.2.2.2.2 by omega)
        have hm2 := Nat.mod_lt (dr / 64) (show 0 < pCells P by omega)
        refine cv_Vd (pc := 127) hF hN hK hP hV hS hA (k_X9_strikeIfShe l D cI cC cB cS w0 w1 w2 w4 w5 w6 w7 w8 w9 w10 w11 w12 p0 p1 p2 p3 P v0 v1 v2 v3 V ((dr / 8) % P.2.2.2.2.2.2) ((dr / 64) % (pCells P)) hp hi (by omega) (by omega) (by omega)) (cwV 3 hts gX9_goOnByDraw_X9_strikeIfShe rfl rfl rfl (by decide +kernel) ⟨Nat.le_of_ble_eq_true rfl, Nat.le_of_ble_eq_true rfl⟩) [0, 1, 2, 3, 4, 5, 6, 7, 8] rfl (by decide) 0 9 rfl rfl rfl hl.1 rfl (Nat.le_of_ble_eq_true rfl) dX9_goOnByDraw_127 ⟨Nat.le_refl _, Nat.le_refl _⟩ rfl (ws2 := rwW w0 w1 w2 p0 w4 w5 w6 w7 w8 w9 w10 w11 w12 ++ plW p0 p1 p2 p3 cI P ++ stW v0 v1 v2 v3 cI (strIf P V ((dr / 8) % P.2.2.2.2.2.2) ((dr / 64) % (pCells P)))) rfl (fun H locs hP hS => ?_)
        exact hret 130 _ hP hS dX9_goOnByDraw_130 rfl (by unfold drawS; (repeat' split) <;> first | (exfalso; omega) | rfl)
  · refine lv_lookup (pc := 9) (tgt := 58) hx hb dX9_goOnByDraw_9 (by decide) (by rw [ex9, c9] <;> rfl) (by decide) ?_
    refine lv_aload_n (pc := 58) hx hb dX9_goOnByDraw_58 rfl (lv_at hl 1 rfl) ?_
    refine va_get (pc := 59) (D := D) (ci := 9) (v := .ref p0) (C := RX9) (T := TX9) (N := 12) hx hb hts hiX9 hown hK hP 0 rfl rfl 2 (by decide) wf26 (fun _ h9 => h9) rfl dX9_goOnByDraw_59 ?_
    refine ci_Vd (pc := 62) (r0 := nI P.2.2.2.2.2.1) hF hN hK hP hV hS hA (k_X2_caseCount l D cI cC cB cS p0 p1 p2 p3 P) (cwV 0 hts gX9_goOnByDraw_X2_caseCount rfl rfl rfl (by decide +kernel) ⟨Nat.le_of_ble_eq_true rfl, Nat.le_of_ble_eq_true rfl⟩) [1, 2, 3, 4] rfl (by decide) 0 2 rfl rfl rfl hl.1 rfl (Nat.le_of_ble_eq_true rfl) dX9_goOnByDraw_62 ⟨Nat.le_refl _, Nat.le_refl _⟩ rfl (ws2 := rwW w0 w1 w2 p0 w4 w5 w6 w7 w8 w9 w10 w11 w12 ++ plW p0 p1 p2 p3 cI P ++ stW v0 v1 v2 v3 cI V) rfl (fun H locs hP hS => ?_)
    refine r0_le (pc := 65) (tgt := 130) hx hb (tI_nI (by omega)) dX9_goOnByDraw_65 (by decide) (fun c65 => ?_) (fun c65 => ?_)
    · exact hret 130 _ hP hS dX9_goOnByDraw_130 rfl (by unfold drawS; (repeat' split) <;> first | (exfalso; omega) | rfl)
    · refine lv_aload_n (pc := 68) hx hb dX9_goOnByDraw_68 rfl (lv_at hl 2 rfl) ?_
      refine lv_iload_n (pc := 69) hx hb dX9_goOnByDraw_69 rfl (lv_at hl 0 rfl) ?_
      refine lv_aload_n (pc := 70) hx hb dX9_goOnByDraw_70 rfl (lv_at hl 1 rfl) ?_
      refine va_get (pc := 71) (D := D) (ci := 9) (v := .ref p0) (C := RX9) (T := TX9) (N := 12) hx hb hts hiX9 hown hK hP 0 rfl rfl 2 (by decide) wf26 (fun _ h9 => h9) rfl dX9_goOnByDraw_71 ?_
      refine ci_Vd (pc := 74) (r0 := nI P.2.2.2.2.2.1) hF hN hK hP hV hS hA (k_X2_caseCount l D cI cC cB cS p0 p1 p2 p3 P) (cwV 0 hts gX9_goOnByDraw_X2_caseCount rfl rfl rfl (by decide +kernel) ⟨Nat.le_of_ble_eq_true rfl, Nat.le_of_ble_eq_true rfl⟩) [1, 2, 3, 4] rfl (by decide) 0 2 rfl rfl rfl hl.1 rfl (Nat.le_of_ble_eq_true rfl) dX9_goOnByDraw_74 ⟨Nat.le_refl _, Nat.le_refl _⟩ rfl (ws2 := rwW w0 w1 w2 p0 w4 w5 w6 w7 w8 w9 w10 w11 w12 ++ plW p0 p1 p2 p3 cI P ++ stW v0 v1 v2 v3 cI V) rfl (fun H locs hP hS => ?_)
      refine rn_irem (pc := 77) hx hb (by omega) (by omega) dX9_goOnByDraw_77 ?_
      have hm3 := Nat.mod_lt (dr / 8) (show 0 < P.2.2.2.2.2.1 by omega)
      refine cv_Vd (pc := 78) hF hN hK hP hV hS hA (k_X8_letOff l D cI cC cB cS v0 v1 v2 v3 V ((dr / 8) % P.2.2.2.2.2.1) (by omega)) (cwV 1 hts gX9_goOnByDraw_X8_letOff rfl rfl rfl (by decide +kernel) ⟨Nat.le_of_ble_eq_true rfl, Nat.le_of_ble_eq_true rfl⟩) [5, 6, 7, 8] rfl (by decide) 0 8 rfl rfl rfl hl.1 rfl (Nat.le_of_ble_eq_true rfl) dX9_goOnByDraw_78 ⟨Nat.le_refl _, Nat.le_refl _⟩ rfl (ws2 := rwW w0 w1 w2 p0 w4 w5 w6 w7 w8 w9 w10 w11 w12 ++ plW p0 p1 p2 p3 cI P ++ stW v0 v1 v2 v3 cI (V.1, V.2.1, V.2.2.1, V.2.2.2.1 ||| 2 ^ ((dr / 8) % P.2.2.2.2.2.1), V.2.2.2.2)) rfl (fun H locs hP hS => ?_)
      refine lv_goto (pc := 81) (tgt := 130) hx hb dX9_goOnByDraw_81 (by decide) ?_
      exact hret 130 _ hP hS dX9_goOnByDraw_130 rfl (by unfold drawS; (repeat' split) <;> first | (exfalso; omega) | rfl)
  · refine lv_lookup (pc := 9) (tgt := 36) hx hb dX9_goOnByDraw_9 (by decide) (by rw [ex9, c9] <;> rfl) (by decide) ?_
    refine lv_aload_n (pc := 36) hx hb dX9_goOnByDraw_36 rfl (lv_at hl 2 rfl) ?_
    refine ci_Vd (pc := 37) (r0 := nI V.2.2.2.2) hF hN hK hP hV hS hA (k_X8_yearIs l D cI cC cB cS v0 v1 v2 v3 V) (cwV 0 hts gX9_goOnByDraw_X8_yearIs rfl rfl rfl (by decide +kernel) ⟨Nat.le_of_ble_eq_true rfl, Nat.le_of_ble_eq_true rfl⟩) [5, 6, 7, 8] rfl (by decide) 0 8 rfl rfl rfl hl.1 rfl (Nat.le_of_ble_eq_true rfl) dX9_goOnByDraw_37 ⟨Nat.le_refl _, Nat.le_refl _⟩ rfl (ws2 := rwW w0 w1 w2 p0 w4 w5 w6 w7 w8 w9 w10 w11 w12 ++ plW p0 p1 p2 p3 cI P ++ stW v0 v1 v2 v3 cI V) rfl (fun H locs hP hS => ?_)
    refine lv_sipush (pc := 40) (v := nI 999) hx hb dX9_goOnByDraw_40 (by decide) ?_
    refine rc_ge (pc := 43) (tgt := 130) hx hb (tI_nI (by omega)) (tI_nI (by omega)) dX9_goOnByDraw_43 (by decide) (fun c43 => ?_) (fun c43 => ?_)
    · exact hret 130 _ hP hS dX9_goOnByDraw_130 rfl (by unfold drawS; (repeat' split) <;> first | (exfalso; omega) | rfl)
    · refine lv_aload_n (pc := 46) hx hb dX9_goOnByDraw_46 rfl (lv_at hl 1 rfl) ?_
      refine va_get (pc := 47) (D := D) (ci := 9) (v := .ref p0) (C := RX9) (T := TX9) (N := 12) hx hb hts hiX9 hown hK hP 0 rfl rfl 2 (by decide) wf26 (fun _ h9 => h9) rfl dX9_goOnByDraw_47 ?_
      refine lv_aload_n (pc := 50) hx hb dX9_goOnByDraw_50 rfl (lv_at hl 2 rfl) ?_
      refine lv_iconst (pc := 51) (v := nI 1) hx hb dX9_goOnByDraw_51 (by decide) ?_
      refine cv_Vd (pc := 52) hF hN hK hP hV hS hA (k_X2_yearsGoBy l D cI cC cB cS p0 p1 p2 p3 P v0 v1 v2 v3 V 1 hw hi hpa (by omega)) (cwV 2 hts gX9_goOnByDraw_X2_yearsGoBy rfl rfl rfl (by decide +kernel) ⟨Nat.le_of_ble_eq_true rfl, Nat.le_of_ble_eq_true rfl⟩) [1, 2, 3, 4, 5, 6, 7, 8] rfl (by decide) 0 2 rfl rfl rfl hl.1 rfl (Nat.le_of_ble_eq_true rfl) dX9_goOnByDraw_52 ⟨Nat.le_refl _, Nat.le_refl _⟩ rfl (ws2 := rwW w0 w1 w2 p0 w4 w5 w6 w7 w8 w9 w10 w11 w12 ++ plW p0 p1 p2 p3 cI P ++ stW v0 v1 v2 v3 cI (yearsS P V 1)) rfl (fun H locs hP hS => ?_)
      refine lv_goto (pc := 55) (tgt := 130) hx hb dX9_goOnByDraw_55 (by decide) ?_
      exact hret 130 _ hP hS dX9_goOnByDraw_130 rfl (by unfold drawS; (repeat' split) <;> first | (exfalso; omega) | rfl)
