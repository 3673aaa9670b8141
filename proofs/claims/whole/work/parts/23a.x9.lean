abbrev rmX9_hollowed : Room := { frames := 5, cells := 0, slots := 0, locals := 117 }
set_option maxHeartbeats 4000000 in
set_option maxRecDepth 100000 in
theorem k_X9_hollowed (l : Launch) (D : va_G) (cI cC cB cS : ClassId) (w0 w1 w2 w4 w7 w8 w9 w10 w11 w12 : Nat) (p0 p1 p2 p3 : Nat) (P : PL) (s0 s1 s2 s3 : Nat) (S : ST) (u0 u1 u2 u3 : Nat) (U : ST) (x1 : Int32) (z1 : Int) (hz1 : x1.toInt = z1) (hw : pWF P) (hi : sHi S) (hpa : S.2.2.2.1 < 64) (hy : S.2.2.2.2 < 100000) : CI l D (kT cI cC cB cS) yX9_hollowed wsX9_hollowed rmX9_hollowed [.ref w0, .int (x1)] (rwW w0 w1 w2 p0 w4 s0 u0 w7 w8 w9 w10 w11 w12 ++ plW p0 p1 p2 p3 cI P ++ stW s0 s1 s2 s3 cI S ++ stW u0 u1 u2 u3 cI U) (fun r u => r = jI (zHollowed P S z1) ∧ ∃ U9 : ST, u = rwW w0 w1 w2 p0 w4 s0 u0 w7 w8 w9 w10 w11 w12 ++ plW p0 p1 p2 p3 cI P ++ stW s0 s1 s2 s3 cI S ++ stW u0 u1 u2 u3 cI U9) := by
  refine ci_intro (by decide) rfl (Nat.le_of_ble_eq_true rfl) ?_
  intro p e s m args below meth c ls A QF hF hK hP hV hS hA hN hl hret
  obtain ⟨hx, hb, hml, hown, hts⟩ := id hF
  have hP : va_P D vwCl (rwW w0 w1 w2 p0 w4 s0 u0 w7 w8 w9 w10 w11 w12 ++ plW p0 p1 p2 p3 cI P ++ stW s0 s1 s2 s3 cI S ++ stW u0 u1 u2 u3 cI U) s.heap := hP
  have hl : lv_has ls 3 [(0, .ref w0), (1, .int (x1))] := hl
  have wf26 := hts (.fieldLink RX9 26 "RemorseWall" "plan" "LRemorseWall$Plan;") (by decide +kernel)
  have wf36 := hts (.fieldLink RX9 36 "RemorseWall" "now" "LRemorseWall$Standing;") (by decide +kernel)
  have wf40 := hts (.fieldLink RX9 40 "RemorseWall" "trial" "LRemorseWall$Standing;") (by decide +kernel)
  have hiX9 : ∀ w ∈ u_ws RX9 TX9 12, w ∈ wsX9_hollowed := by decide +kernel
  obtain ⟨hp, hc1, hce, hme⟩ := id hw
  obtain ⟨hp1, hp2, hp3, hp4, hp5, hp6, hp7⟩ := id hp
  have hcl := pCells_le hp
  refine lv_aload_n (pc := 0) hx hb dX9_hollowed_0 rfl (lv_at hl 0 rfl) ?_
  refine lv_iload_n (pc := 1) hx hb dX9_hollowed_1 rfl (lv_at hl 1 rfl) ?_
  refine ci_Vd (pc := 2) (r0 := nI (if okX (pCells P) z1 then 1 else 0)) hF hN hK hP hV hS hA (k_X9_isCell l D cI cC cB cS w0 w1 w2 w4 s0 u0 w7 w8 w9 w10 w11 w12 p0 p1 p2 p3 P (x1) z1 hz1 hp) (cwV 1 hts gX9_hollowed_X9_isCell rfl rfl rfl (by decide +kernel) ⟨Nat.le_of_ble_eq_true rfl, Nat.le_of_ble_eq_true rfl⟩) [0, 1, 2, 3, 4] rfl (by decide) 0 9 rfl rfl rfl hl.1 rfl (Nat.le_of_ble_eq_true rfl) dX9_hollowed_2 ⟨Nat.le_refl _, Nat.le_refl _⟩ rfl (ws2 := rwW w0 w1 w2 p0 w4 s0 u0 w7 w8 w9 w10 w11 w12 ++ plW p0 p1 p2 p3 cI P ++ stW s0 s1 s2 s3 cI S ++ stW u0 u1 u2 u3 cI U) rfl (fun H locs hP hS => ?_)
  refine rb_ne (pc := 5) (tgt := 10) hx hb dX9_hollowed_5 (by decide) (fun c5 => ?_) (fun c5 => ?_)
  · refine lv_aload_n (pc := 10) hx hb dX9_hollowed_10 rfl (lv_at hl 0 rfl) ?_
    refine va_get (pc := 11) (D := D) (ci := 9) (v := .ref u0) (C := RX9) (T := TX9) (N := 12) hx hb hts hiX9 hown hK hP 0 rfl rfl 5 (by decide) wf40 (fun _ h9 => h9) rfl dX9_hollowed_11 ?_
    refine lv_aload_n (pc := 14) hx hb dX9_hollowed_14 rfl (lv_at hl 0 rfl) ?_
    refine va_get (pc := 15) (D := D) (ci := 9) (v := .ref s0) (C := RX9) (T := TX9) (N := 12) hx hb hts hiX9 hown hK hP 0 rfl rfl 4 (by decide) wf36 (fun _ h9 => h9) rfl dX9_hollowed_15 ?_
    refine cv_Vd (pc := 18) hF hN hK hP hV hS hA (k_X8_copyFrom l D cI cC cB cS u0 u1 u2 u3 U s0 s1 s2 s3 S) (cwV 1 hts gX9_hollowed_X8_copyFrom rfl rfl rfl (by decide +kernel) ⟨Nat.le_of_ble_eq_true rfl, Nat.le_of_ble_eq_true rfl⟩) [9, 10, 11, 12, 5, 6, 7, 8] rfl (by decide) 0 8 rfl rfl rfl hl.1 rfl (Nat.le_of_ble_eq_true rfl) dX9_hollowed_18 ⟨Nat.le_refl _, Nat.le_refl _⟩ rfl (ws2 := rwW w0 w1 w2 p0 w4 s0 u0 w7 w8 w9 w10 w11 w12 ++ plW p0 p1 p2 p3 cI P ++ stW s0 s1 s2 s3 cI S ++ stW u0 u1 u2 u3 cI S) rfl (fun H locs hP hS => ?_)
    refine lv_iconst (pc := 21) (v := nI 0) hx hb dX9_hollowed_21 (by decide) ?_
    refine lv_istore_n (pc := 22) (lv' := [(2, .int (nI 0)), (0, .ref w0), (1, .int (x1))]) hx hb dX9_hollowed_22 rfl hl (by decide) rfl (fun ls hl => ?_)
    have cut23 : ∀ (fuel : Nat) (n : Nat) (T : ST) (H : Heap) (locs : List Loc) (ls : Array Slot) (hn : n ≤ 21) (hT : T = yearsS P S n) (hh : holN P S z1 21 0 = holN P S z1 (21 - n) n) (hfu : 21 - n < fuel), va_P D vwCl (rwW w0 w1 w2 p0 w4 s0 u0 w7 w8 w9 w10 w11 w12 ++ plW p0 p1 p2 p3 cI P ++ stW s0 s1 s2 s3 cI S ++ stW u0 u1 u2 u3 cI T) H → va_S A s.heap H locs → lv_has ls 3 [(2, .int (nI n)), (1, .int (x1)), (0, .ref w0)] → W p l e rmX9_hollowed s m args below meth c H locs 0 0 QF (F0 m 23 ls []) := by
      intro fuel
      induction fuel with
      | zero => intro n T H locs ls hn hT hh hfu; omega
      | succ fuel ih23 =>
        intro n T H locs ls hn hT hh hfu hP hS hl
        have hiT : sHi T := hT ▸ yearsS_hi hi n
        have hyT : T.2.2.2.2 = S.2.2.2.2 + n := by rw [hT]; exact yearsS_yr P S n
        have hpT : T.2.2.2.1 < 64 := by rw [hT, yearsS_pa]; exact hpa
        have hsT := sAt_le hiT z1
        refine lv_iload_n (pc := 23) hx hb dX9_hollowed_23 rfl (lv_at hl 0 rfl) ?_
        refine lv_bipush (pc := 24) (v := nI 20) hx hb dX9_hollowed_24 (by decide) ?_
        refine rc_gt (pc := 26) (tgt := 63) hx hb (tI_nI (by omega)) (tI_nI (by omega)) dX9_hollowed_26 (by decide) (fun c26 => ?_) (fun c26 => ?_)
        · refine lv_bipush (pc := 63) (v := jI (-4)) hx hb dX9_hollowed_63 (by decide) ?_
          exact hret 65 _ hP hS dX9_hollowed_65 rfl rfl ⟨(by unfold zHollowed; rw [if_pos c5, hh, show 21 - n = 0 by omega]; rfl), _, rfl⟩
        · refine lv_aload_n (pc := 29) hx hb dX9_hollowed_29 rfl (lv_at hl 2 rfl) ?_
          refine va_get (pc := 30) (D := D) (ci := 9) (v := .ref u0) (C := RX9) (T := TX9) (N := 12) hx hb hts hiX9 hown hK hP 0 rfl rfl 5 (by decide) wf40 (fun _ h9 => h9) rfl dX9_hollowed_30 ?_
          refine lv_iload_n (pc := 33) hx hb dX9_hollowed_33 rfl (lv_at hl 1 rfl) ?_
          refine ci_Vd (pc := 34) (r0 := nI (sAt T z1)) hF hN hK hP hV hS hA (k_X8_highAt l D cI cC cB cS u0 u1 u2 u3 T (x1) z1 hz1) (cwV 1 hts gX9_hollowed_X8_highAt rfl rfl rfl (by decide +kernel) ⟨Nat.le_of_ble_eq_true rfl, Nat.le_of_ble_eq_true rfl⟩) [9, 10, 11, 12] rfl (by decide) 0 8 rfl rfl rfl hl.1 rfl (Nat.le_of_ble_eq_true rfl) dX9_hollowed_34 ⟨Nat.le_refl _, Nat.le_refl _⟩ rfl (ws2 := rwW w0 w1 w2 p0 w4 s0 u0 w7 w8 w9 w10 w11 w12 ++ plW p0 p1 p2 p3 cI P ++ stW s0 s1 s2 s3 cI S ++ stW u0 u1 u2 u3 cI T) rfl (fun H locs hP hS => ?_)
          refine ci_Sd (pc := 37) hF hN hK hP hV hS hA (k_X9_isHollow l D cI cC cB cS (nI (sAt T z1)) ((sAt T z1 : Nat) : Int) (tI_nI (by omega))) (va_cwS 1 hts gX9_hollowed_X9_isHollow rfl rfl rfl (by decide +kernel) ⟨Nat.le_of_ble_eq_true rfl, Nat.le_of_ble_eq_true rfl⟩) [] rfl (by decide) rfl hl.1 rfl (Nat.le_of_ble_eq_true rfl) dX9_hollowed_37 ⟨Nat.le_refl _, Nat.le_refl _⟩ rfl (ws2 := rwW w0 w1 w2 p0 w4 s0 u0 w7 w8 w9 w10 w11 w12 ++ plW p0 p1 p2 p3 cI P ++ stW s0 s1 s2 s3 cI S ++ stW u0 u1 u2 u3 cI T) rfl (fun H locs hP hS => ?_)
          refine rb_eq (pc := 40) (tgt := 45) hx hb dX9_hollowed_40 (by decide) (fun c40 => ?_) (fun c40 => ?_)
          · refine lv_aload_n (pc := 45) hx hb dX9_hollowed_45 rfl (lv_at hl 2 rfl) ?_
            refine va_get (pc := 46) (D := D) (ci := 9) (v := .ref p0) (C := RX9) (T := TX9) (N := 12) hx hb hts hiX9 hown hK hP 0 rfl rfl 2 (by decide) wf26 (fun _ h9 => h9) rfl dX9_hollowed_46 ?_
            refine lv_aload_n (pc := 49) hx hb dX9_hollowed_49 rfl (lv_at hl 2 rfl) ?_
            refine va_get (pc := 50) (D := D) (ci := 9) (v := .ref u0) (C := RX9) (T := TX9) (N := 12) hx hb hts hiX9 hown hK hP 0 rfl rfl 5 (by decide) wf40 (fun _ h9 => h9) rfl dX9_hollowed_50 ?_
            refine lv_iconst (pc := 53) (v := nI 1) hx hb dX9_hollowed_53 (by decide) ?_
            refine cv_Vd (pc := 54) hF hN hK hP hV hS hA (k_X2_yearsGoBy l D cI cC cB cS p0 p1 p2 p3 P u0 u1 u2 u3 T 1 hw hiT (by omega) (by omega)) (cwV 2 hts gX9_hollowed_X2_yearsGoBy rfl rfl rfl (by decide +kernel) ⟨Nat.le_of_ble_eq_true rfl, Nat.le_of_ble_eq_true rfl⟩) [1, 2, 3, 4, 9, 10, 11, 12] rfl (by decide) 0 2 rfl rfl rfl hl.1 rfl (Nat.le_of_ble_eq_true rfl) dX9_hollowed_54 ⟨Nat.le_refl _, Nat.le_refl _⟩ rfl (ws2 := rwW w0 w1 w2 p0 w4 s0 u0 w7 w8 w9 w10 w11 w12 ++ plW p0 p1 p2 p3 cI P ++ stW s0 s1 s2 s3 cI S ++ stW u0 u1 u2 u3 cI (yearsS P T 1)) rfl (fun H locs hP hS => ?_)
            refine lv_iinc (pc := 57) (v := nI (n + 1)) (lv' := [(2, .int (nI (n + 1))), (1, .int (x1)), (0, .ref w0)]) hx hb dX9_hollowed_57 hl (k := 0) rfl (by rw [← nI_add]; rfl) (by decide) rfl (fun ls hl => ?_)
            refine lv_goto (pc := 60) (tgt := 23) hx hb dX9_hollowed_60 (by decide) ?_
            exact ih23 (n + 1) (yearsS P T 1) _ _ _ (by omega) (by rw [hT]; rfl) (by rw [hh, show 21 - n = (21 - (n + 1)) + 1 by omega, holN, if_neg (by rw [← hT]; omega)]) (by omega) hP hS (lv_sub hl [0, 1, 2] rfl)
          · refine lv_iload_n (pc := 43) hx hb dX9_hollowed_43 rfl (lv_at hl 0 rfl) ?_
            exact hret 44 _ hP hS dX9_hollowed_44 rfl rfl ⟨(by unfold zHollowed; rw [if_pos c5, hh, show 21 - n = (21 - (n + 1)) + 1 by omega, holN, if_pos (by rw [← hT]; omega)]; exact jI_nat n), _, rfl⟩
    exact cut23 _ 0 S _ _ _ (by omega) rfl rfl (Nat.lt_succ_self _) hP hS (lv_sub hl [0, 2, 1] rfl)
  · refine lv_iconst (pc := 8) (v := jI (-1)) hx hb dX9_hollowed_8 (by decide) ?_
    exact hret 9 _ hP hS dX9_hollowed_9 rfl rfl ⟨(by unfold zHollowed; rw [if_neg c5]), _, rfl⟩
