abbrev rmX9_pardons : Room := { frames := 5, cells := 0, slots := 0, locals := 117 }
set_option maxHeartbeats 4000000 in
set_option maxRecDepth 100000 in
theorem k_X9_pardons (l : Launch) (D : va_G) (cI cC cB cS : ClassId) (w0 w1 w2 w4 w7 w8 w9 w10 w11 w12 : Nat) (p0 p1 p2 p3 : Nat) (P : PL) (s0 s1 s2 s3 : Nat) (S : ST) (u0 u1 u2 u3 : Nat) (U : ST) (x1 : Int32) (z1 : Int) (hz1 : x1.toInt = z1) (x2 : Int32) (z2 : Int) (hz2 : x2.toInt = z2) (hw : pWF P) (hi : sHi S) (hpa : S.2.2.2.1 < 64) (hy : S.2.2.2.2 < 100000) : CI l D (kT cI cC cB cS) yX9_pardons wsX9_pardons rmX9_pardons [.ref w0, .int (x1), .int (x2)] (rwW w0 w1 w2 p0 w4 s0 u0 w7 w8 w9 w10 w11 w12 ++ plW p0 p1 p2 p3 cI P ++ stW s0 s1 s2 s3 cI S ++ stW u0 u1 u2 u3 cI U) (fun r u => r = jI (zPardons P S z1 z2) ∧ ∃ U9 : ST, u = rwW w0 w1 w2 p0 w4 s0 u0 w7 w8 w9 w10 w11 w12 ++ plW p0 p1 p2 p3 cI P ++ stW s0 s1 s2 s3 cI S ++ stW u0 u1 u2 u3 cI U9) := by
  refine ci_intro (by decide) rfl (Nat.le_of_ble_eq_true rfl) ?_
  intro p e s m args below meth c ls A QF hF hK hP hV hS hA hN hl hret
  obtain ⟨hx, hb, hml, hown, hts⟩ := id hF
  have hP : va_P D vwCl (rwW w0 w1 w2 p0 w4 s0 u0 w7 w8 w9 w10 w11 w12 ++ plW p0 p1 p2 p3 cI P ++ stW s0 s1 s2 s3 cI S ++ stW u0 u1 u2 u3 cI U) s.heap := hP
  have hl : lv_has ls 6 [(0, .ref w0), (1, .int (x1)), (2, .int (x2))] := hl
  have wf26 := hts (.fieldLink RX9 26 "RemorseWall" "plan" "LRemorseWall$Plan;") (by decide +kernel)
  have wf36 := hts (.fieldLink RX9 36 "RemorseWall" "now" "LRemorseWall$Standing;") (by decide +kernel)
  have wf40 := hts (.fieldLink RX9 40 "RemorseWall" "trial" "LRemorseWall$Standing;") (by decide +kernel)
  have hiX9 : ∀ w ∈ u_ws RX9 TX9 12, w ∈ wsX9_pardons := by decide +kernel
  obtain ⟨hp, hc1, hce, hme⟩ := id hw
  obtain ⟨hp1, hp2, hp3, hp4, hp5, hp6, hp7⟩ := id hp
  have hcl := pCells_le hp
  refine lv_iload_n (pc := 0) hx hb dX9_pardons_0 rfl (lv_at hl 1 rfl) ?_
  refine lv_iconst (pc := 1) (v := nI 1) hx hb dX9_pardons_1 (by decide) ?_
  refine rc_lt (pc := 2) (tgt := 20) hx hb hz1 (tI_nI (by omega)) dX9_pardons_2 (by decide) (fun c2 => ?_) (fun c2 => ?_)
  · refine lv_iconst (pc := 20) (v := jI (-1)) hx hb dX9_pardons_20 (by decide) ?_
    exact hret 21 _ hP hS dX9_pardons_21 rfl rfl ⟨(by unfold zPardons; (repeat' split) <;> first | (exfalso; omega) | rfl), _, rfl⟩
  · refine lv_iload_n (pc := 5) hx hb dX9_pardons_5 rfl (lv_at hl 1 rfl) ?_
    refine lv_bipush (pc := 6) (v := nI 20) hx hb dX9_pardons_6 (by decide) ?_
    refine rc_gt (pc := 8) (tgt := 20) hx hb hz1 (tI_nI (by omega)) dX9_pardons_8 (by decide) (fun c8 => ?_) (fun c8 => ?_)
    · refine lv_iconst (pc := 20) (v := jI (-1)) hx hb dX9_pardons_20 (by decide) ?_
      exact hret 21 _ hP hS dX9_pardons_21 rfl rfl ⟨(by unfold zPardons; (repeat' split) <;> first | (exfalso; omega) | rfl), _, rfl⟩
    · refine lv_iload_n (pc := 11) hx hb dX9_pardons_11 rfl (lv_at hl 2 rfl) ?_
      refine r0_lt (pc := 12) (tgt := 20) hx hb hz2 dX9_pardons_12 (by decide) (fun c12 => ?_) (fun c12 => ?_)
      · refine lv_iconst (pc := 20) (v := jI (-1)) hx hb dX9_pardons_20 (by decide) ?_
        exact hret 21 _ hP hS dX9_pardons_21 rfl rfl ⟨(by unfold zPardons; (repeat' split) <;> first | (exfalso; omega) | rfl), _, rfl⟩
      · refine lv_iload_n (pc := 15) hx hb dX9_pardons_15 rfl (lv_at hl 2 rfl) ?_
        refine lv_iconst (pc := 16) (v := nI 1) hx hb dX9_pardons_16 (by decide) ?_
        refine rc_le (pc := 17) (tgt := 22) hx hb hz2 (tI_nI (by omega)) dX9_pardons_17 (by decide) (fun c17 => ?_) (fun c17 => ?_)
        · obtain ⟨n, rfl⟩ : ∃ k : Nat, z1 = k := ⟨z1.toNat, by omega⟩
          obtain rfl : x1 = nI n := eq_nI hz1
          refine lv_bipush (pc := 22) (v := jI (-4)) hx hb dX9_pardons_22 (by decide) ?_
          refine lv_istore_n (pc := 24) (lv' := [(3, .int (jI (-4))), (0, .ref w0), (1, .int (nI n)), (2, .int (x2))]) hx hb dX9_pardons_24 rfl hl (by decide) rfl (fun ls hl => ?_)
          refine lv_bipush (pc := 25) (v := jI (-4)) hx hb dX9_pardons_25 (by decide) ?_
          refine lv_istore (pc := 27) (lv' := [(4, .int (jI (-4))), (3, .int (jI (-4))), (0, .ref w0), (1, .int (nI n)), (2, .int (x2))]) hx hb dX9_pardons_27 hl (by decide) rfl (fun ls hl => ?_)
          refine lv_iconst (pc := 29) (v := nI 0) hx hb dX9_pardons_29 (by decide) ?_
          refine lv_istore (pc := 30) (lv' := [(5, .int (nI 0)), (4, .int (jI (-4))), (3, .int (jI (-4))), (0, .ref w0), (1, .int (nI n)), (2, .int (x2))]) hx hb dX9_pardons_30 hl (by decide) rfl (fun ls hl => ?_)
          have cut32 : ∀ (fuel : Nat) (c9 : Nat) (b : Int) (q : Int) (V : ST) (H : Heap) (locs : List Loc) (ls : Array Slot) (hc : c9 ≤ P.2.2.2.2.2.1) (hbe : (b, q) = bestN P S n c9) (hfu : P.2.2.2.2.2.1 - c9 < fuel), va_P D vwCl (rwW w0 w1 w2 p0 w4 s0 u0 w7 w8 w9 w10 w11 w12 ++ plW p0 p1 p2 p3 cI P ++ stW s0 s1 s2 s3 cI S ++ stW u0 u1 u2 u3 cI V) H → va_S A s.heap H locs → lv_has ls 6 [(5, .int (nI c9)), (4, .int (jI q)), (3, .int (jI b)), (2, .int (x2)), (1, .int (nI n)), (0, .ref w0)] → W p l e rmX9_pardons s m args below meth c H locs 0 0 QF (F0 m 32 ls []) := by
            intro fuel
            induction fuel with
            | zero => intro c9 b q V H locs ls hc hbe hfu; omega
            | succ fuel ih32 =>
              intro c9 b q V H locs ls hc hbe hfu hP hS hl
              have hbr := bestN_rng hi n c9 (P := P)
              rw [← hbe] at hbr
              dsimp only at hbr
              have hpn := pardN_le hi n c9 (P := P)
              refine lv_iload (pc := 32) hx hb dX9_pardons_32 (lv_at hl 0 rfl) ?_
              refine lv_aload_n (pc := 34) hx hb dX9_pardons_34 rfl (lv_at hl 5 rfl) ?_
              refine va_get (pc := 35) (D := D) (ci := 9) (v := .ref p0) (C := RX9) (T := TX9) (N := 12) hx hb hts hiX9 hown hK hP 0 rfl rfl 2 (by decide) wf26 (fun _ h9 => h9) rfl dX9_pardons_35 ?_
              refine ci_Vd (pc := 38) (r0 := nI P.2.2.2.2.2.1) hF hN hK hP hV hS hA (k_X2_caseCount l D cI cC cB cS p0 p1 p2 p3 P) (cwV 0 hts gX9_pardons_X2_caseCount rfl rfl rfl (by decide +kernel) ⟨Nat.le_of_ble_eq_true rfl, Nat.le_of_ble_eq_true rfl⟩) [1, 2, 3, 4] rfl (by decide) 0 2 rfl rfl rfl hl.1 rfl (Nat.le_of_ble_eq_true rfl) dX9_pardons_38 ⟨Nat.le_refl _, Nat.le_refl _⟩ rfl (ws2 := rwW w0 w1 w2 p0 w4 s0 u0 w7 w8 w9 w10 w11 w12 ++ plW p0 p1 p2 p3 cI P ++ stW s0 s1 s2 s3 cI S ++ stW u0 u1 u2 u3 cI V) rfl (fun H locs hP hS => ?_)
              refine rc_ge (pc := 41) (tgt := 127) hx hb (tI_nI (by omega)) (tI_nI (by omega)) dX9_pardons_41 (by decide) (fun c41 => ?_) (fun c41 => ?_)
              · refine lv_iload_n (pc := 127) hx hb dX9_pardons_127 rfl (lv_at hl 3 rfl) ?_
                refine r0_ne (pc := 128) (tgt := 135) hx hb hz2 dX9_pardons_128 (by decide) (fun c128 => ?_) (fun c128 => ?_)
                · refine lv_iload (pc := 135) hx hb dX9_pardons_135 (lv_at hl 1 rfl) ?_
                  exact hret 137 _ hP hS dX9_pardons_137 rfl rfl ⟨(by have he : c9 = P.2.2.2.2.2.1 := (by omega); subst he; unfold zPardons; rw [if_pos (by omega), if_neg (by omega), Int.toNat_natCast, ← hbe]), _, rfl⟩
                · refine lv_iload_n (pc := 131) hx hb dX9_pardons_131 rfl (lv_at hl 2 rfl) ?_
                  refine lv_goto (pc := 132) (tgt := 137) hx hb dX9_pardons_132 (by decide) ?_
                  exact hret 137 _ hP hS dX9_pardons_137 rfl rfl ⟨(by have he : c9 = P.2.2.2.2.2.1 := (by omega); subst he; unfold zPardons; rw [if_pos (by omega), if_pos (by omega), Int.toNat_natCast, ← hbe]), _, rfl⟩
              · refine lv_aload_n (pc := 44) hx hb dX9_pardons_44 rfl (lv_at hl 5 rfl) ?_
                refine va_get (pc := 45) (D := D) (ci := 9) (v := .ref s0) (C := RX9) (T := TX9) (N := 12) hx hb hts hiX9 hown hK hP 0 rfl rfl 4 (by decide) wf36 (fun _ h9 => h9) rfl dX9_pardons_45 ?_
                refine lv_iload (pc := 48) hx hb dX9_pardons_48 (lv_at hl 0 rfl) ?_
                refine ci_Vd (pc := 50) (r0 := nI (if sPard S c9 then 1 else 0)) hF hN hK hP hV hS hA (k_X8_isPardoned l D cI cC cB cS s0 s1 s2 s3 S c9 hpa (by omega)) (cwV 1 hts gX9_pardons_X8_isPardoned rfl rfl rfl (by decide +kernel) ⟨Nat.le_of_ble_eq_true rfl, Nat.le_of_ble_eq_true rfl⟩) [5, 6, 7, 8] rfl (by decide) 0 8 rfl rfl rfl hl.1 rfl (Nat.le_of_ble_eq_true rfl) dX9_pardons_50 ⟨Nat.le_refl _, Nat.le_refl _⟩ rfl (ws2 := rwW w0 w1 w2 p0 w4 s0 u0 w7 w8 w9 w10 w11 w12 ++ plW p0 p1 p2 p3 cI P ++ stW s0 s1 s2 s3 cI S ++ stW u0 u1 u2 u3 cI V) rfl (fun H locs hP hS => ?_)
                refine rb_eq (pc := 53) (tgt := 59) hx hb dX9_pardons_53 (by decide) (fun c53 => ?_) (fun c53 => ?_)
                · refine lv_aload_n (pc := 59) hx hb dX9_pardons_59 rfl (lv_at hl 5 rfl) ?_
                  refine va_get (pc := 60) (D := D) (ci := 9) (v := .ref u0) (C := RX9) (T := TX9) (N := 12) hx hb hts hiX9 hown hK hP 0 rfl rfl 5 (by decide) wf40 (fun _ h9 => h9) rfl dX9_pardons_60 ?_
                  refine lv_aload_n (pc := 63) hx hb dX9_pardons_63 rfl (lv_at hl 5 rfl) ?_
                  refine va_get (pc := 64) (D := D) (ci := 9) (v := .ref s0) (C := RX9) (T := TX9) (N := 12) hx hb hts hiX9 hown hK hP 0 rfl rfl 4 (by decide) wf36 (fun _ h9 => h9) rfl dX9_pardons_64 ?_
                  refine cv_Vd (pc := 67) hF hN hK hP hV hS hA (k_X8_copyFrom l D cI cC cB cS u0 u1 u2 u3 V s0 s1 s2 s3 S) (cwV 1 hts gX9_pardons_X8_copyFrom rfl rfl rfl (by decide +kernel) ⟨Nat.le_of_ble_eq_true rfl, Nat.le_of_ble_eq_true rfl⟩) [9, 10, 11, 12, 5, 6, 7, 8] rfl (by decide) 0 8 rfl rfl rfl hl.1 rfl (Nat.le_of_ble_eq_true rfl) dX9_pardons_67 ⟨Nat.le_refl _, Nat.le_refl _⟩ rfl (ws2 := rwW w0 w1 w2 p0 w4 s0 u0 w7 w8 w9 w10 w11 w12 ++ plW p0 p1 p2 p3 cI P ++ stW s0 s1 s2 s3 cI S ++ stW u0 u1 u2 u3 cI S) rfl (fun H locs hP hS => ?_)
                  have hor := or_64 hpa (show c9 < 6 by omega)
                  refine lv_aload_n (pc := 70) hx hb dX9_pardons_70 rfl (lv_at hl 5 rfl) ?_
                  refine va_get (pc := 71) (D := D) (ci := 9) (v := .ref u0) (C := RX9) (T := TX9) (N := 12) hx hb hts hiX9 hown hK hP 0 rfl rfl 5 (by decide) wf40 (fun _ h9 => h9) rfl dX9_pardons_71 ?_
                  refine lv_iload (pc := 74) hx hb dX9_pardons_74 (lv_at hl 0 rfl) ?_
                  refine cv_Vd (pc := 76) hF hN hK hP hV hS hA (k_X8_letOff l D cI cC cB cS u0 u1 u2 u3 S c9 (by omega)) (cwV 1 hts gX9_pardons_X8_letOff rfl rfl rfl (by decide +kernel) ⟨Nat.le_of_ble_eq_true rfl, Nat.le_of_ble_eq_true rfl⟩) [9, 10, 11, 12] rfl (by decide) 0 8 rfl rfl rfl hl.1 rfl (Nat.le_of_ble_eq_true rfl) dX9_pardons_76 ⟨Nat.le_refl _, Nat.le_refl _⟩ rfl (ws2 := rwW w0 w1 w2 p0 w4 s0 u0 w7 w8 w9 w10 w11 w12 ++ plW p0 p1 p2 p3 cI P ++ stW s0 s1 s2 s3 cI S ++ stW u0 u1 u2 u3 cI (S.1, S.2.1, S.2.2.1, S.2.2.2.1 ||| 2 ^ c9, S.2.2.2.2)) rfl (fun H locs hP hS => ?_)
                  refine lv_aload_n (pc := 79) hx hb dX9_pardons_79 rfl (lv_at hl 5 rfl) ?_
                  refine va_get (pc := 80) (D := D) (ci := 9) (v := .ref p0) (C := RX9) (T := TX9) (N := 12) hx hb hts hiX9 hown hK hP 0 rfl rfl 2 (by decide) wf26 (fun _ h9 => h9) rfl dX9_pardons_80 ?_
                  refine lv_aload_n (pc := 83) hx hb dX9_pardons_83 rfl (lv_at hl 5 rfl) ?_
                  refine va_get (pc := 84) (D := D) (ci := 9) (v := .ref u0) (C := RX9) (T := TX9) (N := 12) hx hb hts hiX9 hown hK hP 0 rfl rfl 5 (by decide) wf40 (fun _ h9 => h9) rfl dX9_pardons_84 ?_
                  refine lv_iload_n (pc := 87) hx hb dX9_pardons_87 rfl (lv_at hl 4 rfl) ?_
                  refine cv_Vd (pc := 88) hF hN hK hP hV hS hA (k_X2_yearsGoBy l D cI cC cB cS p0 p1 p2 p3 P u0 u1 u2 u3 (S.1, S.2.1, S.2.2.1, S.2.2.2.1 ||| 2 ^ c9, S.2.2.2.2) n hw (show sHi (S.1, S.2.1, S.2.2.1, S.2.2.2.1 ||| 2 ^ c9, S.2.2.2.2) from hi) (show (S.2.2.2.1 ||| 2 ^ c9) < 64 by omega) (show S.2.2.2.2 + n < 1000000 by omega)) (cwV 2 hts gX9_pardons_X2_yearsGoBy rfl rfl rfl (by decide +kernel) ⟨Nat.le_of_ble_eq_true rfl, Nat.le_of_ble_eq_true rfl⟩) [1, 2, 3, 4, 9, 10, 11, 12] rfl (by decide) 0 2 rfl rfl rfl hl.1 rfl (Nat.le_of_ble_eq_true rfl) dX9_pardons_88 ⟨Nat.le_refl _, Nat.le_refl _⟩ rfl (ws2 := rwW w0 w1 w2 p0 w4 s0 u0 w7 w8 w9 w10 w11 w12 ++ plW p0 p1 p2 p3 cI P ++ stW s0 s1 s2 s3 cI S ++ stW u0 u1 u2 u3 cI (yearsS P (S.1, S.2.1, S.2.2.1, S.2.2.2.1 ||| 2 ^ c9, S.2.2.2.2) n)) rfl (fun H locs hP hS => ?_)
                  refine lv_iload_n (pc := 91) hx hb dX9_pardons_91 rfl (lv_at hl 2 rfl) ?_
                  refine lv_bipush (pc := 92) (v := jI (-4)) hx hb dX9_pardons_92 (by decide) ?_
                  refine rc_eq (pc := 94) (tgt := 109) hx hb (jI_to (by omega)) (jI_to (by omega)) dX9_pardons_94 (by decide) (fun c94 => ?_) (fun c94 => ?_)
                  · refine lv_iload (pc := 109) hx hb dX9_pardons_109 (lv_at hl 0 rfl) ?_
                    refine r_top (jI_nat _) ?_
                    refine lv_istore_n (pc := 111) (lv' := [(3, .int (jI (c9 : Int))), (5, .int (nI c9)), (4, .int (jI q)), (2, .int (x2)), (1, .int (nI n)), (0, .ref w0)]) hx hb dX9_pardons_111 rfl hl (by decide) rfl (fun ls hl => ?_)
                    refine lv_aload_n (pc := 112) hx hb dX9_pardons_112 rfl (lv_at hl 5 rfl) ?_
                    refine va_get (pc := 113) (D := D) (ci := 9) (v := .ref u0) (C := RX9) (T := TX9) (N := 12) hx hb hts hiX9 hown hK hP 0 rfl rfl 5 (by decide) wf40 (fun _ h9 => h9) rfl dX9_pardons_113 ?_
                    refine ci_Vd (pc := 116) (r0 := nI (nSum (yearsS P (S.1, S.2.1, S.2.2.1, S.2.2.2.1 ||| 2 ^ c9, S.2.2.2.2) n).1 24)) hF hN hK hP hV hS hA (k_X8_sum l D cI cC cB cS u0 u1 u2 u3 (yearsS P (S.1, S.2.1, S.2.2.1, S.2.2.2.1 ||| 2 ^ c9, S.2.2.2.2) n) (yearsS_hi (show sHi (S.1, S.2.1, S.2.2.1, S.2.2.2.1 ||| 2 ^ c9, S.2.2.2.2) from hi) _)) (cwV 0 hts gX9_pardons_X8_sum rfl rfl rfl (by decide +kernel) ⟨Nat.le_of_ble_eq_true rfl, Nat.le_of_ble_eq_true rfl⟩) [9, 10, 11, 12] rfl (by decide) 0 8 rfl rfl rfl hl.1 rfl (Nat.le_of_ble_eq_true rfl) dX9_pardons_116 ⟨Nat.le_refl _, Nat.le_refl _⟩ rfl (ws2 := rwW w0 w1 w2 p0 w4 s0 u0 w7 w8 w9 w10 w11 w12 ++ plW p0 p1 p2 p3 cI P ++ stW s0 s1 s2 s3 cI S ++ stW u0 u1 u2 u3 cI (yearsS P (S.1, S.2.1, S.2.2.1, S.2.2.2.1 ||| 2 ^ c9, S.2.2.2.2) n)) rfl (fun H locs hP hS => ?_)
                    refine r_top (show _ = nI (pardN P S n c9) from rfl) ?_
                    refine r_top (jI_nat _) ?_
                    refine lv_istore (pc := 119) (lv' := [(4, .int (jI (pardN P S n c9 : Int))), (3, .int (jI (c9 : Int))), (5, .int (nI c9)), (2, .int (x2)), (1, .int (nI n)), (0, .ref w0)]) hx hb dX9_pardons_119 hl (by decide) rfl (fun ls hl => ?_)
                    refine lv_iinc (pc := 121) (v := nI (c9 + 1)) (lv' := [(5, .int (nI (c9 + 1))), (4, .int (jI (pardN P S n c9 : Int))), (3, .int (jI (c9 : Int))), (2, .int (x2)), (1, .int (nI n)), (0, .ref w0)]) hx hb dX9_pardons_121 hl (k := 2) rfl (by rw [← nI_add]; rfl) (by decide) rfl (fun ls hl => ?_)
                    refine lv_goto (pc := 124) (tgt := 32) hx hb dX9_pardons_124 (by decide) ?_
                    exact ih32 (c9 + 1) (c9 : Int) (pardN P S n c9 : Int) (yearsS P (S.1, S.2.1, S.2.2.1, S.2.2.2.1 ||| 2 ^ c9, S.2.2.2.2) n) _ _ _ (by omega) (best_yes hbe c53 (by omega)) (by omega) hP hS (lv_sub hl [0, 1, 2, 3, 4, 5] rfl)
                  · refine lv_aload_n (pc := 97) hx hb dX9_pardons_97 rfl (lv_at hl 5 rfl) ?_
                    refine va_get (pc := 98) (D := D) (ci := 9) (v := .ref u0) (C := RX9) (T := TX9) (N := 12) hx hb hts hiX9 hown hK hP 0 rfl rfl 5 (by decide) wf40 (fun _ h9 => h9) rfl dX9_pardons_98 ?_
                    refine ci_Vd (pc := 101) (r0 := nI (nSum (yearsS P (S.1, S.2.1, S.2.2.1, S.2.2.2.1 ||| 2 ^ c9, S.2.2.2.2) n).1 24)) hF hN hK hP hV hS hA (k_X8_sum l D cI cC cB cS u0 u1 u2 u3 (yearsS P (S.1, S.2.1, S.2.2.1, S.2.2.2.1 ||| 2 ^ c9, S.2.2.2.2) n) (yearsS_hi (show sHi (S.1, S.2.1, S.2.2.1, S.2.2.2.1 ||| 2 ^ c9, S.2.2.2.2) from hi) _)) (cwV 0 hts gX9_pardons_X8_sum rfl rfl rfl (by decide +kernel) ⟨Nat.le_of_ble_eq_true rfl, Nat.le_of_ble_eq_true rfl⟩) [9, 10, 11, 12] rfl (by decide) 0 8 rfl rfl rfl hl.1 rfl (Nat.le_of_ble_eq_true rfl) dX9_pardons_101 ⟨Nat.le_refl _, Nat.le_refl _⟩ rfl (ws2 := rwW w0 w1 w2 p0 w4 s0 u0 w7 w8 w9 w10 w11 w12 ++ plW p0 p1 p2 p3 cI P ++ stW s0 s1 s2 s3 cI S ++ stW u0 u1 u2 u3 cI (yearsS P (S.1, S.2.1, S.2.2.1, S.2.2.2.1 ||| 2 ^ c9, S.2.2.2.2) n)) rfl (fun H locs hP hS => ?_)
                    refine r_top (show _ = nI (pardN P S n c9) from rfl) ?_
                    refine lv_iload (pc := 104) hx hb dX9_pardons_104 (lv_at hl 1 rfl) ?_
                    refine rc_ge (pc := 106) (tgt := 121) hx hb (tI_nI (by omega)) (jI_to (by omega)) dX9_pardons_106 (by decide) (fun c106 => ?_) (fun c106 => ?_)
                    · refine lv_iinc (pc := 121) (v := nI (c9 + 1)) (lv' := [(5, .int (nI (c9 + 1))), (4, .int (jI q)), (3, .int (jI b)), (2, .int (x2)), (1, .int (nI n)), (0, .ref w0)]) hx hb dX9_pardons_121 hl (k := 0) rfl (by rw [← nI_add]; rfl) (by decide) rfl (fun ls hl => ?_)
                      refine lv_goto (pc := 124) (tgt := 32) hx hb dX9_pardons_124 (by decide) ?_
                      exact ih32 (c9 + 1) b q (yearsS P (S.1, S.2.1, S.2.2.1, S.2.2.2.1 ||| 2 ^ c9, S.2.2.2.2) n) _ _ _ (by omega) (best_no hbe c53 (by omega)) (by omega) hP hS (lv_sub hl [0, 1, 2, 3, 4, 5] rfl)
                    · refine lv_iload (pc := 109) hx hb dX9_pardons_109 (lv_at hl 0 rfl) ?_
                      refine r_top (jI_nat _) ?_
                      refine lv_istore_n (pc := 111) (lv' := [(3, .int (jI (c9 : Int))), (5, .int (nI c9)), (4, .int (jI q)), (2, .int (x2)), (1, .int (nI n)), (0, .ref w0)]) hx hb dX9_pardons_111 rfl hl (by decide) rfl (fun ls hl => ?_)
                      refine lv_aload_n (pc := 112) hx hb dX9_pardons_112 rfl (lv_at hl 5 rfl) ?_
                      refine va_get (pc := 113) (D := D) (ci := 9) (v := .ref u0) (C := RX9) (T := TX9) (N := 12) hx hb hts hiX9 hown hK hP 0 rfl rfl 5 (by decide) wf40 (fun _ h9 => h9) rfl dX9_pardons_113 ?_
                      refine ci_Vd (pc := 116) (r0 := nI (nSum (yearsS P (S.1, S.2.1, S.2.2.1, S.2.2.2.1 ||| 2 ^ c9, S.2.2.2.2) n).1 24)) hF hN hK hP hV hS hA (k_X8_sum l D cI cC cB cS u0 u1 u2 u3 (yearsS P (S.1, S.2.1, S.2.2.1, S.2.2.2.1 ||| 2 ^ c9, S.2.2.2.2) n) (yearsS_hi (show sHi (S.1, S.2.1, S.2.2.1, S.2.2.2.1 ||| 2 ^ c9, S.2.2.2.2) from hi) _)) (cwV 0 hts gX9_pardons_X8_sum rfl rfl rfl (by decide +kernel) ⟨Nat.le_of_ble_eq_true rfl, Nat.le_of_ble_eq_true rfl⟩) [9, 10, 11, 12] rfl (by decide) 0 8 rfl rfl rfl hl.1 rfl (Nat.le_of_ble_eq_true rfl) dX9_pardons_116 ⟨Nat.le_refl _, Nat.le_refl _⟩ rfl (ws2 := rwW w0 w1 w2 p0 w4 s0 u0 w7 w8 w9 w10 w11 w12 ++ plW p0 p1 p2 p3 cI P ++ stW s0 s1 s2 s3 cI S ++ stW u0 u1 u2 u3 cI (yearsS P (S.1, S.2.1, S.2.2.1, S.2.2.2.1 ||| 2 ^ c9, S.2.2.2.2) n)) rfl (fun H locs hP hS => ?_)
                      refine r_top (show _ = nI (pardN P S n c9) from rfl) ?_
                      refine r_top (jI_nat _) ?_
                      refine lv_istore (pc := 119) (lv' := [(4, .int (jI (pardN P S n c9 : Int))), (3, .int (jI (c9 : Int))), (5, .int (nI c9)), (2, .int (x2)), (1, .int (nI n)), (0, .ref w0)]) hx hb dX9_pardons_119 hl (by decide) rfl (fun ls hl => ?_)
                      refine lv_iinc (pc := 121) (v := nI (c9 + 1)) (lv' := [(5, .int (nI (c9 + 1))), (4, .int (jI (pardN P S n c9 : Int))), (3, .int (jI (c9 : Int))), (2, .int (x2)), (1, .int (nI n)), (0, .ref w0)]) hx hb dX9_pardons_121 hl (k := 2) rfl (by rw [← nI_add]; rfl) (by decide) rfl (fun ls hl => ?_)
                      refine lv_goto (pc := 124) (tgt := 32) hx hb dX9_pardons_124 (by decide) ?_
                      exact ih32 (c9 + 1) (c9 : Int) (pardN P S n c9 : Int) (yearsS P (S.1, S.2.1, S.2.2.1, S.2.2.2.1 ||| 2 ^ c9, S.2.2.2.2) n) _ _ _ (by omega) (best_yes hbe c53 (by omega)) (by omega) hP hS (lv_sub hl [0, 1, 2, 3, 4, 5] rfl)
                · refine lv_goto (pc := 56) (tgt := 121) hx hb dX9_pardons_56 (by decide) ?_
                  refine lv_iinc (pc := 121) (v := nI (c9 + 1)) (lv' := [(5, .int (nI (c9 + 1))), (4, .int (jI q)), (3, .int (jI b)), (2, .int (x2)), (1, .int (nI n)), (0, .ref w0)]) hx hb dX9_pardons_121 hl (k := 0) rfl (by rw [← nI_add]; rfl) (by decide) rfl (fun ls hl => ?_)
                  refine lv_goto (pc := 124) (tgt := 32) hx hb dX9_pardons_124 (by decide) ?_
                  exact ih32 (c9 + 1) b q V _ _ _ (by omega) (best_skip hbe c53) (by omega) hP hS (lv_sub hl [0, 1, 2, 3, 4, 5] rfl)
          exact cut32 _ 0 (-4) (-4) U _ _ _ (Nat.zero_le _) rfl (Nat.lt_succ_self _) hP hS (lv_sub hl [0, 1, 2, 5, 4, 3] rfl)
        · refine lv_iconst (pc := 20) (v := jI (-1)) hx hb dX9_pardons_20 (by decide) ?_
          exact hret 21 _ hP hS dX9_pardons_21 rfl rfl ⟨(by unfold zPardons; (repeat' split) <;> first | (exfalso; omega) | rfl), _, rfl⟩
