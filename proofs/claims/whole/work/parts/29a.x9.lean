abbrev rmX9_evening : Room := { frames := 6, cells := 0, slots := 0, locals := 140 }
set_option maxHeartbeats 4000000 in
set_option maxRecDepth 100000 in
theorem k_X9_evening (l : Launch) (D : va_G) (cI cC cB cS : ClassId) (w0 w1 w2 w4 w7 w8 w9 w10 w11 w12 : Nat) (p0 p1 p2 p3 : Nat) (P : PL) (s0 s1 s2 s3 : Nat) (S : ST) (u0 u1 u2 u3 : Nat) (U : ST) (x1 : Int32) (z1 : Int) (hz1 : x1.toInt = z1) (x2 : Int32) (z2 : Int) (hz2 : x2.toInt = z2) (x3 : Int32) (z3 : Int) (hz3 : x3.toInt = z3) (hpk : plOK P) (hst : stOK P S) : CI l D (kT cI cC cB cS) yX9_evening wsX9_evening rmX9_evening [.ref w0, .int (x1), .int (x2), .int (x3)] (rwW w0 w1 w2 p0 w4 s0 u0 w7 w8 w9 w10 w11 w12 ++ plW p0 p1 p2 p3 cI P ++ stW s0 s1 s2 s3 cI S ++ stW u0 u1 u2 u3 cI U) (fun r u => r = jI (zEvening P S z1 z2 z3) ∧ ∃ U9 : ST, u = rwW w0 w1 w2 p0 w4 s0 u0 w7 w8 w9 w10 w11 w12 ++ plW p0 p1 p2 p3 cI P ++ stW s0 s1 s2 s3 cI S ++ stW u0 u1 u2 u3 cI U9) := by
  refine ci_intro (by decide) rfl (Nat.le_of_ble_eq_true rfl) ?_
  intro p e s m args below meth c ls A QF hF hK hP hV hS hA hN hl hret
  obtain ⟨hx, hb, hml, hown, hts⟩ := id hF
  have hP : va_P D vwCl (rwW w0 w1 w2 p0 w4 s0 u0 w7 w8 w9 w10 w11 w12 ++ plW p0 p1 p2 p3 cI P ++ stW s0 s1 s2 s3 cI S ++ stW u0 u1 u2 u3 cI U) s.heap := hP
  have hl : lv_has ls 5 [(0, .ref w0), (1, .int (x1)), (2, .int (x2)), (3, .int (x3))] := hl
  have wf36 := hts (.fieldLink RX9 36 "RemorseWall" "now" "LRemorseWall$Standing;") (by decide +kernel)
  have wf40 := hts (.fieldLink RX9 40 "RemorseWall" "trial" "LRemorseWall$Standing;") (by decide +kernel)
  have hiX9 : ∀ w ∈ u_ws RX9 TX9 12, w ∈ wsX9_evening := by decide +kernel
  have hw := hpk.1
  obtain ⟨hp, hc1, hce, hme⟩ := id hw
  obtain ⟨hp1, hp2, hp3, hp4, hp5, hp6, hp7⟩ := id hp
  have hcl := pCells_le hp
  refine lv_iload_n (pc := 0) hx hb dX9_evening_0 rfl (lv_at hl 1 rfl) ?_
  refine r0_lt (pc := 1) (tgt := 31) hx hb hz1 dX9_evening_1 (by decide) (fun c1 => ?_) (fun c1 => ?_)
  · refine lv_iconst (pc := 31) (v := jI (-1)) hx hb dX9_evening_31 (by decide) ?_
    exact hret 32 _ hP hS dX9_evening_32 rfl rfl ⟨(by unfold zEvening; (repeat' split) <;> first | (exfalso; omega) | rfl), _, rfl⟩
  · refine lv_iload_n (pc := 4) hx hb dX9_evening_4 rfl (lv_at hl 1 rfl) ?_
    refine lv_sipush (pc := 5) (v := nI 9999) hx hb dX9_evening_5 (by decide) ?_
    refine rc_gt (pc := 8) (tgt := 31) hx hb hz1 (tI_nI (by omega)) dX9_evening_8 (by decide) (fun c8 => ?_) (fun c8 => ?_)
    · refine lv_iconst (pc := 31) (v := jI (-1)) hx hb dX9_evening_31 (by decide) ?_
      exact hret 32 _ hP hS dX9_evening_32 rfl rfl ⟨(by unfold zEvening; (repeat' split) <;> first | (exfalso; omega) | rfl), _, rfl⟩
    · refine lv_iload_n (pc := 11) hx hb dX9_evening_11 rfl (lv_at hl 2 rfl) ?_
      refine lv_iconst (pc := 12) (v := nI 1) hx hb dX9_evening_12 (by decide) ?_
      refine rc_lt (pc := 13) (tgt := 31) hx hb hz2 (tI_nI (by omega)) dX9_evening_13 (by decide) (fun c13 => ?_) (fun c13 => ?_)
      · refine lv_iconst (pc := 31) (v := jI (-1)) hx hb dX9_evening_31 (by decide) ?_
        exact hret 32 _ hP hS dX9_evening_32 rfl rfl ⟨(by unfold zEvening; (repeat' split) <;> first | (exfalso; omega) | rfl), _, rfl⟩
      · refine lv_iload_n (pc := 16) hx hb dX9_evening_16 rfl (lv_at hl 2 rfl) ?_
        refine lv_bipush (pc := 17) (v := nI 60) hx hb dX9_evening_17 (by decide) ?_
        refine rc_gt (pc := 19) (tgt := 31) hx hb hz2 (tI_nI (by omega)) dX9_evening_19 (by decide) (fun c19 => ?_) (fun c19 => ?_)
        · refine lv_iconst (pc := 31) (v := jI (-1)) hx hb dX9_evening_31 (by decide) ?_
          exact hret 32 _ hP hS dX9_evening_32 rfl rfl ⟨(by unfold zEvening; (repeat' split) <;> first | (exfalso; omega) | rfl), _, rfl⟩
        · refine lv_iload_n (pc := 22) hx hb dX9_evening_22 rfl (lv_at hl 3 rfl) ?_
          refine r0_lt (pc := 23) (tgt := 31) hx hb hz3 dX9_evening_23 (by decide) (fun c23 => ?_) (fun c23 => ?_)
          · refine lv_iconst (pc := 31) (v := jI (-1)) hx hb dX9_evening_31 (by decide) ?_
            exact hret 32 _ hP hS dX9_evening_32 rfl rfl ⟨(by unfold zEvening; (repeat' split) <;> first | (exfalso; omega) | rfl), _, rfl⟩
          · refine lv_iload_n (pc := 26) hx hb dX9_evening_26 rfl (lv_at hl 3 rfl) ?_
            refine lv_iconst (pc := 27) (v := nI 1) hx hb dX9_evening_27 (by decide) ?_
            refine rc_le (pc := 28) (tgt := 33) hx hb hz3 (tI_nI (by omega)) dX9_evening_28 (by decide) (fun c28 => ?_) (fun c28 => ?_)
            · obtain ⟨zz, rfl⟩ : ∃ k : Nat, z1 = k := ⟨z1.toNat, by omega⟩
              obtain rfl : x1 = nI zz := eq_nI hz1
              obtain ⟨n, rfl⟩ : ∃ k : Nat, z2 = k := ⟨z2.toNat, by omega⟩
              obtain rfl : x2 = nI n := eq_nI hz2
              refine lv_aload_n (pc := 33) hx hb dX9_evening_33 rfl (lv_at hl 0 rfl) ?_
              refine va_get (pc := 34) (D := D) (ci := 9) (v := .ref u0) (C := RX9) (T := TX9) (N := 12) hx hb hts hiX9 hown hK hP 0 rfl rfl 5 (by decide) wf40 (fun _ h9 => h9) rfl dX9_evening_34 ?_
              refine lv_aload_n (pc := 37) hx hb dX9_evening_37 rfl (lv_at hl 0 rfl) ?_
              refine va_get (pc := 38) (D := D) (ci := 9) (v := .ref s0) (C := RX9) (T := TX9) (N := 12) hx hb hts hiX9 hown hK hP 0 rfl rfl 4 (by decide) wf36 (fun _ h9 => h9) rfl dX9_evening_38 ?_
              refine cv_Vd (pc := 41) hF hN hK hP hV hS hA (k_X8_copyFrom l D cI cC cB cS u0 u1 u2 u3 U s0 s1 s2 s3 S) (cwV 1 hts gX9_evening_X8_copyFrom rfl rfl rfl (by decide +kernel) ⟨Nat.le_of_ble_eq_true rfl, Nat.le_of_ble_eq_true rfl⟩) [9, 10, 11, 12, 5, 6, 7, 8] rfl (by decide) 0 8 rfl rfl rfl hl.1 rfl (Nat.le_of_ble_eq_true rfl) dX9_evening_41 ⟨Nat.le_refl _, Nat.le_refl _⟩ rfl (ws2 := rwW w0 w1 w2 p0 w4 s0 u0 w7 w8 w9 w10 w11 w12 ++ plW p0 p1 p2 p3 cI P ++ stW s0 s1 s2 s3 cI S ++ stW u0 u1 u2 u3 cI S) rfl (fun H locs hP hS => ?_)
              refine lv_iconst (pc := 44) (v := nI 0) hx hb dX9_evening_44 (by decide) ?_
              refine lv_istore (pc := 45) (lv' := [(4, .int (nI 0)), (0, .ref w0), (1, .int (nI zz)), (2, .int (nI n)), (3, .int (x3))]) hx hb dX9_evening_45 hl (by decide) rfl (fun ls hl => ?_)
              have cut47 : ∀ (fuel : Nat) (k : Nat) (V : ST) (H : Heap) (locs : List Loc) (ls : Array Slot) (hkn : k ≤ n) (hV9 : V = eveS P S zz k) (hfu : n - k < fuel), va_P D vwCl (rwW w0 w1 w2 p0 w4 s0 u0 w7 w8 w9 w10 w11 w12 ++ plW p0 p1 p2 p3 cI P ++ stW s0 s1 s2 s3 cI S ++ stW u0 u1 u2 u3 cI V) H → va_S A s.heap H locs → lv_has ls 5 [(4, .int (nI k)), (3, .int (x3)), (2, .int (nI n)), (1, .int (nI zz)), (0, .ref w0)] → W p l e rmX9_evening s m args below meth c H locs 0 0 QF (F0 m 47 ls []) := by
                intro fuel
                induction fuel with
                | zero => intro k V H locs ls hkn hV9 hfu; omega
                | succ fuel ih47 =>
                  intro k V H locs ls hkn hV9 hfu hP hS hl
                  have hvo : stOK P V := hV9 ▸ eveS_ok hpk hst zz k
                  have hls9 : (∀ k, V.2.1 k < 40) ∧ ∀ k, V.2.2.1 k < pCells P := ⟨hvo.2.1, hvo.2.2.1⟩
                  have hv4 := hvo.2.2.2.1
                  have hv5 := hvo.2.2.2.2
                  refine lv_iload (pc := 47) hx hb dX9_evening_47 (lv_at hl 0 rfl) ?_
                  refine lv_iload_n (pc := 49) hx hb dX9_evening_49 rfl (lv_at hl 2 rfl) ?_
                  refine rc_ge (pc := 50) (tgt := 73) hx hb (tI_nI (by omega)) (tI_nI (by omega)) dX9_evening_50 (by decide) (fun c50 => ?_) (fun c50 => ?_)
                  · refine lv_iload_n (pc := 73) hx hb dX9_evening_73 rfl (lv_at hl 1 rfl) ?_
                    refine r0_ne (pc := 74) (tgt := 87) hx hb hz3 dX9_evening_74 (by decide) (fun c74 => ?_) (fun c74 => ?_)
                    · refine lv_aload_n (pc := 87) hx hb dX9_evening_87 rfl (lv_at hl 4 rfl) ?_
                      refine va_get (pc := 88) (D := D) (ci := 9) (v := .ref u0) (C := RX9) (T := TX9) (N := 12) hx hb hts hiX9 hown hK hP 0 rfl rfl 5 (by decide) wf40 (fun _ h9 => h9) rfl dX9_evening_88 ?_
                      refine ci_Vd (pc := 91) (r0 := nI (nCnt V.1 12 24)) hF hN hK hP hV hS hA (k_X8_hollowCells l D cI cC cB cS u0 u1 u2 u3 V hvo.1) (cwV 0 hts gX9_evening_X8_hollowCells rfl rfl rfl (by decide +kernel) ⟨Nat.le_of_ble_eq_true rfl, Nat.le_of_ble_eq_true rfl⟩) [9, 10, 11, 12] rfl (by decide) 0 8 rfl rfl rfl hl.1 rfl (Nat.le_of_ble_eq_true rfl) dX9_evening_91 ⟨Nat.le_refl _, Nat.le_refl _⟩ rfl (ws2 := rwW w0 w1 w2 p0 w4 s0 u0 w7 w8 w9 w10 w11 w12 ++ plW p0 p1 p2 p3 cI P ++ stW s0 s1 s2 s3 cI S ++ stW u0 u1 u2 u3 cI V) rfl (fun H locs hP hS => ?_)
                      exact hret 94 _ hP hS dX9_evening_94 rfl rfl ⟨(by have he : k = n := (by omega); subst he; unfold zEvening; rw [if_pos (by omega), if_neg (by omega), Int.toNat_natCast, Int.toNat_natCast, ← hV9]; exact jI_nat _), _, rfl⟩
                    · refine lv_aload_n (pc := 77) hx hb dX9_evening_77 rfl (lv_at hl 4 rfl) ?_
                      refine va_get (pc := 78) (D := D) (ci := 9) (v := .ref u0) (C := RX9) (T := TX9) (N := 12) hx hb hts hiX9 hown hK hP 0 rfl rfl 5 (by decide) wf40 (fun _ h9 => h9) rfl dX9_evening_78 ?_
                      refine ci_Vd (pc := 81) (r0 := nI (nSum V.1 24)) hF hN hK hP hV hS hA (k_X8_sum l D cI cC cB cS u0 u1 u2 u3 V hvo.1) (cwV 0 hts gX9_evening_X8_sum rfl rfl rfl (by decide +kernel) ⟨Nat.le_of_ble_eq_true rfl, Nat.le_of_ble_eq_true rfl⟩) [9, 10, 11, 12] rfl (by decide) 0 8 rfl rfl rfl hl.1 rfl (Nat.le_of_ble_eq_true rfl) dX9_evening_81 ⟨Nat.le_refl _, Nat.le_refl _⟩ rfl (ws2 := rwW w0 w1 w2 p0 w4 s0 u0 w7 w8 w9 w10 w11 w12 ++ plW p0 p1 p2 p3 cI P ++ stW s0 s1 s2 s3 cI S ++ stW u0 u1 u2 u3 cI V) rfl (fun H locs hP hS => ?_)
                      refine lv_goto (pc := 84) (tgt := 94) hx hb dX9_evening_84 (by decide) ?_
                      exact hret 94 _ hP hS dX9_evening_94 rfl rfl ⟨(by have he : k = n := (by omega); subst he; unfold zEvening; rw [if_pos (by omega), if_pos (by omega), Int.toNat_natCast, Int.toNat_natCast, ← hV9]; exact jI_nat _), _, rfl⟩
                  · refine lv_aload_n (pc := 53) hx hb dX9_evening_53 rfl (lv_at hl 4 rfl) ?_
                    refine lv_aload_n (pc := 54) hx hb dX9_evening_54 rfl (lv_at hl 4 rfl) ?_
                    refine va_get (pc := 55) (D := D) (ci := 9) (v := .ref u0) (C := RX9) (T := TX9) (N := 12) hx hb hts hiX9 hown hK hP 0 rfl rfl 5 (by decide) wf40 (fun _ h9 => h9) rfl dX9_evening_55 ?_
                    refine lv_iload_n (pc := 58) hx hb dX9_evening_58 rfl (lv_at hl 3 rfl) ?_
                    refine lv_iload (pc := 59) hx hb dX9_evening_59 (lv_at hl 0 rfl) ?_
                    refine ci_Sd (pc := 61) hF hN hK hP hV hS hA (k_X9_drawOf l D cI cC cB cS zz k (by omega) (by omega)) (va_cwS 2 hts gX9_evening_X9_drawOf rfl rfl rfl (by decide +kernel) ⟨Nat.le_of_ble_eq_true rfl, Nat.le_of_ble_eq_true rfl⟩) [] rfl (by decide) rfl hl.1 rfl (Nat.le_of_ble_eq_true rfl) dX9_evening_61 ⟨Nat.le_refl _, Nat.le_refl _⟩ rfl (ws2 := rwW w0 w1 w2 p0 w4 s0 u0 w7 w8 w9 w10 w11 w12 ++ plW p0 p1 p2 p3 cI P ++ stW s0 s1 s2 s3 cI S ++ stW u0 u1 u2 u3 cI V) rfl (fun H locs hP hS => ?_)
                    have fq4 := drawN_lt zz k
                    refine cv_Vd (pc := 64) hF hN hK hP hV hS hA (k_X9_goOnByDraw l D cI cC cB cS w0 w1 w2 w4 s0 u0 w7 w8 w9 w10 w11 w12 p0 p1 p2 p3 P u0 u1 u2 u3 V (drawN zz k) hw hvo.1 hls9 (by omega) (by omega) (by omega)) (cwV 2 hts gX9_evening_X9_goOnByDraw rfl rfl rfl (by decide +kernel) ⟨Nat.le_of_ble_eq_true rfl, Nat.le_of_ble_eq_true rfl⟩) [0, 1, 2, 3, 4, 9, 10, 11, 12] rfl (by decide) 0 9 rfl rfl rfl hl.1 rfl (Nat.le_of_ble_eq_true rfl) dX9_evening_64 ⟨Nat.le_refl _, Nat.le_refl _⟩ rfl (ws2 := rwW w0 w1 w2 p0 w4 s0 u0 w7 w8 w9 w10 w11 w12 ++ plW p0 p1 p2 p3 cI P ++ stW s0 s1 s2 s3 cI S ++ stW u0 u1 u2 u3 cI (drawS P V (drawN zz k))) rfl (fun H locs hP hS => ?_)
                    refine lv_iinc (pc := 67) (v := nI (k + 1)) (lv' := [(4, .int (nI (k + 1))), (3, .int (x3)), (2, .int (nI n)), (1, .int (nI zz)), (0, .ref w0)]) hx hb dX9_evening_67 hl (k := 0) rfl (by rw [← nI_add]; rfl) (by decide) rfl (fun ls hl => ?_)
                    refine lv_goto (pc := 70) (tgt := 47) hx hb dX9_evening_70 (by decide) ?_
                    exact ih47 (k + 1) (drawS P V (drawN zz k)) _ _ _ (by omega) (by rw [hV9]; rfl) (by omega) hP hS (lv_sub hl [0, 1, 2, 3, 4] rfl)
              exact cut47 _ 0 S _ _ _ (Nat.zero_le _) rfl (Nat.lt_succ_self _) hP hS (lv_sub hl [0, 4, 3, 2, 1] rfl)
            · refine lv_iconst (pc := 31) (v := jI (-1)) hx hb dX9_evening_31 (by decide) ?_
              exact hret 32 _ hP hS dX9_evening_32 rfl rfl ⟨(by unfold zEvening; (repeat' split) <;> first | (exfalso; omega) | rfl), _, rfl⟩
