abbrev rmX9_round : Room := { frames := 31, cells := 0, slots := 0, locals := 724 }
set_option maxHeartbeats 4000000 in
set_option maxRecDepth 100000 in
theorem k_X9_round (l : Launch) (D : va_G) (cI cC cB cS : ClassId) (w0 w1 w2 w4 w7 w8 w9 w10 w12 : Nat) (p0 p1 p2 p3 : Nat) (P : PL) (s0 s1 s2 s3 : Nat) (S : ST) (u0 u1 u2 u3 : Nat) (U : ST) (b0 b1 b2 : Nat) (B : RO) (x1 : Int32) (z1 : Int) (hz1 : x1.toInt = z1) (x2 : Int32) (z2 : Int) (hz2 : x2.toInt = z2) (x3 : Int32) (z3 : Int) (hz3 : x3.toInt = z3) (hpk : plOK P) (hst : stOK P S) : CI l D (kT cI cC cB cS) yX9_round wsX9_round rmX9_round [.ref w0, .int (x1), .int (x2), .int (x3)] (rwW w0 w1 w2 p0 w4 s0 u0 w7 w8 w9 w10 b0 w12 ++ plW p0 p1 p2 p3 cI P ++ stW s0 s1 s2 s3 cI S ++ stW u0 u1 u2 u3 cI U ++ roW b0 b1 b2 cI B) (fun r u => r = jI (zRound P S z1 z2 z3) ∧ ∃ U9 : ST, ∃ B9 : RO, u = rwW w0 w1 w2 p0 w4 s0 u0 w7 w8 w9 w10 b0 w12 ++ plW p0 p1 p2 p3 cI P ++ stW s0 s1 s2 s3 cI S ++ stW u0 u1 u2 u3 cI U9 ++ roW b0 b1 b2 cI B9) := by
  refine ci_intro (by decide) rfl (Nat.le_of_ble_eq_true rfl) ?_
  intro p e s m args below meth c ls A QF hF hK hP hV hS hA hN hl hret
  obtain ⟨hx, hb, hml, hown, hts⟩ := id hF
  have hP : va_P D vwCl (rwW w0 w1 w2 p0 w4 s0 u0 w7 w8 w9 w10 b0 w12 ++ plW p0 p1 p2 p3 cI P ++ stW s0 s1 s2 s3 cI S ++ stW u0 u1 u2 u3 cI U ++ roW b0 b1 b2 cI B) s.heap := hP
  have hl : lv_has ls 5 [(0, .ref w0), (1, .int (x1)), (2, .int (x2)), (3, .int (x3))] := hl
  have wf26 := hts (.fieldLink RX9 26 "RemorseWall" "plan" "LRemorseWall$Plan;") (by decide +kernel)
  have wf36 := hts (.fieldLink RX9 36 "RemorseWall" "now" "LRemorseWall$Standing;") (by decide +kernel)
  have wf40 := hts (.fieldLink RX9 40 "RemorseWall" "trial" "LRemorseWall$Standing;") (by decide +kernel)
  have wf72 := hts (.fieldLink RX9 72 "RemorseWall" "rounds" "LRemorseWall$Rounds;") (by decide +kernel)
  have hiX9 : ∀ w ∈ u_ws RX9 TX9 12, w ∈ wsX9_round := by decide +kernel
  have hw := hpk.1
  obtain ⟨hp, hc1, hce, hme⟩ := id hw
  obtain ⟨hp1, hp2, hp3, hp4, hp5, hp6, hp7⟩ := id hp
  have hcl := pCells_le hp
  have hi : sHi S := hst.1
  refine lv_aload_n (pc := 0) hx hb dX9_round_0 rfl (lv_at hl 0 rfl) ?_
  refine lv_iload_n (pc := 1) hx hb dX9_round_1 rfl (lv_at hl 1 rfl) ?_
  refine ci_Vd (pc := 2) (r0 := nI (if okX (P.2.2.2.2.2.2) z1 then 1 else 0)) hF hN hK hP hV hS hA (k_X9_isMaid l D cI cC cB cS w0 w1 w2 w4 s0 u0 w7 w8 w9 w10 b0 w12 p0 p1 p2 p3 P (x1) z1 hz1 hp) (cwV 1 hts gX9_round_X9_isMaid rfl rfl rfl (by decide +kernel) ⟨Nat.le_of_ble_eq_true rfl, Nat.le_of_ble_eq_true rfl⟩) [0, 1, 2, 3, 4] rfl (by decide) 0 9 rfl rfl rfl hl.1 rfl (Nat.le_of_ble_eq_true rfl) dX9_round_2 ⟨Nat.le_refl _, Nat.le_refl _⟩ rfl (ws2 := rwW w0 w1 w2 p0 w4 s0 u0 w7 w8 w9 w10 b0 w12 ++ plW p0 p1 p2 p3 cI P ++ stW s0 s1 s2 s3 cI S ++ stW u0 u1 u2 u3 cI U ++ roW b0 b1 b2 cI B) rfl (fun H locs hP hS => ?_)
  refine rb_eq (pc := 5) (tgt := 28) hx hb dX9_round_5 (by decide) (fun c5 => ?_) (fun c5 => ?_)
  · refine lv_iconst (pc := 28) (v := jI (-1)) hx hb dX9_round_28 (by decide) ?_
    exact hret 29 _ hP hS dX9_round_29 rfl rfl ⟨(by unfold zRound; (repeat' split) <;> first | (exfalso; omega) | rfl), _, _, rfl⟩
  · refine lv_iload_n (pc := 8) hx hb dX9_round_8 rfl (lv_at hl 2 rfl) ?_
    refine lv_iconst (pc := 9) (v := nI 1) hx hb dX9_round_9 (by decide) ?_
    refine rc_lt (pc := 10) (tgt := 28) hx hb hz2 (tI_nI (by omega)) dX9_round_10 (by decide) (fun c10 => ?_) (fun c10 => ?_)
    · refine lv_iconst (pc := 28) (v := jI (-1)) hx hb dX9_round_28 (by decide) ?_
      exact hret 29 _ hP hS dX9_round_29 rfl rfl ⟨(by unfold zRound; (repeat' split) <;> first | (exfalso; omega) | rfl), _, _, rfl⟩
    · refine lv_iload_n (pc := 13) hx hb dX9_round_13 rfl (lv_at hl 2 rfl) ?_
      refine lv_iconst (pc := 14) (v := nI 5) hx hb dX9_round_14 (by decide) ?_
      refine rc_gt (pc := 15) (tgt := 28) hx hb hz2 (tI_nI (by omega)) dX9_round_15 (by decide) (fun c15 => ?_) (fun c15 => ?_)
      · refine lv_iconst (pc := 28) (v := jI (-1)) hx hb dX9_round_28 (by decide) ?_
        exact hret 29 _ hP hS dX9_round_29 rfl rfl ⟨(by unfold zRound; (repeat' split) <;> first | (exfalso; omega) | rfl), _, _, rfl⟩
      · refine lv_iload_n (pc := 18) hx hb dX9_round_18 rfl (lv_at hl 3 rfl) ?_
        refine lv_iconst (pc := 19) (v := jI (-1)) hx hb dX9_round_19 (by decide) ?_
        refine rc_lt (pc := 20) (tgt := 28) hx hb hz3 (jI_to (by omega)) dX9_round_20 (by decide) (fun c20 => ?_) (fun c20 => ?_)
        · refine lv_iconst (pc := 28) (v := jI (-1)) hx hb dX9_round_28 (by decide) ?_
          exact hret 29 _ hP hS dX9_round_29 rfl rfl ⟨(by unfold zRound; (repeat' split) <;> first | (exfalso; omega) | rfl), _, _, rfl⟩
        · refine lv_iload_n (pc := 23) hx hb dX9_round_23 rfl (lv_at hl 3 rfl) ?_
          refine lv_iconst (pc := 24) (v := nI 5) hx hb dX9_round_24 (by decide) ?_
          refine rc_lt (pc := 25) (tgt := 30) hx hb hz3 (tI_nI (by omega)) dX9_round_25 (by decide) (fun c25 => ?_) (fun c25 => ?_)
          · obtain ⟨a, rfl⟩ : ∃ k : Nat, z1 = k := ⟨z1.toNat, by omega⟩
            obtain rfl : x1 = nI a := eq_nI hz1
            obtain ⟨n, rfl⟩ : ∃ k : Nat, z2 = k := ⟨z2.toNat, by omega⟩
            obtain rfl : x2 = nI n := eq_nI hz2
            have hla := hst.2.1 a
            have hpa9 := hst.2.2.1 a
            have hall := tryS_all (P := P) (mm := a) (n := n) B ((fun _ => 0), (fun _ => 0), -4) S
            refine lv_iload_n (pc := 30) hx hb dX9_round_30 rfl (lv_at hl 2 rfl) ?_
            refine lv_aload_n (pc := 31) hx hb dX9_round_31 rfl (lv_at hl 0 rfl) ?_
            refine va_get (pc := 32) (D := D) (ci := 9) (v := .ref s0) (C := RX9) (T := TX9) (N := 12) hx hb hts hiX9 hown hK hP 0 rfl rfl 4 (by decide) wf36 (fun _ h9 => h9) rfl dX9_round_32 ?_
            refine lv_iload_n (pc := 35) hx hb dX9_round_35 rfl (lv_at hl 1 rfl) ?_
            refine ci_Vd (pc := 36) (r0 := nI (S.2.1 a)) hF hN hK hP hV hS hA (k_X8_leftTo l D cI cC cB cS s0 s1 s2 s3 S a (by omega)) (cwV 1 hts gX9_round_X8_leftTo rfl rfl rfl (by decide +kernel) ⟨Nat.le_of_ble_eq_true rfl, Nat.le_of_ble_eq_true rfl⟩) [5, 6, 7, 8] rfl (by decide) 0 8 rfl rfl rfl hl.1 rfl (Nat.le_of_ble_eq_true rfl) dX9_round_36 ⟨Nat.le_refl _, Nat.le_refl _⟩ rfl (ws2 := rwW w0 w1 w2 p0 w4 s0 u0 w7 w8 w9 w10 b0 w12 ++ plW p0 p1 p2 p3 cI P ++ stW s0 s1 s2 s3 cI S ++ stW u0 u1 u2 u3 cI U ++ roW b0 b1 b2 cI B) rfl (fun H locs hP hS => ?_)
            refine rc_le (pc := 39) (tgt := 45) hx hb (tI_nI (by omega)) (tI_nI (by omega)) dX9_round_39 (by decide) (fun c39 => ?_) (fun c39 => ?_)
            · refine lv_iload_n (pc := 45) hx hb dX9_round_45 rfl (lv_at hl 3 rfl) ?_
              refine lv_iload_n (pc := 46) hx hb dX9_round_46 rfl (lv_at hl 2 rfl) ?_
              refine rc_lt (pc := 47) (tgt := 53) hx hb hz3 (tI_nI (by omega)) dX9_round_47 (by decide) (fun c47 => ?_) (fun c47 => ?_)
              · refine lv_aload_n (pc := 53) hx hb dX9_round_53 rfl (lv_at hl 0 rfl) ?_
                refine va_get (pc := 54) (D := D) (ci := 9) (v := .ref u0) (C := RX9) (T := TX9) (N := 12) hx hb hts hiX9 hown hK hP 0 rfl rfl 5 (by decide) wf40 (fun _ h9 => h9) rfl dX9_round_54 ?_
                refine lv_aload_n (pc := 57) hx hb dX9_round_57 rfl (lv_at hl 0 rfl) ?_
                refine va_get (pc := 58) (D := D) (ci := 9) (v := .ref s0) (C := RX9) (T := TX9) (N := 12) hx hb hts hiX9 hown hK hP 0 rfl rfl 4 (by decide) wf36 (fun _ h9 => h9) rfl dX9_round_58 ?_
                refine cv_Vd (pc := 61) hF hN hK hP hV hS hA (k_X8_copyFrom l D cI cC cB cS u0 u1 u2 u3 U s0 s1 s2 s3 S) (cwV 1 hts gX9_round_X8_copyFrom rfl rfl rfl (by decide +kernel) ⟨Nat.le_of_ble_eq_true rfl, Nat.le_of_ble_eq_true rfl⟩) [9, 10, 11, 12, 5, 6, 7, 8] rfl (by decide) 0 8 rfl rfl rfl hl.1 rfl (Nat.le_of_ble_eq_true rfl) dX9_round_61 ⟨Nat.le_refl _, Nat.le_refl _⟩ rfl (ws2 := rwW w0 w1 w2 p0 w4 s0 u0 w7 w8 w9 w10 b0 w12 ++ plW p0 p1 p2 p3 cI P ++ stW s0 s1 s2 s3 cI S ++ stW u0 u1 u2 u3 cI S ++ roW b0 b1 b2 cI B) rfl (fun H locs hP hS => ?_)
                refine lv_aload_n (pc := 64) hx hb dX9_round_64 rfl (lv_at hl 0 rfl) ?_
                refine va_get (pc := 65) (D := D) (ci := 9) (v := .ref b0) (C := RX9) (T := TX9) (N := 12) hx hb hts hiX9 hown hK hP 0 rfl rfl 10 (by decide) wf72 (fun _ h9 => h9) rfl dX9_round_65 ?_
                refine lv_aload_n (pc := 68) hx hb dX9_round_68 rfl (lv_at hl 0 rfl) ?_
                refine va_get (pc := 69) (D := D) (ci := 9) (v := .ref p0) (C := RX9) (T := TX9) (N := 12) hx hb hts hiX9 hown hK hP 0 rfl rfl 2 (by decide) wf26 (fun _ h9 => h9) rfl dX9_round_69 ?_
                refine lv_aload_n (pc := 72) hx hb dX9_round_72 rfl (lv_at hl 0 rfl) ?_
                refine va_get (pc := 73) (D := D) (ci := 9) (v := .ref u0) (C := RX9) (T := TX9) (N := 12) hx hb hts hiX9 hown hK hP 0 rfl rfl 5 (by decide) wf40 (fun _ h9 => h9) rfl dX9_round_73 ?_
                refine lv_iload_n (pc := 76) hx hb dX9_round_76 rfl (lv_at hl 1 rfl) ?_
                refine lv_iload_n (pc := 77) hx hb dX9_round_77 rfl (lv_at hl 2 rfl) ?_
                refine ci_Vd (pc := 78) (r0 := jI ((tryS P a n 0 (B.1, B.2.1, -4) S).2.2)) hF hN hK hP hV hS hA (k_X4_least l D cI cC cB cS b0 b1 b2 B p0 p1 p2 p3 P u0 u1 u2 u3 S a n hp hi (by omega) ⟨(by omega), (by omega)⟩ (by omega) (by omega)) (cwV 4 hts gX9_round_X4_least rfl rfl rfl (by decide +kernel) ⟨Nat.le_of_ble_eq_true rfl, Nat.le_of_ble_eq_true rfl⟩) [13, 14, 15, 1, 2, 3, 4, 9, 10, 11, 12] rfl (by decide) 0 4 rfl rfl rfl hl.1 rfl (Nat.le_of_ble_eq_true rfl) dX9_round_78 ⟨Nat.le_refl _, Nat.le_refl _⟩ rfl (ws2 := rwW w0 w1 w2 p0 w4 s0 u0 w7 w8 w9 w10 b0 w12 ++ plW p0 p1 p2 p3 cI P ++ stW s0 s1 s2 s3 cI S ++ stW u0 u1 u2 u3 cI S ++ roW b0 b1 b2 cI (tryS P a n 0 (B.1, B.2.1, -4) S)) rfl (fun H locs hP hS => ?_)
                refine lv_istore (pc := 81) (lv' := [(4, .int (jI ((tryS P a n 0 (B.1, B.2.1, -4) S).2.2))), (0, .ref w0), (1, .int (nI a)), (2, .int (nI n)), (3, .int (x3))]) hx hb dX9_round_81 hl (by decide) rfl (fun ls hl => ?_)
                refine lv_iload_n (pc := 83) hx hb dX9_round_83 rfl (lv_at hl 4 rfl) ?_
                refine lv_iconst (pc := 84) (v := jI (-1)) hx hb dX9_round_84 (by decide) ?_
                refine rc_ne (pc := 85) (tgt := 93) hx hb hz3 (jI_to (by omega)) dX9_round_85 (by decide) (fun c85 => ?_) (fun c85 => ?_)
                · obtain ⟨j, rfl⟩ : ∃ k : Nat, z3 = k := ⟨z3.toNat, by omega⟩
                  obtain rfl : x3 = nI j := eq_nI hz3
                  refine lv_aload_n (pc := 93) hx hb dX9_round_93 rfl (lv_at hl 1 rfl) ?_
                  refine va_get (pc := 94) (D := D) (ci := 9) (v := .ref b0) (C := RX9) (T := TX9) (N := 12) hx hb hts hiX9 hown hK hP 0 rfl rfl 10 (by decide) wf72 (fun _ h9 => h9) rfl dX9_round_94 ?_
                  refine lv_iload_n (pc := 97) hx hb dX9_round_97 rfl (lv_at hl 4 rfl) ?_
                  refine ci_Vd (pc := 98) (r0 := nI ((tryS P a n 0 (B.1, B.2.1, -4) S).2.1 j)) hF hN hK hP hV hS hA (k_X4_cellOfStroke l D cI cC cB cS b0 b1 b2 (tryS P a n 0 (B.1, B.2.1, -4) S) j (by omega)) (cwV 1 hts gX9_round_X4_cellOfStroke rfl rfl rfl (by decide +kernel) ⟨Nat.le_of_ble_eq_true rfl, Nat.le_of_ble_eq_true rfl⟩) [13, 14, 15] rfl (by decide) 0 4 rfl rfl rfl hl.1 rfl (Nat.le_of_ble_eq_true rfl) dX9_round_98 ⟨Nat.le_refl _, Nat.le_refl _⟩ rfl (ws2 := rwW w0 w1 w2 p0 w4 s0 u0 w7 w8 w9 w10 b0 w12 ++ plW p0 p1 p2 p3 cI P ++ stW s0 s1 s2 s3 cI S ++ stW u0 u1 u2 u3 cI S ++ roW b0 b1 b2 cI (tryS P a n 0 (B.1, B.2.1, -4) S)) rfl (fun H locs hP hS => ?_)
                  exact hret 101 _ hP hS dX9_round_101 rfl rfl ⟨(by unfold zRound; rw [if_pos (by omega)]; simp only [Int.toNat_natCast]; rw [if_neg (by omega), if_neg (by omega), if_neg (by omega), ← hall.2 j (by omega)]; exact jI_nat _), _, _, rfl⟩
                · refine lv_iload (pc := 88) hx hb dX9_round_88 (lv_at hl 0 rfl) ?_
                  refine lv_goto (pc := 90) (tgt := 101) hx hb dX9_round_90 (by decide) ?_
                  exact hret 101 _ hP hS dX9_round_101 rfl rfl ⟨(by unfold zRound; rw [if_pos (by omega)]; simp only [Int.toNat_natCast]; rw [if_neg (by omega), if_neg (by omega), if_pos (by omega)]; exact congrArg jI hall.1), _, _, rfl⟩
              · refine lv_bipush (pc := 50) (v := jI (-4)) hx hb dX9_round_50 (by decide) ?_
                exact hret 52 _ hP hS dX9_round_52 rfl rfl ⟨(by unfold zRound; rw [if_pos (by omega)]; simp only [Int.toNat_natCast]; rw [if_neg (by omega), if_pos (by omega)]), _, _, rfl⟩
            · refine lv_bipush (pc := 42) (v := jI (-2)) hx hb dX9_round_42 (by decide) ?_
              exact hret 44 _ hP hS dX9_round_44 rfl rfl ⟨(by unfold zRound; rw [if_pos (by omega)]; simp only [Int.toNat_natCast]; rw [if_pos (by omega)]), _, _, rfl⟩
          · refine lv_iconst (pc := 28) (v := jI (-1)) hx hb dX9_round_28 (by decide) ?_
            exact hret 29 _ hP hS dX9_round_29 rfl rfl ⟨(by unfold zRound; (repeat' split) <;> first | (exfalso; omega) | rfl), _, _, rfl⟩
