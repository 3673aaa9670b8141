abbrev rmX9_smooth : Room := { frames := 6, cells := 0, slots := 0, locals := 154 }
set_option maxHeartbeats 4000000 in
set_option maxRecDepth 100000 in
theorem k_X9_smooth (l : Launch) (D : va_G) (cI cC cB cS : ClassId) (w0 w1 w2 w4 w6 w7 w8 w9 w11 w12 : Nat) (p0 p1 p2 p3 : Nat) (P : PL) (s0 s1 s2 s3 : Nat) (S : ST) (m0 m1 m2 : Nat) (M : SM) (x1 : Int32) (z1 : Int) (hz1 : x1.toInt = z1) (x2 : Int32) (z2 : Int) (hz2 : x2.toInt = z2) (x3 : Int32) (z3 : Int) (hz3 : x3.toInt = z3) (hpk : plOK P) (hst : stOK P S) (hl9 : ∀ k, S.2.1 k ≤ 9) (ht : ∀ i, -4 ≤ M.1 i ∧ M.1 i ≤ 100) : CI l D (kT cI cC cB cS) yX9_smooth wsX9_smooth rmX9_smooth [.ref w0, .int (x1), .int (x2), .int (x3)] (rwW w0 w1 w2 p0 w4 s0 w6 w7 w8 w9 m0 w11 w12 ++ plW p0 p1 p2 p3 cI P ++ stW s0 s1 s2 s3 cI S ++ smW m0 m1 m2 cI M) (fun r u => r = jI (zSmooth P S z1 z2 z3) ∧ ∃ M9 : SM, u = rwW w0 w1 w2 p0 w4 s0 w6 w7 w8 w9 m0 w11 w12 ++ plW p0 p1 p2 p3 cI P ++ stW s0 s1 s2 s3 cI S ++ smW m0 m1 m2 cI M9 ∧ ∀ i, -4 ≤ M9.1 i ∧ M9.1 i ≤ 100) := by
  refine ci_intro (by decide) rfl (Nat.le_of_ble_eq_true rfl) ?_
  intro p e s m args below meth c ls A QF hF hK hP hV hS hA hN hl hret
  obtain ⟨hx, hb, hml, hown, hts⟩ := id hF
  have hP : va_P D vwCl (rwW w0 w1 w2 p0 w4 s0 w6 w7 w8 w9 m0 w11 w12 ++ plW p0 p1 p2 p3 cI P ++ stW s0 s1 s2 s3 cI S ++ smW m0 m1 m2 cI M) s.heap := hP
  have hl : lv_has ls 5 [(0, .ref w0), (1, .int (x1)), (2, .int (x2)), (3, .int (x3))] := hl
  have wf26 := hts (.fieldLink RX9 26 "RemorseWall" "plan" "LRemorseWall$Plan;") (by decide +kernel)
  have wf36 := hts (.fieldLink RX9 36 "RemorseWall" "now" "LRemorseWall$Standing;") (by decide +kernel)
  have wf65 := hts (.fieldLink RX9 65 "RemorseWall" "smoothing" "LRemorseWall$Smoothing;") (by decide +kernel)
  have hiX9 : ∀ w ∈ u_ws RX9 TX9 12, w ∈ wsX9_smooth := by decide +kernel
  have hw := hpk.1
  obtain ⟨hp, hc1, hce, hme⟩ := id hw
  obtain ⟨hp1, hp2, hp3, hp4, hp5, hp6, hp7⟩ := id hp
  have hcl := pCells_le hp
  have hi : sHi S := hst.1
  refine lv_aload_n (pc := 0) hx hb dX9_smooth_0 rfl (lv_at hl 0 rfl) ?_
  refine lv_iload_n (pc := 1) hx hb dX9_smooth_1 rfl (lv_at hl 1 rfl) ?_
  refine ci_Vd (pc := 2) (r0 := nI (if okX (P.2.2.2.2.2.2) z1 then 1 else 0)) hF hN hK hP hV hS hA (k_X9_isMaid l D cI cC cB cS w0 w1 w2 w4 s0 w6 w7 w8 w9 m0 w11 w12 p0 p1 p2 p3 P (x1) z1 hz1 hp) (cwV 1 hts gX9_smooth_X9_isMaid rfl rfl rfl (by decide +kernel) ⟨Nat.le_of_ble_eq_true rfl, Nat.le_of_ble_eq_true rfl⟩) [0, 1, 2, 3, 4] rfl (by decide) 0 9 rfl rfl rfl hl.1 rfl (Nat.le_of_ble_eq_true rfl) dX9_smooth_2 ⟨Nat.le_refl _, Nat.le_refl _⟩ rfl (ws2 := rwW w0 w1 w2 p0 w4 s0 w6 w7 w8 w9 m0 w11 w12 ++ plW p0 p1 p2 p3 cI P ++ stW s0 s1 s2 s3 cI S ++ smW m0 m1 m2 cI M) rfl (fun H locs hP hS => ?_)
  refine rb_eq (pc := 5) (tgt := 21) hx hb dX9_smooth_5 (by decide) (fun c5 => ?_) (fun c5 => ?_)
  · refine lv_iconst (pc := 21) (v := jI (-1)) hx hb dX9_smooth_21 (by decide) ?_
    exact hret 22 _ hP hS dX9_smooth_22 rfl rfl ⟨(by unfold zSmooth; (repeat' split) <;> first | (exfalso; omega) | rfl), M, rfl, ht⟩
  · refine lv_aload_n (pc := 8) hx hb dX9_smooth_8 rfl (lv_at hl 0 rfl) ?_
    refine lv_iload_n (pc := 9) hx hb dX9_smooth_9 rfl (lv_at hl 2 rfl) ?_
    refine ci_Vd (pc := 10) (r0 := nI (if okX (pCells P) z2 then 1 else 0)) hF hN hK hP hV hS hA (k_X9_isCell l D cI cC cB cS w0 w1 w2 w4 s0 w6 w7 w8 w9 m0 w11 w12 p0 p1 p2 p3 P (x2) z2 hz2 hp) (cwV 1 hts gX9_smooth_X9_isCell rfl rfl rfl (by decide +kernel) ⟨Nat.le_of_ble_eq_true rfl, Nat.le_of_ble_eq_true rfl⟩) [0, 1, 2, 3, 4] rfl (by decide) 0 9 rfl rfl rfl hl.1 rfl (Nat.le_of_ble_eq_true rfl) dX9_smooth_10 ⟨Nat.le_refl _, Nat.le_refl _⟩ rfl (ws2 := rwW w0 w1 w2 p0 w4 s0 w6 w7 w8 w9 m0 w11 w12 ++ plW p0 p1 p2 p3 cI P ++ stW s0 s1 s2 s3 cI S ++ smW m0 m1 m2 cI M) rfl (fun H locs hP hS => ?_)
    refine rb_eq (pc := 13) (tgt := 21) hx hb dX9_smooth_13 (by decide) (fun c13 => ?_) (fun c13 => ?_)
    · refine lv_iconst (pc := 21) (v := jI (-1)) hx hb dX9_smooth_21 (by decide) ?_
      exact hret 22 _ hP hS dX9_smooth_22 rfl rfl ⟨(by unfold zSmooth; (repeat' split) <;> first | (exfalso; omega) | rfl), M, rfl, ht⟩
    · refine lv_iload_n (pc := 16) hx hb dX9_smooth_16 rfl (lv_at hl 3 rfl) ?_
      refine lv_iconst (pc := 17) (v := jI (-1)) hx hb dX9_smooth_17 (by decide) ?_
      refine rc_ge (pc := 18) (tgt := 23) hx hb hz3 (jI_to (by omega)) dX9_smooth_18 (by decide) (fun c18 => ?_) (fun c18 => ?_)
      · obtain ⟨a, rfl⟩ : ∃ k : Nat, z1 = k := ⟨z1.toNat, by omega⟩
        obtain rfl : x1 = nI a := eq_nI hz1
        obtain ⟨x, rfl⟩ : ∃ k : Nat, z2 = k := ⟨z2.toNat, by omega⟩
        obtain rfl : x2 = nI x := eq_nI hz2
        have hla := hl9 a
        have hpa9 := hst.2.2.1 a
        refine lv_aload_n (pc := 23) hx hb dX9_smooth_23 rfl (lv_at hl 0 rfl) ?_
        refine va_get (pc := 24) (D := D) (ci := 9) (v := .ref m0) (C := RX9) (T := TX9) (N := 12) hx hb hts hiX9 hown hK hP 0 rfl rfl 9 (by decide) wf65 (fun _ h9 => h9) rfl dX9_smooth_24 ?_
        refine lv_aload_n (pc := 27) hx hb dX9_smooth_27 rfl (lv_at hl 0 rfl) ?_
        refine va_get (pc := 28) (D := D) (ci := 9) (v := .ref p0) (C := RX9) (T := TX9) (N := 12) hx hb hts hiX9 hown hK hP 0 rfl rfl 2 (by decide) wf26 (fun _ h9 => h9) rfl dX9_smooth_28 ?_
        refine lv_aload_n (pc := 31) hx hb dX9_smooth_31 rfl (lv_at hl 0 rfl) ?_
        refine va_get (pc := 32) (D := D) (ci := 9) (v := .ref s0) (C := RX9) (T := TX9) (N := 12) hx hb hts hiX9 hown hK hP 0 rfl rfl 4 (by decide) wf36 (fun _ h9 => h9) rfl dX9_smooth_32 ?_
        refine lv_iload_n (pc := 35) hx hb dX9_smooth_35 rfl (lv_at hl 1 rfl) ?_
        refine lv_iload_n (pc := 36) hx hb dX9_smooth_36 rfl (lv_at hl 2 rfl) ?_
        refine ci_V (pc := 37) hF hN hK hP hV hS hA (k_X7_fewest l D cI cC cB cS m0 m1 m2 M p0 p1 p2 p3 P s0 s1 s2 s3 S a x hp hi (by omega) (by omega) (by omega) (by omega) ht) (cwV 4 hts gX9_smooth_X7_fewest rfl rfl rfl (by decide +kernel) ⟨Nat.le_of_ble_eq_true rfl, Nat.le_of_ble_eq_true rfl⟩) [9, 10, 11, 1, 2, 3, 4, 5, 6, 7, 8] rfl (by decide) 0 7 rfl rfl rfl hl.1 rfl (Nat.le_of_ble_eq_true rfl) dX9_smooth_37 ⟨Nat.le_refl _, Nat.le_refl _⟩ rfl (fun r u H locs hq hu hP hS => ?_)
        obtain ⟨rfl, f2, g2, rfl, hf2, hg2⟩ := hq
        have hP : va_P D vwCl (rwW w0 w1 w2 p0 w4 s0 w6 w7 w8 w9 m0 w11 w12 ++ plW p0 p1 p2 p3 cI P ++ stW s0 s1 s2 s3 cI S ++ smW m0 m1 m2 cI (f2, g2)) H := hP
        have hfr9 := fw_rng P a x (S.2.1 a) (S.2.2.1 a) (sAt S (x : Int))
        refine lv_istore (pc := 40) (lv' := [(4, .int (jI (fwZ P a x (S.2.1 a) (S.2.2.1 a) (sAt S (x : Int))))), (0, .ref w0), (1, .int (nI a)), (2, .int (nI x)), (3, .int (x3))]) hx hb dX9_smooth_40 hl (by decide) rfl (fun ls hl => ?_)
        refine lv_iload (pc := 42) hx hb dX9_smooth_42 (lv_at hl 0 rfl) ?_
        refine lv_bipush (pc := 44) (v := jI (-4)) hx hb dX9_smooth_44 (by decide) ?_
        refine rc_eq (pc := 46) (tgt := 54) hx hb (jI_to (by omega)) (jI_to (by omega)) dX9_smooth_46 (by decide) (fun c46 => ?_) (fun c46 => ?_)
        · refine lv_iload (pc := 54) hx hb dX9_smooth_54 (lv_at hl 0 rfl) ?_
          exact hret 56 _ hP hS dX9_smooth_56 rfl rfl ⟨(by unfold zSmooth; rw [if_pos (by omega)]; simp only [Int.toNat_natCast]; rw [if_pos (by omega)]), (f2, g2), rfl, hf2⟩
        · refine lv_iload_n (pc := 49) hx hb dX9_smooth_49 rfl (lv_at hl 4 rfl) ?_
          refine lv_iconst (pc := 50) (v := jI (-1)) hx hb dX9_smooth_50 (by decide) ?_
          refine rc_ne (pc := 51) (tgt := 57) hx hb hz3 (jI_to (by omega)) dX9_smooth_51 (by decide) (fun c51 => ?_) (fun c51 => ?_)
          · refine lv_iload_n (pc := 57) hx hb dX9_smooth_57 rfl (lv_at hl 4 rfl) ?_
            refine lv_iload (pc := 58) hx hb dX9_smooth_58 (lv_at hl 0 rfl) ?_
            refine rc_ge (pc := 60) (tgt := 74) hx hb hz3 (jI_to (by omega)) dX9_smooth_60 (by decide) (fun c60 => ?_) (fun c60 => ?_)
            · refine lv_bipush (pc := 74) (v := jI (-4)) hx hb dX9_smooth_74 (by decide) ?_
              exact hret 76 _ hP hS dX9_smooth_76 rfl rfl ⟨(by unfold zSmooth; rw [if_pos (by omega)]; simp only [Int.toNat_natCast]; rw [if_neg (by omega), if_neg (by omega)]), (f2, g2), rfl, hf2⟩
            · obtain ⟨j, rfl⟩ : ∃ k : Nat, z3 = k := ⟨z3.toNat, by omega⟩
              obtain rfl : x3 = nI j := eq_nI hz3
              refine lv_aload_n (pc := 63) hx hb dX9_smooth_63 rfl (lv_at hl 1 rfl) ?_
              refine va_get (pc := 64) (D := D) (ci := 9) (v := .ref m0) (C := RX9) (T := TX9) (N := 12) hx hb hts hiX9 hown hK hP 0 rfl rfl 9 (by decide) wf65 (fun _ h9 => h9) rfl dX9_smooth_64 ?_
              refine lv_iload_n (pc := 67) hx hb dX9_smooth_67 rfl (lv_at hl 4 rfl) ?_
              refine ci_Vd (pc := 68) (r0 := nI (g2 j)) hF hN hK hP hV hS hA (k_X7_cellOfStroke l D cI cC cB cS m0 m1 m2 (f2, g2) j (by omega)) (cwV 1 hts gX9_smooth_X7_cellOfStroke rfl rfl rfl (by decide +kernel) ⟨Nat.le_of_ble_eq_true rfl, Nat.le_of_ble_eq_true rfl⟩) [9, 10, 11] rfl (by decide) 0 7 rfl rfl rfl hl.1 rfl (Nat.le_of_ble_eq_true rfl) dX9_smooth_68 ⟨Nat.le_refl _, Nat.le_refl _⟩ rfl (ws2 := rwW w0 w1 w2 p0 w4 s0 w6 w7 w8 w9 m0 w11 w12 ++ plW p0 p1 p2 p3 cI P ++ stW s0 s1 s2 s3 cI S ++ smW m0 m1 m2 cI (f2, g2)) rfl (fun H locs hP hS => ?_)
              refine lv_goto (pc := 71) (tgt := 76) hx hb dX9_smooth_71 (by decide) ?_
              exact hret 76 _ hP hS dX9_smooth_76 rfl rfl ⟨(by unfold zSmooth; rw [if_pos (by omega)]; simp only [Int.toNat_natCast]; rw [if_neg (by omega), if_pos (by omega), ← hg2 (fwZ P a x (S.2.1 a) (S.2.2.1 a) (sAt S (x : Int))).toNat (by omega) j (by omega) (by omega)]; exact jI_nat _), (f2, g2), rfl, hf2⟩
          · refine lv_iload (pc := 54) hx hb dX9_smooth_54 (lv_at hl 0 rfl) ?_
            exact hret 56 _ hP hS dX9_smooth_56 rfl rfl ⟨(by unfold zSmooth; rw [if_pos (by omega)]; simp only [Int.toNat_natCast]; rw [if_pos (by omega)]), (f2, g2), rfl, hf2⟩
      · refine lv_iconst (pc := 21) (v := jI (-1)) hx hb dX9_smooth_21 (by decide) ?_
        exact hret 22 _ hP hS dX9_smooth_22 rfl rfl ⟨(by unfold zSmooth; (repeat' split) <;> first | (exfalso; omega) | rfl), M, rfl, ht⟩
