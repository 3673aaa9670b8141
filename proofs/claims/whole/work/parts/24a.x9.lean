abbrev rmX9_see : Room := { frames := 2, cells := 0, slots := 0, locals := 41 }
set_option maxHeartbeats 4000000 in
set_option maxRecDepth 100000 in
theorem k_X9_see (l : Launch) (D : va_G) (cI cC cB cS : ClassId) (w0 w1 w2 w4 w5 w6 w7 w8 w10 w11 w12 : Nat) (p0 p1 p2 p3 : Nat) (P : PL) (g0 g1 g2 : Nat) (G : SG) (x1 : Int32) (z1 : Int) (hz1 : x1.toInt = z1) (x2 : Int32) (z2 : Int) (hz2 : x2.toInt = z2) (hp : pOK P) (hg : G.2.2 ≤ 8) : CI l D (kT cI cC cB cS) yX9_see wsX9_see rmX9_see [.ref w0, .int (x1), .int (x2)] (rwW w0 w1 w2 p0 w4 w5 w6 w7 w8 g0 w10 w11 w12 ++ plW p0 p1 p2 p3 cI P ++ sgW g0 g1 g2 cI G) (fun r u => r = jI (zSee P G z1 z2) ∧ u = rwW w0 w1 w2 p0 w4 w5 w6 w7 w8 g0 w10 w11 w12 ++ plW p0 p1 p2 p3 cI P ++ sgW g0 g1 g2 cI (gSee P G z1 z2)) := by
  refine ci_intro (by decide) rfl (Nat.le_of_ble_eq_true rfl) ?_
  intro p e s m args below meth c ls A QF hF hK hP hV hS hA hN hl hret
  obtain ⟨hx, hb, hml, hown, hts⟩ := id hF
  have hP : va_P D vwCl (rwW w0 w1 w2 p0 w4 w5 w6 w7 w8 g0 w10 w11 w12 ++ plW p0 p1 p2 p3 cI P ++ sgW g0 g1 g2 cI G) s.heap := hP
  have hl : lv_has ls 3 [(0, .ref w0), (1, .int (x1)), (2, .int (x2))] := hl
  have wf58 := hts (.fieldLink RX9 58 "RemorseWall" "seen" "LRemorseWall$Sightings;") (by decide +kernel)
  have hiX9 : ∀ w ∈ u_ws RX9 TX9 12, w ∈ wsX9_see := by decide +kernel
  have hcl := pCells_le hp
  refine lv_aload_n (pc := 0) hx hb dX9_see_0 rfl (lv_at hl 0 rfl) ?_
  refine lv_iload_n (pc := 1) hx hb dX9_see_1 rfl (lv_at hl 1 rfl) ?_
  refine ci_Vd (pc := 2) (r0 := nI (if okX (pCells P) z1 then 1 else 0)) hF hN hK hP hV hS hA (k_X9_isCell l D cI cC cB cS w0 w1 w2 w4 w5 w6 w7 w8 g0 w10 w11 w12 p0 p1 p2 p3 P (x1) z1 hz1 hp) (cwV 1 hts gX9_see_X9_isCell rfl rfl rfl (by decide +kernel) ⟨Nat.le_of_ble_eq_true rfl, Nat.le_of_ble_eq_true rfl⟩) [0, 1, 2, 3, 4] rfl (by decide) 0 9 rfl rfl rfl hl.1 rfl (Nat.le_of_ble_eq_true rfl) dX9_see_2 ⟨Nat.le_refl _, Nat.le_refl _⟩ rfl (ws2 := rwW w0 w1 w2 p0 w4 w5 w6 w7 w8 g0 w10 w11 w12 ++ plW p0 p1 p2 p3 cI P ++ sgW g0 g1 g2 cI G) rfl (fun H locs hP hS => ?_)
  refine rb_eq (pc := 5) (tgt := 18) hx hb dX9_see_5 (by decide) (fun c5 => ?_) (fun c5 => ?_)
  · refine lv_iconst (pc := 18) (v := jI (-1)) hx hb dX9_see_18 (by decide) ?_
    exact hret 19 _ hP hS dX9_see_19 rfl rfl ⟨(by unfold zSee; (repeat' split) <;> first | (exfalso; omega) | rfl | exact jI_nat _), (by unfold gSee; (repeat' split) <;> first | (exfalso; omega) | rfl | exact jI_nat _)⟩
  · refine lv_iload_n (pc := 8) hx hb dX9_see_8 rfl (lv_at hl 2 rfl) ?_
    refine r0_lt (pc := 9) (tgt := 18) hx hb hz2 dX9_see_9 (by decide) (fun c9 => ?_) (fun c9 => ?_)
    · refine lv_iconst (pc := 18) (v := jI (-1)) hx hb dX9_see_18 (by decide) ?_
      exact hret 19 _ hP hS dX9_see_19 rfl rfl ⟨(by unfold zSee; (repeat' split) <;> first | (exfalso; omega) | rfl | exact jI_nat _), (by unfold gSee; (repeat' split) <;> first | (exfalso; omega) | rfl | exact jI_nat _)⟩
    · refine lv_iload_n (pc := 12) hx hb dX9_see_12 rfl (lv_at hl 2 rfl) ?_
      refine lv_bipush (pc := 13) (v := nI 40) hx hb dX9_see_13 (by decide) ?_
      refine rc_le (pc := 15) (tgt := 20) hx hb hz2 (tI_nI (by omega)) dX9_see_15 (by decide) (fun c15 => ?_) (fun c15 => ?_)
      · obtain ⟨k, rfl⟩ : ∃ k : Nat, z1 = k := ⟨z1.toNat, by omega⟩
        obtain rfl : x1 = nI k := eq_nI hz1
        obtain ⟨h, rfl⟩ : ∃ k : Nat, z2 = k := ⟨z2.toNat, by omega⟩
        obtain rfl : x2 = nI h := eq_nI hz2
        refine lv_aload_n (pc := 20) hx hb dX9_see_20 rfl (lv_at hl 0 rfl) ?_
        refine va_get (pc := 21) (D := D) (ci := 9) (v := .ref g0) (C := RX9) (T := TX9) (N := 12) hx hb hts hiX9 hown hK hP 0 rfl rfl 8 (by decide) wf58 (fun _ h9 => h9) rfl dX9_see_21 ?_
        refine ci_Vd (pc := 24) (r0 := nI (if 8 ≤ G.2.2 then 1 else 0)) hF hN hK hP hV hS hA (k_X6_isFull l D cI cC cB cS g0 g1 g2 G hg) (cwV 0 hts gX9_see_X6_isFull rfl rfl rfl (by decide +kernel) ⟨Nat.le_of_ble_eq_true rfl, Nat.le_of_ble_eq_true rfl⟩) [5, 6, 7] rfl (by decide) 0 6 rfl rfl rfl hl.1 rfl (Nat.le_of_ble_eq_true rfl) dX9_see_24 ⟨Nat.le_refl _, Nat.le_refl _⟩ rfl (ws2 := rwW w0 w1 w2 p0 w4 w5 w6 w7 w8 g0 w10 w11 w12 ++ plW p0 p1 p2 p3 cI P ++ sgW g0 g1 g2 cI G) rfl (fun H locs hP hS => ?_)
        refine rb_eq (pc := 27) (tgt := 33) hx hb dX9_see_27 (by decide) (fun c27 => ?_) (fun c27 => ?_)
        · refine lv_aload_n (pc := 33) hx hb dX9_see_33 rfl (lv_at hl 0 rfl) ?_
          refine va_get (pc := 34) (D := D) (ci := 9) (v := .ref g0) (C := RX9) (T := TX9) (N := 12) hx hb hts hiX9 hown hK hP 0 rfl rfl 8 (by decide) wf58 (fun _ h9 => h9) rfl dX9_see_34 ?_
          refine lv_iload_n (pc := 37) hx hb dX9_see_37 rfl (lv_at hl 1 rfl) ?_
          refine lv_iload_n (pc := 38) hx hb dX9_see_38 rfl (lv_at hl 2 rfl) ?_
          refine cv_Vd (pc := 39) hF hN hK hP hV hS hA (k_X6_add l D cI cC cB cS g0 g1 g2 G k h (by omega)) (cwV 2 hts gX9_see_X6_add rfl rfl rfl (by decide +kernel) ⟨Nat.le_of_ble_eq_true rfl, Nat.le_of_ble_eq_true rfl⟩) [5, 6, 7] rfl (by decide) 0 6 rfl rfl rfl hl.1 rfl (Nat.le_of_ble_eq_true rfl) dX9_see_39 ⟨Nat.le_refl _, Nat.le_refl _⟩ rfl (ws2 := rwW w0 w1 w2 p0 w4 w5 w6 w7 w8 g0 w10 w11 w12 ++ plW p0 p1 p2 p3 cI P ++ sgW g0 g1 g2 cI (va_up G.1 G.2.2 k, va_up G.2.1 G.2.2 h, G.2.2 + 1)) rfl (fun H locs hP hS => ?_)
          refine lv_aload_n (pc := 42) hx hb dX9_see_42 rfl (lv_at hl 0 rfl) ?_
          refine va_get (pc := 43) (D := D) (ci := 9) (v := .ref g0) (C := RX9) (T := TX9) (N := 12) hx hb hts hiX9 hown hK hP 0 rfl rfl 8 (by decide) wf58 (fun _ h9 => h9) rfl dX9_see_43 ?_
          refine ci_Vd (pc := 46) (r0 := nI (G.2.2 + 1)) hF hN hK hP hV hS hA (k_X6_size l D cI cC cB cS g0 g1 g2 (va_up G.1 G.2.2 k, va_up G.2.1 G.2.2 h, G.2.2 + 1)) (cwV 0 hts gX9_see_X6_size rfl rfl rfl (by decide +kernel) ⟨Nat.le_of_ble_eq_true rfl, Nat.le_of_ble_eq_true rfl⟩) [5, 6, 7] rfl (by decide) 0 6 rfl rfl rfl hl.1 rfl (Nat.le_of_ble_eq_true rfl) dX9_see_46 ⟨Nat.le_refl _, Nat.le_refl _⟩ rfl (ws2 := rwW w0 w1 w2 p0 w4 w5 w6 w7 w8 g0 w10 w11 w12 ++ plW p0 p1 p2 p3 cI P ++ sgW g0 g1 g2 cI (va_up G.1 G.2.2 k, va_up G.2.1 G.2.2 h, G.2.2 + 1)) rfl (fun H locs hP hS => ?_)
          exact hret 49 _ hP hS dX9_see_49 rfl rfl ⟨(by unfold zSee; (repeat' split) <;> first | (exfalso; omega) | rfl | exact jI_nat _), (by unfold gSee; (repeat' split) <;> first | (exfalso; omega) | rfl | exact jI_nat _)⟩
        · refine lv_bipush (pc := 30) (v := jI (-3)) hx hb dX9_see_30 (by decide) ?_
          exact hret 32 _ hP hS dX9_see_32 rfl rfl ⟨(by unfold zSee; (repeat' split) <;> first | (exfalso; omega) | rfl | exact jI_nat _), (by unfold gSee; (repeat' split) <;> first | (exfalso; omega) | rfl | exact jI_nat _)⟩
      · refine lv_iconst (pc := 18) (v := jI (-1)) hx hb dX9_see_18 (by decide) ?_
        exact hret 19 _ hP hS dX9_see_19 rfl rfl ⟨(by unfold zSee; (repeat' split) <;> first | (exfalso; omega) | rfl | exact jI_nat _), (by unfold gSee; (repeat' split) <;> first | (exfalso; omega) | rfl | exact jI_nat _)⟩
abbrev rmX9_chairs : Room := { frames := 3, cells := 0, slots := 0, locals := 74 }
set_option maxHeartbeats 4000000 in
set_option maxRecDepth 100000 in
theorem k_X9_chairs (l : Launch) (D : va_G) (cI cC cB cS : ClassId) (w0 w1 w2 w4 w6 w7 w8 w9 w10 w11 : Nat) (p0 p1 p2 p3 : Nat) (P : PL) (s0 s1 s2 s3 : Nat) (S : ST) (e20 e21 e22 : Nat) (E2 : SE) (x1 : Int32) (z1 : Int) (hz1 : x1.toInt = z1) (hp : pOK P) (hi : sHi S) : CI l D (kT cI cC cB cS) yX9_chairs wsX9_chairs rmX9_chairs [.ref w0, .int (x1)] (rwW w0 w1 w2 p0 w4 s0 w6 w7 w8 w9 w10 w11 e20 ++ plW p0 p1 p2 p3 cI P ++ stW s0 s1 s2 s3 cI S ++ seW e20 e21 e22 cI E2) (fun r u => r = jI (zChairs P S z1) ∧ ∃ E29 : SE, u = rwW w0 w1 w2 p0 w4 s0 w6 w7 w8 w9 w10 w11 e20 ++ plW p0 p1 p2 p3 cI P ++ stW s0 s1 s2 s3 cI S ++ seW e20 e21 e22 cI E29) := by
  refine ci_intro (by decide) rfl (Nat.le_of_ble_eq_true rfl) ?_
  intro p e s m args below meth c ls A QF hF hK hP hV hS hA hN hl hret
  obtain ⟨hx, hb, hml, hown, hts⟩ := id hF
  have hP : va_P D vwCl (rwW w0 w1 w2 p0 w4 s0 w6 w7 w8 w9 w10 w11 e20 ++ plW p0 p1 p2 p3 cI P ++ stW s0 s1 s2 s3 cI S ++ seW e20 e21 e22 cI E2) s.heap := hP
  have hl : lv_has ls 2 [(0, .ref w0), (1, .int (x1))] := hl
  have wf26 := hts (.fieldLink RX9 26 "RemorseWall" "plan" "LRemorseWall$Plan;") (by decide +kernel)
  have wf36 := hts (.fieldLink RX9 36 "RemorseWall" "now" "LRemorseWall$Standing;") (by decide +kernel)
  have wf79 := hts (.fieldLink RX9 79 "RemorseWall" "seating" "LRemorseWall$Seating;") (by decide +kernel)
  have hiX9 : ∀ w ∈ u_ws RX9 TX9 12, w ∈ wsX9_chairs := by decide +kernel
  refine lv_iload_n (pc := 0) hx hb dX9_chairs_0 rfl (lv_at hl 1 rfl) ?_
  refine r0_lt (pc := 1) (tgt := 10) hx hb hz1 dX9_chairs_1 (by decide) (fun c1 => ?_) (fun c1 => ?_)
  · refine lv_iconst (pc := 10) (v := jI (-1)) hx hb dX9_chairs_10 (by decide) ?_
    exact hret 11 _ hP hS dX9_chairs_11 rfl rfl ⟨(by unfold zChairs; (repeat' split) <;> first | (exfalso; omega) | rfl), _, rfl⟩
  · refine lv_iload_n (pc := 4) hx hb dX9_chairs_4 rfl (lv_at hl 1 rfl) ?_
    refine lv_bipush (pc := 5) (v := nI 40) hx hb dX9_chairs_5 (by decide) ?_
    refine rc_le (pc := 7) (tgt := 12) hx hb hz1 (tI_nI (by omega)) dX9_chairs_7 (by decide) (fun c7 => ?_) (fun c7 => ?_)
    · obtain ⟨h, rfl⟩ : ∃ k : Nat, z1 = k := ⟨z1.toNat, by omega⟩
      obtain rfl : x1 = nI h := eq_nI hz1
      refine lv_aload_n (pc := 12) hx hb dX9_chairs_12 rfl (lv_at hl 0 rfl) ?_
      refine va_get (pc := 13) (D := D) (ci := 9) (v := .ref e20) (C := RX9) (T := TX9) (N := 12) hx hb hts hiX9 hown hK hP 0 rfl rfl 11 (by decide) wf79 (fun _ h9 => h9) rfl dX9_chairs_13 ?_
      refine lv_aload_n (pc := 16) hx hb dX9_chairs_16 rfl (lv_at hl 0 rfl) ?_
      refine va_get (pc := 17) (D := D) (ci := 9) (v := .ref p0) (C := RX9) (T := TX9) (N := 12) hx hb hts hiX9 hown hK hP 0 rfl rfl 2 (by decide) wf26 (fun _ h9 => h9) rfl dX9_chairs_17 ?_
      refine lv_aload_n (pc := 20) hx hb dX9_chairs_20 rfl (lv_at hl 0 rfl) ?_
      refine va_get (pc := 21) (D := D) (ci := 9) (v := .ref s0) (C := RX9) (T := TX9) (N := 12) hx hb hts hiX9 hown hK hP 0 rfl rfl 4 (by decide) wf36 (fun _ h9 => h9) rfl dX9_chairs_21 ?_
      refine lv_iload_n (pc := 24) hx hb dX9_chairs_24 rfl (lv_at hl 1 rfl) ?_
      refine ci_V (pc := 25) hF hN hK hP hV hS hA (k_X5_most l D cI cC cB cS e20 e21 e22 E2 p0 p1 p2 p3 P s0 s1 s2 s3 S h hp hi (by omega)) (cwV 3 hts gX9_chairs_X5_most rfl rfl rfl (by decide +kernel) ⟨Nat.le_of_ble_eq_true rfl, Nat.le_of_ble_eq_true rfl⟩) [9, 10, 11, 1, 2, 3, 4, 5, 6, 7, 8] rfl (by decide) 0 5 rfl rfl rfl hl.1 rfl (Nat.le_of_ble_eq_true rfl) dX9_chairs_25 ⟨Nat.le_refl _, Nat.le_refl _⟩ rfl (fun r u H locs hq hu hP hS => ?_)
      obtain ⟨rfl, T2, rfl⟩ := hq
      have hP : va_P D vwCl (rwW w0 w1 w2 p0 w4 s0 w6 w7 w8 w9 w10 w11 e20 ++ plW p0 p1 p2 p3 cI P ++ stW s0 s1 s2 s3 cI S ++ seW e20 e21 e22 cI T2) H := hP
      exact hret 28 _ hP hS dX9_chairs_28 rfl rfl ⟨(by unfold zChairs; (repeat' split) <;> first | (exfalso; omega) | rfl), _, rfl⟩
    · refine lv_iconst (pc := 10) (v := jI (-1)) hx hb dX9_chairs_10 (by decide) ?_
      exact hret 11 _ hP hS dX9_chairs_11 rfl rfl ⟨(by unfold zChairs; (repeat' split) <;> first | (exfalso; omega) | rfl), _, rfl⟩
