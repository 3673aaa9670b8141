abbrev rmX9_behind : Room := { frames := 5, cells := 0, slots := 0, locals := 117 }
set_option maxHeartbeats 4000000 in
set_option maxRecDepth 100000 in
theorem k_X9_behind (l : Launch) (D : va_G) (cI cC cB cS : ClassId) (w0 w1 w2 w4 w7 w8 w9 w10 w11 w12 : Nat) (p0 p1 p2 p3 : Nat) (P : PL) (s0 s1 s2 s3 : Nat) (S : ST) (u0 u1 u2 u3 : Nat) (U : ST) (x1 : Int32) (z1 : Int) (hz1 : x1.toInt = z1) (x2 : Int32) (z2 : Int) (hz2 : x2.toInt = z2) (hw : pWF P) (hi : sHi S) (hpa : S.2.2.2.1 < 64) (hy : S.2.2.2.2 < 100000) : CI l D (kT cI cC cB cS) yX9_behind wsX9_behind rmX9_behind [.ref w0, .int (x1), .int (x2)] (rwW w0 w1 w2 p0 w4 s0 u0 w7 w8 w9 w10 w11 w12 ++ plW p0 p1 p2 p3 cI P ++ stW s0 s1 s2 s3 cI S ++ stW u0 u1 u2 u3 cI U) (fun r u => r = jI (zBehind P S z1 z2) ∧ ∃ U9 : ST, u = rwW w0 w1 w2 p0 w4 s0 u0 w7 w8 w9 w10 w11 w12 ++ plW p0 p1 p2 p3 cI P ++ stW s0 s1 s2 s3 cI S ++ stW u0 u1 u2 u3 cI U9) := by
  refine ci_intro (by decide) rfl (Nat.le_of_ble_eq_true rfl) ?_
  intro p e s m args below meth c ls A QF hF hK hP hV hS hA hN hl hret
  obtain ⟨hx, hb, hml, hown, hts⟩ := id hF
  have hP : va_P D vwCl (rwW w0 w1 w2 p0 w4 s0 u0 w7 w8 w9 w10 w11 w12 ++ plW p0 p1 p2 p3 cI P ++ stW s0 s1 s2 s3 cI S ++ stW u0 u1 u2 u3 cI U) s.heap := hP
  have hl : lv_has ls 3 [(0, .ref w0), (1, .int (x1)), (2, .int (x2))] := hl
  have wf26 := hts (.fieldLink RX9 26 "RemorseWall" "plan" "LRemorseWall$Plan;") (by decide +kernel)
  have wf36 := hts (.fieldLink RX9 36 "RemorseWall" "now" "LRemorseWall$Standing;") (by decide +kernel)
  have wf40 := hts (.fieldLink RX9 40 "RemorseWall" "trial" "LRemorseWall$Standing;") (by decide +kernel)
  have hiX9 : ∀ w ∈ u_ws RX9 TX9 12, w ∈ wsX9_behind := by decide +kernel
  obtain ⟨hp, hc1, hce, hme⟩ := id hw
  obtain ⟨hp1, hp2, hp3, hp4, hp5, hp6, hp7⟩ := id hp
  have hcl := pCells_le hp
  refine lv_iload_n (pc := 0) hx hb dX9_behind_0 rfl (lv_at hl 1 rfl) ?_
  refine r0_lt (pc := 1) (tgt := 18) hx hb hz1 dX9_behind_1 (by decide) (fun c1 => ?_) (fun c1 => ?_)
  · refine lv_iconst (pc := 18) (v := jI (-1)) hx hb dX9_behind_18 (by decide) ?_
    exact hret 19 _ hP hS dX9_behind_19 rfl rfl ⟨(by unfold zBehind; (repeat' split) <;> first | (exfalso; omega) | rfl | exact jI_nat _ | (rw [jI_nat]; congr 2 <;> omega) | (simp only [Int.toNat_natCast]; exact jI_nat _)), _, rfl⟩
  · refine lv_iload_n (pc := 4) hx hb dX9_behind_4 rfl (lv_at hl 1 rfl) ?_
    refine lv_bipush (pc := 5) (v := nI 20) hx hb dX9_behind_5 (by decide) ?_
    refine rc_gt (pc := 7) (tgt := 18) hx hb hz1 (tI_nI (by omega)) dX9_behind_7 (by decide) (fun c7 => ?_) (fun c7 => ?_)
    · refine lv_iconst (pc := 18) (v := jI (-1)) hx hb dX9_behind_18 (by decide) ?_
      exact hret 19 _ hP hS dX9_behind_19 rfl rfl ⟨(by unfold zBehind; (repeat' split) <;> first | (exfalso; omega) | rfl | exact jI_nat _ | (rw [jI_nat]; congr 2 <;> omega) | (simp only [Int.toNat_natCast]; exact jI_nat _)), _, rfl⟩
    · refine lv_aload_n (pc := 10) hx hb dX9_behind_10 rfl (lv_at hl 0 rfl) ?_
      refine lv_iload_n (pc := 11) hx hb dX9_behind_11 rfl (lv_at hl 2 rfl) ?_
      refine ci_Vd (pc := 12) (r0 := nI (if okX (pCells P) z2 then 1 else 0)) hF hN hK hP hV hS hA (k_X9_isCell l D cI cC cB cS w0 w1 w2 w4 s0 u0 w7 w8 w9 w10 w11 w12 p0 p1 p2 p3 P (x2) z2 hz2 hp) (cwV 1 hts gX9_behind_X9_isCell rfl rfl rfl (by decide +kernel) ⟨Nat.le_of_ble_eq_true rfl, Nat.le_of_ble_eq_true rfl⟩) [0, 1, 2, 3, 4] rfl (by decide) 0 9 rfl rfl rfl hl.1 rfl (Nat.le_of_ble_eq_true rfl) dX9_behind_12 ⟨Nat.le_refl _, Nat.le_refl _⟩ rfl (ws2 := rwW w0 w1 w2 p0 w4 s0 u0 w7 w8 w9 w10 w11 w12 ++ plW p0 p1 p2 p3 cI P ++ stW s0 s1 s2 s3 cI S ++ stW u0 u1 u2 u3 cI U) rfl (fun H locs hP hS => ?_)
      refine rb_ne (pc := 15) (tgt := 20) hx hb dX9_behind_15 (by decide) (fun c15 => ?_) (fun c15 => ?_)
      · obtain ⟨n, rfl⟩ : ∃ k : Nat, z1 = k := ⟨z1.toNat, by omega⟩
        obtain rfl : x1 = nI n := eq_nI hz1
        refine lv_aload_n (pc := 20) hx hb dX9_behind_20 rfl (lv_at hl 0 rfl) ?_
        refine va_get (pc := 21) (D := D) (ci := 9) (v := .ref u0) (C := RX9) (T := TX9) (N := 12) hx hb hts hiX9 hown hK hP 0 rfl rfl 5 (by decide) wf40 (fun _ h9 => h9) rfl dX9_behind_21 ?_
        refine lv_aload_n (pc := 24) hx hb dX9_behind_24 rfl (lv_at hl 0 rfl) ?_
        refine va_get (pc := 25) (D := D) (ci := 9) (v := .ref s0) (C := RX9) (T := TX9) (N := 12) hx hb hts hiX9 hown hK hP 0 rfl rfl 4 (by decide) wf36 (fun _ h9 => h9) rfl dX9_behind_25 ?_
        refine cv_Vd (pc := 28) hF hN hK hP hV hS hA (k_X8_copyFrom l D cI cC cB cS u0 u1 u2 u3 U s0 s1 s2 s3 S) (cwV 1 hts gX9_behind_X8_copyFrom rfl rfl rfl (by decide +kernel) ⟨Nat.le_of_ble_eq_true rfl, Nat.le_of_ble_eq_true rfl⟩) [9, 10, 11, 12, 5, 6, 7, 8] rfl (by decide) 0 8 rfl rfl rfl hl.1 rfl (Nat.le_of_ble_eq_true rfl) dX9_behind_28 ⟨Nat.le_refl _, Nat.le_refl _⟩ rfl (ws2 := rwW w0 w1 w2 p0 w4 s0 u0 w7 w8 w9 w10 w11 w12 ++ plW p0 p1 p2 p3 cI P ++ stW s0 s1 s2 s3 cI S ++ stW u0 u1 u2 u3 cI S) rfl (fun H locs hP hS => ?_)
        refine lv_aload_n (pc := 31) hx hb dX9_behind_31 rfl (lv_at hl 0 rfl) ?_
        refine va_get (pc := 32) (D := D) (ci := 9) (v := .ref p0) (C := RX9) (T := TX9) (N := 12) hx hb hts hiX9 hown hK hP 0 rfl rfl 2 (by decide) wf26 (fun _ h9 => h9) rfl dX9_behind_32 ?_
        refine lv_aload_n (pc := 35) hx hb dX9_behind_35 rfl (lv_at hl 0 rfl) ?_
        refine va_get (pc := 36) (D := D) (ci := 9) (v := .ref u0) (C := RX9) (T := TX9) (N := 12) hx hb hts hiX9 hown hK hP 0 rfl rfl 5 (by decide) wf40 (fun _ h9 => h9) rfl dX9_behind_36 ?_
        refine lv_iload_n (pc := 39) hx hb dX9_behind_39 rfl (lv_at hl 1 rfl) ?_
        refine cv_Vd (pc := 40) hF hN hK hP hV hS hA (k_X2_yearsGoBy l D cI cC cB cS p0 p1 p2 p3 P u0 u1 u2 u3 S n hw hi hpa (by omega)) (cwV 2 hts gX9_behind_X2_yearsGoBy rfl rfl rfl (by decide +kernel) ⟨Nat.le_of_ble_eq_true rfl, Nat.le_of_ble_eq_true rfl⟩) [1, 2, 3, 4, 9, 10, 11, 12] rfl (by decide) 0 2 rfl rfl rfl hl.1 rfl (Nat.le_of_ble_eq_true rfl) dX9_behind_40 ⟨Nat.le_refl _, Nat.le_refl _⟩ rfl (ws2 := rwW w0 w1 w2 p0 w4 s0 u0 w7 w8 w9 w10 w11 w12 ++ plW p0 p1 p2 p3 cI P ++ stW s0 s1 s2 s3 cI S ++ stW u0 u1 u2 u3 cI (yearsS P S n)) rfl (fun H locs hP hS => ?_)
        refine lv_aload_n (pc := 43) hx hb dX9_behind_43 rfl (lv_at hl 0 rfl) ?_
        refine va_get (pc := 44) (D := D) (ci := 9) (v := .ref u0) (C := RX9) (T := TX9) (N := 12) hx hb hts hiX9 hown hK hP 0 rfl rfl 5 (by decide) wf40 (fun _ h9 => h9) rfl dX9_behind_44 ?_
        refine lv_iload_n (pc := 47) hx hb dX9_behind_47 rfl (lv_at hl 2 rfl) ?_
        refine ci_Vd (pc := 48) (r0 := nI (sAt (yearsS P S n) z2)) hF hN hK hP hV hS hA (k_X8_highAt l D cI cC cB cS u0 u1 u2 u3 (yearsS P S n) (x2) z2 hz2) (cwV 1 hts gX9_behind_X8_highAt rfl rfl rfl (by decide +kernel) ⟨Nat.le_of_ble_eq_true rfl, Nat.le_of_ble_eq_true rfl⟩) [9, 10, 11, 12] rfl (by decide) 0 8 rfl rfl rfl hl.1 rfl (Nat.le_of_ble_eq_true rfl) dX9_behind_48 ⟨Nat.le_refl _, Nat.le_refl _⟩ rfl (ws2 := rwW w0 w1 w2 p0 w4 s0 u0 w7 w8 w9 w10 w11 w12 ++ plW p0 p1 p2 p3 cI P ++ stW s0 s1 s2 s3 cI S ++ stW u0 u1 u2 u3 cI (yearsS P S n)) rfl (fun H locs hP hS => ?_)
        exact hret 51 _ hP hS dX9_behind_51 rfl rfl ⟨(by unfold zBehind; (repeat' split) <;> first | (exfalso; omega) | rfl | exact jI_nat _ | (rw [jI_nat]; congr 2 <;> omega) | (simp only [Int.toNat_natCast]; exact jI_nat _)), _, rfl⟩
      · refine lv_iconst (pc := 18) (v := jI (-1)) hx hb dX9_behind_18 (by decide) ?_
        exact hret 19 _ hP hS dX9_behind_19 rfl rfl ⟨(by unfold zBehind; (repeat' split) <;> first | (exfalso; omega) | rfl | exact jI_nat _ | (rw [jI_nat]; congr 2 <;> omega) | (simp only [Int.toNat_natCast]; exact jI_nat _)), _, rfl⟩
