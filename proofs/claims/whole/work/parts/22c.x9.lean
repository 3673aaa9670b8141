abbrev rmX9_matter : Room := { frames := 3, cells := 0, slots := 0, locals := 68 }
set_option maxHeartbeats 4000000 in
set_option maxRecDepth 100000 in
theorem k_X9_matter (l : Launch) (D : va_G) (cI cC cB cS : ClassId) (w0 w1 w2 w4 w6 w7 w8 w9 w10 w11 w12 : Nat) (p0 p1 p2 p3 : Nat) (P : PL) (s0 s1 s2 s3 : Nat) (S : ST) (x1 : Int32) (z1 : Int) (hz1 : x1.toInt = z1) (x2 : Int32) (z2 : Int) (hz2 : x2.toInt = z2) (hw : pWF P) (hi : sHi S) (hpa : S.2.2.2.1 < 64) : CI l D (kT cI cC cB cS) yX9_matter wsX9_matter rmX9_matter [.ref w0, .int (x1), .int (x2)] (rwW w0 w1 w2 p0 w4 s0 w6 w7 w8 w9 w10 w11 w12 ++ plW p0 p1 p2 p3 cI P ++ stW s0 s1 s2 s3 cI S) (fun r u => r = jI (zMatter P S z1 z2) ∧ u = rwW w0 w1 w2 p0 w4 s0 w6 w7 w8 w9 w10 w11 w12 ++ plW p0 p1 p2 p3 cI P ++ stW s0 s1 s2 s3 cI S) := by
  refine ci_intro (by decide) rfl (Nat.le_of_ble_eq_true rfl) ?_
  intro p e s m args below meth c ls A QF hF hK hP hV hS hA hN hl hret
  obtain ⟨hx, hb, hml, hown, hts⟩ := id hF
  have hP : va_P D vwCl (rwW w0 w1 w2 p0 w4 s0 w6 w7 w8 w9 w10 w11 w12 ++ plW p0 p1 p2 p3 cI P ++ stW s0 s1 s2 s3 cI S) s.heap := hP
  have hl : lv_has ls 3 [(0, .ref w0), (1, .int (x1)), (2, .int (x2))] := hl
  have wf26 := hts (.fieldLink RX9 26 "RemorseWall" "plan" "LRemorseWall$Plan;") (by decide +kernel)
  have wf36 := hts (.fieldLink RX9 36 "RemorseWall" "now" "LRemorseWall$Standing;") (by decide +kernel)
  have hiX9 : ∀ w ∈ u_ws RX9 TX9 12, w ∈ wsX9_matter := by decide +kernel
  obtain ⟨hp, hc1, hce, hme⟩ := id hw
  obtain ⟨hp1, hp2, hp3, hp4, hp5, hp6, hp7⟩ := id hp
  have hcl := pCells_le hp
  refine lv_aload_n (pc := 0) hx hb dX9_matter_0 rfl (lv_at hl 0 rfl) ?_
  refine lv_iload_n (pc := 1) hx hb dX9_matter_1 rfl (lv_at hl 1 rfl) ?_
  refine ci_Vd (pc := 2) (r0 := nI (if okX (P.2.2.2.2.2.1) z1 then 1 else 0)) hF hN hK hP hV hS hA (k_X9_isCase l D cI cC cB cS w0 w1 w2 w4 s0 w6 w7 w8 w9 w10 w11 w12 p0 p1 p2 p3 P (x1) z1 hz1 hp) (cwV 1 hts gX9_matter_X9_isCase rfl rfl rfl (by decide +kernel) ⟨Nat.le_of_ble_eq_true rfl, Nat.le_of_ble_eq_true rfl⟩) [0, 1, 2, 3, 4] rfl (by decide) 0 9 rfl rfl rfl hl.1 rfl (Nat.le_of_ble_eq_true rfl) dX9_matter_2 ⟨Nat.le_refl _, Nat.le_refl _⟩ rfl (ws2 := rwW w0 w1 w2 p0 w4 s0 w6 w7 w8 w9 w10 w11 w12 ++ plW p0 p1 p2 p3 cI P ++ stW s0 s1 s2 s3 cI S) rfl (fun H locs hP hS => ?_)
  refine rb_ne (pc := 5) (tgt := 10) hx hb dX9_matter_5 (by decide) (fun c5 => ?_) (fun c5 => ?_)
  · obtain ⟨k, rfl⟩ : ∃ k : Nat, z1 = k := ⟨z1.toNat, by omega⟩
    obtain rfl : x1 = nI k := eq_nI hz1
    refine lv_iload_n (pc := 10) hx hb dX9_matter_10 rfl (lv_at hl 2 rfl) ?_
    have ex11 : (x2).toInt = z2 := hz2
    rcases (show z2 < 0 ∨ 5 < z2 ∨ z2 = 0 ∨ z2 = 1 ∨ z2 = 2 ∨ z2 = 3 ∨ z2 = 4 ∨ z2 = 5 by omega) with c11 | c11 | c11 | c11 | c11 | c11 | c11 | c11
    · refine lv_tableOut (pc := 11) (tgt := 81) hx hb dX9_matter_11 (by rw [ex11]; omega) (by decide) ?_
      refine lv_iconst (pc := 81) (v := jI (-1)) hx hb dX9_matter_81 (by decide) ?_
      exact hret 82 _ hP hS dX9_matter_82 rfl rfl ⟨(by unfold zMatter; (repeat' split) <;> first | (exfalso; omega) | rfl | exact jI_nat _ | (rw [jI_nat]; congr 2 <;> omega) | (simp only [Int.toNat_natCast]; exact jI_nat _)), rfl⟩
    · refine lv_tableOut (pc := 11) (tgt := 81) hx hb dX9_matter_11 (by rw [ex11]; omega) (by decide) ?_
      refine lv_iconst (pc := 81) (v := jI (-1)) hx hb dX9_matter_81 (by decide) ?_
      exact hret 82 _ hP hS dX9_matter_82 rfl rfl ⟨(by unfold zMatter; (repeat' split) <;> first | (exfalso; omega) | rfl | exact jI_nat _ | (rw [jI_nat]; congr 2 <;> omega) | (simp only [Int.toNat_natCast]; exact jI_nat _)), rfl⟩
    · refine lv_tableIn (pc := 11) (tgt := 48) hx hb dX9_matter_11 (by rw [ex11]; omega) (by rw [ex11]; omega) (by rw [ex11, c11] <;> rfl) (by decide) ?_
      obtain ⟨j, rfl⟩ : ∃ k : Nat, z2 = k := ⟨z2.toNat, by omega⟩
      obtain rfl : x2 = nI j := eq_nI hz2
      refine lv_aload_n (pc := 48) hx hb dX9_matter_48 rfl (lv_at hl 0 rfl) ?_
      refine va_get (pc := 49) (D := D) (ci := 9) (v := .ref p0) (C := RX9) (T := TX9) (N := 12) hx hb hts hiX9 hown hK hP 0 rfl rfl 2 (by decide) wf26 (fun _ h9 => h9) rfl dX9_matter_49 ?_
      refine lv_iload_n (pc := 52) hx hb dX9_matter_52 rfl (lv_at hl 1 rfl) ?_
      refine lv_iload_n (pc := 53) hx hb dX9_matter_53 rfl (lv_at hl 2 rfl) ?_
      refine ci_Vd (pc := 54) (r0 := nI (P.2.1 (k * 4 + j))) hF hN hK hP hV hS hA (k_X2_ofCase l D cI cC cB cS p0 p1 p2 p3 P k j hp (by omega) (by omega)) (cwV 2 hts gX9_matter_X2_ofCase rfl rfl rfl (by decide +kernel) ⟨Nat.le_of_ble_eq_true rfl, Nat.le_of_ble_eq_true rfl⟩) [1, 2, 3, 4] rfl (by decide) 0 2 rfl rfl rfl hl.1 rfl (Nat.le_of_ble_eq_true rfl) dX9_matter_54 ⟨Nat.le_refl _, Nat.le_refl _⟩ rfl (ws2 := rwW w0 w1 w2 p0 w4 s0 w6 w7 w8 w9 w10 w11 w12 ++ plW p0 p1 p2 p3 cI P ++ stW s0 s1 s2 s3 cI S) rfl (fun H locs hP hS => ?_)
      have fq2 := hp.2.1 (k * 4 + j)
      exact hret 57 _ hP hS dX9_matter_57 rfl rfl ⟨(by unfold zMatter; (repeat' split) <;> first | (exfalso; omega) | rfl | exact jI_nat _ | (rw [jI_nat]; congr 2 <;> omega) | (simp only [Int.toNat_natCast]; exact jI_nat _)), rfl⟩
    · refine lv_tableIn (pc := 11) (tgt := 48) hx hb dX9_matter_11 (by rw [ex11]; omega) (by rw [ex11]; omega) (by rw [ex11, c11] <;> rfl) (by decide) ?_
      obtain ⟨j, rfl⟩ : ∃ k : Nat, z2 = k := ⟨z2.toNat, by omega⟩
      obtain rfl : x2 = nI j := eq_nI hz2
      refine lv_aload_n (pc := 48) hx hb dX9_matter_48 rfl (lv_at hl 0 rfl) ?_
      refine va_get (pc := 49) (D := D) (ci := 9) (v := .ref p0) (C := RX9) (T := TX9) (N := 12) hx hb hts hiX9 hown hK hP 0 rfl rfl 2 (by decide) wf26 (fun _ h9 => h9) rfl dX9_matter_49 ?_
      refine lv_iload_n (pc := 52) hx hb dX9_matter_52 rfl (lv_at hl 1 rfl) ?_
      refine lv_iload_n (pc := 53) hx hb dX9_matter_53 rfl (lv_at hl 2 rfl) ?_
      refine ci_Vd (pc := 54) (r0 := nI (P.2.1 (k * 4 + j))) hF hN hK hP hV hS hA (k_X2_ofCase l D cI cC cB cS p0 p1 p2 p3 P k j hp (by omega) (by omega)) (cwV 2 hts gX9_matter_X2_ofCase rfl rfl rfl (by decide +kernel) ⟨Nat.le_of_ble_eq_true rfl, Nat.le_of_ble_eq_true rfl⟩) [1, 2, 3, 4] rfl (by decide) 0 2 rfl rfl rfl hl.1 rfl (Nat.le_of_ble_eq_true rfl) dX9_matter_54 ⟨Nat.le_refl _, Nat.le_refl _⟩ rfl (ws2 := rwW w0 w1 w2 p0 w4 s0 w6 w7 w8 w9 w10 w11 w12 ++ plW p0 p1 p2 p3 cI P ++ stW s0 s1 s2 s3 cI S) rfl (fun H locs hP hS => ?_)
      have fq3 := hp.2.1 (k * 4 + j)
      exact hret 57 _ hP hS dX9_matter_57 rfl rfl ⟨(by unfold zMatter; (repeat' split) <;> first | (exfalso; omega) | rfl | exact jI_nat _ | (rw [jI_nat]; congr 2 <;> omega) | (simp only [Int.toNat_natCast]; exact jI_nat _)), rfl⟩
    · refine lv_tableIn (pc := 11) (tgt := 48) hx hb dX9_matter_11 (by rw [ex11]; omega) (by rw [ex11]; omega) (by rw [ex11, c11] <;> rfl) (by decide) ?_
      obtain ⟨j, rfl⟩ : ∃ k : Nat, z2 = k := ⟨z2.toNat, by omega⟩
      obtain rfl : x2 = nI j := eq_nI hz2
      refine lv_aload_n (pc := 48) hx hb dX9_matter_48 rfl (lv_at hl 0 rfl) ?_
      refine va_get (pc := 49) (D := D) (ci := 9) (v := .ref p0) (C := RX9) (T := TX9) (N := 12) hx hb hts hiX9 hown hK hP 0 rfl rfl 2 (by decide) wf26 (fun _ h9 => h9) rfl dX9_matter_49 ?_
      refine lv_iload_n (pc := 52) hx hb dX9_matter_52 rfl (lv_at hl 1 rfl) ?_
      refine lv_iload_n (pc := 53) hx hb dX9_matter_53 rfl (lv_at hl 2 rfl) ?_
      refine ci_Vd (pc := 54) (r0 := nI (P.2.1 (k * 4 + j))) hF hN hK hP hV hS hA (k_X2_ofCase l D cI cC cB cS p0 p1 p2 p3 P k j hp (by omega) (by omega)) (cwV 2 hts gX9_matter_X2_ofCase rfl rfl rfl (by decide +kernel) ⟨Nat.le_of_ble_eq_true rfl, Nat.le_of_ble_eq_true rfl⟩) [1, 2, 3, 4] rfl (by decide) 0 2 rfl rfl rfl hl.1 rfl (Nat.le_of_ble_eq_true rfl) dX9_matter_54 ⟨Nat.le_refl _, Nat.le_refl _⟩ rfl (ws2 := rwW w0 w1 w2 p0 w4 s0 w6 w7 w8 w9 w10 w11 w12 ++ plW p0 p1 p2 p3 cI P ++ stW s0 s1 s2 s3 cI S) rfl (fun H locs hP hS => ?_)
      have fq4 := hp.2.1 (k * 4 + j)
      exact hret 57 _ hP hS dX9_matter_57 rfl rfl ⟨(by unfold zMatter; (repeat' split) <;> first | (exfalso; omega) | rfl | exact jI_nat _ | (rw [jI_nat]; congr 2 <;> omega) | (simp only [Int.toNat_natCast]; exact jI_nat _)), rfl⟩
    · refine lv_tableIn (pc := 11) (tgt := 48) hx hb dX9_matter_11 (by rw [ex11]; omega) (by rw [ex11]; omega) (by rw [ex11, c11] <;> rfl) (by decide) ?_
      obtain ⟨j, rfl⟩ : ∃ k : Nat, z2 = k := ⟨z2.toNat, by omega⟩
      obtain rfl : x2 = nI j := eq_nI hz2
      refine lv_aload_n (pc := 48) hx hb dX9_matter_48 rfl (lv_at hl 0 rfl) ?_
      refine va_get (pc := 49) (D := D) (ci := 9) (v := .ref p0) (C := RX9) (T := TX9) (N := 12) hx hb hts hiX9 hown hK hP 0 rfl rfl 2 (by decide) wf26 (fun _ h9 => h9) rfl dX9_matter_49 ?_
      refine lv_iload_n (pc := 52) hx hb dX9_matter_52 rfl (lv_at hl 1 rfl) ?_
      refine lv_iload_n (pc := 53) hx hb dX9_matter_53 rfl (lv_at hl 2 rfl) ?_
      refine ci_Vd (pc := 54) (r0 := nI (P.2.1 (k * 4 + j))) hF hN hK hP hV hS hA (k_X2_ofCase l D cI cC cB cS p0 p1 p2 p3 P k j hp (by omega) (by omega)) (cwV 2 hts gX9_matter_X2_ofCase rfl rfl rfl (by decide +kernel) ⟨Nat.le_of_ble_eq_true rfl, Nat.le_of_ble_eq_true rfl⟩) [1, 2, 3, 4] rfl (by decide) 0 2 rfl rfl rfl hl.1 rfl (Nat.le_of_ble_eq_true rfl) dX9_matter_54 ⟨Nat.le_refl _, Nat.le_refl _⟩ rfl (ws2 := rwW w0 w1 w2 p0 w4 s0 w6 w7 w8 w9 w10 w11 w12 ++ plW p0 p1 p2 p3 cI P ++ stW s0 s1 s2 s3 cI S) rfl (fun H locs hP hS => ?_)
      have fq5 := hp.2.1 (k * 4 + j)
      exact hret 57 _ hP hS dX9_matter_57 rfl rfl ⟨(by unfold zMatter; (repeat' split) <;> first | (exfalso; omega) | rfl | exact jI_nat _ | (rw [jI_nat]; congr 2 <;> omega) | (simp only [Int.toNat_natCast]; exact jI_nat _)), rfl⟩
    · refine lv_tableIn (pc := 11) (tgt := 58) hx hb dX9_matter_11 (by rw [ex11]; omega) (by rw [ex11]; omega) (by rw [ex11, c11] <;> rfl) (by decide) ?_
      refine lv_aload_n (pc := 58) hx hb dX9_matter_58 rfl (lv_at hl 0 rfl) ?_
      refine va_get (pc := 59) (D := D) (ci := 9) (v := .ref s0) (C := RX9) (T := TX9) (N := 12) hx hb hts hiX9 hown hK hP 0 rfl rfl 4 (by decide) wf36 (fun _ h9 => h9) rfl dX9_matter_59 ?_
      refine lv_iload_n (pc := 62) hx hb dX9_matter_62 rfl (lv_at hl 1 rfl) ?_
      refine ci_Vd (pc := 63) (r0 := nI (if sPard S k then 1 else 0)) hF hN hK hP hV hS hA (k_X8_isPardoned l D cI cC cB cS s0 s1 s2 s3 S k hpa (by omega)) (cwV 1 hts gX9_matter_X8_isPardoned rfl rfl rfl (by decide +kernel) ⟨Nat.le_of_ble_eq_true rfl, Nat.le_of_ble_eq_true rfl⟩) [5, 6, 7, 8] rfl (by decide) 0 8 rfl rfl rfl hl.1 rfl (Nat.le_of_ble_eq_true rfl) dX9_matter_63 ⟨Nat.le_refl _, Nat.le_refl _⟩ rfl (ws2 := rwW w0 w1 w2 p0 w4 s0 w6 w7 w8 w9 w10 w11 w12 ++ plW p0 p1 p2 p3 cI P ++ stW s0 s1 s2 s3 cI S) rfl (fun H locs hP hS => ?_)
      refine rb_eq (pc := 66) (tgt := 73) hx hb dX9_matter_66 (by decide) (fun c66 => ?_) (fun c66 => ?_)
      · refine lv_iconst (pc := 73) (v := nI 0) hx hb dX9_matter_73 (by decide) ?_
        exact hret 74 _ hP hS dX9_matter_74 rfl rfl ⟨(by unfold zMatter; (repeat' split) <;> first | (exfalso; omega) | rfl | exact absurd c66 (by assumption) | exact absurd (by assumption) c66), rfl⟩
      · refine lv_iconst (pc := 69) (v := nI 1) hx hb dX9_matter_69 (by decide) ?_
        refine lv_goto (pc := 70) (tgt := 74) hx hb dX9_matter_70 (by decide) ?_
        exact hret 74 _ hP hS dX9_matter_74 rfl rfl ⟨(by unfold zMatter; (repeat' split) <;> first | (exfalso; omega) | rfl | exact absurd c66 (by assumption) | exact absurd (by assumption) c66), rfl⟩
    · refine lv_tableIn (pc := 11) (tgt := 75) hx hb dX9_matter_11 (by rw [ex11]; omega) (by rw [ex11]; omega) (by rw [ex11, c11] <;> rfl) (by decide) ?_
      refine lv_aload_n (pc := 75) hx hb dX9_matter_75 rfl (lv_at hl 0 rfl) ?_
      refine lv_iload_n (pc := 76) hx hb dX9_matter_76 rfl (lv_at hl 1 rfl) ?_
      refine ci_Vd (pc := 77) (r0 := nI (wouldR P S k)) hF hN hK hP hV hS hA (k_X9_wouldRaise l D cI cC cB cS w0 w1 w2 w4 w6 w7 w8 w9 w10 w11 w12 p0 p1 p2 p3 P s0 s1 s2 s3 S k hw hi hpa (by omega)) (cwV 1 hts gX9_matter_X9_wouldRaise rfl rfl rfl (by decide +kernel) ⟨Nat.le_of_ble_eq_true rfl, Nat.le_of_ble_eq_true rfl⟩) [0, 1, 2, 3, 4, 5, 6, 7, 8] rfl (by decide) 0 9 rfl rfl rfl hl.1 rfl (Nat.le_of_ble_eq_true rfl) dX9_matter_77 ⟨Nat.le_refl _, Nat.le_refl _⟩ rfl (ws2 := rwW w0 w1 w2 p0 w4 s0 w6 w7 w8 w9 w10 w11 w12 ++ plW p0 p1 p2 p3 cI P ++ stW s0 s1 s2 s3 cI S) rfl (fun H locs hP hS => ?_)
      have fq7 := wouldR_le P S k
      exact hret 80 _ hP hS dX9_matter_80 rfl rfl ⟨(by unfold zMatter; (repeat' split) <;> first | (exfalso; omega) | rfl | exact jI_nat _ | (rw [jI_nat]; congr 2 <;> omega) | (simp only [Int.toNat_natCast]; exact jI_nat _)), rfl⟩
  · refine lv_iconst (pc := 8) (v := jI (-1)) hx hb dX9_matter_8 (by decide) ?_
    exact hret 9 _ hP hS dX9_matter_9 rfl rfl ⟨(by unfold zMatter; (repeat' split) <;> first | (exfalso; omega) | rfl | exact jI_nat _ | (rw [jI_nat]; congr 2 <;> omega) | (simp only [Int.toNat_natCast]; exact jI_nat _)), rfl⟩
