abbrev rmX9_maid : Room := { frames := 2, cells := 0, slots := 0, locals := 46 }
set_option maxHeartbeats 4000000 in
set_option maxRecDepth 100000 in
theorem k_X9_maid (l : Launch) (D : va_G) (cI cC cB cS : ClassId) (w0 w1 w2 w4 w6 w7 w8 w9 w10 w11 w12 : Nat) (p0 p1 p2 p3 : Nat) (P : PL) (s0 s1 s2 s3 : Nat) (S : ST) (x1 : Int32) (z1 : Int) (hz1 : x1.toInt = z1) (x2 : Int32) (z2 : Int) (hz2 : x2.toInt = z2) (hw : pWF P) (hi : sHi S) (hls : (∀ k, S.2.1 k < 40) ∧ ∀ k, S.2.2.1 k < pCells P) : CI l D (kT cI cC cB cS) yX9_maid wsX9_maid rmX9_maid [.ref w0, .int (x1), .int (x2)] (rwW w0 w1 w2 p0 w4 s0 w6 w7 w8 w9 w10 w11 w12 ++ plW p0 p1 p2 p3 cI P ++ stW s0 s1 s2 s3 cI S) (fun r u => r = jI (zMaid P S z1 z2) ∧ u = rwW w0 w1 w2 p0 w4 s0 w6 w7 w8 w9 w10 w11 w12 ++ plW p0 p1 p2 p3 cI P ++ stW s0 s1 s2 s3 cI S) := by
  refine ci_intro (by decide) rfl (Nat.le_of_ble_eq_true rfl) ?_
  intro p e s m args below meth c ls A QF hF hK hP hV hS hA hN hl hret
  obtain ⟨hx, hb, hml, hown, hts⟩ := id hF
  have hP : va_P D vwCl (rwW w0 w1 w2 p0 w4 s0 w6 w7 w8 w9 w10 w11 w12 ++ plW p0 p1 p2 p3 cI P ++ stW s0 s1 s2 s3 cI S) s.heap := hP
  have hl : lv_has ls 4 [(0, .ref w0), (1, .int (x1)), (2, .int (x2))] := hl
  have wf26 := hts (.fieldLink RX9 26 "RemorseWall" "plan" "LRemorseWall$Plan;") (by decide +kernel)
  have wf36 := hts (.fieldLink RX9 36 "RemorseWall" "now" "LRemorseWall$Standing;") (by decide +kernel)
  have hiX9 : ∀ w ∈ u_ws RX9 TX9 12, w ∈ wsX9_maid := by decide +kernel
  have mk_min_s := hts (.static Lib.Math.min.name) (by decide +kernel)
  have mk_min_i := hts (.initialized "java/lang/Math") (by decide +kernel)
  have mk_min_c := hts (.code Lib.Math.min.name Lib.Math.min.code 2 (some .int)) (by decide +kernel)
  have mk_min_162 := hts (.methodLink RX9 162 Lib.Math.min.name) (by decide +kernel)
  obtain ⟨hp, hc1, hce, hme⟩ := id hw
  obtain ⟨hp1, hp2, hp3, hp4, hp5, hp6, hp7⟩ := id hp
  have hcl := pCells_le hp
  obtain ⟨hle, hpl⟩ := id hls
  refine lv_aload_n (pc := 0) hx hb dX9_maid_0 rfl (lv_at hl 0 rfl) ?_
  refine lv_iload_n (pc := 1) hx hb dX9_maid_1 rfl (lv_at hl 1 rfl) ?_
  refine ci_Vd (pc := 2) (r0 := nI (if okX (P.2.2.2.2.2.2) z1 then 1 else 0)) hF hN hK hP hV hS hA (k_X9_isMaid l D cI cC cB cS w0 w1 w2 w4 s0 w6 w7 w8 w9 w10 w11 w12 p0 p1 p2 p3 P (x1) z1 hz1 hp) (cwV 1 hts gX9_maid_X9_isMaid rfl rfl rfl (by decide +kernel) ⟨Nat.le_of_ble_eq_true rfl, Nat.le_of_ble_eq_true rfl⟩) [0, 1, 2, 3, 4] rfl (by decide) 0 9 rfl rfl rfl hl.1 rfl (Nat.le_of_ble_eq_true rfl) dX9_maid_2 ⟨Nat.le_refl _, Nat.le_refl _⟩ rfl (ws2 := rwW w0 w1 w2 p0 w4 s0 w6 w7 w8 w9 w10 w11 w12 ++ plW p0 p1 p2 p3 cI P ++ stW s0 s1 s2 s3 cI S) rfl (fun H locs hP hS => ?_)
  refine rb_ne (pc := 5) (tgt := 10) hx hb dX9_maid_5 (by decide) (fun c5 => ?_) (fun c5 => ?_)
  · obtain ⟨k, rfl⟩ : ∃ k : Nat, z1 = k := ⟨z1.toNat, by omega⟩
    obtain rfl : x1 = nI k := eq_nI hz1
    have hlk := hle k
    have hpk := hpl k
    have hsa := sAt_le hi ((S.2.2.1 k : Nat) : Int)
    refine lv_aload_n (pc := 10) hx hb dX9_maid_10 rfl (lv_at hl 0 rfl) ?_
    refine va_get (pc := 11) (D := D) (ci := 9) (v := .ref s0) (C := RX9) (T := TX9) (N := 12) hx hb hts hiX9 hown hK hP 0 rfl rfl 4 (by decide) wf36 (fun _ h9 => h9) rfl dX9_maid_11 ?_
    refine lv_aload_n (pc := 14) hx hb dX9_maid_14 rfl (lv_at hl 0 rfl) ?_
    refine va_get (pc := 15) (D := D) (ci := 9) (v := .ref s0) (C := RX9) (T := TX9) (N := 12) hx hb hts hiX9 hown hK hP 0 rfl rfl 4 (by decide) wf36 (fun _ h9 => h9) rfl dX9_maid_15 ?_
    refine lv_iload_n (pc := 18) hx hb dX9_maid_18 rfl (lv_at hl 1 rfl) ?_
    refine ci_Vd (pc := 19) (r0 := nI (S.2.2.1 k)) hF hN hK hP hV hS hA (k_X8_placeOf l D cI cC cB cS s0 s1 s2 s3 S k (by omega)) (cwV 1 hts gX9_maid_X8_placeOf rfl rfl rfl (by decide +kernel) ⟨Nat.le_of_ble_eq_true rfl, Nat.le_of_ble_eq_true rfl⟩) [5, 6, 7, 8] rfl (by decide) 0 8 rfl rfl rfl hl.1 rfl (Nat.le_of_ble_eq_true rfl) dX9_maid_19 ⟨Nat.le_refl _, Nat.le_refl _⟩ rfl (ws2 := rwW w0 w1 w2 p0 w4 s0 w6 w7 w8 w9 w10 w11 w12 ++ plW p0 p1 p2 p3 cI P ++ stW s0 s1 s2 s3 cI S) rfl (fun H locs hP hS => ?_)
    refine ci_Vd (pc := 22) (r0 := nI (sAt S ((S.2.2.1 k : Nat) : Int))) hF hN hK hP hV hS hA (k_X8_highAt l D cI cC cB cS s0 s1 s2 s3 S (nI (S.2.2.1 k)) ((S.2.2.1 k : Nat) : Int) (tI_nI (by omega))) (cwV 1 hts gX9_maid_X8_highAt rfl rfl rfl (by decide +kernel) ⟨Nat.le_of_ble_eq_true rfl, Nat.le_of_ble_eq_true rfl⟩) [5, 6, 7, 8] rfl (by decide) 0 8 rfl rfl rfl hl.1 rfl (Nat.le_of_ble_eq_true rfl) dX9_maid_22 ⟨Nat.le_refl _, Nat.le_refl _⟩ rfl (ws2 := rwW w0 w1 w2 p0 w4 s0 w6 w7 w8 w9 w10 w11 w12 ++ plW p0 p1 p2 p3 cI P ++ stW s0 s1 s2 s3 cI S) rfl (fun H locs hP hS => ?_)
    refine lv_istore_n (pc := 25) (lv' := [(3, .int (nI (sAt S ((S.2.2.1 k : Nat) : Int)))), (0, .ref w0), (1, .int (nI k)), (2, .int (x2))]) hx hb dX9_maid_25 rfl hl (by decide) rfl (fun ls hl => ?_)
    refine lv_iload_n (pc := 26) hx hb dX9_maid_26 rfl (lv_at hl 3 rfl) ?_
    have ex27 : (x2).toInt = z2 := hz2
    rcases (show z2 < 0 ∨ 4 < z2 ∨ z2 = 0 ∨ z2 = 1 ∨ z2 = 2 ∨ z2 = 3 ∨ z2 = 4 by omega) with c27 | c27 | c27 | c27 | c27 | c27 | c27
    · refine lv_tableOut (pc := 27) (tgt := 102) hx hb dX9_maid_27 (by rw [ex27]; omega) (by decide) ?_
      refine lv_iconst (pc := 102) (v := jI (-1)) hx hb dX9_maid_102 (by decide) ?_
      exact hret 103 _ hP hS dX9_maid_103 rfl rfl ⟨(by unfold zMaid; (repeat' split) <;> first | (exfalso; omega) | rfl | exact jI_nat _ | (rw [jI_nat]; congr 2 <;> omega) | (simp only [Int.toNat_natCast]; exact jI_nat _)), rfl⟩
    · refine lv_tableOut (pc := 27) (tgt := 102) hx hb dX9_maid_27 (by rw [ex27]; omega) (by decide) ?_
      refine lv_iconst (pc := 102) (v := jI (-1)) hx hb dX9_maid_102 (by decide) ?_
      exact hret 103 _ hP hS dX9_maid_103 rfl rfl ⟨(by unfold zMaid; (repeat' split) <;> first | (exfalso; omega) | rfl | exact jI_nat _ | (rw [jI_nat]; congr 2 <;> omega) | (simp only [Int.toNat_natCast]; exact jI_nat _)), rfl⟩
    · refine lv_tableIn (pc := 27) (tgt := 60) hx hb dX9_maid_27 (by rw [ex27]; omega) (by rw [ex27]; omega) (by rw [ex27, c27] <;> rfl) (by decide) ?_
      obtain ⟨j, rfl⟩ : ∃ k : Nat, z2 = k := ⟨z2.toNat, by omega⟩
      obtain rfl : x2 = nI j := eq_nI hz2
      refine lv_aload_n (pc := 60) hx hb dX9_maid_60 rfl (lv_at hl 1 rfl) ?_
      refine va_get (pc := 61) (D := D) (ci := 9) (v := .ref p0) (C := RX9) (T := TX9) (N := 12) hx hb hts hiX9 hown hK hP 0 rfl rfl 2 (by decide) wf26 (fun _ h9 => h9) rfl dX9_maid_61 ?_
      refine lv_iload_n (pc := 64) hx hb dX9_maid_64 rfl (lv_at hl 2 rfl) ?_
      refine lv_iload_n (pc := 65) hx hb dX9_maid_65 rfl (lv_at hl 3 rfl) ?_
      refine ci_Vd (pc := 66) (r0 := nI (P.2.2.1 (k * 4 + j))) hF hN hK hP hV hS hA (k_X2_ofMaid l D cI cC cB cS p0 p1 p2 p3 P k j hp (by omega) (by omega)) (cwV 2 hts gX9_maid_X2_ofMaid rfl rfl rfl (by decide +kernel) ⟨Nat.le_of_ble_eq_true rfl, Nat.le_of_ble_eq_true rfl⟩) [1, 2, 3, 4] rfl (by decide) 0 2 rfl rfl rfl hl.1 rfl (Nat.le_of_ble_eq_true rfl) dX9_maid_66 ⟨Nat.le_refl _, Nat.le_refl _⟩ rfl (ws2 := rwW w0 w1 w2 p0 w4 s0 w6 w7 w8 w9 w10 w11 w12 ++ plW p0 p1 p2 p3 cI P ++ stW s0 s1 s2 s3 cI S) rfl (fun H locs hP hS => ?_)
      have fq4 := hp.2.2.1 (k * 4 + j)
      exact hret 69 _ hP hS dX9_maid_69 rfl rfl ⟨(by unfold zMaid; (repeat' split) <;> first | (exfalso; omega) | rfl | exact jI_nat _ | (rw [jI_nat]; congr 2 <;> omega) | (simp only [Int.toNat_natCast]; exact jI_nat _)), rfl⟩
    · refine lv_tableIn (pc := 27) (tgt := 60) hx hb dX9_maid_27 (by rw [ex27]; omega) (by rw [ex27]; omega) (by rw [ex27, c27] <;> rfl) (by decide) ?_
      obtain ⟨j, rfl⟩ : ∃ k : Nat, z2 = k := ⟨z2.toNat, by omega⟩
      obtain rfl : x2 = nI j := eq_nI hz2
      refine lv_aload_n (pc := 60) hx hb dX9_maid_60 rfl (lv_at hl 1 rfl) ?_
      refine va_get (pc := 61) (D := D) (ci := 9) (v := .ref p0) (C := RX9) (T := TX9) (N := 12) hx hb hts hiX9 hown hK hP 0 rfl rfl 2 (by decide) wf26 (fun _ h9 => h9) rfl dX9_maid_61 ?_
      refine lv_iload_n (pc := 64) hx hb dX9_maid_64 rfl (lv_at hl 2 rfl) ?_
      refine lv_iload_n (pc := 65) hx hb dX9_maid_65 rfl (lv_at hl 3 rfl) ?_
      refine ci_Vd (pc := 66) (r0 := nI (P.2.2.1 (k * 4 + j))) hF hN hK hP hV hS hA (k_X2_ofMaid l D cI cC cB cS p0 p1 p2 p3 P k j hp (by omega) (by omega)) (cwV 2 hts gX9_maid_X2_ofMaid rfl rfl rfl (by decide +kernel) ⟨Nat.le_of_ble_eq_true rfl, Nat.le_of_ble_eq_true rfl⟩) [1, 2, 3, 4] rfl (by decide) 0 2 rfl rfl rfl hl.1 rfl (Nat.le_of_ble_eq_true rfl) dX9_maid_66 ⟨Nat.le_refl _, Nat.le_refl _⟩ rfl (ws2 := rwW w0 w1 w2 p0 w4 s0 w6 w7 w8 w9 w10 w11 w12 ++ plW p0 p1 p2 p3 cI P ++ stW s0 s1 s2 s3 cI S) rfl (fun H locs hP hS => ?_)
      have fq5 := hp.2.2.1 (k * 4 + j)
      exact hret 69 _ hP hS dX9_maid_69 rfl rfl ⟨(by unfold zMaid; (repeat' split) <;> first | (exfalso; omega) | rfl | exact jI_nat _ | (rw [jI_nat]; congr 2 <;> omega) | (simp only [Int.toNat_natCast]; exact jI_nat _)), rfl⟩
    · refine lv_tableIn (pc := 27) (tgt := 70) hx hb dX9_maid_27 (by rw [ex27]; omega) (by rw [ex27]; omega) (by rw [ex27, c27] <;> rfl) (by decide) ?_
      refine lv_aload_n (pc := 70) hx hb dX9_maid_70 rfl (lv_at hl 1 rfl) ?_
      refine va_get (pc := 71) (D := D) (ci := 9) (v := .ref s0) (C := RX9) (T := TX9) (N := 12) hx hb hts hiX9 hown hK hP 0 rfl rfl 4 (by decide) wf36 (fun _ h9 => h9) rfl dX9_maid_71 ?_
      refine lv_iload_n (pc := 74) hx hb dX9_maid_74 rfl (lv_at hl 2 rfl) ?_
      refine ci_Vd (pc := 75) (r0 := nI (S.2.1 k)) hF hN hK hP hV hS hA (k_X8_leftTo l D cI cC cB cS s0 s1 s2 s3 S k (by omega)) (cwV 1 hts gX9_maid_X8_leftTo rfl rfl rfl (by decide +kernel) ⟨Nat.le_of_ble_eq_true rfl, Nat.le_of_ble_eq_true rfl⟩) [5, 6, 7, 8] rfl (by decide) 0 8 rfl rfl rfl hl.1 rfl (Nat.le_of_ble_eq_true rfl) dX9_maid_75 ⟨Nat.le_refl _, Nat.le_refl _⟩ rfl (ws2 := rwW w0 w1 w2 p0 w4 s0 w6 w7 w8 w9 w10 w11 w12 ++ plW p0 p1 p2 p3 cI P ++ stW s0 s1 s2 s3 cI S) rfl (fun H locs hP hS => ?_)
      exact hret 78 _ hP hS dX9_maid_78 rfl rfl ⟨(by unfold zMaid; (repeat' split) <;> first | (exfalso; omega) | rfl | exact jI_nat _ | (rw [jI_nat]; congr 2 <;> omega) | (simp only [Int.toNat_natCast]; exact jI_nat _)), rfl⟩
    · refine lv_tableIn (pc := 27) (tgt := 79) hx hb dX9_maid_27 (by rw [ex27]; omega) (by rw [ex27]; omega) (by rw [ex27, c27] <;> rfl) (by decide) ?_
      refine lv_aload_n (pc := 79) hx hb dX9_maid_79 rfl (lv_at hl 1 rfl) ?_
      refine va_get (pc := 80) (D := D) (ci := 9) (v := .ref s0) (C := RX9) (T := TX9) (N := 12) hx hb hts hiX9 hown hK hP 0 rfl rfl 4 (by decide) wf36 (fun _ h9 => h9) rfl dX9_maid_80 ?_
      refine lv_iload_n (pc := 83) hx hb dX9_maid_83 rfl (lv_at hl 2 rfl) ?_
      refine ci_Vd (pc := 84) (r0 := nI (S.2.2.1 k)) hF hN hK hP hV hS hA (k_X8_placeOf l D cI cC cB cS s0 s1 s2 s3 S k (by omega)) (cwV 1 hts gX9_maid_X8_placeOf rfl rfl rfl (by decide +kernel) ⟨Nat.le_of_ble_eq_true rfl, Nat.le_of_ble_eq_true rfl⟩) [5, 6, 7, 8] rfl (by decide) 0 8 rfl rfl rfl hl.1 rfl (Nat.le_of_ble_eq_true rfl) dX9_maid_84 ⟨Nat.le_refl _, Nat.le_refl _⟩ rfl (ws2 := rwW w0 w1 w2 p0 w4 s0 w6 w7 w8 w9 w10 w11 w12 ++ plW p0 p1 p2 p3 cI P ++ stW s0 s1 s2 s3 cI S) rfl (fun H locs hP hS => ?_)
      exact hret 87 _ hP hS dX9_maid_87 rfl rfl ⟨(by unfold zMaid; (repeat' split) <;> first | (exfalso; omega) | rfl | exact jI_nat _ | (rw [jI_nat]; congr 2 <;> omega) | (simp only [Int.toNat_natCast]; exact jI_nat _)), rfl⟩
    · refine lv_tableIn (pc := 27) (tgt := 88) hx hb dX9_maid_27 (by rw [ex27]; omega) (by rw [ex27]; omega) (by rw [ex27, c27] <;> rfl) (by decide) ?_
      refine lv_aload_n (pc := 88) hx hb dX9_maid_88 rfl (lv_at hl 1 rfl) ?_
      refine va_get (pc := 89) (D := D) (ci := 9) (v := .ref p0) (C := RX9) (T := TX9) (N := 12) hx hb hts hiX9 hown hK hP 0 rfl rfl 2 (by decide) wf26 (fun _ h9 => h9) rfl dX9_maid_89 ?_
      refine lv_iload_n (pc := 92) hx hb dX9_maid_92 rfl (lv_at hl 2 rfl) ?_
      refine lv_iload_n (pc := 93) hx hb dX9_maid_93 rfl (lv_at hl 0 rfl) ?_
      refine ci_Vd (pc := 94) (r0 := nI (takeS P k (sAt S ((S.2.2.1 k : Nat) : Int)))) hF hN hK hP hV hS hA (k_X2_takes l D cI cC cB cS p0 p1 p2 p3 P k (sAt S ((S.2.2.1 k : Nat) : Int)) hp (by omega) (by omega)) (cwV 2 hts gX9_maid_X2_takes rfl rfl rfl (by decide +kernel) ⟨Nat.le_of_ble_eq_true rfl, Nat.le_of_ble_eq_true rfl⟩) [1, 2, 3, 4] rfl (by decide) 0 2 rfl rfl rfl hl.1 rfl (Nat.le_of_ble_eq_true rfl) dX9_maid_94 ⟨Nat.le_refl _, Nat.le_refl _⟩ rfl (ws2 := rwW w0 w1 w2 p0 w4 s0 w6 w7 w8 w9 w10 w11 w12 ++ plW p0 p1 p2 p3 cI P ++ stW s0 s1 s2 s3 cI S) rfl (fun H locs hP hS => ?_)
      have fq8 := takeS_le hp k (sAt S ((S.2.2.1 k : Nat) : Int))
      refine lv_iload_n (pc := 97) hx hb dX9_maid_97 rfl (lv_at hl 0 rfl) ?_
      refine va_mmin (pc := 98) hx hb (hml.trans hl.1.symm) hown mk_min_162 mk_min_s mk_min_i mk_min_c (Nat.le_of_ble_eq_true rfl) (Nat.le_of_ble_eq_true rfl) (Nat.le_refl _) (Nat.le_refl _) dX9_maid_98 ?_
      refine r_top (nI_min (by omega) (by omega)) ?_
      exact hret 101 _ hP hS dX9_maid_101 rfl rfl ⟨(by unfold zMaid; (repeat' split) <;> first | (exfalso; omega) | rfl | exact jI_nat _ | (rw [jI_nat]; congr 2 <;> omega) | (simp only [Int.toNat_natCast]; exact jI_nat _)), rfl⟩
  · refine lv_iconst (pc := 8) (v := jI (-1)) hx hb dX9_maid_8 (by decide) ?_
    exact hret 9 _ hP hS dX9_maid_9 rfl rfl ⟨(by unfold zMaid; (repeat' split) <;> first | (exfalso; omega) | rfl | exact jI_nat _ | (rw [jI_nat]; congr 2 <;> omega) | (simp only [Int.toNat_natCast]; exact jI_nat _)), rfl⟩
