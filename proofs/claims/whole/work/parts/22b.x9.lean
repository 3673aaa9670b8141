abbrev rmX9_wouldRaise : Room := { frames := 2, cells := 0, slots := 0, locals := 46 }
set_option maxHeartbeats 4000000 in
set_option maxRecDepth 100000 in
theorem k_X9_wouldRaise (l : Launch) (D : va_G) (cI cC cB cS : ClassId) (w0 w1 w2 w4 w6 w7 w8 w9 w10 w11 w12 : Nat) (p0 p1 p2 p3 : Nat) (P : PL) (s0 s1 s2 s3 : Nat) (S : ST) (k : Nat) (hw : pWF P) (hi : sHi S) (hpa : S.2.2.2.1 < 64) (hk : k < P.2.2.2.2.2.1) : CI l D (kT cI cC cB cS) yX9_wouldRaise wsX9_wouldRaise rmX9_wouldRaise [.ref w0, .int (nI k)] (rwW w0 w1 w2 p0 w4 s0 w6 w7 w8 w9 w10 w11 w12 ++ plW p0 p1 p2 p3 cI P ++ stW s0 s1 s2 s3 cI S) (fun r u => r = nI (wouldR P S k) ∧ u = rwW w0 w1 w2 p0 w4 s0 w6 w7 w8 w9 w10 w11 w12 ++ plW p0 p1 p2 p3 cI P ++ stW s0 s1 s2 s3 cI S) := by
  refine ci_intro (by decide) rfl (Nat.le_of_ble_eq_true rfl) ?_
  intro p e s m args below meth c ls A QF hF hK hP hV hS hA hN hl hret
  obtain ⟨hx, hb, hml, hown, hts⟩ := id hF
  have hP : va_P D vwCl (rwW w0 w1 w2 p0 w4 s0 w6 w7 w8 w9 w10 w11 w12 ++ plW p0 p1 p2 p3 cI P ++ stW s0 s1 s2 s3 cI S) s.heap := hP
  have hl : lv_has ls 3 [(0, .ref w0), (1, .int (nI k))] := hl
  have wf26 := hts (.fieldLink RX9 26 "RemorseWall" "plan" "LRemorseWall$Plan;") (by decide +kernel)
  have wf36 := hts (.fieldLink RX9 36 "RemorseWall" "now" "LRemorseWall$Standing;") (by decide +kernel)
  have hiX9 : ∀ w ∈ u_ws RX9 TX9 12, w ∈ wsX9_wouldRaise := by decide +kernel
  have mk_min_s := hts (.static Lib.Math.min.name) (by decide +kernel)
  have mk_min_i := hts (.initialized "java/lang/Math") (by decide +kernel)
  have mk_min_c := hts (.code Lib.Math.min.name Lib.Math.min.code 2 (some .int)) (by decide +kernel)
  have mk_min_162 := hts (.methodLink RX9 162 Lib.Math.min.name) (by decide +kernel)
  obtain ⟨hp, hc1, hce, hme⟩ := id hw
  obtain ⟨hp1, hp2, hp3, hp4, hp5, hp6, hp7⟩ := id hp
  have hk0 := hce k hk
  have hcl := pCells_le hp
  have hsa := sAt_le hi ((P.2.1 (k * 4 + 1) : Nat) : Int)
  refine lv_aload_n (pc := 0) hx hb dX9_wouldRaise_0 rfl (lv_at hl 0 rfl) ?_
  refine va_get (pc := 1) (D := D) (ci := 9) (v := .ref s0) (C := RX9) (T := TX9) (N := 12) hx hb hts hiX9 hown hK hP 0 rfl rfl 4 (by decide) wf36 (fun _ h9 => h9) rfl dX9_wouldRaise_1 ?_
  refine lv_iload_n (pc := 4) hx hb dX9_wouldRaise_4 rfl (lv_at hl 1 rfl) ?_
  refine ci_Vd (pc := 5) (r0 := nI (if sPard S k then 1 else 0)) hF hN hK hP hV hS hA (k_X8_isPardoned l D cI cC cB cS s0 s1 s2 s3 S k hpa (by omega)) (cwV 1 hts gX9_wouldRaise_X8_isPardoned rfl rfl rfl (by decide +kernel) ⟨Nat.le_of_ble_eq_true rfl, Nat.le_of_ble_eq_true rfl⟩) [5, 6, 7, 8] rfl (by decide) 0 8 rfl rfl rfl hl.1 rfl (Nat.le_of_ble_eq_true rfl) dX9_wouldRaise_5 ⟨Nat.le_refl _, Nat.le_refl _⟩ rfl (ws2 := rwW w0 w1 w2 p0 w4 s0 w6 w7 w8 w9 w10 w11 w12 ++ plW p0 p1 p2 p3 cI P ++ stW s0 s1 s2 s3 cI S) rfl (fun H locs hP hS => ?_)
  refine rb_eq (pc := 8) (tgt := 13) hx hb dX9_wouldRaise_8 (by decide) (fun c8 => ?_) (fun c8 => ?_)
  · refine lv_aload_n (pc := 13) hx hb dX9_wouldRaise_13 rfl (lv_at hl 0 rfl) ?_
    refine va_get (pc := 14) (D := D) (ci := 9) (v := .ref s0) (C := RX9) (T := TX9) (N := 12) hx hb hts hiX9 hown hK hP 0 rfl rfl 4 (by decide) wf36 (fun _ h9 => h9) rfl dX9_wouldRaise_14 ?_
    refine lv_aload_n (pc := 17) hx hb dX9_wouldRaise_17 rfl (lv_at hl 0 rfl) ?_
    refine va_get (pc := 18) (D := D) (ci := 9) (v := .ref p0) (C := RX9) (T := TX9) (N := 12) hx hb hts hiX9 hown hK hP 0 rfl rfl 2 (by decide) wf26 (fun _ h9 => h9) rfl dX9_wouldRaise_18 ?_
    refine lv_iload_n (pc := 21) hx hb dX9_wouldRaise_21 rfl (lv_at hl 1 rfl) ?_
    refine lv_iconst (pc := 22) (v := nI 1) hx hb dX9_wouldRaise_22 (by decide) ?_
    refine ci_Vd (pc := 23) (r0 := nI (P.2.1 (k * 4 + 1))) hF hN hK hP hV hS hA (k_X2_ofCase l D cI cC cB cS p0 p1 p2 p3 P k 1 hp (by omega) (by omega)) (cwV 2 hts gX9_wouldRaise_X2_ofCase rfl rfl rfl (by decide +kernel) ⟨Nat.le_of_ble_eq_true rfl, Nat.le_of_ble_eq_true rfl⟩) [1, 2, 3, 4] rfl (by decide) 0 2 rfl rfl rfl hl.1 rfl (Nat.le_of_ble_eq_true rfl) dX9_wouldRaise_23 ⟨Nat.le_refl _, Nat.le_refl _⟩ rfl (ws2 := rwW w0 w1 w2 p0 w4 s0 w6 w7 w8 w9 w10 w11 w12 ++ plW p0 p1 p2 p3 cI P ++ stW s0 s1 s2 s3 cI S) rfl (fun H locs hP hS => ?_)
    have fq2 := hp.2.1 (k * 4 + 1)
    refine ci_Vd (pc := 26) (r0 := nI (sAt S ((P.2.1 (k * 4 + 1) : Nat) : Int))) hF hN hK hP hV hS hA (k_X8_highAt l D cI cC cB cS s0 s1 s2 s3 S (nI (P.2.1 (k * 4 + 1))) ((P.2.1 (k * 4 + 1) : Nat) : Int) (tI_nI (by omega))) (cwV 1 hts gX9_wouldRaise_X8_highAt rfl rfl rfl (by decide +kernel) ⟨Nat.le_of_ble_eq_true rfl, Nat.le_of_ble_eq_true rfl⟩) [5, 6, 7, 8] rfl (by decide) 0 8 rfl rfl rfl hl.1 rfl (Nat.le_of_ble_eq_true rfl) dX9_wouldRaise_26 ⟨Nat.le_refl _, Nat.le_refl _⟩ rfl (ws2 := rwW w0 w1 w2 p0 w4 s0 w6 w7 w8 w9 w10 w11 w12 ++ plW p0 p1 p2 p3 cI P ++ stW s0 s1 s2 s3 cI S) rfl (fun H locs hP hS => ?_)
    refine lv_istore_n (pc := 29) (lv' := [(2, .int (nI (sAt S ((P.2.1 (k * 4 + 1) : Nat) : Int)))), (0, .ref w0), (1, .int (nI k))]) hx hb dX9_wouldRaise_29 rfl hl (by decide) rfl (fun ls hl => ?_)
    refine lv_aload_n (pc := 30) hx hb dX9_wouldRaise_30 rfl (lv_at hl 1 rfl) ?_
    refine va_get (pc := 31) (D := D) (ci := 9) (v := .ref p0) (C := RX9) (T := TX9) (N := 12) hx hb hts hiX9 hown hK hP 0 rfl rfl 2 (by decide) wf26 (fun _ h9 => h9) rfl dX9_wouldRaise_31 ?_
    refine lv_iload_n (pc := 34) hx hb dX9_wouldRaise_34 rfl (lv_at hl 2 rfl) ?_
    refine lv_iload_n (pc := 35) hx hb dX9_wouldRaise_35 rfl (lv_at hl 0 rfl) ?_
    refine ci_Vd (pc := 36) (r0 := nI (raiseOwn P k (sAt S ((P.2.1 (k * 4 + 1) : Nat) : Int)))) hF hN hK hP hV hS hA (k_X2_raisesOwn l D cI cC cB cS p0 p1 p2 p3 P k (sAt S ((P.2.1 (k * 4 + 1) : Nat) : Int)) hp (by omega) (by omega)) (cwV 2 hts gX9_wouldRaise_X2_raisesOwn rfl rfl rfl (by decide +kernel) ⟨Nat.le_of_ble_eq_true rfl, Nat.le_of_ble_eq_true rfl⟩) [1, 2, 3, 4] rfl (by decide) 0 2 rfl rfl rfl hl.1 rfl (Nat.le_of_ble_eq_true rfl) dX9_wouldRaise_36 ⟨Nat.le_refl _, Nat.le_refl _⟩ rfl (ws2 := rwW w0 w1 w2 p0 w4 s0 w6 w7 w8 w9 w10 w11 w12 ++ plW p0 p1 p2 p3 cI P ++ stW s0 s1 s2 s3 cI S) rfl (fun H locs hP hS => ?_)
    have fq4 := raiseOwn_le hp k (sAt S ((P.2.1 (k * 4 + 1) : Nat) : Int))
    refine lv_bipush (pc := 39) (v := nI 40) hx hb dX9_wouldRaise_39 (by decide) ?_
    refine lv_iload_n (pc := 41) hx hb dX9_wouldRaise_41 rfl (lv_at hl 0 rfl) ?_
    refine rn_isub (pc := 42) hx hb (by omega) dX9_wouldRaise_42 ?_
    refine va_mmin (pc := 43) hx hb (hml.trans hl.1.symm) hown mk_min_162 mk_min_s mk_min_i mk_min_c (Nat.le_of_ble_eq_true rfl) (Nat.le_of_ble_eq_true rfl) (Nat.le_refl _) (Nat.le_refl _) dX9_wouldRaise_43 ?_
    refine r_top (nI_min (by omega) (by omega)) ?_
    exact hret 46 _ hP hS dX9_wouldRaise_46 rfl rfl ⟨(by unfold wouldR; (repeat' split) <;> first | (exfalso; omega) | rfl), rfl⟩
  · refine lv_iconst (pc := 11) (v := nI 0) hx hb dX9_wouldRaise_11 (by decide) ?_
    exact hret 12 _ hP hS dX9_wouldRaise_12 rfl rfl ⟨(by unfold wouldR; (repeat' split) <;> first | (exfalso; omega) | rfl), rfl⟩
