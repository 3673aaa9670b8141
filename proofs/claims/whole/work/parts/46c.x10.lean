abbrev rmX10_stroke : Room := { frames := 3, cells := 0, slots := 0, locals := 68 }
set_option maxHeartbeats 4000000 in
set_option maxRecDepth 100000 in
theorem k_X10_stroke (l : Launch) (D : va_G) (cI cC cB cS : ClassId) (o : Nat) (ad : Nat → Nat) (P : PL) (I : RI) (sl : Nat → Nat) (wa : Nat → Nat) (ir : Nat → Nat) (x1 : Int32) (z1 : Int) (hz1 : x1.toInt = z1) (x2 : Int32) (z2 : Int) (hz2 : x2.toInt = z2) (S : ST) (ms : Nat → Nat) (hpk : plOK P) (hst : stOK P S) (hm : rM P wa ir ms) (hf0 : rF P sl 0 S) (hsb : sB sl) (hir : ∀ j, ir j < 100) (hwa : ∀ j, wa j < 100) (hac : I.2.2.2.2.1 ≤ 8) : CI l D (kT cI cC cB cS) yX10_stroke wsX10_stroke rmX10_stroke [.ref o, .int (x1), .int (x2)] ([rmE o ad (pCells P) P.2.2.2.1 P.2.2.2.2.2.1 P.2.2.2.2.2.2 I, nE 384 (ad 25) cI sl, nE 3 (ad 9) cI wa, nE 3 (ad 10) cI ir]) (fun r u => r = jI (zStroke P S z1 z2) ∧ ∃ (f : Nat → Nat) (ac : Nat), u = [rmE o ad (pCells P) P.2.2.2.1 P.2.2.2.2.2.1 P.2.2.2.2.2.2 (I.1, I.2.1, I.2.2.1, I.2.2.2.1, ac, I.2.2.2.2.2.1, I.2.2.2.2.2.2.1, I.2.2.2.2.2.2.2.1, I.2.2.2.2.2.2.2.2.1, I.2.2.2.2.2.2.2.2.2.1, I.2.2.2.2.2.2.2.2.2.2.1, I.2.2.2.2.2.2.2.2.2.2.2), nE 384 (ad 25) cI f, nE 3 (ad 9) cI wa, nE 3 (ad 10) cI ir] ∧ ((aStroke P S z1 z2 ∧ ac = (if I.2.2.2.2.1 = 8 then 8 else I.2.2.2.2.1 + 1) ∧ aRel P sl I.2.2.2.2.1 f (strS P S z1.toNat z2.toNat)) ∨ (¬ (aStroke P S z1 z2) ∧ f = sl ∧ ac = I.2.2.2.2.1))) := by
  refine ci_intro (by decide) rfl (Nat.le_of_ble_eq_true rfl) ?_
  intro p e s m args below meth c ls A QF hF hK hP hV hS hA hN hl hret
  obtain ⟨hx, hb, hml, hown, hts⟩ := id hF
  have hP : va_P D vwCl ([rmE o ad (pCells P) P.2.2.2.1 P.2.2.2.2.2.1 P.2.2.2.2.2.2 I, nE 384 (ad 25) cI sl, nE 3 (ad 9) cI wa, nE 3 (ad 10) cI ir]) s.heap := hP
  have hl : lv_has ls 3 [(0, .ref o), (1, .int (x1)), (2, .int (x2))] := hl
  have wf61 := hts (.fieldLink RX10 61 "RemorseWallModel" "slot" "[I") (by decide +kernel)
  have hiX10 : ∀ w ∈ u_ws RX10 TX10 44, w ∈ wsX10_stroke := by decide +kernel
  have hw := hpk.1
  obtain ⟨hp, hc1, hce, hme⟩ := id hw
  obtain ⟨hp1, hp2, hp3, hp4, hp5, hp6, hp7⟩ := id hp
  have hcl := pCells_le hp
  have hs : sHi S := hst.1
  have hr1 := i32_rng x1
  rw [hz1] at hr1
  have hr2 := i32_rng x2
  rw [hz2] at hr2
  have hslb := sB_h hsb
  refine lv_aload_n (pc := 0) hx hb dX10_stroke_0 rfl (lv_at hl 0 rfl) ?_
  refine lv_iload_n (pc := 1) hx hb dX10_stroke_1 rfl (lv_at hl 1 rfl) ?_
  refine ci_Vd (pc := 2) (r0 := nI (if okX (P.2.2.2.2.2.2) z1 then 1 else 0)) hF hN hK hP hV hS hA (k_X10_isMaid l D cI cC cB cS o ad P I (x1) z1 hz1 hp) (cwV 1 hts gX10_stroke_X10_isMaid rfl rfl rfl (by decide +kernel) ⟨Nat.le_of_ble_eq_true rfl, Nat.le_of_ble_eq_true rfl⟩) [0] rfl (by decide) 0 10 rfl rfl rfl hl.1 rfl (Nat.le_of_ble_eq_true rfl) dX10_stroke_2 ⟨Nat.le_refl _, Nat.le_refl _⟩ rfl (ws2 := [rmE o ad (pCells P) P.2.2.2.1 P.2.2.2.2.2.1 P.2.2.2.2.2.2 I, nE 384 (ad 25) cI sl, nE 3 (ad 9) cI wa, nE 3 (ad 10) cI ir]) rfl (fun H locs hP hS => ?_)
  refine rb_eq (pc := 5) (tgt := 16) hx hb dX10_stroke_5 (by decide) (fun c5 => ?_) (fun c5 => ?_)
  · refine lv_iconst (pc := 16) (v := jI (-1)) hx hb dX10_stroke_16 (by decide) ?_
    exact hret 17 _ hP hS dX10_stroke_17 rfl rfl ⟨(by unfold zStroke; (repeat' split) <;> first | (exfalso; omega) | rfl), sl, I.2.2.2.2.1, rfl, Or.inr ⟨(fun q => by omega), rfl, rfl⟩⟩
  · refine lv_aload_n (pc := 8) hx hb dX10_stroke_8 rfl (lv_at hl 0 rfl) ?_
    refine lv_iload_n (pc := 9) hx hb dX10_stroke_9 rfl (lv_at hl 2 rfl) ?_
    refine ci_Vd (pc := 10) (r0 := nI (if okX (pCells P) z2 then 1 else 0)) hF hN hK hP hV hS hA (k_X10_isCell l D cI cC cB cS o ad P I (x2) z2 hz2 hp) (cwV 1 hts gX10_stroke_X10_isCell rfl rfl rfl (by decide +kernel) ⟨Nat.le_of_ble_eq_true rfl, Nat.le_of_ble_eq_true rfl⟩) [0] rfl (by decide) 0 10 rfl rfl rfl hl.1 rfl (Nat.le_of_ble_eq_true rfl) dX10_stroke_10 ⟨Nat.le_refl _, Nat.le_refl _⟩ rfl (ws2 := [rmE o ad (pCells P) P.2.2.2.1 P.2.2.2.2.2.1 P.2.2.2.2.2.2 I, nE 384 (ad 25) cI sl, nE 3 (ad 9) cI wa, nE 3 (ad 10) cI ir]) rfl (fun H locs hP hS => ?_)
    refine rb_ne (pc := 13) (tgt := 18) hx hb dX10_stroke_13 (by decide) (fun c13 => ?_) (fun c13 => ?_)
    · obtain ⟨k, rfl⟩ : ∃ k : Nat, z1 = k := ⟨z1.toNat, by omega⟩
      obtain rfl : x1 = nI k := eq_nI hz1
      obtain ⟨x, rfl⟩ : ∃ k : Nat, z2 = k := ⟨z2.toNat, by omega⟩
      obtain rfl : x2 = nI x := eq_nI hz2
      have hplk := hst.2.2.1 k
      have hp27 : sl (0 + 27 + k) = S.2.2.1 k := hf0.2.1 k (by omega)
      have hcan := can_rel (x := x) (show k < P.2.2.2.2.2.2 by omega) (show k < 3 by omega) hf0.1 hf0.2.1
      refine lv_aload_n (pc := 18) hx hb dX10_stroke_18 rfl (lv_at hl 0 rfl) ?_
      refine lv_iconst (pc := 19) (v := nI 0) hx hb dX10_stroke_19 (by decide) ?_
      refine lv_iload_n (pc := 20) hx hb dX10_stroke_20 rfl (lv_at hl 1 rfl) ?_
      refine lv_iload_n (pc := 21) hx hb dX10_stroke_21 rfl (lv_at hl 2 rfl) ?_
      refine ci_Vd (pc := 22) (r0 := nI (if rCan P sl 0 k x then 1 else 0)) hF hN hK hP hV hS hA (k_X10_canStrike l D cI cC cB cS o ad P I sl 0 k x hp hslb (by omega) (by omega) (by omega) (by omega)) (cwV 3 hts gX10_stroke_X10_canStrike rfl rfl rfl (by decide +kernel) ⟨Nat.le_of_ble_eq_true rfl, Nat.le_of_ble_eq_true rfl⟩) [0, 1] rfl (by decide) 0 10 rfl rfl rfl hl.1 rfl (Nat.le_of_ble_eq_true rfl) dX10_stroke_22 ⟨Nat.le_refl _, Nat.le_refl _⟩ rfl (ws2 := [rmE o ad (pCells P) P.2.2.2.1 P.2.2.2.2.2.1 P.2.2.2.2.2.2 I, nE 384 (ad 25) cI sl, nE 3 (ad 9) cI wa, nE 3 (ad 10) cI ir]) rfl (fun H locs hP hS => ?_)
      refine rb_ne (pc := 25) (tgt := 31) hx hb dX10_stroke_25 (by decide) (fun c25 => ?_) (fun c25 => ?_)
      · refine lv_aload_n (pc := 31) hx hb dX10_stroke_31 rfl (lv_at hl 0 rfl) ?_
        refine cv_Vd (pc := 32) hF hN hK hP hV hS hA (k_X10_known l D cI cC cB cS o ad P I sl hac) (cwV 0 hts gX10_stroke_X10_known rfl rfl rfl (by decide +kernel) ⟨Nat.le_of_ble_eq_true rfl, Nat.le_of_ble_eq_true rfl⟩) [0, 1] rfl (by decide) 0 10 rfl rfl rfl hl.1 rfl (Nat.le_of_ble_eq_true rfl) dX10_stroke_32 ⟨Nat.le_refl _, Nat.le_refl _⟩ rfl (ws2 := [rmE o ad (pCells P) P.2.2.2.1 P.2.2.2.2.2.1 P.2.2.2.2.2.2 (I.1, I.2.1, I.2.2.1, I.2.2.2.1, if I.2.2.2.2.1 = 8 then 8 else I.2.2.2.2.1 + 1, I.2.2.2.2.2.1, I.2.2.2.2.2.2.1, I.2.2.2.2.2.2.2.1, I.2.2.2.2.2.2.2.2.1, I.2.2.2.2.2.2.2.2.2.1, I.2.2.2.2.2.2.2.2.2.2.1, I.2.2.2.2.2.2.2.2.2.2.2), nE 384 (ad 25) cI (kn sl I.2.2.2.2.1), nE 3 (ad 9) cI wa, nE 3 (ad 10) cI ir]) rfl (fun H locs hP hS => ?_)
        refine lv_aload_n (pc := 35) hx hb dX10_stroke_35 rfl (lv_at hl 0 rfl) ?_
        refine lv_iconst (pc := 36) (v := nI 0) hx hb dX10_stroke_36 (by decide) ?_
        refine lv_iload_n (pc := 37) hx hb dX10_stroke_37 rfl (lv_at hl 1 rfl) ?_
        refine lv_iload_n (pc := 38) hx hb dX10_stroke_38 rfl (lv_at hl 2 rfl) ?_
        refine cv_Vd (pc := 39) hF hN hK hP hV hS hA (k_X10_strikes l D cI cC cB cS o ad P (I.1, I.2.1, I.2.2.1, I.2.2.2.1, if I.2.2.2.2.1 = 8 then 8 else I.2.2.2.2.1 + 1, I.2.2.2.2.2.1, I.2.2.2.2.2.2.1, I.2.2.2.2.2.2.2.1, I.2.2.2.2.2.2.2.2.1, I.2.2.2.2.2.2.2.2.2.1, I.2.2.2.2.2.2.2.2.2.2.1, I.2.2.2.2.2.2.2.2.2.2.2) (kn sl I.2.2.2.2.1) wa ir 0 k x hp (kn_b hslb) hir hwa (by omega) (by omega) (by omega) (by rw [kn_lo (by omega)]; exact c25.1)) (cwV 3 hts gX10_stroke_X10_strikes rfl rfl rfl (by decide +kernel) ⟨Nat.le_of_ble_eq_true rfl, Nat.le_of_ble_eq_true rfl⟩) [0, 1, 2, 3] rfl (by decide) 0 10 rfl rfl rfl hl.1 rfl (Nat.le_of_ble_eq_true rfl) dX10_stroke_39 ⟨Nat.le_refl _, Nat.le_refl _⟩ rfl (ws2 := [rmE o ad (pCells P) P.2.2.2.1 P.2.2.2.2.2.1 P.2.2.2.2.2.2 (I.1, I.2.1, I.2.2.1, I.2.2.2.1, if I.2.2.2.2.1 = 8 then 8 else I.2.2.2.2.1 + 1, I.2.2.2.2.2.1, I.2.2.2.2.2.2.1, I.2.2.2.2.2.2.2.1, I.2.2.2.2.2.2.2.2.1, I.2.2.2.2.2.2.2.2.2.1, I.2.2.2.2.2.2.2.2.2.2.1, I.2.2.2.2.2.2.2.2.2.2.2), nE 384 (ad 25) cI (rStr P wa ir 0 k x (kn sl I.2.2.2.2.1)), nE 3 (ad 9) cI wa, nE 3 (ad 10) cI ir]) rfl (fun H locs hP hS => ?_)
        refine lv_aload_n (pc := 42) hx hb dX10_stroke_42 rfl (lv_at hl 0 rfl) ?_
        refine va_get (pc := 43) (D := D) (ci := 10) (v := .ref (ad 25)) (C := RX10) (T := TX10) (N := 44) hx hb hts hiX10 hown hK hP 0 rfl rfl 25 (by decide) wf61 (fun _ h9 => h9) rfl dX10_stroke_43 ?_
        refine lv_iload_n (pc := 46) hx hb dX10_stroke_46 rfl (lv_at hl 2 rfl) ?_
        refine ra_iald (pc := 47) (k := x) (v := nI ((rStr P wa ir 0 k x (kn sl I.2.2.2.2.1)) x)) hx hb hK hP 1 0 rfl rfl (by omega) (by decide) rfl dX10_stroke_47 ?_
        exact hret 48 _ hP hS dX10_stroke_48 rfl rfl (by have hR := stroke_rel (ac := I.2.2.2.2.1) hw hm (show k < P.2.2.2.2.2.2 by omega) (show x < pCells P by omega) hf0 hs hsb; exact ⟨(by unfold zStroke; rw [if_pos (by omega), Int.toNat_natCast, Int.toNat_natCast, if_pos (hcan.mp c25), hR.2]; exact jI_nat _), _, _, rfl, Or.inl ⟨⟨(by omega), hcan.mp c25⟩, rfl, hR.1⟩⟩)
      · refine lv_bipush (pc := 28) (v := jI (-2)) hx hb dX10_stroke_28 (by decide) ?_
        exact hret 30 _ hP hS dX10_stroke_30 rfl rfl ⟨(by unfold zStroke; rw [if_pos (by omega), Int.toNat_natCast, Int.toNat_natCast, if_neg (fun q => c25 (hcan.mpr q))]), sl, I.2.2.2.2.1, rfl, Or.inr ⟨(fun q => c25 (hcan.mpr q.2)), rfl, rfl⟩⟩
    · refine lv_iconst (pc := 16) (v := jI (-1)) hx hb dX10_stroke_16 (by decide) ?_
      exact hret 17 _ hP hS dX10_stroke_17 rfl rfl ⟨(by unfold zStroke; (repeat' split) <;> first | (exfalso; omega) | rfl), sl, I.2.2.2.2.1, rfl, Or.inr ⟨(fun q => by omega), rfl, rfl⟩⟩
