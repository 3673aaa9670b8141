abbrev rmX10_pardon : Room := { frames := 2, cells := 0, slots := 0, locals := 46 }
set_option maxHeartbeats 4000000 in
set_option maxRecDepth 100000 in
theorem k_X10_pardon (l : Launch) (D : va_G) (cI cC cB cS : ClassId) (o : Nat) (ad : Nat → Nat) (P : PL) (I : RI) (sl : Nat → Nat) (x1 : Int32) (z1 : Int) (hz1 : x1.toInt = z1) (S : ST) (hpk : plOK P) (hst : stOK P S) (hx2 : stX P S) (hf0 : rF P sl 0 S) (hsb : sB sl) (hac : I.2.2.2.2.1 ≤ 8) : CI l D (kT cI cC cB cS) yX10_pardon wsX10_pardon rmX10_pardon [.ref o, .int (x1)] ([rmE o ad (pCells P) P.2.2.2.1 P.2.2.2.2.2.1 P.2.2.2.2.2.2 I, nE 384 (ad 25) cI sl]) (fun r u => r = jI (zPardon P S z1) ∧ ∃ (f : Nat → Nat) (ac : Nat), u = [rmE o ad (pCells P) P.2.2.2.1 P.2.2.2.2.2.1 P.2.2.2.2.2.2 (I.1, I.2.1, I.2.2.1, I.2.2.2.1, ac, I.2.2.2.2.2.1, I.2.2.2.2.2.2.1, I.2.2.2.2.2.2.2.1, I.2.2.2.2.2.2.2.2.1, I.2.2.2.2.2.2.2.2.2.1, I.2.2.2.2.2.2.2.2.2.2.1, I.2.2.2.2.2.2.2.2.2.2.2), nE 384 (ad 25) cI f] ∧ ((aPardon P S z1 ∧ ac = (if I.2.2.2.2.1 = 8 then 8 else I.2.2.2.2.1 + 1) ∧ aRel P sl I.2.2.2.2.1 f (parS S z1.toNat)) ∨ (¬ (aPardon P S z1) ∧ f = sl ∧ ac = I.2.2.2.2.1))) := by
  refine ci_intro (by decide) rfl (Nat.le_of_ble_eq_true rfl) ?_
  intro p e s m args below meth c ls A QF hF hK hP hV hS hA hN hl hret
  obtain ⟨hx, hb, hml, hown, hts⟩ := id hF
  have hP : va_P D vwCl ([rmE o ad (pCells P) P.2.2.2.1 P.2.2.2.2.2.1 P.2.2.2.2.2.2 I, nE 384 (ad 25) cI sl]) s.heap := hP
  have hl : lv_has ls 2 [(0, .ref o), (1, .int (x1))] := hl
  have wf61 := hts (.fieldLink RX10 61 "RemorseWallModel" "slot" "[I") (by decide +kernel)
  have hiX10 : ∀ w ∈ u_ws RX10 TX10 44, w ∈ wsX10_pardon := by decide +kernel
  have hw := hpk.1
  obtain ⟨hp, hc1, hce, hme⟩ := id hw
  obtain ⟨hp1, hp2, hp3, hp4, hp5, hp6, hp7⟩ := id hp
  have hcl := pCells_le hp
  have hs : sHi S := hst.1
  have hr1 := i32_rng x1
  rw [hz1] at hr1
  have hslb := sB_h hsb
  have hpd := rF_pd hf0
  have hs30 := hslb 30
  refine lv_aload_n (pc := 0) hx hb dX10_pardon_0 rfl (lv_at hl 0 rfl) ?_
  refine lv_iload_n (pc := 1) hx hb dX10_pardon_1 rfl (lv_at hl 1 rfl) ?_
  refine ci_Vd (pc := 2) (r0 := nI (if okX (P.2.2.2.2.2.1) z1 then 1 else 0)) hF hN hK hP hV hS hA (k_X10_isCase l D cI cC cB cS o ad P I (x1) z1 hz1 hp) (cwV 1 hts gX10_pardon_X10_isCase rfl rfl rfl (by decide +kernel) ⟨Nat.le_of_ble_eq_true rfl, Nat.le_of_ble_eq_true rfl⟩) [0] rfl (by decide) 0 10 rfl rfl rfl hl.1 rfl (Nat.le_of_ble_eq_true rfl) dX10_pardon_2 ⟨Nat.le_refl _, Nat.le_refl _⟩ rfl (ws2 := [rmE o ad (pCells P) P.2.2.2.1 P.2.2.2.2.2.1 P.2.2.2.2.2.2 I, nE 384 (ad 25) cI sl]) rfl (fun H locs hP hS => ?_)
  refine rb_ne (pc := 5) (tgt := 10) hx hb dX10_pardon_5 (by decide) (fun c5 => ?_) (fun c5 => ?_)
  · obtain ⟨k, rfl⟩ : ∃ k : Nat, z1 = k := ⟨z1.toNat, by omega⟩
    obtain rfl : x1 = nI k := eq_nI hz1
    refine lv_aload_n (pc := 10) hx hb dX10_pardon_10 rfl (lv_at hl 0 rfl) ?_
    refine va_get (pc := 11) (D := D) (ci := 10) (v := .ref (ad 25)) (C := RX10) (T := TX10) (N := 44) hx hb hts hiX10 hown hK hP 0 rfl rfl 25 (by decide) wf61 (fun _ h9 => h9) rfl dX10_pardon_11 ?_
    refine lv_bipush (pc := 14) (v := nI 30) hx hb dX10_pardon_14 (by decide) ?_
    refine ra_iald (pc := 16) (k := 30) (v := nI (sl 30)) hx hb hK hP 1 0 rfl rfl (by omega) (by decide) rfl dX10_pardon_16 ?_
    refine lv_iload_n (pc := 17) hx hb dX10_pardon_17 rfl (lv_at hl 1 rfl) ?_
    refine ci_Sd (pc := 18) hF hN hK hP hV hS hA (k_X10_has l D cI cC cB cS (sl 30) k (by omega) (by omega)) (va_cwS 2 hts gX10_pardon_X10_has rfl rfl rfl (by decide +kernel) ⟨Nat.le_of_ble_eq_true rfl, Nat.le_of_ble_eq_true rfl⟩) [] rfl (by decide) rfl hl.1 rfl (Nat.le_of_ble_eq_true rfl) dX10_pardon_18 ⟨Nat.le_refl _, Nat.le_refl _⟩ rfl (ws2 := [rmE o ad (pCells P) P.2.2.2.1 P.2.2.2.2.2.1 P.2.2.2.2.2.2 I, nE 384 (ad 25) cI sl]) rfl (fun H locs hP hS => ?_)
    refine rb_eq (pc := 21) (tgt := 27) hx hb dX10_pardon_21 (by decide) (fun c21 => ?_) (fun c21 => ?_)
    · have hpn : ¬ sPard S k := by unfold sPard; rw [← hpd]; omega
      refine lv_aload_n (pc := 27) hx hb dX10_pardon_27 rfl (lv_at hl 0 rfl) ?_
      refine cv_Vd (pc := 28) hF hN hK hP hV hS hA (k_X10_known l D cI cC cB cS o ad P I sl hac) (cwV 0 hts gX10_pardon_X10_known rfl rfl rfl (by decide +kernel) ⟨Nat.le_of_ble_eq_true rfl, Nat.le_of_ble_eq_true rfl⟩) [0, 1] rfl (by decide) 0 10 rfl rfl rfl hl.1 rfl (Nat.le_of_ble_eq_true rfl) dX10_pardon_28 ⟨Nat.le_refl _, Nat.le_refl _⟩ rfl (ws2 := [rmE o ad (pCells P) P.2.2.2.1 P.2.2.2.2.2.1 P.2.2.2.2.2.2 (I.1, I.2.1, I.2.2.1, I.2.2.2.1, if I.2.2.2.2.1 = 8 then 8 else I.2.2.2.2.1 + 1, I.2.2.2.2.2.1, I.2.2.2.2.2.2.1, I.2.2.2.2.2.2.2.1, I.2.2.2.2.2.2.2.2.1, I.2.2.2.2.2.2.2.2.2.1, I.2.2.2.2.2.2.2.2.2.2.1, I.2.2.2.2.2.2.2.2.2.2.2), nE 384 (ad 25) cI (kn sl I.2.2.2.2.1)]) rfl (fun H locs hP hS => ?_)
      refine lv_aload_n (pc := 31) hx hb dX10_pardon_31 rfl (lv_at hl 0 rfl) ?_
      refine va_get (pc := 32) (D := D) (ci := 10) (v := .ref (ad 25)) (C := RX10) (T := TX10) (N := 44) hx hb hts hiX10 hown hK hP 0 rfl rfl 25 (by decide) wf61 (fun _ h9 => h9) rfl dX10_pardon_32 ?_
      refine lv_bipush (pc := 35) (v := nI 30) hx hb dX10_pardon_35 (by decide) ?_
      refine lv_dup2_11 (pc := 37) hx hb dX10_pardon_37 rfl rfl ?_
      refine ra_iald (pc := 38) (k := 30) (v := nI ((kn sl I.2.2.2.2.1) 30)) hx hb hK hP 1 0 rfl rfl (by omega) (by decide) rfl dX10_pardon_38 ?_
      refine lv_iconst (pc := 39) (v := nI 1) hx hb dX10_pardon_39 (by decide) ?_
      refine lv_iload_n (pc := 40) hx hb dX10_pardon_40 rfl (lv_at hl 1 rfl) ?_
      refine lv_ishl (pc := 41) hx hb dX10_pardon_41 ?_
      refine r_top (nI_1shl (by omega)) ?_
      refine lv_ior (pc := 42) hx hb dX10_pardon_42 ?_
      refine r_top (nI_or _ _) ?_
      refine rn_iast (pc := 43) (f := kn sl I.2.2.2.2.1) (k := 30) (x := ((kn sl I.2.2.2.2.1) 30) ||| (2 ^ k)) (ws2 := [rmE o ad (pCells P) P.2.2.2.1 P.2.2.2.2.2.1 P.2.2.2.2.2.2 (I.1, I.2.1, I.2.2.1, I.2.2.2.1, if I.2.2.2.2.1 = 8 then 8 else I.2.2.2.2.1 + 1, I.2.2.2.2.2.1, I.2.2.2.2.2.2.1, I.2.2.2.2.2.2.2.1, I.2.2.2.2.2.2.2.2.1, I.2.2.2.2.2.2.2.2.2.1, I.2.2.2.2.2.2.2.2.2.2.1, I.2.2.2.2.2.2.2.2.2.2.2), nE 384 (ad 25) cI (va_up (kn sl I.2.2.2.2.1) 30 (((kn sl I.2.2.2.2.1) 30) ||| (2 ^ k)))]) hx hb hK hP hV hS 1 0 rfl rfl (by omega) (by decide) dX10_pardon_43 rfl rfl (fun H locs hP hS => ?_)
      have hR := pard_rel (ac := I.2.2.2.2.1) hw (show k < P.2.2.2.2.2.1 by omega) hf0 hsb hx2 hst.2.2.2.1
      have hR2 := hR.2.2
      refine lv_aload_n (pc := 44) hx hb dX10_pardon_44 rfl (lv_at hl 0 rfl) ?_
      refine lv_iconst (pc := 45) (v := nI 0) hx hb dX10_pardon_45 (by decide) ?_
      refine ci_Vd (pc := 46) (r0 := nI (opN P.2.2.2.2.2.1 ((va_up (kn sl I.2.2.2.2.1) 30 (((kn sl I.2.2.2.2.1) 30) ||| (2 ^ k))) (0 + 30)))) hF hN hK hP hV hS hA (k_X10_open l D cI cC cB cS o ad P (I.1, I.2.1, I.2.2.1, I.2.2.2.1, if I.2.2.2.2.1 = 8 then 8 else I.2.2.2.2.1 + 1, I.2.2.2.2.2.1, I.2.2.2.2.2.2.1, I.2.2.2.2.2.2.2.1, I.2.2.2.2.2.2.2.2.1, I.2.2.2.2.2.2.2.2.2.1, I.2.2.2.2.2.2.2.2.2.2.1, I.2.2.2.2.2.2.2.2.2.2.2) (va_up (kn sl I.2.2.2.2.1) 30 (((kn sl I.2.2.2.2.1) 30) ||| (2 ^ k))) 0 hp hR2 (by omega)) (cwV 1 hts gX10_pardon_X10_open rfl rfl rfl (by decide +kernel) ⟨Nat.le_of_ble_eq_true rfl, Nat.le_of_ble_eq_true rfl⟩) [0, 1] rfl (by decide) 0 10 rfl rfl rfl hl.1 rfl (Nat.le_of_ble_eq_true rfl) dX10_pardon_46 ⟨Nat.le_refl _, Nat.le_refl _⟩ rfl (ws2 := [rmE o ad (pCells P) P.2.2.2.1 P.2.2.2.2.2.1 P.2.2.2.2.2.2 (I.1, I.2.1, I.2.2.1, I.2.2.2.1, if I.2.2.2.2.1 = 8 then 8 else I.2.2.2.2.1 + 1, I.2.2.2.2.2.1, I.2.2.2.2.2.2.1, I.2.2.2.2.2.2.2.1, I.2.2.2.2.2.2.2.2.1, I.2.2.2.2.2.2.2.2.2.1, I.2.2.2.2.2.2.2.2.2.2.1, I.2.2.2.2.2.2.2.2.2.2.2), nE 384 (ad 25) cI (va_up (kn sl I.2.2.2.2.1) 30 (((kn sl I.2.2.2.2.1) 30) ||| (2 ^ k)))]) rfl (fun H locs hP hS => ?_)
      have fq4 := opN_lt P.2.2.2.2.2.1 (by omega) ((va_up (kn sl I.2.2.2.2.1) 30 (((kn sl I.2.2.2.2.1) 30) ||| (2 ^ k))) (0 + 30)) (by omega)
      refine ci_Sd (pc := 49) hF hN hK hP hV hS hA (k_X10_bits l D cI cC cB cS (opN P.2.2.2.2.2.1 ((va_up (kn sl I.2.2.2.2.1) 30 (((kn sl I.2.2.2.2.1) 30) ||| (2 ^ k))) (0 + 30))) (by omega)) (va_cwS 1 hts gX10_pardon_X10_bits rfl rfl rfl (by decide +kernel) ⟨Nat.le_of_ble_eq_true rfl, Nat.le_of_ble_eq_true rfl⟩) [] rfl (by decide) rfl hl.1 rfl (Nat.le_of_ble_eq_true rfl) dX10_pardon_49 ⟨Nat.le_refl _, Nat.le_refl _⟩ rfl (ws2 := [rmE o ad (pCells P) P.2.2.2.1 P.2.2.2.2.2.1 P.2.2.2.2.2.2 (I.1, I.2.1, I.2.2.1, I.2.2.2.1, if I.2.2.2.2.1 = 8 then 8 else I.2.2.2.2.1 + 1, I.2.2.2.2.2.1, I.2.2.2.2.2.2.1, I.2.2.2.2.2.2.2.1, I.2.2.2.2.2.2.2.2.1, I.2.2.2.2.2.2.2.2.2.1, I.2.2.2.2.2.2.2.2.2.2.1, I.2.2.2.2.2.2.2.2.2.2.2), nE 384 (ad 25) cI (va_up (kn sl I.2.2.2.2.1) 30 (((kn sl I.2.2.2.2.1) 30) ||| (2 ^ k)))]) rfl (fun H locs hP hS => ?_)
      have fq5 := popN_le6 (opN P.2.2.2.2.2.1 ((va_up (kn sl I.2.2.2.2.1) 30 (((kn sl I.2.2.2.2.1) 30) ||| (2 ^ k))) (0 + 30)))
      exact hret 52 _ hP hS dX10_pardon_52 rfl rfl ⟨(by unfold zPardon; rw [if_pos (by omega), Int.toNat_natCast, if_neg hpn, hR.2.1]; exact jI_nat _), _, _, rfl, Or.inl ⟨⟨(by omega), hpn⟩, rfl, hR.1⟩⟩
    · have hpn : sPard S k := by unfold sPard; rw [← hpd]; omega
      refine lv_bipush (pc := 24) (v := jI (-2)) hx hb dX10_pardon_24 (by decide) ?_
      exact hret 26 _ hP hS dX10_pardon_26 rfl rfl ⟨(by unfold zPardon; rw [if_pos (by omega), Int.toNat_natCast, if_pos hpn]), sl, I.2.2.2.2.1, rfl, Or.inr ⟨(fun q => q.2 hpn), rfl, rfl⟩⟩
  · refine lv_iconst (pc := 8) (v := jI (-1)) hx hb dX10_pardon_8 (by decide) ?_
    exact hret 9 _ hP hS dX10_pardon_9 rfl rfl ⟨(by unfold zPardon; rw [if_neg (by omega)]), sl, I.2.2.2.2.1, rfl, Or.inr ⟨(fun q => by omega), rfl, rfl⟩⟩
