abbrev rmX10_high : Room := { frames := 2, cells := 0, slots := 0, locals := 46 }
set_option maxHeartbeats 4000000 in
set_option maxRecDepth 100000 in
theorem k_X10_high (l : Launch) (D : va_G) (cI cC cB cS : ClassId) (o : Nat) (ad : Nat → Nat) (P : PL) (I : RI) (sl : Nat → Nat) (x1 : Int32) (z1 : Int) (hz1 : x1.toInt = z1) (S : ST) (hw : pWF P) (hf0 : rF P sl 0 S) (hsb : sB sl) : CI l D (kT cI cC cB cS) yX10_high wsX10_high rmX10_high [.ref o, .int (x1)] ([rmE o ad (pCells P) P.2.2.2.1 P.2.2.2.2.2.1 P.2.2.2.2.2.2 I, nE 384 (ad 25) cI sl]) (fun r u => r = jI (zHigh P S z1) ∧ u = [rmE o ad (pCells P) P.2.2.2.1 P.2.2.2.2.2.1 P.2.2.2.2.2.2 I, nE 384 (ad 25) cI sl]) := by
  refine ci_intro (by decide) rfl (Nat.le_of_ble_eq_true rfl) ?_
  intro p e s m args below meth c ls A QF hF hK hP hV hS hA hN hl hret
  obtain ⟨hx, hb, hml, hown, hts⟩ := id hF
  have hP : va_P D vwCl ([rmE o ad (pCells P) P.2.2.2.1 P.2.2.2.2.2.1 P.2.2.2.2.2.2 I, nE 384 (ad 25) cI sl]) s.heap := hP
  have hl : lv_has ls 2 [(0, .ref o), (1, .int (x1))] := hl
  have wf61 := hts (.fieldLink RX10 61 "RemorseWallModel" "slot" "[I") (by decide +kernel)
  have hiX10 : ∀ w ∈ u_ws RX10 TX10 44, w ∈ wsX10_high := by decide +kernel
  obtain ⟨hp, hc1, hce, hme⟩ := id hw
  obtain ⟨hp1, hp2, hp3, hp4, hp5, hp6, hp7⟩ := id hp
  have hcl := pCells_le hp
  have hslb := sB_h hsb
  refine lv_aload_n (pc := 0) hx hb dX10_high_0 rfl (lv_at hl 0 rfl) ?_
  refine lv_iload_n (pc := 1) hx hb dX10_high_1 rfl (lv_at hl 1 rfl) ?_
  refine ci_Vd (pc := 2) (r0 := nI (if okX (pCells P) z1 then 1 else 0)) hF hN hK hP hV hS hA (k_X10_isCell l D cI cC cB cS o ad P I (x1) z1 hz1 hp) (cwV 1 hts gX10_high_X10_isCell rfl rfl rfl (by decide +kernel) ⟨Nat.le_of_ble_eq_true rfl, Nat.le_of_ble_eq_true rfl⟩) [0] rfl (by decide) 0 10 rfl rfl rfl hl.1 rfl (Nat.le_of_ble_eq_true rfl) dX10_high_2 ⟨Nat.le_refl _, Nat.le_refl _⟩ rfl (ws2 := [rmE o ad (pCells P) P.2.2.2.1 P.2.2.2.2.2.1 P.2.2.2.2.2.2 I, nE 384 (ad 25) cI sl]) rfl (fun H locs hP hS => ?_)
  refine rb_eq (pc := 5) (tgt := 17) hx hb dX10_high_5 (by decide) (fun c5 => ?_) (fun c5 => ?_)
  · refine lv_iconst (pc := 17) (v := jI (-1)) hx hb dX10_high_17 (by decide) ?_
    exact hret 18 _ hP hS dX10_high_18 rfl rfl ⟨(by unfold zHigh; rw [if_neg (by omega)]), rfl⟩
  · obtain ⟨k, rfl⟩ : ∃ k : Nat, z1 = k := ⟨z1.toNat, by omega⟩
    obtain rfl : x1 = nI k := eq_nI hz1
    refine lv_aload_n (pc := 8) hx hb dX10_high_8 rfl (lv_at hl 0 rfl) ?_
    refine va_get (pc := 9) (D := D) (ci := 10) (v := .ref (ad 25)) (C := RX10) (T := TX10) (N := 44) hx hb hts hiX10 hown hK hP 0 rfl rfl 25 (by decide) wf61 (fun _ h9 => h9) rfl dX10_high_9 ?_
    refine lv_iload_n (pc := 12) hx hb dX10_high_12 rfl (lv_at hl 1 rfl) ?_
    refine ra_iald (pc := 13) (k := k) (v := nI (sl k)) hx hb hK hP 1 0 rfl rfl (by omega) (by decide) rfl dX10_high_13 ?_
    refine lv_goto (pc := 14) (tgt := 18) hx hb dX10_high_14 (by decide) ?_
    exact hret 18 _ hP hS dX10_high_18 rfl rfl ⟨(by unfold zHigh; rw [if_pos (by omega), sAt_n (by omega), ← rF_at hf0 (by omega)]; exact jI_nat _), rfl⟩
