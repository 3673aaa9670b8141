abbrev rmX10_maid : Room := { frames := 2, cells := 0, slots := 0, locals := 46 }
set_option maxHeartbeats 4000000 in
set_option maxRecDepth 100000 in
theorem k_X10_maid (l : Launch) (D : va_G) (cI cC cB cS : ClassId) (o : Nat) (ad : Nat → Nat) (P : PL) (I : RI) (sl : Nat → Nat) (wa : Nat → Nat) (ir : Nat → Nat) (x1 : Int32) (z1 : Int) (hz1 : x1.toInt = z1) (x2 : Int32) (z2 : Int) (hz2 : x2.toInt = z2) (S : ST) (ms : Nat → Nat) (hpk : plOK P) (hst : stOK P S) (hm : rM P wa ir ms) (hf0 : rF P sl 0 S) (hsb : sB sl) (hir : ∀ j, ir j < 100) (hwa : ∀ j, wa j < 100) : CI l D (kT cI cC cB cS) yX10_maid wsX10_maid rmX10_maid [.ref o, .int (x1), .int (x2)] ([rmE o ad (pCells P) P.2.2.2.1 P.2.2.2.2.2.1 P.2.2.2.2.2.2 I, nE 384 (ad 25) cI sl, nE 3 (ad 9) cI wa, nE 3 (ad 10) cI ir]) (fun r u => r = jI (zMaid P S z1 z2) ∧ u = [rmE o ad (pCells P) P.2.2.2.1 P.2.2.2.2.2.1 P.2.2.2.2.2.2 I, nE 384 (ad 25) cI sl, nE 3 (ad 9) cI wa, nE 3 (ad 10) cI ir]) := by
  refine ci_intro (by decide) rfl (Nat.le_of_ble_eq_true rfl) ?_
  intro p e s m args below meth c ls A QF hF hK hP hV hS hA hN hl hret
  obtain ⟨hx, hb, hml, hown, hts⟩ := id hF
  have hP : va_P D vwCl ([rmE o ad (pCells P) P.2.2.2.1 P.2.2.2.2.2.1 P.2.2.2.2.2.2 I, nE 384 (ad 25) cI sl, nE 3 (ad 9) cI wa, nE 3 (ad 10) cI ir]) s.heap := hP
  have hl : lv_has ls 3 [(0, .ref o), (1, .int (x1)), (2, .int (x2))] := hl
  have wf25 := hts (.fieldLink RX10 25 "RemorseWallModel" "way" "[I") (by decide +kernel)
  have wf28 := hts (.fieldLink RX10 28 "RemorseWallModel" "iron" "[I") (by decide +kernel)
  have wf61 := hts (.fieldLink RX10 61 "RemorseWallModel" "slot" "[I") (by decide +kernel)
  have hiX10 : ∀ w ∈ u_ws RX10 TX10 44, w ∈ wsX10_maid := by decide +kernel
  have hw := hpk.1
  obtain ⟨hp, hc1, hce, hme⟩ := id hw
  obtain ⟨hp1, hp2, hp3, hp4, hp5, hp6, hp7⟩ := id hp
  have hcl := pCells_le hp
  have hs : sHi S := hst.1
  have hr1 := i32_rng x1
  rw [hz1] at hr1
  have hr2 := i32_rng x2
  rw [hz2] at hr2
  have hslb := sB_h hsb
  refine lv_aload_n (pc := 0) hx hb dX10_maid_0 rfl (lv_at hl 0 rfl) ?_
  refine lv_iload_n (pc := 1) hx hb dX10_maid_1 rfl (lv_at hl 1 rfl) ?_
  refine ci_Vd (pc := 2) (r0 := nI (if okX (P.2.2.2.2.2.2) z1 then 1 else 0)) hF hN hK hP hV hS hA (k_X10_isMaid l D cI cC cB cS o ad P I (x1) z1 hz1 hp) (cwV 1 hts gX10_maid_X10_isMaid rfl rfl rfl (by decide +kernel) ⟨Nat.le_of_ble_eq_true rfl, Nat.le_of_ble_eq_true rfl⟩) [0] rfl (by decide) 0 10 rfl rfl rfl hl.1 rfl (Nat.le_of_ble_eq_true rfl) dX10_maid_2 ⟨Nat.le_refl _, Nat.le_refl _⟩ rfl (ws2 := [rmE o ad (pCells P) P.2.2.2.1 P.2.2.2.2.2.1 P.2.2.2.2.2.2 I, nE 384 (ad 25) cI sl, nE 3 (ad 9) cI wa, nE 3 (ad 10) cI ir]) rfl (fun H locs hP hS => ?_)
  refine rb_eq (pc := 5) (tgt := 20) hx hb dX10_maid_5 (by decide) (fun c5 => ?_) (fun c5 => ?_)
  · refine lv_iconst (pc := 20) (v := jI (-1)) hx hb dX10_maid_20 (by decide) ?_
    exact hret 21 _ hP hS dX10_maid_21 rfl rfl ⟨(by unfold zMaid; (repeat' split) <;> first | (exfalso; omega) | rfl), rfl⟩
  · refine lv_iload_n (pc := 8) hx hb dX10_maid_8 rfl (lv_at hl 2 rfl) ?_
    refine lv_i2l (pc := 9) (v := jL z2) hx hb dX10_maid_9 (i2l_j hz2) ?_
    refine lv_lconst (pc := 10) (v := jL 0) hx hb dX10_maid_10 (by decide) ?_
    refine lv_ldc2 (pc := 11) (v := jL 4) hx hb hown (hts (.constantLong RX10 242 (jL 4)) (by decide +kernel)) dX10_maid_11 ?_
    refine ci_Sd (pc := 14) hF hN hK hP hV hS hA (k_X10_in l D cI cC cB cS z2 0 4 (by omega)) (va_cwS 3 hts gX10_maid_X10_in rfl rfl rfl (by decide +kernel) ⟨Nat.le_of_ble_eq_true rfl, Nat.le_of_ble_eq_true rfl⟩) [] rfl (by decide) rfl hl.1 rfl (Nat.le_of_ble_eq_true rfl) dX10_maid_14 ⟨Nat.le_refl _, Nat.le_refl _⟩ rfl (ws2 := [rmE o ad (pCells P) P.2.2.2.1 P.2.2.2.2.2.1 P.2.2.2.2.2.2 I, nE 384 (ad 25) cI sl, nE 3 (ad 9) cI wa, nE 3 (ad 10) cI ir]) rfl (fun H locs hP hS => ?_)
    refine rb_ne (pc := 17) (tgt := 22) hx hb dX10_maid_17 (by decide) (fun c17 => ?_) (fun c17 => ?_)
    · obtain ⟨k, rfl⟩ : ∃ k : Nat, z1 = k := ⟨z1.toNat, by omega⟩
      obtain rfl : x1 = nI k := eq_nI hz1
      obtain ⟨v, rfl⟩ : ∃ k : Nat, z2 = k := ⟨z2.toNat, by omega⟩
      obtain rfl : x2 = nI v := eq_nI hz2
      obtain ⟨cs1, cs2, cs3⟩ := hm k (by omega)
      have hle := rF_le hf0 (show k < 3 by omega)
      have hpl := rF_pl hf0 (show k < P.2.2.2.2.2.2 by omega)
      have hplk := hst.2.2.1 k
      have hat := rF_at hf0 (show S.2.2.1 k < 24 by omega)
      have hsn := sAt_n (S := S) (show S.2.2.1 k < 24 by omega)
      have hlek := hst.2.1 k
      have h97 := hslb (sl (27 + k))
      refine lv_iload_n (pc := 22) hx hb dX10_maid_22 rfl (lv_at hl 2 rfl) ?_
      refine r0_ne (pc := 23) (tgt := 35) hx hb (tI_nI (by omega)) dX10_maid_23 (by decide) (fun c23 => ?_) (fun c23 => ?_)
      · refine lv_iload_n (pc := 35) hx hb dX10_maid_35 rfl (lv_at hl 2 rfl) ?_
        refine lv_iconst (pc := 36) (v := nI 1) hx hb dX10_maid_36 (by decide) ?_
        refine rc_ne (pc := 37) (tgt := 49) hx hb (tI_nI (by omega)) (tI_nI (by omega)) dX10_maid_37 (by decide) (fun c37 => ?_) (fun c37 => ?_)
        · refine lv_iload_n (pc := 49) hx hb dX10_maid_49 rfl (lv_at hl 2 rfl) ?_
          refine lv_iconst (pc := 50) (v := nI 2) hx hb dX10_maid_50 (by decide) ?_
          refine rc_ne (pc := 51) (tgt := 66) hx hb (tI_nI (by omega)) (tI_nI (by omega)) dX10_maid_51 (by decide) (fun c51 => ?_) (fun c51 => ?_)
          · refine lv_iload_n (pc := 66) hx hb dX10_maid_66 rfl (lv_at hl 2 rfl) ?_
            refine lv_iconst (pc := 67) (v := nI 3) hx hb dX10_maid_67 (by decide) ?_
            refine rc_ne (pc := 68) (tgt := 83) hx hb (tI_nI (by omega)) (tI_nI (by omega)) dX10_maid_68 (by decide) (fun c68 => ?_) (fun c68 => ?_)
            · obtain rfl : v = 4 := by omega
              refine lv_aload_n (pc := 83) hx hb dX10_maid_83 rfl (lv_at hl 0 rfl) ?_
              refine lv_iload_n (pc := 84) hx hb dX10_maid_84 rfl (lv_at hl 1 rfl) ?_
              refine lv_aload_n (pc := 85) hx hb dX10_maid_85 rfl (lv_at hl 0 rfl) ?_
              refine va_get (pc := 86) (D := D) (ci := 10) (v := .ref (ad 25)) (C := RX10) (T := TX10) (N := 44) hx hb hts hiX10 hown hK hP 0 rfl rfl 25 (by decide) wf61 (fun _ h9 => h9) rfl dX10_maid_86 ?_
              refine lv_aload_n (pc := 89) hx hb dX10_maid_89 rfl (lv_at hl 0 rfl) ?_
              refine va_get (pc := 90) (D := D) (ci := 10) (v := .ref (ad 25)) (C := RX10) (T := TX10) (N := 44) hx hb hts hiX10 hown hK hP 0 rfl rfl 25 (by decide) wf61 (fun _ h9 => h9) rfl dX10_maid_90 ?_
              refine lv_bipush (pc := 93) (v := nI 27) hx hb dX10_maid_93 (by decide) ?_
              refine lv_iload_n (pc := 95) hx hb dX10_maid_95 rfl (lv_at hl 1 rfl) ?_
              refine rn_iadd (pc := 96) hx hb dX10_maid_96 ?_
              refine ra_iald (pc := 97) (k := 27 + k) (v := nI (sl (27 + k))) hx hb hK hP 1 0 rfl rfl (by omega) (by decide) rfl dX10_maid_97 ?_
              refine ra_iald (pc := 98) (k := sl (27 + k)) (v := nI (sl (sl (27 + k)))) hx hb hK hP 1 0 rfl rfl (by omega) (by decide) rfl dX10_maid_98 ?_
              refine ci_Vd (pc := 99) (r0 := nI (rTak wa ir k (sl (sl (27 + k))))) hF hN hK hP hV hS hA (k_X10_takes l D cI cC cB cS o ad P I wa ir k (sl (sl (27 + k))) hir hwa (by omega) (by omega)) (cwV 2 hts gX10_maid_X10_takes rfl rfl rfl (by decide +kernel) ⟨Nat.le_of_ble_eq_true rfl, Nat.le_of_ble_eq_true rfl⟩) [0, 2, 3] rfl (by decide) 0 10 rfl rfl rfl hl.1 rfl (Nat.le_of_ble_eq_true rfl) dX10_maid_99 ⟨Nat.le_refl _, Nat.le_refl _⟩ rfl (ws2 := [rmE o ad (pCells P) P.2.2.2.1 P.2.2.2.2.2.1 P.2.2.2.2.2.2 I, nE 384 (ad 25) cI sl, nE 3 (ad 9) cI wa, nE 3 (ad 10) cI ir]) rfl (fun H locs hP hS => ?_)
              have fq3 := rTak_le wa ir k (sl (sl (27 + k)))
              exact hret 102 _ hP hS dX10_maid_102 rfl rfl ⟨(by rw [hpl, hat, rTak_eq hm (by omega)]; unfold zMaid; rw [if_pos (by omega), if_neg (by omega), if_neg (by omega), if_neg (by omega), if_pos (by omega), Int.toNat_natCast, hsn]; exact jI_nat _), rfl⟩
            · obtain rfl : v = 3 := by omega
              refine lv_aload_n (pc := 71) hx hb dX10_maid_71 rfl (lv_at hl 0 rfl) ?_
              refine va_get (pc := 72) (D := D) (ci := 10) (v := .ref (ad 25)) (C := RX10) (T := TX10) (N := 44) hx hb hts hiX10 hown hK hP 0 rfl rfl 25 (by decide) wf61 (fun _ h9 => h9) rfl dX10_maid_72 ?_
              refine lv_bipush (pc := 75) (v := nI 27) hx hb dX10_maid_75 (by decide) ?_
              refine lv_iload_n (pc := 77) hx hb dX10_maid_77 rfl (lv_at hl 1 rfl) ?_
              refine rn_iadd (pc := 78) hx hb dX10_maid_78 ?_
              refine ra_iald (pc := 79) (k := 27 + k) (v := nI (sl (27 + k))) hx hb hK hP 1 0 rfl rfl (by omega) (by decide) rfl dX10_maid_79 ?_
              refine lv_goto (pc := 80) (tgt := 102) hx hb dX10_maid_80 (by decide) ?_
              exact hret 102 _ hP hS dX10_maid_102 rfl rfl ⟨(by rw [hpl]; unfold zMaid; rw [if_pos (by omega), if_neg (by omega), if_neg (by omega), if_pos (by omega)]; exact jI_nat _), rfl⟩
          · obtain rfl : v = 2 := by omega
            refine lv_aload_n (pc := 54) hx hb dX10_maid_54 rfl (lv_at hl 0 rfl) ?_
            refine va_get (pc := 55) (D := D) (ci := 10) (v := .ref (ad 25)) (C := RX10) (T := TX10) (N := 44) hx hb hts hiX10 hown hK hP 0 rfl rfl 25 (by decide) wf61 (fun _ h9 => h9) rfl dX10_maid_55 ?_
            refine lv_bipush (pc := 58) (v := nI 24) hx hb dX10_maid_58 (by decide) ?_
            refine lv_iload_n (pc := 60) hx hb dX10_maid_60 rfl (lv_at hl 1 rfl) ?_
            refine rn_iadd (pc := 61) hx hb dX10_maid_61 ?_
            refine ra_iald (pc := 62) (k := 24 + k) (v := nI (sl (24 + k))) hx hb hK hP 1 0 rfl rfl (by omega) (by decide) rfl dX10_maid_62 ?_
            refine lv_goto (pc := 63) (tgt := 102) hx hb dX10_maid_63 (by decide) ?_
            exact hret 102 _ hP hS dX10_maid_102 rfl rfl ⟨(by rw [hle]; unfold zMaid; rw [if_pos (by omega), if_neg (by omega), if_pos (by omega)]; exact jI_nat _), rfl⟩
        · obtain rfl : v = 1 := by omega
          refine lv_aload_n (pc := 40) hx hb dX10_maid_40 rfl (lv_at hl 0 rfl) ?_
          refine va_get (pc := 41) (D := D) (ci := 10) (v := .ref (ad 10)) (C := RX10) (T := TX10) (N := 44) hx hb hts hiX10 hown hK hP 0 rfl rfl 10 (by decide) wf28 (fun _ h9 => h9) rfl dX10_maid_41 ?_
          refine lv_iload_n (pc := 44) hx hb dX10_maid_44 rfl (lv_at hl 1 rfl) ?_
          refine ra_iald (pc := 45) (k := k) (v := nI (ir k)) hx hb hK hP 3 0 rfl rfl (by omega) (by decide) rfl dX10_maid_45 ?_
          refine lv_goto (pc := 46) (tgt := 102) hx hb dX10_maid_46 (by decide) ?_
          exact hret 102 _ hP hS dX10_maid_102 rfl rfl ⟨(by rw [cs2]; unfold zMaid; rw [if_pos (by omega), if_pos (by omega)]; exact jI_nat _), rfl⟩
      · obtain rfl : v = 0 := by omega
        refine lv_aload_n (pc := 26) hx hb dX10_maid_26 rfl (lv_at hl 0 rfl) ?_
        refine va_get (pc := 27) (D := D) (ci := 10) (v := .ref (ad 9)) (C := RX10) (T := TX10) (N := 44) hx hb hts hiX10 hown hK hP 0 rfl rfl 9 (by decide) wf25 (fun _ h9 => h9) rfl dX10_maid_27 ?_
        refine lv_iload_n (pc := 30) hx hb dX10_maid_30 rfl (lv_at hl 1 rfl) ?_
        refine ra_iald (pc := 31) (k := k) (v := nI (wa k)) hx hb hK hP 2 0 rfl rfl (by omega) (by decide) rfl dX10_maid_31 ?_
        refine lv_goto (pc := 32) (tgt := 102) hx hb dX10_maid_32 (by decide) ?_
        exact hret 102 _ hP hS dX10_maid_102 rfl rfl ⟨(by rw [cs1]; unfold zMaid; rw [if_pos (by omega), if_pos (by omega)]; exact jI_nat _), rfl⟩
    · refine lv_iconst (pc := 20) (v := jI (-1)) hx hb dX10_maid_20 (by decide) ?_
      exact hret 21 _ hP hS dX10_maid_21 rfl rfl ⟨(by unfold zMaid; (repeat' split) <;> first | (exfalso; omega) | rfl), rfl⟩
