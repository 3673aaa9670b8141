abbrev rmX10_matter : Room := { frames := 2, cells := 0, slots := 0, locals := 46 }
set_option maxHeartbeats 4000000 in
set_option maxRecDepth 100000 in
theorem k_X10_matter (l : Launch) (D : va_G) (cI cC cB cS : ClassId) (o : Nat) (ad : Nat → Nat) (P : PL) (I : RI) (sl : Nat → Nat) (so : Nat → Nat) (cl : Nat → Nat) (de : Nat → Nat) (si : Nat → Nat) (x1 : Int32) (z1 : Int) (hz1 : x1.toInt = z1) (x2 : Int32) (z2 : Int) (hz2 : x2.toInt = z2) (S : ST) (hpk : plOK P) (hst : stOK P S) (hc : rC P so cl de si) (hf0 : rF P sl 0 S) (hsb : sB sl) (hde : ∀ j, de j < 100) (hso : ∀ j, so j < 100) : CI l D (kT cI cC cB cS) yX10_matter wsX10_matter rmX10_matter [.ref o, .int (x1), .int (x2)] ([rmE o ad (pCells P) P.2.2.2.1 P.2.2.2.2.2.1 P.2.2.2.2.2.2 I, nE 384 (ad 25) cI sl, nE 6 (ad 4) cI so, nE 6 (ad 5) cI cl, nE 6 (ad 6) cI de, nE 6 (ad 7) cI si]) (fun r u => r = jI (zMatter P S z1 z2) ∧ u = [rmE o ad (pCells P) P.2.2.2.1 P.2.2.2.2.2.1 P.2.2.2.2.2.2 I, nE 384 (ad 25) cI sl, nE 6 (ad 4) cI so, nE 6 (ad 5) cI cl, nE 6 (ad 6) cI de, nE 6 (ad 7) cI si]) := by
  refine ci_intro (by decide) rfl (Nat.le_of_ble_eq_true rfl) ?_
  intro p e s m args below meth c ls A QF hF hK hP hV hS hA hN hl hret
  obtain ⟨hx, hb, hml, hown, hts⟩ := id hF
  have hP : va_P D vwCl ([rmE o ad (pCells P) P.2.2.2.1 P.2.2.2.2.2.1 P.2.2.2.2.2.2 I, nE 384 (ad 25) cI sl, nE 6 (ad 4) cI so, nE 6 (ad 5) cI cl, nE 6 (ad 6) cI de, nE 6 (ad 7) cI si]) s.heap := hP
  have hl : lv_has ls 5 [(0, .ref o), (1, .int (x1)), (2, .int (x2))] := hl
  have wf13 := hts (.fieldLink RX10 13 "RemorseWallModel" "sort" "[I") (by decide +kernel)
  have wf16 := hts (.fieldLink RX10 16 "RemorseWallModel" "cell" "[I") (by decide +kernel)
  have wf19 := hts (.fieldLink RX10 19 "RemorseWallModel" "depth" "[I") (by decide +kernel)
  have wf22 := hts (.fieldLink RX10 22 "RemorseWallModel" "since" "[I") (by decide +kernel)
  have wf61 := hts (.fieldLink RX10 61 "RemorseWallModel" "slot" "[I") (by decide +kernel)
  have hiX10 : ∀ w ∈ u_ws RX10 TX10 44, w ∈ wsX10_matter := by decide +kernel
  have hw := hpk.1
  obtain ⟨hp, hc1, hce, hme⟩ := id hw
  obtain ⟨hp1, hp2, hp3, hp4, hp5, hp6, hp7⟩ := id hp
  have hcl := pCells_le hp
  have hs : sHi S := hst.1
  have hr1 := i32_rng x1
  rw [hz1] at hr1
  have hr2 := i32_rng x2
  rw [hz2] at hr2
  have hslb := sB_h hsb
  refine lv_aload_n (pc := 0) hx hb dX10_matter_0 rfl (lv_at hl 0 rfl) ?_
  refine lv_iload_n (pc := 1) hx hb dX10_matter_1 rfl (lv_at hl 1 rfl) ?_
  refine ci_Vd (pc := 2) (r0 := nI (if okX (P.2.2.2.2.2.1) z1 then 1 else 0)) hF hN hK hP hV hS hA (k_X10_isCase l D cI cC cB cS o ad P I (x1) z1 hz1 hp) (cwV 1 hts gX10_matter_X10_isCase rfl rfl rfl (by decide +kernel) ⟨Nat.le_of_ble_eq_true rfl, Nat.le_of_ble_eq_true rfl⟩) [0] rfl (by decide) 0 10 rfl rfl rfl hl.1 rfl (Nat.le_of_ble_eq_true rfl) dX10_matter_2 ⟨Nat.le_refl _, Nat.le_refl _⟩ rfl (ws2 := [rmE o ad (pCells P) P.2.2.2.1 P.2.2.2.2.2.1 P.2.2.2.2.2.2 I, nE 384 (ad 25) cI sl, nE 6 (ad 4) cI so, nE 6 (ad 5) cI cl, nE 6 (ad 6) cI de, nE 6 (ad 7) cI si]) rfl (fun H locs hP hS => ?_)
  refine rb_eq (pc := 5) (tgt := 20) hx hb dX10_matter_5 (by decide) (fun c5 => ?_) (fun c5 => ?_)
  · refine lv_iconst (pc := 20) (v := jI (-1)) hx hb dX10_matter_20 (by decide) ?_
    exact hret 21 _ hP hS dX10_matter_21 rfl rfl ⟨(by unfold zMatter; (repeat' split) <;> first | (exfalso; omega) | rfl), rfl⟩
  · refine lv_iload_n (pc := 8) hx hb dX10_matter_8 rfl (lv_at hl 2 rfl) ?_
    refine lv_i2l (pc := 9) (v := jL z2) hx hb dX10_matter_9 (i2l_j hz2) ?_
    refine lv_lconst (pc := 10) (v := jL 0) hx hb dX10_matter_10 (by decide) ?_
    refine lv_ldc2 (pc := 11) (v := jL 5) hx hb hown (hts (.constantLong RX10 237 (jL 5)) (by decide +kernel)) dX10_matter_11 ?_
    refine ci_Sd (pc := 14) hF hN hK hP hV hS hA (k_X10_in l D cI cC cB cS z2 0 5 (by omega)) (va_cwS 3 hts gX10_matter_X10_in rfl rfl rfl (by decide +kernel) ⟨Nat.le_of_ble_eq_true rfl, Nat.le_of_ble_eq_true rfl⟩) [] rfl (by decide) rfl hl.1 rfl (Nat.le_of_ble_eq_true rfl) dX10_matter_14 ⟨Nat.le_refl _, Nat.le_refl _⟩ rfl (ws2 := [rmE o ad (pCells P) P.2.2.2.1 P.2.2.2.2.2.1 P.2.2.2.2.2.2 I, nE 384 (ad 25) cI sl, nE 6 (ad 4) cI so, nE 6 (ad 5) cI cl, nE 6 (ad 6) cI de, nE 6 (ad 7) cI si]) rfl (fun H locs hP hS => ?_)
    refine rb_ne (pc := 17) (tgt := 22) hx hb dX10_matter_17 (by decide) (fun c17 => ?_) (fun c17 => ?_)
    · obtain ⟨k, rfl⟩ : ∃ k : Nat, z1 = k := ⟨z1.toNat, by omega⟩
      obtain rfl : x1 = nI k := eq_nI hz1
      obtain ⟨v, rfl⟩ : ∃ k : Nat, z2 = k := ⟨z2.toNat, by omega⟩
      obtain rfl : x2 = nI v := eq_nI hz2
      obtain ⟨cs1, cs2, cs3, cs4⟩ := hc k (by omega)
      obtain ⟨ro1, ro2⟩ := rMat_own hw hc (show k < P.2.2.2.2.2.1 by omega) hf0
      have hpd := rF_pd hf0
      have hcek := hce k (by omega)
      have hs30 := hslb 30
      have hsa := sAt_le hs ((P.2.1 (k * 4 + 1) : Nat) : Int)
      refine lv_aload_n (pc := 22) hx hb dX10_matter_22 rfl (lv_at hl 0 rfl) ?_
      refine va_get (pc := 23) (D := D) (ci := 10) (v := .ref (ad 25)) (C := RX10) (T := TX10) (N := 44) hx hb hts hiX10 hown hK hP 0 rfl rfl 25 (by decide) wf61 (fun _ h9 => h9) rfl dX10_matter_23 ?_
      refine lv_bipush (pc := 26) (v := nI 30) hx hb dX10_matter_26 (by decide) ?_
      refine ra_iald (pc := 28) (k := 30) (v := nI (sl 30)) hx hb hK hP 1 0 rfl rfl (by omega) (by decide) rfl dX10_matter_28 ?_
      refine lv_iload_n (pc := 29) hx hb dX10_matter_29 rfl (lv_at hl 1 rfl) ?_
      refine lv_ishr (pc := 30) hx hb dX10_matter_30 ?_
      refine r_top (nI_shr (by omega) (by omega)) ?_
      refine lv_iconst (pc := 31) (v := nI 1) hx hb dX10_matter_31 (by decide) ?_
      refine lv_iand (pc := 32) hx hb dX10_matter_32 ?_
      refine r_top (nI_bit _) ?_
      refine lv_istore_n (pc := 33) (lv' := [(3, .int (nI (((sl 30) / 2 ^ k) % 2))), (0, .ref o), (1, .int (nI k)), (2, .int (nI v))]) hx hb dX10_matter_33 rfl hl (by decide) rfl (fun ls hl => ?_)
      refine lv_iload_n (pc := 34) hx hb dX10_matter_34 rfl (lv_at hl 0 rfl) ?_
      refine lv_iconst (pc := 35) (v := nI 1) hx hb dX10_matter_35 (by decide) ?_
      refine rc_ne (pc := 36) (tgt := 43) hx hb (tI_nI (by omega)) (tI_nI (by omega)) dX10_matter_36 (by decide) (fun c36 => ?_) (fun c36 => ?_)
      · have hpn : ¬ sPard S k := by unfold sPard; rw [← hpd]; omega
        refine lv_aload_n (pc := 43) hx hb dX10_matter_43 rfl (lv_at hl 1 rfl) ?_
        refine lv_iconst (pc := 44) (v := nI 0) hx hb dX10_matter_44 (by decide) ?_
        refine lv_iload_n (pc := 45) hx hb dX10_matter_45 rfl (lv_at hl 2 rfl) ?_
        refine ci_Vd (pc := 46) (r0 := nI (rOwn sl so cl de 0 k)) hF hN hK hP hV hS hA (k_X10_own l D cI cC cB cS o ad P I sl so cl de 0 k hslb hde (by omega) (by omega) (by omega) hso) (cwV 2 hts gX10_matter_X10_own rfl rfl rfl (by decide +kernel) ⟨Nat.le_of_ble_eq_true rfl, Nat.le_of_ble_eq_true rfl⟩) [0, 1, 2, 3, 4] rfl (by decide) 0 10 rfl rfl rfl hl.1 rfl (Nat.le_of_ble_eq_true rfl) dX10_matter_46 ⟨Nat.le_refl _, Nat.le_refl _⟩ rfl (ws2 := [rmE o ad (pCells P) P.2.2.2.1 P.2.2.2.2.2.1 P.2.2.2.2.2.2 I, nE 384 (ad 25) cI sl, nE 6 (ad 4) cI so, nE 6 (ad 5) cI cl, nE 6 (ad 6) cI de, nE 6 (ad 7) cI si]) rfl (fun H locs hP hS => ?_)
        have fq3 : rOwn sl so cl de 0 k < 200 := rOwn_lt hde
        refine lv_bipush (pc := 49) (v := nI 40) hx hb dX10_matter_49 (by decide) ?_
        refine lv_aload_n (pc := 51) hx hb dX10_matter_51 rfl (lv_at hl 1 rfl) ?_
        refine va_get (pc := 52) (D := D) (ci := 10) (v := .ref (ad 25)) (C := RX10) (T := TX10) (N := 44) hx hb hts hiX10 hown hK hP 0 rfl rfl 25 (by decide) wf61 (fun _ h9 => h9) rfl dX10_matter_52 ?_
        refine lv_aload_n (pc := 55) hx hb dX10_matter_55 rfl (lv_at hl 1 rfl) ?_
        refine va_get (pc := 56) (D := D) (ci := 10) (v := .ref (ad 5)) (C := RX10) (T := TX10) (N := 44) hx hb hts hiX10 hown hK hP 0 rfl rfl 5 (by decide) wf16 (fun _ h9 => h9) rfl dX10_matter_56 ?_
        refine lv_iload_n (pc := 59) hx hb dX10_matter_59 rfl (lv_at hl 2 rfl) ?_
        refine ra_iald (pc := 60) (k := k) (v := nI (cl k)) hx hb hK hP 3 0 rfl rfl (by omega) (by decide) rfl dX10_matter_60 ?_
        refine ra_iald (pc := 61) (k := cl k) (v := nI (sl (cl k))) hx hb hK hP 1 0 rfl rfl (by omega) (by decide) rfl dX10_matter_61 ?_
        refine rn_isub (pc := 62) hx hb (by omega) dX10_matter_62 ?_
        refine ci_Sd (pc := 63) hF hN hK hP hV hS hA (k_X10_smallerN l D cI cC cB cS (rOwn sl so cl de 0 k) (40 - (sl (cl k))) (by omega) (by omega)) (va_cwS 2 hts gX10_matter_X10_smaller rfl rfl rfl (by decide +kernel) ⟨Nat.le_of_ble_eq_true rfl, Nat.le_of_ble_eq_true rfl⟩) [] rfl (by decide) rfl hl.1 rfl (Nat.le_of_ble_eq_true rfl) dX10_matter_63 ⟨Nat.le_refl _, Nat.le_refl _⟩ rfl (ws2 := [rmE o ad (pCells P) P.2.2.2.1 P.2.2.2.2.2.1 P.2.2.2.2.2.2 I, nE 384 (ad 25) cI sl, nE 6 (ad 4) cI so, nE 6 (ad 5) cI cl, nE 6 (ad 6) cI de, nE 6 (ad 7) cI si]) rfl (fun H locs hP hS => ?_)
        refine lv_istore (pc := 66) (lv' := [(4, .int (nI (min (rOwn sl so cl de 0 k) (40 - (sl (cl k)))))), (3, .int (nI (((sl 30) / 2 ^ k) % 2))), (0, .ref o), (1, .int (nI k)), (2, .int (nI v))]) hx hb dX10_matter_66 hl (by decide) rfl (fun ls hl => ?_)
        refine lv_iload_n (pc := 68) hx hb dX10_matter_68 rfl (lv_at hl 4 rfl) ?_
        refine r0_ne (pc := 69) (tgt := 81) hx hb (tI_nI (by omega)) dX10_matter_69 (by decide) (fun c69 => ?_) (fun c69 => ?_)
        · refine lv_iload_n (pc := 81) hx hb dX10_matter_81 rfl (lv_at hl 4 rfl) ?_
          refine lv_iconst (pc := 82) (v := nI 1) hx hb dX10_matter_82 (by decide) ?_
          refine rc_ne (pc := 83) (tgt := 95) hx hb (tI_nI (by omega)) (tI_nI (by omega)) dX10_matter_83 (by decide) (fun c83 => ?_) (fun c83 => ?_)
          · refine lv_iload_n (pc := 95) hx hb dX10_matter_95 rfl (lv_at hl 4 rfl) ?_
            refine lv_iconst (pc := 96) (v := nI 2) hx hb dX10_matter_96 (by decide) ?_
            refine rc_ne (pc := 97) (tgt := 109) hx hb (tI_nI (by omega)) (tI_nI (by omega)) dX10_matter_97 (by decide) (fun c97 => ?_) (fun c97 => ?_)
            · refine lv_iload_n (pc := 109) hx hb dX10_matter_109 rfl (lv_at hl 4 rfl) ?_
              refine lv_iconst (pc := 110) (v := nI 3) hx hb dX10_matter_110 (by decide) ?_
              refine rc_ne (pc := 111) (tgt := 123) hx hb (tI_nI (by omega)) (tI_nI (by omega)) dX10_matter_111 (by decide) (fun c111 => ?_) (fun c111 => ?_)
              · refine lv_iload_n (pc := 123) hx hb dX10_matter_123 rfl (lv_at hl 4 rfl) ?_
                refine lv_iconst (pc := 124) (v := nI 4) hx hb dX10_matter_124 (by decide) ?_
                refine rc_ne (pc := 125) (tgt := 132) hx hb (tI_nI (by omega)) (tI_nI (by omega)) dX10_matter_125 (by decide) (fun c125 => ?_) (fun c125 => ?_)
                · obtain rfl : v = 5 := by omega
                  refine lv_iload (pc := 132) hx hb dX10_matter_132 (lv_at hl 0 rfl) ?_
                  exact hret 134 _ hP hS dX10_matter_134 rfl rfl ⟨(by unfold zMatter wouldR; rw [if_pos (by omega), if_neg (by omega), if_neg (by omega), if_pos (by omega), Int.toNat_natCast, if_neg hpn]; rw [ro1, ro2]; exact jI_nat _), rfl⟩
                · obtain rfl : v = 4 := by omega
                  refine lv_iload_n (pc := 128) hx hb dX10_matter_128 rfl (lv_at hl 1 rfl) ?_
                  refine lv_goto (pc := 129) (tgt := 134) hx hb dX10_matter_129 (by decide) ?_
                  exact hret 134 _ hP hS dX10_matter_134 rfl rfl ⟨(by unfold zMatter; rw [if_pos (by omega), if_neg (by omega), if_pos (by omega), Int.toNat_natCast, jI_nat]; congr 1; split <;> (unfold sPard at *; omega)), rfl⟩
              · obtain rfl : v = 3 := by omega
                refine lv_aload_n (pc := 114) hx hb dX10_matter_114 rfl (lv_at hl 2 rfl) ?_
                refine va_get (pc := 115) (D := D) (ci := 10) (v := .ref (ad 7)) (C := RX10) (T := TX10) (N := 44) hx hb hts hiX10 hown hK hP 0 rfl rfl 7 (by decide) wf22 (fun _ h9 => h9) rfl dX10_matter_115 ?_
                refine lv_iload_n (pc := 118) hx hb dX10_matter_118 rfl (lv_at hl 3 rfl) ?_
                refine ra_iald (pc := 119) (k := k) (v := nI (si k)) hx hb hK hP 5 0 rfl rfl (by omega) (by decide) rfl dX10_matter_119 ?_
                refine lv_goto (pc := 120) (tgt := 134) hx hb dX10_matter_120 (by decide) ?_
                exact hret 134 _ hP hS dX10_matter_134 rfl rfl ⟨(by rw [cs4]; unfold zMatter; rw [if_pos (by omega), if_pos (by omega)]; exact jI_nat _), rfl⟩
            · obtain rfl : v = 2 := by omega
              refine lv_aload_n (pc := 100) hx hb dX10_matter_100 rfl (lv_at hl 2 rfl) ?_
              refine va_get (pc := 101) (D := D) (ci := 10) (v := .ref (ad 6)) (C := RX10) (T := TX10) (N := 44) hx hb hts hiX10 hown hK hP 0 rfl rfl 6 (by decide) wf19 (fun _ h9 => h9) rfl dX10_matter_101 ?_
              refine lv_iload_n (pc := 104) hx hb dX10_matter_104 rfl (lv_at hl 3 rfl) ?_
              refine ra_iald (pc := 105) (k := k) (v := nI (de k)) hx hb hK hP 4 0 rfl rfl (by omega) (by decide) rfl dX10_matter_105 ?_
              refine lv_goto (pc := 106) (tgt := 134) hx hb dX10_matter_106 (by decide) ?_
              exact hret 134 _ hP hS dX10_matter_134 rfl rfl ⟨(by rw [cs3]; unfold zMatter; rw [if_pos (by omega), if_pos (by omega)]; exact jI_nat _), rfl⟩
          · obtain rfl : v = 1 := by omega
            refine lv_aload_n (pc := 86) hx hb dX10_matter_86 rfl (lv_at hl 2 rfl) ?_
            refine va_get (pc := 87) (D := D) (ci := 10) (v := .ref (ad 5)) (C := RX10) (T := TX10) (N := 44) hx hb hts hiX10 hown hK hP 0 rfl rfl 5 (by decide) wf16 (fun _ h9 => h9) rfl dX10_matter_87 ?_
            refine lv_iload_n (pc := 90) hx hb dX10_matter_90 rfl (lv_at hl 3 rfl) ?_
            refine ra_iald (pc := 91) (k := k) (v := nI (cl k)) hx hb hK hP 3 0 rfl rfl (by omega) (by decide) rfl dX10_matter_91 ?_
            refine lv_goto (pc := 92) (tgt := 134) hx hb dX10_matter_92 (by decide) ?_
            exact hret 134 _ hP hS dX10_matter_134 rfl rfl ⟨(by rw [cs2]; unfold zMatter; rw [if_pos (by omega), if_pos (by omega)]; exact jI_nat _), rfl⟩
        · obtain rfl : v = 0 := by omega
          refine lv_aload_n (pc := 72) hx hb dX10_matter_72 rfl (lv_at hl 2 rfl) ?_
          refine va_get (pc := 73) (D := D) (ci := 10) (v := .ref (ad 4)) (C := RX10) (T := TX10) (N := 44) hx hb hts hiX10 hown hK hP 0 rfl rfl 4 (by decide) wf13 (fun _ h9 => h9) rfl dX10_matter_73 ?_
          refine lv_iload_n (pc := 76) hx hb dX10_matter_76 rfl (lv_at hl 3 rfl) ?_
          refine ra_iald (pc := 77) (k := k) (v := nI (so k)) hx hb hK hP 2 0 rfl rfl (by omega) (by decide) rfl dX10_matter_77 ?_
          refine lv_goto (pc := 78) (tgt := 134) hx hb dX10_matter_78 (by decide) ?_
          exact hret 134 _ hP hS dX10_matter_134 rfl rfl ⟨(by rw [cs1]; unfold zMatter; rw [if_pos (by omega), if_pos (by omega)]; exact jI_nat _), rfl⟩
      · have hpn : sPard S k := by unfold sPard; rw [← hpd]; omega
        refine lv_iconst (pc := 39) (v := nI 0) hx hb dX10_matter_39 (by decide) ?_
        refine lv_goto (pc := 40) (tgt := 66) hx hb dX10_matter_40 (by decide) ?_
        refine lv_istore (pc := 66) (lv' := [(4, .int (nI 0)), (3, .int (nI (((sl 30) / 2 ^ k) % 2))), (0, .ref o), (1, .int (nI k)), (2, .int (nI v))]) hx hb dX10_matter_66 hl (by decide) rfl (fun ls hl => ?_)
        refine lv_iload_n (pc := 68) hx hb dX10_matter_68 rfl (lv_at hl 4 rfl) ?_
        refine r0_ne (pc := 69) (tgt := 81) hx hb (tI_nI (by omega)) dX10_matter_69 (by decide) (fun c69 => ?_) (fun c69 => ?_)
        · refine lv_iload_n (pc := 81) hx hb dX10_matter_81 rfl (lv_at hl 4 rfl) ?_
          refine lv_iconst (pc := 82) (v := nI 1) hx hb dX10_matter_82 (by decide) ?_
          refine rc_ne (pc := 83) (tgt := 95) hx hb (tI_nI (by omega)) (tI_nI (by omega)) dX10_matter_83 (by decide) (fun c83 => ?_) (fun c83 => ?_)
          · refine lv_iload_n (pc := 95) hx hb dX10_matter_95 rfl (lv_at hl 4 rfl) ?_
            refine lv_iconst (pc := 96) (v := nI 2) hx hb dX10_matter_96 (by decide) ?_
            refine rc_ne (pc := 97) (tgt := 109) hx hb (tI_nI (by omega)) (tI_nI (by omega)) dX10_matter_97 (by decide) (fun c97 => ?_) (fun c97 => ?_)
            · refine lv_iload_n (pc := 109) hx hb dX10_matter_109 rfl (lv_at hl 4 rfl) ?_
              refine lv_iconst (pc := 110) (v := nI 3) hx hb dX10_matter_110 (by decide) ?_
              refine rc_ne (pc := 111) (tgt := 123) hx hb (tI_nI (by omega)) (tI_nI (by omega)) dX10_matter_111 (by decide) (fun c111 => ?_) (fun c111 => ?_)
              · refine lv_iload_n (pc := 123) hx hb dX10_matter_123 rfl (lv_at hl 4 rfl) ?_
                refine lv_iconst (pc := 124) (v := nI 4) hx hb dX10_matter_124 (by decide) ?_
                refine rc_ne (pc := 125) (tgt := 132) hx hb (tI_nI (by omega)) (tI_nI (by omega)) dX10_matter_125 (by decide) (fun c125 => ?_) (fun c125 => ?_)
                · obtain rfl : v = 5 := by omega
                  refine lv_iload (pc := 132) hx hb dX10_matter_132 (lv_at hl 0 rfl) ?_
                  exact hret 134 _ hP hS dX10_matter_134 rfl rfl ⟨(by unfold zMatter wouldR; rw [if_pos (by omega), if_neg (by omega), if_neg (by omega), if_pos (by omega), Int.toNat_natCast, if_pos hpn]; rfl), rfl⟩
                · obtain rfl : v = 4 := by omega
                  refine lv_iload_n (pc := 128) hx hb dX10_matter_128 rfl (lv_at hl 1 rfl) ?_
                  refine lv_goto (pc := 129) (tgt := 134) hx hb dX10_matter_129 (by decide) ?_
                  exact hret 134 _ hP hS dX10_matter_134 rfl rfl ⟨(by unfold zMatter; rw [if_pos (by omega), if_neg (by omega), if_pos (by omega), Int.toNat_natCast, jI_nat]; congr 1; split <;> (unfold sPard at *; omega)), rfl⟩
              · obtain rfl : v = 3 := by omega
                refine lv_aload_n (pc := 114) hx hb dX10_matter_114 rfl (lv_at hl 2 rfl) ?_
                refine va_get (pc := 115) (D := D) (ci := 10) (v := .ref (ad 7)) (C := RX10) (T := TX10) (N := 44) hx hb hts hiX10 hown hK hP 0 rfl rfl 7 (by decide) wf22 (fun _ h9 => h9) rfl dX10_matter_115 ?_
                refine lv_iload_n (pc := 118) hx hb dX10_matter_118 rfl (lv_at hl 3 rfl) ?_
                refine ra_iald (pc := 119) (k := k) (v := nI (si k)) hx hb hK hP 5 0 rfl rfl (by omega) (by decide) rfl dX10_matter_119 ?_
                refine lv_goto (pc := 120) (tgt := 134) hx hb dX10_matter_120 (by decide) ?_
                exact hret 134 _ hP hS dX10_matter_134 rfl rfl ⟨(by rw [cs4]; unfold zMatter; rw [if_pos (by omega), if_pos (by omega)]; exact jI_nat _), rfl⟩
            · obtain rfl : v = 2 := by omega
              refine lv_aload_n (pc := 100) hx hb dX10_matter_100 rfl (lv_at hl 2 rfl) ?_
              refine va_get (pc := 101) (D := D) (ci := 10) (v := .ref (ad 6)) (C := RX10) (T := TX10) (N := 44) hx hb hts hiX10 hown hK hP 0 rfl rfl 6 (by decide) wf19 (fun _ h9 => h9) rfl dX10_matter_101 ?_
              refine lv_iload_n (pc := 104) hx hb dX10_matter_104 rfl (lv_at hl 3 rfl) ?_
              refine ra_iald (pc := 105) (k := k) (v := nI (de k)) hx hb hK hP 4 0 rfl rfl (by omega) (by decide) rfl dX10_matter_105 ?_
              refine lv_goto (pc := 106) (tgt := 134) hx hb dX10_matter_106 (by decide) ?_
              exact hret 134 _ hP hS dX10_matter_134 rfl rfl ⟨(by rw [cs3]; unfold zMatter; rw [if_pos (by omega), if_pos (by omega)]; exact jI_nat _), rfl⟩
          · obtain rfl : v = 1 := by omega
            refine lv_aload_n (pc := 86) hx hb dX10_matter_86 rfl (lv_at hl 2 rfl) ?_
            refine va_get (pc := 87) (D := D) (ci := 10) (v := .ref (ad 5)) (C := RX10) (T := TX10) (N := 44) hx hb hts hiX10 hown hK hP 0 rfl rfl 5 (by decide) wf16 (fun _ h9 => h9) rfl dX10_matter_87 ?_
            refine lv_iload_n (pc := 90) hx hb dX10_matter_90 rfl (lv_at hl 3 rfl) ?_
            refine ra_iald (pc := 91) (k := k) (v := nI (cl k)) hx hb hK hP 3 0 rfl rfl (by omega) (by decide) rfl dX10_matter_91 ?_
            refine lv_goto (pc := 92) (tgt := 134) hx hb dX10_matter_92 (by decide) ?_
            exact hret 134 _ hP hS dX10_matter_134 rfl rfl ⟨(by rw [cs2]; unfold zMatter; rw [if_pos (by omega), if_pos (by omega)]; exact jI_nat _), rfl⟩
        · obtain rfl : v = 0 := by omega
          refine lv_aload_n (pc := 72) hx hb dX10_matter_72 rfl (lv_at hl 2 rfl) ?_
          refine va_get (pc := 73) (D := D) (ci := 10) (v := .ref (ad 4)) (C := RX10) (T := TX10) (N := 44) hx hb hts hiX10 hown hK hP 0 rfl rfl 4 (by decide) wf13 (fun _ h9 => h9) rfl dX10_matter_73 ?_
          refine lv_iload_n (pc := 76) hx hb dX10_matter_76 rfl (lv_at hl 3 rfl) ?_
          refine ra_iald (pc := 77) (k := k) (v := nI (so k)) hx hb hK hP 2 0 rfl rfl (by omega) (by decide) rfl dX10_matter_77 ?_
          refine lv_goto (pc := 78) (tgt := 134) hx hb dX10_matter_78 (by decide) ?_
          exact hret 134 _ hP hS dX10_matter_134 rfl rfl ⟨(by rw [cs1]; unfold zMatter; rw [if_pos (by omega), if_pos (by omega)]; exact jI_nat _), rfl⟩
    · refine lv_iconst (pc := 20) (v := jI (-1)) hx hb dX10_matter_20 (by decide) ?_
      exact hret 21 _ hP hS dX10_matter_21 rfl rfl ⟨(by unfold zMatter; (repeat' split) <;> first | (exfalso; omega) | rfl), rfl⟩
