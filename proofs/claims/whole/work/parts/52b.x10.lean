abbrev rmX10_evening : Room := { frames := 5, cells := 0, slots := 0, locals := 114 }
set_option maxHeartbeats 4000000 in
set_option maxRecDepth 100000 in
theorem k_X10_evening (l : Launch) (D : va_G) (cI cC cB cS : ClassId) (o : Nat) (ad : Nat → Nat) (P : PL) (I : RI) (sl : Nat → Nat) (so : Nat → Nat) (cl : Nat → Nat) (de : Nat → Nat) (si : Nat → Nat) (ms : Nat → Nat) (wa : Nat → Nat) (ir : Nat → Nat) (x1 : Int32) (z1 : Int) (hz1 : x1.toInt = z1) (x2 : Int32) (z2 : Int) (hz2 : x2.toInt = z2) (x3 : Int32) (z3 : Int) (hz3 : x3.toInt = z3) (S : ST) (hpk : plOK P) (hst : stOK P S) (hc : rC P so cl de si) (hm : rM P wa ir ms) (hf0 : rF P sl 0 S) (hsb : sB sl) (hde : ∀ j, de j < 100) (hso : ∀ j, so j < 100) (hsi : ∀ j, si j < 100) (hms : ∀ j, ms j < 100) (hy : S.2.2.2.2 ≤ 999) (hx2 : stX P S) (hir : ∀ j, ir j < 100) (hwa : ∀ j, wa j < 100) : CI l D (kT cI cC cB cS) yX10_evening wsX10_evening rmX10_evening [.ref o, .int (x1), .int (x2), .int (x3)] ([rmE o ad (pCells P) P.2.2.2.1 P.2.2.2.2.2.1 P.2.2.2.2.2.2 I, nE 384 (ad 25) cI sl, nE 6 (ad 4) cI so, nE 6 (ad 5) cI cl, nE 6 (ad 6) cI de, nE 6 (ad 7) cI si, nE 3 (ad 11) cI ms, nE 3 (ad 9) cI wa, nE 3 (ad 10) cI ir]) (fun r u => r = jI (zEvening P S z1 z2 z3) ∧ ∃ f : Nat → Nat, u = [rmE o ad (pCells P) P.2.2.2.1 P.2.2.2.2.2.1 P.2.2.2.2.2.2 I, nE 384 (ad 25) cI f, nE 6 (ad 4) cI so, nE 6 (ad 5) cI cl, nE 6 (ad 6) cI de, nE 6 (ad 7) cI si, nE 3 (ad 11) cI ms, nE 3 (ad 9) cI wa, nE 3 (ad 10) cI ir] ∧ tEnd sl f) := by
  refine ci_intro (by decide) rfl (Nat.le_of_ble_eq_true rfl) ?_
  intro p e s m args below meth c ls A QF hF hK hP hV hS hA hN hl hret
  obtain ⟨hx, hb, hml, hown, hts⟩ := id hF
  have hP : va_P D vwCl ([rmE o ad (pCells P) P.2.2.2.1 P.2.2.2.2.2.1 P.2.2.2.2.2.2 I, nE 384 (ad 25) cI sl, nE 6 (ad 4) cI so, nE 6 (ad 5) cI cl, nE 6 (ad 6) cI de, nE 6 (ad 7) cI si, nE 3 (ad 11) cI ms, nE 3 (ad 9) cI wa, nE 3 (ad 10) cI ir]) s.heap := hP
  have hl : lv_has ls 7 [(0, .ref o), (1, .int (x1)), (2, .int (x2)), (3, .int (x3))] := hl
  have hw := hpk.1
  obtain ⟨hp, hc1, hce, hme⟩ := id hw
  obtain ⟨hp1, hp2, hp3, hp4, hp5, hp6, hp7⟩ := id hp
  have hcl := pCells_le hp
  have hs : sHi S := hst.1
  have hr1 := i32_rng x1
  rw [hz1] at hr1
  have hr2 := i32_rng x2
  rw [hz2] at hr2
  have hr3 := i32_rng x3
  rw [hz3] at hr3
  have hslb := sB_h hsb
  refine lv_iload_n (pc := 0) hx hb dX10_evening_0 rfl (lv_at hl 1 rfl) ?_
  refine lv_i2l (pc := 1) (v := jL z1) hx hb dX10_evening_1 (i2l_j hz1) ?_
  refine lv_lconst (pc := 2) (v := jL 0) hx hb dX10_evening_2 (by decide) ?_
  refine lv_ldc2 (pc := 3) (v := jL 9999) hx hb hown (hts (.constantLong RX10 299 (jL 9999)) (by decide +kernel)) dX10_evening_3 ?_
  refine ci_Sd (pc := 6) hF hN hK hP hV hS hA (k_X10_in l D cI cC cB cS z1 0 9999 (by omega)) (va_cwS 3 hts gX10_evening_X10_in rfl rfl rfl (by decide +kernel) ⟨Nat.le_of_ble_eq_true rfl, Nat.le_of_ble_eq_true rfl⟩) [] rfl (by decide) rfl hl.1 rfl (Nat.le_of_ble_eq_true rfl) dX10_evening_6 ⟨Nat.le_refl _, Nat.le_refl _⟩ rfl (ws2 := [rmE o ad (pCells P) P.2.2.2.1 P.2.2.2.2.2.1 P.2.2.2.2.2.2 I, nE 384 (ad 25) cI sl, nE 6 (ad 4) cI so, nE 6 (ad 5) cI cl, nE 6 (ad 6) cI de, nE 6 (ad 7) cI si, nE 3 (ad 11) cI ms, nE 3 (ad 9) cI wa, nE 3 (ad 10) cI ir]) rfl (fun H locs hP hS => ?_)
  refine rb_eq (pc := 9) (tgt := 34) hx hb dX10_evening_9 (by decide) (fun c9 => ?_) (fun c9 => ?_)
  · refine lv_iconst (pc := 34) (v := jI (-1)) hx hb dX10_evening_34 (by decide) ?_
    exact hret 35 _ hP hS dX10_evening_35 rfl rfl ⟨(by unfold zEvening; rw [if_neg (by omega)]), sl, rfl, tEnd.rf hsb⟩
  · refine lv_iload_n (pc := 12) hx hb dX10_evening_12 rfl (lv_at hl 2 rfl) ?_
    refine lv_i2l (pc := 13) (v := jL z2) hx hb dX10_evening_13 (i2l_j hz2) ?_
    refine lv_lconst (pc := 14) (v := jL 1) hx hb dX10_evening_14 (by decide) ?_
    refine lv_ldc2 (pc := 15) (v := jL 60) hx hb hown (hts (.constantLong RX10 301 (jL 60)) (by decide +kernel)) dX10_evening_15 ?_
    refine ci_Sd (pc := 18) hF hN hK hP hV hS hA (k_X10_in l D cI cC cB cS z2 1 60 (by omega)) (va_cwS 3 hts gX10_evening_X10_in rfl rfl rfl (by decide +kernel) ⟨Nat.le_of_ble_eq_true rfl, Nat.le_of_ble_eq_true rfl⟩) [] rfl (by decide) rfl hl.1 rfl (Nat.le_of_ble_eq_true rfl) dX10_evening_18 ⟨Nat.le_refl _, Nat.le_refl _⟩ rfl (ws2 := [rmE o ad (pCells P) P.2.2.2.1 P.2.2.2.2.2.1 P.2.2.2.2.2.2 I, nE 384 (ad 25) cI sl, nE 6 (ad 4) cI so, nE 6 (ad 5) cI cl, nE 6 (ad 6) cI de, nE 6 (ad 7) cI si, nE 3 (ad 11) cI ms, nE 3 (ad 9) cI wa, nE 3 (ad 10) cI ir]) rfl (fun H locs hP hS => ?_)
    refine rb_eq (pc := 21) (tgt := 34) hx hb dX10_evening_21 (by decide) (fun c21 => ?_) (fun c21 => ?_)
    · refine lv_iconst (pc := 34) (v := jI (-1)) hx hb dX10_evening_34 (by decide) ?_
      exact hret 35 _ hP hS dX10_evening_35 rfl rfl ⟨(by unfold zEvening; rw [if_neg (by omega)]), sl, rfl, tEnd.rf hsb⟩
    · refine lv_iload_n (pc := 24) hx hb dX10_evening_24 rfl (lv_at hl 3 rfl) ?_
      refine lv_i2l (pc := 25) (v := jL z3) hx hb dX10_evening_25 (i2l_j hz3) ?_
      refine lv_lconst (pc := 26) (v := jL 0) hx hb dX10_evening_26 (by decide) ?_
      refine lv_lconst (pc := 27) (v := jL 1) hx hb dX10_evening_27 (by decide) ?_
      refine ci_Sd (pc := 28) hF hN hK hP hV hS hA (k_X10_in l D cI cC cB cS z3 0 1 (by omega)) (va_cwS 3 hts gX10_evening_X10_in rfl rfl rfl (by decide +kernel) ⟨Nat.le_of_ble_eq_true rfl, Nat.le_of_ble_eq_true rfl⟩) [] rfl (by decide) rfl hl.1 rfl (Nat.le_of_ble_eq_true rfl) dX10_evening_28 ⟨Nat.le_refl _, Nat.le_refl _⟩ rfl (ws2 := [rmE o ad (pCells P) P.2.2.2.1 P.2.2.2.2.2.1 P.2.2.2.2.2.2 I, nE 384 (ad 25) cI sl, nE 6 (ad 4) cI so, nE 6 (ad 5) cI cl, nE 6 (ad 6) cI de, nE 6 (ad 7) cI si, nE 3 (ad 11) cI ms, nE 3 (ad 9) cI wa, nE 3 (ad 10) cI ir]) rfl (fun H locs hP hS => ?_)
      refine rb_ne (pc := 31) (tgt := 36) hx hb dX10_evening_31 (by decide) (fun c31 => ?_) (fun c31 => ?_)
      · obtain ⟨z, rfl⟩ : ∃ k : Nat, z1 = k := ⟨z1.toNat, by omega⟩
        obtain rfl : x1 = nI z := eq_nI hz1
        obtain ⟨n, rfl⟩ : ∃ k : Nat, z2 = k := ⟨z2.toNat, by omega⟩
        obtain rfl : x2 = nI n := eq_nI hz2
        refine lv_aload_n (pc := 36) hx hb dX10_evening_36 rfl (lv_at hl 0 rfl) ?_
        refine lv_iconst (pc := 37) (v := nI 0) hx hb dX10_evening_37 (by decide) ?_
        refine lv_sipush (pc := 38) (v := nI 352) hx hb dX10_evening_38 (by decide) ?_
        refine cv_Vd (pc := 41) hF hN hK hP hV hS hA (k_X10_copies l D cI cC cB cS o ad P I sl 0 352 (by omega) (by omega) (by omega)) (cwV 2 hts gX10_evening_X10_copies rfl rfl rfl (by decide +kernel) ⟨Nat.le_of_ble_eq_true rfl, Nat.le_of_ble_eq_true rfl⟩) [0, 1] rfl (by decide) 0 10 rfl rfl rfl hl.1 rfl (Nat.le_of_ble_eq_true rfl) dX10_evening_41 ⟨Nat.le_refl _, Nat.le_refl _⟩ rfl (ws2 := [rmE o ad (pCells P) P.2.2.2.1 P.2.2.2.2.2.1 P.2.2.2.2.2.2 I, nE 384 (ad 25) cI (cpN sl 0 352 32), nE 6 (ad 4) cI so, nE 6 (ad 5) cI cl, nE 6 (ad 6) cI de, nE 6 (ad 7) cI si, nE 3 (ad 11) cI ms, nE 3 (ad 9) cI wa, nE 3 (ad 10) cI ir]) rfl (fun H locs hP hS => ?_)
        refine lv_iconst (pc := 44) (v := nI 0) hx hb dX10_evening_44 (by decide) ?_
        refine lv_istore (pc := 45) (lv' := [(4, .int (nI 0)), (0, .ref o), (1, .int (nI z)), (2, .int (nI n)), (3, .int (x3))]) hx hb dX10_evening_45 hl (by decide) rfl (fun ls hl => ?_)
        have cut47 : ∀ (fuel : Nat) (k : Nat) (f : Nat → Nat) (H : Heap) (locs : List Loc) (ls : Array Slot) (hk : k ≤ n) (hT : tRel P sl f (eveS P S z k) k) (hfu : n - k < fuel), va_P D vwCl ([rmE o ad (pCells P) P.2.2.2.1 P.2.2.2.2.2.1 P.2.2.2.2.2.2 I, nE 384 (ad 25) cI f, nE 6 (ad 4) cI so, nE 6 (ad 5) cI cl, nE 6 (ad 6) cI de, nE 6 (ad 7) cI si, nE 3 (ad 11) cI ms, nE 3 (ad 9) cI wa, nE 3 (ad 10) cI ir]) H → va_S A s.heap H locs → lv_has ls 7 [(4, .int (nI k)), (3, .int (x3)), (2, .int (nI n)), (1, .int (nI z)), (0, .ref o)] → W p l e rmX10_evening s m args below meth c H locs 0 0 QF (F0 m 47 ls []) := by
          intro fuel
          induction fuel with
          | zero => intro k f H locs ls hk hT hfu; omega
          | succ fuel ih47 =>
            intro k f H locs ls hk hT hfu hP hS hl
            have hok := eveS_ok hpk hst z k
            have hxx := eveS_x hw hx2 z k
            have hfb := hT.lt (by omega)
            refine lv_iload (pc := 47) hx hb dX10_evening_47 (lv_at hl 0 rfl) ?_
            refine lv_iload_n (pc := 49) hx hb dX10_evening_49 rfl (lv_at hl 2 rfl) ?_
            refine rc_ge (pc := 50) (tgt := 94) hx hb (tI_nI (by omega)) (tI_nI (by omega)) dX10_evening_50 (by decide) (fun c50 => ?_) (fun c50 => ?_)
            · have hkn : k = n := by omega
              rw [hkn] at hT hxx
              refine lv_iload_n (pc := 94) hx hb dX10_evening_94 rfl (lv_at hl 1 rfl) ?_
              refine r0_ne (pc := 95) (tgt := 108) hx hb hz3 dX10_evening_95 (by decide) (fun c95 => ?_) (fun c95 => ?_)
              · refine lv_aload_n (pc := 108) hx hb dX10_evening_108 rfl (lv_at hl 4 rfl) ?_
                refine lv_sipush (pc := 109) (v := nI 352) hx hb dX10_evening_109 (by decide) ?_
                refine ci_Vd (pc := 112) (r0 := nI (nCnt (fun j => f (352 + j)) 12 (pCells P))) hF hN hK hP hV hS hA (k_X10_hollows l D cI cC cB cS o ad P I f 352 hp hfb (by omega)) (cwV 1 hts gX10_evening_X10_hollows rfl rfl rfl (by decide +kernel) ⟨Nat.le_of_ble_eq_true rfl, Nat.le_of_ble_eq_true rfl⟩) [0, 1] rfl (by decide) 0 10 rfl rfl rfl hl.1 rfl (Nat.le_of_ble_eq_true rfl) dX10_evening_112 ⟨Nat.le_refl _, Nat.le_refl _⟩ rfl (ws2 := [rmE o ad (pCells P) P.2.2.2.1 P.2.2.2.2.2.1 P.2.2.2.2.2.2 I, nE 384 (ad 25) cI f, nE 6 (ad 4) cI so, nE 6 (ad 5) cI cl, nE 6 (ad 6) cI de, nE 6 (ad 7) cI si, nE 3 (ad 11) cI ms, nE 3 (ad 9) cI wa, nE 3 (ad 10) cI ir]) rfl (fun H locs hP hS => ?_)
                exact hret 115 _ hP hS dX10_evening_115 rfl rfl ⟨(by unfold zEvening; rw [if_pos (by omega), if_neg (by omega), cnt_rel hw hT.1 hxx.1, Int.toNat_natCast, Int.toNat_natCast]; exact jI_nat _), f, rfl, hT.fin (by omega)⟩
              · refine lv_aload_n (pc := 98) hx hb dX10_evening_98 rfl (lv_at hl 4 rfl) ?_
                refine lv_sipush (pc := 99) (v := nI 352) hx hb dX10_evening_99 (by decide) ?_
                refine ci_Vd (pc := 102) (r0 := nI (nSum (fun j => f (352 + j)) (pCells P))) hF hN hK hP hV hS hA (k_X10_sum l D cI cC cB cS o ad P I f 352 hp hfb (by omega)) (cwV 1 hts gX10_evening_X10_sum rfl rfl rfl (by decide +kernel) ⟨Nat.le_of_ble_eq_true rfl, Nat.le_of_ble_eq_true rfl⟩) [0, 1] rfl (by decide) 0 10 rfl rfl rfl hl.1 rfl (Nat.le_of_ble_eq_true rfl) dX10_evening_102 ⟨Nat.le_refl _, Nat.le_refl _⟩ rfl (ws2 := [rmE o ad (pCells P) P.2.2.2.1 P.2.2.2.2.2.1 P.2.2.2.2.2.2 I, nE 384 (ad 25) cI f, nE 6 (ad 4) cI so, nE 6 (ad 5) cI cl, nE 6 (ad 6) cI de, nE 6 (ad 7) cI si, nE 3 (ad 11) cI ms, nE 3 (ad 9) cI wa, nE 3 (ad 10) cI ir]) rfl (fun H locs hP hS => ?_)
                have fq6 : nSum (fun j => f (352 + j)) (pCells P) ≤ 2400000 := nSum_24 hfb (pCells_le hp)
                refine lv_goto (pc := 105) (tgt := 115) hx hb dX10_evening_105 (by decide) ?_
                exact hret 115 _ hP hS dX10_evening_115 rfl rfl ⟨(by unfold zEvening; rw [if_pos (by omega), if_pos (by omega), sum_rel hw hT.1 hxx.1, Int.toNat_natCast, Int.toNat_natCast]; exact jI_nat _), f, rfl, hT.fin (by omega)⟩
            · refine lv_ldc2 (pc := 53) (v := lN 7919) hx hb hown (hts (.constantLong RX10 303 (lN 7919)) (by decide +kernel)) dX10_evening_53 ?_
              refine lv_iload_n (pc := 56) hx hb dX10_evening_56 rfl (lv_at hl 3 rfl) ?_
              refine lv_i2l (pc := 57) (v := lN z) hx hb dX10_evening_57 (nI_l (by omega)) ?_
              refine lv_lmul (pc := 58) hx hb dX10_evening_58 ?_
              rw [lN_mul]
              refine lv_ldc2 (pc := 59) (v := lN 6151) hx hb hown (hts (.constantLong RX10 305 (lN 6151)) (by decide +kernel)) dX10_evening_59 ?_
              refine lv_iload (pc := 62) hx hb dX10_evening_62 (lv_at hl 0 rfl) ?_
              refine lv_i2l (pc := 64) (v := lN k) hx hb dX10_evening_64 (nI_l (by omega)) ?_
              refine lv_lmul (pc := 65) hx hb dX10_evening_65 ?_
              rw [lN_mul]
              refine lv_ladd (pc := 66) hx hb dX10_evening_66 ?_
              rw [lN_add]
              refine lv_lconst (pc := 67) (v := lN 1) hx hb dX10_evening_67 (by decide) ?_
              refine lv_ladd (pc := 68) hx hb dX10_evening_68 ?_
              rw [lN_add]
              refine lv_lstore (pc := 69) (lv' := [(5, .long (lN (((7919 * z) + (6151 * k)) + 1))), (4, .int (nI k)), (3, .int (x3)), (2, .int (nI n)), (1, .int (nI z)), (0, .ref o)]) hx hb dX10_evening_69 hl (by decide) rfl (fun ls hl => ?_)
              refine lv_aload_n (pc := 71) hx hb dX10_evening_71 rfl (lv_at hl 5 rfl) ?_
              refine lv_sipush (pc := 72) (v := nI 352) hx hb dX10_evening_72 (by decide) ?_
              refine lv_lload (pc := 75) hx hb dX10_evening_75 (lv_at hl 0 rfl) ?_
              refine lv_lload (pc := 77) hx hb dX10_evening_77 (lv_at hl 0 rfl) ?_
              refine lv_lmul (pc := 79) hx hb dX10_evening_79 ?_
              rw [lN_mul]
              refine lv_ldc2 (pc := 80) (v := lN 65521) hx hb hown (hts (.constantLong RX10 307 (lN 65521)) (by decide +kernel)) dX10_evening_80 ?_
              refine lv_lrem (pc := 83) hx hb dX10_evening_83 (by decide) ?_
              rw [lN_rem (by exact Nat.lt_of_le_of_lt (Nat.mul_le_mul (show 7919 * z + 6151 * k + 1 ≤ 80000000 by omega) (show 7919 * z + 6151 * k + 1 ≤ 80000000 by omega)) (by decide)) (by decide) (by decide)]
              refine lv_l2i (pc := 84) (v := nI (((((7919 * z) + (6151 * k)) + 1) * (((7919 * z) + (6151 * k)) + 1)) % 65521)) hx hb dX10_evening_84 (lN_i _) ?_
              refine r_top (show _ = nI (drawN z k) from rfl) ?_
              have hdl := drawN_lt z k
              refine cv_V (pc := 85) hF hN hK hP hV hS hA (k_X10_does l D cI cC cB cS o ad P I f so cl de si ms wa ir (drawN z k) sl (eveS P S z k) k hpk hok hT (by omega) hc hm hde hso hsi hms hir hwa (by omega)) (cwV 2 hts gX10_evening_X10_does rfl rfl rfl (by decide +kernel) ⟨Nat.le_of_ble_eq_true rfl, Nat.le_of_ble_eq_true rfl⟩) [0, 1, 2, 3, 4, 5, 6, 7, 8] rfl (by decide) 0 10 rfl rfl rfl hl.1 rfl (Nat.le_of_ble_eq_true rfl) dX10_evening_85 ⟨Nat.le_refl _, Nat.le_refl _⟩ rfl (fun u H locs hq hu hP hS => ?_)
              obtain ⟨f2, rfl, hT2⟩ := hq
              have hP : va_P D vwCl ([rmE o ad (pCells P) P.2.2.2.1 P.2.2.2.2.2.1 P.2.2.2.2.2.2 I, nE 384 (ad 25) cI f2, nE 6 (ad 4) cI so, nE 6 (ad 5) cI cl, nE 6 (ad 6) cI de, nE 6 (ad 7) cI si, nE 3 (ad 11) cI ms, nE 3 (ad 9) cI wa, nE 3 (ad 10) cI ir]) H := hP
              refine lv_iinc (pc := 88) (v := nI (k + 1)) (lv' := [(4, .int (nI (k + 1))), (5, .long (lN (((7919 * z) + (6151 * k)) + 1))), (3, .int (x3)), (2, .int (nI n)), (1, .int (nI z)), (0, .ref o)]) hx hb dX10_evening_88 hl (k := 1) rfl (by rw [← nI_add]; rfl) (by decide) rfl (fun ls hl => ?_)
              refine lv_goto (pc := 91) (tgt := 47) hx hb dX10_evening_91 (by decide) ?_
              exact ih47 (k + 1) f2 _ _ _ (by omega) hT2 (by omega) hP hS (lv_sub hl [0, 2, 3, 4, 5] rfl)
        exact cut47 _ 0 (cpN sl 0 352 32) _ _ _ (Nat.zero_le _) (try_init hw hsb hf0) (Nat.lt_succ_self _) hP hS (lv_sub hl [0, 4, 3, 2, 1] rfl)
      · refine lv_iconst (pc := 34) (v := jI (-1)) hx hb dX10_evening_34 (by decide) ?_
        exact hret 35 _ hP hS dX10_evening_35 rfl rfl ⟨(by unfold zEvening; rw [if_neg (by omega)]), sl, rfl, tEnd.rf hsb⟩
