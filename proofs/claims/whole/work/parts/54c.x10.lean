abbrev rmX10_mind : Room := { frames := 5, cells := 0, slots := 0, locals := 115 }
set_option maxHeartbeats 4000000 in
set_option maxRecDepth 100000 in
theorem k_X10_mind (l : Launch) (D : va_G) (cI cC cB cS : ClassId) (o : Nat) (ad : Nat → Nat) (P : PL) (I : RI) (sl : Nat → Nat) (so : Nat → Nat) (cl : Nat → Nat) (de : Nat → Nat) (si : Nat → Nat) (ms : Nat → Nat) (to : Nat → Nat) (sc : Nat → Nat) (sh : Nat → Nat) (x1 : Int32) (z1 : Int) (hz1 : x1.toInt = z1) (x2 : Int32) (z2 : Int) (hz2 : x2.toInt = z2) (wa : Nat → Nat) (ir : Nat → Nat) (hpk : plOK P) (hc : rC P so cl de si) (hm : rM P wa ir ms) (hto : ∀ k, k < 24 → to k = P.1 k) (hsb : sB sl) (hde : ∀ j, de j < 100) (hso : ∀ j, so j < 100) (hsi : ∀ j, si j < 100) (hms : ∀ j, ms j < 100) (htb : ∀ j, to j < 100) (hsc : ∀ j, sc j < 24 ∧ sh j < 100) (hsn : I.2.2.2.2.2.2.2.2.2.2.1 ≤ 8) : CI l D (kT cI cC cB cS) yX10_mind wsX10_mind rmX10_mind [.ref o, .int (x1), .int (x2)] ([rmE o ad (pCells P) P.2.2.2.1 P.2.2.2.2.2.1 P.2.2.2.2.2.2 I, nE 384 (ad 25) cI sl, nE 6 (ad 4) cI so, nE 6 (ad 5) cI cl, nE 6 (ad 6) cI de, nE 6 (ad 7) cI si, nE 3 (ad 11) cI ms, nE 24 (ad 2) cI to, nE 8 (ad 34) cI sc, nE 8 (ad 35) cI sh]) (fun r u => r = jI (zMind P (sc, sh, I.2.2.2.2.2.2.2.2.2.2.1) z1 z2) ∧ ∃ f : Nat → Nat, u = [rmE o ad (pCells P) P.2.2.2.1 P.2.2.2.2.2.1 P.2.2.2.2.2.2 I, nE 384 (ad 25) cI f, nE 6 (ad 4) cI so, nE 6 (ad 5) cI cl, nE 6 (ad 6) cI de, nE 6 (ad 7) cI si, nE 3 (ad 11) cI ms, nE 24 (ad 2) cI to, nE 8 (ad 34) cI sc, nE 8 (ad 35) cI sh] ∧ tEnd sl f) := by
  refine ci_intro (by decide) rfl (Nat.le_of_ble_eq_true rfl) ?_
  intro p e s m args below meth c ls A QF hF hK hP hV hS hA hN hl hret
  obtain ⟨hx, hb, hml, hown, hts⟩ := id hF
  have hP : va_P D vwCl ([rmE o ad (pCells P) P.2.2.2.1 P.2.2.2.2.2.1 P.2.2.2.2.2.2 I, nE 384 (ad 25) cI sl, nE 6 (ad 4) cI so, nE 6 (ad 5) cI cl, nE 6 (ad 6) cI de, nE 6 (ad 7) cI si, nE 3 (ad 11) cI ms, nE 24 (ad 2) cI to, nE 8 (ad 34) cI sc, nE 8 (ad 35) cI sh]) s.heap := hP
  have hl : lv_has ls 7 [(0, .ref o), (1, .int (x1)), (2, .int (x2))] := hl
  have wf127 := hts (.fieldLink RX10 127 "RemorseWallModel" "cases" "I") (by decide +kernel)
  have hiX10 : ∀ w ∈ u_ws RX10 TX10 44, w ∈ wsX10_mind := by decide +kernel
  have hw := hpk.1
  obtain ⟨hp, hc1, hce, hme⟩ := id hw
  obtain ⟨hp1, hp2, hp3, hp4, hp5, hp6, hp7⟩ := id hp
  have hcl := pCells_le hp
  have hpw := Nat.two_pow_pos P.2.2.2.2.2.1
  have hpw6 := pow_64 hp6
  have hr1 := i32_rng x1
  rw [hz1] at hr1
  have hr2 := i32_rng x2
  rw [hz2] at hr2
  refine lv_iload_n (pc := 0) hx hb dX10_mind_0 rfl (lv_at hl 1 rfl) ?_
  refine lv_i2l (pc := 1) (v := jL z1) hx hb dX10_mind_1 (i2l_j hz1) ?_
  refine lv_lconst (pc := 2) (v := jL 1) hx hb dX10_mind_2 (by decide) ?_
  refine lv_ldc2 (pc := 3) (v := jL 20) hx hb hown (hts (.constantLong RX10 257 (jL 20)) (by decide +kernel)) dX10_mind_3 ?_
  refine ci_Sd (pc := 6) hF hN hK hP hV hS hA (k_X10_in l D cI cC cB cS z1 1 20 (by omega)) (va_cwS 3 hts gX10_mind_X10_in rfl rfl rfl (by decide +kernel) ⟨Nat.le_of_ble_eq_true rfl, Nat.le_of_ble_eq_true rfl⟩) [] rfl (by decide) rfl hl.1 rfl (Nat.le_of_ble_eq_true rfl) dX10_mind_6 ⟨Nat.le_refl _, Nat.le_refl _⟩ rfl (ws2 := [rmE o ad (pCells P) P.2.2.2.1 P.2.2.2.2.2.1 P.2.2.2.2.2.2 I, nE 384 (ad 25) cI sl, nE 6 (ad 4) cI so, nE 6 (ad 5) cI cl, nE 6 (ad 6) cI de, nE 6 (ad 7) cI si, nE 3 (ad 11) cI ms, nE 24 (ad 2) cI to, nE 8 (ad 34) cI sc, nE 8 (ad 35) cI sh]) rfl (fun H locs hP hS => ?_)
  refine rb_eq (pc := 9) (tgt := 22) hx hb dX10_mind_9 (by decide) (fun c9 => ?_) (fun c9 => ?_)
  · refine lv_iconst (pc := 22) (v := jI (-1)) hx hb dX10_mind_22 (by decide) ?_
    exact hret 23 _ hP hS dX10_mind_23 rfl rfl ⟨(by unfold zMind; rw [if_neg (by omega)]), sl, rfl, tEnd.rf hsb⟩
  · refine lv_iload_n (pc := 12) hx hb dX10_mind_12 rfl (lv_at hl 2 rfl) ?_
    refine lv_i2l (pc := 13) (v := jL z2) hx hb dX10_mind_13 (i2l_j hz2) ?_
    refine lv_lconst (pc := 14) (v := jL 0) hx hb dX10_mind_14 (by decide) ?_
    refine lv_lconst (pc := 15) (v := jL 1) hx hb dX10_mind_15 (by decide) ?_
    refine ci_Sd (pc := 16) hF hN hK hP hV hS hA (k_X10_in l D cI cC cB cS z2 0 1 (by omega)) (va_cwS 3 hts gX10_mind_X10_in rfl rfl rfl (by decide +kernel) ⟨Nat.le_of_ble_eq_true rfl, Nat.le_of_ble_eq_true rfl⟩) [] rfl (by decide) rfl hl.1 rfl (Nat.le_of_ble_eq_true rfl) dX10_mind_16 ⟨Nat.le_refl _, Nat.le_refl _⟩ rfl (ws2 := [rmE o ad (pCells P) P.2.2.2.1 P.2.2.2.2.2.1 P.2.2.2.2.2.2 I, nE 384 (ad 25) cI sl, nE 6 (ad 4) cI so, nE 6 (ad 5) cI cl, nE 6 (ad 6) cI de, nE 6 (ad 7) cI si, nE 3 (ad 11) cI ms, nE 24 (ad 2) cI to, nE 8 (ad 34) cI sc, nE 8 (ad 35) cI sh]) rfl (fun H locs hP hS => ?_)
    refine rb_ne (pc := 19) (tgt := 24) hx hb dX10_mind_19 (by decide) (fun c19 => ?_) (fun c19 => ?_)
    · obtain ⟨n, rfl⟩ : ∃ k : Nat, z1 = k := ⟨z1.toNat, by omega⟩
      obtain rfl : x1 = nI n := eq_nI hz1
      refine lv_iconst (pc := 24) (v := nI 0) hx hb dX10_mind_24 (by decide) ?_
      refine lv_istore_n (pc := 25) (lv' := [(3, .int (nI 0)), (0, .ref o), (1, .int (nI n)), (2, .int (x2))]) hx hb dX10_mind_25 rfl hl (by decide) rfl (fun ls hl => ?_)
      refine lv_bipush (pc := 26) (v := jI (-4)) hx hb dX10_mind_26 (by decide) ?_
      refine lv_istore (pc := 28) (lv' := [(4, .int (jI (-4))), (3, .int (nI 0)), (0, .ref o), (1, .int (nI n)), (2, .int (x2))]) hx hb dX10_mind_28 hl (by decide) rfl (fun ls hl => ?_)
      refine lv_iconst (pc := 30) (v := nI 1) hx hb dX10_mind_30 (by decide) ?_
      refine lv_aload_n (pc := 31) hx hb dX10_mind_31 rfl (lv_at hl 2 rfl) ?_
      refine va_get (pc := 32) (D := D) (ci := 10) (v := .int (nI P.2.2.2.2.2.1)) (C := RX10) (T := TX10) (N := 44) hx hb hts hiX10 hown hK hP 0 rfl rfl 3 (by decide) wf127 (fun _ h9 => h9) rfl dX10_mind_32 ?_
      refine lv_ishl (pc := 35) hx hb dX10_mind_35 ?_
      refine r_top (nI_1shl (by omega)) ?_
      refine lv_iconst (pc := 36) (v := nI 1) hx hb dX10_mind_36 (by decide) ?_
      refine rn_isub (pc := 37) hx hb (by omega) dX10_mind_37 ?_
      refine r_top (show _ = jI (((2 ^ P.2.2.2.2.2.1 : Nat) : Int) + -1) from by rw [jI_nat]; congr 1; omega) ?_
      refine lv_istore (pc := 38) (lv' := [(5, .int (jI (((2 ^ P.2.2.2.2.2.1 : Nat) : Int) + -1))), (4, .int (jI (-4))), (3, .int (nI 0)), (0, .ref o), (1, .int (nI n)), (2, .int (x2))]) hx hb dX10_mind_38 hl (by decide) rfl (fun ls hl => ?_)
      have cut40 : ∀ (fuel : Nat) (k : Nat) (a : Nat) (b : Int) (f : Nat → Nat) (H : Heap) (locs : List Loc) (ls : Array Slot) (hk : k ≤ 2 ^ P.2.2.2.2.2.1) (hx9 : mindN P (sc, sh, I.2.2.2.2.2.2.2.2.2.2.1) n (2 ^ P.2.2.2.2.2.1) = ((mindN P (sc, sh, I.2.2.2.2.2.2.2.2.2.2.1) n k).1 + a, if (mindN P (sc, sh, I.2.2.2.2.2.2.2.2.2.2.1) n k).2 = -4 then b else (mindN P (sc, sh, I.2.2.2.2.2.2.2.2.2.2.1) n k).2)) (hE : tEnd sl f) (hfu : k < fuel), va_P D vwCl ([rmE o ad (pCells P) P.2.2.2.1 P.2.2.2.2.2.1 P.2.2.2.2.2.2 I, nE 384 (ad 25) cI f, nE 6 (ad 4) cI so, nE 6 (ad 5) cI cl, nE 6 (ad 6) cI de, nE 6 (ad 7) cI si, nE 3 (ad 11) cI ms, nE 24 (ad 2) cI to, nE 8 (ad 34) cI sc, nE 8 (ad 35) cI sh]) H → va_S A s.heap H locs → lv_has ls 7 [(5, .int (jI (((k : Nat) : Int) + -1))), (4, .int (jI b)), (3, .int (nI a)), (2, .int (x2)), (1, .int (nI n)), (0, .ref o)] → W p l e rmX10_mind s m args below meth c H locs 0 0 QF (F0 m 40 ls []) := by
        intro fuel
        induction fuel with
        | zero => intro k a b f H locs ls hk hx9 hE hfu; omega
        | succ fuel ih40 =>
          intro k a b f H locs ls hk hx9 hE hfu hP hS hl
          refine lv_iload (pc := 40) hx hb dX10_mind_40 (lv_at hl 0 rfl) ?_
          refine r0_lt (pc := 42) (tgt := 87) hx hb (jI_to (by omega)) dX10_mind_42 (by decide) (fun c42 => ?_) (fun c42 => ?_)
          · have hk0 : k = 0 := by omega
            rw [hk0] at hx9
            refine lv_iload_n (pc := 87) hx hb dX10_mind_87 rfl (lv_at hl 3 rfl) ?_
            refine r0_ne (pc := 88) (tgt := 95) hx hb hz2 dX10_mind_88 (by decide) (fun c88 => ?_) (fun c88 => ?_)
            · refine lv_iload (pc := 95) hx hb dX10_mind_95 (lv_at hl 1 rfl) ?_
              exact hret 97 _ hP hS dX10_mind_97 rfl rfl ⟨(by unfold zMind; rw [if_pos (by omega), Int.toNat_natCast, hx9, if_neg (by omega)]; show jI b = jI (if (-4 : Int) = -4 then b else -4); rw [if_pos rfl]), f, rfl, hE⟩
            · refine lv_iload_n (pc := 91) hx hb dX10_mind_91 rfl (lv_at hl 2 rfl) ?_
              refine lv_goto (pc := 92) (tgt := 97) hx hb dX10_mind_92 (by decide) ?_
              exact hret 97 _ hP hS dX10_mind_97 rfl rfl ⟨(by unfold zMind; rw [if_pos (by omega), Int.toNat_natCast, hx9, if_pos (by omega)]; show nI a = jI ((0 + a : Nat) : Int); rw [Nat.zero_add]; exact jI_nat _), f, rfl, hE⟩
          · obtain ⟨j, rfl⟩ : ∃ j : Nat, k = j + 1 := ⟨k - 1, by omega⟩
            rw [show jI (((j + 1 : Nat) : Int) + -1) = nI j from by rw [jI_nat]; congr 1; omega] at hl
            refine lv_aload_n (pc := 45) hx hb dX10_mind_45 rfl (lv_at hl 5 rfl) ?_
            refine lv_iload (pc := 46) hx hb dX10_mind_46 (lv_at hl 0 rfl) ?_
            refine lv_iload_n (pc := 48) hx hb dX10_mind_48 rfl (lv_at hl 4 rfl) ?_
            refine ci_V (pc := 49) hF hN hK hP hV hS hA (k_X10_isSo l D cI cC cB cS o ad P I f so cl de si ms to sc sh j n wa ir hpk hc hm hto (hE.sB hsb) hde hso hsi hms htb hsc hsn (by omega) (by omega)) (cwV 2 hts gX10_mind_X10_isSo rfl rfl rfl (by decide +kernel) ⟨Nat.le_of_ble_eq_true rfl, Nat.le_of_ble_eq_true rfl⟩) [0, 1, 2, 3, 4, 5, 6, 7, 8, 9] rfl (by decide) 0 10 rfl rfl rfl hl.1 rfl (Nat.le_of_ble_eq_true rfl) dX10_mind_49 ⟨Nat.le_refl _, Nat.le_refl _⟩ rfl (fun r u H locs hq hu hP hS => ?_)
            obtain ⟨rfl, f2, rfl, hE2⟩ := hq
            have hP : va_P D vwCl ([rmE o ad (pCells P) P.2.2.2.1 P.2.2.2.2.2.1 P.2.2.2.2.2.2 I, nE 384 (ad 25) cI f2, nE 6 (ad 4) cI so, nE 6 (ad 5) cI cl, nE 6 (ad 6) cI de, nE 6 (ad 7) cI si, nE 3 (ad 11) cI ms, nE 24 (ad 2) cI to, nE 8 (ad 34) cI sc, nE 8 (ad 35) cI sh]) H := hP
            refine lv_istore (pc := 52) (lv' := [(6, .int (nI (if seenB P (sc, sh, I.2.2.2.2.2.2.2.2.2.2.1) j n then 1 else 0))), (5, .int (nI j)), (4, .int (jI b)), (3, .int (nI a)), (2, .int (x2)), (1, .int (nI n)), (0, .ref o)]) hx hb dX10_mind_52 hl (by decide) rfl (fun ls hl => ?_)
            refine lv_iload_n (pc := 54) hx hb dX10_mind_54 rfl (lv_at hl 3 rfl) ?_
            refine lv_iload (pc := 55) hx hb dX10_mind_55 (lv_at hl 0 rfl) ?_
            refine rb_eq (pc := 57) (tgt := 64) hx hb dX10_mind_57 (by decide) (fun c57 => ?_) (fun c57 => ?_)
            · refine lv_iconst (pc := 64) (v := nI 0) hx hb dX10_mind_64 (by decide) ?_
              refine rn_iadd (pc := 65) hx hb dX10_mind_65 ?_
              refine lv_istore_n (pc := 66) (lv' := [(3, .int (nI (a + 0))), (6, .int (nI (if seenB P (sc, sh, I.2.2.2.2.2.2.2.2.2.2.1) j n then 1 else 0))), (5, .int (nI j)), (4, .int (jI b)), (2, .int (x2)), (1, .int (nI n)), (0, .ref o)]) hx hb dX10_mind_66 rfl hl (by decide) rfl (fun ls hl => ?_)
              refine lv_iload (pc := 67) hx hb dX10_mind_67 (lv_at hl 1 rfl) ?_
              refine rb_eq (pc := 69) (tgt := 77) hx hb dX10_mind_69 (by decide) (fun c69 => ?_) (fun c69 => ?_)
              · refine lv_iload (pc := 77) hx hb dX10_mind_77 (lv_at hl 3 rfl) ?_
                refine lv_istore (pc := 79) (lv' := [(4, .int (jI b)), (3, .int (nI (a + 0))), (6, .int (nI (if seenB P (sc, sh, I.2.2.2.2.2.2.2.2.2.2.1) j n then 1 else 0))), (5, .int (nI j)), (2, .int (x2)), (1, .int (nI n)), (0, .ref o)]) hx hb dX10_mind_79 hl (by decide) rfl (fun ls hl => ?_)
                rw [jI_nat j] at hl
                refine lv_iinc (pc := 81) (v := jI (((j : Nat) : Int) + -1)) (lv' := [(5, .int (jI (((j : Nat) : Int) + -1))), (4, .int (jI b)), (3, .int (nI (a + 0))), (6, .int (nI (if seenB P (sc, sh, I.2.2.2.2.2.2.2.2.2.2.1) j n then 1 else 0))), (2, .int (x2)), (1, .int (nI n)), (0, .ref o)]) hx hb dX10_mind_81 hl (k := 3) rfl (by rw [show jI ((j : Nat) : Int) = jI ((j : Nat) : Int) from rfl, ← jI_add]; rfl) (by decide) rfl (fun ls hl => ?_)
                refine lv_goto (pc := 84) (tgt := 40) hx hb dX10_mind_84 (by decide) ?_
                exact ih40 j (a + 0) b f2 _ _ _ (by omega) (mR_n hx9 c57) (tEnd.tr hE hE2) (by omega) hP hS (lv_sub hl [0, 1, 2, 4, 5, 6] rfl)
              · exact absurd c69 c57
            · refine lv_iconst (pc := 60) (v := nI 1) hx hb dX10_mind_60 (by decide) ?_
              refine lv_goto (pc := 61) (tgt := 65) hx hb dX10_mind_61 (by decide) ?_
              refine rn_iadd (pc := 65) hx hb dX10_mind_65 ?_
              refine lv_istore_n (pc := 66) (lv' := [(3, .int (nI (a + 1))), (6, .int (nI (if seenB P (sc, sh, I.2.2.2.2.2.2.2.2.2.2.1) j n then 1 else 0))), (5, .int (nI j)), (4, .int (jI b)), (2, .int (x2)), (1, .int (nI n)), (0, .ref o)]) hx hb dX10_mind_66 rfl hl (by decide) rfl (fun ls hl => ?_)
              refine lv_iload (pc := 67) hx hb dX10_mind_67 (lv_at hl 1 rfl) ?_
              refine rb_eq (pc := 69) (tgt := 77) hx hb dX10_mind_69 (by decide) (fun c69 => ?_) (fun c69 => ?_)
              · exact absurd c57 c69
              · refine lv_iload (pc := 72) hx hb dX10_mind_72 (lv_at hl 2 rfl) ?_
                refine lv_goto (pc := 74) (tgt := 79) hx hb dX10_mind_74 (by decide) ?_
                refine r_top (jI_nat _) ?_
                refine lv_istore (pc := 79) (lv' := [(4, .int (jI ((j : Nat) : Int))), (3, .int (nI (a + 1))), (6, .int (nI (if seenB P (sc, sh, I.2.2.2.2.2.2.2.2.2.2.1) j n then 1 else 0))), (5, .int (nI j)), (2, .int (x2)), (1, .int (nI n)), (0, .ref o)]) hx hb dX10_mind_79 hl (by decide) rfl (fun ls hl => ?_)
                rw [jI_nat j] at hl
                refine lv_iinc (pc := 81) (v := jI (((j : Nat) : Int) + -1)) (lv' := [(5, .int (jI (((j : Nat) : Int) + -1))), (4, .int (jI ((j : Nat) : Int))), (3, .int (nI (a + 1))), (6, .int (nI (if seenB P (sc, sh, I.2.2.2.2.2.2.2.2.2.2.1) j n then 1 else 0))), (2, .int (x2)), (1, .int (nI n)), (0, .ref o)]) hx hb dX10_mind_81 hl (k := 3) rfl (by rw [show jI ((j : Nat) : Int) = jI ((j : Nat) : Int) from rfl, ← jI_add]; rfl) (by decide) rfl (fun ls hl => ?_)
                refine lv_goto (pc := 84) (tgt := 40) hx hb dX10_mind_84 (by decide) ?_
                exact ih40 j (a + 1) ((j : Nat) : Int) f2 _ _ _ (by omega) (mR_y hx9 c57) (tEnd.tr hE hE2) (by omega) hP hS (lv_sub hl [0, 1, 2, 4, 5, 6] rfl)
      exact cut40 _ (2 ^ P.2.2.2.2.2.1) 0 (-4) sl _ _ _ (Nat.le_refl _) mR_0 (tEnd.rf hsb) (Nat.lt_succ_self _) hP hS (lv_sub hl [0, 1, 2, 5, 4, 3] rfl)
    · refine lv_iconst (pc := 22) (v := jI (-1)) hx hb dX10_mind_22 (by decide) ?_
      exact hret 23 _ hP hS dX10_mind_23 rfl rfl ⟨(by unfold zMind; rw [if_neg (by omega)]), sl, rfl, tEnd.rf hsb⟩
