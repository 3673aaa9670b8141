abbrev rmX10_pardons : Room := { frames := 5, cells := 0, slots := 0, locals := 114 }
set_option maxHeartbeats 4000000 in
set_option maxRecDepth 100000 in
theorem k_X10_pardons (l : Launch) (D : va_G) (cI cC cB cS : ClassId) (o : Nat) (ad : Nat → Nat) (P : PL) (I : RI) (sl : Nat → Nat) (so : Nat → Nat) (cl : Nat → Nat) (de : Nat → Nat) (si : Nat → Nat) (ms : Nat → Nat) (x1 : Int32) (z1 : Int) (hz1 : x1.toInt = z1) (x2 : Int32) (z2 : Int) (hz2 : x2.toInt = z2) (S : ST) (wa : Nat → Nat) (ir : Nat → Nat) (hpk : plOK P) (hst : stOK P S) (hc : rC P so cl de si) (hm : rM P wa ir ms) (hf0 : rF P sl 0 S) (hsb : sB sl) (hde : ∀ j, de j < 100) (hso : ∀ j, so j < 100) (hsi : ∀ j, si j < 100) (hms : ∀ j, ms j < 100) (hy : S.2.2.2.2 ≤ 999) (hx2 : stX P S) : CI l D (kT cI cC cB cS) yX10_pardons wsX10_pardons rmX10_pardons [.ref o, .int (x1), .int (x2)] ([rmE o ad (pCells P) P.2.2.2.1 P.2.2.2.2.2.1 P.2.2.2.2.2.2 I, nE 384 (ad 25) cI sl, nE 6 (ad 4) cI so, nE 6 (ad 5) cI cl, nE 6 (ad 6) cI de, nE 6 (ad 7) cI si, nE 3 (ad 11) cI ms]) (fun r u => r = jI (zPardons P S z1 z2) ∧ ∃ f : Nat → Nat, u = [rmE o ad (pCells P) P.2.2.2.1 P.2.2.2.2.2.1 P.2.2.2.2.2.2 I, nE 384 (ad 25) cI f, nE 6 (ad 4) cI so, nE 6 (ad 5) cI cl, nE 6 (ad 6) cI de, nE 6 (ad 7) cI si, nE 3 (ad 11) cI ms] ∧ tEnd sl f) := by
  refine ci_intro (by decide) rfl (Nat.le_of_ble_eq_true rfl) ?_
  intro p e s m args below meth c ls A QF hF hK hP hV hS hA hN hl hret
  obtain ⟨hx, hb, hml, hown, hts⟩ := id hF
  have hP : va_P D vwCl ([rmE o ad (pCells P) P.2.2.2.1 P.2.2.2.2.2.1 P.2.2.2.2.2.2 I, nE 384 (ad 25) cI sl, nE 6 (ad 4) cI so, nE 6 (ad 5) cI cl, nE 6 (ad 6) cI de, nE 6 (ad 7) cI si, nE 3 (ad 11) cI ms]) s.heap := hP
  have hl : lv_has ls 7 [(0, .ref o), (1, .int (x1)), (2, .int (x2))] := hl
  have wf61 := hts (.fieldLink RX10 61 "RemorseWallModel" "slot" "[I") (by decide +kernel)
  have wf127 := hts (.fieldLink RX10 127 "RemorseWallModel" "cases" "I") (by decide +kernel)
  have hiX10 : ∀ w ∈ u_ws RX10 TX10 44, w ∈ wsX10_pardons := by decide +kernel
  have hw := hpk.1
  obtain ⟨hp, hc1, hce, hme⟩ := id hw
  obtain ⟨hp1, hp2, hp3, hp4, hp5, hp6, hp7⟩ := id hp
  have hcl := pCells_le hp
  have hs : sHi S := hst.1
  have hr1 := i32_rng x1
  rw [hz1] at hr1
  have hr2 := i32_rng x2
  rw [hz2] at hr2
  have hslb := sB_h hsb
  refine lv_iload_n (pc := 0) hx hb dX10_pardons_0 rfl (lv_at hl 1 rfl) ?_
  refine lv_i2l (pc := 1) (v := jL z1) hx hb dX10_pardons_1 (i2l_j hz1) ?_
  refine lv_lconst (pc := 2) (v := jL 1) hx hb dX10_pardons_2 (by decide) ?_
  refine lv_ldc2 (pc := 3) (v := jL 20) hx hb hown (hts (.constantLong RX10 257 (jL 20)) (by decide +kernel)) dX10_pardons_3 ?_
  refine ci_Sd (pc := 6) hF hN hK hP hV hS hA (k_X10_in l D cI cC cB cS z1 1 20 (by omega)) (va_cwS 3 hts gX10_pardons_X10_in rfl rfl rfl (by decide +kernel) ⟨Nat.le_of_ble_eq_true rfl, Nat.le_of_ble_eq_true rfl⟩) [] rfl (by decide) rfl hl.1 rfl (Nat.le_of_ble_eq_true rfl) dX10_pardons_6 ⟨Nat.le_refl _, Nat.le_refl _⟩ rfl (ws2 := [rmE o ad (pCells P) P.2.2.2.1 P.2.2.2.2.2.1 P.2.2.2.2.2.2 I, nE 384 (ad 25) cI sl, nE 6 (ad 4) cI so, nE 6 (ad 5) cI cl, nE 6 (ad 6) cI de, nE 6 (ad 7) cI si, nE 3 (ad 11) cI ms]) rfl (fun H locs hP hS => ?_)
  refine rb_eq (pc := 9) (tgt := 22) hx hb dX10_pardons_9 (by decide) (fun c9 => ?_) (fun c9 => ?_)
  · refine lv_iconst (pc := 22) (v := jI (-1)) hx hb dX10_pardons_22 (by decide) ?_
    exact hret 23 _ hP hS dX10_pardons_23 rfl rfl ⟨(by unfold zPardons; rw [if_neg (by omega)]), sl, rfl, tEnd.rf hsb⟩
  · refine lv_iload_n (pc := 12) hx hb dX10_pardons_12 rfl (lv_at hl 2 rfl) ?_
    refine lv_i2l (pc := 13) (v := jL z2) hx hb dX10_pardons_13 (i2l_j hz2) ?_
    refine lv_lconst (pc := 14) (v := jL 0) hx hb dX10_pardons_14 (by decide) ?_
    refine lv_lconst (pc := 15) (v := jL 1) hx hb dX10_pardons_15 (by decide) ?_
    refine ci_Sd (pc := 16) hF hN hK hP hV hS hA (k_X10_in l D cI cC cB cS z2 0 1 (by omega)) (va_cwS 3 hts gX10_pardons_X10_in rfl rfl rfl (by decide +kernel) ⟨Nat.le_of_ble_eq_true rfl, Nat.le_of_ble_eq_true rfl⟩) [] rfl (by decide) rfl hl.1 rfl (Nat.le_of_ble_eq_true rfl) dX10_pardons_16 ⟨Nat.le_refl _, Nat.le_refl _⟩ rfl (ws2 := [rmE o ad (pCells P) P.2.2.2.1 P.2.2.2.2.2.1 P.2.2.2.2.2.2 I, nE 384 (ad 25) cI sl, nE 6 (ad 4) cI so, nE 6 (ad 5) cI cl, nE 6 (ad 6) cI de, nE 6 (ad 7) cI si, nE 3 (ad 11) cI ms]) rfl (fun H locs hP hS => ?_)
    refine rb_ne (pc := 19) (tgt := 24) hx hb dX10_pardons_19 (by decide) (fun c19 => ?_) (fun c19 => ?_)
    · obtain ⟨n, rfl⟩ : ∃ k : Nat, z1 = k := ⟨z1.toNat, by omega⟩
      obtain rfl : x1 = nI n := eq_nI hz1
      refine lv_bipush (pc := 24) (v := jI (-4)) hx hb dX10_pardons_24 (by decide) ?_
      refine lv_istore_n (pc := 26) (lv' := [(3, .int (jI (-4))), (0, .ref o), (1, .int (nI n)), (2, .int (x2))]) hx hb dX10_pardons_26 rfl hl (by decide) rfl (fun ls hl => ?_)
      refine lv_sipush (pc := 27) (v := nI 9999) hx hb dX10_pardons_27 (by decide) ?_
      refine lv_istore (pc := 30) (lv' := [(4, .int (nI 9999)), (3, .int (jI (-4))), (0, .ref o), (1, .int (nI n)), (2, .int (x2))]) hx hb dX10_pardons_30 hl (by decide) rfl (fun ls hl => ?_)
      refine lv_iconst (pc := 32) (v := nI 0) hx hb dX10_pardons_32 (by decide) ?_
      refine lv_istore (pc := 33) (lv' := [(5, .int (nI 0)), (4, .int (nI 9999)), (3, .int (jI (-4))), (0, .ref o), (1, .int (nI n)), (2, .int (x2))]) hx hb dX10_pardons_33 hl (by decide) rfl (fun ls hl => ?_)
      have cut35 : ∀ (fuel : Nat) (c9 : Nat) (b : Int) (q : Int) (g : Int) (f : Nat → Nat) (H : Heap) (locs : List Loc) (ls : Array Slot) (hc9 : c9 ≤ P.2.2.2.2.2.1) (hbe : (b, q) = bestN P S n c9) (hg : (b = -4 ∧ g = 9999) ∨ (0 ≤ b ∧ g = q)) (hE : tEnd sl f) (hfu : P.2.2.2.2.2.1 - c9 < fuel), va_P D vwCl ([rmE o ad (pCells P) P.2.2.2.1 P.2.2.2.2.2.1 P.2.2.2.2.2.2 I, nE 384 (ad 25) cI f, nE 6 (ad 4) cI so, nE 6 (ad 5) cI cl, nE 6 (ad 6) cI de, nE 6 (ad 7) cI si, nE 3 (ad 11) cI ms]) H → va_S A s.heap H locs → lv_has ls 7 [(5, .int (nI c9)), (4, .int (jI g)), (3, .int (jI b)), (2, .int (x2)), (1, .int (nI n)), (0, .ref o)] → W p l e rmX10_pardons s m args below meth c H locs 0 0 QF (F0 m 35 ls []) := by
        intro fuel
        induction fuel with
        | zero => intro c9 b q g f H locs ls hc9 hbe hg hE hfu; omega
        | succ fuel ih35 =>
          intro c9 b q g f H locs ls hc9 hbe hg hE hfu hP hS hl
          have hbr := bestN_rng hs n c9 (P := P)
          have hm4 := best_m4 (P := P) (S := S) (n := n) c9
          rw [← hbe] at hbr hm4
          dsimp only at hbr hm4
          have hfB := hE.sB hsb
          have hfF := hE.rF hp7 hf0
          have hpd : f 30 = S.2.2.2.1 := rF_pd hfF
          have hs30 := sB_h hfB 30
          have hpn9 := pardN_le hs n c9 (P := P)
          refine lv_iload (pc := 35) hx hb dX10_pardons_35 (lv_at hl 0 rfl) ?_
          refine lv_aload_n (pc := 37) hx hb dX10_pardons_37 rfl (lv_at hl 5 rfl) ?_
          refine va_get (pc := 38) (D := D) (ci := 10) (v := .int (nI P.2.2.2.2.2.1)) (C := RX10) (T := TX10) (N := 44) hx hb hts hiX10 hown hK hP 0 rfl rfl 3 (by decide) wf127 (fun _ h9 => h9) rfl dX10_pardons_38 ?_
          refine rc_ge (pc := 41) (tgt := 103) hx hb (tI_nI (by omega)) (tI_nI (by omega)) dX10_pardons_41 (by decide) (fun c41 => ?_) (fun c41 => ?_)
          · refine lv_iload_n (pc := 103) hx hb dX10_pardons_103 rfl (lv_at hl 2 rfl) ?_
            refine r0_lt (pc := 104) (tgt := 111) hx hb (jI_to (by omega)) dX10_pardons_104 (by decide) (fun c104 => ?_) (fun c104 => ?_)
            · refine lv_iload_n (pc := 111) hx hb dX10_pardons_111 rfl (lv_at hl 2 rfl) ?_
              refine lv_goto (pc := 112) (tgt := 117) hx hb dX10_pardons_112 (by decide) ?_
              exact hret 117 _ hP hS dX10_pardons_117 rfl rfl ⟨(by have e9 : c9 = P.2.2.2.2.2.1 := (by omega); unfold zPardons; rw [if_pos (by omega), Int.toNat_natCast, ← e9, ← hbe]; (congr 1; split <;> first | rfl | (show b = q; omega))), f, rfl, hE⟩
            · refine lv_iload_n (pc := 107) hx hb dX10_pardons_107 rfl (lv_at hl 3 rfl) ?_
              refine r0_ne (pc := 108) (tgt := 115) hx hb hz2 dX10_pardons_108 (by decide) (fun c108 => ?_) (fun c108 => ?_)
              · refine lv_iload (pc := 115) hx hb dX10_pardons_115 (lv_at hl 1 rfl) ?_
                exact hret 117 _ hP hS dX10_pardons_117 rfl rfl ⟨(by have e9 : c9 = P.2.2.2.2.2.1 := (by omega); unfold zPardons; rw [if_pos (by omega), Int.toNat_natCast, ← e9, ← hbe]; rw [if_neg (by omega)]; congr 1; omega), f, rfl, hE⟩
              · refine lv_iload_n (pc := 111) hx hb dX10_pardons_111 rfl (lv_at hl 2 rfl) ?_
                refine lv_goto (pc := 112) (tgt := 117) hx hb dX10_pardons_112 (by decide) ?_
                exact hret 117 _ hP hS dX10_pardons_117 rfl rfl ⟨(by have e9 : c9 = P.2.2.2.2.2.1 := (by omega); unfold zPardons; rw [if_pos (by omega), Int.toNat_natCast, ← e9, ← hbe]; rw [if_pos (by omega)]), f, rfl, hE⟩
          · refine lv_aload_n (pc := 44) hx hb dX10_pardons_44 rfl (lv_at hl 5 rfl) ?_
            refine va_get (pc := 45) (D := D) (ci := 10) (v := .ref (ad 25)) (C := RX10) (T := TX10) (N := 44) hx hb hts hiX10 hown hK hP 0 rfl rfl 25 (by decide) wf61 (fun _ h9 => h9) rfl dX10_pardons_45 ?_
            refine lv_bipush (pc := 48) (v := nI 30) hx hb dX10_pardons_48 (by decide) ?_
            refine ra_iald (pc := 50) (k := 30) (v := nI (f 30)) hx hb hK hP 1 0 rfl rfl (by omega) (by decide) rfl dX10_pardons_50 ?_
            refine lv_iload (pc := 51) hx hb dX10_pardons_51 (lv_at hl 0 rfl) ?_
            refine ci_Sd (pc := 53) hF hN hK hP hV hS hA (k_X10_has l D cI cC cB cS (f 30) c9 (by omega) (by omega)) (va_cwS 2 hts gX10_pardons_X10_has rfl rfl rfl (by decide +kernel) ⟨Nat.le_of_ble_eq_true rfl, Nat.le_of_ble_eq_true rfl⟩) [] rfl (by decide) rfl hl.1 rfl (Nat.le_of_ble_eq_true rfl) dX10_pardons_53 ⟨Nat.le_refl _, Nat.le_refl _⟩ rfl (ws2 := [rmE o ad (pCells P) P.2.2.2.1 P.2.2.2.2.2.1 P.2.2.2.2.2.2 I, nE 384 (ad 25) cI f, nE 6 (ad 4) cI so, nE 6 (ad 5) cI cl, nE 6 (ad 6) cI de, nE 6 (ad 7) cI si, nE 3 (ad 11) cI ms]) rfl (fun H locs hP hS => ?_)
            refine rb_eq (pc := 56) (tgt := 65) hx hb dX10_pardons_56 (by decide) (fun c56 => ?_) (fun c56 => ?_)
            · refine lv_aload_n (pc := 65) hx hb dX10_pardons_65 rfl (lv_at hl 5 rfl) ?_
              refine lv_iload (pc := 66) hx hb dX10_pardons_66 (lv_at hl 0 rfl) ?_
              refine lv_iload_n (pc := 68) hx hb dX10_pardons_68 rfl (lv_at hl 4 rfl) ?_
              refine ci_V (pc := 69) hF hN hK hP hV hS hA (k_X10_standsPardoned l D cI cC cB cS o ad P I f so cl de si ms c9 n S wa ir hpk hst hc hm hfF hfB hde hso hsi hms hy hx2 (by omega) (by omega)) (cwV 2 hts gX10_pardons_X10_standsPardoned rfl rfl rfl (by decide +kernel) ⟨Nat.le_of_ble_eq_true rfl, Nat.le_of_ble_eq_true rfl⟩) [0, 1, 2, 3, 4, 5, 6] rfl (by decide) 0 10 rfl rfl rfl hl.1 rfl (Nat.le_of_ble_eq_true rfl) dX10_pardons_69 ⟨Nat.le_refl _, Nat.le_refl _⟩ rfl (fun r u H locs hq hu hP hS => ?_)
              obtain ⟨rfl, f2, rfl, hE2⟩ := hq
              have hP : va_P D vwCl ([rmE o ad (pCells P) P.2.2.2.1 P.2.2.2.2.2.1 P.2.2.2.2.2.2 I, nE 384 (ad 25) cI f2, nE 6 (ad 4) cI so, nE 6 (ad 5) cI cl, nE 6 (ad 6) cI de, nE 6 (ad 7) cI si, nE 3 (ad 11) cI ms]) H := hP
              have hpn9 := pardN_le hs n c9 (P := P)
              refine lv_istore (pc := 72) (lv' := [(6, .int (nI (pardN P S n c9))), (5, .int (nI c9)), (4, .int (jI g)), (3, .int (jI b)), (2, .int (x2)), (1, .int (nI n)), (0, .ref o)]) hx hb dX10_pardons_72 hl (by decide) rfl (fun ls hl => ?_)
              refine lv_iload (pc := 74) hx hb dX10_pardons_74 (lv_at hl 0 rfl) ?_
              refine lv_iload (pc := 76) hx hb dX10_pardons_76 (lv_at hl 2 rfl) ?_
              refine rc_ge (pc := 78) (tgt := 86) hx hb (tI_nI (by omega)) (jI_to (by omega)) dX10_pardons_78 (by decide) (fun c78 => ?_) (fun c78 => ?_)
              · refine lv_iload_n (pc := 86) hx hb dX10_pardons_86 rfl (lv_at hl 3 rfl) ?_
                refine lv_istore_n (pc := 87) (lv' := [(3, .int (jI b)), (6, .int (nI (pardN P S n c9))), (5, .int (nI c9)), (4, .int (jI g)), (2, .int (x2)), (1, .int (nI n)), (0, .ref o)]) hx hb dX10_pardons_87 rfl hl (by decide) rfl (fun ls hl => ?_)
                refine lv_iload (pc := 88) hx hb dX10_pardons_88 (lv_at hl 1 rfl) ?_
                refine lv_iload (pc := 90) hx hb dX10_pardons_90 (lv_at hl 3 rfl) ?_
                refine ci_Sd (pc := 92) hF hN hK hP hV hS hA (k_X10_smaller l D cI cC cB cS (nI (pardN P S n c9)) ((pardN P S n c9 : Nat) : Int) (tI_nI (by omega)) (jI g) g (jI_to (by omega))) (va_cwS 2 hts gX10_pardons_X10_smaller rfl rfl rfl (by decide +kernel) ⟨Nat.le_of_ble_eq_true rfl, Nat.le_of_ble_eq_true rfl⟩) [] rfl (by decide) rfl hl.1 rfl (Nat.le_of_ble_eq_true rfl) dX10_pardons_92 ⟨Nat.le_refl _, Nat.le_refl _⟩ rfl (ws2 := [rmE o ad (pCells P) P.2.2.2.1 P.2.2.2.2.2.1 P.2.2.2.2.2.2 I, nE 384 (ad 25) cI f2, nE 6 (ad 4) cI so, nE 6 (ad 5) cI cl, nE 6 (ad 6) cI de, nE 6 (ad 7) cI si, nE 3 (ad 11) cI ms]) rfl (fun H locs hP hS => ?_)
                refine lv_istore (pc := 95) (lv' := [(4, .int (jI (min ((pardN P S n c9 : Nat) : Int) g))), (3, .int (jI b)), (6, .int (nI (pardN P S n c9))), (5, .int (nI c9)), (2, .int (x2)), (1, .int (nI n)), (0, .ref o)]) hx hb dX10_pardons_95 hl (by decide) rfl (fun ls hl => ?_)
                refine lv_iinc (pc := 97) (v := nI (c9 + 1)) (lv' := [(5, .int (nI (c9 + 1))), (4, .int (jI (min ((pardN P S n c9 : Nat) : Int) g))), (3, .int (jI b)), (6, .int (nI (pardN P S n c9))), (2, .int (x2)), (1, .int (nI n)), (0, .ref o)]) hx hb dX10_pardons_97 hl (k := 3) rfl (by rw [← nI_add]; rfl) (by decide) rfl (fun ls hl => ?_)
                refine lv_goto (pc := 100) (tgt := 35) hx hb dX10_pardons_100 (by decide) ?_
                exact ih35 (c9 + 1) b q (min ((pardN P S n c9 : Nat) : Int) g) f2 _ _ _ (by omega) (best_no hbe (by unfold sPard; rw [← hpd]; exact c56) (by omega)) (by omega) (tEnd.tr hE hE2) (by omega) hP hS (lv_sub hl [0, 1, 2, 4, 5, 6] rfl)
              · refine lv_iload (pc := 81) hx hb dX10_pardons_81 (lv_at hl 1 rfl) ?_
                refine r_top (jI_nat _) ?_
                refine lv_goto (pc := 83) (tgt := 87) hx hb dX10_pardons_83 (by decide) ?_
                refine lv_istore_n (pc := 87) (lv' := [(3, .int (jI (c9 : Int))), (6, .int (nI (pardN P S n c9))), (5, .int (nI c9)), (4, .int (jI g)), (2, .int (x2)), (1, .int (nI n)), (0, .ref o)]) hx hb dX10_pardons_87 rfl hl (by decide) rfl (fun ls hl => ?_)
                refine lv_iload (pc := 88) hx hb dX10_pardons_88 (lv_at hl 1 rfl) ?_
                refine lv_iload (pc := 90) hx hb dX10_pardons_90 (lv_at hl 3 rfl) ?_
                refine ci_Sd (pc := 92) hF hN hK hP hV hS hA (k_X10_smaller l D cI cC cB cS (nI (pardN P S n c9)) ((pardN P S n c9 : Nat) : Int) (tI_nI (by omega)) (jI g) g (jI_to (by omega))) (va_cwS 2 hts gX10_pardons_X10_smaller rfl rfl rfl (by decide +kernel) ⟨Nat.le_of_ble_eq_true rfl, Nat.le_of_ble_eq_true rfl⟩) [] rfl (by decide) rfl hl.1 rfl (Nat.le_of_ble_eq_true rfl) dX10_pardons_92 ⟨Nat.le_refl _, Nat.le_refl _⟩ rfl (ws2 := [rmE o ad (pCells P) P.2.2.2.1 P.2.2.2.2.2.1 P.2.2.2.2.2.2 I, nE 384 (ad 25) cI f2, nE 6 (ad 4) cI so, nE 6 (ad 5) cI cl, nE 6 (ad 6) cI de, nE 6 (ad 7) cI si, nE 3 (ad 11) cI ms]) rfl (fun H locs hP hS => ?_)
                refine lv_istore (pc := 95) (lv' := [(4, .int (jI (min ((pardN P S n c9 : Nat) : Int) g))), (3, .int (jI (c9 : Int))), (6, .int (nI (pardN P S n c9))), (5, .int (nI c9)), (2, .int (x2)), (1, .int (nI n)), (0, .ref o)]) hx hb dX10_pardons_95 hl (by decide) rfl (fun ls hl => ?_)
                refine lv_iinc (pc := 97) (v := nI (c9 + 1)) (lv' := [(5, .int (nI (c9 + 1))), (4, .int (jI (min ((pardN P S n c9 : Nat) : Int) g))), (3, .int (jI (c9 : Int))), (6, .int (nI (pardN P S n c9))), (2, .int (x2)), (1, .int (nI n)), (0, .ref o)]) hx hb dX10_pardons_97 hl (k := 3) rfl (by rw [← nI_add]; rfl) (by decide) rfl (fun ls hl => ?_)
                refine lv_goto (pc := 100) (tgt := 35) hx hb dX10_pardons_100 (by decide) ?_
                exact ih35 (c9 + 1) (c9 : Int) (pardN P S n c9 : Int) (min ((pardN P S n c9 : Nat) : Int) g) f2 _ _ _ (by omega) (best_yes hbe (by unfold sPard; rw [← hpd]; exact c56) (by omega)) (by omega) (tEnd.tr hE hE2) (by omega) hP hS (lv_sub hl [0, 1, 2, 4, 5, 6] rfl)
            · refine lv_sipush (pc := 59) (v := nI 9999) hx hb dX10_pardons_59 (by decide) ?_
              refine lv_goto (pc := 62) (tgt := 72) hx hb dX10_pardons_62 (by decide) ?_
              refine lv_istore (pc := 72) (lv' := [(6, .int (nI 9999)), (5, .int (nI c9)), (4, .int (jI g)), (3, .int (jI b)), (2, .int (x2)), (1, .int (nI n)), (0, .ref o)]) hx hb dX10_pardons_72 hl (by decide) rfl (fun ls hl => ?_)
              refine lv_iload (pc := 74) hx hb dX10_pardons_74 (lv_at hl 0 rfl) ?_
              refine lv_iload (pc := 76) hx hb dX10_pardons_76 (lv_at hl 2 rfl) ?_
              refine rc_ge (pc := 78) (tgt := 86) hx hb (tI_nI (by omega)) (jI_to (by omega)) dX10_pardons_78 (by decide) (fun c78 => ?_) (fun c78 => ?_)
              · refine lv_iload_n (pc := 86) hx hb dX10_pardons_86 rfl (lv_at hl 3 rfl) ?_
                refine lv_istore_n (pc := 87) (lv' := [(3, .int (jI b)), (6, .int (nI 9999)), (5, .int (nI c9)), (4, .int (jI g)), (2, .int (x2)), (1, .int (nI n)), (0, .ref o)]) hx hb dX10_pardons_87 rfl hl (by decide) rfl (fun ls hl => ?_)
                refine lv_iload (pc := 88) hx hb dX10_pardons_88 (lv_at hl 1 rfl) ?_
                refine lv_iload (pc := 90) hx hb dX10_pardons_90 (lv_at hl 3 rfl) ?_
                refine ci_Sd (pc := 92) hF hN hK hP hV hS hA (k_X10_smaller l D cI cC cB cS (nI 9999) ((9999 : Nat) : Int) (tI_nI (by omega)) (jI g) g (jI_to (by omega))) (va_cwS 2 hts gX10_pardons_X10_smaller rfl rfl rfl (by decide +kernel) ⟨Nat.le_of_ble_eq_true rfl, Nat.le_of_ble_eq_true rfl⟩) [] rfl (by decide) rfl hl.1 rfl (Nat.le_of_ble_eq_true rfl) dX10_pardons_92 ⟨Nat.le_refl _, Nat.le_refl _⟩ rfl (ws2 := [rmE o ad (pCells P) P.2.2.2.1 P.2.2.2.2.2.1 P.2.2.2.2.2.2 I, nE 384 (ad 25) cI f, nE 6 (ad 4) cI so, nE 6 (ad 5) cI cl, nE 6 (ad 6) cI de, nE 6 (ad 7) cI si, nE 3 (ad 11) cI ms]) rfl (fun H locs hP hS => ?_)
                refine lv_istore (pc := 95) (lv' := [(4, .int (jI (min ((9999 : Nat) : Int) g))), (3, .int (jI b)), (6, .int (nI 9999)), (5, .int (nI c9)), (2, .int (x2)), (1, .int (nI n)), (0, .ref o)]) hx hb dX10_pardons_95 hl (by decide) rfl (fun ls hl => ?_)
                refine lv_iinc (pc := 97) (v := nI (c9 + 1)) (lv' := [(5, .int (nI (c9 + 1))), (4, .int (jI (min ((9999 : Nat) : Int) g))), (3, .int (jI b)), (6, .int (nI 9999)), (2, .int (x2)), (1, .int (nI n)), (0, .ref o)]) hx hb dX10_pardons_97 hl (k := 3) rfl (by rw [← nI_add]; rfl) (by decide) rfl (fun ls hl => ?_)
                refine lv_goto (pc := 100) (tgt := 35) hx hb dX10_pardons_100 (by decide) ?_
                exact ih35 (c9 + 1) b q (min ((9999 : Nat) : Int) g) f _ _ _ (by omega) (best_skip hbe (by unfold sPard; rw [← hpd]; exact c56)) (by omega) hE (by omega) hP hS (lv_sub hl [0, 1, 2, 4, 5, 6] rfl)
              · exfalso; omega
      exact cut35 _ 0 (-4) (-4) 9999 sl _ _ _ (Nat.zero_le _) rfl (Or.inl ⟨rfl, rfl⟩) (tEnd.rf hsb) (Nat.lt_succ_self _) hP hS (lv_sub hl [0, 1, 2, 5, 4, 3] rfl)
    · refine lv_iconst (pc := 22) (v := jI (-1)) hx hb dX10_pardons_22 (by decide) ?_
      exact hret 23 _ hP hS dX10_pardons_23 rfl rfl ⟨(by unfold zPardons; rw [if_neg (by omega)]), sl, rfl, tEnd.rf hsb⟩
