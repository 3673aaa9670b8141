abbrev rmX9_deep : Room := { frames := 6, cells := 0, slots := 0, locals := 141 }
set_option maxHeartbeats 4000000 in
set_option maxRecDepth 100000 in
theorem k_X9_deep (l : Launch) (D : va_G) (cI cC cB cS : ClassId) (w0 w1 w2 w5 w7 w8 w10 w11 w12 : Nat) (p0 p1 p2 p3 : Nat) (P : PL) (o0 o1 o2 o3 : Nat) (O : PL) (u0 u1 u2 u3 : Nat) (U : ST) (g0 g1 g2 : Nat) (G : SG) (x1 : Int32) (z1 : Int) (hz1 : x1.toInt = z1) (x2 : Int32) (z2 : Int) (hz2 : x2.toInt = z2) (x3 : Int32) (z3 : Int) (hz3 : x3.toInt = z3) (hw : pWF P) (hg : G.2.2 ≤ 8) (hgb : ∀ k, G.1 k < 1000 ∧ G.2.1 k < 1000) (hpo0 : pOK O) : CI l D (kT cI cC cB cS) yX9_deep wsX9_deep rmX9_deep [.ref w0, .int (x1), .int (x2), .int (x3)] (rwW w0 w1 w2 p0 o0 w5 u0 w7 w8 g0 w10 w11 w12 ++ plW p0 p1 p2 p3 cI P ++ plW o0 o1 o2 o3 cI O ++ stW u0 u1 u2 u3 cI U ++ sgW g0 g1 g2 cI G) (fun r u => r = jI (zDeep P G z1 z2 z3) ∧ ∃ O9 : PL, ∃ U9 : ST, u = rwW w0 w1 w2 p0 o0 w5 u0 w7 w8 g0 w10 w11 w12 ++ plW p0 p1 p2 p3 cI P ++ plW o0 o1 o2 o3 cI O9 ++ stW u0 u1 u2 u3 cI U9 ++ sgW g0 g1 g2 cI G ∧ pOK O9) := by
  refine ci_intro (by decide) rfl (Nat.le_of_ble_eq_true rfl) ?_
  intro p e s m args below meth c ls A QF hF hK hP hV hS hA hN hl hret
  obtain ⟨hx, hb, hml, hown, hts⟩ := id hF
  have hP : va_P D vwCl (rwW w0 w1 w2 p0 o0 w5 u0 w7 w8 g0 w10 w11 w12 ++ plW p0 p1 p2 p3 cI P ++ plW o0 o1 o2 o3 cI O ++ stW u0 u1 u2 u3 cI U ++ sgW g0 g1 g2 cI G) s.heap := hP
  have hl : lv_has ls 8 [(0, .ref w0), (1, .int (x1)), (2, .int (x2)), (3, .int (x3))] := hl
  have wf26 := hts (.fieldLink RX9 26 "RemorseWall" "plan" "LRemorseWall$Plan;") (by decide +kernel)
  have wf30 := hts (.fieldLink RX9 30 "RemorseWall" "otherPlan" "LRemorseWall$Plan;") (by decide +kernel)
  have hiX9 : ∀ w ∈ u_ws RX9 TX9 12, w ∈ wsX9_deep := by decide +kernel
  obtain ⟨hp, hc1, hce, hme⟩ := id hw
  obtain ⟨hp1, hp2, hp3, hp4, hp5, hp6, hp7⟩ := id hp
  have hcl := pCells_le hp
  have hpw := pow_64 hp6
  have hpp := Nat.two_pow_pos P.2.2.2.2.2.1
  refine lv_aload_n (pc := 0) hx hb dX9_deep_0 rfl (lv_at hl 0 rfl) ?_
  refine lv_iload_n (pc := 1) hx hb dX9_deep_1 rfl (lv_at hl 1 rfl) ?_
  refine ci_Vd (pc := 2) (r0 := nI (if okX (P.2.2.2.2.2.1) z1 then 1 else 0)) hF hN hK hP hV hS hA (k_X9_isCase l D cI cC cB cS w0 w1 w2 o0 w5 u0 w7 w8 g0 w10 w11 w12 p0 p1 p2 p3 P (x1) z1 hz1 hp) (cwV 1 hts gX9_deep_X9_isCase rfl rfl rfl (by decide +kernel) ⟨Nat.le_of_ble_eq_true rfl, Nat.le_of_ble_eq_true rfl⟩) [0, 1, 2, 3, 4] rfl (by decide) 0 9 rfl rfl rfl hl.1 rfl (Nat.le_of_ble_eq_true rfl) dX9_deep_2 ⟨Nat.le_refl _, Nat.le_refl _⟩ rfl (ws2 := rwW w0 w1 w2 p0 o0 w5 u0 w7 w8 g0 w10 w11 w12 ++ plW p0 p1 p2 p3 cI P ++ plW o0 o1 o2 o3 cI O ++ stW u0 u1 u2 u3 cI U ++ sgW g0 g1 g2 cI G) rfl (fun H locs hP hS => ?_)
  refine rb_eq (pc := 5) (tgt := 28) hx hb dX9_deep_5 (by decide) (fun c5 => ?_) (fun c5 => ?_)
  · refine lv_iconst (pc := 28) (v := jI (-1)) hx hb dX9_deep_28 (by decide) ?_
    exact hret 29 _ hP hS dX9_deep_29 rfl rfl ⟨(by unfold zDeep; (repeat' split) <;> first | (exfalso; omega) | rfl), _, _, rfl, hpo0⟩
  · refine lv_iload_n (pc := 8) hx hb dX9_deep_8 rfl (lv_at hl 2 rfl) ?_
    refine lv_iconst (pc := 9) (v := nI 1) hx hb dX9_deep_9 (by decide) ?_
    refine rc_lt (pc := 10) (tgt := 28) hx hb hz2 (tI_nI (by omega)) dX9_deep_10 (by decide) (fun c10 => ?_) (fun c10 => ?_)
    · refine lv_iconst (pc := 28) (v := jI (-1)) hx hb dX9_deep_28 (by decide) ?_
      exact hret 29 _ hP hS dX9_deep_29 rfl rfl ⟨(by unfold zDeep; (repeat' split) <;> first | (exfalso; omega) | rfl), _, _, rfl, hpo0⟩
    · refine lv_iload_n (pc := 13) hx hb dX9_deep_13 rfl (lv_at hl 2 rfl) ?_
      refine lv_bipush (pc := 14) (v := nI 20) hx hb dX9_deep_14 (by decide) ?_
      refine rc_gt (pc := 16) (tgt := 28) hx hb hz2 (tI_nI (by omega)) dX9_deep_16 (by decide) (fun c16 => ?_) (fun c16 => ?_)
      · refine lv_iconst (pc := 28) (v := jI (-1)) hx hb dX9_deep_28 (by decide) ?_
        exact hret 29 _ hP hS dX9_deep_29 rfl rfl ⟨(by unfold zDeep; (repeat' split) <;> first | (exfalso; omega) | rfl), _, _, rfl, hpo0⟩
      · refine lv_iload_n (pc := 19) hx hb dX9_deep_19 rfl (lv_at hl 3 rfl) ?_
        refine r0_lt (pc := 20) (tgt := 28) hx hb hz3 dX9_deep_20 (by decide) (fun c20 => ?_) (fun c20 => ?_)
        · refine lv_iconst (pc := 28) (v := jI (-1)) hx hb dX9_deep_28 (by decide) ?_
          exact hret 29 _ hP hS dX9_deep_29 rfl rfl ⟨(by unfold zDeep; (repeat' split) <;> first | (exfalso; omega) | rfl), _, _, rfl, hpo0⟩
        · refine lv_iload_n (pc := 23) hx hb dX9_deep_23 rfl (lv_at hl 3 rfl) ?_
          refine lv_iconst (pc := 24) (v := nI 1) hx hb dX9_deep_24 (by decide) ?_
          refine rc_le (pc := 25) (tgt := 30) hx hb hz3 (tI_nI (by omega)) dX9_deep_25 (by decide) (fun c25 => ?_) (fun c25 => ?_)
          · obtain ⟨i, rfl⟩ : ∃ k : Nat, z1 = k := ⟨z1.toNat, by omega⟩
            obtain rfl : x1 = nI i := eq_nI hz1
            obtain ⟨n, rfl⟩ : ∃ k : Nat, z2 = k := ⟨z2.toNat, by omega⟩
            obtain rfl : x2 = nI n := eq_nI hz2
            refine lv_iconst (pc := 30) (v := nI 1) hx hb dX9_deep_30 (by decide) ?_
            refine lv_aload_n (pc := 31) hx hb dX9_deep_31 rfl (lv_at hl 0 rfl) ?_
            refine va_get (pc := 32) (D := D) (ci := 9) (v := .ref p0) (C := RX9) (T := TX9) (N := 12) hx hb hts hiX9 hown hK hP 0 rfl rfl 2 (by decide) wf26 (fun _ h9 => h9) rfl dX9_deep_32 ?_
            refine ci_Vd (pc := 35) (r0 := nI P.2.2.2.2.2.1) hF hN hK hP hV hS hA (k_X2_caseCount l D cI cC cB cS p0 p1 p2 p3 P) (cwV 0 hts gX9_deep_X2_caseCount rfl rfl rfl (by decide +kernel) ⟨Nat.le_of_ble_eq_true rfl, Nat.le_of_ble_eq_true rfl⟩) [1, 2, 3, 4] rfl (by decide) 0 2 rfl rfl rfl hl.1 rfl (Nat.le_of_ble_eq_true rfl) dX9_deep_35 ⟨Nat.le_refl _, Nat.le_refl _⟩ rfl (ws2 := rwW w0 w1 w2 p0 o0 w5 u0 w7 w8 g0 w10 w11 w12 ++ plW p0 p1 p2 p3 cI P ++ plW o0 o1 o2 o3 cI O ++ stW u0 u1 u2 u3 cI U ++ sgW g0 g1 g2 cI G) rfl (fun H locs hP hS => ?_)
            refine lv_ishl (pc := 38) hx hb dX9_deep_38 ?_
            refine r_top (nI_1shl (by omega)) ?_
            refine lv_iconst (pc := 39) (v := nI 1) hx hb dX9_deep_39 (by decide) ?_
            refine rn_isub (pc := 40) hx hb (by omega) dX9_deep_40 ?_
            refine lv_istore (pc := 41) (lv' := [(4, .int (nI ((2 ^ P.2.2.2.2.2.1) - 1))), (0, .ref w0), (1, .int (nI i)), (2, .int (nI n)), (3, .int (x3))]) hx hb dX9_deep_41 hl (by decide) rfl (fun ls hl => ?_)
            refine lv_iconst (pc := 43) (v := nI 0) hx hb dX9_deep_43 (by decide) ?_
            refine lv_istore (pc := 44) (lv' := [(5, .int (nI 0)), (4, .int (nI ((2 ^ P.2.2.2.2.2.1) - 1))), (0, .ref w0), (1, .int (nI i)), (2, .int (nI n)), (3, .int (x3))]) hx hb dX9_deep_44 hl (by decide) rfl (fun ls hl => ?_)
            refine lv_bipush (pc := 46) (v := jI (-4)) hx hb dX9_deep_46 (by decide) ?_
            refine lv_istore (pc := 48) (lv' := [(6, .int (jI (-4))), (5, .int (nI 0)), (4, .int (nI ((2 ^ P.2.2.2.2.2.1) - 1))), (0, .ref w0), (1, .int (nI i)), (2, .int (nI n)), (3, .int (x3))]) hx hb dX9_deep_48 hl (by decide) rfl (fun ls hl => ?_)
            refine lv_aload_n (pc := 50) hx hb dX9_deep_50 rfl (lv_at hl 3 rfl) ?_
            refine va_get (pc := 51) (D := D) (ci := 9) (v := .ref o0) (C := RX9) (T := TX9) (N := 12) hx hb hts hiX9 hown hK hP 0 rfl rfl 3 (by decide) wf30 (fun _ h9 => h9) rfl dX9_deep_51 ?_
            refine lv_aload_n (pc := 54) hx hb dX9_deep_54 rfl (lv_at hl 3 rfl) ?_
            refine va_get (pc := 55) (D := D) (ci := 9) (v := .ref p0) (C := RX9) (T := TX9) (N := 12) hx hb hts hiX9 hown hK hP 0 rfl rfl 2 (by decide) wf26 (fun _ h9 => h9) rfl dX9_deep_55 ?_
            refine cv_Vd (pc := 58) hF hN hK hP hV hS hA (k_X2_copyFrom l D cI cC cB cS o0 o1 o2 o3 O p0 p1 p2 p3 P) (cwV 1 hts gX9_deep_X2_copyFrom rfl rfl rfl (by decide +kernel) ⟨Nat.le_of_ble_eq_true rfl, Nat.le_of_ble_eq_true rfl⟩) [5, 6, 7, 8, 1, 2, 3, 4] rfl (by decide) 0 2 rfl rfl rfl hl.1 rfl (Nat.le_of_ble_eq_true rfl) dX9_deep_58 ⟨Nat.le_refl _, Nat.le_refl _⟩ rfl (ws2 := rwW w0 w1 w2 p0 o0 w5 u0 w7 w8 g0 w10 w11 w12 ++ plW p0 p1 p2 p3 cI P ++ plW o0 o1 o2 o3 cI P ++ stW u0 u1 u2 u3 cI U ++ sgW g0 g1 g2 cI G) rfl (fun H locs hP hS => ?_)
            refine lv_iconst (pc := 61) (v := nI 1) hx hb dX9_deep_61 (by decide) ?_
            refine r_top (show _ = nI (0 + 1) from rfl) ?_
            refine lv_istore (pc := 62) (lv' := [(7, .int (nI (0 + 1))), (6, .int (jI (-4))), (5, .int (nI 0)), (4, .int (nI ((2 ^ P.2.2.2.2.2.1) - 1))), (0, .ref w0), (1, .int (nI i)), (2, .int (nI n)), (3, .int (x3))]) hx hb dX9_deep_62 hl (by decide) rfl (fun ls hl => ?_)
            have cut64 : ∀ (fuel : Nat) (k : Nat) (a : Nat) (b : Int) (Oo : PL) (V : ST) (H : Heap) (locs : List Loc) (ls : Array Slot) (hk : k ≤ 9) (hbe : (a, b) = deepN P G i n k) (hO : ∀ v, dpP Oo i v = dpP P i v) (hOo : pOK Oo) (hfu : 9 - k < fuel), va_P D vwCl (rwW w0 w1 w2 p0 o0 w5 u0 w7 w8 g0 w10 w11 w12 ++ plW p0 p1 p2 p3 cI P ++ plW o0 o1 o2 o3 cI Oo ++ stW u0 u1 u2 u3 cI V ++ sgW g0 g1 g2 cI G) H → va_S A s.heap H locs → lv_has ls 8 [(7, .int (nI (k + 1))), (6, .int (jI b)), (5, .int (nI a)), (4, .int (nI (2 ^ P.2.2.2.2.2.1 - 1))), (3, .int (x3)), (2, .int (nI n)), (1, .int (nI i)), (0, .ref w0)] → W p l e rmX9_deep s m args below meth c H locs 0 0 QF (F0 m 64 ls []) := by
              intro fuel
              induction fuel with
              | zero => intro k a b Oo V H locs ls hk hbe hO hOo hfu; omega
              | succ fuel ih64 =>
                intro k a b Oo V H locs ls hk hbe hO hOo hfu hP hS hl
                have hbr := deepN_rng k (P := P) (G := G) (i := i) (n := n)
                rw [← hbe] at hbr
                dsimp only at hbr
                refine lv_iload (pc := 64) hx hb dX9_deep_64 (lv_at hl 0 rfl) ?_
                refine lv_bipush (pc := 66) (v := nI 9) hx hb dX9_deep_66 (by decide) ?_
                refine rc_gt (pc := 68) (tgt := 120) hx hb (tI_nI (by omega)) (tI_nI (by omega)) dX9_deep_68 (by decide) (fun c68 => ?_) (fun c68 => ?_)
                · refine lv_iload_n (pc := 120) hx hb dX9_deep_120 rfl (lv_at hl 4 rfl) ?_
                  refine r0_ne (pc := 121) (tgt := 129) hx hb hz3 dX9_deep_121 (by decide) (fun c121 => ?_) (fun c121 => ?_)
                  · refine lv_iload (pc := 129) hx hb dX9_deep_129 (lv_at hl 1 rfl) ?_
                    exact hret 131 _ hP hS dX9_deep_131 rfl rfl ⟨(by obtain rfl : k = 9 := (by omega); unfold zDeep; rw [if_pos (by omega), if_neg (by omega), Int.toNat_natCast, Int.toNat_natCast, ← hbe]), _, _, rfl, hOo⟩
                  · refine lv_iload (pc := 124) hx hb dX9_deep_124 (lv_at hl 2 rfl) ?_
                    refine lv_goto (pc := 126) (tgt := 131) hx hb dX9_deep_126 (by decide) ?_
                    exact hret 131 _ hP hS dX9_deep_131 rfl rfl ⟨(by obtain rfl : k = 9 := (by omega); unfold zDeep; rw [if_pos (by omega), if_pos (by omega), Int.toNat_natCast, Int.toNat_natCast, ← hbe]; exact jI_nat _), _, _, rfl, hOo⟩
                · refine lv_aload_n (pc := 71) hx hb dX9_deep_71 rfl (lv_at hl 7 rfl) ?_
                  refine va_get (pc := 72) (D := D) (ci := 9) (v := .ref o0) (C := RX9) (T := TX9) (N := 12) hx hb hts hiX9 hown hK hP 0 rfl rfl 3 (by decide) wf30 (fun _ h9 => h9) rfl dX9_deep_72 ?_
                  refine lv_iload_n (pc := 75) hx hb dX9_deep_75 rfl (lv_at hl 6 rfl) ?_
                  refine lv_iload (pc := 76) hx hb dX9_deep_76 (lv_at hl 0 rfl) ?_
                  refine cv_Vd (pc := 78) hF hN hK hP hV hS hA (k_X2_setDepth l D cI cC cB cS o0 o1 o2 o3 Oo i (k + 1) (by omega)) (cwV 2 hts gX9_deep_X2_setDepth rfl rfl rfl (by decide +kernel) ⟨Nat.le_of_ble_eq_true rfl, Nat.le_of_ble_eq_true rfl⟩) [5, 6, 7, 8] rfl (by decide) 0 2 rfl rfl rfl hl.1 rfl (Nat.le_of_ble_eq_true rfl) dX9_deep_78 ⟨Nat.le_refl _, Nat.le_refl _⟩ rfl (ws2 := rwW w0 w1 w2 p0 o0 w5 u0 w7 w8 g0 w10 w11 w12 ++ plW p0 p1 p2 p3 cI P ++ plW o0 o1 o2 o3 cI (Oo.1, va_up Oo.2.1 (i * 4 + 2) (k + 1), Oo.2.2) ++ stW u0 u1 u2 u3 cI V ++ sgW g0 g1 g2 cI G) rfl (fun H locs hP hS => ?_)
                  have hP : va_P D vwCl (rwW w0 w1 w2 p0 o0 w5 u0 w7 w8 g0 w10 w11 w12 ++ plW p0 p1 p2 p3 cI P ++ plW o0 o1 o2 o3 cI (dpP P i (k + 1)) ++ stW u0 u1 u2 u3 cI V ++ sgW g0 g1 g2 cI G) H := (by have e9 : (Oo.1, va_up Oo.2.1 (i * 4 + 2) (k + 1), Oo.2.2) = dpP P i (k + 1) := hO (k + 1); rw [← e9]; exact hP)
                  refine lv_aload_n (pc := 81) hx hb dX9_deep_81 rfl (lv_at hl 7 rfl) ?_
                  refine lv_aload_n (pc := 82) hx hb dX9_deep_82 rfl (lv_at hl 7 rfl) ?_
                  refine va_get (pc := 83) (D := D) (ci := 9) (v := .ref o0) (C := RX9) (T := TX9) (N := 12) hx hb hts hiX9 hown hK hP 0 rfl rfl 3 (by decide) wf30 (fun _ h9 => h9) rfl dX9_deep_83 ?_
                  refine lv_iload (pc := 86) hx hb dX9_deep_86 (lv_at hl 3 rfl) ?_
                  refine lv_iload_n (pc := 88) hx hb dX9_deep_88 rfl (lv_at hl 5 rfl) ?_
                  refine ci_Vd (pc := 89) (r0 := nI (if seenB (dpP P i (k + 1)) G (2 ^ P.2.2.2.2.2.1 - 1) n then 1 else 0)) hF hN hK hP hV hS hA (k_X9_wouldBeSeen l D cI cC cB cS w0 w1 w2 p0 o0 w5 w7 w8 w10 w11 w12 o0 o1 o2 o3 (dpP P i (k + 1)) u0 u1 u2 u3 V g0 g1 g2 G (2 ^ P.2.2.2.2.2.1 - 1) n (dp_wf hw (by omega)) hg hgb (by omega) (by omega)) (cwV 3 hts gX9_deep_X9_wouldBeSeen rfl rfl rfl (by decide +kernel) ⟨Nat.le_of_ble_eq_true rfl, Nat.le_of_ble_eq_true rfl⟩) [0, 5, 6, 7, 8, 9, 10, 11, 12, 13, 14, 15] rfl (by decide) 0 9 rfl rfl rfl hl.1 rfl (Nat.le_of_ble_eq_true rfl) dX9_deep_89 ⟨Nat.le_refl _, Nat.le_refl _⟩ rfl (ws2 := rwW w0 w1 w2 p0 o0 w5 u0 w7 w8 g0 w10 w11 w12 ++ plW p0 p1 p2 p3 cI P ++ plW o0 o1 o2 o3 cI (dpP P i (k + 1)) ++ stW u0 u1 u2 u3 cI (yearsS (dpP P i (k + 1)) (subS (dpP P i (k + 1)) (2 ^ P.2.2.2.2.2.1 - 1) (dpP P i (k + 1)).2.2.2.2.2.1) n) ++ sgW g0 g1 g2 cI G) rfl (fun H locs hP hS => ?_)
                  refine rb_eq (pc := 92) (tgt := 114) hx hb dX9_deep_92 (by decide) (fun c92 => ?_) (fun c92 => ?_)
                  · refine lv_iinc (pc := 114) (v := nI (k + 1 + 1)) (lv' := [(7, .int (nI (k + 1 + 1))), (6, .int (jI b)), (5, .int (nI a)), (4, .int (nI (2 ^ P.2.2.2.2.2.1 - 1))), (3, .int (x3)), (2, .int (nI n)), (1, .int (nI i)), (0, .ref w0)]) hx hb dX9_deep_114 hl (k := 0) rfl (nI_inc _ 1) (by decide) rfl (fun ls hl => ?_)
                    refine lv_goto (pc := 117) (tgt := 64) hx hb dX9_deep_117 (by decide) ?_
                    exact ih64 (k + 1) a b (dpP P i (k + 1)) (yearsS (dpP P i (k + 1)) (subS (dpP P i (k + 1)) (2 ^ P.2.2.2.2.2.1 - 1) (dpP P i (k + 1)).2.2.2.2.2.1) n) _ _ _ (by omega) (deep_no hbe c92) (fun v => dp_dp) (dp_wf hw (by omega)).1 (by omega) hP hS (lv_sub hl [0, 1, 2, 3, 4, 5, 6, 7] rfl)
                  · refine lv_iinc (pc := 95) (v := nI (a + 1)) (lv' := [(5, .int (nI (a + 1))), (7, .int (nI (k + 1))), (6, .int (jI b)), (4, .int (nI (2 ^ P.2.2.2.2.2.1 - 1))), (3, .int (x3)), (2, .int (nI n)), (1, .int (nI i)), (0, .ref w0)]) hx hb dX9_deep_95 hl (k := 2) rfl (by rw [← nI_add]; rfl) (by decide) rfl (fun ls hl => ?_)
                    refine lv_iload (pc := 98) hx hb dX9_deep_98 (lv_at hl 2 rfl) ?_
                    refine lv_bipush (pc := 100) (v := jI (-4)) hx hb dX9_deep_100 (by decide) ?_
                    refine rc_ne (pc := 102) (tgt := 110) hx hb (jI_to (by omega)) (jI_to (by omega)) dX9_deep_102 (by decide) (fun c102 => ?_) (fun c102 => ?_)
                    · refine lv_iload (pc := 110) hx hb dX9_deep_110 (lv_at hl 2 rfl) ?_
                      refine lv_istore (pc := 112) (lv' := [(6, .int (jI b)), (5, .int (nI (a + 1))), (7, .int (nI (k + 1))), (4, .int (nI (2 ^ P.2.2.2.2.2.1 - 1))), (3, .int (x3)), (2, .int (nI n)), (1, .int (nI i)), (0, .ref w0)]) hx hb dX9_deep_112 hl (by decide) rfl (fun ls hl => ?_)
                      refine lv_iinc (pc := 114) (v := nI (k + 1 + 1)) (lv' := [(7, .int (nI (k + 1 + 1))), (6, .int (jI b)), (5, .int (nI (a + 1))), (4, .int (nI (2 ^ P.2.2.2.2.2.1 - 1))), (3, .int (x3)), (2, .int (nI n)), (1, .int (nI i)), (0, .ref w0)]) hx hb dX9_deep_114 hl (k := 2) rfl (nI_inc _ 1) (by decide) rfl (fun ls hl => ?_)
                      refine lv_goto (pc := 117) (tgt := 64) hx hb dX9_deep_117 (by decide) ?_
                      exact ih64 (k + 1) (a + 1) b (dpP P i (k + 1)) (yearsS (dpP P i (k + 1)) (subS (dpP P i (k + 1)) (2 ^ P.2.2.2.2.2.1 - 1) (dpP P i (k + 1)).2.2.2.2.2.1) n) _ _ _ (by omega) (deep_old hbe c92 (by omega)) (fun v => dp_dp) (dp_wf hw (by omega)).1 (by omega) hP hS (lv_sub hl [0, 1, 2, 3, 4, 5, 6, 7] rfl)
                    · refine lv_iload (pc := 105) hx hb dX9_deep_105 (lv_at hl 1 rfl) ?_
                      refine r_top (jI_nat _) ?_
                      refine lv_goto (pc := 107) (tgt := 112) hx hb dX9_deep_107 (by decide) ?_
                      refine lv_istore (pc := 112) (lv' := [(6, .int (jI ((k + 1 : Nat) : Int))), (5, .int (nI (a + 1))), (7, .int (nI (k + 1))), (4, .int (nI (2 ^ P.2.2.2.2.2.1 - 1))), (3, .int (x3)), (2, .int (nI n)), (1, .int (nI i)), (0, .ref w0)]) hx hb dX9_deep_112 hl (by decide) rfl (fun ls hl => ?_)
                      refine lv_iinc (pc := 114) (v := nI (k + 1 + 1)) (lv' := [(7, .int (nI (k + 1 + 1))), (6, .int (jI ((k + 1 : Nat) : Int))), (5, .int (nI (a + 1))), (4, .int (nI (2 ^ P.2.2.2.2.2.1 - 1))), (3, .int (x3)), (2, .int (nI n)), (1, .int (nI i)), (0, .ref w0)]) hx hb dX9_deep_114 hl (k := 2) rfl (nI_inc _ 1) (by decide) rfl (fun ls hl => ?_)
                      refine lv_goto (pc := 117) (tgt := 64) hx hb dX9_deep_117 (by decide) ?_
                      exact ih64 (k + 1) (a + 1) ((k + 1 : Nat) : Int) (dpP P i (k + 1)) (yearsS (dpP P i (k + 1)) (subS (dpP P i (k + 1)) (2 ^ P.2.2.2.2.2.1 - 1) (dpP P i (k + 1)).2.2.2.2.2.1) n) _ _ _ (by omega) (deep_new hbe c92 (by omega)) (fun v => dp_dp) (dp_wf hw (by omega)).1 (by omega) hP hS (lv_sub hl [0, 1, 2, 3, 4, 5, 6, 7] rfl)
            exact cut64 _ 0 0 (-4) P U _ _ _ (Nat.zero_le _) rfl (fun v => rfl) hp (Nat.lt_succ_self _) hP hS (lv_sub hl [0, 1, 2, 3, 7, 6, 5, 4] rfl)
          · refine lv_iconst (pc := 28) (v := jI (-1)) hx hb dX9_deep_28 (by decide) ?_
            exact hret 29 _ hP hS dX9_deep_29 rfl rfl ⟨(by unfold zDeep; (repeat' split) <;> first | (exfalso; omega) | rfl), _, _, rfl, hpo0⟩
