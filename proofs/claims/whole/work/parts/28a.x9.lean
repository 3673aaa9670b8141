abbrev rmX9_mind : Room := { frames := 6, cells := 0, slots := 0, locals := 141 }
set_option maxHeartbeats 4000000 in
set_option maxRecDepth 100000 in
theorem k_X9_mind (l : Launch) (D : va_G) (cI cC cB cS : ClassId) (w0 w1 w2 w4 w5 w7 w8 w10 w11 w12 : Nat) (p0 p1 p2 p3 : Nat) (P : PL) (u0 u1 u2 u3 : Nat) (U : ST) (g0 g1 g2 : Nat) (G : SG) (x1 : Int32) (z1 : Int) (hz1 : x1.toInt = z1) (x2 : Int32) (z2 : Int) (hz2 : x2.toInt = z2) (hw : pWF P) (hg : G.2.2 ≤ 8) (hgb : ∀ k, G.1 k < 1000 ∧ G.2.1 k < 1000) : CI l D (kT cI cC cB cS) yX9_mind wsX9_mind rmX9_mind [.ref w0, .int (x1), .int (x2)] (rwW w0 w1 w2 p0 w4 w5 u0 w7 w8 g0 w10 w11 w12 ++ plW p0 p1 p2 p3 cI P ++ stW u0 u1 u2 u3 cI U ++ sgW g0 g1 g2 cI G) (fun r u => r = jI (zMind P G z1 z2) ∧ ∃ U9 : ST, u = rwW w0 w1 w2 p0 w4 w5 u0 w7 w8 g0 w10 w11 w12 ++ plW p0 p1 p2 p3 cI P ++ stW u0 u1 u2 u3 cI U9 ++ sgW g0 g1 g2 cI G) := by
  refine ci_intro (by decide) rfl (Nat.le_of_ble_eq_true rfl) ?_
  intro p e s m args below meth c ls A QF hF hK hP hV hS hA hN hl hret
  obtain ⟨hx, hb, hml, hown, hts⟩ := id hF
  have hP : va_P D vwCl (rwW w0 w1 w2 p0 w4 w5 u0 w7 w8 g0 w10 w11 w12 ++ plW p0 p1 p2 p3 cI P ++ stW u0 u1 u2 u3 cI U ++ sgW g0 g1 g2 cI G) s.heap := hP
  have hl : lv_has ls 7 [(0, .ref w0), (1, .int (x1)), (2, .int (x2))] := hl
  have wf26 := hts (.fieldLink RX9 26 "RemorseWall" "plan" "LRemorseWall$Plan;") (by decide +kernel)
  have hiX9 : ∀ w ∈ u_ws RX9 TX9 12, w ∈ wsX9_mind := by decide +kernel
  obtain ⟨hp, hc1, hce, hme⟩ := id hw
  obtain ⟨hp1, hp2, hp3, hp4, hp5, hp6, hp7⟩ := id hp
  have hcl := pCells_le hp
  have hpw := pow_64 hp6
  refine lv_iload_n (pc := 0) hx hb dX9_mind_0 rfl (lv_at hl 1 rfl) ?_
  refine lv_iconst (pc := 1) (v := nI 1) hx hb dX9_mind_1 (by decide) ?_
  refine rc_lt (pc := 2) (tgt := 20) hx hb hz1 (tI_nI (by omega)) dX9_mind_2 (by decide) (fun c2 => ?_) (fun c2 => ?_)
  · refine lv_iconst (pc := 20) (v := jI (-1)) hx hb dX9_mind_20 (by decide) ?_
    exact hret 21 _ hP hS dX9_mind_21 rfl rfl ⟨(by unfold zMind; (repeat' split) <;> first | (exfalso; omega) | rfl), _, rfl⟩
  · refine lv_iload_n (pc := 5) hx hb dX9_mind_5 rfl (lv_at hl 1 rfl) ?_
    refine lv_bipush (pc := 6) (v := nI 20) hx hb dX9_mind_6 (by decide) ?_
    refine rc_gt (pc := 8) (tgt := 20) hx hb hz1 (tI_nI (by omega)) dX9_mind_8 (by decide) (fun c8 => ?_) (fun c8 => ?_)
    · refine lv_iconst (pc := 20) (v := jI (-1)) hx hb dX9_mind_20 (by decide) ?_
      exact hret 21 _ hP hS dX9_mind_21 rfl rfl ⟨(by unfold zMind; (repeat' split) <;> first | (exfalso; omega) | rfl), _, rfl⟩
    · refine lv_iload_n (pc := 11) hx hb dX9_mind_11 rfl (lv_at hl 2 rfl) ?_
      refine r0_lt (pc := 12) (tgt := 20) hx hb hz2 dX9_mind_12 (by decide) (fun c12 => ?_) (fun c12 => ?_)
      · refine lv_iconst (pc := 20) (v := jI (-1)) hx hb dX9_mind_20 (by decide) ?_
        exact hret 21 _ hP hS dX9_mind_21 rfl rfl ⟨(by unfold zMind; (repeat' split) <;> first | (exfalso; omega) | rfl), _, rfl⟩
      · refine lv_iload_n (pc := 15) hx hb dX9_mind_15 rfl (lv_at hl 2 rfl) ?_
        refine lv_iconst (pc := 16) (v := nI 1) hx hb dX9_mind_16 (by decide) ?_
        refine rc_le (pc := 17) (tgt := 22) hx hb hz2 (tI_nI (by omega)) dX9_mind_17 (by decide) (fun c17 => ?_) (fun c17 => ?_)
        · obtain ⟨n, rfl⟩ : ∃ k : Nat, z1 = k := ⟨z1.toNat, by omega⟩
          obtain rfl : x1 = nI n := eq_nI hz1
          refine lv_iconst (pc := 22) (v := nI 1) hx hb dX9_mind_22 (by decide) ?_
          refine lv_aload_n (pc := 23) hx hb dX9_mind_23 rfl (lv_at hl 0 rfl) ?_
          refine va_get (pc := 24) (D := D) (ci := 9) (v := .ref p0) (C := RX9) (T := TX9) (N := 12) hx hb hts hiX9 hown hK hP 0 rfl rfl 2 (by decide) wf26 (fun _ h9 => h9) rfl dX9_mind_24 ?_
          refine ci_Vd (pc := 27) (r0 := nI P.2.2.2.2.2.1) hF hN hK hP hV hS hA (k_X2_caseCount l D cI cC cB cS p0 p1 p2 p3 P) (cwV 0 hts gX9_mind_X2_caseCount rfl rfl rfl (by decide +kernel) ⟨Nat.le_of_ble_eq_true rfl, Nat.le_of_ble_eq_true rfl⟩) [1, 2, 3, 4] rfl (by decide) 0 2 rfl rfl rfl hl.1 rfl (Nat.le_of_ble_eq_true rfl) dX9_mind_27 ⟨Nat.le_refl _, Nat.le_refl _⟩ rfl (ws2 := rwW w0 w1 w2 p0 w4 w5 u0 w7 w8 g0 w10 w11 w12 ++ plW p0 p1 p2 p3 cI P ++ stW u0 u1 u2 u3 cI U ++ sgW g0 g1 g2 cI G) rfl (fun H locs hP hS => ?_)
          refine lv_ishl (pc := 30) hx hb dX9_mind_30 ?_
          refine r_top (nI_1shl (by omega)) ?_
          refine lv_istore_n (pc := 31) (lv' := [(3, .int (nI (2 ^ P.2.2.2.2.2.1))), (0, .ref w0), (1, .int (nI n)), (2, .int (x2))]) hx hb dX9_mind_31 rfl hl (by decide) rfl (fun ls hl => ?_)
          refine lv_iconst (pc := 32) (v := nI 0) hx hb dX9_mind_32 (by decide) ?_
          refine lv_istore (pc := 33) (lv' := [(4, .int (nI 0)), (3, .int (nI (2 ^ P.2.2.2.2.2.1))), (0, .ref w0), (1, .int (nI n)), (2, .int (x2))]) hx hb dX9_mind_33 hl (by decide) rfl (fun ls hl => ?_)
          refine lv_bipush (pc := 35) (v := jI (-4)) hx hb dX9_mind_35 (by decide) ?_
          refine lv_istore (pc := 37) (lv' := [(5, .int (jI (-4))), (4, .int (nI 0)), (3, .int (nI (2 ^ P.2.2.2.2.2.1))), (0, .ref w0), (1, .int (nI n)), (2, .int (x2))]) hx hb dX9_mind_37 hl (by decide) rfl (fun ls hl => ?_)
          refine lv_iconst (pc := 39) (v := nI 0) hx hb dX9_mind_39 (by decide) ?_
          refine lv_istore (pc := 40) (lv' := [(6, .int (nI 0)), (5, .int (jI (-4))), (4, .int (nI 0)), (3, .int (nI (2 ^ P.2.2.2.2.2.1))), (0, .ref w0), (1, .int (nI n)), (2, .int (x2))]) hx hb dX9_mind_40 hl (by decide) rfl (fun ls hl => ?_)
          have cut42 : ∀ (fuel : Nat) (k : Nat) (a : Nat) (b : Int) (V : ST) (H : Heap) (locs : List Loc) (ls : Array Slot) (hk : k ≤ 2 ^ P.2.2.2.2.2.1) (hbe : (a, b) = mindN P G n k) (hfu : 2 ^ P.2.2.2.2.2.1 - k < fuel), va_P D vwCl (rwW w0 w1 w2 p0 w4 w5 u0 w7 w8 g0 w10 w11 w12 ++ plW p0 p1 p2 p3 cI P ++ stW u0 u1 u2 u3 cI V ++ sgW g0 g1 g2 cI G) H → va_S A s.heap H locs → lv_has ls 7 [(6, .int (nI k)), (5, .int (jI b)), (4, .int (nI a)), (3, .int (nI (2 ^ P.2.2.2.2.2.1))), (2, .int (x2)), (1, .int (nI n)), (0, .ref w0)] → W p l e rmX9_mind s m args below meth c H locs 0 0 QF (F0 m 42 ls []) := by
            intro fuel
            induction fuel with
            | zero => intro k a b V H locs ls hk hbe hfu; omega
            | succ fuel ih42 =>
              intro k a b V H locs ls hk hbe hfu hP hS hl
              have hbr := mindN_rng k (P := P) (G := G) (n := n)
              rw [← hbe] at hbr
              dsimp only at hbr
              refine lv_iload (pc := 42) hx hb dX9_mind_42 (lv_at hl 0 rfl) ?_
              refine lv_iload_n (pc := 44) hx hb dX9_mind_44 rfl (lv_at hl 3 rfl) ?_
              refine rc_ge (pc := 45) (tgt := 87) hx hb (tI_nI (by omega)) (tI_nI (by omega)) dX9_mind_45 (by decide) (fun c45 => ?_) (fun c45 => ?_)
              · refine lv_iload_n (pc := 87) hx hb dX9_mind_87 rfl (lv_at hl 4 rfl) ?_
                refine r0_ne (pc := 88) (tgt := 96) hx hb hz2 dX9_mind_88 (by decide) (fun c88 => ?_) (fun c88 => ?_)
                · refine lv_iload (pc := 96) hx hb dX9_mind_96 (lv_at hl 1 rfl) ?_
                  exact hret 98 _ hP hS dX9_mind_98 rfl rfl ⟨(by have he : k = 2 ^ P.2.2.2.2.2.1 := (by omega); subst he; unfold zMind; rw [if_pos (by omega), if_neg (by omega), Int.toNat_natCast, ← hbe]), _, rfl⟩
                · refine lv_iload (pc := 91) hx hb dX9_mind_91 (lv_at hl 2 rfl) ?_
                  refine lv_goto (pc := 93) (tgt := 98) hx hb dX9_mind_93 (by decide) ?_
                  exact hret 98 _ hP hS dX9_mind_98 rfl rfl ⟨(by have he : k = 2 ^ P.2.2.2.2.2.1 := (by omega); subst he; unfold zMind; rw [if_pos (by omega), if_pos (by omega), Int.toNat_natCast, ← hbe]; exact jI_nat _), _, rfl⟩
              · refine lv_aload_n (pc := 48) hx hb dX9_mind_48 rfl (lv_at hl 6 rfl) ?_
                refine lv_aload_n (pc := 49) hx hb dX9_mind_49 rfl (lv_at hl 6 rfl) ?_
                refine va_get (pc := 50) (D := D) (ci := 9) (v := .ref p0) (C := RX9) (T := TX9) (N := 12) hx hb hts hiX9 hown hK hP 0 rfl rfl 2 (by decide) wf26 (fun _ h9 => h9) rfl dX9_mind_50 ?_
                refine lv_iload (pc := 53) hx hb dX9_mind_53 (lv_at hl 0 rfl) ?_
                refine lv_iload_n (pc := 55) hx hb dX9_mind_55 rfl (lv_at hl 5 rfl) ?_
                refine ci_Vd (pc := 56) (r0 := nI (if seenB P G k n then 1 else 0)) hF hN hK hP hV hS hA (k_X9_wouldBeSeen l D cI cC cB cS w0 w1 w2 p0 w4 w5 w7 w8 w10 w11 w12 p0 p1 p2 p3 P u0 u1 u2 u3 V g0 g1 g2 G k n hw hg hgb (by omega) (by omega)) (cwV 3 hts gX9_mind_X9_wouldBeSeen rfl rfl rfl (by decide +kernel) ⟨Nat.le_of_ble_eq_true rfl, Nat.le_of_ble_eq_true rfl⟩) [0, 1, 2, 3, 4, 5, 6, 7, 8, 9, 10, 11] rfl (by decide) 0 9 rfl rfl rfl hl.1 rfl (Nat.le_of_ble_eq_true rfl) dX9_mind_56 ⟨Nat.le_refl _, Nat.le_refl _⟩ rfl (ws2 := rwW w0 w1 w2 p0 w4 w5 u0 w7 w8 g0 w10 w11 w12 ++ plW p0 p1 p2 p3 cI P ++ stW u0 u1 u2 u3 cI (yearsS P (subS P k P.2.2.2.2.2.1) n) ++ sgW g0 g1 g2 cI G) rfl (fun H locs hP hS => ?_)
                refine rb_eq (pc := 59) (tgt := 81) hx hb dX9_mind_59 (by decide) (fun c59 => ?_) (fun c59 => ?_)
                · refine lv_iinc (pc := 81) (v := nI (k + 1)) (lv' := [(6, .int (nI (k + 1))), (5, .int (jI b)), (4, .int (nI a)), (3, .int (nI (2 ^ P.2.2.2.2.2.1))), (2, .int (x2)), (1, .int (nI n)), (0, .ref w0)]) hx hb dX9_mind_81 hl (k := 0) rfl (by rw [← nI_add]; rfl) (by decide) rfl (fun ls hl => ?_)
                  refine lv_goto (pc := 84) (tgt := 42) hx hb dX9_mind_84 (by decide) ?_
                  exact ih42 (k + 1) a b (yearsS P (subS P k P.2.2.2.2.2.1) n) _ _ _ (by omega) (mind_no hbe c59) (by omega) hP hS (lv_sub hl [0, 1, 2, 3, 4, 5, 6] rfl)
                · refine lv_iinc (pc := 62) (v := nI (a + 1)) (lv' := [(4, .int (nI (a + 1))), (6, .int (nI k)), (5, .int (jI b)), (3, .int (nI (2 ^ P.2.2.2.2.2.1))), (2, .int (x2)), (1, .int (nI n)), (0, .ref w0)]) hx hb dX9_mind_62 hl (k := 2) rfl (by rw [← nI_add]; rfl) (by decide) rfl (fun ls hl => ?_)
                  refine lv_iload (pc := 65) hx hb dX9_mind_65 (lv_at hl 2 rfl) ?_
                  refine lv_bipush (pc := 67) (v := jI (-4)) hx hb dX9_mind_67 (by decide) ?_
                  refine rc_ne (pc := 69) (tgt := 77) hx hb (jI_to (by omega)) (jI_to (by omega)) dX9_mind_69 (by decide) (fun c69 => ?_) (fun c69 => ?_)
                  · refine lv_iload (pc := 77) hx hb dX9_mind_77 (lv_at hl 2 rfl) ?_
                    refine lv_istore (pc := 79) (lv' := [(5, .int (jI b)), (4, .int (nI (a + 1))), (6, .int (nI k)), (3, .int (nI (2 ^ P.2.2.2.2.2.1))), (2, .int (x2)), (1, .int (nI n)), (0, .ref w0)]) hx hb dX9_mind_79 hl (by decide) rfl (fun ls hl => ?_)
                    refine lv_iinc (pc := 81) (v := nI (k + 1)) (lv' := [(6, .int (nI (k + 1))), (5, .int (jI b)), (4, .int (nI (a + 1))), (3, .int (nI (2 ^ P.2.2.2.2.2.1))), (2, .int (x2)), (1, .int (nI n)), (0, .ref w0)]) hx hb dX9_mind_81 hl (k := 2) rfl (by rw [← nI_add]; rfl) (by decide) rfl (fun ls hl => ?_)
                    refine lv_goto (pc := 84) (tgt := 42) hx hb dX9_mind_84 (by decide) ?_
                    exact ih42 (k + 1) (a + 1) b (yearsS P (subS P k P.2.2.2.2.2.1) n) _ _ _ (by omega) (mind_old hbe c59 (by omega)) (by omega) hP hS (lv_sub hl [0, 1, 2, 3, 4, 5, 6] rfl)
                  · refine lv_iload (pc := 72) hx hb dX9_mind_72 (lv_at hl 1 rfl) ?_
                    refine r_top (jI_nat _) ?_
                    refine lv_goto (pc := 74) (tgt := 79) hx hb dX9_mind_74 (by decide) ?_
                    refine lv_istore (pc := 79) (lv' := [(5, .int (jI (k : Int))), (4, .int (nI (a + 1))), (6, .int (nI k)), (3, .int (nI (2 ^ P.2.2.2.2.2.1))), (2, .int (x2)), (1, .int (nI n)), (0, .ref w0)]) hx hb dX9_mind_79 hl (by decide) rfl (fun ls hl => ?_)
                    refine lv_iinc (pc := 81) (v := nI (k + 1)) (lv' := [(6, .int (nI (k + 1))), (5, .int (jI (k : Int))), (4, .int (nI (a + 1))), (3, .int (nI (2 ^ P.2.2.2.2.2.1))), (2, .int (x2)), (1, .int (nI n)), (0, .ref w0)]) hx hb dX9_mind_81 hl (k := 2) rfl (by rw [← nI_add]; rfl) (by decide) rfl (fun ls hl => ?_)
                    refine lv_goto (pc := 84) (tgt := 42) hx hb dX9_mind_84 (by decide) ?_
                    exact ih42 (k + 1) (a + 1) (k : Int) (yearsS P (subS P k P.2.2.2.2.2.1) n) _ _ _ (by omega) (mind_new hbe c59 (by omega)) (by omega) hP hS (lv_sub hl [0, 1, 2, 3, 4, 5, 6] rfl)
          exact cut42 _ 0 0 (-4) U _ _ _ (Nat.zero_le _) rfl (Nat.lt_succ_self _) hP hS (lv_sub hl [0, 1, 2, 3, 6, 5, 4] rfl)
        · refine lv_iconst (pc := 20) (v := jI (-1)) hx hb dX9_mind_20 (by decide) ?_
          exact hret 21 _ hP hS dX9_mind_21 rfl rfl ⟨(by unfold zMind; (repeat' split) <;> first | (exfalso; omega) | rfl), _, rfl⟩
