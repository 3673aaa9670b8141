abbrev rmX9_wouldBeSeen : Room := { frames := 5, cells := 0, slots := 0, locals := 117 }
set_option maxHeartbeats 4000000 in
set_option maxRecDepth 100000 in
theorem k_X9_wouldBeSeen (l : Launch) (D : va_G) (cI cC cB cS : ClassId) (w0 w1 w2 w3 w4 w5 w7 w8 w10 w11 w12 : Nat) (q0 q1 q2 q3 : Nat) (Q : PL) (u0 u1 u2 u3 : Nat) (U : ST) (g0 g1 g2 : Nat) (G : SG) (st : Nat) (n : Nat) (hw : pWF Q) (hg : G.2.2 ≤ 8) (hgb : ∀ k, G.1 k < 1000 ∧ G.2.1 k < 1000) (hst : st < 64) (hn : n ≤ 20) : CI l D (kT cI cC cB cS) yX9_wouldBeSeen wsX9_wouldBeSeen rmX9_wouldBeSeen [.ref w0, .ref q0, .int (nI st), .int (nI n)] (rwW w0 w1 w2 w3 w4 w5 u0 w7 w8 g0 w10 w11 w12 ++ plW q0 q1 q2 q3 cI Q ++ stW u0 u1 u2 u3 cI U ++ sgW g0 g1 g2 cI G) (fun r u => r = nI (if seenB Q G st n then 1 else 0) ∧ u = rwW w0 w1 w2 w3 w4 w5 u0 w7 w8 g0 w10 w11 w12 ++ plW q0 q1 q2 q3 cI Q ++ stW u0 u1 u2 u3 cI (yearsS Q (subS Q st Q.2.2.2.2.2.1) n) ++ sgW g0 g1 g2 cI G) := by
  refine ci_intro (by decide) rfl (Nat.le_of_ble_eq_true rfl) ?_
  intro p e s m args below meth c ls A QF hF hK hP hV hS hA hN hl hret
  obtain ⟨hx, hb, hml, hown, hts⟩ := id hF
  have hP : va_P D vwCl (rwW w0 w1 w2 w3 w4 w5 u0 w7 w8 g0 w10 w11 w12 ++ plW q0 q1 q2 q3 cI Q ++ stW u0 u1 u2 u3 cI U ++ sgW g0 g1 g2 cI G) s.heap := hP
  have hl : lv_has ls 5 [(0, .ref w0), (1, .ref q0), (2, .int (nI st)), (3, .int (nI n))] := hl
  have wf40 := hts (.fieldLink RX9 40 "RemorseWall" "trial" "LRemorseWall$Standing;") (by decide +kernel)
  have wf58 := hts (.fieldLink RX9 58 "RemorseWall" "seen" "LRemorseWall$Sightings;") (by decide +kernel)
  have hiX9 : ∀ w ∈ u_ws RX9 TX9 12, w ∈ wsX9_wouldBeSeen := by decide +kernel
  obtain ⟨hp, hc1, hce, hme⟩ := id hw
  obtain ⟨hp1, hp2, hp3, hp4, hp5, hp6, hp7⟩ := id hp
  refine lv_aload_n (pc := 0) hx hb dX9_wouldBeSeen_0 rfl (lv_at hl 1 rfl) ?_
  refine lv_aload_n (pc := 1) hx hb dX9_wouldBeSeen_1 rfl (lv_at hl 0 rfl) ?_
  refine va_get (pc := 2) (D := D) (ci := 9) (v := .ref u0) (C := RX9) (T := TX9) (N := 12) hx hb hts hiX9 hown hK hP 0 rfl rfl 5 (by decide) wf40 (fun _ h9 => h9) rfl dX9_wouldBeSeen_2 ?_
  refine cv_Vd (pc := 5) hF hN hK hP hV hS hA (k_X2_layOut l D cI cC cB cS q0 q1 q2 q3 Q u0 u1 u2 u3 U hp) (cwV 1 hts gX9_wouldBeSeen_X2_layOut rfl rfl rfl (by decide +kernel) ⟨Nat.le_of_ble_eq_true rfl, Nat.le_of_ble_eq_true rfl⟩) [1, 2, 3, 4, 5, 6, 7, 8] rfl (by decide) 0 2 rfl rfl rfl hl.1 rfl (Nat.le_of_ble_eq_true rfl) dX9_wouldBeSeen_5 ⟨Nat.le_refl _, Nat.le_refl _⟩ rfl (ws2 := rwW w0 w1 w2 w3 w4 w5 u0 w7 w8 g0 w10 w11 w12 ++ plW q0 q1 q2 q3 cI Q ++ stW u0 u1 u2 u3 cI (layS Q) ++ sgW g0 g1 g2 cI G) rfl (fun H locs hP hS => ?_)
  refine lv_iconst (pc := 8) (v := nI 0) hx hb dX9_wouldBeSeen_8 (by decide) ?_
  refine lv_istore (pc := 9) (lv' := [(4, .int (nI 0)), (0, .ref w0), (1, .ref q0), (2, .int (nI st)), (3, .int (nI n))]) hx hb dX9_wouldBeSeen_9 hl (by decide) rfl (fun ls hl => ?_)
  have cut11 : ∀ (fuel : Nat) (k : Nat) (a : Nat) (H : Heap) (locs : List Loc) (ls : Array Slot) (hk : k ≤ Q.2.2.2.2.2.1) (ha : a = notIn st k) (hfu : Q.2.2.2.2.2.1 - k < fuel), va_P D vwCl (rwW w0 w1 w2 w3 w4 w5 u0 w7 w8 g0 w10 w11 w12 ++ plW q0 q1 q2 q3 cI Q ++ stW u0 u1 u2 u3 cI ((layS Q).1, (layS Q).2.1, (layS Q).2.2.1, a, (layS Q).2.2.2.2) ++ sgW g0 g1 g2 cI G) H → va_S A s.heap H locs → lv_has ls 5 [(4, .int (nI k)), (3, .int (nI n)), (2, .int (nI st)), (1, .ref q0), (0, .ref w0)] → W p l e rmX9_wouldBeSeen s m args below meth c H locs 0 0 QF (F0 m 11 ls []) := by
    intro fuel
    induction fuel with
    | zero => intro k a H locs ls hk ha hfu; omega
    | succ fuel ih11 =>
      intro k a H locs ls hk ha hfu hP hS hl
      refine lv_iload (pc := 11) hx hb dX9_wouldBeSeen_11 (lv_at hl 0 rfl) ?_
      refine lv_aload_n (pc := 13) hx hb dX9_wouldBeSeen_13 rfl (lv_at hl 3 rfl) ?_
      refine ci_Vd (pc := 14) (r0 := nI Q.2.2.2.2.2.1) hF hN hK hP hV hS hA (k_X2_caseCount l D cI cC cB cS q0 q1 q2 q3 Q) (cwV 0 hts gX9_wouldBeSeen_X2_caseCount rfl rfl rfl (by decide +kernel) ⟨Nat.le_of_ble_eq_true rfl, Nat.le_of_ble_eq_true rfl⟩) [1, 2, 3, 4] rfl (by decide) 0 2 rfl rfl rfl hl.1 rfl (Nat.le_of_ble_eq_true rfl) dX9_wouldBeSeen_14 ⟨Nat.le_refl _, Nat.le_refl _⟩ rfl (ws2 := rwW w0 w1 w2 w3 w4 w5 u0 w7 w8 g0 w10 w11 w12 ++ plW q0 q1 q2 q3 cI Q ++ stW u0 u1 u2 u3 cI ((layS Q).1, (layS Q).2.1, (layS Q).2.2.1, a, (layS Q).2.2.2.2) ++ sgW g0 g1 g2 cI G) rfl (fun H locs hP hS => ?_)
      refine rc_ge (pc := 17) (tgt := 44) hx hb (tI_nI (by omega)) (tI_nI (by omega)) dX9_wouldBeSeen_17 (by decide) (fun c17 => ?_) (fun c17 => ?_)
      · have he9 : a = notIn st Q.2.2.2.2.2.1 := by rw [ha, show k = Q.2.2.2.2.2.1 by omega]
        rw [he9] at hP
        have cut44 : ∀  (H : Heap) (locs : List Loc) (ls : Array Slot), va_P D vwCl (rwW w0 w1 w2 w3 w4 w5 u0 w7 w8 g0 w10 w11 w12 ++ plW q0 q1 q2 q3 cI Q ++ stW u0 u1 u2 u3 cI (subS Q st Q.2.2.2.2.2.1) ++ sgW g0 g1 g2 cI G) H → va_S A s.heap H locs → lv_has ls 5 [(3, .int (nI n)), (2, .int (nI st)), (1, .ref q0), (0, .ref w0)] → W p l e rmX9_wouldBeSeen s m args below meth c H locs 0 0 QF (F0 m 44 ls []) := by
          intro  H locs ls  hP hS hl
          have hpa9 := notIn_64 st (n := Q.2.2.2.2.2.1) hp6
          have hy9 : (subS Q st Q.2.2.2.2.2.1).2.2.2.2 = 0 := rfl
          refine lv_aload_n (pc := 44) hx hb dX9_wouldBeSeen_44 rfl (lv_at hl 2 rfl) ?_
          refine lv_aload_n (pc := 45) hx hb dX9_wouldBeSeen_45 rfl (lv_at hl 3 rfl) ?_
          refine va_get (pc := 46) (D := D) (ci := 9) (v := .ref u0) (C := RX9) (T := TX9) (N := 12) hx hb hts hiX9 hown hK hP 0 rfl rfl 5 (by decide) wf40 (fun _ h9 => h9) rfl dX9_wouldBeSeen_46 ?_
          refine lv_iload_n (pc := 49) hx hb dX9_wouldBeSeen_49 rfl (lv_at hl 0 rfl) ?_
          refine cv_Vd (pc := 50) hF hN hK hP hV hS hA (k_X2_yearsGoBy l D cI cC cB cS q0 q1 q2 q3 Q u0 u1 u2 u3 (subS Q st Q.2.2.2.2.2.1) n hw (subS_hi hp _ _) (by omega) (by omega)) (cwV 2 hts gX9_wouldBeSeen_X2_yearsGoBy rfl rfl rfl (by decide +kernel) ⟨Nat.le_of_ble_eq_true rfl, Nat.le_of_ble_eq_true rfl⟩) [1, 2, 3, 4, 5, 6, 7, 8] rfl (by decide) 0 2 rfl rfl rfl hl.1 rfl (Nat.le_of_ble_eq_true rfl) dX9_wouldBeSeen_50 ⟨Nat.le_refl _, Nat.le_refl _⟩ rfl (ws2 := rwW w0 w1 w2 w3 w4 w5 u0 w7 w8 g0 w10 w11 w12 ++ plW q0 q1 q2 q3 cI Q ++ stW u0 u1 u2 u3 cI (yearsS Q (subS Q st Q.2.2.2.2.2.1) n) ++ sgW g0 g1 g2 cI G) rfl (fun H locs hP hS => ?_)
          refine lv_aload_n (pc := 53) hx hb dX9_wouldBeSeen_53 rfl (lv_at hl 3 rfl) ?_
          refine va_get (pc := 54) (D := D) (ci := 9) (v := .ref g0) (C := RX9) (T := TX9) (N := 12) hx hb hts hiX9 hown hK hP 0 rfl rfl 8 (by decide) wf58 (fun _ h9 => h9) rfl dX9_wouldBeSeen_54 ?_
          refine lv_aload_n (pc := 57) hx hb dX9_wouldBeSeen_57 rfl (lv_at hl 3 rfl) ?_
          refine va_get (pc := 58) (D := D) (ci := 9) (v := .ref u0) (C := RX9) (T := TX9) (N := 12) hx hb hts hiX9 hown hK hP 0 rfl rfl 5 (by decide) wf40 (fun _ h9 => h9) rfl dX9_wouldBeSeen_58 ?_
          refine ci_Vd (pc := 61) (r0 := nI (if agr G (yearsS Q (subS Q st Q.2.2.2.2.2.1) n) then 1 else 0)) hF hN hK hP hV hS hA (k_X6_agreeWith l D cI cC cB cS g0 g1 g2 G u0 u1 u2 u3 (yearsS Q (subS Q st Q.2.2.2.2.2.1) n) hg (yearsS_hi (subS_hi hp _ _) _) hgb) (cwV 1 hts gX9_wouldBeSeen_X6_agreeWith rfl rfl rfl (by decide +kernel) ⟨Nat.le_of_ble_eq_true rfl, Nat.le_of_ble_eq_true rfl⟩) [9, 10, 11, 5, 6, 7, 8] rfl (by decide) 0 6 rfl rfl rfl hl.1 rfl (Nat.le_of_ble_eq_true rfl) dX9_wouldBeSeen_61 ⟨Nat.le_refl _, Nat.le_refl _⟩ rfl (ws2 := rwW w0 w1 w2 w3 w4 w5 u0 w7 w8 g0 w10 w11 w12 ++ plW q0 q1 q2 q3 cI Q ++ stW u0 u1 u2 u3 cI (yearsS Q (subS Q st Q.2.2.2.2.2.1) n) ++ sgW g0 g1 g2 cI G) rfl (fun H locs hP hS => ?_)
          exact hret 64 _ hP hS dX9_wouldBeSeen_64 (nar_b _) rfl ⟨rfl, rfl⟩
        exact cut44  _ _ _   hP hS (lv_sub hl [1, 2, 3, 4] rfl)
      · refine lv_iload_n (pc := 20) hx hb dX9_wouldBeSeen_20 rfl (lv_at hl 2 rfl) ?_
        refine lv_iload (pc := 21) hx hb dX9_wouldBeSeen_21 (lv_at hl 0 rfl) ?_
        refine lv_ishr (pc := 23) hx hb dX9_wouldBeSeen_23 ?_
        refine r_top (nI_shr (by omega) (by omega)) ?_
        refine lv_iconst (pc := 24) (v := nI 1) hx hb dX9_wouldBeSeen_24 (by decide) ?_
        refine lv_iand (pc := 25) hx hb dX9_wouldBeSeen_25 ?_
        refine r_top (nI_bit _) ?_
        refine r0_ne (pc := 26) (tgt := 38) hx hb (tI_nI (by omega)) dX9_wouldBeSeen_26 (by decide) (fun c26 => ?_) (fun c26 => ?_)
        · refine lv_iinc (pc := 38) (v := nI (k + 1)) (lv' := [(4, .int (nI (k + 1))), (3, .int (nI n)), (2, .int (nI st)), (1, .ref q0), (0, .ref w0)]) hx hb dX9_wouldBeSeen_38 hl (k := 0) rfl (by rw [← nI_add]; rfl) (by decide) rfl (fun ls hl => ?_)
          refine lv_goto (pc := 41) (tgt := 11) hx hb dX9_wouldBeSeen_41 (by decide) ?_
          exact ih11 (k + 1) a _ _ _ (by omega) (by rw [notIn, if_neg (by omega), ha]) (by omega) hP hS (lv_sub hl [0, 1, 2, 3, 4] rfl)
        · refine lv_aload_n (pc := 29) hx hb dX9_wouldBeSeen_29 rfl (lv_at hl 4 rfl) ?_
          refine va_get (pc := 30) (D := D) (ci := 9) (v := .ref u0) (C := RX9) (T := TX9) (N := 12) hx hb hts hiX9 hown hK hP 0 rfl rfl 5 (by decide) wf40 (fun _ h9 => h9) rfl dX9_wouldBeSeen_30 ?_
          refine lv_iload (pc := 33) hx hb dX9_wouldBeSeen_33 (lv_at hl 0 rfl) ?_
          refine cv_Vd (pc := 35) hF hN hK hP hV hS hA (k_X8_letOff l D cI cC cB cS u0 u1 u2 u3 ((layS Q).1, (layS Q).2.1, (layS Q).2.2.1, a, (layS Q).2.2.2.2) k (by omega)) (cwV 1 hts gX9_wouldBeSeen_X8_letOff rfl rfl rfl (by decide +kernel) ⟨Nat.le_of_ble_eq_true rfl, Nat.le_of_ble_eq_true rfl⟩) [5, 6, 7, 8] rfl (by decide) 0 8 rfl rfl rfl hl.1 rfl (Nat.le_of_ble_eq_true rfl) dX9_wouldBeSeen_35 ⟨Nat.le_refl _, Nat.le_refl _⟩ rfl (ws2 := rwW w0 w1 w2 w3 w4 w5 u0 w7 w8 g0 w10 w11 w12 ++ plW q0 q1 q2 q3 cI Q ++ stW u0 u1 u2 u3 cI (((layS Q).1), ((layS Q).2.1), ((layS Q).2.2.1), a ||| 2 ^ k, ((layS Q).2.2.2.2)) ++ sgW g0 g1 g2 cI G) rfl (fun H locs hP hS => ?_)
          refine lv_iinc (pc := 38) (v := nI (k + 1)) (lv' := [(4, .int (nI (k + 1))), (3, .int (nI n)), (2, .int (nI st)), (1, .ref q0), (0, .ref w0)]) hx hb dX9_wouldBeSeen_38 hl (k := 0) rfl (by rw [← nI_add]; rfl) (by decide) rfl (fun ls hl => ?_)
          refine lv_goto (pc := 41) (tgt := 11) hx hb dX9_wouldBeSeen_41 (by decide) ?_
          exact ih11 (k + 1) (a ||| 2 ^ k) _ _ _ (by omega) (by rw [notIn, if_pos (by omega), ha]) (by omega) hP hS (lv_sub hl [0, 1, 2, 3, 4] rfl)
  exact cut11 _ 0 0 _ _ _ (Nat.zero_le _) rfl (Nat.lt_succ_self _) hP hS (lv_sub hl [0, 4, 3, 2, 1] rfl)
