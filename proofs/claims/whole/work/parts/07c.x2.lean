abbrev rmX2_yearsGoBy : Room := { frames := 4, cells := 0, slots := 0, locals := 93 }
set_option maxHeartbeats 4000000 in
set_option maxRecDepth 100000 in
theorem k_X2_yearsGoBy (l : Launch) (D : va_G) (cI cC cB cS : ClassId) (p0 p1 p2 p3 : Nat) (P : PL) (s0 s1 s2 s3 : Nat) (S : ST) (n : Nat) (hw : pWF P) (hi : sHi S) (hpa : S.2.2.2.1 < 64) (hy : S.2.2.2.2 + n < 1000000) : CV l D (kT cI cC cB cS) yX2_yearsGoBy wsX2_yearsGoBy rmX2_yearsGoBy [.ref p0, .ref s0, .int (nI n)] (plW p0 p1 p2 p3 cI P ++ stW s0 s1 s2 s3 cI S) (fun u => u = plW p0 p1 p2 p3 cI P ++ stW s0 s1 s2 s3 cI (yearsS P S n)) := by
  refine cv_intro (by decide) rfl (Nat.le_of_ble_eq_true rfl) ?_
  intro p e s m args below meth c ls A QF hF hK hP hV hS hA hN hl hret
  obtain ⟨hx, hb, hml, hown, hts⟩ := id hF
  have hP : va_P D vwCl (plW p0 p1 p2 p3 cI P ++ stW s0 s1 s2 s3 cI S) s.heap := hP
  have hl : lv_has ls 5 [(0, .ref p0), (1, .ref s0), (2, .int (nI n))] := hl
  have wf28 := hts (.fieldLink RX2 28 "RemorseWall$Plan" "caseCount" "I") (by decide +kernel)
  have hiX2 : ∀ w ∈ u_ws RX2 TX2 7, w ∈ wsX2_yearsGoBy := by decide +kernel
  obtain ⟨hp, hc1, hce, hme⟩ := id hw
  obtain ⟨hp1, hp2, hp3, hp4, hp5, hp6, hp7⟩ := id hp
  refine lv_iconst (pc := 0) (v := nI 0) hx hb dX2_yearsGoBy_0 (by decide) ?_
  refine lv_istore_n (pc := 1) (lv' := [(3, .int (nI 0)), (0, .ref p0), (1, .ref s0), (2, .int (nI n))]) hx hb dX2_yearsGoBy_1 rfl hl (by decide) rfl (fun ls hl => ?_)
  have cut2 : ∀ (fuel : Nat) (i : Nat) (T : ST) (H : Heap) (locs : List Loc) (ls : Array Slot) (hin : i ≤ n) (hT : T = yearsS P S i) (hfu : n - i < fuel), va_P D vwCl (plW p0 p1 p2 p3 cI P ++ stW s0 s1 s2 s3 cI T) H → va_S A s.heap H locs → lv_has ls 5 [(3, .int (nI i)), (2, .int (nI n)), (1, .ref s0), (0, .ref p0)] → W p l e rmX2_yearsGoBy s m args below meth c H locs 0 0 QF (F0 m 2 ls []) := by
    intro fuel
    induction fuel with
    | zero => intro i T H locs ls hin hT hfu; omega
    | succ fuel ih2 =>
      intro i T H locs ls hin hT hfu hP hS hl
      have hiT : sHi T := hT ▸ yearsS_hi hi i
      have hyT : T.2.2.2.2 = S.2.2.2.2 + i := by rw [hT]; exact yearsS_yr P S i
      have hpT : T.2.2.2.1 < 64 := by rw [hT, yearsS_pa]; exact hpa
      refine lv_iload_n (pc := 2) hx hb dX2_yearsGoBy_2 rfl (lv_at hl 0 rfl) ?_
      refine lv_iload_n (pc := 3) hx hb dX2_yearsGoBy_3 rfl (lv_at hl 1 rfl) ?_
      refine rc_ge (pc := 4) (tgt := 70) hx hb (tI_nI (by omega)) (tI_nI (by omega)) dX2_yearsGoBy_4 (by decide) (fun c4 => ?_) (fun c4 => ?_)
      · exact hret 70 _ hP hS dX2_yearsGoBy_70 rfl (by rw [hT, show i = n by omega])
      · refine lv_iconst (pc := 7) (v := nI 0) hx hb dX2_yearsGoBy_7 (by decide) ?_
        refine lv_istore (pc := 8) (lv' := [(4, .int (nI 0)), (3, .int (nI i)), (2, .int (nI n)), (1, .ref s0), (0, .ref p0)]) hx hb dX2_yearsGoBy_8 hl (by decide) rfl (fun ls hl => ?_)
        have cut10 : ∀ (fuel : Nat) (k : Nat) (U : ST) (H : Heap) (locs : List Loc) (ls : Array Slot) (hk : k ≤ P.2.2.2.2.2.1) (hU : U = yrFold P T k) (hfu : P.2.2.2.2.2.1 - k < fuel), va_P D vwCl (plW p0 p1 p2 p3 cI P ++ stW s0 s1 s2 s3 cI U) H → va_S A s.heap H locs → lv_has ls 5 [(4, .int (nI k)), (3, .int (nI i)), (2, .int (nI n)), (1, .ref s0), (0, .ref p0)] → W p l e rmX2_yearsGoBy s m args below meth c H locs 0 0 QF (F0 m 10 ls []) := by
          intro fuel
          induction fuel with
          | zero => intro k U H locs ls hk hU hfu; omega
          | succ fuel ih10 =>
            intro k U H locs ls hk hU hfu hP hS hl
            have hiU : sHi U := hU ▸ yrFold_hi hiT k
            have hU2 : U.2 = T.2 := by rw [hU]; exact yrFold_2 k
            have hyU : U.2.2.2.2 = T.2.2.2.2 := by rw [hU2]
            have hpU : U.2.2.2.1 < 64 := by rw [hU2]; exact hpT
            refine lv_iload (pc := 10) hx hb dX2_yearsGoBy_10 (lv_at hl 0 rfl) ?_
            refine lv_aload_n (pc := 12) hx hb dX2_yearsGoBy_12 rfl (lv_at hl 4 rfl) ?_
            refine va_get (pc := 13) (D := D) (ci := 2) (v := .int (nI P.2.2.2.2.2.1)) (C := RX2) (T := TX2) (N := 7) hx hb hts hiX2 hown hK hP 0 rfl rfl 5 (by decide) wf28 (fun _ h9 => h9) rfl dX2_yearsGoBy_13 ?_
            refine rc_ge (pc := 16) (tgt := 55) hx hb (tI_nI (by omega)) (tI_nI (by omega)) dX2_yearsGoBy_16 (by decide) (fun c16 => ?_) (fun c16 => ?_)
            · refine lv_aload_n (pc := 55) hx hb dX2_yearsGoBy_55 rfl (lv_at hl 4 rfl) ?_
              refine lv_aload_n (pc := 56) hx hb dX2_yearsGoBy_56 rfl (lv_at hl 3 rfl) ?_
              refine cv_Vd (pc := 57) hF hN hK hP hV hS hA (k_X2_giveStrokes l D cI cC cB cS p0 p1 p2 p3 P s0 s1 s2 s3 U hp) (cwV 1 hts gX2_yearsGoBy_X2_giveStrokes rfl rfl rfl (by decide +kernel) ⟨Nat.le_of_ble_eq_true rfl, Nat.le_of_ble_eq_true rfl⟩) [0, 1, 2, 3, 4, 5, 6, 7] rfl (by decide) 0 2 rfl rfl rfl hl.1 rfl (Nat.le_of_ble_eq_true rfl) dX2_yearsGoBy_57 ⟨Nat.le_refl _, Nat.le_refl _⟩ rfl (ws2 := plW p0 p1 p2 p3 cI P ++ stW s0 s1 s2 s3 cI (giveS P U)) rfl (fun H locs hP hS => ?_)
              refine lv_aload_n (pc := 60) hx hb dX2_yearsGoBy_60 rfl (lv_at hl 3 rfl) ?_
              refine cv_Vd (pc := 61) hF hN hK hP hV hS hA (k_X8_nextYear l D cI cC cB cS s0 s1 s2 s3 (giveS P U)) (cwV 0 hts gX2_yearsGoBy_X8_nextYear rfl rfl rfl (by decide +kernel) ⟨Nat.le_of_ble_eq_true rfl, Nat.le_of_ble_eq_true rfl⟩) [4, 5, 6, 7] rfl (by decide) 0 8 rfl rfl rfl hl.1 rfl (Nat.le_of_ble_eq_true rfl) dX2_yearsGoBy_61 ⟨Nat.le_refl _, Nat.le_refl _⟩ rfl (ws2 := plW p0 p1 p2 p3 cI P ++ stW s0 s1 s2 s3 cI ((giveS P U).1, (giveS P U).2.1, (giveS P U).2.2.1, (giveS P U).2.2.2.1, (giveS P U).2.2.2.2 + 1)) rfl (fun H locs hP hS => ?_)
              refine lv_iinc (pc := 64) (v := nI (i + 1)) (lv' := [(3, .int (nI (i + 1))), (4, .int (nI k)), (2, .int (nI n)), (1, .ref s0), (0, .ref p0)]) hx hb dX2_yearsGoBy_64 hl (k := 1) rfl (by rw [← nI_add]; rfl) (by decide) rfl (fun ls hl => ?_)
              refine lv_goto (pc := 67) (tgt := 2) hx hb dX2_yearsGoBy_67 (by decide) ?_
              exact ih2 (i + 1) ((giveS P U).1, (giveS P U).2.1, (giveS P U).2.2.1, (giveS P U).2.2.2.1, (giveS P U).2.2.2.2 + 1) _ _ _ (by omega) (yearsS_next hT hU (by omega)) (by omega) hP hS (lv_sub hl [0, 2, 3, 4] rfl)
            · refine lv_aload_n (pc := 19) hx hb dX2_yearsGoBy_19 rfl (lv_at hl 4 rfl) ?_
              refine lv_iload (pc := 20) hx hb dX2_yearsGoBy_20 (lv_at hl 0 rfl) ?_
              refine lv_iconst (pc := 22) (v := nI 3) hx hb dX2_yearsGoBy_22 (by decide) ?_
              refine ci_Vd (pc := 23) (r0 := nI (P.2.1 (k * 4 + 3))) hF hN hK hP hV hS hA (k_X2_ofCase l D cI cC cB cS p0 p1 p2 p3 P k 3 hp (by omega) (by omega)) (cwV 2 hts gX2_yearsGoBy_X2_ofCase rfl rfl rfl (by decide +kernel) ⟨Nat.le_of_ble_eq_true rfl, Nat.le_of_ble_eq_true rfl⟩) [0, 1, 2, 3] rfl (by decide) 0 2 rfl rfl rfl hl.1 rfl (Nat.le_of_ble_eq_true rfl) dX2_yearsGoBy_23 ⟨Nat.le_refl _, Nat.le_refl _⟩ rfl (ws2 := plW p0 p1 p2 p3 cI P ++ stW s0 s1 s2 s3 cI U) rfl (fun H locs hP hS => ?_)
              have fq3 := hp.2.1 (k * 4 + 3)
              refine lv_aload_n (pc := 26) hx hb dX2_yearsGoBy_26 rfl (lv_at hl 3 rfl) ?_
              refine ci_Vd (pc := 27) (r0 := nI U.2.2.2.2) hF hN hK hP hV hS hA (k_X8_yearIs l D cI cC cB cS s0 s1 s2 s3 U) (cwV 0 hts gX2_yearsGoBy_X8_yearIs rfl rfl rfl (by decide +kernel) ⟨Nat.le_of_ble_eq_true rfl, Nat.le_of_ble_eq_true rfl⟩) [4, 5, 6, 7] rfl (by decide) 0 8 rfl rfl rfl hl.1 rfl (Nat.le_of_ble_eq_true rfl) dX2_yearsGoBy_27 ⟨Nat.le_refl _, Nat.le_refl _⟩ rfl (ws2 := plW p0 p1 p2 p3 cI P ++ stW s0 s1 s2 s3 cI U) rfl (fun H locs hP hS => ?_)
              refine rc_gt (pc := 30) (tgt := 49) hx hb (tI_nI (by omega)) (tI_nI (by omega)) dX2_yearsGoBy_30 (by decide) (fun c30 => ?_) (fun c30 => ?_)
              · refine lv_iinc (pc := 49) (v := nI (k + 1)) (lv' := [(4, .int (nI (k + 1))), (3, .int (nI i)), (2, .int (nI n)), (1, .ref s0), (0, .ref p0)]) hx hb dX2_yearsGoBy_49 hl (k := 0) rfl (by rw [← nI_add]; rfl) (by decide) rfl (fun ls hl => ?_)
                refine lv_goto (pc := 52) (tgt := 10) hx hb dX2_yearsGoBy_52 (by decide) ?_
                exact ih10 (k + 1) U _ _ _ (by omega) (yrFold_no hU (by first | exact fun q => absurd q.1 (by omega) | exact fun q => q.2 c39)) (by omega) hP hS (lv_sub hl [0, 1, 2, 3, 4] rfl)
              · refine lv_aload_n (pc := 33) hx hb dX2_yearsGoBy_33 rfl (lv_at hl 3 rfl) ?_
                refine lv_iload (pc := 34) hx hb dX2_yearsGoBy_34 (lv_at hl 0 rfl) ?_
                refine ci_Vd (pc := 36) (r0 := nI (if sPard U k then 1 else 0)) hF hN hK hP hV hS hA (k_X8_isPardoned l D cI cC cB cS s0 s1 s2 s3 U k (by omega) (by omega)) (cwV 1 hts gX2_yearsGoBy_X8_isPardoned rfl rfl rfl (by decide +kernel) ⟨Nat.le_of_ble_eq_true rfl, Nat.le_of_ble_eq_true rfl⟩) [4, 5, 6, 7] rfl (by decide) 0 8 rfl rfl rfl hl.1 rfl (Nat.le_of_ble_eq_true rfl) dX2_yearsGoBy_36 ⟨Nat.le_refl _, Nat.le_refl _⟩ rfl (ws2 := plW p0 p1 p2 p3 cI P ++ stW s0 s1 s2 s3 cI U) rfl (fun H locs hP hS => ?_)
                refine rb_ne (pc := 39) (tgt := 49) hx hb dX2_yearsGoBy_39 (by decide) (fun c39 => ?_) (fun c39 => ?_)
                · refine lv_iinc (pc := 49) (v := nI (k + 1)) (lv' := [(4, .int (nI (k + 1))), (3, .int (nI i)), (2, .int (nI n)), (1, .ref s0), (0, .ref p0)]) hx hb dX2_yearsGoBy_49 hl (k := 0) rfl (by rw [← nI_add]; rfl) (by decide) rfl (fun ls hl => ?_)
                  refine lv_goto (pc := 52) (tgt := 10) hx hb dX2_yearsGoBy_52 (by decide) ?_
                  exact ih10 (k + 1) U _ _ _ (by omega) (yrFold_no hU (by first | exact fun q => absurd q.1 (by omega) | exact fun q => q.2 c39)) (by omega) hP hS (lv_sub hl [0, 1, 2, 3, 4] rfl)
                · refine lv_aload_n (pc := 42) hx hb dX2_yearsGoBy_42 rfl (lv_at hl 4 rfl) ?_
                  refine lv_aload_n (pc := 43) hx hb dX2_yearsGoBy_43 rfl (lv_at hl 3 rfl) ?_
                  refine lv_iload (pc := 44) hx hb dX2_yearsGoBy_44 (lv_at hl 0 rfl) ?_
                  refine cv_Vd (pc := 46) hF hN hK hP hV hS hA (k_X2_comeUp l D cI cC cB cS p0 p1 p2 p3 P s0 s1 s2 s3 U k hw hiU (by omega)) (cwV 2 hts gX2_yearsGoBy_X2_comeUp rfl rfl rfl (by decide +kernel) ⟨Nat.le_of_ble_eq_true rfl, Nat.le_of_ble_eq_true rfl⟩) [0, 1, 2, 3, 4, 5, 6, 7] rfl (by decide) 0 2 rfl rfl rfl hl.1 rfl (Nat.le_of_ble_eq_true rfl) dX2_yearsGoBy_46 ⟨Nat.le_refl _, Nat.le_refl _⟩ rfl (ws2 := plW p0 p1 p2 p3 cI P ++ stW s0 s1 s2 s3 cI (comeS P U k)) rfl (fun H locs hP hS => ?_)
                  refine lv_iinc (pc := 49) (v := nI (k + 1)) (lv' := [(4, .int (nI (k + 1))), (3, .int (nI i)), (2, .int (nI n)), (1, .ref s0), (0, .ref p0)]) hx hb dX2_yearsGoBy_49 hl (k := 0) rfl (by rw [← nI_add]; rfl) (by decide) rfl (fun ls hl => ?_)
                  refine lv_goto (pc := 52) (tgt := 10) hx hb dX2_yearsGoBy_52 (by decide) ?_
                  exact ih10 (k + 1) (comeS P U k) _ _ _ (by omega) (yrFold_yes hU ⟨by omega, c39⟩) (by omega) hP hS (lv_sub hl [0, 1, 2, 3, 4] rfl)
        exact cut10 _ 0 T _ _ _ (Nat.zero_le _) rfl (Nat.lt_succ_self _) hP hS (lv_sub hl [0, 1, 2, 3, 4] rfl)
  exact cut2 _ 0 S _ _ _ (Nat.zero_le _) rfl (Nat.lt_succ_self _) hP hS (lv_sub hl [0, 3, 2, 1] rfl)
