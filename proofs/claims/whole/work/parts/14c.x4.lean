set_option maxHeartbeats 4000000 in
set_option maxRecDepth 100000 in
theorem k_X4_tryS (l : Launch) (D : va_G) (cI cC cB cS : ClassId) (d : Nat) (ih : ∀ (r0 r1 r2 : Nat) (R : RO) (p0 p1 p2 p3 : Nat) (P : PL) (s0 s1 s2 s3 : Nat) (S : ST) (mm : Nat) (gg : Nat) (n : Nat) (hr : rOK R) (hp : pOK P) (hi : sHi S) (hmm : mm < 3) (hle : d ≤ S.2.1 mm ∧ S.2.1 mm < 100) (hpl : S.2.2.1 mm < pCells P) (hgn : gg + d = n) (hn5 : n ≤ 5), CV l D (kT cI cC cB cS) yX4_tryFrom wsX4_tryFrom (rmX4_tryFrom d) [.ref r0, .ref p0, .ref s0, .int (nI mm), .int (nI gg), .int (nI n)] (roW r0 r1 r2 cI R ++ plW p0 p1 p2 p3 cI P ++ stW s0 s1 s2 s3 cI S) (fun u => u = roW r0 r1 r2 cI (tryS P mm d gg R S) ++ plW p0 p1 p2 p3 cI P ++ stW s0 s1 s2 s3 cI S)) (r0 r1 r2 : Nat) (R : RO) (p0 p1 p2 p3 : Nat) (P : PL) (s0 s1 s2 s3 : Nat) (S : ST) (mm : Nat) (gg : Nat) (n : Nat) (hr : rOK R) (hp : pOK P) (hi : sHi S) (hmm : mm < 3) (hle : (d + 1) ≤ S.2.1 mm ∧ S.2.1 mm < 100) (hpl : S.2.2.1 mm < pCells P) (hgn : gg + (d + 1) = n) (hn5 : n ≤ 5) : CV l D (kT cI cC cB cS) yX4_tryFrom wsX4_tryFrom (rmX4_tryFrom (d + 1)) [.ref r0, .ref p0, .ref s0, .int (nI mm), .int (nI gg), .int (nI n)] (roW r0 r1 r2 cI R ++ plW p0 p1 p2 p3 cI P ++ stW s0 s1 s2 s3 cI S) (fun u => u = roW r0 r1 r2 cI (tryS P mm (d + 1) gg R S) ++ plW p0 p1 p2 p3 cI P ++ stW s0 s1 s2 s3 cI S) := by
  refine cv_intro (by decide) rfl (Nat.le_of_ble_eq_true rfl) ?_
  intro p e s m args below meth c ls A QF hF hK hP hV hS hA hN hl hret
  obtain ⟨hx, hb, hml, hown, hts⟩ := id hF
  have hP : va_P D vwCl (roW r0 r1 r2 cI R ++ plW p0 p1 p2 p3 cI P ++ stW s0 s1 s2 s3 cI S) s.heap := hP
  have hl : lv_has ls 13 [(0, .ref r0), (1, .ref p0), (2, .ref s0), (3, .int (nI mm)), (4, .int (nI gg)), (5, .int (nI n))] := hl
  have wf9 := hts (.fieldLink RX4 9 "RemorseWall$Rounds" "trying" "[I") (by decide +kernel)
  have hiX4 : ∀ w ∈ u_ws RX4 TX4 3, w ∈ wsX4_tryFrom := by decide +kernel
  have hp6 := hp.2.2.2.1
  refine lv_iload (pc := 0) hx hb dX4_tryFrom_0 (lv_at hl 4 rfl) ?_
  refine r0_lt (pc := 2) (tgt := 22) hx hb (tI_nI (by omega)) dX4_tryFrom_2 (by decide) (fun c2 => ?_) (fun c2 => ?_)
  · omega
  · refine lv_iload (pc := 5) hx hb dX4_tryFrom_5 (lv_at hl 4 rfl) ?_
    refine lv_iload (pc := 7) hx hb dX4_tryFrom_7 (lv_at hl 5 rfl) ?_
    refine rc_ge (pc := 9) (tgt := 22) hx hb (tI_nI (by omega)) (tI_nI (by omega)) dX4_tryFrom_9 (by decide) (fun c9 => ?_) (fun c9 => ?_)
    · omega
    · refine lv_iload (pc := 12) hx hb dX4_tryFrom_12 (lv_at hl 4 rfl) ?_
      refine lv_aload_n (pc := 14) hx hb dX4_tryFrom_14 rfl (lv_at hl 0 rfl) ?_
      refine va_get (pc := 15) (D := D) (ci := 4) (v := .ref r1) (C := RX4) (T := TX4) (N := 3) hx hb hts hiX4 hown hK hP 0 rfl rfl 0 (by decide) wf9 (fun _ h9 => h9) rfl dX4_tryFrom_15 ?_
      refine va_alen (pc := 18) (v := nI 5) hx hb hK hP 1 0 rfl rfl rfl dX4_tryFrom_18 ?_
      refine rc_lt (pc := 19) (tgt := 31) hx hb (tI_nI (by omega)) (tI_nI (by omega)) dX4_tryFrom_19 (by decide) (fun c19 => ?_) (fun c19 => ?_)
      · refine lv_aload_n (pc := 31) hx hb dX4_tryFrom_31 rfl (lv_at hl 2 rfl) ?_
        refine lv_iload_n (pc := 32) hx hb dX4_tryFrom_32 rfl (lv_at hl 3 rfl) ?_
        refine ci_Vd (pc := 33) (r0 := nI (S.2.2.1 mm)) hF hN hK hP hV hS hA (k_X8_placeOf l D cI cC cB cS s0 s1 s2 s3 S mm hmm) (cwV 1 hts gX4_tryFrom_X8_placeOf rfl rfl rfl (by decide +kernel) ⟨Nat.le_trans (Nat.le_of_ble_eq_true rfl) (Nat.le_add_right 10 _), Nat.le_trans (Nat.le_of_ble_eq_true rfl) (Nat.le_add_right 200 _)⟩) [7, 8, 9, 10] rfl (by decide) 0 8 rfl rfl rfl hl.1 rfl (Nat.le_of_ble_eq_true rfl) dX4_tryFrom_33 ⟨Nat.le_refl _, Nat.le_refl _⟩ rfl (ws2 := roW r0 r1 r2 cI R ++ plW p0 p1 p2 p3 cI P ++ stW s0 s1 s2 s3 cI S) rfl (fun H locs hP hS => ?_)
        refine lv_istore (pc := 36) (lv' := [(6, .int (nI (S.2.2.1 mm))), (0, .ref r0), (1, .ref p0), (2, .ref s0), (3, .int (nI mm)), (4, .int (nI gg)), (5, .int (nI n))]) hx hb dX4_tryFrom_36 hl (by decide) rfl (fun ls hl => ?_)
        refine lv_aload_n (pc := 38) hx hb dX4_tryFrom_38 rfl (lv_at hl 3 rfl) ?_
        refine lv_iload_n (pc := 39) hx hb dX4_tryFrom_39 rfl (lv_at hl 4 rfl) ?_
        refine ci_Vd (pc := 40) (r0 := nI (S.2.1 mm)) hF hN hK hP hV hS hA (k_X8_leftTo l D cI cC cB cS s0 s1 s2 s3 S mm hmm) (cwV 1 hts gX4_tryFrom_X8_leftTo rfl rfl rfl (by decide +kernel) ⟨Nat.le_trans (Nat.le_of_ble_eq_true rfl) (Nat.le_add_right 10 _), Nat.le_trans (Nat.le_of_ble_eq_true rfl) (Nat.le_add_right 200 _)⟩) [7, 8, 9, 10] rfl (by decide) 0 8 rfl rfl rfl hl.1 rfl (Nat.le_of_ble_eq_true rfl) dX4_tryFrom_40 ⟨Nat.le_refl _, Nat.le_refl _⟩ rfl (ws2 := roW r0 r1 r2 cI R ++ plW p0 p1 p2 p3 cI P ++ stW s0 s1 s2 s3 cI S) rfl (fun H locs hP hS => ?_)
        refine lv_istore (pc := 43) (lv' := [(7, .int (nI (S.2.1 mm))), (6, .int (nI (S.2.2.1 mm))), (0, .ref r0), (1, .ref p0), (2, .ref s0), (3, .int (nI mm)), (4, .int (nI gg)), (5, .int (nI n))]) hx hb dX4_tryFrom_43 hl (by decide) rfl (fun ls hl => ?_)
        refine lv_iconst (pc := 45) (v := nI 0) hx hb dX4_tryFrom_45 (by decide) ?_
        refine lv_istore (pc := 46) (lv' := [(8, .int (nI 0)), (7, .int (nI (S.2.1 mm))), (6, .int (nI (S.2.2.1 mm))), (0, .ref r0), (1, .ref p0), (2, .ref s0), (3, .int (nI mm)), (4, .int (nI gg)), (5, .int (nI n))]) hx hb dX4_tryFrom_46 hl (by decide) rfl (fun ls hl => ?_)
        have cut48 : ∀ (fuel : Nat) (i : Nat) (R1 : RO) (H : Heap) (locs : List Loc) (ls : Array Slot) (hi5 : i ≤ 5) (hR1 : R1 = tryW P mm gg (S.2.2.1 mm) S (fun R S => tryS P mm d (gg + 1) R S) R i) (hfu : 5 - i < fuel), va_P D vwCl (roW r0 r1 r2 cI R1 ++ plW p0 p1 p2 p3 cI P ++ stW s0 s1 s2 s3 cI S) H → va_S A s.heap H locs → lv_has ls 13 [(8, .int (nI i)), (7, .int (nI (S.2.1 mm))), (6, .int (nI (S.2.2.1 mm))), (5, .int (nI n)), (4, .int (nI gg)), (3, .int (nI mm)), (2, .ref s0), (1, .ref p0), (0, .ref r0)] → W p l e (rmX4_tryFrom (d + 1)) s m args below meth c H locs 0 0 QF (F0 m 48 ls []) := by
          intro fuel
          induction fuel with
          | zero => intro i R1 H locs ls hi5 hR1 hfu; omega
          | succ fuel ih48 =>
            intro i R1 H locs ls hi5 hR1 hfu hP hS hl
            refine lv_iload (pc := 48) hx hb dX4_tryFrom_48 (lv_at hl 0 rfl) ?_
            refine lv_iconst (pc := 50) (v := nI 5) hx hb dX4_tryFrom_50 (by decide) ?_
            refine rc_ge (pc := 51) (tgt := 160) hx hb (tI_nI (by omega)) (tI_nI (by omega)) dX4_tryFrom_51 (by decide) (fun c51 => ?_) (fun c51 => ?_)
            · exact hret 160 _ hP hS dX4_tryFrom_160 rfl (by rw [hR1, show i = 5 by omega]; rfl)
            · refine lv_aload_n (pc := 54) hx hb dX4_tryFrom_54 rfl (lv_at hl 7 rfl) ?_
              refine lv_iload (pc := 55) hx hb dX4_tryFrom_55 (lv_at hl 2 rfl) ?_
              refine lv_iload (pc := 57) hx hb dX4_tryFrom_57 (lv_at hl 0 rfl) ?_
              refine ci_Vd (pc := 59) (r0 := jI (wayZ P (S.2.2.1 mm) i)) hF hN hK hP hV hS hA (k_X2_wayFrom l D cI cC cB cS p0 p1 p2 p3 P (S.2.2.1 mm) i hp hpl (by omega)) (cwV 2 hts gX4_tryFrom_X2_wayFrom rfl rfl rfl (by decide +kernel) ⟨Nat.le_trans (Nat.le_of_ble_eq_true rfl) (Nat.le_add_right 10 _), Nat.le_trans (Nat.le_of_ble_eq_true rfl) (Nat.le_add_right 200 _)⟩) [3, 4, 5, 6] rfl (by decide) 0 2 rfl rfl rfl hl.1 rfl (Nat.le_of_ble_eq_true rfl) dX4_tryFrom_59 ⟨Nat.le_refl _, Nat.le_refl _⟩ rfl (ws2 := roW r0 r1 r2 cI R1 ++ plW p0 p1 p2 p3 cI P ++ stW s0 s1 s2 s3 cI S) rfl (fun H locs hP hS => ?_)
              have fq3 := wayZ_w hp (show (S.2.2.1 mm) < pCells P from hpl) i
              refine lv_istore (pc := 62) (lv' := [(9, .int (jI (wayZ P (S.2.2.1 mm) i))), (8, .int (nI i)), (7, .int (nI (S.2.1 mm))), (6, .int (nI (S.2.2.1 mm))), (5, .int (nI n)), (4, .int (nI gg)), (3, .int (nI mm)), (2, .ref s0), (1, .ref p0), (0, .ref r0)]) hx hb dX4_tryFrom_62 hl (by decide) rfl (fun ls hl => ?_)
              refine lv_iload (pc := 64) hx hb dX4_tryFrom_64 (lv_at hl 0 rfl) ?_
              refine lv_iconst (pc := 66) (v := jI (-1)) hx hb dX4_tryFrom_66 (by decide) ?_
              refine rc_eq (pc := 67) (tgt := 154) hx hb (jI_to (by omega)) (jI_to (by omega)) dX4_tryFrom_67 (by decide) (fun c67 => ?_) (fun c67 => ?_)
              · refine lv_iinc (pc := 154) (v := nI (i + 1)) (lv' := [(8, .int (nI (i + 1))), (9, .int (jI (wayZ P (S.2.2.1 mm) i))), (7, .int (nI (S.2.1 mm))), (6, .int (nI (S.2.2.1 mm))), (5, .int (nI n)), (4, .int (nI gg)), (3, .int (nI mm)), (2, .ref s0), (1, .ref p0), (0, .ref r0)]) hx hb dX4_tryFrom_154 hl (k := 1) rfl (by rw [← nI_add]; rfl) (by decide) rfl (fun ls hl => ?_)
                refine lv_goto (pc := 157) (tgt := 48) hx hb dX4_tryFrom_157 (by decide) ?_
                exact ih48 (i + 1) R1 _ _ _ (by omega) (tryW_no hR1 (by omega)) (by omega) hP hS (lv_sub hl [0, 2, 3, 4, 5, 6, 7, 8, 9] rfl)
              · obtain ⟨x, hx9⟩ : ∃ x : Nat, wayZ P (S.2.2.1 mm) i = (x : Int) := ⟨(wayZ P (S.2.2.1 mm) i).toNat, by omega⟩
                have hxc := (wayZ_rng hpl i).2
                have hxc : x < pCells P := by omega
                rw [hx9, ← jI_nat] at hl
                have hcl := pCells_le hp
                have hs1 := sAt_le hi (x : Int)
                have hs2 := sAt_le hi (wayZ P x 3)
                have hr1 : rOK R1 := hR1 ▸ tryW_ok hr (fun R k h => tryS_ok d (gg + 1) R _ (strS_hi hi mm k) h) i
                have hr9 : rOK (va_up R1.1 gg x, R1.2) := hr1
                have hle9 : d ≤ (strS P S mm x).2.1 mm ∧ (strS P S mm x).2.1 mm < 100 := by
                  have e : (strS P S mm x).2.1 mm = S.2.1 mm - 1 := by rw [strS_le]; unfold va_up; rw [if_pos rfl]
                  omega
                have hpl9 : (strS P S mm x).2.2.1 mm < pCells P := by
                  have e : (strS P S mm x).2.2.1 mm = x := by rw [strS_pl]; unfold va_up; rw [if_pos rfl]
                  omega
                refine lv_aload_n (pc := 70) hx hb dX4_tryFrom_70 rfl (lv_at hl 8 rfl) ?_
                refine lv_iload (pc := 71) hx hb dX4_tryFrom_71 (lv_at hl 0 rfl) ?_
                refine ci_Vd (pc := 73) (r0 := jI (wayZ P x 3)) hF hN hK hP hV hS hA (k_X2_after l D cI cC cB cS p0 p1 p2 p3 P x hp (by omega)) (cwV 1 hts gX4_tryFrom_X2_after rfl rfl rfl (by decide +kernel) ⟨Nat.le_trans (Nat.le_of_ble_eq_true rfl) (Nat.le_add_right 10 _), Nat.le_trans (Nat.le_of_ble_eq_true rfl) (Nat.le_add_right 200 _)⟩) [3, 4, 5, 6] rfl (by decide) 0 2 rfl rfl rfl hl.1 rfl (Nat.le_of_ble_eq_true rfl) dX4_tryFrom_73 ⟨Nat.le_refl _, Nat.le_refl _⟩ rfl (ws2 := roW r0 r1 r2 cI R1 ++ plW p0 p1 p2 p3 cI P ++ stW s0 s1 s2 s3 cI S) rfl (fun H locs hP hS => ?_)
                have fq4 := wayZ_w hp (show x < pCells P from (by omega)) 3
                refine lv_istore (pc := 76) (lv' := [(10, .int (jI (wayZ P x 3))), (9, .int (nI x)), (8, .int (nI i)), (7, .int (nI (S.2.1 mm))), (6, .int (nI (S.2.2.1 mm))), (5, .int (nI n)), (4, .int (nI gg)), (3, .int (nI mm)), (2, .ref s0), (1, .ref p0), (0, .ref r0)]) hx hb dX4_tryFrom_76 hl (by decide) rfl (fun ls hl => ?_)
                refine lv_aload_n (pc := 78) hx hb dX4_tryFrom_78 rfl (lv_at hl 8 rfl) ?_
                refine lv_iload (pc := 79) hx hb dX4_tryFrom_79 (lv_at hl 1 rfl) ?_
                refine ci_Vd (pc := 81) (r0 := nI (sAt S ((x : Nat) : Int))) hF hN hK hP hV hS hA (k_X8_highAt l D cI cC cB cS s0 s1 s2 s3 S (nI x) ((x : Nat) : Int) (tI_nI (by omega))) (cwV 1 hts gX4_tryFrom_X8_highAt rfl rfl rfl (by decide +kernel) ⟨Nat.le_trans (Nat.le_of_ble_eq_true rfl) (Nat.le_add_right 10 _), Nat.le_trans (Nat.le_of_ble_eq_true rfl) (Nat.le_add_right 200 _)⟩) [7, 8, 9, 10] rfl (by decide) 0 8 rfl rfl rfl hl.1 rfl (Nat.le_of_ble_eq_true rfl) dX4_tryFrom_81 ⟨Nat.le_refl _, Nat.le_refl _⟩ rfl (ws2 := roW r0 r1 r2 cI R1 ++ plW p0 p1 p2 p3 cI P ++ stW s0 s1 s2 s3 cI S) rfl (fun H locs hP hS => ?_)
                refine lv_istore (pc := 84) (lv' := [(11, .int (nI (sAt S ((x : Nat) : Int)))), (10, .int (jI (wayZ P x 3))), (9, .int (nI x)), (8, .int (nI i)), (7, .int (nI (S.2.1 mm))), (6, .int (nI (S.2.2.1 mm))), (5, .int (nI n)), (4, .int (nI gg)), (3, .int (nI mm)), (2, .ref s0), (1, .ref p0), (0, .ref r0)]) hx hb dX4_tryFrom_84 hl (by decide) rfl (fun ls hl => ?_)
                refine lv_aload_n (pc := 86) hx hb dX4_tryFrom_86 rfl (lv_at hl 9 rfl) ?_
                refine lv_iload (pc := 87) hx hb dX4_tryFrom_87 (lv_at hl 1 rfl) ?_
                refine ci_Vd (pc := 89) (r0 := nI (sAt S (wayZ P x 3))) hF hN hK hP hV hS hA (k_X8_highAt l D cI cC cB cS s0 s1 s2 s3 S (jI (wayZ P x 3)) (wayZ P x 3) (jI_to (by omega))) (cwV 1 hts gX4_tryFrom_X8_highAt rfl rfl rfl (by decide +kernel) ⟨Nat.le_trans (Nat.le_of_ble_eq_true rfl) (Nat.le_add_right 10 _), Nat.le_trans (Nat.le_of_ble_eq_true rfl) (Nat.le_add_right 200 _)⟩) [7, 8, 9, 10] rfl (by decide) 0 8 rfl rfl rfl hl.1 rfl (Nat.le_of_ble_eq_true rfl) dX4_tryFrom_89 ⟨Nat.le_refl _, Nat.le_refl _⟩ rfl (ws2 := roW r0 r1 r2 cI R1 ++ plW p0 p1 p2 p3 cI P ++ stW s0 s1 s2 s3 cI S) rfl (fun H locs hP hS => ?_)
                refine lv_istore (pc := 92) (lv' := [(12, .int (nI (sAt S (wayZ P x 3)))), (11, .int (nI (sAt S ((x : Nat) : Int)))), (10, .int (jI (wayZ P x 3))), (9, .int (nI x)), (8, .int (nI i)), (7, .int (nI (S.2.1 mm))), (6, .int (nI (S.2.2.1 mm))), (5, .int (nI n)), (4, .int (nI gg)), (3, .int (nI mm)), (2, .ref s0), (1, .ref p0), (0, .ref r0)]) hx hb dX4_tryFrom_92 hl (by decide) rfl (fun ls hl => ?_)
                refine lv_aload_n (pc := 94) hx hb dX4_tryFrom_94 rfl (lv_at hl 12 rfl) ?_
                refine va_get (pc := 95) (D := D) (ci := 4) (v := .ref r1) (C := RX4) (T := TX4) (N := 3) hx hb hts hiX4 hown hK hP 0 rfl rfl 0 (by decide) wf9 (fun _ h9 => h9) rfl dX4_tryFrom_95 ?_
                refine lv_iload (pc := 98) hx hb dX4_tryFrom_98 (lv_at hl 8 rfl) ?_
                refine lv_iload (pc := 100) hx hb dX4_tryFrom_100 (lv_at hl 3 rfl) ?_
                refine rn_iast (pc := 102) (f := R1.1) (k := gg) (x := x) (ws2 := roW r0 r1 r2 cI (va_up R1.1 gg x, R1.2.1, R1.2.2) ++ plW p0 p1 p2 p3 cI P ++ stW s0 s1 s2 s3 cI S) hx hb hK hP hV hS 1 0 rfl rfl (by omega) (by decide) dX4_tryFrom_102 rfl rfl (fun H locs hP hS => ?_)
                refine lv_aload_n (pc := 103) hx hb dX4_tryFrom_103 rfl (lv_at hl 11 rfl) ?_
                refine lv_aload_n (pc := 104) hx hb dX4_tryFrom_104 rfl (lv_at hl 10 rfl) ?_
                refine lv_iload_n (pc := 105) hx hb dX4_tryFrom_105 rfl (lv_at hl 9 rfl) ?_
                refine lv_iload (pc := 106) hx hb dX4_tryFrom_106 (lv_at hl 3 rfl) ?_
                refine cv_Vd (pc := 108) hF hN hK hP hV hS hA (k_X2_strike l D cI cC cB cS p0 p1 p2 p3 P s0 s1 s2 s3 S mm x hp hi hmm (by omega) (by omega)) (cwV 3 hts gX4_tryFrom_X2_strike rfl rfl rfl (by decide +kernel) ⟨Nat.le_trans (Nat.le_of_ble_eq_true rfl) (Nat.le_add_right 10 _), Nat.le_trans (Nat.le_of_ble_eq_true rfl) (Nat.le_add_right 200 _)⟩) [3, 4, 5, 6, 7, 8, 9, 10] rfl (by decide) 0 2 rfl rfl rfl hl.1 rfl (Nat.le_of_ble_eq_true rfl) dX4_tryFrom_108 ⟨Nat.le_refl _, Nat.le_refl _⟩ rfl (ws2 := roW r0 r1 r2 cI (va_up R1.1 gg x, R1.2.1, R1.2.2) ++ plW p0 p1 p2 p3 cI P ++ stW s0 s1 s2 s3 cI (strS P S mm x)) rfl (fun H locs hP hS => ?_)
                refine lv_aload_n (pc := 111) hx hb dX4_tryFrom_111 rfl (lv_at hl 12 rfl) ?_
                refine lv_aload_n (pc := 112) hx hb dX4_tryFrom_112 rfl (lv_at hl 11 rfl) ?_
                refine lv_aload_n (pc := 113) hx hb dX4_tryFrom_113 rfl (lv_at hl 10 rfl) ?_
                refine lv_iload_n (pc := 114) hx hb dX4_tryFrom_114 rfl (lv_at hl 9 rfl) ?_
                refine lv_iload (pc := 115) hx hb dX4_tryFrom_115 (lv_at hl 8 rfl) ?_
                refine lv_iconst (pc := 117) (v := nI 1) hx hb dX4_tryFrom_117 (by decide) ?_
                refine rn_iadd (pc := 118) hx hb dX4_tryFrom_118 ?_
                refine lv_iload (pc := 119) hx hb dX4_tryFrom_119 (lv_at hl 7 rfl) ?_
                refine cv_Sd (pc := 121) hF hN hK hP hV hS hA (ih r0 r1 r2 (va_up R1.1 gg x, R1.2.1, R1.2.2) p0 p1 p2 p3 P s0 s1 s2 s3 (strS P S mm x) mm (gg + 1) n hr9 hp (strS_hi hi _ _) hmm hle9 hpl9 (by omega) hn5) (va_cwS 6 hts gX4_tryFrom_X4_tryFrom rfl rfl rfl (by decide +kernel) ⟨(by show 10 + d + 1 ≤ 10 + (d + 1); omega), (by show 8 + (13 + 11) + (200 + 60 * d) ≤ 200 + 60 * (d + 1); omega)⟩) [0, 1, 2, 3, 4, 5, 6, 7, 8, 9, 10] rfl (by decide) rfl hl.1 rfl (Nat.le_of_ble_eq_true rfl) dX4_tryFrom_121 ⟨Nat.le_refl _, Nat.le_refl _⟩ rfl (ws2 := roW r0 r1 r2 cI (tryS P mm d (gg + 1) (va_up R1.1 gg x, R1.2.1, R1.2.2) (strS P S mm x)) ++ plW p0 p1 p2 p3 cI P ++ stW s0 s1 s2 s3 cI (strS P S mm x)) rfl (fun H locs hP hS => ?_)
                refine lv_aload_n (pc := 124) hx hb dX4_tryFrom_124 rfl (lv_at hl 10 rfl) ?_
                refine lv_iload (pc := 125) hx hb dX4_tryFrom_125 (lv_at hl 3 rfl) ?_
                refine lv_iload (pc := 127) hx hb dX4_tryFrom_127 (lv_at hl 1 rfl) ?_
                refine cv_Vd (pc := 129) hF hN hK hP hV hS hA (k_X8_setHigh l D cI cC cB cS s0 s1 s2 s3 (strS P S mm x) (nI x) ((x : Nat) : Int) (tI_nI (by omega)) (nI (sAt S ((x : Nat) : Int))) ((sAt S ((x : Nat) : Int) : Nat) : Int) (tI_nI (by omega)) (by omega)) (cwV 2 hts gX4_tryFrom_X8_setHigh rfl rfl rfl (by decide +kernel) ⟨Nat.le_trans (Nat.le_of_ble_eq_true rfl) (Nat.le_add_right 10 _), Nat.le_trans (Nat.le_of_ble_eq_true rfl) (Nat.le_add_right 200 _)⟩) [7, 8, 9, 10] rfl (by decide) 0 8 rfl rfl rfl hl.1 rfl (Nat.le_of_ble_eq_true rfl) dX4_tryFrom_129 ⟨Nat.le_refl _, Nat.le_refl _⟩ rfl (ws2 := roW r0 r1 r2 cI (tryS P mm d (gg + 1) (va_up R1.1 gg x, R1.2.1, R1.2.2) (strS P S mm x)) ++ plW p0 p1 p2 p3 cI P ++ stW s0 s1 s2 s3 cI (sSet (strS P S mm x) ((x : Nat) : Int) (clH ((sAt S ((x : Nat) : Int) : Nat) : Int)))) rfl (fun H locs hP hS => ?_)
                refine lv_aload_n (pc := 132) hx hb dX4_tryFrom_132 rfl (lv_at hl 10 rfl) ?_
                refine lv_iload (pc := 133) hx hb dX4_tryFrom_133 (lv_at hl 2 rfl) ?_
                refine lv_iload (pc := 135) hx hb dX4_tryFrom_135 (lv_at hl 0 rfl) ?_
                refine cv_Vd (pc := 137) hF hN hK hP hV hS hA (k_X8_setHigh l D cI cC cB cS s0 s1 s2 s3 (sSet (strS P S mm x) ((x : Nat) : Int) (clH ((sAt S ((x : Nat) : Int) : Nat) : Int))) (jI (wayZ P x 3)) (wayZ P x 3) (jI_to (by omega)) (nI (sAt S (wayZ P x 3))) ((sAt S (wayZ P x 3) : Nat) : Int) (tI_nI (by omega)) (by omega)) (cwV 2 hts gX4_tryFrom_X8_setHigh rfl rfl rfl (by decide +kernel) ⟨Nat.le_trans (Nat.le_of_ble_eq_true rfl) (Nat.le_add_right 10 _), Nat.le_trans (Nat.le_of_ble_eq_true rfl) (Nat.le_add_right 200 _)⟩) [7, 8, 9, 10] rfl (by decide) 0 8 rfl rfl rfl hl.1 rfl (Nat.le_of_ble_eq_true rfl) dX4_tryFrom_137 ⟨Nat.le_refl _, Nat.le_refl _⟩ rfl (ws2 := roW r0 r1 r2 cI (tryS P mm d (gg + 1) (va_up R1.1 gg x, R1.2.1, R1.2.2) (strS P S mm x)) ++ plW p0 p1 p2 p3 cI P ++ stW s0 s1 s2 s3 cI (sSet (sSet (strS P S mm x) ((x : Nat) : Int) (clH ((sAt S ((x : Nat) : Int) : Nat) : Int))) (wayZ P x 3) (clH ((sAt S (wayZ P x 3) : Nat) : Int)))) rfl (fun H locs hP hS => ?_)
                refine lv_aload_n (pc := 140) hx hb dX4_tryFrom_140 rfl (lv_at hl 10 rfl) ?_
                refine lv_iload_n (pc := 141) hx hb dX4_tryFrom_141 rfl (lv_at hl 9 rfl) ?_
                refine lv_iload (pc := 142) hx hb dX4_tryFrom_142 (lv_at hl 6 rfl) ?_
                refine cv_Vd (pc := 144) hF hN hK hP hV hS hA (k_X8_setPlace l D cI cC cB cS s0 s1 s2 s3 (sSet (sSet (strS P S mm x) ((x : Nat) : Int) (clH ((sAt S ((x : Nat) : Int) : Nat) : Int))) (wayZ P x 3) (clH ((sAt S (wayZ P x 3) : Nat) : Int))) mm (S.2.2.1 mm) hmm) (cwV 2 hts gX4_tryFrom_X8_setPlace rfl rfl rfl (by decide +kernel) ⟨Nat.le_trans (Nat.le_of_ble_eq_true rfl) (Nat.le_add_right 10 _), Nat.le_trans (Nat.le_of_ble_eq_true rfl) (Nat.le_add_right 200 _)⟩) [7, 8, 9, 10] rfl (by decide) 0 8 rfl rfl rfl hl.1 rfl (Nat.le_of_ble_eq_true rfl) dX4_tryFrom_144 ⟨Nat.le_refl _, Nat.le_refl _⟩ rfl (ws2 := roW r0 r1 r2 cI (tryS P mm d (gg + 1) (va_up R1.1 gg x, R1.2.1, R1.2.2) (strS P S mm x)) ++ plW p0 p1 p2 p3 cI P ++ stW s0 s1 s2 s3 cI ((sSet (sSet (strS P S mm x) ((x : Nat) : Int) (clH ((sAt S ((x : Nat) : Int) : Nat) : Int))) (wayZ P x 3) (clH ((sAt S (wayZ P x 3) : Nat) : Int))).1, (sSet (sSet (strS P S mm x) ((x : Nat) : Int) (clH ((sAt S ((x : Nat) : Int) : Nat) : Int))) (wayZ P x 3) (clH ((sAt S (wayZ P x 3) : Nat) : Int))).2.1, va_up (sSet (sSet (strS P S mm x) ((x : Nat) : Int) (clH ((sAt S ((x : Nat) : Int) : Nat) : Int))) (wayZ P x 3) (clH ((sAt S (wayZ P x 3) : Nat) : Int))).2.2.1 mm (S.2.2.1 mm), (sSet (sSet (strS P S mm x) ((x : Nat) : Int) (clH ((sAt S ((x : Nat) : Int) : Nat) : Int))) (wayZ P x 3) (clH ((sAt S (wayZ P x 3) : Nat) : Int))).2.2.2)) rfl (fun H locs hP hS => ?_)
                refine lv_aload_n (pc := 147) hx hb dX4_tryFrom_147 rfl (lv_at hl 10 rfl) ?_
                refine lv_iload_n (pc := 148) hx hb dX4_tryFrom_148 rfl (lv_at hl 9 rfl) ?_
                refine lv_iload (pc := 149) hx hb dX4_tryFrom_149 (lv_at hl 5 rfl) ?_
                refine cv_Vd (pc := 151) hF hN hK hP hV hS hA (k_X8_setLeft l D cI cC cB cS s0 s1 s2 s3 ((sSet (sSet (strS P S mm x) ((x : Nat) : Int) (clH ((sAt S ((x : Nat) : Int) : Nat) : Int))) (wayZ P x 3) (clH ((sAt S (wayZ P x 3) : Nat) : Int))).1, (sSet (sSet (strS P S mm x) ((x : Nat) : Int) (clH ((sAt S ((x : Nat) : Int) : Nat) : Int))) (wayZ P x 3) (clH ((sAt S (wayZ P x 3) : Nat) : Int))).2.1, va_up (sSet (sSet (strS P S mm x) ((x : Nat) : Int) (clH ((sAt S ((x : Nat) : Int) : Nat) : Int))) (wayZ P x 3) (clH ((sAt S (wayZ P x 3) : Nat) : Int))).2.2.1 mm (S.2.2.1 mm), (sSet (sSet (strS P S mm x) ((x : Nat) : Int) (clH ((sAt S ((x : Nat) : Int) : Nat) : Int))) (wayZ P x 3) (clH ((sAt S (wayZ P x 3) : Nat) : Int))).2.2.2) mm (S.2.1 mm) hmm) (cwV 2 hts gX4_tryFrom_X8_setLeft rfl rfl rfl (by decide +kernel) ⟨Nat.le_trans (Nat.le_of_ble_eq_true rfl) (Nat.le_add_right 10 _), Nat.le_trans (Nat.le_of_ble_eq_true rfl) (Nat.le_add_right 200 _)⟩) [7, 8, 9, 10] rfl (by decide) 0 8 rfl rfl rfl hl.1 rfl (Nat.le_of_ble_eq_true rfl) dX4_tryFrom_151 ⟨Nat.le_refl _, Nat.le_refl _⟩ rfl (ws2 := roW r0 r1 r2 cI (tryS P mm d (gg + 1) (va_up R1.1 gg x, R1.2.1, R1.2.2) (strS P S mm x)) ++ plW p0 p1 p2 p3 cI P ++ stW s0 s1 s2 s3 cI (((sSet (sSet (strS P S mm x) ((x : Nat) : Int) (clH ((sAt S ((x : Nat) : Int) : Nat) : Int))) (wayZ P x 3) (clH ((sAt S (wayZ P x 3) : Nat) : Int))).1), va_up ((sSet (sSet (strS P S mm x) ((x : Nat) : Int) (clH ((sAt S ((x : Nat) : Int) : Nat) : Int))) (wayZ P x 3) (clH ((sAt S (wayZ P x 3) : Nat) : Int))).2.1) mm (S.2.1 mm), (va_up (sSet (sSet (strS P S mm x) ((x : Nat) : Int) (clH ((sAt S ((x : Nat) : Int) : Nat) : Int))) (wayZ P x 3) (clH ((sAt S (wayZ P x 3) : Nat) : Int))).2.2.1 mm (S.2.2.1 mm), (sSet (sSet (strS P S mm x) ((x : Nat) : Int) (clH ((sAt S ((x : Nat) : Int) : Nat) : Int))) (wayZ P x 3) (clH ((sAt S (wayZ P x 3) : Nat) : Int))).2.2.2))) rfl (fun H locs hP hS => ?_)
                have e9 : (((sSet (sSet (strS P S mm x) ((x : Nat) : Int) (clH ((sAt S ((x : Nat) : Int) : Nat) : Int))) (wayZ P x 3) (clH ((sAt S (wayZ P x 3) : Nat) : Int))).1), va_up ((sSet (sSet (strS P S mm x) ((x : Nat) : Int) (clH ((sAt S ((x : Nat) : Int) : Nat) : Int))) (wayZ P x 3) (clH ((sAt S (wayZ P x 3) : Nat) : Int))).2.1) mm (S.2.1 mm), (va_up (sSet (sSet (strS P S mm x) ((x : Nat) : Int) (clH ((sAt S ((x : Nat) : Int) : Nat) : Int))) (wayZ P x 3) (clH ((sAt S (wayZ P x 3) : Nat) : Int))).2.2.1 mm (S.2.2.1 mm), (sSet (sSet (strS P S mm x) ((x : Nat) : Int) (clH ((sAt S ((x : Nat) : Int) : Nat) : Int))) (wayZ P x 3) (clH ((sAt S (wayZ P x 3) : Nat) : Int))).2.2.2)) = S := by
                  have u9 := unstroke (P := P) (S := S) (mm := mm) hi hp hxc
                  simp only [sSet_2, strS_le, strS_pl, strS_rest]
                  exact u9
                rw [e9] at hP
                refine lv_iinc (pc := 154) (v := nI (i + 1)) (lv' := [(8, .int (nI (i + 1))), (12, .int (nI (sAt S (wayZ P x 3)))), (11, .int (nI (sAt S ((x : Nat) : Int)))), (10, .int (jI (wayZ P x 3))), (9, .int (nI x)), (7, .int (nI (S.2.1 mm))), (6, .int (nI (S.2.2.1 mm))), (5, .int (nI n)), (4, .int (nI gg)), (3, .int (nI mm)), (2, .ref s0), (1, .ref p0), (0, .ref r0)]) hx hb dX4_tryFrom_154 hl (k := 4) rfl (by rw [← nI_add]; rfl) (by decide) rfl (fun ls hl => ?_)
                refine lv_goto (pc := 157) (tgt := 48) hx hb dX4_tryFrom_157 (by decide) ?_
                exact ih48 (i + 1) (tryS P mm d (gg + 1) (va_up R1.1 gg x, R1.2) (strS P S mm x)) _ _ _ (by omega) (tryW_yes hR1 hx9) (by omega) hP hS (lv_sub hl [0, 5, 6, 7, 8, 9, 10, 11, 12] rfl)
        exact cut48 _ 0 R _ _ _ (by omega) rfl (Nat.lt_succ_self _) hP hS (lv_sub hl [0, 1, 2, 8, 7, 6, 5, 4, 3] rfl)
      · omega
