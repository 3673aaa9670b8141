abbrev rmX10_isSo : Room := { frames := 4, cells := 0, slots := 0, locals := 91 }
set_option maxHeartbeats 4000000 in
set_option maxRecDepth 100000 in
theorem k_X10_isSo (l : Launch) (D : va_G) (cI cC cB cS : ClassId) (o : Nat) (ad : Nat → Nat) (P : PL) (I : RI) (sl : Nat → Nat) (so : Nat → Nat) (cl : Nat → Nat) (de : Nat → Nat) (si : Nat → Nat) (ms : Nat → Nat) (to : Nat → Nat) (sc : Nat → Nat) (sh : Nat → Nat) (st : Nat) (n : Nat) (wa : Nat → Nat) (ir : Nat → Nat) (hpk : plOK P) (hc : rC P so cl de si) (hm : rM P wa ir ms) (hto : ∀ k, k < 24 → to k = P.1 k) (hsb : sB sl) (hde : ∀ j, de j < 100) (hso : ∀ j, so j < 100) (hsi : ∀ j, si j < 100) (hms : ∀ j, ms j < 100) (htb : ∀ j, to j < 100) (hsc : ∀ j, sc j < 24 ∧ sh j < 100) (hsn : I.2.2.2.2.2.2.2.2.2.2.1 ≤ 8) (hst6 : st < 64) (hn9 : n ≤ 20) : CI l D (kT cI cC cB cS) yX10_isSo wsX10_isSo rmX10_isSo [.ref o, .int (nI st), .int (nI n)] ([rmE o ad (pCells P) P.2.2.2.1 P.2.2.2.2.2.1 P.2.2.2.2.2.2 I, nE 384 (ad 25) cI sl, nE 6 (ad 4) cI so, nE 6 (ad 5) cI cl, nE 6 (ad 6) cI de, nE 6 (ad 7) cI si, nE 3 (ad 11) cI ms, nE 24 (ad 2) cI to, nE 8 (ad 34) cI sc, nE 8 (ad 35) cI sh]) (fun r u => r = nI (if seenB P (sc, sh, I.2.2.2.2.2.2.2.2.2.2.1) st n then 1 else 0) ∧ ∃ f : Nat → Nat, u = [rmE o ad (pCells P) P.2.2.2.1 P.2.2.2.2.2.1 P.2.2.2.2.2.2 I, nE 384 (ad 25) cI f, nE 6 (ad 4) cI so, nE 6 (ad 5) cI cl, nE 6 (ad 6) cI de, nE 6 (ad 7) cI si, nE 3 (ad 11) cI ms, nE 24 (ad 2) cI to, nE 8 (ad 34) cI sc, nE 8 (ad 35) cI sh] ∧ tEnd sl f) := by
  refine ci_intro (by decide) rfl (Nat.le_of_ble_eq_true rfl) ?_
  intro p e s m args below meth c ls A QF hF hK hP hV hS hA hN hl hret
  obtain ⟨hx, hb, hml, hown, hts⟩ := id hF
  have hP : va_P D vwCl ([rmE o ad (pCells P) P.2.2.2.1 P.2.2.2.2.2.1 P.2.2.2.2.2.2 I, nE 384 (ad 25) cI sl, nE 6 (ad 4) cI so, nE 6 (ad 5) cI cl, nE 6 (ad 6) cI de, nE 6 (ad 7) cI si, nE 3 (ad 11) cI ms, nE 24 (ad 2) cI to, nE 8 (ad 34) cI sc, nE 8 (ad 35) cI sh]) s.heap := hP
  have hl : lv_has ls 5 [(0, .ref o), (1, .int (nI st)), (2, .int (nI n))] := hl
  have wf61 := hts (.fieldLink RX10 61 "RemorseWallModel" "slot" "[I") (by decide +kernel)
  have wf68 := hts (.fieldLink RX10 68 "RemorseWallModel" "sawCell" "[I") (by decide +kernel)
  have wf71 := hts (.fieldLink RX10 71 "RemorseWallModel" "sawHigh" "[I") (by decide +kernel)
  have wf200 := hts (.fieldLink RX10 200 "RemorseWallModel" "seens" "I") (by decide +kernel)
  have hiX10 : ∀ w ∈ u_ws RX10 TX10 44, w ∈ wsX10_isSo := by decide +kernel
  have hw := hpk.1
  obtain ⟨hp, hc1, hce, hme⟩ := id hw
  obtain ⟨hp1, hp2, hp3, hp4, hp5, hp6, hp7⟩ := id hp
  have hcl := pCells_le hp
  have hslb := sB_h hsb
  have hclx : ∀ j, j < P.2.2.2.2.2.1 → cl j < pCells P := (fun j hj => by rw [(hc j hj).2.1]; exact hce j hj)
  have hok0 := sub_ok hpk hst6
  have hbb : ∀ j, rBeg P.2.2.2.2.2.2 to ms 352 sl j < 90000 := fun j => beg_b hsb.1 (fun j => Nat.lt_trans (htb j) (by omega)) (fun j => Nat.lt_trans (hms j) (by omega)) (by omega) j
  have hbo : ∀ j, (j < 352 ∨ 384 ≤ j) → rBeg P.2.2.2.2.2.2 to ms 352 sl j = sl j := fun j hj => beg_out (by omega)
  refine lv_aload_n (pc := 0) hx hb dX10_isSo_0 rfl (lv_at hl 0 rfl) ?_
  refine lv_sipush (pc := 1) (v := nI 352) hx hb dX10_isSo_1 (by decide) ?_
  refine cv_Vd (pc := 4) hF hN hK hP hV hS hA (k_X10_begins l D cI cC cB cS o ad (pCells P) P.2.2.2.1 P.2.2.2.2.2.1 P.2.2.2.2.2.2 I sl to ms 352 (by omega) (by omega)) (cwV 1 hts gX10_isSo_X10_begins rfl rfl rfl (by decide +kernel) ⟨Nat.le_of_ble_eq_true rfl, Nat.le_of_ble_eq_true rfl⟩) [0, 1, 7, 6] rfl (by decide) 0 10 rfl rfl rfl hl.1 rfl (Nat.le_of_ble_eq_true rfl) dX10_isSo_4 ⟨Nat.le_refl _, Nat.le_refl _⟩ rfl (ws2 := [rmE o ad (pCells P) P.2.2.2.1 P.2.2.2.2.2.1 P.2.2.2.2.2.2 I, nE 384 (ad 25) cI (rBeg P.2.2.2.2.2.2 to ms 352 sl), nE 6 (ad 4) cI so, nE 6 (ad 5) cI cl, nE 6 (ad 6) cI de, nE 6 (ad 7) cI si, nE 3 (ad 11) cI ms, nE 24 (ad 2) cI to, nE 8 (ad 34) cI sc, nE 8 (ad 35) cI sh]) rfl (fun H locs hP hS => ?_)
  refine lv_iconst (pc := 7) (v := nI 0) hx hb dX10_isSo_7 (by decide) ?_
  refine lv_istore_n (pc := 8) (lv' := [(3, .int (nI 0)), (0, .ref o), (1, .int (nI st)), (2, .int (nI n))]) hx hb dX10_isSo_8 rfl hl (by decide) rfl (fun ls hl => ?_)
  have cut9 : ∀ (fuel : Nat) (k : Nat) (f : Nat → Nat) (H : Heap) (locs : List Loc) (ls : Array Slot) (hk : k ≤ n) (hT : soRel (rBeg P.2.2.2.2.2.2 to ms 352 sl) f (yearsS P (subS P st P.2.2.2.2.2.1) k)) (hfu : n - k < fuel), va_P D vwCl ([rmE o ad (pCells P) P.2.2.2.1 P.2.2.2.2.2.1 P.2.2.2.2.2.2 I, nE 384 (ad 25) cI f, nE 6 (ad 4) cI so, nE 6 (ad 5) cI cl, nE 6 (ad 6) cI de, nE 6 (ad 7) cI si, nE 3 (ad 11) cI ms, nE 24 (ad 2) cI to, nE 8 (ad 34) cI sc, nE 8 (ad 35) cI sh]) H → va_S A s.heap H locs → lv_has ls 5 [(3, .int (nI k)), (2, .int (nI n)), (1, .int (nI st)), (0, .ref o)] → W p l e rmX10_isSo s m args below meth c H locs 0 0 QF (F0 m 9 ls []) := by
    intro fuel
    induction fuel with
    | zero => intro k f H locs ls hk hT hfu; omega
    | succ fuel ih9 =>
      intro k f H locs ls hk hT hfu hP hS hl
      have hok := yearsS_ok hpk hok0 (show 0 ≤ 2000 by omega) k (by omega)
      have hyy : (yearsS P (subS P st P.2.2.2.2.2.1) k).2.2.2.2 = 0 + k := yearsS_yr P _ k
      have hfb := so_b hT hok (by omega) hbb
      refine lv_iload_n (pc := 9) hx hb dX10_isSo_9 rfl (lv_at hl 0 rfl) ?_
      refine lv_iload_n (pc := 10) hx hb dX10_isSo_10 rfl (lv_at hl 1 rfl) ?_
      refine rc_ge (pc := 11) (tgt := 28) hx hb (tI_nI (by omega)) (tI_nI (by omega)) dX10_isSo_11 (by decide) (fun c11 => ?_) (fun c11 => ?_)
      · refine lv_iconst (pc := 28) (v := nI 1) hx hb dX10_isSo_28 (by decide) ?_
        refine r_top (show nI 1 = nI (if agrN f sc sh 0 then 1 else 0) from by rw [if_pos (fun i hi => absurd hi (Nat.not_lt_zero i))]) ?_
        have hkn : k = n := by omega
        rw [hkn] at hT hok hyy
        refine lv_istore_n (pc := 29) (lv' := [(3, .int (nI (if agrN f sc sh 0 then 1 else 0))), (2, .int (nI n)), (1, .int (nI st)), (0, .ref o)]) hx hb dX10_isSo_29 rfl hl (by decide) rfl (fun ls hl => ?_)
        refine lv_iconst (pc := 30) (v := nI 0) hx hb dX10_isSo_30 (by decide) ?_
        refine lv_istore (pc := 31) (lv' := [(4, .int (nI 0)), (3, .int (nI (if agrN f sc sh 0 then 1 else 0))), (2, .int (nI n)), (1, .int (nI st)), (0, .ref o)]) hx hb dX10_isSo_31 hl (by decide) rfl (fun ls hl => ?_)
        have cut33 : ∀ (fuel : Nat) (j : Nat) (H : Heap) (locs : List Loc) (ls : Array Slot) (hj : j ≤ I.2.2.2.2.2.2.2.2.2.2.1) (hfu : I.2.2.2.2.2.2.2.2.2.2.1 - j < fuel), va_P D vwCl ([rmE o ad (pCells P) P.2.2.2.1 P.2.2.2.2.2.1 P.2.2.2.2.2.2 I, nE 384 (ad 25) cI f, nE 6 (ad 4) cI so, nE 6 (ad 5) cI cl, nE 6 (ad 6) cI de, nE 6 (ad 7) cI si, nE 3 (ad 11) cI ms, nE 24 (ad 2) cI to, nE 8 (ad 34) cI sc, nE 8 (ad 35) cI sh]) H → va_S A s.heap H locs → lv_has ls 5 [(4, .int (nI j)), (3, .int (nI (if agrN f sc sh j then 1 else 0))), (2, .int (nI n)), (1, .int (nI st)), (0, .ref o)] → W p l e rmX10_isSo s m args below meth c H locs 0 0 QF (F0 m 33 ls []) := by
          intro fuel
          induction fuel with
          | zero => intro j H locs ls hj hfu; omega
          | succ fuel ih33 =>
            intro j H locs ls hj hfu hP hS hl
            refine lv_iload (pc := 33) hx hb dX10_isSo_33 (lv_at hl 0 rfl) ?_
            refine lv_aload_n (pc := 35) hx hb dX10_isSo_35 rfl (lv_at hl 4 rfl) ?_
            refine va_get (pc := 36) (D := D) (ci := 10) (v := .int (nI I.2.2.2.2.2.2.2.2.2.2.1)) (C := RX10) (T := TX10) (N := 44) hx hb hts hiX10 hown hK hP 0 rfl rfl 33 (by decide) wf200 (fun _ h9 => h9) rfl dX10_isSo_36 ?_
            refine rc_ge (pc := 39) (tgt := 84) hx hb (tI_nI (by omega)) (tI_nI (by omega)) dX10_isSo_39 (by decide) (fun c39 => ?_) (fun c39 => ?_)
            · refine lv_iload_n (pc := 84) hx hb dX10_isSo_84 rfl (lv_at hl 1 rfl) ?_
              exact hret 85 _ hP hS dX10_isSo_85 (nar_b _) rfl ⟨(by have hjn : j = I.2.2.2.2.2.2.2.2.2.2.1 := (by omega); have hr := agrN_rel (j := j) hT.1 (fun i _ => (hsc i).1) (sc := sc) (sh := sh); rw [hjn] at hr ⊢; exact congrArg nI (ite_iff hr)), f, rfl, so_end hT hok (by omega) hbb hbo⟩
            · refine lv_iload_n (pc := 42) hx hb dX10_isSo_42 rfl (lv_at hl 1 rfl) ?_
              refine rb_eq (pc := 43) (tgt := 76) hx hb dX10_isSo_43 (by decide) (fun c43 => ?_) (fun c43 => ?_)
              · refine lv_iconst (pc := 76) (v := nI 0) hx hb dX10_isSo_76 (by decide) ?_
                refine r_top (show nI 0 = nI (if agrN f sc sh (j + 1) then 1 else 0) from by rw [if_neg (agrN_n1 c43)]) ?_
                refine lv_istore_n (pc := 77) (lv' := [(3, .int (nI (if agrN f sc sh (j + 1) then 1 else 0))), (4, .int (nI j)), (2, .int (nI n)), (1, .int (nI st)), (0, .ref o)]) hx hb dX10_isSo_77 rfl hl (by decide) rfl (fun ls hl => ?_)
                refine lv_iinc (pc := 78) (v := nI (j + 1)) (lv' := [(4, .int (nI (j + 1))), (3, .int (nI (if agrN f sc sh (j + 1) then 1 else 0))), (2, .int (nI n)), (1, .int (nI st)), (0, .ref o)]) hx hb dX10_isSo_78 hl (k := 1) rfl (by rw [← nI_add]; rfl) (by decide) rfl (fun ls hl => ?_)
                refine lv_goto (pc := 81) (tgt := 33) hx hb dX10_isSo_81 (by decide) ?_
                exact ih33 (j + 1) _ _ _ (by omega) (by omega) hP hS (lv_sub hl [0, 1, 2, 3, 4] rfl)
              · refine lv_aload_n (pc := 46) hx hb dX10_isSo_46 rfl (lv_at hl 4 rfl) ?_
                refine va_get (pc := 47) (D := D) (ci := 10) (v := .ref (ad 25)) (C := RX10) (T := TX10) (N := 44) hx hb hts hiX10 hown hK hP 0 rfl rfl 25 (by decide) wf61 (fun _ h9 => h9) rfl dX10_isSo_47 ?_
                refine lv_sipush (pc := 50) (v := nI 352) hx hb dX10_isSo_50 (by decide) ?_
                refine lv_aload_n (pc := 53) hx hb dX10_isSo_53 rfl (lv_at hl 4 rfl) ?_
                refine va_get (pc := 54) (D := D) (ci := 10) (v := .ref (ad 34)) (C := RX10) (T := TX10) (N := 44) hx hb hts hiX10 hown hK hP 0 rfl rfl 34 (by decide) wf68 (fun _ h9 => h9) rfl dX10_isSo_54 ?_
                refine lv_iload (pc := 57) hx hb dX10_isSo_57 (lv_at hl 0 rfl) ?_
                refine ra_iald (pc := 59) (k := j) (v := nI (sc j)) hx hb hK hP 8 0 rfl rfl (by omega) (by decide) rfl dX10_isSo_59 ?_
                have hq := hsc j
                refine rn_iadd (pc := 60) hx hb dX10_isSo_60 ?_
                refine ra_iald (pc := 61) (k := 352 + (sc j)) (v := nI (f (352 + (sc j)))) hx hb hK hP 1 0 rfl rfl (by omega) (by decide) rfl dX10_isSo_61 ?_
                have hq := Nat.lt_trans (hfb (352 + (sc j))) (show 90000 < 100000 by omega)
                refine lv_aload_n (pc := 62) hx hb dX10_isSo_62 rfl (lv_at hl 4 rfl) ?_
                refine va_get (pc := 63) (D := D) (ci := 10) (v := .ref (ad 35)) (C := RX10) (T := TX10) (N := 44) hx hb hts hiX10 hown hK hP 0 rfl rfl 35 (by decide) wf71 (fun _ h9 => h9) rfl dX10_isSo_63 ?_
                refine lv_iload (pc := 66) hx hb dX10_isSo_66 (lv_at hl 0 rfl) ?_
                refine ra_iald (pc := 68) (k := j) (v := nI (sh j)) hx hb hK hP 9 0 rfl rfl (by omega) (by decide) rfl dX10_isSo_68 ?_
                have hq := hsc j
                refine rc_ne (pc := 69) (tgt := 76) hx hb (tI_nI (by omega)) (tI_nI (by omega)) dX10_isSo_69 (by decide) (fun c69 => ?_) (fun c69 => ?_)
                · refine lv_iconst (pc := 76) (v := nI 0) hx hb dX10_isSo_76 (by decide) ?_
                  refine r_top (show nI 0 = nI (if agrN f sc sh (j + 1) then 1 else 0) from by rw [if_neg (agrN_n2 (by omega))]) ?_
                  refine lv_istore_n (pc := 77) (lv' := [(3, .int (nI (if agrN f sc sh (j + 1) then 1 else 0))), (4, .int (nI j)), (2, .int (nI n)), (1, .int (nI st)), (0, .ref o)]) hx hb dX10_isSo_77 rfl hl (by decide) rfl (fun ls hl => ?_)
                  refine lv_iinc (pc := 78) (v := nI (j + 1)) (lv' := [(4, .int (nI (j + 1))), (3, .int (nI (if agrN f sc sh (j + 1) then 1 else 0))), (2, .int (nI n)), (1, .int (nI st)), (0, .ref o)]) hx hb dX10_isSo_78 hl (k := 1) rfl (by rw [← nI_add]; rfl) (by decide) rfl (fun ls hl => ?_)
                  refine lv_goto (pc := 81) (tgt := 33) hx hb dX10_isSo_81 (by decide) ?_
                  exact ih33 (j + 1) _ _ _ (by omega) (by omega) hP hS (lv_sub hl [0, 1, 2, 3, 4] rfl)
                · refine lv_iconst (pc := 72) (v := nI 1) hx hb dX10_isSo_72 (by decide) ?_
                  refine lv_goto (pc := 73) (tgt := 77) hx hb dX10_isSo_73 (by decide) ?_
                  refine r_top (show nI 1 = nI (if agrN f sc sh (j + 1) then 1 else 0) from by rw [if_pos (agrN_y c43 (by omega))]) ?_
                  refine lv_istore_n (pc := 77) (lv' := [(3, .int (nI (if agrN f sc sh (j + 1) then 1 else 0))), (4, .int (nI j)), (2, .int (nI n)), (1, .int (nI st)), (0, .ref o)]) hx hb dX10_isSo_77 rfl hl (by decide) rfl (fun ls hl => ?_)
                  refine lv_iinc (pc := 78) (v := nI (j + 1)) (lv' := [(4, .int (nI (j + 1))), (3, .int (nI (if agrN f sc sh (j + 1) then 1 else 0))), (2, .int (nI n)), (1, .int (nI st)), (0, .ref o)]) hx hb dX10_isSo_78 hl (k := 1) rfl (by rw [← nI_add]; rfl) (by decide) rfl (fun ls hl => ?_)
                  refine lv_goto (pc := 81) (tgt := 33) hx hb dX10_isSo_81 (by decide) ?_
                  exact ih33 (j + 1) _ _ _ (by omega) (by omega) hP hS (lv_sub hl [0, 1, 2, 3, 4] rfl)
        exact cut33 _ 0 _ _ _ (Nat.zero_le _) (Nat.lt_succ_self _) hP hS (lv_sub hl [0, 1, 2, 3, 4] rfl)
      · refine lv_aload_n (pc := 14) hx hb dX10_isSo_14 rfl (lv_at hl 3 rfl) ?_
        refine lv_sipush (pc := 15) (v := nI 352) hx hb dX10_isSo_15 (by decide) ?_
        refine lv_iload_n (pc := 18) hx hb dX10_isSo_18 rfl (lv_at hl 2 rfl) ?_
        refine cv_Vd (pc := 19) hF hN hK hP hV hS hA (k_X10_goes l D cI cC cB cS o ad P I f so cl de si ms 352 st hp (fun j => Nat.lt_trans (hfb j) (by omega)) hde hso hsi hms (by omega) (by omega) (by omega)) (cwV 2 hts gX10_isSo_X10_goes rfl rfl rfl (by decide +kernel) ⟨Nat.le_of_ble_eq_true rfl, Nat.le_of_ble_eq_true rfl⟩) [0, 1, 2, 3, 4, 5, 6] rfl (by decide) 0 10 rfl rfl rfl hl.1 rfl (Nat.le_of_ble_eq_true rfl) dX10_isSo_19 ⟨Nat.le_refl _, Nat.le_refl _⟩ rfl (ws2 := [rmE o ad (pCells P) P.2.2.2.1 P.2.2.2.2.2.1 P.2.2.2.2.2.2 I, nE 384 (ad 25) cI (rGo P so cl de si ms 352 st f), nE 6 (ad 4) cI so, nE 6 (ad 5) cI cl, nE 6 (ad 6) cI de, nE 6 (ad 7) cI si, nE 3 (ad 11) cI ms, nE 24 (ad 2) cI to, nE 8 (ad 34) cI sc, nE 8 (ad 35) cI sh]) rfl (fun H locs hP hS => ?_)
        refine lv_iinc (pc := 22) (v := nI (k + 1)) (lv' := [(3, .int (nI (k + 1))), (2, .int (nI n)), (1, .int (nI st)), (0, .ref o)]) hx hb dX10_isSo_22 hl (k := 0) rfl (by rw [← nI_add]; rfl) (by decide) rfl (fun ls hl => ?_)
        refine lv_goto (pc := 25) (tgt := 9) hx hb dX10_isSo_25 (by decide) ?_
        exact ih9 (k + 1) (rGo P so cl de si ms 352 st f) _ _ _ (by omega) (so_year hw hc hm hT hok.1 (fun k9 hk9 => by unfold sPard; rw [yearsS_pa]; exact notIn_bits _ (by omega) k9 hk9 st hst6)) (by omega) hP hS (lv_sub hl [0, 1, 2, 3] rfl)
  exact cut9 _ 0 (rBeg P.2.2.2.2.2.2 to ms 352 sl) _ _ _ (Nat.zero_le _) (so_init hm hto) (Nat.lt_succ_self _) hP hS (lv_sub hl [0, 3, 2, 1] rfl)
