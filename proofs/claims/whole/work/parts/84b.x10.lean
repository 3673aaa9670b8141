abbrev rmX10_stands : Room := { frames := 3, cells := 0, slots := 0, locals := 68 }
set_option maxHeartbeats 4000000 in
set_option maxRecDepth 100000 in
theorem k_X10_stands (l : Launch) (D : va_G) (cI cC cB cS : ClassId) (o : Nat) (ad : Nat → Nat) (P : PL) (I : RI) (sl : Nat → Nat) (wa : Nat → Nat) (ir : Nat → Nat) (rw : Nat → Int) (mm : Nat) (n : Nat) (S : ST) (ms : Nat → Nat) (hpk : plOK P) (hst : stOK P S) (hm : rM P wa ir ms) (hf0 : rF P sl 0 S) (hsb : sB sl) (hir : ∀ j, ir j < 100) (hwa : ∀ j, wa j < 100) (hx2 : stX P S) (hmm : mm < P.2.2.2.2.2.2) (hn5 : n ≤ 5) (hv : ∀ k, k < n → (0 ≤ rw k ∧ rw k < pCells P) ∧ canS P (stS P S mm rw k) mm (rw k).toNat) : CI l D (kT cI cC cB cS) yX10_stands wsX10_stands rmX10_stands [.ref o, .int (nI mm), .int (nI n)] ([rmE o ad (pCells P) P.2.2.2.1 P.2.2.2.2.2.1 P.2.2.2.2.2.2 I, nE 384 (ad 25) cI sl, nE 3 (ad 9) cI wa, nE 3 (ad 10) cI ir, zE 5 (ad 40) cI rw]) (fun r u => r = nI (nSum (stS P S mm rw n).1 24) ∧ ∃ f : Nat → Nat, u = [rmE o ad (pCells P) P.2.2.2.1 P.2.2.2.2.2.1 P.2.2.2.2.2.2 I, nE 384 (ad 25) cI f, nE 3 (ad 9) cI wa, nE 3 (ad 10) cI ir, zE 5 (ad 40) cI rw] ∧ tEnd sl f) := by
  refine ci_intro (by decide) rfl (Nat.le_of_ble_eq_true rfl) ?_
  intro p e s m args below meth c ls A QF hF hK hP hV hS hA hN hl hret
  obtain ⟨hx, hb, hml, hown, hts⟩ := id hF
  have hP : va_P D vwCl ([rmE o ad (pCells P) P.2.2.2.1 P.2.2.2.2.2.1 P.2.2.2.2.2.2 I, nE 384 (ad 25) cI sl, nE 3 (ad 9) cI wa, nE 3 (ad 10) cI ir, zE 5 (ad 40) cI rw]) s.heap := hP
  have hl : lv_has ls 4 [(0, .ref o), (1, .int (nI mm)), (2, .int (nI n))] := hl
  have wf83 := hts (.fieldLink RX10 83 "RemorseWallModel" "row" "[I") (by decide +kernel)
  have hiX10 : ∀ w ∈ u_ws RX10 TX10 44, w ∈ wsX10_stands := by decide +kernel
  have hw := hpk.1
  obtain ⟨hp, hc1, hce, hme⟩ := id hw
  obtain ⟨hp1, hp2, hp3, hp4, hp5, hp6, hp7⟩ := id hp
  have hcl := pCells_le hp
  have hs : sHi S := hst.1
  have hslb := sB_h hsb
  have hv1 : ∀ k, k < n → 0 ≤ rw k ∧ rw k < pCells P := fun k hk => (hv k hk).1
  refine lv_aload_n (pc := 0) hx hb dX10_stands_0 rfl (lv_at hl 0 rfl) ?_
  refine lv_iconst (pc := 1) (v := nI 0) hx hb dX10_stands_1 (by decide) ?_
  refine lv_sipush (pc := 2) (v := nI 352) hx hb dX10_stands_2 (by decide) ?_
  refine cv_Vd (pc := 5) hF hN hK hP hV hS hA (k_X10_copies l D cI cC cB cS o ad P I sl 0 352 (by omega) (by omega) (by omega)) (cwV 2 hts gX10_stands_X10_copies rfl rfl rfl (by decide +kernel) ⟨Nat.le_of_ble_eq_true rfl, Nat.le_of_ble_eq_true rfl⟩) [0, 1] rfl (by decide) 0 10 rfl rfl rfl hl.1 rfl (Nat.le_of_ble_eq_true rfl) dX10_stands_5 ⟨Nat.le_refl _, Nat.le_refl _⟩ rfl (ws2 := [rmE o ad (pCells P) P.2.2.2.1 P.2.2.2.2.2.1 P.2.2.2.2.2.2 I, nE 384 (ad 25) cI (cpN sl 0 352 32), nE 3 (ad 9) cI wa, nE 3 (ad 10) cI ir, zE 5 (ad 40) cI rw]) rfl (fun H locs hP hS => ?_)
  refine lv_iconst (pc := 8) (v := nI 0) hx hb dX10_stands_8 (by decide) ?_
  refine lv_istore_n (pc := 9) (lv' := [(3, .int (nI 0)), (0, .ref o), (1, .int (nI mm)), (2, .int (nI n))]) hx hb dX10_stands_9 rfl hl (by decide) rfl (fun ls hl => ?_)
  have cut10 : ∀ (fuel : Nat) (k : Nat) (f : Nat → Nat) (H : Heap) (locs : List Loc) (ls : Array Slot) (hk : k ≤ n) (hT : tRel P sl f (stS P S mm rw k) 0) (hfu : n - k < fuel), va_P D vwCl ([rmE o ad (pCells P) P.2.2.2.1 P.2.2.2.2.2.1 P.2.2.2.2.2.2 I, nE 384 (ad 25) cI f, nE 3 (ad 9) cI wa, nE 3 (ad 10) cI ir, zE 5 (ad 40) cI rw]) H → va_S A s.heap H locs → lv_has ls 4 [(3, .int (nI k)), (2, .int (nI n)), (1, .int (nI mm)), (0, .ref o)] → W p l e rmX10_stands s m args below meth c H locs 0 0 QF (F0 m 10 ls []) := by
    intro fuel
    induction fuel with
    | zero => intro k f H locs ls hk hT hfu; omega
    | succ fuel ih10 =>
      intro k f H locs ls hk hT hfu hP hS hl
      have hok := stS_ok (mm := mm) hst hv1 k hk
      have hxx := stS_x (mm := mm) hx2 hv1 k hk
      have hfb := hT.lt (by omega)
      refine lv_iload_n (pc := 10) hx hb dX10_stands_10 rfl (lv_at hl 0 rfl) ?_
      refine lv_iload_n (pc := 11) hx hb dX10_stands_11 rfl (lv_at hl 1 rfl) ?_
      refine rc_ge (pc := 12) (tgt := 55) hx hb (tI_nI (by omega)) (tI_nI (by omega)) dX10_stands_12 (by decide) (fun c12 => ?_) (fun c12 => ?_)
      · have hkn : k = n := by omega
        rw [hkn] at hT hxx
        refine lv_aload_n (pc := 55) hx hb dX10_stands_55 rfl (lv_at hl 3 rfl) ?_
        refine lv_sipush (pc := 56) (v := nI 352) hx hb dX10_stands_56 (by decide) ?_
        refine ci_Vd (pc := 59) (r0 := nI (nSum (fun j => f (352 + j)) (pCells P))) hF hN hK hP hV hS hA (k_X10_sum l D cI cC cB cS o ad P I f 352 hp hfb (by omega)) (cwV 1 hts gX10_stands_X10_sum rfl rfl rfl (by decide +kernel) ⟨Nat.le_of_ble_eq_true rfl, Nat.le_of_ble_eq_true rfl⟩) [0, 1] rfl (by decide) 0 10 rfl rfl rfl hl.1 rfl (Nat.le_of_ble_eq_true rfl) dX10_stands_59 ⟨Nat.le_refl _, Nat.le_refl _⟩ rfl (ws2 := [rmE o ad (pCells P) P.2.2.2.1 P.2.2.2.2.2.1 P.2.2.2.2.2.2 I, nE 384 (ad 25) cI f, nE 3 (ad 9) cI wa, nE 3 (ad 10) cI ir, zE 5 (ad 40) cI rw]) rfl (fun H locs hP hS => ?_)
        have fq2 : nSum (fun j => f (352 + j)) (pCells P) ≤ 2400000 := nSum_24 hfb (pCells_le hp)
        exact hret 62 _ hP hS dX10_stands_62 rfl rfl ⟨(by rw [sum_rel hw hT.1 hxx.1]), f, rfl, hT.fin (by omega)⟩
      · have hvk := hv k (by omega)
        have hcan := can_rel (x := (rw k).toNat) hmm (show mm < 3 by omega) hT.1.1 hT.1.2.1
        have hp27 : f (352 + 27 + mm) = _ := hT.1.2.1 mm hmm
        have hpk9 := hok.2.2.1 mm
        refine lv_aload_n (pc := 15) hx hb dX10_stands_15 rfl (lv_at hl 3 rfl) ?_
        refine lv_sipush (pc := 16) (v := nI 352) hx hb dX10_stands_16 (by decide) ?_
        refine lv_iload_n (pc := 19) hx hb dX10_stands_19 rfl (lv_at hl 2 rfl) ?_
        refine lv_aload_n (pc := 20) hx hb dX10_stands_20 rfl (lv_at hl 3 rfl) ?_
        refine va_get (pc := 21) (D := D) (ci := 10) (v := .ref (ad 40)) (C := RX10) (T := TX10) (N := 44) hx hb hts hiX10 hown hK hP 0 rfl rfl 40 (by decide) wf83 (fun _ h9 => h9) rfl dX10_stands_21 ?_
        refine lv_iload_n (pc := 24) hx hb dX10_stands_24 rfl (lv_at hl 0 rfl) ?_
        refine ra_iald (pc := 25) (k := k) (v := jI (rw k)) hx hb hK hP 4 0 rfl rfl (by omega) (by decide) rfl dX10_stands_25 ?_
        refine r_top (show _ = nI (rw k).toNat from (by rw [jI_nat, Int.toNat_of_nonneg hvk.1.1])) ?_
        refine ci_Vd (pc := 26) (r0 := nI (if rCan P f 352 mm ((rw k).toNat) then 1 else 0)) hF hN hK hP hV hS hA (k_X10_canStrike l D cI cC cB cS o ad P I f 352 mm ((rw k).toNat) hp hfb (by omega) (by omega) (by omega) (by omega)) (cwV 3 hts gX10_stands_X10_canStrike rfl rfl rfl (by decide +kernel) ⟨Nat.le_of_ble_eq_true rfl, Nat.le_of_ble_eq_true rfl⟩) [0, 1] rfl (by decide) 0 10 rfl rfl rfl hl.1 rfl (Nat.le_of_ble_eq_true rfl) dX10_stands_26 ⟨Nat.le_refl _, Nat.le_refl _⟩ rfl (ws2 := [rmE o ad (pCells P) P.2.2.2.1 P.2.2.2.2.2.1 P.2.2.2.2.2.2 I, nE 384 (ad 25) cI f, nE 3 (ad 9) cI wa, nE 3 (ad 10) cI ir, zE 5 (ad 40) cI rw]) rfl (fun H locs hP hS => ?_)
        refine rb_ne (pc := 29) (tgt := 35) hx hb dX10_stands_29 (by decide) (fun c29 => ?_) (fun c29 => ?_)
        · refine lv_aload_n (pc := 35) hx hb dX10_stands_35 rfl (lv_at hl 3 rfl) ?_
          refine lv_sipush (pc := 36) (v := nI 352) hx hb dX10_stands_36 (by decide) ?_
          refine lv_iload_n (pc := 39) hx hb dX10_stands_39 rfl (lv_at hl 2 rfl) ?_
          refine lv_aload_n (pc := 40) hx hb dX10_stands_40 rfl (lv_at hl 3 rfl) ?_
          refine va_get (pc := 41) (D := D) (ci := 10) (v := .ref (ad 40)) (C := RX10) (T := TX10) (N := 44) hx hb hts hiX10 hown hK hP 0 rfl rfl 40 (by decide) wf83 (fun _ h9 => h9) rfl dX10_stands_41 ?_
          refine lv_iload_n (pc := 44) hx hb dX10_stands_44 rfl (lv_at hl 0 rfl) ?_
          refine ra_iald (pc := 45) (k := k) (v := jI (rw k)) hx hb hK hP 4 0 rfl rfl (by omega) (by decide) rfl dX10_stands_45 ?_
          refine r_top (show _ = nI (rw k).toNat from (by rw [jI_nat, Int.toNat_of_nonneg hvk.1.1])) ?_
          refine cv_Vd (pc := 46) hF hN hK hP hV hS hA (k_X10_strikes l D cI cC cB cS o ad P I f wa ir 352 mm ((rw k).toNat) hp hfb hir hwa (by omega) (by omega) (by omega) c29.1) (cwV 3 hts gX10_stands_X10_strikes rfl rfl rfl (by decide +kernel) ⟨Nat.le_of_ble_eq_true rfl, Nat.le_of_ble_eq_true rfl⟩) [0, 1, 2, 3] rfl (by decide) 0 10 rfl rfl rfl hl.1 rfl (Nat.le_of_ble_eq_true rfl) dX10_stands_46 ⟨Nat.le_refl _, Nat.le_refl _⟩ rfl (ws2 := [rmE o ad (pCells P) P.2.2.2.1 P.2.2.2.2.2.1 P.2.2.2.2.2.2 I, nE 384 (ad 25) cI (rStr P wa ir 352 mm ((rw k).toNat) f), nE 3 (ad 9) cI wa, nE 3 (ad 10) cI ir, zE 5 (ad 40) cI rw]) rfl (fun H locs hP hS => ?_)
          refine lv_iinc (pc := 49) (v := nI (k + 1)) (lv' := [(3, .int (nI (k + 1))), (2, .int (nI n)), (1, .int (nI mm)), (0, .ref o)]) hx hb dX10_stands_49 hl (k := 0) rfl (by rw [← nI_add]; rfl) (by decide) rfl (fun ls hl => ?_)
          refine lv_goto (pc := 52) (tgt := 10) hx hb dX10_stands_52 (by decide) ?_
          exact ih10 (k + 1) (rStr P wa ir 352 mm ((rw k).toNat) f) _ _ _ (by omega) (try_str hw hm hmm (by omega) hT hok.1) (by omega) hP hS (lv_sub hl [0, 1, 2, 3] rfl)
        · exact absurd (hcan.mpr hvk.2) c29
  exact cut10 _ 0 (cpN sl 0 352 32) _ _ _ (Nat.zero_le _) (try_init hw hsb hf0) (Nat.lt_succ_self _) hP hS (lv_sub hl [0, 3, 2, 1] rfl)
