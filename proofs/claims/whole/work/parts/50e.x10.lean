abbrev rmX10_standsPardoned : Room := { frames := 4, cells := 0, slots := 0, locals := 91 }
set_option maxHeartbeats 4000000 in
set_option maxRecDepth 100000 in
theorem k_X10_standsPardoned (l : Launch) (D : va_G) (cI cC cB cS : ClassId) (o : Nat) (ad : Nat → Nat) (P : PL) (I : RI) (sl : Nat → Nat) (so : Nat → Nat) (cl : Nat → Nat) (de : Nat → Nat) (si : Nat → Nat) (ms : Nat → Nat) (c9 : Nat) (n : Nat) (S : ST) (wa : Nat → Nat) (ir : Nat → Nat) (hpk : plOK P) (hst : stOK P S) (hc : rC P so cl de si) (hm : rM P wa ir ms) (hf0 : rF P sl 0 S) (hsb : sB sl) (hde : ∀ j, de j < 100) (hso : ∀ j, so j < 100) (hsi : ∀ j, si j < 100) (hms : ∀ j, ms j < 100) (hy : S.2.2.2.2 ≤ 999) (hx2 : stX P S) (hc9 : c9 < P.2.2.2.2.2.1) (hn9 : n ≤ 20) : CI l D (kT cI cC cB cS) yX10_standsPardoned wsX10_standsPardoned rmX10_standsPardoned [.ref o, .int (nI c9), .int (nI n)] ([rmE o ad (pCells P) P.2.2.2.1 P.2.2.2.2.2.1 P.2.2.2.2.2.2 I, nE 384 (ad 25) cI sl, nE 6 (ad 4) cI so, nE 6 (ad 5) cI cl, nE 6 (ad 6) cI de, nE 6 (ad 7) cI si, nE 3 (ad 11) cI ms]) (fun r u => r = nI (pardN P S n c9) ∧ ∃ f : Nat → Nat, u = [rmE o ad (pCells P) P.2.2.2.1 P.2.2.2.2.2.1 P.2.2.2.2.2.2 I, nE 384 (ad 25) cI f, nE 6 (ad 4) cI so, nE 6 (ad 5) cI cl, nE 6 (ad 6) cI de, nE 6 (ad 7) cI si, nE 3 (ad 11) cI ms] ∧ tEnd sl f) := by
  refine ci_intro (by decide) rfl (Nat.le_of_ble_eq_true rfl) ?_
  intro p e s m args below meth c ls A QF hF hK hP hV hS hA hN hl hret
  obtain ⟨hx, hb, hml, hown, hts⟩ := id hF
  have hP : va_P D vwCl ([rmE o ad (pCells P) P.2.2.2.1 P.2.2.2.2.2.1 P.2.2.2.2.2.2 I, nE 384 (ad 25) cI sl, nE 6 (ad 4) cI so, nE 6 (ad 5) cI cl, nE 6 (ad 6) cI de, nE 6 (ad 7) cI si, nE 3 (ad 11) cI ms]) s.heap := hP
  have hl : lv_has ls 4 [(0, .ref o), (1, .int (nI c9)), (2, .int (nI n))] := hl
  have wf61 := hts (.fieldLink RX10 61 "RemorseWallModel" "slot" "[I") (by decide +kernel)
  have hiX10 : ∀ w ∈ u_ws RX10 TX10 44, w ∈ wsX10_standsPardoned := by decide +kernel
  have hw := hpk.1
  obtain ⟨hp, hc1, hce, hme⟩ := id hw
  obtain ⟨hp1, hp2, hp3, hp4, hp5, hp6, hp7⟩ := id hp
  have hcl := pCells_le hp
  have hs : sHi S := hst.1
  have hslb := sB_h hsb
  have hclx : ∀ j, j < P.2.2.2.2.2.1 → cl j < pCells P := (fun j hj => by rw [(hc j hj).2.1]; exact hce j hj)
  have hpok := parS_ok (k := c9) hst (by omega)
  have hpy : (parS S c9).2.2.2.2 ≤ 999 := hy
  refine lv_aload_n (pc := 0) hx hb dX10_standsPardoned_0 rfl (lv_at hl 0 rfl) ?_
  refine lv_iconst (pc := 1) (v := nI 0) hx hb dX10_standsPardoned_1 (by decide) ?_
  refine lv_sipush (pc := 2) (v := nI 352) hx hb dX10_standsPardoned_2 (by decide) ?_
  refine cv_Vd (pc := 5) hF hN hK hP hV hS hA (k_X10_copies l D cI cC cB cS o ad P I sl 0 352 (by omega) (by omega) (by omega)) (cwV 2 hts gX10_standsPardoned_X10_copies rfl rfl rfl (by decide +kernel) ⟨Nat.le_of_ble_eq_true rfl, Nat.le_of_ble_eq_true rfl⟩) [0, 1] rfl (by decide) 0 10 rfl rfl rfl hl.1 rfl (Nat.le_of_ble_eq_true rfl) dX10_standsPardoned_5 ⟨Nat.le_refl _, Nat.le_refl _⟩ rfl (ws2 := [rmE o ad (pCells P) P.2.2.2.1 P.2.2.2.2.2.1 P.2.2.2.2.2.2 I, nE 384 (ad 25) cI (cpN sl 0 352 32), nE 6 (ad 4) cI so, nE 6 (ad 5) cI cl, nE 6 (ad 6) cI de, nE 6 (ad 7) cI si, nE 3 (ad 11) cI ms]) rfl (fun H locs hP hS => ?_)
  refine lv_aload_n (pc := 8) hx hb dX10_standsPardoned_8 rfl (lv_at hl 0 rfl) ?_
  refine va_get (pc := 9) (D := D) (ci := 10) (v := .ref (ad 25)) (C := RX10) (T := TX10) (N := 44) hx hb hts hiX10 hown hK hP 0 rfl rfl 25 (by decide) wf61 (fun _ h9 => h9) rfl dX10_standsPardoned_9 ?_
  refine lv_sipush (pc := 12) (v := nI 382) hx hb dX10_standsPardoned_12 (by decide) ?_
  refine lv_dup2_11 (pc := 15) hx hb dX10_standsPardoned_15 rfl rfl ?_
  refine ra_iald (pc := 16) (k := 382) (v := nI ((cpN sl 0 352 32) 382)) hx hb hK hP 1 0 rfl rfl (by omega) (by decide) rfl dX10_standsPardoned_16 ?_
  have hq := cpN_b (a := 0) (t := 352) (n := 32) hslb 382
  refine lv_iconst (pc := 17) (v := nI 1) hx hb dX10_standsPardoned_17 (by decide) ?_
  refine lv_iload_n (pc := 18) hx hb dX10_standsPardoned_18 rfl (lv_at hl 1 rfl) ?_
  refine lv_ishl (pc := 19) hx hb dX10_standsPardoned_19 ?_
  refine r_top (nI_1shl (by omega)) ?_
  refine lv_ior (pc := 20) hx hb dX10_standsPardoned_20 ?_
  refine r_top (nI_or _ _) ?_
  refine rn_iast (pc := 21) (f := cpN sl 0 352 32) (k := 382) (x := ((cpN sl 0 352 32) 382) ||| (2 ^ c9)) (ws2 := [rmE o ad (pCells P) P.2.2.2.1 P.2.2.2.2.2.1 P.2.2.2.2.2.2 I, nE 384 (ad 25) cI (va_up (cpN sl 0 352 32) 382 (((cpN sl 0 352 32) 382) ||| (2 ^ c9))), nE 6 (ad 4) cI so, nE 6 (ad 5) cI cl, nE 6 (ad 6) cI de, nE 6 (ad 7) cI si, nE 3 (ad 11) cI ms]) hx hb hK hP hV hS 1 0 rfl rfl (by omega) (by decide) dX10_standsPardoned_21 rfl rfl (fun H locs hP hS => ?_)
  refine lv_iconst (pc := 22) (v := nI 0) hx hb dX10_standsPardoned_22 (by decide) ?_
  refine lv_istore_n (pc := 23) (lv' := [(3, .int (nI 0)), (0, .ref o), (1, .int (nI c9)), (2, .int (nI n))]) hx hb dX10_standsPardoned_23 rfl hl (by decide) rfl (fun ls hl => ?_)
  have cut24 : ∀ (fuel : Nat) (k : Nat) (f : Nat → Nat) (H : Heap) (locs : List Loc) (ls : Array Slot) (hk : k ≤ n) (hT : tRel P sl f (yearsS P (parS S c9) k) k) (hfu : n - k < fuel), va_P D vwCl ([rmE o ad (pCells P) P.2.2.2.1 P.2.2.2.2.2.1 P.2.2.2.2.2.2 I, nE 384 (ad 25) cI f, nE 6 (ad 4) cI so, nE 6 (ad 5) cI cl, nE 6 (ad 6) cI de, nE 6 (ad 7) cI si, nE 3 (ad 11) cI ms]) H → va_S A s.heap H locs → lv_has ls 4 [(3, .int (nI k)), (2, .int (nI n)), (1, .int (nI c9)), (0, .ref o)] → W p l e rmX10_standsPardoned s m args below meth c H locs 0 0 QF (F0 m 24 ls []) := by
    intro fuel
    induction fuel with
    | zero => intro k f H locs ls hk hT hfu; omega
    | succ fuel ih24 =>
      intro k f H locs ls hk hT hfu hP hS hl
      have hok := yearsS_ok hpk hpok (by omega) k (by omega)
      have hfb := hT.lt (by omega)
      have hpd := opl hT.1.2.2 hok.2.2.2.1
      refine lv_iload_n (pc := 24) hx hb dX10_standsPardoned_24 rfl (lv_at hl 0 rfl) ?_
      refine lv_iload_n (pc := 25) hx hb dX10_standsPardoned_25 rfl (lv_at hl 1 rfl) ?_
      refine rc_ge (pc := 26) (tgt := 49) hx hb (tI_nI (by omega)) (tI_nI (by omega)) dX10_standsPardoned_26 (by decide) (fun c26 => ?_) (fun c26 => ?_)
      · have hkn : k = n := by omega
        rw [hkn] at hT
        refine lv_aload_n (pc := 49) hx hb dX10_standsPardoned_49 rfl (lv_at hl 3 rfl) ?_
        refine lv_sipush (pc := 50) (v := nI 352) hx hb dX10_standsPardoned_50 (by decide) ?_
        refine ci_Vd (pc := 53) (r0 := nI (nSum (fun j => f (352 + j)) (pCells P))) hF hN hK hP hV hS hA (k_X10_sum l D cI cC cB cS o ad P I f 352 hp hfb (by omega)) (cwV 1 hts gX10_standsPardoned_X10_sum rfl rfl rfl (by decide +kernel) ⟨Nat.le_of_ble_eq_true rfl, Nat.le_of_ble_eq_true rfl⟩) [0, 1] rfl (by decide) 0 10 rfl rfl rfl hl.1 rfl (Nat.le_of_ble_eq_true rfl) dX10_standsPardoned_53 ⟨Nat.le_refl _, Nat.le_refl _⟩ rfl (ws2 := [rmE o ad (pCells P) P.2.2.2.1 P.2.2.2.2.2.1 P.2.2.2.2.2.2 I, nE 384 (ad 25) cI f, nE 6 (ad 4) cI so, nE 6 (ad 5) cI cl, nE 6 (ad 6) cI de, nE 6 (ad 7) cI si, nE 3 (ad 11) cI ms]) rfl (fun H locs hP hS => ?_)
        have fq2 : nSum (fun j => f (352 + j)) (pCells P) ≤ 2400000 := nSum_24 hfb (pCells_le hp)
        exact hret 56 _ hP hS dX10_standsPardoned_56 rfl rfl ⟨(by rw [sum_rel hw hT.1 (yearsS_x hw (parS_x hc9 hx2) n).1]; rfl), f, rfl, hT.fin (by omega)⟩
      · refine lv_aload_n (pc := 29) hx hb dX10_standsPardoned_29 rfl (lv_at hl 3 rfl) ?_
        refine lv_sipush (pc := 30) (v := nI 352) hx hb dX10_standsPardoned_30 (by decide) ?_
        refine lv_aload_n (pc := 33) hx hb dX10_standsPardoned_33 rfl (lv_at hl 3 rfl) ?_
        refine lv_sipush (pc := 34) (v := nI 352) hx hb dX10_standsPardoned_34 (by decide) ?_
        refine ci_Vd (pc := 37) (r0 := nI (opN P.2.2.2.2.2.1 (f (352 + 30)))) hF hN hK hP hV hS hA (k_X10_open l D cI cC cB cS o ad P I f 352 hp hpd (by omega)) (cwV 1 hts gX10_standsPardoned_X10_open rfl rfl rfl (by decide +kernel) ⟨Nat.le_of_ble_eq_true rfl, Nat.le_of_ble_eq_true rfl⟩) [0, 1] rfl (by decide) 0 10 rfl rfl rfl hl.1 rfl (Nat.le_of_ble_eq_true rfl) dX10_standsPardoned_37 ⟨Nat.le_refl _, Nat.le_refl _⟩ rfl (ws2 := [rmE o ad (pCells P) P.2.2.2.1 P.2.2.2.2.2.1 P.2.2.2.2.2.2 I, nE 384 (ad 25) cI f, nE 6 (ad 4) cI so, nE 6 (ad 5) cI cl, nE 6 (ad 6) cI de, nE 6 (ad 7) cI si, nE 3 (ad 11) cI ms]) rfl (fun H locs hP hS => ?_)
        have fq3 := opN_lt P.2.2.2.2.2.1 (by omega) (f (352 + 30)) (by omega)
        refine cv_Vd (pc := 40) hF hN hK hP hV hS hA (k_X10_goes l D cI cC cB cS o ad P I f so cl de si ms 352 (opN P.2.2.2.2.2.1 (f (352 + 30))) hp hfb hde hso hsi hms (by omega) (by omega) (by omega)) (cwV 2 hts gX10_standsPardoned_X10_goes rfl rfl rfl (by decide +kernel) ⟨Nat.le_of_ble_eq_true rfl, Nat.le_of_ble_eq_true rfl⟩) [0, 1, 2, 3, 4, 5, 6] rfl (by decide) 0 10 rfl rfl rfl hl.1 rfl (Nat.le_of_ble_eq_true rfl) dX10_standsPardoned_40 ⟨Nat.le_refl _, Nat.le_refl _⟩ rfl (ws2 := [rmE o ad (pCells P) P.2.2.2.1 P.2.2.2.2.2.1 P.2.2.2.2.2.2 I, nE 384 (ad 25) cI (rGo P so cl de si ms 352 (opN P.2.2.2.2.2.1 (f (352 + 30))) f), nE 6 (ad 4) cI so, nE 6 (ad 5) cI cl, nE 6 (ad 6) cI de, nE 6 (ad 7) cI si, nE 3 (ad 11) cI ms]) rfl (fun H locs hP hS => ?_)
        refine lv_iinc (pc := 43) (v := nI (k + 1)) (lv' := [(3, .int (nI (k + 1))), (2, .int (nI n)), (1, .int (nI c9)), (0, .ref o)]) hx hb dX10_standsPardoned_43 hl (k := 0) rfl (by rw [← nI_add]; rfl) (by decide) rfl (fun ls hl => ?_)
        refine lv_goto (pc := 46) (tgt := 24) hx hb dX10_standsPardoned_46 (by decide) ?_
        exact ih24 (k + 1) (rGo P so cl de si ms 352 (opN P.2.2.2.2.2.1 (f (352 + 30))) f) _ _ _ (by omega) (try_year hw hc hm hms hT hok.1 hok.2.2.2.1) (by omega) hP hS (lv_sub hl [0, 1, 2, 3] rfl)
  exact cut24 _ 0 (va_up (cpN sl 0 352 32) 382 (((cpN sl 0 352 32) 382) ||| (2 ^ c9))) _ _ _ (Nat.zero_le _) (show tRel P sl _ (parS S c9) 0 from try_par hw hc9 (try_init hw hsb hf0) hst.2.2.2.1) (Nat.lt_succ_self _) hP hS (lv_sub hl [0, 3, 2, 1] rfl)
