abbrev rmX10_pass : Room := { frames := 4, cells := 0, slots := 0, locals := 91 }
set_option maxHeartbeats 4000000 in
set_option maxRecDepth 100000 in
theorem k_X10_pass (l : Launch) (D : va_G) (cI cC cB cS : ClassId) (o : Nat) (ad : Nat → Nat) (P : PL) (I : RI) (sl : Nat → Nat) (so : Nat → Nat) (cl : Nat → Nat) (de : Nat → Nat) (si : Nat → Nat) (ms : Nat → Nat) (x1 : Int32) (z1 : Int) (hz1 : x1.toInt = z1) (S : ST) (wa : Nat → Nat) (ir : Nat → Nat) (hpk : plOK P) (hst : stOK P S) (hc : rC P so cl de si) (hm : rM P wa ir ms) (hf0 : rF P sl 0 S) (hsb : sB sl) (hde : ∀ j, de j < 100) (hso : ∀ j, so j < 100) (hsi : ∀ j, si j < 100) (hms : ∀ j, ms j < 100) (hac : I.2.2.2.2.1 ≤ 8) : CI l D (kT cI cC cB cS) yX10_pass wsX10_pass rmX10_pass [.ref o, .int (x1)] ([rmE o ad (pCells P) P.2.2.2.1 P.2.2.2.2.2.1 P.2.2.2.2.2.2 I, nE 384 (ad 25) cI sl, nE 6 (ad 4) cI so, nE 6 (ad 5) cI cl, nE 6 (ad 6) cI de, nE 6 (ad 7) cI si, nE 3 (ad 11) cI ms]) (fun r u => r = jI (zPass S z1) ∧ ∃ (f : Nat → Nat) (ac : Nat), u = [rmE o ad (pCells P) P.2.2.2.1 P.2.2.2.2.2.1 P.2.2.2.2.2.2 (I.1, I.2.1, I.2.2.1, I.2.2.2.1, ac, I.2.2.2.2.2.1, I.2.2.2.2.2.2.1, I.2.2.2.2.2.2.2.1, I.2.2.2.2.2.2.2.2.1, I.2.2.2.2.2.2.2.2.2.1, I.2.2.2.2.2.2.2.2.2.2.1, I.2.2.2.2.2.2.2.2.2.2.2), nE 384 (ad 25) cI f, nE 6 (ad 4) cI so, nE 6 (ad 5) cI cl, nE 6 (ad 6) cI de, nE 6 (ad 7) cI si, nE 3 (ad 11) cI ms] ∧ ((aPass S z1 ∧ ac = (if I.2.2.2.2.1 = 8 then 8 else I.2.2.2.2.1 + 1) ∧ aRel P sl I.2.2.2.2.1 f (yearsS P S z1.toNat)) ∨ (¬ (aPass S z1) ∧ f = sl ∧ ac = I.2.2.2.2.1))) := by
  refine ci_intro (by decide) rfl (Nat.le_of_ble_eq_true rfl) ?_
  intro p e s m args below meth c ls A QF hF hK hP hV hS hA hN hl hret
  obtain ⟨hx, hb, hml, hown, hts⟩ := id hF
  have hP : va_P D vwCl ([rmE o ad (pCells P) P.2.2.2.1 P.2.2.2.2.2.1 P.2.2.2.2.2.2 I, nE 384 (ad 25) cI sl, nE 6 (ad 4) cI so, nE 6 (ad 5) cI cl, nE 6 (ad 6) cI de, nE 6 (ad 7) cI si, nE 3 (ad 11) cI ms]) s.heap := hP
  have hl : lv_has ls 3 [(0, .ref o), (1, .int (x1))] := hl
  have wf61 := hts (.fieldLink RX10 61 "RemorseWallModel" "slot" "[I") (by decide +kernel)
  have hiX10 : ∀ w ∈ u_ws RX10 TX10 44, w ∈ wsX10_pass := by decide +kernel
  have hw := hpk.1
  obtain ⟨hp, hc1, hce, hme⟩ := id hw
  obtain ⟨hp1, hp2, hp3, hp4, hp5, hp6, hp7⟩ := id hp
  have hcl := pCells_le hp
  have hs : sHi S := hst.1
  have hr1 := i32_rng x1
  rw [hz1] at hr1
  have hslb := sB_h hsb
  have hclx : ∀ j, j < P.2.2.2.2.2.1 → cl j < pCells P := (fun j hj => by rw [(hc j hj).2.1]; exact hce j hj)
  have hyr := rF_yr hf0
  refine lv_iload_n (pc := 0) hx hb dX10_pass_0 rfl (lv_at hl 1 rfl) ?_
  refine lv_i2l (pc := 1) (v := jL z1) hx hb dX10_pass_1 (i2l_j hz1) ?_
  refine lv_lconst (pc := 2) (v := jL 1) hx hb dX10_pass_2 (by decide) ?_
  refine lv_ldc2 (pc := 3) (v := jL 20) hx hb hown (hts (.constantLong RX10 257 (jL 20)) (by decide +kernel)) dX10_pass_3 ?_
  refine ci_Sd (pc := 6) hF hN hK hP hV hS hA (k_X10_in l D cI cC cB cS z1 1 20 (by omega)) (va_cwS 3 hts gX10_pass_X10_in rfl rfl rfl (by decide +kernel) ⟨Nat.le_of_ble_eq_true rfl, Nat.le_of_ble_eq_true rfl⟩) [] rfl (by decide) rfl hl.1 rfl (Nat.le_of_ble_eq_true rfl) dX10_pass_6 ⟨Nat.le_refl _, Nat.le_refl _⟩ rfl (ws2 := [rmE o ad (pCells P) P.2.2.2.1 P.2.2.2.2.2.1 P.2.2.2.2.2.2 I, nE 384 (ad 25) cI sl, nE 6 (ad 4) cI so, nE 6 (ad 5) cI cl, nE 6 (ad 6) cI de, nE 6 (ad 7) cI si, nE 3 (ad 11) cI ms]) rfl (fun H locs hP hS => ?_)
  refine rb_ne (pc := 9) (tgt := 14) hx hb dX10_pass_9 (by decide) (fun c9 => ?_) (fun c9 => ?_)
  · obtain ⟨n, rfl⟩ : ∃ k : Nat, z1 = k := ⟨z1.toNat, by omega⟩
    obtain rfl : x1 = nI n := eq_nI hz1
    have h31 := hst.2.2.2.2
    refine lv_aload_n (pc := 14) hx hb dX10_pass_14 rfl (lv_at hl 0 rfl) ?_
    refine va_get (pc := 15) (D := D) (ci := 10) (v := .ref (ad 25)) (C := RX10) (T := TX10) (N := 44) hx hb hts hiX10 hown hK hP 0 rfl rfl 25 (by decide) wf61 (fun _ h9 => h9) rfl dX10_pass_15 ?_
    refine lv_bipush (pc := 18) (v := nI 31) hx hb dX10_pass_18 (by decide) ?_
    refine ra_iald (pc := 20) (k := 31) (v := nI (sl 31)) hx hb hK hP 1 0 rfl rfl (by omega) (by decide) rfl dX10_pass_20 ?_
    refine lv_iload_n (pc := 21) hx hb dX10_pass_21 rfl (lv_at hl 1 rfl) ?_
    refine rn_iadd (pc := 22) hx hb dX10_pass_22 ?_
    refine lv_sipush (pc := 23) (v := nI 999) hx hb dX10_pass_23 (by decide) ?_
    refine rc_le (pc := 26) (tgt := 32) hx hb (tI_nI (by omega)) (tI_nI (by omega)) dX10_pass_26 (by decide) (fun c26 => ?_) (fun c26 => ?_)
    · refine lv_aload_n (pc := 32) hx hb dX10_pass_32 rfl (lv_at hl 0 rfl) ?_
      refine cv_Vd (pc := 33) hF hN hK hP hV hS hA (k_X10_known l D cI cC cB cS o ad P I sl hac) (cwV 0 hts gX10_pass_X10_known rfl rfl rfl (by decide +kernel) ⟨Nat.le_of_ble_eq_true rfl, Nat.le_of_ble_eq_true rfl⟩) [0, 1] rfl (by decide) 0 10 rfl rfl rfl hl.1 rfl (Nat.le_of_ble_eq_true rfl) dX10_pass_33 ⟨Nat.le_refl _, Nat.le_refl _⟩ rfl (ws2 := [rmE o ad (pCells P) P.2.2.2.1 P.2.2.2.2.2.1 P.2.2.2.2.2.2 (I.1, I.2.1, I.2.2.1, I.2.2.2.1, if I.2.2.2.2.1 = 8 then 8 else I.2.2.2.2.1 + 1, I.2.2.2.2.2.1, I.2.2.2.2.2.2.1, I.2.2.2.2.2.2.2.1, I.2.2.2.2.2.2.2.2.1, I.2.2.2.2.2.2.2.2.2.1, I.2.2.2.2.2.2.2.2.2.2.1, I.2.2.2.2.2.2.2.2.2.2.2), nE 384 (ad 25) cI (kn sl I.2.2.2.2.1), nE 6 (ad 4) cI so, nE 6 (ad 5) cI cl, nE 6 (ad 6) cI de, nE 6 (ad 7) cI si, nE 3 (ad 11) cI ms]) rfl (fun H locs hP hS => ?_)
      refine lv_iconst (pc := 36) (v := nI 0) hx hb dX10_pass_36 (by decide) ?_
      refine lv_istore_n (pc := 37) (lv' := [(2, .int (nI 0)), (0, .ref o), (1, .int (nI n))]) hx hb dX10_pass_37 rfl hl (by decide) rfl (fun ls hl => ?_)
      have cut38 : ∀ (fuel : Nat) (k : Nat) (f : Nat → Nat) (H : Heap) (locs : List Loc) (ls : Array Slot) (hk : k ≤ n) (hFk : rF P f 0 (yearsS P S k)) (hK9 : ∀ j, 32 ≤ j → f j = kn sl I.2.2.2.2.1 j) (hB9 : ∀ j, f j < 90000 + k) (hU9 : ∀ j, P.2.2.2.2.2.2 ≤ j → j < 3 → f (27 + j) < 1100) (hfu : n - k < fuel), va_P D vwCl ([rmE o ad (pCells P) P.2.2.2.1 P.2.2.2.2.2.1 P.2.2.2.2.2.2 (I.1, I.2.1, I.2.2.1, I.2.2.2.1, (if I.2.2.2.2.1 = 8 then 8 else I.2.2.2.2.1 + 1), I.2.2.2.2.2.1, I.2.2.2.2.2.2.1, I.2.2.2.2.2.2.2.1, I.2.2.2.2.2.2.2.2.1, I.2.2.2.2.2.2.2.2.2.1, I.2.2.2.2.2.2.2.2.2.2.1, I.2.2.2.2.2.2.2.2.2.2.2), nE 384 (ad 25) cI f, nE 6 (ad 4) cI so, nE 6 (ad 5) cI cl, nE 6 (ad 6) cI de, nE 6 (ad 7) cI si, nE 3 (ad 11) cI ms]) H → va_S A s.heap H locs → lv_has ls 3 [(2, .int (nI k)), (1, .int (nI n)), (0, .ref o)] → W p l e rmX10_pass s m args below meth c H locs 0 0 QF (F0 m 38 ls []) := by
        intro fuel
        induction fuel with
        | zero => intro k f H locs ls hk hFk hK9 hB9 hU9 hfu; omega
        | succ fuel ih38 =>
          intro k f H locs ls hk hFk hK9 hB9 hU9 hfu hP hS hl
          have hok := yearsS_ok hpk hst (by omega) k (by omega)
          have hfb : ∀ j, f j < 100000 := fun j => Nat.lt_of_lt_of_le (hB9 j) (by omega)
          have hpd := opl hFk.2.2 hok.2.2.2.1
          have hT9 := pass_st hw hc hm hms hok.1 hok.2.2.2.1 hFk hK9 hB9
          have hclx9 : ∀ j, j < P.2.2.2.2.2.1 → cl j < pCells P := fun j hj => by rw [(hc j hj).2.1]; exact hw.2.2.1 j hj
          refine lv_iload_n (pc := 38) hx hb dX10_pass_38 rfl (lv_at hl 0 rfl) ?_
          refine lv_iload_n (pc := 39) hx hb dX10_pass_39 rfl (lv_at hl 1 rfl) ?_
          refine rc_ge (pc := 40) (tgt := 59) hx hb (tI_nI (by omega)) (tI_nI (by omega)) dX10_pass_40 (by decide) (fun c40 => ?_) (fun c40 => ?_)
          · have hkn : k = n := by omega
            rw [hkn] at hFk
            refine lv_aload_n (pc := 59) hx hb dX10_pass_59 rfl (lv_at hl 2 rfl) ?_
            refine va_get (pc := 60) (D := D) (ci := 10) (v := .ref (ad 25)) (C := RX10) (T := TX10) (N := 44) hx hb hts hiX10 hown hK hP 0 rfl rfl 25 (by decide) wf61 (fun _ h9 => h9) rfl dX10_pass_60 ?_
            refine lv_bipush (pc := 63) (v := nI 31) hx hb dX10_pass_63 (by decide) ?_
            refine ra_iald (pc := 65) (k := 31) (v := nI (f 31)) hx hb hK hP 1 0 rfl rfl (by omega) (by decide) rfl dX10_pass_65 ?_
            exact hret 66 _ hP hS dX10_pass_66 rfl rfl ⟨(by unfold zPass; rw [if_pos (by omega), if_pos (by omega), rF_yr hFk, yearsS_yr, jI_nat, Int.natCast_add]), f, _, rfl, Or.inl ⟨(by omega), rfl, hFk, hK9, (fun j => Nat.lt_of_lt_of_le (hB9 j) (by omega)), hU9⟩⟩
          · refine lv_aload_n (pc := 43) hx hb dX10_pass_43 rfl (lv_at hl 2 rfl) ?_
            refine lv_iconst (pc := 44) (v := nI 0) hx hb dX10_pass_44 (by decide) ?_
            refine lv_aload_n (pc := 45) hx hb dX10_pass_45 rfl (lv_at hl 2 rfl) ?_
            refine lv_iconst (pc := 46) (v := nI 0) hx hb dX10_pass_46 (by decide) ?_
            refine ci_Vd (pc := 47) (r0 := nI (opN P.2.2.2.2.2.1 (f (0 + 30)))) hF hN hK hP hV hS hA (k_X10_open l D cI cC cB cS o ad P (I.1, I.2.1, I.2.2.1, I.2.2.2.1, (if I.2.2.2.2.1 = 8 then 8 else I.2.2.2.2.1 + 1), I.2.2.2.2.2.1, I.2.2.2.2.2.2.1, I.2.2.2.2.2.2.2.1, I.2.2.2.2.2.2.2.2.1, I.2.2.2.2.2.2.2.2.2.1, I.2.2.2.2.2.2.2.2.2.2.1, I.2.2.2.2.2.2.2.2.2.2.2) f 0 hp hpd (by omega)) (cwV 1 hts gX10_pass_X10_open rfl rfl rfl (by decide +kernel) ⟨Nat.le_of_ble_eq_true rfl, Nat.le_of_ble_eq_true rfl⟩) [0, 1] rfl (by decide) 0 10 rfl rfl rfl hl.1 rfl (Nat.le_of_ble_eq_true rfl) dX10_pass_47 ⟨Nat.le_refl _, Nat.le_refl _⟩ rfl (ws2 := [rmE o ad (pCells P) P.2.2.2.1 P.2.2.2.2.2.1 P.2.2.2.2.2.2 (I.1, I.2.1, I.2.2.1, I.2.2.2.1, (if I.2.2.2.2.1 = 8 then 8 else I.2.2.2.2.1 + 1), I.2.2.2.2.2.1, I.2.2.2.2.2.2.1, I.2.2.2.2.2.2.2.1, I.2.2.2.2.2.2.2.2.1, I.2.2.2.2.2.2.2.2.2.1, I.2.2.2.2.2.2.2.2.2.2.1, I.2.2.2.2.2.2.2.2.2.2.2), nE 384 (ad 25) cI f, nE 6 (ad 4) cI so, nE 6 (ad 5) cI cl, nE 6 (ad 6) cI de, nE 6 (ad 7) cI si, nE 3 (ad 11) cI ms]) rfl (fun H locs hP hS => ?_)
            have fq3 := opN_lt P.2.2.2.2.2.1 (by omega) (f (0 + 30)) (by omega)
            refine cv_Vd (pc := 50) hF hN hK hP hV hS hA (k_X10_goes l D cI cC cB cS o ad P (I.1, I.2.1, I.2.2.1, I.2.2.2.1, (if I.2.2.2.2.1 = 8 then 8 else I.2.2.2.2.1 + 1), I.2.2.2.2.2.1, I.2.2.2.2.2.2.1, I.2.2.2.2.2.2.2.1, I.2.2.2.2.2.2.2.2.1, I.2.2.2.2.2.2.2.2.2.1, I.2.2.2.2.2.2.2.2.2.2.1, I.2.2.2.2.2.2.2.2.2.2.2) f so cl de si ms 0 (opN P.2.2.2.2.2.1 (f (0 + 30))) hp hfb hde hso hsi hms (by omega) (by omega) (by omega)) (cwV 2 hts gX10_pass_X10_goes rfl rfl rfl (by decide +kernel) ⟨Nat.le_of_ble_eq_true rfl, Nat.le_of_ble_eq_true rfl⟩) [0, 1, 2, 3, 4, 5, 6] rfl (by decide) 0 10 rfl rfl rfl hl.1 rfl (Nat.le_of_ble_eq_true rfl) dX10_pass_50 ⟨Nat.le_refl _, Nat.le_refl _⟩ rfl (ws2 := [rmE o ad (pCells P) P.2.2.2.1 P.2.2.2.2.2.1 P.2.2.2.2.2.2 (I.1, I.2.1, I.2.2.1, I.2.2.2.1, (if I.2.2.2.2.1 = 8 then 8 else I.2.2.2.2.1 + 1), I.2.2.2.2.2.1, I.2.2.2.2.2.2.1, I.2.2.2.2.2.2.2.1, I.2.2.2.2.2.2.2.2.1, I.2.2.2.2.2.2.2.2.2.1, I.2.2.2.2.2.2.2.2.2.2.1, I.2.2.2.2.2.2.2.2.2.2.2), nE 384 (ad 25) cI (rGo P so cl de si ms 0 (opN P.2.2.2.2.2.1 (f (0 + 30))) f), nE 6 (ad 4) cI so, nE 6 (ad 5) cI cl, nE 6 (ad 6) cI de, nE 6 (ad 7) cI si, nE 3 (ad 11) cI ms]) rfl (fun H locs hP hS => ?_)
            refine lv_iinc (pc := 53) (v := nI (k + 1)) (lv' := [(2, .int (nI (k + 1))), (1, .int (nI n)), (0, .ref o)]) hx hb dX10_pass_53 hl (k := 0) rfl (by rw [← nI_add]; rfl) (by decide) rfl (fun ls hl => ?_)
            refine lv_goto (pc := 56) (tgt := 38) hx hb dX10_pass_56 (by decide) ?_
            exact ih38 (k + 1) (rGo P so cl de si ms 0 (opN P.2.2.2.2.2.1 (f (0 + 30))) f) _ _ _ (by omega) hT9.1 hT9.2.1 hT9.2.2 (fun j hj1 hj2 => by rw [go_out hw hclx9 (by omega)]; exact hU9 j hj1 hj2) (by omega) hP hS (lv_sub hl [0, 1, 2] rfl)
      exact cut38 _ 0 (kn sl I.2.2.2.2.1) _ _ _ (Nat.zero_le _) (kn_rF hw hf0) (fun _ _ => rfl) (fun j => Nat.lt_of_lt_of_le (kn_b hsb.1 j) (by omega)) (fun j hj1 hj2 => by rw [kn_lo (by omega)]; exact hsb.2 _ (by omega)) (Nat.lt_succ_self _) hP hS (lv_sub hl [0, 2, 1] rfl)
    · refine lv_bipush (pc := 29) (v := jI (-2)) hx hb dX10_pass_29 (by decide) ?_
      exact hret 31 _ hP hS dX10_pass_31 rfl rfl ⟨(by unfold zPass; (repeat' split) <;> first | (exfalso; omega) | rfl), sl, I.2.2.2.2.1, rfl, Or.inr ⟨(fun q => by omega), rfl, rfl⟩⟩
  · refine lv_iconst (pc := 12) (v := jI (-1)) hx hb dX10_pass_12 (by decide) ?_
    exact hret 13 _ hP hS dX10_pass_13 rfl rfl ⟨(by unfold zPass; (repeat' split) <;> first | (exfalso; omega) | rfl), sl, I.2.2.2.2.1, rfl, Or.inr ⟨(fun q => by omega), rfl, rfl⟩⟩
