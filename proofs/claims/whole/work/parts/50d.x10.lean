abbrev rmX10_behind : Room := { frames := 4, cells := 0, slots := 0, locals := 91 }
set_option maxHeartbeats 4000000 in
set_option maxRecDepth 100000 in
theorem k_X10_behind (l : Launch) (D : va_G) (cI cC cB cS : ClassId) (o : Nat) (ad : Nat → Nat) (P : PL) (I : RI) (sl : Nat → Nat) (so : Nat → Nat) (cl : Nat → Nat) (de : Nat → Nat) (si : Nat → Nat) (ms : Nat → Nat) (x1 : Int32) (z1 : Int) (hz1 : x1.toInt = z1) (x2 : Int32) (z2 : Int) (hz2 : x2.toInt = z2) (S : ST) (wa : Nat → Nat) (ir : Nat → Nat) (hpk : plOK P) (hst : stOK P S) (hc : rC P so cl de si) (hm : rM P wa ir ms) (hf0 : rF P sl 0 S) (hsb : sB sl) (hde : ∀ j, de j < 100) (hso : ∀ j, so j < 100) (hsi : ∀ j, si j < 100) (hms : ∀ j, ms j < 100) (hy : S.2.2.2.2 ≤ 999) : CI l D (kT cI cC cB cS) yX10_behind wsX10_behind rmX10_behind [.ref o, .int (x1), .int (x2)] ([rmE o ad (pCells P) P.2.2.2.1 P.2.2.2.2.2.1 P.2.2.2.2.2.2 I, nE 384 (ad 25) cI sl, nE 6 (ad 4) cI so, nE 6 (ad 5) cI cl, nE 6 (ad 6) cI de, nE 6 (ad 7) cI si, nE 3 (ad 11) cI ms]) (fun r u => r = jI (zBehind P S z1 z2) ∧ ∃ f : Nat → Nat, u = [rmE o ad (pCells P) P.2.2.2.1 P.2.2.2.2.2.1 P.2.2.2.2.2.2 I, nE 384 (ad 25) cI f, nE 6 (ad 4) cI so, nE 6 (ad 5) cI cl, nE 6 (ad 6) cI de, nE 6 (ad 7) cI si, nE 3 (ad 11) cI ms] ∧ tEnd sl f) := by
  refine ci_intro (by decide) rfl (Nat.le_of_ble_eq_true rfl) ?_
  intro p e s m args below meth c ls A QF hF hK hP hV hS hA hN hl hret
  obtain ⟨hx, hb, hml, hown, hts⟩ := id hF
  have hP : va_P D vwCl ([rmE o ad (pCells P) P.2.2.2.1 P.2.2.2.2.2.1 P.2.2.2.2.2.2 I, nE 384 (ad 25) cI sl, nE 6 (ad 4) cI so, nE 6 (ad 5) cI cl, nE 6 (ad 6) cI de, nE 6 (ad 7) cI si, nE 3 (ad 11) cI ms]) s.heap := hP
  have hl : lv_has ls 4 [(0, .ref o), (1, .int (x1)), (2, .int (x2))] := hl
  have wf61 := hts (.fieldLink RX10 61 "RemorseWallModel" "slot" "[I") (by decide +kernel)
  have hiX10 : ∀ w ∈ u_ws RX10 TX10 44, w ∈ wsX10_behind := by decide +kernel
  have hw := hpk.1
  obtain ⟨hp, hc1, hce, hme⟩ := id hw
  obtain ⟨hp1, hp2, hp3, hp4, hp5, hp6, hp7⟩ := id hp
  have hcl := pCells_le hp
  have hs : sHi S := hst.1
  have hr1 := i32_rng x1
  rw [hz1] at hr1
  have hr2 := i32_rng x2
  rw [hz2] at hr2
  have hslb := sB_h hsb
  have hclx : ∀ j, j < P.2.2.2.2.2.1 → cl j < pCells P := (fun j hj => by rw [(hc j hj).2.1]; exact hce j hj)
  refine lv_iload_n (pc := 0) hx hb dX10_behind_0 rfl (lv_at hl 1 rfl) ?_
  refine lv_i2l (pc := 1) (v := jL z1) hx hb dX10_behind_1 (i2l_j hz1) ?_
  refine lv_lconst (pc := 2) (v := jL 0) hx hb dX10_behind_2 (by decide) ?_
  refine lv_ldc2 (pc := 3) (v := jL 20) hx hb hown (hts (.constantLong RX10 257 (jL 20)) (by decide +kernel)) dX10_behind_3 ?_
  refine ci_Sd (pc := 6) hF hN hK hP hV hS hA (k_X10_in l D cI cC cB cS z1 0 20 (by omega)) (va_cwS 3 hts gX10_behind_X10_in rfl rfl rfl (by decide +kernel) ⟨Nat.le_of_ble_eq_true rfl, Nat.le_of_ble_eq_true rfl⟩) [] rfl (by decide) rfl hl.1 rfl (Nat.le_of_ble_eq_true rfl) dX10_behind_6 ⟨Nat.le_refl _, Nat.le_refl _⟩ rfl (ws2 := [rmE o ad (pCells P) P.2.2.2.1 P.2.2.2.2.2.1 P.2.2.2.2.2.2 I, nE 384 (ad 25) cI sl, nE 6 (ad 4) cI so, nE 6 (ad 5) cI cl, nE 6 (ad 6) cI de, nE 6 (ad 7) cI si, nE 3 (ad 11) cI ms]) rfl (fun H locs hP hS => ?_)
  refine rb_eq (pc := 9) (tgt := 20) hx hb dX10_behind_9 (by decide) (fun c9 => ?_) (fun c9 => ?_)
  · refine lv_iconst (pc := 20) (v := jI (-1)) hx hb dX10_behind_20 (by decide) ?_
    exact hret 21 _ hP hS dX10_behind_21 rfl rfl ⟨(by unfold zBehind; rw [if_neg (by omega)]), sl, rfl, tEnd.rf hsb⟩
  · refine lv_aload_n (pc := 12) hx hb dX10_behind_12 rfl (lv_at hl 0 rfl) ?_
    refine lv_iload_n (pc := 13) hx hb dX10_behind_13 rfl (lv_at hl 2 rfl) ?_
    refine ci_Vd (pc := 14) (r0 := nI (if okX (pCells P) z2 then 1 else 0)) hF hN hK hP hV hS hA (k_X10_isCell l D cI cC cB cS o ad P I (x2) z2 hz2 hp) (cwV 1 hts gX10_behind_X10_isCell rfl rfl rfl (by decide +kernel) ⟨Nat.le_of_ble_eq_true rfl, Nat.le_of_ble_eq_true rfl⟩) [0] rfl (by decide) 0 10 rfl rfl rfl hl.1 rfl (Nat.le_of_ble_eq_true rfl) dX10_behind_14 ⟨Nat.le_refl _, Nat.le_refl _⟩ rfl (ws2 := [rmE o ad (pCells P) P.2.2.2.1 P.2.2.2.2.2.1 P.2.2.2.2.2.2 I, nE 384 (ad 25) cI sl, nE 6 (ad 4) cI so, nE 6 (ad 5) cI cl, nE 6 (ad 6) cI de, nE 6 (ad 7) cI si, nE 3 (ad 11) cI ms]) rfl (fun H locs hP hS => ?_)
    refine rb_ne (pc := 17) (tgt := 22) hx hb dX10_behind_17 (by decide) (fun c17 => ?_) (fun c17 => ?_)
    · obtain ⟨n, rfl⟩ : ∃ k : Nat, z1 = k := ⟨z1.toNat, by omega⟩
      obtain rfl : x1 = nI n := eq_nI hz1
      obtain ⟨x, rfl⟩ : ∃ k : Nat, z2 = k := ⟨z2.toNat, by omega⟩
      obtain rfl : x2 = nI x := eq_nI hz2
      refine lv_aload_n (pc := 22) hx hb dX10_behind_22 rfl (lv_at hl 0 rfl) ?_
      refine lv_iconst (pc := 23) (v := nI 0) hx hb dX10_behind_23 (by decide) ?_
      refine lv_sipush (pc := 24) (v := nI 352) hx hb dX10_behind_24 (by decide) ?_
      refine cv_Vd (pc := 27) hF hN hK hP hV hS hA (k_X10_copies l D cI cC cB cS o ad P I sl 0 352 (by omega) (by omega) (by omega)) (cwV 2 hts gX10_behind_X10_copies rfl rfl rfl (by decide +kernel) ⟨Nat.le_of_ble_eq_true rfl, Nat.le_of_ble_eq_true rfl⟩) [0, 1] rfl (by decide) 0 10 rfl rfl rfl hl.1 rfl (Nat.le_of_ble_eq_true rfl) dX10_behind_27 ⟨Nat.le_refl _, Nat.le_refl _⟩ rfl (ws2 := [rmE o ad (pCells P) P.2.2.2.1 P.2.2.2.2.2.1 P.2.2.2.2.2.2 I, nE 384 (ad 25) cI (cpN sl 0 352 32), nE 6 (ad 4) cI so, nE 6 (ad 5) cI cl, nE 6 (ad 6) cI de, nE 6 (ad 7) cI si, nE 3 (ad 11) cI ms]) rfl (fun H locs hP hS => ?_)
      refine lv_iconst (pc := 30) (v := nI 0) hx hb dX10_behind_30 (by decide) ?_
      refine lv_istore_n (pc := 31) (lv' := [(3, .int (nI 0)), (0, .ref o), (1, .int (nI n)), (2, .int (nI x))]) hx hb dX10_behind_31 rfl hl (by decide) rfl (fun ls hl => ?_)
      have cut32 : ∀ (fuel : Nat) (k : Nat) (f : Nat → Nat) (H : Heap) (locs : List Loc) (ls : Array Slot) (hk : k ≤ n) (hT : tRel P sl f (yearsS P S k) k) (hfu : n - k < fuel), va_P D vwCl ([rmE o ad (pCells P) P.2.2.2.1 P.2.2.2.2.2.1 P.2.2.2.2.2.2 I, nE 384 (ad 25) cI f, nE 6 (ad 4) cI so, nE 6 (ad 5) cI cl, nE 6 (ad 6) cI de, nE 6 (ad 7) cI si, nE 3 (ad 11) cI ms]) H → va_S A s.heap H locs → lv_has ls 4 [(3, .int (nI k)), (2, .int (nI x)), (1, .int (nI n)), (0, .ref o)] → W p l e rmX10_behind s m args below meth c H locs 0 0 QF (F0 m 32 ls []) := by
        intro fuel
        induction fuel with
        | zero => intro k f H locs ls hk hT hfu; omega
        | succ fuel ih32 =>
          intro k f H locs ls hk hT hfu hP hS hl
          have hok := yearsS_ok hpk hst (by omega) k (by omega)
          have hfb := hT.lt (by omega)
          have hpd := opl hT.1.2.2 hok.2.2.2.1
          refine lv_iload_n (pc := 32) hx hb dX10_behind_32 rfl (lv_at hl 0 rfl) ?_
          refine lv_iload_n (pc := 33) hx hb dX10_behind_33 rfl (lv_at hl 2 rfl) ?_
          refine rc_ge (pc := 34) (tgt := 57) hx hb (tI_nI (by omega)) (tI_nI (by omega)) dX10_behind_34 (by decide) (fun c34 => ?_) (fun c34 => ?_)
          · have hkn : k = n := by omega
            rw [hkn] at hT
            have hfx := hfb (352 + x)
            refine lv_aload_n (pc := 57) hx hb dX10_behind_57 rfl (lv_at hl 3 rfl) ?_
            refine va_get (pc := 58) (D := D) (ci := 10) (v := .ref (ad 25)) (C := RX10) (T := TX10) (N := 44) hx hb hts hiX10 hown hK hP 0 rfl rfl 25 (by decide) wf61 (fun _ h9 => h9) rfl dX10_behind_58 ?_
            refine lv_sipush (pc := 61) (v := nI 352) hx hb dX10_behind_61 (by decide) ?_
            refine lv_iload_n (pc := 64) hx hb dX10_behind_64 rfl (lv_at hl 1 rfl) ?_
            refine rn_iadd (pc := 65) hx hb dX10_behind_65 ?_
            refine ra_iald (pc := 66) (k := 352 + x) (v := nI (f (352 + x))) hx hb hK hP 1 0 rfl rfl (by omega) (by decide) rfl dX10_behind_66 ?_
            exact hret 67 _ hP hS dX10_behind_67 rfl rfl ⟨(by unfold zBehind; rw [if_pos (by omega), sAt_n (by omega), tRel_at hT (by omega), Int.toNat_natCast]; exact jI_nat _), f, rfl, hT.fin (by omega)⟩
          · refine lv_aload_n (pc := 37) hx hb dX10_behind_37 rfl (lv_at hl 3 rfl) ?_
            refine lv_sipush (pc := 38) (v := nI 352) hx hb dX10_behind_38 (by decide) ?_
            refine lv_aload_n (pc := 41) hx hb dX10_behind_41 rfl (lv_at hl 3 rfl) ?_
            refine lv_sipush (pc := 42) (v := nI 352) hx hb dX10_behind_42 (by decide) ?_
            refine ci_Vd (pc := 45) (r0 := nI (opN P.2.2.2.2.2.1 (f (352 + 30)))) hF hN hK hP hV hS hA (k_X10_open l D cI cC cB cS o ad P I f 352 hp hpd (by omega)) (cwV 1 hts gX10_behind_X10_open rfl rfl rfl (by decide +kernel) ⟨Nat.le_of_ble_eq_true rfl, Nat.le_of_ble_eq_true rfl⟩) [0, 1] rfl (by decide) 0 10 rfl rfl rfl hl.1 rfl (Nat.le_of_ble_eq_true rfl) dX10_behind_45 ⟨Nat.le_refl _, Nat.le_refl _⟩ rfl (ws2 := [rmE o ad (pCells P) P.2.2.2.1 P.2.2.2.2.2.1 P.2.2.2.2.2.2 I, nE 384 (ad 25) cI f, nE 6 (ad 4) cI so, nE 6 (ad 5) cI cl, nE 6 (ad 6) cI de, nE 6 (ad 7) cI si, nE 3 (ad 11) cI ms]) rfl (fun H locs hP hS => ?_)
            have fq4 := opN_lt P.2.2.2.2.2.1 (by omega) (f (352 + 30)) (by omega)
            refine cv_Vd (pc := 48) hF hN hK hP hV hS hA (k_X10_goes l D cI cC cB cS o ad P I f so cl de si ms 352 (opN P.2.2.2.2.2.1 (f (352 + 30))) hp hfb hde hso hsi hms (by omega) (by omega) (by omega)) (cwV 2 hts gX10_behind_X10_goes rfl rfl rfl (by decide +kernel) ⟨Nat.le_of_ble_eq_true rfl, Nat.le_of_ble_eq_true rfl⟩) [0, 1, 2, 3, 4, 5, 6] rfl (by decide) 0 10 rfl rfl rfl hl.1 rfl (Nat.le_of_ble_eq_true rfl) dX10_behind_48 ⟨Nat.le_refl _, Nat.le_refl _⟩ rfl (ws2 := [rmE o ad (pCells P) P.2.2.2.1 P.2.2.2.2.2.1 P.2.2.2.2.2.2 I, nE 384 (ad 25) cI (rGo P so cl de si ms 352 (opN P.2.2.2.2.2.1 (f (352 + 30))) f), nE 6 (ad 4) cI so, nE 6 (ad 5) cI cl, nE 6 (ad 6) cI de, nE 6 (ad 7) cI si, nE 3 (ad 11) cI ms]) rfl (fun H locs hP hS => ?_)
            refine lv_iinc (pc := 51) (v := nI (k + 1)) (lv' := [(3, .int (nI (k + 1))), (2, .int (nI x)), (1, .int (nI n)), (0, .ref o)]) hx hb dX10_behind_51 hl (k := 0) rfl (by rw [← nI_add]; rfl) (by decide) rfl (fun ls hl => ?_)
            refine lv_goto (pc := 54) (tgt := 32) hx hb dX10_behind_54 (by decide) ?_
            exact ih32 (k + 1) (rGo P so cl de si ms 352 (opN P.2.2.2.2.2.1 (f (352 + 30))) f) _ _ _ (by omega) (try_year hw hc hm hms hT hok.1 hok.2.2.2.1) (by omega) hP hS (lv_sub hl [0, 1, 2, 3] rfl)
      exact cut32 _ 0 (cpN sl 0 352 32) _ _ _ (Nat.zero_le _) (try_init hw hsb hf0) (Nat.lt_succ_self _) hP hS (lv_sub hl [0, 3, 2, 1] rfl)
    · refine lv_iconst (pc := 20) (v := jI (-1)) hx hb dX10_behind_20 (by decide) ?_
      exact hret 21 _ hP hS dX10_behind_21 rfl rfl ⟨(by unfold zBehind; rw [if_neg (by omega)]), sl, rfl, tEnd.rf hsb⟩
abbrev rmX10_hollowed : Room := { frames := 4, cells := 0, slots := 0, locals := 91 }
set_option maxHeartbeats 4000000 in
set_option maxRecDepth 100000 in
theorem k_X10_hollowed (l : Launch) (D : va_G) (cI cC cB cS : ClassId) (o : Nat) (ad : Nat → Nat) (P : PL) (I : RI) (sl : Nat → Nat) (so : Nat → Nat) (cl : Nat → Nat) (de : Nat → Nat) (si : Nat → Nat) (ms : Nat → Nat) (x1 : Int32) (z1 : Int) (hz1 : x1.toInt = z1) (S : ST) (wa : Nat → Nat) (ir : Nat → Nat) (hpk : plOK P) (hst : stOK P S) (hc : rC P so cl de si) (hm : rM P wa ir ms) (hf0 : rF P sl 0 S) (hsb : sB sl) (hde : ∀ j, de j < 100) (hso : ∀ j, so j < 100) (hsi : ∀ j, si j < 100) (hms : ∀ j, ms j < 100) (hy : S.2.2.2.2 ≤ 999) : CI l D (kT cI cC cB cS) yX10_hollowed wsX10_hollowed rmX10_hollowed [.ref o, .int (x1)] ([rmE o ad (pCells P) P.2.2.2.1 P.2.2.2.2.2.1 P.2.2.2.2.2.2 I, nE 384 (ad 25) cI sl, nE 6 (ad 4) cI so, nE 6 (ad 5) cI cl, nE 6 (ad 6) cI de, nE 6 (ad 7) cI si, nE 3 (ad 11) cI ms]) (fun r u => r = jI (zHollowed P S z1) ∧ ∃ f : Nat → Nat, u = [rmE o ad (pCells P) P.2.2.2.1 P.2.2.2.2.2.1 P.2.2.2.2.2.2 I, nE 384 (ad 25) cI f, nE 6 (ad 4) cI so, nE 6 (ad 5) cI cl, nE 6 (ad 6) cI de, nE 6 (ad 7) cI si, nE 3 (ad 11) cI ms] ∧ tEnd sl f) := by
  refine ci_intro (by decide) rfl (Nat.le_of_ble_eq_true rfl) ?_
  intro p e s m args below meth c ls A QF hF hK hP hV hS hA hN hl hret
  obtain ⟨hx, hb, hml, hown, hts⟩ := id hF
  have hP : va_P D vwCl ([rmE o ad (pCells P) P.2.2.2.1 P.2.2.2.2.2.1 P.2.2.2.2.2.2 I, nE 384 (ad 25) cI sl, nE 6 (ad 4) cI so, nE 6 (ad 5) cI cl, nE 6 (ad 6) cI de, nE 6 (ad 7) cI si, nE 3 (ad 11) cI ms]) s.heap := hP
  have hl : lv_has ls 3 [(0, .ref o), (1, .int (x1))] := hl
  have wf61 := hts (.fieldLink RX10 61 "RemorseWallModel" "slot" "[I") (by decide +kernel)
  have hiX10 : ∀ w ∈ u_ws RX10 TX10 44, w ∈ wsX10_hollowed := by decide +kernel
  have hw := hpk.1
  obtain ⟨hp, hc1, hce, hme⟩ := id hw
  obtain ⟨hp1, hp2, hp3, hp4, hp5, hp6, hp7⟩ := id hp
  have hcl := pCells_le hp
  have hs : sHi S := hst.1
  have hr1 := i32_rng x1
  rw [hz1] at hr1
  have hslb := sB_h hsb
  have hclx : ∀ j, j < P.2.2.2.2.2.1 → cl j < pCells P := (fun j hj => by rw [(hc j hj).2.1]; exact hce j hj)
  refine lv_aload_n (pc := 0) hx hb dX10_hollowed_0 rfl (lv_at hl 0 rfl) ?_
  refine lv_iload_n (pc := 1) hx hb dX10_hollowed_1 rfl (lv_at hl 1 rfl) ?_
  refine ci_Vd (pc := 2) (r0 := nI (if okX (pCells P) z1 then 1 else 0)) hF hN hK hP hV hS hA (k_X10_isCell l D cI cC cB cS o ad P I (x1) z1 hz1 hp) (cwV 1 hts gX10_hollowed_X10_isCell rfl rfl rfl (by decide +kernel) ⟨Nat.le_of_ble_eq_true rfl, Nat.le_of_ble_eq_true rfl⟩) [0] rfl (by decide) 0 10 rfl rfl rfl hl.1 rfl (Nat.le_of_ble_eq_true rfl) dX10_hollowed_2 ⟨Nat.le_refl _, Nat.le_refl _⟩ rfl (ws2 := [rmE o ad (pCells P) P.2.2.2.1 P.2.2.2.2.2.1 P.2.2.2.2.2.2 I, nE 384 (ad 25) cI sl, nE 6 (ad 4) cI so, nE 6 (ad 5) cI cl, nE 6 (ad 6) cI de, nE 6 (ad 7) cI si, nE 3 (ad 11) cI ms]) rfl (fun H locs hP hS => ?_)
  refine rb_ne (pc := 5) (tgt := 10) hx hb dX10_hollowed_5 (by decide) (fun c5 => ?_) (fun c5 => ?_)
  · obtain ⟨x, rfl⟩ : ∃ k : Nat, z1 = k := ⟨z1.toNat, by omega⟩
    obtain rfl : x1 = nI x := eq_nI hz1
    refine lv_aload_n (pc := 10) hx hb dX10_hollowed_10 rfl (lv_at hl 0 rfl) ?_
    refine lv_iconst (pc := 11) (v := nI 0) hx hb dX10_hollowed_11 (by decide) ?_
    refine lv_sipush (pc := 12) (v := nI 352) hx hb dX10_hollowed_12 (by decide) ?_
    refine cv_Vd (pc := 15) hF hN hK hP hV hS hA (k_X10_copies l D cI cC cB cS o ad P I sl 0 352 (by omega) (by omega) (by omega)) (cwV 2 hts gX10_hollowed_X10_copies rfl rfl rfl (by decide +kernel) ⟨Nat.le_of_ble_eq_true rfl, Nat.le_of_ble_eq_true rfl⟩) [0, 1] rfl (by decide) 0 10 rfl rfl rfl hl.1 rfl (Nat.le_of_ble_eq_true rfl) dX10_hollowed_15 ⟨Nat.le_refl _, Nat.le_refl _⟩ rfl (ws2 := [rmE o ad (pCells P) P.2.2.2.1 P.2.2.2.2.2.1 P.2.2.2.2.2.2 I, nE 384 (ad 25) cI (cpN sl 0 352 32), nE 6 (ad 4) cI so, nE 6 (ad 5) cI cl, nE 6 (ad 6) cI de, nE 6 (ad 7) cI si, nE 3 (ad 11) cI ms]) rfl (fun H locs hP hS => ?_)
    refine lv_iconst (pc := 18) (v := nI 0) hx hb dX10_hollowed_18 (by decide) ?_
    refine lv_istore_n (pc := 19) (lv' := [(2, .int (nI 0)), (0, .ref o), (1, .int (nI x))]) hx hb dX10_hollowed_19 rfl hl (by decide) rfl (fun ls hl => ?_)
    have cut20 : ∀ (fuel : Nat) (k : Nat) (f : Nat → Nat) (H : Heap) (locs : List Loc) (ls : Array Slot) (hk : k ≤ 21) (hT : tRel P sl f (yearsS P S k) k) (hh : holN P S (x : Int) 21 0 = holN P S (x : Int) (21 - k) k) (hfu : 21 - k < fuel), va_P D vwCl ([rmE o ad (pCells P) P.2.2.2.1 P.2.2.2.2.2.1 P.2.2.2.2.2.2 I, nE 384 (ad 25) cI f, nE 6 (ad 4) cI so, nE 6 (ad 5) cI cl, nE 6 (ad 6) cI de, nE 6 (ad 7) cI si, nE 3 (ad 11) cI ms]) H → va_S A s.heap H locs → lv_has ls 3 [(2, .int (nI k)), (1, .int (nI x)), (0, .ref o)] → W p l e rmX10_hollowed s m args below meth c H locs 0 0 QF (F0 m 20 ls []) := by
      intro fuel
      induction fuel with
      | zero => intro k f H locs ls hk hT hh hfu; omega
      | succ fuel ih20 =>
        intro k f H locs ls hk hT hh hfu hP hS hl
        have hok := yearsS_ok hpk hst (by omega) k (by omega)
        have hfb := hT.lt (by omega)
        have hpd := opl hT.1.2.2 hok.2.2.2.1
        refine lv_iload_n (pc := 20) hx hb dX10_hollowed_20 rfl (lv_at hl 0 rfl) ?_
        refine lv_bipush (pc := 21) (v := nI 20) hx hb dX10_hollowed_21 (by decide) ?_
        refine rc_gt (pc := 23) (tgt := 63) hx hb (tI_nI (by omega)) (tI_nI (by omega)) dX10_hollowed_23 (by decide) (fun c23 => ?_) (fun c23 => ?_)
        · refine lv_bipush (pc := 63) (v := jI (-4)) hx hb dX10_hollowed_63 (by decide) ?_
          exact hret 65 _ hP hS dX10_hollowed_65 rfl rfl ⟨(by unfold zHollowed; rw [if_pos (by omega), hh, show 21 - k = 0 by omega]; rfl), f, rfl, hT.fin (by omega)⟩
        · have hfx := hfb (352 + x)
          have hax : f (352 + x) = sAt (yearsS P S k) ((x : Nat) : Int) := by rw [sAt_n (by omega)]; exact tRel_at hT (by omega)
          refine lv_aload_n (pc := 26) hx hb dX10_hollowed_26 rfl (lv_at hl 2 rfl) ?_
          refine va_get (pc := 27) (D := D) (ci := 10) (v := .ref (ad 25)) (C := RX10) (T := TX10) (N := 44) hx hb hts hiX10 hown hK hP 0 rfl rfl 25 (by decide) wf61 (fun _ h9 => h9) rfl dX10_hollowed_27 ?_
          refine lv_sipush (pc := 30) (v := nI 352) hx hb dX10_hollowed_30 (by decide) ?_
          refine lv_iload_n (pc := 33) hx hb dX10_hollowed_33 rfl (lv_at hl 1 rfl) ?_
          refine rn_iadd (pc := 34) hx hb dX10_hollowed_34 ?_
          refine ra_iald (pc := 35) (k := 352 + x) (v := nI (f (352 + x))) hx hb hK hP 1 0 rfl rfl (by omega) (by decide) rfl dX10_hollowed_35 ?_
          refine lv_bipush (pc := 36) (v := nI 12) hx hb dX10_hollowed_36 (by decide) ?_
          refine rc_lt (pc := 38) (tgt := 43) hx hb (tI_nI (by omega)) (tI_nI (by omega)) dX10_hollowed_38 (by decide) (fun c38 => ?_) (fun c38 => ?_)
          · refine lv_aload_n (pc := 43) hx hb dX10_hollowed_43 rfl (lv_at hl 2 rfl) ?_
            refine lv_sipush (pc := 44) (v := nI 352) hx hb dX10_hollowed_44 (by decide) ?_
            refine lv_aload_n (pc := 47) hx hb dX10_hollowed_47 rfl (lv_at hl 2 rfl) ?_
            refine lv_sipush (pc := 48) (v := nI 352) hx hb dX10_hollowed_48 (by decide) ?_
            refine ci_Vd (pc := 51) (r0 := nI (opN P.2.2.2.2.2.1 (f (352 + 30)))) hF hN hK hP hV hS hA (k_X10_open l D cI cC cB cS o ad P I f 352 hp hpd (by omega)) (cwV 1 hts gX10_hollowed_X10_open rfl rfl rfl (by decide +kernel) ⟨Nat.le_of_ble_eq_true rfl, Nat.le_of_ble_eq_true rfl⟩) [0, 1] rfl (by decide) 0 10 rfl rfl rfl hl.1 rfl (Nat.le_of_ble_eq_true rfl) dX10_hollowed_51 ⟨Nat.le_refl _, Nat.le_refl _⟩ rfl (ws2 := [rmE o ad (pCells P) P.2.2.2.1 P.2.2.2.2.2.1 P.2.2.2.2.2.2 I, nE 384 (ad 25) cI f, nE 6 (ad 4) cI so, nE 6 (ad 5) cI cl, nE 6 (ad 6) cI de, nE 6 (ad 7) cI si, nE 3 (ad 11) cI ms]) rfl (fun H locs hP hS => ?_)
            have fq3 := opN_lt P.2.2.2.2.2.1 (by omega) (f (352 + 30)) (by omega)
            refine cv_Vd (pc := 54) hF hN hK hP hV hS hA (k_X10_goes l D cI cC cB cS o ad P I f so cl de si ms 352 (opN P.2.2.2.2.2.1 (f (352 + 30))) hp hfb hde hso hsi hms (by omega) (by omega) (by omega)) (cwV 2 hts gX10_hollowed_X10_goes rfl rfl rfl (by decide +kernel) ⟨Nat.le_of_ble_eq_true rfl, Nat.le_of_ble_eq_true rfl⟩) [0, 1, 2, 3, 4, 5, 6] rfl (by decide) 0 10 rfl rfl rfl hl.1 rfl (Nat.le_of_ble_eq_true rfl) dX10_hollowed_54 ⟨Nat.le_refl _, Nat.le_refl _⟩ rfl (ws2 := [rmE o ad (pCells P) P.2.2.2.1 P.2.2.2.2.2.1 P.2.2.2.2.2.2 I, nE 384 (ad 25) cI (rGo P so cl de si ms 352 (opN P.2.2.2.2.2.1 (f (352 + 30))) f), nE 6 (ad 4) cI so, nE 6 (ad 5) cI cl, nE 6 (ad 6) cI de, nE 6 (ad 7) cI si, nE 3 (ad 11) cI ms]) rfl (fun H locs hP hS => ?_)
            refine lv_iinc (pc := 57) (v := nI (k + 1)) (lv' := [(2, .int (nI (k + 1))), (1, .int (nI x)), (0, .ref o)]) hx hb dX10_hollowed_57 hl (k := 0) rfl (by rw [← nI_add]; rfl) (by decide) rfl (fun ls hl => ?_)
            refine lv_goto (pc := 60) (tgt := 20) hx hb dX10_hollowed_60 (by decide) ?_
            exact ih20 (k + 1) (rGo P so cl de si ms 352 (opN P.2.2.2.2.2.1 (f (352 + 30))) f) _ _ _ (by omega) (try_year hw hc hm hms hT hok.1 hok.2.2.2.1) (hol_s (by omega) (by omega) hh) (by omega) hP hS (lv_sub hl [0, 1, 2] rfl)
          · refine lv_iload_n (pc := 41) hx hb dX10_hollowed_41 rfl (lv_at hl 0 rfl) ?_
            exact hret 42 _ hP hS dX10_hollowed_42 rfl rfl ⟨(by unfold zHollowed; rw [if_pos (by omega), hol_z (by omega) (by omega) hh]; exact jI_nat _), f, rfl, hT.fin (by omega)⟩
    exact cut20 _ 0 (cpN sl 0 352 32) _ _ _ (Nat.zero_le _) (try_init hw hsb hf0) rfl (Nat.lt_succ_self _) hP hS (lv_sub hl [0, 2, 1] rfl)
  · refine lv_iconst (pc := 8) (v := jI (-1)) hx hb dX10_hollowed_8 (by decide) ?_
    exact hret 9 _ hP hS dX10_hollowed_9 rfl rfl ⟨(by unfold zHollowed; rw [if_neg (by omega)]), sl, rfl, tEnd.rf hsb⟩
