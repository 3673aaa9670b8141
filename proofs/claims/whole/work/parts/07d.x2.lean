abbrev rmX2_takes : Room := { frames := 1, cells := 0, slots := 0, locals := 23 }
set_option maxHeartbeats 4000000 in
set_option maxRecDepth 100000 in
theorem k_X2_takes (l : Launch) (D : va_G) (cI cC cB cS : ClassId) (p0 p1 p2 p3 : Nat) (P : PL) (k : Nat) (h : Nat) (hp : pOK P) (hk : k < 3) (hh : h < 1000) : CI l D (kT cI cC cB cS) yX2_takes wsX2_takes rmX2_takes [.ref p0, .int (nI k), .int (nI h)] (plW p0 p1 p2 p3 cI P) (fun r u => r = nI (takeS P k h) ∧ u = plW p0 p1 p2 p3 cI P) := by
  refine ci_intro (by decide) rfl (Nat.le_of_ble_eq_true rfl) ?_
  intro p e s m args below meth c ls A QF hF hK hP hV hS hA hN hl hret
  obtain ⟨hx, hb, hml, hown, hts⟩ := id hF
  have hP : va_P D vwCl (plW p0 p1 p2 p3 cI P) s.heap := hP
  have hl : lv_has ls 4 [(0, .ref p0), (1, .int (nI k)), (2, .int (nI h))] := hl
  refine lv_aload_n (pc := 0) hx hb dX2_takes_0 rfl (lv_at hl 0 rfl) ?_
  refine lv_iload_n (pc := 1) hx hb dX2_takes_1 rfl (lv_at hl 1 rfl) ?_
  refine lv_iconst (pc := 2) (v := nI 1) hx hb dX2_takes_2 (by decide) ?_
  refine ci_Vd (pc := 3) (r0 := nI (P.2.2.1 (k * 4 + 1))) hF hN hK hP hV hS hA (k_X2_ofMaid l D cI cC cB cS p0 p1 p2 p3 P k 1 hp hk (by omega)) (cwV 2 hts gX2_takes_X2_ofMaid rfl rfl rfl (by decide +kernel) ⟨Nat.le_of_ble_eq_true rfl, Nat.le_of_ble_eq_true rfl⟩) [0, 1, 2, 3] rfl (by decide) 0 2 rfl rfl rfl hl.1 rfl (Nat.le_of_ble_eq_true rfl) dX2_takes_3 ⟨Nat.le_refl _, Nat.le_refl _⟩ rfl (ws2 := plW p0 p1 p2 p3 cI P) rfl (fun H locs hP hS => ?_)
  have fq1 := hp.2.2.1 (k * 4 + 1)
  refine lv_istore_n (pc := 6) (lv' := [(3, .int (nI (P.2.2.1 (k * 4 + 1)))), (0, .ref p0), (1, .int (nI k)), (2, .int (nI h))]) hx hb dX2_takes_6 rfl hl (by decide) rfl (fun ls hl => ?_)
  refine lv_aload_n (pc := 7) hx hb dX2_takes_7 rfl (lv_at hl 1 rfl) ?_
  refine lv_iload_n (pc := 8) hx hb dX2_takes_8 rfl (lv_at hl 2 rfl) ?_
  refine lv_iconst (pc := 9) (v := nI 0) hx hb dX2_takes_9 (by decide) ?_
  refine ci_Vd (pc := 10) (r0 := nI (P.2.2.1 (k * 4 + 0))) hF hN hK hP hV hS hA (k_X2_ofMaid l D cI cC cB cS p0 p1 p2 p3 P k 0 hp hk (by omega)) (cwV 2 hts gX2_takes_X2_ofMaid rfl rfl rfl (by decide +kernel) ⟨Nat.le_of_ble_eq_true rfl, Nat.le_of_ble_eq_true rfl⟩) [0, 1, 2, 3] rfl (by decide) 0 2 rfl rfl rfl hl.1 rfl (Nat.le_of_ble_eq_true rfl) dX2_takes_10 ⟨Nat.le_refl _, Nat.le_refl _⟩ rfl (ws2 := plW p0 p1 p2 p3 cI P) rfl (fun H locs hP hS => ?_)
  have fq2 := hp.2.2.1 (k * 4 + 0)
  have ex13 : (nI (P.2.2.1 (k * 4 + 0))).toInt = ((P.2.2.1 (k * 4 + 0) : Nat) : Int) := (tI_nI (by omega))
  rcases (show (((P.2.2.1 (k * 4 + 0) : Nat) : Int) ≠ 2 ∧ ((P.2.2.1 (k * 4 + 0) : Nat) : Int) ≠ 3) ∨ ((P.2.2.1 (k * 4 + 0) : Nat) : Int) = 2 ∨ ((P.2.2.1 (k * 4 + 0) : Nat) : Int) = 3 by omega) with c13 | c13 | c13
  · refine lv_lookup (pc := 13) (tgt := 61) hx hb dX2_takes_13 (by decide) (look_2 (by rw [ex13]; exact c13)) (by decide) ?_
    refine lv_iload_n (pc := 61) hx hb dX2_takes_61 rfl (lv_at hl 0 rfl) ?_
    exact hret 62 _ hP hS dX2_takes_62 rfl rfl ⟨(by unfold takeS; (repeat' split) <;> first | omega | rfl), rfl⟩
  · refine lv_lookup (pc := 13) (tgt := 40) hx hb dX2_takes_13 (by decide) (by rw [ex13, c13] <;> rfl) (by decide) ?_
    refine lv_iconst (pc := 40) (v := nI 1) hx hb dX2_takes_40 (by decide) ?_
    refine lv_iload_n (pc := 41) hx hb dX2_takes_41 rfl (lv_at hl 0 rfl) ?_
    refine lv_iconst (pc := 42) (v := nI 2) hx hb dX2_takes_42 (by decide) ?_
    refine rn_idiv (pc := 43) hx hb (by omega) (by omega) dX2_takes_43 ?_
    refine rn_iadd (pc := 44) hx hb dX2_takes_44 ?_
    exact hret 45 _ hP hS dX2_takes_45 rfl rfl ⟨(by unfold takeS; (repeat' split) <;> first | omega | rfl), rfl⟩
  · refine lv_lookup (pc := 13) (tgt := 46) hx hb dX2_takes_13 (by decide) (by rw [ex13, c13] <;> rfl) (by decide) ?_
    refine lv_iload_n (pc := 46) hx hb dX2_takes_46 rfl (lv_at hl 3 rfl) ?_
    refine ci_SN (pc := 47) hF hN hK hP hV hS hA (k_X9_isHollow l D cI cC cB cS (nI h) ((h : Nat) : Int) (tI_nI (by omega))) ⟨va_cnB 1 hts ggX2_takes_X9_isHollow rfl rfl rfl (hN _ (List.mem_of_getElem? (i := 9) rfl)) (hts _ (by decide +kernel)) (by decide +kernel) ⟨Nat.le_of_ble_eq_true rfl, Nat.le_of_ble_eq_true rfl⟩, hts _ (by decide +kernel), trivial⟩ rfl hl.1 rfl (Nat.le_of_ble_eq_true rfl) dX2_takes_47 ⟨Nat.le_refl _, Nat.le_refl _⟩ rfl (fun H locs hP hS => ?_)
    refine rb_eq (pc := 50) (tgt := 57) hx hb dX2_takes_50 (by decide) (fun c50 => ?_) (fun c50 => ?_)
    · refine lv_iconst (pc := 57) (v := nI 2) hx hb dX2_takes_57 (by decide) ?_
      refine lv_iload_n (pc := 58) hx hb dX2_takes_58 rfl (lv_at hl 0 rfl) ?_
      refine rn_imul (pc := 59) hx hb dX2_takes_59 ?_
      exact hret 60 _ hP hS dX2_takes_60 rfl rfl ⟨(by unfold takeS; (repeat' split) <;> first | omega | rfl), rfl⟩
    · refine lv_iconst (pc := 53) (v := nI 0) hx hb dX2_takes_53 (by decide) ?_
      refine lv_goto (pc := 54) (tgt := 60) hx hb dX2_takes_54 (by decide) ?_
      exact hret 60 _ hP hS dX2_takes_60 rfl rfl ⟨(by unfold takeS; (repeat' split) <;> first | omega | rfl), rfl⟩
abbrev rmX2_takesAfter : Room := { frames := 1, cells := 0, slots := 0, locals := 23 }
set_option maxHeartbeats 4000000 in
set_option maxRecDepth 100000 in
theorem k_X2_takesAfter (l : Launch) (D : va_G) (cI cC cB cS : ClassId) (p0 p1 p2 p3 : Nat) (P : PL) (k : Nat) (hp : pOK P) (hk : k < 3) : CI l D (kT cI cC cB cS) yX2_takesAfter wsX2_takesAfter rmX2_takesAfter [.ref p0, .int (nI k)] (plW p0 p1 p2 p3 cI P) (fun r u => r = nI (takeA P k) ∧ u = plW p0 p1 p2 p3 cI P) := by
  refine ci_intro (by decide) rfl (Nat.le_of_ble_eq_true rfl) ?_
  intro p e s m args below meth c ls A QF hF hK hP hV hS hA hN hl hret
  obtain ⟨hx, hb, hml, hown, hts⟩ := id hF
  have hP : va_P D vwCl (plW p0 p1 p2 p3 cI P) s.heap := hP
  have hl : lv_has ls 2 [(0, .ref p0), (1, .int (nI k))] := hl
  refine lv_aload_n (pc := 0) hx hb dX2_takesAfter_0 rfl (lv_at hl 0 rfl) ?_
  refine lv_iload_n (pc := 1) hx hb dX2_takesAfter_1 rfl (lv_at hl 1 rfl) ?_
  refine lv_iconst (pc := 2) (v := nI 0) hx hb dX2_takesAfter_2 (by decide) ?_
  refine ci_Vd (pc := 3) (r0 := nI (P.2.2.1 (k * 4 + 0))) hF hN hK hP hV hS hA (k_X2_ofMaid l D cI cC cB cS p0 p1 p2 p3 P k 0 hp hk (by omega)) (cwV 2 hts gX2_takesAfter_X2_ofMaid rfl rfl rfl (by decide +kernel) ⟨Nat.le_of_ble_eq_true rfl, Nat.le_of_ble_eq_true rfl⟩) [0, 1, 2, 3] rfl (by decide) 0 2 rfl rfl rfl hl.1 rfl (Nat.le_of_ble_eq_true rfl) dX2_takesAfter_3 ⟨Nat.le_refl _, Nat.le_refl _⟩ rfl (ws2 := plW p0 p1 p2 p3 cI P) rfl (fun H locs hP hS => ?_)
  have fq1 := hp.2.2.1 (k * 4 + 0)
  refine lv_iconst (pc := 6) (v := nI 1) hx hb dX2_takesAfter_6 (by decide) ?_
  refine rc_ne (pc := 7) (tgt := 21) hx hb (tI_nI (by omega)) (tI_nI (by omega)) dX2_takesAfter_7 (by decide) (fun c7 => ?_) (fun c7 => ?_)
  · refine lv_iconst (pc := 21) (v := nI 0) hx hb dX2_takesAfter_21 (by decide) ?_
    exact hret 22 _ hP hS dX2_takesAfter_22 rfl rfl ⟨(by unfold takeA; (repeat' split) <;> first | omega | rfl), rfl⟩
  · refine lv_aload_n (pc := 10) hx hb dX2_takesAfter_10 rfl (lv_at hl 0 rfl) ?_
    refine lv_iload_n (pc := 11) hx hb dX2_takesAfter_11 rfl (lv_at hl 1 rfl) ?_
    refine lv_iconst (pc := 12) (v := nI 1) hx hb dX2_takesAfter_12 (by decide) ?_
    refine ci_Vd (pc := 13) (r0 := nI (P.2.2.1 (k * 4 + 1))) hF hN hK hP hV hS hA (k_X2_ofMaid l D cI cC cB cS p0 p1 p2 p3 P k 1 hp hk (by omega)) (cwV 2 hts gX2_takesAfter_X2_ofMaid rfl rfl rfl (by decide +kernel) ⟨Nat.le_of_ble_eq_true rfl, Nat.le_of_ble_eq_true rfl⟩) [0, 1, 2, 3] rfl (by decide) 0 2 rfl rfl rfl hl.1 rfl (Nat.le_of_ble_eq_true rfl) dX2_takesAfter_13 ⟨Nat.le_refl _, Nat.le_refl _⟩ rfl (ws2 := plW p0 p1 p2 p3 cI P) rfl (fun H locs hP hS => ?_)
    have fq2 := hp.2.2.1 (k * 4 + 1)
    refine lv_iconst (pc := 16) (v := nI 2) hx hb dX2_takesAfter_16 (by decide) ?_
    refine rn_idiv (pc := 17) hx hb (by omega) (by omega) dX2_takesAfter_17 ?_
    refine lv_goto (pc := 18) (tgt := 22) hx hb dX2_takesAfter_18 (by decide) ?_
    exact hret 22 _ hP hS dX2_takesAfter_22 rfl rfl ⟨(by unfold takeA; (repeat' split) <;> first | omega | rfl), rfl⟩
abbrev rmX2_canStrike : Room := { frames := 2, cells := 0, slots := 0, locals := 46 }
set_option maxHeartbeats 4000000 in
set_option maxRecDepth 100000 in
theorem k_X2_canStrike (l : Launch) (D : va_G) (cI cC cB cS : ClassId) (p0 p1 p2 p3 : Nat) (P : PL) (s0 s1 s2 s3 : Nat) (S : ST) (k : Nat) (x : Nat) (hp : pOK P) (hk : k < 3) (hle : S.2.1 k < 1000) (hpl : S.2.2.1 k < pCells P) (hxc : x < pCells P) : CI l D (kT cI cC cB cS) yX2_canStrike wsX2_canStrike rmX2_canStrike [.ref p0, .ref s0, .int (nI k), .int (nI x)] (plW p0 p1 p2 p3 cI P ++ stW s0 s1 s2 s3 cI S) (fun r u => r = nI (if canS P S k x then 1 else 0) ∧ u = plW p0 p1 p2 p3 cI P ++ stW s0 s1 s2 s3 cI S) := by
  refine ci_intro (by decide) rfl (Nat.le_of_ble_eq_true rfl) ?_
  intro p e s m args below meth c ls A QF hF hK hP hV hS hA hN hl hret
  obtain ⟨hx, hb, hml, hown, hts⟩ := id hF
  have hP : va_P D vwCl (plW p0 p1 p2 p3 cI P ++ stW s0 s1 s2 s3 cI S) s.heap := hP
  have hl : lv_has ls 4 [(0, .ref p0), (1, .ref s0), (2, .int (nI k)), (3, .int (nI x))] := hl
  refine lv_aload_n (pc := 0) hx hb dX2_canStrike_0 rfl (lv_at hl 1 rfl) ?_
  refine lv_iload_n (pc := 1) hx hb dX2_canStrike_1 rfl (lv_at hl 2 rfl) ?_
  refine ci_Vd (pc := 2) (r0 := nI (S.2.1 k)) hF hN hK hP hV hS hA (k_X8_leftTo l D cI cC cB cS s0 s1 s2 s3 S k hk) (cwV 1 hts gX2_canStrike_X8_leftTo rfl rfl rfl (by decide +kernel) ⟨Nat.le_of_ble_eq_true rfl, Nat.le_of_ble_eq_true rfl⟩) [4, 5, 6, 7] rfl (by decide) 0 8 rfl rfl rfl hl.1 rfl (Nat.le_of_ble_eq_true rfl) dX2_canStrike_2 ⟨Nat.le_refl _, Nat.le_refl _⟩ rfl (ws2 := plW p0 p1 p2 p3 cI P ++ stW s0 s1 s2 s3 cI S) rfl (fun H locs hP hS => ?_)
  refine r0_le (pc := 5) (tgt := 25) hx hb (tI_nI (by omega)) dX2_canStrike_5 (by decide) (fun c5 => ?_) (fun c5 => ?_)
  · refine lv_iconst (pc := 25) (v := nI 0) hx hb dX2_canStrike_25 (by decide) ?_
    exact hret 26 _ hP hS dX2_canStrike_26 rfl rfl ⟨(by first | rw [if_neg (fun q => c18 q.2)] | rw [if_neg (fun q => absurd q.1 (by omega))]), rfl⟩
  · refine lv_aload_n (pc := 8) hx hb dX2_canStrike_8 rfl (lv_at hl 0 rfl) ?_
    refine lv_aload_n (pc := 9) hx hb dX2_canStrike_9 rfl (lv_at hl 1 rfl) ?_
    refine lv_iload_n (pc := 10) hx hb dX2_canStrike_10 rfl (lv_at hl 2 rfl) ?_
    refine ci_Vd (pc := 11) (r0 := nI (S.2.2.1 k)) hF hN hK hP hV hS hA (k_X8_placeOf l D cI cC cB cS s0 s1 s2 s3 S k hk) (cwV 1 hts gX2_canStrike_X8_placeOf rfl rfl rfl (by decide +kernel) ⟨Nat.le_of_ble_eq_true rfl, Nat.le_of_ble_eq_true rfl⟩) [4, 5, 6, 7] rfl (by decide) 0 8 rfl rfl rfl hl.1 rfl (Nat.le_of_ble_eq_true rfl) dX2_canStrike_11 ⟨Nat.le_refl _, Nat.le_refl _⟩ rfl (ws2 := plW p0 p1 p2 p3 cI P ++ stW s0 s1 s2 s3 cI S) rfl (fun H locs hP hS => ?_)
    refine lv_iload_n (pc := 14) hx hb dX2_canStrike_14 rfl (lv_at hl 3 rfl) ?_
    refine ci_Vd (pc := 15) (r0 := nI (if reach P (S.2.2.1 k) x then 1 else 0)) hF hN hK hP hV hS hA (k_X2_reaches l D cI cC cB cS p0 p1 p2 p3 P (S.2.2.1 k) x hp hpl hxc) (cwV 2 hts gX2_canStrike_X2_reaches rfl rfl rfl (by decide +kernel) ⟨Nat.le_of_ble_eq_true rfl, Nat.le_of_ble_eq_true rfl⟩) [0, 1, 2, 3] rfl (by decide) 0 2 rfl rfl rfl hl.1 rfl (Nat.le_of_ble_eq_true rfl) dX2_canStrike_15 ⟨Nat.le_refl _, Nat.le_refl _⟩ rfl (ws2 := plW p0 p1 p2 p3 cI P ++ stW s0 s1 s2 s3 cI S) rfl (fun H locs hP hS => ?_)
    refine rb_eq (pc := 18) (tgt := 25) hx hb dX2_canStrike_18 (by decide) (fun c18 => ?_) (fun c18 => ?_)
    · refine lv_iconst (pc := 25) (v := nI 0) hx hb dX2_canStrike_25 (by decide) ?_
      exact hret 26 _ hP hS dX2_canStrike_26 rfl rfl ⟨(by first | rw [if_neg (fun q => c18 q.2)] | rw [if_neg (fun q => absurd q.1 (by omega))]), rfl⟩
    · refine lv_iconst (pc := 21) (v := nI 1) hx hb dX2_canStrike_21 (by decide) ?_
      refine lv_goto (pc := 22) (tgt := 26) hx hb dX2_canStrike_22 (by decide) ?_
      exact hret 26 _ hP hS dX2_canStrike_26 rfl rfl ⟨(by rw [if_pos ⟨by omega, c18⟩]), rfl⟩
