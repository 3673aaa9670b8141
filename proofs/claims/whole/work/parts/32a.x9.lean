abbrev rmX9_smoothOutcomes (d : Nat) : Room := { frames := d + 10, cells := 0, slots := 0, locals := 60 * d + 200 }
set_option maxHeartbeats 4000000 in
set_option maxRecDepth 100000 in
theorem k_X9_so0 (l : Launch) (D : va_G) (cI cC cB cS : ClassId) (p0 p1 p2 p3 : Nat) (P : PL) (mm : Nat) (hh : Nat) (n : Nat) (t : Nat) (hp : pOK P) (hmm : mm < 3) (hh9 : hh < 1000) (ht9 : t ≤ 10) (hnd : n = 0) (hn9 : n ≤ 20) : CI l D (kT cI cC cB cS) yX9_smoothOutcomes wsX9_smoothOutcomes (rmX9_smoothOutcomes 0) [.ref p0, .int (nI mm), .int (nI hh), .int (nI n), .int (nI t)] (plW p0 p1 p2 p3 cI P) (fun r u => r = nI (outN P mm t 0 hh) ∧ u = plW p0 p1 p2 p3 cI P) := by
  refine ci_intro (by decide) rfl (Nat.le_of_ble_eq_true rfl) ?_
  intro p e s m args below meth c ls A QF hF hK hP hV hS hA hN hl hret
  obtain ⟨hx, hb, hml, hown, hts⟩ := id hF
  have hP : va_P D vwCl (plW p0 p1 p2 p3 cI P) s.heap := hP
  have hl : lv_has ls 6 [(0, .ref p0), (1, .int (nI mm)), (2, .int (nI hh)), (3, .int (nI n)), (4, .int (nI t))] := hl
  refine lv_iload_n (pc := 0) hx hb dX9_smoothOutcomes_0 rfl (lv_at hl 3 rfl) ?_
  refine r0_gt (pc := 1) (tgt := 14) hx hb (tI_nI (by omega)) dX9_smoothOutcomes_1 (by decide) (fun c1 => ?_) (fun c1 => ?_)
  · omega
  · refine lv_iload_n (pc := 4) hx hb dX9_smoothOutcomes_4 rfl (lv_at hl 2 rfl) ?_
    refine r0_ne (pc := 5) (tgt := 12) hx hb (tI_nI (by omega)) dX9_smoothOutcomes_5 (by decide) (fun c5 => ?_) (fun c5 => ?_)
    · refine lv_iconst (pc := 12) (v := nI 0) hx hb dX9_smoothOutcomes_12 (by decide) ?_
      exact hret 13 _ hP hS dX9_smoothOutcomes_13 rfl rfl ⟨(by show _ = nI (if hh = 0 then 1 else 0); first | (rw [if_pos (by omega)]; done) | (rw [if_neg (by omega)]; done) | (rw [if_pos (by omega)]; rfl) | (rw [if_neg (by omega)]; rfl)), rfl⟩
    · refine lv_iconst (pc := 8) (v := nI 1) hx hb dX9_smoothOutcomes_8 (by decide) ?_
      refine lv_goto (pc := 9) (tgt := 13) hx hb dX9_smoothOutcomes_9 (by decide) ?_
      exact hret 13 _ hP hS dX9_smoothOutcomes_13 rfl rfl ⟨(by show _ = nI (if hh = 0 then 1 else 0); first | (rw [if_pos (by omega)]; done) | (rw [if_neg (by omega)]; done) | (rw [if_pos (by omega)]; rfl) | (rw [if_neg (by omega)]; rfl)), rfl⟩
set_option maxHeartbeats 4000000 in
set_option maxRecDepth 100000 in
theorem k_X9_soS (l : Launch) (D : va_G) (cI cC cB cS : ClassId) (d : Nat) (ih : ∀ (p0 p1 p2 p3 : Nat) (P : PL) (mm : Nat) (hh : Nat) (n : Nat) (t : Nat) (hp : pOK P) (hmm : mm < 3) (hh9 : hh < 1000) (ht9 : t ≤ 10) (hnd : n = d) (hn9 : n ≤ 20), CI l D (kT cI cC cB cS) yX9_smoothOutcomes wsX9_smoothOutcomes (rmX9_smoothOutcomes d) [.ref p0, .int (nI mm), .int (nI hh), .int (nI n), .int (nI t)] (plW p0 p1 p2 p3 cI P) (fun r u => r = nI (outN P mm t d hh) ∧ u = plW p0 p1 p2 p3 cI P)) (p0 p1 p2 p3 : Nat) (P : PL) (mm : Nat) (hh : Nat) (n : Nat) (t : Nat) (hp : pOK P) (hmm : mm < 3) (hh9 : hh < 1000) (ht9 : t ≤ 10) (hnd : n = d + 1) (hn9 : n ≤ 20) : CI l D (kT cI cC cB cS) yX9_smoothOutcomes wsX9_smoothOutcomes (rmX9_smoothOutcomes (d + 1)) [.ref p0, .int (nI mm), .int (nI hh), .int (nI n), .int (nI t)] (plW p0 p1 p2 p3 cI P) (fun r u => r = nI (outN P mm t (d + 1) hh) ∧ u = plW p0 p1 p2 p3 cI P) := by
  refine ci_intro (by decide) rfl (Nat.le_of_ble_eq_true rfl) ?_
  intro p e s m args below meth c ls A QF hF hK hP hV hS hA hN hl hret
  obtain ⟨hx, hb, hml, hown, hts⟩ := id hF
  have hP : va_P D vwCl (plW p0 p1 p2 p3 cI P) s.heap := hP
  have hl : lv_has ls 6 [(0, .ref p0), (1, .int (nI mm)), (2, .int (nI hh)), (3, .int (nI n)), (4, .int (nI t))] := hl
  have mk_max_s := hts (.static Lib.Math.max.name) (by decide +kernel)
  have mk_max_i := hts (.initialized "java/lang/Math") (by decide +kernel)
  have mk_max_c := hts (.code Lib.Math.max.name Lib.Math.max.code 2 (some .int)) (by decide +kernel)
  have mk_max_269 := hts (.methodLink RX9 269 Lib.Math.max.name) (by decide +kernel)
  refine lv_iload_n (pc := 0) hx hb dX9_smoothOutcomes_0 rfl (lv_at hl 3 rfl) ?_
  refine r0_gt (pc := 1) (tgt := 14) hx hb (tI_nI (by omega)) dX9_smoothOutcomes_1 (by decide) (fun c1 => ?_) (fun c1 => ?_)
  · refine lv_iconst (pc := 14) (v := nI 0) hx hb dX9_smoothOutcomes_14 (by decide) ?_
    refine lv_iload_n (pc := 15) hx hb dX9_smoothOutcomes_15 rfl (lv_at hl 2 rfl) ?_
    refine lv_aload_n (pc := 16) hx hb dX9_smoothOutcomes_16 rfl (lv_at hl 0 rfl) ?_
    refine lv_iload_n (pc := 17) hx hb dX9_smoothOutcomes_17 rfl (lv_at hl 1 rfl) ?_
    refine lv_iload_n (pc := 18) hx hb dX9_smoothOutcomes_18 rfl (lv_at hl 2 rfl) ?_
    refine ci_Vd (pc := 19) (r0 := nI (takeS P mm hh)) hF hN hK hP hV hS hA (k_X2_takes l D cI cC cB cS p0 p1 p2 p3 P mm hh hp hmm hh9) (cwV 2 hts gX9_smoothOutcomes_X2_takes rfl rfl rfl (by decide +kernel) ⟨Nat.le_of_ble_eq_true rfl, Nat.le_of_ble_eq_true rfl⟩) [0, 1, 2, 3] rfl (by decide) 0 2 rfl rfl rfl hl.1 rfl (Nat.le_of_ble_eq_true rfl) dX9_smoothOutcomes_19 ⟨Nat.le_refl _, Nat.le_refl _⟩ rfl (ws2 := plW p0 p1 p2 p3 cI P) rfl (fun H locs hP hS => ?_)
    have fq1 := takeS_le hp mm hh
    refine rz_isub (pc := 22) hx hb (jI_nat _) (jI_nat _) dX9_smoothOutcomes_22 ?_
    refine va_mmax (pc := 23) hx hb (hml.trans hl.1.symm) hown mk_max_269 mk_max_s mk_max_i mk_max_c (Nat.le_of_ble_eq_true rfl) (Nat.le_of_ble_eq_true rfl) (Nat.le_refl _) (Nat.le_refl _) dX9_smoothOutcomes_23 ?_
    refine r_top (jI_max (show nI 0 = jI 0 from jI_nat 0) rfl (by omega) (by omega)) ?_
    refine r_top (show _ = nI (hh - takeS P mm hh) from (by rw [jI_nat]; congr 1; omega)) ?_
    refine lv_istore (pc := 26) (lv' := [(5, .int (nI (hh - takeS P mm hh))), (0, .ref p0), (1, .int (nI mm)), (2, .int (nI hh)), (3, .int (nI n)), (4, .int (nI t))]) hx hb dX9_smoothOutcomes_26 hl (by decide) rfl (fun ls hl => ?_)
    refine lv_iload (pc := 28) hx hb dX9_smoothOutcomes_28 (lv_at hl 5 rfl) ?_
    refine lv_aload_n (pc := 30) hx hb dX9_smoothOutcomes_30 rfl (lv_at hl 1 rfl) ?_
    refine lv_iload_n (pc := 31) hx hb dX9_smoothOutcomes_31 rfl (lv_at hl 2 rfl) ?_
    refine lv_iload_n (pc := 32) hx hb dX9_smoothOutcomes_32 rfl (lv_at hl 3 rfl) ?_
    refine lv_iload_n (pc := 33) hx hb dX9_smoothOutcomes_33 rfl (lv_at hl 4 rfl) ?_
    refine lv_iconst (pc := 34) (v := nI 1) hx hb dX9_smoothOutcomes_34 (by decide) ?_
    refine rn_isub (pc := 35) hx hb (by omega) dX9_smoothOutcomes_35 ?_
    refine lv_iload (pc := 36) hx hb dX9_smoothOutcomes_36 (lv_at hl 5 rfl) ?_
    refine ci_Sd (pc := 38) hF hN hK hP hV hS hA (ih p0 p1 p2 p3 P mm hh (n - 1) t hp hmm hh9 ht9 (by omega) (by omega)) (va_cwS 5 hts gX9_smoothOutcomes_X9_smoothOutcomes rfl rfl rfl (by decide +kernel) ⟨(by show d + 10 + 1 ≤ d + 1 + 10; omega), (by show 8 + (6 + 11) + (60 * d + 200) ≤ 60 * (d + 1) + 200; omega)⟩) [0, 1, 2, 3] rfl (by decide) rfl hl.1 rfl (Nat.le_of_ble_eq_true rfl) dX9_smoothOutcomes_38 ⟨Nat.le_refl _, Nat.le_refl _⟩ rfl (ws2 := plW p0 p1 p2 p3 cI P) rfl (fun H locs hP hS => ?_)
    refine rn_imul (pc := 41) hx hb dX9_smoothOutcomes_41 ?_
    refine lv_bipush (pc := 42) (v := nI 10) hx hb dX9_smoothOutcomes_42 (by decide) ?_
    refine lv_iload (pc := 44) hx hb dX9_smoothOutcomes_44 (lv_at hl 5 rfl) ?_
    refine rn_isub (pc := 46) hx hb (by omega) dX9_smoothOutcomes_46 ?_
    refine lv_aload_n (pc := 47) hx hb dX9_smoothOutcomes_47 rfl (lv_at hl 1 rfl) ?_
    refine lv_iload_n (pc := 48) hx hb dX9_smoothOutcomes_48 rfl (lv_at hl 2 rfl) ?_
    refine lv_iload (pc := 49) hx hb dX9_smoothOutcomes_49 (lv_at hl 0 rfl) ?_
    refine lv_iload_n (pc := 51) hx hb dX9_smoothOutcomes_51 rfl (lv_at hl 4 rfl) ?_
    refine lv_iconst (pc := 52) (v := nI 1) hx hb dX9_smoothOutcomes_52 (by decide) ?_
    refine rn_isub (pc := 53) hx hb (by omega) dX9_smoothOutcomes_53 ?_
    refine lv_iload (pc := 54) hx hb dX9_smoothOutcomes_54 (lv_at hl 5 rfl) ?_
    refine ci_Sd (pc := 56) hF hN hK hP hV hS hA (ih p0 p1 p2 p3 P mm (hh - takeS P mm hh) (n - 1) t hp hmm (by omega) ht9 (by omega) (by omega)) (va_cwS 5 hts gX9_smoothOutcomes_X9_smoothOutcomes rfl rfl rfl (by decide +kernel) ⟨(by show d + 10 + 1 ≤ d + 1 + 10; omega), (by show 8 + (6 + 11) + (60 * d + 200) ≤ 60 * (d + 1) + 200; omega)⟩) [0, 1, 2, 3] rfl (by decide) rfl hl.1 rfl (Nat.le_of_ble_eq_true rfl) dX9_smoothOutcomes_56 ⟨Nat.le_refl _, Nat.le_refl _⟩ rfl (ws2 := plW p0 p1 p2 p3 cI P) rfl (fun H locs hP hS => ?_)
    refine rn_imul (pc := 59) hx hb dX9_smoothOutcomes_59 ?_
    refine rn_iadd (pc := 60) hx hb dX9_smoothOutcomes_60 ?_
    exact hret 61 _ hP hS dX9_smoothOutcomes_61 rfl rfl ⟨rfl, rfl⟩
  · omega
theorem k_X9_soAll (l : Launch) (D : va_G) (cI cC cB cS : ClassId) : ∀ (d : Nat) (p0 p1 p2 p3 : Nat) (P : PL) (mm : Nat) (hh : Nat) (n : Nat) (t : Nat) (hp : pOK P) (hmm : mm < 3) (hh9 : hh < 1000) (ht9 : t ≤ 10) (hnd : n = d) (hn9 : n ≤ 20), CI l D (kT cI cC cB cS) yX9_smoothOutcomes wsX9_smoothOutcomes (rmX9_smoothOutcomes d) [.ref p0, .int (nI mm), .int (nI hh), .int (nI n), .int (nI t)] (plW p0 p1 p2 p3 cI P) (fun r u => r = nI (outN P mm t d hh) ∧ u = plW p0 p1 p2 p3 cI P) := by
  intro d
  induction d with
  | zero => exact fun p0 p1 p2 p3 P mm hh n t hp hmm hh9 ht9 hnd hn9 => k_X9_so0 l D cI cC cB cS p0 p1 p2 p3 P mm hh n t hp hmm hh9 ht9 hnd hn9
  | succ d ih => exact fun p0 p1 p2 p3 P mm hh n t hp hmm hh9 ht9 hnd hn9 => k_X9_soS l D cI cC cB cS d ih p0 p1 p2 p3 P mm hh n t hp hmm hh9 ht9 hnd hn9
