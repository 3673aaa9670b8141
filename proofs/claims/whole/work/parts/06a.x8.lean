abbrev rmX8_highAt : Room := { frames := 0, cells := 0, slots := 0, locals := 0 }
set_option maxHeartbeats 4000000 in
set_option maxRecDepth 100000 in
theorem k_X8_highAt (l : Launch) (D : va_G) (cI cC cB cS : ClassId) (s0 s1 s2 s3 : Nat) (S : ST) (x : Int32) (z : Int) (hz : x.toInt = z) : CI l D (kT cI cC cB cS) yX8_highAt wsX8_highAt rmX8_highAt [.ref s0, .int (x)] (stW s0 s1 s2 s3 cI S) (fun r u => r = nI (sAt S z) ∧ u = stW s0 s1 s2 s3 cI S) := by
  refine ci_intro (by decide) rfl (Nat.le_of_ble_eq_true rfl) ?_
  intro p e s m args below meth c ls A QF hF hK hP hV hS hA hN hl hret
  obtain ⟨hx, hb, hml, hown, hts⟩ := id hF
  have hP : va_P D vwCl (stW s0 s1 s2 s3 cI S) s.heap := hP
  have hl : lv_has ls 2 [(0, .ref s0), (1, .int (x))] := hl
  have wf9 := hts (.fieldLink RX8 9 "RemorseWall$Standing" "high" "[I") (by decide +kernel)
  have hiX8 : ∀ w ∈ u_ws RX8 TX8 5, w ∈ wsX8_highAt := by decide +kernel
  refine lv_iload_n (pc := 0) hx hb dX8_highAt_0 rfl (lv_at hl 1 rfl) ?_
  refine r0_lt (pc := 1) (tgt := 22) hx hb hz dX8_highAt_1 (by decide) (fun c1 => ?_) (fun c1 => ?_)
  · refine lv_iconst (pc := 22) (v := nI 0) hx hb dX8_highAt_22 (by decide) ?_
    exact hret 23 _ hP hS dX8_highAt_23 rfl rfl ⟨(by simp only [sAt]; split <;> first | omega | rfl), rfl⟩
  · refine lv_iload_n (pc := 4) hx hb dX8_highAt_4 rfl (lv_at hl 1 rfl) ?_
    refine lv_aload_n (pc := 5) hx hb dX8_highAt_5 rfl (lv_at hl 0 rfl) ?_
    refine va_get (pc := 6) (D := D) (ci := 8) (v := .ref s1) (C := RX8) (T := TX8) (N := 5) hx hb hts hiX8 hown hK hP 0 rfl rfl 0 (by decide) wf9 (fun _ h9 => h9) rfl dX8_highAt_6 ?_
    refine va_alen (pc := 9) (v := nI 24) hx hb hK hP 1 0 rfl rfl rfl dX8_highAt_9 ?_
    refine rc_ge (pc := 10) (tgt := 22) hx hb hz (tI_nI (by omega)) dX8_highAt_10 (by decide) (fun c10 => ?_) (fun c10 => ?_)
    · refine lv_iconst (pc := 22) (v := nI 0) hx hb dX8_highAt_22 (by decide) ?_
      exact hret 23 _ hP hS dX8_highAt_23 rfl rfl ⟨(by simp only [sAt]; split <;> first | omega | rfl), rfl⟩
    · obtain ⟨k, rfl⟩ : ∃ k : Nat, z = k := ⟨z.toNat, by omega⟩
      obtain rfl : x = nI k := eq_nI hz
      refine lv_aload_n (pc := 13) hx hb dX8_highAt_13 rfl (lv_at hl 0 rfl) ?_
      refine va_get (pc := 14) (D := D) (ci := 8) (v := .ref s1) (C := RX8) (T := TX8) (N := 5) hx hb hts hiX8 hown hK hP 0 rfl rfl 0 (by decide) wf9 (fun _ h9 => h9) rfl dX8_highAt_14 ?_
      refine lv_iload_n (pc := 17) hx hb dX8_highAt_17 rfl (lv_at hl 1 rfl) ?_
      refine ra_iald (pc := 18) (k := k) (v := nI (S.1 k)) hx hb hK hP 1 0 rfl rfl (by omega) (by decide) rfl dX8_highAt_18 ?_
      refine lv_goto (pc := 19) (tgt := 23) hx hb dX8_highAt_19 (by decide) ?_
      exact hret 23 _ hP hS dX8_highAt_23 rfl rfl ⟨(by simp only [sAt]; split <;> first | omega | rfl), rfl⟩
abbrev rmX8_setHigh : Room := { frames := 1, cells := 0, slots := 0, locals := 24 }
set_option maxHeartbeats 4000000 in
set_option maxRecDepth 100000 in
theorem k_X8_setHigh (l : Launch) (D : va_G) (cI cC cB cS : ClassId) (s0 s1 s2 s3 : Nat) (S : ST) (x : Int32) (z : Int) (hz : x.toInt = z) (h : Int32) (zh : Int) (hzh : h.toInt = zh) (hb31 : -1073741824 ≤ zh ∧ zh < 1073741824) : CV l D (kT cI cC cB cS) yX8_setHigh wsX8_setHigh rmX8_setHigh [.ref s0, .int (x), .int (h)] (stW s0 s1 s2 s3 cI S) (fun u => u = stW s0 s1 s2 s3 cI (sSet S z (clH zh))) := by
  refine cv_intro (by decide) rfl (Nat.le_of_ble_eq_true rfl) ?_
  intro p e s m args below meth c ls A QF hF hK hP hV hS hA hN hl hret
  obtain ⟨hx, hb, hml, hown, hts⟩ := id hF
  have hP : va_P D vwCl (stW s0 s1 s2 s3 cI S) s.heap := hP
  have hl : lv_has ls 3 [(0, .ref s0), (1, .int (x)), (2, .int (h))] := hl
  have wf9 := hts (.fieldLink RX8 9 "RemorseWall$Standing" "high" "[I") (by decide +kernel)
  have hiX8 : ∀ w ∈ u_ws RX8 TX8 5, w ∈ wsX8_setHigh := by decide +kernel
  have mk_min_s := hts (.static Lib.Math.min.name) (by decide +kernel)
  have mk_min_i := hts (.initialized "java/lang/Math") (by decide +kernel)
  have mk_min_c := hts (.code Lib.Math.min.name Lib.Math.min.code 2 (some .int)) (by decide +kernel)
  have mk_max_s := hts (.static Lib.Math.max.name) (by decide +kernel)
  have mk_max_i := hts (.initialized "java/lang/Math") (by decide +kernel)
  have mk_max_c := hts (.code Lib.Math.max.name Lib.Math.max.code 2 (some .int)) (by decide +kernel)
  have mk_max_46 := hts (.methodLink RX8 46 Lib.Math.max.name) (by decide +kernel)
  have mk_min_40 := hts (.methodLink RX8 40 Lib.Math.min.name) (by decide +kernel)
  refine lv_iload_n (pc := 0) hx hb dX8_setHigh_0 rfl (lv_at hl 1 rfl) ?_
  refine r0_lt (pc := 1) (tgt := 29) hx hb hz dX8_setHigh_1 (by decide) (fun c1 => ?_) (fun c1 => ?_)
  · exact hret 29 _ hP hS dX8_setHigh_29 rfl (by simp only [sSet]; split <;> first | omega | rfl)
  · refine lv_iload_n (pc := 4) hx hb dX8_setHigh_4 rfl (lv_at hl 1 rfl) ?_
    refine lv_aload_n (pc := 5) hx hb dX8_setHigh_5 rfl (lv_at hl 0 rfl) ?_
    refine va_get (pc := 6) (D := D) (ci := 8) (v := .ref s1) (C := RX8) (T := TX8) (N := 5) hx hb hts hiX8 hown hK hP 0 rfl rfl 0 (by decide) wf9 (fun _ h9 => h9) rfl dX8_setHigh_6 ?_
    refine va_alen (pc := 9) (v := nI 24) hx hb hK hP 1 0 rfl rfl rfl dX8_setHigh_9 ?_
    refine rc_ge (pc := 10) (tgt := 29) hx hb hz (tI_nI (by omega)) dX8_setHigh_10 (by decide) (fun c10 => ?_) (fun c10 => ?_)
    · exact hret 29 _ hP hS dX8_setHigh_29 rfl (by simp only [sSet]; split <;> first | omega | rfl)
    · obtain ⟨k, rfl⟩ : ∃ k : Nat, z = k := ⟨z.toNat, by omega⟩
      obtain rfl : x = nI k := eq_nI hz
      refine lv_aload_n (pc := 13) hx hb dX8_setHigh_13 rfl (lv_at hl 0 rfl) ?_
      refine va_get (pc := 14) (D := D) (ci := 8) (v := .ref s1) (C := RX8) (T := TX8) (N := 5) hx hb hts hiX8 hown hK hP 0 rfl rfl 0 (by decide) wf9 (fun _ h9 => h9) rfl dX8_setHigh_14 ?_
      refine lv_iload_n (pc := 17) hx hb dX8_setHigh_17 rfl (lv_at hl 1 rfl) ?_
      refine lv_iconst (pc := 18) (v := nI 0) hx hb dX8_setHigh_18 (by decide) ?_
      refine lv_iload_n (pc := 19) hx hb dX8_setHigh_19 rfl (lv_at hl 2 rfl) ?_
      refine lv_bipush (pc := 20) (v := nI 40) hx hb dX8_setHigh_20 (by decide) ?_
      refine va_mmin (pc := 22) hx hb (hml.trans hl.1.symm) hown mk_min_40 mk_min_s mk_min_i mk_min_c (Nat.le_of_ble_eq_true rfl) (Nat.le_of_ble_eq_true rfl) (Nat.le_refl _) (Nat.le_refl _) dX8_setHigh_22 ?_
      refine r_top (jI_min (jI_of hzh) (show nI 40 = jI 40 from jI_nat 40) (by omega) (by omega)) ?_
      refine va_mmax (pc := 25) hx hb (hml.trans hl.1.symm) hown mk_max_46 mk_max_s mk_max_i mk_max_c (Nat.le_of_ble_eq_true rfl) (Nat.le_of_ble_eq_true rfl) (Nat.le_refl _) (Nat.le_refl _) dX8_setHigh_25 ?_
      refine r_top (jI_max (show nI 0 = jI 0 from jI_nat 0) rfl (by omega) (by omega)) ?_
      refine r_top (show _ = nI (clH zh) from clH_nI zh) ?_
      refine rn_iast (pc := 28) (f := S.1) (k := k) (x := clH zh) (ws2 := stW s0 s1 s2 s3 cI (va_up S.1 k (clH zh), S.2.1, S.2.2.1, S.2.2.2.1, S.2.2.2.2)) hx hb hK hP hV hS 1 0 rfl rfl (by omega) (by decide) dX8_setHigh_28 rfl rfl (fun H locs hP hS => ?_)
      exact hret 29 _ hP hS dX8_setHigh_29 rfl (by simp only [sSet]; split <;> first | omega | rfl)
abbrev rmX8_raise : Room := { frames := 2, cells := 0, slots := 0, locals := 46 }
set_option maxHeartbeats 4000000 in
set_option maxRecDepth 100000 in
theorem k_X8_raise (l : Launch) (D : va_G) (cI cC cB cS : ClassId) (s0 s1 s2 s3 : Nat) (S : ST) (x : Int32) (z : Int) (hz : x.toInt = z) (b : Nat) (hi : sHi S) (hb1 : b < 1000) : CV l D (kT cI cC cB cS) yX8_raise wsX8_raise rmX8_raise [.ref s0, .int (x), .int (nI b)] (stW s0 s1 s2 s3 cI S) (fun u => u = stW s0 s1 s2 s3 cI (sRaise S z b)) := by
  refine cv_intro (by decide) rfl (Nat.le_of_ble_eq_true rfl) ?_
  intro p e s m args below meth c ls A QF hF hK hP hV hS hA hN hl hret
  obtain ⟨hx, hb, hml, hown, hts⟩ := id hF
  have hP : va_P D vwCl (stW s0 s1 s2 s3 cI S) s.heap := hP
  have hl : lv_has ls 3 [(0, .ref s0), (1, .int (x)), (2, .int (nI b))] := hl
  refine lv_aload_n (pc := 0) hx hb dX8_raise_0 rfl (lv_at hl 0 rfl) ?_
  refine lv_iload_n (pc := 1) hx hb dX8_raise_1 rfl (lv_at hl 1 rfl) ?_
  refine lv_aload_n (pc := 2) hx hb dX8_raise_2 rfl (lv_at hl 0 rfl) ?_
  refine lv_iload_n (pc := 3) hx hb dX8_raise_3 rfl (lv_at hl 1 rfl) ?_
  refine ci_Vd (pc := 4) (r0 := nI (sAt S z)) hF hN hK hP hV hS hA (k_X8_highAt l D cI cC cB cS s0 s1 s2 s3 S (x) z hz) (cwV 1 hts gX8_raise_X8_highAt rfl rfl rfl (by decide +kernel) ⟨Nat.le_of_ble_eq_true rfl, Nat.le_of_ble_eq_true rfl⟩) [0, 1, 2, 3] rfl (by decide) 0 8 rfl rfl rfl hl.1 rfl (Nat.le_of_ble_eq_true rfl) dX8_raise_4 ⟨Nat.le_refl _, Nat.le_refl _⟩ rfl (ws2 := stW s0 s1 s2 s3 cI S) rfl (fun H locs hP hS => ?_)
  refine lv_iload_n (pc := 7) hx hb dX8_raise_7 rfl (lv_at hl 2 rfl) ?_
  have hq := sAt_le hi z
  refine rn_iadd (pc := 8) hx hb dX8_raise_8 ?_
  refine cv_Vd (pc := 9) hF hN hK hP hV hS hA (k_X8_setHigh l D cI cC cB cS s0 s1 s2 s3 S (x) z hz (nI ((sAt S z) + b)) (((sAt S z) + b : Nat) : Int) (tI_nI (by omega)) (by omega)) (cwV 2 hts gX8_raise_X8_setHigh rfl rfl rfl (by decide +kernel) ⟨Nat.le_of_ble_eq_true rfl, Nat.le_of_ble_eq_true rfl⟩) [0, 1, 2, 3] rfl (by decide) 0 8 rfl rfl rfl hl.1 rfl (Nat.le_of_ble_eq_true rfl) dX8_raise_9 ⟨Nat.le_refl _, Nat.le_refl _⟩ rfl (ws2 := stW s0 s1 s2 s3 cI (sSet S z (clH (((sAt S z) + b : Nat) : Int)))) rfl (fun H locs hP hS => ?_)
  exact hret 12 _ hP hS dX8_raise_12 rfl rfl
abbrev rmX8_lower : Room := { frames := 2, cells := 0, slots := 0, locals := 46 }
set_option maxHeartbeats 4000000 in
set_option maxRecDepth 100000 in
theorem k_X8_lower (l : Launch) (D : va_G) (cI cC cB cS : ClassId) (s0 s1 s2 s3 : Nat) (S : ST) (x : Int32) (z : Int) (hz : x.toInt = z) (b : Nat) (hi : sHi S) (hb1 : b < 1000) : CV l D (kT cI cC cB cS) yX8_lower wsX8_lower rmX8_lower [.ref s0, .int (x), .int (nI b)] (stW s0 s1 s2 s3 cI S) (fun u => u = stW s0 s1 s2 s3 cI (sLower S z b)) := by
  refine cv_intro (by decide) rfl (Nat.le_of_ble_eq_true rfl) ?_
  intro p e s m args below meth c ls A QF hF hK hP hV hS hA hN hl hret
  obtain ⟨hx, hb, hml, hown, hts⟩ := id hF
  have hP : va_P D vwCl (stW s0 s1 s2 s3 cI S) s.heap := hP
  have hl : lv_has ls 3 [(0, .ref s0), (1, .int (x)), (2, .int (nI b))] := hl
  refine lv_aload_n (pc := 0) hx hb dX8_lower_0 rfl (lv_at hl 0 rfl) ?_
  refine lv_iload_n (pc := 1) hx hb dX8_lower_1 rfl (lv_at hl 1 rfl) ?_
  refine lv_aload_n (pc := 2) hx hb dX8_lower_2 rfl (lv_at hl 0 rfl) ?_
  refine lv_iload_n (pc := 3) hx hb dX8_lower_3 rfl (lv_at hl 1 rfl) ?_
  refine ci_Vd (pc := 4) (r0 := nI (sAt S z)) hF hN hK hP hV hS hA (k_X8_highAt l D cI cC cB cS s0 s1 s2 s3 S (x) z hz) (cwV 1 hts gX8_lower_X8_highAt rfl rfl rfl (by decide +kernel) ⟨Nat.le_of_ble_eq_true rfl, Nat.le_of_ble_eq_true rfl⟩) [0, 1, 2, 3] rfl (by decide) 0 8 rfl rfl rfl hl.1 rfl (Nat.le_of_ble_eq_true rfl) dX8_lower_4 ⟨Nat.le_refl _, Nat.le_refl _⟩ rfl (ws2 := stW s0 s1 s2 s3 cI S) rfl (fun H locs hP hS => ?_)
  refine lv_iload_n (pc := 7) hx hb dX8_lower_7 rfl (lv_at hl 2 rfl) ?_
  have hq := sAt_le hi z
  refine rz_isub (pc := 8) hx hb (jI_nat _) (jI_nat _) dX8_lower_8 ?_
  refine cv_Vd (pc := 9) hF hN hK hP hV hS hA (k_X8_setHigh l D cI cC cB cS s0 s1 s2 s3 S (x) z hz (jI ((sAt S z : Nat) - (b : Nat))) ((sAt S z : Nat) - (b : Nat)) (jI_to (by omega)) (by omega)) (cwV 2 hts gX8_lower_X8_setHigh rfl rfl rfl (by decide +kernel) ⟨Nat.le_of_ble_eq_true rfl, Nat.le_of_ble_eq_true rfl⟩) [0, 1, 2, 3] rfl (by decide) 0 8 rfl rfl rfl hl.1 rfl (Nat.le_of_ble_eq_true rfl) dX8_lower_9 ⟨Nat.le_refl _, Nat.le_refl _⟩ rfl (ws2 := stW s0 s1 s2 s3 cI (sSet S z (clH ((sAt S z : Nat) - (b : Nat))))) rfl (fun H locs hP hS => ?_)
  exact hret 12 _ hP hS dX8_lower_12 rfl rfl
