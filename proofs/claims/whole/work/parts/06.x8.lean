abbrev rmX8_highAt : Room := { frames := 0, cells := 0, slots := 0, locals := 0 }
set_option maxHeartbeats 4000000 in
set_option maxRecDepth 100000 in
theorem k_X8_highAt (l : Launch) (D : va_G) (cI cC cB cS : ClassId) (s0 s1 s2 s3 : Nat) (S : ST) (x : Int32) (z : Int) (hz : x.toInt = z) : CI l D (kT cI cC cB cS) yX8_highAt wsX8_highAt rmX8_highAt [.ref s0, .int (x)] (stW s0 s1 s2 s3 cI S) (fun r u => r = nI (sAt S z) ∧ u = stW s0 s1 s2 s3 cI S) := by
  refine ci_intro (by decide) rfl (Nat.le_of_ble_eq_true rfl) ?_
  intro p e s m args below meth c ls A QF hF hK hP hV hS hA hN hl hret
  obtain ⟨hx, hb, hml, hown, hts⟩ := id hF
  have hP : va_P D vwCl (stW s0 s1 s2 s3 cI S) s.heap := hP
  have hl : lv_has ls 2 [(0, .ref s0), (1, .int (x))] := hl
  have wf9 := hts (.fieldLink RX8 9 "RemorseWall$Standing" "high" "[I") (by decide +kernel)
  have hiX8 : ∀ w ∈ u_ws RX8 TX8 5, w ∈ wsX8_highAt := by decide +kernel
  refine lv_iload_n hx hb dX8_highAt_0 rfl (lv_at hl 1 rfl) ?_
  refine r0_lt (tgt := 22) hx hb hz dX8_highAt_1 (by decide) (fun c1 => ?_) (fun c1 => ?_)
  · refine lv_iconst (v := nI 0) hx hb dX8_highAt_22 (by decide) ?_
    exact hret 23 _ hP hS dX8_highAt_23 rfl rfl ⟨(by simp only [sAt]; split <;> first | rfl | omega), rfl⟩
  · refine lv_iload_n hx hb dX8_highAt_4 rfl (lv_at hl 1 rfl) ?_
    refine lv_aload_n hx hb dX8_highAt_5 rfl (lv_at hl 0 rfl) ?_
    refine va_get (D := D) (ci := 8) (v := .ref s1) (C := RX8) (T := TX8) (N := 5) hx hb hts hiX8 hown hK hP 0 rfl rfl 0 (by decide) wf9 (fun _ h9 => h9) rfl dX8_highAt_6 ?_
    refine va_alen (v := nI 24) hx hb hK hP 1 0 rfl rfl rfl dX8_highAt_9 ?_
    refine rc_ge (tgt := 22) hx hb hz (tI_nI (by omega)) dX8_highAt_10 (by decide) (fun c10 => ?_) (fun c10 => ?_)
    · refine lv_iconst (v := nI 0) hx hb dX8_highAt_22 (by decide) ?_
      exact hret 23 _ hP hS dX8_highAt_23 rfl rfl ⟨(by simp only [sAt]; split <;> first | rfl | omega), rfl⟩
    · obtain ⟨k, rfl⟩ : ∃ k : Nat, z = k := ⟨z.toNat, by omega⟩
      obtain rfl : x = nI k := eq_nI hz
      refine lv_aload_n hx hb dX8_highAt_13 rfl (lv_at hl 0 rfl) ?_
      refine va_get (D := D) (ci := 8) (v := .ref s1) (C := RX8) (T := TX8) (N := 5) hx hb hts hiX8 hown hK hP 0 rfl rfl 0 (by decide) wf9 (fun _ h9 => h9) rfl dX8_highAt_14 ?_
      refine lv_iload_n hx hb dX8_highAt_17 rfl (lv_at hl 1 rfl) ?_
      refine ra_iald (k := k) (v := nI (S.1 k)) hx hb hK hP 1 0 rfl rfl (by omega) (by decide) rfl dX8_highAt_18 ?_
      refine lv_goto (tgt := 23) hx hb dX8_highAt_19 (by decide) ?_
      exact hret 23 _ hP hS dX8_highAt_23 rfl rfl ⟨(by simp only [sAt]; split <;> first | rfl | omega), rfl⟩
abbrev rmX8_setHigh : Room := { frames := 1, cells := 0, slots := 0, locals := 24 }
set_option maxHeartbeats 4000000 in
set_option maxRecDepth 100000 in
theorem k_X8_setHigh (l : Launch) (D : va_G) (cI cC cB cS : ClassId) (s0 s1 s2 s3 : Nat) (S : ST) (x : Int32) (z : Int) (hz : x.toInt = z) (h : Int32) (zh : Int) (hzh : h.toInt = zh) (hb31 : -1073741824 ≤ zh ∧ zh < 1073741824) : CV l D (kT cI cC cB cS) yX8_setHigh wsX8_setHigh rmX8_setHigh [.ref s0, .int (x), .int (h)] (stW s0 s1 s2 s3 cI S) (fun u => u = stW s0 s1 s2 s3 cI (sSet S z (clH zh))) := by
  refine cv_intro (by decide) rfl (Nat.le_of_ble_eq_true rfl) ?_
  intro p e s m args below meth c ls A QF hF hK hP hV hS hA hN hl hret
  obtain ⟨hx, hb, hml, hown, hts⟩ := id hF
  have hP : va_P D vwCl (stW s0 s1 s2 s3 cI S) s.heap := hP
  have hl : lv_has ls 3 [(0, .ref s0), (1, .int (x)), (2, .int (h))] := hl
  have wf9 := hts (.fieldLink RX8 9 "RemorseWall$Standing" "high" "[I") (by decide +kernel)
  have hiX8 : ∀ w ∈ u_ws RX8 TX8 5, w ∈ wsX8_setHigh := by decide +kernel
  have mk_min_s := hts (.static Lib.Math.min.name) (by decide +kernel)
  have mk_min_i := hts (.initialized "java/lang/Math") (by decide +kernel)
  have mk_min_c := hts (.code Lib.Math.min.name Lib.Math.min.code 2 (some .int)) (by decide +kernel)
  have mk_max_s := hts (.static Lib.Math.max.name) (by decide +kernel)
  have mk_max_i := hts (.initialized "java/lang/Math") (by decide +kernel)
  have mk_max_c := hts (.code Lib.Math.max.name Lib.Math.max.code 2 (some .int)) (by decide +kernel)
  have mk_max_46 := hts (.methodLink RX8 46 Lib.Math.max.name) (by decide +kernel)
  have mk_min_40 := hts (.methodLink RX8 40 Lib.Math.min.name) (by decide +kernel)
  refine lv_iload_n hx hb dX8_setHigh_0 rfl (lv_at hl 1 rfl) ?_
  refine r0_lt (tgt := 29) hx hb hz dX8_setHigh_1 (by decide) (fun c1 => ?_) (fun c1 => ?_)
  · exact hret 29 _ hP hS dX8_setHigh_29 rfl (by simp only [sSet]; split <;> first | rfl | omega)
  · refine lv_iload_n hx hb dX8_setHigh_4 rfl (lv_at hl 1 rfl) ?_
    refine lv_aload_n hx hb dX8_setHigh_5 rfl (lv_at hl 0 rfl) ?_
    refine va_get (D := D) (ci := 8) (v := .ref s1) (C := RX8) (T := TX8) (N := 5) hx hb hts hiX8 hown hK hP 0 rfl rfl 0 (by decide) wf9 (fun _ h9 => h9) rfl dX8_setHigh_6 ?_
    refine va_alen (v := nI 24) hx hb hK hP 1 0 rfl rfl rfl dX8_setHigh_9 ?_
    refine rc_ge (tgt := 29) hx hb hz (tI_nI (by omega)) dX8_setHigh_10 (by decide) (fun c10 => ?_) (fun c10 => ?_)
    · exact hret 29 _ hP hS dX8_setHigh_29 rfl (by simp only [sSet]; split <;> first | rfl | omega)
    · obtain ⟨k, rfl⟩ : ∃ k : Nat, z = k := ⟨z.toNat, by omega⟩
      obtain rfl : x = nI k := eq_nI hz
      refine lv_aload_n hx hb dX8_setHigh_13 rfl (lv_at hl 0 rfl) ?_
      refine va_get (D := D) (ci := 8) (v := .ref s1) (C := RX8) (T := TX8) (N := 5) hx hb hts hiX8 hown hK hP 0 rfl rfl 0 (by decide) wf9 (fun _ h9 => h9) rfl dX8_setHigh_14 ?_
      refine lv_iload_n hx hb dX8_setHigh_17 rfl (lv_at hl 1 rfl) ?_
      refine lv_iconst (v := nI 0) hx hb dX8_setHigh_18 (by decide) ?_
      refine lv_iload_n hx hb dX8_setHigh_19 rfl (lv_at hl 2 rfl) ?_
      refine lv_bipush (v := nI 40) hx hb dX8_setHigh_20 (by decide) ?_
      refine va_mmin hx hb (hml.trans hl.1.symm) hown mk_min_40 mk_min_s mk_min_i mk_min_c (Nat.le_of_ble_eq_true rfl) (Nat.le_of_ble_eq_true rfl) (Nat.le_refl _) (Nat.le_refl _) dX8_setHigh_22 ?_
      refine r_top (jI_min (jI_of hzh) (show nI 40 = jI 40 from jI_nat 40) (by omega) (by omega)) ?_
      refine va_mmax hx hb (hml.trans hl.1.symm) hown mk_max_46 mk_max_s mk_max_i mk_max_c (Nat.le_of_ble_eq_true rfl) (Nat.le_of_ble_eq_true rfl) (Nat.le_refl _) (Nat.le_refl _) dX8_setHigh_25 ?_
      refine r_top (jI_max (show nI 0 = jI 0 from jI_nat 0) rfl (by omega) (by omega)) ?_
      refine r_top (show _ = nI (clH zh) from clH_nI zh) ?_
      refine rn_iast (f := S.1) (k := k) (x := clH zh) (ws2 := stW s0 s1 s2 s3 cI (va_up S.1 k (clH zh), S.2.1, S.2.2.1, S.2.2.2.1, S.2.2.2.2)) hx hb hK hP hV hS 1 0 rfl rfl (by omega) (by decide) dX8_setHigh_28 rfl rfl (fun H locs hP hS => ?_)
      exact hret 29 _ hP hS dX8_setHigh_29 rfl (by simp only [sSet]; split <;> first | rfl | omega)
abbrev rmX8_raise : Room := { frames := 2, cells := 0, slots := 0, locals := 46 }
set_option maxHeartbeats 4000000 in
set_option maxRecDepth 100000 in
theorem k_X8_raise (l : Launch) (D : va_G) (cI cC cB cS : ClassId) (s0 s1 s2 s3 : Nat) (S : ST) (x : Int32) (z : Int) (hz : x.toInt = z) (b : Nat) (hi : sHi S) (hb1 : b < 1000) : CV l D (kT cI cC cB cS) yX8_raise wsX8_raise rmX8_raise [.ref s0, .int (x), .int (nI b)] (stW s0 s1 s2 s3 cI S) (fun u => u = stW s0 s1 s2 s3 cI (sSet S z (clH (sAt S z + b : Nat)))) := by
  refine cv_intro (by decide) rfl (Nat.le_of_ble_eq_true rfl) ?_
  intro p e s m args below meth c ls A QF hF hK hP hV hS hA hN hl hret
  obtain ⟨hx, hb, hml, hown, hts⟩ := id hF
  have hP : va_P D vwCl (stW s0 s1 s2 s3 cI S) s.heap := hP
  have hl : lv_has ls 3 [(0, .ref s0), (1, .int (x)), (2, .int (nI b))] := hl
  refine lv_aload_n hx hb dX8_raise_0 rfl (lv_at hl 0 rfl) ?_
  refine lv_iload_n hx hb dX8_raise_1 rfl (lv_at hl 1 rfl) ?_
  refine lv_aload_n hx hb dX8_raise_2 rfl (lv_at hl 0 rfl) ?_
  refine lv_iload_n hx hb dX8_raise_3 rfl (lv_at hl 1 rfl) ?_
  refine ci_Vd hF hN hK hP hV hS hA (k_X8_highAt l D cI cC cB cS s0 s1 s2 s3 S (x) z hz) (cwV 1 hts gX8_raise_X8_highAt rfl rfl rfl (by decide +kernel) ⟨Nat.le_of_ble_eq_true rfl, Nat.le_of_ble_eq_true rfl⟩) [0, 1, 2, 3] rfl (by decide) 0 8 rfl rfl rfl hl.1 rfl (Nat.le_of_ble_eq_true rfl) dX8_raise_4 ⟨Nat.le_refl _, Nat.le_refl _⟩ rfl (ws2 := stW s0 s1 s2 s3 cI S) rfl (fun H locs hP hS => ?_)
  refine lv_iload_n hx hb dX8_raise_7 rfl (lv_at hl 2 rfl) ?_
  have hq := sAt_le hi z
  refine rn_iadd hx hb dX8_raise_8 ?_
  refine cv_Vd hF hN hK hP hV hS hA (k_X8_setHigh l D cI cC cB cS s0 s1 s2 s3 S (x) z hz (nI ((sAt S z) + b)) (((sAt S z) + b : Nat) : Int) (tI_nI (by omega)) (by omega)) (cwV 2 hts gX8_raise_X8_setHigh rfl rfl rfl (by decide +kernel) ⟨Nat.le_of_ble_eq_true rfl, Nat.le_of_ble_eq_true rfl⟩) [0, 1, 2, 3] rfl (by decide) 0 8 rfl rfl rfl hl.1 rfl (Nat.le_of_ble_eq_true rfl) dX8_raise_9 ⟨Nat.le_refl _, Nat.le_refl _⟩ rfl (ws2 := stW s0 s1 s2 s3 cI (sSet S z (clH (((sAt S z) + b : Nat) : Int)))) rfl (fun H locs hP hS => ?_)
  exact hret 12 _ hP hS dX8_raise_12 rfl rfl
abbrev rmX8_lower : Room := { frames := 2, cells := 0, slots := 0, locals := 46 }
set_option maxHeartbeats 4000000 in
set_option maxRecDepth 100000 in
theorem k_X8_lower (l : Launch) (D : va_G) (cI cC cB cS : ClassId) (s0 s1 s2 s3 : Nat) (S : ST) (x : Int32) (z : Int) (hz : x.toInt = z) (b : Nat) (hi : sHi S) (hb1 : b < 1000) : CV l D (kT cI cC cB cS) yX8_lower wsX8_lower rmX8_lower [.ref s0, .int (x), .int (nI b)] (stW s0 s1 s2 s3 cI S) (fun u => u = stW s0 s1 s2 s3 cI (sSet S z (clH ((sAt S z : Nat) - (b : Nat))))) := by
  refine cv_intro (by decide) rfl (Nat.le_of_ble_eq_true rfl) ?_
  intro p e s m args below meth c ls A QF hF hK hP hV hS hA hN hl hret
  obtain ⟨hx, hb, hml, hown, hts⟩ := id hF
  have hP : va_P D vwCl (stW s0 s1 s2 s3 cI S) s.heap := hP
  have hl : lv_has ls 3 [(0, .ref s0), (1, .int (x)), (2, .int (nI b))] := hl
  refine lv_aload_n hx hb dX8_lower_0 rfl (lv_at hl 0 rfl) ?_
  refine lv_iload_n hx hb dX8_lower_1 rfl (lv_at hl 1 rfl) ?_
  refine lv_aload_n hx hb dX8_lower_2 rfl (lv_at hl 0 rfl) ?_
  refine lv_iload_n hx hb dX8_lower_3 rfl (lv_at hl 1 rfl) ?_
  refine ci_Vd hF hN hK hP hV hS hA (k_X8_highAt l D cI cC cB cS s0 s1 s2 s3 S (x) z hz) (cwV 1 hts gX8_lower_X8_highAt rfl rfl rfl (by decide +kernel) ⟨Nat.le_of_ble_eq_true rfl, Nat.le_of_ble_eq_true rfl⟩) [0, 1, 2, 3] rfl (by decide) 0 8 rfl rfl rfl hl.1 rfl (Nat.le_of_ble_eq_true rfl) dX8_lower_4 ⟨Nat.le_refl _, Nat.le_refl _⟩ rfl (ws2 := stW s0 s1 s2 s3 cI S) rfl (fun H locs hP hS => ?_)
  refine lv_iload_n hx hb dX8_lower_7 rfl (lv_at hl 2 rfl) ?_
  have hq := sAt_le hi z
  refine rz_isub hx hb (jI_nat _) (jI_nat _) dX8_lower_8 ?_
  refine cv_Vd hF hN hK hP hV hS hA (k_X8_setHigh l D cI cC cB cS s0 s1 s2 s3 S (x) z hz (jI ((sAt S z : Nat) - (b : Nat))) ((sAt S z : Nat) - (b : Nat)) (jI_to (by omega)) (by omega)) (cwV 2 hts gX8_lower_X8_setHigh rfl rfl rfl (by decide +kernel) ⟨Nat.le_of_ble_eq_true rfl, Nat.le_of_ble_eq_true rfl⟩) [0, 1, 2, 3] rfl (by decide) 0 8 rfl rfl rfl hl.1 rfl (Nat.le_of_ble_eq_true rfl) dX8_lower_9 ⟨Nat.le_refl _, Nat.le_refl _⟩ rfl (ws2 := stW s0 s1 s2 s3 cI (sSet S z (clH ((sAt S z : Nat) - (b : Nat))))) rfl (fun H locs hP hS => ?_)
  exact hret 12 _ hP hS dX8_lower_12 rfl rfl
abbrev rmX8_sum : Room := { frames := 0, cells := 0, slots := 0, locals := 0 }
set_option maxHeartbeats 4000000 in
set_option maxRecDepth 100000 in
theorem k_X8_sum (l : Launch) (D : va_G) (cI cC cB cS : ClassId) (s0 s1 s2 s3 : Nat) (S : ST) (hi : sHi S) : CI l D (kT cI cC cB cS) yX8_sum wsX8_sum rmX8_sum [.ref s0] (stW s0 s1 s2 s3 cI S) (fun r u => r = nI (nSum S.1 24) ∧ u = stW s0 s1 s2 s3 cI S) := by
  refine ci_intro (by decide) rfl (Nat.le_of_ble_eq_true rfl) ?_
  intro p e s m args below meth c ls A QF hF hK hP hV hS hA hN hl hret
  obtain ⟨hx, hb, hml, hown, hts⟩ := id hF
  have hP : va_P D vwCl (stW s0 s1 s2 s3 cI S) s.heap := hP
  have hl : lv_has ls 3 [(0, .ref s0)] := hl
  have wf9 := hts (.fieldLink RX8 9 "RemorseWall$Standing" "high" "[I") (by decide +kernel)
  have hiX8 : ∀ w ∈ u_ws RX8 TX8 5, w ∈ wsX8_sum := by decide +kernel
  refine lv_iconst (v := nI 0) hx hb dX8_sum_0 (by decide) ?_
  refine lv_istore_n (lv' := [(1, .int (nI 0)), (0, .ref s0)]) hx hb dX8_sum_1 rfl hl (by decide) rfl (fun ls hl => ?_)
  refine lv_iconst (v := nI 0) hx hb dX8_sum_2 (by decide) ?_
  refine lv_istore_n (lv' := [(2, .int (nI 0)), (1, .int (nI 0)), (0, .ref s0)]) hx hb dX8_sum_3 rfl hl (by decide) rfl (fun ls hl => ?_)
  have cut4 : ∀ (fuel : Nat) (i : Nat) (a : Nat) (H : Heap) (locs : List Loc) (ls : Array Slot) (hi24 : i ≤ 24) (ha : a = nSum S.1 i) (hfu : 24 - i < fuel), va_P D vwCl (stW s0 s1 s2 s3 cI S) H → va_S A s.heap H locs → lv_has ls 3 [(2, .int (nI i)), (1, .int (nI a)), (0, .ref s0)] → W p l e rmX8_sum s m args below meth c H locs 0 0 QF (F0 m 4 ls []) := by
    intro fuel
    induction fuel with
    | zero => intro i a H locs ls hi24 ha hfu; omega
    | succ fuel ih4 =>
      intro i a H locs ls hi24 ha hfu hP hS hl
      refine lv_iload_n hx hb dX8_sum_4 rfl (lv_at hl 0 rfl) ?_
      refine lv_aload_n hx hb dX8_sum_5 rfl (lv_at hl 2 rfl) ?_
      refine va_get (D := D) (ci := 8) (v := .ref s1) (C := RX8) (T := TX8) (N := 5) hx hb hts hiX8 hown hK hP 0 rfl rfl 0 (by decide) wf9 (fun _ h9 => h9) rfl dX8_sum_6 ?_
      refine va_alen (v := nI 24) hx hb hK hP 1 0 rfl rfl rfl dX8_sum_9 ?_
      refine rc_ge (tgt := 28) hx hb (tI_nI (by omega)) (tI_nI (by omega)) dX8_sum_10 (by decide) (fun c10 => ?_) (fun c10 => ?_)
      · refine lv_iload_n hx hb dX8_sum_28 rfl (lv_at hl 1 rfl) ?_
        exact hret 29 _ hP hS dX8_sum_29 rfl rfl ⟨(by rw [ha, show i = 24 by omega]), rfl⟩
      · refine lv_iload_n hx hb dX8_sum_13 rfl (lv_at hl 1 rfl) ?_
        refine lv_aload_n hx hb dX8_sum_14 rfl (lv_at hl 2 rfl) ?_
        refine va_get (D := D) (ci := 8) (v := .ref s1) (C := RX8) (T := TX8) (N := 5) hx hb hts hiX8 hown hK hP 0 rfl rfl 0 (by decide) wf9 (fun _ h9 => h9) rfl dX8_sum_15 ?_
        refine lv_iload_n hx hb dX8_sum_18 rfl (lv_at hl 0 rfl) ?_
        refine ra_iald (k := i) (v := nI (S.1 i)) hx hb hK hP 1 0 rfl rfl (by omega) (by decide) rfl dX8_sum_19 ?_
        refine rn_iadd hx hb dX8_sum_20 ?_
        refine lv_istore_n (lv' := [(1, .int (nI (a + (S.1 i)))), (2, .int (nI i)), (0, .ref s0)]) hx hb dX8_sum_21 rfl hl (by decide) rfl (fun ls hl => ?_)
        refine lv_iinc (v := nI (i + 1)) (lv' := [(2, .int (nI (i + 1))), (1, .int (nI (a + (S.1 i)))), (0, .ref s0)]) hx hb dX8_sum_22 hl (k := 1) rfl (by rw [← nI_add]; rfl) (by decide) rfl (fun ls hl => ?_)
        refine lv_goto (tgt := 4) hx hb dX8_sum_25 (by decide) ?_
        exact ih4 (i + 1) (a + S.1 i) _ _ _ (by omega) (by rw [ha]; rfl) (by omega) hP hS (lv_sub hl [0, 1, 2] rfl)
  exact cut4 _ 0 0 _ _ _ (by omega) rfl (Nat.lt_succ_self _) hP hS (lv_sub hl [0, 1, 2] rfl)
abbrev rmX8_leftTo : Room := { frames := 0, cells := 0, slots := 0, locals := 0 }
set_option maxHeartbeats 4000000 in
set_option maxRecDepth 100000 in
theorem k_X8_leftTo (l : Launch) (D : va_G) (cI cC cB cS : ClassId) (s0 s1 s2 s3 : Nat) (S : ST) (k : Nat) (hk : k < 3) : CI l D (kT cI cC cB cS) yX8_leftTo wsX8_leftTo rmX8_leftTo [.ref s0, .int (nI k)] (stW s0 s1 s2 s3 cI S) (fun r u => r = nI (S.2.1 k) ∧ u = stW s0 s1 s2 s3 cI S) := by
  refine ci_intro (by decide) rfl (Nat.le_of_ble_eq_true rfl) ?_
  intro p e s m args below meth c ls A QF hF hK hP hV hS hA hN hl hret
  obtain ⟨hx, hb, hml, hown, hts⟩ := id hF
  have hP : va_P D vwCl (stW s0 s1 s2 s3 cI S) s.heap := hP
  have hl : lv_has ls 2 [(0, .ref s0), (1, .int (nI k))] := hl
  have wf15 := hts (.fieldLink RX8 15 "RemorseWall$Standing" "left" "[I") (by decide +kernel)
  have hiX8 : ∀ w ∈ u_ws RX8 TX8 5, w ∈ wsX8_leftTo := by decide +kernel
  refine lv_iload_n hx hb dX8_leftTo_0 rfl (lv_at hl 1 rfl) ?_
  refine r0_lt (tgt := 22) hx hb (tI_nI (by omega)) dX8_leftTo_1 (by decide) (fun c1 => ?_) (fun c1 => ?_)
  · omega
  · refine lv_iload_n hx hb dX8_leftTo_4 rfl (lv_at hl 1 rfl) ?_
    refine lv_aload_n hx hb dX8_leftTo_5 rfl (lv_at hl 0 rfl) ?_
    refine va_get (D := D) (ci := 8) (v := .ref s2) (C := RX8) (T := TX8) (N := 5) hx hb hts hiX8 hown hK hP 0 rfl rfl 1 (by decide) wf15 (fun _ h9 => h9) rfl dX8_leftTo_6 ?_
    refine va_alen (v := nI 3) hx hb hK hP 2 0 rfl rfl rfl dX8_leftTo_9 ?_
    refine rc_ge (tgt := 22) hx hb (tI_nI (by omega)) (tI_nI (by omega)) dX8_leftTo_10 (by decide) (fun c10 => ?_) (fun c10 => ?_)
    · omega
    · refine lv_aload_n hx hb dX8_leftTo_13 rfl (lv_at hl 0 rfl) ?_
      refine va_get (D := D) (ci := 8) (v := .ref s2) (C := RX8) (T := TX8) (N := 5) hx hb hts hiX8 hown hK hP 0 rfl rfl 1 (by decide) wf15 (fun _ h9 => h9) rfl dX8_leftTo_14 ?_
      refine lv_iload_n hx hb dX8_leftTo_17 rfl (lv_at hl 1 rfl) ?_
      refine ra_iald (k := k) (v := nI (S.2.1 k)) hx hb hK hP 2 0 rfl rfl (by omega) (by decide) rfl dX8_leftTo_18 ?_
      refine lv_goto (tgt := 23) hx hb dX8_leftTo_19 (by decide) ?_
      exact hret 23 _ hP hS dX8_leftTo_23 rfl rfl ⟨rfl, rfl⟩
abbrev rmX8_placeOf : Room := { frames := 0, cells := 0, slots := 0, locals := 0 }
set_option maxHeartbeats 4000000 in
set_option maxRecDepth 100000 in
theorem k_X8_placeOf (l : Launch) (D : va_G) (cI cC cB cS : ClassId) (s0 s1 s2 s3 : Nat) (S : ST) (k : Nat) (hk : k < 3) : CI l D (kT cI cC cB cS) yX8_placeOf wsX8_placeOf rmX8_placeOf [.ref s0, .int (nI k)] (stW s0 s1 s2 s3 cI S) (fun r u => r = nI (S.2.2.1 k) ∧ u = stW s0 s1 s2 s3 cI S) := by
  refine ci_intro (by decide) rfl (Nat.le_of_ble_eq_true rfl) ?_
  intro p e s m args below meth c ls A QF hF hK hP hV hS hA hN hl hret
  obtain ⟨hx, hb, hml, hown, hts⟩ := id hF
  have hP : va_P D vwCl (stW s0 s1 s2 s3 cI S) s.heap := hP
  have hl : lv_has ls 2 [(0, .ref s0), (1, .int (nI k))] := hl
  have wf18 := hts (.fieldLink RX8 18 "RemorseWall$Standing" "place" "[I") (by decide +kernel)
  have hiX8 : ∀ w ∈ u_ws RX8 TX8 5, w ∈ wsX8_placeOf := by decide +kernel
  refine lv_iload_n hx hb dX8_placeOf_0 rfl (lv_at hl 1 rfl) ?_
  refine r0_lt (tgt := 22) hx hb (tI_nI (by omega)) dX8_placeOf_1 (by decide) (fun c1 => ?_) (fun c1 => ?_)
  · omega
  · refine lv_iload_n hx hb dX8_placeOf_4 rfl (lv_at hl 1 rfl) ?_
    refine lv_aload_n hx hb dX8_placeOf_5 rfl (lv_at hl 0 rfl) ?_
    refine va_get (D := D) (ci := 8) (v := .ref s3) (C := RX8) (T := TX8) (N := 5) hx hb hts hiX8 hown hK hP 0 rfl rfl 2 (by decide) wf18 (fun _ h9 => h9) rfl dX8_placeOf_6 ?_
    refine va_alen (v := nI 3) hx hb hK hP 3 0 rfl rfl rfl dX8_placeOf_9 ?_
    refine rc_ge (tgt := 22) hx hb (tI_nI (by omega)) (tI_nI (by omega)) dX8_placeOf_10 (by decide) (fun c10 => ?_) (fun c10 => ?_)
    · omega
    · refine lv_aload_n hx hb dX8_placeOf_13 rfl (lv_at hl 0 rfl) ?_
      refine va_get (D := D) (ci := 8) (v := .ref s3) (C := RX8) (T := TX8) (N := 5) hx hb hts hiX8 hown hK hP 0 rfl rfl 2 (by decide) wf18 (fun _ h9 => h9) rfl dX8_placeOf_14 ?_
      refine lv_iload_n hx hb dX8_placeOf_17 rfl (lv_at hl 1 rfl) ?_
      refine ra_iald (k := k) (v := nI (S.2.2.1 k)) hx hb hK hP 3 0 rfl rfl (by omega) (by decide) rfl dX8_placeOf_18 ?_
      refine lv_goto (tgt := 23) hx hb dX8_placeOf_19 (by decide) ?_
      exact hret 23 _ hP hS dX8_placeOf_23 rfl rfl ⟨rfl, rfl⟩
abbrev rmX8_setLeft : Room := { frames := 0, cells := 0, slots := 0, locals := 0 }
set_option maxHeartbeats 4000000 in
set_option maxRecDepth 100000 in
theorem k_X8_setLeft (l : Launch) (D : va_G) (cI cC cB cS : ClassId) (s0 s1 s2 s3 : Nat) (S : ST) (k : Nat) (v : Nat) (hk : k < 3) : CV l D (kT cI cC cB cS) yX8_setLeft wsX8_setLeft rmX8_setLeft [.ref s0, .int (nI k), .int (nI v)] (stW s0 s1 s2 s3 cI S) (fun u => u = stW s0 s1 s2 s3 cI (S.1, va_up S.2.1 k v, S.2.2)) := by
  refine cv_intro (by decide) rfl (Nat.le_of_ble_eq_true rfl) ?_
  intro p e s m args below meth c ls A QF hF hK hP hV hS hA hN hl hret
  obtain ⟨hx, hb, hml, hown, hts⟩ := id hF
  have hP : va_P D vwCl (stW s0 s1 s2 s3 cI S) s.heap := hP
  have hl : lv_has ls 3 [(0, .ref s0), (1, .int (nI k)), (2, .int (nI v))] := hl
  have wf15 := hts (.fieldLink RX8 15 "RemorseWall$Standing" "left" "[I") (by decide +kernel)
  have hiX8 : ∀ w ∈ u_ws RX8 TX8 5, w ∈ wsX8_setLeft := by decide +kernel
  refine lv_iload_n hx hb dX8_setLeft_0 rfl (lv_at hl 1 rfl) ?_
  refine r0_lt (tgt := 20) hx hb (tI_nI (by omega)) dX8_setLeft_1 (by decide) (fun c1 => ?_) (fun c1 => ?_)
  · omega
  · refine lv_iload_n hx hb dX8_setLeft_4 rfl (lv_at hl 1 rfl) ?_
    refine lv_aload_n hx hb dX8_setLeft_5 rfl (lv_at hl 0 rfl) ?_
    refine va_get (D := D) (ci := 8) (v := .ref s2) (C := RX8) (T := TX8) (N := 5) hx hb hts hiX8 hown hK hP 0 rfl rfl 1 (by decide) wf15 (fun _ h9 => h9) rfl dX8_setLeft_6 ?_
    refine va_alen (v := nI 3) hx hb hK hP 2 0 rfl rfl rfl dX8_setLeft_9 ?_
    refine rc_ge (tgt := 20) hx hb (tI_nI (by omega)) (tI_nI (by omega)) dX8_setLeft_10 (by decide) (fun c10 => ?_) (fun c10 => ?_)
    · omega
    · refine lv_aload_n hx hb dX8_setLeft_13 rfl (lv_at hl 0 rfl) ?_
      refine va_get (D := D) (ci := 8) (v := .ref s2) (C := RX8) (T := TX8) (N := 5) hx hb hts hiX8 hown hK hP 0 rfl rfl 1 (by decide) wf15 (fun _ h9 => h9) rfl dX8_setLeft_14 ?_
      refine lv_iload_n hx hb dX8_setLeft_17 rfl (lv_at hl 1 rfl) ?_
      refine lv_iload_n hx hb dX8_setLeft_18 rfl (lv_at hl 2 rfl) ?_
      refine rn_iast (f := S.2.1) (k := k) (x := v) (ws2 := stW s0 s1 s2 s3 cI (S.1, va_up S.2.1 k v, S.2.2.1, S.2.2.2.1, S.2.2.2.2)) hx hb hK hP hV hS 2 0 rfl rfl (by omega) (by decide) dX8_setLeft_19 rfl rfl (fun H locs hP hS => ?_)
      exact hret 20 _ hP hS dX8_setLeft_20 rfl rfl
abbrev rmX8_setPlace : Room := { frames := 0, cells := 0, slots := 0, locals := 0 }
set_option maxHeartbeats 4000000 in
set_option maxRecDepth 100000 in
theorem k_X8_setPlace (l : Launch) (D : va_G) (cI cC cB cS : ClassId) (s0 s1 s2 s3 : Nat) (S : ST) (k : Nat) (v : Nat) (hk : k < 3) : CV l D (kT cI cC cB cS) yX8_setPlace wsX8_setPlace rmX8_setPlace [.ref s0, .int (nI k), .int (nI v)] (stW s0 s1 s2 s3 cI S) (fun u => u = stW s0 s1 s2 s3 cI (S.1, S.2.1, va_up S.2.2.1 k v, S.2.2.2)) := by
  refine cv_intro (by decide) rfl (Nat.le_of_ble_eq_true rfl) ?_
  intro p e s m args below meth c ls A QF hF hK hP hV hS hA hN hl hret
  obtain ⟨hx, hb, hml, hown, hts⟩ := id hF
  have hP : va_P D vwCl (stW s0 s1 s2 s3 cI S) s.heap := hP
  have hl : lv_has ls 3 [(0, .ref s0), (1, .int (nI k)), (2, .int (nI v))] := hl
  have wf18 := hts (.fieldLink RX8 18 "RemorseWall$Standing" "place" "[I") (by decide +kernel)
  have hiX8 : ∀ w ∈ u_ws RX8 TX8 5, w ∈ wsX8_setPlace := by decide +kernel
  refine lv_iload_n hx hb dX8_setPlace_0 rfl (lv_at hl 1 rfl) ?_
  refine r0_lt (tgt := 20) hx hb (tI_nI (by omega)) dX8_setPlace_1 (by decide) (fun c1 => ?_) (fun c1 => ?_)
  · omega
  · refine lv_iload_n hx hb dX8_setPlace_4 rfl (lv_at hl 1 rfl) ?_
    refine lv_aload_n hx hb dX8_setPlace_5 rfl (lv_at hl 0 rfl) ?_
    refine va_get (D := D) (ci := 8) (v := .ref s3) (C := RX8) (T := TX8) (N := 5) hx hb hts hiX8 hown hK hP 0 rfl rfl 2 (by decide) wf18 (fun _ h9 => h9) rfl dX8_setPlace_6 ?_
    refine va_alen (v := nI 3) hx hb hK hP 3 0 rfl rfl rfl dX8_setPlace_9 ?_
    refine rc_ge (tgt := 20) hx hb (tI_nI (by omega)) (tI_nI (by omega)) dX8_setPlace_10 (by decide) (fun c10 => ?_) (fun c10 => ?_)
    · omega
    · refine lv_aload_n hx hb dX8_setPlace_13 rfl (lv_at hl 0 rfl) ?_
      refine va_get (D := D) (ci := 8) (v := .ref s3) (C := RX8) (T := TX8) (N := 5) hx hb hts hiX8 hown hK hP 0 rfl rfl 2 (by decide) wf18 (fun _ h9 => h9) rfl dX8_setPlace_14 ?_
      refine lv_iload_n hx hb dX8_setPlace_17 rfl (lv_at hl 1 rfl) ?_
      refine lv_iload_n hx hb dX8_setPlace_18 rfl (lv_at hl 2 rfl) ?_
      refine rn_iast (f := S.2.2.1) (k := k) (x := v) (ws2 := stW s0 s1 s2 s3 cI (S.1, S.2.1, va_up S.2.2.1 k v, S.2.2.2.1, S.2.2.2.2)) hx hb hK hP hV hS 3 0 rfl rfl (by omega) (by decide) dX8_setPlace_19 rfl rfl (fun H locs hP hS => ?_)
      exact hret 20 _ hP hS dX8_setPlace_20 rfl rfl
abbrev rmX8_yearIs : Room := { frames := 0, cells := 0, slots := 0, locals := 0 }
set_option maxHeartbeats 4000000 in
set_option maxRecDepth 100000 in
theorem k_X8_yearIs (l : Launch) (D : va_G) (cI cC cB cS : ClassId) (s0 s1 s2 s3 : Nat) (S : ST) : CI l D (kT cI cC cB cS) yX8_yearIs wsX8_yearIs rmX8_yearIs [.ref s0] (stW s0 s1 s2 s3 cI S) (fun r u => r = nI S.2.2.2.2 ∧ u = stW s0 s1 s2 s3 cI S) := by
  refine ci_intro (by decide) rfl (Nat.le_of_ble_eq_true rfl) ?_
  intro p e s m args below meth c ls A QF hF hK hP hV hS hA hN hl hret
  obtain ⟨hx, hb, hml, hown, hts⟩ := id hF
  have hP : va_P D vwCl (stW s0 s1 s2 s3 cI S) s.heap := hP
  have hl : lv_has ls 1 [(0, .ref s0)] := hl
  have wf25 := hts (.fieldLink RX8 25 "RemorseWall$Standing" "year" "I") (by decide +kernel)
  have hiX8 : ∀ w ∈ u_ws RX8 TX8 5, w ∈ wsX8_yearIs := by decide +kernel
  refine lv_aload_n hx hb dX8_yearIs_0 rfl (lv_at hl 0 rfl) ?_
  refine va_get (D := D) (ci := 8) (v := .int (nI S.2.2.2.2)) (C := RX8) (T := TX8) (N := 5) hx hb hts hiX8 hown hK hP 0 rfl rfl 4 (by decide) wf25 (fun _ h9 => h9) rfl dX8_yearIs_1 ?_
  exact hret 4 _ hP hS dX8_yearIs_4 rfl rfl ⟨rfl, rfl⟩
abbrev rmX8_nextYear : Room := { frames := 0, cells := 0, slots := 0, locals := 0 }
set_option maxHeartbeats 4000000 in
set_option maxRecDepth 100000 in
theorem k_X8_nextYear (l : Launch) (D : va_G) (cI cC cB cS : ClassId) (s0 s1 s2 s3 : Nat) (S : ST) : CV l D (kT cI cC cB cS) yX8_nextYear wsX8_nextYear rmX8_nextYear [.ref s0] (stW s0 s1 s2 s3 cI S) (fun u => u = stW s0 s1 s2 s3 cI (S.1, S.2.1, S.2.2.1, S.2.2.2.1, S.2.2.2.2 + 1)) := by
  refine cv_intro (by decide) rfl (Nat.le_of_ble_eq_true rfl) ?_
  intro p e s m args below meth c ls A QF hF hK hP hV hS hA hN hl hret
  obtain ⟨hx, hb, hml, hown, hts⟩ := id hF
  have hP : va_P D vwCl (stW s0 s1 s2 s3 cI S) s.heap := hP
  have hl : lv_has ls 1 [(0, .ref s0)] := hl
  have wf25 := hts (.fieldLink RX8 25 "RemorseWall$Standing" "year" "I") (by decide +kernel)
  have hiX8 : ∀ w ∈ u_ws RX8 TX8 5, w ∈ wsX8_nextYear := by decide +kernel
  refine lv_aload_n hx hb dX8_nextYear_0 rfl (lv_at hl 0 rfl) ?_
  refine lv_dup hx hb dX8_nextYear_1 rfl ?_
  refine va_get (D := D) (ci := 8) (v := .int (nI S.2.2.2.2)) (C := RX8) (T := TX8) (N := 5) hx hb hts hiX8 hown hK hP 0 rfl rfl 4 (by decide) wf25 (fun _ h9 => h9) rfl dX8_nextYear_2 ?_
  refine lv_iconst (v := nI 1) hx hb dX8_nextYear_5 (by decide) ?_
  refine rn_iadd hx hb dX8_nextYear_6 ?_
  refine ra_put (D := D) (ci := 8) (v := .int (nI (S.2.2.2.2 + 1))) (ty := .int) (C := RX8) (T := TX8) (N := 5) (ws2 := stW s0 s1 s2 s3 cI (S.1, S.2.1, S.2.2.1, S.2.2.2.1, S.2.2.2.2 + 1)) hx hb hts hiX8 tyX8 tyX8_ok nmX8 hown hK hP hV hS 0 rfl rfl 4 (by decide) wf25 (fun _ h9 => h9) rfl (by decide +kernel) rfl rfl (Nat.le_of_ble_eq_true rfl) dX8_nextYear_7 rfl rfl (fun H locs hP hS => ?_)
  exact hret 10 _ hP hS dX8_nextYear_10 rfl rfl
