abbrev rmX6_size : Room := { frames := 0, cells := 0, slots := 0, locals := 0 }
set_option maxHeartbeats 4000000 in
set_option maxRecDepth 100000 in
theorem k_X6_size (l : Launch) (D : va_G) (cI cC cB cS : ClassId) (g0 g1 g2 : Nat) (G : SG) : CI l D (kT cI cC cB cS) yX6_size wsX6_size rmX6_size [.ref g0] (sgW g0 g1 g2 cI G) (fun r u => r = nI G.2.2 ∧ u = sgW g0 g1 g2 cI G) := by
  refine ci_intro (by decide) rfl (Nat.le_of_ble_eq_true rfl) ?_
  intro p e s m args below meth c ls A QF hF hK hP hV hS hA hN hl hret
  obtain ⟨hx, hb, hml, hown, hts⟩ := id hF
  have hP : va_P D vwCl (sgW g0 g1 g2 cI G) s.heap := hP
  have hl : lv_has ls 1 [(0, .ref g0)] := hl
  have wf18 := hts (.fieldLink RX6 18 "RemorseWall$Sightings" "size" "I") (by decide +kernel)
  have hiX6 : ∀ w ∈ u_ws RX6 TX6 3, w ∈ wsX6_size := by decide +kernel
  refine lv_aload_n (pc := 0) hx hb dX6_size_0 rfl (lv_at hl 0 rfl) ?_
  refine va_get (pc := 1) (D := D) (ci := 6) (v := .int (nI G.2.2)) (C := RX6) (T := TX6) (N := 3) hx hb hts hiX6 hown hK hP 0 rfl rfl 2 (by decide) wf18 (fun _ h9 => h9) rfl dX6_size_1 ?_
  exact hret 4 _ hP hS dX6_size_4 rfl rfl ⟨rfl, rfl⟩
abbrev rmX6_isFull : Room := { frames := 0, cells := 0, slots := 0, locals := 0 }
set_option maxHeartbeats 4000000 in
set_option maxRecDepth 100000 in
theorem k_X6_isFull (l : Launch) (D : va_G) (cI cC cB cS : ClassId) (g0 g1 g2 : Nat) (G : SG) (hg : G.2.2 ≤ 8) : CI l D (kT cI cC cB cS) yX6_isFull wsX6_isFull rmX6_isFull [.ref g0] (sgW g0 g1 g2 cI G) (fun r u => r = nI (if 8 ≤ G.2.2 then 1 else 0) ∧ u = sgW g0 g1 g2 cI G) := by
  refine ci_intro (by decide) rfl (Nat.le_of_ble_eq_true rfl) ?_
  intro p e s m args below meth c ls A QF hF hK hP hV hS hA hN hl hret
  obtain ⟨hx, hb, hml, hown, hts⟩ := id hF
  have hP : va_P D vwCl (sgW g0 g1 g2 cI G) s.heap := hP
  have hl : lv_has ls 1 [(0, .ref g0)] := hl
  have wf18 := hts (.fieldLink RX6 18 "RemorseWall$Sightings" "size" "I") (by decide +kernel)
  have hiX6 : ∀ w ∈ u_ws RX6 TX6 3, w ∈ wsX6_isFull := by decide +kernel
  refine lv_aload_n (pc := 0) hx hb dX6_isFull_0 rfl (lv_at hl 0 rfl) ?_
  refine va_get (pc := 1) (D := D) (ci := 6) (v := .int (nI G.2.2)) (C := RX6) (T := TX6) (N := 3) hx hb hts hiX6 hown hK hP 0 rfl rfl 2 (by decide) wf18 (fun _ h9 => h9) rfl dX6_isFull_1 ?_
  refine lv_bipush (pc := 4) (v := nI 8) hx hb dX6_isFull_4 (by decide) ?_
  refine rc_lt (pc := 6) (tgt := 13) hx hb (tI_nI (by omega)) (tI_nI (by omega)) dX6_isFull_6 (by decide) (fun c6 => ?_) (fun c6 => ?_)
  · refine lv_iconst (pc := 13) (v := nI 0) hx hb dX6_isFull_13 (by decide) ?_
    exact hret 14 _ hP hS dX6_isFull_14 rfl rfl ⟨(by rw [if_neg (by omega)]), rfl⟩
  · refine lv_iconst (pc := 9) (v := nI 1) hx hb dX6_isFull_9 (by decide) ?_
    refine lv_goto (pc := 10) (tgt := 14) hx hb dX6_isFull_10 (by decide) ?_
    exact hret 14 _ hP hS dX6_isFull_14 rfl rfl ⟨(by rw [if_pos (by omega)]), rfl⟩
abbrev rmX6_clear : Room := { frames := 0, cells := 0, slots := 0, locals := 0 }
set_option maxHeartbeats 4000000 in
set_option maxRecDepth 100000 in
theorem k_X6_clear (l : Launch) (D : va_G) (cI cC cB cS : ClassId) (g0 g1 g2 : Nat) (G : SG) : CV l D (kT cI cC cB cS) yX6_clear wsX6_clear rmX6_clear [.ref g0] (sgW g0 g1 g2 cI G) (fun u => u = sgW g0 g1 g2 cI (G.1, G.2.1, 0)) := by
  refine cv_intro (by decide) rfl (Nat.le_of_ble_eq_true rfl) ?_
  intro p e s m args below meth c ls A QF hF hK hP hV hS hA hN hl hret
  obtain ⟨hx, hb, hml, hown, hts⟩ := id hF
  have hP : va_P D vwCl (sgW g0 g1 g2 cI G) s.heap := hP
  have hl : lv_has ls 1 [(0, .ref g0)] := hl
  have wf18 := hts (.fieldLink RX6 18 "RemorseWall$Sightings" "size" "I") (by decide +kernel)
  have hiX6 : ∀ w ∈ u_ws RX6 TX6 3, w ∈ wsX6_clear := by decide +kernel
  refine lv_aload_n (pc := 0) hx hb dX6_clear_0 rfl (lv_at hl 0 rfl) ?_
  refine lv_iconst (pc := 1) (v := nI 0) hx hb dX6_clear_1 (by decide) ?_
  refine ra_put (pc := 2) (D := D) (ci := 6) (v := .int (nI 0)) (ty := .int) (C := RX6) (T := TX6) (N := 3) (ws2 := sgW g0 g1 g2 cI (G.1, G.2.1, 0)) hx hb hts hiX6 tyX6 tyX6_ok nmX6 hown hK hP hV hS 0 rfl rfl 2 (by decide) wf18 (fun _ h9 => h9) rfl (by decide +kernel) rfl rfl (Nat.le_of_ble_eq_true rfl) dX6_clear_2 rfl rfl (fun H locs hP hS => ?_)
  exact hret 5 _ hP hS dX6_clear_5 rfl rfl
abbrev rmX6_add : Room := { frames := 0, cells := 0, slots := 0, locals := 0 }
set_option maxHeartbeats 4000000 in
set_option maxRecDepth 100000 in
theorem k_X6_add (l : Launch) (D : va_G) (cI cC cB cS : ClassId) (g0 g1 g2 : Nat) (G : SG) (x : Nat) (h : Nat) (hg : G.2.2 < 8) : CV l D (kT cI cC cB cS) yX6_add wsX6_add rmX6_add [.ref g0, .int (nI x), .int (nI h)] (sgW g0 g1 g2 cI G) (fun u => u = sgW g0 g1 g2 cI (va_up G.1 G.2.2 x, va_up G.2.1 G.2.2 h, G.2.2 + 1)) := by
  refine cv_intro (by decide) rfl (Nat.le_of_ble_eq_true rfl) ?_
  intro p e s m args below meth c ls A QF hF hK hP hV hS hA hN hl hret
  obtain ⟨hx, hb, hml, hown, hts⟩ := id hF
  have hP : va_P D vwCl (sgW g0 g1 g2 cI G) s.heap := hP
  have hl : lv_has ls 3 [(0, .ref g0), (1, .int (nI x)), (2, .int (nI h))] := hl
  have wf9 := hts (.fieldLink RX6 9 "RemorseWall$Sightings" "cells" "[I") (by decide +kernel)
  have wf15 := hts (.fieldLink RX6 15 "RemorseWall$Sightings" "highs" "[I") (by decide +kernel)
  have wf18 := hts (.fieldLink RX6 18 "RemorseWall$Sightings" "size" "I") (by decide +kernel)
  have hiX6 : ∀ w ∈ u_ws RX6 TX6 3, w ∈ wsX6_add := by decide +kernel
  refine lv_aload_n (pc := 0) hx hb dX6_add_0 rfl (lv_at hl 0 rfl) ?_
  refine va_get (pc := 1) (D := D) (ci := 6) (v := .int (nI G.2.2)) (C := RX6) (T := TX6) (N := 3) hx hb hts hiX6 hown hK hP 0 rfl rfl 2 (by decide) wf18 (fun _ h9 => h9) rfl dX6_add_1 ?_
  refine r0_lt (pc := 4) (tgt := 46) hx hb (tI_nI (by omega)) dX6_add_4 (by decide) (fun c4 => ?_) (fun c4 => ?_)
  · omega
  · refine lv_aload_n (pc := 7) hx hb dX6_add_7 rfl (lv_at hl 0 rfl) ?_
    refine va_get (pc := 8) (D := D) (ci := 6) (v := .int (nI G.2.2)) (C := RX6) (T := TX6) (N := 3) hx hb hts hiX6 hown hK hP 0 rfl rfl 2 (by decide) wf18 (fun _ h9 => h9) rfl dX6_add_8 ?_
    refine lv_bipush (pc := 11) (v := nI 8) hx hb dX6_add_11 (by decide) ?_
    refine rc_ge (pc := 13) (tgt := 46) hx hb (tI_nI (by omega)) (tI_nI (by omega)) dX6_add_13 (by decide) (fun c13 => ?_) (fun c13 => ?_)
    · omega
    · refine lv_aload_n (pc := 16) hx hb dX6_add_16 rfl (lv_at hl 0 rfl) ?_
      refine va_get (pc := 17) (D := D) (ci := 6) (v := .ref g1) (C := RX6) (T := TX6) (N := 3) hx hb hts hiX6 hown hK hP 0 rfl rfl 0 (by decide) wf9 (fun _ h9 => h9) rfl dX6_add_17 ?_
      refine lv_aload_n (pc := 20) hx hb dX6_add_20 rfl (lv_at hl 0 rfl) ?_
      refine va_get (pc := 21) (D := D) (ci := 6) (v := .int (nI G.2.2)) (C := RX6) (T := TX6) (N := 3) hx hb hts hiX6 hown hK hP 0 rfl rfl 2 (by decide) wf18 (fun _ h9 => h9) rfl dX6_add_21 ?_
      refine lv_iload_n (pc := 24) hx hb dX6_add_24 rfl (lv_at hl 1 rfl) ?_
      refine rn_iast (pc := 25) (f := G.1) (k := G.2.2) (x := x) (ws2 := sgW g0 g1 g2 cI (va_up G.1 G.2.2 x, G.2.1, G.2.2)) hx hb hK hP hV hS 1 0 rfl rfl (by omega) (by decide) dX6_add_25 rfl rfl (fun H locs hP hS => ?_)
      refine lv_aload_n (pc := 26) hx hb dX6_add_26 rfl (lv_at hl 0 rfl) ?_
      refine va_get (pc := 27) (D := D) (ci := 6) (v := .ref g2) (C := RX6) (T := TX6) (N := 3) hx hb hts hiX6 hown hK hP 0 rfl rfl 1 (by decide) wf15 (fun _ h9 => h9) rfl dX6_add_27 ?_
      refine lv_aload_n (pc := 30) hx hb dX6_add_30 rfl (lv_at hl 0 rfl) ?_
      refine va_get (pc := 31) (D := D) (ci := 6) (v := .int (nI G.2.2)) (C := RX6) (T := TX6) (N := 3) hx hb hts hiX6 hown hK hP 0 rfl rfl 2 (by decide) wf18 (fun _ h9 => h9) rfl dX6_add_31 ?_
      refine lv_iload_n (pc := 34) hx hb dX6_add_34 rfl (lv_at hl 2 rfl) ?_
      refine rn_iast (pc := 35) (f := G.2.1) (k := G.2.2) (x := h) (ws2 := sgW g0 g1 g2 cI (va_up G.1 G.2.2 x, va_up G.2.1 G.2.2 h, G.2.2)) hx hb hK hP hV hS 2 0 rfl rfl (by omega) (by decide) dX6_add_35 rfl rfl (fun H locs hP hS => ?_)
      refine lv_aload_n (pc := 36) hx hb dX6_add_36 rfl (lv_at hl 0 rfl) ?_
      refine lv_dup (pc := 37) hx hb dX6_add_37 rfl ?_
      refine va_get (pc := 38) (D := D) (ci := 6) (v := .int (nI G.2.2)) (C := RX6) (T := TX6) (N := 3) hx hb hts hiX6 hown hK hP 0 rfl rfl 2 (by decide) wf18 (fun _ h9 => h9) rfl dX6_add_38 ?_
      refine lv_iconst (pc := 41) (v := nI 1) hx hb dX6_add_41 (by decide) ?_
      refine rn_iadd (pc := 42) hx hb dX6_add_42 ?_
      refine ra_put (pc := 43) (D := D) (ci := 6) (v := .int (nI (G.2.2 + 1))) (ty := .int) (C := RX6) (T := TX6) (N := 3) (ws2 := sgW g0 g1 g2 cI (va_up G.1 G.2.2 x, va_up G.2.1 G.2.2 h, G.2.2 + 1)) hx hb hts hiX6 tyX6 tyX6_ok nmX6 hown hK hP hV hS 0 rfl rfl 2 (by decide) wf18 (fun _ h9 => h9) rfl (by decide +kernel) rfl rfl (Nat.le_of_ble_eq_true rfl) dX6_add_43 rfl rfl (fun H locs hP hS => ?_)
      exact hret 46 _ hP hS dX6_add_46 rfl rfl
abbrev rmX6_agreeWith : Room := { frames := 1, cells := 0, slots := 0, locals := 21 }
set_option maxHeartbeats 4000000 in
set_option maxRecDepth 100000 in
theorem k_X6_agreeWith (l : Launch) (D : va_G) (cI cC cB cS : ClassId) (g0 g1 g2 : Nat) (G : SG) (s0 s1 s2 s3 : Nat) (S : ST) (hg : G.2.2 ≤ 8) (hi : sHi S) (hgb : ∀ k, G.1 k < 1000 ∧ G.2.1 k < 1000) : CI l D (kT cI cC cB cS) yX6_agreeWith wsX6_agreeWith rmX6_agreeWith [.ref g0, .ref s0] (sgW g0 g1 g2 cI G ++ stW s0 s1 s2 s3 cI S) (fun r u => r = nI (if agr G S then 1 else 0) ∧ u = sgW g0 g1 g2 cI G ++ stW s0 s1 s2 s3 cI S) := by
  refine ci_intro (by decide) rfl (Nat.le_of_ble_eq_true rfl) ?_
  intro p e s m args below meth c ls A QF hF hK hP hV hS hA hN hl hret
  obtain ⟨hx, hb, hml, hown, hts⟩ := id hF
  have hP : va_P D vwCl (sgW g0 g1 g2 cI G ++ stW s0 s1 s2 s3 cI S) s.heap := hP
  have hl : lv_has ls 3 [(0, .ref g0), (1, .ref s0)] := hl
  have wf9 := hts (.fieldLink RX6 9 "RemorseWall$Sightings" "cells" "[I") (by decide +kernel)
  have wf15 := hts (.fieldLink RX6 15 "RemorseWall$Sightings" "highs" "[I") (by decide +kernel)
  have wf18 := hts (.fieldLink RX6 18 "RemorseWall$Sightings" "size" "I") (by decide +kernel)
  have hiX6 : ∀ w ∈ u_ws RX6 TX6 3, w ∈ wsX6_agreeWith := by decide +kernel
  refine lv_iconst (pc := 0) (v := nI 0) hx hb dX6_agreeWith_0 (by decide) ?_
  refine lv_istore_n (pc := 1) (lv' := [(2, .int (nI 0)), (0, .ref g0), (1, .ref s0)]) hx hb dX6_agreeWith_1 rfl hl (by decide) rfl (fun ls hl => ?_)
  have cut2 : ∀ (fuel : Nat) (k : Nat) (H : Heap) (locs : List Loc) (ls : Array Slot) (hk : k ≤ G.2.2) (ha : ∀ i, i < k → sAt S ((G.1 i : Nat) : Int) = G.2.1 i) (hfu : G.2.2 - k < fuel), va_P D vwCl (sgW g0 g1 g2 cI G ++ stW s0 s1 s2 s3 cI S) H → va_S A s.heap H locs → lv_has ls 3 [(2, .int (nI k)), (1, .ref s0), (0, .ref g0)] → W p l e rmX6_agreeWith s m args below meth c H locs 0 0 QF (F0 m 2 ls []) := by
    intro fuel
    induction fuel with
    | zero => intro k H locs ls hk ha hfu; omega
    | succ fuel ih2 =>
      intro k H locs ls hk ha hfu hP hS hl
      have hq1 := hgb k
      have hq2 := sAt_le hi ((G.1 k : Nat) : Int)
      refine lv_iload_n (pc := 2) hx hb dX6_agreeWith_2 rfl (lv_at hl 0 rfl) ?_
      refine lv_aload_n (pc := 3) hx hb dX6_agreeWith_3 rfl (lv_at hl 2 rfl) ?_
      refine va_get (pc := 4) (D := D) (ci := 6) (v := .int (nI G.2.2)) (C := RX6) (T := TX6) (N := 3) hx hb hts hiX6 hown hK hP 0 rfl rfl 2 (by decide) wf18 (fun _ h9 => h9) rfl dX6_agreeWith_4 ?_
      refine rc_ge (pc := 7) (tgt := 43) hx hb (tI_nI (by omega)) (tI_nI (by omega)) dX6_agreeWith_7 (by decide) (fun c7 => ?_) (fun c7 => ?_)
      · refine lv_iconst (pc := 43) (v := nI 1) hx hb dX6_agreeWith_43 (by decide) ?_
        exact hret 44 _ hP hS dX6_agreeWith_44 rfl rfl ⟨(by rw [if_pos (fun i h => ha i (by omega))]), rfl⟩
      · refine lv_iload_n (pc := 10) hx hb dX6_agreeWith_10 rfl (lv_at hl 0 rfl) ?_
        refine lv_bipush (pc := 11) (v := nI 8) hx hb dX6_agreeWith_11 (by decide) ?_
        refine rc_ge (pc := 13) (tgt := 43) hx hb (tI_nI (by omega)) (tI_nI (by omega)) dX6_agreeWith_13 (by decide) (fun c13 => ?_) (fun c13 => ?_)
        · omega
        · refine lv_aload_n (pc := 16) hx hb dX6_agreeWith_16 rfl (lv_at hl 1 rfl) ?_
          refine lv_aload_n (pc := 17) hx hb dX6_agreeWith_17 rfl (lv_at hl 2 rfl) ?_
          refine va_get (pc := 18) (D := D) (ci := 6) (v := .ref g1) (C := RX6) (T := TX6) (N := 3) hx hb hts hiX6 hown hK hP 0 rfl rfl 0 (by decide) wf9 (fun _ h9 => h9) rfl dX6_agreeWith_18 ?_
          refine lv_iload_n (pc := 21) hx hb dX6_agreeWith_21 rfl (lv_at hl 0 rfl) ?_
          refine ra_iald (pc := 22) (k := k) (v := nI (G.1 k)) hx hb hK hP 1 0 rfl rfl (by omega) (by decide) rfl dX6_agreeWith_22 ?_
          refine ci_Vd (pc := 23) (r0 := nI (sAt S ((G.1 k : Nat) : Int))) hF hN hK hP hV hS hA (k_X8_highAt l D cI cC cB cS s0 s1 s2 s3 S (nI (G.1 k)) ((G.1 k : Nat) : Int) (tI_nI (by omega))) (cwV 1 hts gX6_agreeWith_X8_highAt rfl rfl rfl (by decide +kernel) ⟨Nat.le_of_ble_eq_true rfl, Nat.le_of_ble_eq_true rfl⟩) [3, 4, 5, 6] rfl (by decide) 0 8 rfl rfl rfl hl.1 rfl (Nat.le_of_ble_eq_true rfl) dX6_agreeWith_23 ⟨Nat.le_refl _, Nat.le_refl _⟩ rfl (ws2 := sgW g0 g1 g2 cI G ++ stW s0 s1 s2 s3 cI S) rfl (fun H locs hP hS => ?_)
          refine lv_aload_n (pc := 26) hx hb dX6_agreeWith_26 rfl (lv_at hl 2 rfl) ?_
          refine va_get (pc := 27) (D := D) (ci := 6) (v := .ref g2) (C := RX6) (T := TX6) (N := 3) hx hb hts hiX6 hown hK hP 0 rfl rfl 1 (by decide) wf15 (fun _ h9 => h9) rfl dX6_agreeWith_27 ?_
          refine lv_iload_n (pc := 30) hx hb dX6_agreeWith_30 rfl (lv_at hl 0 rfl) ?_
          refine ra_iald (pc := 31) (k := k) (v := nI (G.2.1 k)) hx hb hK hP 2 0 rfl rfl (by omega) (by decide) rfl dX6_agreeWith_31 ?_
          refine rc_eq (pc := 32) (tgt := 37) hx hb (tI_nI (by omega)) (tI_nI (by omega)) dX6_agreeWith_32 (by decide) (fun c32 => ?_) (fun c32 => ?_)
          · refine lv_iinc (pc := 37) (v := nI (k + 1)) (lv' := [(2, .int (nI (k + 1))), (1, .ref s0), (0, .ref g0)]) hx hb dX6_agreeWith_37 hl (k := 0) rfl (by rw [← nI_add]; rfl) (by decide) rfl (fun ls hl => ?_)
            refine lv_goto (pc := 40) (tgt := 2) hx hb dX6_agreeWith_40 (by decide) ?_
            exact ih2 (k + 1) _ _ _ (by omega) (fun i h => (Nat.lt_or_ge i k).elim (fun q => ha i q) (fun q => by rw [show i = k from (by omega)]; omega)) (by omega) hP hS (lv_sub hl [0, 1, 2] rfl)
          · refine lv_iconst (pc := 35) (v := nI 0) hx hb dX6_agreeWith_35 (by decide) ?_
            exact hret 36 _ hP hS dX6_agreeWith_36 rfl rfl ⟨(by rw [if_neg (fun q => by have := q k (by omega); omega)]), rfl⟩
  exact cut2 _ 0 _ _ _ (Nat.zero_le _) (fun i h => absurd h (Nat.not_lt_zero i)) (Nat.lt_succ_self _) hP hS (lv_sub hl [0, 2, 1] rfl)
