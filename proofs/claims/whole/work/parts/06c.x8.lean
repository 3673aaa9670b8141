abbrev rmX8_isPardoned : Room := { frames := 0, cells := 0, slots := 0, locals := 0 }
set_option maxHeartbeats 4000000 in
set_option maxRecDepth 100000 in
theorem k_X8_isPardoned (l : Launch) (D : va_G) (cI cC cB cS : ClassId) (s0 s1 s2 s3 : Nat) (S : ST) (k : Nat) (hpa : S.2.2.2.1 < 64) (hk : k < 6) : CI l D (kT cI cC cB cS) yX8_isPardoned wsX8_isPardoned rmX8_isPardoned [.ref s0, .int (nI k)] (stW s0 s1 s2 s3 cI S) (fun r u => r = nI (if sPard S k then 1 else 0) ∧ u = stW s0 s1 s2 s3 cI S) := by
  refine ci_intro (by decide) rfl (Nat.le_of_ble_eq_true rfl) ?_
  intro p e s m args below meth c ls A QF hF hK hP hV hS hA hN hl hret
  obtain ⟨hx, hb, hml, hown, hts⟩ := id hF
  have hP : va_P D vwCl (stW s0 s1 s2 s3 cI S) s.heap := hP
  have hl : lv_has ls 2 [(0, .ref s0), (1, .int (nI k))] := hl
  have wf21 := hts (.fieldLink RX8 21 "RemorseWall$Standing" "pardoned" "I") (by decide +kernel)
  have hiX8 : ∀ w ∈ u_ws RX8 TX8 5, w ∈ wsX8_isPardoned := by decide +kernel
  refine lv_aload_n (pc := 0) hx hb dX8_isPardoned_0 rfl (lv_at hl 0 rfl) ?_
  refine va_get (pc := 1) (D := D) (ci := 8) (v := .int (nI S.2.2.2.1)) (C := RX8) (T := TX8) (N := 5) hx hb hts hiX8 hown hK hP 0 rfl rfl 3 (by decide) wf21 (fun _ h9 => h9) rfl dX8_isPardoned_1 ?_
  refine lv_iload_n (pc := 4) hx hb dX8_isPardoned_4 rfl (lv_at hl 1 rfl) ?_
  refine lv_ishr (pc := 5) hx hb dX8_isPardoned_5 ?_
  refine r_top (nI_shr (by omega) (by omega)) ?_
  refine lv_iconst (pc := 6) (v := nI 1) hx hb dX8_isPardoned_6 (by decide) ?_
  refine lv_iand (pc := 7) hx hb dX8_isPardoned_7 ?_
  refine r_top (nI_bit _) ?_
  refine lv_iconst (pc := 8) (v := nI 1) hx hb dX8_isPardoned_8 (by decide) ?_
  refine rc_ne (pc := 9) (tgt := 16) hx hb (tI_nI (by omega)) (tI_nI (by omega)) dX8_isPardoned_9 (by decide) (fun c9 => ?_) (fun c9 => ?_)
  · refine lv_iconst (pc := 16) (v := nI 0) hx hb dX8_isPardoned_16 (by decide) ?_
    exact hret 17 _ hP hS dX8_isPardoned_17 rfl rfl ⟨(by rw [if_neg (show ¬ sPard S k by unfold sPard; omega)]), rfl⟩
  · refine lv_iconst (pc := 12) (v := nI 1) hx hb dX8_isPardoned_12 (by decide) ?_
    refine lv_goto (pc := 13) (tgt := 17) hx hb dX8_isPardoned_13 (by decide) ?_
    exact hret 17 _ hP hS dX8_isPardoned_17 rfl rfl ⟨(by rw [if_pos (show sPard S k by unfold sPard; omega)]), rfl⟩
abbrev rmX8_letOff : Room := { frames := 0, cells := 0, slots := 0, locals := 0 }
set_option maxHeartbeats 4000000 in
set_option maxRecDepth 100000 in
theorem k_X8_letOff (l : Launch) (D : va_G) (cI cC cB cS : ClassId) (s0 s1 s2 s3 : Nat) (S : ST) (k : Nat) (hk : k < 6) : CV l D (kT cI cC cB cS) yX8_letOff wsX8_letOff rmX8_letOff [.ref s0, .int (nI k)] (stW s0 s1 s2 s3 cI S) (fun u => u = stW s0 s1 s2 s3 cI (S.1, S.2.1, S.2.2.1, S.2.2.2.1 ||| 2 ^ k, S.2.2.2.2)) := by
  refine cv_intro (by decide) rfl (Nat.le_of_ble_eq_true rfl) ?_
  intro p e s m args below meth c ls A QF hF hK hP hV hS hA hN hl hret
  obtain ⟨hx, hb, hml, hown, hts⟩ := id hF
  have hP : va_P D vwCl (stW s0 s1 s2 s3 cI S) s.heap := hP
  have hl : lv_has ls 2 [(0, .ref s0), (1, .int (nI k))] := hl
  have wf21 := hts (.fieldLink RX8 21 "RemorseWall$Standing" "pardoned" "I") (by decide +kernel)
  have hiX8 : ∀ w ∈ u_ws RX8 TX8 5, w ∈ wsX8_letOff := by decide +kernel
  refine lv_aload_n (pc := 0) hx hb dX8_letOff_0 rfl (lv_at hl 0 rfl) ?_
  refine lv_dup (pc := 1) hx hb dX8_letOff_1 rfl ?_
  refine va_get (pc := 2) (D := D) (ci := 8) (v := .int (nI S.2.2.2.1)) (C := RX8) (T := TX8) (N := 5) hx hb hts hiX8 hown hK hP 0 rfl rfl 3 (by decide) wf21 (fun _ h9 => h9) rfl dX8_letOff_2 ?_
  refine lv_iconst (pc := 5) (v := nI 1) hx hb dX8_letOff_5 (by decide) ?_
  refine lv_iload_n (pc := 6) hx hb dX8_letOff_6 rfl (lv_at hl 1 rfl) ?_
  refine lv_ishl (pc := 7) hx hb dX8_letOff_7 ?_
  refine r_top (nI_1shl (by omega)) ?_
  refine lv_ior (pc := 8) hx hb dX8_letOff_8 ?_
  refine r_top (nI_or _ _) ?_
  refine ra_put (pc := 9) (D := D) (ci := 8) (v := .int (nI (S.2.2.2.1 ||| (2 ^ k)))) (ty := .int) (C := RX8) (T := TX8) (N := 5) (ws2 := stW s0 s1 s2 s3 cI (S.1, S.2.1, S.2.2.1, S.2.2.2.1 ||| (2 ^ k), S.2.2.2.2)) hx hb hts hiX8 tyX8 tyX8_ok nmX8 hown hK hP hV hS 0 rfl rfl 3 (by decide) wf21 (fun _ h9 => h9) rfl (by decide +kernel) rfl rfl (Nat.le_of_ble_eq_true rfl) dX8_letOff_9 rfl rfl (fun H locs hP hS => ?_)
  exact hret 12 _ hP hS dX8_letOff_12 rfl rfl
abbrev rmX8_pardonedCases : Room := { frames := 1, cells := 0, slots := 0, locals := 20 }
set_option maxHeartbeats 4000000 in
set_option maxRecDepth 100000 in
theorem k_X8_pardonedCases (l : Launch) (D : va_G) (cI cC cB cS : ClassId) (s0 s1 s2 s3 : Nat) (S : ST) (hpa : S.2.2.2.1 < 64) : CI l D (kT cI cC cB cS) yX8_pardonedCases wsX8_pardonedCases rmX8_pardonedCases [.ref s0] (stW s0 s1 s2 s3 cI S) (fun r u => r = nI (popN S.2.2.2.1 6) ∧ u = stW s0 s1 s2 s3 cI S) := by
  refine ci_intro (by decide) rfl (Nat.le_of_ble_eq_true rfl) ?_
  intro p e s m args below meth c ls A QF hF hK hP hV hS hA hN hl hret
  obtain ⟨hx, hb, hml, hown, hts⟩ := id hF
  have hP : va_P D vwCl (stW s0 s1 s2 s3 cI S) s.heap := hP
  have hl : lv_has ls 1 [(0, .ref s0)] := hl
  have wf21 := hts (.fieldLink RX8 21 "RemorseWall$Standing" "pardoned" "I") (by decide +kernel)
  have hiX8 : ∀ w ∈ u_ws RX8 TX8 5, w ∈ wsX8_pardonedCases := by decide +kernel
  refine lv_aload_n (pc := 0) hx hb dX8_pardonedCases_0 rfl (lv_at hl 0 rfl) ?_
  refine va_get (pc := 1) (D := D) (ci := 8) (v := .int (nI S.2.2.2.1)) (C := RX8) (T := TX8) (N := 5) hx hb hts hiX8 hown hK hP 0 rfl rfl 3 (by decide) wf21 (fun _ h9 => h9) rfl dX8_pardonedCases_1 ?_
  refine ci_Sd (pc := 4) hF hN hK hP hV hS hA (k_J6_bitCount_0f7a4 l D cI cC cB cS S.2.2.2.1 hpa) (va_cwS 1 hts gX8_pardonedCases_J6_bitCount_0f7a4 rfl rfl rfl (by decide +kernel) ⟨Nat.le_of_ble_eq_true rfl, Nat.le_of_ble_eq_true rfl⟩) [] rfl (by decide) rfl hl.1 rfl (Nat.le_of_ble_eq_true rfl) dX8_pardonedCases_4 ⟨Nat.le_refl _, Nat.le_refl _⟩ rfl (ws2 := stW s0 s1 s2 s3 cI S) rfl (fun H locs hP hS => ?_)
  exact hret 7 _ hP hS dX8_pardonedCases_7 rfl rfl ⟨rfl, rfl⟩
abbrev rmX8_leftToAll : Room := { frames := 0, cells := 0, slots := 0, locals := 0 }
set_option maxHeartbeats 4000000 in
set_option maxRecDepth 100000 in
theorem k_X8_leftToAll (l : Launch) (D : va_G) (cI cC cB cS : ClassId) (s0 s1 s2 s3 : Nat) (S : ST) : CI l D (kT cI cC cB cS) yX8_leftToAll wsX8_leftToAll rmX8_leftToAll [.ref s0] (stW s0 s1 s2 s3 cI S) (fun r u => r = nI (nSum S.2.1 3) ∧ u = stW s0 s1 s2 s3 cI S) := by
  refine ci_intro (by decide) rfl (Nat.le_of_ble_eq_true rfl) ?_
  intro p e s m args below meth c ls A QF hF hK hP hV hS hA hN hl hret
  obtain ⟨hx, hb, hml, hown, hts⟩ := id hF
  have hP : va_P D vwCl (stW s0 s1 s2 s3 cI S) s.heap := hP
  have hl : lv_has ls 3 [(0, .ref s0)] := hl
  have wf15 := hts (.fieldLink RX8 15 "RemorseWall$Standing" "left" "[I") (by decide +kernel)
  have hiX8 : ∀ w ∈ u_ws RX8 TX8 5, w ∈ wsX8_leftToAll := by decide +kernel
  refine lv_iconst (pc := 0) (v := nI 0) hx hb dX8_leftToAll_0 (by decide) ?_
  refine lv_istore_n (pc := 1) (lv' := [(1, .int (nI 0)), (0, .ref s0)]) hx hb dX8_leftToAll_1 rfl hl (by decide) rfl (fun ls hl => ?_)
  refine lv_iconst (pc := 2) (v := nI 0) hx hb dX8_leftToAll_2 (by decide) ?_
  refine lv_istore_n (pc := 3) (lv' := [(2, .int (nI 0)), (1, .int (nI 0)), (0, .ref s0)]) hx hb dX8_leftToAll_3 rfl hl (by decide) rfl (fun ls hl => ?_)
  have cut4 : ∀ (fuel : Nat) (i : Nat) (a : Nat) (H : Heap) (locs : List Loc) (ls : Array Slot) (hi3 : i ≤ 3) (ha : a = nSum S.2.1 i) (hfu : 3 - i < fuel), va_P D vwCl (stW s0 s1 s2 s3 cI S) H → va_S A s.heap H locs → lv_has ls 3 [(2, .int (nI i)), (1, .int (nI a)), (0, .ref s0)] → W p l e rmX8_leftToAll s m args below meth c H locs 0 0 QF (F0 m 4 ls []) := by
    intro fuel
    induction fuel with
    | zero => intro i a H locs ls hi3 ha hfu; omega
    | succ fuel ih4 =>
      intro i a H locs ls hi3 ha hfu hP hS hl
      refine lv_iload_n (pc := 4) hx hb dX8_leftToAll_4 rfl (lv_at hl 0 rfl) ?_
      refine lv_aload_n (pc := 5) hx hb dX8_leftToAll_5 rfl (lv_at hl 2 rfl) ?_
      refine va_get (pc := 6) (D := D) (ci := 8) (v := .ref s2) (C := RX8) (T := TX8) (N := 5) hx hb hts hiX8 hown hK hP 0 rfl rfl 1 (by decide) wf15 (fun _ h9 => h9) rfl dX8_leftToAll_6 ?_
      refine va_alen (pc := 9) (v := nI 3) hx hb hK hP 2 0 rfl rfl rfl dX8_leftToAll_9 ?_
      refine rc_ge (pc := 10) (tgt := 28) hx hb (tI_nI (by omega)) (tI_nI (by omega)) dX8_leftToAll_10 (by decide) (fun c10 => ?_) (fun c10 => ?_)
      · refine lv_iload_n (pc := 28) hx hb dX8_leftToAll_28 rfl (lv_at hl 1 rfl) ?_
        exact hret 29 _ hP hS dX8_leftToAll_29 rfl rfl ⟨(by rw [ha, show i = 3 by omega]), rfl⟩
      · refine lv_iload_n (pc := 13) hx hb dX8_leftToAll_13 rfl (lv_at hl 1 rfl) ?_
        refine lv_aload_n (pc := 14) hx hb dX8_leftToAll_14 rfl (lv_at hl 2 rfl) ?_
        refine va_get (pc := 15) (D := D) (ci := 8) (v := .ref s2) (C := RX8) (T := TX8) (N := 5) hx hb hts hiX8 hown hK hP 0 rfl rfl 1 (by decide) wf15 (fun _ h9 => h9) rfl dX8_leftToAll_15 ?_
        refine lv_iload_n (pc := 18) hx hb dX8_leftToAll_18 rfl (lv_at hl 0 rfl) ?_
        refine ra_iald (pc := 19) (k := i) (v := nI (S.2.1 i)) hx hb hK hP 2 0 rfl rfl (by omega) (by decide) rfl dX8_leftToAll_19 ?_
        refine rn_iadd (pc := 20) hx hb dX8_leftToAll_20 ?_
        refine lv_istore_n (pc := 21) (lv' := [(1, .int (nI (a + (S.2.1 i)))), (2, .int (nI i)), (0, .ref s0)]) hx hb dX8_leftToAll_21 rfl hl (by decide) rfl (fun ls hl => ?_)
        refine lv_iinc (pc := 22) (v := nI (i + 1)) (lv' := [(2, .int (nI (i + 1))), (1, .int (nI (a + (S.2.1 i)))), (0, .ref s0)]) hx hb dX8_leftToAll_22 hl (k := 1) rfl (by rw [← nI_add]; rfl) (by decide) rfl (fun ls hl => ?_)
        refine lv_goto (pc := 25) (tgt := 4) hx hb dX8_leftToAll_25 (by decide) ?_
        exact ih4 (i + 1) (a + S.2.1 i) _ _ _ (by omega) (by rw [ha]; rfl) (by omega) hP hS (lv_sub hl [0, 1, 2] rfl)
  exact cut4 _ 0 0 _ _ _ (by omega) rfl (Nat.lt_succ_self _) hP hS (lv_sub hl [0, 1, 2] rfl)
abbrev rmX8_hollowCells : Room := { frames := 1, cells := 0, slots := 0, locals := 20 }
set_option maxHeartbeats 4000000 in
set_option maxRecDepth 100000 in
theorem k_X8_hollowCells (l : Launch) (D : va_G) (cI cC cB cS : ClassId) (s0 s1 s2 s3 : Nat) (S : ST) (hi : sHi S) : CI l D (kT cI cC cB cS) yX8_hollowCells wsX8_hollowCells rmX8_hollowCells [.ref s0] (stW s0 s1 s2 s3 cI S) (fun r u => r = nI (nCnt S.1 12 24) ∧ u = stW s0 s1 s2 s3 cI S) := by
  refine ci_intro (by decide) rfl (Nat.le_of_ble_eq_true rfl) ?_
  intro p e s m args below meth c ls A QF hF hK hP hV hS hA hN hl hret
  obtain ⟨hx, hb, hml, hown, hts⟩ := id hF
  have hP : va_P D vwCl (stW s0 s1 s2 s3 cI S) s.heap := hP
  have hl : lv_has ls 3 [(0, .ref s0)] := hl
  have wf9 := hts (.fieldLink RX8 9 "RemorseWall$Standing" "high" "[I") (by decide +kernel)
  have hiX8 : ∀ w ∈ u_ws RX8 TX8 5, w ∈ wsX8_hollowCells := by decide +kernel
  refine lv_iconst (pc := 0) (v := nI 0) hx hb dX8_hollowCells_0 (by decide) ?_
  refine lv_istore_n (pc := 1) (lv' := [(1, .int (nI 0)), (0, .ref s0)]) hx hb dX8_hollowCells_1 rfl hl (by decide) rfl (fun ls hl => ?_)
  refine lv_iconst (pc := 2) (v := nI 0) hx hb dX8_hollowCells_2 (by decide) ?_
  refine lv_istore_n (pc := 3) (lv' := [(2, .int (nI 0)), (1, .int (nI 0)), (0, .ref s0)]) hx hb dX8_hollowCells_3 rfl hl (by decide) rfl (fun ls hl => ?_)
  have cut4 : ∀ (fuel : Nat) (i : Nat) (a : Nat) (H : Heap) (locs : List Loc) (ls : Array Slot) (hi24 : i ≤ 24) (ha : a = nCnt S.1 12 i) (hfu : 24 - i < fuel), va_P D vwCl (stW s0 s1 s2 s3 cI S) H → va_S A s.heap H locs → lv_has ls 3 [(2, .int (nI i)), (1, .int (nI a)), (0, .ref s0)] → W p l e rmX8_hollowCells s m args below meth c H locs 0 0 QF (F0 m 4 ls []) := by
    intro fuel
    induction fuel with
    | zero => intro i a H locs ls hi24 ha hfu; omega
    | succ fuel ih4 =>
      intro i a H locs ls hi24 ha hfu hP hS hl
      refine lv_iload_n (pc := 4) hx hb dX8_hollowCells_4 rfl (lv_at hl 0 rfl) ?_
      refine lv_aload_n (pc := 5) hx hb dX8_hollowCells_5 rfl (lv_at hl 2 rfl) ?_
      refine va_get (pc := 6) (D := D) (ci := 8) (v := .ref s1) (C := RX8) (T := TX8) (N := 5) hx hb hts hiX8 hown hK hP 0 rfl rfl 0 (by decide) wf9 (fun _ h9 => h9) rfl dX8_hollowCells_6 ?_
      refine va_alen (pc := 9) (v := nI 24) hx hb hK hP 1 0 rfl rfl rfl dX8_hollowCells_9 ?_
      refine rc_ge (pc := 10) (tgt := 39) hx hb (tI_nI (by omega)) (tI_nI (by omega)) dX8_hollowCells_10 (by decide) (fun c10 => ?_) (fun c10 => ?_)
      · refine lv_iload_n (pc := 39) hx hb dX8_hollowCells_39 rfl (lv_at hl 1 rfl) ?_
        exact hret 40 _ hP hS dX8_hollowCells_40 rfl rfl ⟨(by rw [ha, show i = 24 by omega]), rfl⟩
      · refine lv_iload_n (pc := 13) hx hb dX8_hollowCells_13 rfl (lv_at hl 1 rfl) ?_
        refine lv_aload_n (pc := 14) hx hb dX8_hollowCells_14 rfl (lv_at hl 2 rfl) ?_
        refine va_get (pc := 15) (D := D) (ci := 8) (v := .ref s1) (C := RX8) (T := TX8) (N := 5) hx hb hts hiX8 hown hK hP 0 rfl rfl 0 (by decide) wf9 (fun _ h9 => h9) rfl dX8_hollowCells_15 ?_
        refine lv_iload_n (pc := 18) hx hb dX8_hollowCells_18 rfl (lv_at hl 0 rfl) ?_
        refine ra_iald (pc := 19) (k := i) (v := nI (S.1 i)) hx hb hK hP 1 0 rfl rfl (by omega) (by decide) rfl dX8_hollowCells_19 ?_
        have hq := hi i
        refine ci_SN (pc := 20) hF hN hK hP hV hS hA (k_X9_isHollow l D cI cC cB cS (nI (S.1 i)) ((S.1 i : Nat) : Int) (tI_nI (by omega))) ⟨va_cnB 1 hts ggX8_hollowCells_X9_isHollow rfl rfl rfl (hN _ (List.mem_of_getElem? (i := 10) rfl)) (hts _ (by decide +kernel)) (by decide +kernel) ⟨Nat.le_of_ble_eq_true rfl, Nat.le_of_ble_eq_true rfl⟩, hts _ (by decide +kernel), trivial⟩ rfl hl.1 rfl (Nat.le_of_ble_eq_true rfl) dX8_hollowCells_20 ⟨Nat.le_refl _, Nat.le_refl _⟩ rfl (fun H locs hP hS => ?_)
        refine rb_eq (pc := 23) (tgt := 30) hx hb dX8_hollowCells_23 (by decide) (fun c23 => ?_) (fun c23 => ?_)
        · refine lv_iconst (pc := 30) (v := nI 0) hx hb dX8_hollowCells_30 (by decide) ?_
          refine rn_iadd (pc := 31) hx hb dX8_hollowCells_31 ?_
          refine lv_istore_n (pc := 32) (lv' := [(1, .int (nI (a + 0))), (2, .int (nI i)), (0, .ref s0)]) hx hb dX8_hollowCells_32 rfl hl (by decide) rfl (fun ls hl => ?_)
          refine lv_iinc (pc := 33) (v := nI (i + 1)) (lv' := [(2, .int (nI (i + 1))), (1, .int (nI (a + 0))), (0, .ref s0)]) hx hb dX8_hollowCells_33 hl (k := 1) rfl (by rw [← nI_add]; rfl) (by decide) rfl (fun ls hl => ?_)
          refine lv_goto (pc := 36) (tgt := 4) hx hb dX8_hollowCells_36 (by decide) ?_
          exact ih4 (i + 1) (a + 0) _ _ _ (by omega) (by rw [nCnt, if_neg (by omega), ha]) (by omega) hP hS (lv_sub hl [0, 1, 2] rfl)
        · refine lv_iconst (pc := 26) (v := nI 1) hx hb dX8_hollowCells_26 (by decide) ?_
          refine lv_goto (pc := 27) (tgt := 31) hx hb dX8_hollowCells_27 (by decide) ?_
          refine rn_iadd (pc := 31) hx hb dX8_hollowCells_31 ?_
          refine lv_istore_n (pc := 32) (lv' := [(1, .int (nI (a + 1))), (2, .int (nI i)), (0, .ref s0)]) hx hb dX8_hollowCells_32 rfl hl (by decide) rfl (fun ls hl => ?_)
          refine lv_iinc (pc := 33) (v := nI (i + 1)) (lv' := [(2, .int (nI (i + 1))), (1, .int (nI (a + 1))), (0, .ref s0)]) hx hb dX8_hollowCells_33 hl (k := 1) rfl (by rw [← nI_add]; rfl) (by decide) rfl (fun ls hl => ?_)
          refine lv_goto (pc := 36) (tgt := 4) hx hb dX8_hollowCells_36 (by decide) ?_
          exact ih4 (i + 1) (a + 1) _ _ _ (by omega) (by rw [nCnt, if_pos (by omega), ha]) (by omega) hP hS (lv_sub hl [0, 1, 2] rfl)
  exact cut4 _ 0 0 _ _ _ (by omega) rfl (Nat.lt_succ_self _) hP hS (lv_sub hl [0, 1, 2] rfl)
