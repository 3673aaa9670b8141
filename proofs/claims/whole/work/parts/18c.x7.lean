abbrev rmX7_markSmooth : Room := { frames := 0, cells := 0, slots := 0, locals := 0 }
set_option maxHeartbeats 4000000 in
set_option maxRecDepth 100000 in
theorem k_X7_markSmooth (l : Launch) (D : va_G) (cI cC cB cS : ClassId) (m0 m1 m2 : Nat) (M : SM) (ht : ∀ i, -4 ≤ M.1 i ∧ M.1 i ≤ 100) : CV l D (kT cI cC cB cS) yX7_markSmooth wsX7_markSmooth rmX7_markSmooth [.ref m0] (smW m0 m1 m2 cI M) (fun u => ∃ f : Nat → Int, u = smW m0 m1 m2 cI (f, M.2) ∧ (∀ i, -4 ≤ f i ∧ f i ≤ 100) ∧ ∀ j, j < 984 → f j = if j % 41 = 0 then 0 else -4) := by
  refine cv_intro (by decide) rfl (Nat.le_of_ble_eq_true rfl) ?_
  intro p e s m args below meth c ls A QF hF hK hP hV hS hA hN hl hret
  obtain ⟨hx, hb, hml, hown, hts⟩ := id hF
  have hP : va_P D vwCl (smW m0 m1 m2 cI M) s.heap := hP
  have hl : lv_has ls 2 [(0, .ref m0)] := hl
  have wf11 := hts (.fieldLink RX7 11 "RemorseWall$Smoothing" "fewest" "[I") (by decide +kernel)
  have hiX7 : ∀ w ∈ u_ws RX7 TX7 2, w ∈ wsX7_markSmooth := by decide +kernel
  refine lv_iconst (pc := 0) (v := nI 0) hx hb dX7_markSmooth_0 (by decide) ?_
  refine lv_istore_n (pc := 1) (lv' := [(1, .int (nI 0)), (0, .ref m0)]) hx hb dX7_markSmooth_1 rfl hl (by decide) rfl (fun ls hl => ?_)
  have cut2 : ∀ (fuel : Nat) (i : Nat) (f : Nat → Int) (H : Heap) (locs : List Loc) (ls : Array Slot) (hi : i ≤ 984) (hf : ∀ j, j < i → f j = if j % 41 = 0 then 0 else -4) (hfr : ∀ i, -4 ≤ f i ∧ f i ≤ 100) (hfu : 984 - i < fuel), va_P D vwCl (smW m0 m1 m2 cI (f, M.2)) H → va_S A s.heap H locs → lv_has ls 2 [(1, .int (nI i)), (0, .ref m0)] → W p l e rmX7_markSmooth s m args below meth c H locs 0 0 QF (F0 m 2 ls []) := by
    intro fuel
    induction fuel with
    | zero => intro i f H locs ls hi hf hfr hfu; omega
    | succ fuel ih2 =>
      intro i f H locs ls hi hf hfr hfu hP hS hl
      refine lv_iload_n (pc := 2) hx hb dX7_markSmooth_2 rfl (lv_at hl 0 rfl) ?_
      refine lv_aload_n (pc := 3) hx hb dX7_markSmooth_3 rfl (lv_at hl 1 rfl) ?_
      refine va_get (pc := 4) (D := D) (ci := 7) (v := .ref m1) (C := RX7) (T := TX7) (N := 2) hx hb hts hiX7 hown hK hP 0 rfl rfl 0 (by decide) wf11 (fun _ h9 => h9) rfl dX7_markSmooth_4 ?_
      refine va_alen (pc := 7) (v := nI 984) hx hb hK hP 1 0 rfl rfl rfl dX7_markSmooth_7 ?_
      refine rc_ge (pc := 8) (tgt := 36) hx hb (tI_nI (by omega)) (tI_nI (by omega)) dX7_markSmooth_8 (by decide) (fun c8 => ?_) (fun c8 => ?_)
      · exact hret 36 _ hP hS dX7_markSmooth_36 rfl ⟨f, rfl, hfr, fun j hj => hf j (by omega)⟩
      · refine lv_aload_n (pc := 11) hx hb dX7_markSmooth_11 rfl (lv_at hl 1 rfl) ?_
        refine va_get (pc := 12) (D := D) (ci := 7) (v := .ref m1) (C := RX7) (T := TX7) (N := 2) hx hb hts hiX7 hown hK hP 0 rfl rfl 0 (by decide) wf11 (fun _ h9 => h9) rfl dX7_markSmooth_12 ?_
        refine lv_iload_n (pc := 15) hx hb dX7_markSmooth_15 rfl (lv_at hl 0 rfl) ?_
        refine lv_iload_n (pc := 16) hx hb dX7_markSmooth_16 rfl (lv_at hl 0 rfl) ?_
        refine lv_bipush (pc := 17) (v := nI 41) hx hb dX7_markSmooth_17 (by decide) ?_
        refine rn_irem (pc := 19) hx hb (by omega) (by omega) dX7_markSmooth_19 ?_
        refine r0_ne (pc := 20) (tgt := 27) hx hb (tI_nI (by omega)) dX7_markSmooth_20 (by decide) (fun c20 => ?_) (fun c20 => ?_)
        · refine lv_bipush (pc := 27) (v := jI (-4)) hx hb dX7_markSmooth_27 (by decide) ?_
          refine rz_iast (pc := 29) (f := f) (k := i) (x := -4) (ws2 := smW m0 m1 m2 cI (va_up f i (-4), M.2)) hx hb hK hP hV hS 1 0 rfl rfl (by omega) (by decide) dX7_markSmooth_29 rfl rfl rfl (fun H locs hP hS => ?_)
          refine lv_iinc (pc := 30) (v := nI (i + 1)) (lv' := [(1, .int (nI (i + 1))), (0, .ref m0)]) hx hb dX7_markSmooth_30 hl (k := 0) rfl (by rw [← nI_add]; rfl) (by decide) rfl (fun ls hl => ?_)
          refine lv_goto (pc := 33) (tgt := 2) hx hb dX7_markSmooth_33 (by decide) ?_
          exact ih2 (i + 1) (va_up f i (-4)) _ _ _ (by omega) (va_up_all (Pr := fun j y => y = if j % 41 = 0 then 0 else -4) hf (by rw [if_neg (by omega)])) (va_up_rng hfr (by omega)) (by omega) hP hS (lv_sub hl [0, 1] rfl)
        · refine lv_iconst (pc := 23) (v := nI 0) hx hb dX7_markSmooth_23 (by decide) ?_
          refine lv_goto (pc := 24) (tgt := 29) hx hb dX7_markSmooth_24 (by decide) ?_
          refine rz_iast (pc := 29) (f := f) (k := i) (x := 0) (ws2 := smW m0 m1 m2 cI (va_up f i 0, M.2)) hx hb hK hP hV hS 1 0 rfl rfl (by omega) (by decide) dX7_markSmooth_29 (show nI 0 = jI 0 from jI_nat 0) rfl rfl (fun H locs hP hS => ?_)
          refine lv_iinc (pc := 30) (v := nI (i + 1)) (lv' := [(1, .int (nI (i + 1))), (0, .ref m0)]) hx hb dX7_markSmooth_30 hl (k := 0) rfl (by rw [← nI_add]; rfl) (by decide) rfl (fun ls hl => ?_)
          refine lv_goto (pc := 33) (tgt := 2) hx hb dX7_markSmooth_33 (by decide) ?_
          exact ih2 (i + 1) (va_up f i 0) _ _ _ (by omega) (va_up_all (Pr := fun j y => y = if j % 41 = 0 then 0 else -4) hf (by rw [if_pos (by omega)])) (va_up_rng hfr (by omega)) (by omega) hP hS (lv_sub hl [0, 1] rfl)
  exact cut2 _ 0 M.1 _ _ _ (by omega) (fun j hj => absurd hj (Nat.not_lt_zero j)) ht (Nat.lt_succ_self _) hP hS (lv_sub hl [0, 1] rfl)
