abbrev rmX3_readRow : Room := { frames := 2, cells := 0, slots := 0, locals := 44 }
set_option maxHeartbeats 4000000 in
set_option maxRecDepth 100000 in
theorem k_X3_readRow (l : Launch) (D : va_G) (cI cC cB cS : ClassId) (r0 r1 r2 : Nat) (R : RD) (t0 t1 : Nat) (T : LT) (p0 p1 p2 p3 : Nat) (P : PL) (ht : ltOK T) (hp : pOK P) (hkb : R.2.2 < 10000) (hg : ∀ j, R.2.1 j ≤ 9) : CI l D (kT cI cC cB cS) yX3_readRow wsX3_readRow rmX3_readRow [.ref r0, .ref t0, .ref p0] (rdW r0 r1 r2 cI R ++ ltW t0 t1 cC T ++ plW p0 p1 p2 p3 cI P) (fun r u => ∃ (g : Nat → Nat) (k : Nat) (P1 : PL), u = rdW r0 r1 r2 cI (R.1, g, k) ++ ltW t0 t1 cC T ++ plW p0 p1 p2 p3 cI P1 ∧ (∀ j, g j ≤ 9) ∧ k ≤ R.2.2 + 10 ∧ pOK P1 ∧ ((r = nI 1 ∧ rowS T P R.2.2 = some (P1, k)) ∨ (r = nI 0 ∧ rowS T P R.2.2 = none ∧ P1 = P))) := by
  refine ci_intro (by decide) rfl (Nat.le_of_ble_eq_true rfl) ?_
  intro p e s m args below meth c ls A QF hF hK hP hV hS hA hN hl hret
  obtain ⟨hx, hb, hml, hown, hts⟩ := id hF
  have hP : va_P D vwCl (rdW r0 r1 r2 cI R ++ ltW t0 t1 cC T ++ plW p0 p1 p2 p3 cI P) s.heap := hP
  have hl : lv_has ls 5 [(0, .ref r0), (1, .ref t0), (2, .ref p0)] := hl
  have wf15 := hts (.fieldLink RX3 15 "RemorseWall$Reader" "row" "[I") (by decide +kernel)
  have wf18 := hts (.fieldLink RX3 18 "RemorseWall$Reader" "place" "I") (by decide +kernel)
  have hiX3 : ∀ w ∈ u_ws RX3 TX3 3, w ∈ wsX3_readRow := by decide +kernel
  have ht2 := ht.2
  refine lv_iconst (pc := 0) (v := nI 0) hx hb dX3_readRow_0 (by decide) ?_
  refine lv_istore_n (pc := 1) (lv' := [(3, .int (nI 0)), (0, .ref r0), (1, .ref t0), (2, .ref p0)]) hx hb dX3_readRow_1 rfl hl (by decide) rfl (fun ls hl => ?_)
  refine lv_iconst (pc := 2) (v := nI 0) hx hb dX3_readRow_2 (by decide) ?_
  refine lv_istore (pc := 3) (lv' := [(4, .int (nI 0)), (3, .int (nI 0)), (0, .ref r0), (1, .ref t0), (2, .ref p0)]) hx hb dX3_readRow_3 hl (by decide) rfl (fun ls hl => ?_)
  have cut5 : ∀ (fuel : Nat) (i : Nat) (g : Nat → Nat) (H : Heap) (locs : List Loc) (ls : Array Slot) (hi6 : i ≤ 6) (hgb : ∀ j, g j ≤ 9) (hgd : ∀ j, j < i → g j = tAt T (R.2.2 + j) - 48) (hgf : ∀ j, j < i → isF T (R.2.2 + j)) (hfu : 6 - i < fuel), va_P D vwCl (rdW r0 r1 r2 cI (R.1, g, R.2.2 + i) ++ ltW t0 t1 cC T ++ plW p0 p1 p2 p3 cI P) H → va_S A s.heap H locs → lv_has ls 5 [(4, .int (nI i)), (3, .int (nI i)), (2, .ref p0), (1, .ref t0), (0, .ref r0)] → W p l e rmX3_readRow s m args below meth c H locs 0 0 QF (F0 m 5 ls []) := by
    intro fuel
    induction fuel with
    | zero => intro i g H locs ls hi6 hgb hgd hgf hfu; omega
    | succ fuel ih5 =>
      intro i g H locs ls hi6 hgb hgd hgf hfu hP hS hl
      refine lv_iload (pc := 5) hx hb dX3_readRow_5 (lv_at hl 0 rfl) ?_
      have cut62 : ∀  (H : Heap) (locs : List Loc) (ls : Array Slot) (hrun : runN T R.2.2 6 = i), va_P D vwCl (rdW r0 r1 r2 cI (R.1, g, R.2.2 + i) ++ ltW t0 t1 cC T ++ plW p0 p1 p2 p3 cI P) H → va_S A s.heap H locs → lv_has ls 5 [(4, .int (nI i)), (3, .int (nI i)), (2, .ref p0), (1, .ref t0), (0, .ref r0)] → W p l e rmX3_readRow s m args below meth c H locs 0 0 QF (F0 m 62 ls []) := by
        intro  H locs ls hrun hP hS hl
        refine lv_aload_n (pc := 62) hx hb dX3_readRow_62 rfl (lv_at hl 4 rfl) ?_
        refine lv_aload_n (pc := 63) hx hb dX3_readRow_63 rfl (lv_at hl 3 rfl) ?_
        refine lv_bipush (pc := 64) (v := nI 59) hx hb dX3_readRow_64 (by decide) ?_
        refine ci_Vd (pc := 66) (r0 := nI (if tAt T (R.2.2 + i) = 59 then 1 else 0)) hF hN hK hP hV hS hA (k_X3_skip l D cI cC cB cS r0 r1 r2 (R.1, g, R.2.2 + i) t0 t1 T 59 ht (show (R.2.2 + i) < 20000 by omega) (by omega)) (cwV 2 hts gX3_readRow_X3_skip rfl rfl rfl (by decide +kernel) ⟨Nat.le_of_ble_eq_true rfl, Nat.le_of_ble_eq_true rfl⟩) [0, 1, 2, 3, 4] rfl (by decide) 0 3 rfl rfl rfl hl.1 rfl (Nat.le_of_ble_eq_true rfl) dX3_readRow_66 ⟨Nat.le_refl _, Nat.le_refl _⟩ rfl (ws2 := rdW r0 r1 r2 cI (if tAt T (R.2.2 + i) = 59 then (R.1, g, (R.2.2 + i) + 1) else (R.1, g, R.2.2 + i)) ++ ltW t0 t1 cC T ++ plW p0 p1 p2 p3 cI P) rfl (fun H locs hP hS => ?_)
        refine rb_eq (pc := 69) (tgt := 88) hx hb dX3_readRow_69 (by decide) (fun c69 => ?_) (fun c69 => ?_)
        · rw [if_neg c69] at hP
          refine lv_iconst (pc := 88) (v := nI 0) hx hb dX3_readRow_88 (by decide) ?_
          exact hret 89 _ hP hS dX3_readRow_89 rfl rfl ⟨g, R.2.2 + i, P, rfl, hgb, (by omega), hp, Or.inr ⟨rfl, (by unfold rowS; rw [hrun, if_neg (fun q => c69 q.1)]), rfl⟩⟩
        · rw [if_pos c69] at hP
          refine lv_aload_n (pc := 72) hx hb dX3_readRow_72 rfl (lv_at hl 2 rfl) ?_
          refine lv_aload_n (pc := 73) hx hb dX3_readRow_73 rfl (lv_at hl 4 rfl) ?_
          refine va_get (pc := 74) (D := D) (ci := 3) (v := .ref r2) (C := RX3) (T := TX3) (N := 3) hx hb hts hiX3 hown hK hP 0 rfl rfl 1 (by decide) wf15 (fun _ h9 => h9) rfl dX3_readRow_74 ?_
          refine lv_iload_n (pc := 77) hx hb dX3_readRow_77 rfl (lv_at hl 1 rfl) ?_
          refine ci_Vd (pc := 78) (r0 := nI (if rowOK P i then 1 else 0)) hF hN hK hP hV hS hA (k_X2_addRow l D cI cC cB cS p0 p1 p2 p3 P r2 g i hp (by omega) (by omega)) (cwV 2 hts gX3_readRow_X2_addRow rfl rfl rfl (by decide +kernel) ⟨Nat.le_of_ble_eq_true rfl, Nat.le_of_ble_eq_true rfl⟩) [5, 6, 7, 8, 2] rfl (by decide) 0 2 rfl rfl rfl hl.1 rfl (Nat.le_of_ble_eq_true rfl) dX3_readRow_78 ⟨Nat.le_refl _, Nat.le_refl _⟩ rfl (ws2 := rdW r0 r1 r2 cI (R.1, g, R.2.2 + i + 1) ++ ltW t0 t1 cC T ++ plW p0 p1 p2 p3 cI (if rowOK P i then pRow P g i else P)) rfl (fun H locs hP hS => ?_)
          refine rb_eq (pc := 81) (tgt := 88) hx hb dX3_readRow_81 (by decide) (fun c81 => ?_) (fun c81 => ?_)
          · refine lv_iconst (pc := 88) (v := nI 0) hx hb dX3_readRow_88 (by decide) ?_
            exact hret 89 _ hP hS dX3_readRow_89 rfl rfl ⟨g, R.2.2 + i + 1, _, rfl, hgb, (by omega), (by rw [if_neg c81]; exact hp), Or.inr ⟨rfl, (by unfold rowS; rw [hrun, if_neg (fun q => c81 q.2)]), (by rw [if_neg c81])⟩⟩
          · refine lv_iconst (pc := 84) (v := nI 1) hx hb dX3_readRow_84 (by decide) ?_
            refine lv_goto (pc := 85) (tgt := 89) hx hb dX3_readRow_85 (by decide) ?_
            exact hret 89 _ hP hS dX3_readRow_89 rfl rfl ⟨g, R.2.2 + i + 1, _, rfl, hgb, (by omega), (by rw [if_pos c81]; exact pRow_ok hp hgb c81), Or.inl ⟨rfl, (by unfold rowS; rw [hrun, if_pos ⟨c69, c81⟩, if_pos c81]; unfold pRow; rw [rowFill_congr i (fun j hj => (hgd j hj).symm)])⟩⟩
      refine lv_aload_n (pc := 7) hx hb dX3_readRow_7 rfl (lv_at hl 4 rfl) ?_
      refine va_get (pc := 8) (D := D) (ci := 3) (v := .ref r2) (C := RX3) (T := TX3) (N := 3) hx hb hts hiX3 hown hK hP 0 rfl rfl 1 (by decide) wf15 (fun _ h9 => h9) rfl dX3_readRow_8 ?_
      refine va_alen (pc := 11) (v := nI 6) hx hb hK hP 2 0 rfl rfl rfl dX3_readRow_11 ?_
      refine rc_ge (pc := 12) (tgt := 62) hx hb (tI_nI (by omega)) (tI_nI (by omega)) dX3_readRow_12 (by decide) (fun c12 => ?_) (fun c12 => ?_)
      · exact cut62  _ _ _ (runN_is hgf (fun h6 => absurd h6 (by omega)) (by omega))  hP hS (lv_sub hl [0, 1, 2, 3, 4] rfl)
      · refine lv_aload_n (pc := 15) hx hb dX3_readRow_15 rfl (lv_at hl 3 rfl) ?_
        refine lv_aload_n (pc := 16) hx hb dX3_readRow_16 rfl (lv_at hl 4 rfl) ?_
        refine va_get (pc := 17) (D := D) (ci := 3) (v := .int (nI (R.2.2 + i))) (C := RX3) (T := TX3) (N := 3) hx hb hts hiX3 hown hK hP 0 rfl rfl 2 (by decide) wf18 (fun _ h9 => h9) rfl dX3_readRow_17 ?_
        refine ci_Vd (pc := 20) (r0 := jI (figZ T (R.2.2 + i))) hF hN hK hP hV hS hA (k_X0_figureAt l D cI cC cB cS t0 t1 T (R.2.2 + i) ht (by omega)) (cwV 1 hts gX3_readRow_X0_figureAt rfl rfl rfl (by decide +kernel) ⟨Nat.le_of_ble_eq_true rfl, Nat.le_of_ble_eq_true rfl⟩) [3, 4] rfl (by decide) 0 0 rfl rfl rfl hl.1 rfl (Nat.le_of_ble_eq_true rfl) dX3_readRow_20 ⟨Nat.le_refl _, Nat.le_refl _⟩ rfl (ws2 := rdW r0 r1 r2 cI (R.1, g, R.2.2 + i) ++ ltW t0 t1 cC T ++ plW p0 p1 p2 p3 cI P) rfl (fun H locs hP hS => ?_)
        have fq3 := figZ_rng_ T (R.2.2 + i)
        refine lv_bipush (pc := 23) (v := jI (-4)) hx hb dX3_readRow_23 (by decide) ?_
        refine rc_eq (pc := 25) (tgt := 62) hx hb (jI_to (by omega)) (jI_to (by omega)) dX3_readRow_25 (by decide) (fun c25 => ?_) (fun c25 => ?_)
        · exact cut62  _ _ _ (runN_is hgf (fun h6 => figZ_notF (by omega)) (by omega))  hP hS (lv_sub hl [0, 1, 2, 3, 4] rfl)
        · have g20 : isF T (R.2.2 + i) := figZ_isF (by omega)
          have gd := tAt_lt ht (R.2.2 + i)
          refine lv_aload_n (pc := 28) hx hb dX3_readRow_28 rfl (lv_at hl 4 rfl) ?_
          refine va_get (pc := 29) (D := D) (ci := 3) (v := .ref r2) (C := RX3) (T := TX3) (N := 3) hx hb hts hiX3 hown hK hP 0 rfl rfl 1 (by decide) wf15 (fun _ h9 => h9) rfl dX3_readRow_29 ?_
          refine lv_iload (pc := 32) hx hb dX3_readRow_32 (lv_at hl 0 rfl) ?_
          refine lv_aload_n (pc := 34) hx hb dX3_readRow_34 rfl (lv_at hl 3 rfl) ?_
          refine lv_aload_n (pc := 35) hx hb dX3_readRow_35 rfl (lv_at hl 4 rfl) ?_
          refine va_get (pc := 36) (D := D) (ci := 3) (v := .int (nI (R.2.2 + i))) (C := RX3) (T := TX3) (N := 3) hx hb hts hiX3 hown hK hP 0 rfl rfl 2 (by decide) wf18 (fun _ h9 => h9) rfl dX3_readRow_36 ?_
          refine ci_Vd (pc := 39) (r0 := jI (figZ T (R.2.2 + i))) hF hN hK hP hV hS hA (k_X0_figureAt l D cI cC cB cS t0 t1 T (R.2.2 + i) ht (by omega)) (cwV 1 hts gX3_readRow_X0_figureAt rfl rfl rfl (by decide +kernel) ⟨Nat.le_of_ble_eq_true rfl, Nat.le_of_ble_eq_true rfl⟩) [3, 4] rfl (by decide) 0 0 rfl rfl rfl hl.1 rfl (Nat.le_of_ble_eq_true rfl) dX3_readRow_39 ⟨Nat.le_refl _, Nat.le_refl _⟩ rfl (ws2 := rdW r0 r1 r2 cI (R.1, g, R.2.2 + i) ++ ltW t0 t1 cC T ++ plW p0 p1 p2 p3 cI P) rfl (fun H locs hP hS => ?_)
          have fq4 := figZ_rng_ T (R.2.2 + i)
          rw [figZ_yes g20, ← jI_nat]
          refine rn_iast (pc := 42) (f := g) (k := i) (x := tAt T (R.2.2 + i) - 48) (ws2 := rdW r0 r1 r2 cI (R.1, va_up g i (tAt T (R.2.2 + i) - 48), R.2.2 + i) ++ ltW t0 t1 cC T ++ plW p0 p1 p2 p3 cI P) hx hb hK hP hV hS 2 0 rfl rfl (by omega) (by decide) dX3_readRow_42 rfl rfl (fun H locs hP hS => ?_)
          refine lv_iinc (pc := 43) (v := nI (i + 1)) (lv' := [(3, .int (nI (i + 1))), (4, .int (nI i)), (2, .ref p0), (1, .ref t0), (0, .ref r0)]) hx hb dX3_readRow_43 hl (k := 1) rfl (by rw [← nI_add]; rfl) (by decide) rfl (fun ls hl => ?_)
          refine lv_aload_n (pc := 46) hx hb dX3_readRow_46 rfl (lv_at hl 4 rfl) ?_
          refine lv_dup (pc := 47) hx hb dX3_readRow_47 rfl ?_
          refine va_get (pc := 48) (D := D) (ci := 3) (v := .int (nI (R.2.2 + i))) (C := RX3) (T := TX3) (N := 3) hx hb hts hiX3 hown hK hP 0 rfl rfl 2 (by decide) wf18 (fun _ h9 => h9) rfl dX3_readRow_48 ?_
          refine lv_iconst (pc := 51) (v := nI 1) hx hb dX3_readRow_51 (by decide) ?_
          refine rn_iadd (pc := 52) hx hb dX3_readRow_52 ?_
          refine ra_put (pc := 53) (D := D) (ci := 3) (v := .int (nI ((R.2.2 + i) + 1))) (ty := .int) (C := RX3) (T := TX3) (N := 3) (ws2 := rdW r0 r1 r2 cI (R.1, va_up g i (tAt T (R.2.2 + i) - 48), (R.2.2 + i) + 1) ++ ltW t0 t1 cC T ++ plW p0 p1 p2 p3 cI P) hx hb hts hiX3 tyX3 tyX3_ok nmX3 hown hK hP hV hS 0 rfl rfl 2 (by decide) wf18 (fun _ h9 => h9) rfl (by decide +kernel) rfl rfl (Nat.le_of_ble_eq_true rfl) dX3_readRow_53 rfl rfl (fun H locs hP hS => ?_)
          refine lv_iinc (pc := 56) (v := nI (i + 1)) (lv' := [(4, .int (nI (i + 1))), (3, .int (nI (i + 1))), (2, .ref p0), (1, .ref t0), (0, .ref r0)]) hx hb dX3_readRow_56 hl (k := 1) rfl (by rw [← nI_add]; rfl) (by decide) rfl (fun ls hl => ?_)
          refine lv_goto (pc := 59) (tgt := 5) hx hb dX3_readRow_59 (by decide) ?_
          exact ih5 (i + 1) (va_up g i (tAt T (R.2.2 + i) - 48)) _ _ _ (by omega) (fun k => Nat.le_of_lt_succ (va_up_lt (fun k => Nat.lt_succ_of_le (hgb k)) (by omega) k)) (va_up_lt1 (Pr := fun j y => y = tAt T (R.2.2 + j) - 48) hgd rfl) (fun j hj => (Nat.lt_or_ge j i).elim (fun q => hgf j q) (fun q => by rw [show j = i from (by omega)]; exact g20)) (by omega) hP hS (lv_sub hl [0, 1, 2, 3, 4] rfl)
  exact cut5 _ 0 R.2.1 _ _ _ (by omega) hg (fun j h => absurd h (Nat.not_lt_zero j)) (fun j h => absurd h (Nat.not_lt_zero j)) (Nat.lt_succ_self _) hP hS (lv_sub hl [0, 1, 4, 3, 2] rfl)
