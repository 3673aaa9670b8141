abbrev rmX10_clears : Room := { frames := 0, cells := 0, slots := 0, locals := 0 }
set_option maxHeartbeats 4000000 in
set_option maxRecDepth 100000 in
theorem k_X10_clears (l : Launch) (D : va_G) (cI cC cB cS : ClassId) (o : Nat) (ad : Nat → Nat) (P : PL) (I : RI) (nt : Nat → Nat)  : CV l D (kT cI cC cB cS) yX10_clears wsX10_clears rmX10_clears [.ref o] ([rmE o ad (pCells P) P.2.2.2.1 P.2.2.2.2.2.1 P.2.2.2.2.2.2 I, nE 24 (ad 14) cI nt]) (fun u => u = [rmE o ad (pCells P) P.2.2.2.1 P.2.2.2.2.2.1 P.2.2.2.2.2.2 (0, 0, 0, 0, I.2.2.2.2.1, I.2.2.2.2.2.1, I.2.2.2.2.2.2.1, I.2.2.2.2.2.2.2.1, I.2.2.2.2.2.2.2.2.1, I.2.2.2.2.2.2.2.2.2.1, I.2.2.2.2.2.2.2.2.2.2.1, I.2.2.2.2.2.2.2.2.2.2.2), nE 24 (ad 14) cI (clN nt 24)]) := by
  refine cv_intro (by decide) rfl (Nat.le_of_ble_eq_true rfl) ?_
  intro p e s m args below meth c ls A QF hF hK hP hV hS hA hN hl hret
  obtain ⟨hx, hb, hml, hown, hts⟩ := id hF
  have hP : va_P D vwCl ([rmE o ad (pCells P) P.2.2.2.1 P.2.2.2.2.2.1 P.2.2.2.2.2.2 I, nE 24 (ad 14) cI nt]) s.heap := hP
  have hl : lv_has ls 2 [(0, .ref o)] := hl
  have wf34 := hts (.fieldLink RX10 34 "RemorseWallModel" "newTold" "[I") (by decide +kernel)
  have wf98 := hts (.fieldLink RX10 98 "RemorseWallModel" "newWide" "I") (by decide +kernel)
  have wf102 := hts (.fieldLink RX10 102 "RemorseWallModel" "newCells" "I") (by decide +kernel)
  have wf115 := hts (.fieldLink RX10 115 "RemorseWallModel" "newCases" "I") (by decide +kernel)
  have wf118 := hts (.fieldLink RX10 118 "RemorseWallModel" "newMaids" "I") (by decide +kernel)
  have hiX10 : ∀ w ∈ u_ws RX10 TX10 44, w ∈ wsX10_clears := by decide +kernel
  refine lv_aload_n (pc := 0) hx hb dX10_clears_0 rfl (lv_at hl 0 rfl) ?_
  refine lv_iconst (pc := 1) (v := nI 0) hx hb dX10_clears_1 (by decide) ?_
  refine ra_put (pc := 2) (D := D) (ci := 10) (v := .int (nI 0)) (ty := .int) (C := RX10) (T := TX10) (N := 44) (ws2 := [rmE o ad (pCells P) P.2.2.2.1 P.2.2.2.2.2.1 P.2.2.2.2.2.2 (0, I.2.1, I.2.2.1, I.2.2.2.1, I.2.2.2.2.1, I.2.2.2.2.2.1, I.2.2.2.2.2.2.1, I.2.2.2.2.2.2.2.1, I.2.2.2.2.2.2.2.2.1, I.2.2.2.2.2.2.2.2.2.1, I.2.2.2.2.2.2.2.2.2.2.1, I.2.2.2.2.2.2.2.2.2.2.2), nE 24 (ad 14) cI nt]) hx hb hts hiX10 tyX10 tyX10_ok nmX10 hown hK hP hV hS 0 rfl rfl 12 (by decide) wf102 (fun _ h9 => h9) rfl (by decide +kernel) rfl rfl (Nat.le_of_ble_eq_true rfl) dX10_clears_2 rfl rfl (fun H locs hP hS => ?_)
  refine lv_aload_n (pc := 5) hx hb dX10_clears_5 rfl (lv_at hl 0 rfl) ?_
  refine lv_iconst (pc := 6) (v := nI 0) hx hb dX10_clears_6 (by decide) ?_
  refine ra_put (pc := 7) (D := D) (ci := 10) (v := .int (nI 0)) (ty := .int) (C := RX10) (T := TX10) (N := 44) (ws2 := [rmE o ad (pCells P) P.2.2.2.1 P.2.2.2.2.2.1 P.2.2.2.2.2.2 (0, 0, I.2.2.1, I.2.2.2.1, I.2.2.2.2.1, I.2.2.2.2.2.1, I.2.2.2.2.2.2.1, I.2.2.2.2.2.2.2.1, I.2.2.2.2.2.2.2.2.1, I.2.2.2.2.2.2.2.2.2.1, I.2.2.2.2.2.2.2.2.2.2.1, I.2.2.2.2.2.2.2.2.2.2.2), nE 24 (ad 14) cI nt]) hx hb hts hiX10 tyX10 tyX10_ok nmX10 hown hK hP hV hS 0 rfl rfl 13 (by decide) wf98 (fun _ h9 => h9) rfl (by decide +kernel) rfl rfl (Nat.le_of_ble_eq_true rfl) dX10_clears_7 rfl rfl (fun H locs hP hS => ?_)
  refine lv_aload_n (pc := 10) hx hb dX10_clears_10 rfl (lv_at hl 0 rfl) ?_
  refine lv_iconst (pc := 11) (v := nI 0) hx hb dX10_clears_11 (by decide) ?_
  refine ra_put (pc := 12) (D := D) (ci := 10) (v := .int (nI 0)) (ty := .int) (C := RX10) (T := TX10) (N := 44) (ws2 := [rmE o ad (pCells P) P.2.2.2.1 P.2.2.2.2.2.1 P.2.2.2.2.2.2 (0, 0, 0, I.2.2.2.1, I.2.2.2.2.1, I.2.2.2.2.2.1, I.2.2.2.2.2.2.1, I.2.2.2.2.2.2.2.1, I.2.2.2.2.2.2.2.2.1, I.2.2.2.2.2.2.2.2.2.1, I.2.2.2.2.2.2.2.2.2.2.1, I.2.2.2.2.2.2.2.2.2.2.2), nE 24 (ad 14) cI nt]) hx hb hts hiX10 tyX10 tyX10_ok nmX10 hown hK hP hV hS 0 rfl rfl 15 (by decide) wf115 (fun _ h9 => h9) rfl (by decide +kernel) rfl rfl (Nat.le_of_ble_eq_true rfl) dX10_clears_12 rfl rfl (fun H locs hP hS => ?_)
  refine lv_aload_n (pc := 15) hx hb dX10_clears_15 rfl (lv_at hl 0 rfl) ?_
  refine lv_iconst (pc := 16) (v := nI 0) hx hb dX10_clears_16 (by decide) ?_
  refine ra_put (pc := 17) (D := D) (ci := 10) (v := .int (nI 0)) (ty := .int) (C := RX10) (T := TX10) (N := 44) (ws2 := [rmE o ad (pCells P) P.2.2.2.1 P.2.2.2.2.2.1 P.2.2.2.2.2.2 (0, 0, 0, 0, I.2.2.2.2.1, I.2.2.2.2.2.1, I.2.2.2.2.2.2.1, I.2.2.2.2.2.2.2.1, I.2.2.2.2.2.2.2.2.1, I.2.2.2.2.2.2.2.2.2.1, I.2.2.2.2.2.2.2.2.2.2.1, I.2.2.2.2.2.2.2.2.2.2.2), nE 24 (ad 14) cI nt]) hx hb hts hiX10 tyX10 tyX10_ok nmX10 hown hK hP hV hS 0 rfl rfl 20 (by decide) wf118 (fun _ h9 => h9) rfl (by decide +kernel) rfl rfl (Nat.le_of_ble_eq_true rfl) dX10_clears_17 rfl rfl (fun H locs hP hS => ?_)
  refine lv_iconst (pc := 20) (v := nI 0) hx hb dX10_clears_20 (by decide) ?_
  refine lv_istore_n (pc := 21) (lv' := [(1, .int (nI 0)), (0, .ref o)]) hx hb dX10_clears_21 rfl hl (by decide) rfl (fun ls hl => ?_)
  have cut22 : ∀ (fuel : Nat) (i : Nat) (f : Nat → Nat) (H : Heap) (locs : List Loc) (ls : Array Slot) (hi : i ≤ 24) (hf : f = clN nt i) (hfu : 24 - i < fuel), va_P D vwCl ([rmE o ad (pCells P) P.2.2.2.1 P.2.2.2.2.2.1 P.2.2.2.2.2.2 (0, 0, 0, 0, I.2.2.2.2.1, I.2.2.2.2.2.1, I.2.2.2.2.2.2.1, I.2.2.2.2.2.2.2.1, I.2.2.2.2.2.2.2.2.1, I.2.2.2.2.2.2.2.2.2.1, I.2.2.2.2.2.2.2.2.2.2.1, I.2.2.2.2.2.2.2.2.2.2.2), nE 24 (ad 14) cI f]) H → va_S A s.heap H locs → lv_has ls 2 [(1, .int (nI i)), (0, .ref o)] → W p l e rmX10_clears s m args below meth c H locs 0 0 QF (F0 m 22 ls []) := by
    intro fuel
    induction fuel with
    | zero => intro i f H locs ls hi hf hfu; omega
    | succ fuel ih22 =>
      intro i f H locs ls hi hf hfu hP hS hl
      refine lv_iload_n (pc := 22) hx hb dX10_clears_22 rfl (lv_at hl 0 rfl) ?_
      refine lv_bipush (pc := 23) (v := nI 24) hx hb dX10_clears_23 (by decide) ?_
      refine rc_ge (pc := 25) (tgt := 41) hx hb (tI_nI (by omega)) (tI_nI (by omega)) dX10_clears_25 (by decide) (fun c25 => ?_) (fun c25 => ?_)
      · exact hret 41 _ hP hS dX10_clears_41 rfl (by rw [hf, show i = 24 by omega])
      · refine lv_aload_n (pc := 28) hx hb dX10_clears_28 rfl (lv_at hl 1 rfl) ?_
        refine va_get (pc := 29) (D := D) (ci := 10) (v := .ref (ad 14)) (C := RX10) (T := TX10) (N := 44) hx hb hts hiX10 hown hK hP 0 rfl rfl 14 (by decide) wf34 (fun _ h9 => h9) rfl dX10_clears_29 ?_
        refine lv_iload_n (pc := 32) hx hb dX10_clears_32 rfl (lv_at hl 0 rfl) ?_
        refine lv_iconst (pc := 33) (v := nI 0) hx hb dX10_clears_33 (by decide) ?_
        refine rn_iast (pc := 34) (f := f) (k := i) (x := 0) (ws2 := [rmE o ad (pCells P) P.2.2.2.1 P.2.2.2.2.2.1 P.2.2.2.2.2.2 (0, 0, 0, 0, I.2.2.2.2.1, I.2.2.2.2.2.1, I.2.2.2.2.2.2.1, I.2.2.2.2.2.2.2.1, I.2.2.2.2.2.2.2.2.1, I.2.2.2.2.2.2.2.2.2.1, I.2.2.2.2.2.2.2.2.2.2.1, I.2.2.2.2.2.2.2.2.2.2.2), nE 24 (ad 14) cI (va_up f i 0)]) hx hb hK hP hV hS 1 0 rfl rfl (by omega) (by decide) dX10_clears_34 rfl rfl (fun H locs hP hS => ?_)
        refine lv_iinc (pc := 35) (v := nI (i + 1)) (lv' := [(1, .int (nI (i + 1))), (0, .ref o)]) hx hb dX10_clears_35 hl (k := 0) rfl (by rw [← nI_add]; rfl) (by decide) rfl (fun ls hl => ?_)
        refine lv_goto (pc := 38) (tgt := 22) hx hb dX10_clears_38 (by decide) ?_
        exact ih22 (i + 1) (va_up f i 0) _ _ _ (by omega) (clN_s hf) (by omega) hP hS (lv_sub hl [0, 1] rfl)
  exact cut22 _ 0 nt _ _ _ (by omega) (clN_0 nt) (Nat.lt_succ_self _) hP hS (lv_sub hl [0, 1] rfl)
