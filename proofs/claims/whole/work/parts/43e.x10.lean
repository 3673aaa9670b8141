abbrev rmX10_sum : Room := { frames := 0, cells := 0, slots := 0, locals := 0 }
set_option maxHeartbeats 4000000 in
set_option maxRecDepth 100000 in
theorem k_X10_sum (l : Launch) (D : va_G) (cI cC cB cS : ClassId) (o : Nat) (ad : Nat → Nat) (P : PL) (I : RI) (sl : Nat → Nat) (bs : Nat) (hp : pOK P) (hsl : ∀ j, sl j < 100000) (hbs : bs + 32 ≤ 384) : CI l D (kT cI cC cB cS) yX10_sum wsX10_sum rmX10_sum [.ref o, .int (nI bs)] ([rmE o ad (pCells P) P.2.2.2.1 P.2.2.2.2.2.1 P.2.2.2.2.2.2 I, nE 384 (ad 25) cI sl]) (fun r u => r = nI (nSum (fun j => sl (bs + j)) (pCells P)) ∧ u = [rmE o ad (pCells P) P.2.2.2.1 P.2.2.2.2.2.1 P.2.2.2.2.2.2 I, nE 384 (ad 25) cI sl]) := by
  refine ci_intro (by decide) rfl (Nat.le_of_ble_eq_true rfl) ?_
  intro p e s m args below meth c ls A QF hF hK hP hV hS hA hN hl hret
  obtain ⟨hx, hb, hml, hown, hts⟩ := id hF
  have hP : va_P D vwCl ([rmE o ad (pCells P) P.2.2.2.1 P.2.2.2.2.2.1 P.2.2.2.2.2.2 I, nE 384 (ad 25) cI sl]) s.heap := hP
  have hl : lv_has ls 4 [(0, .ref o), (1, .int (nI bs))] := hl
  have wf61 := hts (.fieldLink RX10 61 "RemorseWallModel" "slot" "[I") (by decide +kernel)
  have wf121 := hts (.fieldLink RX10 121 "RemorseWallModel" "cells" "I") (by decide +kernel)
  have hiX10 : ∀ w ∈ u_ws RX10 TX10 44, w ∈ wsX10_sum := by decide +kernel
  obtain ⟨hp1, hp2, hp3, hp4, hp5, hp6, hp7⟩ := id hp
  have hcl := pCells_le hp
  refine lv_iconst (pc := 0) (v := nI 0) hx hb dX10_sum_0 (by decide) ?_
  refine lv_istore_n (pc := 1) (lv' := [(2, .int (nI 0)), (0, .ref o), (1, .int (nI bs))]) hx hb dX10_sum_1 rfl hl (by decide) rfl (fun ls hl => ?_)
  refine lv_iconst (pc := 2) (v := nI 0) hx hb dX10_sum_2 (by decide) ?_
  refine lv_istore_n (pc := 3) (lv' := [(3, .int (nI 0)), (2, .int (nI 0)), (0, .ref o), (1, .int (nI bs))]) hx hb dX10_sum_3 rfl hl (by decide) rfl (fun ls hl => ?_)
  have cut4 : ∀ (fuel : Nat) (i : Nat) (a : Nat) (H : Heap) (locs : List Loc) (ls : Array Slot) (hi9 : i ≤ pCells P) (ha : a = nSum (fun j => sl (bs + j)) i) (hfu : pCells P - i < fuel), va_P D vwCl ([rmE o ad (pCells P) P.2.2.2.1 P.2.2.2.2.2.1 P.2.2.2.2.2.2 I, nE 384 (ad 25) cI sl]) H → va_S A s.heap H locs → lv_has ls 4 [(3, .int (nI i)), (2, .int (nI a)), (1, .int (nI bs)), (0, .ref o)] → W p l e rmX10_sum s m args below meth c H locs 0 0 QF (F0 m 4 ls []) := by
    intro fuel
    induction fuel with
    | zero => intro i a H locs ls hi9 ha hfu; omega
    | succ fuel ih4 =>
      intro i a H locs ls hi9 ha hfu hP hS hl
      refine lv_iload_n (pc := 4) hx hb dX10_sum_4 rfl (lv_at hl 0 rfl) ?_
      refine lv_aload_n (pc := 5) hx hb dX10_sum_5 rfl (lv_at hl 3 rfl) ?_
      refine va_get (pc := 6) (D := D) (ci := 10) (v := .int (nI (pCells P))) (C := RX10) (T := TX10) (N := 44) hx hb hts hiX10 hown hK hP 0 rfl rfl 0 (by decide) wf121 (fun _ h9 => h9) rfl dX10_sum_6 ?_
      refine rc_ge (pc := 9) (tgt := 29) hx hb (tI_nI (by omega)) (tI_nI (by omega)) dX10_sum_9 (by decide) (fun c9 => ?_) (fun c9 => ?_)
      · refine lv_iload_n (pc := 29) hx hb dX10_sum_29 rfl (lv_at hl 1 rfl) ?_
        exact hret 30 _ hP hS dX10_sum_30 rfl rfl ⟨(by rw [ha, show i = pCells P by omega]), rfl⟩
      · refine lv_iload_n (pc := 12) hx hb dX10_sum_12 rfl (lv_at hl 1 rfl) ?_
        refine lv_aload_n (pc := 13) hx hb dX10_sum_13 rfl (lv_at hl 3 rfl) ?_
        refine va_get (pc := 14) (D := D) (ci := 10) (v := .ref (ad 25)) (C := RX10) (T := TX10) (N := 44) hx hb hts hiX10 hown hK hP 0 rfl rfl 25 (by decide) wf61 (fun _ h9 => h9) rfl dX10_sum_14 ?_
        refine lv_iload_n (pc := 17) hx hb dX10_sum_17 rfl (lv_at hl 2 rfl) ?_
        refine lv_iload_n (pc := 18) hx hb dX10_sum_18 rfl (lv_at hl 0 rfl) ?_
        refine rn_iadd (pc := 19) hx hb dX10_sum_19 ?_
        refine ra_iald (pc := 20) (k := bs + i) (v := nI (sl (bs + i))) hx hb hK hP 1 0 rfl rfl (by omega) (by decide) rfl dX10_sum_20 ?_
        have hq := hsl (bs + i)
        refine rn_iadd (pc := 21) hx hb dX10_sum_21 ?_
        refine lv_istore_n (pc := 22) (lv' := [(2, .int (nI (a + (sl (bs + i))))), (3, .int (nI i)), (1, .int (nI bs)), (0, .ref o)]) hx hb dX10_sum_22 rfl hl (by decide) rfl (fun ls hl => ?_)
        refine lv_iinc (pc := 23) (v := nI (i + 1)) (lv' := [(3, .int (nI (i + 1))), (2, .int (nI (a + (sl (bs + i))))), (1, .int (nI bs)), (0, .ref o)]) hx hb dX10_sum_23 hl (k := 1) rfl (by rw [← nI_add]; rfl) (by decide) rfl (fun ls hl => ?_)
        refine lv_goto (pc := 26) (tgt := 4) hx hb dX10_sum_26 (by decide) ?_
        exact ih4 (i + 1) (a + sl (bs + i)) _ _ _ (by omega) (by rw [ha]; rfl) (by omega) hP hS (lv_sub hl [0, 1, 2, 3] rfl)
  exact cut4 _ 0 0 _ _ _ (by omega) rfl (Nat.lt_succ_self _) hP hS (lv_sub hl [0, 1, 3, 2] rfl)
abbrev rmX10_hollows : Room := { frames := 0, cells := 0, slots := 0, locals := 0 }
set_option maxHeartbeats 4000000 in
set_option maxRecDepth 100000 in
theorem k_X10_hollows (l : Launch) (D : va_G) (cI cC cB cS : ClassId) (o : Nat) (ad : Nat → Nat) (P : PL) (I : RI) (sl : Nat → Nat) (bs : Nat) (hp : pOK P) (hsl : ∀ j, sl j < 100000) (hbs : bs + 32 ≤ 384) : CI l D (kT cI cC cB cS) yX10_hollows wsX10_hollows rmX10_hollows [.ref o, .int (nI bs)] ([rmE o ad (pCells P) P.2.2.2.1 P.2.2.2.2.2.1 P.2.2.2.2.2.2 I, nE 384 (ad 25) cI sl]) (fun r u => r = nI (nCnt (fun j => sl (bs + j)) 12 (pCells P)) ∧ u = [rmE o ad (pCells P) P.2.2.2.1 P.2.2.2.2.2.1 P.2.2.2.2.2.2 I, nE 384 (ad 25) cI sl]) := by
  refine ci_intro (by decide) rfl (Nat.le_of_ble_eq_true rfl) ?_
  intro p e s m args below meth c ls A QF hF hK hP hV hS hA hN hl hret
  obtain ⟨hx, hb, hml, hown, hts⟩ := id hF
  have hP : va_P D vwCl ([rmE o ad (pCells P) P.2.2.2.1 P.2.2.2.2.2.1 P.2.2.2.2.2.2 I, nE 384 (ad 25) cI sl]) s.heap := hP
  have hl : lv_has ls 4 [(0, .ref o), (1, .int (nI bs))] := hl
  have wf61 := hts (.fieldLink RX10 61 "RemorseWallModel" "slot" "[I") (by decide +kernel)
  have wf121 := hts (.fieldLink RX10 121 "RemorseWallModel" "cells" "I") (by decide +kernel)
  have hiX10 : ∀ w ∈ u_ws RX10 TX10 44, w ∈ wsX10_hollows := by decide +kernel
  obtain ⟨hp1, hp2, hp3, hp4, hp5, hp6, hp7⟩ := id hp
  have hcl := pCells_le hp
  refine lv_iconst (pc := 0) (v := nI 0) hx hb dX10_hollows_0 (by decide) ?_
  refine lv_istore_n (pc := 1) (lv' := [(2, .int (nI 0)), (0, .ref o), (1, .int (nI bs))]) hx hb dX10_hollows_1 rfl hl (by decide) rfl (fun ls hl => ?_)
  refine lv_iconst (pc := 2) (v := nI 0) hx hb dX10_hollows_2 (by decide) ?_
  refine lv_istore_n (pc := 3) (lv' := [(3, .int (nI 0)), (2, .int (nI 0)), (0, .ref o), (1, .int (nI bs))]) hx hb dX10_hollows_3 rfl hl (by decide) rfl (fun ls hl => ?_)
  have cut4 : ∀ (fuel : Nat) (i : Nat) (a : Nat) (H : Heap) (locs : List Loc) (ls : Array Slot) (hi9 : i ≤ pCells P) (ha : a = nCnt (fun j => sl (bs + j)) 12 i) (hfu : pCells P - i < fuel), va_P D vwCl ([rmE o ad (pCells P) P.2.2.2.1 P.2.2.2.2.2.1 P.2.2.2.2.2.2 I, nE 384 (ad 25) cI sl]) H → va_S A s.heap H locs → lv_has ls 4 [(3, .int (nI i)), (2, .int (nI a)), (1, .int (nI bs)), (0, .ref o)] → W p l e rmX10_hollows s m args below meth c H locs 0 0 QF (F0 m 4 ls []) := by
    intro fuel
    induction fuel with
    | zero => intro i a H locs ls hi9 ha hfu; omega
    | succ fuel ih4 =>
      intro i a H locs ls hi9 ha hfu hP hS hl
      refine lv_iload_n (pc := 4) hx hb dX10_hollows_4 rfl (lv_at hl 0 rfl) ?_
      refine lv_aload_n (pc := 5) hx hb dX10_hollows_5 rfl (lv_at hl 3 rfl) ?_
      refine va_get (pc := 6) (D := D) (ci := 10) (v := .int (nI (pCells P))) (C := RX10) (T := TX10) (N := 44) hx hb hts hiX10 hown hK hP 0 rfl rfl 0 (by decide) wf121 (fun _ h9 => h9) rfl dX10_hollows_6 ?_
      refine rc_ge (pc := 9) (tgt := 39) hx hb (tI_nI (by omega)) (tI_nI (by omega)) dX10_hollows_9 (by decide) (fun c9 => ?_) (fun c9 => ?_)
      · refine lv_iload_n (pc := 39) hx hb dX10_hollows_39 rfl (lv_at hl 1 rfl) ?_
        exact hret 40 _ hP hS dX10_hollows_40 rfl rfl ⟨(by rw [ha, show i = pCells P by omega]), rfl⟩
      · refine lv_iload_n (pc := 12) hx hb dX10_hollows_12 rfl (lv_at hl 1 rfl) ?_
        refine lv_aload_n (pc := 13) hx hb dX10_hollows_13 rfl (lv_at hl 3 rfl) ?_
        refine va_get (pc := 14) (D := D) (ci := 10) (v := .ref (ad 25)) (C := RX10) (T := TX10) (N := 44) hx hb hts hiX10 hown hK hP 0 rfl rfl 25 (by decide) wf61 (fun _ h9 => h9) rfl dX10_hollows_14 ?_
        refine lv_iload_n (pc := 17) hx hb dX10_hollows_17 rfl (lv_at hl 2 rfl) ?_
        refine lv_iload_n (pc := 18) hx hb dX10_hollows_18 rfl (lv_at hl 0 rfl) ?_
        refine rn_iadd (pc := 19) hx hb dX10_hollows_19 ?_
        refine ra_iald (pc := 20) (k := bs + i) (v := nI (sl (bs + i))) hx hb hK hP 1 0 rfl rfl (by omega) (by decide) rfl dX10_hollows_20 ?_
        have hq := hsl (bs + i)
        refine lv_bipush (pc := 21) (v := nI 12) hx hb dX10_hollows_21 (by decide) ?_
        refine rc_lt (pc := 23) (tgt := 30) hx hb (tI_nI (by omega)) (tI_nI (by omega)) dX10_hollows_23 (by decide) (fun c23 => ?_) (fun c23 => ?_)
        · refine lv_iconst (pc := 30) (v := nI 0) hx hb dX10_hollows_30 (by decide) ?_
          refine rn_iadd (pc := 31) hx hb dX10_hollows_31 ?_
          refine lv_istore_n (pc := 32) (lv' := [(2, .int (nI (a + 0))), (3, .int (nI i)), (1, .int (nI bs)), (0, .ref o)]) hx hb dX10_hollows_32 rfl hl (by decide) rfl (fun ls hl => ?_)
          refine lv_iinc (pc := 33) (v := nI (i + 1)) (lv' := [(3, .int (nI (i + 1))), (2, .int (nI (a + 0))), (1, .int (nI bs)), (0, .ref o)]) hx hb dX10_hollows_33 hl (k := 1) rfl (by rw [← nI_add]; rfl) (by decide) rfl (fun ls hl => ?_)
          refine lv_goto (pc := 36) (tgt := 4) hx hb dX10_hollows_36 (by decide) ?_
          exact ih4 (i + 1) (a + 0) _ _ _ (by omega) (by rw [nCnt, if_neg (by omega), ha]) (by omega) hP hS (lv_sub hl [0, 1, 2, 3] rfl)
        · refine lv_iconst (pc := 26) (v := nI 1) hx hb dX10_hollows_26 (by decide) ?_
          refine lv_goto (pc := 27) (tgt := 31) hx hb dX10_hollows_27 (by decide) ?_
          refine rn_iadd (pc := 31) hx hb dX10_hollows_31 ?_
          refine lv_istore_n (pc := 32) (lv' := [(2, .int (nI (a + 1))), (3, .int (nI i)), (1, .int (nI bs)), (0, .ref o)]) hx hb dX10_hollows_32 rfl hl (by decide) rfl (fun ls hl => ?_)
          refine lv_iinc (pc := 33) (v := nI (i + 1)) (lv' := [(3, .int (nI (i + 1))), (2, .int (nI (a + 1))), (1, .int (nI bs)), (0, .ref o)]) hx hb dX10_hollows_33 hl (k := 1) rfl (by rw [← nI_add]; rfl) (by decide) rfl (fun ls hl => ?_)
          refine lv_goto (pc := 36) (tgt := 4) hx hb dX10_hollows_36 (by decide) ?_
          exact ih4 (i + 1) (a + 1) _ _ _ (by omega) (by rw [nCnt, if_pos (by omega), ha]) (by omega) hP hS (lv_sub hl [0, 1, 2, 3] rfl)
  exact cut4 _ 0 0 _ _ _ (by omega) rfl (Nat.lt_succ_self _) hP hS (lv_sub hl [0, 1, 3, 2] rfl)
abbrev rmX10_allStrokes : Room := { frames := 0, cells := 0, slots := 0, locals := 0 }
set_option maxHeartbeats 4000000 in
set_option maxRecDepth 100000 in
theorem k_X10_allStrokes (l : Launch) (D : va_G) (cI cC cB cS : ClassId) (o : Nat) (ad : Nat → Nat) (P : PL) (I : RI) (sl : Nat → Nat) (hp : pOK P) (hsl : ∀ j, sl j < 100000) : CI l D (kT cI cC cB cS) yX10_allStrokes wsX10_allStrokes rmX10_allStrokes [.ref o] ([rmE o ad (pCells P) P.2.2.2.1 P.2.2.2.2.2.1 P.2.2.2.2.2.2 I, nE 384 (ad 25) cI sl]) (fun r u => r = nI (nSum (fun j => sl (24 + j)) P.2.2.2.2.2.2) ∧ u = [rmE o ad (pCells P) P.2.2.2.1 P.2.2.2.2.2.1 P.2.2.2.2.2.2 I, nE 384 (ad 25) cI sl]) := by
  refine ci_intro (by decide) rfl (Nat.le_of_ble_eq_true rfl) ?_
  intro p e s m args below meth c ls A QF hF hK hP hV hS hA hN hl hret
  obtain ⟨hx, hb, hml, hown, hts⟩ := id hF
  have hP : va_P D vwCl ([rmE o ad (pCells P) P.2.2.2.1 P.2.2.2.2.2.1 P.2.2.2.2.2.2 I, nE 384 (ad 25) cI sl]) s.heap := hP
  have hl : lv_has ls 3 [(0, .ref o)] := hl
  have wf61 := hts (.fieldLink RX10 61 "RemorseWallModel" "slot" "[I") (by decide +kernel)
  have wf130 := hts (.fieldLink RX10 130 "RemorseWallModel" "maids" "I") (by decide +kernel)
  have hiX10 : ∀ w ∈ u_ws RX10 TX10 44, w ∈ wsX10_allStrokes := by decide +kernel
  obtain ⟨hp1, hp2, hp3, hp4, hp5, hp6, hp7⟩ := id hp
  have hcl := pCells_le hp
  refine lv_iconst (pc := 0) (v := nI 0) hx hb dX10_allStrokes_0 (by decide) ?_
  refine lv_istore_n (pc := 1) (lv' := [(1, .int (nI 0)), (0, .ref o)]) hx hb dX10_allStrokes_1 rfl hl (by decide) rfl (fun ls hl => ?_)
  refine lv_iconst (pc := 2) (v := nI 0) hx hb dX10_allStrokes_2 (by decide) ?_
  refine lv_istore_n (pc := 3) (lv' := [(2, .int (nI 0)), (1, .int (nI 0)), (0, .ref o)]) hx hb dX10_allStrokes_3 rfl hl (by decide) rfl (fun ls hl => ?_)
  have cut4 : ∀ (fuel : Nat) (i : Nat) (a : Nat) (H : Heap) (locs : List Loc) (ls : Array Slot) (hi9 : i ≤ P.2.2.2.2.2.2) (ha : a = nSum (fun j => sl (24 + j)) i) (hfu : P.2.2.2.2.2.2 - i < fuel), va_P D vwCl ([rmE o ad (pCells P) P.2.2.2.1 P.2.2.2.2.2.1 P.2.2.2.2.2.2 I, nE 384 (ad 25) cI sl]) H → va_S A s.heap H locs → lv_has ls 3 [(2, .int (nI i)), (1, .int (nI a)), (0, .ref o)] → W p l e rmX10_allStrokes s m args below meth c H locs 0 0 QF (F0 m 4 ls []) := by
    intro fuel
    induction fuel with
    | zero => intro i a H locs ls hi9 ha hfu; omega
    | succ fuel ih4 =>
      intro i a H locs ls hi9 ha hfu hP hS hl
      refine lv_iload_n (pc := 4) hx hb dX10_allStrokes_4 rfl (lv_at hl 0 rfl) ?_
      refine lv_aload_n (pc := 5) hx hb dX10_allStrokes_5 rfl (lv_at hl 2 rfl) ?_
      refine va_get (pc := 6) (D := D) (ci := 10) (v := .int (nI P.2.2.2.2.2.2)) (C := RX10) (T := TX10) (N := 44) hx hb hts hiX10 hown hK hP 0 rfl rfl 8 (by decide) wf130 (fun _ h9 => h9) rfl dX10_allStrokes_6 ?_
      refine rc_ge (pc := 9) (tgt := 30) hx hb (tI_nI (by omega)) (tI_nI (by omega)) dX10_allStrokes_9 (by decide) (fun c9 => ?_) (fun c9 => ?_)
      · refine lv_iload_n (pc := 30) hx hb dX10_allStrokes_30 rfl (lv_at hl 1 rfl) ?_
        exact hret 31 _ hP hS dX10_allStrokes_31 rfl rfl ⟨(by rw [ha, show i = P.2.2.2.2.2.2 by omega]), rfl⟩
      · refine lv_iload_n (pc := 12) hx hb dX10_allStrokes_12 rfl (lv_at hl 1 rfl) ?_
        refine lv_aload_n (pc := 13) hx hb dX10_allStrokes_13 rfl (lv_at hl 2 rfl) ?_
        refine va_get (pc := 14) (D := D) (ci := 10) (v := .ref (ad 25)) (C := RX10) (T := TX10) (N := 44) hx hb hts hiX10 hown hK hP 0 rfl rfl 25 (by decide) wf61 (fun _ h9 => h9) rfl dX10_allStrokes_14 ?_
        refine lv_bipush (pc := 17) (v := nI 24) hx hb dX10_allStrokes_17 (by decide) ?_
        refine lv_iload_n (pc := 19) hx hb dX10_allStrokes_19 rfl (lv_at hl 0 rfl) ?_
        refine rn_iadd (pc := 20) hx hb dX10_allStrokes_20 ?_
        refine ra_iald (pc := 21) (k := 24 + i) (v := nI (sl (24 + i))) hx hb hK hP 1 0 rfl rfl (by omega) (by decide) rfl dX10_allStrokes_21 ?_
        have hq := hsl (24 + i)
        refine rn_iadd (pc := 22) hx hb dX10_allStrokes_22 ?_
        refine lv_istore_n (pc := 23) (lv' := [(1, .int (nI (a + (sl (24 + i))))), (2, .int (nI i)), (0, .ref o)]) hx hb dX10_allStrokes_23 rfl hl (by decide) rfl (fun ls hl => ?_)
        refine lv_iinc (pc := 24) (v := nI (i + 1)) (lv' := [(2, .int (nI (i + 1))), (1, .int (nI (a + (sl (24 + i))))), (0, .ref o)]) hx hb dX10_allStrokes_24 hl (k := 1) rfl (by rw [← nI_add]; rfl) (by decide) rfl (fun ls hl => ?_)
        refine lv_goto (pc := 27) (tgt := 4) hx hb dX10_allStrokes_27 (by decide) ?_
        exact ih4 (i + 1) (a + sl (24 + i)) _ _ _ (by omega) (by rw [ha]; rfl) (by omega) hP hS (lv_sub hl [0, 1, 2] rfl)
  exact cut4 _ 0 0 _ _ _ (by omega) rfl (Nat.lt_succ_self _) hP hS (lv_sub hl [0, 1, 2] rfl)
