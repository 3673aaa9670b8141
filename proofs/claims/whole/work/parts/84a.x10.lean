abbrev rmX10_option : Room := { frames := 1, cells := 0, slots := 0, locals := 23 }
set_option maxHeartbeats 4000000 in
set_option maxRecDepth 100000 in
theorem k_X10_option (l : Launch) (D : va_G) (cI cC cB cS : ClassId) (o : Nat) (ad : Nat → Nat) (P : PL) (I : RI) (hr : Nat) (k : Nat) (hp : pOK P) (hhr : hr < pCells P) (hk9 : k < 1000) : CI l D (kT cI cC cB cS) yX10_option wsX10_option rmX10_option [.ref o, .int (nI hr), .int (nI k)] ([rmE o ad (pCells P) P.2.2.2.1 P.2.2.2.2.2.1 P.2.2.2.2.2.2 I]) (fun r u => r = jI (optF P hr (pCells P) 0 k) ∧ u = [rmE o ad (pCells P) P.2.2.2.1 P.2.2.2.2.2.1 P.2.2.2.2.2.2 I]) := by
  refine ci_intro (by decide) rfl (Nat.le_of_ble_eq_true rfl) ?_
  intro p e s m args below meth c ls A QF hF hK hP hV hS hA hN hl hret
  obtain ⟨hx, hb, hml, hown, hts⟩ := id hF
  have hP : va_P D vwCl ([rmE o ad (pCells P) P.2.2.2.1 P.2.2.2.2.2.1 P.2.2.2.2.2.2 I]) s.heap := hP
  have hl : lv_has ls 5 [(0, .ref o), (1, .int (nI hr)), (2, .int (nI k))] := hl
  have wf121 := hts (.fieldLink RX10 121 "RemorseWallModel" "cells" "I") (by decide +kernel)
  have hiX10 : ∀ w ∈ u_ws RX10 TX10 44, w ∈ wsX10_option := by decide +kernel
  obtain ⟨hp1, hp2, hp3, hp4, hp5, hp6, hp7⟩ := id hp
  have hcl := pCells_le hp
  refine lv_iload_n (pc := 0) hx hb dX10_option_0 rfl (lv_at hl 2 rfl) ?_
  refine lv_istore_n (pc := 1) (lv' := [(3, .int (nI k)), (0, .ref o), (1, .int (nI hr)), (2, .int (nI k))]) hx hb dX10_option_1 rfl hl (by decide) rfl (fun ls hl => ?_)
  refine lv_iconst (pc := 2) (v := nI 0) hx hb dX10_option_2 (by decide) ?_
  refine lv_istore (pc := 3) (lv' := [(4, .int (nI 0)), (3, .int (nI k)), (0, .ref o), (1, .int (nI hr)), (2, .int (nI k))]) hx hb dX10_option_3 hl (by decide) rfl (fun ls hl => ?_)
  have cut5 : ∀ (fuel : Nat) (y : Nat) (r : Nat) (H : Heap) (locs : List Loc) (ls : Array Slot) (hy : y ≤ pCells P) (hr9 : r < 1000) (hO : optF P hr (pCells P) 0 k = optF P hr (pCells P - y) y r) (hfu : pCells P - y < fuel), va_P D vwCl ([rmE o ad (pCells P) P.2.2.2.1 P.2.2.2.2.2.1 P.2.2.2.2.2.2 I]) H → va_S A s.heap H locs → lv_has ls 5 [(4, .int (nI y)), (3, .int (nI r)), (2, .int (nI k)), (1, .int (nI hr)), (0, .ref o)] → W p l e rmX10_option s m args below meth c H locs 0 0 QF (F0 m 5 ls []) := by
    intro fuel
    induction fuel with
    | zero => intro y r H locs ls hy hr9 hO hfu; omega
    | succ fuel ih5 =>
      intro y r H locs ls hy hr9 hO hfu hP hS hl
      refine lv_iload (pc := 5) hx hb dX10_option_5 (lv_at hl 0 rfl) ?_
      refine lv_aload_n (pc := 7) hx hb dX10_option_7 rfl (lv_at hl 4 rfl) ?_
      refine va_get (pc := 8) (D := D) (ci := 10) (v := .int (nI (pCells P))) (C := RX10) (T := TX10) (N := 44) hx hb hts hiX10 hown hK hP 0 rfl rfl 0 (by decide) wf121 (fun _ h9 => h9) rfl dX10_option_8 ?_
      refine rc_ge (pc := 11) (tgt := 46) hx hb (tI_nI (by omega)) (tI_nI (by omega)) dX10_option_11 (by decide) (fun c11 => ?_) (fun c11 => ?_)
      · refine lv_bipush (pc := 46) (v := jI (-4)) hx hb dX10_option_46 (by decide) ?_
        exact hret 48 _ hP hS dX10_option_48 rfl rfl ⟨(by rw [hO, show pCells P - y = 0 by omega]; rfl), rfl⟩
      · refine lv_iload (pc := 14) hx hb dX10_option_14 (lv_at hl 0 rfl) ?_
        refine lv_iload_n (pc := 16) hx hb dX10_option_16 rfl (lv_at hl 3 rfl) ?_
        refine rc_eq (pc := 17) (tgt := 30) hx hb (tI_nI (by omega)) (tI_nI (by omega)) dX10_option_17 (by decide) (fun c17 => ?_) (fun c17 => ?_)
        · refine lv_iload_n (pc := 30) hx hb dX10_option_30 rfl (lv_at hl 1 rfl) ?_
          refine r0_ne (pc := 31) (tgt := 37) hx hb (tI_nI (by omega)) dX10_option_31 (by decide) (fun c31 => ?_) (fun c31 => ?_)
          · refine lv_iinc (pc := 37) (v := nI (r - 1)) (lv' := [(3, .int (nI (r - 1))), (4, .int (nI y)), (2, .int (nI k)), (1, .int (nI hr)), (0, .ref o)]) hx hb dX10_option_37 hl (k := 1) rfl (nI_dec (by omega)) (by decide) rfl (fun ls hl => ?_)
            refine lv_iinc (pc := 40) (v := nI (y + 1)) (lv' := [(4, .int (nI (y + 1))), (3, .int (nI (r - 1))), (2, .int (nI k)), (1, .int (nI hr)), (0, .ref o)]) hx hb dX10_option_40 hl (k := 1) rfl (by rw [← nI_add]; rfl) (by decide) rfl (fun ls hl => ?_)
            refine lv_goto (pc := 43) (tgt := 5) hx hb dX10_option_43 (by decide) ?_
            exact ih5 (y + 1) (r - 1) _ _ _ (by omega) (by omega) (opt_1 hO (by omega) (Or.inl (by omega)) (by omega)) (by omega) hP hS (lv_sub hl [0, 1, 2, 3, 4] rfl)
          · refine lv_iload (pc := 34) hx hb dX10_option_34 (lv_at hl 0 rfl) ?_
            exact hret 36 _ hP hS dX10_option_36 rfl rfl ⟨(by rw [opt_0 hO (by omega) (Or.inl (by omega)) (by omega)]; exact jI_nat _), rfl⟩
        · refine lv_aload_n (pc := 20) hx hb dX10_option_20 rfl (lv_at hl 4 rfl) ?_
          refine lv_iload_n (pc := 21) hx hb dX10_option_21 rfl (lv_at hl 3 rfl) ?_
          refine lv_iload (pc := 22) hx hb dX10_option_22 (lv_at hl 0 rfl) ?_
          refine ci_Vd (pc := 24) (r0 := nI (if nxt P hr y then 1 else 0)) hF hN hK hP hV hS hA (k_X10_isNext l D cI cC cB cS o ad P I hr y hp hhr (by omega)) (cwV 2 hts gX10_option_X10_isNext rfl rfl rfl (by decide +kernel) ⟨Nat.le_of_ble_eq_true rfl, Nat.le_of_ble_eq_true rfl⟩) [0] rfl (by decide) 0 10 rfl rfl rfl hl.1 rfl (Nat.le_of_ble_eq_true rfl) dX10_option_24 ⟨Nat.le_refl _, Nat.le_refl _⟩ rfl (ws2 := [rmE o ad (pCells P) P.2.2.2.1 P.2.2.2.2.2.1 P.2.2.2.2.2.2 I]) rfl (fun H locs hP hS => ?_)
          refine rb_eq (pc := 27) (tgt := 40) hx hb dX10_option_27 (by decide) (fun c27 => ?_) (fun c27 => ?_)
          · refine lv_iinc (pc := 40) (v := nI (y + 1)) (lv' := [(4, .int (nI (y + 1))), (3, .int (nI r)), (2, .int (nI k)), (1, .int (nI hr)), (0, .ref o)]) hx hb dX10_option_40 hl (k := 0) rfl (by rw [← nI_add]; rfl) (by decide) rfl (fun ls hl => ?_)
            refine lv_goto (pc := 43) (tgt := 5) hx hb dX10_option_43 (by decide) ?_
            exact ih5 (y + 1) r _ _ _ (by omega) (by omega) (opt_2 hO (by omega) (fun q => q.elim (fun q => absurd q (by omega)) c27)) (by omega) hP hS (lv_sub hl [0, 1, 2, 3, 4] rfl)
          · refine lv_iload_n (pc := 30) hx hb dX10_option_30 rfl (lv_at hl 1 rfl) ?_
            refine r0_ne (pc := 31) (tgt := 37) hx hb (tI_nI (by omega)) dX10_option_31 (by decide) (fun c31 => ?_) (fun c31 => ?_)
            · refine lv_iinc (pc := 37) (v := nI (r - 1)) (lv' := [(3, .int (nI (r - 1))), (4, .int (nI y)), (2, .int (nI k)), (1, .int (nI hr)), (0, .ref o)]) hx hb dX10_option_37 hl (k := 1) rfl (nI_dec (by omega)) (by decide) rfl (fun ls hl => ?_)
              refine lv_iinc (pc := 40) (v := nI (y + 1)) (lv' := [(4, .int (nI (y + 1))), (3, .int (nI (r - 1))), (2, .int (nI k)), (1, .int (nI hr)), (0, .ref o)]) hx hb dX10_option_40 hl (k := 1) rfl (by rw [← nI_add]; rfl) (by decide) rfl (fun ls hl => ?_)
              refine lv_goto (pc := 43) (tgt := 5) hx hb dX10_option_43 (by decide) ?_
              exact ih5 (y + 1) (r - 1) _ _ _ (by omega) (by omega) (opt_1 hO (by omega) (Or.inr c27) (by omega)) (by omega) hP hS (lv_sub hl [0, 1, 2, 3, 4] rfl)
            · refine lv_iload (pc := 34) hx hb dX10_option_34 (lv_at hl 0 rfl) ?_
              exact hret 36 _ hP hS dX10_option_36 rfl rfl ⟨(by rw [opt_0 hO (by omega) (Or.inr c27) (by omega)]; exact jI_nat _), rfl⟩
  exact cut5 _ 0 k _ _ _ (Nat.zero_le _) hk9 rfl (Nat.lt_succ_self _) hP hS (lv_sub hl [0, 1, 4, 3, 2] rfl)
