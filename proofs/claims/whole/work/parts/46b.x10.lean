abbrev rmX10_known : Room := { frames := 1, cells := 0, slots := 0, locals := 23 }
set_option maxHeartbeats 4000000 in
set_option maxRecDepth 100000 in
theorem k_X10_known (l : Launch) (D : va_G) (cI cC cB cS : ClassId) (o : Nat) (ad : Nat → Nat) (P : PL) (I : RI) (sl : Nat → Nat) (hac : I.2.2.2.2.1 ≤ 8) : CV l D (kT cI cC cB cS) yX10_known wsX10_known rmX10_known [.ref o] ([rmE o ad (pCells P) P.2.2.2.1 P.2.2.2.2.2.1 P.2.2.2.2.2.2 I, nE 384 (ad 25) cI sl]) (fun u => u = [rmE o ad (pCells P) P.2.2.2.1 P.2.2.2.2.2.1 P.2.2.2.2.2.2 (I.1, I.2.1, I.2.2.1, I.2.2.2.1, if I.2.2.2.2.1 = 8 then 8 else I.2.2.2.2.1 + 1, I.2.2.2.2.2.1, I.2.2.2.2.2.2.1, I.2.2.2.2.2.2.2.1, I.2.2.2.2.2.2.2.2.1, I.2.2.2.2.2.2.2.2.2.1, I.2.2.2.2.2.2.2.2.2.2.1, I.2.2.2.2.2.2.2.2.2.2.2), nE 384 (ad 25) cI (kn sl I.2.2.2.2.1)]) := by
  refine cv_intro (by decide) rfl (Nat.le_of_ble_eq_true rfl) ?_
  intro p e s m args below meth c ls A QF hF hK hP hV hS hA hN hl hret
  obtain ⟨hx, hb, hml, hown, hts⟩ := id hF
  have hP : va_P D vwCl ([rmE o ad (pCells P) P.2.2.2.1 P.2.2.2.2.2.1 P.2.2.2.2.2.2 I, nE 384 (ad 25) cI sl]) s.heap := hP
  have hl : lv_has ls 2 [(0, .ref o)] := hl
  have wf61 := hts (.fieldLink RX10 61 "RemorseWallModel" "slot" "[I") (by decide +kernel)
  have wf194 := hts (.fieldLink RX10 194 "RemorseWallModel" "acts" "I") (by decide +kernel)
  have hiX10 : ∀ w ∈ u_ws RX10 TX10 44, w ∈ wsX10_known := by decide +kernel
  refine lv_aload_n (pc := 0) hx hb dX10_known_0 rfl (lv_at hl 0 rfl) ?_
  refine va_get (pc := 1) (D := D) (ci := 10) (v := .int (nI I.2.2.2.2.1)) (C := RX10) (T := TX10) (N := 44) hx hb hts hiX10 hown hK hP 0 rfl rfl 26 (by decide) wf194 (fun _ h9 => h9) rfl dX10_known_1 ?_
  refine lv_bipush (pc := 4) (v := nI 8) hx hb dX10_known_4 (by decide) ?_
  refine rc_ne (pc := 6) (tgt := 46) hx hb (tI_nI (by omega)) (tI_nI (by omega)) dX10_known_6 (by decide) (fun c6 => ?_) (fun c6 => ?_)
  · have h8 : ¬ I.2.2.2.2.1 = 8 := by omega
    refine lv_aload_n (pc := 46) hx hb dX10_known_46 rfl (lv_at hl 0 rfl) ?_
    refine lv_dup (pc := 47) hx hb dX10_known_47 rfl ?_
    refine va_get (pc := 48) (D := D) (ci := 10) (v := .int (nI I.2.2.2.2.1)) (C := RX10) (T := TX10) (N := 44) hx hb hts hiX10 hown hK hP 0 rfl rfl 26 (by decide) wf194 (fun _ h9 => h9) rfl dX10_known_48 ?_
    refine lv_iconst (pc := 51) (v := nI 1) hx hb dX10_known_51 (by decide) ?_
    refine rn_iadd (pc := 52) hx hb dX10_known_52 ?_
    refine ra_put (pc := 53) (D := D) (ci := 10) (v := .int (nI (I.2.2.2.2.1 + 1))) (ty := .int) (C := RX10) (T := TX10) (N := 44) (ws2 := [rmE o ad (pCells P) P.2.2.2.1 P.2.2.2.2.2.1 P.2.2.2.2.2.2 (I.1, I.2.1, I.2.2.1, I.2.2.2.1, I.2.2.2.2.1 + 1, I.2.2.2.2.2.1, I.2.2.2.2.2.2.1, I.2.2.2.2.2.2.2.1, I.2.2.2.2.2.2.2.2.1, I.2.2.2.2.2.2.2.2.2.1, I.2.2.2.2.2.2.2.2.2.2.1, I.2.2.2.2.2.2.2.2.2.2.2), nE 384 (ad 25) cI sl]) hx hb hts hiX10 tyX10 tyX10_ok nmX10 hown hK hP hV hS 0 rfl rfl 26 (by decide) wf194 (fun _ h9 => h9) rfl (by decide +kernel) rfl rfl (Nat.le_of_ble_eq_true rfl) dX10_known_53 rfl rfl (fun H locs hP hS => ?_)
    refine lv_aload_n (pc := 56) hx hb dX10_known_56 rfl (lv_at hl 0 rfl) ?_
    refine lv_iconst (pc := 57) (v := nI 0) hx hb dX10_known_57 (by decide) ?_
    refine lv_aload_n (pc := 58) hx hb dX10_known_58 rfl (lv_at hl 0 rfl) ?_
    refine va_get (pc := 59) (D := D) (ci := 10) (v := .int (nI (I.2.2.2.2.1 + 1))) (C := RX10) (T := TX10) (N := 44) hx hb hts hiX10 hown hK hP 0 rfl rfl 26 (by decide) wf194 (fun _ h9 => h9) rfl dX10_known_59 ?_
    refine lv_bipush (pc := 62) (v := nI 32) hx hb dX10_known_62 (by decide) ?_
    refine rn_imul (pc := 64) hx hb dX10_known_64 ?_
    refine cv_Vd (pc := 65) hF hN hK hP hV hS hA (k_X10_copies l D cI cC cB cS o ad P (I.1, I.2.1, I.2.2.1, I.2.2.2.1, I.2.2.2.2.1 + 1, I.2.2.2.2.2.1, I.2.2.2.2.2.2.1, I.2.2.2.2.2.2.2.1, I.2.2.2.2.2.2.2.2.1, I.2.2.2.2.2.2.2.2.2.1, I.2.2.2.2.2.2.2.2.2.2.1, I.2.2.2.2.2.2.2.2.2.2.2) sl 0 ((I.2.2.2.2.1 + 1) * 32) (by omega) (by omega) (by omega)) (cwV 2 hts gX10_known_X10_copies rfl rfl rfl (by decide +kernel) ⟨Nat.le_of_ble_eq_true rfl, Nat.le_of_ble_eq_true rfl⟩) [0, 1] rfl (by decide) 0 10 rfl rfl rfl hl.1 rfl (Nat.le_of_ble_eq_true rfl) dX10_known_65 ⟨Nat.le_refl _, Nat.le_refl _⟩ rfl (ws2 := [rmE o ad (pCells P) P.2.2.2.1 P.2.2.2.2.2.1 P.2.2.2.2.2.2 (I.1, I.2.1, I.2.2.1, I.2.2.2.1, I.2.2.2.2.1 + 1, I.2.2.2.2.2.1, I.2.2.2.2.2.2.1, I.2.2.2.2.2.2.2.1, I.2.2.2.2.2.2.2.2.1, I.2.2.2.2.2.2.2.2.2.1, I.2.2.2.2.2.2.2.2.2.2.1, I.2.2.2.2.2.2.2.2.2.2.2), nE 384 (ad 25) cI (cpN sl 0 ((I.2.2.2.2.1 + 1) * 32) 32)]) rfl (fun H locs hP hS => ?_)
    exact hret 68 _ hP hS dX10_known_68 rfl (by simp only [kn, if_neg h8])
  · refine lv_bipush (pc := 9) (v := nI 32) hx hb dX10_known_9 (by decide) ?_
    refine lv_istore_n (pc := 11) (lv' := [(1, .int (nI 32)), (0, .ref o)]) hx hb dX10_known_11 rfl hl (by decide) rfl (fun ls hl => ?_)
    have cut12 : ∀ (fuel : Nat) (k : Nat) (f : Nat → Nat) (H : Heap) (locs : List Loc) (ls : Array Slot) (hk1 : 32 ≤ k) (hk2 : k ≤ 256) (hf : f = shN sl (k - 32)) (hfu : 256 - k < fuel), va_P D vwCl ([rmE o ad (pCells P) P.2.2.2.1 P.2.2.2.2.2.1 P.2.2.2.2.2.2 I, nE 384 (ad 25) cI f]) H → va_S A s.heap H locs → lv_has ls 2 [(1, .int (nI k)), (0, .ref o)] → W p l e rmX10_known s m args below meth c H locs 0 0 QF (F0 m 12 ls []) := by
      intro fuel
      induction fuel with
      | zero => intro k f H locs ls hk1 hk2 hf hfu; omega
      | succ fuel ih12 =>
        intro k f H locs ls hk1 hk2 hf hfu hP hS hl
        refine lv_iload_n (pc := 12) hx hb dX10_known_12 rfl (lv_at hl 0 rfl) ?_
        refine lv_sipush (pc := 13) (v := nI 256) hx hb dX10_known_13 (by decide) ?_
        refine rc_ge (pc := 16) (tgt := 40) hx hb (tI_nI (by omega)) (tI_nI (by omega)) dX10_known_16 (by decide) (fun c16 => ?_) (fun c16 => ?_)
        · have h8 : I.2.2.2.2.1 = 8 := by omega
          have hf9 : f = shN sl 224 := by rw [hf, show k - 32 = 224 by omega]
          subst hf9
          refine lv_aload_n (pc := 40) hx hb dX10_known_40 rfl (lv_at hl 1 rfl) ?_
          refine lv_bipush (pc := 41) (v := nI 7) hx hb dX10_known_41 (by decide) ?_
          refine ra_put (pc := 43) (D := D) (ci := 10) (v := .int (nI 7)) (ty := .int) (C := RX10) (T := TX10) (N := 44) (ws2 := [rmE o ad (pCells P) P.2.2.2.1 P.2.2.2.2.2.1 P.2.2.2.2.2.2 (I.1, I.2.1, I.2.2.1, I.2.2.2.1, 7, I.2.2.2.2.2.1, I.2.2.2.2.2.2.1, I.2.2.2.2.2.2.2.1, I.2.2.2.2.2.2.2.2.1, I.2.2.2.2.2.2.2.2.2.1, I.2.2.2.2.2.2.2.2.2.2.1, I.2.2.2.2.2.2.2.2.2.2.2), nE 384 (ad 25) cI (shN sl 224)]) hx hb hts hiX10 tyX10 tyX10_ok nmX10 hown hK hP hV hS 0 rfl rfl 26 (by decide) wf194 (fun _ h9 => h9) rfl (by decide +kernel) rfl rfl (Nat.le_of_ble_eq_true rfl) dX10_known_43 rfl rfl (fun H locs hP hS => ?_)
          refine lv_aload_n (pc := 46) hx hb dX10_known_46 rfl (lv_at hl 1 rfl) ?_
          refine lv_dup (pc := 47) hx hb dX10_known_47 rfl ?_
          refine va_get (pc := 48) (D := D) (ci := 10) (v := .int (nI 7)) (C := RX10) (T := TX10) (N := 44) hx hb hts hiX10 hown hK hP 0 rfl rfl 26 (by decide) wf194 (fun _ h9 => h9) rfl dX10_known_48 ?_
          refine lv_iconst (pc := 51) (v := nI 1) hx hb dX10_known_51 (by decide) ?_
          refine rn_iadd (pc := 52) hx hb dX10_known_52 ?_
          refine ra_put (pc := 53) (D := D) (ci := 10) (v := .int (nI (7 + 1))) (ty := .int) (C := RX10) (T := TX10) (N := 44) (ws2 := [rmE o ad (pCells P) P.2.2.2.1 P.2.2.2.2.2.1 P.2.2.2.2.2.2 (I.1, I.2.1, I.2.2.1, I.2.2.2.1, 7 + 1, I.2.2.2.2.2.1, I.2.2.2.2.2.2.1, I.2.2.2.2.2.2.2.1, I.2.2.2.2.2.2.2.2.1, I.2.2.2.2.2.2.2.2.2.1, I.2.2.2.2.2.2.2.2.2.2.1, I.2.2.2.2.2.2.2.2.2.2.2), nE 384 (ad 25) cI (shN sl 224)]) hx hb hts hiX10 tyX10 tyX10_ok nmX10 hown hK hP hV hS 0 rfl rfl 26 (by decide) wf194 (fun _ h9 => h9) rfl (by decide +kernel) rfl rfl (Nat.le_of_ble_eq_true rfl) dX10_known_53 rfl rfl (fun H locs hP hS => ?_)
          refine lv_aload_n (pc := 56) hx hb dX10_known_56 rfl (lv_at hl 1 rfl) ?_
          refine lv_iconst (pc := 57) (v := nI 0) hx hb dX10_known_57 (by decide) ?_
          refine lv_aload_n (pc := 58) hx hb dX10_known_58 rfl (lv_at hl 1 rfl) ?_
          refine va_get (pc := 59) (D := D) (ci := 10) (v := .int (nI (7 + 1))) (C := RX10) (T := TX10) (N := 44) hx hb hts hiX10 hown hK hP 0 rfl rfl 26 (by decide) wf194 (fun _ h9 => h9) rfl dX10_known_59 ?_
          refine lv_bipush (pc := 62) (v := nI 32) hx hb dX10_known_62 (by decide) ?_
          refine rn_imul (pc := 64) hx hb dX10_known_64 ?_
          refine cv_Vd (pc := 65) hF hN hK hP hV hS hA (k_X10_copies l D cI cC cB cS o ad P (I.1, I.2.1, I.2.2.1, I.2.2.2.1, 7 + 1, I.2.2.2.2.2.1, I.2.2.2.2.2.2.1, I.2.2.2.2.2.2.2.1, I.2.2.2.2.2.2.2.2.1, I.2.2.2.2.2.2.2.2.2.1, I.2.2.2.2.2.2.2.2.2.2.1, I.2.2.2.2.2.2.2.2.2.2.2) (shN sl 224) 0 ((7 + 1) * 32) (by omega) (by omega) (by omega)) (cwV 2 hts gX10_known_X10_copies rfl rfl rfl (by decide +kernel) ⟨Nat.le_of_ble_eq_true rfl, Nat.le_of_ble_eq_true rfl⟩) [0, 1] rfl (by decide) 0 10 rfl rfl rfl hl.1 rfl (Nat.le_of_ble_eq_true rfl) dX10_known_65 ⟨Nat.le_refl _, Nat.le_refl _⟩ rfl (ws2 := [rmE o ad (pCells P) P.2.2.2.1 P.2.2.2.2.2.1 P.2.2.2.2.2.2 (I.1, I.2.1, I.2.2.1, I.2.2.2.1, 7 + 1, I.2.2.2.2.2.1, I.2.2.2.2.2.2.1, I.2.2.2.2.2.2.2.1, I.2.2.2.2.2.2.2.2.1, I.2.2.2.2.2.2.2.2.2.1, I.2.2.2.2.2.2.2.2.2.2.1, I.2.2.2.2.2.2.2.2.2.2.2), nE 384 (ad 25) cI (cpN (shN sl 224) 0 ((7 + 1) * 32) 32)]) rfl (fun H locs hP hS => ?_)
          exact hret 68 _ hP hS dX10_known_68 rfl (by simp only [kn, if_pos h8])
        · refine lv_aload_n (pc := 19) hx hb dX10_known_19 rfl (lv_at hl 1 rfl) ?_
          refine va_get (pc := 20) (D := D) (ci := 10) (v := .ref (ad 25)) (C := RX10) (T := TX10) (N := 44) hx hb hts hiX10 hown hK hP 0 rfl rfl 25 (by decide) wf61 (fun _ h9 => h9) rfl dX10_known_20 ?_
          refine lv_iload_n (pc := 23) hx hb dX10_known_23 rfl (lv_at hl 0 rfl) ?_
          refine lv_aload_n (pc := 24) hx hb dX10_known_24 rfl (lv_at hl 1 rfl) ?_
          refine va_get (pc := 25) (D := D) (ci := 10) (v := .ref (ad 25)) (C := RX10) (T := TX10) (N := 44) hx hb hts hiX10 hown hK hP 0 rfl rfl 25 (by decide) wf61 (fun _ h9 => h9) rfl dX10_known_25 ?_
          refine lv_iload_n (pc := 28) hx hb dX10_known_28 rfl (lv_at hl 0 rfl) ?_
          refine lv_bipush (pc := 29) (v := nI 32) hx hb dX10_known_29 (by decide) ?_
          refine rn_iadd (pc := 31) hx hb dX10_known_31 ?_
          refine ra_iald (pc := 32) (k := k + 32) (v := nI (f (k + 32))) hx hb hK hP 1 0 rfl rfl (by omega) (by decide) rfl dX10_known_32 ?_
          refine rn_iast (pc := 33) (f := f) (k := k) (x := f (k + 32)) (ws2 := [rmE o ad (pCells P) P.2.2.2.1 P.2.2.2.2.2.1 P.2.2.2.2.2.2 I, nE 384 (ad 25) cI (va_up f k (f (k + 32)))]) hx hb hK hP hV hS 1 0 rfl rfl (by omega) (by decide) dX10_known_33 rfl rfl (fun H locs hP hS => ?_)
          refine lv_iinc (pc := 34) (v := nI (k + 1)) (lv' := [(1, .int (nI (k + 1))), (0, .ref o)]) hx hb dX10_known_34 hl (k := 0) rfl (by rw [← nI_add]; rfl) (by decide) rfl (fun ls hl => ?_)
          refine lv_goto (pc := 37) (tgt := 12) hx hb dX10_known_37 (by decide) ?_
          exact ih12 (k + 1) (va_up f k (f (k + 32))) _ _ _ (by omega) (by omega) (shN_s hf hk1) (by omega) hP hS (lv_sub hl [0, 1] rfl)
    exact cut12 _ 32 sl _ _ _ (by omega) (by omega) (shN_0 sl).symm (Nat.lt_succ_self _) hP hS (lv_sub hl [0, 1] rfl)
