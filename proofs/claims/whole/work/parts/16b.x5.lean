abbrev rmX5_mostWith : Room := { frames := 1, cells := 0, slots := 0, locals := 24 }
set_option maxHeartbeats 4000000 in
set_option maxRecDepth 100000 in
theorem k_X5_mostWith (l : Launch) (D : va_G) (cI cC cB cS : ClassId) (e20 e21 e22 : Nat) (E2 : SE) (fl : Nat) (hbr : ∀ l, l < 16 → -1 ≤ E2.1 l ∧ E2.1 l ≤ 100) (hfl : fl < 16) : CI l D (kT cI cC cB cS) yX5_mostWith wsX5_mostWith rmX5_mostWith [.ref e20, .int (nI fl)] (seW e20 e21 e22 cI E2) (fun r u => r = jI (mostW E2.1 fl 16 + (popN fl 6 : Nat)) ∧ u = seW e20 e21 e22 cI E2) := by
  refine ci_intro (by decide) rfl (Nat.le_of_ble_eq_true rfl) ?_
  intro p e s m args below meth c ls A QF hF hK hP hV hS hA hN hl hret
  obtain ⟨hx, hb, hml, hown, hts⟩ := id hF
  have hP : va_P D vwCl (seW e20 e21 e22 cI E2) s.heap := hP
  have hl : lv_has ls 4 [(0, .ref e20), (1, .int (nI fl))] := hl
  have wf11 := hts (.fieldLink RX5 11 "RemorseWall$Seating" "before" "[I") (by decide +kernel)
  have hiX5 : ∀ w ∈ u_ws RX5 TX5 2, w ∈ wsX5_mostWith := by decide +kernel
  have mk_max_s := hts (.static Lib.Math.max.name) (by decide +kernel)
  have mk_max_i := hts (.initialized "java/lang/Math") (by decide +kernel)
  have mk_max_c := hts (.code Lib.Math.max.name Lib.Math.max.code 2 (some .int)) (by decide +kernel)
  have mk_max_44 := hts (.methodLink RX5 44 Lib.Math.max.name) (by decide +kernel)
  refine lv_iconst (pc := 0) (v := nI 0) hx hb dX5_mostWith_0 (by decide) ?_
  refine lv_istore_n (pc := 1) (lv' := [(2, .int (nI 0)), (0, .ref e20), (1, .int (nI fl))]) hx hb dX5_mostWith_1 rfl hl (by decide) rfl (fun ls hl => ?_)
  refine lv_iconst (pc := 2) (v := nI 0) hx hb dX5_mostWith_2 (by decide) ?_
  refine lv_istore_n (pc := 3) (lv' := [(3, .int (nI 0)), (2, .int (nI 0)), (0, .ref e20), (1, .int (nI fl))]) hx hb dX5_mostWith_3 rfl hl (by decide) rfl (fun ls hl => ?_)
  have cut4 : ∀ (fuel : Nat) (l1 : Nat) (a : Int) (H : Heap) (locs : List Loc) (ls : Array Slot) (hl16 : l1 ≤ 16) (ha : a = mostW E2.1 fl l1) (hfu : 16 - l1 < fuel), va_P D vwCl (seW e20 e21 e22 cI E2) H → va_S A s.heap H locs → lv_has ls 4 [(3, .int (nI l1)), (2, .int (jI a)), (1, .int (nI fl)), (0, .ref e20)] → W p l e rmX5_mostWith s m args below meth c H locs 0 0 QF (F0 m 4 ls []) := by
    intro fuel
    induction fuel with
    | zero => intro l1 a H locs ls hl16 ha hfu; omega
    | succ fuel ih4 =>
      intro l1 a H locs ls hl16 ha hfu hP hS hl
      have hrg := mostW_rng (b := 100) (by omega) hbr (fl := fl) l1 (by omega)
      have hrl := hbr l1
      have han := Nat.and_le_left (n := l1) (m := fl)
      refine lv_iload_n (pc := 4) hx hb dX5_mostWith_4 rfl (lv_at hl 0 rfl) ?_
      refine lv_bipush (pc := 5) (v := nI 16) hx hb dX5_mostWith_5 (by decide) ?_
      refine rc_ge (pc := 7) (tgt := 33) hx hb (tI_nI (by omega)) (tI_nI (by omega)) dX5_mostWith_7 (by decide) (fun c7 => ?_) (fun c7 => ?_)
      · have hpo := popN_le fl 6
        refine lv_iload_n (pc := 33) hx hb dX5_mostWith_33 rfl (lv_at hl 1 rfl) ?_
        refine lv_iload_n (pc := 34) hx hb dX5_mostWith_34 rfl (lv_at hl 2 rfl) ?_
        refine ci_Sd (pc := 35) hF hN hK hP hV hS hA (k_J6_bitCount_0f7a4 l D cI cC cB cS fl (by omega)) (va_cwS 1 hts gX5_mostWith_J6_bitCount_0f7a4 rfl rfl rfl (by decide +kernel) ⟨Nat.le_of_ble_eq_true rfl, Nat.le_of_ble_eq_true rfl⟩) [] rfl (by decide) rfl hl.1 rfl (Nat.le_of_ble_eq_true rfl) dX5_mostWith_35 ⟨Nat.le_refl _, Nat.le_refl _⟩ rfl (ws2 := seW e20 e21 e22 cI E2) rfl (fun H locs hP hS => ?_)
        refine rz_iadd (pc := 38) hx hb rfl (jI_nat _) dX5_mostWith_38 ?_
        exact hret 39 _ hP hS dX5_mostWith_39 rfl rfl ⟨(by rw [ha, show l1 = 16 by omega]), rfl⟩
      · refine lv_iload_n (pc := 10) hx hb dX5_mostWith_10 rfl (lv_at hl 0 rfl) ?_
        refine lv_iload_n (pc := 11) hx hb dX5_mostWith_11 rfl (lv_at hl 2 rfl) ?_
        refine lv_iand (pc := 12) hx hb dX5_mostWith_12 ?_
        refine r_top (nI_and _ _) ?_
        refine r0_ne (pc := 13) (tgt := 27) hx hb (tI_nI (by omega)) dX5_mostWith_13 (by decide) (fun c13 => ?_) (fun c13 => ?_)
        · refine lv_iinc (pc := 27) (v := nI (l1 + 1)) (lv' := [(3, .int (nI (l1 + 1))), (2, .int (jI a)), (1, .int (nI fl)), (0, .ref e20)]) hx hb dX5_mostWith_27 hl (k := 0) rfl (by rw [← nI_add]; rfl) (by decide) rfl (fun ls hl => ?_)
          refine lv_goto (pc := 30) (tgt := 4) hx hb dX5_mostWith_30 (by decide) ?_
          exact ih4 (l1 + 1) a _ _ _ (by omega) (by rw [mostW, if_neg (by omega), ha]) (by omega) hP hS (lv_sub hl [0, 1, 2, 3] rfl)
        · refine lv_iload_n (pc := 16) hx hb dX5_mostWith_16 rfl (lv_at hl 1 rfl) ?_
          refine lv_aload_n (pc := 17) hx hb dX5_mostWith_17 rfl (lv_at hl 3 rfl) ?_
          refine va_get (pc := 18) (D := D) (ci := 5) (v := .ref e21) (C := RX5) (T := TX5) (N := 2) hx hb hts hiX5 hown hK hP 0 rfl rfl 0 (by decide) wf11 (fun _ h9 => h9) rfl dX5_mostWith_18 ?_
          refine lv_iload_n (pc := 21) hx hb dX5_mostWith_21 rfl (lv_at hl 0 rfl) ?_
          refine ra_iald (pc := 22) (k := l1) (v := jI (E2.1 l1)) hx hb hK hP 1 0 rfl rfl (by omega) (by decide) rfl dX5_mostWith_22 ?_
          refine va_mmax (pc := 23) hx hb (hml.trans hl.1.symm) hown mk_max_44 mk_max_s mk_max_i mk_max_c (Nat.le_of_ble_eq_true rfl) (Nat.le_of_ble_eq_true rfl) (Nat.le_refl _) (Nat.le_refl _) dX5_mostWith_23 ?_
          refine r_top (jI_max rfl rfl (by omega) (by omega)) ?_
          refine lv_istore_n (pc := 26) (lv' := [(2, .int (jI (max a (E2.1 l1)))), (3, .int (nI l1)), (1, .int (nI fl)), (0, .ref e20)]) hx hb dX5_mostWith_26 rfl hl (by decide) rfl (fun ls hl => ?_)
          refine lv_iinc (pc := 27) (v := nI (l1 + 1)) (lv' := [(3, .int (nI (l1 + 1))), (2, .int (jI (max a (E2.1 l1)))), (1, .int (nI fl)), (0, .ref e20)]) hx hb dX5_mostWith_27 hl (k := 1) rfl (by rw [← nI_add]; rfl) (by decide) rfl (fun ls hl => ?_)
          refine lv_goto (pc := 30) (tgt := 4) hx hb dX5_mostWith_30 (by decide) ?_
          exact ih4 (l1 + 1) (max a (E2.1 l1)) _ _ _ (by omega) (by rw [mostW, if_pos (by omega), ha]) (by omega) hP hS (lv_sub hl [0, 1, 2, 3] rfl)
  exact cut4 _ 0 0 _ _ _ (by omega) rfl (Nat.lt_succ_self _) hP hS (lv_sub hl [0, 1, 3, 2] rfl)
