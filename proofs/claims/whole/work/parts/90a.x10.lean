abbrev rmX10_chairs : Room := { frames := 1, cells := 0, slots := 0, locals := 25 }
set_option maxHeartbeats 4000000 in
set_option maxRecDepth 100000 in
theorem k_X10_chairs (l : Launch) (D : va_G) (cI cC cB cS : ClassId) (o : Nat) (ad : Nat → Nat) (P : PL) (I : RI) (sl : Nat → Nat) (mo : Nat → Int) (th : Nat → Int) (x1 : Int32) (z1 : Int) (hz1 : x1.toInt = z1) (hw : pWF P) (hsl : ∀ j, sl j < 100000) : CI l D (kT cI cC cB cS) yX10_chairs wsX10_chairs rmX10_chairs [.ref o, .int (x1)] ([rmE o ad (pCells P) P.2.2.2.1 P.2.2.2.2.2.1 P.2.2.2.2.2.2 I, nE 384 (ad 25) cI sl, zE 64 (ad 42) cI mo, zE 64 (ad 43) cI th]) (fun r u => r = jI (if 0 ≤ z1 ∧ z1 ≤ 40 then maxTo (chN P sl z1.toNat P.2.2.2.2.1) 64 else -1) ∧ ∃ (m9 t9 : Nat → Int), u = [rmE o ad (pCells P) P.2.2.2.1 P.2.2.2.2.2.1 P.2.2.2.2.2.2 I, nE 384 (ad 25) cI sl, zE 64 (ad 42) cI m9, zE 64 (ad 43) cI t9]) := by
  refine ci_intro (by decide) rfl (Nat.le_of_ble_eq_true rfl) ?_
  intro p e s m args below meth c ls A QF hF hK hP hV hS hA hN hl hret
  obtain ⟨hx, hb, hml, hown, hts⟩ := id hF
  have hP : va_P D vwCl ([rmE o ad (pCells P) P.2.2.2.1 P.2.2.2.2.2.1 P.2.2.2.2.2.2 I, nE 384 (ad 25) cI sl, zE 64 (ad 42) cI mo, zE 64 (ad 43) cI th]) s.heap := hP
  have hl : lv_has ls 7 [(0, .ref o), (1, .int (x1))] := hl
  have wf61 := hts (.fieldLink RX10 61 "RemorseWallModel" "slot" "[I") (by decide +kernel)
  have wf89 := hts (.fieldLink RX10 89 "RemorseWallModel" "most" "[I") (by decide +kernel)
  have wf92 := hts (.fieldLink RX10 92 "RemorseWallModel" "then" "[I") (by decide +kernel)
  have wf121 := hts (.fieldLink RX10 121 "RemorseWallModel" "cells" "I") (by decide +kernel)
  have wf124 := hts (.fieldLink RX10 124 "RemorseWallModel" "wide" "I") (by decide +kernel)
  have hiX10 : ∀ w ∈ u_ws RX10 TX10 44, w ∈ wsX10_chairs := by decide +kernel
  obtain ⟨hp, hc1, hce, hme⟩ := id hw
  obtain ⟨hp1, hp2, hp3, hp4, hp5, hp6, hp7⟩ := id hp
  have hcl := pCells_le hp
  have hr1 := i32_rng x1
  rw [hz1] at hr1
  have hww : 1 ≤ P.2.2.2.1 := pWi_pos (k := 0) (by omega)
  refine lv_iload_n (pc := 0) hx hb dX10_chairs_0 rfl (lv_at hl 1 rfl) ?_
  refine lv_i2l (pc := 1) (v := jL z1) hx hb dX10_chairs_1 (i2l_j hz1) ?_
  refine lv_lconst (pc := 2) (v := jL 0) hx hb dX10_chairs_2 (by decide) ?_
  refine lv_ldc2 (pc := 3) (v := jL 40) hx hb hown (hts (.constantLong RX10 287 (jL 40)) (by decide +kernel)) dX10_chairs_3 ?_
  refine ci_Sd (pc := 6) hF hN hK hP hV hS hA (k_X10_in l D cI cC cB cS z1 0 40 (by omega)) (va_cwS 3 hts gX10_chairs_X10_in rfl rfl rfl (by decide +kernel) ⟨Nat.le_of_ble_eq_true rfl, Nat.le_of_ble_eq_true rfl⟩) [] rfl (by decide) rfl hl.1 rfl (Nat.le_of_ble_eq_true rfl) dX10_chairs_6 ⟨Nat.le_refl _, Nat.le_refl _⟩ rfl (ws2 := [rmE o ad (pCells P) P.2.2.2.1 P.2.2.2.2.2.1 P.2.2.2.2.2.2 I, nE 384 (ad 25) cI sl, zE 64 (ad 42) cI mo, zE 64 (ad 43) cI th]) rfl (fun H locs hP hS => ?_)
  refine rb_ne (pc := 9) (tgt := 14) hx hb dX10_chairs_9 (by decide) (fun c9 => ?_) (fun c9 => ?_)
  · obtain ⟨h, rfl⟩ : ∃ k : Nat, z1 = k := ⟨z1.toNat, by omega⟩
    obtain rfl : x1 = nI h := eq_nI hz1
    refine lv_iconst (pc := 14) (v := nI 0) hx hb dX10_chairs_14 (by decide) ?_
    refine lv_istore_n (pc := 15) (lv' := [(2, .int (nI 0)), (0, .ref o), (1, .int (nI h))]) hx hb dX10_chairs_15 rfl hl (by decide) rfl (fun ls hl => ?_)
    have cut16 : ∀ (fuel : Nat) (i : Nat) (M : Nat → Int) (H : Heap) (locs : List Loc) (ls : Array Slot) (hi9 : i ≤ 64) (hM0 : ∀ j, j < i → M j = if j = 0 then 0 else -99) (hfu : 64 - i < fuel), va_P D vwCl ([rmE o ad (pCells P) P.2.2.2.1 P.2.2.2.2.2.1 P.2.2.2.2.2.2 I, nE 384 (ad 25) cI sl, zE 64 (ad 42) cI M, zE 64 (ad 43) cI th]) H → va_S A s.heap H locs → lv_has ls 7 [(2, .int (nI i)), (1, .int (nI h)), (0, .ref o)] → W p l e rmX10_chairs s m args below meth c H locs 0 0 QF (F0 m 16 ls []) := by
      intro fuel
      induction fuel with
      | zero => intro i M H locs ls hi9 hM0 hfu; omega
      | succ fuel ih16 =>
        intro i M H locs ls hi9 hM0 hfu hP hS hl
        refine lv_iload_n (pc := 16) hx hb dX10_chairs_16 rfl (lv_at hl 0 rfl) ?_
        refine lv_bipush (pc := 17) (v := nI 64) hx hb dX10_chairs_17 (by decide) ?_
        refine rc_ge (pc := 19) (tgt := 44) hx hb (tI_nI (by omega)) (tI_nI (by omega)) dX10_chairs_19 (by decide) (fun c19 => ?_) (fun c19 => ?_)
        · refine lv_iconst (pc := 44) (v := nI 0) hx hb dX10_chairs_44 (by decide) ?_
          refine r_top (show _ = nI (0 * P.2.2.2.1) from (by rw [Nat.zero_mul])) ?_
          refine lv_istore_n (pc := 45) (lv' := [(2, .int (nI (0 * P.2.2.2.1))), (1, .int (nI h)), (0, .ref o)]) hx hb dX10_chairs_45 rfl hl (by decide) rfl (fun ls hl => ?_)
          have cut46 : ∀ (fuel : Nat) (r : Nat) (M : Nat → Int) (T : Nat → Int) (H : Heap) (locs : List Loc) (ls : Array Slot) (hr9 : r ≤ P.2.2.2.2.1) (hM : ∀ j, j < 64 → M j = chN P sl h r j) (hfu : P.2.2.2.2.1 - r < fuel), va_P D vwCl ([rmE o ad (pCells P) P.2.2.2.1 P.2.2.2.2.2.1 P.2.2.2.2.2.2 I, nE 384 (ad 25) cI sl, zE 64 (ad 42) cI M, zE 64 (ad 43) cI T]) H → va_S A s.heap H locs → lv_has ls 7 [(2, .int (nI (r * P.2.2.2.1))), (1, .int (nI h)), (0, .ref o)] → W p l e rmX10_chairs s m args below meth c H locs 0 0 QF (F0 m 46 ls []) := by
            intro fuel
            induction fuel with
            | zero => intro r M T H locs ls hr9 hM hfu; omega
            | succ fuel ih46 =>
              intro r M T H locs ls hr9 hM hfu hP hS hl
              have hMb : ∀ j, j < 64 → -99 ≤ M j ∧ M j ≤ 200 := fun j hj => by have := chN_rng (P := P) (sl := sl) (h := h) r j; rw [hM j hj]; omega
              have hrl : r * P.2.2.2.1 < P.2.2.2.2.1 * P.2.2.2.1 ↔ r < P.2.2.2.2.1 := row_lt hww
              have hmul : r * P.2.2.2.1 ≤ 4 * 6 := Nat.mul_le_mul (by omega) hp4
              have hpc : pCells P = P.2.2.2.2.1 * P.2.2.2.1 := rfl
              refine lv_iload_n (pc := 46) hx hb dX10_chairs_46 rfl (lv_at hl 0 rfl) ?_
              refine lv_aload_n (pc := 47) hx hb dX10_chairs_47 rfl (lv_at hl 2 rfl) ?_
              refine va_get (pc := 48) (D := D) (ci := 10) (v := .int (nI (pCells P))) (C := RX10) (T := TX10) (N := 44) hx hb hts hiX10 hown hK hP 0 rfl rfl 0 (by decide) wf121 (fun _ h9 => h9) rfl dX10_chairs_48 ?_
              refine rc_ge (pc := 51) (tgt := 258) hx hb (tI_nI (by omega)) (tI_nI (by omega)) dX10_chairs_51 (by decide) (fun c51 => ?_) (fun c51 => ?_)
              · refine lv_iconst (pc := 258) (v := nI 0) hx hb dX10_chairs_258 (by decide) ?_
                refine lv_istore_n (pc := 259) (lv' := [(2, .int (nI 0)), (1, .int (nI h)), (0, .ref o)]) hx hb dX10_chairs_259 rfl hl (by decide) rfl (fun ls hl => ?_)
                refine lv_iconst (pc := 260) (v := nI 0) hx hb dX10_chairs_260 (by decide) ?_
                refine lv_istore_n (pc := 261) (lv' := [(3, .int (nI 0)), (2, .int (nI 0)), (1, .int (nI h)), (0, .ref o)]) hx hb dX10_chairs_261 rfl hl (by decide) rfl (fun ls hl => ?_)
                have cut262 : ∀ (fuel : Nat) (i : Nat) (a : Int) (H : Heap) (locs : List Loc) (ls : Array Slot) (hi9 : i ≤ 64) (ha : a = maxTo M i) (hfu : 64 - i < fuel), va_P D vwCl ([rmE o ad (pCells P) P.2.2.2.1 P.2.2.2.2.2.1 P.2.2.2.2.2.2 I, nE 384 (ad 25) cI sl, zE 64 (ad 42) cI M, zE 64 (ad 43) cI T]) H → va_S A s.heap H locs → lv_has ls 7 [(3, .int (nI i)), (2, .int (jI a)), (0, .ref o)] → W p l e rmX10_chairs s m args below meth c H locs 0 0 QF (F0 m 262 ls []) := by
                  intro fuel
                  induction fuel with
                  | zero => intro i a H locs ls hi9 ha hfu; omega
                  | succ fuel ih262 =>
                    intro i a H locs ls hi9 ha hfu hP hS hl
                    have hrg := maxT_rng hMb i hi9
                    have hMi := hMb i
                    refine lv_iload_n (pc := 262) hx hb dX10_chairs_262 rfl (lv_at hl 0 rfl) ?_
                    refine lv_bipush (pc := 263) (v := nI 64) hx hb dX10_chairs_263 (by decide) ?_
                    refine rc_ge (pc := 265) (tgt := 285) hx hb (tI_nI (by omega)) (tI_nI (by omega)) dX10_chairs_265 (by decide) (fun c265 => ?_) (fun c265 => ?_)
                    · refine lv_iload_n (pc := 285) hx hb dX10_chairs_285 rfl (lv_at hl 1 rfl) ?_
                      exact hret 286 _ hP hS dX10_chairs_286 rfl rfl ⟨(by rw [if_pos (by omega), Int.toNat_natCast, ha, show i = 64 by omega, maxTo_congr 64 hM, show r = P.2.2.2.2.1 by omega]), M, T, rfl⟩
                    · refine lv_iload_n (pc := 268) hx hb dX10_chairs_268 rfl (lv_at hl 1 rfl) ?_
                      refine lv_aload_n (pc := 269) hx hb dX10_chairs_269 rfl (lv_at hl 2 rfl) ?_
                      refine va_get (pc := 270) (D := D) (ci := 10) (v := .ref (ad 42)) (C := RX10) (T := TX10) (N := 44) hx hb hts hiX10 hown hK hP 0 rfl rfl 42 (by decide) wf89 (fun _ h9 => h9) rfl dX10_chairs_270 ?_
                      refine lv_iload_n (pc := 273) hx hb dX10_chairs_273 rfl (lv_at hl 0 rfl) ?_
                      refine ra_iald (pc := 274) (k := i) (v := jI (M i)) hx hb hK hP 2 0 rfl rfl (by omega) (by decide) rfl dX10_chairs_274 ?_
                      have hq := hMb i (by omega)
                      refine ci_Sd (pc := 275) hF hN hK hP hV hS hA (k_X10_larger l D cI cC cB cS (jI a) a (jI_to (by omega)) (jI (M i)) (M i) (jI_to (by omega))) (va_cwS 2 hts gX10_chairs_X10_larger rfl rfl rfl (by decide +kernel) ⟨Nat.le_of_ble_eq_true rfl, Nat.le_of_ble_eq_true rfl⟩) [] rfl (by decide) rfl hl.1 rfl (Nat.le_of_ble_eq_true rfl) dX10_chairs_275 ⟨Nat.le_refl _, Nat.le_refl _⟩ rfl (ws2 := [rmE o ad (pCells P) P.2.2.2.1 P.2.2.2.2.2.1 P.2.2.2.2.2.2 I, nE 384 (ad 25) cI sl, zE 64 (ad 42) cI M, zE 64 (ad 43) cI T]) rfl (fun H locs hP hS => ?_)
                      refine lv_istore_n (pc := 278) (lv' := [(2, .int (jI (max a (M i)))), (3, .int (nI i)), (0, .ref o)]) hx hb dX10_chairs_278 rfl hl (by decide) rfl (fun ls hl => ?_)
                      refine lv_iinc (pc := 279) (v := nI (i + 1)) (lv' := [(3, .int (nI (i + 1))), (2, .int (jI (max a (M i)))), (0, .ref o)]) hx hb dX10_chairs_279 hl (k := 1) rfl (by rw [← nI_add]; rfl) (by decide) rfl (fun ls hl => ?_)
                      refine lv_goto (pc := 282) (tgt := 262) hx hb dX10_chairs_282 (by decide) ?_
                      exact ih262 (i + 1) (max a (M i)) _ _ _ (by omega) (by rw [maxTo, ha]) (by omega) hP hS (lv_sub hl [0, 1, 2] rfl)
                exact cut262 _ 0 0 _ _ _ (by omega) rfl (Nat.lt_succ_self _) hP hS (lv_sub hl [0, 1, 3] rfl)
              · refine lv_iconst (pc := 54) (v := nI 0) hx hb dX10_chairs_54 (by decide) ?_
                refine lv_istore_n (pc := 55) (lv' := [(3, .int (nI 0)), (2, .int (nI (r * P.2.2.2.1))), (1, .int (nI h)), (0, .ref o)]) hx hb dX10_chairs_55 rfl hl (by decide) rfl (fun ls hl => ?_)
                refine lv_iconst (pc := 56) (v := nI 0) hx hb dX10_chairs_56 (by decide) ?_
                refine lv_istore (pc := 57) (lv' := [(4, .int (nI 0)), (3, .int (nI 0)), (2, .int (nI (r * P.2.2.2.1))), (1, .int (nI h)), (0, .ref o)]) hx hb dX10_chairs_57 hl (by decide) rfl (fun ls hl => ?_)
                have cut59 : ∀ (fuel : Nat) (j : Nat) (a : Nat) (H : Heap) (locs : List Loc) (ls : Array Slot) (hj9 : j ≤ P.2.2.2.1) (hfr : a = frN sl (r * P.2.2.2.1) h j) (hfu : P.2.2.2.1 - j < fuel), va_P D vwCl ([rmE o ad (pCells P) P.2.2.2.1 P.2.2.2.2.2.1 P.2.2.2.2.2.2 I, nE 384 (ad 25) cI sl, zE 64 (ad 42) cI M, zE 64 (ad 43) cI T]) H → va_S A s.heap H locs → lv_has ls 7 [(4, .int (nI j)), (3, .int (nI a)), (2, .int (nI (r * P.2.2.2.1))), (1, .int (nI h)), (0, .ref o)] → W p l e rmX10_chairs s m args below meth c H locs 0 0 QF (F0 m 59 ls []) := by
                  intro fuel
                  induction fuel with
                  | zero => intro j a H locs ls hj9 hfr hfu; omega
                  | succ fuel ih59 =>
                    intro j a H locs ls hj9 hfr hfu hP hS hl
                    refine lv_iload (pc := 59) hx hb dX10_chairs_59 (lv_at hl 0 rfl) ?_
                    refine lv_aload_n (pc := 61) hx hb dX10_chairs_61 rfl (lv_at hl 4 rfl) ?_
                    refine va_get (pc := 62) (D := D) (ci := 10) (v := .int (nI P.2.2.2.1)) (C := RX10) (T := TX10) (N := 44) hx hb hts hiX10 hown hK hP 0 rfl rfl 1 (by decide) wf124 (fun _ h9 => h9) rfl dX10_chairs_62 ?_
                    refine rc_ge (pc := 65) (tgt := 98) hx hb (tI_nI (by omega)) (tI_nI (by omega)) dX10_chairs_65 (by decide) (fun c65 => ?_) (fun c65 => ?_)
                    · obtain rfl : a = frN sl (r * P.2.2.2.1) h P.2.2.2.1 := by rw [hfr, show j = P.2.2.2.1 by omega]
                      refine lv_iconst (pc := 98) (v := nI 0) hx hb dX10_chairs_98 (by decide) ?_
                      refine lv_istore (pc := 99) (lv' := [(4, .int (nI 0)), (3, .int (nI (frN sl (r * P.2.2.2.1) h P.2.2.2.1))), (2, .int (nI (r * P.2.2.2.1))), (1, .int (nI h)), (0, .ref o)]) hx hb dX10_chairs_99 hl (by decide) rfl (fun ls hl => ?_)
                      have cut101 : ∀ (fuel : Nat) (sb : Nat) (T : Nat → Int) (H : Heap) (locs : List Loc) (ls : Array Slot) (hs9 : sb ≤ 64) (hT : ∀ j, j < sb → T j = chT M (frN sl (r * P.2.2.2.1) h P.2.2.2.1) j 64) (hfu : 64 - sb < fuel), va_P D vwCl ([rmE o ad (pCells P) P.2.2.2.1 P.2.2.2.2.2.1 P.2.2.2.2.2.2 I, nE 384 (ad 25) cI sl, zE 64 (ad 42) cI M, zE 64 (ad 43) cI T]) H → va_S A s.heap H locs → lv_has ls 7 [(4, .int (nI sb)), (3, .int (nI (frN sl (r * P.2.2.2.1) h P.2.2.2.1))), (2, .int (nI (r * P.2.2.2.1))), (1, .int (nI h)), (0, .ref o)] → W p l e rmX10_chairs s m args below meth c H locs 0 0 QF (F0 m 101 ls []) := by
                        intro fuel
                        induction fuel with
                        | zero => intro sb T H locs ls hs9 hT hfu; omega
                        | succ fuel ih101 =>
                          intro sb T H locs ls hs9 hT hfu hP hS hl
                          have hf64 := frN_64 (sl := sl) (ln := r * P.2.2.2.1) (h := h) hp4
                          refine lv_iload (pc := 101) hx hb dX10_chairs_101 (lv_at hl 0 rfl) ?_
                          refine lv_bipush (pc := 103) (v := nI 64) hx hb dX10_chairs_103 (by decide) ?_
                          refine rc_ge (pc := 105) (tgt := 218) hx hb (tI_nI (by omega)) (tI_nI (by omega)) dX10_chairs_105 (by decide) (fun c105 => ?_) (fun c105 => ?_)
                          · refine lv_iconst (pc := 218) (v := nI 0) hx hb dX10_chairs_218 (by decide) ?_
                            refine lv_istore (pc := 219) (lv' := [(4, .int (nI 0)), (3, .int (nI (frN sl (r * P.2.2.2.1) h P.2.2.2.1))), (2, .int (nI (r * P.2.2.2.1))), (1, .int (nI h)), (0, .ref o)]) hx hb dX10_chairs_219 hl (by decide) rfl (fun ls hl => ?_)
                            have cut221 : ∀ (fuel : Nat) (i : Nat) (M2 : Nat → Int) (H : Heap) (locs : List Loc) (ls : Array Slot) (hi9 : i ≤ 64) (hM2 : ∀ j, j < i → M2 j = T j) (hfu : 64 - i < fuel), va_P D vwCl ([rmE o ad (pCells P) P.2.2.2.1 P.2.2.2.2.2.1 P.2.2.2.2.2.2 I, nE 384 (ad 25) cI sl, zE 64 (ad 42) cI M2, zE 64 (ad 43) cI T]) H → va_S A s.heap H locs → lv_has ls 7 [(4, .int (nI i)), (2, .int (nI (r * P.2.2.2.1))), (1, .int (nI h)), (0, .ref o)] → W p l e rmX10_chairs s m args below meth c H locs 0 0 QF (F0 m 221 ls []) := by
                              intro fuel
                              induction fuel with
                              | zero => intro i M2 H locs ls hi9 hM2 hfu; omega
                              | succ fuel ih221 =>
                                intro i M2 H locs ls hi9 hM2 hfu hP hS hl
                                have hTb : ∀ j, j < 64 → -99 ≤ T j ∧ T j ≤ 206 := fun j hj => by have := chT_rng (b := 200) (by omega) hMb (frN sl (r * P.2.2.2.1) h P.2.2.2.1) j 64 (Nat.le_refl _); rw [hT j (by omega)]; omega
                                refine lv_iload (pc := 221) hx hb dX10_chairs_221 (lv_at hl 0 rfl) ?_
                                refine lv_bipush (pc := 223) (v := nI 64) hx hb dX10_chairs_223 (by decide) ?_
                                refine rc_ge (pc := 225) (tgt := 248) hx hb (tI_nI (by omega)) (tI_nI (by omega)) dX10_chairs_225 (by decide) (fun c225 => ?_) (fun c225 => ?_)
                                · refine lv_iload_n (pc := 248) hx hb dX10_chairs_248 rfl (lv_at hl 1 rfl) ?_
                                  refine lv_aload_n (pc := 249) hx hb dX10_chairs_249 rfl (lv_at hl 3 rfl) ?_
                                  refine va_get (pc := 250) (D := D) (ci := 10) (v := .int (nI P.2.2.2.1)) (C := RX10) (T := TX10) (N := 44) hx hb hts hiX10 hown hK hP 0 rfl rfl 1 (by decide) wf124 (fun _ h9 => h9) rfl dX10_chairs_250 ?_
                                  refine rn_iadd (pc := 253) hx hb dX10_chairs_253 ?_
                                  refine r_top (show _ = nI ((r + 1) * P.2.2.2.1) from (by rw [Nat.succ_mul])) ?_
                                  refine lv_istore_n (pc := 254) (lv' := [(2, .int (nI ((r + 1) * P.2.2.2.1))), (4, .int (nI i)), (1, .int (nI h)), (0, .ref o)]) hx hb dX10_chairs_254 rfl hl (by decide) rfl (fun ls hl => ?_)
                                  refine lv_goto (pc := 255) (tgt := 46) hx hb dX10_chairs_255 (by decide) ?_
                                  exact ih46 (r + 1) M2 T _ _ _ (by omega) (ch_next hM (fun j hj => by rw [hM2 j (by omega)]; exact hT j (by omega))) (by omega) hP hS (lv_sub hl [0, 2, 3] rfl)
                                · refine lv_aload_n (pc := 228) hx hb dX10_chairs_228 rfl (lv_at hl 3 rfl) ?_
                                  refine va_get (pc := 229) (D := D) (ci := 10) (v := .ref (ad 42)) (C := RX10) (T := TX10) (N := 44) hx hb hts hiX10 hown hK hP 0 rfl rfl 42 (by decide) wf89 (fun _ h9 => h9) rfl dX10_chairs_229 ?_
                                  refine lv_iload (pc := 232) hx hb dX10_chairs_232 (lv_at hl 0 rfl) ?_
                                  refine lv_aload_n (pc := 234) hx hb dX10_chairs_234 rfl (lv_at hl 3 rfl) ?_
                                  refine va_get (pc := 235) (D := D) (ci := 10) (v := .ref (ad 43)) (C := RX10) (T := TX10) (N := 44) hx hb hts hiX10 hown hK hP 0 rfl rfl 43 (by decide) wf92 (fun _ h9 => h9) rfl dX10_chairs_235 ?_
                                  refine lv_iload (pc := 238) hx hb dX10_chairs_238 (lv_at hl 0 rfl) ?_
                                  refine ra_iald (pc := 240) (k := i) (v := jI (T i)) hx hb hK hP 3 0 rfl rfl (by omega) (by decide) rfl dX10_chairs_240 ?_
                                  have hq := hTb i (by omega)
                                  refine rz_iast (pc := 241) (f := M2) (k := i) (x := T i) (ws2 := [rmE o ad (pCells P) P.2.2.2.1 P.2.2.2.2.2.1 P.2.2.2.2.2.2 I, nE 384 (ad 25) cI sl, zE 64 (ad 42) cI (va_up M2 i (T i)), zE 64 (ad 43) cI T]) hx hb hK hP hV hS 2 0 rfl rfl (by omega) (by decide) dX10_chairs_241 rfl rfl rfl (fun H locs hP hS => ?_)
                                  refine lv_iinc (pc := 242) (v := nI (i + 1)) (lv' := [(4, .int (nI (i + 1))), (2, .int (nI (r * P.2.2.2.1))), (1, .int (nI h)), (0, .ref o)]) hx hb dX10_chairs_242 hl (k := 0) rfl (by rw [← nI_add]; rfl) (by decide) rfl (fun ls hl => ?_)
                                  refine lv_goto (pc := 245) (tgt := 221) hx hb dX10_chairs_245 (by decide) ?_
                                  exact ih221 (i + 1) (va_up M2 i (T i)) _ _ _ (by omega) (rowst hM2) (by omega) hP hS (lv_sub hl [0, 1, 2, 3] rfl)
                            exact cut221 _ 0 M _ _ _ (by omega) (fun j hj => absurd hj (Nat.not_lt_zero j)) (Nat.lt_succ_self _) hP hS (lv_sub hl [0, 2, 3, 4] rfl)
                          · refine lv_aload_n (pc := 108) hx hb dX10_chairs_108 rfl (lv_at hl 4 rfl) ?_
                            refine va_get (pc := 109) (D := D) (ci := 10) (v := .ref (ad 43)) (C := RX10) (T := TX10) (N := 44) hx hb hts hiX10 hown hK hP 0 rfl rfl 43 (by decide) wf92 (fun _ h9 => h9) rfl dX10_chairs_109 ?_
                            refine lv_iload (pc := 112) hx hb dX10_chairs_112 (lv_at hl 0 rfl) ?_
                            refine lv_bipush (pc := 114) (v := jI (-99)) hx hb dX10_chairs_114 (by decide) ?_
                            refine rz_iast (pc := 116) (f := T) (k := sb) (x := -99) (ws2 := [rmE o ad (pCells P) P.2.2.2.1 P.2.2.2.2.2.1 P.2.2.2.2.2.2 I, nE 384 (ad 25) cI sl, zE 64 (ad 42) cI M, zE 64 (ad 43) cI (va_up T sb (-99))]) hx hb hK hP hV hS 3 0 rfl rfl (by omega) (by decide) dX10_chairs_116 rfl rfl rfl (fun H locs hP hS => ?_)
                            refine lv_iconst (pc := 117) (v := nI 0) hx hb dX10_chairs_117 (by decide) ?_
                            refine lv_istore (pc := 118) (lv' := [(5, .int (nI 0)), (4, .int (nI sb)), (3, .int (nI (frN sl (r * P.2.2.2.1) h P.2.2.2.1))), (2, .int (nI (r * P.2.2.2.1))), (1, .int (nI h)), (0, .ref o)]) hx hb dX10_chairs_118 hl (by decide) rfl (fun ls hl => ?_)
                            have cut120 : ∀ (fuel : Nat) (t : Nat) (T2 : Nat → Int) (H : Heap) (locs : List Loc) (ls : Array Slot) (ht9 : t ≤ 64) (ht1 : ∀ j, j < sb → T2 j = chT M (frN sl (r * P.2.2.2.1) h P.2.2.2.1) j 64) (ht2 : T2 sb = chT M (frN sl (r * P.2.2.2.1) h P.2.2.2.1) sb t) (hfu : 64 - t < fuel), va_P D vwCl ([rmE o ad (pCells P) P.2.2.2.1 P.2.2.2.2.2.1 P.2.2.2.2.2.2 I, nE 384 (ad 25) cI sl, zE 64 (ad 42) cI M, zE 64 (ad 43) cI T2]) H → va_S A s.heap H locs → lv_has ls 7 [(5, .int (nI t)), (4, .int (nI sb)), (3, .int (nI (frN sl (r * P.2.2.2.1) h P.2.2.2.1))), (2, .int (nI (r * P.2.2.2.1))), (1, .int (nI h)), (0, .ref o)] → W p l e rmX10_chairs s m args below meth c H locs 0 0 QF (F0 m 120 ls []) := by
                              intro fuel
                              induction fuel with
                              | zero => intro t T2 H locs ls ht9 ht1 ht2 hfu; omega
                              | succ fuel ih120 =>
                                intro t T2 H locs ls ht9 ht1 ht2 hfu hP hS hl
                                have hTs := chT_rng (b := 200) (by omega) hMb (frN sl (r * P.2.2.2.1) h P.2.2.2.1) sb t ht9
                                rw [← ht2] at hTs
                                have hTb : ∀ j : Nat, j < 64 → -99 ≤ T2 sb ∧ T2 sb ≤ 206 := fun _ _ => by omega
                                have hpop := popN_le sb 6
                                have han := Nat.and_le_left (n := sb) (m := sb / 2 ^ 1)
                                have han2 := Nat.and_le_left (n := sb) (m := t)
                                have hMt := hMb t
                                refine lv_iload (pc := 120) hx hb dX10_chairs_120 (lv_at hl 0 rfl) ?_
                                refine lv_bipush (pc := 122) (v := nI 64) hx hb dX10_chairs_122 (by decide) ?_
                                refine rc_ge (pc := 124) (tgt := 212) hx hb (tI_nI (by omega)) (tI_nI (by omega)) dX10_chairs_124 (by decide) (fun c124 => ?_) (fun c124 => ?_)
                                · refine lv_iinc (pc := 212) (v := nI (sb + 1)) (lv' := [(4, .int (nI (sb + 1))), (5, .int (nI t)), (3, .int (nI (frN sl (r * P.2.2.2.1) h P.2.2.2.1))), (2, .int (nI (r * P.2.2.2.1))), (1, .int (nI h)), (0, .ref o)]) hx hb dX10_chairs_212 hl (k := 1) rfl (by rw [← nI_add]; rfl) (by decide) rfl (fun ls hl => ?_)
                                  refine lv_goto (pc := 215) (tgt := 101) hx hb dX10_chairs_215 (by decide) ?_
                                  exact ih101 (sb + 1) T2 _ _ _ (by omega) (fun j hj => by by_cases e9 : j = sb; (rw [e9, ht2, show t = 64 by omega]); exact ht1 j (by omega)) (by omega) hP hS (lv_sub hl [0, 2, 3, 4, 5] rfl)
                                · refine lv_iload (pc := 127) hx hb dX10_chairs_127 (lv_at hl 1 rfl) ?_
                                  refine lv_iload_n (pc := 129) hx hb dX10_chairs_129 rfl (lv_at hl 2 rfl) ?_
                                  refine lv_iconst (pc := 130) (v := jI (-1)) hx hb dX10_chairs_130 (by decide) ?_
                                  refine lv_ixor (pc := 131) hx hb dX10_chairs_131 ?_
                                  refine lv_iand (pc := 132) hx hb dX10_chairs_132 ?_
                                  refine r0_ne (pc := 133) (tgt := 158) hx hb rfl dX10_chairs_133 (by decide) (fun c133 => ?_) (fun c133 => ?_)
                                  · refine lv_iconst (pc := 158) (v := nI 0) hx hb dX10_chairs_158 (by decide) ?_
                                    refine lv_istore (pc := 159) (lv' := [(6, .int (nI 0)), (5, .int (nI t)), (4, .int (nI sb)), (3, .int (nI (frN sl (r * P.2.2.2.1) h P.2.2.2.1))), (2, .int (nI (r * P.2.2.2.1))), (1, .int (nI h)), (0, .ref o)]) hx hb dX10_chairs_159 hl (by decide) rfl (fun ls hl => ?_)
                                    refine lv_aload_n (pc := 161) hx hb dX10_chairs_161 rfl (lv_at hl 6 rfl) ?_
                                    refine va_get (pc := 162) (D := D) (ci := 10) (v := .ref (ad 43)) (C := RX10) (T := TX10) (N := 44) hx hb hts hiX10 hown hK hP 0 rfl rfl 43 (by decide) wf92 (fun _ h9 => h9) rfl dX10_chairs_162 ?_
                                    refine lv_iload (pc := 165) hx hb dX10_chairs_165 (lv_at hl 2 rfl) ?_
                                    refine lv_iload (pc := 167) hx hb dX10_chairs_167 (lv_at hl 0 rfl) ?_
                                    refine r0_eq (pc := 169) (tgt := 198) hx hb (tI_nI (by omega)) dX10_chairs_169 (by decide) (fun c169 => ?_) (fun c169 => (by omega))
                                    refine lv_aload_n (pc := 198) hx hb dX10_chairs_198 rfl (lv_at hl 6 rfl) ?_
                                    refine va_get (pc := 199) (D := D) (ci := 10) (v := .ref (ad 43)) (C := RX10) (T := TX10) (N := 44) hx hb hts hiX10 hown hK hP 0 rfl rfl 43 (by decide) wf92 (fun _ h9 => h9) rfl dX10_chairs_199 ?_
                                    refine lv_iload (pc := 202) hx hb dX10_chairs_202 (lv_at hl 2 rfl) ?_
                                    refine ra_iald (pc := 204) (k := sb) (v := jI (T2 sb)) hx hb hK hP 3 0 rfl rfl (by omega) (by decide) rfl dX10_chairs_204 ?_
                                    have hq := hTb sb (by omega)
                                    refine rz_iast (pc := 205) (f := T2) (k := sb) (x := T2 sb) (ws2 := [rmE o ad (pCells P) P.2.2.2.1 P.2.2.2.2.2.1 P.2.2.2.2.2.2 I, nE 384 (ad 25) cI sl, zE 64 (ad 42) cI M, zE 64 (ad 43) cI (va_up T2 sb (T2 sb))]) hx hb hK hP hV hS 3 0 rfl rfl (by omega) (by decide) dX10_chairs_205 rfl rfl rfl (fun H locs hP hS => ?_)
                                    refine lv_iinc (pc := 206) (v := nI (t + 1)) (lv' := [(5, .int (nI (t + 1))), (6, .int (nI 0)), (4, .int (nI sb)), (3, .int (nI (frN sl (r * P.2.2.2.1) h P.2.2.2.1))), (2, .int (nI (r * P.2.2.2.1))), (1, .int (nI h)), (0, .ref o)]) hx hb dX10_chairs_206 hl (k := 1) rfl (by rw [← nI_add]; rfl) (by decide) rfl (fun ls hl => ?_)
                                    refine lv_goto (pc := 209) (tgt := 120) hx hb dX10_chairs_209 (by decide) ?_
                                    exact ih120 (t + 1) (va_up T2 sb (T2 sb)) _ _ _ (by omega) (fun j hj => by rw [va_up_ne _ _ (by omega)]; exact ht1 j hj) (by rw [va_up_self]; exact chT_n ht2 (fun q9 => c133 ((xor_free1 (by omega) (by omega)).mpr q9.1.1))) (by omega) hP hS (lv_sub hl [0, 2, 3, 4, 5, 6] rfl)
                                  · refine lv_iload (pc := 136) hx hb dX10_chairs_136 (lv_at hl 1 rfl) ?_
                                    refine lv_iload (pc := 138) hx hb dX10_chairs_138 (lv_at hl 1 rfl) ?_
                                    refine lv_iconst (pc := 140) (v := nI 1) hx hb dX10_chairs_140 (by decide) ?_
                                    refine lv_ishr (pc := 141) hx hb dX10_chairs_141 ?_
                                    refine r_top (nI_shr (by omega) (by omega)) ?_
                                    refine lv_iand (pc := 142) hx hb dX10_chairs_142 ?_
                                    refine r_top (nI_and _ _) ?_
                                    refine r0_ne (pc := 143) (tgt := 158) hx hb (tI_nI (by omega)) dX10_chairs_143 (by decide) (fun c143 => ?_) (fun c143 => ?_)
                                    · refine lv_iconst (pc := 158) (v := nI 0) hx hb dX10_chairs_158 (by decide) ?_
                                      refine lv_istore (pc := 159) (lv' := [(6, .int (nI 0)), (5, .int (nI t)), (4, .int (nI sb)), (3, .int (nI (frN sl (r * P.2.2.2.1) h P.2.2.2.1))), (2, .int (nI (r * P.2.2.2.1))), (1, .int (nI h)), (0, .ref o)]) hx hb dX10_chairs_159 hl (by decide) rfl (fun ls hl => ?_)
                                      refine lv_aload_n (pc := 161) hx hb dX10_chairs_161 rfl (lv_at hl 6 rfl) ?_
                                      refine va_get (pc := 162) (D := D) (ci := 10) (v := .ref (ad 43)) (C := RX10) (T := TX10) (N := 44) hx hb hts hiX10 hown hK hP 0 rfl rfl 43 (by decide) wf92 (fun _ h9 => h9) rfl dX10_chairs_162 ?_
                                      refine lv_iload (pc := 165) hx hb dX10_chairs_165 (lv_at hl 2 rfl) ?_
                                      refine lv_iload (pc := 167) hx hb dX10_chairs_167 (lv_at hl 0 rfl) ?_
                                      refine r0_eq (pc := 169) (tgt := 198) hx hb (tI_nI (by omega)) dX10_chairs_169 (by decide) (fun c169 => ?_) (fun c169 => (by omega))
                                      refine lv_aload_n (pc := 198) hx hb dX10_chairs_198 rfl (lv_at hl 6 rfl) ?_
                                      refine va_get (pc := 199) (D := D) (ci := 10) (v := .ref (ad 43)) (C := RX10) (T := TX10) (N := 44) hx hb hts hiX10 hown hK hP 0 rfl rfl 43 (by decide) wf92 (fun _ h9 => h9) rfl dX10_chairs_199 ?_
                                      refine lv_iload (pc := 202) hx hb dX10_chairs_202 (lv_at hl 2 rfl) ?_
                                      refine ra_iald (pc := 204) (k := sb) (v := jI (T2 sb)) hx hb hK hP 3 0 rfl rfl (by omega) (by decide) rfl dX10_chairs_204 ?_
                                      have hq := hTb sb (by omega)
                                      refine rz_iast (pc := 205) (f := T2) (k := sb) (x := T2 sb) (ws2 := [rmE o ad (pCells P) P.2.2.2.1 P.2.2.2.2.2.1 P.2.2.2.2.2.2 I, nE 384 (ad 25) cI sl, zE 64 (ad 42) cI M, zE 64 (ad 43) cI (va_up T2 sb (T2 sb))]) hx hb hK hP hV hS 3 0 rfl rfl (by omega) (by decide) dX10_chairs_205 rfl rfl rfl (fun H locs hP hS => ?_)
                                      refine lv_iinc (pc := 206) (v := nI (t + 1)) (lv' := [(5, .int (nI (t + 1))), (6, .int (nI 0)), (4, .int (nI sb)), (3, .int (nI (frN sl (r * P.2.2.2.1) h P.2.2.2.1))), (2, .int (nI (r * P.2.2.2.1))), (1, .int (nI h)), (0, .ref o)]) hx hb dX10_chairs_206 hl (k := 1) rfl (by rw [← nI_add]; rfl) (by decide) rfl (fun ls hl => ?_)
                                      refine lv_goto (pc := 209) (tgt := 120) hx hb dX10_chairs_209 (by decide) ?_
                                      exact ih120 (t + 1) (va_up T2 sb (T2 sb)) _ _ _ (by omega) (fun j hj => by rw [va_up_ne _ _ (by omega)]; exact ht1 j hj) (by rw [va_up_self]; exact chT_n ht2 (fun q9 => by have := q9.1.2; omega)) (by omega) hP hS (lv_sub hl [0, 2, 3, 4, 5, 6] rfl)
                                    · refine lv_iload (pc := 146) hx hb dX10_chairs_146 (lv_at hl 1 rfl) ?_
                                      refine lv_iload (pc := 148) hx hb dX10_chairs_148 (lv_at hl 0 rfl) ?_
                                      refine lv_iand (pc := 150) hx hb dX10_chairs_150 ?_
                                      refine r_top (nI_and _ _) ?_
                                      refine r0_ne (pc := 151) (tgt := 158) hx hb (tI_nI (by omega)) dX10_chairs_151 (by decide) (fun c151 => ?_) (fun c151 => ?_)
                                      · refine lv_iconst (pc := 158) (v := nI 0) hx hb dX10_chairs_158 (by decide) ?_
                                        refine lv_istore (pc := 159) (lv' := [(6, .int (nI 0)), (5, .int (nI t)), (4, .int (nI sb)), (3, .int (nI (frN sl (r * P.2.2.2.1) h P.2.2.2.1))), (2, .int (nI (r * P.2.2.2.1))), (1, .int (nI h)), (0, .ref o)]) hx hb dX10_chairs_159 hl (by decide) rfl (fun ls hl => ?_)
                                        refine lv_aload_n (pc := 161) hx hb dX10_chairs_161 rfl (lv_at hl 6 rfl) ?_
                                        refine va_get (pc := 162) (D := D) (ci := 10) (v := .ref (ad 43)) (C := RX10) (T := TX10) (N := 44) hx hb hts hiX10 hown hK hP 0 rfl rfl 43 (by decide) wf92 (fun _ h9 => h9) rfl dX10_chairs_162 ?_
                                        refine lv_iload (pc := 165) hx hb dX10_chairs_165 (lv_at hl 2 rfl) ?_
                                        refine lv_iload (pc := 167) hx hb dX10_chairs_167 (lv_at hl 0 rfl) ?_
                                        refine r0_eq (pc := 169) (tgt := 198) hx hb (tI_nI (by omega)) dX10_chairs_169 (by decide) (fun c169 => ?_) (fun c169 => (by omega))
                                        refine lv_aload_n (pc := 198) hx hb dX10_chairs_198 rfl (lv_at hl 6 rfl) ?_
                                        refine va_get (pc := 199) (D := D) (ci := 10) (v := .ref (ad 43)) (C := RX10) (T := TX10) (N := 44) hx hb hts hiX10 hown hK hP 0 rfl rfl 43 (by decide) wf92 (fun _ h9 => h9) rfl dX10_chairs_199 ?_
                                        refine lv_iload (pc := 202) hx hb dX10_chairs_202 (lv_at hl 2 rfl) ?_
                                        refine ra_iald (pc := 204) (k := sb) (v := jI (T2 sb)) hx hb hK hP 3 0 rfl rfl (by omega) (by decide) rfl dX10_chairs_204 ?_
                                        have hq := hTb sb (by omega)
                                        refine rz_iast (pc := 205) (f := T2) (k := sb) (x := T2 sb) (ws2 := [rmE o ad (pCells P) P.2.2.2.1 P.2.2.2.2.2.1 P.2.2.2.2.2.2 I, nE 384 (ad 25) cI sl, zE 64 (ad 42) cI M, zE 64 (ad 43) cI (va_up T2 sb (T2 sb))]) hx hb hK hP hV hS 3 0 rfl rfl (by omega) (by decide) dX10_chairs_205 rfl rfl rfl (fun H locs hP hS => ?_)
                                        refine lv_iinc (pc := 206) (v := nI (t + 1)) (lv' := [(5, .int (nI (t + 1))), (6, .int (nI 0)), (4, .int (nI sb)), (3, .int (nI (frN sl (r * P.2.2.2.1) h P.2.2.2.1))), (2, .int (nI (r * P.2.2.2.1))), (1, .int (nI h)), (0, .ref o)]) hx hb dX10_chairs_206 hl (k := 1) rfl (by rw [← nI_add]; rfl) (by decide) rfl (fun ls hl => ?_)
                                        refine lv_goto (pc := 209) (tgt := 120) hx hb dX10_chairs_209 (by decide) ?_
                                        exact ih120 (t + 1) (va_up T2 sb (T2 sb)) _ _ _ (by omega) (fun j hj => by rw [va_up_ne _ _ (by omega)]; exact ht1 j hj) (by rw [va_up_self]; exact chT_n ht2 (fun q9 => by have := q9.2; omega)) (by omega) hP hS (lv_sub hl [0, 2, 3, 4, 5, 6] rfl)
                                      · refine lv_iconst (pc := 154) (v := nI 1) hx hb dX10_chairs_154 (by decide) ?_
                                        refine lv_goto (pc := 155) (tgt := 159) hx hb dX10_chairs_155 (by decide) ?_
                                        refine lv_istore (pc := 159) (lv' := [(6, .int (nI 1)), (5, .int (nI t)), (4, .int (nI sb)), (3, .int (nI (frN sl (r * P.2.2.2.1) h P.2.2.2.1))), (2, .int (nI (r * P.2.2.2.1))), (1, .int (nI h)), (0, .ref o)]) hx hb dX10_chairs_159 hl (by decide) rfl (fun ls hl => ?_)
                                        refine lv_aload_n (pc := 161) hx hb dX10_chairs_161 rfl (lv_at hl 6 rfl) ?_
                                        refine va_get (pc := 162) (D := D) (ci := 10) (v := .ref (ad 43)) (C := RX10) (T := TX10) (N := 44) hx hb hts hiX10 hown hK hP 0 rfl rfl 43 (by decide) wf92 (fun _ h9 => h9) rfl dX10_chairs_162 ?_
                                        refine lv_iload (pc := 165) hx hb dX10_chairs_165 (lv_at hl 2 rfl) ?_
                                        refine lv_iload (pc := 167) hx hb dX10_chairs_167 (lv_at hl 0 rfl) ?_
                                        refine r0_eq (pc := 169) (tgt := 198) hx hb (tI_nI (by omega)) dX10_chairs_169 (by decide) (fun c169 => (by omega)) (fun c169 => ?_)
                                        refine lv_aload_n (pc := 172) hx hb dX10_chairs_172 rfl (lv_at hl 6 rfl) ?_
                                        refine va_get (pc := 173) (D := D) (ci := 10) (v := .ref (ad 43)) (C := RX10) (T := TX10) (N := 44) hx hb hts hiX10 hown hK hP 0 rfl rfl 43 (by decide) wf92 (fun _ h9 => h9) rfl dX10_chairs_173 ?_
                                        refine lv_iload (pc := 176) hx hb dX10_chairs_176 (lv_at hl 2 rfl) ?_
                                        refine ra_iald (pc := 178) (k := sb) (v := jI (T2 sb)) hx hb hK hP 3 0 rfl rfl (by omega) (by decide) rfl dX10_chairs_178 ?_
                                        have hq := hTb sb (by omega)
                                        refine lv_aload_n (pc := 179) hx hb dX10_chairs_179 rfl (lv_at hl 6 rfl) ?_
                                        refine va_get (pc := 180) (D := D) (ci := 10) (v := .ref (ad 42)) (C := RX10) (T := TX10) (N := 44) hx hb hts hiX10 hown hK hP 0 rfl rfl 42 (by decide) wf89 (fun _ h9 => h9) rfl dX10_chairs_180 ?_
                                        refine lv_iload (pc := 183) hx hb dX10_chairs_183 (lv_at hl 1 rfl) ?_
                                        refine ra_iald (pc := 185) (k := t) (v := jI (M t)) hx hb hK hP 2 0 rfl rfl (by omega) (by decide) rfl dX10_chairs_185 ?_
                                        have hq := hMb t (by omega)
                                        refine lv_iload (pc := 186) hx hb dX10_chairs_186 (lv_at hl 2 rfl) ?_
                                        refine ci_Sd (pc := 188) hF hN hK hP hV hS hA (k_X10_bits l D cI cC cB cS sb (by omega)) (va_cwS 1 hts gX10_chairs_X10_bits rfl rfl rfl (by decide +kernel) ⟨Nat.le_of_ble_eq_true rfl, Nat.le_of_ble_eq_true rfl⟩) [] rfl (by decide) rfl hl.1 rfl (Nat.le_of_ble_eq_true rfl) dX10_chairs_188 ⟨Nat.le_refl _, Nat.le_refl _⟩ rfl (ws2 := [rmE o ad (pCells P) P.2.2.2.1 P.2.2.2.2.2.1 P.2.2.2.2.2.2 I, nE 384 (ad 25) cI sl, zE 64 (ad 42) cI M, zE 64 (ad 43) cI T2]) rfl (fun H locs hP hS => ?_)
                                        have fq3 := popN_le6 sb
                                        refine rz_iadd (pc := 191) hx hb rfl (jI_nat _) dX10_chairs_191 ?_
                                        refine ci_Sd (pc := 192) hF hN hK hP hV hS hA (k_X10_larger l D cI cC cB cS (jI (T2 sb)) (T2 sb) (jI_to (by omega)) (jI ((M t) + (popN sb 6 : Nat))) ((M t) + (popN sb 6 : Nat)) (jI_to (by omega))) (va_cwS 2 hts gX10_chairs_X10_larger rfl rfl rfl (by decide +kernel) ⟨Nat.le_of_ble_eq_true rfl, Nat.le_of_ble_eq_true rfl⟩) [] rfl (by decide) rfl hl.1 rfl (Nat.le_of_ble_eq_true rfl) dX10_chairs_192 ⟨Nat.le_refl _, Nat.le_refl _⟩ rfl (ws2 := [rmE o ad (pCells P) P.2.2.2.1 P.2.2.2.2.2.1 P.2.2.2.2.2.2 I, nE 384 (ad 25) cI sl, zE 64 (ad 42) cI M, zE 64 (ad 43) cI T2]) rfl (fun H locs hP hS => ?_)
                                        refine lv_goto (pc := 195) (tgt := 205) hx hb dX10_chairs_195 (by decide) ?_
                                        refine rz_iast (pc := 205) (f := T2) (k := sb) (x := max (T2 sb) ((M t) + (popN sb 6 : Nat))) (ws2 := [rmE o ad (pCells P) P.2.2.2.1 P.2.2.2.2.2.1 P.2.2.2.2.2.2 I, nE 384 (ad 25) cI sl, zE 64 (ad 42) cI M, zE 64 (ad 43) cI (va_up T2 sb (max (T2 sb) ((M t) + (popN sb 6 : Nat))))]) hx hb hK hP hV hS 3 0 rfl rfl (by omega) (by decide) dX10_chairs_205 rfl rfl rfl (fun H locs hP hS => ?_)
                                        refine lv_iinc (pc := 206) (v := nI (t + 1)) (lv' := [(5, .int (nI (t + 1))), (6, .int (nI 1)), (4, .int (nI sb)), (3, .int (nI (frN sl (r * P.2.2.2.1) h P.2.2.2.1))), (2, .int (nI (r * P.2.2.2.1))), (1, .int (nI h)), (0, .ref o)]) hx hb dX10_chairs_206 hl (k := 1) rfl (by rw [← nI_add]; rfl) (by decide) rfl (fun ls hl => ?_)
                                        refine lv_goto (pc := 209) (tgt := 120) hx hb dX10_chairs_209 (by decide) ?_
                                        exact ih120 (t + 1) (va_up T2 sb (max (T2 sb) ((M t) + (popN sb 6 : Nat)))) _ _ _ (by omega) (fun j hj => by rw [va_up_ne _ _ (by omega)]; exact ht1 j hj) (by rw [va_up_self]; exact chT_y ht2 ⟨⟨(xor_free1 (by omega) (by omega)).mp c133, by omega⟩, by omega⟩) (by omega) hP hS (lv_sub hl [0, 2, 3, 4, 5, 6] rfl)
                            exact cut120 _ 0 (va_up T sb (-99)) _ _ _ (by omega) (fun j hj => by rw [va_up_ne _ _ (by omega)]; exact hT j hj) (by rw [va_up_self]; rfl) (Nat.lt_succ_self _) hP hS (lv_sub hl [0, 1, 2, 3, 4, 5] rfl)
                      exact cut101 _ 0 T _ _ _ (by omega) (fun j hj => absurd hj (Nat.not_lt_zero j)) (Nat.lt_succ_self _) hP hS (lv_sub hl [0, 1, 2, 3, 4] rfl)
                    · refine lv_iload_n (pc := 68) hx hb dX10_chairs_68 rfl (lv_at hl 1 rfl) ?_
                      refine lv_aload_n (pc := 69) hx hb dX10_chairs_69 rfl (lv_at hl 4 rfl) ?_
                      refine va_get (pc := 70) (D := D) (ci := 10) (v := .ref (ad 25)) (C := RX10) (T := TX10) (N := 44) hx hb hts hiX10 hown hK hP 0 rfl rfl 25 (by decide) wf61 (fun _ h9 => h9) rfl dX10_chairs_70 ?_
                      refine lv_iload_n (pc := 73) hx hb dX10_chairs_73 rfl (lv_at hl 2 rfl) ?_
                      refine lv_iload (pc := 74) hx hb dX10_chairs_74 (lv_at hl 0 rfl) ?_
                      refine rn_iadd (pc := 76) hx hb dX10_chairs_76 ?_
                      refine ra_iald (pc := 77) (k := (r * P.2.2.2.1) + j) (v := nI (sl ((r * P.2.2.2.1) + j))) hx hb hK hP 1 0 rfl rfl (by omega) (by decide) rfl dX10_chairs_77 ?_
                      have hq := hsl ((r * P.2.2.2.1) + j)
                      refine lv_iload_n (pc := 78) hx hb dX10_chairs_78 rfl (lv_at hl 3 rfl) ?_
                      refine rc_gt (pc := 79) (tgt := 89) hx hb (tI_nI (by omega)) (tI_nI (by omega)) dX10_chairs_79 (by decide) (fun c79 => ?_) (fun c79 => ?_)
                      · refine lv_iconst (pc := 89) (v := nI 0) hx hb dX10_chairs_89 (by decide) ?_
                        refine lv_ior (pc := 90) hx hb dX10_chairs_90 ?_
                        refine r_top (nI_or _ _) ?_
                        refine lv_istore_n (pc := 91) (lv' := [(3, .int (nI (a ||| 0))), (4, .int (nI j)), (2, .int (nI (r * P.2.2.2.1))), (1, .int (nI h)), (0, .ref o)]) hx hb dX10_chairs_91 rfl hl (by decide) rfl (fun ls hl => ?_)
                        refine lv_iinc (pc := 92) (v := nI (j + 1)) (lv' := [(4, .int (nI (j + 1))), (3, .int (nI (a ||| 0))), (2, .int (nI (r * P.2.2.2.1))), (1, .int (nI h)), (0, .ref o)]) hx hb dX10_chairs_92 hl (k := 1) rfl (by rw [← nI_add]; rfl) (by decide) rfl (fun ls hl => ?_)
                        refine lv_goto (pc := 95) (tgt := 59) hx hb dX10_chairs_95 (by decide) ?_
                        exact ih59 (j + 1) (a ||| 0) _ _ _ (by omega) (frN_n hfr (by omega)) (by omega) hP hS (lv_sub hl [0, 1, 2, 3, 4] rfl)
                      · refine lv_iconst (pc := 82) (v := nI 1) hx hb dX10_chairs_82 (by decide) ?_
                        refine lv_iload (pc := 83) hx hb dX10_chairs_83 (lv_at hl 0 rfl) ?_
                        refine lv_ishl (pc := 85) hx hb dX10_chairs_85 ?_
                        refine r_top (nI_1shl (by omega)) ?_
                        refine lv_goto (pc := 86) (tgt := 90) hx hb dX10_chairs_86 (by decide) ?_
                        refine lv_ior (pc := 90) hx hb dX10_chairs_90 ?_
                        refine r_top (nI_or _ _) ?_
                        refine lv_istore_n (pc := 91) (lv' := [(3, .int (nI (a ||| (2 ^ j)))), (4, .int (nI j)), (2, .int (nI (r * P.2.2.2.1))), (1, .int (nI h)), (0, .ref o)]) hx hb dX10_chairs_91 rfl hl (by decide) rfl (fun ls hl => ?_)
                        refine lv_iinc (pc := 92) (v := nI (j + 1)) (lv' := [(4, .int (nI (j + 1))), (3, .int (nI (a ||| (2 ^ j)))), (2, .int (nI (r * P.2.2.2.1))), (1, .int (nI h)), (0, .ref o)]) hx hb dX10_chairs_92 hl (k := 1) rfl (by rw [← nI_add]; rfl) (by decide) rfl (fun ls hl => ?_)
                        refine lv_goto (pc := 95) (tgt := 59) hx hb dX10_chairs_95 (by decide) ?_
                        exact ih59 (j + 1) (a ||| (2 ^ j)) _ _ _ (by omega) (frN_y hfr (by omega)) (by omega) hP hS (lv_sub hl [0, 1, 2, 3, 4] rfl)
                exact cut59 _ 0 0 _ _ _ (Nat.zero_le _) rfl (Nat.lt_succ_self _) hP hS (lv_sub hl [0, 1, 2, 3, 4] rfl)
          exact cut46 _ 0 M th _ _ _ (Nat.zero_le _) (fun j hj => hM0 j (by omega)) (Nat.lt_succ_self _) hP hS (lv_sub hl [0, 1, 2] rfl)
        · refine lv_aload_n (pc := 22) hx hb dX10_chairs_22 rfl (lv_at hl 2 rfl) ?_
          refine va_get (pc := 23) (D := D) (ci := 10) (v := .ref (ad 42)) (C := RX10) (T := TX10) (N := 44) hx hb hts hiX10 hown hK hP 0 rfl rfl 42 (by decide) wf89 (fun _ h9 => h9) rfl dX10_chairs_23 ?_
          refine lv_iload_n (pc := 26) hx hb dX10_chairs_26 rfl (lv_at hl 0 rfl) ?_
          refine lv_iload_n (pc := 27) hx hb dX10_chairs_27 rfl (lv_at hl 0 rfl) ?_
          refine r0_ne (pc := 28) (tgt := 35) hx hb (tI_nI (by omega)) dX10_chairs_28 (by decide) (fun c28 => ?_) (fun c28 => ?_)
          · refine lv_bipush (pc := 35) (v := jI (-99)) hx hb dX10_chairs_35 (by decide) ?_
            refine rz_iast (pc := 37) (f := M) (k := i) (x := -99) (ws2 := [rmE o ad (pCells P) P.2.2.2.1 P.2.2.2.2.2.1 P.2.2.2.2.2.2 I, nE 384 (ad 25) cI sl, zE 64 (ad 42) cI (va_up M i (-99)), zE 64 (ad 43) cI th]) hx hb hK hP hV hS 2 0 rfl rfl (by omega) (by decide) dX10_chairs_37 rfl rfl rfl (fun H locs hP hS => ?_)
            refine lv_iinc (pc := 38) (v := nI (i + 1)) (lv' := [(2, .int (nI (i + 1))), (1, .int (nI h)), (0, .ref o)]) hx hb dX10_chairs_38 hl (k := 0) rfl (by rw [← nI_add]; rfl) (by decide) rfl (fun ls hl => ?_)
            refine lv_goto (pc := 41) (tgt := 16) hx hb dX10_chairs_41 (by decide) ?_
            exact ih16 (i + 1) (va_up M i (-99)) _ _ _ (by omega) (va_up_all (Pr := fun j y => y = if j = 0 then (0 : Int) else -99) hM0 (by rw [if_neg (by omega)])) (by omega) hP hS (lv_sub hl [0, 1, 2] rfl)
          · refine lv_iconst (pc := 31) (v := nI 0) hx hb dX10_chairs_31 (by decide) ?_
            refine lv_goto (pc := 32) (tgt := 37) hx hb dX10_chairs_32 (by decide) ?_
            refine rz_iast (pc := 37) (f := M) (k := i) (x := 0) (ws2 := [rmE o ad (pCells P) P.2.2.2.1 P.2.2.2.2.2.1 P.2.2.2.2.2.2 I, nE 384 (ad 25) cI sl, zE 64 (ad 42) cI (va_up M i 0), zE 64 (ad 43) cI th]) hx hb hK hP hV hS 2 0 rfl rfl (by omega) (by decide) dX10_chairs_37 (show nI 0 = jI 0 from jI_nat 0) rfl rfl (fun H locs hP hS => ?_)
            refine lv_iinc (pc := 38) (v := nI (i + 1)) (lv' := [(2, .int (nI (i + 1))), (1, .int (nI h)), (0, .ref o)]) hx hb dX10_chairs_38 hl (k := 0) rfl (by rw [← nI_add]; rfl) (by decide) rfl (fun ls hl => ?_)
            refine lv_goto (pc := 41) (tgt := 16) hx hb dX10_chairs_41 (by decide) ?_
            exact ih16 (i + 1) (va_up M i 0) _ _ _ (by omega) (va_up_all (Pr := fun j y => y = if j = 0 then (0 : Int) else -99) hM0 (by rw [if_pos (by omega)])) (by omega) hP hS (lv_sub hl [0, 1, 2] rfl)
    exact cut16 _ 0 mo _ _ _ (by omega) (fun j hj => absurd hj (Nat.not_lt_zero j)) (Nat.lt_succ_self _) hP hS (lv_sub hl [0, 2, 1] rfl)
  · refine lv_iconst (pc := 12) (v := jI (-1)) hx hb dX10_chairs_12 (by decide) ?_
    exact hret 13 _ hP hS dX10_chairs_13 rfl rfl ⟨(by rw [if_neg (by omega)]), mo, th, rfl⟩
