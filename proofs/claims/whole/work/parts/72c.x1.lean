set_option maxHeartbeats 4000000 in
set_option maxRecDepth 100000 in
theorem k_X1_pop2 (l : Launch) (D : va_G) (cI cC cB cS : ClassId) (y0 y1 : Nat) (yb : Nat → Nat) (Y : PI) (s0 s1 s2 s3 : Nat) (S : ST) (hpi : ∀ j, j < 2 → Y.1 j < 2) (hsz : Y.2.1 ≤ 2) (hs1 : 0 < Y.2.1) : CV l D (kT cI cC cB cS) yX1_popInto wsX1_popInto rmX1_popInto [.ref y0, .ref s0] ([pE y0 y1 Y, hE 2 y1 cS (pf yb Y.1), sE (yb 0) (yb 1) (yb 2) (yb 3) (Y.2.2 0), nE 24 (yb 1) cI (Y.2.2 0).1, nE 3 (yb 2) cI (Y.2.2 0).2.1, nE 3 (yb 3) cI (Y.2.2 0).2.2.1, sE (yb 4) (yb 5) (yb 6) (yb 7) (Y.2.2 1), nE 24 (yb 5) cI (Y.2.2 1).1, nE 3 (yb 6) cI (Y.2.2 1).2.1, nE 3 (yb 7) cI (Y.2.2 1).2.2.1, sE s0 s1 s2 s3 S, nE 24 s1 cI S.1, nE 3 s2 cI S.2.1, nE 3 s3 cI S.2.2.1]) (fun u => u = [pE y0 y1 (Y.1, Y.2.1 - 1, Y.2.2), hE 2 y1 cS (pf yb ((Y.1, Y.2.1 - 1, Y.2.2).1)), sE (yb 0) (yb 1) (yb 2) (yb 3) (((Y.1, Y.2.1 - 1, Y.2.2).2.2) 0), nE 24 (yb 1) cI (((Y.1, Y.2.1 - 1, Y.2.2).2.2) 0).1, nE 3 (yb 2) cI (((Y.1, Y.2.1 - 1, Y.2.2).2.2) 0).2.1, nE 3 (yb 3) cI (((Y.1, Y.2.1 - 1, Y.2.2).2.2) 0).2.2.1, sE (yb 4) (yb 5) (yb 6) (yb 7) (((Y.1, Y.2.1 - 1, Y.2.2).2.2) 1), nE 24 (yb 5) cI (((Y.1, Y.2.1 - 1, Y.2.2).2.2) 1).1, nE 3 (yb 6) cI (((Y.1, Y.2.1 - 1, Y.2.2).2.2) 1).2.1, nE 3 (yb 7) cI (((Y.1, Y.2.1 - 1, Y.2.2).2.2) 1).2.2.1, sE s0 s1 s2 s3 (Y.2.2 (Y.1 (Y.2.1 - 1))), nE 24 s1 cI ((Y.2.2 (Y.1 (Y.2.1 - 1))).1), nE 3 s2 cI ((Y.2.2 (Y.1 (Y.2.1 - 1))).2.1), nE 3 s3 cI ((Y.2.2 (Y.1 (Y.2.1 - 1))).2.2.1)]) := by
  refine cv_intro (by decide) rfl (Nat.le_of_ble_eq_true rfl) ?_
  intro p e s m args below meth c ls A QF hF hK hP hV hS hA hN hl hret
  obtain ⟨hx, hb, hml, hown, hts⟩ := id hF
  have hP : va_P D vwCl ([pE y0 y1 Y, hE 2 y1 cS (pf yb Y.1), sE (yb 0) (yb 1) (yb 2) (yb 3) (Y.2.2 0), nE 24 (yb 1) cI (Y.2.2 0).1, nE 3 (yb 2) cI (Y.2.2 0).2.1, nE 3 (yb 3) cI (Y.2.2 0).2.2.1, sE (yb 4) (yb 5) (yb 6) (yb 7) (Y.2.2 1), nE 24 (yb 5) cI (Y.2.2 1).1, nE 3 (yb 6) cI (Y.2.2 1).2.1, nE 3 (yb 7) cI (Y.2.2 1).2.2.1, sE s0 s1 s2 s3 S, nE 24 s1 cI S.1, nE 3 s2 cI S.2.1, nE 3 s3 cI S.2.2.1]) s.heap := hP
  have hl : lv_has ls 3 [(0, .ref y0), (1, .ref s0)] := hl
  have wf7 := hts (.fieldLink RX1 7 "RemorseWall$Pile" "size" "I") (by decide +kernel)
  have hiX1 : ∀ w ∈ u_ws RX1 TX1 2, w ∈ wsX1_popInto := by decide +kernel
  refine lv_aload_n (pc := 0) hx hb dX1_popInto_0 rfl (lv_at hl 0 rfl) ?_
  refine lv_aload_n (pc := 1) hx hb dX1_popInto_1 rfl (lv_at hl 0 rfl) ?_
  refine va_get (pc := 2) (D := D) (ci := 1) (v := .int (nI Y.2.1)) (C := RX1) (T := TX1) (N := 2) hx hb hts hiX1 hown hK hP 0 rfl rfl 1 (by decide) wf7 (fun _ h9 => h9) rfl dX1_popInto_2 ?_
  refine lv_iconst (pc := 5) (v := nI 1) hx hb dX1_popInto_5 (by decide) ?_
  refine rn_isub (pc := 6) hx hb (by omega) dX1_popInto_6 ?_
  refine cr_V hF hN hK hP hV hS hA (k_X1_at2 l D cI cC cB cS y0 y1 yb Y (Y.2.1 - 1) (by omega)) (cwV 1 hts gX1_popInto_X1_at rfl rfl rfl (by decide +kernel) ⟨Nat.le_of_ble_eq_true rfl, Nat.le_of_ble_eq_true rfl⟩) [0, 1, 2, 3, 4, 5, 6, 7, 8, 9] rfl (by decide) 0 1 rfl rfl rfl hl.1 rfl (Nat.le_of_ble_eq_true rfl) dX1_popInto_7 ⟨Nat.le_refl _, Nat.le_refl _⟩ rfl (ws2 := [pE y0 y1 Y, hE 2 y1 cS (pf yb Y.1), sE (yb 0) (yb 1) (yb 2) (yb 3) (Y.2.2 0), nE 24 (yb 1) cI (Y.2.2 0).1, nE 3 (yb 2) cI (Y.2.2 0).2.1, nE 3 (yb 3) cI (Y.2.2 0).2.2.1, sE (yb 4) (yb 5) (yb 6) (yb 7) (Y.2.2 1), nE 24 (yb 5) cI (Y.2.2 1).1, nE 3 (yb 6) cI (Y.2.2 1).2.1, nE 3 (yb 7) cI (Y.2.2 1).2.2.1, sE s0 s1 s2 s3 S, nE 24 s1 cI S.1, nE 3 s2 cI S.2.1, nE 3 s3 cI S.2.2.1]) rfl (fun H locs hP hS => ?_)
  have hr9 := hpi (Y.2.1 - 1) (by omega)
  obtain ⟨r, hr⟩ : ∃ r, r = Y.1 (Y.2.1 - 1) := ⟨_, rfl⟩
  rw [← hr] at hr9
  rw [← hr]
  have hr8 : r = 0 ∨ r = 1 := by omega
  refine lv_astore_n (pc := 10) (lv' := [(2, .ref (yb (4 * r))), (0, .ref y0), (1, .ref s0)]) hx hb dX1_popInto_10 rfl hl (by decide) rfl (fun ls hl => ?_)
  refine lv_aload_n (pc := 11) hx hb dX1_popInto_11 rfl (lv_at hl 0 rfl) ?_
  refine lv_ifnull (pc := 12) hx hb dX1_popInto_12 ?_
  refine lv_aload_n (pc := 15) hx hb dX1_popInto_15 rfl (lv_at hl 2 rfl) ?_
  refine lv_aload_n (pc := 16) hx hb dX1_popInto_16 rfl (lv_at hl 0 rfl) ?_
  refine cv_Vd (pc := 17) (As := [.ref (yb (4 * r))]) (b := s0) hF hN hK hP hV hS hA (k_X8_copyFrom l D cI cC cB cS s0 s1 s2 s3 S (yb (4 * r)) (yb (4 * r + 1)) (yb (4 * r + 2)) (yb (4 * r + 3)) (Y.2.2 r)) (cwV 1 hts gX1_popInto_X8_copyFrom rfl rfl rfl (by decide +kernel) ⟨Nat.le_of_ble_eq_true rfl, Nat.le_of_ble_eq_true rfl⟩) [10, 11, 12, 13, 2 + 4 * r, 3 + 4 * r, 4 + 4 * r, 5 + 4 * r] (by rcases hr8 with rfl | rfl <;> rfl) (by rcases hr8 with rfl | rfl <;> decide) 0 8 rfl rfl rfl hl.1 rfl (Nat.le_of_ble_eq_true rfl) dX1_popInto_17 ⟨Nat.le_refl _, Nat.le_refl _⟩ rfl (ws2 := [pE y0 y1 Y, hE 2 y1 cS (pf yb Y.1), sE (yb 0) (yb 1) (yb 2) (yb 3) (Y.2.2 0), nE 24 (yb 1) cI (Y.2.2 0).1, nE 3 (yb 2) cI (Y.2.2 0).2.1, nE 3 (yb 3) cI (Y.2.2 0).2.2.1, sE (yb 4) (yb 5) (yb 6) (yb 7) (Y.2.2 1), nE 24 (yb 5) cI (Y.2.2 1).1, nE 3 (yb 6) cI (Y.2.2 1).2.1, nE 3 (yb 7) cI (Y.2.2 1).2.2.1, sE s0 s1 s2 s3 (Y.2.2 r), nE 24 s1 cI ((Y.2.2 r).1), nE 3 s2 cI ((Y.2.2 r).2.1), nE 3 s3 cI ((Y.2.2 r).2.2.1)]) (by rcases hr8 with rfl | rfl <;> rfl) (fun H locs hP hS => ?_)
  refine lv_aload_n (pc := 20) hx hb dX1_popInto_20 rfl (lv_at hl 1 rfl) ?_
  refine lv_dup (pc := 21) hx hb dX1_popInto_21 rfl ?_
  refine va_get (pc := 22) (D := D) (ci := 1) (v := .int (nI Y.2.1)) (C := RX1) (T := TX1) (N := 2) hx hb hts hiX1 hown hK hP 0 rfl rfl 1 (by decide) wf7 (fun _ h9 => h9) rfl dX1_popInto_22 ?_
  refine lv_iconst (pc := 25) (v := nI 1) hx hb dX1_popInto_25 (by decide) ?_
  refine rn_isub (pc := 26) hx hb (by omega) dX1_popInto_26 ?_
  refine ra_put (pc := 27) (D := D) (ci := 1) (v := .int (nI (Y.2.1 - 1))) (ty := .int) (C := RX1) (T := TX1) (N := 2) (ws2 := [pE y0 y1 (Y.1, Y.2.1 - 1, Y.2.2), hE 2 y1 cS (pf yb Y.1), sE (yb 0) (yb 1) (yb 2) (yb 3) (Y.2.2 0), nE 24 (yb 1) cI (Y.2.2 0).1, nE 3 (yb 2) cI (Y.2.2 0).2.1, nE 3 (yb 3) cI (Y.2.2 0).2.2.1, sE (yb 4) (yb 5) (yb 6) (yb 7) (Y.2.2 1), nE 24 (yb 5) cI (Y.2.2 1).1, nE 3 (yb 6) cI (Y.2.2 1).2.1, nE 3 (yb 7) cI (Y.2.2 1).2.2.1, sE s0 s1 s2 s3 (Y.2.2 r), nE 24 s1 cI ((Y.2.2 r).1), nE 3 s2 cI ((Y.2.2 r).2.1), nE 3 s3 cI ((Y.2.2 r).2.2.1)]) hx hb hts hiX1 tyX1 tyX1_ok nmX1 hown hK hP hV hS 0 rfl rfl 1 (by decide) wf7 (fun _ h9 => h9) rfl (by decide +kernel) rfl rfl (Nat.le_of_ble_eq_true rfl) dX1_popInto_27 rfl rfl (fun H locs hP hS => ?_)
  exact hret 30 _ hP hS dX1_popInto_30 rfl (by rw [hr])
