abbrev rmX7_tellRow : Room := { frames := 4, cells := 0, slots := 0, locals := 98 }
set_option maxHeartbeats 4000000 in
set_option maxRecDepth 100000 in
theorem k_X7_tellRow (l : Launch) (D : va_G) (cI cC cB cS : ClassId) (m0 m1 m2 : Nat) (M : SM) (p0 p1 p2 p3 : Nat) (P : PL) (mm : Nat) (x : Nat) (k0 : Nat) (h0 : Nat) (n0 : Nat) (hp : pOK P) (hmm : mm < 3) (hxc : x < pCells P) (hkc : k0 < pCells P) (hh40 : h0 ≤ 40) (hn9 : n0 < 50) (ht : ∀ i, -4 ≤ M.1 i ∧ M.1 i ≤ 100) (hT : tblOK P mm x h0 M.1 n0) : CV l D (kT cI cC cB cS) yX7_tellRow wsX7_tellRow rmX7_tellRow [.ref m0, .ref p0, .int (nI mm), .int (nI x), .int (nI k0), .int (nI h0)] (smW m0 m1 m2 cI M ++ plW p0 p1 p2 p3 cI P) (fun u => ∃ g : Nat → Nat, u = smW m0 m1 m2 cI (M.1, g) ++ plW p0 p1 p2 p3 cI P ∧ ∀ s : Nat, fwZ P mm x n0 k0 h0 = (s : Int) → ∀ j, j < s → j < 9 → g j = (walkS (fwZ P mm x n0) P mm x s k0 h0 (j + 1)).1) := by
  refine cv_intro (by decide) rfl (Nat.le_of_ble_eq_true rfl) ?_
  intro p e s m args below meth c ls A QF hF hK hP hV hS hA hN hl hret
  obtain ⟨hx, hb, hml, hown, hts⟩ := id hF
  have hP : va_P D vwCl (smW m0 m1 m2 cI M ++ plW p0 p1 p2 p3 cI P) s.heap := hP
  have hl : lv_has ls 10 [(0, .ref m0), (1, .ref p0), (2, .int (nI mm)), (3, .int (nI x)), (4, .int (nI k0)), (5, .int (nI h0))] := hl
  have wf15 := hts (.fieldLink RX7 15 "RemorseWall$Smoothing" "row" "[I") (by decide +kernel)
  have hiX7 : ∀ w ∈ u_ws RX7 TX7 2, w ∈ wsX7_tellRow := by decide +kernel
  have hcl := pCells_le hp
  refine lv_iload (pc := 0) hx hb dX7_tellRow_0 (lv_at hl 4 rfl) ?_
  refine lv_istore (pc := 2) (lv' := [(6, .int (nI k0)), (0, .ref m0), (1, .ref p0), (2, .int (nI mm)), (3, .int (nI x)), (4, .int (nI k0)), (5, .int (nI h0))]) hx hb dX7_tellRow_2 hl (by decide) rfl (fun ls hl => ?_)
  refine lv_iload (pc := 4) hx hb dX7_tellRow_4 (lv_at hl 6 rfl) ?_
  refine lv_istore (pc := 6) (lv' := [(7, .int (nI h0)), (6, .int (nI k0)), (0, .ref m0), (1, .ref p0), (2, .int (nI mm)), (3, .int (nI x)), (4, .int (nI k0)), (5, .int (nI h0))]) hx hb dX7_tellRow_6 hl (by decide) rfl (fun ls hl => ?_)
  refine lv_aload_n (pc := 8) hx hb dX7_tellRow_8 rfl (lv_at hl 2 rfl) ?_
  refine lv_iload (pc := 9) hx hb dX7_tellRow_9 (lv_at hl 6 rfl) ?_
  refine lv_iload (pc := 11) hx hb dX7_tellRow_11 (lv_at hl 7 rfl) ?_
  refine ci_Vd (pc := 13) (r0 := jI (M.1 (k0 * 41 + h0))) hF hN hK hP hV hS hA (k_X7_fewestFrom l D cI cC cB cS m0 m1 m2 M k0 h0 (by omega) hh40) (cwV 2 hts gX7_tellRow_X7_fewestFrom rfl rfl rfl (by decide +kernel) ⟨Nat.le_of_ble_eq_true rfl, Nat.le_of_ble_eq_true rfl⟩) [0, 1, 2] rfl (by decide) 0 7 rfl rfl rfl hl.1 rfl (Nat.le_of_ble_eq_true rfl) dX7_tellRow_13 ⟨Nat.le_refl _, Nat.le_refl _⟩ rfl (ws2 := smW m0 m1 m2 cI M ++ plW p0 p1 p2 p3 cI P) rfl (fun H locs hP hS => ?_)
  refine lv_istore (pc := 16) (lv' := [(8, .int (jI (M.1 (k0 * 41 + h0)))), (7, .int (nI h0)), (6, .int (nI k0)), (0, .ref m0), (1, .ref p0), (2, .int (nI mm)), (3, .int (nI x)), (4, .int (nI k0)), (5, .int (nI h0))]) hx hb dX7_tellRow_16 hl (by decide) rfl (fun ls hl => ?_)
  have hrg := fw_rng P mm x n0 k0 h0
  have he9 : M.1 (k0 * 41 + h0) = fwZ P mm x n0 k0 h0 := hT k0 h0 hkc (Nat.le_refl _)
  rw [he9] at hl
  rcases hrg with hz9 | hz9
  · rw [hz9] at hl
    refine lv_iconst (pc := 18) (v := nI 0) hx hb dX7_tellRow_18 (by decide) ?_
    refine lv_istore (pc := 19) (lv' := [(9, .int (nI 0)), (8, .int (jI (-4))), (7, .int (nI h0)), (6, .int (nI k0)), (0, .ref m0), (1, .ref p0), (2, .int (nI mm)), (3, .int (nI x)), (4, .int (nI k0)), (5, .int (nI h0))]) hx hb dX7_tellRow_19 hl (by decide) rfl (fun ls hl => ?_)
    refine lv_iload (pc := 21) hx hb dX7_tellRow_21 (lv_at hl 0 rfl) ?_
    refine lv_iload (pc := 23) hx hb dX7_tellRow_23 (lv_at hl 1 rfl) ?_
    refine rc_ge (pc := 25) (tgt := 93) hx hb (tI_nI (by omega)) (jI_to (by omega)) dX7_tellRow_25 (by decide) (fun c25 => ?_) (fun c25 => (by omega))
    exact hret 93 _ hP hS dX7_tellRow_93 rfl ⟨M.2, rfl, fun s hs => (by omega)⟩
  · obtain ⟨sn, hs9⟩ : ∃ s : Nat, fwZ P mm x n0 k0 h0 = (s : Int) := ⟨(fwZ P mm x n0 k0 h0).toNat, by omega⟩
    rw [hs9, ← jI_nat] at hl
    refine lv_iconst (pc := 18) (v := nI 0) hx hb dX7_tellRow_18 (by decide) ?_
    refine lv_istore (pc := 19) (lv' := [(9, .int (nI 0)), (8, .int (nI sn)), (7, .int (nI h0)), (6, .int (nI k0)), (0, .ref m0), (1, .ref p0), (2, .int (nI mm)), (3, .int (nI x)), (4, .int (nI k0)), (5, .int (nI h0))]) hx hb dX7_tellRow_19 hl (by decide) rfl (fun ls hl => ?_)
    have cut21 : ∀ (fuel : Nat) (i : Nat) (pl : Nat) (h : Nat) (g : Nat → Nat) (H : Heap) (locs : List Loc) (ls : Array Slot) (his : i ≤ sn) (hq : walkS (fwZ P mm x n0) P mm x sn k0 h0 i = (pl, h)) (hg : ∀ j, j < i → g j = (walkS (fwZ P mm x n0) P mm x sn k0 h0 (j + 1)).1) (hfu : sn - i < fuel), va_P D vwCl (smW m0 m1 m2 cI (M.1, g) ++ plW p0 p1 p2 p3 cI P) H → va_S A s.heap H locs → lv_has ls 10 [(9, .int (nI i)), (8, .int (nI sn)), (7, .int (nI h)), (6, .int (nI pl)), (3, .int (nI x)), (2, .int (nI mm)), (1, .ref p0), (0, .ref m0)] → W p l e rmX7_tellRow s m args below meth c H locs 0 0 QF (F0 m 21 ls []) := by
      intro fuel
      induction fuel with
      | zero => intro i pl h g H locs ls his hq hg hfu; omega
      | succ fuel ih21 =>
        intro i pl h g H locs ls his hq hg hfu hP hS hl
        have hin := walkS_in hkc hs9 i his
        rw [hq] at hin
        obtain ⟨hpc, hhl, hfw⟩ := hin
        dsimp only at hpc hhl hfw
        refine lv_iload (pc := 21) hx hb dX7_tellRow_21 (lv_at hl 0 rfl) ?_
        refine lv_iload (pc := 23) hx hb dX7_tellRow_23 (lv_at hl 1 rfl) ?_
        refine rc_ge (pc := 25) (tgt := 93) hx hb (tI_nI (by omega)) (tI_nI (by omega)) dX7_tellRow_25 (by decide) (fun c25 => ?_) (fun c25 => ?_)
        · exact hret 93 _ hP hS dX7_tellRow_93 rfl ⟨g, rfl, fun s2 hs2 j hj h9 => (show s2 = sn from (by omega)) ▸ hg j (by omega)⟩
        · refine lv_iload (pc := 28) hx hb dX7_tellRow_28 (lv_at hl 0 rfl) ?_
          refine lv_aload_n (pc := 30) hx hb dX7_tellRow_30 rfl (lv_at hl 7 rfl) ?_
          refine va_get (pc := 31) (D := D) (ci := 7) (v := .ref m2) (C := RX7) (T := TX7) (N := 2) hx hb hts hiX7 hown hK hP 0 rfl rfl 1 (by decide) wf15 (fun _ h9 => h9) rfl dX7_tellRow_31 ?_
          refine va_alen (pc := 34) (v := nI 9) hx hb hK hP 2 0 rfl rfl rfl dX7_tellRow_34 ?_
          refine rc_ge (pc := 35) (tgt := 93) hx hb (tI_nI (by omega)) (tI_nI (by omega)) dX7_tellRow_35 (by decide) (fun c35 => ?_) (fun c35 => ?_)
          · exact hret 93 _ hP hS dX7_tellRow_93 rfl ⟨g, rfl, fun s2 hs2 j hj h9 => (show s2 = sn from (by omega)) ▸ hg j (by omega)⟩
          · refine lv_aload_n (pc := 38) hx hb dX7_tellRow_38 rfl (lv_at hl 7 rfl) ?_
            refine va_get (pc := 39) (D := D) (ci := 7) (v := .ref m2) (C := RX7) (T := TX7) (N := 2) hx hb hts hiX7 hown hK hP 0 rfl rfl 1 (by decide) wf15 (fun _ h9 => h9) rfl dX7_tellRow_39 ?_
            refine lv_iload (pc := 42) hx hb dX7_tellRow_42 (lv_at hl 0 rfl) ?_
            refine lv_aload_n (pc := 44) hx hb dX7_tellRow_44 rfl (lv_at hl 7 rfl) ?_
            refine lv_aload_n (pc := 45) hx hb dX7_tellRow_45 rfl (lv_at hl 6 rfl) ?_
            refine lv_iload_n (pc := 46) hx hb dX7_tellRow_46 rfl (lv_at hl 5 rfl) ?_
            refine lv_iload_n (pc := 47) hx hb dX7_tellRow_47 rfl (lv_at hl 4 rfl) ?_
            refine lv_iload (pc := 48) hx hb dX7_tellRow_48 (lv_at hl 3 rfl) ?_
            refine lv_iload (pc := 50) hx hb dX7_tellRow_50 (lv_at hl 2 rfl) ?_
            refine lv_iload (pc := 52) hx hb dX7_tellRow_52 (lv_at hl 1 rfl) ?_
            refine lv_iload (pc := 54) hx hb dX7_tellRow_54 (lv_at hl 0 rfl) ?_
            refine rn_isub (pc := 56) hx hb (by omega) dX7_tellRow_56 ?_
            refine ci_Vd (pc := 57) (r0 := jI (fsI (fun a b => M.1 (a * 41 + b)) P mm x pl h (((sn - i) - 1 : Nat) : Int) 5)) hF hN hK hP hV hS hA (k_X7_firstStroke l D cI cC cB cS m0 m1 m2 (M.1, g) p0 p1 p2 p3 P mm x pl h (sn - i) hp hmm hxc (by omega) (by omega) (by omega) ht) (cwV 6 hts gX7_tellRow_X7_firstStroke rfl rfl rfl (by decide +kernel) ⟨Nat.le_of_ble_eq_true rfl, Nat.le_of_ble_eq_true rfl⟩) [0, 1, 2, 3, 4, 5, 6] rfl (by decide) 0 7 rfl rfl rfl hl.1 rfl (Nat.le_of_ble_eq_true rfl) dX7_tellRow_57 ⟨Nat.le_refl _, Nat.le_refl _⟩ rfl (ws2 := smW m0 m1 m2 cI (M.1, g) ++ plW p0 p1 p2 p3 cI P) rfl (fun H locs hP hS => ?_)
            have fq2 := fsI_rng (fun a b => M.1 (a * 41 + b)) P mm x pl h (((sn - i) - 1 : Nat) : Int) (by omega) 5
            obtain ⟨y, hy1, hy2, hy3⟩ := fw_next (n := sn - i - 1) hpc (by rw [hfw]; omega)
            have hfe : fsI (fun a b => M.1 (a * 41 + b)) P mm x pl h ((sn - i - 1 : Nat) : Int) 5 = (y : Int) := by
              rw [← hy1]
              exact fs_congr hpc (fun y l a b => by rw [hT y l a (by omega)]) 5
            refine r_top (show _ = nI y from (by rw [hfe, jI_nat])) ?_
            have hq2 : walkS (fwZ P mm x n0) P mm x sn k0 h0 (i + 1) = (y, lowS P mm x h y) := by
              rw [walkS, hq]
              show ((fsI _ P mm x pl h _ 5).toNat, lowS P mm x h (fsI _ P mm x pl h _ 5).toNat) = _
              rw [hy1]
              rfl
            refine rn_iast (pc := 60) (f := g) (k := i) (x := y) (ws2 := smW m0 m1 m2 cI (M.1, va_up g i y) ++ plW p0 p1 p2 p3 cI P) hx hb hK hP hV hS 2 0 rfl rfl (by omega) (by decide) dX7_tellRow_60 rfl rfl (fun H locs hP hS => ?_)
            refine lv_aload_n (pc := 61) hx hb dX7_tellRow_61 rfl (lv_at hl 6 rfl) ?_
            refine lv_iload_n (pc := 62) hx hb dX7_tellRow_62 rfl (lv_at hl 5 rfl) ?_
            refine lv_iload_n (pc := 63) hx hb dX7_tellRow_63 rfl (lv_at hl 4 rfl) ?_
            refine lv_iload (pc := 64) hx hb dX7_tellRow_64 (lv_at hl 2 rfl) ?_
            refine lv_aload_n (pc := 66) hx hb dX7_tellRow_66 rfl (lv_at hl 7 rfl) ?_
            refine va_get (pc := 67) (D := D) (ci := 7) (v := .ref m2) (C := RX7) (T := TX7) (N := 2) hx hb hts hiX7 hown hK hP 0 rfl rfl 1 (by decide) wf15 (fun _ h9 => h9) rfl dX7_tellRow_67 ?_
            refine lv_iload (pc := 70) hx hb dX7_tellRow_70 (lv_at hl 0 rfl) ?_
            refine ra_iald (pc := 72) (k := i) (v := nI ((va_up g i y) i)) hx hb hK hP 2 0 rfl rfl (by omega) (by decide) rfl dX7_tellRow_72 ?_
            refine r_top (show _ = nI y from (by congr 1; unfold va_up; rw [if_pos rfl])) ?_
            refine ci_Sd (pc := 73) hF hN hK hP hV hS hA (k_X7_lowered l D cI cC cB cS p0 p1 p2 p3 P mm x h y hp hmm hxc (by omega) (by omega)) (va_cwS 5 hts gX7_tellRow_X7_lowered rfl rfl rfl (by decide +kernel) ⟨Nat.le_of_ble_eq_true rfl, Nat.le_of_ble_eq_true rfl⟩) [3, 4, 5, 6] rfl (by decide) rfl hl.1 rfl (Nat.le_of_ble_eq_true rfl) dX7_tellRow_73 ⟨Nat.le_refl _, Nat.le_refl _⟩ rfl (ws2 := smW m0 m1 m2 cI (M.1, va_up g i y) ++ plW p0 p1 p2 p3 cI P) rfl (fun H locs hP hS => ?_)
            have fq3 := lowS_le P mm x h y
            refine lv_istore (pc := 76) (lv' := [(7, .int (nI (lowS P mm x h y))), (9, .int (nI i)), (8, .int (nI sn)), (6, .int (nI pl)), (3, .int (nI x)), (2, .int (nI mm)), (1, .ref p0), (0, .ref m0)]) hx hb dX7_tellRow_76 hl (by decide) rfl (fun ls hl => ?_)
            refine lv_aload_n (pc := 78) hx hb dX7_tellRow_78 rfl (lv_at hl 7 rfl) ?_
            refine va_get (pc := 79) (D := D) (ci := 7) (v := .ref m2) (C := RX7) (T := TX7) (N := 2) hx hb hts hiX7 hown hK hP 0 rfl rfl 1 (by decide) wf15 (fun _ h9 => h9) rfl dX7_tellRow_79 ?_
            refine lv_iload (pc := 82) hx hb dX7_tellRow_82 (lv_at hl 1 rfl) ?_
            refine ra_iald (pc := 84) (k := i) (v := nI ((va_up g i y) i)) hx hb hK hP 2 0 rfl rfl (by omega) (by decide) rfl dX7_tellRow_84 ?_
            refine r_top (show _ = nI y from (by congr 1; unfold va_up; rw [if_pos rfl])) ?_
            refine lv_istore (pc := 85) (lv' := [(6, .int (nI y)), (7, .int (nI (lowS P mm x h y))), (9, .int (nI i)), (8, .int (nI sn)), (3, .int (nI x)), (2, .int (nI mm)), (1, .ref p0), (0, .ref m0)]) hx hb dX7_tellRow_85 hl (by decide) rfl (fun ls hl => ?_)
            refine lv_iinc (pc := 87) (v := nI (i + 1)) (lv' := [(9, .int (nI (i + 1))), (6, .int (nI y)), (7, .int (nI (lowS P mm x h y))), (8, .int (nI sn)), (3, .int (nI x)), (2, .int (nI mm)), (1, .ref p0), (0, .ref m0)]) hx hb dX7_tellRow_87 hl (k := 2) rfl (by rw [← nI_add]; rfl) (by decide) rfl (fun ls hl => ?_)
            refine lv_goto (pc := 90) (tgt := 21) hx hb dX7_tellRow_90 (by decide) ?_
            exact ih21 (i + 1) y (lowS P mm x h y) (va_up g i y) _ _ _ (by omega) hq2 (va_up_all (Pr := fun j z => z = (walkS (fwZ P mm x n0) P mm x sn k0 h0 (j + 1)).1) hg (by rw [hq2])) (by omega) hP hS (lv_sub hl [0, 3, 2, 1, 4, 5, 6, 7] rfl)
    exact cut21 _ 0 k0 h0 M.2 _ _ _ (Nat.zero_le _) rfl (fun j hj => absurd hj (Nat.not_lt_zero j)) (Nat.lt_succ_self _) hP hS (lv_sub hl [0, 1, 2, 3, 7, 6, 5, 4] rfl)
