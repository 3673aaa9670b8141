abbrev rmX7_findStrokes : Room := { frames := 4, cells := 0, slots := 0, locals := 98 }
set_option maxHeartbeats 4000000 in
set_option maxRecDepth 100000 in
theorem k_X7_findStrokes (l : Launch) (D : va_G) (cI cC cB cS : ClassId) (m0 m1 m2 : Nat) (M : SM) (p0 p1 p2 p3 : Nat) (P : PL) (mm : Nat) (x : Nat) (hh : Nat) (n0 : Nat) (hp : pOK P) (hmm : mm < 3) (hxc : x < pCells P) (hh40 : hh ≤ 40) (hn9 : n0 < 50) (ht : ∀ i, -4 ≤ M.1 i ∧ M.1 i ≤ 100) (hT : tblOK P mm x hh M.1 n0) : CV l D (kT cI cC cB cS) yX7_findStrokes wsX7_findStrokes rmX7_findStrokes [.ref m0, .ref p0, .int (nI mm), .int (nI x), .int (nI hh), .int (nI (n0 + 1))] (smW m0 m1 m2 cI M ++ plW p0 p1 p2 p3 cI P) (fun u => ∃ f : Nat → Int, u = smW m0 m1 m2 cI (f, M.2) ++ plW p0 p1 p2 p3 cI P ∧ (∀ i, -4 ≤ f i ∧ f i ≤ 100) ∧ tblOK P mm x hh f (n0 + 1)) := by
  refine cv_intro (by decide) rfl (Nat.le_of_ble_eq_true rfl) ?_
  intro p e s m args below meth c ls A QF hF hK hP hV hS hA hN hl hret
  obtain ⟨hx, hb, hml, hown, hts⟩ := id hF
  have hP : va_P D vwCl (smW m0 m1 m2 cI M ++ plW p0 p1 p2 p3 cI P) s.heap := hP
  have hl : lv_has ls 9 [(0, .ref m0), (1, .ref p0), (2, .int (nI mm)), (3, .int (nI x)), (4, .int (nI hh)), (5, .int (nI (n0 + 1)))] := hl
  have wf11 := hts (.fieldLink RX7 11 "RemorseWall$Smoothing" "fewest" "[I") (by decide +kernel)
  have hiX7 : ∀ w ∈ u_ws RX7 TX7 2, w ∈ wsX7_findStrokes := by decide +kernel
  have hcl := pCells_le hp
  refine lv_iconst (pc := 0) (v := nI 0) hx hb dX7_findStrokes_0 (by decide) ?_
  refine lv_istore (pc := 1) (lv' := [(6, .int (nI 0)), (0, .ref m0), (1, .ref p0), (2, .int (nI mm)), (3, .int (nI x)), (4, .int (nI hh)), (5, .int (nI (n0 + 1)))]) hx hb dX7_findStrokes_1 hl (by decide) rfl (fun ls hl => ?_)
  have cut3 : ∀ (fuel : Nat) (pl : Nat) (f : Nat → Int) (H : Heap) (locs : List Loc) (ls : Array Slot) (hpl : pl ≤ pCells P) (hfr : ∀ i, -4 ≤ f i ∧ f i ≤ 100) (hf : ∀ k h, k < pCells P → h ≤ hh → f (k * 41 + h) = fwZ P mm x (if k < pl then n0 + 1 else n0) k h) (hfu : pCells P - pl < fuel), va_P D vwCl (smW m0 m1 m2 cI (f, M.2) ++ plW p0 p1 p2 p3 cI P) H → va_S A s.heap H locs → lv_has ls 9 [(6, .int (nI pl)), (5, .int (nI (n0 + 1))), (4, .int (nI hh)), (3, .int (nI x)), (2, .int (nI mm)), (1, .ref p0), (0, .ref m0)] → W p l e rmX7_findStrokes s m args below meth c H locs 0 0 QF (F0 m 3 ls []) := by
    intro fuel
    induction fuel with
    | zero => intro pl f H locs ls hpl hfr hf hfu; omega
    | succ fuel ih3 =>
      intro pl f H locs ls hpl hfr hf hfu hP hS hl
      refine lv_iload (pc := 3) hx hb dX7_findStrokes_3 (lv_at hl 0 rfl) ?_
      refine lv_aload_n (pc := 5) hx hb dX7_findStrokes_5 rfl (lv_at hl 5 rfl) ?_
      refine ci_Vd (pc := 6) (r0 := nI (pCells P)) hF hN hK hP hV hS hA (k_X2_cellCount l D cI cC cB cS p0 p1 p2 p3 P) (cwV 0 hts gX7_findStrokes_X2_cellCount rfl rfl rfl (by decide +kernel) ⟨Nat.le_of_ble_eq_true rfl, Nat.le_of_ble_eq_true rfl⟩) [3, 4, 5, 6] rfl (by decide) 0 2 rfl rfl rfl hl.1 rfl (Nat.le_of_ble_eq_true rfl) dX7_findStrokes_6 ⟨Nat.le_refl _, Nat.le_refl _⟩ rfl (ws2 := smW m0 m1 m2 cI (f, M.2) ++ plW p0 p1 p2 p3 cI P) rfl (fun H locs hP hS => ?_)
      refine rc_ge (pc := 9) (tgt := 92) hx hb (tI_nI (by omega)) (tI_nI (by omega)) dX7_findStrokes_9 (by decide) (fun c9 => ?_) (fun c9 => ?_)
      · exact hret 92 _ hP hS dX7_findStrokes_92 rfl ⟨f, rfl, hfr, fun k h h1 h2 => by rw [hf k h h1 h2, if_pos (by omega)]⟩
      · have hplc : pl < pCells P := by omega
        refine lv_iconst (pc := 12) (v := nI 1) hx hb dX7_findStrokes_12 (by decide) ?_
        refine lv_istore (pc := 13) (lv' := [(7, .int (nI 1)), (6, .int (nI pl)), (5, .int (nI (n0 + 1))), (4, .int (nI hh)), (3, .int (nI x)), (2, .int (nI mm)), (1, .ref p0), (0, .ref m0)]) hx hb dX7_findStrokes_13 hl (by decide) rfl (fun ls hl => ?_)
        have cut15 : ∀ (fuel : Nat) (h1 : Nat) (g : Nat → Int) (H : Heap) (locs : List Loc) (ls : Array Slot) (hh1 : 1 ≤ h1 ∧ h1 ≤ hh + 1) (hgr : ∀ i, -4 ≤ g i ∧ g i ≤ 100) (hg : ∀ k h, k < pCells P → h ≤ hh → g (k * 41 + h) = fwZ P mm x (if k < pl ∨ (k = pl ∧ h < h1) then n0 + 1 else n0) k h) (hfu : hh + 1 - h1 < fuel), va_P D vwCl (smW m0 m1 m2 cI (g, M.2) ++ plW p0 p1 p2 p3 cI P) H → va_S A s.heap H locs → lv_has ls 9 [(7, .int (nI h1)), (6, .int (nI pl)), (5, .int (nI (n0 + 1))), (4, .int (nI hh)), (3, .int (nI x)), (2, .int (nI mm)), (1, .ref p0), (0, .ref m0)] → W p l e rmX7_findStrokes s m args below meth c H locs 0 0 QF (F0 m 15 ls []) := by
          intro fuel
          induction fuel with
          | zero => intro h1 g H locs ls hh1 hgr hg hfu; omega
          | succ fuel ih15 =>
            intro h1 g H locs ls hh1 hgr hg hfu hP hS hl
            refine lv_iload (pc := 15) hx hb dX7_findStrokes_15 (lv_at hl 0 rfl) ?_
            refine lv_iload (pc := 17) hx hb dX7_findStrokes_17 (lv_at hl 3 rfl) ?_
            refine rc_gt (pc := 19) (tgt := 86) hx hb (tI_nI (by omega)) (tI_nI (by omega)) dX7_findStrokes_19 (by decide) (fun c19 => ?_) (fun c19 => ?_)
            · refine lv_iinc (pc := 86) (v := nI (pl + 1)) (lv' := [(6, .int (nI (pl + 1))), (7, .int (nI h1)), (5, .int (nI (n0 + 1))), (4, .int (nI hh)), (3, .int (nI x)), (2, .int (nI mm)), (1, .ref p0), (0, .ref m0)]) hx hb dX7_findStrokes_86 hl (k := 1) rfl (by rw [← nI_add]; rfl) (by decide) rfl (fun ls hl => ?_)
              refine lv_goto (pc := 89) (tgt := 3) hx hb dX7_findStrokes_89 (by decide) ?_
              exact ih3 (pl + 1) g _ _ _ (by omega) hgr (tbl_row hg (by omega)) (by omega) hP hS (lv_sub hl [0, 2, 3, 4, 5, 6, 7] rfl)
            · have hh2 : 1 ≤ h1 ∧ h1 ≤ hh := by omega
              have hgi := hgr (pl * 41 + h1)
              have hcu := tbl_cur hg hplc hh2.2
              refine lv_iload (pc := 22) hx hb dX7_findStrokes_22 (lv_at hl 1 rfl) ?_
              refine lv_bipush (pc := 24) (v := nI 41) hx hb dX7_findStrokes_24 (by decide) ?_
              refine rn_imul (pc := 26) hx hb dX7_findStrokes_26 ?_
              refine lv_iload (pc := 27) hx hb dX7_findStrokes_27 (lv_at hl 0 rfl) ?_
              refine rn_iadd (pc := 29) hx hb dX7_findStrokes_29 ?_
              refine lv_istore (pc := 30) (lv' := [(8, .int (nI ((pl * 41) + h1))), (7, .int (nI h1)), (6, .int (nI pl)), (5, .int (nI (n0 + 1))), (4, .int (nI hh)), (3, .int (nI x)), (2, .int (nI mm)), (1, .ref p0), (0, .ref m0)]) hx hb dX7_findStrokes_30 hl (by decide) rfl (fun ls hl => ?_)
              refine lv_iload (pc := 32) hx hb dX7_findStrokes_32 (lv_at hl 0 rfl) ?_
              refine lv_aload_n (pc := 34) hx hb dX7_findStrokes_34 rfl (lv_at hl 8 rfl) ?_
              refine va_get (pc := 35) (D := D) (ci := 7) (v := .ref m1) (C := RX7) (T := TX7) (N := 2) hx hb hts hiX7 hown hK hP 0 rfl rfl 0 (by decide) wf11 (fun _ h9 => h9) rfl dX7_findStrokes_35 ?_
              refine va_alen (pc := 38) (v := nI 984) hx hb hK hP 1 0 rfl rfl rfl dX7_findStrokes_38 ?_
              refine rc_ge (pc := 39) (tgt := 80) hx hb (tI_nI (by omega)) (tI_nI (by omega)) dX7_findStrokes_39 (by decide) (fun c39 => ?_) (fun c39 => ?_)
              · omega
              · refine lv_aload_n (pc := 42) hx hb dX7_findStrokes_42 rfl (lv_at hl 8 rfl) ?_
                refine va_get (pc := 43) (D := D) (ci := 7) (v := .ref m1) (C := RX7) (T := TX7) (N := 2) hx hb hts hiX7 hown hK hP 0 rfl rfl 0 (by decide) wf11 (fun _ h9 => h9) rfl dX7_findStrokes_43 ?_
                refine lv_iload (pc := 46) hx hb dX7_findStrokes_46 (lv_at hl 0 rfl) ?_
                refine ra_iald (pc := 48) (k := (pl * 41) + h1) (v := jI (g ((pl * 41) + h1))) hx hb hK hP 1 0 rfl rfl (by omega) (by decide) rfl dX7_findStrokes_48 ?_
                refine lv_bipush (pc := 49) (v := jI (-4)) hx hb dX7_findStrokes_49 (by decide) ?_
                refine rc_ne (pc := 51) (tgt := 80) hx hb (jI_to (by omega)) (jI_to (by omega)) dX7_findStrokes_51 (by decide) (fun c51 => ?_) (fun c51 => ?_)
                · refine lv_iinc (pc := 80) (v := nI (h1 + 1)) (lv' := [(7, .int (nI (h1 + 1))), (8, .int (nI ((pl * 41) + h1))), (6, .int (nI pl)), (5, .int (nI (n0 + 1))), (4, .int (nI hh)), (3, .int (nI x)), (2, .int (nI mm)), (1, .ref p0), (0, .ref m0)]) hx hb dX7_findStrokes_80 hl (k := 1) rfl (by rw [← nI_add]; rfl) (by decide) rfl (fun ls hl => ?_)
                  refine lv_goto (pc := 83) (tgt := 15) hx hb dX7_findStrokes_83 (by decide) ?_
                  exact ih15 (h1 + 1) g _ _ _ (by omega) hgr (tbl_keep hg (fw_stay (by rw [← hcu]; exact c51))) (by omega) hP hS (lv_sub hl [0, 2, 3, 4, 5, 6, 7, 8] rfl)
                · have hcur : fwZ P mm x n0 pl h1 = -4 := by rw [← hcu]; exact c51
                  refine lv_aload_n (pc := 54) hx hb dX7_findStrokes_54 rfl (lv_at hl 8 rfl) ?_
                  refine lv_aload_n (pc := 55) hx hb dX7_findStrokes_55 rfl (lv_at hl 7 rfl) ?_
                  refine lv_iload_n (pc := 56) hx hb dX7_findStrokes_56 rfl (lv_at hl 6 rfl) ?_
                  refine lv_iload_n (pc := 57) hx hb dX7_findStrokes_57 rfl (lv_at hl 5 rfl) ?_
                  refine lv_iload (pc := 58) hx hb dX7_findStrokes_58 (lv_at hl 2 rfl) ?_
                  refine lv_iload (pc := 60) hx hb dX7_findStrokes_60 (lv_at hl 1 rfl) ?_
                  refine lv_iload (pc := 62) hx hb dX7_findStrokes_62 (lv_at hl 3 rfl) ?_
                  refine ci_Vd (pc := 64) (r0 := jI (fsI (fun a b => g (a * 41 + b)) P mm x pl h1 (((n0 + 1) - 1 : Nat) : Int) 5)) hF hN hK hP hV hS hA (k_X7_firstStroke l D cI cC cB cS m0 m1 m2 (g, M.2) p0 p1 p2 p3 P mm x pl h1 (n0 + 1) hp hmm hxc (by omega) (by omega) (by omega) hgr) (cwV 6 hts gX7_findStrokes_X7_firstStroke rfl rfl rfl (by decide +kernel) ⟨Nat.le_of_ble_eq_true rfl, Nat.le_of_ble_eq_true rfl⟩) [0, 1, 2, 3, 4, 5, 6] rfl (by decide) 0 7 rfl rfl rfl hl.1 rfl (Nat.le_of_ble_eq_true rfl) dX7_findStrokes_64 ⟨Nat.le_refl _, Nat.le_refl _⟩ rfl (ws2 := smW m0 m1 m2 cI (g, M.2) ++ plW p0 p1 p2 p3 cI P) rfl (fun H locs hP hS => ?_)
                  have fq2 := fsI_rng (fun a b => g (a * 41 + b)) P mm x pl h1 (((n0 + 1) - 1 : Nat) : Int) (by omega) 5
                  have hfe : fsI (fun a b => g (a * 41 + b)) P mm x pl h1 ((n0 + 1 - 1 : Nat) : Int) 5 = fsI (fwZ P mm x n0) P mm x pl h1 n0 5 := by
                    rw [show n0 + 1 - 1 = n0 by omega]
                    exact fs_congr hplc (tbl_iff hg hh2.2) 5
                  refine lv_iconst (pc := 67) (v := jI (-1)) hx hb dX7_findStrokes_67 (by decide) ?_
                  refine rc_eq (pc := 68) (tgt := 80) hx hb (jI_to (by omega)) (jI_to (by omega)) dX7_findStrokes_68 (by decide) (fun c68 => ?_) (fun c68 => ?_)
                  · refine lv_iinc (pc := 80) (v := nI (h1 + 1)) (lv' := [(7, .int (nI (h1 + 1))), (8, .int (nI ((pl * 41) + h1))), (6, .int (nI pl)), (5, .int (nI (n0 + 1))), (4, .int (nI hh)), (3, .int (nI x)), (2, .int (nI mm)), (1, .ref p0), (0, .ref m0)]) hx hb dX7_findStrokes_80 hl (k := 1) rfl (by rw [← nI_add]; rfl) (by decide) rfl (fun ls hl => ?_)
                    refine lv_goto (pc := 83) (tgt := 15) hx hb dX7_findStrokes_83 (by decide) ?_
                    exact ih15 (h1 + 1) g _ _ _ (by omega) hgr (tbl_keep hg (by rw [fw_new hcur hplc, if_neg (fun e => e (by rw [← hfe]; exact c68)), hcur])) (by omega) hP hS (lv_sub hl [0, 2, 3, 4, 5, 6, 7, 8] rfl)
                  · refine lv_aload_n (pc := 71) hx hb dX7_findStrokes_71 rfl (lv_at hl 8 rfl) ?_
                    refine va_get (pc := 72) (D := D) (ci := 7) (v := .ref m1) (C := RX7) (T := TX7) (N := 2) hx hb hts hiX7 hown hK hP 0 rfl rfl 0 (by decide) wf11 (fun _ h9 => h9) rfl dX7_findStrokes_72 ?_
                    refine lv_iload (pc := 75) hx hb dX7_findStrokes_75 (lv_at hl 0 rfl) ?_
                    refine lv_iload (pc := 77) hx hb dX7_findStrokes_77 (lv_at hl 3 rfl) ?_
                    refine rz_iast (pc := 79) (f := g) (k := (pl * 41) + h1) (x := (n0 + 1 : Nat)) (ws2 := smW m0 m1 m2 cI (va_up g ((pl * 41) + h1) (n0 + 1 : Nat), M.2) ++ plW p0 p1 p2 p3 cI P) hx hb hK hP hV hS 1 0 rfl rfl (by omega) (by decide) dX7_findStrokes_79 (jI_nat _) rfl rfl (fun H locs hP hS => ?_)
                    refine lv_iinc (pc := 80) (v := nI (h1 + 1)) (lv' := [(7, .int (nI (h1 + 1))), (8, .int (nI ((pl * 41) + h1))), (6, .int (nI pl)), (5, .int (nI (n0 + 1))), (4, .int (nI hh)), (3, .int (nI x)), (2, .int (nI mm)), (1, .ref p0), (0, .ref m0)]) hx hb dX7_findStrokes_80 hl (k := 1) rfl (by rw [← nI_add]; rfl) (by decide) rfl (fun ls hl => ?_)
                    refine lv_goto (pc := 83) (tgt := 15) hx hb dX7_findStrokes_83 (by decide) ?_
                    exact ih15 (h1 + 1) (va_up g ((pl * 41) + h1) (n0 + 1 : Nat)) _ _ _ (by omega) (va_up_rng hgr (by omega)) (tbl_set hg (by omega) (by rw [fw_new hcur hplc, if_pos (by rw [← hfe]; exact c68)])) (by omega) hP hS (lv_sub hl [0, 2, 3, 4, 5, 6, 7, 8] rfl)
        exact cut15 _ 1 f _ _ _ (by omega) hfr (tbl_open hf) (Nat.lt_succ_self _) hP hS (lv_sub hl [0, 1, 2, 3, 4, 5, 6, 7] rfl)
  exact cut3 _ 0 M.1 _ _ _ (Nat.zero_le _) ht (fun k h h1 h2 => by rw [if_neg (Nat.not_lt_zero k)]; exact hT k h h1 h2) (Nat.lt_succ_self _) hP hS (lv_sub hl [0, 6, 5, 4, 3, 2, 1] rfl)
