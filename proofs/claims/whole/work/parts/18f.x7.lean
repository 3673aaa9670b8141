abbrev rmX7_fewest : Room := { frames := 5, cells := 0, slots := 0, locals := 127 }
set_option maxHeartbeats 4000000 in
set_option maxRecDepth 100000 in
theorem k_X7_fewest (l : Launch) (D : va_G) (cI cC cB cS : ClassId) (m0 m1 m2 : Nat) (M : SM) (p0 p1 p2 p3 : Nat) (P : PL) (s0 s1 s2 s3 : Nat) (S : ST) (mm : Nat) (x : Nat) (hp : pOK P) (hi : sHi S) (hmm : mm < 3) (hxc : x < pCells P) (hpl : S.2.2.1 mm < pCells P) (hle : S.2.1 mm < 40) (ht : ∀ i, -4 ≤ M.1 i ∧ M.1 i ≤ 100) : CI l D (kT cI cC cB cS) yX7_fewest wsX7_fewest rmX7_fewest [.ref m0, .ref p0, .ref s0, .int (nI mm), .int (nI x)] (smW m0 m1 m2 cI M ++ plW p0 p1 p2 p3 cI P ++ stW s0 s1 s2 s3 cI S) (fun r u => r = jI (fwZ P mm x (S.2.1 mm) (S.2.2.1 mm) (sAt S (x : Int))) ∧ ∃ (f : Nat → Int) (g : Nat → Nat), u = smW m0 m1 m2 cI (f, g) ++ plW p0 p1 p2 p3 cI P ++ stW s0 s1 s2 s3 cI S ∧ (∀ i, -4 ≤ f i ∧ f i ≤ 100) ∧ ∀ s : Nat, fwZ P mm x (S.2.1 mm) (S.2.2.1 mm) (sAt S (x : Int)) = (s : Int) → ∀ j, j < s → j < 9 → g j = (walkS (fwZ P mm x (S.2.1 mm)) P mm x s (S.2.2.1 mm) (sAt S (x : Int)) (j + 1)).1) := by
  refine ci_intro (by decide) rfl (Nat.le_of_ble_eq_true rfl) ?_
  intro p e s m args below meth c ls A QF hF hK hP hV hS hA hN hl hret
  obtain ⟨hx, hb, hml, hown, hts⟩ := id hF
  have hP : va_P D vwCl (smW m0 m1 m2 cI M ++ plW p0 p1 p2 p3 cI P ++ stW s0 s1 s2 s3 cI S) s.heap := hP
  have hl : lv_has ls 8 [(0, .ref m0), (1, .ref p0), (2, .ref s0), (3, .int (nI mm)), (4, .int (nI x))] := hl
  have hcl := pCells_le hp
  have hsa := sAt_le hi (x : Int)
  refine lv_aload_n (pc := 0) hx hb dX7_fewest_0 rfl (lv_at hl 2 rfl) ?_
  refine lv_iload_n (pc := 1) hx hb dX7_fewest_1 rfl (lv_at hl 3 rfl) ?_
  refine ci_Vd (pc := 2) (r0 := nI (S.2.2.1 mm)) hF hN hK hP hV hS hA (k_X8_placeOf l D cI cC cB cS s0 s1 s2 s3 S mm hmm) (cwV 1 hts gX7_fewest_X8_placeOf rfl rfl rfl (by decide +kernel) ⟨Nat.le_of_ble_eq_true rfl, Nat.le_of_ble_eq_true rfl⟩) [7, 8, 9, 10] rfl (by decide) 0 8 rfl rfl rfl hl.1 rfl (Nat.le_of_ble_eq_true rfl) dX7_fewest_2 ⟨Nat.le_refl _, Nat.le_refl _⟩ rfl (ws2 := smW m0 m1 m2 cI M ++ plW p0 p1 p2 p3 cI P ++ stW s0 s1 s2 s3 cI S) rfl (fun H locs hP hS => ?_)
  refine lv_istore (pc := 5) (lv' := [(5, .int (nI (S.2.2.1 mm))), (0, .ref m0), (1, .ref p0), (2, .ref s0), (3, .int (nI mm)), (4, .int (nI x))]) hx hb dX7_fewest_5 hl (by decide) rfl (fun ls hl => ?_)
  refine lv_aload_n (pc := 7) hx hb dX7_fewest_7 rfl (lv_at hl 3 rfl) ?_
  refine lv_iload (pc := 8) hx hb dX7_fewest_8 (lv_at hl 5 rfl) ?_
  refine ci_Vd (pc := 10) (r0 := nI (sAt S ((x : Nat) : Int))) hF hN hK hP hV hS hA (k_X8_highAt l D cI cC cB cS s0 s1 s2 s3 S (nI x) ((x : Nat) : Int) (tI_nI (by omega))) (cwV 1 hts gX7_fewest_X8_highAt rfl rfl rfl (by decide +kernel) ⟨Nat.le_of_ble_eq_true rfl, Nat.le_of_ble_eq_true rfl⟩) [7, 8, 9, 10] rfl (by decide) 0 8 rfl rfl rfl hl.1 rfl (Nat.le_of_ble_eq_true rfl) dX7_fewest_10 ⟨Nat.le_refl _, Nat.le_refl _⟩ rfl (ws2 := smW m0 m1 m2 cI M ++ plW p0 p1 p2 p3 cI P ++ stW s0 s1 s2 s3 cI S) rfl (fun H locs hP hS => ?_)
  refine lv_istore (pc := 13) (lv' := [(6, .int (nI (sAt S ((x : Nat) : Int)))), (5, .int (nI (S.2.2.1 mm))), (0, .ref m0), (1, .ref p0), (2, .ref s0), (3, .int (nI mm)), (4, .int (nI x))]) hx hb dX7_fewest_13 hl (by decide) rfl (fun ls hl => ?_)
  refine lv_aload_n (pc := 15) hx hb dX7_fewest_15 rfl (lv_at hl 2 rfl) ?_
  refine cv_V (pc := 16) hF hN hK hP hV hS hA (k_X7_markSmooth l D cI cC cB cS m0 m1 m2 M ht) (cwV 0 hts gX7_fewest_X7_markSmooth rfl rfl rfl (by decide +kernel) ⟨Nat.le_of_ble_eq_true rfl, Nat.le_of_ble_eq_true rfl⟩) [0, 1, 2] rfl (by decide) 0 7 rfl rfl rfl hl.1 rfl (Nat.le_of_ble_eq_true rfl) dX7_fewest_16 ⟨Nat.le_refl _, Nat.le_refl _⟩ rfl (fun u H locs hq hu hP hS => ?_)
  obtain ⟨f0, rfl, hf0r, hf0⟩ := hq
  have hP : va_P D vwCl (smW m0 m1 m2 cI (f0, M.2) ++ plW p0 p1 p2 p3 cI P ++ stW s0 s1 s2 s3 cI S) H := hP
  refine lv_iconst (pc := 19) (v := nI 1) hx hb dX7_fewest_19 (by decide) ?_
  refine lv_istore (pc := 20) (lv' := [(7, .int (nI 1)), (6, .int (nI (sAt S ((x : Nat) : Int)))), (5, .int (nI (S.2.2.1 mm))), (0, .ref m0), (1, .ref p0), (2, .ref s0), (3, .int (nI mm)), (4, .int (nI x))]) hx hb dX7_fewest_20 hl (by decide) rfl (fun ls hl => ?_)
  have cut22 : ∀ (fuel : Nat) (n0 : Nat) (f : Nat → Int) (H : Heap) (locs : List Loc) (ls : Array Slot) (hn0 : n0 ≤ S.2.1 mm) (hft : ∀ i, -4 ≤ f i ∧ f i ≤ 100) (hfr : tblOK P mm x (sAt S (x : Int)) f n0) (hfu : S.2.1 mm - n0 < fuel), va_P D vwCl (smW m0 m1 m2 cI (f, M.2) ++ plW p0 p1 p2 p3 cI P ++ stW s0 s1 s2 s3 cI S) H → va_S A s.heap H locs → lv_has ls 8 [(7, .int (nI (n0 + 1))), (6, .int (nI (sAt S (x : Int)))), (5, .int (nI (S.2.2.1 mm))), (4, .int (nI x)), (3, .int (nI mm)), (2, .ref s0), (1, .ref p0), (0, .ref m0)] → W p l e rmX7_fewest s m args below meth c H locs 0 0 QF (F0 m 22 ls []) := by
    intro fuel
    induction fuel with
    | zero => intro n0 f H locs ls hn0 hft hfr hfu; omega
    | succ fuel ih22 =>
      intro n0 f H locs ls hn0 hft hfr hfu hP hS hl
      refine lv_iload (pc := 22) hx hb dX7_fewest_22 (lv_at hl 0 rfl) ?_
      have cut63 : ∀  (H : Heap) (locs : List Loc) (ls : Array Slot) (hend : fwZ P mm x n0 (S.2.2.1 mm) (sAt S (x : Int)) = fwZ P mm x (S.2.1 mm) (S.2.2.1 mm) (sAt S (x : Int))), va_P D vwCl (smW m0 m1 m2 cI (f, M.2) ++ plW p0 p1 p2 p3 cI P ++ stW s0 s1 s2 s3 cI S) H → va_S A s.heap H locs → lv_has ls 8 [(7, .int (nI (n0 + 1))), (6, .int (nI (sAt S (x : Int)))), (5, .int (nI (S.2.2.1 mm))), (4, .int (nI x)), (3, .int (nI mm)), (2, .ref s0), (1, .ref p0), (0, .ref m0)] → W p l e rmX7_fewest s m args below meth c H locs 0 0 QF (F0 m 63 ls []) := by
        intro  H locs ls hend hP hS hl
        refine lv_aload_n (pc := 63) hx hb dX7_fewest_63 rfl (lv_at hl 7 rfl) ?_
        refine lv_aload_n (pc := 64) hx hb dX7_fewest_64 rfl (lv_at hl 6 rfl) ?_
        refine lv_iload_n (pc := 65) hx hb dX7_fewest_65 rfl (lv_at hl 4 rfl) ?_
        refine lv_iload (pc := 66) hx hb dX7_fewest_66 (lv_at hl 3 rfl) ?_
        refine lv_iload (pc := 68) hx hb dX7_fewest_68 (lv_at hl 2 rfl) ?_
        refine lv_iload (pc := 70) hx hb dX7_fewest_70 (lv_at hl 1 rfl) ?_
        refine cv_V (pc := 72) hF hN hK hP hV hS hA (k_X7_tellRow l D cI cC cB cS m0 m1 m2 (f, M.2) p0 p1 p2 p3 P mm x (S.2.2.1 mm) (sAt S (x : Int)) n0 hp hmm hxc hpl (by omega) (by omega) hft hfr) (cwV 5 hts gX7_fewest_X7_tellRow rfl rfl rfl (by decide +kernel) ⟨Nat.le_of_ble_eq_true rfl, Nat.le_of_ble_eq_true rfl⟩) [0, 1, 2, 3, 4, 5, 6] rfl (by decide) 0 7 rfl rfl rfl hl.1 rfl (Nat.le_of_ble_eq_true rfl) dX7_fewest_72 ⟨Nat.le_refl _, Nat.le_refl _⟩ rfl (fun u H locs hq hu hP hS => ?_)
        obtain ⟨g2, rfl, hg2⟩ := hq
        have hP : va_P D vwCl (smW m0 m1 m2 cI (f, g2) ++ plW p0 p1 p2 p3 cI P ++ stW s0 s1 s2 s3 cI S) H := hP
        refine lv_aload_n (pc := 75) hx hb dX7_fewest_75 rfl (lv_at hl 7 rfl) ?_
        refine lv_iload (pc := 76) hx hb dX7_fewest_76 (lv_at hl 2 rfl) ?_
        refine lv_iload (pc := 78) hx hb dX7_fewest_78 (lv_at hl 1 rfl) ?_
        refine ci_Vd (pc := 80) (r0 := jI (f ((S.2.2.1 mm) * 41 + (sAt S (x : Int))))) hF hN hK hP hV hS hA (k_X7_fewestFrom l D cI cC cB cS m0 m1 m2 (f, g2) (S.2.2.1 mm) (sAt S (x : Int)) (by omega) (by omega)) (cwV 2 hts gX7_fewest_X7_fewestFrom rfl rfl rfl (by decide +kernel) ⟨Nat.le_of_ble_eq_true rfl, Nat.le_of_ble_eq_true rfl⟩) [0, 1, 2] rfl (by decide) 0 7 rfl rfl rfl hl.1 rfl (Nat.le_of_ble_eq_true rfl) dX7_fewest_80 ⟨Nat.le_refl _, Nat.le_refl _⟩ rfl (ws2 := smW m0 m1 m2 cI (f, g2) ++ plW p0 p1 p2 p3 cI P ++ stW s0 s1 s2 s3 cI S) rfl (fun H locs hP hS => ?_)
        exact hret 83 _ hP hS dX7_fewest_83 rfl rfl ⟨(by rw [hfr (S.2.2.1 mm) (sAt S (x : Int)) hpl (Nat.le_refl _), hend]), f, g2, rfl, hft, fun s hs j hj h9 => (by rw [hg2 s (by rw [hend]; exact hs) j hj h9]; have q1 := hend ▸ hs; have q2 := fw_rng P mm x n0 (S.2.2.1 mm) (sAt S (x : Int)); have q3 := walkS_same (d := S.2.1 mm - n0) hpl (by omega) (hend.trans hs) (j + 1) (by omega); rw [show n0 + (S.2.1 mm - n0) = S.2.1 mm by omega] at q3; rw [q3])⟩
      refine lv_aload_n (pc := 24) hx hb dX7_fewest_24 rfl (lv_at hl 5 rfl) ?_
      refine lv_iload_n (pc := 25) hx hb dX7_fewest_25 rfl (lv_at hl 4 rfl) ?_
      refine ci_Vd (pc := 26) (r0 := nI (S.2.1 mm)) hF hN hK hP hV hS hA (k_X8_leftTo l D cI cC cB cS s0 s1 s2 s3 S mm hmm) (cwV 1 hts gX7_fewest_X8_leftTo rfl rfl rfl (by decide +kernel) ⟨Nat.le_of_ble_eq_true rfl, Nat.le_of_ble_eq_true rfl⟩) [7, 8, 9, 10] rfl (by decide) 0 8 rfl rfl rfl hl.1 rfl (Nat.le_of_ble_eq_true rfl) dX7_fewest_26 ⟨Nat.le_refl _, Nat.le_refl _⟩ rfl (ws2 := smW m0 m1 m2 cI (f, M.2) ++ plW p0 p1 p2 p3 cI P ++ stW s0 s1 s2 s3 cI S) rfl (fun H locs hP hS => ?_)
      refine rc_gt (pc := 29) (tgt := 63) hx hb (tI_nI (by omega)) (tI_nI (by omega)) dX7_fewest_29 (by decide) (fun c29 => ?_) (fun c29 => ?_)
      · exact cut63  _ _ _ (fw_end hn0 (Or.inr (by omega)))  hP hS (lv_sub hl [0, 1, 2, 3, 4, 5, 6, 7] rfl)
      · refine lv_aload_n (pc := 32) hx hb dX7_fewest_32 rfl (lv_at hl 7 rfl) ?_
        refine lv_iload (pc := 33) hx hb dX7_fewest_33 (lv_at hl 2 rfl) ?_
        refine lv_iload (pc := 35) hx hb dX7_fewest_35 (lv_at hl 1 rfl) ?_
        have hfq := hft ((S.2.2.1 mm) * 41 + sAt S (x : Int))
        refine ci_Vd (pc := 37) (r0 := jI (f ((S.2.2.1 mm) * 41 + (sAt S (x : Int))))) hF hN hK hP hV hS hA (k_X7_fewestFrom l D cI cC cB cS m0 m1 m2 (f, M.2) (S.2.2.1 mm) (sAt S (x : Int)) (by omega) (by omega)) (cwV 2 hts gX7_fewest_X7_fewestFrom rfl rfl rfl (by decide +kernel) ⟨Nat.le_of_ble_eq_true rfl, Nat.le_of_ble_eq_true rfl⟩) [0, 1, 2] rfl (by decide) 0 7 rfl rfl rfl hl.1 rfl (Nat.le_of_ble_eq_true rfl) dX7_fewest_37 ⟨Nat.le_refl _, Nat.le_refl _⟩ rfl (ws2 := smW m0 m1 m2 cI (f, M.2) ++ plW p0 p1 p2 p3 cI P ++ stW s0 s1 s2 s3 cI S) rfl (fun H locs hP hS => ?_)
        refine lv_bipush (pc := 40) (v := jI (-4)) hx hb dX7_fewest_40 (by decide) ?_
        refine rc_ne (pc := 42) (tgt := 63) hx hb (jI_to (by omega)) (jI_to (by omega)) dX7_fewest_42 (by decide) (fun c42 => ?_) (fun c42 => ?_)
        · exact cut63  _ _ _ (fw_end hn0 (Or.inl (by rw [← hfr (S.2.2.1 mm) (sAt S (x : Int)) hpl (Nat.le_refl _)]; exact c42)))  hP hS (lv_sub hl [0, 1, 2, 3, 4, 5, 6, 7] rfl)
        · refine lv_aload_n (pc := 45) hx hb dX7_fewest_45 rfl (lv_at hl 7 rfl) ?_
          refine lv_aload_n (pc := 46) hx hb dX7_fewest_46 rfl (lv_at hl 6 rfl) ?_
          refine lv_iload_n (pc := 47) hx hb dX7_fewest_47 rfl (lv_at hl 4 rfl) ?_
          refine lv_iload (pc := 48) hx hb dX7_fewest_48 (lv_at hl 3 rfl) ?_
          refine lv_iload (pc := 50) hx hb dX7_fewest_50 (lv_at hl 1 rfl) ?_
          refine lv_iload (pc := 52) hx hb dX7_fewest_52 (lv_at hl 0 rfl) ?_
          refine cv_V (pc := 54) hF hN hK hP hV hS hA (k_X7_findStrokes l D cI cC cB cS m0 m1 m2 (f, M.2) p0 p1 p2 p3 P mm x (sAt S (x : Int)) n0 hp hmm hxc (by omega) (by omega) hft hfr) (cwV 5 hts gX7_fewest_X7_findStrokes rfl rfl rfl (by decide +kernel) ⟨Nat.le_of_ble_eq_true rfl, Nat.le_of_ble_eq_true rfl⟩) [0, 1, 2, 3, 4, 5, 6] rfl (by decide) 0 7 rfl rfl rfl hl.1 rfl (Nat.le_of_ble_eq_true rfl) dX7_fewest_54 ⟨Nat.le_refl _, Nat.le_refl _⟩ rfl (fun u H locs hq hu hP hS => ?_)
          obtain ⟨f2, rfl, hf2r, hf2⟩ := hq
          have hP : va_P D vwCl (smW m0 m1 m2 cI (f2, M.2) ++ plW p0 p1 p2 p3 cI P ++ stW s0 s1 s2 s3 cI S) H := hP
          refine lv_iinc (pc := 57) (v := nI (n0 + 1 + 1)) (lv' := [(7, .int (nI (n0 + 1 + 1))), (6, .int (nI (sAt S (x : Int)))), (5, .int (nI (S.2.2.1 mm))), (4, .int (nI x)), (3, .int (nI mm)), (2, .ref s0), (1, .ref p0), (0, .ref m0)]) hx hb dX7_fewest_57 hl (k := 0) rfl (nI_inc _ 1) (by decide) rfl (fun ls hl => ?_)
          refine lv_goto (pc := 60) (tgt := 22) hx hb dX7_fewest_60 (by decide) ?_
          exact ih22 (n0 + 1) f2 _ _ _ (by omega) hf2r hf2 (by omega) hP hS (lv_sub hl [0, 1, 2, 3, 4, 5, 6, 7] rfl)
  exact cut22 _ 0 f0 _ _ _ (Nat.zero_le _) hf0r (tbl_init hp hsa hf0) (Nat.lt_succ_self _) hP hS (lv_sub hl [0, 1, 2, 7, 6, 5, 4, 3] rfl)
