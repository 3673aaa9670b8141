abbrev rmX7_firstStroke : Room := { frames := 3, cells := 0, slots := 0, locals := 70 }
set_option maxHeartbeats 4000000 in
set_option maxRecDepth 100000 in
theorem k_X7_firstStroke (l : Launch) (D : va_G) (cI cC cB cS : ClassId) (m0 m1 m2 : Nat) (M : SM) (p0 p1 p2 p3 : Nat) (P : PL) (mm : Nat) (x : Nat) (k : Nat) (h : Nat) (n : Nat) (hp : pOK P) (hmm : mm < 3) (hxc : x < pCells P) (hk : k < pCells P) (hh : h ≤ 40) (hn : 1 ≤ n ∧ n < 100) (ht : ∀ i, -4 ≤ M.1 i ∧ M.1 i ≤ 100) : CI l D (kT cI cC cB cS) yX7_firstStroke wsX7_firstStroke rmX7_firstStroke [.ref m0, .ref p0, .int (nI mm), .int (nI x), .int (nI k), .int (nI h), .int (nI n)] (smW m0 m1 m2 cI M ++ plW p0 p1 p2 p3 cI P) (fun r u => r = jI (fsI (fun a b => M.1 (a * 41 + b)) P mm x k h ((n - 1 : Nat) : Int) 5) ∧ u = smW m0 m1 m2 cI M ++ plW p0 p1 p2 p3 cI P) := by
  refine ci_intro (by decide) rfl (Nat.le_of_ble_eq_true rfl) ?_
  intro p e s m args below meth c ls A QF hF hK hP hV hS hA hN hl hret
  obtain ⟨hx, hb, hml, hown, hts⟩ := id hF
  have hP : va_P D vwCl (smW m0 m1 m2 cI M ++ plW p0 p1 p2 p3 cI P) s.heap := hP
  have hl : lv_has ls 9 [(0, .ref m0), (1, .ref p0), (2, .int (nI mm)), (3, .int (nI x)), (4, .int (nI k)), (5, .int (nI h)), (6, .int (nI n))] := hl
  have hcl := pCells_le hp
  refine lv_iconst (pc := 0) (v := nI 0) hx hb dX7_firstStroke_0 (by decide) ?_
  refine lv_istore (pc := 1) (lv' := [(7, .int (nI 0)), (0, .ref m0), (1, .ref p0), (2, .int (nI mm)), (3, .int (nI x)), (4, .int (nI k)), (5, .int (nI h)), (6, .int (nI n))]) hx hb dX7_firstStroke_1 hl (by decide) rfl (fun ls hl => ?_)
  have cut3 : ∀ (fuel : Nat) (i : Nat) (H : Heap) (locs : List Loc) (ls : Array Slot) (hi5 : i ≤ 5) (hf : fsI (fun a b => M.1 (a * 41 + b)) P mm x k h ((n - 1 : Nat) : Int) i = -1) (hfu : 5 - i < fuel), va_P D vwCl (smW m0 m1 m2 cI M ++ plW p0 p1 p2 p3 cI P) H → va_S A s.heap H locs → lv_has ls 9 [(7, .int (nI i)), (6, .int (nI n)), (5, .int (nI h)), (4, .int (nI k)), (3, .int (nI x)), (2, .int (nI mm)), (1, .ref p0), (0, .ref m0)] → W p l e rmX7_firstStroke s m args below meth c H locs 0 0 QF (F0 m 3 ls []) := by
    intro fuel
    induction fuel with
    | zero => intro i H locs ls hi5 hf hfu; omega
    | succ fuel ih3 =>
      intro i H locs ls hi5 hf hfu hP hS hl
      refine lv_iload (pc := 3) hx hb dX7_firstStroke_3 (lv_at hl 0 rfl) ?_
      refine lv_iconst (pc := 5) (v := nI 5) hx hb dX7_firstStroke_5 (by decide) ?_
      refine rc_ge (pc := 6) (tgt := 57) hx hb (tI_nI (by omega)) (tI_nI (by omega)) dX7_firstStroke_6 (by decide) (fun c6 => ?_) (fun c6 => ?_)
      · refine lv_iconst (pc := 57) (v := jI (-1)) hx hb dX7_firstStroke_57 (by decide) ?_
        exact hret 58 _ hP hS dX7_firstStroke_58 rfl rfl ⟨(by rw [← hf, show i = 5 by omega]), rfl⟩
      · refine lv_aload_n (pc := 9) hx hb dX7_firstStroke_9 rfl (lv_at hl 6 rfl) ?_
        refine lv_iload (pc := 10) hx hb dX7_firstStroke_10 (lv_at hl 3 rfl) ?_
        refine lv_iload (pc := 12) hx hb dX7_firstStroke_12 (lv_at hl 0 rfl) ?_
        refine ci_Vd (pc := 14) (r0 := jI (wayZ P k i)) hF hN hK hP hV hS hA (k_X2_wayFrom l D cI cC cB cS p0 p1 p2 p3 P k i hp hk (by omega)) (cwV 2 hts gX7_firstStroke_X2_wayFrom rfl rfl rfl (by decide +kernel) ⟨Nat.le_of_ble_eq_true rfl, Nat.le_of_ble_eq_true rfl⟩) [3, 4, 5, 6] rfl (by decide) 0 2 rfl rfl rfl hl.1 rfl (Nat.le_of_ble_eq_true rfl) dX7_firstStroke_14 ⟨Nat.le_refl _, Nat.le_refl _⟩ rfl (ws2 := smW m0 m1 m2 cI M ++ plW p0 p1 p2 p3 cI P) rfl (fun H locs hP hS => ?_)
        have fq1 := wayZ_w hp (show k < pCells P from hk) i
        refine lv_istore (pc := 17) (lv' := [(8, .int (jI (wayZ P k i))), (7, .int (nI i)), (6, .int (nI n)), (5, .int (nI h)), (4, .int (nI k)), (3, .int (nI x)), (2, .int (nI mm)), (1, .ref p0), (0, .ref m0)]) hx hb dX7_firstStroke_17 hl (by decide) rfl (fun ls hl => ?_)
        refine lv_iload (pc := 19) hx hb dX7_firstStroke_19 (lv_at hl 0 rfl) ?_
        refine lv_iconst (pc := 21) (v := jI (-1)) hx hb dX7_firstStroke_21 (by decide) ?_
        refine rc_eq (pc := 22) (tgt := 51) hx hb (jI_to (by omega)) (jI_to (by omega)) dX7_firstStroke_22 (by decide) (fun c22 => ?_) (fun c22 => ?_)
        · refine lv_iinc (pc := 51) (v := nI (i + 1)) (lv' := [(7, .int (nI (i + 1))), (8, .int (jI (wayZ P k i))), (6, .int (nI n)), (5, .int (nI h)), (4, .int (nI k)), (3, .int (nI x)), (2, .int (nI mm)), (1, .ref p0), (0, .ref m0)]) hx hb dX7_firstStroke_51 hl (k := 1) rfl (by rw [← nI_add]; rfl) (by decide) rfl (fun ls hl => ?_)
          refine lv_goto (pc := 54) (tgt := 3) hx hb dX7_firstStroke_54 (by decide) ?_
          exact ih3 (i + 1) _ _ _ (by omega) (fs_miss hf (by exact Or.inl (by omega))) (by omega) hP hS (lv_sub hl [0, 2, 3, 4, 5, 6, 7, 8] rfl)
        · obtain ⟨y, hy9⟩ : ∃ y : Nat, wayZ P k i = (y : Int) := ⟨(wayZ P k i).toNat, by omega⟩
          have hyc := (wayZ_rng hk i).2
          have hyc : y < pCells P := by omega
          rw [hy9, ← jI_nat] at hl
          have htr := ht (y * 41 + lowS P mm x h y)
          refine lv_aload_n (pc := 25) hx hb dX7_firstStroke_25 rfl (lv_at hl 8 rfl) ?_
          refine lv_iload (pc := 26) hx hb dX7_firstStroke_26 (lv_at hl 0 rfl) ?_
          refine lv_aload_n (pc := 28) hx hb dX7_firstStroke_28 rfl (lv_at hl 7 rfl) ?_
          refine lv_iload_n (pc := 29) hx hb dX7_firstStroke_29 rfl (lv_at hl 6 rfl) ?_
          refine lv_iload_n (pc := 30) hx hb dX7_firstStroke_30 rfl (lv_at hl 5 rfl) ?_
          refine lv_iload (pc := 31) hx hb dX7_firstStroke_31 (lv_at hl 3 rfl) ?_
          refine lv_iload (pc := 33) hx hb dX7_firstStroke_33 (lv_at hl 0 rfl) ?_
          refine ci_Sd (pc := 35) hF hN hK hP hV hS hA (k_X7_lowered l D cI cC cB cS p0 p1 p2 p3 P mm x h y hp hmm hxc hh (by omega)) (va_cwS 5 hts gX7_firstStroke_X7_lowered rfl rfl rfl (by decide +kernel) ⟨Nat.le_of_ble_eq_true rfl, Nat.le_of_ble_eq_true rfl⟩) [3, 4, 5, 6] rfl (by decide) rfl hl.1 rfl (Nat.le_of_ble_eq_true rfl) dX7_firstStroke_35 ⟨Nat.le_refl _, Nat.le_refl _⟩ rfl (ws2 := smW m0 m1 m2 cI M ++ plW p0 p1 p2 p3 cI P) rfl (fun H locs hP hS => ?_)
          have fq2 := lowS_le P mm x h y
          refine ci_Vd (pc := 38) (r0 := jI (M.1 (y * 41 + (lowS P mm x h y)))) hF hN hK hP hV hS hA (k_X7_fewestFrom l D cI cC cB cS m0 m1 m2 M y (lowS P mm x h y) (by omega) (by omega)) (cwV 2 hts gX7_firstStroke_X7_fewestFrom rfl rfl rfl (by decide +kernel) ⟨Nat.le_of_ble_eq_true rfl, Nat.le_of_ble_eq_true rfl⟩) [0, 1, 2] rfl (by decide) 0 7 rfl rfl rfl hl.1 rfl (Nat.le_of_ble_eq_true rfl) dX7_firstStroke_38 ⟨Nat.le_refl _, Nat.le_refl _⟩ rfl (ws2 := smW m0 m1 m2 cI M ++ plW p0 p1 p2 p3 cI P) rfl (fun H locs hP hS => ?_)
          refine lv_iload (pc := 41) hx hb dX7_firstStroke_41 (lv_at hl 2 rfl) ?_
          refine lv_iconst (pc := 43) (v := nI 1) hx hb dX7_firstStroke_43 (by decide) ?_
          refine rn_isub (pc := 44) hx hb (by omega) dX7_firstStroke_44 ?_
          refine rc_ne (pc := 45) (tgt := 51) hx hb (jI_to (by omega)) (tI_nI (by omega)) dX7_firstStroke_45 (by decide) (fun c45 => ?_) (fun c45 => ?_)
          · refine lv_iinc (pc := 51) (v := nI (i + 1)) (lv' := [(7, .int (nI (i + 1))), (8, .int (nI y)), (6, .int (nI n)), (5, .int (nI h)), (4, .int (nI k)), (3, .int (nI x)), (2, .int (nI mm)), (1, .ref p0), (0, .ref m0)]) hx hb dX7_firstStroke_51 hl (k := 1) rfl (by rw [← nI_add]; rfl) (by decide) rfl (fun ls hl => ?_)
            refine lv_goto (pc := 54) (tgt := 3) hx hb dX7_firstStroke_54 (by decide) ?_
            exact ih3 (i + 1) _ _ _ (by omega) (fs_miss hf (by exact Or.inr (by rw [hy9]; show ¬ M.1 (y * 41 + lowS P mm x h y) = _; omega))) (by omega) hP hS (lv_sub hl [0, 2, 3, 4, 5, 6, 7, 8] rfl)
          · refine lv_iload (pc := 48) hx hb dX7_firstStroke_48 (lv_at hl 0 rfl) ?_
            exact hret 50 _ hP hS dX7_firstStroke_50 rfl rfl ⟨(fs_hit hf hy9 (by omega) (by omega)), rfl⟩
  exact cut3 _ 0 _ _ _ (by omega) rfl (Nat.lt_succ_self _) hP hS (lv_sub hl [0, 7, 6, 5, 4, 3, 2, 1] rfl)
