abbrev rmX5_freeCells : Room := { frames := 1, cells := 0, slots := 0, locals := 21 }
set_option maxHeartbeats 4000000 in
set_option maxRecDepth 100000 in
theorem k_X5_freeCells (l : Launch) (D : va_G) (cI cC cB cS : ClassId) (p0 p1 p2 p3 : Nat) (P : PL) (s0 s1 s2 s3 : Nat) (S : ST) (col : Nat) (h : Nat) (hp : pOK P) (hi : sHi S) (hc6 : col < 6) (hh : h ≤ 40) : CI l D (kT cI cC cB cS) yX5_freeCells wsX5_freeCells rmX5_freeCells [.ref p0, .ref s0, .int (nI col), .int (nI h)] (plW p0 p1 p2 p3 cI P ++ stW s0 s1 s2 s3 cI S) (fun r u => r = nI (freeN P S col h P.2.2.2.2.1) ∧ u = plW p0 p1 p2 p3 cI P ++ stW s0 s1 s2 s3 cI S) := by
  refine ci_intro (by decide) rfl (Nat.le_of_ble_eq_true rfl) ?_
  intro p e s m args below meth c ls A QF hF hK hP hV hS hA hN hl hret
  obtain ⟨hx, hb, hml, hown, hts⟩ := id hF
  have hP : va_P D vwCl (plW p0 p1 p2 p3 cI P ++ stW s0 s1 s2 s3 cI S) s.heap := hP
  have hl : lv_has ls 6 [(0, .ref p0), (1, .ref s0), (2, .int (nI col)), (3, .int (nI h))] := hl
  obtain ⟨hp1, hp2, hp3, hp4, hp5, hp6, hp7⟩ := id hp
  refine lv_iconst (pc := 0) (v := nI 0) hx hb dX5_freeCells_0 (by decide) ?_
  refine lv_istore (pc := 1) (lv' := [(4, .int (nI 0)), (0, .ref p0), (1, .ref s0), (2, .int (nI col)), (3, .int (nI h))]) hx hb dX5_freeCells_1 hl (by decide) rfl (fun ls hl => ?_)
  refine lv_iconst (pc := 3) (v := nI 0) hx hb dX5_freeCells_3 (by decide) ?_
  refine lv_istore (pc := 4) (lv' := [(5, .int (nI 0)), (4, .int (nI 0)), (0, .ref p0), (1, .ref s0), (2, .int (nI col)), (3, .int (nI h))]) hx hb dX5_freeCells_4 hl (by decide) rfl (fun ls hl => ?_)
  have cut6 : ∀ (fuel : Nat) (r : Nat) (a : Nat) (H : Heap) (locs : List Loc) (ls : Array Slot) (hr : r ≤ P.2.2.2.2.1) (ha : a = freeN P S col h r) (hfu : P.2.2.2.2.1 - r < fuel), va_P D vwCl (plW p0 p1 p2 p3 cI P ++ stW s0 s1 s2 s3 cI S) H → va_S A s.heap H locs → lv_has ls 6 [(5, .int (nI r)), (4, .int (nI a)), (3, .int (nI h)), (2, .int (nI col)), (1, .ref s0), (0, .ref p0)] → W p l e rmX5_freeCells s m args below meth c H locs 0 0 QF (F0 m 6 ls []) := by
    intro fuel
    induction fuel with
    | zero => intro r a H locs ls hr ha hfu; omega
    | succ fuel ih6 =>
      intro r a H locs ls hr ha hfu hP hS hl
      have hmul : r * P.2.2.2.1 ≤ 4 * 6 := Nat.mul_le_mul (by omega) hp4
      have hsa := sAt_le hi ((r * P.2.2.2.1 + col : Nat) : Int)
      refine lv_iload (pc := 6) hx hb dX5_freeCells_6 (lv_at hl 0 rfl) ?_
      refine lv_aload_n (pc := 8) hx hb dX5_freeCells_8 rfl (lv_at hl 5 rfl) ?_
      refine ci_Vd (pc := 9) (r0 := nI P.2.2.2.2.1) hF hN hK hP hV hS hA (k_X2_rowCount l D cI cC cB cS p0 p1 p2 p3 P) (cwV 0 hts gX5_freeCells_X2_rowCount rfl rfl rfl (by decide +kernel) ⟨Nat.le_of_ble_eq_true rfl, Nat.le_of_ble_eq_true rfl⟩) [0, 1, 2, 3] rfl (by decide) 0 2 rfl rfl rfl hl.1 rfl (Nat.le_of_ble_eq_true rfl) dX5_freeCells_9 ⟨Nat.le_refl _, Nat.le_refl _⟩ rfl (ws2 := plW p0 p1 p2 p3 cI P ++ stW s0 s1 s2 s3 cI S) rfl (fun H locs hP hS => ?_)
      refine rc_ge (pc := 12) (tgt := 47) hx hb (tI_nI (by omega)) (tI_nI (by omega)) dX5_freeCells_12 (by decide) (fun c12 => ?_) (fun c12 => ?_)
      · refine lv_iload (pc := 47) hx hb dX5_freeCells_47 (lv_at hl 1 rfl) ?_
        exact hret 49 _ hP hS dX5_freeCells_49 rfl rfl ⟨(by rw [ha, show r = P.2.2.2.2.1 by omega]), rfl⟩
      · refine lv_aload_n (pc := 15) hx hb dX5_freeCells_15 rfl (lv_at hl 4 rfl) ?_
        refine lv_iload (pc := 16) hx hb dX5_freeCells_16 (lv_at hl 0 rfl) ?_
        refine lv_aload_n (pc := 18) hx hb dX5_freeCells_18 rfl (lv_at hl 5 rfl) ?_
        refine ci_Vd (pc := 19) (r0 := nI P.2.2.2.1) hF hN hK hP hV hS hA (k_X2_cellsInRow l D cI cC cB cS p0 p1 p2 p3 P) (cwV 0 hts gX5_freeCells_X2_cellsInRow rfl rfl rfl (by decide +kernel) ⟨Nat.le_of_ble_eq_true rfl, Nat.le_of_ble_eq_true rfl⟩) [0, 1, 2, 3] rfl (by decide) 0 2 rfl rfl rfl hl.1 rfl (Nat.le_of_ble_eq_true rfl) dX5_freeCells_19 ⟨Nat.le_refl _, Nat.le_refl _⟩ rfl (ws2 := plW p0 p1 p2 p3 cI P ++ stW s0 s1 s2 s3 cI S) rfl (fun H locs hP hS => ?_)
        refine rn_imul (pc := 22) hx hb dX5_freeCells_22 ?_
        refine lv_iload_n (pc := 23) hx hb dX5_freeCells_23 rfl (lv_at hl 3 rfl) ?_
        refine rn_iadd (pc := 24) hx hb dX5_freeCells_24 ?_
        refine ci_Vd (pc := 25) (r0 := nI (sAt S (((r * P.2.2.2.1) + col : Nat) : Int))) hF hN hK hP hV hS hA (k_X8_highAt l D cI cC cB cS s0 s1 s2 s3 S (nI ((r * P.2.2.2.1) + col)) (((r * P.2.2.2.1) + col : Nat) : Int) (tI_nI (by omega))) (cwV 1 hts gX5_freeCells_X8_highAt rfl rfl rfl (by decide +kernel) ⟨Nat.le_of_ble_eq_true rfl, Nat.le_of_ble_eq_true rfl⟩) [4, 5, 6, 7] rfl (by decide) 0 8 rfl rfl rfl hl.1 rfl (Nat.le_of_ble_eq_true rfl) dX5_freeCells_25 ⟨Nat.le_refl _, Nat.le_refl _⟩ rfl (ws2 := plW p0 p1 p2 p3 cI P ++ stW s0 s1 s2 s3 cI S) rfl (fun H locs hP hS => ?_)
        refine lv_iload_n (pc := 28) hx hb dX5_freeCells_28 rfl (lv_at hl 2 rfl) ?_
        refine rc_gt (pc := 29) (tgt := 41) hx hb (tI_nI (by omega)) (tI_nI (by omega)) dX5_freeCells_29 (by decide) (fun c29 => ?_) (fun c29 => ?_)
        · refine lv_iinc (pc := 41) (v := nI (r + 1)) (lv' := [(5, .int (nI (r + 1))), (4, .int (nI a)), (3, .int (nI h)), (2, .int (nI col)), (1, .ref s0), (0, .ref p0)]) hx hb dX5_freeCells_41 hl (k := 0) rfl (by rw [← nI_add]; rfl) (by decide) rfl (fun ls hl => ?_)
          refine lv_goto (pc := 44) (tgt := 6) hx hb dX5_freeCells_44 (by decide) ?_
          exact ih6 (r + 1) a _ _ _ (by omega) (by rw [freeN, if_neg (by omega), ha]) (by omega) hP hS (lv_sub hl [0, 1, 2, 3, 4, 5] rfl)
        · refine lv_iload (pc := 32) hx hb dX5_freeCells_32 (lv_at hl 1 rfl) ?_
          refine lv_iconst (pc := 34) (v := nI 1) hx hb dX5_freeCells_34 (by decide) ?_
          refine lv_iload (pc := 35) hx hb dX5_freeCells_35 (lv_at hl 0 rfl) ?_
          refine lv_ishl (pc := 37) hx hb dX5_freeCells_37 ?_
          refine r_top (nI_1shl (by omega)) ?_
          refine lv_ior (pc := 38) hx hb dX5_freeCells_38 ?_
          refine r_top (nI_or _ _) ?_
          refine lv_istore (pc := 39) (lv' := [(4, .int (nI (a ||| (2 ^ r)))), (5, .int (nI r)), (3, .int (nI h)), (2, .int (nI col)), (1, .ref s0), (0, .ref p0)]) hx hb dX5_freeCells_39 hl (by decide) rfl (fun ls hl => ?_)
          refine lv_iinc (pc := 41) (v := nI (r + 1)) (lv' := [(5, .int (nI (r + 1))), (4, .int (nI (a ||| (2 ^ r)))), (3, .int (nI h)), (2, .int (nI col)), (1, .ref s0), (0, .ref p0)]) hx hb dX5_freeCells_41 hl (k := 1) rfl (by rw [← nI_add]; rfl) (by decide) rfl (fun ls hl => ?_)
          refine lv_goto (pc := 44) (tgt := 6) hx hb dX5_freeCells_44 (by decide) ?_
          exact ih6 (r + 1) (a ||| (2 ^ r)) _ _ _ (by omega) (by rw [freeN, if_pos (by omega), ha]) (by omega) hP hS (lv_sub hl [0, 1, 2, 3, 4, 5] rfl)
  exact cut6 _ 0 0 _ _ _ (Nat.zero_le _) rfl (Nat.lt_succ_self _) hP hS (lv_sub hl [0, 1, 5, 4, 3, 2] rfl)
