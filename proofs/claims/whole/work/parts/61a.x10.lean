abbrev rmX10_rowItem : Room := { frames := 1, cells := 0, slots := 0, locals := 25 }
set_option maxHeartbeats 4000000 in
set_option maxRecDepth 100000 in
theorem k_X10_rowItem (l : Launch) (D : va_G) (cI cC cB cS : ClassId) (o : Nat) (ad : Nat → Nat) (P : PL) (I : RI) (tx : Nat → Nat) (nt : Nat → Nat) (O : PL) (hoo : oOK O) (hlt : ltOK (tx, I.2.2.2.2.2.2.1)) (hat6 : I.2.2.2.2.2.2.2.1 < 30000) (hnc : I.1 = pCells O) (hnw : I.2.1 = O.2.2.2.1) (htn : ∀ j, nt j < 100) : CV l D (kT cI cC cB cS) yX10_rowItem wsX10_rowItem rmX10_rowItem [.ref o] ([rmE o ad (pCells P) P.2.2.2.1 P.2.2.2.2.2.1 P.2.2.2.2.2.2 I, nE 200 (ad 29) cB tx, nE 24 (ad 14) cI nt]) (fun u => (∃ n, rowOK O n ∧ n = runN (tx, I.2.2.2.2.2.2.1) I.2.2.2.2.2.2.2.1 6 ∧ ¬ isF (tx, I.2.2.2.2.2.2.1) (I.2.2.2.2.2.2.2.1 + n) ∧ u = [rmE o ad (pCells P) P.2.2.2.1 P.2.2.2.2.2.1 P.2.2.2.2.2.2 (I.1 + n, n, I.2.2.1, I.2.2.2.1, I.2.2.2.2.1, I.2.2.2.2.2.1, I.2.2.2.2.2.2.1, I.2.2.2.2.2.2.2.1 + n, I.2.2.2.2.2.2.2.2.1, 0, I.2.2.2.2.2.2.2.2.2.2.1, I.2.2.2.2.2.2.2.2.2.2.2), nE 200 (ad 29) cB tx, nE 24 (ad 14) cI (rowFill nt I.1 (fun j => tAt (tx, I.2.2.2.2.2.2.1) (I.2.2.2.2.2.2.2.1 + j) - 48) n)]) ∨ (rowR (tx, I.2.2.2.2.2.2.1) O I.2.2.2.2.2.2.2.1 = none ∧ ∃ (k1 : Nat) (g : Nat → Nat), (I.2.2.2.2.2.2.2.1 ≤ k1 ∧ k1 ≤ I.2.2.2.2.2.2.2.1 + 30) ∧ (∀ j, g j < 100) ∧ u = [rmE o ad (pCells P) P.2.2.2.1 P.2.2.2.2.2.1 P.2.2.2.2.2.2 (I.1, I.2.1, I.2.2.1, I.2.2.2.1, I.2.2.2.2.1, I.2.2.2.2.2.1, I.2.2.2.2.2.2.1, k1, I.2.2.2.2.2.2.2.2.1, 1, I.2.2.2.2.2.2.2.2.2.2.1, I.2.2.2.2.2.2.2.2.2.2.2), nE 200 (ad 29) cB tx, nE 24 (ad 14) cI g])) := by
  refine cv_intro (by decide) rfl (Nat.le_of_ble_eq_true rfl) ?_
  intro p e s m args below meth c ls A QF hF hK hP hV hS hA hN hl hret
  obtain ⟨hx, hb, hml, hown, hts⟩ := id hF
  have hP : va_P D vwCl ([rmE o ad (pCells P) P.2.2.2.1 P.2.2.2.2.2.1 P.2.2.2.2.2.2 I, nE 200 (ad 29) cB tx, nE 24 (ad 14) cI nt]) s.heap := hP
  have hl : lv_has ls 2 [(0, .ref o)] := hl
  have wf34 := hts (.fieldLink RX10 34 "RemorseWallModel" "newTold" "[I") (by decide +kernel)
  have wf98 := hts (.fieldLink RX10 98 "RemorseWallModel" "newWide" "I") (by decide +kernel)
  have wf102 := hts (.fieldLink RX10 102 "RemorseWallModel" "newCells" "I") (by decide +kernel)
  have wf148 := hts (.fieldLink RX10 148 "RemorseWallModel" "at" "I") (by decide +kernel)
  have wf159 := hts (.fieldLink RX10 159 "RemorseWallModel" "isWrong" "Z") (by decide +kernel)
  have hiX10 : ∀ w ∈ u_ws RX10 TX10 44, w ∈ wsX10_rowItem := by decide +kernel
  obtain ⟨⟨ho1, ho2, ho3, ho4, ho5, ho6, ho7⟩, ho8, ho9⟩ := id hoo
  have hcl := pCells_le hoo.1
  have cut31 : ∀ (fuel : Nat) (n : Nat) (H : Heap) (locs : List Loc) (ls : Array Slot) (hn : n ≤ 7) (hd : ∀ j, j < n → isF (tx, I.2.2.2.2.2.2.1) (I.2.2.2.2.2.2.2.1 + j)) (h18 : pCells O ≤ 18 ∧ O.2.2.2.2.1 < 4) (hfu : 7 - n < fuel), va_P D vwCl ([rmE o ad (pCells P) P.2.2.2.1 P.2.2.2.2.2.1 P.2.2.2.2.2.2 (I.1, I.2.1, I.2.2.1, I.2.2.2.1, I.2.2.2.2.1, I.2.2.2.2.2.1, I.2.2.2.2.2.2.1, I.2.2.2.2.2.2.2.1 + n, I.2.2.2.2.2.2.2.2.1, 0, I.2.2.2.2.2.2.2.2.2.2.1, I.2.2.2.2.2.2.2.2.2.2.2), nE 200 (ad 29) cB tx, nE 24 (ad 14) cI (rowFill nt I.1 (fun j => tAt (tx, I.2.2.2.2.2.2.1) (I.2.2.2.2.2.2.2.1 + j) - 48) (min n 6))]) H → va_S A s.heap H locs → lv_has ls 2 [(1, .int (nI n)), (0, .ref o)] → W p l e rmX10_rowItem s m args below meth c H locs 0 0 QF (F0 m 31 ls []) := by
    intro fuel
    induction fuel with
    | zero => intro n H locs ls hn hd h18 hfu; omega
    | succ fuel ih31 =>
      intro n H locs ls hn hd h18 hfu hP hS hl
      refine lv_aload_n (pc := 31) hx hb dX10_rowItem_31 rfl (lv_at hl 1 rfl) ?_
      refine ci_Vd (pc := 32) (r0 := jI (nxZ (tx, I.2.2.2.2.2.2.1) (I.2.2.2.2.2.2.2.1 + n))) hF hN hK hP hV hS hA (k_X10_next l D cI cC cB cS o ad P (I.1, I.2.1, I.2.2.1, I.2.2.2.1, I.2.2.2.2.1, I.2.2.2.2.2.1, I.2.2.2.2.2.2.1, I.2.2.2.2.2.2.2.1 + n, I.2.2.2.2.2.2.2.2.1, 0, I.2.2.2.2.2.2.2.2.2.2.1, I.2.2.2.2.2.2.2.2.2.2.2) tx hlt (show (I.2.2.2.2.2.2.2.1 + n) < 100000 by omega)) (cwV 0 hts gX10_rowItem_X10_next rfl rfl rfl (by decide +kernel) ⟨Nat.le_of_ble_eq_true rfl, Nat.le_of_ble_eq_true rfl⟩) [0, 1] rfl (by decide) 0 10 rfl rfl rfl hl.1 rfl (Nat.le_of_ble_eq_true rfl) dX10_rowItem_32 ⟨Nat.le_refl _, Nat.le_refl _⟩ rfl (ws2 := [rmE o ad (pCells P) P.2.2.2.1 P.2.2.2.2.2.1 P.2.2.2.2.2.2 (I.1, I.2.1, I.2.2.1, I.2.2.2.1, I.2.2.2.2.1, I.2.2.2.2.2.1, I.2.2.2.2.2.2.1, I.2.2.2.2.2.2.2.1 + n, I.2.2.2.2.2.2.2.2.1, 0, I.2.2.2.2.2.2.2.2.2.2.1, I.2.2.2.2.2.2.2.2.2.2.2), nE 200 (ad 29) cB tx, nE 24 (ad 14) cI (rowFill nt I.1 (fun j => tAt (tx, I.2.2.2.2.2.2.1) (I.2.2.2.2.2.2.2.1 + j) - 48) (min n 6))]) rfl (fun H locs hP hS => ?_)
      have fq1 := nxZ_t (tx, I.2.2.2.2.2.2.1) (I.2.2.2.2.2.2.2.1 + n)
      have gq1 := tAt_lt hlt (I.2.2.2.2.2.2.2.1 + n)
      refine lv_i2l (pc := 35) (v := jL (nxZ (tx, I.2.2.2.2.2.2.1) (I.2.2.2.2.2.2.2.1 + n))) hx hb dX10_rowItem_35 (i2l_j (jI_to (by omega))) ?_
      refine lv_ldc2 (pc := 36) (v := jL 48) hx hb hown (hts (.constantLong RX10 155 (jL 48)) (by decide +kernel)) dX10_rowItem_36 ?_
      refine lv_ldc2 (pc := 39) (v := jL 57) hx hb hown (hts (.constantLong RX10 157 (jL 57)) (by decide +kernel)) dX10_rowItem_39 ?_
      refine ci_Sd (pc := 42) hF hN hK hP hV hS hA (k_X10_in l D cI cC cB cS (nxZ (tx, I.2.2.2.2.2.2.1) (I.2.2.2.2.2.2.2.1 + n)) 48 57 (by omega)) (va_cwS 3 hts gX10_rowItem_X10_in rfl rfl rfl (by decide +kernel) ⟨Nat.le_of_ble_eq_true rfl, Nat.le_of_ble_eq_true rfl⟩) [] rfl (by decide) rfl hl.1 rfl (Nat.le_of_ble_eq_true rfl) dX10_rowItem_42 ⟨Nat.le_refl _, Nat.le_refl _⟩ rfl (ws2 := [rmE o ad (pCells P) P.2.2.2.1 P.2.2.2.2.2.1 P.2.2.2.2.2.2 (I.1, I.2.1, I.2.2.1, I.2.2.2.1, I.2.2.2.2.1, I.2.2.2.2.2.1, I.2.2.2.2.2.2.1, I.2.2.2.2.2.2.2.1 + n, I.2.2.2.2.2.2.2.2.1, 0, I.2.2.2.2.2.2.2.2.2.2.1, I.2.2.2.2.2.2.2.2.2.2.2), nE 200 (ad 29) cB tx, nE 24 (ad 14) cI (rowFill nt I.1 (fun j => tAt (tx, I.2.2.2.2.2.2.1) (I.2.2.2.2.2.2.2.1 + j) - 48) (min n 6))]) rfl (fun H locs hP hS => ?_)
      refine rb_eq (pc := 45) (tgt := 106) hx hb dX10_rowItem_45 (by decide) (fun c45 => ?_) (fun c45 => ?_)
      · refine lv_aload_n (pc := 106) hx hb dX10_rowItem_106 rfl (lv_at hl 1 rfl) ?_
        refine lv_aload_n (pc := 107) hx hb dX10_rowItem_107 rfl (lv_at hl 1 rfl) ?_
        refine va_get (pc := 108) (D := D) (ci := 10) (v := .int (nI 0)) (C := RX10) (T := TX10) (N := 44) hx hb hts hiX10 hown hK hP 0 rfl rfl 32 (by decide) wf159 (fun _ h9 => h9) rfl dX10_rowItem_108 ?_
        refine r0_ne (pc := 111) (tgt := 141) hx hb (tI_nI (by omega)) dX10_rowItem_111 (by decide) (fun c111 => (by omega)) (fun c111 => ?_)
        refine lv_iload_n (pc := 114) hx hb dX10_rowItem_114 rfl (lv_at hl 0 rfl) ?_
        refine lv_i2l (pc := 115) (v := jL ((n : Nat) : Int)) hx hb dX10_rowItem_115 (i2l_j (tI_nI (by omega))) ?_
        refine lv_lconst (pc := 116) (v := jL 1) hx hb dX10_rowItem_116 (by decide) ?_
        refine lv_ldc2 (pc := 117) (v := jL 6) hx hb hown (hts (.constantLong RX10 170 (jL 6)) (by decide +kernel)) dX10_rowItem_117 ?_
        refine ci_Sd (pc := 120) hF hN hK hP hV hS hA (k_X10_in l D cI cC cB cS ((n : Nat) : Int) 1 6 (by omega)) (va_cwS 3 hts gX10_rowItem_X10_in rfl rfl rfl (by decide +kernel) ⟨Nat.le_of_ble_eq_true rfl, Nat.le_of_ble_eq_true rfl⟩) [] rfl (by decide) rfl hl.1 rfl (Nat.le_of_ble_eq_true rfl) dX10_rowItem_120 ⟨Nat.le_refl _, Nat.le_refl _⟩ rfl (ws2 := [rmE o ad (pCells P) P.2.2.2.1 P.2.2.2.2.2.1 P.2.2.2.2.2.2 (I.1, I.2.1, I.2.2.1, I.2.2.2.1, I.2.2.2.2.1, I.2.2.2.2.2.1, I.2.2.2.2.2.2.1, I.2.2.2.2.2.2.2.1 + n, I.2.2.2.2.2.2.2.2.1, 0, I.2.2.2.2.2.2.2.2.2.2.1, I.2.2.2.2.2.2.2.2.2.2.2), nE 200 (ad 29) cB tx, nE 24 (ad 14) cI (rowFill nt I.1 (fun j => tAt (tx, I.2.2.2.2.2.2.1) (I.2.2.2.2.2.2.2.1 + j) - 48) (min n 6))]) rfl (fun H locs hP hS => ?_)
        refine rb_eq (pc := 123) (tgt := 141) hx hb dX10_rowItem_123 (by decide) (fun c123 => ?_) (fun c123 => ?_)
        · refine lv_iconst (pc := 141) (v := nI 1) hx hb dX10_rowItem_141 (by decide) ?_
          refine lv_goto (pc := 142) (tgt := 146) hx hb dX10_rowItem_142 (by decide) ?_
          refine ra_put (pc := 146) (D := D) (ci := 10) (v := .int (nI 1)) (ty := .boolean) (C := RX10) (T := TX10) (N := 44) (ws2 := [rmE o ad (pCells P) P.2.2.2.1 P.2.2.2.2.2.1 P.2.2.2.2.2.2 (I.1, I.2.1, I.2.2.1, I.2.2.2.1, I.2.2.2.2.1, I.2.2.2.2.2.1, I.2.2.2.2.2.2.1, I.2.2.2.2.2.2.2.1 + n, I.2.2.2.2.2.2.2.2.1, 1, I.2.2.2.2.2.2.2.2.2.2.1, I.2.2.2.2.2.2.2.2.2.2.2), nE 200 (ad 29) cB tx, nE 24 (ad 14) cI (rowFill nt I.1 (fun j => tAt (tx, I.2.2.2.2.2.2.1) (I.2.2.2.2.2.2.2.1 + j) - 48) (min n 6))]) hx hb hts hiX10 tyX10 tyX10_ok nmX10 hown hK hP hV hS 0 rfl rfl 32 (by decide) wf159 (fun _ h9 => h9) rfl (by decide +kernel) rfl rfl (Nat.le_of_ble_eq_true rfl) dX10_rowItem_146 rfl rfl (fun H locs hP hS => ?_)
          refine lv_aload_n (pc := 149) hx hb dX10_rowItem_149 rfl (lv_at hl 1 rfl) ?_
          refine lv_aload_n (pc := 150) hx hb dX10_rowItem_150 rfl (lv_at hl 1 rfl) ?_
          refine va_get (pc := 151) (D := D) (ci := 10) (v := .int (nI 1)) (C := RX10) (T := TX10) (N := 44) hx hb hts hiX10 hown hK hP 0 rfl rfl 32 (by decide) wf159 (fun _ h9 => h9) rfl dX10_rowItem_151 ?_
          refine r0_eq (pc := 154) (tgt := 164) hx hb (tI_nI (by omega)) dX10_rowItem_154 (by decide) (fun c154 => (by omega)) (fun c154 => ?_)
          refine lv_aload_n (pc := 157) hx hb dX10_rowItem_157 rfl (lv_at hl 1 rfl) ?_
          refine va_get (pc := 158) (D := D) (ci := 10) (v := .int (nI I.2.1)) (C := RX10) (T := TX10) (N := 44) hx hb hts hiX10 hown hK hP 0 rfl rfl 13 (by decide) wf98 (fun _ h9 => h9) rfl dX10_rowItem_158 ?_
          refine lv_goto (pc := 161) (tgt := 165) hx hb dX10_rowItem_161 (by decide) ?_
          refine ra_put (pc := 165) (D := D) (ci := 10) (v := .int (nI I.2.1)) (ty := .int) (C := RX10) (T := TX10) (N := 44) (ws2 := [rmE o ad (pCells P) P.2.2.2.1 P.2.2.2.2.2.1 P.2.2.2.2.2.2 (I.1, I.2.1, I.2.2.1, I.2.2.2.1, I.2.2.2.2.1, I.2.2.2.2.2.1, I.2.2.2.2.2.2.1, I.2.2.2.2.2.2.2.1 + n, I.2.2.2.2.2.2.2.2.1, 1, I.2.2.2.2.2.2.2.2.2.2.1, I.2.2.2.2.2.2.2.2.2.2.2), nE 200 (ad 29) cB tx, nE 24 (ad 14) cI (rowFill nt I.1 (fun j => tAt (tx, I.2.2.2.2.2.2.1) (I.2.2.2.2.2.2.2.1 + j) - 48) (min n 6))]) hx hb hts hiX10 tyX10 tyX10_ok nmX10 hown hK hP hV hS 0 rfl rfl 13 (by decide) wf98 (fun _ h9 => h9) rfl (by decide +kernel) rfl rfl (Nat.le_of_ble_eq_true rfl) dX10_rowItem_165 rfl rfl (fun H locs hP hS => ?_)
          refine lv_aload_n (pc := 168) hx hb dX10_rowItem_168 rfl (lv_at hl 1 rfl) ?_
          refine lv_dup (pc := 169) hx hb dX10_rowItem_169 rfl ?_
          refine va_get (pc := 170) (D := D) (ci := 10) (v := .int (nI I.1)) (C := RX10) (T := TX10) (N := 44) hx hb hts hiX10 hown hK hP 0 rfl rfl 12 (by decide) wf102 (fun _ h9 => h9) rfl dX10_rowItem_170 ?_
          refine lv_aload_n (pc := 173) hx hb dX10_rowItem_173 rfl (lv_at hl 1 rfl) ?_
          refine va_get (pc := 174) (D := D) (ci := 10) (v := .int (nI 1)) (C := RX10) (T := TX10) (N := 44) hx hb hts hiX10 hown hK hP 0 rfl rfl 32 (by decide) wf159 (fun _ h9 => h9) rfl dX10_rowItem_174 ?_
          refine r0_eq (pc := 177) (tgt := 184) hx hb (tI_nI (by omega)) dX10_rowItem_177 (by decide) (fun c177 => (by omega)) (fun c177 => ?_)
          refine lv_iconst (pc := 180) (v := nI 0) hx hb dX10_rowItem_180 (by decide) ?_
          refine lv_goto (pc := 181) (tgt := 185) hx hb dX10_rowItem_181 (by decide) ?_
          refine rn_iadd (pc := 185) hx hb dX10_rowItem_185 ?_
          refine ra_put (pc := 186) (D := D) (ci := 10) (v := .int (nI (I.1 + 0))) (ty := .int) (C := RX10) (T := TX10) (N := 44) (ws2 := [rmE o ad (pCells P) P.2.2.2.1 P.2.2.2.2.2.1 P.2.2.2.2.2.2 (I.1 + 0, I.2.1, I.2.2.1, I.2.2.2.1, I.2.2.2.2.1, I.2.2.2.2.2.1, I.2.2.2.2.2.2.1, I.2.2.2.2.2.2.2.1 + n, I.2.2.2.2.2.2.2.2.1, 1, I.2.2.2.2.2.2.2.2.2.2.1, I.2.2.2.2.2.2.2.2.2.2.2), nE 200 (ad 29) cB tx, nE 24 (ad 14) cI (rowFill nt I.1 (fun j => tAt (tx, I.2.2.2.2.2.2.1) (I.2.2.2.2.2.2.2.1 + j) - 48) (min n 6))]) hx hb hts hiX10 tyX10 tyX10_ok nmX10 hown hK hP hV hS 0 rfl rfl 12 (by decide) wf102 (fun _ h9 => h9) rfl (by decide +kernel) rfl rfl (Nat.le_of_ble_eq_true rfl) dX10_rowItem_186 rfl rfl (fun H locs hP hS => ?_)
          exact hret 189 _ hP hS dX10_rowItem_189 rfl (Or.inr ⟨row_bad hd (by omega) (Or.inr (by omega)) (by omega), I.2.2.2.2.2.2.2.1 + n, _, (by omega), fill_b htn (fun j => tAt_G hlt _) _, rfl⟩)
        · refine lv_aload_n (pc := 126) hx hb dX10_rowItem_126 rfl (lv_at hl 1 rfl) ?_
          refine va_get (pc := 127) (D := D) (ci := 10) (v := .int (nI I.2.1)) (C := RX10) (T := TX10) (N := 44) hx hb hts hiX10 hown hK hP 0 rfl rfl 13 (by decide) wf98 (fun _ h9 => h9) rfl dX10_rowItem_127 ?_
          refine r0_le (pc := 130) (tgt := 145) hx hb (tI_nI (by omega)) dX10_rowItem_130 (by decide) (fun c130 => ?_) (fun c130 => ?_)
          · refine lv_iconst (pc := 145) (v := nI 0) hx hb dX10_rowItem_145 (by decide) ?_
            refine ra_put (pc := 146) (D := D) (ci := 10) (v := .int (nI 0)) (ty := .boolean) (C := RX10) (T := TX10) (N := 44) (ws2 := [rmE o ad (pCells P) P.2.2.2.1 P.2.2.2.2.2.1 P.2.2.2.2.2.2 (I.1, I.2.1, I.2.2.1, I.2.2.2.1, I.2.2.2.2.1, I.2.2.2.2.2.1, I.2.2.2.2.2.2.1, I.2.2.2.2.2.2.2.1 + n, I.2.2.2.2.2.2.2.2.1, 0, I.2.2.2.2.2.2.2.2.2.2.1, I.2.2.2.2.2.2.2.2.2.2.2), nE 200 (ad 29) cB tx, nE 24 (ad 14) cI (rowFill nt I.1 (fun j => tAt (tx, I.2.2.2.2.2.2.1) (I.2.2.2.2.2.2.2.1 + j) - 48) (min n 6))]) hx hb hts hiX10 tyX10 tyX10_ok nmX10 hown hK hP hV hS 0 rfl rfl 32 (by decide) wf159 (fun _ h9 => h9) rfl (by decide +kernel) rfl rfl (Nat.le_of_ble_eq_true rfl) dX10_rowItem_146 rfl rfl (fun H locs hP hS => ?_)
            refine lv_aload_n (pc := 149) hx hb dX10_rowItem_149 rfl (lv_at hl 1 rfl) ?_
            refine lv_aload_n (pc := 150) hx hb dX10_rowItem_150 rfl (lv_at hl 1 rfl) ?_
            refine va_get (pc := 151) (D := D) (ci := 10) (v := .int (nI 0)) (C := RX10) (T := TX10) (N := 44) hx hb hts hiX10 hown hK hP 0 rfl rfl 32 (by decide) wf159 (fun _ h9 => h9) rfl dX10_rowItem_151 ?_
            refine r0_eq (pc := 154) (tgt := 164) hx hb (tI_nI (by omega)) dX10_rowItem_154 (by decide) (fun c154 => ?_) (fun c154 => (by omega))
            refine lv_iload_n (pc := 164) hx hb dX10_rowItem_164 rfl (lv_at hl 0 rfl) ?_
            refine ra_put (pc := 165) (D := D) (ci := 10) (v := .int (nI n)) (ty := .int) (C := RX10) (T := TX10) (N := 44) (ws2 := [rmE o ad (pCells P) P.2.2.2.1 P.2.2.2.2.2.1 P.2.2.2.2.2.2 (I.1, n, I.2.2.1, I.2.2.2.1, I.2.2.2.2.1, I.2.2.2.2.2.1, I.2.2.2.2.2.2.1, I.2.2.2.2.2.2.2.1 + n, I.2.2.2.2.2.2.2.2.1, 0, I.2.2.2.2.2.2.2.2.2.2.1, I.2.2.2.2.2.2.2.2.2.2.2), nE 200 (ad 29) cB tx, nE 24 (ad 14) cI (rowFill nt I.1 (fun j => tAt (tx, I.2.2.2.2.2.2.1) (I.2.2.2.2.2.2.2.1 + j) - 48) (min n 6))]) hx hb hts hiX10 tyX10 tyX10_ok nmX10 hown hK hP hV hS 0 rfl rfl 13 (by decide) wf98 (fun _ h9 => h9) rfl (by decide +kernel) rfl rfl (Nat.le_of_ble_eq_true rfl) dX10_rowItem_165 rfl rfl (fun H locs hP hS => ?_)
            refine lv_aload_n (pc := 168) hx hb dX10_rowItem_168 rfl (lv_at hl 1 rfl) ?_
            refine lv_dup (pc := 169) hx hb dX10_rowItem_169 rfl ?_
            refine va_get (pc := 170) (D := D) (ci := 10) (v := .int (nI I.1)) (C := RX10) (T := TX10) (N := 44) hx hb hts hiX10 hown hK hP 0 rfl rfl 12 (by decide) wf102 (fun _ h9 => h9) rfl dX10_rowItem_170 ?_
            refine lv_aload_n (pc := 173) hx hb dX10_rowItem_173 rfl (lv_at hl 1 rfl) ?_
            refine va_get (pc := 174) (D := D) (ci := 10) (v := .int (nI 0)) (C := RX10) (T := TX10) (N := 44) hx hb hts hiX10 hown hK hP 0 rfl rfl 32 (by decide) wf159 (fun _ h9 => h9) rfl dX10_rowItem_174 ?_
            refine r0_eq (pc := 177) (tgt := 184) hx hb (tI_nI (by omega)) dX10_rowItem_177 (by decide) (fun c177 => ?_) (fun c177 => (by omega))
            refine lv_iload_n (pc := 184) hx hb dX10_rowItem_184 rfl (lv_at hl 0 rfl) ?_
            refine rn_iadd (pc := 185) hx hb dX10_rowItem_185 ?_
            refine ra_put (pc := 186) (D := D) (ci := 10) (v := .int (nI (I.1 + n))) (ty := .int) (C := RX10) (T := TX10) (N := 44) (ws2 := [rmE o ad (pCells P) P.2.2.2.1 P.2.2.2.2.2.1 P.2.2.2.2.2.2 (I.1 + n, n, I.2.2.1, I.2.2.2.1, I.2.2.2.2.1, I.2.2.2.2.2.1, I.2.2.2.2.2.2.1, I.2.2.2.2.2.2.2.1 + n, I.2.2.2.2.2.2.2.2.1, 0, I.2.2.2.2.2.2.2.2.2.2.1, I.2.2.2.2.2.2.2.2.2.2.2), nE 200 (ad 29) cB tx, nE 24 (ad 14) cI (rowFill nt I.1 (fun j => tAt (tx, I.2.2.2.2.2.2.1) (I.2.2.2.2.2.2.2.1 + j) - 48) (min n 6))]) hx hb hts hiX10 tyX10 tyX10_ok nmX10 hown hK hP hV hS 0 rfl rfl 12 (by decide) wf102 (fun _ h9 => h9) rfl (by decide +kernel) rfl rfl (Nat.le_of_ble_eq_true rfl) dX10_rowItem_186 rfl rfl (fun H locs hP hS => ?_)
            exact hret 189 _ hP hS dX10_rowItem_189 rfl (Or.inl ⟨n, (by omega), (runN_is hd (fun _ => by omega) (by omega)).symm, (by omega), (by rw [show min n 6 = n by omega])⟩)
          · refine lv_iload_n (pc := 133) hx hb dX10_rowItem_133 rfl (lv_at hl 0 rfl) ?_
            refine lv_aload_n (pc := 134) hx hb dX10_rowItem_134 rfl (lv_at hl 1 rfl) ?_
            refine va_get (pc := 135) (D := D) (ci := 10) (v := .int (nI I.2.1)) (C := RX10) (T := TX10) (N := 44) hx hb hts hiX10 hown hK hP 0 rfl rfl 13 (by decide) wf98 (fun _ h9 => h9) rfl dX10_rowItem_135 ?_
            refine rc_eq (pc := 138) (tgt := 145) hx hb (tI_nI (by omega)) (tI_nI (by omega)) dX10_rowItem_138 (by decide) (fun c138 => ?_) (fun c138 => ?_)
            · refine lv_iconst (pc := 145) (v := nI 0) hx hb dX10_rowItem_145 (by decide) ?_
              refine ra_put (pc := 146) (D := D) (ci := 10) (v := .int (nI 0)) (ty := .boolean) (C := RX10) (T := TX10) (N := 44) (ws2 := [rmE o ad (pCells P) P.2.2.2.1 P.2.2.2.2.2.1 P.2.2.2.2.2.2 (I.1, I.2.1, I.2.2.1, I.2.2.2.1, I.2.2.2.2.1, I.2.2.2.2.2.1, I.2.2.2.2.2.2.1, I.2.2.2.2.2.2.2.1 + n, I.2.2.2.2.2.2.2.2.1, 0, I.2.2.2.2.2.2.2.2.2.2.1, I.2.2.2.2.2.2.2.2.2.2.2), nE 200 (ad 29) cB tx, nE 24 (ad 14) cI (rowFill nt I.1 (fun j => tAt (tx, I.2.2.2.2.2.2.1) (I.2.2.2.2.2.2.2.1 + j) - 48) (min n 6))]) hx hb hts hiX10 tyX10 tyX10_ok nmX10 hown hK hP hV hS 0 rfl rfl 32 (by decide) wf159 (fun _ h9 => h9) rfl (by decide +kernel) rfl rfl (Nat.le_of_ble_eq_true rfl) dX10_rowItem_146 rfl rfl (fun H locs hP hS => ?_)
              refine lv_aload_n (pc := 149) hx hb dX10_rowItem_149 rfl (lv_at hl 1 rfl) ?_
              refine lv_aload_n (pc := 150) hx hb dX10_rowItem_150 rfl (lv_at hl 1 rfl) ?_
              refine va_get (pc := 151) (D := D) (ci := 10) (v := .int (nI 0)) (C := RX10) (T := TX10) (N := 44) hx hb hts hiX10 hown hK hP 0 rfl rfl 32 (by decide) wf159 (fun _ h9 => h9) rfl dX10_rowItem_151 ?_
              refine r0_eq (pc := 154) (tgt := 164) hx hb (tI_nI (by omega)) dX10_rowItem_154 (by decide) (fun c154 => ?_) (fun c154 => (by omega))
              refine lv_iload_n (pc := 164) hx hb dX10_rowItem_164 rfl (lv_at hl 0 rfl) ?_
              refine ra_put (pc := 165) (D := D) (ci := 10) (v := .int (nI n)) (ty := .int) (C := RX10) (T := TX10) (N := 44) (ws2 := [rmE o ad (pCells P) P.2.2.2.1 P.2.2.2.2.2.1 P.2.2.2.2.2.2 (I.1, n, I.2.2.1, I.2.2.2.1, I.2.2.2.2.1, I.2.2.2.2.2.1, I.2.2.2.2.2.2.1, I.2.2.2.2.2.2.2.1 + n, I.2.2.2.2.2.2.2.2.1, 0, I.2.2.2.2.2.2.2.2.2.2.1, I.2.2.2.2.2.2.2.2.2.2.2), nE 200 (ad 29) cB tx, nE 24 (ad 14) cI (rowFill nt I.1 (fun j => tAt (tx, I.2.2.2.2.2.2.1) (I.2.2.2.2.2.2.2.1 + j) - 48) (min n 6))]) hx hb hts hiX10 tyX10 tyX10_ok nmX10 hown hK hP hV hS 0 rfl rfl 13 (by decide) wf98 (fun _ h9 => h9) rfl (by decide +kernel) rfl rfl (Nat.le_of_ble_eq_true rfl) dX10_rowItem_165 rfl rfl (fun H locs hP hS => ?_)
              refine lv_aload_n (pc := 168) hx hb dX10_rowItem_168 rfl (lv_at hl 1 rfl) ?_
              refine lv_dup (pc := 169) hx hb dX10_rowItem_169 rfl ?_
              refine va_get (pc := 170) (D := D) (ci := 10) (v := .int (nI I.1)) (C := RX10) (T := TX10) (N := 44) hx hb hts hiX10 hown hK hP 0 rfl rfl 12 (by decide) wf102 (fun _ h9 => h9) rfl dX10_rowItem_170 ?_
              refine lv_aload_n (pc := 173) hx hb dX10_rowItem_173 rfl (lv_at hl 1 rfl) ?_
              refine va_get (pc := 174) (D := D) (ci := 10) (v := .int (nI 0)) (C := RX10) (T := TX10) (N := 44) hx hb hts hiX10 hown hK hP 0 rfl rfl 32 (by decide) wf159 (fun _ h9 => h9) rfl dX10_rowItem_174 ?_
              refine r0_eq (pc := 177) (tgt := 184) hx hb (tI_nI (by omega)) dX10_rowItem_177 (by decide) (fun c177 => ?_) (fun c177 => (by omega))
              refine lv_iload_n (pc := 184) hx hb dX10_rowItem_184 rfl (lv_at hl 0 rfl) ?_
              refine rn_iadd (pc := 185) hx hb dX10_rowItem_185 ?_
              refine ra_put (pc := 186) (D := D) (ci := 10) (v := .int (nI (I.1 + n))) (ty := .int) (C := RX10) (T := TX10) (N := 44) (ws2 := [rmE o ad (pCells P) P.2.2.2.1 P.2.2.2.2.2.1 P.2.2.2.2.2.2 (I.1 + n, n, I.2.2.1, I.2.2.2.1, I.2.2.2.2.1, I.2.2.2.2.2.1, I.2.2.2.2.2.2.1, I.2.2.2.2.2.2.2.1 + n, I.2.2.2.2.2.2.2.2.1, 0, I.2.2.2.2.2.2.2.2.2.2.1, I.2.2.2.2.2.2.2.2.2.2.2), nE 200 (ad 29) cB tx, nE 24 (ad 14) cI (rowFill nt I.1 (fun j => tAt (tx, I.2.2.2.2.2.2.1) (I.2.2.2.2.2.2.2.1 + j) - 48) (min n 6))]) hx hb hts hiX10 tyX10 tyX10_ok nmX10 hown hK hP hV hS 0 rfl rfl 12 (by decide) wf102 (fun _ h9 => h9) rfl (by decide +kernel) rfl rfl (Nat.le_of_ble_eq_true rfl) dX10_rowItem_186 rfl rfl (fun H locs hP hS => ?_)
              exact hret 189 _ hP hS dX10_rowItem_189 rfl (Or.inl ⟨n, (by omega), (runN_is hd (fun _ => by omega) (by omega)).symm, (by omega), (by rw [show min n 6 = n by omega])⟩)
            · refine lv_iconst (pc := 141) (v := nI 1) hx hb dX10_rowItem_141 (by decide) ?_
              refine lv_goto (pc := 142) (tgt := 146) hx hb dX10_rowItem_142 (by decide) ?_
              refine ra_put (pc := 146) (D := D) (ci := 10) (v := .int (nI 1)) (ty := .boolean) (C := RX10) (T := TX10) (N := 44) (ws2 := [rmE o ad (pCells P) P.2.2.2.1 P.2.2.2.2.2.1 P.2.2.2.2.2.2 (I.1, I.2.1, I.2.2.1, I.2.2.2.1, I.2.2.2.2.1, I.2.2.2.2.2.1, I.2.2.2.2.2.2.1, I.2.2.2.2.2.2.2.1 + n, I.2.2.2.2.2.2.2.2.1, 1, I.2.2.2.2.2.2.2.2.2.2.1, I.2.2.2.2.2.2.2.2.2.2.2), nE 200 (ad 29) cB tx, nE 24 (ad 14) cI (rowFill nt I.1 (fun j => tAt (tx, I.2.2.2.2.2.2.1) (I.2.2.2.2.2.2.2.1 + j) - 48) (min n 6))]) hx hb hts hiX10 tyX10 tyX10_ok nmX10 hown hK hP hV hS 0 rfl rfl 32 (by decide) wf159 (fun _ h9 => h9) rfl (by decide +kernel) rfl rfl (Nat.le_of_ble_eq_true rfl) dX10_rowItem_146 rfl rfl (fun H locs hP hS => ?_)
              refine lv_aload_n (pc := 149) hx hb dX10_rowItem_149 rfl (lv_at hl 1 rfl) ?_
              refine lv_aload_n (pc := 150) hx hb dX10_rowItem_150 rfl (lv_at hl 1 rfl) ?_
              refine va_get (pc := 151) (D := D) (ci := 10) (v := .int (nI 1)) (C := RX10) (T := TX10) (N := 44) hx hb hts hiX10 hown hK hP 0 rfl rfl 32 (by decide) wf159 (fun _ h9 => h9) rfl dX10_rowItem_151 ?_
              refine r0_eq (pc := 154) (tgt := 164) hx hb (tI_nI (by omega)) dX10_rowItem_154 (by decide) (fun c154 => (by omega)) (fun c154 => ?_)
              refine lv_aload_n (pc := 157) hx hb dX10_rowItem_157 rfl (lv_at hl 1 rfl) ?_
              refine va_get (pc := 158) (D := D) (ci := 10) (v := .int (nI I.2.1)) (C := RX10) (T := TX10) (N := 44) hx hb hts hiX10 hown hK hP 0 rfl rfl 13 (by decide) wf98 (fun _ h9 => h9) rfl dX10_rowItem_158 ?_
              refine lv_goto (pc := 161) (tgt := 165) hx hb dX10_rowItem_161 (by decide) ?_
              refine ra_put (pc := 165) (D := D) (ci := 10) (v := .int (nI I.2.1)) (ty := .int) (C := RX10) (T := TX10) (N := 44) (ws2 := [rmE o ad (pCells P) P.2.2.2.1 P.2.2.2.2.2.1 P.2.2.2.2.2.2 (I.1, I.2.1, I.2.2.1, I.2.2.2.1, I.2.2.2.2.1, I.2.2.2.2.2.1, I.2.2.2.2.2.2.1, I.2.2.2.2.2.2.2.1 + n, I.2.2.2.2.2.2.2.2.1, 1, I.2.2.2.2.2.2.2.2.2.2.1, I.2.2.2.2.2.2.2.2.2.2.2), nE 200 (ad 29) cB tx, nE 24 (ad 14) cI (rowFill nt I.1 (fun j => tAt (tx, I.2.2.2.2.2.2.1) (I.2.2.2.2.2.2.2.1 + j) - 48) (min n 6))]) hx hb hts hiX10 tyX10 tyX10_ok nmX10 hown hK hP hV hS 0 rfl rfl 13 (by decide) wf98 (fun _ h9 => h9) rfl (by decide +kernel) rfl rfl (Nat.le_of_ble_eq_true rfl) dX10_rowItem_165 rfl rfl (fun H locs hP hS => ?_)
              refine lv_aload_n (pc := 168) hx hb dX10_rowItem_168 rfl (lv_at hl 1 rfl) ?_
              refine lv_dup (pc := 169) hx hb dX10_rowItem_169 rfl ?_
              refine va_get (pc := 170) (D := D) (ci := 10) (v := .int (nI I.1)) (C := RX10) (T := TX10) (N := 44) hx hb hts hiX10 hown hK hP 0 rfl rfl 12 (by decide) wf102 (fun _ h9 => h9) rfl dX10_rowItem_170 ?_
              refine lv_aload_n (pc := 173) hx hb dX10_rowItem_173 rfl (lv_at hl 1 rfl) ?_
              refine va_get (pc := 174) (D := D) (ci := 10) (v := .int (nI 1)) (C := RX10) (T := TX10) (N := 44) hx hb hts hiX10 hown hK hP 0 rfl rfl 32 (by decide) wf159 (fun _ h9 => h9) rfl dX10_rowItem_174 ?_
              refine r0_eq (pc := 177) (tgt := 184) hx hb (tI_nI (by omega)) dX10_rowItem_177 (by decide) (fun c177 => (by omega)) (fun c177 => ?_)
              refine lv_iconst (pc := 180) (v := nI 0) hx hb dX10_rowItem_180 (by decide) ?_
              refine lv_goto (pc := 181) (tgt := 185) hx hb dX10_rowItem_181 (by decide) ?_
              refine rn_iadd (pc := 185) hx hb dX10_rowItem_185 ?_
              refine ra_put (pc := 186) (D := D) (ci := 10) (v := .int (nI (I.1 + 0))) (ty := .int) (C := RX10) (T := TX10) (N := 44) (ws2 := [rmE o ad (pCells P) P.2.2.2.1 P.2.2.2.2.2.1 P.2.2.2.2.2.2 (I.1 + 0, I.2.1, I.2.2.1, I.2.2.2.1, I.2.2.2.2.1, I.2.2.2.2.2.1, I.2.2.2.2.2.2.1, I.2.2.2.2.2.2.2.1 + n, I.2.2.2.2.2.2.2.2.1, 1, I.2.2.2.2.2.2.2.2.2.2.1, I.2.2.2.2.2.2.2.2.2.2.2), nE 200 (ad 29) cB tx, nE 24 (ad 14) cI (rowFill nt I.1 (fun j => tAt (tx, I.2.2.2.2.2.2.1) (I.2.2.2.2.2.2.2.1 + j) - 48) (min n 6))]) hx hb hts hiX10 tyX10 tyX10_ok nmX10 hown hK hP hV hS 0 rfl rfl 12 (by decide) wf102 (fun _ h9 => h9) rfl (by decide +kernel) rfl rfl (Nat.le_of_ble_eq_true rfl) dX10_rowItem_186 rfl rfl (fun H locs hP hS => ?_)
              exact hret 189 _ hP hS dX10_rowItem_189 rfl (Or.inr ⟨row_bad hd (by omega) (Or.inr (by omega)) (by omega), I.2.2.2.2.2.2.2.1 + n, _, (by omega), fill_b htn (fun j => tAt_G hlt _) _, rfl⟩)
      · refine lv_iload_n (pc := 48) hx hb dX10_rowItem_48 rfl (lv_at hl 0 rfl) ?_
        refine lv_bipush (pc := 49) (v := nI 7) hx hb dX10_rowItem_49 (by decide) ?_
        refine rc_ge (pc := 51) (tgt := 106) hx hb (tI_nI (by omega)) (tI_nI (by omega)) dX10_rowItem_51 (by decide) (fun c51 => ?_) (fun c51 => ?_)
        · refine lv_aload_n (pc := 106) hx hb dX10_rowItem_106 rfl (lv_at hl 1 rfl) ?_
          refine lv_aload_n (pc := 107) hx hb dX10_rowItem_107 rfl (lv_at hl 1 rfl) ?_
          refine va_get (pc := 108) (D := D) (ci := 10) (v := .int (nI 0)) (C := RX10) (T := TX10) (N := 44) hx hb hts hiX10 hown hK hP 0 rfl rfl 32 (by decide) wf159 (fun _ h9 => h9) rfl dX10_rowItem_108 ?_
          refine r0_ne (pc := 111) (tgt := 141) hx hb (tI_nI (by omega)) dX10_rowItem_111 (by decide) (fun c111 => (by omega)) (fun c111 => ?_)
          refine lv_iload_n (pc := 114) hx hb dX10_rowItem_114 rfl (lv_at hl 0 rfl) ?_
          refine lv_i2l (pc := 115) (v := jL ((n : Nat) : Int)) hx hb dX10_rowItem_115 (i2l_j (tI_nI (by omega))) ?_
          refine lv_lconst (pc := 116) (v := jL 1) hx hb dX10_rowItem_116 (by decide) ?_
          refine lv_ldc2 (pc := 117) (v := jL 6) hx hb hown (hts (.constantLong RX10 170 (jL 6)) (by decide +kernel)) dX10_rowItem_117 ?_
          refine ci_Sd (pc := 120) hF hN hK hP hV hS hA (k_X10_in l D cI cC cB cS ((n : Nat) : Int) 1 6 (by omega)) (va_cwS 3 hts gX10_rowItem_X10_in rfl rfl rfl (by decide +kernel) ⟨Nat.le_of_ble_eq_true rfl, Nat.le_of_ble_eq_true rfl⟩) [] rfl (by decide) rfl hl.1 rfl (Nat.le_of_ble_eq_true rfl) dX10_rowItem_120 ⟨Nat.le_refl _, Nat.le_refl _⟩ rfl (ws2 := [rmE o ad (pCells P) P.2.2.2.1 P.2.2.2.2.2.1 P.2.2.2.2.2.2 (I.1, I.2.1, I.2.2.1, I.2.2.2.1, I.2.2.2.2.1, I.2.2.2.2.2.1, I.2.2.2.2.2.2.1, I.2.2.2.2.2.2.2.1 + n, I.2.2.2.2.2.2.2.2.1, 0, I.2.2.2.2.2.2.2.2.2.2.1, I.2.2.2.2.2.2.2.2.2.2.2), nE 200 (ad 29) cB tx, nE 24 (ad 14) cI (rowFill nt I.1 (fun j => tAt (tx, I.2.2.2.2.2.2.1) (I.2.2.2.2.2.2.2.1 + j) - 48) (min n 6))]) rfl (fun H locs hP hS => ?_)
          refine rb_eq (pc := 123) (tgt := 141) hx hb dX10_rowItem_123 (by decide) (fun c123 => ?_) (fun c123 => ?_)
          · refine lv_iconst (pc := 141) (v := nI 1) hx hb dX10_rowItem_141 (by decide) ?_
            refine lv_goto (pc := 142) (tgt := 146) hx hb dX10_rowItem_142 (by decide) ?_
            refine ra_put (pc := 146) (D := D) (ci := 10) (v := .int (nI 1)) (ty := .boolean) (C := RX10) (T := TX10) (N := 44) (ws2 := [rmE o ad (pCells P) P.2.2.2.1 P.2.2.2.2.2.1 P.2.2.2.2.2.2 (I.1, I.2.1, I.2.2.1, I.2.2.2.1, I.2.2.2.2.1, I.2.2.2.2.2.1, I.2.2.2.2.2.2.1, I.2.2.2.2.2.2.2.1 + n, I.2.2.2.2.2.2.2.2.1, 1, I.2.2.2.2.2.2.2.2.2.2.1, I.2.2.2.2.2.2.2.2.2.2.2), nE 200 (ad 29) cB tx, nE 24 (ad 14) cI (rowFill nt I.1 (fun j => tAt (tx, I.2.2.2.2.2.2.1) (I.2.2.2.2.2.2.2.1 + j) - 48) (min n 6))]) hx hb hts hiX10 tyX10 tyX10_ok nmX10 hown hK hP hV hS 0 rfl rfl 32 (by decide) wf159 (fun _ h9 => h9) rfl (by decide +kernel) rfl rfl (Nat.le_of_ble_eq_true rfl) dX10_rowItem_146 rfl rfl (fun H locs hP hS => ?_)
            refine lv_aload_n (pc := 149) hx hb dX10_rowItem_149 rfl (lv_at hl 1 rfl) ?_
            refine lv_aload_n (pc := 150) hx hb dX10_rowItem_150 rfl (lv_at hl 1 rfl) ?_
            refine va_get (pc := 151) (D := D) (ci := 10) (v := .int (nI 1)) (C := RX10) (T := TX10) (N := 44) hx hb hts hiX10 hown hK hP 0 rfl rfl 32 (by decide) wf159 (fun _ h9 => h9) rfl dX10_rowItem_151 ?_
            refine r0_eq (pc := 154) (tgt := 164) hx hb (tI_nI (by omega)) dX10_rowItem_154 (by decide) (fun c154 => (by omega)) (fun c154 => ?_)
            refine lv_aload_n (pc := 157) hx hb dX10_rowItem_157 rfl (lv_at hl 1 rfl) ?_
            refine va_get (pc := 158) (D := D) (ci := 10) (v := .int (nI I.2.1)) (C := RX10) (T := TX10) (N := 44) hx hb hts hiX10 hown hK hP 0 rfl rfl 13 (by decide) wf98 (fun _ h9 => h9) rfl dX10_rowItem_158 ?_
            refine lv_goto (pc := 161) (tgt := 165) hx hb dX10_rowItem_161 (by decide) ?_
            refine ra_put (pc := 165) (D := D) (ci := 10) (v := .int (nI I.2.1)) (ty := .int) (C := RX10) (T := TX10) (N := 44) (ws2 := [rmE o ad (pCells P) P.2.2.2.1 P.2.2.2.2.2.1 P.2.2.2.2.2.2 (I.1, I.2.1, I.2.2.1, I.2.2.2.1, I.2.2.2.2.1, I.2.2.2.2.2.1, I.2.2.2.2.2.2.1, I.2.2.2.2.2.2.2.1 + n, I.2.2.2.2.2.2.2.2.1, 1, I.2.2.2.2.2.2.2.2.2.2.1, I.2.2.2.2.2.2.2.2.2.2.2), nE 200 (ad 29) cB tx, nE 24 (ad 14) cI (rowFill nt I.1 (fun j => tAt (tx, I.2.2.2.2.2.2.1) (I.2.2.2.2.2.2.2.1 + j) - 48) (min n 6))]) hx hb hts hiX10 tyX10 tyX10_ok nmX10 hown hK hP hV hS 0 rfl rfl 13 (by decide) wf98 (fun _ h9 => h9) rfl (by decide +kernel) rfl rfl (Nat.le_of_ble_eq_true rfl) dX10_rowItem_165 rfl rfl (fun H locs hP hS => ?_)
            refine lv_aload_n (pc := 168) hx hb dX10_rowItem_168 rfl (lv_at hl 1 rfl) ?_
            refine lv_dup (pc := 169) hx hb dX10_rowItem_169 rfl ?_
            refine va_get (pc := 170) (D := D) (ci := 10) (v := .int (nI I.1)) (C := RX10) (T := TX10) (N := 44) hx hb hts hiX10 hown hK hP 0 rfl rfl 12 (by decide) wf102 (fun _ h9 => h9) rfl dX10_rowItem_170 ?_
            refine lv_aload_n (pc := 173) hx hb dX10_rowItem_173 rfl (lv_at hl 1 rfl) ?_
            refine va_get (pc := 174) (D := D) (ci := 10) (v := .int (nI 1)) (C := RX10) (T := TX10) (N := 44) hx hb hts hiX10 hown hK hP 0 rfl rfl 32 (by decide) wf159 (fun _ h9 => h9) rfl dX10_rowItem_174 ?_
            refine r0_eq (pc := 177) (tgt := 184) hx hb (tI_nI (by omega)) dX10_rowItem_177 (by decide) (fun c177 => (by omega)) (fun c177 => ?_)
            refine lv_iconst (pc := 180) (v := nI 0) hx hb dX10_rowItem_180 (by decide) ?_
            refine lv_goto (pc := 181) (tgt := 185) hx hb dX10_rowItem_181 (by decide) ?_
            refine rn_iadd (pc := 185) hx hb dX10_rowItem_185 ?_
            refine ra_put (pc := 186) (D := D) (ci := 10) (v := .int (nI (I.1 + 0))) (ty := .int) (C := RX10) (T := TX10) (N := 44) (ws2 := [rmE o ad (pCells P) P.2.2.2.1 P.2.2.2.2.2.1 P.2.2.2.2.2.2 (I.1 + 0, I.2.1, I.2.2.1, I.2.2.2.1, I.2.2.2.2.1, I.2.2.2.2.2.1, I.2.2.2.2.2.2.1, I.2.2.2.2.2.2.2.1 + n, I.2.2.2.2.2.2.2.2.1, 1, I.2.2.2.2.2.2.2.2.2.2.1, I.2.2.2.2.2.2.2.2.2.2.2), nE 200 (ad 29) cB tx, nE 24 (ad 14) cI (rowFill nt I.1 (fun j => tAt (tx, I.2.2.2.2.2.2.1) (I.2.2.2.2.2.2.2.1 + j) - 48) (min n 6))]) hx hb hts hiX10 tyX10 tyX10_ok nmX10 hown hK hP hV hS 0 rfl rfl 12 (by decide) wf102 (fun _ h9 => h9) rfl (by decide +kernel) rfl rfl (Nat.le_of_ble_eq_true rfl) dX10_rowItem_186 rfl rfl (fun H locs hP hS => ?_)
            exact hret 189 _ hP hS dX10_rowItem_189 rfl (Or.inr ⟨row_bad hd (by omega) (Or.inl (by omega)) (Or.inl (by omega)), I.2.2.2.2.2.2.2.1 + n, _, (by omega), fill_b htn (fun j => tAt_G hlt _) _, rfl⟩)
          · refine lv_aload_n (pc := 126) hx hb dX10_rowItem_126 rfl (lv_at hl 1 rfl) ?_
            refine va_get (pc := 127) (D := D) (ci := 10) (v := .int (nI I.2.1)) (C := RX10) (T := TX10) (N := 44) hx hb hts hiX10 hown hK hP 0 rfl rfl 13 (by decide) wf98 (fun _ h9 => h9) rfl dX10_rowItem_127 ?_
            refine r0_le (pc := 130) (tgt := 145) hx hb (tI_nI (by omega)) dX10_rowItem_130 (by decide) (fun c130 => ?_) (fun c130 => ?_)
            · refine lv_iconst (pc := 145) (v := nI 0) hx hb dX10_rowItem_145 (by decide) ?_
              refine ra_put (pc := 146) (D := D) (ci := 10) (v := .int (nI 0)) (ty := .boolean) (C := RX10) (T := TX10) (N := 44) (ws2 := [rmE o ad (pCells P) P.2.2.2.1 P.2.2.2.2.2.1 P.2.2.2.2.2.2 (I.1, I.2.1, I.2.2.1, I.2.2.2.1, I.2.2.2.2.1, I.2.2.2.2.2.1, I.2.2.2.2.2.2.1, I.2.2.2.2.2.2.2.1 + n, I.2.2.2.2.2.2.2.2.1, 0, I.2.2.2.2.2.2.2.2.2.2.1, I.2.2.2.2.2.2.2.2.2.2.2), nE 200 (ad 29) cB tx, nE 24 (ad 14) cI (rowFill nt I.1 (fun j => tAt (tx, I.2.2.2.2.2.2.1) (I.2.2.2.2.2.2.2.1 + j) - 48) (min n 6))]) hx hb hts hiX10 tyX10 tyX10_ok nmX10 hown hK hP hV hS 0 rfl rfl 32 (by decide) wf159 (fun _ h9 => h9) rfl (by decide +kernel) rfl rfl (Nat.le_of_ble_eq_true rfl) dX10_rowItem_146 rfl rfl (fun H locs hP hS => ?_)
              refine lv_aload_n (pc := 149) hx hb dX10_rowItem_149 rfl (lv_at hl 1 rfl) ?_
              refine lv_aload_n (pc := 150) hx hb dX10_rowItem_150 rfl (lv_at hl 1 rfl) ?_
              refine va_get (pc := 151) (D := D) (ci := 10) (v := .int (nI 0)) (C := RX10) (T := TX10) (N := 44) hx hb hts hiX10 hown hK hP 0 rfl rfl 32 (by decide) wf159 (fun _ h9 => h9) rfl dX10_rowItem_151 ?_
              refine r0_eq (pc := 154) (tgt := 164) hx hb (tI_nI (by omega)) dX10_rowItem_154 (by decide) (fun c154 => ?_) (fun c154 => (by omega))
              refine lv_iload_n (pc := 164) hx hb dX10_rowItem_164 rfl (lv_at hl 0 rfl) ?_
              refine ra_put (pc := 165) (D := D) (ci := 10) (v := .int (nI n)) (ty := .int) (C := RX10) (T := TX10) (N := 44) (ws2 := [rmE o ad (pCells P) P.2.2.2.1 P.2.2.2.2.2.1 P.2.2.2.2.2.2 (I.1, n, I.2.2.1, I.2.2.2.1, I.2.2.2.2.1, I.2.2.2.2.2.1, I.2.2.2.2.2.2.1, I.2.2.2.2.2.2.2.1 + n, I.2.2.2.2.2.2.2.2.1, 0, I.2.2.2.2.2.2.2.2.2.2.1, I.2.2.2.2.2.2.2.2.2.2.2), nE 200 (ad 29) cB tx, nE 24 (ad 14) cI (rowFill nt I.1 (fun j => tAt (tx, I.2.2.2.2.2.2.1) (I.2.2.2.2.2.2.2.1 + j) - 48) (min n 6))]) hx hb hts hiX10 tyX10 tyX10_ok nmX10 hown hK hP hV hS 0 rfl rfl 13 (by decide) wf98 (fun _ h9 => h9) rfl (by decide +kernel) rfl rfl (Nat.le_of_ble_eq_true rfl) dX10_rowItem_165 rfl rfl (fun H locs hP hS => ?_)
              refine lv_aload_n (pc := 168) hx hb dX10_rowItem_168 rfl (lv_at hl 1 rfl) ?_
              refine lv_dup (pc := 169) hx hb dX10_rowItem_169 rfl ?_
              refine va_get (pc := 170) (D := D) (ci := 10) (v := .int (nI I.1)) (C := RX10) (T := TX10) (N := 44) hx hb hts hiX10 hown hK hP 0 rfl rfl 12 (by decide) wf102 (fun _ h9 => h9) rfl dX10_rowItem_170 ?_
              refine lv_aload_n (pc := 173) hx hb dX10_rowItem_173 rfl (lv_at hl 1 rfl) ?_
              refine va_get (pc := 174) (D := D) (ci := 10) (v := .int (nI 0)) (C := RX10) (T := TX10) (N := 44) hx hb hts hiX10 hown hK hP 0 rfl rfl 32 (by decide) wf159 (fun _ h9 => h9) rfl dX10_rowItem_174 ?_
              refine r0_eq (pc := 177) (tgt := 184) hx hb (tI_nI (by omega)) dX10_rowItem_177 (by decide) (fun c177 => ?_) (fun c177 => (by omega))
              refine lv_iload_n (pc := 184) hx hb dX10_rowItem_184 rfl (lv_at hl 0 rfl) ?_
              refine rn_iadd (pc := 185) hx hb dX10_rowItem_185 ?_
              refine ra_put (pc := 186) (D := D) (ci := 10) (v := .int (nI (I.1 + n))) (ty := .int) (C := RX10) (T := TX10) (N := 44) (ws2 := [rmE o ad (pCells P) P.2.2.2.1 P.2.2.2.2.2.1 P.2.2.2.2.2.2 (I.1 + n, n, I.2.2.1, I.2.2.2.1, I.2.2.2.2.1, I.2.2.2.2.2.1, I.2.2.2.2.2.2.1, I.2.2.2.2.2.2.2.1 + n, I.2.2.2.2.2.2.2.2.1, 0, I.2.2.2.2.2.2.2.2.2.2.1, I.2.2.2.2.2.2.2.2.2.2.2), nE 200 (ad 29) cB tx, nE 24 (ad 14) cI (rowFill nt I.1 (fun j => tAt (tx, I.2.2.2.2.2.2.1) (I.2.2.2.2.2.2.2.1 + j) - 48) (min n 6))]) hx hb hts hiX10 tyX10 tyX10_ok nmX10 hown hK hP hV hS 0 rfl rfl 12 (by decide) wf102 (fun _ h9 => h9) rfl (by decide +kernel) rfl rfl (Nat.le_of_ble_eq_true rfl) dX10_rowItem_186 rfl rfl (fun H locs hP hS => ?_)
              exact hret 189 _ hP hS dX10_rowItem_189 rfl (by exfalso; omega)
            · refine lv_iload_n (pc := 133) hx hb dX10_rowItem_133 rfl (lv_at hl 0 rfl) ?_
              refine lv_aload_n (pc := 134) hx hb dX10_rowItem_134 rfl (lv_at hl 1 rfl) ?_
              refine va_get (pc := 135) (D := D) (ci := 10) (v := .int (nI I.2.1)) (C := RX10) (T := TX10) (N := 44) hx hb hts hiX10 hown hK hP 0 rfl rfl 13 (by decide) wf98 (fun _ h9 => h9) rfl dX10_rowItem_135 ?_
              refine rc_eq (pc := 138) (tgt := 145) hx hb (tI_nI (by omega)) (tI_nI (by omega)) dX10_rowItem_138 (by decide) (fun c138 => ?_) (fun c138 => ?_)
              · refine lv_iconst (pc := 145) (v := nI 0) hx hb dX10_rowItem_145 (by decide) ?_
                refine ra_put (pc := 146) (D := D) (ci := 10) (v := .int (nI 0)) (ty := .boolean) (C := RX10) (T := TX10) (N := 44) (ws2 := [rmE o ad (pCells P) P.2.2.2.1 P.2.2.2.2.2.1 P.2.2.2.2.2.2 (I.1, I.2.1, I.2.2.1, I.2.2.2.1, I.2.2.2.2.1, I.2.2.2.2.2.1, I.2.2.2.2.2.2.1, I.2.2.2.2.2.2.2.1 + n, I.2.2.2.2.2.2.2.2.1, 0, I.2.2.2.2.2.2.2.2.2.2.1, I.2.2.2.2.2.2.2.2.2.2.2), nE 200 (ad 29) cB tx, nE 24 (ad 14) cI (rowFill nt I.1 (fun j => tAt (tx, I.2.2.2.2.2.2.1) (I.2.2.2.2.2.2.2.1 + j) - 48) (min n 6))]) hx hb hts hiX10 tyX10 tyX10_ok nmX10 hown hK hP hV hS 0 rfl rfl 32 (by decide) wf159 (fun _ h9 => h9) rfl (by decide +kernel) rfl rfl (Nat.le_of_ble_eq_true rfl) dX10_rowItem_146 rfl rfl (fun H locs hP hS => ?_)
                refine lv_aload_n (pc := 149) hx hb dX10_rowItem_149 rfl (lv_at hl 1 rfl) ?_
                refine lv_aload_n (pc := 150) hx hb dX10_rowItem_150 rfl (lv_at hl 1 rfl) ?_
                refine va_get (pc := 151) (D := D) (ci := 10) (v := .int (nI 0)) (C := RX10) (T := TX10) (N := 44) hx hb hts hiX10 hown hK hP 0 rfl rfl 32 (by decide) wf159 (fun _ h9 => h9) rfl dX10_rowItem_151 ?_
                refine r0_eq (pc := 154) (tgt := 164) hx hb (tI_nI (by omega)) dX10_rowItem_154 (by decide) (fun c154 => ?_) (fun c154 => (by omega))
                refine lv_iload_n (pc := 164) hx hb dX10_rowItem_164 rfl (lv_at hl 0 rfl) ?_
                refine ra_put (pc := 165) (D := D) (ci := 10) (v := .int (nI n)) (ty := .int) (C := RX10) (T := TX10) (N := 44) (ws2 := [rmE o ad (pCells P) P.2.2.2.1 P.2.2.2.2.2.1 P.2.2.2.2.2.2 (I.1, n, I.2.2.1, I.2.2.2.1, I.2.2.2.2.1, I.2.2.2.2.2.1, I.2.2.2.2.2.2.1, I.2.2.2.2.2.2.2.1 + n, I.2.2.2.2.2.2.2.2.1, 0, I.2.2.2.2.2.2.2.2.2.2.1, I.2.2.2.2.2.2.2.2.2.2.2), nE 200 (ad 29) cB tx, nE 24 (ad 14) cI (rowFill nt I.1 (fun j => tAt (tx, I.2.2.2.2.2.2.1) (I.2.2.2.2.2.2.2.1 + j) - 48) (min n 6))]) hx hb hts hiX10 tyX10 tyX10_ok nmX10 hown hK hP hV hS 0 rfl rfl 13 (by decide) wf98 (fun _ h9 => h9) rfl (by decide +kernel) rfl rfl (Nat.le_of_ble_eq_true rfl) dX10_rowItem_165 rfl rfl (fun H locs hP hS => ?_)
                refine lv_aload_n (pc := 168) hx hb dX10_rowItem_168 rfl (lv_at hl 1 rfl) ?_
                refine lv_dup (pc := 169) hx hb dX10_rowItem_169 rfl ?_
                refine va_get (pc := 170) (D := D) (ci := 10) (v := .int (nI I.1)) (C := RX10) (T := TX10) (N := 44) hx hb hts hiX10 hown hK hP 0 rfl rfl 12 (by decide) wf102 (fun _ h9 => h9) rfl dX10_rowItem_170 ?_
                refine lv_aload_n (pc := 173) hx hb dX10_rowItem_173 rfl (lv_at hl 1 rfl) ?_
                refine va_get (pc := 174) (D := D) (ci := 10) (v := .int (nI 0)) (C := RX10) (T := TX10) (N := 44) hx hb hts hiX10 hown hK hP 0 rfl rfl 32 (by decide) wf159 (fun _ h9 => h9) rfl dX10_rowItem_174 ?_
                refine r0_eq (pc := 177) (tgt := 184) hx hb (tI_nI (by omega)) dX10_rowItem_177 (by decide) (fun c177 => ?_) (fun c177 => (by omega))
                refine lv_iload_n (pc := 184) hx hb dX10_rowItem_184 rfl (lv_at hl 0 rfl) ?_
                refine rn_iadd (pc := 185) hx hb dX10_rowItem_185 ?_
                refine ra_put (pc := 186) (D := D) (ci := 10) (v := .int (nI (I.1 + n))) (ty := .int) (C := RX10) (T := TX10) (N := 44) (ws2 := [rmE o ad (pCells P) P.2.2.2.1 P.2.2.2.2.2.1 P.2.2.2.2.2.2 (I.1 + n, n, I.2.2.1, I.2.2.2.1, I.2.2.2.2.1, I.2.2.2.2.2.1, I.2.2.2.2.2.2.1, I.2.2.2.2.2.2.2.1 + n, I.2.2.2.2.2.2.2.2.1, 0, I.2.2.2.2.2.2.2.2.2.2.1, I.2.2.2.2.2.2.2.2.2.2.2), nE 200 (ad 29) cB tx, nE 24 (ad 14) cI (rowFill nt I.1 (fun j => tAt (tx, I.2.2.2.2.2.2.1) (I.2.2.2.2.2.2.2.1 + j) - 48) (min n 6))]) hx hb hts hiX10 tyX10 tyX10_ok nmX10 hown hK hP hV hS 0 rfl rfl 12 (by decide) wf102 (fun _ h9 => h9) rfl (by decide +kernel) rfl rfl (Nat.le_of_ble_eq_true rfl) dX10_rowItem_186 rfl rfl (fun H locs hP hS => ?_)
                exact hret 189 _ hP hS dX10_rowItem_189 rfl (by exfalso; omega)
              · refine lv_iconst (pc := 141) (v := nI 1) hx hb dX10_rowItem_141 (by decide) ?_
                refine lv_goto (pc := 142) (tgt := 146) hx hb dX10_rowItem_142 (by decide) ?_
                refine ra_put (pc := 146) (D := D) (ci := 10) (v := .int (nI 1)) (ty := .boolean) (C := RX10) (T := TX10) (N := 44) (ws2 := [rmE o ad (pCells P) P.2.2.2.1 P.2.2.2.2.2.1 P.2.2.2.2.2.2 (I.1, I.2.1, I.2.2.1, I.2.2.2.1, I.2.2.2.2.1, I.2.2.2.2.2.1, I.2.2.2.2.2.2.1, I.2.2.2.2.2.2.2.1 + n, I.2.2.2.2.2.2.2.2.1, 1, I.2.2.2.2.2.2.2.2.2.2.1, I.2.2.2.2.2.2.2.2.2.2.2), nE 200 (ad 29) cB tx, nE 24 (ad 14) cI (rowFill nt I.1 (fun j => tAt (tx, I.2.2.2.2.2.2.1) (I.2.2.2.2.2.2.2.1 + j) - 48) (min n 6))]) hx hb hts hiX10 tyX10 tyX10_ok nmX10 hown hK hP hV hS 0 rfl rfl 32 (by decide) wf159 (fun _ h9 => h9) rfl (by decide +kernel) rfl rfl (Nat.le_of_ble_eq_true rfl) dX10_rowItem_146 rfl rfl (fun H locs hP hS => ?_)
                refine lv_aload_n (pc := 149) hx hb dX10_rowItem_149 rfl (lv_at hl 1 rfl) ?_
                refine lv_aload_n (pc := 150) hx hb dX10_rowItem_150 rfl (lv_at hl 1 rfl) ?_
                refine va_get (pc := 151) (D := D) (ci := 10) (v := .int (nI 1)) (C := RX10) (T := TX10) (N := 44) hx hb hts hiX10 hown hK hP 0 rfl rfl 32 (by decide) wf159 (fun _ h9 => h9) rfl dX10_rowItem_151 ?_
                refine r0_eq (pc := 154) (tgt := 164) hx hb (tI_nI (by omega)) dX10_rowItem_154 (by decide) (fun c154 => (by omega)) (fun c154 => ?_)
                refine lv_aload_n (pc := 157) hx hb dX10_rowItem_157 rfl (lv_at hl 1 rfl) ?_
                refine va_get (pc := 158) (D := D) (ci := 10) (v := .int (nI I.2.1)) (C := RX10) (T := TX10) (N := 44) hx hb hts hiX10 hown hK hP 0 rfl rfl 13 (by decide) wf98 (fun _ h9 => h9) rfl dX10_rowItem_158 ?_
                refine lv_goto (pc := 161) (tgt := 165) hx hb dX10_rowItem_161 (by decide) ?_
                refine ra_put (pc := 165) (D := D) (ci := 10) (v := .int (nI I.2.1)) (ty := .int) (C := RX10) (T := TX10) (N := 44) (ws2 := [rmE o ad (pCells P) P.2.2.2.1 P.2.2.2.2.2.1 P.2.2.2.2.2.2 (I.1, I.2.1, I.2.2.1, I.2.2.2.1, I.2.2.2.2.1, I.2.2.2.2.2.1, I.2.2.2.2.2.2.1, I.2.2.2.2.2.2.2.1 + n, I.2.2.2.2.2.2.2.2.1, 1, I.2.2.2.2.2.2.2.2.2.2.1, I.2.2.2.2.2.2.2.2.2.2.2), nE 200 (ad 29) cB tx, nE 24 (ad 14) cI (rowFill nt I.1 (fun j => tAt (tx, I.2.2.2.2.2.2.1) (I.2.2.2.2.2.2.2.1 + j) - 48) (min n 6))]) hx hb hts hiX10 tyX10 tyX10_ok nmX10 hown hK hP hV hS 0 rfl rfl 13 (by decide) wf98 (fun _ h9 => h9) rfl (by decide +kernel) rfl rfl (Nat.le_of_ble_eq_true rfl) dX10_rowItem_165 rfl rfl (fun H locs hP hS => ?_)
                refine lv_aload_n (pc := 168) hx hb dX10_rowItem_168 rfl (lv_at hl 1 rfl) ?_
                refine lv_dup (pc := 169) hx hb dX10_rowItem_169 rfl ?_
                refine va_get (pc := 170) (D := D) (ci := 10) (v := .int (nI I.1)) (C := RX10) (T := TX10) (N := 44) hx hb hts hiX10 hown hK hP 0 rfl rfl 12 (by decide) wf102 (fun _ h9 => h9) rfl dX10_rowItem_170 ?_
                refine lv_aload_n (pc := 173) hx hb dX10_rowItem_173 rfl (lv_at hl 1 rfl) ?_
                refine va_get (pc := 174) (D := D) (ci := 10) (v := .int (nI 1)) (C := RX10) (T := TX10) (N := 44) hx hb hts hiX10 hown hK hP 0 rfl rfl 32 (by decide) wf159 (fun _ h9 => h9) rfl dX10_rowItem_174 ?_
                refine r0_eq (pc := 177) (tgt := 184) hx hb (tI_nI (by omega)) dX10_rowItem_177 (by decide) (fun c177 => (by omega)) (fun c177 => ?_)
                refine lv_iconst (pc := 180) (v := nI 0) hx hb dX10_rowItem_180 (by decide) ?_
                refine lv_goto (pc := 181) (tgt := 185) hx hb dX10_rowItem_181 (by decide) ?_
                refine rn_iadd (pc := 185) hx hb dX10_rowItem_185 ?_
                refine ra_put (pc := 186) (D := D) (ci := 10) (v := .int (nI (I.1 + 0))) (ty := .int) (C := RX10) (T := TX10) (N := 44) (ws2 := [rmE o ad (pCells P) P.2.2.2.1 P.2.2.2.2.2.1 P.2.2.2.2.2.2 (I.1 + 0, I.2.1, I.2.2.1, I.2.2.2.1, I.2.2.2.2.1, I.2.2.2.2.2.1, I.2.2.2.2.2.2.1, I.2.2.2.2.2.2.2.1 + n, I.2.2.2.2.2.2.2.2.1, 1, I.2.2.2.2.2.2.2.2.2.2.1, I.2.2.2.2.2.2.2.2.2.2.2), nE 200 (ad 29) cB tx, nE 24 (ad 14) cI (rowFill nt I.1 (fun j => tAt (tx, I.2.2.2.2.2.2.1) (I.2.2.2.2.2.2.2.1 + j) - 48) (min n 6))]) hx hb hts hiX10 tyX10 tyX10_ok nmX10 hown hK hP hV hS 0 rfl rfl 12 (by decide) wf102 (fun _ h9 => h9) rfl (by decide +kernel) rfl rfl (Nat.le_of_ble_eq_true rfl) dX10_rowItem_186 rfl rfl (fun H locs hP hS => ?_)
                exact hret 189 _ hP hS dX10_rowItem_189 rfl (Or.inr ⟨row_bad hd (by omega) (Or.inl (by omega)) (Or.inl (by omega)), I.2.2.2.2.2.2.2.1 + n, _, (by omega), fill_b htn (fun j => tAt_G hlt _) _, rfl⟩)
        · refine lv_aload_n (pc := 54) hx hb dX10_rowItem_54 rfl (lv_at hl 1 rfl) ?_
          refine va_get (pc := 55) (D := D) (ci := 10) (v := .int (nI 0)) (C := RX10) (T := TX10) (N := 44) hx hb hts hiX10 hown hK hP 0 rfl rfl 32 (by decide) wf159 (fun _ h9 => h9) rfl dX10_rowItem_55 ?_
          refine r0_ne (pc := 58) (tgt := 106) hx hb (tI_nI (by omega)) dX10_rowItem_58 (by decide) (fun c58 => (by omega)) (fun c58 => ?_)
          refine lv_iload_n (pc := 61) hx hb dX10_rowItem_61 rfl (lv_at hl 0 rfl) ?_
          refine lv_bipush (pc := 62) (v := nI 6) hx hb dX10_rowItem_62 (by decide) ?_
          refine rc_ge (pc := 64) (tgt := 90) hx hb (tI_nI (by omega)) (tI_nI (by omega)) dX10_rowItem_64 (by decide) (fun c64 => ?_) (fun c64 => ?_)
          · have hP : va_P D vwCl ([rmE o ad (pCells P) P.2.2.2.1 P.2.2.2.2.2.1 P.2.2.2.2.2.2 (I.1, I.2.1, I.2.2.1, I.2.2.2.1, I.2.2.2.2.1, I.2.2.2.2.2.1, I.2.2.2.2.2.2.1, I.2.2.2.2.2.2.2.1 + n, I.2.2.2.2.2.2.2.2.1, 0, I.2.2.2.2.2.2.2.2.2.2.1, I.2.2.2.2.2.2.2.2.2.2.2), nE 200 (ad 29) cB tx, nE 24 (ad 14) cI (rowFill nt I.1 (fun j => tAt (tx, I.2.2.2.2.2.2.1) (I.2.2.2.2.2.2.2.1 + j) - 48) (min (n + 1) 6))]) H := (by rw [← (show rowFill nt I.1 (fun j => tAt (tx, I.2.2.2.2.2.2.1) (I.2.2.2.2.2.2.2.1 + j) - 48) (min n 6) = rowFill nt I.1 (fun j => tAt (tx, I.2.2.2.2.2.2.1) (I.2.2.2.2.2.2.2.1 + j) - 48) (min (n + 1) 6) from by rw [show min (n + 1) 6 = min n 6 by omega])]; exact hP)
            refine lv_iinc (pc := 90) (v := nI (n + 1)) (lv' := [(1, .int (nI (n + 1))), (0, .ref o)]) hx hb dX10_rowItem_90 hl (k := 0) rfl (by rw [← nI_add]; rfl) (by decide) rfl (fun ls hl => ?_)
            refine lv_aload_n (pc := 93) hx hb dX10_rowItem_93 rfl (lv_at hl 1 rfl) ?_
            refine lv_dup (pc := 94) hx hb dX10_rowItem_94 rfl ?_
            refine va_get (pc := 95) (D := D) (ci := 10) (v := .int (nI (I.2.2.2.2.2.2.2.1 + n))) (C := RX10) (T := TX10) (N := 44) hx hb hts hiX10 hown hK hP 0 rfl rfl 30 (by decide) wf148 (fun _ h9 => h9) rfl dX10_rowItem_95 ?_
            refine lv_iconst (pc := 98) (v := nI 1) hx hb dX10_rowItem_98 (by decide) ?_
            refine rn_iadd (pc := 99) hx hb dX10_rowItem_99 ?_
            refine ra_put (pc := 100) (D := D) (ci := 10) (v := .int (nI ((I.2.2.2.2.2.2.2.1 + n) + 1))) (ty := .int) (C := RX10) (T := TX10) (N := 44) (ws2 := [rmE o ad (pCells P) P.2.2.2.1 P.2.2.2.2.2.1 P.2.2.2.2.2.2 (I.1, I.2.1, I.2.2.1, I.2.2.2.1, I.2.2.2.2.1, I.2.2.2.2.2.1, I.2.2.2.2.2.2.1, (I.2.2.2.2.2.2.2.1 + n) + 1, I.2.2.2.2.2.2.2.2.1, 0, I.2.2.2.2.2.2.2.2.2.2.1, I.2.2.2.2.2.2.2.2.2.2.2), nE 200 (ad 29) cB tx, nE 24 (ad 14) cI (rowFill nt I.1 (fun j => tAt (tx, I.2.2.2.2.2.2.1) (I.2.2.2.2.2.2.2.1 + j) - 48) (min (n + 1) 6))]) hx hb hts hiX10 tyX10 tyX10_ok nmX10 hown hK hP hV hS 0 rfl rfl 30 (by decide) wf148 (fun _ h9 => h9) rfl (by decide +kernel) rfl rfl (Nat.le_of_ble_eq_true rfl) dX10_rowItem_100 rfl rfl (fun H locs hP hS => ?_)
            refine lv_goto (pc := 103) (tgt := 31) hx hb dX10_rowItem_103 (by decide) ?_
            exact ih31 (n + 1) _ _ _ (by omega) (va_up_lt0 hd ⟨by omega, by omega⟩) h18 (by omega) hP hS (lv_sub hl [0, 1] rfl)
          · refine lv_aload_n (pc := 67) hx hb dX10_rowItem_67 rfl (lv_at hl 1 rfl) ?_
            refine va_get (pc := 68) (D := D) (ci := 10) (v := .ref (ad 14)) (C := RX10) (T := TX10) (N := 44) hx hb hts hiX10 hown hK hP 0 rfl rfl 14 (by decide) wf34 (fun _ h9 => h9) rfl dX10_rowItem_68 ?_
            refine lv_bipush (pc := 71) (v := nI 23) hx hb dX10_rowItem_71 (by decide) ?_
            refine lv_aload_n (pc := 73) hx hb dX10_rowItem_73 rfl (lv_at hl 1 rfl) ?_
            refine va_get (pc := 74) (D := D) (ci := 10) (v := .int (nI I.1)) (C := RX10) (T := TX10) (N := 44) hx hb hts hiX10 hown hK hP 0 rfl rfl 12 (by decide) wf102 (fun _ h9 => h9) rfl dX10_rowItem_74 ?_
            refine lv_iload_n (pc := 77) hx hb dX10_rowItem_77 rfl (lv_at hl 0 rfl) ?_
            refine rn_iadd (pc := 78) hx hb dX10_rowItem_78 ?_
            refine ci_Sd (pc := 79) hF hN hK hP hV hS hA (k_X10_smallerN l D cI cC cB cS 23 (I.1 + n) (by omega) (by omega)) (va_cwS 2 hts gX10_rowItem_X10_smaller rfl rfl rfl (by decide +kernel) ⟨Nat.le_of_ble_eq_true rfl, Nat.le_of_ble_eq_true rfl⟩) [] rfl (by decide) rfl hl.1 rfl (Nat.le_of_ble_eq_true rfl) dX10_rowItem_79 ⟨Nat.le_refl _, Nat.le_refl _⟩ rfl (ws2 := [rmE o ad (pCells P) P.2.2.2.1 P.2.2.2.2.2.1 P.2.2.2.2.2.2 (I.1, I.2.1, I.2.2.1, I.2.2.2.1, I.2.2.2.2.1, I.2.2.2.2.2.1, I.2.2.2.2.2.2.1, I.2.2.2.2.2.2.2.1 + n, I.2.2.2.2.2.2.2.2.1, 0, I.2.2.2.2.2.2.2.2.2.2.1, I.2.2.2.2.2.2.2.2.2.2.2), nE 200 (ad 29) cB tx, nE 24 (ad 14) cI (rowFill nt I.1 (fun j => tAt (tx, I.2.2.2.2.2.2.1) (I.2.2.2.2.2.2.2.1 + j) - 48) (min n 6))]) rfl (fun H locs hP hS => ?_)
            refine lv_aload_n (pc := 82) hx hb dX10_rowItem_82 rfl (lv_at hl 1 rfl) ?_
            refine ci_Vd (pc := 83) (r0 := jI (nxZ (tx, I.2.2.2.2.2.2.1) (I.2.2.2.2.2.2.2.1 + n))) hF hN hK hP hV hS hA (k_X10_next l D cI cC cB cS o ad P (I.1, I.2.1, I.2.2.1, I.2.2.2.1, I.2.2.2.2.1, I.2.2.2.2.2.1, I.2.2.2.2.2.2.1, I.2.2.2.2.2.2.2.1 + n, I.2.2.2.2.2.2.2.2.1, 0, I.2.2.2.2.2.2.2.2.2.2.1, I.2.2.2.2.2.2.2.2.2.2.2) tx hlt (show (I.2.2.2.2.2.2.2.1 + n) < 100000 by omega)) (cwV 0 hts gX10_rowItem_X10_next rfl rfl rfl (by decide +kernel) ⟨Nat.le_of_ble_eq_true rfl, Nat.le_of_ble_eq_true rfl⟩) [0, 1] rfl (by decide) 0 10 rfl rfl rfl hl.1 rfl (Nat.le_of_ble_eq_true rfl) dX10_rowItem_83 ⟨Nat.le_refl _, Nat.le_refl _⟩ rfl (ws2 := [rmE o ad (pCells P) P.2.2.2.1 P.2.2.2.2.2.1 P.2.2.2.2.2.2 (I.1, I.2.1, I.2.2.1, I.2.2.2.1, I.2.2.2.2.1, I.2.2.2.2.2.1, I.2.2.2.2.2.2.1, I.2.2.2.2.2.2.2.1 + n, I.2.2.2.2.2.2.2.2.1, 0, I.2.2.2.2.2.2.2.2.2.2.1, I.2.2.2.2.2.2.2.2.2.2.2), nE 200 (ad 29) cB tx, nE 24 (ad 14) cI (rowFill nt I.1 (fun j => tAt (tx, I.2.2.2.2.2.2.1) (I.2.2.2.2.2.2.2.1 + j) - 48) (min n 6))]) rfl (fun H locs hP hS => ?_)
            have fq6 := nxZ_t (tx, I.2.2.2.2.2.2.1) (I.2.2.2.2.2.2.2.1 + n)
            have gq6 := tAt_lt hlt (I.2.2.2.2.2.2.2.1 + n)
            refine lv_bipush (pc := 86) (v := nI 48) hx hb dX10_rowItem_86 (by decide) ?_
            refine rz_isub (pc := 88) hx hb rfl (show nI 48 = jI 48 from jI_nat 48) dX10_rowItem_88 ?_
            refine r_top (show _ = nI (tAt (tx, I.2.2.2.2.2.2.1) (I.2.2.2.2.2.2.2.1 + n) - 48) from (by rw [jI_nat]; congr 1; omega)) ?_
            refine rn_iast (pc := 89) (f := rowFill nt I.1 (fun j => tAt (tx, I.2.2.2.2.2.2.1) (I.2.2.2.2.2.2.2.1 + j) - 48) (min n 6)) (k := min 23 (I.1 + n)) (x := tAt (tx, I.2.2.2.2.2.2.1) (I.2.2.2.2.2.2.2.1 + n) - 48) (ws2 := [rmE o ad (pCells P) P.2.2.2.1 P.2.2.2.2.2.1 P.2.2.2.2.2.2 (I.1, I.2.1, I.2.2.1, I.2.2.2.1, I.2.2.2.2.1, I.2.2.2.2.2.1, I.2.2.2.2.2.2.1, I.2.2.2.2.2.2.2.1 + n, I.2.2.2.2.2.2.2.2.1, 0, I.2.2.2.2.2.2.2.2.2.2.1, I.2.2.2.2.2.2.2.2.2.2.2), nE 200 (ad 29) cB tx, nE 24 (ad 14) cI (va_up (rowFill nt I.1 (fun j => tAt (tx, I.2.2.2.2.2.2.1) (I.2.2.2.2.2.2.2.1 + j) - 48) (min n 6)) (min 23 (I.1 + n)) (tAt (tx, I.2.2.2.2.2.2.1) (I.2.2.2.2.2.2.2.1 + n) - 48))]) hx hb hK hP hV hS 2 0 rfl rfl (by omega) (by decide) dX10_rowItem_89 rfl rfl (fun H locs hP hS => ?_)
            have hP : va_P D vwCl ([rmE o ad (pCells P) P.2.2.2.1 P.2.2.2.2.2.1 P.2.2.2.2.2.2 (I.1, I.2.1, I.2.2.1, I.2.2.2.1, I.2.2.2.2.1, I.2.2.2.2.2.1, I.2.2.2.2.2.2.1, I.2.2.2.2.2.2.2.1 + n, I.2.2.2.2.2.2.2.2.1, 0, I.2.2.2.2.2.2.2.2.2.2.1, I.2.2.2.2.2.2.2.2.2.2.2), nE 200 (ad 29) cB tx, nE 24 (ad 14) cI (rowFill nt I.1 (fun j => tAt (tx, I.2.2.2.2.2.2.1) (I.2.2.2.2.2.2.2.1 + j) - 48) (min (n + 1) 6))]) H := (by rw [← (show va_up (rowFill nt I.1 (fun j => tAt (tx, I.2.2.2.2.2.2.1) (I.2.2.2.2.2.2.2.1 + j) - 48) (min n 6)) (min 23 (I.1 + n)) (tAt (tx, I.2.2.2.2.2.2.1) (I.2.2.2.2.2.2.2.1 + n) - 48) = rowFill nt I.1 (fun j => tAt (tx, I.2.2.2.2.2.2.1) (I.2.2.2.2.2.2.2.1 + j) - 48) (min (n + 1) 6) from row_w (by omega) (by omega) rfl)]; exact hP)
            refine lv_iinc (pc := 90) (v := nI (n + 1)) (lv' := [(1, .int (nI (n + 1))), (0, .ref o)]) hx hb dX10_rowItem_90 hl (k := 0) rfl (by rw [← nI_add]; rfl) (by decide) rfl (fun ls hl => ?_)
            refine lv_aload_n (pc := 93) hx hb dX10_rowItem_93 rfl (lv_at hl 1 rfl) ?_
            refine lv_dup (pc := 94) hx hb dX10_rowItem_94 rfl ?_
            refine va_get (pc := 95) (D := D) (ci := 10) (v := .int (nI (I.2.2.2.2.2.2.2.1 + n))) (C := RX10) (T := TX10) (N := 44) hx hb hts hiX10 hown hK hP 0 rfl rfl 30 (by decide) wf148 (fun _ h9 => h9) rfl dX10_rowItem_95 ?_
            refine lv_iconst (pc := 98) (v := nI 1) hx hb dX10_rowItem_98 (by decide) ?_
            refine rn_iadd (pc := 99) hx hb dX10_rowItem_99 ?_
            refine ra_put (pc := 100) (D := D) (ci := 10) (v := .int (nI ((I.2.2.2.2.2.2.2.1 + n) + 1))) (ty := .int) (C := RX10) (T := TX10) (N := 44) (ws2 := [rmE o ad (pCells P) P.2.2.2.1 P.2.2.2.2.2.1 P.2.2.2.2.2.2 (I.1, I.2.1, I.2.2.1, I.2.2.2.1, I.2.2.2.2.1, I.2.2.2.2.2.1, I.2.2.2.2.2.2.1, (I.2.2.2.2.2.2.2.1 + n) + 1, I.2.2.2.2.2.2.2.2.1, 0, I.2.2.2.2.2.2.2.2.2.2.1, I.2.2.2.2.2.2.2.2.2.2.2), nE 200 (ad 29) cB tx, nE 24 (ad 14) cI (rowFill nt I.1 (fun j => tAt (tx, I.2.2.2.2.2.2.1) (I.2.2.2.2.2.2.2.1 + j) - 48) (min (n + 1) 6))]) hx hb hts hiX10 tyX10 tyX10_ok nmX10 hown hK hP hV hS 0 rfl rfl 30 (by decide) wf148 (fun _ h9 => h9) rfl (by decide +kernel) rfl rfl (Nat.le_of_ble_eq_true rfl) dX10_rowItem_100 rfl rfl (fun H locs hP hS => ?_)
            refine lv_goto (pc := 103) (tgt := 31) hx hb dX10_rowItem_103 (by decide) ?_
            exact ih31 (n + 1) _ _ _ (by omega) (va_up_lt0 hd ⟨by omega, by omega⟩) h18 (by omega) hP hS (lv_sub hl [0, 1] rfl)
  refine lv_aload_n (pc := 0) hx hb dX10_rowItem_0 rfl (lv_at hl 0 rfl) ?_
  refine lv_aload_n (pc := 1) hx hb dX10_rowItem_1 rfl (lv_at hl 0 rfl) ?_
  refine va_get (pc := 2) (D := D) (ci := 10) (v := .int (nI I.2.1)) (C := RX10) (T := TX10) (N := 44) hx hb hts hiX10 hown hK hP 0 rfl rfl 13 (by decide) wf98 (fun _ h9 => h9) rfl dX10_rowItem_2 ?_
  refine r0_le (pc := 5) (tgt := 25) hx hb (tI_nI (by omega)) dX10_rowItem_5 (by decide) (fun c5 => ?_) (fun c5 => ?_)
  · have h18 := row_18 hoo (by omega)
    refine lv_iconst (pc := 25) (v := nI 0) hx hb dX10_rowItem_25 (by decide) ?_
    refine ra_put (pc := 26) (D := D) (ci := 10) (v := .int (nI 0)) (ty := .boolean) (C := RX10) (T := TX10) (N := 44) (ws2 := [rmE o ad (pCells P) P.2.2.2.1 P.2.2.2.2.2.1 P.2.2.2.2.2.2 (I.1, I.2.1, I.2.2.1, I.2.2.2.1, I.2.2.2.2.1, I.2.2.2.2.2.1, I.2.2.2.2.2.2.1, I.2.2.2.2.2.2.2.1, I.2.2.2.2.2.2.2.2.1, 0, I.2.2.2.2.2.2.2.2.2.2.1, I.2.2.2.2.2.2.2.2.2.2.2), nE 200 (ad 29) cB tx, nE 24 (ad 14) cI nt]) hx hb hts hiX10 tyX10 tyX10_ok nmX10 hown hK hP hV hS 0 rfl rfl 32 (by decide) wf159 (fun _ h9 => h9) rfl (by decide +kernel) rfl rfl (Nat.le_of_ble_eq_true rfl) dX10_rowItem_26 rfl rfl (fun H locs hP hS => ?_)
    refine lv_iconst (pc := 29) (v := nI 0) hx hb dX10_rowItem_29 (by decide) ?_
    refine lv_istore_n (pc := 30) (lv' := [(1, .int (nI 0)), (0, .ref o)]) hx hb dX10_rowItem_30 rfl hl (by decide) rfl (fun ls hl => ?_)
    exact cut31 _ 0 _ _ _ (by omega) (fun j hj => absurd hj (Nat.not_lt_zero j)) h18 (Nat.lt_succ_self _) hP hS (lv_sub hl [0, 1] rfl)
  · refine lv_aload_n (pc := 8) hx hb dX10_rowItem_8 rfl (lv_at hl 0 rfl) ?_
    refine va_get (pc := 9) (D := D) (ci := 10) (v := .int (nI I.1)) (C := RX10) (T := TX10) (N := 44) hx hb hts hiX10 hown hK hP 0 rfl rfl 12 (by decide) wf102 (fun _ h9 => h9) rfl dX10_rowItem_9 ?_
    refine lv_iconst (pc := 12) (v := nI 4) hx hb dX10_rowItem_12 (by decide) ?_
    refine lv_aload_n (pc := 13) hx hb dX10_rowItem_13 rfl (lv_at hl 0 rfl) ?_
    refine va_get (pc := 14) (D := D) (ci := 10) (v := .int (nI I.2.1)) (C := RX10) (T := TX10) (N := 44) hx hb hts hiX10 hown hK hP 0 rfl rfl 13 (by decide) wf98 (fun _ h9 => h9) rfl dX10_rowItem_14 ?_
    refine rn_imul (pc := 17) hx hb dX10_rowItem_17 ?_
    refine rc_ne (pc := 18) (tgt := 25) hx hb (tI_nI (by omega)) (tI_nI (by omega)) dX10_rowItem_18 (by decide) (fun c18 => ?_) (fun c18 => ?_)
    · have h18 := row_18 hoo (by omega)
      refine lv_iconst (pc := 25) (v := nI 0) hx hb dX10_rowItem_25 (by decide) ?_
      refine ra_put (pc := 26) (D := D) (ci := 10) (v := .int (nI 0)) (ty := .boolean) (C := RX10) (T := TX10) (N := 44) (ws2 := [rmE o ad (pCells P) P.2.2.2.1 P.2.2.2.2.2.1 P.2.2.2.2.2.2 (I.1, I.2.1, I.2.2.1, I.2.2.2.1, I.2.2.2.2.1, I.2.2.2.2.2.1, I.2.2.2.2.2.2.1, I.2.2.2.2.2.2.2.1, I.2.2.2.2.2.2.2.2.1, 0, I.2.2.2.2.2.2.2.2.2.2.1, I.2.2.2.2.2.2.2.2.2.2.2), nE 200 (ad 29) cB tx, nE 24 (ad 14) cI nt]) hx hb hts hiX10 tyX10 tyX10_ok nmX10 hown hK hP hV hS 0 rfl rfl 32 (by decide) wf159 (fun _ h9 => h9) rfl (by decide +kernel) rfl rfl (Nat.le_of_ble_eq_true rfl) dX10_rowItem_26 rfl rfl (fun H locs hP hS => ?_)
      refine lv_iconst (pc := 29) (v := nI 0) hx hb dX10_rowItem_29 (by decide) ?_
      refine lv_istore_n (pc := 30) (lv' := [(1, .int (nI 0)), (0, .ref o)]) hx hb dX10_rowItem_30 rfl hl (by decide) rfl (fun ls hl => ?_)
      exact cut31 _ 0 _ _ _ (by omega) (fun j hj => absurd hj (Nat.not_lt_zero j)) h18 (Nat.lt_succ_self _) hP hS (lv_sub hl [0, 1] rfl)
    · have hr4 := row_4 (O := O) (by omega)
      refine lv_iconst (pc := 21) (v := nI 1) hx hb dX10_rowItem_21 (by decide) ?_
      refine lv_goto (pc := 22) (tgt := 26) hx hb dX10_rowItem_22 (by decide) ?_
      refine ra_put (pc := 26) (D := D) (ci := 10) (v := .int (nI 1)) (ty := .boolean) (C := RX10) (T := TX10) (N := 44) (ws2 := [rmE o ad (pCells P) P.2.2.2.1 P.2.2.2.2.2.1 P.2.2.2.2.2.2 (I.1, I.2.1, I.2.2.1, I.2.2.2.1, I.2.2.2.2.1, I.2.2.2.2.2.1, I.2.2.2.2.2.2.1, I.2.2.2.2.2.2.2.1, I.2.2.2.2.2.2.2.2.1, 1, I.2.2.2.2.2.2.2.2.2.2.1, I.2.2.2.2.2.2.2.2.2.2.2), nE 200 (ad 29) cB tx, nE 24 (ad 14) cI nt]) hx hb hts hiX10 tyX10 tyX10_ok nmX10 hown hK hP hV hS 0 rfl rfl 32 (by decide) wf159 (fun _ h9 => h9) rfl (by decide +kernel) rfl rfl (Nat.le_of_ble_eq_true rfl) dX10_rowItem_26 rfl rfl (fun H locs hP hS => ?_)
      refine lv_iconst (pc := 29) (v := nI 0) hx hb dX10_rowItem_29 (by decide) ?_
      refine lv_istore_n (pc := 30) (lv' := [(1, .int (nI 0)), (0, .ref o)]) hx hb dX10_rowItem_30 rfl hl (by decide) rfl (fun ls hl => ?_)
      refine lv_aload_n (pc := 31) hx hb dX10_rowItem_31 rfl (lv_at hl 1 rfl) ?_
      refine ci_Vd (pc := 32) (r0 := jI (nxZ (tx, I.2.2.2.2.2.2.1) I.2.2.2.2.2.2.2.1)) hF hN hK hP hV hS hA (k_X10_next l D cI cC cB cS o ad P (I.1, I.2.1, I.2.2.1, I.2.2.2.1, I.2.2.2.2.1, I.2.2.2.2.2.1, I.2.2.2.2.2.2.1, I.2.2.2.2.2.2.2.1, I.2.2.2.2.2.2.2.2.1, 1, I.2.2.2.2.2.2.2.2.2.2.1, I.2.2.2.2.2.2.2.2.2.2.2) tx hlt (show I.2.2.2.2.2.2.2.1 < 100000 by omega)) (cwV 0 hts gX10_rowItem_X10_next rfl rfl rfl (by decide +kernel) ⟨Nat.le_of_ble_eq_true rfl, Nat.le_of_ble_eq_true rfl⟩) [0, 1] rfl (by decide) 0 10 rfl rfl rfl hl.1 rfl (Nat.le_of_ble_eq_true rfl) dX10_rowItem_32 ⟨Nat.le_refl _, Nat.le_refl _⟩ rfl (ws2 := [rmE o ad (pCells P) P.2.2.2.1 P.2.2.2.2.2.1 P.2.2.2.2.2.2 (I.1, I.2.1, I.2.2.1, I.2.2.2.1, I.2.2.2.2.1, I.2.2.2.2.2.1, I.2.2.2.2.2.2.1, I.2.2.2.2.2.2.2.1, I.2.2.2.2.2.2.2.2.1, 1, I.2.2.2.2.2.2.2.2.2.2.1, I.2.2.2.2.2.2.2.2.2.2.2), nE 200 (ad 29) cB tx, nE 24 (ad 14) cI nt]) rfl (fun H locs hP hS => ?_)
      have fq7 := nxZ_t (tx, I.2.2.2.2.2.2.1) I.2.2.2.2.2.2.2.1
      have gq7 := tAt_lt hlt I.2.2.2.2.2.2.2.1
      refine lv_i2l (pc := 35) (v := jL (nxZ (tx, I.2.2.2.2.2.2.1) I.2.2.2.2.2.2.2.1)) hx hb dX10_rowItem_35 (i2l_j (jI_to (by omega))) ?_
      refine lv_ldc2 (pc := 36) (v := jL 48) hx hb hown (hts (.constantLong RX10 155 (jL 48)) (by decide +kernel)) dX10_rowItem_36 ?_
      refine lv_ldc2 (pc := 39) (v := jL 57) hx hb hown (hts (.constantLong RX10 157 (jL 57)) (by decide +kernel)) dX10_rowItem_39 ?_
      refine ci_Sd (pc := 42) hF hN hK hP hV hS hA (k_X10_in l D cI cC cB cS (nxZ (tx, I.2.2.2.2.2.2.1) I.2.2.2.2.2.2.2.1) 48 57 (by omega)) (va_cwS 3 hts gX10_rowItem_X10_in rfl rfl rfl (by decide +kernel) ⟨Nat.le_of_ble_eq_true rfl, Nat.le_of_ble_eq_true rfl⟩) [] rfl (by decide) rfl hl.1 rfl (Nat.le_of_ble_eq_true rfl) dX10_rowItem_42 ⟨Nat.le_refl _, Nat.le_refl _⟩ rfl (ws2 := [rmE o ad (pCells P) P.2.2.2.1 P.2.2.2.2.2.1 P.2.2.2.2.2.2 (I.1, I.2.1, I.2.2.1, I.2.2.2.1, I.2.2.2.2.1, I.2.2.2.2.2.1, I.2.2.2.2.2.2.1, I.2.2.2.2.2.2.2.1, I.2.2.2.2.2.2.2.2.1, 1, I.2.2.2.2.2.2.2.2.2.2.1, I.2.2.2.2.2.2.2.2.2.2.2), nE 200 (ad 29) cB tx, nE 24 (ad 14) cI nt]) rfl (fun H locs hP hS => ?_)
      refine rb_eq (pc := 45) (tgt := 106) hx hb dX10_rowItem_45 (by decide) (fun c45 => ?_) (fun c45 => ?_)
      · refine lv_aload_n (pc := 106) hx hb dX10_rowItem_106 rfl (lv_at hl 1 rfl) ?_
        refine lv_aload_n (pc := 107) hx hb dX10_rowItem_107 rfl (lv_at hl 1 rfl) ?_
        refine va_get (pc := 108) (D := D) (ci := 10) (v := .int (nI 1)) (C := RX10) (T := TX10) (N := 44) hx hb hts hiX10 hown hK hP 0 rfl rfl 32 (by decide) wf159 (fun _ h9 => h9) rfl dX10_rowItem_108 ?_
        refine r0_ne (pc := 111) (tgt := 141) hx hb (tI_nI (by omega)) dX10_rowItem_111 (by decide) (fun c111 => ?_) (fun c111 => (by omega))
        refine lv_iconst (pc := 141) (v := nI 1) hx hb dX10_rowItem_141 (by decide) ?_
        refine lv_goto (pc := 142) (tgt := 146) hx hb dX10_rowItem_142 (by decide) ?_
        refine ra_put (pc := 146) (D := D) (ci := 10) (v := .int (nI 1)) (ty := .boolean) (C := RX10) (T := TX10) (N := 44) (ws2 := [rmE o ad (pCells P) P.2.2.2.1 P.2.2.2.2.2.1 P.2.2.2.2.2.2 (I.1, I.2.1, I.2.2.1, I.2.2.2.1, I.2.2.2.2.1, I.2.2.2.2.2.1, I.2.2.2.2.2.2.1, I.2.2.2.2.2.2.2.1, I.2.2.2.2.2.2.2.2.1, 1, I.2.2.2.2.2.2.2.2.2.2.1, I.2.2.2.2.2.2.2.2.2.2.2), nE 200 (ad 29) cB tx, nE 24 (ad 14) cI nt]) hx hb hts hiX10 tyX10 tyX10_ok nmX10 hown hK hP hV hS 0 rfl rfl 32 (by decide) wf159 (fun _ h9 => h9) rfl (by decide +kernel) rfl rfl (Nat.le_of_ble_eq_true rfl) dX10_rowItem_146 rfl rfl (fun H locs hP hS => ?_)
        refine lv_aload_n (pc := 149) hx hb dX10_rowItem_149 rfl (lv_at hl 1 rfl) ?_
        refine lv_aload_n (pc := 150) hx hb dX10_rowItem_150 rfl (lv_at hl 1 rfl) ?_
        refine va_get (pc := 151) (D := D) (ci := 10) (v := .int (nI 1)) (C := RX10) (T := TX10) (N := 44) hx hb hts hiX10 hown hK hP 0 rfl rfl 32 (by decide) wf159 (fun _ h9 => h9) rfl dX10_rowItem_151 ?_
        refine r0_eq (pc := 154) (tgt := 164) hx hb (tI_nI (by omega)) dX10_rowItem_154 (by decide) (fun c154 => (by omega)) (fun c154 => ?_)
        refine lv_aload_n (pc := 157) hx hb dX10_rowItem_157 rfl (lv_at hl 1 rfl) ?_
        refine va_get (pc := 158) (D := D) (ci := 10) (v := .int (nI I.2.1)) (C := RX10) (T := TX10) (N := 44) hx hb hts hiX10 hown hK hP 0 rfl rfl 13 (by decide) wf98 (fun _ h9 => h9) rfl dX10_rowItem_158 ?_
        refine lv_goto (pc := 161) (tgt := 165) hx hb dX10_rowItem_161 (by decide) ?_
        refine ra_put (pc := 165) (D := D) (ci := 10) (v := .int (nI I.2.1)) (ty := .int) (C := RX10) (T := TX10) (N := 44) (ws2 := [rmE o ad (pCells P) P.2.2.2.1 P.2.2.2.2.2.1 P.2.2.2.2.2.2 (I.1, I.2.1, I.2.2.1, I.2.2.2.1, I.2.2.2.2.1, I.2.2.2.2.2.1, I.2.2.2.2.2.2.1, I.2.2.2.2.2.2.2.1, I.2.2.2.2.2.2.2.2.1, 1, I.2.2.2.2.2.2.2.2.2.2.1, I.2.2.2.2.2.2.2.2.2.2.2), nE 200 (ad 29) cB tx, nE 24 (ad 14) cI nt]) hx hb hts hiX10 tyX10 tyX10_ok nmX10 hown hK hP hV hS 0 rfl rfl 13 (by decide) wf98 (fun _ h9 => h9) rfl (by decide +kernel) rfl rfl (Nat.le_of_ble_eq_true rfl) dX10_rowItem_165 rfl rfl (fun H locs hP hS => ?_)
        refine lv_aload_n (pc := 168) hx hb dX10_rowItem_168 rfl (lv_at hl 1 rfl) ?_
        refine lv_dup (pc := 169) hx hb dX10_rowItem_169 rfl ?_
        refine va_get (pc := 170) (D := D) (ci := 10) (v := .int (nI I.1)) (C := RX10) (T := TX10) (N := 44) hx hb hts hiX10 hown hK hP 0 rfl rfl 12 (by decide) wf102 (fun _ h9 => h9) rfl dX10_rowItem_170 ?_
        refine lv_aload_n (pc := 173) hx hb dX10_rowItem_173 rfl (lv_at hl 1 rfl) ?_
        refine va_get (pc := 174) (D := D) (ci := 10) (v := .int (nI 1)) (C := RX10) (T := TX10) (N := 44) hx hb hts hiX10 hown hK hP 0 rfl rfl 32 (by decide) wf159 (fun _ h9 => h9) rfl dX10_rowItem_174 ?_
        refine r0_eq (pc := 177) (tgt := 184) hx hb (tI_nI (by omega)) dX10_rowItem_177 (by decide) (fun c177 => (by omega)) (fun c177 => ?_)
        refine lv_iconst (pc := 180) (v := nI 0) hx hb dX10_rowItem_180 (by decide) ?_
        refine lv_goto (pc := 181) (tgt := 185) hx hb dX10_rowItem_181 (by decide) ?_
        refine rn_iadd (pc := 185) hx hb dX10_rowItem_185 ?_
        refine ra_put (pc := 186) (D := D) (ci := 10) (v := .int (nI (I.1 + 0))) (ty := .int) (C := RX10) (T := TX10) (N := 44) (ws2 := [rmE o ad (pCells P) P.2.2.2.1 P.2.2.2.2.2.1 P.2.2.2.2.2.2 (I.1 + 0, I.2.1, I.2.2.1, I.2.2.2.1, I.2.2.2.2.1, I.2.2.2.2.2.1, I.2.2.2.2.2.2.1, I.2.2.2.2.2.2.2.1, I.2.2.2.2.2.2.2.2.1, 1, I.2.2.2.2.2.2.2.2.2.2.1, I.2.2.2.2.2.2.2.2.2.2.2), nE 200 (ad 29) cB tx, nE 24 (ad 14) cI nt]) hx hb hts hiX10 tyX10 tyX10_ok nmX10 hown hK hP hV hS 0 rfl rfl 12 (by decide) wf102 (fun _ h9 => h9) rfl (by decide +kernel) rfl rfl (Nat.le_of_ble_eq_true rfl) dX10_rowItem_186 rfl rfl (fun H locs hP hS => ?_)
        exact hret 189 _ hP hS dX10_rowItem_189 rfl (Or.inr ⟨row_no4 hr4, I.2.2.2.2.2.2.2.1, nt, (by omega), htn, rfl⟩)
      · refine lv_iload_n (pc := 48) hx hb dX10_rowItem_48 rfl (lv_at hl 0 rfl) ?_
        refine lv_bipush (pc := 49) (v := nI 7) hx hb dX10_rowItem_49 (by decide) ?_
        refine rc_ge (pc := 51) (tgt := 106) hx hb (tI_nI (by omega)) (tI_nI (by omega)) dX10_rowItem_51 (by decide) (fun c51 => (by omega)) (fun c51 => ?_)
        refine lv_aload_n (pc := 54) hx hb dX10_rowItem_54 rfl (lv_at hl 1 rfl) ?_
        refine va_get (pc := 55) (D := D) (ci := 10) (v := .int (nI 1)) (C := RX10) (T := TX10) (N := 44) hx hb hts hiX10 hown hK hP 0 rfl rfl 32 (by decide) wf159 (fun _ h9 => h9) rfl dX10_rowItem_55 ?_
        refine r0_ne (pc := 58) (tgt := 106) hx hb (tI_nI (by omega)) dX10_rowItem_58 (by decide) (fun c58 => ?_) (fun c58 => (by omega))
        refine lv_aload_n (pc := 106) hx hb dX10_rowItem_106 rfl (lv_at hl 1 rfl) ?_
        refine lv_aload_n (pc := 107) hx hb dX10_rowItem_107 rfl (lv_at hl 1 rfl) ?_
        refine va_get (pc := 108) (D := D) (ci := 10) (v := .int (nI 1)) (C := RX10) (T := TX10) (N := 44) hx hb hts hiX10 hown hK hP 0 rfl rfl 32 (by decide) wf159 (fun _ h9 => h9) rfl dX10_rowItem_108 ?_
        refine r0_ne (pc := 111) (tgt := 141) hx hb (tI_nI (by omega)) dX10_rowItem_111 (by decide) (fun c111 => ?_) (fun c111 => (by omega))
        refine lv_iconst (pc := 141) (v := nI 1) hx hb dX10_rowItem_141 (by decide) ?_
        refine lv_goto (pc := 142) (tgt := 146) hx hb dX10_rowItem_142 (by decide) ?_
        refine ra_put (pc := 146) (D := D) (ci := 10) (v := .int (nI 1)) (ty := .boolean) (C := RX10) (T := TX10) (N := 44) (ws2 := [rmE o ad (pCells P) P.2.2.2.1 P.2.2.2.2.2.1 P.2.2.2.2.2.2 (I.1, I.2.1, I.2.2.1, I.2.2.2.1, I.2.2.2.2.1, I.2.2.2.2.2.1, I.2.2.2.2.2.2.1, I.2.2.2.2.2.2.2.1, I.2.2.2.2.2.2.2.2.1, 1, I.2.2.2.2.2.2.2.2.2.2.1, I.2.2.2.2.2.2.2.2.2.2.2), nE 200 (ad 29) cB tx, nE 24 (ad 14) cI nt]) hx hb hts hiX10 tyX10 tyX10_ok nmX10 hown hK hP hV hS 0 rfl rfl 32 (by decide) wf159 (fun _ h9 => h9) rfl (by decide +kernel) rfl rfl (Nat.le_of_ble_eq_true rfl) dX10_rowItem_146 rfl rfl (fun H locs hP hS => ?_)
        refine lv_aload_n (pc := 149) hx hb dX10_rowItem_149 rfl (lv_at hl 1 rfl) ?_
        refine lv_aload_n (pc := 150) hx hb dX10_rowItem_150 rfl (lv_at hl 1 rfl) ?_
        refine va_get (pc := 151) (D := D) (ci := 10) (v := .int (nI 1)) (C := RX10) (T := TX10) (N := 44) hx hb hts hiX10 hown hK hP 0 rfl rfl 32 (by decide) wf159 (fun _ h9 => h9) rfl dX10_rowItem_151 ?_
        refine r0_eq (pc := 154) (tgt := 164) hx hb (tI_nI (by omega)) dX10_rowItem_154 (by decide) (fun c154 => (by omega)) (fun c154 => ?_)
        refine lv_aload_n (pc := 157) hx hb dX10_rowItem_157 rfl (lv_at hl 1 rfl) ?_
        refine va_get (pc := 158) (D := D) (ci := 10) (v := .int (nI I.2.1)) (C := RX10) (T := TX10) (N := 44) hx hb hts hiX10 hown hK hP 0 rfl rfl 13 (by decide) wf98 (fun _ h9 => h9) rfl dX10_rowItem_158 ?_
        refine lv_goto (pc := 161) (tgt := 165) hx hb dX10_rowItem_161 (by decide) ?_
        refine ra_put (pc := 165) (D := D) (ci := 10) (v := .int (nI I.2.1)) (ty := .int) (C := RX10) (T := TX10) (N := 44) (ws2 := [rmE o ad (pCells P) P.2.2.2.1 P.2.2.2.2.2.1 P.2.2.2.2.2.2 (I.1, I.2.1, I.2.2.1, I.2.2.2.1, I.2.2.2.2.1, I.2.2.2.2.2.1, I.2.2.2.2.2.2.1, I.2.2.2.2.2.2.2.1, I.2.2.2.2.2.2.2.2.1, 1, I.2.2.2.2.2.2.2.2.2.2.1, I.2.2.2.2.2.2.2.2.2.2.2), nE 200 (ad 29) cB tx, nE 24 (ad 14) cI nt]) hx hb hts hiX10 tyX10 tyX10_ok nmX10 hown hK hP hV hS 0 rfl rfl 13 (by decide) wf98 (fun _ h9 => h9) rfl (by decide +kernel) rfl rfl (Nat.le_of_ble_eq_true rfl) dX10_rowItem_165 rfl rfl (fun H locs hP hS => ?_)
        refine lv_aload_n (pc := 168) hx hb dX10_rowItem_168 rfl (lv_at hl 1 rfl) ?_
        refine lv_dup (pc := 169) hx hb dX10_rowItem_169 rfl ?_
        refine va_get (pc := 170) (D := D) (ci := 10) (v := .int (nI I.1)) (C := RX10) (T := TX10) (N := 44) hx hb hts hiX10 hown hK hP 0 rfl rfl 12 (by decide) wf102 (fun _ h9 => h9) rfl dX10_rowItem_170 ?_
        refine lv_aload_n (pc := 173) hx hb dX10_rowItem_173 rfl (lv_at hl 1 rfl) ?_
        refine va_get (pc := 174) (D := D) (ci := 10) (v := .int (nI 1)) (C := RX10) (T := TX10) (N := 44) hx hb hts hiX10 hown hK hP 0 rfl rfl 32 (by decide) wf159 (fun _ h9 => h9) rfl dX10_rowItem_174 ?_
        refine r0_eq (pc := 177) (tgt := 184) hx hb (tI_nI (by omega)) dX10_rowItem_177 (by decide) (fun c177 => (by omega)) (fun c177 => ?_)
        refine lv_iconst (pc := 180) (v := nI 0) hx hb dX10_rowItem_180 (by decide) ?_
        refine lv_goto (pc := 181) (tgt := 185) hx hb dX10_rowItem_181 (by decide) ?_
        refine rn_iadd (pc := 185) hx hb dX10_rowItem_185 ?_
        refine ra_put (pc := 186) (D := D) (ci := 10) (v := .int (nI (I.1 + 0))) (ty := .int) (C := RX10) (T := TX10) (N := 44) (ws2 := [rmE o ad (pCells P) P.2.2.2.1 P.2.2.2.2.2.1 P.2.2.2.2.2.2 (I.1 + 0, I.2.1, I.2.2.1, I.2.2.2.1, I.2.2.2.2.1, I.2.2.2.2.2.1, I.2.2.2.2.2.2.1, I.2.2.2.2.2.2.2.1, I.2.2.2.2.2.2.2.2.1, 1, I.2.2.2.2.2.2.2.2.2.2.1, I.2.2.2.2.2.2.2.2.2.2.2), nE 200 (ad 29) cB tx, nE 24 (ad 14) cI nt]) hx hb hts hiX10 tyX10 tyX10_ok nmX10 hown hK hP hV hS 0 rfl rfl 12 (by decide) wf102 (fun _ h9 => h9) rfl (by decide +kernel) rfl rfl (Nat.le_of_ble_eq_true rfl) dX10_rowItem_186 rfl rfl (fun H locs hP hS => ?_)
        exact hret 189 _ hP hS dX10_rowItem_189 rfl (Or.inr ⟨row_no4 hr4, I.2.2.2.2.2.2.2.1, nt, (by omega), htn, rfl⟩)
