abbrev rmX10_comesUp : Room := { frames := 2, cells := 0, slots := 0, locals := 44 }
set_option maxHeartbeats 4000000 in
set_option maxRecDepth 100000 in
theorem k_X10_comesUp (l : Launch) (D : va_G) (cI cC cB cS : ClassId) (o : Nat) (ad : Nat → Nat) (P : PL) (I : RI) (sl : Nat → Nat) (so : Nat → Nat) (cl : Nat → Nat) (de : Nat → Nat) (bs : Nat) (k : Nat) (hp : pOK P) (hsl : ∀ j, sl j < 100000) (hde : ∀ j, de j < 100) (hso : ∀ j, so j < 100) (hclx : ∀ j, j < P.2.2.2.2.2.1 → cl j < pCells P) (hkc : k < P.2.2.2.2.2.1) (hbs : bs + 32 ≤ 384) : CV l D (kT cI cC cB cS) yX10_comesUp wsX10_comesUp rmX10_comesUp [.ref o, .int (nI bs), .int (nI k)] ([rmE o ad (pCells P) P.2.2.2.1 P.2.2.2.2.2.1 P.2.2.2.2.2.2 I, nE 384 (ad 25) cI sl, nE 6 (ad 4) cI so, nE 6 (ad 5) cI cl, nE 6 (ad 6) cI de]) (fun u => u = [rmE o ad (pCells P) P.2.2.2.1 P.2.2.2.2.2.1 P.2.2.2.2.2.2 I, nE 384 (ad 25) cI (rCom P sl so cl de bs k), nE 6 (ad 4) cI so, nE 6 (ad 5) cI cl, nE 6 (ad 6) cI de]) := by
  refine cv_intro (by decide) rfl (Nat.le_of_ble_eq_true rfl) ?_
  intro p e s m args below meth c ls A QF hF hK hP hV hS hA hN hl hret
  obtain ⟨hx, hb, hml, hown, hts⟩ := id hF
  have hP : va_P D vwCl ([rmE o ad (pCells P) P.2.2.2.1 P.2.2.2.2.2.1 P.2.2.2.2.2.2 I, nE 384 (ad 25) cI sl, nE 6 (ad 4) cI so, nE 6 (ad 5) cI cl, nE 6 (ad 6) cI de]) s.heap := hP
  have hl : lv_has ls 5 [(0, .ref o), (1, .int (nI bs)), (2, .int (nI k))] := hl
  have wf13 := hts (.fieldLink RX10 13 "RemorseWallModel" "sort" "[I") (by decide +kernel)
  have wf16 := hts (.fieldLink RX10 16 "RemorseWallModel" "cell" "[I") (by decide +kernel)
  have wf19 := hts (.fieldLink RX10 19 "RemorseWallModel" "depth" "[I") (by decide +kernel)
  have wf121 := hts (.fieldLink RX10 121 "RemorseWallModel" "cells" "I") (by decide +kernel)
  have hiX10 : ∀ w ∈ u_ws RX10 TX10 44, w ∈ wsX10_comesUp := by decide +kernel
  obtain ⟨hp1, hp2, hp3, hp4, hp5, hp6, hp7⟩ := id hp
  have hcl := pCells_le hp
  have hck := hclx k hkc
  have hdk := hde k
  have hwp := pWi_pos hck
  have hro := rOwn_lt (sl := sl) (so := so) (cl := cl) (de := de) (bs := bs) (k := k) hde
  refine lv_aload_n (pc := 0) hx hb dX10_comesUp_0 rfl (lv_at hl 0 rfl) ?_
  refine va_get (pc := 1) (D := D) (ci := 10) (v := .ref (ad 5)) (C := RX10) (T := TX10) (N := 44) hx hb hts hiX10 hown hK hP 0 rfl rfl 5 (by decide) wf16 (fun _ h9 => h9) rfl dX10_comesUp_1 ?_
  refine lv_iload_n (pc := 4) hx hb dX10_comesUp_4 rfl (lv_at hl 2 rfl) ?_
  refine ra_iald (pc := 5) (k := k) (v := nI (cl k)) hx hb hK hP 3 0 rfl rfl (by omega) (by decide) rfl dX10_comesUp_5 ?_
  skip
  refine lv_istore_n (pc := 6) (lv' := [(3, .int (nI (cl k))), (0, .ref o), (1, .int (nI bs)), (2, .int (nI k))]) hx hb dX10_comesUp_6 rfl hl (by decide) rfl (fun ls hl => ?_)
  refine lv_aload_n (pc := 7) hx hb dX10_comesUp_7 rfl (lv_at hl 1 rfl) ?_
  refine lv_iload_n (pc := 8) hx hb dX10_comesUp_8 rfl (lv_at hl 2 rfl) ?_
  refine lv_iload_n (pc := 9) hx hb dX10_comesUp_9 rfl (lv_at hl 0 rfl) ?_
  refine lv_aload_n (pc := 10) hx hb dX10_comesUp_10 rfl (lv_at hl 1 rfl) ?_
  refine lv_iload_n (pc := 11) hx hb dX10_comesUp_11 rfl (lv_at hl 2 rfl) ?_
  refine lv_iload_n (pc := 12) hx hb dX10_comesUp_12 rfl (lv_at hl 3 rfl) ?_
  refine ci_Vd (pc := 13) (r0 := nI (rOwn sl so cl de bs k)) hF hN hK hP hV hS hA (k_X10_own l D cI cC cB cS o ad P I sl so cl de bs k hsl hde (by omega) (by omega) hbs hso) (cwV 2 hts gX10_comesUp_X10_own rfl rfl rfl (by decide +kernel) ⟨Nat.le_of_ble_eq_true rfl, Nat.le_of_ble_eq_true rfl⟩) [0, 1, 2, 3, 4] rfl (by decide) 0 10 rfl rfl rfl hl.1 rfl (Nat.le_of_ble_eq_true rfl) dX10_comesUp_13 ⟨Nat.le_refl _, Nat.le_refl _⟩ rfl (ws2 := [rmE o ad (pCells P) P.2.2.2.1 P.2.2.2.2.2.1 P.2.2.2.2.2.2 I, nE 384 (ad 25) cI sl, nE 6 (ad 4) cI so, nE 6 (ad 5) cI cl, nE 6 (ad 6) cI de]) rfl (fun H locs hP hS => ?_)
  have fq1 : rOwn sl so cl de bs k < 200 := rOwn_lt hde
  refine cv_Vd (pc := 16) hF hN hK hP hV hS hA (k_X10_raises l D cI cC cB cS o ad P I sl bs (cl k) (rOwn sl so cl de bs k) hsl (by omega) (by omega)) (cwV 3 hts gX10_comesUp_X10_raises rfl rfl rfl (by decide +kernel) ⟨Nat.le_of_ble_eq_true rfl, Nat.le_of_ble_eq_true rfl⟩) [0, 1] rfl (by decide) 0 10 rfl rfl rfl hl.1 rfl (Nat.le_of_ble_eq_true rfl) dX10_comesUp_16 ⟨Nat.le_refl _, Nat.le_refl _⟩ rfl (ws2 := [rmE o ad (pCells P) P.2.2.2.1 P.2.2.2.2.2.1 P.2.2.2.2.2.2 I, nE 384 (ad 25) cI (rRai sl bs (cl k) (rOwn sl so cl de bs k)), nE 6 (ad 4) cI so, nE 6 (ad 5) cI cl, nE 6 (ad 6) cI de]) rfl (fun H locs hP hS => ?_)
  have cut56 : ∀ (fuel : Nat) (y : Nat) (f : Nat → Nat) (H : Heap) (locs : List Loc) (ls : Array Slot) (hy : y ≤ pCells P) (hf : (so k = 2 ∧ f = rFair P (rCom1 P sl so cl de bs k) (cl k) (de k / 2 + 1) bs y) ∨ (so k ≠ 2 ∧ f = rCom1 P sl so cl de bs k)) (hfu : pCells P - y < fuel), va_P D vwCl ([rmE o ad (pCells P) P.2.2.2.1 P.2.2.2.2.2.1 P.2.2.2.2.2.2 I, nE 384 (ad 25) cI f, nE 6 (ad 4) cI so, nE 6 (ad 5) cI cl, nE 6 (ad 6) cI de]) H → va_S A s.heap H locs → lv_has ls 5 [(4, .int (nI y)), (3, .int (nI (cl k))), (2, .int (nI k)), (1, .int (nI bs)), (0, .ref o)] → W p l e rmX10_comesUp s m args below meth c H locs 0 0 QF (F0 m 56 ls []) := by
    intro fuel
    induction fuel with
    | zero => intro y f H locs ls hy hf hfu; omega
    | succ fuel ih56 =>
      intro y f H locs ls hy hf hfu hP hS hl
      have hfb : ∀ j, f j < 100000 := com1_b hf hsl
      refine lv_iload (pc := 56) hx hb dX10_comesUp_56 (lv_at hl 0 rfl) ?_
      refine lv_aload_n (pc := 58) hx hb dX10_comesUp_58 rfl (lv_at hl 4 rfl) ?_
      refine va_get (pc := 59) (D := D) (ci := 10) (v := .int (nI (pCells P))) (C := RX10) (T := TX10) (N := 44) hx hb hts hiX10 hown hK hP 0 rfl rfl 0 (by decide) wf121 (fun _ h9 => h9) rfl dX10_comesUp_59 ?_
      refine rc_ge (pc := 62) (tgt := 112) hx hb (tI_nI (by omega)) (tI_nI (by omega)) dX10_comesUp_62 (by decide) (fun c62 => ?_) (fun c62 => ?_)
      · exact hret 112 _ hP hS dX10_comesUp_112 rfl (by rw [← com1_en hf (fun q => by omega)])
      · refine lv_aload_n (pc := 65) hx hb dX10_comesUp_65 rfl (lv_at hl 4 rfl) ?_
        refine va_get (pc := 66) (D := D) (ci := 10) (v := .ref (ad 4)) (C := RX10) (T := TX10) (N := 44) hx hb hts hiX10 hown hK hP 0 rfl rfl 4 (by decide) wf13 (fun _ h9 => h9) rfl dX10_comesUp_66 ?_
        refine lv_iload_n (pc := 69) hx hb dX10_comesUp_69 rfl (lv_at hl 2 rfl) ?_
        refine ra_iald (pc := 70) (k := k) (v := nI (so k)) hx hb hK hP 2 0 rfl rfl (by omega) (by decide) rfl dX10_comesUp_70 ?_
        have hq := hso k
        refine lv_iconst (pc := 71) (v := nI 2) hx hb dX10_comesUp_71 (by decide) ?_
        refine rc_ne (pc := 72) (tgt := 112) hx hb (tI_nI (by omega)) (tI_nI (by omega)) dX10_comesUp_72 (by decide) (fun c72 => ?_) (fun c72 => ?_)
        · exact hret 112 _ hP hS dX10_comesUp_112 rfl (by rw [← com1_en hf (fun q => by omega)])
        · refine lv_aload_n (pc := 75) hx hb dX10_comesUp_75 rfl (lv_at hl 4 rfl) ?_
          refine lv_iload_n (pc := 76) hx hb dX10_comesUp_76 rfl (lv_at hl 3 rfl) ?_
          refine lv_iload (pc := 77) hx hb dX10_comesUp_77 (lv_at hl 0 rfl) ?_
          refine lv_aload_n (pc := 79) hx hb dX10_comesUp_79 rfl (lv_at hl 4 rfl) ?_
          refine lv_iload_n (pc := 80) hx hb dX10_comesUp_80 rfl (lv_at hl 1 rfl) ?_
          refine lv_iload (pc := 81) hx hb dX10_comesUp_81 (lv_at hl 0 rfl) ?_
          refine ci_Vd (pc := 83) (r0 := nI (if nxt P (cl k) y then 1 else 0)) hF hN hK hP hV hS hA (k_X10_isNext l D cI cC cB cS o ad P I (cl k) y hp (by omega) (by omega)) (cwV 2 hts gX10_comesUp_X10_isNext rfl rfl rfl (by decide +kernel) ⟨Nat.le_of_ble_eq_true rfl, Nat.le_of_ble_eq_true rfl⟩) [0] rfl (by decide) 0 10 rfl rfl rfl hl.1 rfl (Nat.le_of_ble_eq_true rfl) dX10_comesUp_83 ⟨Nat.le_refl _, Nat.le_refl _⟩ rfl (ws2 := [rmE o ad (pCells P) P.2.2.2.1 P.2.2.2.2.2.1 P.2.2.2.2.2.2 I, nE 384 (ad 25) cI f, nE 6 (ad 4) cI so, nE 6 (ad 5) cI cl, nE 6 (ad 6) cI de]) rfl (fun H locs hP hS => ?_)
          refine rb_eq (pc := 86) (tgt := 102) hx hb dX10_comesUp_86 (by decide) (fun c86 => ?_) (fun c86 => ?_)
          · refine lv_iconst (pc := 102) (v := nI 0) hx hb dX10_comesUp_102 (by decide) ?_
            refine cv_Vd (pc := 103) hF hN hK hP hV hS hA (k_X10_raises l D cI cC cB cS o ad P I f bs y 0 hfb (by omega) (by omega)) (cwV 3 hts gX10_comesUp_X10_raises rfl rfl rfl (by decide +kernel) ⟨Nat.le_of_ble_eq_true rfl, Nat.le_of_ble_eq_true rfl⟩) [0, 1] rfl (by decide) 0 10 rfl rfl rfl hl.1 rfl (Nat.le_of_ble_eq_true rfl) dX10_comesUp_103 ⟨Nat.le_refl _, Nat.le_refl _⟩ rfl (ws2 := [rmE o ad (pCells P) P.2.2.2.1 P.2.2.2.2.2.1 P.2.2.2.2.2.2 I, nE 384 (ad 25) cI (rRai f bs y 0), nE 6 (ad 4) cI so, nE 6 (ad 5) cI cl, nE 6 (ad 6) cI de]) rfl (fun H locs hP hS => ?_)
            refine lv_iinc (pc := 106) (v := nI (y + 1)) (lv' := [(4, .int (nI (y + 1))), (3, .int (nI (cl k))), (2, .int (nI k)), (1, .int (nI bs)), (0, .ref o)]) hx hb dX10_comesUp_106 hl (k := 0) rfl (by rw [← nI_add]; rfl) (by decide) rfl (fun ls hl => ?_)
            refine lv_goto (pc := 109) (tgt := 56) hx hb dX10_comesUp_109 (by decide) ?_
            exact ih56 (y + 1) (rRai f bs y 0) _ _ _ (by omega) (com1_st hf (by omega) (by rw [if_neg c86])) (by omega) hP hS (lv_sub hl [0, 1, 2, 3, 4] rfl)
          · refine lv_aload_n (pc := 89) hx hb dX10_comesUp_89 rfl (lv_at hl 4 rfl) ?_
            refine va_get (pc := 90) (D := D) (ci := 10) (v := .ref (ad 6)) (C := RX10) (T := TX10) (N := 44) hx hb hts hiX10 hown hK hP 0 rfl rfl 6 (by decide) wf19 (fun _ h9 => h9) rfl dX10_comesUp_90 ?_
            refine lv_iload_n (pc := 93) hx hb dX10_comesUp_93 rfl (lv_at hl 2 rfl) ?_
            refine ra_iald (pc := 94) (k := k) (v := nI (de k)) hx hb hK hP 4 0 rfl rfl (by omega) (by decide) rfl dX10_comesUp_94 ?_
            have hq := hde k
            refine lv_iconst (pc := 95) (v := nI 2) hx hb dX10_comesUp_95 (by decide) ?_
            refine rn_idiv (pc := 96) hx hb (by omega) (by omega) dX10_comesUp_96 ?_
            refine lv_iconst (pc := 97) (v := nI 1) hx hb dX10_comesUp_97 (by decide) ?_
            refine rn_iadd (pc := 98) hx hb dX10_comesUp_98 ?_
            refine lv_goto (pc := 99) (tgt := 103) hx hb dX10_comesUp_99 (by decide) ?_
            refine cv_Vd (pc := 103) hF hN hK hP hV hS hA (k_X10_raises l D cI cC cB cS o ad P I f bs y (((de k) / 2) + 1) hfb (by omega) (by omega)) (cwV 3 hts gX10_comesUp_X10_raises rfl rfl rfl (by decide +kernel) ⟨Nat.le_of_ble_eq_true rfl, Nat.le_of_ble_eq_true rfl⟩) [0, 1] rfl (by decide) 0 10 rfl rfl rfl hl.1 rfl (Nat.le_of_ble_eq_true rfl) dX10_comesUp_103 ⟨Nat.le_refl _, Nat.le_refl _⟩ rfl (ws2 := [rmE o ad (pCells P) P.2.2.2.1 P.2.2.2.2.2.1 P.2.2.2.2.2.2 I, nE 384 (ad 25) cI (rRai f bs y (((de k) / 2) + 1)), nE 6 (ad 4) cI so, nE 6 (ad 5) cI cl, nE 6 (ad 6) cI de]) rfl (fun H locs hP hS => ?_)
            refine lv_iinc (pc := 106) (v := nI (y + 1)) (lv' := [(4, .int (nI (y + 1))), (3, .int (nI (cl k))), (2, .int (nI k)), (1, .int (nI bs)), (0, .ref o)]) hx hb dX10_comesUp_106 hl (k := 0) rfl (by rw [← nI_add]; rfl) (by decide) rfl (fun ls hl => ?_)
            refine lv_goto (pc := 109) (tgt := 56) hx hb dX10_comesUp_109 (by decide) ?_
            exact ih56 (y + 1) (rRai f bs y (((de k) / 2) + 1)) _ _ _ (by omega) (com1_st hf (by omega) (by rw [if_pos c86])) (by omega) hP hS (lv_sub hl [0, 1, 2, 3, 4] rfl)
  refine lv_aload_n (pc := 19) hx hb dX10_comesUp_19 rfl (lv_at hl 1 rfl) ?_
  refine va_get (pc := 20) (D := D) (ci := 10) (v := .ref (ad 4)) (C := RX10) (T := TX10) (N := 44) hx hb hts hiX10 hown hK hP 0 rfl rfl 4 (by decide) wf13 (fun _ h9 => h9) rfl dX10_comesUp_20 ?_
  refine lv_iload_n (pc := 23) hx hb dX10_comesUp_23 rfl (lv_at hl 3 rfl) ?_
  refine ra_iald (pc := 24) (k := k) (v := nI (so k)) hx hb hK hP 2 0 rfl rfl (by omega) (by decide) rfl dX10_comesUp_24 ?_
  have hq := hso k
  refine lv_iconst (pc := 25) (v := nI 1) hx hb dX10_comesUp_25 (by decide) ?_
  refine rc_ne (pc := 26) (tgt := 53) hx hb (tI_nI (by omega)) (tI_nI (by omega)) dX10_comesUp_26 (by decide) (fun c26 => ?_) (fun c26 => ?_)
  · refine lv_iconst (pc := 53) (v := nI 0) hx hb dX10_comesUp_53 (by decide) ?_
    refine lv_istore (pc := 54) (lv' := [(4, .int (nI 0)), (3, .int (nI (cl k))), (0, .ref o), (1, .int (nI bs)), (2, .int (nI k))]) hx hb dX10_comesUp_54 hl (by decide) rfl (fun ls hl => ?_)
    exact cut56 _ 0 (rRai sl bs (cl k) (rOwn sl so cl de bs k)) _ _ _ (Nat.zero_le _) (com1_in (show _ = rCom1 P sl so cl de bs k by unfold rCom1; rw [if_neg (fun q => absurd q.1 (by omega))])) (Nat.lt_succ_self _) hP hS (lv_sub hl [0, 1, 4, 3, 2] rfl)
  · refine lv_aload_n (pc := 29) hx hb dX10_comesUp_29 rfl (lv_at hl 1 rfl) ?_
    refine lv_iload_n (pc := 30) hx hb dX10_comesUp_30 rfl (lv_at hl 0 rfl) ?_
    refine ci_Vd (pc := 31) (r0 := nI (if hbh P (cl k) then 1 else 0)) hF hN hK hP hV hS hA (k_X10_hasBehind l D cI cC cB cS o ad P I (cl k) hp (by omega)) (cwV 1 hts gX10_comesUp_X10_hasBehind rfl rfl rfl (by decide +kernel) ⟨Nat.le_of_ble_eq_true rfl, Nat.le_of_ble_eq_true rfl⟩) [0] rfl (by decide) 0 10 rfl rfl rfl hl.1 rfl (Nat.le_of_ble_eq_true rfl) dX10_comesUp_31 ⟨Nat.le_refl _, Nat.le_refl _⟩ rfl (ws2 := [rmE o ad (pCells P) P.2.2.2.1 P.2.2.2.2.2.1 P.2.2.2.2.2.2 I, nE 384 (ad 25) cI (rRai sl bs (cl k) (rOwn sl so cl de bs k)), nE 6 (ad 4) cI so, nE 6 (ad 5) cI cl, nE 6 (ad 6) cI de]) rfl (fun H locs hP hS => ?_)
    refine rb_eq (pc := 34) (tgt := 53) hx hb dX10_comesUp_34 (by decide) (fun c34 => ?_) (fun c34 => ?_)
    · refine lv_iconst (pc := 53) (v := nI 0) hx hb dX10_comesUp_53 (by decide) ?_
      refine lv_istore (pc := 54) (lv' := [(4, .int (nI 0)), (3, .int (nI (cl k))), (0, .ref o), (1, .int (nI bs)), (2, .int (nI k))]) hx hb dX10_comesUp_54 hl (by decide) rfl (fun ls hl => ?_)
      exact cut56 _ 0 (rRai sl bs (cl k) (rOwn sl so cl de bs k)) _ _ _ (Nat.zero_le _) (com1_in (show _ = rCom1 P sl so cl de bs k by unfold rCom1; rw [if_neg (fun q => c34 q.2)])) (Nat.lt_succ_self _) hP hS (lv_sub hl [0, 1, 4, 3, 2] rfl)
    · have hrow := row_in hck c34
      refine lv_aload_n (pc := 37) hx hb dX10_comesUp_37 rfl (lv_at hl 1 rfl) ?_
      refine lv_iload_n (pc := 38) hx hb dX10_comesUp_38 rfl (lv_at hl 2 rfl) ?_
      refine lv_iload_n (pc := 39) hx hb dX10_comesUp_39 rfl (lv_at hl 0 rfl) ?_
      refine lv_iconst (pc := 40) (v := nI 1) hx hb dX10_comesUp_40 (by decide) ?_
      refine rn_iadd (pc := 41) hx hb dX10_comesUp_41 ?_
      refine lv_aload_n (pc := 42) hx hb dX10_comesUp_42 rfl (lv_at hl 1 rfl) ?_
      refine va_get (pc := 43) (D := D) (ci := 10) (v := .ref (ad 6)) (C := RX10) (T := TX10) (N := 44) hx hb hts hiX10 hown hK hP 0 rfl rfl 6 (by decide) wf19 (fun _ h9 => h9) rfl dX10_comesUp_43 ?_
      refine lv_iload_n (pc := 46) hx hb dX10_comesUp_46 rfl (lv_at hl 3 rfl) ?_
      refine ra_iald (pc := 47) (k := k) (v := nI (de k)) hx hb hK hP 4 0 rfl rfl (by omega) (by decide) rfl dX10_comesUp_47 ?_
      have hq := hde k
      refine lv_iconst (pc := 48) (v := nI 2) hx hb dX10_comesUp_48 (by decide) ?_
      refine rn_idiv (pc := 49) hx hb (by omega) (by omega) dX10_comesUp_49 ?_
      refine cv_Vd (pc := 50) hF hN hK hP hV hS hA (k_X10_raises l D cI cC cB cS o ad P I (rRai sl bs (cl k) (rOwn sl so cl de bs k)) bs ((cl k) + 1) ((de k) / 2) (rRai_b hsl (by omega)) (by omega) (by omega)) (cwV 3 hts gX10_comesUp_X10_raises rfl rfl rfl (by decide +kernel) ⟨Nat.le_of_ble_eq_true rfl, Nat.le_of_ble_eq_true rfl⟩) [0, 1] rfl (by decide) 0 10 rfl rfl rfl hl.1 rfl (Nat.le_of_ble_eq_true rfl) dX10_comesUp_50 ⟨Nat.le_refl _, Nat.le_refl _⟩ rfl (ws2 := [rmE o ad (pCells P) P.2.2.2.1 P.2.2.2.2.2.1 P.2.2.2.2.2.2 I, nE 384 (ad 25) cI (rRai (rRai sl bs (cl k) (rOwn sl so cl de bs k)) bs ((cl k) + 1) ((de k) / 2)), nE 6 (ad 4) cI so, nE 6 (ad 5) cI cl, nE 6 (ad 6) cI de]) rfl (fun H locs hP hS => ?_)
      refine lv_iconst (pc := 53) (v := nI 0) hx hb dX10_comesUp_53 (by decide) ?_
      refine lv_istore (pc := 54) (lv' := [(4, .int (nI 0)), (3, .int (nI (cl k))), (0, .ref o), (1, .int (nI bs)), (2, .int (nI k))]) hx hb dX10_comesUp_54 hl (by decide) rfl (fun ls hl => ?_)
      exact cut56 _ 0 (rRai (rRai sl bs (cl k) (rOwn sl so cl de bs k)) bs ((cl k) + 1) ((de k) / 2)) _ _ _ (Nat.zero_le _) (com1_in (show _ = rCom1 P sl so cl de bs k by unfold rCom1; rw [if_pos ⟨(by omega), c34⟩])) (Nat.lt_succ_self _) hP hS (lv_sub hl [0, 1, 4, 3, 2] rfl)
