abbrev rmX10_goes : Room := { frames := 3, cells := 0, slots := 0, locals := 68 }
set_option maxHeartbeats 4000000 in
set_option maxRecDepth 100000 in
theorem k_X10_goes (l : Launch) (D : va_G) (cI cC cB cS : ClassId) (o : Nat) (ad : Nat → Nat) (P : PL) (I : RI) (sl : Nat → Nat) (so : Nat → Nat) (cl : Nat → Nat) (de : Nat → Nat) (si : Nat → Nat) (ms : Nat → Nat) (bs : Nat) (st : Nat) (hp : pOK P) (hsl : ∀ j, sl j < 100000) (hde : ∀ j, de j < 100) (hso : ∀ j, so j < 100) (hsi : ∀ j, si j < 100) (hms : ∀ j, ms j < 100) (hclx : ∀ j, j < P.2.2.2.2.2.1 → cl j < pCells P) (hbs : bs + 32 ≤ 384) (hst : st < 2147483648) : CV l D (kT cI cC cB cS) yX10_goes wsX10_goes rmX10_goes [.ref o, .int (nI bs), .int (nI st)] ([rmE o ad (pCells P) P.2.2.2.1 P.2.2.2.2.2.1 P.2.2.2.2.2.2 I, nE 384 (ad 25) cI sl, nE 6 (ad 4) cI so, nE 6 (ad 5) cI cl, nE 6 (ad 6) cI de, nE 6 (ad 7) cI si, nE 3 (ad 11) cI ms]) (fun u => u = [rmE o ad (pCells P) P.2.2.2.1 P.2.2.2.2.2.1 P.2.2.2.2.2.2 I, nE 384 (ad 25) cI (rGo P so cl de si ms bs st sl), nE 6 (ad 4) cI so, nE 6 (ad 5) cI cl, nE 6 (ad 6) cI de, nE 6 (ad 7) cI si, nE 3 (ad 11) cI ms]) := by
  refine cv_intro (by decide) rfl (Nat.le_of_ble_eq_true rfl) ?_
  intro p e s m args below meth c ls A QF hF hK hP hV hS hA hN hl hret
  obtain ⟨hx, hb, hml, hown, hts⟩ := id hF
  have hP : va_P D vwCl ([rmE o ad (pCells P) P.2.2.2.1 P.2.2.2.2.2.1 P.2.2.2.2.2.2 I, nE 384 (ad 25) cI sl, nE 6 (ad 4) cI so, nE 6 (ad 5) cI cl, nE 6 (ad 6) cI de, nE 6 (ad 7) cI si, nE 3 (ad 11) cI ms]) s.heap := hP
  have hl : lv_has ls 4 [(0, .ref o), (1, .int (nI bs)), (2, .int (nI st))] := hl
  have wf22 := hts (.fieldLink RX10 22 "RemorseWallModel" "since" "[I") (by decide +kernel)
  have wf31 := hts (.fieldLink RX10 31 "RemorseWallModel" "strokes" "[I") (by decide +kernel)
  have wf61 := hts (.fieldLink RX10 61 "RemorseWallModel" "slot" "[I") (by decide +kernel)
  have wf127 := hts (.fieldLink RX10 127 "RemorseWallModel" "cases" "I") (by decide +kernel)
  have wf130 := hts (.fieldLink RX10 130 "RemorseWallModel" "maids" "I") (by decide +kernel)
  have hiX10 : ∀ w ∈ u_ws RX10 TX10 44, w ∈ wsX10_goes := by decide +kernel
  obtain ⟨hp1, hp2, hp3, hp4, hp5, hp6, hp7⟩ := id hp
  have hcl := pCells_le hp
  refine lv_iconst (pc := 0) (v := nI 0) hx hb dX10_goes_0 (by decide) ?_
  refine lv_istore_n (pc := 1) (lv' := [(3, .int (nI 0)), (0, .ref o), (1, .int (nI bs)), (2, .int (nI st))]) hx hb dX10_goes_1 rfl hl (by decide) rfl (fun ls hl => ?_)
  have cut2 : ∀ (fuel : Nat) (k : Nat) (f : Nat → Nat) (H : Heap) (locs : List Loc) (ls : Array Slot) (hk : k ≤ P.2.2.2.2.2.1) (hf : f = rGoC P sl so cl de si bs st k) (hfu : P.2.2.2.2.2.1 - k < fuel), va_P D vwCl ([rmE o ad (pCells P) P.2.2.2.1 P.2.2.2.2.2.1 P.2.2.2.2.2.2 I, nE 384 (ad 25) cI f, nE 6 (ad 4) cI so, nE 6 (ad 5) cI cl, nE 6 (ad 6) cI de, nE 6 (ad 7) cI si, nE 3 (ad 11) cI ms]) H → va_S A s.heap H locs → lv_has ls 4 [(3, .int (nI k)), (2, .int (nI st)), (1, .int (nI bs)), (0, .ref o)] → W p l e rmX10_goes s m args below meth c H locs 0 0 QF (F0 m 2 ls []) := by
    intro fuel
    induction fuel with
    | zero => intro k f H locs ls hk hf hfu; omega
    | succ fuel ih2 =>
      intro k f H locs ls hk hf hfu hP hS hl
      have hfb : ∀ j, f j < 100000 := hf ▸ rGoC_b hsl (by omega) k
      refine lv_iload_n (pc := 2) hx hb dX10_goes_2 rfl (lv_at hl 0 rfl) ?_
      refine lv_aload_n (pc := 3) hx hb dX10_goes_3 rfl (lv_at hl 3 rfl) ?_
      refine va_get (pc := 4) (D := D) (ci := 10) (v := .int (nI P.2.2.2.2.2.1)) (C := RX10) (T := TX10) (N := 44) hx hb hts hiX10 hown hK hP 0 rfl rfl 3 (by decide) wf127 (fun _ h9 => h9) rfl dX10_goes_4 ?_
      refine rc_ge (pc := 7) (tgt := 48) hx hb (tI_nI (by omega)) (tI_nI (by omega)) dX10_goes_7 (by decide) (fun c7 => ?_) (fun c7 => ?_)
      · refine lv_iconst (pc := 48) (v := nI 0) hx hb dX10_goes_48 (by decide) ?_
        refine lv_istore_n (pc := 49) (lv' := [(3, .int (nI 0)), (2, .int (nI st)), (1, .int (nI bs)), (0, .ref o)]) hx hb dX10_goes_49 rfl hl (by decide) rfl (fun ls hl => ?_)
        have cut50 : ∀ (fuel : Nat) (k : Nat) (g : Nat → Nat) (H : Heap) (locs : List Loc) (ls : Array Slot) (hk : k ≤ P.2.2.2.2.2.2) (hg : g = rGoM (rGoC P sl so cl de si bs st P.2.2.2.2.2.1) ms bs k) (hfu : P.2.2.2.2.2.2 - k < fuel), va_P D vwCl ([rmE o ad (pCells P) P.2.2.2.1 P.2.2.2.2.2.1 P.2.2.2.2.2.2 I, nE 384 (ad 25) cI g, nE 6 (ad 4) cI so, nE 6 (ad 5) cI cl, nE 6 (ad 6) cI de, nE 6 (ad 7) cI si, nE 3 (ad 11) cI ms]) H → va_S A s.heap H locs → lv_has ls 4 [(3, .int (nI k)), (2, .int (nI st)), (1, .int (nI bs)), (0, .ref o)] → W p l e rmX10_goes s m args below meth c H locs 0 0 QF (F0 m 50 ls []) := by
          intro fuel
          induction fuel with
          | zero => intro k g H locs ls hk hg hfu; omega
          | succ fuel ih50 =>
            intro k g H locs ls hk hg hfu hP hS hl
            have hgb : ∀ j, g j < 100000 := hg ▸ rGoM_b (rGoC_b hsl (by omega) _) (fun j => Nat.lt_of_lt_of_le (hms j) (by omega)) k
            refine lv_iload_n (pc := 50) hx hb dX10_goes_50 rfl (lv_at hl 0 rfl) ?_
            refine lv_aload_n (pc := 51) hx hb dX10_goes_51 rfl (lv_at hl 3 rfl) ?_
            refine va_get (pc := 52) (D := D) (ci := 10) (v := .int (nI P.2.2.2.2.2.2)) (C := RX10) (T := TX10) (N := 44) hx hb hts hiX10 hown hK hP 0 rfl rfl 8 (by decide) wf130 (fun _ h9 => h9) rfl dX10_goes_52 ?_
            refine rc_ge (pc := 55) (tgt := 81) hx hb (tI_nI (by omega)) (tI_nI (by omega)) dX10_goes_55 (by decide) (fun c55 => ?_) (fun c55 => ?_)
            · refine lv_aload_n (pc := 81) hx hb dX10_goes_81 rfl (lv_at hl 3 rfl) ?_
              refine va_get (pc := 82) (D := D) (ci := 10) (v := .ref (ad 25)) (C := RX10) (T := TX10) (N := 44) hx hb hts hiX10 hown hK hP 0 rfl rfl 25 (by decide) wf61 (fun _ h9 => h9) rfl dX10_goes_82 ?_
              refine lv_iload_n (pc := 85) hx hb dX10_goes_85 rfl (lv_at hl 2 rfl) ?_
              refine lv_bipush (pc := 86) (v := nI 31) hx hb dX10_goes_86 (by decide) ?_
              refine rn_iadd (pc := 88) hx hb dX10_goes_88 ?_
              refine lv_dup2_11 (pc := 89) hx hb dX10_goes_89 rfl rfl ?_
              refine ra_iald (pc := 90) (k := bs + 31) (v := nI (g (bs + 31))) hx hb hK hP 1 0 rfl rfl (by omega) (by decide) rfl dX10_goes_90 ?_
              have hq := hgb (bs + 31)
              refine lv_iconst (pc := 91) (v := nI 1) hx hb dX10_goes_91 (by decide) ?_
              refine rn_iadd (pc := 92) hx hb dX10_goes_92 ?_
              refine rn_iast (pc := 93) (f := g) (k := bs + 31) (x := (g (bs + 31)) + 1) (ws2 := [rmE o ad (pCells P) P.2.2.2.1 P.2.2.2.2.2.1 P.2.2.2.2.2.2 I, nE 384 (ad 25) cI (va_up g (bs + 31) ((g (bs + 31)) + 1)), nE 6 (ad 4) cI so, nE 6 (ad 5) cI cl, nE 6 (ad 6) cI de, nE 6 (ad 7) cI si, nE 3 (ad 11) cI ms]) hx hb hK hP hV hS 1 0 rfl rfl (by omega) (by decide) dX10_goes_93 rfl rfl (fun H locs hP hS => ?_)
              exact hret 94 _ hP hS dX10_goes_94 rfl (by have e9 : k = P.2.2.2.2.2.2 := (by omega); subst e9; unfold rGo; rw [← hg])
            · refine lv_aload_n (pc := 58) hx hb dX10_goes_58 rfl (lv_at hl 3 rfl) ?_
              refine va_get (pc := 59) (D := D) (ci := 10) (v := .ref (ad 25)) (C := RX10) (T := TX10) (N := 44) hx hb hts hiX10 hown hK hP 0 rfl rfl 25 (by decide) wf61 (fun _ h9 => h9) rfl dX10_goes_59 ?_
              refine lv_iload_n (pc := 62) hx hb dX10_goes_62 rfl (lv_at hl 2 rfl) ?_
              refine lv_bipush (pc := 63) (v := nI 24) hx hb dX10_goes_63 (by decide) ?_
              refine rn_iadd (pc := 65) hx hb dX10_goes_65 ?_
              refine lv_iload_n (pc := 66) hx hb dX10_goes_66 rfl (lv_at hl 0 rfl) ?_
              refine rn_iadd (pc := 67) hx hb dX10_goes_67 ?_
              refine lv_aload_n (pc := 68) hx hb dX10_goes_68 rfl (lv_at hl 3 rfl) ?_
              refine va_get (pc := 69) (D := D) (ci := 10) (v := .ref (ad 11)) (C := RX10) (T := TX10) (N := 44) hx hb hts hiX10 hown hK hP 0 rfl rfl 11 (by decide) wf31 (fun _ h9 => h9) rfl dX10_goes_69 ?_
              refine lv_iload_n (pc := 72) hx hb dX10_goes_72 rfl (lv_at hl 0 rfl) ?_
              refine ra_iald (pc := 73) (k := k) (v := nI (ms k)) hx hb hK hP 6 0 rfl rfl (by omega) (by decide) rfl dX10_goes_73 ?_
              have hq := hms k
              refine rn_iast (pc := 74) (f := g) (k := (bs + 24) + k) (x := ms k) (ws2 := [rmE o ad (pCells P) P.2.2.2.1 P.2.2.2.2.2.1 P.2.2.2.2.2.2 I, nE 384 (ad 25) cI (va_up g ((bs + 24) + k) (ms k)), nE 6 (ad 4) cI so, nE 6 (ad 5) cI cl, nE 6 (ad 6) cI de, nE 6 (ad 7) cI si, nE 3 (ad 11) cI ms]) hx hb hK hP hV hS 1 0 rfl rfl (by omega) (by decide) dX10_goes_74 rfl rfl (fun H locs hP hS => ?_)
              refine lv_iinc (pc := 75) (v := nI (k + 1)) (lv' := [(3, .int (nI (k + 1))), (2, .int (nI st)), (1, .int (nI bs)), (0, .ref o)]) hx hb dX10_goes_75 hl (k := 0) rfl (by rw [← nI_add]; rfl) (by decide) rfl (fun ls hl => ?_)
              refine lv_goto (pc := 78) (tgt := 50) hx hb dX10_goes_78 (by decide) ?_
              exact ih50 (k + 1) (va_up g ((bs + 24) + k) (ms k)) _ _ _ (by omega) (by rw [hg]; rfl) (by omega) hP hS (lv_sub hl [0, 1, 2, 3] rfl)
        exact cut50 _ 0 f _ _ _ (Nat.zero_le _) (by rw [hf, show k = P.2.2.2.2.2.1 by omega]; rfl) (Nat.lt_succ_self _) hP hS (lv_sub hl [0, 1, 2, 3] rfl)
      · refine lv_iload_n (pc := 10) hx hb dX10_goes_10 rfl (lv_at hl 1 rfl) ?_
        refine lv_iload_n (pc := 11) hx hb dX10_goes_11 rfl (lv_at hl 0 rfl) ?_
        refine ci_Sd (pc := 12) hF hN hK hP hV hS hA (k_X10_has l D cI cC cB cS st k hst (by omega)) (va_cwS 2 hts gX10_goes_X10_has rfl rfl rfl (by decide +kernel) ⟨Nat.le_of_ble_eq_true rfl, Nat.le_of_ble_eq_true rfl⟩) [] rfl (by decide) rfl hl.1 rfl (Nat.le_of_ble_eq_true rfl) dX10_goes_12 ⟨Nat.le_refl _, Nat.le_refl _⟩ rfl (ws2 := [rmE o ad (pCells P) P.2.2.2.1 P.2.2.2.2.2.1 P.2.2.2.2.2.2 I, nE 384 (ad 25) cI f, nE 6 (ad 4) cI so, nE 6 (ad 5) cI cl, nE 6 (ad 6) cI de, nE 6 (ad 7) cI si, nE 3 (ad 11) cI ms]) rfl (fun H locs hP hS => ?_)
        refine rb_eq (pc := 15) (tgt := 42) hx hb dX10_goes_15 (by decide) (fun c15 => ?_) (fun c15 => ?_)
        · refine lv_iinc (pc := 42) (v := nI (k + 1)) (lv' := [(3, .int (nI (k + 1))), (2, .int (nI st)), (1, .int (nI bs)), (0, .ref o)]) hx hb dX10_goes_42 hl (k := 0) rfl (by rw [← nI_add]; rfl) (by decide) rfl (fun ls hl => ?_)
          refine lv_goto (pc := 45) (tgt := 2) hx hb dX10_goes_45 (by decide) ?_
          exact ih2 (k + 1) f _ _ _ (by omega) (goC_no hf (fun q => c15 q.1)) (by omega) hP hS (lv_sub hl [0, 1, 2, 3] rfl)
        · refine lv_aload_n (pc := 18) hx hb dX10_goes_18 rfl (lv_at hl 3 rfl) ?_
          refine va_get (pc := 19) (D := D) (ci := 10) (v := .ref (ad 7)) (C := RX10) (T := TX10) (N := 44) hx hb hts hiX10 hown hK hP 0 rfl rfl 7 (by decide) wf22 (fun _ h9 => h9) rfl dX10_goes_19 ?_
          refine lv_iload_n (pc := 22) hx hb dX10_goes_22 rfl (lv_at hl 0 rfl) ?_
          refine ra_iald (pc := 23) (k := k) (v := nI (si k)) hx hb hK hP 5 0 rfl rfl (by omega) (by decide) rfl dX10_goes_23 ?_
          have hq := hsi k
          refine lv_aload_n (pc := 24) hx hb dX10_goes_24 rfl (lv_at hl 3 rfl) ?_
          refine va_get (pc := 25) (D := D) (ci := 10) (v := .ref (ad 25)) (C := RX10) (T := TX10) (N := 44) hx hb hts hiX10 hown hK hP 0 rfl rfl 25 (by decide) wf61 (fun _ h9 => h9) rfl dX10_goes_25 ?_
          refine lv_iload_n (pc := 28) hx hb dX10_goes_28 rfl (lv_at hl 2 rfl) ?_
          refine lv_bipush (pc := 29) (v := nI 31) hx hb dX10_goes_29 (by decide) ?_
          refine rn_iadd (pc := 31) hx hb dX10_goes_31 ?_
          refine ra_iald (pc := 32) (k := bs + 31) (v := nI (f (bs + 31))) hx hb hK hP 1 0 rfl rfl (by omega) (by decide) rfl dX10_goes_32 ?_
          have hq := hfb (bs + 31)
          refine rc_gt (pc := 33) (tgt := 42) hx hb (tI_nI (by omega)) (tI_nI (by omega)) dX10_goes_33 (by decide) (fun c33 => ?_) (fun c33 => ?_)
          · refine lv_iinc (pc := 42) (v := nI (k + 1)) (lv' := [(3, .int (nI (k + 1))), (2, .int (nI st)), (1, .int (nI bs)), (0, .ref o)]) hx hb dX10_goes_42 hl (k := 0) rfl (by rw [← nI_add]; rfl) (by decide) rfl (fun ls hl => ?_)
            refine lv_goto (pc := 45) (tgt := 2) hx hb dX10_goes_45 (by decide) ?_
            exact ih2 (k + 1) f _ _ _ (by omega) (goC_no hf (fun q => absurd q.2 (by omega))) (by omega) hP hS (lv_sub hl [0, 1, 2, 3] rfl)
          · refine lv_aload_n (pc := 36) hx hb dX10_goes_36 rfl (lv_at hl 3 rfl) ?_
            refine lv_iload_n (pc := 37) hx hb dX10_goes_37 rfl (lv_at hl 2 rfl) ?_
            refine lv_iload_n (pc := 38) hx hb dX10_goes_38 rfl (lv_at hl 0 rfl) ?_
            refine cv_Vd (pc := 39) hF hN hK hP hV hS hA (k_X10_comesUp l D cI cC cB cS o ad P I f so cl de bs k hp hfb hde hso hclx (by omega) hbs) (cwV 2 hts gX10_goes_X10_comesUp rfl rfl rfl (by decide +kernel) ⟨Nat.le_of_ble_eq_true rfl, Nat.le_of_ble_eq_true rfl⟩) [0, 1, 2, 3, 4] rfl (by decide) 0 10 rfl rfl rfl hl.1 rfl (Nat.le_of_ble_eq_true rfl) dX10_goes_39 ⟨Nat.le_refl _, Nat.le_refl _⟩ rfl (ws2 := [rmE o ad (pCells P) P.2.2.2.1 P.2.2.2.2.2.1 P.2.2.2.2.2.2 I, nE 384 (ad 25) cI (rCom P f so cl de bs k), nE 6 (ad 4) cI so, nE 6 (ad 5) cI cl, nE 6 (ad 6) cI de, nE 6 (ad 7) cI si, nE 3 (ad 11) cI ms]) rfl (fun H locs hP hS => ?_)
            refine lv_iinc (pc := 42) (v := nI (k + 1)) (lv' := [(3, .int (nI (k + 1))), (2, .int (nI st)), (1, .int (nI bs)), (0, .ref o)]) hx hb dX10_goes_42 hl (k := 0) rfl (by rw [← nI_add]; rfl) (by decide) rfl (fun ls hl => ?_)
            refine lv_goto (pc := 45) (tgt := 2) hx hb dX10_goes_45 (by decide) ?_
            exact ih2 (k + 1) (rCom P f so cl de bs k) _ _ _ (by omega) (goC_yes hf ⟨c15, (by omega)⟩) (by omega) hP hS (lv_sub hl [0, 1, 2, 3] rfl)
  exact cut2 _ 0 sl _ _ _ (Nat.zero_le _) rfl (Nat.lt_succ_self _) hP hS (lv_sub hl [0, 3, 2, 1] rfl)
