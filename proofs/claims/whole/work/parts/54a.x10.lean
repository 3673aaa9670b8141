abbrev rmX10_begins : Room := { frames := 0, cells := 0, slots := 0, locals := 0 }
set_option maxHeartbeats 4000000 in
set_option maxRecDepth 100000 in
theorem k_X10_begins (l : Launch) (D : va_G) (cI cC cB cS : ClassId) (o : Nat) (ad : Nat → Nat) (e1 e2 e3 e4 : Nat) (I : RI) (sl : Nat → Nat) (to : Nat → Nat) (ms : Nat → Nat) (bs : Nat) (hbs : bs + 32 ≤ 384) (he4 : e4 ≤ 3) : CV l D (kT cI cC cB cS) yX10_begins wsX10_begins rmX10_begins [.ref o, .int (nI bs)] ([rmE o ad e1 e2 e3 e4 I, nE 384 (ad 25) cI sl, nE 24 (ad 2) cI to, nE 3 (ad 11) cI ms]) (fun u => u = [rmE o ad e1 e2 e3 e4 I, nE 384 (ad 25) cI (rBeg e4 to ms bs sl), nE 24 (ad 2) cI to, nE 3 (ad 11) cI ms]) := by
  refine cv_intro (by decide) rfl (Nat.le_of_ble_eq_true rfl) ?_
  intro p e s m args below meth c ls A QF hF hK hP hV hS hA hN hl hret
  obtain ⟨hx, hb, hml, hown, hts⟩ := id hF
  have hP : va_P D vwCl ([rmE o ad e1 e2 e3 e4 I, nE 384 (ad 25) cI sl, nE 24 (ad 2) cI to, nE 3 (ad 11) cI ms]) s.heap := hP
  have hl : lv_has ls 3 [(0, .ref o), (1, .int (nI bs))] := hl
  have wf7 := hts (.fieldLink RX10 7 "RemorseWallModel" "told" "[I") (by decide +kernel)
  have wf31 := hts (.fieldLink RX10 31 "RemorseWallModel" "strokes" "[I") (by decide +kernel)
  have wf61 := hts (.fieldLink RX10 61 "RemorseWallModel" "slot" "[I") (by decide +kernel)
  have wf130 := hts (.fieldLink RX10 130 "RemorseWallModel" "maids" "I") (by decide +kernel)
  have hiX10 : ∀ w ∈ u_ws RX10 TX10 44, w ∈ wsX10_begins := by decide +kernel
  refine lv_iconst (pc := 0) (v := nI 0) hx hb dX10_begins_0 (by decide) ?_
  refine lv_istore_n (pc := 1) (lv' := [(2, .int (nI 0)), (0, .ref o), (1, .int (nI bs))]) hx hb dX10_begins_1 rfl hl (by decide) rfl (fun ls hl => ?_)
  have cut2 : ∀ (fuel : Nat) (i : Nat) (f : Nat → Nat) (H : Heap) (locs : List Loc) (ls : Array Slot) (hi : i ≤ 24) (hf : f = rBeg1 to sl bs i) (hfu : 24 - i < fuel), va_P D vwCl ([rmE o ad e1 e2 e3 e4 I, nE 384 (ad 25) cI f, nE 24 (ad 2) cI to, nE 3 (ad 11) cI ms]) H → va_S A s.heap H locs → lv_has ls 3 [(2, .int (nI i)), (1, .int (nI bs)), (0, .ref o)] → W p l e rmX10_begins s m args below meth c H locs 0 0 QF (F0 m 2 ls []) := by
    intro fuel
    induction fuel with
    | zero => intro i f H locs ls hi hf hfu; omega
    | succ fuel ih2 =>
      intro i f H locs ls hi hf hfu hP hS hl
      refine lv_iload_n (pc := 2) hx hb dX10_begins_2 rfl (lv_at hl 0 rfl) ?_
      refine lv_bipush (pc := 3) (v := nI 24) hx hb dX10_begins_3 (by decide) ?_
      refine rc_ge (pc := 5) (tgt := 28) hx hb (tI_nI (by omega)) (tI_nI (by omega)) dX10_begins_5 (by decide) (fun c5 => ?_) (fun c5 => ?_)
      · refine lv_iconst (pc := 28) (v := nI 0) hx hb dX10_begins_28 (by decide) ?_
        refine lv_istore_n (pc := 29) (lv' := [(2, .int (nI 0)), (1, .int (nI bs)), (0, .ref o)]) hx hb dX10_begins_29 rfl hl (by decide) rfl (fun ls hl => ?_)
        have cut30 : ∀ (fuel : Nat) (k : Nat) (g : Nat → Nat) (H : Heap) (locs : List Loc) (ls : Array Slot) (hk : k ≤ 3) (hg : g = rBeg2 e4 ms (rBeg1 to sl bs 24) bs k) (hfu : 3 - k < fuel), va_P D vwCl ([rmE o ad e1 e2 e3 e4 I, nE 384 (ad 25) cI g, nE 24 (ad 2) cI to, nE 3 (ad 11) cI ms]) H → va_S A s.heap H locs → lv_has ls 3 [(2, .int (nI k)), (1, .int (nI bs)), (0, .ref o)] → W p l e rmX10_begins s m args below meth c H locs 0 0 QF (F0 m 30 ls []) := by
          intro fuel
          induction fuel with
          | zero => intro k g H locs ls hk hg hfu; omega
          | succ fuel ih30 =>
            intro k g H locs ls hk hg hfu hP hS hl
            refine lv_iload_n (pc := 30) hx hb dX10_begins_30 rfl (lv_at hl 0 rfl) ?_
            refine lv_iconst (pc := 31) (v := nI 3) hx hb dX10_begins_31 (by decide) ?_
            refine rc_ge (pc := 32) (tgt := 70) hx hb (tI_nI (by omega)) (tI_nI (by omega)) dX10_begins_32 (by decide) (fun c32 => ?_) (fun c32 => ?_)
            · refine lv_aload_n (pc := 70) hx hb dX10_begins_70 rfl (lv_at hl 2 rfl) ?_
              refine va_get (pc := 71) (D := D) (ci := 10) (v := .ref (ad 25)) (C := RX10) (T := TX10) (N := 44) hx hb hts hiX10 hown hK hP 0 rfl rfl 25 (by decide) wf61 (fun _ h9 => h9) rfl dX10_begins_71 ?_
              refine lv_iload_n (pc := 74) hx hb dX10_begins_74 rfl (lv_at hl 1 rfl) ?_
              refine lv_bipush (pc := 75) (v := nI 30) hx hb dX10_begins_75 (by decide) ?_
              refine rn_iadd (pc := 77) hx hb dX10_begins_77 ?_
              refine lv_iconst (pc := 78) (v := nI 0) hx hb dX10_begins_78 (by decide) ?_
              refine rn_iast (pc := 79) (f := g) (k := bs + 30) (x := 0) (ws2 := [rmE o ad e1 e2 e3 e4 I, nE 384 (ad 25) cI (va_up g (bs + 30) 0), nE 24 (ad 2) cI to, nE 3 (ad 11) cI ms]) hx hb hK hP hV hS 1 0 rfl rfl (by omega) (by decide) dX10_begins_79 rfl rfl (fun H locs hP hS => ?_)
              refine lv_aload_n (pc := 80) hx hb dX10_begins_80 rfl (lv_at hl 2 rfl) ?_
              refine va_get (pc := 81) (D := D) (ci := 10) (v := .ref (ad 25)) (C := RX10) (T := TX10) (N := 44) hx hb hts hiX10 hown hK hP 0 rfl rfl 25 (by decide) wf61 (fun _ h9 => h9) rfl dX10_begins_81 ?_
              refine lv_iload_n (pc := 84) hx hb dX10_begins_84 rfl (lv_at hl 1 rfl) ?_
              refine lv_bipush (pc := 85) (v := nI 31) hx hb dX10_begins_85 (by decide) ?_
              refine rn_iadd (pc := 87) hx hb dX10_begins_87 ?_
              refine lv_iconst (pc := 88) (v := nI 0) hx hb dX10_begins_88 (by decide) ?_
              refine rn_iast (pc := 89) (f := va_up g (bs + 30) 0) (k := bs + 31) (x := 0) (ws2 := [rmE o ad e1 e2 e3 e4 I, nE 384 (ad 25) cI (va_up (va_up g (bs + 30) 0) (bs + 31) 0), nE 24 (ad 2) cI to, nE 3 (ad 11) cI ms]) hx hb hK hP hV hS 1 0 rfl rfl (by omega) (by decide) dX10_begins_89 rfl rfl (fun H locs hP hS => ?_)
              exact hret 90 _ hP hS dX10_begins_90 rfl (by have e9 : k = 3 := (by omega); subst e9; unfold rBeg; rw [← hg])
            · refine lv_aload_n (pc := 35) hx hb dX10_begins_35 rfl (lv_at hl 2 rfl) ?_
              refine va_get (pc := 36) (D := D) (ci := 10) (v := .ref (ad 25)) (C := RX10) (T := TX10) (N := 44) hx hb hts hiX10 hown hK hP 0 rfl rfl 25 (by decide) wf61 (fun _ h9 => h9) rfl dX10_begins_36 ?_
              refine lv_iload_n (pc := 39) hx hb dX10_begins_39 rfl (lv_at hl 1 rfl) ?_
              refine lv_bipush (pc := 40) (v := nI 24) hx hb dX10_begins_40 (by decide) ?_
              refine rn_iadd (pc := 42) hx hb dX10_begins_42 ?_
              refine lv_iload_n (pc := 43) hx hb dX10_begins_43 rfl (lv_at hl 0 rfl) ?_
              refine rn_iadd (pc := 44) hx hb dX10_begins_44 ?_
              refine lv_iload_n (pc := 45) hx hb dX10_begins_45 rfl (lv_at hl 0 rfl) ?_
              refine lv_aload_n (pc := 46) hx hb dX10_begins_46 rfl (lv_at hl 2 rfl) ?_
              refine va_get (pc := 47) (D := D) (ci := 10) (v := .int (nI e4)) (C := RX10) (T := TX10) (N := 44) hx hb hts hiX10 hown hK hP 0 rfl rfl 8 (by decide) wf130 (fun _ h9 => h9) rfl dX10_begins_47 ?_
              refine rc_ge (pc := 50) (tgt := 62) hx hb (tI_nI (by omega)) (tI_nI (by omega)) dX10_begins_50 (by decide) (fun c50 => ?_) (fun c50 => ?_)
              · refine lv_iconst (pc := 62) (v := nI 0) hx hb dX10_begins_62 (by decide) ?_
                refine rn_iast (pc := 63) (f := g) (k := (bs + 24) + k) (x := 0) (ws2 := [rmE o ad e1 e2 e3 e4 I, nE 384 (ad 25) cI (va_up g ((bs + 24) + k) 0), nE 24 (ad 2) cI to, nE 3 (ad 11) cI ms]) hx hb hK hP hV hS 1 0 rfl rfl (by omega) (by decide) dX10_begins_63 rfl rfl (fun H locs hP hS => ?_)
                refine lv_iinc (pc := 64) (v := nI (k + 1)) (lv' := [(2, .int (nI (k + 1))), (1, .int (nI bs)), (0, .ref o)]) hx hb dX10_begins_64 hl (k := 0) rfl (by rw [← nI_add]; rfl) (by decide) rfl (fun ls hl => ?_)
                refine lv_goto (pc := 67) (tgt := 30) hx hb dX10_begins_67 (by decide) ?_
                exact ih30 (k + 1) (va_up g ((bs + 24) + k) 0) _ _ _ (by omega) (by rw [hg, rBeg2, if_neg (by omega)]) (by omega) hP hS (lv_sub hl [0, 1, 2] rfl)
              · refine lv_aload_n (pc := 53) hx hb dX10_begins_53 rfl (lv_at hl 2 rfl) ?_
                refine va_get (pc := 54) (D := D) (ci := 10) (v := .ref (ad 11)) (C := RX10) (T := TX10) (N := 44) hx hb hts hiX10 hown hK hP 0 rfl rfl 11 (by decide) wf31 (fun _ h9 => h9) rfl dX10_begins_54 ?_
                refine lv_iload_n (pc := 57) hx hb dX10_begins_57 rfl (lv_at hl 0 rfl) ?_
                refine ra_iald (pc := 58) (k := k) (v := nI (ms k)) hx hb hK hP 3 0 rfl rfl (by omega) (by decide) rfl dX10_begins_58 ?_
                refine lv_goto (pc := 59) (tgt := 63) hx hb dX10_begins_59 (by decide) ?_
                refine rn_iast (pc := 63) (f := g) (k := (bs + 24) + k) (x := ms k) (ws2 := [rmE o ad e1 e2 e3 e4 I, nE 384 (ad 25) cI (va_up g ((bs + 24) + k) (ms k)), nE 24 (ad 2) cI to, nE 3 (ad 11) cI ms]) hx hb hK hP hV hS 1 0 rfl rfl (by omega) (by decide) dX10_begins_63 rfl rfl (fun H locs hP hS => ?_)
                refine lv_iinc (pc := 64) (v := nI (k + 1)) (lv' := [(2, .int (nI (k + 1))), (1, .int (nI bs)), (0, .ref o)]) hx hb dX10_begins_64 hl (k := 0) rfl (by rw [← nI_add]; rfl) (by decide) rfl (fun ls hl => ?_)
                refine lv_goto (pc := 67) (tgt := 30) hx hb dX10_begins_67 (by decide) ?_
                exact ih30 (k + 1) (va_up g ((bs + 24) + k) (ms k)) _ _ _ (by omega) (by rw [hg, rBeg2, if_pos (by omega)]) (by omega) hP hS (lv_sub hl [0, 1, 2] rfl)
        exact cut30 _ 0 f _ _ _ (by omega) (by rw [hf, show i = 24 by omega]; rfl) (Nat.lt_succ_self _) hP hS (lv_sub hl [0, 1, 2] rfl)
      · refine lv_aload_n (pc := 8) hx hb dX10_begins_8 rfl (lv_at hl 2 rfl) ?_
        refine va_get (pc := 9) (D := D) (ci := 10) (v := .ref (ad 25)) (C := RX10) (T := TX10) (N := 44) hx hb hts hiX10 hown hK hP 0 rfl rfl 25 (by decide) wf61 (fun _ h9 => h9) rfl dX10_begins_9 ?_
        refine lv_iload_n (pc := 12) hx hb dX10_begins_12 rfl (lv_at hl 1 rfl) ?_
        refine lv_iload_n (pc := 13) hx hb dX10_begins_13 rfl (lv_at hl 0 rfl) ?_
        refine rn_iadd (pc := 14) hx hb dX10_begins_14 ?_
        refine lv_aload_n (pc := 15) hx hb dX10_begins_15 rfl (lv_at hl 2 rfl) ?_
        refine va_get (pc := 16) (D := D) (ci := 10) (v := .ref (ad 2)) (C := RX10) (T := TX10) (N := 44) hx hb hts hiX10 hown hK hP 0 rfl rfl 2 (by decide) wf7 (fun _ h9 => h9) rfl dX10_begins_16 ?_
        refine lv_iload_n (pc := 19) hx hb dX10_begins_19 rfl (lv_at hl 0 rfl) ?_
        refine ra_iald (pc := 20) (k := i) (v := nI (to i)) hx hb hK hP 2 0 rfl rfl (by omega) (by decide) rfl dX10_begins_20 ?_
        refine rn_iast (pc := 21) (f := f) (k := bs + i) (x := to i) (ws2 := [rmE o ad e1 e2 e3 e4 I, nE 384 (ad 25) cI (va_up f (bs + i) (to i)), nE 24 (ad 2) cI to, nE 3 (ad 11) cI ms]) hx hb hK hP hV hS 1 0 rfl rfl (by omega) (by decide) dX10_begins_21 rfl rfl (fun H locs hP hS => ?_)
        refine lv_iinc (pc := 22) (v := nI (i + 1)) (lv' := [(2, .int (nI (i + 1))), (1, .int (nI bs)), (0, .ref o)]) hx hb dX10_begins_22 hl (k := 0) rfl (by rw [← nI_add]; rfl) (by decide) rfl (fun ls hl => ?_)
        refine lv_goto (pc := 25) (tgt := 2) hx hb dX10_begins_25 (by decide) ?_
        exact ih2 (i + 1) (va_up f (bs + i) (to i)) _ _ _ (by omega) (by rw [hf]; rfl) (by omega) hP hS (lv_sub hl [0, 1, 2] rfl)
  exact cut2 _ 0 sl _ _ _ (by omega) rfl (Nat.lt_succ_self _) hP hS (lv_sub hl [0, 2, 1] rfl)
