abbrev rmX3_skip : Room := { frames := 1, cells := 0, slots := 0, locals := 21 }
set_option maxHeartbeats 4000000 in
set_option maxRecDepth 100000 in
theorem k_X3_skip (l : Launch) (D : va_G) (cI cC cB cS : ClassId) (r0 r1 r2 : Nat) (R : RD) (t0 t1 : Nat) (T : LT) (sg : Nat) (ht : ltOK T) (hkb : R.2.2 < 20000) (hsg : sg < 127) : CI l D (kT cI cC cB cS) yX3_skip wsX3_skip rmX3_skip [.ref r0, .ref t0, .int (nI sg)] (rdW r0 r1 r2 cI R ++ ltW t0 t1 cC T) (fun r u => r = nI (if tAt T R.2.2 = sg then 1 else 0) ∧ u = rdW r0 r1 r2 cI (if tAt T R.2.2 = sg then (R.1, R.2.1, R.2.2 + 1) else R) ++ ltW t0 t1 cC T) := by
  refine ci_intro (by decide) rfl (Nat.le_of_ble_eq_true rfl) ?_
  intro p e s m args below meth c ls A QF hF hK hP hV hS hA hN hl hret
  obtain ⟨hx, hb, hml, hown, hts⟩ := id hF
  have hP : va_P D vwCl (rdW r0 r1 r2 cI R ++ ltW t0 t1 cC T) s.heap := hP
  have hl : lv_has ls 3 [(0, .ref r0), (1, .ref t0), (2, .int (nI sg))] := hl
  have wf18 := hts (.fieldLink RX3 18 "RemorseWall$Reader" "place" "I") (by decide +kernel)
  have hiX3 : ∀ w ∈ u_ws RX3 TX3 3, w ∈ wsX3_skip := by decide +kernel
  have ht2 := ht.2
  refine lv_aload_n (pc := 0) hx hb dX3_skip_0 rfl (lv_at hl 1 rfl) ?_
  refine lv_aload_n (pc := 1) hx hb dX3_skip_1 rfl (lv_at hl 0 rfl) ?_
  refine va_get (pc := 2) (D := D) (ci := 3) (v := .int (nI R.2.2)) (C := RX3) (T := TX3) (N := 3) hx hb hts hiX3 hown hK hP 0 rfl rfl 2 (by decide) wf18 (fun _ h9 => h9) rfl dX3_skip_2 ?_
  refine ci_Vd (pc := 5) (r0 := nI (tAt T R.2.2)) hF hN hK hP hV hS hA (k_X0_at l D cI cC cB cS t0 t1 T R.2.2 ht (by omega)) (cwV 1 hts gX3_skip_X0_at rfl rfl rfl (by decide +kernel) ⟨Nat.le_of_ble_eq_true rfl, Nat.le_of_ble_eq_true rfl⟩) [3, 4] rfl (by decide) 0 0 rfl rfl rfl hl.1 rfl (Nat.le_of_ble_eq_true rfl) dX3_skip_5 ⟨Nat.le_refl _, Nat.le_refl _⟩ rfl (ws2 := rdW r0 r1 r2 cI R ++ ltW t0 t1 cC T) rfl (fun H locs hP hS => ?_)
  have fq1 := tAt_lt ht R.2.2
  refine lv_iload_n (pc := 8) hx hb dX3_skip_8 rfl (lv_at hl 2 rfl) ?_
  refine rc_eq (pc := 9) (tgt := 14) hx hb (tI_nI (by omega)) (tI_nI (by omega)) dX3_skip_9 (by decide) (fun c9 => ?_) (fun c9 => ?_)
  · refine lv_aload_n (pc := 14) hx hb dX3_skip_14 rfl (lv_at hl 0 rfl) ?_
    refine lv_dup (pc := 15) hx hb dX3_skip_15 rfl ?_
    refine va_get (pc := 16) (D := D) (ci := 3) (v := .int (nI R.2.2)) (C := RX3) (T := TX3) (N := 3) hx hb hts hiX3 hown hK hP 0 rfl rfl 2 (by decide) wf18 (fun _ h9 => h9) rfl dX3_skip_16 ?_
    refine lv_iconst (pc := 19) (v := nI 1) hx hb dX3_skip_19 (by decide) ?_
    refine rn_iadd (pc := 20) hx hb dX3_skip_20 ?_
    refine ra_put (pc := 21) (D := D) (ci := 3) (v := .int (nI (R.2.2 + 1))) (ty := .int) (C := RX3) (T := TX3) (N := 3) (ws2 := rdW r0 r1 r2 cI (R.1, R.2.1, R.2.2 + 1) ++ ltW t0 t1 cC T) hx hb hts hiX3 tyX3 tyX3_ok nmX3 hown hK hP hV hS 0 rfl rfl 2 (by decide) wf18 (fun _ h9 => h9) rfl (by decide +kernel) rfl rfl (Nat.le_of_ble_eq_true rfl) dX3_skip_21 rfl rfl (fun H locs hP hS => ?_)
    refine lv_iconst (pc := 24) (v := nI 1) hx hb dX3_skip_24 (by decide) ?_
    exact hret 25 _ hP hS dX3_skip_25 rfl rfl ⟨(by rw [if_pos (by omega)]), (by rw [if_pos (by omega)])⟩
  · refine lv_iconst (pc := 12) (v := nI 0) hx hb dX3_skip_12 (by decide) ?_
    exact hret 13 _ hP hS dX3_skip_13 rfl rfl ⟨(by rw [if_neg (by omega)]), (by rw [if_neg (by omega)])⟩
abbrev rmX3_readNumbers : Room := { frames := 2, cells := 0, slots := 0, locals := 43 }
set_option maxHeartbeats 4000000 in
set_option maxRecDepth 100000 in
theorem k_X3_readNumbers (l : Launch) (D : va_G) (cI cC cB cS : ClassId) (r0 r1 r2 : Nat) (R : RD) (t0 t1 : Nat) (T : LT) (ht : ltOK T) (hkb : R.2.2 < 10000) (hf : ∀ j, R.1 j < 100) : CI l D (kT cI cC cB cS) yX3_readNumbers wsX3_readNumbers rmX3_readNumbers [.ref r0, .ref t0] (rdW r0 r1 r2 cI R ++ ltW t0 t1 cC T) (fun r u => ∃ (f : Nat → Nat) (k : Nat), u = rdW r0 r1 r2 cI (f, R.2.1, k) ++ ltW t0 t1 cC T ∧ (∀ j, f j < 100) ∧ k ≤ R.2.2 + 20 ∧ ((r = nI 1 ∧ numsF T R.2.2 R.1 4 = some (f, k)) ∨ (r = nI 0 ∧ numsF T R.2.2 R.1 4 = none))) := by
  refine ci_intro (by decide) rfl (Nat.le_of_ble_eq_true rfl) ?_
  intro p e s m args below meth c ls A QF hF hK hP hV hS hA hN hl hret
  obtain ⟨hx, hb, hml, hown, hts⟩ := id hF
  have hP : va_P D vwCl (rdW r0 r1 r2 cI R ++ ltW t0 t1 cC T) s.heap := hP
  have hl : lv_has ls 5 [(0, .ref r0), (1, .ref t0)] := hl
  have wf9 := hts (.fieldLink RX3 9 "RemorseWall$Reader" "numbers" "[I") (by decide +kernel)
  have wf18 := hts (.fieldLink RX3 18 "RemorseWall$Reader" "place" "I") (by decide +kernel)
  have hiX3 : ∀ w ∈ u_ws RX3 TX3 3, w ∈ wsX3_readNumbers := by decide +kernel
  have ht2 := ht.2
  refine lv_iconst (pc := 0) (v := nI 0) hx hb dX3_readNumbers_0 (by decide) ?_
  refine lv_istore_n (pc := 1) (lv' := [(2, .int (nI 0)), (0, .ref r0), (1, .ref t0)]) hx hb dX3_readNumbers_1 rfl hl (by decide) rfl (fun ls hl => ?_)
  have cut2 : ∀ (fuel : Nat) (i : Nat) (f : Nat → Nat) (k : Nat) (H : Heap) (locs : List Loc) (ls : Array Slot) (hi4 : i ≤ 4) (hfb : ∀ j, f j < 100) (hk : k ≤ R.2.2 + 3 * i) (hn : numsF T R.2.2 R.1 i = some (f, k)) (hfu : 4 - i < fuel), va_P D vwCl (rdW r0 r1 r2 cI (f, R.2.1, k) ++ ltW t0 t1 cC T) H → va_S A s.heap H locs → lv_has ls 5 [(2, .int (nI i)), (1, .ref t0), (0, .ref r0)] → W p l e rmX3_readNumbers s m args below meth c H locs 0 0 QF (F0 m 2 ls []) := by
    intro fuel
    induction fuel with
    | zero => intro i f k H locs ls hi4 hfb hk hn hfu; omega
    | succ fuel ih2 =>
      intro i f k H locs ls hi4 hfb hk hn hfu hP hS hl
      refine lv_iload_n (pc := 2) hx hb dX3_readNumbers_2 rfl (lv_at hl 0 rfl) ?_
      refine lv_aload_n (pc := 3) hx hb dX3_readNumbers_3 rfl (lv_at hl 2 rfl) ?_
      refine va_get (pc := 4) (D := D) (ci := 3) (v := .ref r1) (C := RX3) (T := TX3) (N := 3) hx hb hts hiX3 hown hK hP 0 rfl rfl 0 (by decide) wf9 (fun _ h9 => h9) rfl dX3_readNumbers_4 ?_
      refine va_alen (pc := 7) (v := nI 4) hx hb hK hP 1 0 rfl rfl rfl dX3_readNumbers_7 ?_
      refine rc_ge (pc := 8) (tgt := 122) hx hb (tI_nI (by omega)) (tI_nI (by omega)) dX3_readNumbers_8 (by decide) (fun c8 => ?_) (fun c8 => ?_)
      · refine lv_iconst (pc := 122) (v := nI 1) hx hb dX3_readNumbers_122 (by decide) ?_
        exact hret 123 _ hP hS dX3_readNumbers_123 rfl rfl ⟨f, k, rfl, hfb, (by omega), Or.inl ⟨rfl, (by rw [← hn, show i = 4 by omega])⟩⟩
      · refine lv_aload_n (pc := 11) hx hb dX3_readNumbers_11 rfl (lv_at hl 1 rfl) ?_
        refine lv_aload_n (pc := 12) hx hb dX3_readNumbers_12 rfl (lv_at hl 2 rfl) ?_
        refine va_get (pc := 13) (D := D) (ci := 3) (v := .int (nI k)) (C := RX3) (T := TX3) (N := 3) hx hb hts hiX3 hown hK hP 0 rfl rfl 2 (by decide) wf18 (fun _ h9 => h9) rfl dX3_readNumbers_13 ?_
        refine ci_Vd (pc := 16) (r0 := jI (figZ T k)) hF hN hK hP hV hS hA (k_X0_figureAt l D cI cC cB cS t0 t1 T k ht (by omega)) (cwV 1 hts gX3_readNumbers_X0_figureAt rfl rfl rfl (by decide +kernel) ⟨Nat.le_of_ble_eq_true rfl, Nat.le_of_ble_eq_true rfl⟩) [3, 4] rfl (by decide) 0 0 rfl rfl rfl hl.1 rfl (Nat.le_of_ble_eq_true rfl) dX3_readNumbers_16 ⟨Nat.le_refl _, Nat.le_refl _⟩ rfl (ws2 := rdW r0 r1 r2 cI (f, R.2.1, k) ++ ltW t0 t1 cC T) rfl (fun H locs hP hS => ?_)
        have fq1 := figZ_rng_ T k
        refine lv_istore_n (pc := 19) (lv' := [(3, .int (jI (figZ T k))), (2, .int (nI i)), (1, .ref t0), (0, .ref r0)]) hx hb dX3_readNumbers_19 rfl hl (by decide) rfl (fun ls hl => ?_)
        refine lv_iload_n (pc := 20) hx hb dX3_readNumbers_20 rfl (lv_at hl 0 rfl) ?_
        refine lv_bipush (pc := 21) (v := jI (-4)) hx hb dX3_readNumbers_21 (by decide) ?_
        refine rc_ne (pc := 23) (tgt := 28) hx hb (jI_to (by omega)) (jI_to (by omega)) dX3_readNumbers_23 (by decide) (fun c23 => ?_) (fun c23 => ?_)
        · have cut88 : ∀ (v : Nat) (k1 : Nat) (H : Heap) (locs : List Loc) (ls : Array Slot) (hv : v < 100) (hk1 : k1 ≤ k + 2) (h1 : num1 T k = some (v, k1)), va_P D vwCl (rdW r0 r1 r2 cI (va_up f i v, R.2.1, k1) ++ ltW t0 t1 cC T) H → va_S A s.heap H locs → lv_has ls 5 [(2, .int (nI i)), (1, .ref t0), (0, .ref r0)] → W p l e rmX3_readNumbers s m args below meth c H locs 0 0 QF (F0 m 88 ls []) := by
            intro v k1 H locs ls hv hk1 h1 hP hS hl
            refine lv_aload_n (pc := 88) hx hb dX3_readNumbers_88 rfl (lv_at hl 2 rfl) ?_
            refine lv_aload_n (pc := 89) hx hb dX3_readNumbers_89 rfl (lv_at hl 1 rfl) ?_
            refine lv_iload_n (pc := 90) hx hb dX3_readNumbers_90 rfl (lv_at hl 0 rfl) ?_
            refine lv_aload_n (pc := 91) hx hb dX3_readNumbers_91 rfl (lv_at hl 2 rfl) ?_
            refine va_get (pc := 92) (D := D) (ci := 3) (v := .ref r1) (C := RX3) (T := TX3) (N := 3) hx hb hts hiX3 hown hK hP 0 rfl rfl 0 (by decide) wf9 (fun _ h9 => h9) rfl dX3_readNumbers_92 ?_
            refine va_alen (pc := 95) (v := nI 4) hx hb hK hP 1 0 rfl rfl rfl dX3_readNumbers_95 ?_
            refine lv_iconst (pc := 96) (v := nI 1) hx hb dX3_readNumbers_96 (by decide) ?_
            refine rn_isub (pc := 97) hx hb (by omega) dX3_readNumbers_97 ?_
            refine rc_ne (pc := 98) (tgt := 106) hx hb (tI_nI (by omega)) (tI_nI (by omega)) dX3_readNumbers_98 (by decide) (fun c98 => ?_) (fun c98 => ?_)
            · refine lv_bipush (pc := 106) (v := nI 44) hx hb dX3_readNumbers_106 (by decide) ?_
              refine ci_Vd (pc := 108) (r0 := nI (if tAt T k1 = 44 then 1 else 0)) hF hN hK hP hV hS hA (k_X3_skip l D cI cC cB cS r0 r1 r2 (va_up f i v, R.2.1, k1) t0 t1 T 44 ht (show k1 < 20000 by omega) (by omega)) (cwV 2 hts gX3_readNumbers_X3_skip rfl rfl rfl (by decide +kernel) ⟨Nat.le_of_ble_eq_true rfl, Nat.le_of_ble_eq_true rfl⟩) [0, 1, 2, 3, 4] rfl (by decide) 0 3 rfl rfl rfl hl.1 rfl (Nat.le_of_ble_eq_true rfl) dX3_readNumbers_108 ⟨Nat.le_refl _, Nat.le_refl _⟩ rfl (ws2 := rdW r0 r1 r2 cI (if tAt T k1 = 44 then ((va_up f i v), R.2.1, k1 + 1) else (va_up f i v, R.2.1, k1)) ++ ltW t0 t1 cC T) rfl (fun H locs hP hS => ?_)
              refine rb_ne (pc := 111) (tgt := 116) hx hb dX3_readNumbers_111 (by decide) (fun c111 => ?_) (fun c111 => ?_)
              · rw [if_pos c111] at hP
                refine lv_iinc (pc := 116) (v := nI (i + 1)) (lv' := [(2, .int (nI (i + 1))), (1, .ref t0), (0, .ref r0)]) hx hb dX3_readNumbers_116 hl (k := 0) rfl (by rw [← nI_add]; rfl) (by decide) rfl (fun ls hl => ?_)
                refine lv_goto (pc := 119) (tgt := 2) hx hb dX3_readNumbers_119 (by decide) ?_
                exact ih2 (i + 1) (va_up f i v) (k1 + 1) _ _ _ (by omega) (va_up_lt hfb (by omega)) (by omega) (numsF_yes hn (numS_yes h1 (by first | (rw [if_pos (by omega)]; exact c111) | (rw [if_neg (by omega)]; exact c111)))) (by omega) hP hS (lv_sub hl [0, 1, 2] rfl)
              · rw [if_neg c111] at hP
                refine lv_iconst (pc := 114) (v := nI 0) hx hb dX3_readNumbers_114 (by decide) ?_
                exact hret 115 _ hP hS dX3_readNumbers_115 rfl rfl ⟨va_up f i v, k1, rfl, va_up_lt hfb (by omega), (by omega), Or.inr ⟨rfl, numsF_no (by omega) hn (numS_no2 h1 (by first | (rw [if_pos (by omega)]; exact c111) | (rw [if_neg (by omega)]; exact c111)))⟩⟩
            · refine lv_bipush (pc := 101) (v := nI 59) hx hb dX3_readNumbers_101 (by decide) ?_
              refine lv_goto (pc := 103) (tgt := 108) hx hb dX3_readNumbers_103 (by decide) ?_
              refine ci_Vd (pc := 108) (r0 := nI (if tAt T k1 = 59 then 1 else 0)) hF hN hK hP hV hS hA (k_X3_skip l D cI cC cB cS r0 r1 r2 (va_up f i v, R.2.1, k1) t0 t1 T 59 ht (show k1 < 20000 by omega) (by omega)) (cwV 2 hts gX3_readNumbers_X3_skip rfl rfl rfl (by decide +kernel) ⟨Nat.le_of_ble_eq_true rfl, Nat.le_of_ble_eq_true rfl⟩) [0, 1, 2, 3, 4] rfl (by decide) 0 3 rfl rfl rfl hl.1 rfl (Nat.le_of_ble_eq_true rfl) dX3_readNumbers_108 ⟨Nat.le_refl _, Nat.le_refl _⟩ rfl (ws2 := rdW r0 r1 r2 cI (if tAt T k1 = 59 then ((va_up f i v), R.2.1, k1 + 1) else (va_up f i v, R.2.1, k1)) ++ ltW t0 t1 cC T) rfl (fun H locs hP hS => ?_)
              refine rb_ne (pc := 111) (tgt := 116) hx hb dX3_readNumbers_111 (by decide) (fun c111 => ?_) (fun c111 => ?_)
              · rw [if_pos c111] at hP
                refine lv_iinc (pc := 116) (v := nI (i + 1)) (lv' := [(2, .int (nI (i + 1))), (1, .ref t0), (0, .ref r0)]) hx hb dX3_readNumbers_116 hl (k := 0) rfl (by rw [← nI_add]; rfl) (by decide) rfl (fun ls hl => ?_)
                refine lv_goto (pc := 119) (tgt := 2) hx hb dX3_readNumbers_119 (by decide) ?_
                exact ih2 (i + 1) (va_up f i v) (k1 + 1) _ _ _ (by omega) (va_up_lt hfb (by omega)) (by omega) (numsF_yes hn (numS_yes h1 (by first | (rw [if_pos (by omega)]; exact c111) | (rw [if_neg (by omega)]; exact c111)))) (by omega) hP hS (lv_sub hl [0, 1, 2] rfl)
              · rw [if_neg c111] at hP
                refine lv_iconst (pc := 114) (v := nI 0) hx hb dX3_readNumbers_114 (by decide) ?_
                exact hret 115 _ hP hS dX3_readNumbers_115 rfl rfl ⟨va_up f i v, k1, rfl, va_up_lt hfb (by omega), (by omega), Or.inr ⟨rfl, numsF_no (by omega) hn (numS_no2 h1 (by first | (rw [if_pos (by omega)]; exact c111) | (rw [if_neg (by omega)]; exact c111)))⟩⟩
          have g20 : isF T k := figZ_isF (by omega)
          rw [figZ_yes g20, ← jI_nat] at hl
          have gd := tAt_lt ht k
          refine lv_aload_n (pc := 28) hx hb dX3_readNumbers_28 rfl (lv_at hl 3 rfl) ?_
          refine lv_dup (pc := 29) hx hb dX3_readNumbers_29 rfl ?_
          refine va_get (pc := 30) (D := D) (ci := 3) (v := .int (nI k)) (C := RX3) (T := TX3) (N := 3) hx hb hts hiX3 hown hK hP 0 rfl rfl 2 (by decide) wf18 (fun _ h9 => h9) rfl dX3_readNumbers_30 ?_
          refine lv_iconst (pc := 33) (v := nI 1) hx hb dX3_readNumbers_33 (by decide) ?_
          refine rn_iadd (pc := 34) hx hb dX3_readNumbers_34 ?_
          refine ra_put (pc := 35) (D := D) (ci := 3) (v := .int (nI (k + 1))) (ty := .int) (C := RX3) (T := TX3) (N := 3) (ws2 := rdW r0 r1 r2 cI (f, R.2.1, k + 1) ++ ltW t0 t1 cC T) hx hb hts hiX3 tyX3 tyX3_ok nmX3 hown hK hP hV hS 0 rfl rfl 2 (by decide) wf18 (fun _ h9 => h9) rfl (by decide +kernel) rfl rfl (Nat.le_of_ble_eq_true rfl) dX3_readNumbers_35 rfl rfl (fun H locs hP hS => ?_)
          refine lv_aload_n (pc := 38) hx hb dX3_readNumbers_38 rfl (lv_at hl 2 rfl) ?_
          refine lv_aload_n (pc := 39) hx hb dX3_readNumbers_39 rfl (lv_at hl 3 rfl) ?_
          refine va_get (pc := 40) (D := D) (ci := 3) (v := .int (nI (k + 1))) (C := RX3) (T := TX3) (N := 3) hx hb hts hiX3 hown hK hP 0 rfl rfl 2 (by decide) wf18 (fun _ h9 => h9) rfl dX3_readNumbers_40 ?_
          refine ci_Vd (pc := 43) (r0 := jI (figZ T (k + 1))) hF hN hK hP hV hS hA (k_X0_figureAt l D cI cC cB cS t0 t1 T (k + 1) ht (by omega)) (cwV 1 hts gX3_readNumbers_X0_figureAt rfl rfl rfl (by decide +kernel) ⟨Nat.le_of_ble_eq_true rfl, Nat.le_of_ble_eq_true rfl⟩) [3, 4] rfl (by decide) 0 0 rfl rfl rfl hl.1 rfl (Nat.le_of_ble_eq_true rfl) dX3_readNumbers_43 ⟨Nat.le_refl _, Nat.le_refl _⟩ rfl (ws2 := rdW r0 r1 r2 cI (f, R.2.1, k + 1) ++ ltW t0 t1 cC T) rfl (fun H locs hP hS => ?_)
          have fq4 := figZ_rng_ T (k + 1)
          refine lv_istore (pc := 46) (lv' := [(4, .int (jI (figZ T (k + 1)))), (3, .int (nI (tAt T k - 48))), (2, .int (nI i)), (1, .ref t0), (0, .ref r0)]) hx hb dX3_readNumbers_46 hl (by decide) rfl (fun ls hl => ?_)
          refine lv_iload (pc := 48) hx hb dX3_readNumbers_48 (lv_at hl 0 rfl) ?_
          refine lv_bipush (pc := 50) (v := jI (-4)) hx hb dX3_readNumbers_50 (by decide) ?_
          refine rc_ne (pc := 52) (tgt := 65) hx hb (jI_to (by omega)) (jI_to (by omega)) dX3_readNumbers_52 (by decide) (fun c52 => ?_) (fun c52 => ?_)
          · have g48 : isF T (k + 1) := figZ_isF (by omega)
            rw [figZ_yes g48, ← jI_nat] at hl
            have gd2 := tAt_lt ht (k + 1)
            refine lv_aload_n (pc := 65) hx hb dX3_readNumbers_65 rfl (lv_at hl 4 rfl) ?_
            refine va_get (pc := 66) (D := D) (ci := 3) (v := .ref r1) (C := RX3) (T := TX3) (N := 3) hx hb hts hiX3 hown hK hP 0 rfl rfl 0 (by decide) wf9 (fun _ h9 => h9) rfl dX3_readNumbers_66 ?_
            refine lv_iload_n (pc := 69) hx hb dX3_readNumbers_69 rfl (lv_at hl 2 rfl) ?_
            refine lv_bipush (pc := 70) (v := nI 10) hx hb dX3_readNumbers_70 (by decide) ?_
            refine lv_iload_n (pc := 72) hx hb dX3_readNumbers_72 rfl (lv_at hl 1 rfl) ?_
            refine rn_imul (pc := 73) hx hb dX3_readNumbers_73 ?_
            refine lv_iload (pc := 74) hx hb dX3_readNumbers_74 (lv_at hl 0 rfl) ?_
            refine rn_iadd (pc := 76) hx hb dX3_readNumbers_76 ?_
            refine rn_iast (pc := 77) (f := f) (k := i) (x := (10 * (tAt T k - 48)) + (tAt T (k + 1) - 48)) (ws2 := rdW r0 r1 r2 cI (va_up f i ((10 * (tAt T k - 48)) + (tAt T (k + 1) - 48)), R.2.1, k + 1) ++ ltW t0 t1 cC T) hx hb hK hP hV hS 1 0 rfl rfl (by omega) (by decide) dX3_readNumbers_77 rfl rfl (fun H locs hP hS => ?_)
            refine lv_aload_n (pc := 78) hx hb dX3_readNumbers_78 rfl (lv_at hl 4 rfl) ?_
            refine lv_dup (pc := 79) hx hb dX3_readNumbers_79 rfl ?_
            refine va_get (pc := 80) (D := D) (ci := 3) (v := .int (nI (k + 1))) (C := RX3) (T := TX3) (N := 3) hx hb hts hiX3 hown hK hP 0 rfl rfl 2 (by decide) wf18 (fun _ h9 => h9) rfl dX3_readNumbers_80 ?_
            refine lv_iconst (pc := 83) (v := nI 1) hx hb dX3_readNumbers_83 (by decide) ?_
            refine rn_iadd (pc := 84) hx hb dX3_readNumbers_84 ?_
            refine ra_put (pc := 85) (D := D) (ci := 3) (v := .int (nI ((k + 1) + 1))) (ty := .int) (C := RX3) (T := TX3) (N := 3) (ws2 := rdW r0 r1 r2 cI (va_up f i ((10 * (tAt T k - 48)) + (tAt T (k + 1) - 48)), R.2.1, (k + 1) + 1) ++ ltW t0 t1 cC T) hx hb hts hiX3 tyX3 tyX3_ok nmX3 hown hK hP hV hS 0 rfl rfl 2 (by decide) wf18 (fun _ h9 => h9) rfl (by decide +kernel) rfl rfl (Nat.le_of_ble_eq_true rfl) dX3_readNumbers_85 rfl rfl (fun H locs hP hS => ?_)
            exact cut88 (10 * (tAt T k - 48) + (tAt T (k + 1) - 48)) (k + 2) _ _ _ (by omega) (by omega) (num1_two g20 g48)  hP hS (lv_sub hl [2, 3, 4] rfl)
          · have g48 : ¬ isF T (k + 1) := figZ_notF (by omega)
            refine lv_aload_n (pc := 55) hx hb dX3_readNumbers_55 rfl (lv_at hl 4 rfl) ?_
            refine va_get (pc := 56) (D := D) (ci := 3) (v := .ref r1) (C := RX3) (T := TX3) (N := 3) hx hb hts hiX3 hown hK hP 0 rfl rfl 0 (by decide) wf9 (fun _ h9 => h9) rfl dX3_readNumbers_56 ?_
            refine lv_iload_n (pc := 59) hx hb dX3_readNumbers_59 rfl (lv_at hl 2 rfl) ?_
            refine lv_iload_n (pc := 60) hx hb dX3_readNumbers_60 rfl (lv_at hl 1 rfl) ?_
            refine rn_iast (pc := 61) (f := f) (k := i) (x := tAt T k - 48) (ws2 := rdW r0 r1 r2 cI (va_up f i (tAt T k - 48), R.2.1, k + 1) ++ ltW t0 t1 cC T) hx hb hK hP hV hS 1 0 rfl rfl (by omega) (by decide) dX3_readNumbers_61 rfl rfl (fun H locs hP hS => ?_)
            refine lv_goto (pc := 62) (tgt := 88) hx hb dX3_readNumbers_62 (by decide) ?_
            exact cut88 (tAt T k - 48) (k + 1) _ _ _ (by omega) (by omega) (num1_one g20 g48)  hP hS (lv_sub hl [2, 3, 4] rfl)
        · refine lv_iconst (pc := 26) (v := nI 0) hx hb dX3_readNumbers_26 (by decide) ?_
          exact hret 27 _ hP hS dX3_readNumbers_27 rfl rfl ⟨f, k, rfl, hfb, (by omega), Or.inr ⟨rfl, numsF_no (by omega) hn (numS_no1 (figZ_notF (by omega)))⟩⟩
  exact cut2 _ 0 R.1 R.2.2 _ _ _ (by omega) hf (by omega) rfl (Nat.lt_succ_self _) hP hS (lv_sub hl [0, 2, 1] rfl)
