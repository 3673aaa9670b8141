abbrev rmX3_readItem : Room := { frames := 3, cells := 0, slots := 0, locals := 68 }
set_option maxHeartbeats 4000000 in
set_option maxRecDepth 100000 in
theorem k_X3_readItem (l : Launch) (D : va_G) (cI cC cB cS : ClassId) (r0 r1 r2 : Nat) (R : RD) (t0 t1 : Nat) (T : LT) (p0 p1 p2 p3 : Nat) (P : PL) (ht : ltOK T) (hp : pOK P) (hkb : R.2.2 < 5000) (hf : ∀ j, R.1 j < 100) (hg : ∀ j, R.2.1 j ≤ 9) : CI l D (kT cI cC cB cS) yX3_readItem wsX3_readItem rmX3_readItem [.ref r0, .ref t0, .ref p0] (rdW r0 r1 r2 cI R ++ ltW t0 t1 cC T ++ plW p0 p1 p2 p3 cI P) (fun r u => ∃ (f g : Nat → Nat) (k : Nat) (P1 : PL), u = rdW r0 r1 r2 cI (f, g, k) ++ ltW t0 t1 cC T ++ plW p0 p1 p2 p3 cI P1 ∧ (∀ j, f j < 100) ∧ (∀ j, g j ≤ 9) ∧ k ≤ R.2.2 + 30 ∧ pOK P1 ∧ ((r = nI 1 ∧ itemS T P R.2.2 = some (P1, k)) ∨ (r = nI 0 ∧ itemS T P R.2.2 = none ∧ P1 = P))) := by
  refine ci_intro (by decide) rfl (Nat.le_of_ble_eq_true rfl) ?_
  intro p e s m args below meth c ls A QF hF hK hP hV hS hA hN hl hret
  obtain ⟨hx, hb, hml, hown, hts⟩ := id hF
  have hP : va_P D vwCl (rdW r0 r1 r2 cI R ++ ltW t0 t1 cC T ++ plW p0 p1 p2 p3 cI P) s.heap := hP
  have hl : lv_has ls 4 [(0, .ref r0), (1, .ref t0), (2, .ref p0)] := hl
  have wf9 := hts (.fieldLink RX3 9 "RemorseWall$Reader" "numbers" "[I") (by decide +kernel)
  have wf18 := hts (.fieldLink RX3 18 "RemorseWall$Reader" "place" "I") (by decide +kernel)
  have hiX3 : ∀ w ∈ u_ws RX3 TX3 3, w ∈ wsX3_readItem := by decide +kernel
  have ht2 := ht.2
  have ga := tAt_lt ht R.2.2
  refine lv_aload_n (pc := 0) hx hb dX3_readItem_0 rfl (lv_at hl 1 rfl) ?_
  refine lv_aload_n (pc := 1) hx hb dX3_readItem_1 rfl (lv_at hl 0 rfl) ?_
  refine va_get (pc := 2) (D := D) (ci := 3) (v := .int (nI R.2.2)) (C := RX3) (T := TX3) (N := 3) hx hb hts hiX3 hown hK hP 0 rfl rfl 2 (by decide) wf18 (fun _ h9 => h9) rfl dX3_readItem_2 ?_
  refine ci_Vd (pc := 5) (r0 := nI (tAt T R.2.2)) hF hN hK hP hV hS hA (k_X0_at l D cI cC cB cS t0 t1 T R.2.2 ht (by omega)) (cwV 1 hts gX3_readItem_X0_at rfl rfl rfl (by decide +kernel) ⟨Nat.le_of_ble_eq_true rfl, Nat.le_of_ble_eq_true rfl⟩) [3, 4] rfl (by decide) 0 0 rfl rfl rfl hl.1 rfl (Nat.le_of_ble_eq_true rfl) dX3_readItem_5 ⟨Nat.le_refl _, Nat.le_refl _⟩ rfl (ws2 := rdW r0 r1 r2 cI R ++ ltW t0 t1 cC T ++ plW p0 p1 p2 p3 cI P) rfl (fun H locs hP hS => ?_)
  have fq1 := tAt_lt ht R.2.2
  refine lv_istore_n (pc := 8) (lv' := [(3, .int (nI (tAt T R.2.2))), (0, .ref r0), (1, .ref t0), (2, .ref p0)]) hx hb dX3_readItem_8 rfl hl (by decide) rfl (fun ls hl => ?_)
  refine lv_aload_n (pc := 9) hx hb dX3_readItem_9 rfl (lv_at hl 1 rfl) ?_
  refine lv_dup (pc := 10) hx hb dX3_readItem_10 rfl ?_
  refine va_get (pc := 11) (D := D) (ci := 3) (v := .int (nI R.2.2)) (C := RX3) (T := TX3) (N := 3) hx hb hts hiX3 hown hK hP 0 rfl rfl 2 (by decide) wf18 (fun _ h9 => h9) rfl dX3_readItem_11 ?_
  refine lv_iconst (pc := 14) (v := nI 1) hx hb dX3_readItem_14 (by decide) ?_
  refine rn_iadd (pc := 15) hx hb dX3_readItem_15 ?_
  refine ra_put (pc := 16) (D := D) (ci := 3) (v := .int (nI (R.2.2 + 1))) (ty := .int) (C := RX3) (T := TX3) (N := 3) (ws2 := rdW r0 r1 r2 cI (R.1, R.2.1, R.2.2 + 1) ++ ltW t0 t1 cC T ++ plW p0 p1 p2 p3 cI P) hx hb hts hiX3 tyX3 tyX3_ok nmX3 hown hK hP hV hS 0 rfl rfl 2 (by decide) wf18 (fun _ h9 => h9) rfl (by decide +kernel) rfl rfl (Nat.le_of_ble_eq_true rfl) dX3_readItem_16 rfl rfl (fun H locs hP hS => ?_)
  refine lv_iload_n (pc := 19) hx hb dX3_readItem_19 rfl (lv_at hl 0 rfl) ?_
  refine lv_bipush (pc := 20) (v := nI 114) hx hb dX3_readItem_20 (by decide) ?_
  refine rc_ne (pc := 22) (tgt := 32) hx hb (tI_nI (by omega)) (tI_nI (by omega)) dX3_readItem_22 (by decide) (fun c22 => ?_) (fun c22 => ?_)
  · refine lv_iload_n (pc := 32) hx hb dX3_readItem_32 rfl (lv_at hl 0 rfl) ?_
    refine lv_bipush (pc := 33) (v := nI 99) hx hb dX3_readItem_33 (by decide) ?_
    refine rc_ne (pc := 35) (tgt := 63) hx hb (tI_nI (by omega)) (tI_nI (by omega)) dX3_readItem_35 (by decide) (fun c35 => ?_) (fun c35 => ?_)
    · refine lv_iload_n (pc := 63) hx hb dX3_readItem_63 rfl (lv_at hl 0 rfl) ?_
      refine lv_bipush (pc := 64) (v := nI 109) hx hb dX3_readItem_64 (by decide) ?_
      refine rc_ne (pc := 66) (tgt := 92) hx hb (tI_nI (by omega)) (tI_nI (by omega)) dX3_readItem_66 (by decide) (fun c66 => ?_) (fun c66 => ?_)
      · refine lv_iconst (pc := 92) (v := nI 0) hx hb dX3_readItem_92 (by decide) ?_
        exact hret 93 _ hP hS dX3_readItem_93 rfl rfl ⟨R.1, R.2.1, R.2.2 + 1, P, rfl, hf, hg, (by omega), hp, Or.inr ⟨rfl, item_n (by omega) (by omega) (by omega), rfl⟩⟩
      · refine lv_aload_n (pc := 69) hx hb dX3_readItem_69 rfl (lv_at hl 1 rfl) ?_
        refine lv_aload_n (pc := 70) hx hb dX3_readItem_70 rfl (lv_at hl 2 rfl) ?_
        refine ci_V (pc := 71) hF hN hK hP hV hS hA (k_X3_readNumbers l D cI cC cB cS r0 r1 r2 (R.1, R.2.1, R.2.2 + 1) t0 t1 T ht (show (R.2.2 + 1) < 10000 by omega) hf) (cwV 1 hts gX3_readItem_X3_readNumbers rfl rfl rfl (by decide +kernel) ⟨Nat.le_of_ble_eq_true rfl, Nat.le_of_ble_eq_true rfl⟩) [0, 1, 2, 3, 4] rfl (by decide) 0 3 rfl rfl rfl hl.1 rfl (Nat.le_of_ble_eq_true rfl) dX3_readItem_71 ⟨Nat.le_refl _, Nat.le_refl _⟩ rfl (fun r u H locs hq hu hP hS => ?_)
        obtain ⟨f1, k1, rfl, hf1, hk1, hq⟩ := hq
        dsimp only at hk1 hq
        have hP : va_P D vwCl (rdW r0 r1 r2 cI (f1, R.2.1, k1) ++ ltW t0 t1 cC T ++ plW p0 p1 p2 p3 cI P) H := hP
        rcases hq with ⟨rfl, hq⟩ | ⟨rfl, hq⟩
        · have hq := nums4_some hq
          refine r0_eq (pc := 74) (tgt := 92) hx hb (tI_nI (by omega)) dX3_readItem_74 (by decide) (fun c74 => (by omega)) (fun c74 => ?_)
          refine lv_aload_n (pc := 77) hx hb dX3_readItem_77 rfl (lv_at hl 3 rfl) ?_
          refine lv_aload_n (pc := 78) hx hb dX3_readItem_78 rfl (lv_at hl 1 rfl) ?_
          refine va_get (pc := 79) (D := D) (ci := 3) (v := .ref r1) (C := RX3) (T := TX3) (N := 3) hx hb hts hiX3 hown hK hP 0 rfl rfl 0 (by decide) wf9 (fun _ h9 => h9) rfl dX3_readItem_79 ?_
          refine ci_Vd (pc := 82) (r0 := nI (if maiOK P f1 then 1 else 0)) hF hN hK hP hV hS hA (k_X2_addMaid l D cI cC cB cS p0 p1 p2 p3 P r1 f1 hp hf1) (cwV 1 hts gX3_readItem_X2_addMaid rfl rfl rfl (by decide +kernel) ⟨Nat.le_of_ble_eq_true rfl, Nat.le_of_ble_eq_true rfl⟩) [5, 6, 7, 8, 1] rfl (by decide) 0 2 rfl rfl rfl hl.1 rfl (Nat.le_of_ble_eq_true rfl) dX3_readItem_82 ⟨Nat.le_refl _, Nat.le_refl _⟩ rfl (ws2 := rdW r0 r1 r2 cI (f1, R.2.1, k1) ++ ltW t0 t1 cC T ++ plW p0 p1 p2 p3 cI (if maiOK P f1 then pMai P f1 else P)) rfl (fun H locs hP hS => ?_)
          refine rb_eq (pc := 85) (tgt := 92) hx hb dX3_readItem_85 (by decide) (fun c85 => ?_) (fun c85 => ?_)
          · refine lv_iconst (pc := 92) (v := nI 0) hx hb dX3_readItem_92 (by decide) ?_
            exact hret 93 _ hP hS dX3_readItem_93 rfl rfl ⟨f1, R.2.1, k1, _, rfl, hf1, hg, (by omega), (by rw [if_neg c85]; exact hp), Or.inr ⟨rfl, item_m2 (by omega) hq c85, (by rw [if_neg c85])⟩⟩
          · refine lv_iconst (pc := 88) (v := nI 1) hx hb dX3_readItem_88 (by decide) ?_
            refine lv_goto (pc := 89) (tgt := 93) hx hb dX3_readItem_89 (by decide) ?_
            exact hret 93 _ hP hS dX3_readItem_93 rfl rfl ⟨f1, R.2.1, k1, _, rfl, hf1, hg, (by omega), (by rw [if_pos c85]; exact pMai_ok hp hf1 c85), Or.inl ⟨rfl, (by rw [if_pos c85]; exact item_m1 (by omega) hq c85)⟩⟩
        · have hq := nums4_none hq
          refine r0_eq (pc := 74) (tgt := 92) hx hb (tI_nI (by omega)) dX3_readItem_74 (by decide) (fun c74 => ?_) (fun c74 => (by omega))
          refine lv_iconst (pc := 92) (v := nI 0) hx hb dX3_readItem_92 (by decide) ?_
          exact hret 93 _ hP hS dX3_readItem_93 rfl rfl ⟨f1, R.2.1, k1, P, rfl, hf1, hg, (by omega), hp, Or.inr ⟨rfl, item_m0 (by omega) hq, rfl⟩⟩
    · refine lv_aload_n (pc := 38) hx hb dX3_readItem_38 rfl (lv_at hl 1 rfl) ?_
      refine lv_aload_n (pc := 39) hx hb dX3_readItem_39 rfl (lv_at hl 2 rfl) ?_
      refine ci_V (pc := 40) hF hN hK hP hV hS hA (k_X3_readNumbers l D cI cC cB cS r0 r1 r2 (R.1, R.2.1, R.2.2 + 1) t0 t1 T ht (show (R.2.2 + 1) < 10000 by omega) hf) (cwV 1 hts gX3_readItem_X3_readNumbers rfl rfl rfl (by decide +kernel) ⟨Nat.le_of_ble_eq_true rfl, Nat.le_of_ble_eq_true rfl⟩) [0, 1, 2, 3, 4] rfl (by decide) 0 3 rfl rfl rfl hl.1 rfl (Nat.le_of_ble_eq_true rfl) dX3_readItem_40 ⟨Nat.le_refl _, Nat.le_refl _⟩ rfl (fun r u H locs hq hu hP hS => ?_)
      obtain ⟨f1, k1, rfl, hf1, hk1, hq⟩ := hq
      dsimp only at hk1 hq
      have hP : va_P D vwCl (rdW r0 r1 r2 cI (f1, R.2.1, k1) ++ ltW t0 t1 cC T ++ plW p0 p1 p2 p3 cI P) H := hP
      rcases hq with ⟨rfl, hq⟩ | ⟨rfl, hq⟩
      · have hq := nums4_some hq
        refine r0_eq (pc := 43) (tgt := 61) hx hb (tI_nI (by omega)) dX3_readItem_43 (by decide) (fun c43 => (by omega)) (fun c43 => ?_)
        refine lv_aload_n (pc := 46) hx hb dX3_readItem_46 rfl (lv_at hl 3 rfl) ?_
        refine lv_aload_n (pc := 47) hx hb dX3_readItem_47 rfl (lv_at hl 1 rfl) ?_
        refine va_get (pc := 48) (D := D) (ci := 3) (v := .ref r1) (C := RX3) (T := TX3) (N := 3) hx hb hts hiX3 hown hK hP 0 rfl rfl 0 (by decide) wf9 (fun _ h9 => h9) rfl dX3_readItem_48 ?_
        refine ci_Vd (pc := 51) (r0 := nI (if casOK P f1 then 1 else 0)) hF hN hK hP hV hS hA (k_X2_addCase l D cI cC cB cS p0 p1 p2 p3 P r1 f1 hp hf1) (cwV 1 hts gX3_readItem_X2_addCase rfl rfl rfl (by decide +kernel) ⟨Nat.le_of_ble_eq_true rfl, Nat.le_of_ble_eq_true rfl⟩) [5, 6, 7, 8, 1] rfl (by decide) 0 2 rfl rfl rfl hl.1 rfl (Nat.le_of_ble_eq_true rfl) dX3_readItem_51 ⟨Nat.le_refl _, Nat.le_refl _⟩ rfl (ws2 := rdW r0 r1 r2 cI (f1, R.2.1, k1) ++ ltW t0 t1 cC T ++ plW p0 p1 p2 p3 cI (if casOK P f1 then pCas P f1 else P)) rfl (fun H locs hP hS => ?_)
        refine rb_eq (pc := 54) (tgt := 61) hx hb dX3_readItem_54 (by decide) (fun c54 => ?_) (fun c54 => ?_)
        · refine lv_iconst (pc := 61) (v := nI 0) hx hb dX3_readItem_61 (by decide) ?_
          exact hret 62 _ hP hS dX3_readItem_62 rfl rfl ⟨f1, R.2.1, k1, _, rfl, hf1, hg, (by omega), (by rw [if_neg c54]; exact hp), Or.inr ⟨rfl, item_c2 (by omega) hq c54, (by rw [if_neg c54])⟩⟩
        · refine lv_iconst (pc := 57) (v := nI 1) hx hb dX3_readItem_57 (by decide) ?_
          refine lv_goto (pc := 58) (tgt := 62) hx hb dX3_readItem_58 (by decide) ?_
          exact hret 62 _ hP hS dX3_readItem_62 rfl rfl ⟨f1, R.2.1, k1, _, rfl, hf1, hg, (by omega), (by rw [if_pos c54]; exact pCas_ok hp hf1 c54), Or.inl ⟨rfl, (by rw [if_pos c54]; exact item_c1 (by omega) hq c54)⟩⟩
      · have hq := nums4_none hq
        refine r0_eq (pc := 43) (tgt := 61) hx hb (tI_nI (by omega)) dX3_readItem_43 (by decide) (fun c43 => ?_) (fun c43 => (by omega))
        refine lv_iconst (pc := 61) (v := nI 0) hx hb dX3_readItem_61 (by decide) ?_
        exact hret 62 _ hP hS dX3_readItem_62 rfl rfl ⟨f1, R.2.1, k1, P, rfl, hf1, hg, (by omega), hp, Or.inr ⟨rfl, item_c0 (by omega) hq, rfl⟩⟩
  · refine lv_aload_n (pc := 25) hx hb dX3_readItem_25 rfl (lv_at hl 1 rfl) ?_
    refine lv_aload_n (pc := 26) hx hb dX3_readItem_26 rfl (lv_at hl 2 rfl) ?_
    refine lv_aload_n (pc := 27) hx hb dX3_readItem_27 rfl (lv_at hl 3 rfl) ?_
    refine ci_V (pc := 28) hF hN hK hP hV hS hA (k_X3_readRow l D cI cC cB cS r0 r1 r2 (R.1, R.2.1, R.2.2 + 1) t0 t1 T p0 p1 p2 p3 P ht hp (show (R.2.2 + 1) < 10000 by omega) hg) (cwV 2 hts gX3_readItem_X3_readRow rfl rfl rfl (by decide +kernel) ⟨Nat.le_of_ble_eq_true rfl, Nat.le_of_ble_eq_true rfl⟩) [0, 1, 2, 3, 4, 5, 6, 7, 8] rfl (by decide) 0 3 rfl rfl rfl hl.1 rfl (Nat.le_of_ble_eq_true rfl) dX3_readItem_28 ⟨Nat.le_refl _, Nat.le_refl _⟩ rfl (fun r u H locs hq hu hP hS => ?_)
    obtain ⟨g1, k1, P1, rfl, hg1, hk1, hp1, hq⟩ := hq
    dsimp only at hk1 hq
    have hP : va_P D vwCl (rdW r0 r1 r2 cI (R.1, g1, k1) ++ ltW t0 t1 cC T ++ plW p0 p1 p2 p3 cI P1) H := hP
    rcases hq with ⟨rfl, hq⟩ | ⟨rfl, hq, hq2⟩
    · exact hret 31 _ hP hS dX3_readItem_31 rfl rfl ⟨R.1, g1, k1, P1, rfl, hf, hg1, (by omega), hp1, Or.inl ⟨rfl, (by rw [item_r (by omega)]; exact hq)⟩⟩
    · exact hret 31 _ hP hS dX3_readItem_31 rfl rfl ⟨R.1, g1, k1, P1, rfl, hf, hg1, (by omega), hp1, Or.inr ⟨rfl, (by rw [item_r (by omega)]; exact hq), hq2⟩⟩
