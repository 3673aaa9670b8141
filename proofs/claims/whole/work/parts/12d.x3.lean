abbrev rmX3_read : Room := { frames := 4, cells := 0, slots := 0, locals := 91 }
set_option maxHeartbeats 4000000 in
set_option maxRecDepth 100000 in
theorem k_X3_read (l : Launch) (D : va_G) (cI cC cB cS : ClassId) (r0 r1 r2 : Nat) (R : RD) (t0 t1 : Nat) (T : LT) (p0 p1 p2 p3 : Nat) (P : PL) (ht : ltOK T) (hp : pOK P) (hf : ∀ j, R.1 j < 100) (hg : ∀ j, R.2.1 j ≤ 9) : CI l D (kT cI cC cB cS) yX3_read wsX3_read rmX3_read [.ref r0, .ref t0, .ref p0] (rdW r0 r1 r2 cI R ++ ltW t0 t1 cC T ++ plW p0 p1 p2 p3 cI P) (fun r u => ∃ (f g : Nat → Nat) (k : Nat), u = rdW r0 r1 r2 cI (f, g, k) ++ ltW t0 t1 cC T ++ plW p0 p1 p2 p3 cI (readS T 200 0 (pZ P)).2 ∧ (∀ j, f j < 100) ∧ (∀ j, g j ≤ 9) ∧ pOK (readS T 200 0 (pZ P)).2 ∧ r = jI (faultZ (readS T 200 0 (pZ P)))) := by
  refine ci_intro (by decide) rfl (Nat.le_of_ble_eq_true rfl) ?_
  intro p e s m args below meth c ls A QF hF hK hP hV hS hA hN hl hret
  obtain ⟨hx, hb, hml, hown, hts⟩ := id hF
  have hP : va_P D vwCl (rdW r0 r1 r2 cI R ++ ltW t0 t1 cC T ++ plW p0 p1 p2 p3 cI P) s.heap := hP
  have hl : lv_has ls 5 [(0, .ref r0), (1, .ref t0), (2, .ref p0)] := hl
  have wf18 := hts (.fieldLink RX3 18 "RemorseWall$Reader" "place" "I") (by decide +kernel)
  have hiX3 : ∀ w ∈ u_ws RX3 TX3 3, w ∈ wsX3_read := by decide +kernel
  have ht2 := ht.2
  refine lv_aload_n (pc := 0) hx hb dX3_read_0 rfl (lv_at hl 2 rfl) ?_
  refine cv_Vd (pc := 1) hF hN hK hP hV hS hA (k_X2_clear l D cI cC cB cS p0 p1 p2 p3 P) (cwV 0 hts gX3_read_X2_clear rfl rfl rfl (by decide +kernel) ⟨Nat.le_of_ble_eq_true rfl, Nat.le_of_ble_eq_true rfl⟩) [5, 6, 7, 8] rfl (by decide) 0 2 rfl rfl rfl hl.1 rfl (Nat.le_of_ble_eq_true rfl) dX3_read_1 ⟨Nat.le_refl _, Nat.le_refl _⟩ rfl (ws2 := rdW r0 r1 r2 cI R ++ ltW t0 t1 cC T ++ plW p0 p1 p2 p3 cI ((fun _ => 0), P.2.1, P.2.2.1, 0, 0, 0, 0)) rfl (fun H locs hP hS => ?_)
  refine lv_aload_n (pc := 4) hx hb dX3_read_4 rfl (lv_at hl 0 rfl) ?_
  refine lv_iconst (pc := 5) (v := nI 0) hx hb dX3_read_5 (by decide) ?_
  refine ra_put (pc := 6) (D := D) (ci := 3) (v := .int (nI 0)) (ty := .int) (C := RX3) (T := TX3) (N := 3) (ws2 := rdW r0 r1 r2 cI (R.1, R.2.1, 0) ++ ltW t0 t1 cC T ++ plW p0 p1 p2 p3 cI ((fun _ => 0), P.2.1, P.2.2.1, 0, 0, 0, 0)) hx hb hts hiX3 tyX3 tyX3_ok nmX3 hown hK hP hV hS 0 rfl rfl 2 (by decide) wf18 (fun _ h9 => h9) rfl (by decide +kernel) rfl rfl (Nat.le_of_ble_eq_true rfl) dX3_read_6 rfl rfl (fun H locs hP hS => ?_)
  refine lv_iconst (pc := 9) (v := nI 0) hx hb dX3_read_9 (by decide) ?_
  refine lv_istore_n (pc := 10) (lv' := [(3, .int (nI 0)), (0, .ref r0), (1, .ref t0), (2, .ref p0)]) hx hb dX3_read_10 rfl hl (by decide) rfl (fun ls hl => ?_)
  have cut11 : ∀ (fuel : Nat) (i : Nat) (f : Nat → Nat) (g : Nat → Nat) (k : Nat) (P1 : PL) (H : Heap) (locs : List Loc) (ls : Array Slot) (hi2 : i ≤ 200) (hfb : ∀ j, f j < 100) (hgb : ∀ j, g j ≤ 9) (hk : k ≤ 300) (hp1 : pOK P1) (hr : readS T 200 0 (pZ P) = readS T (200 - i) k P1) (hfu : 200 - i < fuel), va_P D vwCl (rdW r0 r1 r2 cI (f, g, k) ++ ltW t0 t1 cC T ++ plW p0 p1 p2 p3 cI P1) H → va_S A s.heap H locs → lv_has ls 5 [(3, .int (nI i)), (2, .ref p0), (1, .ref t0), (0, .ref r0)] → W p l e rmX3_read s m args below meth c H locs 0 0 QF (F0 m 11 ls []) := by
    intro fuel
    induction fuel with
    | zero => intro i f g k P1 H locs ls hi2 hfb hgb hk hp1 hr hfu; omega
    | succ fuel ih11 =>
      intro i f g k P1 H locs ls hi2 hfb hgb hk hp1 hr hfu hP hS hl
      refine lv_iload_n (pc := 11) hx hb dX3_read_11 rfl (lv_at hl 0 rfl) ?_
      refine lv_sipush (pc := 12) (v := nI 200) hx hb dX3_read_12 (by decide) ?_
      refine rc_ge (pc := 15) (tgt := 53) hx hb (tI_nI (by omega)) (tI_nI (by omega)) dX3_read_15 (by decide) (fun c15 => ?_) (fun c15 => ?_)
      · have hr3 : readS T 200 0 (pZ P) = (none, P1) := by rw [hr, show 200 - i = 0 by omega]; rfl
        refine lv_bipush (pc := 53) (v := jI (-4)) hx hb dX3_read_53 (by decide) ?_
        exact hret 55 _ hP hS dX3_read_55 rfl rfl ⟨f, g, k, (by rw [hr3]), hfb, hgb, (by rw [hr3]; exact hp1), (by rw [hr3]; rfl)⟩
      · refine lv_aload_n (pc := 18) hx hb dX3_read_18 rfl (lv_at hl 3 rfl) ?_
        refine va_get (pc := 19) (D := D) (ci := 3) (v := .int (nI k)) (C := RX3) (T := TX3) (N := 3) hx hb hts hiX3 hown hK hP 0 rfl rfl 2 (by decide) wf18 (fun _ h9 => h9) rfl dX3_read_19 ?_
        refine lv_aload_n (pc := 22) hx hb dX3_read_22 rfl (lv_at hl 2 rfl) ?_
        refine ci_Vd (pc := 23) (r0 := nI T.2) hF hN hK hP hV hS hA (k_X0_size l D cI cC cB cS t0 t1 T) (cwV 0 hts gX3_read_X0_size rfl rfl rfl (by decide +kernel) ⟨Nat.le_of_ble_eq_true rfl, Nat.le_of_ble_eq_true rfl⟩) [3, 4] rfl (by decide) 0 0 rfl rfl rfl hl.1 rfl (Nat.le_of_ble_eq_true rfl) dX3_read_23 ⟨Nat.le_refl _, Nat.le_refl _⟩ rfl (ws2 := rdW r0 r1 r2 cI (f, g, k) ++ ltW t0 t1 cC T ++ plW p0 p1 p2 p3 cI P1) rfl (fun H locs hP hS => ?_)
        refine rc_ge (pc := 26) (tgt := 53) hx hb (tI_nI (by omega)) (tI_nI (by omega)) dX3_read_26 (by decide) (fun c26 => ?_) (fun c26 => ?_)
        · have hr3 : readS T 200 0 (pZ P) = (none, P1) := by rw [hr]; exact read_out (by omega) _
          refine lv_bipush (pc := 53) (v := jI (-4)) hx hb dX3_read_53 (by decide) ?_
          exact hret 55 _ hP hS dX3_read_55 rfl rfl ⟨f, g, k, (by rw [hr3]), hfb, hgb, (by rw [hr3]; exact hp1), (by rw [hr3]; rfl)⟩
        · refine lv_aload_n (pc := 29) hx hb dX3_read_29 rfl (lv_at hl 3 rfl) ?_
          refine va_get (pc := 30) (D := D) (ci := 3) (v := .int (nI k)) (C := RX3) (T := TX3) (N := 3) hx hb hts hiX3 hown hK hP 0 rfl rfl 2 (by decide) wf18 (fun _ h9 => h9) rfl dX3_read_30 ?_
          refine lv_istore (pc := 33) (lv' := [(4, .int (nI k)), (3, .int (nI i)), (2, .ref p0), (1, .ref t0), (0, .ref r0)]) hx hb dX3_read_33 hl (by decide) rfl (fun ls hl => ?_)
          refine lv_aload_n (pc := 35) hx hb dX3_read_35 rfl (lv_at hl 4 rfl) ?_
          refine lv_aload_n (pc := 36) hx hb dX3_read_36 rfl (lv_at hl 3 rfl) ?_
          refine lv_aload_n (pc := 37) hx hb dX3_read_37 rfl (lv_at hl 2 rfl) ?_
          refine ci_V (pc := 38) hF hN hK hP hV hS hA (k_X3_readItem l D cI cC cB cS r0 r1 r2 (f, g, k) t0 t1 T p0 p1 p2 p3 P1 ht hp1 (show k < 5000 by omega) hfb hgb) (cwV 2 hts gX3_read_X3_readItem rfl rfl rfl (by decide +kernel) ⟨Nat.le_of_ble_eq_true rfl, Nat.le_of_ble_eq_true rfl⟩) [0, 1, 2, 3, 4, 5, 6, 7, 8] rfl (by decide) 0 3 rfl rfl rfl hl.1 rfl (Nat.le_of_ble_eq_true rfl) dX3_read_38 ⟨Nat.le_refl _, Nat.le_refl _⟩ rfl (fun r u H locs hq hu hP hS => ?_)
          obtain ⟨f2, g2, k2, P2, rfl, hf2, hg2, hk2, hp2, hq⟩ := hq
          dsimp only at hk2 hq
          have hP : va_P D vwCl (rdW r0 r1 r2 cI (f2, g2, k2) ++ ltW t0 t1 cC T ++ plW p0 p1 p2 p3 cI P2) H := hP
          rcases hq with ⟨rfl, hq⟩ | ⟨rfl, hq, hq2⟩
          · have hr2 : readS T 200 0 (pZ P) = readS T (200 - (i + 1)) k2 P2 := by
              rw [hr, show 200 - i = (200 - (i + 1)) + 1 by omega]
              exact read_yes (by omega) hq
            refine r0_ne (pc := 41) (tgt := 47) hx hb (tI_nI (by omega)) dX3_read_41 (by decide) (fun c41 => ?_) (fun c41 => (by omega))
            refine lv_iinc (pc := 47) (v := nI (i + 1)) (lv' := [(3, .int (nI (i + 1))), (4, .int (nI k)), (2, .ref p0), (1, .ref t0), (0, .ref r0)]) hx hb dX3_read_47 hl (k := 1) rfl (by rw [← nI_add]; rfl) (by decide) rfl (fun ls hl => ?_)
            refine lv_goto (pc := 50) (tgt := 11) hx hb dX3_read_50 (by decide) ?_
            exact ih11 (i + 1) f2 g2 k2 P2 _ _ _ (by omega) hf2 hg2 (by omega) hp2 hr2 (by omega) hP hS (lv_sub hl [0, 2, 3, 4] rfl)
          · have hr2 : readS T 200 0 (pZ P) = (some k, P2) := by
              rw [hr, show 200 - i = (200 - (i + 1)) + 1 by omega, hq2]
              exact read_no (by omega) hq
            refine r0_ne (pc := 41) (tgt := 47) hx hb (tI_nI (by omega)) dX3_read_41 (by decide) (fun c41 => (by omega)) (fun c41 => ?_)
            refine lv_iload (pc := 44) hx hb dX3_read_44 (lv_at hl 0 rfl) ?_
            exact hret 46 _ hP hS dX3_read_46 rfl rfl ⟨f2, g2, k2, (by rw [hr2]), hf2, hg2, (by rw [hr2]; exact hp2), (by rw [hr2]; exact jI_nat k)⟩
  exact cut11 _ 0 R.1 R.2.1 0 (pZ P) _ _ _ (by omega) hf hg (by omega) (pZ_ok hp) rfl (Nat.lt_succ_self _) hP hS (lv_sub hl [0, 3, 2, 1] rfl)
