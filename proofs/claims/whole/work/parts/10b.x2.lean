abbrev rmX2_layOut : Room := { frames := 2, cells := 0, slots := 0, locals := 46 }
set_option maxHeartbeats 4000000 in
set_option maxRecDepth 100000 in
theorem k_X2_layOut (l : Launch) (D : va_G) (cI cC cB cS : ClassId) (p0 p1 p2 p3 : Nat) (P : PL) (s0 s1 s2 s3 : Nat) (S : ST) (hp : pOK P) : CV l D (kT cI cC cB cS) yX2_layOut wsX2_layOut rmX2_layOut [.ref p0, .ref s0] (plW p0 p1 p2 p3 cI P ++ stW s0 s1 s2 s3 cI S) (fun u => u = plW p0 p1 p2 p3 cI P ++ stW s0 s1 s2 s3 cI (layS P)) := by
  refine cv_intro (by decide) rfl (Nat.le_of_ble_eq_true rfl) ?_
  intro p e s m args below meth c ls A QF hF hK hP hV hS hA hN hl hret
  obtain ⟨hx, hb, hml, hown, hts⟩ := id hF
  have hP : va_P D vwCl (plW p0 p1 p2 p3 cI P ++ stW s0 s1 s2 s3 cI S) s.heap := hP
  have hl : lv_has ls 3 [(0, .ref p0), (1, .ref s0)] := hl
  have wf9 := hts (.fieldLink RX2 9 "RemorseWall$Plan" "firstHigh" "[I") (by decide +kernel)
  have wf31 := hts (.fieldLink RX2 31 "RemorseWall$Plan" "maidCount" "I") (by decide +kernel)
  have hiX2 : ∀ w ∈ u_ws RX2 TX2 7, w ∈ wsX2_layOut := by decide +kernel
  obtain ⟨hp1, hp2, hp3, hp4, hp5, hp6, hp7⟩ := id hp
  refine lv_aload_n (pc := 0) hx hb dX2_layOut_0 rfl (lv_at hl 1 rfl) ?_
  refine cv_Vd (pc := 1) hF hN hK hP hV hS hA (k_X8_clear l D cI cC cB cS s0 s1 s2 s3 S) (cwV 0 hts gX2_layOut_X8_clear rfl rfl rfl (by decide +kernel) ⟨Nat.le_of_ble_eq_true rfl, Nat.le_of_ble_eq_true rfl⟩) [4, 5, 6, 7] rfl (by decide) 0 8 rfl rfl rfl hl.1 rfl (Nat.le_of_ble_eq_true rfl) dX2_layOut_1 ⟨Nat.le_refl _, Nat.le_refl _⟩ rfl (ws2 := plW p0 p1 p2 p3 cI P ++ stW s0 s1 s2 s3 cI ((fun _ => 0), (fun _ => 0), (fun _ => 0), 0, 0)) rfl (fun H locs hP hS => ?_)
  refine lv_iconst (pc := 4) (v := nI 0) hx hb dX2_layOut_4 (by decide) ?_
  refine lv_istore_n (pc := 5) (lv' := [(2, .int (nI 0)), (0, .ref p0), (1, .ref s0)]) hx hb dX2_layOut_5 rfl hl (by decide) rfl (fun ls hl => ?_)
  have cut6 : ∀ (fuel : Nat) (k : Nat) (f : Nat → Nat) (H : Heap) (locs : List Loc) (ls : Array Slot) (hk : k ≤ 24) (hf : f = layHi P k) (hfu : 24 - k < fuel), va_P D vwCl (plW p0 p1 p2 p3 cI P ++ stW s0 s1 s2 s3 cI (f, (fun _ => 0), (fun _ => 0), 0, 0)) H → va_S A s.heap H locs → lv_has ls 3 [(2, .int (nI k)), (1, .ref s0), (0, .ref p0)] → W p l e rmX2_layOut s m args below meth c H locs 0 0 QF (F0 m 6 ls []) := by
    intro fuel
    induction fuel with
    | zero => intro k f H locs ls hk hf hfu; omega
    | succ fuel ih6 =>
      intro k f H locs ls hk hf hfu hP hS hl
      refine lv_iload_n (pc := 6) hx hb dX2_layOut_6 rfl (lv_at hl 0 rfl) ?_
      refine lv_aload_n (pc := 7) hx hb dX2_layOut_7 rfl (lv_at hl 2 rfl) ?_
      refine va_get (pc := 8) (D := D) (ci := 2) (v := .ref p1) (C := RX2) (T := TX2) (N := 7) hx hb hts hiX2 hown hK hP 0 rfl rfl 0 (by decide) wf9 (fun _ h9 => h9) rfl dX2_layOut_8 ?_
      refine va_alen (pc := 11) (v := nI 24) hx hb hK hP 1 0 rfl rfl rfl dX2_layOut_11 ?_
      refine rc_ge (pc := 12) (tgt := 32) hx hb (tI_nI (by omega)) (tI_nI (by omega)) dX2_layOut_12 (by decide) (fun c12 => ?_) (fun c12 => ?_)
      · obtain rfl : f = layHi P 24 := by rw [hf, show k = 24 by omega]
        refine lv_iconst (pc := 32) (v := nI 0) hx hb dX2_layOut_32 (by decide) ?_
        refine lv_istore_n (pc := 33) (lv' := [(2, .int (nI 0)), (1, .ref s0), (0, .ref p0)]) hx hb dX2_layOut_33 rfl hl (by decide) rfl (fun ls hl => ?_)
        have cut34 : ∀ (fuel : Nat) (k : Nat) (g : Nat → Nat) (H : Heap) (locs : List Loc) (ls : Array Slot) (hk : k ≤ P.2.2.2.2.2.2) (hg : g = layPl P k) (hfu : P.2.2.2.2.2.2 - k < fuel), va_P D vwCl (plW p0 p1 p2 p3 cI P ++ stW s0 s1 s2 s3 cI (layHi P 24, (fun _ => 0), g, 0, 0)) H → va_S A s.heap H locs → lv_has ls 3 [(2, .int (nI k)), (1, .ref s0), (0, .ref p0)] → W p l e rmX2_layOut s m args below meth c H locs 0 0 QF (F0 m 34 ls []) := by
          intro fuel
          induction fuel with
          | zero => intro k g H locs ls hk hg hfu; omega
          | succ fuel ih34 =>
            intro k g H locs ls hk hg hfu hP hS hl
            refine lv_iload_n (pc := 34) hx hb dX2_layOut_34 rfl (lv_at hl 0 rfl) ?_
            refine lv_aload_n (pc := 35) hx hb dX2_layOut_35 rfl (lv_at hl 2 rfl) ?_
            refine va_get (pc := 36) (D := D) (ci := 2) (v := .int (nI P.2.2.2.2.2.2)) (C := RX2) (T := TX2) (N := 7) hx hb hts hiX2 hown hK hP 0 rfl rfl 6 (by decide) wf31 (fun _ h9 => h9) rfl dX2_layOut_36 ?_
            refine rc_ge (pc := 39) (tgt := 59) hx hb (tI_nI (by omega)) (tI_nI (by omega)) dX2_layOut_39 (by decide) (fun c39 => ?_) (fun c39 => ?_)
            · refine lv_aload_n (pc := 59) hx hb dX2_layOut_59 rfl (lv_at hl 2 rfl) ?_
              refine lv_aload_n (pc := 60) hx hb dX2_layOut_60 rfl (lv_at hl 1 rfl) ?_
              refine cv_Vd (pc := 61) hF hN hK hP hV hS hA (k_X2_giveStrokes l D cI cC cB cS p0 p1 p2 p3 P s0 s1 s2 s3 (layHi P 24, (fun _ => 0), g, 0, 0) hp) (cwV 1 hts gX2_layOut_X2_giveStrokes rfl rfl rfl (by decide +kernel) ⟨Nat.le_of_ble_eq_true rfl, Nat.le_of_ble_eq_true rfl⟩) [0, 1, 2, 3, 4, 5, 6, 7] rfl (by decide) 0 2 rfl rfl rfl hl.1 rfl (Nat.le_of_ble_eq_true rfl) dX2_layOut_61 ⟨Nat.le_refl _, Nat.le_refl _⟩ rfl (ws2 := plW p0 p1 p2 p3 cI P ++ stW s0 s1 s2 s3 cI (giveS P (layHi P 24, (fun _ => 0), g, 0, 0))) rfl (fun H locs hP hS => ?_)
              exact hret 64 _ hP hS dX2_layOut_64 rfl (by rw [hg, show k = P.2.2.2.2.2.2 by omega]; rfl)
            · refine lv_aload_n (pc := 42) hx hb dX2_layOut_42 rfl (lv_at hl 1 rfl) ?_
              refine lv_iload_n (pc := 43) hx hb dX2_layOut_43 rfl (lv_at hl 0 rfl) ?_
              refine lv_aload_n (pc := 44) hx hb dX2_layOut_44 rfl (lv_at hl 2 rfl) ?_
              refine lv_iload_n (pc := 45) hx hb dX2_layOut_45 rfl (lv_at hl 0 rfl) ?_
              refine lv_iconst (pc := 46) (v := nI 3) hx hb dX2_layOut_46 (by decide) ?_
              refine ci_Vd (pc := 47) (r0 := nI (P.2.2.1 (k * 4 + 3))) hF hN hK hP hV hS hA (k_X2_ofMaid l D cI cC cB cS p0 p1 p2 p3 P k 3 hp (by omega) (by omega)) (cwV 2 hts gX2_layOut_X2_ofMaid rfl rfl rfl (by decide +kernel) ⟨Nat.le_of_ble_eq_true rfl, Nat.le_of_ble_eq_true rfl⟩) [0, 1, 2, 3] rfl (by decide) 0 2 rfl rfl rfl hl.1 rfl (Nat.le_of_ble_eq_true rfl) dX2_layOut_47 ⟨Nat.le_refl _, Nat.le_refl _⟩ rfl (ws2 := plW p0 p1 p2 p3 cI P ++ stW s0 s1 s2 s3 cI (layHi P 24, (fun _ => 0), g, 0, 0)) rfl (fun H locs hP hS => ?_)
              have fq3 := hp.2.2.1 (k * 4 + 3)
              refine cv_Vd (pc := 50) hF hN hK hP hV hS hA (k_X8_setPlace l D cI cC cB cS s0 s1 s2 s3 (layHi P 24, (fun _ => 0), g, 0, 0) k (P.2.2.1 (k * 4 + 3)) (by omega)) (cwV 2 hts gX2_layOut_X8_setPlace rfl rfl rfl (by decide +kernel) ⟨Nat.le_of_ble_eq_true rfl, Nat.le_of_ble_eq_true rfl⟩) [4, 5, 6, 7] rfl (by decide) 0 8 rfl rfl rfl hl.1 rfl (Nat.le_of_ble_eq_true rfl) dX2_layOut_50 ⟨Nat.le_refl _, Nat.le_refl _⟩ rfl (ws2 := plW p0 p1 p2 p3 cI P ++ stW s0 s1 s2 s3 cI ((layHi P 24), (fun _ => 0), va_up g k (P.2.2.1 (k * 4 + 3)), (0, 0))) rfl (fun H locs hP hS => ?_)
              refine lv_iinc (pc := 53) (v := nI (k + 1)) (lv' := [(2, .int (nI (k + 1))), (1, .ref s0), (0, .ref p0)]) hx hb dX2_layOut_53 hl (k := 0) rfl (by rw [← nI_add]; rfl) (by decide) rfl (fun ls hl => ?_)
              refine lv_goto (pc := 56) (tgt := 34) hx hb dX2_layOut_56 (by decide) ?_
              exact ih34 (k + 1) (va_up g k (P.2.2.1 (k * 4 + 3))) _ _ _ (by omega) (by rw [hg]; rfl) (by omega) hP hS (lv_sub hl [0, 1, 2] rfl)
        exact cut34 _ 0 (fun _ => 0) _ _ _ (Nat.zero_le _) rfl (Nat.lt_succ_self _) hP hS (lv_sub hl [0, 1, 2] rfl)
      · refine lv_aload_n (pc := 15) hx hb dX2_layOut_15 rfl (lv_at hl 1 rfl) ?_
        refine lv_iload_n (pc := 16) hx hb dX2_layOut_16 rfl (lv_at hl 0 rfl) ?_
        refine lv_aload_n (pc := 17) hx hb dX2_layOut_17 rfl (lv_at hl 2 rfl) ?_
        refine va_get (pc := 18) (D := D) (ci := 2) (v := .ref p1) (C := RX2) (T := TX2) (N := 7) hx hb hts hiX2 hown hK hP 0 rfl rfl 0 (by decide) wf9 (fun _ h9 => h9) rfl dX2_layOut_18 ?_
        refine lv_iload_n (pc := 21) hx hb dX2_layOut_21 rfl (lv_at hl 0 rfl) ?_
        refine ra_iald (pc := 22) (k := k) (v := nI (P.1 k)) hx hb hK hP 1 0 rfl rfl (by omega) (by decide) rfl dX2_layOut_22 ?_
        have hq := hp1 k
        refine cv_Vd (pc := 23) hF hN hK hP hV hS hA (k_X8_setHigh l D cI cC cB cS s0 s1 s2 s3 (f, (fun _ => 0), (fun _ => 0), 0, 0) (nI k) ((k : Nat) : Int) (tI_nI (by omega)) (nI (P.1 k)) ((P.1 k : Nat) : Int) (tI_nI (by omega)) (by omega)) (cwV 2 hts gX2_layOut_X8_setHigh rfl rfl rfl (by decide +kernel) ⟨Nat.le_of_ble_eq_true rfl, Nat.le_of_ble_eq_true rfl⟩) [4, 5, 6, 7] rfl (by decide) 0 8 rfl rfl rfl hl.1 rfl (Nat.le_of_ble_eq_true rfl) dX2_layOut_23 ⟨Nat.le_refl _, Nat.le_refl _⟩ rfl (ws2 := plW p0 p1 p2 p3 cI P ++ stW s0 s1 s2 s3 cI (sSet (f, (fun _ => 0), (fun _ => 0), 0, 0) ((k : Nat) : Int) (clH ((P.1 k : Nat) : Int)))) rfl (fun H locs hP hS => ?_)
        have e9 : sSet (f, (fun _ => 0), (fun _ => 0), 0, 0) ((k : Nat) : Int) (clH ((P.1 k : Nat) : Int)) = (va_up f k (P.1 k), (fun _ => 0), (fun _ => 0), 0, 0) := by
          unfold sSet
          rw [if_pos ⟨by omega, by omega⟩, clH_n (by omega)]
          rfl
        rw [e9] at hP
        refine lv_iinc (pc := 26) (v := nI (k + 1)) (lv' := [(2, .int (nI (k + 1))), (1, .ref s0), (0, .ref p0)]) hx hb dX2_layOut_26 hl (k := 0) rfl (by rw [← nI_add]; rfl) (by decide) rfl (fun ls hl => ?_)
        refine lv_goto (pc := 29) (tgt := 6) hx hb dX2_layOut_29 (by decide) ?_
        exact ih6 (k + 1) (va_up f k (P.1 k)) _ _ _ (by omega) (by rw [hf]; rfl) (by omega) hP hS (lv_sub hl [0, 1, 2] rfl)
  exact cut6 _ 0 (fun _ => 0) _ _ _ (by omega) rfl (Nat.lt_succ_self _) hP hS (lv_sub hl [0, 2, 1] rfl)
