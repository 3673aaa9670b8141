abbrev rmX10_deep : Room := { frames := 5, cells := 0, slots := 0, locals := 115 }
set_option maxHeartbeats 4000000 in
set_option maxRecDepth 100000 in
theorem k_X10_deep (l : Launch) (D : va_G) (cI cC cB cS : ClassId) (o : Nat) (ad : Nat → Nat) (P : PL) (I : RI) (sl : Nat → Nat) (so : Nat → Nat) (cl : Nat → Nat) (de : Nat → Nat) (si : Nat → Nat) (ms : Nat → Nat) (to : Nat → Nat) (sc : Nat → Nat) (sh : Nat → Nat) (x1 : Int32) (z1 : Int) (hz1 : x1.toInt = z1) (x2 : Int32) (z2 : Int) (hz2 : x2.toInt = z2) (x3 : Int32) (z3 : Int) (hz3 : x3.toInt = z3) (wa : Nat → Nat) (ir : Nat → Nat) (hpk : plOK P) (hc : rC P so cl de si) (hm : rM P wa ir ms) (hto : ∀ k, k < 24 → to k = P.1 k) (hsb : sB sl) (hde : ∀ j, de j < 100) (hso : ∀ j, so j < 100) (hsi : ∀ j, si j < 100) (hms : ∀ j, ms j < 100) (htb : ∀ j, to j < 100) (hsc : ∀ j, sc j < 24 ∧ sh j < 100) (hsn : I.2.2.2.2.2.2.2.2.2.2.1 ≤ 8) : CI l D (kT cI cC cB cS) yX10_deep wsX10_deep rmX10_deep [.ref o, .int (x1), .int (x2), .int (x3)] ([rmE o ad (pCells P) P.2.2.2.1 P.2.2.2.2.2.1 P.2.2.2.2.2.2 I, nE 384 (ad 25) cI sl, nE 6 (ad 4) cI so, nE 6 (ad 5) cI cl, nE 6 (ad 6) cI de, nE 6 (ad 7) cI si, nE 3 (ad 11) cI ms, nE 24 (ad 2) cI to, nE 8 (ad 34) cI sc, nE 8 (ad 35) cI sh]) (fun r u => r = jI (zDeep P (sc, sh, I.2.2.2.2.2.2.2.2.2.2.1) z1 z2 z3) ∧ ∃ f : Nat → Nat, u = [rmE o ad (pCells P) P.2.2.2.1 P.2.2.2.2.2.1 P.2.2.2.2.2.2 I, nE 384 (ad 25) cI f, nE 6 (ad 4) cI so, nE 6 (ad 5) cI cl, nE 6 (ad 6) cI de, nE 6 (ad 7) cI si, nE 3 (ad 11) cI ms, nE 24 (ad 2) cI to, nE 8 (ad 34) cI sc, nE 8 (ad 35) cI sh] ∧ tEnd sl f) := by
  refine ci_intro (by decide) rfl (Nat.le_of_ble_eq_true rfl) ?_
  intro p e s m args below meth c ls A QF hF hK hP hV hS hA hN hl hret
  obtain ⟨hx, hb, hml, hown, hts⟩ := id hF
  have hP : va_P D vwCl ([rmE o ad (pCells P) P.2.2.2.1 P.2.2.2.2.2.1 P.2.2.2.2.2.2 I, nE 384 (ad 25) cI sl, nE 6 (ad 4) cI so, nE 6 (ad 5) cI cl, nE 6 (ad 6) cI de, nE 6 (ad 7) cI si, nE 3 (ad 11) cI ms, nE 24 (ad 2) cI to, nE 8 (ad 34) cI sc, nE 8 (ad 35) cI sh]) s.heap := hP
  have hl : lv_has ls 9 [(0, .ref o), (1, .int (x1)), (2, .int (x2)), (3, .int (x3))] := hl
  have wf19 := hts (.fieldLink RX10 19 "RemorseWallModel" "depth" "[I") (by decide +kernel)
  have wf127 := hts (.fieldLink RX10 127 "RemorseWallModel" "cases" "I") (by decide +kernel)
  have hiX10 : ∀ w ∈ u_ws RX10 TX10 44, w ∈ wsX10_deep := by decide +kernel
  have hw := hpk.1
  obtain ⟨hp, hc1, hce, hme⟩ := id hw
  obtain ⟨hp1, hp2, hp3, hp4, hp5, hp6, hp7⟩ := id hp
  have hcl := pCells_le hp
  have hpw := Nat.two_pow_pos P.2.2.2.2.2.1
  have hpw6 := pow_64 hp6
  have hr1 := i32_rng x1
  rw [hz1] at hr1
  have hr2 := i32_rng x2
  rw [hz2] at hr2
  have hr3 := i32_rng x3
  rw [hz3] at hr3
  refine lv_aload_n (pc := 0) hx hb dX10_deep_0 rfl (lv_at hl 0 rfl) ?_
  refine lv_iload_n (pc := 1) hx hb dX10_deep_1 rfl (lv_at hl 1 rfl) ?_
  refine ci_Vd (pc := 2) (r0 := nI (if okX (P.2.2.2.2.2.1) z1 then 1 else 0)) hF hN hK hP hV hS hA (k_X10_isCase l D cI cC cB cS o ad P I (x1) z1 hz1 hp) (cwV 1 hts gX10_deep_X10_isCase rfl rfl rfl (by decide +kernel) ⟨Nat.le_of_ble_eq_true rfl, Nat.le_of_ble_eq_true rfl⟩) [0] rfl (by decide) 0 10 rfl rfl rfl hl.1 rfl (Nat.le_of_ble_eq_true rfl) dX10_deep_2 ⟨Nat.le_refl _, Nat.le_refl _⟩ rfl (ws2 := [rmE o ad (pCells P) P.2.2.2.1 P.2.2.2.2.2.1 P.2.2.2.2.2.2 I, nE 384 (ad 25) cI sl, nE 6 (ad 4) cI so, nE 6 (ad 5) cI cl, nE 6 (ad 6) cI de, nE 6 (ad 7) cI si, nE 3 (ad 11) cI ms, nE 24 (ad 2) cI to, nE 8 (ad 34) cI sc, nE 8 (ad 35) cI sh]) rfl (fun H locs hP hS => ?_)
  refine rb_eq (pc := 5) (tgt := 30) hx hb dX10_deep_5 (by decide) (fun c5 => ?_) (fun c5 => ?_)
  · refine lv_iconst (pc := 30) (v := jI (-1)) hx hb dX10_deep_30 (by decide) ?_
    exact hret 31 _ hP hS dX10_deep_31 rfl rfl ⟨(by unfold zDeep; rw [if_neg (by omega)]), sl, rfl, tEnd.rf hsb⟩
  · refine lv_iload_n (pc := 8) hx hb dX10_deep_8 rfl (lv_at hl 2 rfl) ?_
    refine lv_i2l (pc := 9) (v := jL z2) hx hb dX10_deep_9 (i2l_j hz2) ?_
    refine lv_lconst (pc := 10) (v := jL 1) hx hb dX10_deep_10 (by decide) ?_
    refine lv_ldc2 (pc := 11) (v := jL 20) hx hb hown (hts (.constantLong RX10 257 (jL 20)) (by decide +kernel)) dX10_deep_11 ?_
    refine ci_Sd (pc := 14) hF hN hK hP hV hS hA (k_X10_in l D cI cC cB cS z2 1 20 (by omega)) (va_cwS 3 hts gX10_deep_X10_in rfl rfl rfl (by decide +kernel) ⟨Nat.le_of_ble_eq_true rfl, Nat.le_of_ble_eq_true rfl⟩) [] rfl (by decide) rfl hl.1 rfl (Nat.le_of_ble_eq_true rfl) dX10_deep_14 ⟨Nat.le_refl _, Nat.le_refl _⟩ rfl (ws2 := [rmE o ad (pCells P) P.2.2.2.1 P.2.2.2.2.2.1 P.2.2.2.2.2.2 I, nE 384 (ad 25) cI sl, nE 6 (ad 4) cI so, nE 6 (ad 5) cI cl, nE 6 (ad 6) cI de, nE 6 (ad 7) cI si, nE 3 (ad 11) cI ms, nE 24 (ad 2) cI to, nE 8 (ad 34) cI sc, nE 8 (ad 35) cI sh]) rfl (fun H locs hP hS => ?_)
    refine rb_eq (pc := 17) (tgt := 30) hx hb dX10_deep_17 (by decide) (fun c17 => ?_) (fun c17 => ?_)
    · refine lv_iconst (pc := 30) (v := jI (-1)) hx hb dX10_deep_30 (by decide) ?_
      exact hret 31 _ hP hS dX10_deep_31 rfl rfl ⟨(by unfold zDeep; rw [if_neg (by omega)]), sl, rfl, tEnd.rf hsb⟩
    · refine lv_iload_n (pc := 20) hx hb dX10_deep_20 rfl (lv_at hl 3 rfl) ?_
      refine lv_i2l (pc := 21) (v := jL z3) hx hb dX10_deep_21 (i2l_j hz3) ?_
      refine lv_lconst (pc := 22) (v := jL 0) hx hb dX10_deep_22 (by decide) ?_
      refine lv_lconst (pc := 23) (v := jL 1) hx hb dX10_deep_23 (by decide) ?_
      refine ci_Sd (pc := 24) hF hN hK hP hV hS hA (k_X10_in l D cI cC cB cS z3 0 1 (by omega)) (va_cwS 3 hts gX10_deep_X10_in rfl rfl rfl (by decide +kernel) ⟨Nat.le_of_ble_eq_true rfl, Nat.le_of_ble_eq_true rfl⟩) [] rfl (by decide) rfl hl.1 rfl (Nat.le_of_ble_eq_true rfl) dX10_deep_24 ⟨Nat.le_refl _, Nat.le_refl _⟩ rfl (ws2 := [rmE o ad (pCells P) P.2.2.2.1 P.2.2.2.2.2.1 P.2.2.2.2.2.2 I, nE 384 (ad 25) cI sl, nE 6 (ad 4) cI so, nE 6 (ad 5) cI cl, nE 6 (ad 6) cI de, nE 6 (ad 7) cI si, nE 3 (ad 11) cI ms, nE 24 (ad 2) cI to, nE 8 (ad 34) cI sc, nE 8 (ad 35) cI sh]) rfl (fun H locs hP hS => ?_)
      refine rb_ne (pc := 27) (tgt := 32) hx hb dX10_deep_27 (by decide) (fun c27 => ?_) (fun c27 => ?_)
      · obtain ⟨i, rfl⟩ : ∃ k : Nat, z1 = k := ⟨z1.toNat, by omega⟩
        obtain rfl : x1 = nI i := eq_nI hz1
        obtain ⟨n, rfl⟩ : ∃ k : Nat, z2 = k := ⟨z2.toNat, by omega⟩
        obtain rfl : x2 = nI n := eq_nI hz2
        refine lv_aload_n (pc := 32) hx hb dX10_deep_32 rfl (lv_at hl 0 rfl) ?_
        refine va_get (pc := 33) (D := D) (ci := 10) (v := .ref (ad 6)) (C := RX10) (T := TX10) (N := 44) hx hb hts hiX10 hown hK hP 0 rfl rfl 6 (by decide) wf19 (fun _ h9 => h9) rfl dX10_deep_33 ?_
        refine lv_iload_n (pc := 36) hx hb dX10_deep_36 rfl (lv_at hl 1 rfl) ?_
        refine ra_iald (pc := 37) (k := i) (v := nI (de i)) hx hb hK hP 4 0 rfl rfl (by omega) (by decide) rfl dX10_deep_37 ?_
        refine lv_istore (pc := 38) (lv' := [(4, .int (nI (de i))), (0, .ref o), (1, .int (nI i)), (2, .int (nI n)), (3, .int (x3))]) hx hb dX10_deep_38 hl (by decide) rfl (fun ls hl => ?_)
        refine lv_iconst (pc := 40) (v := nI 0) hx hb dX10_deep_40 (by decide) ?_
        refine lv_istore (pc := 41) (lv' := [(5, .int (nI 0)), (4, .int (nI (de i))), (0, .ref o), (1, .int (nI i)), (2, .int (nI n)), (3, .int (x3))]) hx hb dX10_deep_41 hl (by decide) rfl (fun ls hl => ?_)
        refine lv_bipush (pc := 43) (v := jI (-4)) hx hb dX10_deep_43 (by decide) ?_
        refine lv_istore (pc := 45) (lv' := [(6, .int (jI (-4))), (5, .int (nI 0)), (4, .int (nI (de i))), (0, .ref o), (1, .int (nI i)), (2, .int (nI n)), (3, .int (x3))]) hx hb dX10_deep_45 hl (by decide) rfl (fun ls hl => ?_)
        refine lv_bipush (pc := 47) (v := nI 9) hx hb dX10_deep_47 (by decide) ?_
        refine lv_istore (pc := 49) (lv' := [(7, .int (nI 9)), (6, .int (jI (-4))), (5, .int (nI 0)), (4, .int (nI (de i))), (0, .ref o), (1, .int (nI i)), (2, .int (nI n)), (3, .int (x3))]) hx hb dX10_deep_49 hl (by decide) rfl (fun ls hl => ?_)
        have cut51 : ∀ (fuel : Nat) (k : Nat) (a : Nat) (b : Int) (f : Nat → Nat) (dv : Nat → Nat) (H : Heap) (locs : List Loc) (ls : Array Slot) (hk : k ≤ 9) (hx9 : deepN P (sc, sh, I.2.2.2.2.2.2.2.2.2.2.1) i n 9 = ((deepN P (sc, sh, I.2.2.2.2.2.2.2.2.2.2.1) i n k).1 + a, if (deepN P (sc, sh, I.2.2.2.2.2.2.2.2.2.2.1) i n k).2 = -4 then b else (deepN P (sc, sh, I.2.2.2.2.2.2.2.2.2.2.1) i n k).2)) (hE : tEnd sl f) (hD9 : ∀ j, j ≠ i → dv j = de j) (hfu : k < fuel), va_P D vwCl ([rmE o ad (pCells P) P.2.2.2.1 P.2.2.2.2.2.1 P.2.2.2.2.2.2 I, nE 384 (ad 25) cI f, nE 6 (ad 4) cI so, nE 6 (ad 5) cI cl, nE 6 (ad 6) cI dv, nE 6 (ad 7) cI si, nE 3 (ad 11) cI ms, nE 24 (ad 2) cI to, nE 8 (ad 34) cI sc, nE 8 (ad 35) cI sh]) H → va_S A s.heap H locs → lv_has ls 9 [(7, .int (nI k)), (6, .int (jI b)), (5, .int (nI a)), (4, .int (nI (de i))), (3, .int (x3)), (2, .int (nI n)), (1, .int (nI i)), (0, .ref o)] → W p l e rmX10_deep s m args below meth c H locs 0 0 QF (F0 m 51 ls []) := by
          intro fuel
          induction fuel with
          | zero => intro k a b f dv H locs ls hk hx9 hE hD9 hfu; omega
          | succ fuel ih51 =>
            intro k a b f dv H locs ls hk hx9 hE hD9 hfu hP hS hl
            refine lv_iload (pc := 51) hx hb dX10_deep_51 (lv_at hl 0 rfl) ?_
            refine r0_le (pc := 53) (tgt := 114) hx hb (tI_nI (by omega)) dX10_deep_53 (by decide) (fun c53 => ?_) (fun c53 => ?_)
            · have hk0 : k = 0 := by omega
              rw [hk0] at hx9
              refine lv_aload_n (pc := 114) hx hb dX10_deep_114 rfl (lv_at hl 7 rfl) ?_
              refine va_get (pc := 115) (D := D) (ci := 10) (v := .ref (ad 6)) (C := RX10) (T := TX10) (N := 44) hx hb hts hiX10 hown hK hP 0 rfl rfl 6 (by decide) wf19 (fun _ h9 => h9) rfl dX10_deep_115 ?_
              refine lv_iload_n (pc := 118) hx hb dX10_deep_118 rfl (lv_at hl 6 rfl) ?_
              refine lv_iload (pc := 119) hx hb dX10_deep_119 (lv_at hl 3 rfl) ?_
              refine rn_iast (pc := 121) (f := dv) (k := i) (x := de i) (ws2 := [rmE o ad (pCells P) P.2.2.2.1 P.2.2.2.2.2.1 P.2.2.2.2.2.2 I, nE 384 (ad 25) cI f, nE 6 (ad 4) cI so, nE 6 (ad 5) cI cl, nE 6 (ad 6) cI (va_up dv i (de i)), nE 6 (ad 7) cI si, nE 3 (ad 11) cI ms, nE 24 (ad 2) cI to, nE 8 (ad 34) cI sc, nE 8 (ad 35) cI sh]) hx hb hK hP hV hS 4 0 rfl rfl (by omega) (by decide) dX10_deep_121 rfl rfl (fun H locs hP hS => ?_)
              have hP : va_P D vwCl ([rmE o ad (pCells P) P.2.2.2.1 P.2.2.2.2.2.1 P.2.2.2.2.2.2 I, nE 384 (ad 25) cI f, nE 6 (ad 4) cI so, nE 6 (ad 5) cI cl, nE 6 (ad 6) cI de, nE 6 (ad 7) cI si, nE 3 (ad 11) cI ms, nE 24 (ad 2) cI to, nE 8 (ad 34) cI sc, nE 8 (ad 35) cI sh]) H := (by rw [← (show va_up dv i (de i) = de from va_up_back hD9)]; exact hP)
              refine lv_iload_n (pc := 122) hx hb dX10_deep_122 rfl (lv_at hl 4 rfl) ?_
              refine r0_ne (pc := 123) (tgt := 131) hx hb hz3 dX10_deep_123 (by decide) (fun c123 => ?_) (fun c123 => ?_)
              · refine lv_iload (pc := 131) hx hb dX10_deep_131 (lv_at hl 1 rfl) ?_
                exact hret 133 _ hP hS dX10_deep_133 rfl rfl ⟨(by unfold zDeep; rw [if_pos (by omega), Int.toNat_natCast, Int.toNat_natCast, hx9, if_neg (by omega)]; show jI b = jI (if (-4 : Int) = -4 then b else -4); rw [if_pos rfl]), f, rfl, hE⟩
              · refine lv_iload (pc := 126) hx hb dX10_deep_126 (lv_at hl 2 rfl) ?_
                refine lv_goto (pc := 128) (tgt := 133) hx hb dX10_deep_128 (by decide) ?_
                exact hret 133 _ hP hS dX10_deep_133 rfl rfl ⟨(by unfold zDeep; rw [if_pos (by omega), Int.toNat_natCast, Int.toNat_natCast, hx9, if_pos (by omega)]; show nI a = jI ((0 + a : Nat) : Int); rw [Nat.zero_add]; exact jI_nat _), f, rfl, hE⟩
            · obtain ⟨j, rfl⟩ : ∃ j : Nat, k = j + 1 := ⟨k - 1, by omega⟩
              refine lv_aload_n (pc := 56) hx hb dX10_deep_56 rfl (lv_at hl 7 rfl) ?_
              refine va_get (pc := 57) (D := D) (ci := 10) (v := .ref (ad 6)) (C := RX10) (T := TX10) (N := 44) hx hb hts hiX10 hown hK hP 0 rfl rfl 6 (by decide) wf19 (fun _ h9 => h9) rfl dX10_deep_57 ?_
              refine lv_iload_n (pc := 60) hx hb dX10_deep_60 rfl (lv_at hl 6 rfl) ?_
              refine lv_iload (pc := 61) hx hb dX10_deep_61 (lv_at hl 0 rfl) ?_
              refine rn_iast (pc := 63) (f := dv) (k := i) (x := j + 1) (ws2 := [rmE o ad (pCells P) P.2.2.2.1 P.2.2.2.2.2.1 P.2.2.2.2.2.2 I, nE 384 (ad 25) cI f, nE 6 (ad 4) cI so, nE 6 (ad 5) cI cl, nE 6 (ad 6) cI (va_up dv i (j + 1)), nE 6 (ad 7) cI si, nE 3 (ad 11) cI ms, nE 24 (ad 2) cI to, nE 8 (ad 34) cI sc, nE 8 (ad 35) cI sh]) hx hb hK hP hV hS 4 0 rfl rfl (by omega) (by decide) dX10_deep_63 rfl rfl (fun H locs hP hS => ?_)
              have hP : va_P D vwCl ([rmE o ad (pCells P) P.2.2.2.1 P.2.2.2.2.2.1 P.2.2.2.2.2.2 I, nE 384 (ad 25) cI f, nE 6 (ad 4) cI so, nE 6 (ad 5) cI cl, nE 6 (ad 6) cI (va_up de i (j + 1)), nE 6 (ad 7) cI si, nE 3 (ad 11) cI ms, nE 24 (ad 2) cI to, nE 8 (ad 34) cI sc, nE 8 (ad 35) cI sh]) H := (by rw [← (show va_up dv i (j + 1) = va_up de i (j + 1) from va_up_same hD9)]; exact hP)
              refine lv_aload_n (pc := 64) hx hb dX10_deep_64 rfl (lv_at hl 7 rfl) ?_
              refine lv_iconst (pc := 65) (v := nI 1) hx hb dX10_deep_65 (by decide) ?_
              refine lv_aload_n (pc := 66) hx hb dX10_deep_66 rfl (lv_at hl 7 rfl) ?_
              refine va_get (pc := 67) (D := D) (ci := 10) (v := .int (nI P.2.2.2.2.2.1)) (C := RX10) (T := TX10) (N := 44) hx hb hts hiX10 hown hK hP 0 rfl rfl 3 (by decide) wf127 (fun _ h9 => h9) rfl dX10_deep_67 ?_
              refine lv_ishl (pc := 70) hx hb dX10_deep_70 ?_
              refine r_top (nI_1shl (by omega)) ?_
              refine lv_iconst (pc := 71) (v := nI 1) hx hb dX10_deep_71 (by decide) ?_
              refine rn_isub (pc := 72) hx hb (by omega) dX10_deep_72 ?_
              refine lv_iload_n (pc := 73) hx hb dX10_deep_73 rfl (lv_at hl 5 rfl) ?_
              refine ci_V (pc := 74) hF hN hK hP hV hS hA (k_X10_isSo l D cI cC cB cS o ad (dpP P i (j + 1)) I f so cl (va_up de i (j + 1)) si ms to sc sh ((2 ^ P.2.2.2.2.2.1) - 1) n wa ir (dp_ok hpk (by omega)) (dp_rC hc) hm hto (hE.sB hsb) (va_up_b hde (by omega)) hso hsi hms htb hsc hsn (by omega) (by omega)) (cwV 2 hts gX10_deep_X10_isSo rfl rfl rfl (by decide +kernel) ⟨Nat.le_of_ble_eq_true rfl, Nat.le_of_ble_eq_true rfl⟩) [0, 1, 2, 3, 4, 5, 6, 7, 8, 9] rfl (by decide) 0 10 rfl rfl rfl hl.1 rfl (Nat.le_of_ble_eq_true rfl) dX10_deep_74 ⟨Nat.le_refl _, Nat.le_refl _⟩ rfl (fun r u H locs hq hu hP hS => ?_)
              obtain ⟨rfl, f2, rfl, hE2⟩ := hq
              have hP : va_P D vwCl ([rmE o ad (pCells P) P.2.2.2.1 P.2.2.2.2.2.1 P.2.2.2.2.2.2 I, nE 384 (ad 25) cI f2, nE 6 (ad 4) cI so, nE 6 (ad 5) cI cl, nE 6 (ad 6) cI (va_up de i (j + 1)), nE 6 (ad 7) cI si, nE 3 (ad 11) cI ms, nE 24 (ad 2) cI to, nE 8 (ad 34) cI sc, nE 8 (ad 35) cI sh]) H := hP
              refine lv_istore (pc := 77) (lv' := [(8, .int (nI (if seenB (dpP P i (j + 1)) (sc, sh, I.2.2.2.2.2.2.2.2.2.2.1) (2 ^ P.2.2.2.2.2.1 - 1) n then 1 else 0))), (7, .int (nI (j + 1))), (6, .int (jI b)), (5, .int (nI a)), (4, .int (nI (de i))), (3, .int (x3)), (2, .int (nI n)), (1, .int (nI i)), (0, .ref o)]) hx hb dX10_deep_77 hl (by decide) rfl (fun ls hl => ?_)
              refine lv_iload (pc := 79) hx hb dX10_deep_79 (lv_at hl 3 rfl) ?_
              refine lv_iload (pc := 81) hx hb dX10_deep_81 (lv_at hl 0 rfl) ?_
              refine rb_eq (pc := 83) (tgt := 90) hx hb dX10_deep_83 (by decide) (fun c83 => ?_) (fun c83 => ?_)
              · refine lv_iconst (pc := 90) (v := nI 0) hx hb dX10_deep_90 (by decide) ?_
                refine rn_iadd (pc := 91) hx hb dX10_deep_91 ?_
                refine lv_istore (pc := 92) (lv' := [(5, .int (nI (a + 0))), (8, .int (nI (if seenB (dpP P i (j + 1)) (sc, sh, I.2.2.2.2.2.2.2.2.2.2.1) (2 ^ P.2.2.2.2.2.1 - 1) n then 1 else 0))), (7, .int (nI (j + 1))), (6, .int (jI b)), (4, .int (nI (de i))), (3, .int (x3)), (2, .int (nI n)), (1, .int (nI i)), (0, .ref o)]) hx hb dX10_deep_92 hl (by decide) rfl (fun ls hl => ?_)
                refine lv_iload (pc := 94) hx hb dX10_deep_94 (lv_at hl 1 rfl) ?_
                refine rb_eq (pc := 96) (tgt := 104) hx hb dX10_deep_96 (by decide) (fun c96 => ?_) (fun c96 => ?_)
                · refine lv_iload (pc := 104) hx hb dX10_deep_104 (lv_at hl 3 rfl) ?_
                  refine lv_istore (pc := 106) (lv' := [(6, .int (jI b)), (5, .int (nI (a + 0))), (8, .int (nI (if seenB (dpP P i (j + 1)) (sc, sh, I.2.2.2.2.2.2.2.2.2.2.1) (2 ^ P.2.2.2.2.2.1 - 1) n then 1 else 0))), (7, .int (nI (j + 1))), (4, .int (nI (de i))), (3, .int (x3)), (2, .int (nI n)), (1, .int (nI i)), (0, .ref o)]) hx hb dX10_deep_106 hl (by decide) rfl (fun ls hl => ?_)
                  refine lv_iinc (pc := 108) (v := nI (j + 1 - 1)) (lv' := [(7, .int (nI (j + 1 - 1))), (6, .int (jI b)), (5, .int (nI (a + 0))), (8, .int (nI (if seenB (dpP P i (j + 1)) (sc, sh, I.2.2.2.2.2.2.2.2.2.2.1) (2 ^ P.2.2.2.2.2.1 - 1) n then 1 else 0))), (4, .int (nI (de i))), (3, .int (x3)), (2, .int (nI n)), (1, .int (nI i)), (0, .ref o)]) hx hb dX10_deep_108 hl (k := 3) rfl (nI_dec (by omega)) (by decide) rfl (fun ls hl => ?_)
                  refine lv_goto (pc := 111) (tgt := 51) hx hb dX10_deep_111 (by decide) ?_
                  exact ih51 j (a + 0) b f2 (va_up de i (j + 1)) _ _ _ (by omega) (dR_n hx9 c83) (tEnd.tr hE hE2) (fun j9 hj9 => upNe hj9) (by omega) hP hS (lv_sub hl [0, 1, 2, 4, 5, 6, 7, 8] rfl)
                · exact absurd c96 c83
              · refine lv_iconst (pc := 86) (v := nI 1) hx hb dX10_deep_86 (by decide) ?_
                refine lv_goto (pc := 87) (tgt := 91) hx hb dX10_deep_87 (by decide) ?_
                refine rn_iadd (pc := 91) hx hb dX10_deep_91 ?_
                refine lv_istore (pc := 92) (lv' := [(5, .int (nI (a + 1))), (8, .int (nI (if seenB (dpP P i (j + 1)) (sc, sh, I.2.2.2.2.2.2.2.2.2.2.1) (2 ^ P.2.2.2.2.2.1 - 1) n then 1 else 0))), (7, .int (nI (j + 1))), (6, .int (jI b)), (4, .int (nI (de i))), (3, .int (x3)), (2, .int (nI n)), (1, .int (nI i)), (0, .ref o)]) hx hb dX10_deep_92 hl (by decide) rfl (fun ls hl => ?_)
                refine lv_iload (pc := 94) hx hb dX10_deep_94 (lv_at hl 1 rfl) ?_
                refine rb_eq (pc := 96) (tgt := 104) hx hb dX10_deep_96 (by decide) (fun c96 => ?_) (fun c96 => ?_)
                · exact absurd c83 c96
                · refine lv_iload (pc := 99) hx hb dX10_deep_99 (lv_at hl 2 rfl) ?_
                  refine lv_goto (pc := 101) (tgt := 106) hx hb dX10_deep_101 (by decide) ?_
                  refine r_top (jI_nat _) ?_
                  refine lv_istore (pc := 106) (lv' := [(6, .int (jI ((j + 1 : Nat) : Int))), (5, .int (nI (a + 1))), (8, .int (nI (if seenB (dpP P i (j + 1)) (sc, sh, I.2.2.2.2.2.2.2.2.2.2.1) (2 ^ P.2.2.2.2.2.1 - 1) n then 1 else 0))), (7, .int (nI (j + 1))), (4, .int (nI (de i))), (3, .int (x3)), (2, .int (nI n)), (1, .int (nI i)), (0, .ref o)]) hx hb dX10_deep_106 hl (by decide) rfl (fun ls hl => ?_)
                  refine lv_iinc (pc := 108) (v := nI (j + 1 - 1)) (lv' := [(7, .int (nI (j + 1 - 1))), (6, .int (jI ((j + 1 : Nat) : Int))), (5, .int (nI (a + 1))), (8, .int (nI (if seenB (dpP P i (j + 1)) (sc, sh, I.2.2.2.2.2.2.2.2.2.2.1) (2 ^ P.2.2.2.2.2.1 - 1) n then 1 else 0))), (4, .int (nI (de i))), (3, .int (x3)), (2, .int (nI n)), (1, .int (nI i)), (0, .ref o)]) hx hb dX10_deep_108 hl (k := 3) rfl (nI_dec (by omega)) (by decide) rfl (fun ls hl => ?_)
                  refine lv_goto (pc := 111) (tgt := 51) hx hb dX10_deep_111 (by decide) ?_
                  exact ih51 j (a + 1) ((j + 1 : Nat) : Int) f2 (va_up de i (j + 1)) _ _ _ (by omega) (dR_y hx9 c83) (tEnd.tr hE hE2) (fun j9 hj9 => upNe hj9) (by omega) hP hS (lv_sub hl [0, 1, 2, 4, 5, 6, 7, 8] rfl)
        exact cut51 _ 9 0 (-4) sl de _ _ _ (Nat.le_refl _) mR_0 (tEnd.rf hsb) (fun _ _ => rfl) (Nat.lt_succ_self _) hP hS (lv_sub hl [0, 1, 2, 3, 7, 6, 5, 4] rfl)
      · refine lv_iconst (pc := 30) (v := jI (-1)) hx hb dX10_deep_30 (by decide) ?_
        exact hret 31 _ hP hS dX10_deep_31 rfl rfl ⟨(by unfold zDeep; rw [if_neg (by omega)]), sl, rfl, tEnd.rf hsb⟩
