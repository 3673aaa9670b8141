abbrev rmX10_round : Room := { frames := 4, cells := 0, slots := 0, locals := 91 }
set_option maxHeartbeats 4000000 in
set_option maxRecDepth 100000 in
theorem k_X10_round (l : Launch) (D : va_G) (cI cC cB cS : ClassId) (o : Nat) (ad : Nat → Nat) (P : PL) (I : RI) (sl : Nat → Nat) (wa : Nat → Nat) (ir : Nat → Nat) (rw : Nat → Int) (be : Nat → Int) (x1 : Int32) (z1 : Int) (hz1 : x1.toInt = z1) (x2 : Int32) (z2 : Int) (hz2 : x2.toInt = z2) (x3 : Int32) (z3 : Int) (hz3 : x3.toInt = z3) (S : ST) (ms : Nat → Nat) (hpk : plOK P) (hst : stOK P S) (hm : rM P wa ir ms) (hf0 : rF P sl 0 S) (hsb : sB sl) (hir : ∀ j, ir j < 100) (hwa : ∀ j, wa j < 100) (hx2 : stX P S) : CI l D (kT cI cC cB cS) yX10_round wsX10_round rmX10_round [.ref o, .int (x1), .int (x2), .int (x3)] ([rmE o ad (pCells P) P.2.2.2.1 P.2.2.2.2.2.1 P.2.2.2.2.2.2 I, nE 384 (ad 25) cI sl, nE 3 (ad 9) cI wa, nE 3 (ad 10) cI ir, zE 5 (ad 40) cI rw, zE 5 (ad 41) cI be]) (fun r u => r = jI (if okX P.2.2.2.2.2.2 z1 ∧ (1 ≤ z2 ∧ z2 ≤ 5) ∧ (-1 ≤ z3 ∧ z3 < 5) then (if (S.2.1 z1.toNat : Int) < z2 then -2 else if z3 < 0 then (bstQ P S z1.toNat z2.toNat (5 ^ z2.toNat)).1 else if z3 < z2 then (bstQ P S z1.toNat z2.toNat (5 ^ z2.toNat)).2 z3.toNat else -4) else -1) ∧ ∃ (f : Nat → Nat) (r9 b9 : Nat → Int), u = [rmE o ad (pCells P) P.2.2.2.1 P.2.2.2.2.2.1 P.2.2.2.2.2.2 I, nE 384 (ad 25) cI f, nE 3 (ad 9) cI wa, nE 3 (ad 10) cI ir, zE 5 (ad 40) cI r9, zE 5 (ad 41) cI b9] ∧ tEnd sl f) := by
  refine ci_intro (by decide) rfl (Nat.le_of_ble_eq_true rfl) ?_
  intro p e s m args below meth c ls A QF hF hK hP hV hS hA hN hl hret
  obtain ⟨hx, hb, hml, hown, hts⟩ := id hF
  have hP : va_P D vwCl ([rmE o ad (pCells P) P.2.2.2.1 P.2.2.2.2.2.1 P.2.2.2.2.2.2 I, nE 384 (ad 25) cI sl, nE 3 (ad 9) cI wa, nE 3 (ad 10) cI ir, zE 5 (ad 40) cI rw, zE 5 (ad 41) cI be]) s.heap := hP
  have hl : lv_has ls 13 [(0, .ref o), (1, .int (x1)), (2, .int (x2)), (3, .int (x3))] := hl
  have wf61 := hts (.fieldLink RX10 61 "RemorseWallModel" "slot" "[I") (by decide +kernel)
  have wf83 := hts (.fieldLink RX10 83 "RemorseWallModel" "row" "[I") (by decide +kernel)
  have wf86 := hts (.fieldLink RX10 86 "RemorseWallModel" "best" "[I") (by decide +kernel)
  have hiX10 : ∀ w ∈ u_ws RX10 TX10 44, w ∈ wsX10_round := by decide +kernel
  have hw := hpk.1
  obtain ⟨hp, hc1, hce, hme⟩ := id hw
  obtain ⟨hp1, hp2, hp3, hp4, hp5, hp6, hp7⟩ := id hp
  have hcl := pCells_le hp
  have hs : sHi S := hst.1
  have hr1 := i32_rng x1
  rw [hz1] at hr1
  have hr2 := i32_rng x2
  rw [hz2] at hr2
  have hr3 := i32_rng x3
  rw [hz3] at hr3
  have hslb := sB_h hsb
  refine lv_aload_n (pc := 0) hx hb dX10_round_0 rfl (lv_at hl 0 rfl) ?_
  refine lv_iload_n (pc := 1) hx hb dX10_round_1 rfl (lv_at hl 1 rfl) ?_
  refine ci_Vd (pc := 2) (r0 := nI (if okX (P.2.2.2.2.2.2) z1 then 1 else 0)) hF hN hK hP hV hS hA (k_X10_isMaid l D cI cC cB cS o ad P I (x1) z1 hz1 hp) (cwV 1 hts gX10_round_X10_isMaid rfl rfl rfl (by decide +kernel) ⟨Nat.le_of_ble_eq_true rfl, Nat.le_of_ble_eq_true rfl⟩) [0] rfl (by decide) 0 10 rfl rfl rfl hl.1 rfl (Nat.le_of_ble_eq_true rfl) dX10_round_2 ⟨Nat.le_refl _, Nat.le_refl _⟩ rfl (ws2 := [rmE o ad (pCells P) P.2.2.2.1 P.2.2.2.2.2.1 P.2.2.2.2.2.2 I, nE 384 (ad 25) cI sl, nE 3 (ad 9) cI wa, nE 3 (ad 10) cI ir, zE 5 (ad 40) cI rw, zE 5 (ad 41) cI be]) rfl (fun H locs hP hS => ?_)
  refine rb_eq (pc := 5) (tgt := 34) hx hb dX10_round_5 (by decide) (fun c5 => ?_) (fun c5 => ?_)
  · refine lv_iconst (pc := 34) (v := jI (-1)) hx hb dX10_round_34 (by decide) ?_
    exact hret 35 _ hP hS dX10_round_35 rfl rfl ⟨(by (repeat' split) <;> first | (exfalso; omega) | rfl), sl, rw, be, rfl, tEnd.rf hsb⟩
  · refine lv_iload_n (pc := 8) hx hb dX10_round_8 rfl (lv_at hl 2 rfl) ?_
    refine lv_i2l (pc := 9) (v := jL z2) hx hb dX10_round_9 (i2l_j hz2) ?_
    refine lv_lconst (pc := 10) (v := jL 1) hx hb dX10_round_10 (by decide) ?_
    refine lv_ldc2 (pc := 11) (v := jL 5) hx hb hown (hts (.constantLong RX10 237 (jL 5)) (by decide +kernel)) dX10_round_11 ?_
    refine ci_Sd (pc := 14) hF hN hK hP hV hS hA (k_X10_in l D cI cC cB cS z2 1 5 (by omega)) (va_cwS 3 hts gX10_round_X10_in rfl rfl rfl (by decide +kernel) ⟨Nat.le_of_ble_eq_true rfl, Nat.le_of_ble_eq_true rfl⟩) [] rfl (by decide) rfl hl.1 rfl (Nat.le_of_ble_eq_true rfl) dX10_round_14 ⟨Nat.le_refl _, Nat.le_refl _⟩ rfl (ws2 := [rmE o ad (pCells P) P.2.2.2.1 P.2.2.2.2.2.1 P.2.2.2.2.2.2 I, nE 384 (ad 25) cI sl, nE 3 (ad 9) cI wa, nE 3 (ad 10) cI ir, zE 5 (ad 40) cI rw, zE 5 (ad 41) cI be]) rfl (fun H locs hP hS => ?_)
    refine rb_eq (pc := 17) (tgt := 34) hx hb dX10_round_17 (by decide) (fun c17 => ?_) (fun c17 => ?_)
    · refine lv_iconst (pc := 34) (v := jI (-1)) hx hb dX10_round_34 (by decide) ?_
      exact hret 35 _ hP hS dX10_round_35 rfl rfl ⟨(by (repeat' split) <;> first | (exfalso; omega) | rfl), sl, rw, be, rfl, tEnd.rf hsb⟩
    · refine lv_iload_n (pc := 20) hx hb dX10_round_20 rfl (lv_at hl 3 rfl) ?_
      refine lv_i2l (pc := 21) (v := jL z3) hx hb dX10_round_21 (i2l_j hz3) ?_
      refine lv_ldc2 (pc := 22) (v := jL (-1)) hx hb hown (hts (.constantLong RX10 279 (jL (-1))) (by decide +kernel)) dX10_round_22 ?_
      refine lv_ldc2 (pc := 25) (v := jL 4) hx hb hown (hts (.constantLong RX10 242 (jL 4)) (by decide +kernel)) dX10_round_25 ?_
      refine ci_Sd (pc := 28) hF hN hK hP hV hS hA (k_X10_in l D cI cC cB cS z3 (-1) 4 (by omega)) (va_cwS 3 hts gX10_round_X10_in rfl rfl rfl (by decide +kernel) ⟨Nat.le_of_ble_eq_true rfl, Nat.le_of_ble_eq_true rfl⟩) [] rfl (by decide) rfl hl.1 rfl (Nat.le_of_ble_eq_true rfl) dX10_round_28 ⟨Nat.le_refl _, Nat.le_refl _⟩ rfl (ws2 := [rmE o ad (pCells P) P.2.2.2.1 P.2.2.2.2.2.1 P.2.2.2.2.2.2 I, nE 384 (ad 25) cI sl, nE 3 (ad 9) cI wa, nE 3 (ad 10) cI ir, zE 5 (ad 40) cI rw, zE 5 (ad 41) cI be]) rfl (fun H locs hP hS => ?_)
      refine rb_ne (pc := 31) (tgt := 36) hx hb dX10_round_31 (by decide) (fun c31 => ?_) (fun c31 => ?_)
      · obtain ⟨mm, rfl⟩ : ∃ k : Nat, z1 = k := ⟨z1.toNat, by omega⟩
        obtain rfl : x1 = nI mm := eq_nI hz1
        obtain ⟨n, rfl⟩ : ∃ k : Nat, z2 = k := ⟨z2.toNat, by omega⟩
        obtain rfl : x2 = nI n := eq_nI hz2
        have hle := rF_le hf0 (show mm < 3 by omega)
        have hlek := hst.2.1 mm
        have hplk := hst.2.2.1 mm
        have hmmx : mm < P.2.2.2.2.2.2 := by omega
        have h5n : 5 ^ n ≤ 3125 := Nat.pow_le_pow_right (n := 5) (j := 5) (by omega) (by omega)
        refine lv_aload_n (pc := 36) hx hb dX10_round_36 rfl (lv_at hl 0 rfl) ?_
        refine va_get (pc := 37) (D := D) (ci := 10) (v := .ref (ad 25)) (C := RX10) (T := TX10) (N := 44) hx hb hts hiX10 hown hK hP 0 rfl rfl 25 (by decide) wf61 (fun _ h9 => h9) rfl dX10_round_37 ?_
        refine lv_bipush (pc := 40) (v := nI 24) hx hb dX10_round_40 (by decide) ?_
        refine lv_iload_n (pc := 42) hx hb dX10_round_42 rfl (lv_at hl 1 rfl) ?_
        refine rn_iadd (pc := 43) hx hb dX10_round_43 ?_
        refine ra_iald (pc := 44) (k := 24 + mm) (v := nI (sl (24 + mm))) hx hb hK hP 1 0 rfl rfl (by omega) (by decide) rfl dX10_round_44 ?_
        refine lv_iload_n (pc := 45) hx hb dX10_round_45 rfl (lv_at hl 2 rfl) ?_
        refine rc_ge (pc := 46) (tgt := 52) hx hb (tI_nI (by omega)) (tI_nI (by omega)) dX10_round_46 (by decide) (fun c46 => ?_) (fun c46 => ?_)
        · refine lv_iconst (pc := 52) (v := nI 1) hx hb dX10_round_52 (by decide) ?_
          refine lv_istore (pc := 53) (lv' := [(4, .int (nI 1)), (0, .ref o), (1, .int (nI mm)), (2, .int (nI n)), (3, .int (x3))]) hx hb dX10_round_53 hl (by decide) rfl (fun ls hl => ?_)
          refine lv_iconst (pc := 55) (v := nI 0) hx hb dX10_round_55 (by decide) ?_
          refine lv_istore (pc := 56) (lv' := [(5, .int (nI 0)), (4, .int (nI 1)), (0, .ref o), (1, .int (nI mm)), (2, .int (nI n)), (3, .int (x3))]) hx hb dX10_round_56 hl (by decide) rfl (fun ls hl => ?_)
          have cut58 : ∀ (fuel : Nat) (q : Nat) (H : Heap) (locs : List Loc) (ls : Array Slot) (hq : q ≤ n) (hfu : n - q < fuel), va_P D vwCl ([rmE o ad (pCells P) P.2.2.2.1 P.2.2.2.2.2.1 P.2.2.2.2.2.2 I, nE 384 (ad 25) cI sl, nE 3 (ad 9) cI wa, nE 3 (ad 10) cI ir, zE 5 (ad 40) cI rw, zE 5 (ad 41) cI be]) H → va_S A s.heap H locs → lv_has ls 13 [(5, .int (nI q)), (4, .int (nI (5 ^ q))), (3, .int (x3)), (2, .int (nI n)), (1, .int (nI mm)), (0, .ref o)] → W p l e rmX10_round s m args below meth c H locs 0 0 QF (F0 m 58 ls []) := by
            intro fuel
            induction fuel with
            | zero => intro q H locs ls hq hfu; omega
            | succ fuel ih58 =>
              intro q H locs ls hq hfu hP hS hl
              refine lv_iload (pc := 58) hx hb dX10_round_58 (lv_at hl 0 rfl) ?_
              refine lv_iload_n (pc := 60) hx hb dX10_round_60 rfl (lv_at hl 3 rfl) ?_
              refine rc_ge (pc := 61) (tgt := 76) hx hb (tI_nI (by omega)) (tI_nI (by omega)) dX10_round_61 (by decide) (fun c61 => ?_) (fun c61 => ?_)
              · have hqn : q = n := by omega
                rw [hqn] at hl
                refine lv_bipush (pc := 76) (v := jI (-4)) hx hb dX10_round_76 (by decide) ?_
                refine lv_istore (pc := 78) (lv' := [(5, .int (jI (-4))), (4, .int (nI (5 ^ n))), (3, .int (x3)), (2, .int (nI n)), (1, .int (nI mm)), (0, .ref o)]) hx hb dX10_round_78 hl (by decide) rfl (fun ls hl => ?_)
                refine lv_iconst (pc := 80) (v := nI 0) hx hb dX10_round_80 (by decide) ?_
                refine lv_istore (pc := 81) (lv' := [(6, .int (nI 0)), (5, .int (jI (-4))), (4, .int (nI (5 ^ n))), (3, .int (x3)), (2, .int (nI n)), (1, .int (nI mm)), (0, .ref o)]) hx hb dX10_round_81 hl (by decide) rfl (fun ls hl => ?_)
                have cut83 : ∀ (fuel : Nat) (cq : Nat) (g : Int) (bb : Nat → Int) (rr : Nat → Int) (f : Nat → Nat) (H : Heap) (locs : List Loc) (ls : Array Slot) (hc5 : cq ≤ 5 ^ n) (hg : g = (bstQ P S mm n cq).1) (hbb : 0 ≤ g → ∀ j, j < n → bb j = (bstQ P S mm n cq).2 j) (hE : tEnd sl f) (hfu : 5 ^ n - cq < fuel), va_P D vwCl ([rmE o ad (pCells P) P.2.2.2.1 P.2.2.2.2.2.1 P.2.2.2.2.2.2 I, nE 384 (ad 25) cI f, nE 3 (ad 9) cI wa, nE 3 (ad 10) cI ir, zE 5 (ad 40) cI rr, zE 5 (ad 41) cI bb]) H → va_S A s.heap H locs → lv_has ls 13 [(6, .int (nI cq)), (5, .int (jI g)), (4, .int (nI (5 ^ n))), (3, .int (x3)), (2, .int (nI n)), (1, .int (nI mm)), (0, .ref o)] → W p l e rmX10_round s m args below meth c H locs 0 0 QF (F0 m 83 ls []) := by
                  intro fuel
                  induction fuel with
                  | zero => intro cq g bb rr f H locs ls hc5 hg hbb hE hfu; omega
                  | succ fuel ih83 =>
                    intro cq g bb rr f H locs ls hc5 hg hbb hE hfu hP hS hl
                    have hgr := bstQ_rng (mm := mm) (n := n) hst hplk cq
                    rw [← hg] at hgr
                    have hfF := hE.rF hp7 hf0
                    have hfB := hE.sB hsb
                    refine lv_iload (pc := 83) hx hb dX10_round_83 (lv_at hl 0 rfl) ?_
                    refine lv_iload (pc := 85) hx hb dX10_round_85 (lv_at hl 2 rfl) ?_
                    refine rc_ge (pc := 87) (tgt := 253) hx hb (tI_nI (by omega)) (tI_nI (by omega)) dX10_round_87 (by decide) (fun c87 => ?_) (fun c87 => ?_)
                    · refine lv_iload_n (pc := 253) hx hb dX10_round_253 rfl (lv_at hl 3 rfl) ?_
                      refine r0_ge (pc := 254) (tgt := 262) hx hb hz3 dX10_round_254 (by decide) (fun c254 => ?_) (fun c254 => ?_)
                      · refine lv_iload_n (pc := 262) hx hb dX10_round_262 rfl (lv_at hl 3 rfl) ?_
                        refine lv_iload_n (pc := 263) hx hb dX10_round_263 rfl (lv_at hl 4 rfl) ?_
                        refine rc_ge (pc := 264) (tgt := 276) hx hb hz3 (tI_nI (by omega)) dX10_round_264 (by decide) (fun c264 => ?_) (fun c264 => ?_)
                        · refine lv_bipush (pc := 276) (v := jI (-4)) hx hb dX10_round_276 (by decide) ?_
                          exact hret 278 _ hP hS dX10_round_278 rfl rfl ⟨(by have hcn : cq = 5 ^ n := (by omega); rw [hcn] at hg hbb; rw [if_pos (by omega), if_neg (by rw [Int.toNat_natCast]; omega), if_neg (by omega), if_neg (by omega)]), f, rr, bb, rfl, hE⟩
                        · obtain ⟨k3, rfl⟩ : ∃ k : Nat, z3 = k := ⟨z3.toNat, by omega⟩
                          obtain rfl : x3 = nI k3 := eq_nI hz3
                          have h5p := Nat.pow_pos (n := n) (show 0 < 5 by omega)
                          refine lv_aload_n (pc := 267) hx hb dX10_round_267 rfl (lv_at hl 6 rfl) ?_
                          refine va_get (pc := 268) (D := D) (ci := 10) (v := .ref (ad 41)) (C := RX10) (T := TX10) (N := 44) hx hb hts hiX10 hown hK hP 0 rfl rfl 41 (by decide) wf86 (fun _ h9 => h9) rfl dX10_round_268 ?_
                          refine lv_iload_n (pc := 271) hx hb dX10_round_271 rfl (lv_at hl 3 rfl) ?_
                          refine ra_iald (pc := 272) (k := k3) (v := jI (bb k3)) hx hb hK hP 5 0 rfl rfl (by omega) (by decide) rfl dX10_round_272 ?_
                          refine lv_goto (pc := 273) (tgt := 278) hx hb dX10_round_273 (by decide) ?_
                          exact hret 278 _ hP hS dX10_round_278 rfl rfl ⟨(by have hcn : cq = 5 ^ n := (by omega); rw [hcn] at hg hbb; rw [if_pos (by omega), if_neg (by rw [Int.toNat_natCast]; omega), if_neg (by omega), if_pos (by omega), Int.toNat_natCast, Int.toNat_natCast, Int.toNat_natCast, hbb (by rw [hg, show 5 ^ n = (5 ^ n - 1) + 1 by omega]; exact bst_pos hplk _) k3 (by omega)]), f, rr, bb, rfl, hE⟩
                      · refine lv_iload (pc := 257) hx hb dX10_round_257 (lv_at hl 1 rfl) ?_
                        refine lv_goto (pc := 259) (tgt := 278) hx hb dX10_round_259 (by decide) ?_
                        exact hret 278 _ hP hS dX10_round_278 rfl rfl ⟨(by have hcn : cq = 5 ^ n := (by omega); rw [hcn] at hg hbb; rw [if_pos (by omega), if_neg (by rw [Int.toNat_natCast]; omega), if_pos (by omega), Int.toNat_natCast, Int.toNat_natCast, hg]), f, rr, bb, rfl, hE⟩
                    · refine lv_iload (pc := 90) hx hb dX10_round_90 (lv_at hl 0 rfl) ?_
                      refine r_top (show _ = nI (cq % 5 ^ (n - 0)) from (by rw [Nat.sub_zero, Nat.mod_eq_of_lt (by omega)])) ?_
                      refine lv_istore (pc := 92) (lv' := [(7, .int (nI (cq % 5 ^ (n - 0)))), (6, .int (nI cq)), (5, .int (jI g)), (4, .int (nI (5 ^ n))), (3, .int (x3)), (2, .int (nI n)), (1, .int (nI mm)), (0, .ref o)]) hx hb dX10_round_92 hl (by decide) rfl (fun ls hl => ?_)
                      refine lv_iload (pc := 94) hx hb dX10_round_94 (lv_at hl 3 rfl) ?_
                      refine lv_istore (pc := 96) (lv' := [(8, .int (nI (5 ^ n))), (7, .int (nI (cq % 5 ^ (n - 0)))), (6, .int (nI cq)), (5, .int (jI g)), (4, .int (nI (5 ^ n))), (3, .int (x3)), (2, .int (nI n)), (1, .int (nI mm)), (0, .ref o)]) hx hb dX10_round_96 hl (by decide) rfl (fun ls hl => ?_)
                      refine lv_aload_n (pc := 98) hx hb dX10_round_98 rfl (lv_at hl 8 rfl) ?_
                      refine va_get (pc := 99) (D := D) (ci := 10) (v := .ref (ad 25)) (C := RX10) (T := TX10) (N := 44) hx hb hts hiX10 hown hK hP 0 rfl rfl 25 (by decide) wf61 (fun _ h9 => h9) rfl dX10_round_99 ?_
                      refine lv_bipush (pc := 102) (v := nI 27) hx hb dX10_round_102 (by decide) ?_
                      refine lv_iload_n (pc := 104) hx hb dX10_round_104 rfl (lv_at hl 7 rfl) ?_
                      refine rn_iadd (pc := 105) hx hb dX10_round_105 ?_
                      refine ra_iald (pc := 106) (k := 27 + mm) (v := nI (f (27 + mm))) hx hb hK hP 1 0 rfl rfl (by omega) (by decide) rfl dX10_round_106 ?_
                      refine r_top (show _ = jI (hrQ P (S.2.2.1 mm) n cq 0) from (by show nI (f (27 + mm)) = jI ((S.2.2.1 mm : Nat) : Int); rw [rF_pl hfF hmmx]; exact jI_nat _)) ?_
                      refine lv_istore (pc := 107) (lv' := [(9, .int (jI (hrQ P (S.2.2.1 mm) n cq 0))), (8, .int (nI (5 ^ n))), (7, .int (nI (cq % 5 ^ (n - 0)))), (6, .int (nI cq)), (5, .int (jI g)), (4, .int (nI (5 ^ n))), (3, .int (x3)), (2, .int (nI n)), (1, .int (nI mm)), (0, .ref o)]) hx hb dX10_round_107 hl (by decide) rfl (fun ls hl => ?_)
                      refine lv_iconst (pc := 109) (v := nI 1) hx hb dX10_round_109 (by decide) ?_
                      refine r_top (show _ = nI (if 0 ≤ hrQ P (S.2.2.1 mm) n cq 0 then 1 else 0) from by rw [if_pos (show 0 ≤ hrQ P (S.2.2.1 mm) n cq 0 from Int.natCast_nonneg _)]) ?_
                      refine lv_istore (pc := 110) (lv' := [(10, .int (nI (if 0 ≤ hrQ P (S.2.2.1 mm) n cq 0 then 1 else 0))), (9, .int (jI (hrQ P (S.2.2.1 mm) n cq 0))), (8, .int (nI (5 ^ n))), (7, .int (nI (cq % 5 ^ (n - 0)))), (6, .int (nI cq)), (5, .int (jI g)), (4, .int (nI (5 ^ n))), (3, .int (x3)), (2, .int (nI n)), (1, .int (nI mm)), (0, .ref o)]) hx hb dX10_round_110 hl (by decide) rfl (fun ls hl => ?_)
                      refine lv_iconst (pc := 112) (v := nI 0) hx hb dX10_round_112 (by decide) ?_
                      refine lv_istore (pc := 113) (lv' := [(11, .int (nI 0)), (10, .int (nI (if 0 ≤ hrQ P (S.2.2.1 mm) n cq 0 then 1 else 0))), (9, .int (jI (hrQ P (S.2.2.1 mm) n cq 0))), (8, .int (nI (5 ^ n))), (7, .int (nI (cq % 5 ^ (n - 0)))), (6, .int (nI cq)), (5, .int (jI g)), (4, .int (nI (5 ^ n))), (3, .int (x3)), (2, .int (nI n)), (1, .int (nI mm)), (0, .ref o)]) hx hb dX10_round_113 hl (by decide) rfl (fun ls hl => ?_)
                      have cut115 : ∀ (fuel : Nat) (q : Nat) (rr : Nat → Int) (H : Heap) (locs : List Loc) (ls : Array Slot) (hq : q ≤ n) (hrr : ∀ j, j < q → rr j = hrQ P (S.2.2.1 mm) n cq (j + 1)) (hv3 : ∀ j, j < q → 0 ≤ hrQ P (S.2.2.1 mm) n cq j) (hfu : n - q < fuel), va_P D vwCl ([rmE o ad (pCells P) P.2.2.2.1 P.2.2.2.2.2.1 P.2.2.2.2.2.2 I, nE 384 (ad 25) cI f, nE 3 (ad 9) cI wa, nE 3 (ad 10) cI ir, zE 5 (ad 40) cI rr, zE 5 (ad 41) cI bb]) H → va_S A s.heap H locs → lv_has ls 13 [(11, .int (nI q)), (10, .int (nI (if 0 ≤ hrQ P (S.2.2.1 mm) n cq q then 1 else 0))), (9, .int (jI (hrQ P (S.2.2.1 mm) n cq q))), (8, .int (nI (5 ^ (n - q)))), (7, .int (nI (cq % 5 ^ (n - q)))), (6, .int (nI cq)), (5, .int (jI g)), (4, .int (nI (5 ^ n))), (3, .int (x3)), (2, .int (nI n)), (1, .int (nI mm)), (0, .ref o)] → W p l e rmX10_round s m args below meth c H locs 0 0 QF (F0 m 115 ls []) := by
                        intro fuel
                        induction fuel with
                        | zero => intro q rr H locs ls hq hrr hv3 hfu; omega
                        | succ fuel ih115 =>
                          intro q rr H locs ls hq hrr hv3 hfu hP hS hl
                          have hpq0 : 5 ^ (n - q) ≤ 3125 := Nat.pow_le_pow_right (n := 5) (j := 5) (by omega) (by omega)
                          refine lv_iload (pc := 115) hx hb dX10_round_115 (lv_at hl 0 rfl) ?_
                          refine lv_iload_n (pc := 117) hx hb dX10_round_117 rfl (lv_at hl 9 rfl) ?_
                          refine rc_ge (pc := 118) (tgt := 179) hx hb (tI_nI (by omega)) (tI_nI (by omega)) dX10_round_118 (by decide) (fun c118 => ?_) (fun c118 => ?_)
                          · refine lv_iload (pc := 179) hx hb dX10_round_179 (lv_at hl 1 rfl) ?_
                            refine rb_eq (pc := 181) (tgt := 193) hx hb dX10_round_181 (by decide) (fun c181 => ?_) (fun c181 => ?_)
                            · have hnok : ¬ okQ P (S.2.2.1 mm) n cq := fun q9 => by
                                have hq1 : 1 ≤ q := by rcases Nat.eq_zero_or_pos q with e0 | e0; (subst e0; exact absurd (Int.natCast_nonneg _) c181); exact e0
                                have := q9 (q - 1) (by omega)
                                have h2 : 0 ≤ hrQ P (S.2.2.1 mm) n cq (q - 1 + 1) := this
                                rw [show q - 1 + 1 = q by omega] at h2
                                exact c181 h2
                              refine lv_bipush (pc := 193) (v := jI (-4)) hx hb dX10_round_193 (by decide) ?_
                              refine lv_istore (pc := 195) (lv' := [(11, .int (jI (-4))), (10, .int (nI (if 0 ≤ hrQ P (S.2.2.1 mm) n cq q then 1 else 0))), (9, .int (jI (hrQ P (S.2.2.1 mm) n cq q))), (8, .int (nI (5 ^ (n - q)))), (7, .int (nI (cq % 5 ^ (n - q)))), (6, .int (nI cq)), (5, .int (jI g)), (4, .int (nI (5 ^ n))), (3, .int (x3)), (2, .int (nI n)), (1, .int (nI mm)), (0, .ref o)]) hx hb dX10_round_195 hl (by decide) rfl (fun ls hl => ?_)
                              refine lv_iload (pc := 197) hx hb dX10_round_197 (lv_at hl 0 rfl) ?_
                              refine r0_lt (pc := 199) (tgt := 247) hx hb (jI_to (by omega)) dX10_round_199 (by decide) (fun c199 => ?_) (fun c199 => (by omega))
                              refine lv_iinc (pc := 247) (v := nI (cq + 1)) (lv' := [(6, .int (nI (cq + 1))), (11, .int (jI (-4))), (10, .int (nI (if 0 ≤ hrQ P (S.2.2.1 mm) n cq q then 1 else 0))), (9, .int (jI (hrQ P (S.2.2.1 mm) n cq q))), (8, .int (nI (5 ^ (n - q)))), (7, .int (nI (cq % 5 ^ (n - q)))), (5, .int (jI g)), (4, .int (nI (5 ^ n))), (3, .int (x3)), (2, .int (nI n)), (1, .int (nI mm)), (0, .ref o)]) hx hb dX10_round_247 hl (k := 5) rfl (by rw [← nI_add]; rfl) (by decide) rfl (fun ls hl => ?_)
                              refine lv_goto (pc := 250) (tgt := 83) hx hb dX10_round_250 (by decide) ?_
                              exact ih83 (cq + 1) g bb rr f _ _ _ (by omega) (by rw [bstQ, if_neg (fun q9 => hnok q9.1)]; exact hg) (by rw [bstQ, if_neg (fun q9 => hnok q9.1)]; exact hbb) hE (by omega) hP hS (lv_sub hl [0, 6, 7, 8, 9, 10, 11] rfl)
                            · have hqn : q = n := by omega
                              rw [hqn] at hrr hv3 c181
                              have hokc : okQ P (S.2.2.1 mm) n cq := fun j hj => by
                                show 0 ≤ hrQ P (S.2.2.1 mm) n cq (j + 1)
                                by_cases e0 : j + 1 = n
                                · rw [e0]; exact c181
                                · exact hv3 (j + 1) (by omega)
                              have hcg : ∀ k, k ≤ n → stS P S mm rr k = stS P S mm (rowQ P (S.2.2.1 mm) n cq) k := fun k hk => stS_congr k (fun j hj => hrr j (by omega))
                              have hsq : nSum (stS P S mm rr n).1 24 = sumQ P S mm n cq := by unfold sumQ; rw [hcg n (Nat.le_refl _)]
                              have hsb9 := stS_sum (mm := mm) (n := n) hst (a := rr) (fun k hk => by rw [hrr k hk]; exact (stQ hokc hplk (by omega) k hk).1)
                              refine lv_aload_n (pc := 184) hx hb dX10_round_184 rfl (lv_at hl 11 rfl) ?_
                              refine lv_iload_n (pc := 185) hx hb dX10_round_185 rfl (lv_at hl 10 rfl) ?_
                              refine lv_iload_n (pc := 186) hx hb dX10_round_186 rfl (lv_at hl 9 rfl) ?_
                              refine ci_V (pc := 187) hF hN hK hP hV hS hA (k_X10_stands l D cI cC cB cS o ad P I f wa ir rr mm n S ms hpk hst hm hfF hfB hir hwa hx2 hmmx (by omega) (fun k hk => by rw [hcg k (by omega), hrr k hk]; exact stQ hokc hplk (by omega) k hk)) (cwV 2 hts gX10_round_X10_stands rfl rfl rfl (by decide +kernel) ⟨Nat.le_of_ble_eq_true rfl, Nat.le_of_ble_eq_true rfl⟩) [0, 1, 2, 3, 4] rfl (by decide) 0 10 rfl rfl rfl hl.1 rfl (Nat.le_of_ble_eq_true rfl) dX10_round_187 ⟨Nat.le_refl _, Nat.le_refl _⟩ rfl (fun r u H locs hq hu hP hS => ?_)
                              obtain ⟨rfl, f2, rfl, hE2⟩ := hq
                              have hP : va_P D vwCl ([rmE o ad (pCells P) P.2.2.2.1 P.2.2.2.2.2.1 P.2.2.2.2.2.2 I, nE 384 (ad 25) cI f2, nE 3 (ad 9) cI wa, nE 3 (ad 10) cI ir, zE 5 (ad 40) cI rr, zE 5 (ad 41) cI bb]) H := hP
                              refine lv_goto (pc := 190) (tgt := 195) hx hb dX10_round_190 (by decide) ?_
                              refine lv_istore (pc := 195) (lv' := [(11, .int (nI (nSum (stS P S mm rr n).1 24))), (10, .int (nI (if 0 ≤ hrQ P (S.2.2.1 mm) n cq q then 1 else 0))), (9, .int (jI (hrQ P (S.2.2.1 mm) n cq q))), (8, .int (nI (5 ^ (n - q)))), (7, .int (nI (cq % 5 ^ (n - q)))), (6, .int (nI cq)), (5, .int (jI g)), (4, .int (nI (5 ^ n))), (3, .int (x3)), (2, .int (nI n)), (1, .int (nI mm)), (0, .ref o)]) hx hb dX10_round_195 hl (by decide) rfl (fun ls hl => ?_)
                              refine lv_iload (pc := 197) hx hb dX10_round_197 (lv_at hl 0 rfl) ?_
                              refine r0_lt (pc := 199) (tgt := 247) hx hb (tI_nI (by omega)) dX10_round_199 (by decide) (fun c199 => ?_) (fun c199 => ?_)
                              · exfalso; omega
                              · have cut221 : ∀ (fuel : Nat) (q2 : Nat) (b3 : Nat → Int) (H : Heap) (locs : List Loc) (ls : Array Slot) (hq2 : q2 ≤ n) (hb3 : ∀ j, j < q2 → b3 j = rr j) (hup : (bstQ P S mm n cq).1 < 0 ∨ (sumQ P S mm n cq : Int) < (bstQ P S mm n cq).1) (hfu : n - q2 < fuel), va_P D vwCl ([rmE o ad (pCells P) P.2.2.2.1 P.2.2.2.2.2.1 P.2.2.2.2.2.2 I, nE 384 (ad 25) cI f2, nE 3 (ad 9) cI wa, nE 3 (ad 10) cI ir, zE 5 (ad 40) cI rr, zE 5 (ad 41) cI b3]) H → va_S A s.heap H locs → lv_has ls 13 [(12, .int (nI q2)), (6, .int (nI cq)), (5, .int (jI ((sumQ P S mm n cq : Nat) : Int))), (4, .int (nI (5 ^ n))), (3, .int (x3)), (2, .int (nI n)), (1, .int (nI mm)), (0, .ref o)] → W p l e rmX10_round s m args below meth c H locs 0 0 QF (F0 m 221 ls []) := by
                                  intro fuel
                                  induction fuel with
                                  | zero => intro q2 b3 H locs ls hq2 hb3 hup hfu; omega
                                  | succ fuel ih221 =>
                                    intro q2 b3 H locs ls hq2 hb3 hup hfu hP hS hl
                                    refine lv_iload (pc := 221) hx hb dX10_round_221 (lv_at hl 0 rfl) ?_
                                    refine lv_iload_n (pc := 223) hx hb dX10_round_223 rfl (lv_at hl 5 rfl) ?_
                                    refine rc_ge (pc := 224) (tgt := 247) hx hb (tI_nI (by omega)) (tI_nI (by omega)) dX10_round_224 (by decide) (fun c224 => ?_) (fun c224 => ?_)
                                    · refine lv_iinc (pc := 247) (v := nI (cq + 1)) (lv' := [(6, .int (nI (cq + 1))), (12, .int (nI q2)), (5, .int (jI ((sumQ P S mm n cq : Nat) : Int))), (4, .int (nI (5 ^ n))), (3, .int (x3)), (2, .int (nI n)), (1, .int (nI mm)), (0, .ref o)]) hx hb dX10_round_247 hl (k := 1) rfl (by rw [← nI_add]; rfl) (by decide) rfl (fun ls hl => ?_)
                                      refine lv_goto (pc := 250) (tgt := 83) hx hb dX10_round_250 (by decide) ?_
                                      exact ih83 (cq + 1) ((sumQ P S mm n cq : Nat) : Int) b3 rr f2 _ _ _ (by omega) (by rw [bstQ, if_pos ⟨hokc, hup⟩]) (by rw [bstQ, if_pos ⟨hokc, hup⟩]; intro _ j hj; show b3 j = hrQ P (S.2.2.1 mm) n cq (j + 1); rw [hb3 j (by omega), hrr j (by omega)]) (tEnd.tr hE hE2) (by omega) hP hS (lv_sub hl [0, 2, 3, 4, 5, 6, 7] rfl)
                                    · refine lv_aload_n (pc := 227) hx hb dX10_round_227 rfl (lv_at hl 7 rfl) ?_
                                      refine va_get (pc := 228) (D := D) (ci := 10) (v := .ref (ad 41)) (C := RX10) (T := TX10) (N := 44) hx hb hts hiX10 hown hK hP 0 rfl rfl 41 (by decide) wf86 (fun _ h9 => h9) rfl dX10_round_228 ?_
                                      refine lv_iload (pc := 231) hx hb dX10_round_231 (lv_at hl 0 rfl) ?_
                                      refine lv_aload_n (pc := 233) hx hb dX10_round_233 rfl (lv_at hl 7 rfl) ?_
                                      refine va_get (pc := 234) (D := D) (ci := 10) (v := .ref (ad 40)) (C := RX10) (T := TX10) (N := 44) hx hb hts hiX10 hown hK hP 0 rfl rfl 40 (by decide) wf83 (fun _ h9 => h9) rfl dX10_round_234 ?_
                                      refine lv_iload (pc := 237) hx hb dX10_round_237 (lv_at hl 0 rfl) ?_
                                      refine ra_iald (pc := 239) (k := q2) (v := jI (rr q2)) hx hb hK hP 4 0 rfl rfl (by omega) (by decide) rfl dX10_round_239 ?_
                                      refine rz_iast (pc := 240) (f := b3) (k := q2) (x := rr q2) (ws2 := [rmE o ad (pCells P) P.2.2.2.1 P.2.2.2.2.2.1 P.2.2.2.2.2.2 I, nE 384 (ad 25) cI f2, nE 3 (ad 9) cI wa, nE 3 (ad 10) cI ir, zE 5 (ad 40) cI rr, zE 5 (ad 41) cI (va_up b3 q2 (rr q2))]) hx hb hK hP hV hS 5 0 rfl rfl (by omega) (by decide) dX10_round_240 rfl rfl rfl (fun H locs hP hS => ?_)
                                      refine lv_iinc (pc := 241) (v := nI (q2 + 1)) (lv' := [(12, .int (nI (q2 + 1))), (6, .int (nI cq)), (5, .int (jI ((sumQ P S mm n cq : Nat) : Int))), (4, .int (nI (5 ^ n))), (3, .int (x3)), (2, .int (nI n)), (1, .int (nI mm)), (0, .ref o)]) hx hb dX10_round_241 hl (k := 0) rfl (by rw [← nI_add]; rfl) (by decide) rfl (fun ls hl => ?_)
                                      refine lv_goto (pc := 244) (tgt := 221) hx hb dX10_round_244 (by decide) ?_
                                      exact ih221 (q2 + 1) (va_up b3 q2 (rr q2)) _ _ _ (by omega) (rowst hb3) hup (by omega) hP hS (lv_sub hl [0, 1, 2, 3, 4, 5, 6, 7] rfl)
                                refine lv_iload (pc := 202) hx hb dX10_round_202 (lv_at hl 6 rfl) ?_
                                refine r0_lt (pc := 204) (tgt := 214) hx hb (jI_to (by omega)) dX10_round_204 (by decide) (fun c204 => ?_) (fun c204 => ?_)
                                · refine lv_iload (pc := 214) hx hb dX10_round_214 (lv_at hl 0 rfl) ?_
                                  refine r_top (show _ = jI (((sumQ P S mm n cq : Nat) : Int)) from (by rw [hsq]; exact jI_nat _)) ?_
                                  refine lv_istore (pc := 216) (lv' := [(5, .int (jI ((sumQ P S mm n cq : Nat) : Int))), (11, .int (nI (nSum (stS P S mm rr n).1 24))), (10, .int (nI (if 0 ≤ hrQ P (S.2.2.1 mm) n cq q then 1 else 0))), (9, .int (jI (hrQ P (S.2.2.1 mm) n cq q))), (8, .int (nI (5 ^ (n - q)))), (7, .int (nI (cq % 5 ^ (n - q)))), (6, .int (nI cq)), (4, .int (nI (5 ^ n))), (3, .int (x3)), (2, .int (nI n)), (1, .int (nI mm)), (0, .ref o)]) hx hb dX10_round_216 hl (by decide) rfl (fun ls hl => ?_)
                                  refine lv_iconst (pc := 218) (v := nI 0) hx hb dX10_round_218 (by decide) ?_
                                  refine lv_istore (pc := 219) (lv' := [(12, .int (nI 0)), (5, .int (jI ((sumQ P S mm n cq : Nat) : Int))), (11, .int (nI (nSum (stS P S mm rr n).1 24))), (10, .int (nI (if 0 ≤ hrQ P (S.2.2.1 mm) n cq q then 1 else 0))), (9, .int (jI (hrQ P (S.2.2.1 mm) n cq q))), (8, .int (nI (5 ^ (n - q)))), (7, .int (nI (cq % 5 ^ (n - q)))), (6, .int (nI cq)), (4, .int (nI (5 ^ n))), (3, .int (x3)), (2, .int (nI n)), (1, .int (nI mm)), (0, .ref o)]) hx hb dX10_round_219 hl (by decide) rfl (fun ls hl => ?_)
                                  exact cut221 _ 0 bb _ _ _ (Nat.zero_le _) (fun j hj => absurd hj (Nat.not_lt_zero j)) (by omega) (Nat.lt_succ_self _) hP hS (lv_sub hl [0, 7, 1, 8, 9, 10, 11, 12] rfl)
                                · refine lv_iload (pc := 207) hx hb dX10_round_207 (lv_at hl 0 rfl) ?_
                                  refine lv_iload (pc := 209) hx hb dX10_round_209 (lv_at hl 6 rfl) ?_
                                  refine rc_ge (pc := 211) (tgt := 247) hx hb (tI_nI (by omega)) (jI_to (by omega)) dX10_round_211 (by decide) (fun c211 => ?_) (fun c211 => ?_)
                                  · refine lv_iinc (pc := 247) (v := nI (cq + 1)) (lv' := [(6, .int (nI (cq + 1))), (11, .int (nI (nSum (stS P S mm rr n).1 24))), (10, .int (nI (if 0 ≤ hrQ P (S.2.2.1 mm) n cq q then 1 else 0))), (9, .int (jI (hrQ P (S.2.2.1 mm) n cq q))), (8, .int (nI (5 ^ (n - q)))), (7, .int (nI (cq % 5 ^ (n - q)))), (5, .int (jI g)), (4, .int (nI (5 ^ n))), (3, .int (x3)), (2, .int (nI n)), (1, .int (nI mm)), (0, .ref o)]) hx hb dX10_round_247 hl (k := 5) rfl (by rw [← nI_add]; rfl) (by decide) rfl (fun ls hl => ?_)
                                    refine lv_goto (pc := 250) (tgt := 83) hx hb dX10_round_250 (by decide) ?_
                                    exact ih83 (cq + 1) g bb rr f2 _ _ _ (by omega) (by rw [bstQ, if_neg (fun q9 => by have := q9.2; omega)]; exact hg) (by rw [bstQ, if_neg (fun q9 => by have := q9.2; omega)]; exact hbb) (tEnd.tr hE hE2) (by omega) hP hS (lv_sub hl [0, 6, 7, 8, 9, 10, 11] rfl)
                                  · refine lv_iload (pc := 214) hx hb dX10_round_214 (lv_at hl 0 rfl) ?_
                                    refine r_top (show _ = jI (((sumQ P S mm n cq : Nat) : Int)) from (by rw [hsq]; exact jI_nat _)) ?_
                                    refine lv_istore (pc := 216) (lv' := [(5, .int (jI ((sumQ P S mm n cq : Nat) : Int))), (11, .int (nI (nSum (stS P S mm rr n).1 24))), (10, .int (nI (if 0 ≤ hrQ P (S.2.2.1 mm) n cq q then 1 else 0))), (9, .int (jI (hrQ P (S.2.2.1 mm) n cq q))), (8, .int (nI (5 ^ (n - q)))), (7, .int (nI (cq % 5 ^ (n - q)))), (6, .int (nI cq)), (4, .int (nI (5 ^ n))), (3, .int (x3)), (2, .int (nI n)), (1, .int (nI mm)), (0, .ref o)]) hx hb dX10_round_216 hl (by decide) rfl (fun ls hl => ?_)
                                    refine lv_iconst (pc := 218) (v := nI 0) hx hb dX10_round_218 (by decide) ?_
                                    refine lv_istore (pc := 219) (lv' := [(12, .int (nI 0)), (5, .int (jI ((sumQ P S mm n cq : Nat) : Int))), (11, .int (nI (nSum (stS P S mm rr n).1 24))), (10, .int (nI (if 0 ≤ hrQ P (S.2.2.1 mm) n cq q then 1 else 0))), (9, .int (jI (hrQ P (S.2.2.1 mm) n cq q))), (8, .int (nI (5 ^ (n - q)))), (7, .int (nI (cq % 5 ^ (n - q)))), (6, .int (nI cq)), (4, .int (nI (5 ^ n))), (3, .int (x3)), (2, .int (nI n)), (1, .int (nI mm)), (0, .ref o)]) hx hb dX10_round_219 hl (by decide) rfl (fun ls hl => ?_)
                                    exact cut221 _ 0 bb _ _ _ (Nat.zero_le _) (fun j hj => absurd hj (Nat.not_lt_zero j)) (by omega) (Nat.lt_succ_self _) hP hS (lv_sub hl [0, 7, 1, 8, 9, 10, 11, 12] rfl)
                          · refine lv_iload (pc := 121) hx hb dX10_round_121 (lv_at hl 1 rfl) ?_
                            refine rb_eq (pc := 123) (tgt := 179) hx hb dX10_round_123 (by decide) (fun c123 => ?_) (fun c123 => ?_)
                            · refine lv_iload (pc := 179) hx hb dX10_round_179 (lv_at hl 1 rfl) ?_
                              refine rb_eq (pc := 181) (tgt := 193) hx hb dX10_round_181 (by decide) (fun c181 => ?_) (fun c181 => ?_)
                              · have hnok : ¬ okQ P (S.2.2.1 mm) n cq := fun q9 => by
                                  have hq1 : 1 ≤ q := by rcases Nat.eq_zero_or_pos q with e0 | e0; (subst e0; exact absurd (Int.natCast_nonneg _) c181); exact e0
                                  have := q9 (q - 1) (by omega)
                                  have h2 : 0 ≤ hrQ P (S.2.2.1 mm) n cq (q - 1 + 1) := this
                                  rw [show q - 1 + 1 = q by omega] at h2
                                  exact c181 h2
                                refine lv_bipush (pc := 193) (v := jI (-4)) hx hb dX10_round_193 (by decide) ?_
                                refine lv_istore (pc := 195) (lv' := [(11, .int (jI (-4))), (10, .int (nI (if 0 ≤ hrQ P (S.2.2.1 mm) n cq q then 1 else 0))), (9, .int (jI (hrQ P (S.2.2.1 mm) n cq q))), (8, .int (nI (5 ^ (n - q)))), (7, .int (nI (cq % 5 ^ (n - q)))), (6, .int (nI cq)), (5, .int (jI g)), (4, .int (nI (5 ^ n))), (3, .int (x3)), (2, .int (nI n)), (1, .int (nI mm)), (0, .ref o)]) hx hb dX10_round_195 hl (by decide) rfl (fun ls hl => ?_)
                                refine lv_iload (pc := 197) hx hb dX10_round_197 (lv_at hl 0 rfl) ?_
                                refine r0_lt (pc := 199) (tgt := 247) hx hb (jI_to (by omega)) dX10_round_199 (by decide) (fun c199 => ?_) (fun c199 => (by omega))
                                refine lv_iinc (pc := 247) (v := nI (cq + 1)) (lv' := [(6, .int (nI (cq + 1))), (11, .int (jI (-4))), (10, .int (nI (if 0 ≤ hrQ P (S.2.2.1 mm) n cq q then 1 else 0))), (9, .int (jI (hrQ P (S.2.2.1 mm) n cq q))), (8, .int (nI (5 ^ (n - q)))), (7, .int (nI (cq % 5 ^ (n - q)))), (5, .int (jI g)), (4, .int (nI (5 ^ n))), (3, .int (x3)), (2, .int (nI n)), (1, .int (nI mm)), (0, .ref o)]) hx hb dX10_round_247 hl (k := 5) rfl (by rw [← nI_add]; rfl) (by decide) rfl (fun ls hl => ?_)
                                refine lv_goto (pc := 250) (tgt := 83) hx hb dX10_round_250 (by decide) ?_
                                exact ih83 (cq + 1) g bb rr f _ _ _ (by omega) (by rw [bstQ, if_neg (fun q9 => hnok q9.1)]; exact hg) (by rw [bstQ, if_neg (fun q9 => hnok q9.1)]; exact hbb) hE (by omega) hP hS (lv_sub hl [0, 6, 7, 8, 9, 10, 11] rfl)
                              · exact absurd c181 c123
                            · refine lv_iload (pc := 126) hx hb dX10_round_126 (lv_at hl 3 rfl) ?_
                              refine lv_iconst (pc := 128) (v := nI 5) hx hb dX10_round_128 (by decide) ?_
                              refine rn_idiv (pc := 129) hx hb (by omega) (by omega) dX10_round_129 ?_
                              refine r_top (show _ = nI (5 ^ (n - (q + 1))) from (by rw [dig_div (by omega)])) ?_
                              refine lv_istore (pc := 130) (lv' := [(8, .int (nI (5 ^ (n - (q + 1))))), (11, .int (nI q)), (10, .int (nI (if 0 ≤ hrQ P (S.2.2.1 mm) n cq q then 1 else 0))), (9, .int (jI (hrQ P (S.2.2.1 mm) n cq q))), (7, .int (nI (cq % 5 ^ (n - q)))), (6, .int (nI cq)), (5, .int (jI g)), (4, .int (nI (5 ^ n))), (3, .int (x3)), (2, .int (nI n)), (1, .int (nI mm)), (0, .ref o)]) hx hb dX10_round_130 hl (by decide) rfl (fun ls hl => ?_)
                              refine lv_aload_n (pc := 132) hx hb dX10_round_132 rfl (lv_at hl 11 rfl) ?_
                              refine lv_iload (pc := 133) hx hb dX10_round_133 (lv_at hl 3 rfl) ?_
                              have hrg := hrQ_rng (n := n) (code := cq) hplk q
                              have hdg9 := dig_lt (code := cq) (show q < n by omega)
                              have hpp := Nat.pow_pos (n := n - (q + 1)) (show 0 < 5 by omega)
                              have hml9 := Nat.mod_lt cq (Nat.pow_pos (n := n - q) (show 0 < 5 by omega))
                              have hpq : 5 ^ (n - q) ≤ 3125 := Nat.pow_le_pow_right (n := 5) (j := 5) (by omega) (by omega)
                              have hpq1 : 5 ^ (n - (q + 1)) ≤ 3125 := Nat.pow_le_pow_right (n := 5) (j := 5) (by omega) (by omega)
                              refine r_top (show _ = nI ((hrQ P (S.2.2.1 mm) n cq q).toNat) from (by rw [jI_nat, Int.toNat_of_nonneg c123])) ?_
                              refine lv_iload (pc := 135) hx hb dX10_round_135 (lv_at hl 4 rfl) ?_
                              refine lv_iload (pc := 137) hx hb dX10_round_137 (lv_at hl 0 rfl) ?_
                              refine rn_idiv (pc := 139) hx hb (by omega) (by omega) dX10_round_139 ?_
                              refine ci_Vd (pc := 140) (r0 := jI (optF P ((hrQ P (S.2.2.1 mm) n cq q).toNat) (pCells P) 0 ((cq % 5 ^ (n - q)) / (5 ^ (n - (q + 1)))))) hF hN hK hP hV hS hA (k_X10_option l D cI cC cB cS o ad P I ((hrQ P (S.2.2.1 mm) n cq q).toNat) ((cq % 5 ^ (n - q)) / (5 ^ (n - (q + 1)))) hp (by omega) (by omega)) (cwV 2 hts gX10_round_X10_option rfl rfl rfl (by decide +kernel) ⟨Nat.le_of_ble_eq_true rfl, Nat.le_of_ble_eq_true rfl⟩) [0] rfl (by decide) 0 10 rfl rfl rfl hl.1 rfl (Nat.le_of_ble_eq_true rfl) dX10_round_140 ⟨Nat.le_refl _, Nat.le_refl _⟩ rfl (ws2 := [rmE o ad (pCells P) P.2.2.2.1 P.2.2.2.2.2.1 P.2.2.2.2.2.2 I, nE 384 (ad 25) cI f, nE 3 (ad 9) cI wa, nE 3 (ad 10) cI ir, zE 5 (ad 40) cI rr, zE 5 (ad 41) cI bb]) rfl (fun H locs hP hS => ?_)
                              have fq5 := opt_rng2 P ((hrQ P (S.2.2.1 mm) n cq q).toNat) (pCells P) 0 ((cq % 5 ^ (n - q)) / (5 ^ (n - (q + 1))))
                              refine r_top (show _ = jI (hrQ P (S.2.2.1 mm) n cq (q + 1)) from rfl) ?_
                              refine lv_istore (pc := 143) (lv' := [(9, .int (jI (hrQ P (S.2.2.1 mm) n cq (q + 1)))), (8, .int (nI (5 ^ (n - (q + 1))))), (11, .int (nI q)), (10, .int (nI (if 0 ≤ hrQ P (S.2.2.1 mm) n cq q then 1 else 0))), (7, .int (nI (cq % 5 ^ (n - q)))), (6, .int (nI cq)), (5, .int (jI g)), (4, .int (nI (5 ^ n))), (3, .int (x3)), (2, .int (nI n)), (1, .int (nI mm)), (0, .ref o)]) hx hb dX10_round_143 hl (by decide) rfl (fun ls hl => ?_)
                              refine lv_iload (pc := 145) hx hb dX10_round_145 (lv_at hl 4 rfl) ?_
                              refine lv_iload (pc := 147) hx hb dX10_round_147 (lv_at hl 1 rfl) ?_
                              refine rn_irem (pc := 149) hx hb (by omega) (by omega) dX10_round_149 ?_
                              refine r_top (show _ = nI (cq % 5 ^ (n - (q + 1))) from (by rw [dig_mod (by omega)])) ?_
                              refine lv_istore (pc := 150) (lv' := [(7, .int (nI (cq % 5 ^ (n - (q + 1))))), (9, .int (jI (hrQ P (S.2.2.1 mm) n cq (q + 1)))), (8, .int (nI (5 ^ (n - (q + 1))))), (11, .int (nI q)), (10, .int (nI (if 0 ≤ hrQ P (S.2.2.1 mm) n cq q then 1 else 0))), (6, .int (nI cq)), (5, .int (jI g)), (4, .int (nI (5 ^ n))), (3, .int (x3)), (2, .int (nI n)), (1, .int (nI mm)), (0, .ref o)]) hx hb dX10_round_150 hl (by decide) rfl (fun ls hl => ?_)
                              refine lv_aload_n (pc := 152) hx hb dX10_round_152 rfl (lv_at hl 11 rfl) ?_
                              refine va_get (pc := 153) (D := D) (ci := 10) (v := .ref (ad 40)) (C := RX10) (T := TX10) (N := 44) hx hb hts hiX10 hown hK hP 0 rfl rfl 40 (by decide) wf83 (fun _ h9 => h9) rfl dX10_round_153 ?_
                              refine lv_iload (pc := 156) hx hb dX10_round_156 (lv_at hl 3 rfl) ?_
                              refine lv_iload (pc := 158) hx hb dX10_round_158 (lv_at hl 1 rfl) ?_
                              refine rz_iast (pc := 160) (f := rr) (k := q) (x := hrQ P (S.2.2.1 mm) n cq (q + 1)) (ws2 := [rmE o ad (pCells P) P.2.2.2.1 P.2.2.2.2.2.1 P.2.2.2.2.2.2 I, nE 384 (ad 25) cI f, nE 3 (ad 9) cI wa, nE 3 (ad 10) cI ir, zE 5 (ad 40) cI (va_up rr q (hrQ P (S.2.2.1 mm) n cq (q + 1))), zE 5 (ad 41) cI bb]) hx hb hK hP hV hS 4 0 rfl rfl (by omega) (by decide) dX10_round_160 rfl rfl rfl (fun H locs hP hS => ?_)
                              refine lv_iload (pc := 161) hx hb dX10_round_161 (lv_at hl 1 rfl) ?_
                              have hrg1 := hrQ_rng (n := n) (code := cq) hplk (q + 1)
                              refine r0_lt (pc := 163) (tgt := 170) hx hb (jI_to (by omega)) dX10_round_163 (by decide) (fun c163 => ?_) (fun c163 => ?_)
                              · refine lv_iconst (pc := 170) (v := nI 0) hx hb dX10_round_170 (by decide) ?_
                                refine r_top (show _ = nI (if 0 ≤ hrQ P (S.2.2.1 mm) n cq (q + 1) then 1 else 0) from by rw [if_neg (by omega)]) ?_
                                refine lv_istore (pc := 171) (lv' := [(10, .int (nI (if 0 ≤ hrQ P (S.2.2.1 mm) n cq (q + 1) then 1 else 0))), (7, .int (nI (cq % 5 ^ (n - (q + 1))))), (9, .int (jI (hrQ P (S.2.2.1 mm) n cq (q + 1)))), (8, .int (nI (5 ^ (n - (q + 1))))), (11, .int (nI q)), (6, .int (nI cq)), (5, .int (jI g)), (4, .int (nI (5 ^ n))), (3, .int (x3)), (2, .int (nI n)), (1, .int (nI mm)), (0, .ref o)]) hx hb dX10_round_171 hl (by decide) rfl (fun ls hl => ?_)
                                refine lv_iinc (pc := 173) (v := nI (q + 1)) (lv' := [(11, .int (nI (q + 1))), (10, .int (nI (if 0 ≤ hrQ P (S.2.2.1 mm) n cq (q + 1) then 1 else 0))), (7, .int (nI (cq % 5 ^ (n - (q + 1))))), (9, .int (jI (hrQ P (S.2.2.1 mm) n cq (q + 1)))), (8, .int (nI (5 ^ (n - (q + 1))))), (6, .int (nI cq)), (5, .int (jI g)), (4, .int (nI (5 ^ n))), (3, .int (x3)), (2, .int (nI n)), (1, .int (nI mm)), (0, .ref o)]) hx hb dX10_round_173 hl (k := 4) rfl (by rw [← nI_add]; rfl) (by decide) rfl (fun ls hl => ?_)
                                refine lv_goto (pc := 176) (tgt := 115) hx hb dX10_round_176 (by decide) ?_
                                exact ih115 (q + 1) (va_up rr q (hrQ P (S.2.2.1 mm) n cq (q + 1))) _ _ _ (by omega) (rowst hrr) (va_up_lt0 hv3 c123) (by omega) hP hS (lv_sub hl [0, 1, 3, 4, 2, 5, 6, 7, 8, 9, 10, 11] rfl)
                              · refine lv_iconst (pc := 166) (v := nI 1) hx hb dX10_round_166 (by decide) ?_
                                refine lv_goto (pc := 167) (tgt := 171) hx hb dX10_round_167 (by decide) ?_
                                refine r_top (show _ = nI (if 0 ≤ hrQ P (S.2.2.1 mm) n cq (q + 1) then 1 else 0) from by rw [if_pos (by omega)]) ?_
                                refine lv_istore (pc := 171) (lv' := [(10, .int (nI (if 0 ≤ hrQ P (S.2.2.1 mm) n cq (q + 1) then 1 else 0))), (7, .int (nI (cq % 5 ^ (n - (q + 1))))), (9, .int (jI (hrQ P (S.2.2.1 mm) n cq (q + 1)))), (8, .int (nI (5 ^ (n - (q + 1))))), (11, .int (nI q)), (6, .int (nI cq)), (5, .int (jI g)), (4, .int (nI (5 ^ n))), (3, .int (x3)), (2, .int (nI n)), (1, .int (nI mm)), (0, .ref o)]) hx hb dX10_round_171 hl (by decide) rfl (fun ls hl => ?_)
                                refine lv_iinc (pc := 173) (v := nI (q + 1)) (lv' := [(11, .int (nI (q + 1))), (10, .int (nI (if 0 ≤ hrQ P (S.2.2.1 mm) n cq (q + 1) then 1 else 0))), (7, .int (nI (cq % 5 ^ (n - (q + 1))))), (9, .int (jI (hrQ P (S.2.2.1 mm) n cq (q + 1)))), (8, .int (nI (5 ^ (n - (q + 1))))), (6, .int (nI cq)), (5, .int (jI g)), (4, .int (nI (5 ^ n))), (3, .int (x3)), (2, .int (nI n)), (1, .int (nI mm)), (0, .ref o)]) hx hb dX10_round_173 hl (k := 4) rfl (by rw [← nI_add]; rfl) (by decide) rfl (fun ls hl => ?_)
                                refine lv_goto (pc := 176) (tgt := 115) hx hb dX10_round_176 (by decide) ?_
                                exact ih115 (q + 1) (va_up rr q (hrQ P (S.2.2.1 mm) n cq (q + 1))) _ _ _ (by omega) (rowst hrr) (va_up_lt0 hv3 c123) (by omega) hP hS (lv_sub hl [0, 1, 3, 4, 2, 5, 6, 7, 8, 9, 10, 11] rfl)
                      exact cut115 _ 0 rr _ _ _ (Nat.zero_le _) (fun j hj => absurd hj (Nat.not_lt_zero j)) (fun j hj => absurd hj (Nat.not_lt_zero j)) (Nat.lt_succ_self _) hP hS (lv_sub hl [0, 1, 2, 3, 4, 5, 6, 7, 8, 9, 10, 11] rfl)
                exact cut83 _ 0 (-4) be rw sl _ _ _ (Nat.zero_le _) rfl (fun q9 => by omega) (tEnd.rf hsb) (Nat.lt_succ_self _) hP hS (lv_sub hl [0, 1, 2, 3, 4, 5, 6] rfl)
              · refine lv_iload (pc := 64) hx hb dX10_round_64 (lv_at hl 1 rfl) ?_
                refine lv_iconst (pc := 66) (v := nI 5) hx hb dX10_round_66 (by decide) ?_
                refine rn_imul (pc := 67) hx hb dX10_round_67 ?_
                refine r_top (show _ = nI (5 ^ (q + 1)) from (by rw [Nat.pow_succ])) ?_
                refine lv_istore (pc := 68) (lv' := [(4, .int (nI (5 ^ (q + 1)))), (5, .int (nI q)), (3, .int (x3)), (2, .int (nI n)), (1, .int (nI mm)), (0, .ref o)]) hx hb dX10_round_68 hl (by decide) rfl (fun ls hl => ?_)
                refine lv_iinc (pc := 70) (v := nI (q + 1)) (lv' := [(5, .int (nI (q + 1))), (4, .int (nI (5 ^ (q + 1)))), (3, .int (x3)), (2, .int (nI n)), (1, .int (nI mm)), (0, .ref o)]) hx hb dX10_round_70 hl (k := 1) rfl (by rw [← nI_add]; rfl) (by decide) rfl (fun ls hl => ?_)
                refine lv_goto (pc := 73) (tgt := 58) hx hb dX10_round_73 (by decide) ?_
                exact ih58 (q + 1) _ _ _ (by omega) (by omega) hP hS (lv_sub hl [0, 1, 2, 3, 4, 5] rfl)
          exact cut58 _ 0 _ _ _ (Nat.zero_le _) (Nat.lt_succ_self _) hP hS (lv_sub hl [0, 1, 5, 4, 3, 2] rfl)
        · refine lv_bipush (pc := 49) (v := jI (-2)) hx hb dX10_round_49 (by decide) ?_
          exact hret 51 _ hP hS dX10_round_51 rfl rfl ⟨(by rw [if_pos (by omega), if_pos (by rw [Int.toNat_natCast]; omega)]), sl, rw, be, rfl, tEnd.rf hsb⟩
      · refine lv_iconst (pc := 34) (v := jI (-1)) hx hb dX10_round_34 (by decide) ?_
        exact hret 35 _ hP hS dX10_round_35 rfl rfl ⟨(by (repeat' split) <;> first | (exfalso; omega) | rfl), sl, rw, be, rfl, tEnd.rf hsb⟩
