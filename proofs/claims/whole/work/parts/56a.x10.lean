abbrev rmX10_slip : Room := { frames := 2, cells := 0, slots := 0, locals := 46 }
set_option maxHeartbeats 4000000 in
set_option maxRecDepth 100000 in
theorem k_X10_slip (l : Launch) (D : va_G) (cI cC cB cS : ClassId) (o : Nat) (ad : Nat → Nat) (P : PL) (I : RI) (sl : Nat → Nat) (wa : Nat → Nat) (ir : Nat → Nat) (x1 : Int32) (z1 : Int) (hz1 : x1.toInt = z1) (x2 : Int32) (z2 : Int) (hz2 : x2.toInt = z2) (x3 : Int32) (z3 : Int) (hz3 : x3.toInt = z3) (x4 : Int32) (z4 : Int) (hz4 : x4.toInt = z4) (x5 : Int32) (z5 : Int) (hz5 : x5.toInt = z5) (S : ST) (ms : Nat → Nat) (hpk : plOK P) (hst : stOK P S) (hm : rM P wa ir ms) (hf0 : rF P sl 0 S) (hsb : sB sl) (hir : ∀ j, ir j < 100) (hwa : ∀ j, wa j < 100) : CI l D (kT cI cC cB cS) yX10_slip wsX10_slip rmX10_slip [.ref o, .int (x1), .int (x2), .int (x3), .int (x4), .int (x5)] ([rmE o ad (pCells P) P.2.2.2.1 P.2.2.2.2.2.1 P.2.2.2.2.2.2 I, nE 384 (ad 25) cI sl, nE 3 (ad 9) cI wa, nE 3 (ad 10) cI ir]) (fun r u => r = jI (zSlip P S z1 z2 z3 z4 z5) ∧ u = [rmE o ad (pCells P) P.2.2.2.1 P.2.2.2.2.2.1 P.2.2.2.2.2.2 I, nE 384 (ad 25) cI sl, nE 3 (ad 9) cI wa, nE 3 (ad 10) cI ir]) := by
  refine ci_intro (by decide) rfl (Nat.le_of_ble_eq_true rfl) ?_
  intro p e s m args below meth c ls A QF hF hK hP hV hS hA hN hl hret
  obtain ⟨hx, hb, hml, hown, hts⟩ := id hF
  have hP : va_P D vwCl ([rmE o ad (pCells P) P.2.2.2.1 P.2.2.2.2.2.1 P.2.2.2.2.2.2 I, nE 384 (ad 25) cI sl, nE 3 (ad 9) cI wa, nE 3 (ad 10) cI ir]) s.heap := hP
  have hl : lv_has ls 12 [(0, .ref o), (1, .int (x1)), (2, .int (x2)), (3, .int (x3)), (4, .int (x4)), (5, .int (x5))] := hl
  have wf61 := hts (.fieldLink RX10 61 "RemorseWallModel" "slot" "[I") (by decide +kernel)
  have hiX10 : ∀ w ∈ u_ws RX10 TX10 44, w ∈ wsX10_slip := by decide +kernel
  have hw := hpk.1
  obtain ⟨hp, hc1, hce, hme⟩ := id hw
  obtain ⟨hp1, hp2, hp3, hp4, hp5, hp6, hp7⟩ := id hp
  have hcl := pCells_le hp
  have hs : sHi S := hst.1
  have hr1 := i32_rng x1
  rw [hz1] at hr1
  have hr2 := i32_rng x2
  rw [hz2] at hr2
  have hr3 := i32_rng x3
  rw [hz3] at hr3
  have hr4 := i32_rng x4
  rw [hz4] at hr4
  have hr5 := i32_rng x5
  rw [hz5] at hr5
  have hslb := sB_h hsb
  refine lv_aload_n (pc := 0) hx hb dX10_slip_0 rfl (lv_at hl 0 rfl) ?_
  refine lv_iload_n (pc := 1) hx hb dX10_slip_1 rfl (lv_at hl 1 rfl) ?_
  refine ci_Vd (pc := 2) (r0 := nI (if okX (P.2.2.2.2.2.2) z1 then 1 else 0)) hF hN hK hP hV hS hA (k_X10_isMaid l D cI cC cB cS o ad P I (x1) z1 hz1 hp) (cwV 1 hts gX10_slip_X10_isMaid rfl rfl rfl (by decide +kernel) ⟨Nat.le_of_ble_eq_true rfl, Nat.le_of_ble_eq_true rfl⟩) [0] rfl (by decide) 0 10 rfl rfl rfl hl.1 rfl (Nat.le_of_ble_eq_true rfl) dX10_slip_2 ⟨Nat.le_refl _, Nat.le_refl _⟩ rfl (ws2 := [rmE o ad (pCells P) P.2.2.2.1 P.2.2.2.2.2.1 P.2.2.2.2.2.2 I, nE 384 (ad 25) cI sl, nE 3 (ad 9) cI wa, nE 3 (ad 10) cI ir]) rfl (fun H locs hP hS => ?_)
  refine rb_eq (pc := 5) (tgt := 52) hx hb dX10_slip_5 (by decide) (fun c5 => ?_) (fun c5 => ?_)
  · refine lv_iconst (pc := 52) (v := jI (-1)) hx hb dX10_slip_52 (by decide) ?_
    exact hret 53 _ hP hS dX10_slip_53 rfl rfl ⟨(by unfold zSlip; (repeat' split) <;> first | (exfalso; omega) | rfl), rfl⟩
  · refine lv_aload_n (pc := 8) hx hb dX10_slip_8 rfl (lv_at hl 0 rfl) ?_
    refine lv_iload_n (pc := 9) hx hb dX10_slip_9 rfl (lv_at hl 2 rfl) ?_
    refine ci_Vd (pc := 10) (r0 := nI (if okX (pCells P) z2 then 1 else 0)) hF hN hK hP hV hS hA (k_X10_isCell l D cI cC cB cS o ad P I (x2) z2 hz2 hp) (cwV 1 hts gX10_slip_X10_isCell rfl rfl rfl (by decide +kernel) ⟨Nat.le_of_ble_eq_true rfl, Nat.le_of_ble_eq_true rfl⟩) [0] rfl (by decide) 0 10 rfl rfl rfl hl.1 rfl (Nat.le_of_ble_eq_true rfl) dX10_slip_10 ⟨Nat.le_refl _, Nat.le_refl _⟩ rfl (ws2 := [rmE o ad (pCells P) P.2.2.2.1 P.2.2.2.2.2.1 P.2.2.2.2.2.2 I, nE 384 (ad 25) cI sl, nE 3 (ad 9) cI wa, nE 3 (ad 10) cI ir]) rfl (fun H locs hP hS => ?_)
    refine rb_eq (pc := 13) (tgt := 52) hx hb dX10_slip_13 (by decide) (fun c13 => ?_) (fun c13 => ?_)
    · refine lv_iconst (pc := 52) (v := jI (-1)) hx hb dX10_slip_52 (by decide) ?_
      exact hret 53 _ hP hS dX10_slip_53 rfl rfl ⟨(by unfold zSlip; (repeat' split) <;> first | (exfalso; omega) | rfl), rfl⟩
    · refine lv_iload_n (pc := 16) hx hb dX10_slip_16 rfl (lv_at hl 3 rfl) ?_
      refine lv_i2l (pc := 17) (v := jL z3) hx hb dX10_slip_17 (i2l_j hz3) ?_
      refine lv_lconst (pc := 18) (v := jL 0) hx hb dX10_slip_18 (by decide) ?_
      refine lv_ldc2 (pc := 19) (v := jL 8) hx hb hown (hts (.constantLong RX10 295 (jL 8)) (by decide +kernel)) dX10_slip_19 ?_
      refine ci_Sd (pc := 22) hF hN hK hP hV hS hA (k_X10_in l D cI cC cB cS z3 0 8 (by omega)) (va_cwS 3 hts gX10_slip_X10_in rfl rfl rfl (by decide +kernel) ⟨Nat.le_of_ble_eq_true rfl, Nat.le_of_ble_eq_true rfl⟩) [] rfl (by decide) rfl hl.1 rfl (Nat.le_of_ble_eq_true rfl) dX10_slip_22 ⟨Nat.le_refl _, Nat.le_refl _⟩ rfl (ws2 := [rmE o ad (pCells P) P.2.2.2.1 P.2.2.2.2.2.1 P.2.2.2.2.2.2 I, nE 384 (ad 25) cI sl, nE 3 (ad 9) cI wa, nE 3 (ad 10) cI ir]) rfl (fun H locs hP hS => ?_)
      refine rb_eq (pc := 25) (tgt := 52) hx hb dX10_slip_25 (by decide) (fun c25 => ?_) (fun c25 => ?_)
      · refine lv_iconst (pc := 52) (v := jI (-1)) hx hb dX10_slip_52 (by decide) ?_
        exact hret 53 _ hP hS dX10_slip_53 rfl rfl ⟨(by unfold zSlip; (repeat' split) <;> first | (exfalso; omega) | rfl), rfl⟩
      · refine lv_iload (pc := 28) hx hb dX10_slip_28 (lv_at hl 4 rfl) ?_
        refine lv_i2l (pc := 30) (v := jL z4) hx hb dX10_slip_30 (i2l_j hz4) ?_
        refine lv_lconst (pc := 31) (v := jL 0) hx hb dX10_slip_31 (by decide) ?_
        refine lv_ldc2 (pc := 32) (v := jL 10) hx hb hown (hts (.constantLong RX10 297 (jL 10)) (by decide +kernel)) dX10_slip_32 ?_
        refine ci_Sd (pc := 35) hF hN hK hP hV hS hA (k_X10_in l D cI cC cB cS z4 0 10 (by omega)) (va_cwS 3 hts gX10_slip_X10_in rfl rfl rfl (by decide +kernel) ⟨Nat.le_of_ble_eq_true rfl, Nat.le_of_ble_eq_true rfl⟩) [] rfl (by decide) rfl hl.1 rfl (Nat.le_of_ble_eq_true rfl) dX10_slip_35 ⟨Nat.le_refl _, Nat.le_refl _⟩ rfl (ws2 := [rmE o ad (pCells P) P.2.2.2.1 P.2.2.2.2.2.1 P.2.2.2.2.2.2 I, nE 384 (ad 25) cI sl, nE 3 (ad 9) cI wa, nE 3 (ad 10) cI ir]) rfl (fun H locs hP hS => ?_)
        refine rb_eq (pc := 38) (tgt := 52) hx hb dX10_slip_38 (by decide) (fun c38 => ?_) (fun c38 => ?_)
        · refine lv_iconst (pc := 52) (v := jI (-1)) hx hb dX10_slip_52 (by decide) ?_
          exact hret 53 _ hP hS dX10_slip_53 rfl rfl ⟨(by unfold zSlip; (repeat' split) <;> first | (exfalso; omega) | rfl), rfl⟩
        · refine lv_iload (pc := 41) hx hb dX10_slip_41 (lv_at hl 5 rfl) ?_
          refine lv_i2l (pc := 43) (v := jL z5) hx hb dX10_slip_43 (i2l_j hz5) ?_
          refine lv_lconst (pc := 44) (v := jL 0) hx hb dX10_slip_44 (by decide) ?_
          refine lv_lconst (pc := 45) (v := jL 1) hx hb dX10_slip_45 (by decide) ?_
          refine ci_Sd (pc := 46) hF hN hK hP hV hS hA (k_X10_in l D cI cC cB cS z5 0 1 (by omega)) (va_cwS 3 hts gX10_slip_X10_in rfl rfl rfl (by decide +kernel) ⟨Nat.le_of_ble_eq_true rfl, Nat.le_of_ble_eq_true rfl⟩) [] rfl (by decide) rfl hl.1 rfl (Nat.le_of_ble_eq_true rfl) dX10_slip_46 ⟨Nat.le_refl _, Nat.le_refl _⟩ rfl (ws2 := [rmE o ad (pCells P) P.2.2.2.1 P.2.2.2.2.2.1 P.2.2.2.2.2.2 I, nE 384 (ad 25) cI sl, nE 3 (ad 9) cI wa, nE 3 (ad 10) cI ir]) rfl (fun H locs hP hS => ?_)
          refine rb_ne (pc := 49) (tgt := 54) hx hb dX10_slip_49 (by decide) (fun c49 => ?_) (fun c49 => ?_)
          · obtain ⟨a, rfl⟩ : ∃ k : Nat, z1 = k := ⟨z1.toNat, by omega⟩
            obtain rfl : x1 = nI a := eq_nI hz1
            obtain ⟨x, rfl⟩ : ∃ k : Nat, z2 = k := ⟨z2.toNat, by omega⟩
            obtain rfl : x2 = nI x := eq_nI hz2
            obtain ⟨n, rfl⟩ : ∃ k : Nat, z3 = k := ⟨z3.toNat, by omega⟩
            obtain rfl : x3 = nI n := eq_nI hz3
            obtain ⟨t, rfl⟩ : ∃ k : Nat, z4 = k := ⟨z4.toNat, by omega⟩
            obtain rfl : x4 = nI t := eq_nI hz4
            have hn2 : 2 ^ n ≤ 256 := Nat.pow_le_pow_right (n := 2) (j := 8) (by omega) (by omega)
            have hslx := hslb x
            have hU9 := wg_out (t := t) hm (show a < P.2.2.2.2.2.2 by omega) n (sl x)
            have hV9 := wg_all (t := t) (by omega) n
            have hU8 := outN_8 P a t (by omega) n (sl x) (by omega)
            have hV8 : 10 ^ n ≤ 100000000 := Nat.pow_le_pow_right (n := 10) (j := 8) (by omega) (by omega)
            have hat : sAt S ((x : Nat) : Int) = sl x := by rw [sAt_n (by omega), rF_at hf0 (by omega)]
            have hgp := slip_p (U := outN P a t n (sl x)) (n := n)
            have hgl := slip_l (U := outN P a t n (sl x)) (n := n)
            refine lv_iconst (pc := 54) (v := nI 0) hx hb dX10_slip_54 (by decide) ?_
            refine lv_istore (pc := 55) (lv' := [(6, .int (nI 0)), (0, .ref o), (1, .int (nI a)), (2, .int (nI x)), (3, .int (nI n)), (4, .int (nI t)), (5, .int (x5))]) hx hb dX10_slip_55 hl (by decide) rfl (fun ls hl => ?_)
            refine lv_iconst (pc := 57) (v := nI 0) hx hb dX10_slip_57 (by decide) ?_
            refine lv_istore (pc := 58) (lv' := [(7, .int (nI 0)), (6, .int (nI 0)), (0, .ref o), (1, .int (nI a)), (2, .int (nI x)), (3, .int (nI n)), (4, .int (nI t)), (5, .int (x5))]) hx hb dX10_slip_58 hl (by decide) rfl (fun ls hl => ?_)
            refine lv_iconst (pc := 60) (v := nI 0) hx hb dX10_slip_60 (by decide) ?_
            refine lv_istore (pc := 61) (lv' := [(8, .int (nI 0)), (7, .int (nI 0)), (6, .int (nI 0)), (0, .ref o), (1, .int (nI a)), (2, .int (nI x)), (3, .int (nI n)), (4, .int (nI t)), (5, .int (x5))]) hx hb dX10_slip_61 hl (by decide) rfl (fun ls hl => ?_)
            have cut63 : ∀ (fuel : Nat) (st : Nat) (H : Heap) (locs : List Loc) (ls : Array Slot) (hst6 : st ≤ 2 ^ n) (hfu : 2 ^ n - st < fuel), va_P D vwCl ([rmE o ad (pCells P) P.2.2.2.1 P.2.2.2.2.2.1 P.2.2.2.2.2.2 I, nE 384 (ad 25) cI sl, nE 3 (ad 9) cI wa, nE 3 (ad 10) cI ir]) H → va_S A s.heap H locs → lv_has ls 12 [(8, .int (nI st)), (7, .int (nI (nSum (fun q => wg t q n) st))), (6, .int (nI (nSum (fun q => if hg wa ir a q (sl x) n = 0 then wg t q n else 0) st))), (5, .int (x5)), (4, .int (nI t)), (3, .int (nI n)), (2, .int (nI x)), (1, .int (nI a)), (0, .ref o)] → W p l e rmX10_slip s m args below meth c H locs 0 0 QF (F0 m 63 ls []) := by
              intro fuel
              induction fuel with
              | zero => intro st H locs ls hst6 hfu; omega
              | succ fuel ih63 =>
                intro st H locs ls hst6 hfu hP hS hl
                refine lv_iload (pc := 63) hx hb dX10_slip_63 (lv_at hl 0 rfl) ?_
                refine lv_iconst (pc := 65) (v := nI 1) hx hb dX10_slip_65 (by decide) ?_
                refine lv_iload_n (pc := 66) hx hb dX10_slip_66 rfl (lv_at hl 5 rfl) ?_
                refine lv_ishl (pc := 67) hx hb dX10_slip_67 ?_
                refine r_top (nI_1shl (by omega)) ?_
                refine rc_ge (pc := 68) (tgt := 177) hx hb (tI_nI (by omega)) (tI_nI (by omega)) dX10_slip_68 (by decide) (fun c68 => ?_) (fun c68 => ?_)
                · have hst9 : st = 2 ^ n := by omega
                  rw [hst9, hU9, hV9] at hl
                  refine lv_iload (pc := 177) hx hb dX10_slip_177 (lv_at hl 2 rfl) ?_
                  refine lv_istore (pc := 179) (lv' := [(8, .int (nI (outN P a t n (sl x)))), (7, .int (nI (10 ^ n))), (6, .int (nI (outN P a t n (sl x)))), (5, .int (x5)), (4, .int (nI t)), (3, .int (nI n)), (2, .int (nI x)), (1, .int (nI a)), (0, .ref o)]) hx hb dX10_slip_179 hl (by decide) rfl (fun ls hl => ?_)
                  refine lv_iload (pc := 181) hx hb dX10_slip_181 (lv_at hl 1 rfl) ?_
                  refine lv_istore (pc := 183) (lv' := [(9, .int (nI (10 ^ n))), (8, .int (nI (outN P a t n (sl x)))), (7, .int (nI (10 ^ n))), (6, .int (nI (outN P a t n (sl x)))), (5, .int (x5)), (4, .int (nI t)), (3, .int (nI n)), (2, .int (nI x)), (1, .int (nI a)), (0, .ref o)]) hx hb dX10_slip_183 hl (by decide) rfl (fun ls hl => ?_)
                  have cut185 : ∀ (fuel : Nat) (aa : Nat) (bb : Nat) (H : Heap) (locs : List Loc) (ls : Array Slot) (ha9 : aa ≤ 100000000) (hb9 : bb ≤ 100000000) (hgc : Nat.gcd aa bb = Nat.gcd (outN P a t n (sl x)) (10 ^ n)) (hfu : bb < fuel), va_P D vwCl ([rmE o ad (pCells P) P.2.2.2.1 P.2.2.2.2.2.1 P.2.2.2.2.2.2 I, nE 384 (ad 25) cI sl, nE 3 (ad 9) cI wa, nE 3 (ad 10) cI ir]) H → va_S A s.heap H locs → lv_has ls 12 [(9, .int (nI bb)), (8, .int (nI aa)), (7, .int (nI (10 ^ n))), (6, .int (nI (outN P a t n (sl x)))), (5, .int (x5)), (0, .ref o)] → W p l e rmX10_slip s m args below meth c H locs 0 0 QF (F0 m 185 ls []) := by
                    intro fuel
                    induction fuel with
                    | zero => intro aa bb H locs ls ha9 hb9 hgc hfu; omega
                    | succ fuel ih185 =>
                      intro aa bb H locs ls ha9 hb9 hgc hfu hP hS hl
                      refine lv_iload (pc := 185) hx hb dX10_slip_185 (lv_at hl 0 rfl) ?_
                      refine r0_eq (pc := 187) (tgt := 208) hx hb (tI_nI (by omega)) dX10_slip_187 (by decide) (fun c187 => ?_) (fun c187 => ?_)
                      · have hb0 : bb = 0 := by omega
                        rw [hb0, Nat.gcd_zero_right] at hgc
                        have hgc2 := hgc
                        refine lv_iload (pc := 208) hx hb dX10_slip_208 (lv_at hl 4 rfl) ?_
                        refine r0_ne (pc := 210) (tgt := 221) hx hb hz5 dX10_slip_210 (by decide) (fun c210 => ?_) (fun c210 => ?_)
                        · refine lv_iload (pc := 221) hx hb dX10_slip_221 (lv_at hl 2 rfl) ?_
                          refine lv_iload (pc := 223) hx hb dX10_slip_223 (lv_at hl 1 rfl) ?_
                          refine rn_idiv (pc := 225) hx hb (by omega) (by omega) dX10_slip_225 ?_
                          exact hret 226 _ hP hS dX10_slip_226 rfl rfl ⟨(by unfold zSlip; simp only [Int.toNat_natCast]; rw [hat, if_pos (by omega), if_pos (by omega), slip_g hU8, ← hgc, if_neg (by omega), if_neg (by omega)]; exact jI_nat _), rfl⟩
                        · refine lv_iload (pc := 213) hx hb dX10_slip_213 (lv_at hl 3 rfl) ?_
                          refine lv_iload (pc := 215) hx hb dX10_slip_215 (lv_at hl 1 rfl) ?_
                          refine rn_idiv (pc := 217) hx hb (by omega) (by omega) dX10_slip_217 ?_
                          refine lv_goto (pc := 218) (tgt := 226) hx hb dX10_slip_218 (by decide) ?_
                          exact hret 226 _ hP hS dX10_slip_226 rfl rfl ⟨(by unfold zSlip; simp only [Int.toNat_natCast]; rw [hat, if_pos (by omega), if_pos (by omega), slip_g hU8, ← hgc, if_neg (by omega), if_pos (by omega)]; exact jI_nat _), rfl⟩
                      · have hmd9 := Nat.mod_lt aa (show 0 < bb by omega)
                        refine lv_iload (pc := 190) hx hb dX10_slip_190 (lv_at hl 1 rfl) ?_
                        refine lv_iload (pc := 192) hx hb dX10_slip_192 (lv_at hl 0 rfl) ?_
                        refine rn_irem (pc := 194) hx hb (by omega) (by omega) dX10_slip_194 ?_
                        refine lv_istore (pc := 195) (lv' := [(10, .int (nI (aa % bb))), (9, .int (nI bb)), (8, .int (nI aa)), (7, .int (nI (10 ^ n))), (6, .int (nI (outN P a t n (sl x)))), (5, .int (x5)), (0, .ref o)]) hx hb dX10_slip_195 hl (by decide) rfl (fun ls hl => ?_)
                        refine lv_iload (pc := 197) hx hb dX10_slip_197 (lv_at hl 1 rfl) ?_
                        refine lv_istore (pc := 199) (lv' := [(8, .int (nI bb)), (10, .int (nI (aa % bb))), (9, .int (nI bb)), (7, .int (nI (10 ^ n))), (6, .int (nI (outN P a t n (sl x)))), (5, .int (x5)), (0, .ref o)]) hx hb dX10_slip_199 hl (by decide) rfl (fun ls hl => ?_)
                        refine lv_iload (pc := 201) hx hb dX10_slip_201 (lv_at hl 1 rfl) ?_
                        refine lv_istore (pc := 203) (lv' := [(9, .int (nI (aa % bb))), (8, .int (nI bb)), (10, .int (nI (aa % bb))), (7, .int (nI (10 ^ n))), (6, .int (nI (outN P a t n (sl x)))), (5, .int (x5)), (0, .ref o)]) hx hb dX10_slip_203 hl (by decide) rfl (fun ls hl => ?_)
                        refine lv_goto (pc := 205) (tgt := 185) hx hb dX10_slip_205 (by decide) ?_
                        exact ih185 bb (aa % bb) _ _ _ hb9 (by omega) (gcd_s.trans hgc) (by omega) hP hS (lv_sub hl [0, 1, 3, 4, 5, 6] rfl)
                  exact cut185 _ (outN P a t n (sl x)) (10 ^ n) _ _ _ hU8 hV8 rfl (Nat.lt_succ_self _) hP hS (lv_sub hl [0, 1, 2, 3, 4, 9] rfl)
                · refine lv_iconst (pc := 71) (v := nI 1) hx hb dX10_slip_71 (by decide) ?_
                  refine lv_istore (pc := 72) (lv' := [(9, .int (nI 1)), (8, .int (nI st)), (7, .int (nI (nSum (fun q => wg t q n) st))), (6, .int (nI (nSum (fun q => if hg wa ir a q (sl x) n = 0 then wg t q n else 0) st))), (5, .int (x5)), (4, .int (nI t)), (3, .int (nI n)), (2, .int (nI x)), (1, .int (nI a)), (0, .ref o)]) hx hb dX10_slip_72 hl (by decide) rfl (fun ls hl => ?_)
                  refine lv_aload_n (pc := 74) hx hb dX10_slip_74 rfl (lv_at hl 9 rfl) ?_
                  refine va_get (pc := 75) (D := D) (ci := 10) (v := .ref (ad 25)) (C := RX10) (T := TX10) (N := 44) hx hb hts hiX10 hown hK hP 0 rfl rfl 25 (by decide) wf61 (fun _ h9 => h9) rfl dX10_slip_75 ?_
                  refine lv_iload_n (pc := 78) hx hb dX10_slip_78 rfl (lv_at hl 7 rfl) ?_
                  refine ra_iald (pc := 79) (k := x) (v := nI (sl x)) hx hb hK hP 1 0 rfl rfl (by omega) (by decide) rfl dX10_slip_79 ?_
                  refine lv_istore (pc := 80) (lv' := [(10, .int (nI (sl x))), (9, .int (nI 1)), (8, .int (nI st)), (7, .int (nI (nSum (fun q => wg t q n) st))), (6, .int (nI (nSum (fun q => if hg wa ir a q (sl x) n = 0 then wg t q n else 0) st))), (5, .int (x5)), (4, .int (nI t)), (3, .int (nI n)), (2, .int (nI x)), (1, .int (nI a)), (0, .ref o)]) hx hb dX10_slip_80 hl (by decide) rfl (fun ls hl => ?_)
                  refine lv_iconst (pc := 82) (v := nI 0) hx hb dX10_slip_82 (by decide) ?_
                  refine lv_istore (pc := 83) (lv' := [(11, .int (nI 0)), (10, .int (nI (sl x))), (9, .int (nI 1)), (8, .int (nI st)), (7, .int (nI (nSum (fun q => wg t q n) st))), (6, .int (nI (nSum (fun q => if hg wa ir a q (sl x) n = 0 then wg t q n else 0) st))), (5, .int (x5)), (4, .int (nI t)), (3, .int (nI n)), (2, .int (nI x)), (1, .int (nI a)), (0, .ref o)]) hx hb dX10_slip_83 hl (by decide) rfl (fun ls hl => ?_)
                  have cut85 : ∀ (fuel : Nat) (k : Nat) (H : Heap) (locs : List Loc) (ls : Array Slot) (hk : k ≤ n) (hfu : n - k < fuel), va_P D vwCl ([rmE o ad (pCells P) P.2.2.2.1 P.2.2.2.2.2.1 P.2.2.2.2.2.2 I, nE 384 (ad 25) cI sl, nE 3 (ad 9) cI wa, nE 3 (ad 10) cI ir]) H → va_S A s.heap H locs → lv_has ls 12 [(11, .int (nI k)), (10, .int (nI (hg wa ir a st (sl x) k))), (9, .int (nI (wg t st k))), (8, .int (nI st)), (7, .int (nI (nSum (fun q => wg t q n) st))), (6, .int (nI (nSum (fun q => if hg wa ir a q (sl x) n = 0 then wg t q n else 0) st))), (5, .int (x5)), (4, .int (nI t)), (3, .int (nI n)), (2, .int (nI x)), (1, .int (nI a)), (0, .ref o)] → W p l e rmX10_slip s m args below meth c H locs 0 0 QF (F0 m 85 ls []) := by
                    intro fuel
                    induction fuel with
                    | zero => intro k H locs ls hk hfu; omega
                    | succ fuel ih85 =>
                      intro k H locs ls hk hfu hP hS hl
                      have hgk := hg_le (wa := wa) (ir := ir) (mm := a) (st := st) (h0 := sl x) k
                      have hgn := hg_le (wa := wa) (ir := ir) (mm := a) (st := st) (h0 := sl x) n
                      refine lv_iload (pc := 85) hx hb dX10_slip_85 (lv_at hl 0 rfl) ?_
                      refine lv_iload_n (pc := 87) hx hb dX10_slip_87 rfl (lv_at hl 8 rfl) ?_
                      refine rc_ge (pc := 88) (tgt := 148) hx hb (tI_nI (by omega)) (tI_nI (by omega)) dX10_slip_88 (by decide) (fun c88 => ?_) (fun c88 => ?_)
                      · have hkn : k = n := by omega
                        rw [hkn] at hl
                        refine lv_iload (pc := 148) hx hb dX10_slip_148 (lv_at hl 4 rfl) ?_
                        refine lv_iload (pc := 150) hx hb dX10_slip_150 (lv_at hl 2 rfl) ?_
                        refine rn_iadd (pc := 152) hx hb dX10_slip_152 ?_
                        refine lv_istore (pc := 153) (lv' := [(7, .int (nI ((nSum (fun q => wg t q n) st) + (wg t st n)))), (11, .int (nI n)), (10, .int (nI (hg wa ir a st (sl x) n))), (9, .int (nI (wg t st n))), (8, .int (nI st)), (6, .int (nI (nSum (fun q => if hg wa ir a q (sl x) n = 0 then wg t q n else 0) st))), (5, .int (x5)), (4, .int (nI t)), (3, .int (nI n)), (2, .int (nI x)), (1, .int (nI a)), (0, .ref o)]) hx hb dX10_slip_153 hl (by decide) rfl (fun ls hl => ?_)
                        refine lv_iload (pc := 155) hx hb dX10_slip_155 (lv_at hl 5 rfl) ?_
                        refine lv_iload (pc := 157) hx hb dX10_slip_157 (lv_at hl 2 rfl) ?_
                        refine r0_ne (pc := 159) (tgt := 167) hx hb (tI_nI (by omega)) dX10_slip_159 (by decide) (fun c159 => ?_) (fun c159 => ?_)
                        · refine lv_iconst (pc := 167) (v := nI 0) hx hb dX10_slip_167 (by decide) ?_
                          refine rn_iadd (pc := 168) hx hb dX10_slip_168 ?_
                          refine r_top (show _ = nI (nSum (fun q => if hg wa ir a q (sl x) n = 0 then wg t q n else 0) (st + 1)) from (by show _ = nI (_ + (if hg wa ir a st (sl x) n = 0 then wg t st n else 0)); rw [if_neg (by omega)])) ?_
                          refine lv_istore (pc := 169) (lv' := [(6, .int (nI (nSum (fun q => if hg wa ir a q (sl x) n = 0 then wg t q n else 0) (st + 1)))), (7, .int (nI ((nSum (fun q => wg t q n) st) + (wg t st n)))), (11, .int (nI n)), (10, .int (nI (hg wa ir a st (sl x) n))), (9, .int (nI (wg t st n))), (8, .int (nI st)), (5, .int (x5)), (4, .int (nI t)), (3, .int (nI n)), (2, .int (nI x)), (1, .int (nI a)), (0, .ref o)]) hx hb dX10_slip_169 hl (by decide) rfl (fun ls hl => ?_)
                          refine lv_iinc (pc := 171) (v := nI (st + 1)) (lv' := [(8, .int (nI (st + 1))), (6, .int (nI (nSum (fun q => if hg wa ir a q (sl x) n = 0 then wg t q n else 0) (st + 1)))), (7, .int (nI ((nSum (fun q => wg t q n) st) + (wg t st n)))), (11, .int (nI n)), (10, .int (nI (hg wa ir a st (sl x) n))), (9, .int (nI (wg t st n))), (5, .int (x5)), (4, .int (nI t)), (3, .int (nI n)), (2, .int (nI x)), (1, .int (nI a)), (0, .ref o)]) hx hb dX10_slip_171 hl (k := 5) rfl (by rw [← nI_add]; rfl) (by decide) rfl (fun ls hl => ?_)
                          refine lv_goto (pc := 174) (tgt := 63) hx hb dX10_slip_174 (by decide) ?_
                          exact ih63 (st + 1) _ _ _ (by omega) (by omega) hP hS (lv_sub hl [0, 2, 1, 6, 7, 8, 9, 10, 11] rfl)
                        · refine lv_iload (pc := 162) hx hb dX10_slip_162 (lv_at hl 3 rfl) ?_
                          refine lv_goto (pc := 164) (tgt := 168) hx hb dX10_slip_164 (by decide) ?_
                          refine rn_iadd (pc := 168) hx hb dX10_slip_168 ?_
                          refine r_top (show _ = nI (nSum (fun q => if hg wa ir a q (sl x) n = 0 then wg t q n else 0) (st + 1)) from (by show _ = nI (_ + (if hg wa ir a st (sl x) n = 0 then wg t st n else 0)); rw [if_pos (by omega)])) ?_
                          refine lv_istore (pc := 169) (lv' := [(6, .int (nI (nSum (fun q => if hg wa ir a q (sl x) n = 0 then wg t q n else 0) (st + 1)))), (7, .int (nI ((nSum (fun q => wg t q n) st) + (wg t st n)))), (11, .int (nI n)), (10, .int (nI (hg wa ir a st (sl x) n))), (9, .int (nI (wg t st n))), (8, .int (nI st)), (5, .int (x5)), (4, .int (nI t)), (3, .int (nI n)), (2, .int (nI x)), (1, .int (nI a)), (0, .ref o)]) hx hb dX10_slip_169 hl (by decide) rfl (fun ls hl => ?_)
                          refine lv_iinc (pc := 171) (v := nI (st + 1)) (lv' := [(8, .int (nI (st + 1))), (6, .int (nI (nSum (fun q => if hg wa ir a q (sl x) n = 0 then wg t q n else 0) (st + 1)))), (7, .int (nI ((nSum (fun q => wg t q n) st) + (wg t st n)))), (11, .int (nI n)), (10, .int (nI (hg wa ir a st (sl x) n))), (9, .int (nI (wg t st n))), (5, .int (x5)), (4, .int (nI t)), (3, .int (nI n)), (2, .int (nI x)), (1, .int (nI a)), (0, .ref o)]) hx hb dX10_slip_171 hl (k := 5) rfl (by rw [← nI_add]; rfl) (by decide) rfl (fun ls hl => ?_)
                          refine lv_goto (pc := 174) (tgt := 63) hx hb dX10_slip_174 (by decide) ?_
                          exact ih63 (st + 1) _ _ _ (by omega) (by omega) hP hS (lv_sub hl [0, 2, 1, 6, 7, 8, 9, 10, 11] rfl)
                      · refine lv_iload (pc := 91) hx hb dX10_slip_91 (lv_at hl 2 rfl) ?_
                        refine lv_iload (pc := 93) hx hb dX10_slip_93 (lv_at hl 3 rfl) ?_
                        refine lv_iload (pc := 95) hx hb dX10_slip_95 (lv_at hl 0 rfl) ?_
                        refine ci_Sd (pc := 97) hF hN hK hP hV hS hA (k_X10_has l D cI cC cB cS st k (by omega) (by omega)) (va_cwS 2 hts gX10_slip_X10_has rfl rfl rfl (by decide +kernel) ⟨Nat.le_of_ble_eq_true rfl, Nat.le_of_ble_eq_true rfl⟩) [] rfl (by decide) rfl hl.1 rfl (Nat.le_of_ble_eq_true rfl) dX10_slip_97 ⟨Nat.le_refl _, Nat.le_refl _⟩ rfl (ws2 := [rmE o ad (pCells P) P.2.2.2.1 P.2.2.2.2.2.1 P.2.2.2.2.2.2 I, nE 384 (ad 25) cI sl, nE 3 (ad 9) cI wa, nE 3 (ad 10) cI ir]) rfl (fun H locs hP hS => ?_)
                        refine rb_eq (pc := 100) (tgt := 108) hx hb dX10_slip_100 (by decide) (fun c100 => ?_) (fun c100 => ?_)
                        · refine lv_bipush (pc := 108) (v := nI 10) hx hb dX10_slip_108 (by decide) ?_
                          refine lv_iload (pc := 110) hx hb dX10_slip_110 (lv_at hl 7 rfl) ?_
                          refine rn_isub (pc := 112) hx hb (by omega) dX10_slip_112 ?_
                          refine rn_imul (pc := 113) hx hb dX10_slip_113 ?_
                          refine r_top (show _ = nI (wg t st (k + 1)) from (by rw [wg, if_neg c100])) ?_
                          refine lv_istore (pc := 114) (lv' := [(9, .int (nI (wg t st (k + 1)))), (11, .int (nI k)), (10, .int (nI (hg wa ir a st (sl x) k))), (8, .int (nI st)), (7, .int (nI (nSum (fun q => wg t q n) st))), (6, .int (nI (nSum (fun q => if hg wa ir a q (sl x) n = 0 then wg t q n else 0) st))), (5, .int (x5)), (4, .int (nI t)), (3, .int (nI n)), (2, .int (nI x)), (1, .int (nI a)), (0, .ref o)]) hx hb dX10_slip_114 hl (by decide) rfl (fun ls hl => ?_)
                          refine lv_iload (pc := 116) hx hb dX10_slip_116 (lv_at hl 2 rfl) ?_
                          refine lv_iload (pc := 118) hx hb dX10_slip_118 (lv_at hl 3 rfl) ?_
                          refine lv_iload (pc := 120) hx hb dX10_slip_120 (lv_at hl 1 rfl) ?_
                          refine ci_Sd (pc := 122) hF hN hK hP hV hS hA (k_X10_has l D cI cC cB cS st k (by omega) (by omega)) (va_cwS 2 hts gX10_slip_X10_has rfl rfl rfl (by decide +kernel) ⟨Nat.le_of_ble_eq_true rfl, Nat.le_of_ble_eq_true rfl⟩) [] rfl (by decide) rfl hl.1 rfl (Nat.le_of_ble_eq_true rfl) dX10_slip_122 ⟨Nat.le_refl _, Nat.le_refl _⟩ rfl (ws2 := [rmE o ad (pCells P) P.2.2.2.1 P.2.2.2.2.2.1 P.2.2.2.2.2.2 I, nE 384 (ad 25) cI sl, nE 3 (ad 9) cI wa, nE 3 (ad 10) cI ir]) rfl (fun H locs hP hS => ?_)
                          refine rb_eq (pc := 125) (tgt := 132) hx hb dX10_slip_125 (by decide) (fun c125 => ?_) (fun c125 => ?_)
                          · refine lv_aload_n (pc := 132) hx hb dX10_slip_132 rfl (lv_at hl 11 rfl) ?_
                            refine lv_iload_n (pc := 133) hx hb dX10_slip_133 rfl (lv_at hl 10 rfl) ?_
                            refine lv_iload (pc := 134) hx hb dX10_slip_134 (lv_at hl 2 rfl) ?_
                            refine ci_Vd (pc := 136) (r0 := nI (rTak wa ir a (hg wa ir a st (sl x) k))) hF hN hK hP hV hS hA (k_X10_takes l D cI cC cB cS o ad P I wa ir a (hg wa ir a st (sl x) k) hir hwa (by omega) (by omega)) (cwV 2 hts gX10_slip_X10_takes rfl rfl rfl (by decide +kernel) ⟨Nat.le_of_ble_eq_true rfl, Nat.le_of_ble_eq_true rfl⟩) [0, 2, 3] rfl (by decide) 0 10 rfl rfl rfl hl.1 rfl (Nat.le_of_ble_eq_true rfl) dX10_slip_136 ⟨Nat.le_refl _, Nat.le_refl _⟩ rfl (ws2 := [rmE o ad (pCells P) P.2.2.2.1 P.2.2.2.2.2.1 P.2.2.2.2.2.2 I, nE 384 (ad 25) cI sl, nE 3 (ad 9) cI wa, nE 3 (ad 10) cI ir]) rfl (fun H locs hP hS => ?_)
                            have fq8 := rTak_le wa ir a (hg wa ir a st (sl x) k)
                            refine rn_isub (pc := 139) hx hb (by omega) dX10_slip_139 ?_
                            refine r_top (show _ = nI (hg wa ir a st (sl x) (k + 1)) from (by rw [hg, if_neg c100])) ?_
                            refine lv_istore (pc := 140) (lv' := [(10, .int (nI (hg wa ir a st (sl x) (k + 1)))), (9, .int (nI (wg t st (k + 1)))), (11, .int (nI k)), (8, .int (nI st)), (7, .int (nI (nSum (fun q => wg t q n) st))), (6, .int (nI (nSum (fun q => if hg wa ir a q (sl x) n = 0 then wg t q n else 0) st))), (5, .int (x5)), (4, .int (nI t)), (3, .int (nI n)), (2, .int (nI x)), (1, .int (nI a)), (0, .ref o)]) hx hb dX10_slip_140 hl (by decide) rfl (fun ls hl => ?_)
                            refine lv_iinc (pc := 142) (v := nI (k + 1)) (lv' := [(11, .int (nI (k + 1))), (10, .int (nI (hg wa ir a st (sl x) (k + 1)))), (9, .int (nI (wg t st (k + 1)))), (8, .int (nI st)), (7, .int (nI (nSum (fun q => wg t q n) st))), (6, .int (nI (nSum (fun q => if hg wa ir a q (sl x) n = 0 then wg t q n else 0) st))), (5, .int (x5)), (4, .int (nI t)), (3, .int (nI n)), (2, .int (nI x)), (1, .int (nI a)), (0, .ref o)]) hx hb dX10_slip_142 hl (k := 2) rfl (by rw [← nI_add]; rfl) (by decide) rfl (fun ls hl => ?_)
                            refine lv_goto (pc := 145) (tgt := 85) hx hb dX10_slip_145 (by decide) ?_
                            exact ih85 (k + 1) _ _ _ (by omega) (by omega) hP hS (lv_sub hl [0, 1, 2, 3, 4, 5, 6, 7, 8, 9, 10, 11] rfl)
                          · exact absurd c125 c100
                        · refine lv_iload (pc := 103) hx hb dX10_slip_103 (lv_at hl 7 rfl) ?_
                          refine lv_goto (pc := 105) (tgt := 113) hx hb dX10_slip_105 (by decide) ?_
                          refine rn_imul (pc := 113) hx hb dX10_slip_113 ?_
                          refine r_top (show _ = nI (wg t st (k + 1)) from (by rw [wg, if_pos c100])) ?_
                          refine lv_istore (pc := 114) (lv' := [(9, .int (nI (wg t st (k + 1)))), (11, .int (nI k)), (10, .int (nI (hg wa ir a st (sl x) k))), (8, .int (nI st)), (7, .int (nI (nSum (fun q => wg t q n) st))), (6, .int (nI (nSum (fun q => if hg wa ir a q (sl x) n = 0 then wg t q n else 0) st))), (5, .int (x5)), (4, .int (nI t)), (3, .int (nI n)), (2, .int (nI x)), (1, .int (nI a)), (0, .ref o)]) hx hb dX10_slip_114 hl (by decide) rfl (fun ls hl => ?_)
                          refine lv_iload (pc := 116) hx hb dX10_slip_116 (lv_at hl 2 rfl) ?_
                          refine lv_iload (pc := 118) hx hb dX10_slip_118 (lv_at hl 3 rfl) ?_
                          refine lv_iload (pc := 120) hx hb dX10_slip_120 (lv_at hl 1 rfl) ?_
                          refine ci_Sd (pc := 122) hF hN hK hP hV hS hA (k_X10_has l D cI cC cB cS st k (by omega) (by omega)) (va_cwS 2 hts gX10_slip_X10_has rfl rfl rfl (by decide +kernel) ⟨Nat.le_of_ble_eq_true rfl, Nat.le_of_ble_eq_true rfl⟩) [] rfl (by decide) rfl hl.1 rfl (Nat.le_of_ble_eq_true rfl) dX10_slip_122 ⟨Nat.le_refl _, Nat.le_refl _⟩ rfl (ws2 := [rmE o ad (pCells P) P.2.2.2.1 P.2.2.2.2.2.1 P.2.2.2.2.2.2 I, nE 384 (ad 25) cI sl, nE 3 (ad 9) cI wa, nE 3 (ad 10) cI ir]) rfl (fun H locs hP hS => ?_)
                          refine rb_eq (pc := 125) (tgt := 132) hx hb dX10_slip_125 (by decide) (fun c125 => ?_) (fun c125 => ?_)
                          · exact absurd c100 c125
                          · refine lv_iconst (pc := 128) (v := nI 0) hx hb dX10_slip_128 (by decide) ?_
                            refine lv_goto (pc := 129) (tgt := 139) hx hb dX10_slip_129 (by decide) ?_
                            refine rn_isub (pc := 139) hx hb (by omega) dX10_slip_139 ?_
                            refine r_top (show _ = nI (hg wa ir a st (sl x) (k + 1)) from (by rw [hg, if_pos c100])) ?_
                            refine lv_istore (pc := 140) (lv' := [(10, .int (nI (hg wa ir a st (sl x) (k + 1)))), (9, .int (nI (wg t st (k + 1)))), (11, .int (nI k)), (8, .int (nI st)), (7, .int (nI (nSum (fun q => wg t q n) st))), (6, .int (nI (nSum (fun q => if hg wa ir a q (sl x) n = 0 then wg t q n else 0) st))), (5, .int (x5)), (4, .int (nI t)), (3, .int (nI n)), (2, .int (nI x)), (1, .int (nI a)), (0, .ref o)]) hx hb dX10_slip_140 hl (by decide) rfl (fun ls hl => ?_)
                            refine lv_iinc (pc := 142) (v := nI (k + 1)) (lv' := [(11, .int (nI (k + 1))), (10, .int (nI (hg wa ir a st (sl x) (k + 1)))), (9, .int (nI (wg t st (k + 1)))), (8, .int (nI st)), (7, .int (nI (nSum (fun q => wg t q n) st))), (6, .int (nI (nSum (fun q => if hg wa ir a q (sl x) n = 0 then wg t q n else 0) st))), (5, .int (x5)), (4, .int (nI t)), (3, .int (nI n)), (2, .int (nI x)), (1, .int (nI a)), (0, .ref o)]) hx hb dX10_slip_142 hl (k := 2) rfl (by rw [← nI_add]; rfl) (by decide) rfl (fun ls hl => ?_)
                            refine lv_goto (pc := 145) (tgt := 85) hx hb dX10_slip_145 (by decide) ?_
                            exact ih85 (k + 1) _ _ _ (by omega) (by omega) hP hS (lv_sub hl [0, 1, 2, 3, 4, 5, 6, 7, 8, 9, 10, 11] rfl)
                  exact cut85 _ 0 _ _ _ (Nat.zero_le _) (Nat.lt_succ_self _) hP hS (lv_sub hl [0, 1, 2, 3, 4, 5, 6, 7, 8, 9, 10, 11] rfl)
            exact cut63 _ 0 _ _ _ (Nat.zero_le _) (Nat.lt_succ_self _) hP hS (lv_sub hl [0, 1, 2, 8, 7, 6, 5, 4, 3] rfl)
          · refine lv_iconst (pc := 52) (v := jI (-1)) hx hb dX10_slip_52 (by decide) ?_
            exact hret 53 _ hP hS dX10_slip_53 rfl rfl ⟨(by unfold zSlip; (repeat' split) <;> first | (exfalso; omega) | rfl), rfl⟩
