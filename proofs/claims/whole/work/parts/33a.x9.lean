theorem eg_lt (M : Nat) : ∀ (f a b : Nat), a < M → b < M → eg f a b < M
  | 0, _, _, h, _ => h
  | f + 1, a, b, h, h2 => by
    show (if b = 0 then a else eg f b (a % b)) < M
    split
    · exact h
    · exact eg_lt M f b (a % b) h2 (Nat.lt_of_le_of_lt (Nat.mod_le _ _) h)
theorem outN_le (P : PL) (mm t : Nat) (ht : t ≤ 10) : ∀ (n h : Nat), outN P mm t n h ≤ 10 ^ n
  | 0, h => by show (if h = 0 then 1 else 0) ≤ 1; split <;> omega
  | n + 1, h => by
    show t * outN P mm t n h + (10 - t) * outN P mm t n (h - takeS P mm h) ≤ 10 ^ n * 10
    have a1 := Nat.mul_le_mul_left t (outN_le P mm t ht n h)
    have a2 := Nat.mul_le_mul_left (10 - t) (outN_le P mm t ht n (h - takeS P mm h))
    have a3 : t * 10 ^ n + (10 - t) * 10 ^ n = 10 ^ n * 10 := by rw [← Nat.add_mul, show t + (10 - t) = 10 by omega, Nat.mul_comm]
    omega
theorem outN_8 (P : PL) (mm t : Nat) (ht : t ≤ 10) (n h : Nat) (hn : n ≤ 8) : outN P mm t n h ≤ 100000000 := Nat.le_trans (outN_le P mm t ht n h) (Nat.le_trans (Nat.pow_le_pow_right (by decide) hn) (by decide))
def zSlip (P : PL) (S : ST) (a z n t q : Int) : Int :=
  if okX P.2.2.2.2.2.2 a ∧ okX (pCells P) z ∧ 0 ≤ q ∧ q ≤ 1 then
    if 0 ≤ n ∧ n ≤ 8 ∧ 0 ≤ t ∧ t ≤ 10 then
      if eg 64 (10 ^ n.toNat) (outN P a.toNat t.toNat n.toNat (sAt S z)) < 1 then -1
      else if q = 0 then ((outN P a.toNat t.toNat n.toNat (sAt S z) / eg 64 (10 ^ n.toNat) (outN P a.toNat t.toNat n.toNat (sAt S z)) : Nat) : Int)
      else ((10 ^ n.toNat / eg 64 (10 ^ n.toNat) (outN P a.toNat t.toNat n.toNat (sAt S z)) : Nat) : Int)
    else -1
  else -1
abbrev rmX9_slip : Room := { frames := 40, cells := 0, slots := 0, locals := 1200 }
set_option maxHeartbeats 4000000 in
set_option maxRecDepth 100000 in
theorem k_X9_slip (l : Launch) (D : va_G) (cI cC cB cS : ClassId) (w0 w1 w2 w4 w6 w7 w8 w9 w10 w11 w12 : Nat) (p0 p1 p2 p3 : Nat) (P : PL) (s0 s1 s2 s3 : Nat) (S : ST) (x1 : Int32) (z1 : Int) (hz1 : x1.toInt = z1) (x2 : Int32) (z2 : Int) (hz2 : x2.toInt = z2) (x3 : Int32) (z3 : Int) (hz3 : x3.toInt = z3) (x4 : Int32) (z4 : Int) (hz4 : x4.toInt = z4) (x5 : Int32) (z5 : Int) (hz5 : x5.toInt = z5) (hpk : plOK P) (hst : stOK P S) : CI l D (kT cI cC cB cS) yX9_slip wsX9_slip rmX9_slip [.ref w0, .int (x1), .int (x2), .int (x3), .int (x4), .int (x5)] (rwW w0 w1 w2 p0 w4 s0 w6 w7 w8 w9 w10 w11 w12 ++ plW p0 p1 p2 p3 cI P ++ stW s0 s1 s2 s3 cI S) (fun r u => r = jI (zSlip P S z1 z2 z3 z4 z5) ∧ u = rwW w0 w1 w2 p0 w4 s0 w6 w7 w8 w9 w10 w11 w12 ++ plW p0 p1 p2 p3 cI P ++ stW s0 s1 s2 s3 cI S) := by
  refine ci_intro (by decide) rfl (Nat.le_of_ble_eq_true rfl) ?_
  intro p e s m args below meth c ls A QF hF hK hP hV hS hA hN hl hret
  obtain ⟨hx, hb, hml, hown, hts⟩ := id hF
  have hP : va_P D vwCl (rwW w0 w1 w2 p0 w4 s0 w6 w7 w8 w9 w10 w11 w12 ++ plW p0 p1 p2 p3 cI P ++ stW s0 s1 s2 s3 cI S) s.heap := hP
  have hl : lv_has ls 9 [(0, .ref w0), (1, .int (x1)), (2, .int (x2)), (3, .int (x3)), (4, .int (x4)), (5, .int (x5))] := hl
  have wf26 := hts (.fieldLink RX9 26 "RemorseWall" "plan" "LRemorseWall$Plan;") (by decide +kernel)
  have wf36 := hts (.fieldLink RX9 36 "RemorseWall" "now" "LRemorseWall$Standing;") (by decide +kernel)
  have hiX9 : ∀ w ∈ u_ws RX9 TX9 12, w ∈ wsX9_slip := by decide +kernel
  have hw := hpk.1
  obtain ⟨hp, hc1, hce, hme⟩ := id hw
  obtain ⟨hp1, hp2, hp3, hp4, hp5, hp6, hp7⟩ := id hp
  have hcl := pCells_le hp
  have hi : sHi S := hst.1
  have hsx := sAt_le hi z2
  refine lv_aload_n (pc := 0) hx hb dX9_slip_0 rfl (lv_at hl 0 rfl) ?_
  refine lv_iload_n (pc := 1) hx hb dX9_slip_1 rfl (lv_at hl 1 rfl) ?_
  refine ci_Vd (pc := 2) (r0 := nI (if okX (P.2.2.2.2.2.2) z1 then 1 else 0)) hF hN hK hP hV hS hA (k_X9_isMaid l D cI cC cB cS w0 w1 w2 w4 s0 w6 w7 w8 w9 w10 w11 w12 p0 p1 p2 p3 P (x1) z1 hz1 hp) (cwV 1 hts gX9_slip_X9_isMaid rfl rfl rfl (by decide +kernel) ⟨Nat.le_of_ble_eq_true rfl, Nat.le_of_ble_eq_true rfl⟩) [0, 1, 2, 3, 4] rfl (by decide) 0 9 rfl rfl rfl hl.1 rfl (Nat.le_of_ble_eq_true rfl) dX9_slip_2 ⟨Nat.le_refl _, Nat.le_refl _⟩ rfl (ws2 := rwW w0 w1 w2 p0 w4 s0 w6 w7 w8 w9 w10 w11 w12 ++ plW p0 p1 p2 p3 cI P ++ stW s0 s1 s2 s3 cI S) rfl (fun H locs hP hS => ?_)
  refine rb_eq (pc := 5) (tgt := 27) hx hb dX9_slip_5 (by decide) (fun c5 => ?_) (fun c5 => ?_)
  · refine lv_iconst (pc := 27) (v := jI (-1)) hx hb dX9_slip_27 (by decide) ?_
    exact hret 28 _ hP hS dX9_slip_28 rfl rfl ⟨(by unfold zSlip; (repeat' split) <;> first | (exfalso; omega) | rfl), rfl⟩
  · refine lv_aload_n (pc := 8) hx hb dX9_slip_8 rfl (lv_at hl 0 rfl) ?_
    refine lv_iload_n (pc := 9) hx hb dX9_slip_9 rfl (lv_at hl 2 rfl) ?_
    refine ci_Vd (pc := 10) (r0 := nI (if okX (pCells P) z2 then 1 else 0)) hF hN hK hP hV hS hA (k_X9_isCell l D cI cC cB cS w0 w1 w2 w4 s0 w6 w7 w8 w9 w10 w11 w12 p0 p1 p2 p3 P (x2) z2 hz2 hp) (cwV 1 hts gX9_slip_X9_isCell rfl rfl rfl (by decide +kernel) ⟨Nat.le_of_ble_eq_true rfl, Nat.le_of_ble_eq_true rfl⟩) [0, 1, 2, 3, 4] rfl (by decide) 0 9 rfl rfl rfl hl.1 rfl (Nat.le_of_ble_eq_true rfl) dX9_slip_10 ⟨Nat.le_refl _, Nat.le_refl _⟩ rfl (ws2 := rwW w0 w1 w2 p0 w4 s0 w6 w7 w8 w9 w10 w11 w12 ++ plW p0 p1 p2 p3 cI P ++ stW s0 s1 s2 s3 cI S) rfl (fun H locs hP hS => ?_)
    refine rb_eq (pc := 13) (tgt := 27) hx hb dX9_slip_13 (by decide) (fun c13 => ?_) (fun c13 => ?_)
    · refine lv_iconst (pc := 27) (v := jI (-1)) hx hb dX9_slip_27 (by decide) ?_
      exact hret 28 _ hP hS dX9_slip_28 rfl rfl ⟨(by unfold zSlip; (repeat' split) <;> first | (exfalso; omega) | rfl), rfl⟩
    · refine lv_iload (pc := 16) hx hb dX9_slip_16 (lv_at hl 5 rfl) ?_
      refine r0_lt (pc := 18) (tgt := 27) hx hb hz5 dX9_slip_18 (by decide) (fun c18 => ?_) (fun c18 => ?_)
      · refine lv_iconst (pc := 27) (v := jI (-1)) hx hb dX9_slip_27 (by decide) ?_
        exact hret 28 _ hP hS dX9_slip_28 rfl rfl ⟨(by unfold zSlip; (repeat' split) <;> first | (exfalso; omega) | rfl), rfl⟩
      · refine lv_iload (pc := 21) hx hb dX9_slip_21 (lv_at hl 5 rfl) ?_
        refine lv_iconst (pc := 23) (v := nI 1) hx hb dX9_slip_23 (by decide) ?_
        refine rc_le (pc := 24) (tgt := 29) hx hb hz5 (tI_nI (by omega)) dX9_slip_24 (by decide) (fun c24 => ?_) (fun c24 => ?_)
        · refine lv_iload_n (pc := 29) hx hb dX9_slip_29 rfl (lv_at hl 3 rfl) ?_
          refine r0_lt (pc := 30) (tgt := 51) hx hb hz3 dX9_slip_30 (by decide) (fun c30 => ?_) (fun c30 => ?_)
          · refine lv_iconst (pc := 51) (v := jI (-1)) hx hb dX9_slip_51 (by decide) ?_
            exact hret 52 _ hP hS dX9_slip_52 rfl rfl ⟨(by unfold zSlip; (repeat' split) <;> first | (exfalso; omega) | rfl), rfl⟩
          · refine lv_iload_n (pc := 33) hx hb dX9_slip_33 rfl (lv_at hl 3 rfl) ?_
            refine lv_bipush (pc := 34) (v := nI 8) hx hb dX9_slip_34 (by decide) ?_
            refine rc_gt (pc := 36) (tgt := 51) hx hb hz3 (tI_nI (by omega)) dX9_slip_36 (by decide) (fun c36 => ?_) (fun c36 => ?_)
            · refine lv_iconst (pc := 51) (v := jI (-1)) hx hb dX9_slip_51 (by decide) ?_
              exact hret 52 _ hP hS dX9_slip_52 rfl rfl ⟨(by unfold zSlip; (repeat' split) <;> first | (exfalso; omega) | rfl), rfl⟩
            · refine lv_iload (pc := 39) hx hb dX9_slip_39 (lv_at hl 4 rfl) ?_
              refine r0_lt (pc := 41) (tgt := 51) hx hb hz4 dX9_slip_41 (by decide) (fun c41 => ?_) (fun c41 => ?_)
              · refine lv_iconst (pc := 51) (v := jI (-1)) hx hb dX9_slip_51 (by decide) ?_
                exact hret 52 _ hP hS dX9_slip_52 rfl rfl ⟨(by unfold zSlip; (repeat' split) <;> first | (exfalso; omega) | rfl), rfl⟩
              · refine lv_iload (pc := 44) hx hb dX9_slip_44 (lv_at hl 4 rfl) ?_
                refine lv_bipush (pc := 46) (v := nI 10) hx hb dX9_slip_46 (by decide) ?_
                refine rc_le (pc := 48) (tgt := 53) hx hb hz4 (tI_nI (by omega)) dX9_slip_48 (by decide) (fun c48 => ?_) (fun c48 => ?_)
                · obtain ⟨a, rfl⟩ : ∃ k : Nat, z1 = k := ⟨z1.toNat, by omega⟩
                  obtain rfl : x1 = nI a := eq_nI hz1
                  obtain ⟨n, rfl⟩ : ∃ k : Nat, z3 = k := ⟨z3.toNat, by omega⟩
                  obtain rfl : x3 = nI n := eq_nI hz3
                  obtain ⟨t, rfl⟩ : ∃ k : Nat, z4 = k := ⟨z4.toNat, by omega⟩
                  obtain rfl : x4 = nI t := eq_nI hz4
                  have hU8 := outN_8 P a t (by omega) n (sAt S z2) (by omega)
                  refine lv_aload_n (pc := 53) hx hb dX9_slip_53 rfl (lv_at hl 0 rfl) ?_
                  refine va_get (pc := 54) (D := D) (ci := 9) (v := .ref p0) (C := RX9) (T := TX9) (N := 12) hx hb hts hiX9 hown hK hP 0 rfl rfl 2 (by decide) wf26 (fun _ h9 => h9) rfl dX9_slip_54 ?_
                  refine lv_iload_n (pc := 57) hx hb dX9_slip_57 rfl (lv_at hl 1 rfl) ?_
                  refine lv_aload_n (pc := 58) hx hb dX9_slip_58 rfl (lv_at hl 0 rfl) ?_
                  refine va_get (pc := 59) (D := D) (ci := 9) (v := .ref s0) (C := RX9) (T := TX9) (N := 12) hx hb hts hiX9 hown hK hP 0 rfl rfl 4 (by decide) wf36 (fun _ h9 => h9) rfl dX9_slip_59 ?_
                  refine lv_iload_n (pc := 62) hx hb dX9_slip_62 rfl (lv_at hl 2 rfl) ?_
                  refine ci_Vd (pc := 63) (r0 := nI (sAt S z2)) hF hN hK hP hV hS hA (k_X8_highAt l D cI cC cB cS s0 s1 s2 s3 S (x2) z2 hz2) (cwV 1 hts gX9_slip_X8_highAt rfl rfl rfl (by decide +kernel) ⟨Nat.le_of_ble_eq_true rfl, Nat.le_of_ble_eq_true rfl⟩) [5, 6, 7, 8] rfl (by decide) 0 8 rfl rfl rfl hl.1 rfl (Nat.le_of_ble_eq_true rfl) dX9_slip_63 ⟨Nat.le_refl _, Nat.le_refl _⟩ rfl (ws2 := rwW w0 w1 w2 p0 w4 s0 w6 w7 w8 w9 w10 w11 w12 ++ plW p0 p1 p2 p3 cI P ++ stW s0 s1 s2 s3 cI S) rfl (fun H locs hP hS => ?_)
                  refine lv_iload_n (pc := 66) hx hb dX9_slip_66 rfl (lv_at hl 3 rfl) ?_
                  refine lv_iload (pc := 67) hx hb dX9_slip_67 (lv_at hl 4 rfl) ?_
                  refine ci_Sd (pc := 69) hF hN hK hP hV hS hA (k_X9_soAll l D cI cC cB cS n p0 p1 p2 p3 P a (sAt S z2) n t hp (by omega) (by omega) (by omega) rfl (by omega)) (va_cwS 5 hts gX9_slip_X9_smoothOutcomes rfl rfl rfl (by decide +kernel) ⟨(by show n + 10 + 1 ≤ 40; omega), (by show 8 + (6 + 11) + (60 * n + 200) ≤ 1200; omega)⟩) [1, 2, 3, 4] rfl (by decide) rfl hl.1 rfl (Nat.le_of_ble_eq_true rfl) dX9_slip_69 ⟨Nat.le_refl _, Nat.le_refl _⟩ rfl (ws2 := rwW w0 w1 w2 p0 w4 s0 w6 w7 w8 w9 w10 w11 w12 ++ plW p0 p1 p2 p3 cI P ++ stW s0 s1 s2 s3 cI S) rfl (fun H locs hP hS => ?_)
                  refine lv_istore (pc := 72) (lv' := [(6, .int (nI (outN P a t n (sAt S z2)))), (0, .ref w0), (1, .int (nI a)), (2, .int (x2)), (3, .int (nI n)), (4, .int (nI t)), (5, .int (x5))]) hx hb dX9_slip_72 hl (by decide) rfl (fun ls hl => ?_)
                  refine lv_iconst (pc := 74) (v := nI 1) hx hb dX9_slip_74 (by decide) ?_
                  refine lv_istore (pc := 75) (lv' := [(7, .int (nI 1)), (6, .int (nI (outN P a t n (sAt S z2)))), (0, .ref w0), (1, .int (nI a)), (2, .int (x2)), (3, .int (nI n)), (4, .int (nI t)), (5, .int (x5))]) hx hb dX9_slip_75 hl (by decide) rfl (fun ls hl => ?_)
                  refine lv_iconst (pc := 77) (v := nI 0) hx hb dX9_slip_77 (by decide) ?_
                  refine lv_istore (pc := 78) (lv' := [(8, .int (nI 0)), (7, .int (nI 1)), (6, .int (nI (outN P a t n (sAt S z2)))), (0, .ref w0), (1, .int (nI a)), (2, .int (x2)), (3, .int (nI n)), (4, .int (nI t)), (5, .int (x5))]) hx hb dX9_slip_78 hl (by decide) rfl (fun ls hl => ?_)
                  have cut80 : ∀ (fuel : Nat) (k : Nat) (H : Heap) (locs : List Loc) (ls : Array Slot) (hk : k ≤ n) (hfu : n - k < fuel), va_P D vwCl (rwW w0 w1 w2 p0 w4 s0 w6 w7 w8 w9 w10 w11 w12 ++ plW p0 p1 p2 p3 cI P ++ stW s0 s1 s2 s3 cI S) H → va_S A s.heap H locs → lv_has ls 9 [(8, .int (nI k)), (7, .int (nI (10 ^ k))), (6, .int (nI (outN P a t n (sAt S z2)))), (5, .int (x5)), (4, .int (nI t)), (3, .int (nI n)), (2, .int (x2)), (1, .int (nI a)), (0, .ref w0)] → W p l e rmX9_slip s m args below meth c H locs 0 0 QF (F0 m 80 ls []) := by
                    intro fuel
                    induction fuel with
                    | zero => intro k H locs ls hk hfu; omega
                    | succ fuel ih80 =>
                      intro k H locs ls hk hfu hP hS hl
                      have hk8 : 10 ^ k ≤ 100000000 := Nat.le_trans (Nat.pow_le_pow_right (by decide) (show k ≤ 8 by omega)) (by decide)
                      refine lv_iload (pc := 80) hx hb dX9_slip_80 (lv_at hl 0 rfl) ?_
                      refine lv_iload_n (pc := 82) hx hb dX9_slip_82 rfl (lv_at hl 5 rfl) ?_
                      refine rc_ge (pc := 83) (tgt := 99) hx hb (tI_nI (by omega)) (tI_nI (by omega)) dX9_slip_83 (by decide) (fun c83 => ?_) (fun c83 => ?_)
                      · refine lv_iload (pc := 99) hx hb dX9_slip_99 (lv_at hl 1 rfl) ?_
                        refine lv_iload (pc := 101) hx hb dX9_slip_101 (lv_at hl 2 rfl) ?_
                        refine ci_Sd (pc := 103) hF hN hK hP hV hS hA (k_X9_commonDivisor l D cI cC cB cS (10 ^ k) (outN P a t n (sAt S z2)) (by omega) (by omega)) (va_cwS 2 hts gX9_slip_X9_commonDivisor rfl rfl rfl (by decide +kernel) ⟨Nat.le_of_ble_eq_true rfl, Nat.le_of_ble_eq_true rfl⟩) [] rfl (by decide) rfl hl.1 rfl (Nat.le_of_ble_eq_true rfl) dX9_slip_103 ⟨Nat.le_refl _, Nat.le_refl _⟩ rfl (ws2 := rwW w0 w1 w2 p0 w4 s0 w6 w7 w8 w9 w10 w11 w12 ++ plW p0 p1 p2 p3 cI P ++ stW s0 s1 s2 s3 cI S) rfl (fun H locs hP hS => ?_)
                        have fq5 := eg_lt 2147483648 64 ((10 ^ k)) ((outN P a t n (sAt S z2))) (by omega) (by omega)
                        refine lv_istore (pc := 106) (lv' := [(8, .int (nI (eg 64 (10 ^ k) (outN P a t n (sAt S z2))))), (7, .int (nI (10 ^ k))), (6, .int (nI (outN P a t n (sAt S z2)))), (5, .int (x5)), (4, .int (nI t)), (3, .int (nI n)), (2, .int (x2)), (1, .int (nI a)), (0, .ref w0)]) hx hb dX9_slip_106 hl (by decide) rfl (fun ls hl => ?_)
                        refine lv_iload (pc := 108) hx hb dX9_slip_108 (lv_at hl 0 rfl) ?_
                        refine lv_iconst (pc := 110) (v := nI 1) hx hb dX9_slip_110 (by decide) ?_
                        refine rc_ge (pc := 111) (tgt := 116) hx hb (tI_nI (by omega)) (tI_nI (by omega)) dX9_slip_111 (by decide) (fun c111 => ?_) (fun c111 => ?_)
                        · refine lv_iload (pc := 116) hx hb dX9_slip_116 (lv_at hl 3 rfl) ?_
                          refine r0_ne (pc := 118) (tgt := 129) hx hb hz5 dX9_slip_118 (by decide) (fun c118 => ?_) (fun c118 => ?_)
                          · refine lv_iload (pc := 129) hx hb dX9_slip_129 (lv_at hl 1 rfl) ?_
                            refine lv_iload (pc := 131) hx hb dX9_slip_131 (lv_at hl 0 rfl) ?_
                            refine rn_idiv (pc := 133) hx hb (by omega) (by omega) dX9_slip_133 ?_
                            exact hret 134 _ hP hS dX9_slip_134 rfl rfl ⟨(by obtain rfl : k = n := (by omega); unfold zSlip; rw [if_pos (by omega), if_pos (by omega)]; simp only [Int.toNat_natCast]; rw [if_neg (by omega), if_neg (by omega)]; exact jI_nat _), rfl⟩
                          · refine lv_iload (pc := 121) hx hb dX9_slip_121 (lv_at hl 2 rfl) ?_
                            refine lv_iload (pc := 123) hx hb dX9_slip_123 (lv_at hl 0 rfl) ?_
                            refine rn_idiv (pc := 125) hx hb (by omega) (by omega) dX9_slip_125 ?_
                            refine lv_goto (pc := 126) (tgt := 134) hx hb dX9_slip_126 (by decide) ?_
                            exact hret 134 _ hP hS dX9_slip_134 rfl rfl ⟨(by obtain rfl : k = n := (by omega); unfold zSlip; rw [if_pos (by omega), if_pos (by omega)]; simp only [Int.toNat_natCast]; rw [if_neg (by omega), if_pos (by omega)]; exact jI_nat _), rfl⟩
                        · refine lv_iconst (pc := 114) (v := jI (-1)) hx hb dX9_slip_114 (by decide) ?_
                          exact hret 115 _ hP hS dX9_slip_115 rfl rfl ⟨(by obtain rfl : k = n := (by omega); unfold zSlip; rw [if_pos (by omega), if_pos (by omega)]; simp only [Int.toNat_natCast]; rw [if_pos (by omega)]), rfl⟩
                      · refine lv_iload (pc := 86) hx hb dX9_slip_86 (lv_at hl 1 rfl) ?_
                        refine lv_bipush (pc := 88) (v := nI 10) hx hb dX9_slip_88 (by decide) ?_
                        refine rn_imul (pc := 90) hx hb dX9_slip_90 ?_
                        refine lv_istore (pc := 91) (lv' := [(7, .int (nI ((10 ^ k) * 10))), (8, .int (nI k)), (6, .int (nI (outN P a t n (sAt S z2)))), (5, .int (x5)), (4, .int (nI t)), (3, .int (nI n)), (2, .int (x2)), (1, .int (nI a)), (0, .ref w0)]) hx hb dX9_slip_91 hl (by decide) rfl (fun ls hl => ?_)
                        rw [show 10 ^ k * 10 = 10 ^ (k + 1) from rfl] at hl
                        refine lv_iinc (pc := 93) (v := nI (k + 1)) (lv' := [(8, .int (nI (k + 1))), (7, .int (nI (10 ^ (k + 1)))), (6, .int (nI (outN P a t n (sAt S z2)))), (5, .int (x5)), (4, .int (nI t)), (3, .int (nI n)), (2, .int (x2)), (1, .int (nI a)), (0, .ref w0)]) hx hb dX9_slip_93 hl (k := 1) rfl (by rw [← nI_add]; rfl) (by decide) rfl (fun ls hl => ?_)
                        refine lv_goto (pc := 96) (tgt := 80) hx hb dX9_slip_96 (by decide) ?_
                        exact ih80 (k + 1) _ _ _ (by omega) (by omega) hP hS (lv_sub hl [0, 1, 2, 3, 4, 5, 6, 7, 8] rfl)
                  exact cut80 _ 0 _ _ _ (Nat.zero_le _) (Nat.lt_succ_self _) hP hS (lv_sub hl [0, 1, 2, 8, 7, 6, 5, 4, 3] rfl)
                · refine lv_iconst (pc := 51) (v := jI (-1)) hx hb dX9_slip_51 (by decide) ?_
                  exact hret 52 _ hP hS dX9_slip_52 rfl rfl ⟨(by unfold zSlip; (repeat' split) <;> first | (exfalso; omega) | rfl), rfl⟩
        · refine lv_iconst (pc := 27) (v := jI (-1)) hx hb dX9_slip_27 (by decide) ?_
          exact hret 28 _ hP hS dX9_slip_28 rfl rfl ⟨(by unfold zSlip; (repeat' split) <;> first | (exfalso; omega) | rfl), rfl⟩
