abbrev rmX10_in : Room := { frames := 0, cells := 0, slots := 0, locals := 0 }
set_option maxHeartbeats 4000000 in
set_option maxRecDepth 100000 in
theorem k_X10_in (l : Launch) (D : va_G) (cI cC cB cS : ClassId) (a : Int) (b : Int) (d : Int) (hr : (-4611686018427387904 ≤ a ∧ a < 4611686018427387904) ∧ (-4611686018427387904 ≤ b ∧ b < 4611686018427387904) ∧ (-4611686018427387904 ≤ d ∧ d < 4611686018427387904)) : CI l D (kT cI cC cB cS) yX10_in wsX10_in rmX10_in [.long (jL a), .long (jL b), .long (jL d)] (([] : va_W)) (fun r u => r = nI (if b ≤ a ∧ a ≤ d then 1 else 0) ∧ u = ([] : va_W)) := by
  refine ci_intro (by decide) rfl (Nat.le_of_ble_eq_true rfl) ?_
  intro p e s m args below meth c ls A QF hF hK hP hV hS hA hN hl hret
  obtain ⟨hx, hb, hml, hown, hts⟩ := id hF
  have hP : va_P D vwCl (([] : va_W)) s.heap := hP
  have hl : lv_has ls 6 [(0, .long (jL a)), (2, .long (jL b)), (4, .long (jL d))] := hl
  refine lv_lload_n (pc := 0) hx hb dX10_in_0 rfl (lv_at hl 0 rfl) ?_
  refine lv_lload_n (pc := 1) hx hb dX10_in_1 rfl (lv_at hl 1 rfl) ?_
  refine W.lcmp hx hb dX10_in_2 ?_
  refine rj_lt (pc := 3) (tgt := 17) hx hb (by omega) dX10_in_3 (by decide) (fun c3 => ?_) (fun c3 => ?_)
  · refine lv_iconst (pc := 17) (v := nI 0) hx hb dX10_in_17 (by decide) ?_
    exact hret 18 _ hP hS dX10_in_18 rfl rfl ⟨(by rw [if_neg (show ¬ (b ≤ a ∧ a ≤ d) by omega)]), rfl⟩
  · refine lv_lload_n (pc := 6) hx hb dX10_in_6 rfl (lv_at hl 0 rfl) ?_
    refine lv_lload (pc := 7) hx hb dX10_in_7 (lv_at hl 2 rfl) ?_
    refine W.lcmp hx hb dX10_in_9 ?_
    refine rj_gt (pc := 10) (tgt := 17) hx hb (by omega) dX10_in_10 (by decide) (fun c10 => ?_) (fun c10 => ?_)
    · refine lv_iconst (pc := 17) (v := nI 0) hx hb dX10_in_17 (by decide) ?_
      exact hret 18 _ hP hS dX10_in_18 rfl rfl ⟨(by rw [if_neg (show ¬ (b ≤ a ∧ a ≤ d) by omega)]), rfl⟩
    · refine lv_iconst (pc := 13) (v := nI 1) hx hb dX10_in_13 (by decide) ?_
      refine lv_goto (pc := 14) (tgt := 18) hx hb dX10_in_14 (by decide) ?_
      exact hret 18 _ hP hS dX10_in_18 rfl rfl ⟨(by rw [if_pos (show (b ≤ a ∧ a ≤ d) by omega)]), rfl⟩
abbrev rmX10_has : Room := { frames := 0, cells := 0, slots := 0, locals := 0 }
set_option maxHeartbeats 4000000 in
set_option maxRecDepth 100000 in
theorem k_X10_has (l : Launch) (D : va_G) (cI cC cB cS : ClassId) (st : Nat) (k : Nat) (hs : st < 2147483648) (hk : k < 32) : CI l D (kT cI cC cB cS) yX10_has wsX10_has rmX10_has [.int (nI st), .int (nI k)] (([] : va_W)) (fun r u => r = nI (if st / 2 ^ k % 2 = 1 then 1 else 0) ∧ u = ([] : va_W)) := by
  refine ci_intro (by decide) rfl (Nat.le_of_ble_eq_true rfl) ?_
  intro p e s m args below meth c ls A QF hF hK hP hV hS hA hN hl hret
  obtain ⟨hx, hb, hml, hown, hts⟩ := id hF
  have hP : va_P D vwCl (([] : va_W)) s.heap := hP
  have hl : lv_has ls 2 [(0, .int (nI st)), (1, .int (nI k))] := hl
  refine lv_iload_n (pc := 0) hx hb dX10_has_0 rfl (lv_at hl 0 rfl) ?_
  refine lv_iload_n (pc := 1) hx hb dX10_has_1 rfl (lv_at hl 1 rfl) ?_
  refine lv_ishr (pc := 2) hx hb dX10_has_2 ?_
  refine r_top (nI_shr (by omega) (by omega)) ?_
  refine lv_iconst (pc := 3) (v := nI 1) hx hb dX10_has_3 (by decide) ?_
  refine lv_iand (pc := 4) hx hb dX10_has_4 ?_
  refine r_top (nI_bit _) ?_
  refine lv_iconst (pc := 5) (v := nI 1) hx hb dX10_has_5 (by decide) ?_
  refine rc_ne (pc := 6) (tgt := 13) hx hb (tI_nI (by omega)) (tI_nI (by omega)) dX10_has_6 (by decide) (fun c6 => ?_) (fun c6 => ?_)
  · refine lv_iconst (pc := 13) (v := nI 0) hx hb dX10_has_13 (by decide) ?_
    exact hret 14 _ hP hS dX10_has_14 rfl rfl ⟨(by rw [if_neg (show ¬ (st / 2 ^ k % 2 = 1) by omega)]), rfl⟩
  · refine lv_iconst (pc := 9) (v := nI 1) hx hb dX10_has_9 (by decide) ?_
    refine lv_goto (pc := 10) (tgt := 14) hx hb dX10_has_10 (by decide) ?_
    exact hret 14 _ hP hS dX10_has_14 rfl rfl ⟨(by rw [if_pos (show (st / 2 ^ k % 2 = 1) by omega)]), rfl⟩
abbrev rmX10_bits : Room := { frames := 0, cells := 0, slots := 0, locals := 0 }
set_option maxHeartbeats 4000000 in
set_option maxRecDepth 100000 in
theorem k_X10_bits (l : Launch) (D : va_G) (cI cC cB cS : ClassId) (st : Nat) (hs : st < 2147483648) : CI l D (kT cI cC cB cS) yX10_bits wsX10_bits rmX10_bits [.int (nI st)] (([] : va_W)) (fun r u => r = nI (popN st 6) ∧ u = ([] : va_W)) := by
  refine ci_intro (by decide) rfl (Nat.le_of_ble_eq_true rfl) ?_
  intro p e s m args below meth c ls A QF hF hK hP hV hS hA hN hl hret
  obtain ⟨hx, hb, hml, hown, hts⟩ := id hF
  have hP : va_P D vwCl (([] : va_W)) s.heap := hP
  have hl : lv_has ls 3 [(0, .int (nI st))] := hl
  refine lv_iconst (pc := 0) (v := nI 0) hx hb dX10_bits_0 (by decide) ?_
  refine lv_istore_n (pc := 1) (lv' := [(1, .int (nI 0)), (0, .int (nI st))]) hx hb dX10_bits_1 rfl hl (by decide) rfl (fun ls hl => ?_)
  refine lv_iconst (pc := 2) (v := nI 0) hx hb dX10_bits_2 (by decide) ?_
  refine lv_istore_n (pc := 3) (lv' := [(2, .int (nI 0)), (1, .int (nI 0)), (0, .int (nI st))]) hx hb dX10_bits_3 rfl hl (by decide) rfl (fun ls hl => ?_)
  refine lv_iload_n (pc := 4) hx hb dX10_bits_4 rfl (lv_at hl 0 rfl) ?_
  refine lv_bipush (pc := 5) (v := nI 6) hx hb dX10_bits_5 (by decide) ?_
  refine rc_ge (pc := 7) (tgt := 24) hx hb (tI_nI (by omega)) (tI_nI (by omega)) dX10_bits_7 (by decide) (fun c7 => (by omega)) (fun c7 => ?_)
  refine lv_iload_n (pc := 10) hx hb dX10_bits_10 rfl (lv_at hl 1 rfl) ?_
  refine lv_iload_n (pc := 11) hx hb dX10_bits_11 rfl (lv_at hl 2 rfl) ?_
  refine lv_iload_n (pc := 12) hx hb dX10_bits_12 rfl (lv_at hl 0 rfl) ?_
  refine lv_ishr (pc := 13) hx hb dX10_bits_13 ?_
  refine r_top (nI_shr (by omega) (by omega)) ?_
  refine lv_iconst (pc := 14) (v := nI 1) hx hb dX10_bits_14 (by decide) ?_
  refine lv_iand (pc := 15) hx hb dX10_bits_15 ?_
  refine r_top (nI_bit _) ?_
  refine rn_iadd (pc := 16) hx hb dX10_bits_16 ?_
  refine lv_istore_n (pc := 17) (lv' := [(1, .int (nI (0 + ((st / 2 ^ 0) % 2)))), (2, .int (nI 0)), (0, .int (nI st))]) hx hb dX10_bits_17 rfl hl (by decide) rfl (fun ls hl => ?_)
  refine lv_iinc (pc := 18) (v := nI 1) (lv' := [(2, .int (nI 1)), (1, .int (nI (0 + ((st / 2 ^ 0) % 2)))), (0, .int (nI st))]) hx hb dX10_bits_18 hl (k := 1) rfl (by decide) (by decide) rfl (fun ls hl => ?_)
  refine lv_goto (pc := 21) (tgt := 4) hx hb dX10_bits_21 (by decide) ?_
  refine lv_iload_n (pc := 4) hx hb dX10_bits_4 rfl (lv_at hl 0 rfl) ?_
  refine lv_bipush (pc := 5) (v := nI 6) hx hb dX10_bits_5 (by decide) ?_
  refine rc_ge (pc := 7) (tgt := 24) hx hb (tI_nI (by omega)) (tI_nI (by omega)) dX10_bits_7 (by decide) (fun c7 => (by omega)) (fun c7 => ?_)
  refine lv_iload_n (pc := 10) hx hb dX10_bits_10 rfl (lv_at hl 1 rfl) ?_
  refine lv_iload_n (pc := 11) hx hb dX10_bits_11 rfl (lv_at hl 2 rfl) ?_
  refine lv_iload_n (pc := 12) hx hb dX10_bits_12 rfl (lv_at hl 0 rfl) ?_
  refine lv_ishr (pc := 13) hx hb dX10_bits_13 ?_
  refine r_top (nI_shr (by omega) (by omega)) ?_
  refine lv_iconst (pc := 14) (v := nI 1) hx hb dX10_bits_14 (by decide) ?_
  refine lv_iand (pc := 15) hx hb dX10_bits_15 ?_
  refine r_top (nI_bit _) ?_
  refine rn_iadd (pc := 16) hx hb dX10_bits_16 ?_
  refine lv_istore_n (pc := 17) (lv' := [(1, .int (nI ((0 + ((st / 2 ^ 0) % 2)) + ((st / 2 ^ 1) % 2)))), (2, .int (nI 1)), (0, .int (nI st))]) hx hb dX10_bits_17 rfl hl (by decide) rfl (fun ls hl => ?_)
  refine lv_iinc (pc := 18) (v := nI 2) (lv' := [(2, .int (nI 2)), (1, .int (nI ((0 + ((st / 2 ^ 0) % 2)) + ((st / 2 ^ 1) % 2)))), (0, .int (nI st))]) hx hb dX10_bits_18 hl (k := 1) rfl (by decide) (by decide) rfl (fun ls hl => ?_)
  refine lv_goto (pc := 21) (tgt := 4) hx hb dX10_bits_21 (by decide) ?_
  refine lv_iload_n (pc := 4) hx hb dX10_bits_4 rfl (lv_at hl 0 rfl) ?_
  refine lv_bipush (pc := 5) (v := nI 6) hx hb dX10_bits_5 (by decide) ?_
  refine rc_ge (pc := 7) (tgt := 24) hx hb (tI_nI (by omega)) (tI_nI (by omega)) dX10_bits_7 (by decide) (fun c7 => (by omega)) (fun c7 => ?_)
  refine lv_iload_n (pc := 10) hx hb dX10_bits_10 rfl (lv_at hl 1 rfl) ?_
  refine lv_iload_n (pc := 11) hx hb dX10_bits_11 rfl (lv_at hl 2 rfl) ?_
  refine lv_iload_n (pc := 12) hx hb dX10_bits_12 rfl (lv_at hl 0 rfl) ?_
  refine lv_ishr (pc := 13) hx hb dX10_bits_13 ?_
  refine r_top (nI_shr (by omega) (by omega)) ?_
  refine lv_iconst (pc := 14) (v := nI 1) hx hb dX10_bits_14 (by decide) ?_
  refine lv_iand (pc := 15) hx hb dX10_bits_15 ?_
  refine r_top (nI_bit _) ?_
  refine rn_iadd (pc := 16) hx hb dX10_bits_16 ?_
  refine lv_istore_n (pc := 17) (lv' := [(1, .int (nI (((0 + ((st / 2 ^ 0) % 2)) + ((st / 2 ^ 1) % 2)) + ((st / 2 ^ 2) % 2)))), (2, .int (nI 2)), (0, .int (nI st))]) hx hb dX10_bits_17 rfl hl (by decide) rfl (fun ls hl => ?_)
  refine lv_iinc (pc := 18) (v := nI 3) (lv' := [(2, .int (nI 3)), (1, .int (nI (((0 + ((st / 2 ^ 0) % 2)) + ((st / 2 ^ 1) % 2)) + ((st / 2 ^ 2) % 2)))), (0, .int (nI st))]) hx hb dX10_bits_18 hl (k := 1) rfl (by decide) (by decide) rfl (fun ls hl => ?_)
  refine lv_goto (pc := 21) (tgt := 4) hx hb dX10_bits_21 (by decide) ?_
  refine lv_iload_n (pc := 4) hx hb dX10_bits_4 rfl (lv_at hl 0 rfl) ?_
  refine lv_bipush (pc := 5) (v := nI 6) hx hb dX10_bits_5 (by decide) ?_
  refine rc_ge (pc := 7) (tgt := 24) hx hb (tI_nI (by omega)) (tI_nI (by omega)) dX10_bits_7 (by decide) (fun c7 => (by omega)) (fun c7 => ?_)
  refine lv_iload_n (pc := 10) hx hb dX10_bits_10 rfl (lv_at hl 1 rfl) ?_
  refine lv_iload_n (pc := 11) hx hb dX10_bits_11 rfl (lv_at hl 2 rfl) ?_
  refine lv_iload_n (pc := 12) hx hb dX10_bits_12 rfl (lv_at hl 0 rfl) ?_
  refine lv_ishr (pc := 13) hx hb dX10_bits_13 ?_
  refine r_top (nI_shr (by omega) (by omega)) ?_
  refine lv_iconst (pc := 14) (v := nI 1) hx hb dX10_bits_14 (by decide) ?_
  refine lv_iand (pc := 15) hx hb dX10_bits_15 ?_
  refine r_top (nI_bit _) ?_
  refine rn_iadd (pc := 16) hx hb dX10_bits_16 ?_
  refine lv_istore_n (pc := 17) (lv' := [(1, .int (nI ((((0 + ((st / 2 ^ 0) % 2)) + ((st / 2 ^ 1) % 2)) + ((st / 2 ^ 2) % 2)) + ((st / 2 ^ 3) % 2)))), (2, .int (nI 3)), (0, .int (nI st))]) hx hb dX10_bits_17 rfl hl (by decide) rfl (fun ls hl => ?_)
  refine lv_iinc (pc := 18) (v := nI 4) (lv' := [(2, .int (nI 4)), (1, .int (nI ((((0 + ((st / 2 ^ 0) % 2)) + ((st / 2 ^ 1) % 2)) + ((st / 2 ^ 2) % 2)) + ((st / 2 ^ 3) % 2)))), (0, .int (nI st))]) hx hb dX10_bits_18 hl (k := 1) rfl (by decide) (by decide) rfl (fun ls hl => ?_)
  refine lv_goto (pc := 21) (tgt := 4) hx hb dX10_bits_21 (by decide) ?_
  refine lv_iload_n (pc := 4) hx hb dX10_bits_4 rfl (lv_at hl 0 rfl) ?_
  refine lv_bipush (pc := 5) (v := nI 6) hx hb dX10_bits_5 (by decide) ?_
  refine rc_ge (pc := 7) (tgt := 24) hx hb (tI_nI (by omega)) (tI_nI (by omega)) dX10_bits_7 (by decide) (fun c7 => (by omega)) (fun c7 => ?_)
  refine lv_iload_n (pc := 10) hx hb dX10_bits_10 rfl (lv_at hl 1 rfl) ?_
  refine lv_iload_n (pc := 11) hx hb dX10_bits_11 rfl (lv_at hl 2 rfl) ?_
  refine lv_iload_n (pc := 12) hx hb dX10_bits_12 rfl (lv_at hl 0 rfl) ?_
  refine lv_ishr (pc := 13) hx hb dX10_bits_13 ?_
  refine r_top (nI_shr (by omega) (by omega)) ?_
  refine lv_iconst (pc := 14) (v := nI 1) hx hb dX10_bits_14 (by decide) ?_
  refine lv_iand (pc := 15) hx hb dX10_bits_15 ?_
  refine r_top (nI_bit _) ?_
  refine rn_iadd (pc := 16) hx hb dX10_bits_16 ?_
  refine lv_istore_n (pc := 17) (lv' := [(1, .int (nI (((((0 + ((st / 2 ^ 0) % 2)) + ((st / 2 ^ 1) % 2)) + ((st / 2 ^ 2) % 2)) + ((st / 2 ^ 3) % 2)) + ((st / 2 ^ 4) % 2)))), (2, .int (nI 4)), (0, .int (nI st))]) hx hb dX10_bits_17 rfl hl (by decide) rfl (fun ls hl => ?_)
  refine lv_iinc (pc := 18) (v := nI 5) (lv' := [(2, .int (nI 5)), (1, .int (nI (((((0 + ((st / 2 ^ 0) % 2)) + ((st / 2 ^ 1) % 2)) + ((st / 2 ^ 2) % 2)) + ((st / 2 ^ 3) % 2)) + ((st / 2 ^ 4) % 2)))), (0, .int (nI st))]) hx hb dX10_bits_18 hl (k := 1) rfl (by decide) (by decide) rfl (fun ls hl => ?_)
  refine lv_goto (pc := 21) (tgt := 4) hx hb dX10_bits_21 (by decide) ?_
  refine lv_iload_n (pc := 4) hx hb dX10_bits_4 rfl (lv_at hl 0 rfl) ?_
  refine lv_bipush (pc := 5) (v := nI 6) hx hb dX10_bits_5 (by decide) ?_
  refine rc_ge (pc := 7) (tgt := 24) hx hb (tI_nI (by omega)) (tI_nI (by omega)) dX10_bits_7 (by decide) (fun c7 => (by omega)) (fun c7 => ?_)
  refine lv_iload_n (pc := 10) hx hb dX10_bits_10 rfl (lv_at hl 1 rfl) ?_
  refine lv_iload_n (pc := 11) hx hb dX10_bits_11 rfl (lv_at hl 2 rfl) ?_
  refine lv_iload_n (pc := 12) hx hb dX10_bits_12 rfl (lv_at hl 0 rfl) ?_
  refine lv_ishr (pc := 13) hx hb dX10_bits_13 ?_
  refine r_top (nI_shr (by omega) (by omega)) ?_
  refine lv_iconst (pc := 14) (v := nI 1) hx hb dX10_bits_14 (by decide) ?_
  refine lv_iand (pc := 15) hx hb dX10_bits_15 ?_
  refine r_top (nI_bit _) ?_
  refine rn_iadd (pc := 16) hx hb dX10_bits_16 ?_
  refine lv_istore_n (pc := 17) (lv' := [(1, .int (nI ((((((0 + ((st / 2 ^ 0) % 2)) + ((st / 2 ^ 1) % 2)) + ((st / 2 ^ 2) % 2)) + ((st / 2 ^ 3) % 2)) + ((st / 2 ^ 4) % 2)) + ((st / 2 ^ 5) % 2)))), (2, .int (nI 5)), (0, .int (nI st))]) hx hb dX10_bits_17 rfl hl (by decide) rfl (fun ls hl => ?_)
  refine lv_iinc (pc := 18) (v := nI 6) (lv' := [(2, .int (nI 6)), (1, .int (nI ((((((0 + ((st / 2 ^ 0) % 2)) + ((st / 2 ^ 1) % 2)) + ((st / 2 ^ 2) % 2)) + ((st / 2 ^ 3) % 2)) + ((st / 2 ^ 4) % 2)) + ((st / 2 ^ 5) % 2)))), (0, .int (nI st))]) hx hb dX10_bits_18 hl (k := 1) rfl (by decide) (by decide) rfl (fun ls hl => ?_)
  refine lv_goto (pc := 21) (tgt := 4) hx hb dX10_bits_21 (by decide) ?_
  refine lv_iload_n (pc := 4) hx hb dX10_bits_4 rfl (lv_at hl 0 rfl) ?_
  refine lv_bipush (pc := 5) (v := nI 6) hx hb dX10_bits_5 (by decide) ?_
  refine rc_ge (pc := 7) (tgt := 24) hx hb (tI_nI (by omega)) (tI_nI (by omega)) dX10_bits_7 (by decide) (fun c7 => ?_) (fun c7 => (by omega))
  refine lv_iload_n (pc := 24) hx hb dX10_bits_24 rfl (lv_at hl 1 rfl) ?_
  exact hret 25 _ hP hS dX10_bits_25 rfl rfl ⟨(by show nI (0 + _ + _ + _ + _ + _ + _) = nI (0 + _ + _ + _ + _ + _ + _); rfl), rfl⟩
abbrev rmX10_smaller : Room := { frames := 0, cells := 0, slots := 0, locals := 0 }
set_option maxHeartbeats 4000000 in
set_option maxRecDepth 100000 in
theorem k_X10_smaller (l : Launch) (D : va_G) (cI cC cB cS : ClassId) (x1 : Int32) (z1 : Int) (hz1 : x1.toInt = z1) (x2 : Int32) (z2 : Int) (hz2 : x2.toInt = z2) : CI l D (kT cI cC cB cS) yX10_smaller wsX10_smaller rmX10_smaller [.int (x1), .int (x2)] (([] : va_W)) (fun r u => r = jI (min z1 z2) ∧ u = ([] : va_W)) := by
  refine ci_intro (by decide) rfl (Nat.le_of_ble_eq_true rfl) ?_
  intro p e s m args below meth c ls A QF hF hK hP hV hS hA hN hl hret
  obtain ⟨hx, hb, hml, hown, hts⟩ := id hF
  have hP : va_P D vwCl (([] : va_W)) s.heap := hP
  have hl : lv_has ls 2 [(0, .int (x1)), (1, .int (x2))] := hl
  refine lv_iload_n (pc := 0) hx hb dX10_smaller_0 rfl (lv_at hl 0 rfl) ?_
  refine lv_iload_n (pc := 1) hx hb dX10_smaller_1 rfl (lv_at hl 1 rfl) ?_
  refine rc_ge (pc := 2) (tgt := 9) hx hb hz1 hz2 dX10_smaller_2 (by decide) (fun c2 => ?_) (fun c2 => ?_)
  · refine lv_iload_n (pc := 9) hx hb dX10_smaller_9 rfl (lv_at hl 1 rfl) ?_
    exact hret 10 _ hP hS dX10_smaller_10 rfl rfl ⟨(by rw [jI_self x2, hz2]; congr 1; omega), rfl⟩
  · refine lv_iload_n (pc := 5) hx hb dX10_smaller_5 rfl (lv_at hl 0 rfl) ?_
    refine lv_goto (pc := 6) (tgt := 10) hx hb dX10_smaller_6 (by decide) ?_
    exact hret 10 _ hP hS dX10_smaller_10 rfl rfl ⟨(by rw [jI_self x1, hz1]; congr 1; omega), rfl⟩
set_option maxHeartbeats 4000000 in
set_option maxRecDepth 100000 in
theorem k_X10_smallerN (l : Launch) (D : va_G) (cI cC cB cS : ClassId) (v1 : Nat) (v2 : Nat) (hv1 : v1 < 2147483648) (hv2 : v2 < 2147483648) : CI l D (kT cI cC cB cS) yX10_smaller wsX10_smaller rmX10_smaller [.int (nI v1), .int (nI v2)] (([] : va_W)) (fun r u => r = nI (min v1 v2) ∧ u = ([] : va_W)) := by
  refine ci_intro (by decide) rfl (Nat.le_of_ble_eq_true rfl) ?_
  intro p e s m args below meth c ls A QF hF hK hP hV hS hA hN hl hret
  obtain ⟨hx, hb, hml, hown, hts⟩ := id hF
  have hP : va_P D vwCl (([] : va_W)) s.heap := hP
  have hl : lv_has ls 2 [(0, .int (nI v1)), (1, .int (nI v2))] := hl
  refine lv_iload_n (pc := 0) hx hb dX10_smaller_0 rfl (lv_at hl 0 rfl) ?_
  refine lv_iload_n (pc := 1) hx hb dX10_smaller_1 rfl (lv_at hl 1 rfl) ?_
  refine rc_ge (pc := 2) (tgt := 9) hx hb (tI_nI (by omega)) (tI_nI (by omega)) dX10_smaller_2 (by decide) (fun c2 => ?_) (fun c2 => ?_)
  · refine lv_iload_n (pc := 9) hx hb dX10_smaller_9 rfl (lv_at hl 1 rfl) ?_
    exact hret 10 _ hP hS dX10_smaller_10 rfl rfl ⟨(by congr 1; omega), rfl⟩
  · refine lv_iload_n (pc := 5) hx hb dX10_smaller_5 rfl (lv_at hl 0 rfl) ?_
    refine lv_goto (pc := 6) (tgt := 10) hx hb dX10_smaller_6 (by decide) ?_
    exact hret 10 _ hP hS dX10_smaller_10 rfl rfl ⟨(by congr 1; omega), rfl⟩
abbrev rmX10_larger : Room := { frames := 0, cells := 0, slots := 0, locals := 0 }
set_option maxHeartbeats 4000000 in
set_option maxRecDepth 100000 in
theorem k_X10_larger (l : Launch) (D : va_G) (cI cC cB cS : ClassId) (x1 : Int32) (z1 : Int) (hz1 : x1.toInt = z1) (x2 : Int32) (z2 : Int) (hz2 : x2.toInt = z2) : CI l D (kT cI cC cB cS) yX10_larger wsX10_larger rmX10_larger [.int (x1), .int (x2)] (([] : va_W)) (fun r u => r = jI (max z1 z2) ∧ u = ([] : va_W)) := by
  refine ci_intro (by decide) rfl (Nat.le_of_ble_eq_true rfl) ?_
  intro p e s m args below meth c ls A QF hF hK hP hV hS hA hN hl hret
  obtain ⟨hx, hb, hml, hown, hts⟩ := id hF
  have hP : va_P D vwCl (([] : va_W)) s.heap := hP
  have hl : lv_has ls 2 [(0, .int (x1)), (1, .int (x2))] := hl
  refine lv_iload_n (pc := 0) hx hb dX10_larger_0 rfl (lv_at hl 0 rfl) ?_
  refine lv_iload_n (pc := 1) hx hb dX10_larger_1 rfl (lv_at hl 1 rfl) ?_
  refine rc_ge (pc := 2) (tgt := 9) hx hb hz1 hz2 dX10_larger_2 (by decide) (fun c2 => ?_) (fun c2 => ?_)
  · refine lv_iload_n (pc := 9) hx hb dX10_larger_9 rfl (lv_at hl 0 rfl) ?_
    exact hret 10 _ hP hS dX10_larger_10 rfl rfl ⟨(by rw [jI_self x1, hz1]; congr 1; omega), rfl⟩
  · refine lv_iload_n (pc := 5) hx hb dX10_larger_5 rfl (lv_at hl 1 rfl) ?_
    refine lv_goto (pc := 6) (tgt := 10) hx hb dX10_larger_6 (by decide) ?_
    exact hret 10 _ hP hS dX10_larger_10 rfl rfl ⟨(by rw [jI_self x2, hz2]; congr 1; omega), rfl⟩
set_option maxHeartbeats 4000000 in
set_option maxRecDepth 100000 in
theorem k_X10_largerN (l : Launch) (D : va_G) (cI cC cB cS : ClassId) (v1 : Nat) (v2 : Nat) (hv1 : v1 < 2147483648) (hv2 : v2 < 2147483648) : CI l D (kT cI cC cB cS) yX10_larger wsX10_larger rmX10_larger [.int (nI v1), .int (nI v2)] (([] : va_W)) (fun r u => r = nI (max v1 v2) ∧ u = ([] : va_W)) := by
  refine ci_intro (by decide) rfl (Nat.le_of_ble_eq_true rfl) ?_
  intro p e s m args below meth c ls A QF hF hK hP hV hS hA hN hl hret
  obtain ⟨hx, hb, hml, hown, hts⟩ := id hF
  have hP : va_P D vwCl (([] : va_W)) s.heap := hP
  have hl : lv_has ls 2 [(0, .int (nI v1)), (1, .int (nI v2))] := hl
  refine lv_iload_n (pc := 0) hx hb dX10_larger_0 rfl (lv_at hl 0 rfl) ?_
  refine lv_iload_n (pc := 1) hx hb dX10_larger_1 rfl (lv_at hl 1 rfl) ?_
  refine rc_ge (pc := 2) (tgt := 9) hx hb (tI_nI (by omega)) (tI_nI (by omega)) dX10_larger_2 (by decide) (fun c2 => ?_) (fun c2 => ?_)
  · refine lv_iload_n (pc := 9) hx hb dX10_larger_9 rfl (lv_at hl 0 rfl) ?_
    exact hret 10 _ hP hS dX10_larger_10 rfl rfl ⟨(by congr 1; omega), rfl⟩
  · refine lv_iload_n (pc := 5) hx hb dX10_larger_5 rfl (lv_at hl 1 rfl) ?_
    refine lv_goto (pc := 6) (tgt := 10) hx hb dX10_larger_6 (by decide) ?_
    exact hret 10 _ hP hS dX10_larger_10 rfl rfl ⟨(by congr 1; omega), rfl⟩
abbrev rmX10_copies : Room := { frames := 0, cells := 0, slots := 0, locals := 0 }
set_option maxHeartbeats 4000000 in
set_option maxRecDepth 100000 in
theorem k_X10_copies (l : Launch) (D : va_G) (cI cC cB cS : ClassId) (o : Nat) (ad : Nat → Nat) (P : PL) (I : RI) (sl : Nat → Nat) (a : Nat) (t : Nat) (ha : a + 32 ≤ 384) (ht : t + 32 ≤ 384) (hat : a + 32 ≤ t ∨ t + 32 ≤ a) : CV l D (kT cI cC cB cS) yX10_copies wsX10_copies rmX10_copies [.ref o, .int (nI a), .int (nI t)] ([rmE o ad (pCells P) P.2.2.2.1 P.2.2.2.2.2.1 P.2.2.2.2.2.2 I, nE 384 (ad 25) cI sl]) (fun u => u = [rmE o ad (pCells P) P.2.2.2.1 P.2.2.2.2.2.1 P.2.2.2.2.2.2 I, nE 384 (ad 25) cI (cpN sl a t 32)]) := by
  refine cv_intro (by decide) rfl (Nat.le_of_ble_eq_true rfl) ?_
  intro p e s m args below meth c ls A QF hF hK hP hV hS hA hN hl hret
  obtain ⟨hx, hb, hml, hown, hts⟩ := id hF
  have hP : va_P D vwCl ([rmE o ad (pCells P) P.2.2.2.1 P.2.2.2.2.2.1 P.2.2.2.2.2.2 I, nE 384 (ad 25) cI sl]) s.heap := hP
  have hl : lv_has ls 4 [(0, .ref o), (1, .int (nI a)), (2, .int (nI t))] := hl
  have wf61 := hts (.fieldLink RX10 61 "RemorseWallModel" "slot" "[I") (by decide +kernel)
  have hiX10 : ∀ w ∈ u_ws RX10 TX10 44, w ∈ wsX10_copies := by decide +kernel
  refine lv_iconst (pc := 0) (v := nI 0) hx hb dX10_copies_0 (by decide) ?_
  refine lv_istore_n (pc := 1) (lv' := [(3, .int (nI 0)), (0, .ref o), (1, .int (nI a)), (2, .int (nI t))]) hx hb dX10_copies_1 rfl hl (by decide) rfl (fun ls hl => ?_)
  have cut2 : ∀ (fuel : Nat) (i : Nat) (f : Nat → Nat) (H : Heap) (locs : List Loc) (ls : Array Slot) (hi : i ≤ 32) (hf : f = cpN sl a t i) (hfu : 32 - i < fuel), va_P D vwCl ([rmE o ad (pCells P) P.2.2.2.1 P.2.2.2.2.2.1 P.2.2.2.2.2.2 I, nE 384 (ad 25) cI f]) H → va_S A s.heap H locs → lv_has ls 4 [(3, .int (nI i)), (2, .int (nI t)), (1, .int (nI a)), (0, .ref o)] → W p l e rmX10_copies s m args below meth c H locs 0 0 QF (F0 m 2 ls []) := by
    intro fuel
    induction fuel with
    | zero => intro i f H locs ls hi hf hfu; omega
    | succ fuel ih2 =>
      intro i f H locs ls hi hf hfu hP hS hl
      refine lv_iload_n (pc := 2) hx hb dX10_copies_2 rfl (lv_at hl 0 rfl) ?_
      refine lv_bipush (pc := 3) (v := nI 32) hx hb dX10_copies_3 (by decide) ?_
      refine rc_ge (pc := 5) (tgt := 30) hx hb (tI_nI (by omega)) (tI_nI (by omega)) dX10_copies_5 (by decide) (fun c5 => ?_) (fun c5 => ?_)
      · exact hret 30 _ hP hS dX10_copies_30 rfl (by rw [hf, show i = 32 by omega])
      · refine lv_aload_n (pc := 8) hx hb dX10_copies_8 rfl (lv_at hl 3 rfl) ?_
        refine va_get (pc := 9) (D := D) (ci := 10) (v := .ref (ad 25)) (C := RX10) (T := TX10) (N := 44) hx hb hts hiX10 hown hK hP 0 rfl rfl 25 (by decide) wf61 (fun _ h9 => h9) rfl dX10_copies_9 ?_
        refine lv_iload_n (pc := 12) hx hb dX10_copies_12 rfl (lv_at hl 1 rfl) ?_
        refine lv_iload_n (pc := 13) hx hb dX10_copies_13 rfl (lv_at hl 0 rfl) ?_
        refine rn_iadd (pc := 14) hx hb dX10_copies_14 ?_
        refine lv_aload_n (pc := 15) hx hb dX10_copies_15 rfl (lv_at hl 3 rfl) ?_
        refine va_get (pc := 16) (D := D) (ci := 10) (v := .ref (ad 25)) (C := RX10) (T := TX10) (N := 44) hx hb hts hiX10 hown hK hP 0 rfl rfl 25 (by decide) wf61 (fun _ h9 => h9) rfl dX10_copies_16 ?_
        refine lv_iload_n (pc := 19) hx hb dX10_copies_19 rfl (lv_at hl 2 rfl) ?_
        refine lv_iload_n (pc := 20) hx hb dX10_copies_20 rfl (lv_at hl 0 rfl) ?_
        refine rn_iadd (pc := 21) hx hb dX10_copies_21 ?_
        refine ra_iald (pc := 22) (k := a + i) (v := nI (f (a + i))) hx hb hK hP 1 0 rfl rfl (by omega) (by decide) rfl dX10_copies_22 ?_
        refine rn_iast (pc := 23) (f := f) (k := t + i) (x := f (a + i)) (ws2 := [rmE o ad (pCells P) P.2.2.2.1 P.2.2.2.2.2.1 P.2.2.2.2.2.2 I, nE 384 (ad 25) cI (va_up f (t + i) (f (a + i)))]) hx hb hK hP hV hS 1 0 rfl rfl (by omega) (by decide) dX10_copies_23 rfl rfl (fun H locs hP hS => ?_)
        refine lv_iinc (pc := 24) (v := nI (i + 1)) (lv' := [(3, .int (nI (i + 1))), (2, .int (nI t)), (1, .int (nI a)), (0, .ref o)]) hx hb dX10_copies_24 hl (k := 0) rfl (by rw [← nI_add]; rfl) (by decide) rfl (fun ls hl => ?_)
        refine lv_goto (pc := 27) (tgt := 2) hx hb dX10_copies_27 (by decide) ?_
        exact ih2 (i + 1) (va_up f (t + i) (f (a + i))) _ _ _ (by omega) (by rw [hf]; exact cpN_s hat (by omega)) (by omega) hP hS (lv_sub hl [0, 1, 2, 3] rfl)
  exact cut2 _ 0 sl _ _ _ (by omega) (cpN_0 sl a t).symm (Nat.lt_succ_self _) hP hS (lv_sub hl [0, 3, 2, 1] rfl)
abbrev rmX10_isCell : Room := { frames := 1, cells := 0, slots := 0, locals := 25 }
set_option maxHeartbeats 4000000 in
set_option maxRecDepth 100000 in
theorem k_X10_isCell (l : Launch) (D : va_G) (cI cC cB cS : ClassId) (o : Nat) (ad : Nat → Nat) (P : PL) (I : RI) (x1 : Int32) (z1 : Int) (hz1 : x1.toInt = z1) (hp : pOK P) : CI l D (kT cI cC cB cS) yX10_isCell wsX10_isCell rmX10_isCell [.ref o, .int (x1)] ([rmE o ad (pCells P) P.2.2.2.1 P.2.2.2.2.2.1 P.2.2.2.2.2.2 I]) (fun r u => r = nI (if okX (pCells P) z1 then 1 else 0) ∧ u = [rmE o ad (pCells P) P.2.2.2.1 P.2.2.2.2.2.1 P.2.2.2.2.2.2 I]) := by
  refine ci_intro (by decide) rfl (Nat.le_of_ble_eq_true rfl) ?_
  intro p e s m args below meth c ls A QF hF hK hP hV hS hA hN hl hret
  obtain ⟨hx, hb, hml, hown, hts⟩ := id hF
  have hP : va_P D vwCl ([rmE o ad (pCells P) P.2.2.2.1 P.2.2.2.2.2.1 P.2.2.2.2.2.2 I]) s.heap := hP
  have hl : lv_has ls 2 [(0, .ref o), (1, .int (x1))] := hl
  have wf121 := hts (.fieldLink RX10 121 "RemorseWallModel" "cells" "I") (by decide +kernel)
  have hiX10 : ∀ w ∈ u_ws RX10 TX10 44, w ∈ wsX10_isCell := by decide +kernel
  obtain ⟨hp1, hp2, hp3, hp4, hp5, hp6, hp7⟩ := id hp
  have hcl := pCells_le hp
  have hr1 := i32_rng x1
  rw [hz1] at hr1
  refine lv_iload_n (pc := 0) hx hb dX10_isCell_0 rfl (lv_at hl 1 rfl) ?_
  refine lv_i2l (pc := 1) (v := jL z1) hx hb dX10_isCell_1 (i2l_j hz1) ?_
  refine lv_lconst (pc := 2) (v := jL 0) hx hb dX10_isCell_2 (by decide) ?_
  refine lv_aload_n (pc := 3) hx hb dX10_isCell_3 rfl (lv_at hl 0 rfl) ?_
  refine va_get (pc := 4) (D := D) (ci := 10) (v := .int (nI (pCells P))) (C := RX10) (T := TX10) (N := 44) hx hb hts hiX10 hown hK hP 0 rfl rfl 0 (by decide) wf121 (fun _ h9 => h9) rfl dX10_isCell_4 ?_
  refine lv_iconst (pc := 7) (v := nI 1) hx hb dX10_isCell_7 (by decide) ?_
  refine rz_isub (pc := 8) hx hb (jI_nat _) (show nI 1 = jI 1 from jI_nat 1) dX10_isCell_8 ?_
  refine lv_i2l (pc := 9) (v := jL ((pCells P : Nat) - 1)) hx hb dX10_isCell_9 (i2l_j (jI_to (by omega))) ?_
  refine ci_Sd (pc := 10) hF hN hK hP hV hS hA (k_X10_in l D cI cC cB cS z1 0 ((pCells P : Nat) - 1) (by omega)) (va_cwS 3 hts gX10_isCell_X10_in rfl rfl rfl (by decide +kernel) ⟨Nat.le_of_ble_eq_true rfl, Nat.le_of_ble_eq_true rfl⟩) [] rfl (by decide) rfl hl.1 rfl (Nat.le_of_ble_eq_true rfl) dX10_isCell_10 ⟨Nat.le_refl _, Nat.le_refl _⟩ rfl (ws2 := [rmE o ad (pCells P) P.2.2.2.1 P.2.2.2.2.2.1 P.2.2.2.2.2.2 I]) rfl (fun H locs hP hS => ?_)
  exact hret 13 _ hP hS dX10_isCell_13 (nar_b _) rfl ⟨(by unfold okX; congr 1; (repeat' split) <;> first | rfl | (exfalso; omega)), rfl⟩
abbrev rmX10_isCase : Room := { frames := 1, cells := 0, slots := 0, locals := 25 }
set_option maxHeartbeats 4000000 in
set_option maxRecDepth 100000 in
theorem k_X10_isCase (l : Launch) (D : va_G) (cI cC cB cS : ClassId) (o : Nat) (ad : Nat → Nat) (P : PL) (I : RI) (x1 : Int32) (z1 : Int) (hz1 : x1.toInt = z1) (hp : pOK P) : CI l D (kT cI cC cB cS) yX10_isCase wsX10_isCase rmX10_isCase [.ref o, .int (x1)] ([rmE o ad (pCells P) P.2.2.2.1 P.2.2.2.2.2.1 P.2.2.2.2.2.2 I]) (fun r u => r = nI (if okX (P.2.2.2.2.2.1) z1 then 1 else 0) ∧ u = [rmE o ad (pCells P) P.2.2.2.1 P.2.2.2.2.2.1 P.2.2.2.2.2.2 I]) := by
  refine ci_intro (by decide) rfl (Nat.le_of_ble_eq_true rfl) ?_
  intro p e s m args below meth c ls A QF hF hK hP hV hS hA hN hl hret
  obtain ⟨hx, hb, hml, hown, hts⟩ := id hF
  have hP : va_P D vwCl ([rmE o ad (pCells P) P.2.2.2.1 P.2.2.2.2.2.1 P.2.2.2.2.2.2 I]) s.heap := hP
  have hl : lv_has ls 2 [(0, .ref o), (1, .int (x1))] := hl
  have wf127 := hts (.fieldLink RX10 127 "RemorseWallModel" "cases" "I") (by decide +kernel)
  have hiX10 : ∀ w ∈ u_ws RX10 TX10 44, w ∈ wsX10_isCase := by decide +kernel
  obtain ⟨hp1, hp2, hp3, hp4, hp5, hp6, hp7⟩ := id hp
  have hcl := pCells_le hp
  have hr1 := i32_rng x1
  rw [hz1] at hr1
  refine lv_iload_n (pc := 0) hx hb dX10_isCase_0 rfl (lv_at hl 1 rfl) ?_
  refine lv_i2l (pc := 1) (v := jL z1) hx hb dX10_isCase_1 (i2l_j hz1) ?_
  refine lv_lconst (pc := 2) (v := jL 0) hx hb dX10_isCase_2 (by decide) ?_
  refine lv_aload_n (pc := 3) hx hb dX10_isCase_3 rfl (lv_at hl 0 rfl) ?_
  refine va_get (pc := 4) (D := D) (ci := 10) (v := .int (nI P.2.2.2.2.2.1)) (C := RX10) (T := TX10) (N := 44) hx hb hts hiX10 hown hK hP 0 rfl rfl 3 (by decide) wf127 (fun _ h9 => h9) rfl dX10_isCase_4 ?_
  refine lv_iconst (pc := 7) (v := nI 1) hx hb dX10_isCase_7 (by decide) ?_
  refine rz_isub (pc := 8) hx hb (jI_nat _) (show nI 1 = jI 1 from jI_nat 1) dX10_isCase_8 ?_
  refine lv_i2l (pc := 9) (v := jL ((P.2.2.2.2.2.1 : Nat) - 1)) hx hb dX10_isCase_9 (i2l_j (jI_to (by omega))) ?_
  refine ci_Sd (pc := 10) hF hN hK hP hV hS hA (k_X10_in l D cI cC cB cS z1 0 ((P.2.2.2.2.2.1 : Nat) - 1) (by omega)) (va_cwS 3 hts gX10_isCase_X10_in rfl rfl rfl (by decide +kernel) ⟨Nat.le_of_ble_eq_true rfl, Nat.le_of_ble_eq_true rfl⟩) [] rfl (by decide) rfl hl.1 rfl (Nat.le_of_ble_eq_true rfl) dX10_isCase_10 ⟨Nat.le_refl _, Nat.le_refl _⟩ rfl (ws2 := [rmE o ad (pCells P) P.2.2.2.1 P.2.2.2.2.2.1 P.2.2.2.2.2.2 I]) rfl (fun H locs hP hS => ?_)
  exact hret 13 _ hP hS dX10_isCase_13 (nar_b _) rfl ⟨(by unfold okX; congr 1; (repeat' split) <;> first | rfl | (exfalso; omega)), rfl⟩
abbrev rmX10_isMaid : Room := { frames := 1, cells := 0, slots := 0, locals := 25 }
set_option maxHeartbeats 4000000 in
set_option maxRecDepth 100000 in
theorem k_X10_isMaid (l : Launch) (D : va_G) (cI cC cB cS : ClassId) (o : Nat) (ad : Nat → Nat) (P : PL) (I : RI) (x1 : Int32) (z1 : Int) (hz1 : x1.toInt = z1) (hp : pOK P) : CI l D (kT cI cC cB cS) yX10_isMaid wsX10_isMaid rmX10_isMaid [.ref o, .int (x1)] ([rmE o ad (pCells P) P.2.2.2.1 P.2.2.2.2.2.1 P.2.2.2.2.2.2 I]) (fun r u => r = nI (if okX (P.2.2.2.2.2.2) z1 then 1 else 0) ∧ u = [rmE o ad (pCells P) P.2.2.2.1 P.2.2.2.2.2.1 P.2.2.2.2.2.2 I]) := by
  refine ci_intro (by decide) rfl (Nat.le_of_ble_eq_true rfl) ?_
  intro p e s m args below meth c ls A QF hF hK hP hV hS hA hN hl hret
  obtain ⟨hx, hb, hml, hown, hts⟩ := id hF
  have hP : va_P D vwCl ([rmE o ad (pCells P) P.2.2.2.1 P.2.2.2.2.2.1 P.2.2.2.2.2.2 I]) s.heap := hP
  have hl : lv_has ls 2 [(0, .ref o), (1, .int (x1))] := hl
  have wf130 := hts (.fieldLink RX10 130 "RemorseWallModel" "maids" "I") (by decide +kernel)
  have hiX10 : ∀ w ∈ u_ws RX10 TX10 44, w ∈ wsX10_isMaid := by decide +kernel
  obtain ⟨hp1, hp2, hp3, hp4, hp5, hp6, hp7⟩ := id hp
  have hcl := pCells_le hp
  have hr1 := i32_rng x1
  rw [hz1] at hr1
  refine lv_iload_n (pc := 0) hx hb dX10_isMaid_0 rfl (lv_at hl 1 rfl) ?_
  refine lv_i2l (pc := 1) (v := jL z1) hx hb dX10_isMaid_1 (i2l_j hz1) ?_
  refine lv_lconst (pc := 2) (v := jL 0) hx hb dX10_isMaid_2 (by decide) ?_
  refine lv_aload_n (pc := 3) hx hb dX10_isMaid_3 rfl (lv_at hl 0 rfl) ?_
  refine va_get (pc := 4) (D := D) (ci := 10) (v := .int (nI P.2.2.2.2.2.2)) (C := RX10) (T := TX10) (N := 44) hx hb hts hiX10 hown hK hP 0 rfl rfl 8 (by decide) wf130 (fun _ h9 => h9) rfl dX10_isMaid_4 ?_
  refine lv_iconst (pc := 7) (v := nI 1) hx hb dX10_isMaid_7 (by decide) ?_
  refine rz_isub (pc := 8) hx hb (jI_nat _) (show nI 1 = jI 1 from jI_nat 1) dX10_isMaid_8 ?_
  refine lv_i2l (pc := 9) (v := jL ((P.2.2.2.2.2.2 : Nat) - 1)) hx hb dX10_isMaid_9 (i2l_j (jI_to (by omega))) ?_
  refine ci_Sd (pc := 10) hF hN hK hP hV hS hA (k_X10_in l D cI cC cB cS z1 0 ((P.2.2.2.2.2.2 : Nat) - 1) (by omega)) (va_cwS 3 hts gX10_isMaid_X10_in rfl rfl rfl (by decide +kernel) ⟨Nat.le_of_ble_eq_true rfl, Nat.le_of_ble_eq_true rfl⟩) [] rfl (by decide) rfl hl.1 rfl (Nat.le_of_ble_eq_true rfl) dX10_isMaid_10 ⟨Nat.le_refl _, Nat.le_refl _⟩ rfl (ws2 := [rmE o ad (pCells P) P.2.2.2.1 P.2.2.2.2.2.1 P.2.2.2.2.2.2 I]) rfl (fun H locs hP hS => ?_)
  exact hret 13 _ hP hS dX10_isMaid_13 (nar_b _) rfl ⟨(by unfold okX; congr 1; (repeat' split) <;> first | rfl | (exfalso; omega)), rfl⟩
abbrev rmX10_isNext : Room := { frames := 0, cells := 0, slots := 0, locals := 0 }
set_option maxHeartbeats 4000000 in
set_option maxRecDepth 100000 in
theorem k_X10_isNext (l : Launch) (D : va_G) (cI cC cB cS : ClassId) (o : Nat) (ad : Nat → Nat) (P : PL) (I : RI) (x : Nat) (y : Nat) (hp : pOK P) (hx9 : x < pCells P) (hy9 : y < pCells P) : CI l D (kT cI cC cB cS) yX10_isNext wsX10_isNext rmX10_isNext [.ref o, .int (nI x), .int (nI y)] ([rmE o ad (pCells P) P.2.2.2.1 P.2.2.2.2.2.1 P.2.2.2.2.2.2 I]) (fun r u => r = nI (if nxt P x y then 1 else 0) ∧ u = [rmE o ad (pCells P) P.2.2.2.1 P.2.2.2.2.2.1 P.2.2.2.2.2.2 I]) := by
  refine ci_intro (by decide) rfl (Nat.le_of_ble_eq_true rfl) ?_
  intro p e s m args below meth c ls A QF hF hK hP hV hS hA hN hl hret
  obtain ⟨hx, hb, hml, hown, hts⟩ := id hF
  have hP : va_P D vwCl ([rmE o ad (pCells P) P.2.2.2.1 P.2.2.2.2.2.1 P.2.2.2.2.2.2 I]) s.heap := hP
  have hl : lv_has ls 4 [(0, .ref o), (1, .int (nI x)), (2, .int (nI y))] := hl
  have wf124 := hts (.fieldLink RX10 124 "RemorseWallModel" "wide" "I") (by decide +kernel)
  have hiX10 : ∀ w ∈ u_ws RX10 TX10 44, w ∈ wsX10_isNext := by decide +kernel
  obtain ⟨hp1, hp2, hp3, hp4, hp5, hp6, hp7⟩ := id hp
  have hcl := pCells_le hp
  have hwp := pWi_pos hx9
  have hnx := nxt_iff hp4 hx9 hy9
  have hdx := Nat.div_le_self x P.2.2.2.1
  have hdy := Nat.div_le_self y P.2.2.2.1
  refine lv_iload_n (pc := 0) hx hb dX10_isNext_0 rfl (lv_at hl 1 rfl) ?_
  refine lv_aload_n (pc := 1) hx hb dX10_isNext_1 rfl (lv_at hl 0 rfl) ?_
  refine va_get (pc := 2) (D := D) (ci := 10) (v := .int (nI P.2.2.2.1)) (C := RX10) (T := TX10) (N := 44) hx hb hts hiX10 hown hK hP 0 rfl rfl 1 (by decide) wf124 (fun _ h9 => h9) rfl dX10_isNext_2 ?_
  refine rn_idiv (pc := 5) hx hb (by omega) (by omega) dX10_isNext_5 ?_
  refine lv_iload_n (pc := 6) hx hb dX10_isNext_6 rfl (lv_at hl 2 rfl) ?_
  refine lv_aload_n (pc := 7) hx hb dX10_isNext_7 rfl (lv_at hl 0 rfl) ?_
  refine va_get (pc := 8) (D := D) (ci := 10) (v := .int (nI P.2.2.2.1)) (C := RX10) (T := TX10) (N := 44) hx hb hts hiX10 hown hK hP 0 rfl rfl 1 (by decide) wf124 (fun _ h9 => h9) rfl dX10_isNext_8 ?_
  refine rn_idiv (pc := 11) hx hb (by omega) (by omega) dX10_isNext_11 ?_
  refine rc_ne (pc := 12) (tgt := 33) hx hb (tI_nI (by omega)) (tI_nI (by omega)) dX10_isNext_12 (by decide) (fun c12 => ?_) (fun c12 => ?_)
  · refine lv_iconst (pc := 33) (v := nI 0) hx hb dX10_isNext_33 (by decide) ?_
    refine lv_istore_n (pc := 34) (lv' := [(3, .int (nI 0)), (0, .ref o), (1, .int (nI x)), (2, .int (nI y))]) hx hb dX10_isNext_34 rfl hl (by decide) rfl (fun ls hl => ?_)
    refine lv_iload_n (pc := 35) hx hb dX10_isNext_35 rfl (lv_at hl 0 rfl) ?_
    refine r0_ne (pc := 36) (tgt := 59) hx hb (tI_nI (by omega)) dX10_isNext_36 (by decide) (fun c36 => (by omega)) (fun c36 => ?_)
    refine lv_iload_n (pc := 39) hx hb dX10_isNext_39 rfl (lv_at hl 2 rfl) ?_
    refine lv_iload_n (pc := 40) hx hb dX10_isNext_40 rfl (lv_at hl 3 rfl) ?_
    refine rz_isub (pc := 41) hx hb (jI_nat _) (jI_nat _) dX10_isNext_41 ?_
    refine lv_aload_n (pc := 42) hx hb dX10_isNext_42 rfl (lv_at hl 1 rfl) ?_
    refine va_get (pc := 43) (D := D) (ci := 10) (v := .int (nI P.2.2.2.1)) (C := RX10) (T := TX10) (N := 44) hx hb hts hiX10 hown hK hP 0 rfl rfl 1 (by decide) wf124 (fun _ h9 => h9) rfl dX10_isNext_43 ?_
    refine rc_eq (pc := 46) (tgt := 59) hx hb (jI_to (by omega)) (tI_nI (by omega)) dX10_isNext_46 (by decide) (fun c46 => ?_) (fun c46 => ?_)
    · refine lv_iconst (pc := 59) (v := nI 1) hx hb dX10_isNext_59 (by decide) ?_
      refine lv_goto (pc := 60) (tgt := 64) hx hb dX10_isNext_60 (by decide) ?_
      exact hret 64 _ hP hS dX10_isNext_64 rfl rfl ⟨(by rw [if_pos (show nxt P x y from hnx.mpr (by omega))]), rfl⟩
    · refine lv_iload_n (pc := 49) hx hb dX10_isNext_49 rfl (lv_at hl 3 rfl) ?_
      refine lv_iload_n (pc := 50) hx hb dX10_isNext_50 rfl (lv_at hl 2 rfl) ?_
      refine rz_isub (pc := 51) hx hb (jI_nat _) (jI_nat _) dX10_isNext_51 ?_
      refine lv_aload_n (pc := 52) hx hb dX10_isNext_52 rfl (lv_at hl 1 rfl) ?_
      refine va_get (pc := 53) (D := D) (ci := 10) (v := .int (nI P.2.2.2.1)) (C := RX10) (T := TX10) (N := 44) hx hb hts hiX10 hown hK hP 0 rfl rfl 1 (by decide) wf124 (fun _ h9 => h9) rfl dX10_isNext_53 ?_
      refine rc_ne (pc := 56) (tgt := 63) hx hb (jI_to (by omega)) (tI_nI (by omega)) dX10_isNext_56 (by decide) (fun c56 => ?_) (fun c56 => ?_)
      · refine lv_iconst (pc := 63) (v := nI 0) hx hb dX10_isNext_63 (by decide) ?_
        exact hret 64 _ hP hS dX10_isNext_64 rfl rfl ⟨(by rw [if_neg (show ¬ nxt P x y from (fun q => absurd (hnx.mp q) (by omega)))]), rfl⟩
      · refine lv_iconst (pc := 59) (v := nI 1) hx hb dX10_isNext_59 (by decide) ?_
        refine lv_goto (pc := 60) (tgt := 64) hx hb dX10_isNext_60 (by decide) ?_
        exact hret 64 _ hP hS dX10_isNext_64 rfl rfl ⟨(by rw [if_pos (show nxt P x y from hnx.mpr (by omega))]), rfl⟩
  · refine lv_iload_n (pc := 15) hx hb dX10_isNext_15 rfl (lv_at hl 1 rfl) ?_
    refine lv_iload_n (pc := 16) hx hb dX10_isNext_16 rfl (lv_at hl 2 rfl) ?_
    refine rz_isub (pc := 17) hx hb (jI_nat _) (jI_nat _) dX10_isNext_17 ?_
    refine lv_iconst (pc := 18) (v := nI 1) hx hb dX10_isNext_18 (by decide) ?_
    refine rc_eq (pc := 19) (tgt := 29) hx hb (jI_to (by omega)) (tI_nI (by omega)) dX10_isNext_19 (by decide) (fun c19 => ?_) (fun c19 => ?_)
    · refine lv_iconst (pc := 29) (v := nI 1) hx hb dX10_isNext_29 (by decide) ?_
      refine lv_goto (pc := 30) (tgt := 34) hx hb dX10_isNext_30 (by decide) ?_
      refine lv_istore_n (pc := 34) (lv' := [(3, .int (nI 1)), (0, .ref o), (1, .int (nI x)), (2, .int (nI y))]) hx hb dX10_isNext_34 rfl hl (by decide) rfl (fun ls hl => ?_)
      refine lv_iload_n (pc := 35) hx hb dX10_isNext_35 rfl (lv_at hl 0 rfl) ?_
      refine r0_ne (pc := 36) (tgt := 59) hx hb (tI_nI (by omega)) dX10_isNext_36 (by decide) (fun c36 => ?_) (fun c36 => (by omega))
      refine lv_iconst (pc := 59) (v := nI 1) hx hb dX10_isNext_59 (by decide) ?_
      refine lv_goto (pc := 60) (tgt := 64) hx hb dX10_isNext_60 (by decide) ?_
      exact hret 64 _ hP hS dX10_isNext_64 rfl rfl ⟨(by rw [if_pos (show nxt P x y from hnx.mpr (by omega))]), rfl⟩
    · refine lv_iload_n (pc := 22) hx hb dX10_isNext_22 rfl (lv_at hl 2 rfl) ?_
      refine lv_iload_n (pc := 23) hx hb dX10_isNext_23 rfl (lv_at hl 1 rfl) ?_
      refine rz_isub (pc := 24) hx hb (jI_nat _) (jI_nat _) dX10_isNext_24 ?_
      refine lv_iconst (pc := 25) (v := nI 1) hx hb dX10_isNext_25 (by decide) ?_
      refine rc_ne (pc := 26) (tgt := 33) hx hb (jI_to (by omega)) (tI_nI (by omega)) dX10_isNext_26 (by decide) (fun c26 => ?_) (fun c26 => ?_)
      · refine lv_iconst (pc := 33) (v := nI 0) hx hb dX10_isNext_33 (by decide) ?_
        refine lv_istore_n (pc := 34) (lv' := [(3, .int (nI 0)), (0, .ref o), (1, .int (nI x)), (2, .int (nI y))]) hx hb dX10_isNext_34 rfl hl (by decide) rfl (fun ls hl => ?_)
        refine lv_iload_n (pc := 35) hx hb dX10_isNext_35 rfl (lv_at hl 0 rfl) ?_
        refine r0_ne (pc := 36) (tgt := 59) hx hb (tI_nI (by omega)) dX10_isNext_36 (by decide) (fun c36 => (by omega)) (fun c36 => ?_)
        refine lv_iload_n (pc := 39) hx hb dX10_isNext_39 rfl (lv_at hl 2 rfl) ?_
        refine lv_iload_n (pc := 40) hx hb dX10_isNext_40 rfl (lv_at hl 3 rfl) ?_
        refine rz_isub (pc := 41) hx hb (jI_nat _) (jI_nat _) dX10_isNext_41 ?_
        refine lv_aload_n (pc := 42) hx hb dX10_isNext_42 rfl (lv_at hl 1 rfl) ?_
        refine va_get (pc := 43) (D := D) (ci := 10) (v := .int (nI P.2.2.2.1)) (C := RX10) (T := TX10) (N := 44) hx hb hts hiX10 hown hK hP 0 rfl rfl 1 (by decide) wf124 (fun _ h9 => h9) rfl dX10_isNext_43 ?_
        refine rc_eq (pc := 46) (tgt := 59) hx hb (jI_to (by omega)) (tI_nI (by omega)) dX10_isNext_46 (by decide) (fun c46 => ?_) (fun c46 => ?_)
        · refine lv_iconst (pc := 59) (v := nI 1) hx hb dX10_isNext_59 (by decide) ?_
          refine lv_goto (pc := 60) (tgt := 64) hx hb dX10_isNext_60 (by decide) ?_
          exact hret 64 _ hP hS dX10_isNext_64 rfl rfl ⟨(by rw [if_pos (show nxt P x y from hnx.mpr (by omega))]), rfl⟩
        · refine lv_iload_n (pc := 49) hx hb dX10_isNext_49 rfl (lv_at hl 3 rfl) ?_
          refine lv_iload_n (pc := 50) hx hb dX10_isNext_50 rfl (lv_at hl 2 rfl) ?_
          refine rz_isub (pc := 51) hx hb (jI_nat _) (jI_nat _) dX10_isNext_51 ?_
          refine lv_aload_n (pc := 52) hx hb dX10_isNext_52 rfl (lv_at hl 1 rfl) ?_
          refine va_get (pc := 53) (D := D) (ci := 10) (v := .int (nI P.2.2.2.1)) (C := RX10) (T := TX10) (N := 44) hx hb hts hiX10 hown hK hP 0 rfl rfl 1 (by decide) wf124 (fun _ h9 => h9) rfl dX10_isNext_53 ?_
          refine rc_ne (pc := 56) (tgt := 63) hx hb (jI_to (by omega)) (tI_nI (by omega)) dX10_isNext_56 (by decide) (fun c56 => ?_) (fun c56 => ?_)
          · refine lv_iconst (pc := 63) (v := nI 0) hx hb dX10_isNext_63 (by decide) ?_
            exact hret 64 _ hP hS dX10_isNext_64 rfl rfl ⟨(by rw [if_neg (show ¬ nxt P x y from (fun q => absurd (hnx.mp q) (by omega)))]), rfl⟩
          · refine lv_iconst (pc := 59) (v := nI 1) hx hb dX10_isNext_59 (by decide) ?_
            refine lv_goto (pc := 60) (tgt := 64) hx hb dX10_isNext_60 (by decide) ?_
            exact hret 64 _ hP hS dX10_isNext_64 rfl rfl ⟨(by rw [if_pos (show nxt P x y from hnx.mpr (by omega))]), rfl⟩
      · refine lv_iconst (pc := 29) (v := nI 1) hx hb dX10_isNext_29 (by decide) ?_
        refine lv_goto (pc := 30) (tgt := 34) hx hb dX10_isNext_30 (by decide) ?_
        refine lv_istore_n (pc := 34) (lv' := [(3, .int (nI 1)), (0, .ref o), (1, .int (nI x)), (2, .int (nI y))]) hx hb dX10_isNext_34 rfl hl (by decide) rfl (fun ls hl => ?_)
        refine lv_iload_n (pc := 35) hx hb dX10_isNext_35 rfl (lv_at hl 0 rfl) ?_
        refine r0_ne (pc := 36) (tgt := 59) hx hb (tI_nI (by omega)) dX10_isNext_36 (by decide) (fun c36 => ?_) (fun c36 => (by omega))
        refine lv_iconst (pc := 59) (v := nI 1) hx hb dX10_isNext_59 (by decide) ?_
        refine lv_goto (pc := 60) (tgt := 64) hx hb dX10_isNext_60 (by decide) ?_
        exact hret 64 _ hP hS dX10_isNext_64 rfl rfl ⟨(by rw [if_pos (show nxt P x y from hnx.mpr (by omega))]), rfl⟩
abbrev rmX10_hasBehind : Room := { frames := 0, cells := 0, slots := 0, locals := 0 }
set_option maxHeartbeats 4000000 in
set_option maxRecDepth 100000 in
theorem k_X10_hasBehind (l : Launch) (D : va_G) (cI cC cB cS : ClassId) (o : Nat) (ad : Nat → Nat) (P : PL) (I : RI) (x : Nat) (hp : pOK P) (hx9 : x < pCells P) : CI l D (kT cI cC cB cS) yX10_hasBehind wsX10_hasBehind rmX10_hasBehind [.ref o, .int (nI x)] ([rmE o ad (pCells P) P.2.2.2.1 P.2.2.2.2.2.1 P.2.2.2.2.2.2 I]) (fun r u => r = nI (if hbh P x then 1 else 0) ∧ u = [rmE o ad (pCells P) P.2.2.2.1 P.2.2.2.2.2.1 P.2.2.2.2.2.2 I]) := by
  refine ci_intro (by decide) rfl (Nat.le_of_ble_eq_true rfl) ?_
  intro p e s m args below meth c ls A QF hF hK hP hV hS hA hN hl hret
  obtain ⟨hx, hb, hml, hown, hts⟩ := id hF
  have hP : va_P D vwCl ([rmE o ad (pCells P) P.2.2.2.1 P.2.2.2.2.2.1 P.2.2.2.2.2.2 I]) s.heap := hP
  have hl : lv_has ls 2 [(0, .ref o), (1, .int (nI x))] := hl
  have wf124 := hts (.fieldLink RX10 124 "RemorseWallModel" "wide" "I") (by decide +kernel)
  have hiX10 : ∀ w ∈ u_ws RX10 TX10 44, w ∈ wsX10_hasBehind := by decide +kernel
  obtain ⟨hp1, hp2, hp3, hp4, hp5, hp6, hp7⟩ := id hp
  have hcl := pCells_le hp
  have hwp := pWi_pos hx9
  have hmx := Nat.mod_le x P.2.2.2.1
  refine lv_iload_n (pc := 0) hx hb dX10_hasBehind_0 rfl (lv_at hl 1 rfl) ?_
  refine lv_aload_n (pc := 1) hx hb dX10_hasBehind_1 rfl (lv_at hl 0 rfl) ?_
  refine va_get (pc := 2) (D := D) (ci := 10) (v := .int (nI P.2.2.2.1)) (C := RX10) (T := TX10) (N := 44) hx hb hts hiX10 hown hK hP 0 rfl rfl 1 (by decide) wf124 (fun _ h9 => h9) rfl dX10_hasBehind_2 ?_
  refine rn_irem (pc := 5) hx hb (by omega) (by omega) dX10_hasBehind_5 ?_
  refine lv_aload_n (pc := 6) hx hb dX10_hasBehind_6 rfl (lv_at hl 0 rfl) ?_
  refine va_get (pc := 7) (D := D) (ci := 10) (v := .int (nI P.2.2.2.1)) (C := RX10) (T := TX10) (N := 44) hx hb hts hiX10 hown hK hP 0 rfl rfl 1 (by decide) wf124 (fun _ h9 => h9) rfl dX10_hasBehind_7 ?_
  refine lv_iconst (pc := 10) (v := nI 1) hx hb dX10_hasBehind_10 (by decide) ?_
  refine rn_isub (pc := 11) hx hb (by omega) dX10_hasBehind_11 ?_
  refine rc_ge (pc := 12) (tgt := 19) hx hb (tI_nI (by omega)) (tI_nI (by omega)) dX10_hasBehind_12 (by decide) (fun c12 => ?_) (fun c12 => ?_)
  · refine lv_iconst (pc := 19) (v := nI 0) hx hb dX10_hasBehind_19 (by decide) ?_
    exact hret 20 _ hP hS dX10_hasBehind_20 rfl rfl ⟨(by rw [if_neg (show ¬ (hbh P x) by unfold hbh; omega)]), rfl⟩
  · refine lv_iconst (pc := 15) (v := nI 1) hx hb dX10_hasBehind_15 (by decide) ?_
    refine lv_goto (pc := 16) (tgt := 20) hx hb dX10_hasBehind_16 (by decide) ?_
    exact hret 20 _ hP hS dX10_hasBehind_20 rfl rfl ⟨(by rw [if_pos (show (hbh P x) by unfold hbh; omega)]), rfl⟩
abbrev rmX10_raises : Room := { frames := 1, cells := 0, slots := 0, locals := 21 }
set_option maxHeartbeats 4000000 in
set_option maxRecDepth 100000 in
theorem k_X10_raises (l : Launch) (D : va_G) (cI cC cB cS : ClassId) (o : Nat) (ad : Nat → Nat) (P : PL) (I : RI) (sl : Nat → Nat) (bs : Nat) (x : Nat) (v : Nat) (hsl : ∀ j, sl j < 100000) (hbx : bs + x < 384) (hv : v < 1000) : CV l D (kT cI cC cB cS) yX10_raises wsX10_raises rmX10_raises [.ref o, .int (nI bs), .int (nI x), .int (nI v)] ([rmE o ad (pCells P) P.2.2.2.1 P.2.2.2.2.2.1 P.2.2.2.2.2.2 I, nE 384 (ad 25) cI sl]) (fun u => u = [rmE o ad (pCells P) P.2.2.2.1 P.2.2.2.2.2.1 P.2.2.2.2.2.2 I, nE 384 (ad 25) cI (rRai sl bs x v)]) := by
  refine cv_intro (by decide) rfl (Nat.le_of_ble_eq_true rfl) ?_
  intro p e s m args below meth c ls A QF hF hK hP hV hS hA hN hl hret
  obtain ⟨hx, hb, hml, hown, hts⟩ := id hF
  have hP : va_P D vwCl ([rmE o ad (pCells P) P.2.2.2.1 P.2.2.2.2.2.1 P.2.2.2.2.2.2 I, nE 384 (ad 25) cI sl]) s.heap := hP
  have hl : lv_has ls 4 [(0, .ref o), (1, .int (nI bs)), (2, .int (nI x)), (3, .int (nI v))] := hl
  have wf61 := hts (.fieldLink RX10 61 "RemorseWallModel" "slot" "[I") (by decide +kernel)
  have hiX10 : ∀ w ∈ u_ws RX10 TX10 44, w ∈ wsX10_raises := by decide +kernel
  refine lv_aload_n (pc := 0) hx hb dX10_raises_0 rfl (lv_at hl 0 rfl) ?_
  refine va_get (pc := 1) (D := D) (ci := 10) (v := .ref (ad 25)) (C := RX10) (T := TX10) (N := 44) hx hb hts hiX10 hown hK hP 0 rfl rfl 25 (by decide) wf61 (fun _ h9 => h9) rfl dX10_raises_1 ?_
  refine lv_iload_n (pc := 4) hx hb dX10_raises_4 rfl (lv_at hl 1 rfl) ?_
  refine lv_iload_n (pc := 5) hx hb dX10_raises_5 rfl (lv_at hl 2 rfl) ?_
  refine rn_iadd (pc := 6) hx hb dX10_raises_6 ?_
  refine lv_bipush (pc := 7) (v := nI 40) hx hb dX10_raises_7 (by decide) ?_
  refine lv_aload_n (pc := 9) hx hb dX10_raises_9 rfl (lv_at hl 0 rfl) ?_
  refine va_get (pc := 10) (D := D) (ci := 10) (v := .ref (ad 25)) (C := RX10) (T := TX10) (N := 44) hx hb hts hiX10 hown hK hP 0 rfl rfl 25 (by decide) wf61 (fun _ h9 => h9) rfl dX10_raises_10 ?_
  refine lv_iload_n (pc := 13) hx hb dX10_raises_13 rfl (lv_at hl 1 rfl) ?_
  refine lv_iload_n (pc := 14) hx hb dX10_raises_14 rfl (lv_at hl 2 rfl) ?_
  refine rn_iadd (pc := 15) hx hb dX10_raises_15 ?_
  refine ra_iald (pc := 16) (k := bs + x) (v := nI (sl (bs + x))) hx hb hK hP 1 0 rfl rfl (by omega) (by decide) rfl dX10_raises_16 ?_
  have hq := hsl (bs + x)
  refine lv_iload_n (pc := 17) hx hb dX10_raises_17 rfl (lv_at hl 3 rfl) ?_
  refine rn_iadd (pc := 18) hx hb dX10_raises_18 ?_
  refine ci_Sd (pc := 19) hF hN hK hP hV hS hA (k_X10_smallerN l D cI cC cB cS 40 ((sl (bs + x)) + v) (by omega) (by omega)) (va_cwS 2 hts gX10_raises_X10_smaller rfl rfl rfl (by decide +kernel) ⟨Nat.le_of_ble_eq_true rfl, Nat.le_of_ble_eq_true rfl⟩) [] rfl (by decide) rfl hl.1 rfl (Nat.le_of_ble_eq_true rfl) dX10_raises_19 ⟨Nat.le_refl _, Nat.le_refl _⟩ rfl (ws2 := [rmE o ad (pCells P) P.2.2.2.1 P.2.2.2.2.2.1 P.2.2.2.2.2.2 I, nE 384 (ad 25) cI sl]) rfl (fun H locs hP hS => ?_)
  refine rn_iast (pc := 22) (f := sl) (k := bs + x) (x := min 40 ((sl (bs + x)) + v)) (ws2 := [rmE o ad (pCells P) P.2.2.2.1 P.2.2.2.2.2.1 P.2.2.2.2.2.2 I, nE 384 (ad 25) cI (va_up sl (bs + x) (min 40 ((sl (bs + x)) + v)))]) hx hb hK hP hV hS 1 0 rfl rfl (by omega) (by decide) dX10_raises_22 rfl rfl (fun H locs hP hS => ?_)
  exact hret 23 _ hP hS dX10_raises_23 rfl rfl
abbrev rmX10_own : Room := { frames := 0, cells := 0, slots := 0, locals := 0 }
set_option maxHeartbeats 4000000 in
set_option maxRecDepth 100000 in
theorem k_X10_own (l : Launch) (D : va_G) (cI cC cB cS : ClassId) (o : Nat) (ad : Nat → Nat) (P : PL) (I : RI) (sl : Nat → Nat) (so : Nat → Nat) (cl : Nat → Nat) (de : Nat → Nat) (bs : Nat) (k : Nat) (hsl : ∀ j, sl j < 100000) (hde : ∀ j, de j < 100) (hk : k < 6) (hck : cl k < 24) (hbs : bs + 32 ≤ 384) (hso : ∀ j, so j < 100) : CI l D (kT cI cC cB cS) yX10_own wsX10_own rmX10_own [.ref o, .int (nI bs), .int (nI k)] ([rmE o ad (pCells P) P.2.2.2.1 P.2.2.2.2.2.1 P.2.2.2.2.2.2 I, nE 384 (ad 25) cI sl, nE 6 (ad 4) cI so, nE 6 (ad 5) cI cl, nE 6 (ad 6) cI de]) (fun r u => r = nI (rOwn sl so cl de bs k) ∧ u = [rmE o ad (pCells P) P.2.2.2.1 P.2.2.2.2.2.1 P.2.2.2.2.2.2 I, nE 384 (ad 25) cI sl, nE 6 (ad 4) cI so, nE 6 (ad 5) cI cl, nE 6 (ad 6) cI de]) := by
  refine ci_intro (by decide) rfl (Nat.le_of_ble_eq_true rfl) ?_
  intro p e s m args below meth c ls A QF hF hK hP hV hS hA hN hl hret
  obtain ⟨hx, hb, hml, hown, hts⟩ := id hF
  have hP : va_P D vwCl ([rmE o ad (pCells P) P.2.2.2.1 P.2.2.2.2.2.1 P.2.2.2.2.2.2 I, nE 384 (ad 25) cI sl, nE 6 (ad 4) cI so, nE 6 (ad 5) cI cl, nE 6 (ad 6) cI de]) s.heap := hP
  have hl : lv_has ls 4 [(0, .ref o), (1, .int (nI bs)), (2, .int (nI k))] := hl
  have wf13 := hts (.fieldLink RX10 13 "RemorseWallModel" "sort" "[I") (by decide +kernel)
  have wf16 := hts (.fieldLink RX10 16 "RemorseWallModel" "cell" "[I") (by decide +kernel)
  have wf19 := hts (.fieldLink RX10 19 "RemorseWallModel" "depth" "[I") (by decide +kernel)
  have wf61 := hts (.fieldLink RX10 61 "RemorseWallModel" "slot" "[I") (by decide +kernel)
  have hiX10 : ∀ w ∈ u_ws RX10 TX10 44, w ∈ wsX10_own := by decide +kernel
  refine lv_aload_n (pc := 0) hx hb dX10_own_0 rfl (lv_at hl 0 rfl) ?_
  refine va_get (pc := 1) (D := D) (ci := 10) (v := .ref (ad 6)) (C := RX10) (T := TX10) (N := 44) hx hb hts hiX10 hown hK hP 0 rfl rfl 6 (by decide) wf19 (fun _ h9 => h9) rfl dX10_own_1 ?_
  refine lv_iload_n (pc := 4) hx hb dX10_own_4 rfl (lv_at hl 2 rfl) ?_
  refine ra_iald (pc := 5) (k := k) (v := nI (de k)) hx hb hK hP 4 0 rfl rfl (by omega) (by decide) rfl dX10_own_5 ?_
  have hq := hde k
  refine lv_istore_n (pc := 6) (lv' := [(3, .int (nI (de k))), (0, .ref o), (1, .int (nI bs)), (2, .int (nI k))]) hx hb dX10_own_6 rfl hl (by decide) rfl (fun ls hl => ?_)
  refine lv_aload_n (pc := 7) hx hb dX10_own_7 rfl (lv_at hl 1 rfl) ?_
  refine va_get (pc := 8) (D := D) (ci := 10) (v := .ref (ad 4)) (C := RX10) (T := TX10) (N := 44) hx hb hts hiX10 hown hK hP 0 rfl rfl 4 (by decide) wf13 (fun _ h9 => h9) rfl dX10_own_8 ?_
  refine lv_iload_n (pc := 11) hx hb dX10_own_11 rfl (lv_at hl 3 rfl) ?_
  refine ra_iald (pc := 12) (k := k) (v := nI (so k)) hx hb hK hP 2 0 rfl rfl (by omega) (by decide) rfl dX10_own_12 ?_
  have hq := hso k
  refine lv_iconst (pc := 13) (v := nI 2) hx hb dX10_own_13 (by decide) ?_
  refine rc_ne (pc := 14) (tgt := 21) hx hb (tI_nI (by omega)) (tI_nI (by omega)) dX10_own_14 (by decide) (fun c14 => ?_) (fun c14 => ?_)
  · refine lv_aload_n (pc := 21) hx hb dX10_own_21 rfl (lv_at hl 1 rfl) ?_
    refine va_get (pc := 22) (D := D) (ci := 10) (v := .ref (ad 4)) (C := RX10) (T := TX10) (N := 44) hx hb hts hiX10 hown hK hP 0 rfl rfl 4 (by decide) wf13 (fun _ h9 => h9) rfl dX10_own_22 ?_
    refine lv_iload_n (pc := 25) hx hb dX10_own_25 rfl (lv_at hl 3 rfl) ?_
    refine ra_iald (pc := 26) (k := k) (v := nI (so k)) hx hb hK hP 2 0 rfl rfl (by omega) (by decide) rfl dX10_own_26 ?_
    have hq := hso k
    refine lv_iconst (pc := 27) (v := nI 3) hx hb dX10_own_27 (by decide) ?_
    refine rc_ne (pc := 28) (tgt := 55) hx hb (tI_nI (by omega)) (tI_nI (by omega)) dX10_own_28 (by decide) (fun c28 => ?_) (fun c28 => ?_)
    · refine lv_iload_n (pc := 55) hx hb dX10_own_55 rfl (lv_at hl 0 rfl) ?_
      exact hret 56 _ hP hS dX10_own_56 rfl rfl ⟨(by unfold rOwn; (repeat' split) <;> first | rfl | (exfalso; omega)), rfl⟩
    · refine lv_aload_n (pc := 31) hx hb dX10_own_31 rfl (lv_at hl 1 rfl) ?_
      refine va_get (pc := 32) (D := D) (ci := 10) (v := .ref (ad 25)) (C := RX10) (T := TX10) (N := 44) hx hb hts hiX10 hown hK hP 0 rfl rfl 25 (by decide) wf61 (fun _ h9 => h9) rfl dX10_own_32 ?_
      refine lv_iload_n (pc := 35) hx hb dX10_own_35 rfl (lv_at hl 2 rfl) ?_
      refine lv_aload_n (pc := 36) hx hb dX10_own_36 rfl (lv_at hl 1 rfl) ?_
      refine va_get (pc := 37) (D := D) (ci := 10) (v := .ref (ad 5)) (C := RX10) (T := TX10) (N := 44) hx hb hts hiX10 hown hK hP 0 rfl rfl 5 (by decide) wf16 (fun _ h9 => h9) rfl dX10_own_37 ?_
      refine lv_iload_n (pc := 40) hx hb dX10_own_40 rfl (lv_at hl 3 rfl) ?_
      refine ra_iald (pc := 41) (k := k) (v := nI (cl k)) hx hb hK hP 3 0 rfl rfl (by omega) (by decide) rfl dX10_own_41 ?_
      skip
      refine rn_iadd (pc := 42) hx hb dX10_own_42 ?_
      refine ra_iald (pc := 43) (k := bs + (cl k)) (v := nI (sl (bs + (cl k)))) hx hb hK hP 1 0 rfl rfl (by omega) (by decide) rfl dX10_own_43 ?_
      have hq := hsl (bs + (cl k))
      refine lv_bipush (pc := 44) (v := nI 12) hx hb dX10_own_44 (by decide) ?_
      refine rc_lt (pc := 46) (tgt := 55) hx hb (tI_nI (by omega)) (tI_nI (by omega)) dX10_own_46 (by decide) (fun c46 => ?_) (fun c46 => ?_)
      · refine lv_iload_n (pc := 55) hx hb dX10_own_55 rfl (lv_at hl 0 rfl) ?_
        exact hret 56 _ hP hS dX10_own_56 rfl rfl ⟨(by unfold rOwn; (repeat' split) <;> first | rfl | (exfalso; omega)), rfl⟩
      · refine lv_iconst (pc := 49) (v := nI 2) hx hb dX10_own_49 (by decide) ?_
        refine lv_iload_n (pc := 50) hx hb dX10_own_50 rfl (lv_at hl 0 rfl) ?_
        refine rn_imul (pc := 51) hx hb dX10_own_51 ?_
        refine lv_goto (pc := 52) (tgt := 56) hx hb dX10_own_52 (by decide) ?_
        exact hret 56 _ hP hS dX10_own_56 rfl rfl ⟨(by unfold rOwn; (repeat' split) <;> first | rfl | (exfalso; omega)), rfl⟩
  · refine lv_iconst (pc := 17) (v := nI 0) hx hb dX10_own_17 (by decide) ?_
    refine lv_goto (pc := 18) (tgt := 56) hx hb dX10_own_18 (by decide) ?_
    exact hret 56 _ hP hS dX10_own_56 rfl rfl ⟨(by unfold rOwn; (repeat' split) <;> first | rfl | (exfalso; omega)), rfl⟩
