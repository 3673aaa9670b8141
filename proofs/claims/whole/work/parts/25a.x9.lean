abbrev rmX9_drawOf : Room := { frames := 0, cells := 0, slots := 0, locals := 0 }
set_option maxHeartbeats 4000000 in
set_option maxRecDepth 100000 in
theorem k_X9_drawOf (l : Launch) (D : va_G) (cI cC cB cS : ClassId) (z : Nat) (k : Nat) (hz9 : z ≤ 9999) (hk9 : k < 60) : CI l D (kT cI cC cB cS) yX9_drawOf wsX9_drawOf rmX9_drawOf [.int (nI z), .int (nI k)] (([] : va_W)) (fun r u => r = nI (drawN z k) ∧ u = ([] : va_W)) := by
  refine ci_intro (by decide) rfl (Nat.le_of_ble_eq_true rfl) ?_
  intro p e s m args below meth c ls A QF hF hK hP hV hS hA hN hl hret
  obtain ⟨hx, hb, hml, hown, hts⟩ := id hF
  have hP : va_P D vwCl (([] : va_W)) s.heap := hP
  have hl : lv_has ls 4 [(0, .int (nI z)), (1, .int (nI k))] := hl
  refine lv_ldc2 (pc := 0) (v := lN 7919) hx hb hown (hts (.constantLong RX9 272 (lN 7919)) (by decide +kernel)) dX9_drawOf_0 ?_
  refine lv_iload_n (pc := 3) hx hb dX9_drawOf_3 rfl (lv_at hl 0 rfl) ?_
  refine lv_i2l (pc := 4) (v := lN z) hx hb dX9_drawOf_4 (nI_l (by omega)) ?_
  refine lv_lmul (pc := 5) hx hb dX9_drawOf_5 ?_
  rw [lN_mul]
  refine lv_ldc2 (pc := 6) (v := lN 6151) hx hb hown (hts (.constantLong RX9 274 (lN 6151)) (by decide +kernel)) dX9_drawOf_6 ?_
  refine lv_iload_n (pc := 9) hx hb dX9_drawOf_9 rfl (lv_at hl 1 rfl) ?_
  refine lv_i2l (pc := 10) (v := lN k) hx hb dX9_drawOf_10 (nI_l (by omega)) ?_
  refine lv_lmul (pc := 11) hx hb dX9_drawOf_11 ?_
  rw [lN_mul]
  refine lv_ladd (pc := 12) hx hb dX9_drawOf_12 ?_
  rw [lN_add]
  refine lv_lconst (pc := 13) (v := lN 1) hx hb dX9_drawOf_13 (by decide) ?_
  refine lv_ladd (pc := 14) hx hb dX9_drawOf_14 ?_
  rw [lN_add]
  refine lv_lstore_n (pc := 15) (lv' := [(2, .long (lN (((7919 * z) + (6151 * k)) + 1))), (0, .int (nI z)), (1, .int (nI k))]) hx hb dX9_drawOf_15 rfl hl (by decide) rfl (fun ls hl => ?_)
  refine lv_lload_n (pc := 16) hx hb dX9_drawOf_16 rfl (lv_at hl 0 rfl) ?_
  refine lv_lload_n (pc := 17) hx hb dX9_drawOf_17 rfl (lv_at hl 0 rfl) ?_
  refine lv_lmul (pc := 18) hx hb dX9_drawOf_18 ?_
  rw [lN_mul]
  refine lv_ldc2 (pc := 19) (v := lN 65521) hx hb hown (hts (.constantLong RX9 276 (lN 65521)) (by decide +kernel)) dX9_drawOf_19 ?_
  refine lv_lrem (pc := 22) hx hb dX9_drawOf_22 (by decide) ?_
  rw [lN_rem (by exact Nat.lt_of_le_of_lt (Nat.mul_le_mul (show 7919 * z + 6151 * k + 1 ≤ 80000000 by omega) (show 7919 * z + 6151 * k + 1 ≤ 80000000 by omega)) (by decide)) (by decide) (by decide)]
  refine lv_l2i (pc := 23) (v := nI (((((7919 * z) + (6151 * k)) + 1) * (((7919 * z) + (6151 * k)) + 1)) % 65521)) hx hb dX9_drawOf_23 (lN_i _) ?_
  exact hret 24 _ hP hS dX9_drawOf_24 rfl rfl ⟨rfl, rfl⟩
