set_option maxHeartbeats 8000000 in
set_option maxRecDepth 100000 in
theorem law_exit {p : Program} {l : Launch} {e : Env} {s : State} {m : MethodId} {below : List Frame} {meth : Method} {c : Code} {D : va_G} {cI cC cB cS : ClassId} {b L : Nat} {xs : Nat → Int32} {w0 o : Nat} (hL : L ≤ 384) (hC : lwC D cI cC cB cS p s m meth c b L xs) {i : Nat} {H : Heap} {locs : List Loc} {ls : Array Slot} (hi : L < i + 6) (hi2 : i < 10000) (hS : va_S (fun q : Nat => s.heap.size ≤ q) s.heap H locs) (hl : lv_has ls 4 [(3, .int (nI i)), (0, .ref b), (1, .ref w0), (2, .ref o)]) : W p l e room_1 s m #[Value.ref b] below meth c H locs 600000 7302250 (lw_Z below #[Value.ref b] s) (F0 m 18 ls []) := by
  obtain ⟨C0, htsL, hK, hN⟩ := id hC
  obtain ⟨hx, hb, hr, hml, hown, hts0, hX, hbl, hlocks, hgv⟩ := id C0
  have hb : c.code = cL_law := hb
  have hA : ∀ q : Nat, s.heap.size ≤ q → (fun q : Nat => s.heap.size ≤ q) q := fun _ h => h
  have hbA : ¬ (fun q : Nat => s.heap.size ≤ q) b := Nat.not_le.mpr hbl
  refine lv_iload_n (pc := 18) hx hb dL_law_18 rfl (lv_at hl 0 rfl) ?_
  refine lv_aload_n (pc := 19) hx hb dL_law_19 rfl (lv_at hl 1 rfl) ?_
  refine va_slen (pc := 20) hx hb hX hbl hbA hS dL_law_20 ?_
  refine r_top (show Int32.ofNat L = nI L from rfl) ?_
  refine lv_bipush (pc := 21) (v := nI 6) hx hb dL_law_21 (by decide) ?_
  refine rz_isub (pc := 23) hx hb (jI_nat L) (show nI 6 = jI 6 from jI_nat 6) dL_law_23 ?_
  refine rc_gt (pc := 24) (tgt := 876) hx hb (tI_nI (by omega)) (jI_to (by omega)) dL_law_24 (by decide) (fun c24 => ?_) (fun c24 => (by omega))
  refine lv_iconst (pc := 876) (v := 1) hx hb dL_law_876 (by decide) ?_
  refine va_forget (fun q hq => hS.2.2 q hq) ?_
  exact lw_ret hx hb hr hlocks dL_law_877
set_option maxHeartbeats 16000000 in
set_option maxRecDepth 100000 in
theorem law_step {p : Program} {l : Launch} {e : Env} {s : State} {m : MethodId} {below : List Frame} {meth : Method} {c : Code} {D : va_G} {cI cC cB cS : ClassId} {b L : Nat} {xs : Nat → Int32} {w0 o : Nat} {as : List Nat} (hL : L ≤ 384) (hC : lwC D cI cC cB cS p s m meth c b L xs) {i : Nat} {gs : List va_W} {H : Heap} {locs : List Loc} {ls : Array Slot} (hi : i + 6 ≤ L) (hI : LI cI cC cB cS w0 o gs) (hP : va_P D vwCl gs.flatten H) (hV : vD (fun q : Nat => s.heap.size ≤ q) as) (ha : fsts gs.flatten = as) (hS : va_S (fun q : Nat => s.heap.size ≤ q) s.heap H locs) (hl : lv_has ls 4 [(3, .int (nI i)), (0, .ref b), (1, .ref w0), (2, .ref o)]) (next : ∀ (gs2 : List va_W) (H1 : Heap) (locs1 : List Loc) (ls1 : Array Slot), LI cI cC cB cS w0 o gs2 → va_P D vwCl gs2.flatten H1 → fsts gs2.flatten = as → va_S (fun q : Nat => s.heap.size ≤ q) s.heap H1 locs1 → lv_has ls1 4 [(3, .int (nI (i + 6))), (0, .ref b), (1, .ref w0), (2, .ref o)] → W p l e room_1 s m #[Value.ref b] below meth c H1 locs1 600000 7302250 (lw_Z below #[Value.ref b] s) (F0 m 18 ls1 [])) : W p l e room_1 s m #[Value.ref b] below meth c H locs 600000 7302250 (lw_Z below #[Value.ref b] s) (F0 m 18 ls []) := by
  obtain ⟨C0, htsL, hK, hN⟩ := id hC
  obtain ⟨hx, hb, hr, hml, hown, hts0, hX, hbl, hlocks, hgv⟩ := id C0
  have hb : c.code = cL_law := hb
  have hA : ∀ q : Nat, s.heap.size ≤ q → (fun q : Nat => s.heap.size ≤ q) q := fun _ h => h
  have hbA : ¬ (fun q : Nat => s.heap.size ≤ q) b := Nat.not_le.mpr hbl
  obtain ⟨t0, t1, r0, r1, r2, p0, p1, p2, p3, o0, o1, o2, o3, s0, s1, s2, s3, u0, u1, u2, u3, y0, y1, z0, z1, g0, g1, g2, m0, m1, m2, b0, b1, b2, e20, e21, e22, yb, zb, ad, T, R, P, O, S, U, Y, Z, G, M, B, E2, I, to, so, cl, de, si, wa, ir, ms, nt, ns, nc, nd, ni, nw, nr, nk, na, sl, tx, sc, sh, fr, qu, fa, rw, be, mo, th, hLB⟩ := hI
  obtain ⟨rfl, kA, kP, kS, kY, kT, kG, kN⟩ := hLB
  refine lv_iload_n (pc := 18) hx hb dL_law_18 rfl (lv_at hl 0 rfl) ?_
  refine lv_aload_n (pc := 19) hx hb dL_law_19 rfl (lv_at hl 1 rfl) ?_
  refine va_slen (pc := 20) hx hb hX hbl hbA hS dL_law_20 ?_
  refine r_top (show Int32.ofNat L = nI L from rfl) ?_
  refine lv_bipush (pc := 21) (v := nI 6) hx hb dL_law_21 (by decide) ?_
  refine rz_isub (pc := 23) hx hb (jI_nat L) (show nI 6 = jI 6 from jI_nat 6) dL_law_23 ?_
  refine rc_gt (pc := 24) (tgt := 876) hx hb (tI_nI (by omega)) (jI_to (by omega)) dL_law_24 (by decide) (fun c24 => (by omega)) (fun c24 => ?_)
  refine lv_aload_n (pc := 27) hx hb dL_law_27 rfl (lv_at hl 1 rfl) ?_
  refine lv_iload_n (pc := 28) hx hb dL_law_28 rfl (lv_at hl 0 rfl) ?_
  refine ra_sld (pc := 29) (k := i) hx hb hX hbl hbA hS (by omega) (by omega) dL_law_29 ?_
  refine lv_bipush (pc := 30) (v := nI 31) hx hb dL_law_30 (by decide) ?_
  refine lv_iand (pc := 32) hx hb dL_law_32 ?_
  obtain ⟨z9, hz9⟩ : ∃ z9 : Int, (xs i &&& nI 31).toInt = z9 := ⟨_, rfl⟩
  rcases (show z9 < 0 ∨ 25 < z9 ∨ z9 = 0 ∨ z9 = 1 ∨ z9 = 2 ∨ z9 = 3 ∨ z9 = 4 ∨ z9 = 5 ∨ z9 = 6 ∨ z9 = 7 ∨ z9 = 8 ∨ z9 = 9 ∨ z9 = 10 ∨ z9 = 11 ∨ z9 = 12 ∨ z9 = 13 ∨ z9 = 14 ∨ z9 = 15 ∨ z9 = 16 ∨ z9 = 17 ∨ z9 = 18 ∨ z9 = 19 ∨ z9 = 20 ∨ z9 = 21 ∨ z9 = 22 ∨ z9 = 23 ∨ z9 = 24 ∨ z9 = 25 by omega) with c33 | c33 | c33 | c33 | c33 | c33 | c33 | c33 | c33 | c33 | c33 | c33 | c33 | c33 | c33 | c33 | c33 | c33 | c33 | c33 | c33 | c33 | c33 | c33 | c33 | c33 | c33 | c33
  · refine lv_tableOut (pc := 33) (tgt := 870) hx hb dL_law_33 (by rw [hz9]; omega) (by decide) ?_
    exact law_none hL hC hi kA kP kS kY kT kG kN hP hV ha hS (lv_sub hl [0, 1, 2, 3] rfl) next
  · refine lv_tableOut (pc := 33) (tgt := 870) hx hb dL_law_33 (by rw [hz9]; omega) (by decide) ?_
    exact law_none hL hC hi kA kP kS kY kT kG kN hP hV ha hS (lv_sub hl [0, 1, 2, 3] rfl) next
  · refine lv_tableIn (pc := 33) (tgt := 152) hx hb dL_law_33 (by rw [hz9]; omega) (by rw [hz9]; omega) (by rw [hz9, c33] <;> rfl) (by decide) ?_
    exact law_write hL hC hi kA kP kS kY kT kG kN hP hV ha hS (lv_sub hl [0, 1, 2, 3] rfl) next
  · refine lv_tableIn (pc := 33) (tgt := 175) hx hb dL_law_33 (by rw [hz9]; omega) (by rw [hz9]; omega) (by rw [hz9, c33] <;> rfl) (by decide) ?_
    exact law_wipe hL hC hi kA kP kS kY kT kG kN hP hV ha hS (lv_sub hl [0, 1, 2, 3] rfl) next
  · refine lv_tableIn (pc := 33) (tgt := 188) hx hb dL_law_33 (by rw [hz9]; omega) (by rw [hz9]; omega) (by rw [hz9, c33] <;> rfl) (by decide) ?_
    exact law_fault hL hC hi kA kP kS kY kT kG kN hP hV ha hS (lv_sub hl [0, 1, 2, 3] rfl) next
  · refine lv_tableIn (pc := 33) (tgt := 201) hx hb dL_law_33 (by rw [hz9]; omega) (by rw [hz9]; omega) (by rw [hz9, c33] <;> rfl) (by decide) ?_
    exact law_lay hL hC hi kA kP kS kY kT kG kN hP hV ha hS (lv_sub hl [0, 1, 2, 3] rfl) next
  · refine lv_tableIn (pc := 33) (tgt := 214) hx hb dL_law_33 (by rw [hz9]; omega) (by rw [hz9]; omega) (by rw [hz9, c33] <;> rfl) (by decide) ?_
    exact law_high hL hC hi kA kP kS kY kT kG kN hP hV ha hS (lv_sub hl [0, 1, 2, 3] rfl) next
  · refine lv_tableIn (pc := 33) (tgt := 237) hx hb dL_law_33 (by rw [hz9]; omega) (by rw [hz9]; omega) (by rw [hz9, c33] <;> rfl) (by decide) ?_
    exact law_matter hL hC hi kA kP kS kY kT kG kN hP hV ha hS (lv_sub hl [0, 1, 2, 3] rfl) next
  · refine lv_tableIn (pc := 33) (tgt := 270) hx hb dL_law_33 (by rw [hz9]; omega) (by rw [hz9]; omega) (by rw [hz9, c33] <;> rfl) (by decide) ?_
    exact law_maid hL hC hi kA kP kS kY kT kG kN hP hV ha hS (lv_sub hl [0, 1, 2, 3] rfl) next
  · refine lv_tableIn (pc := 33) (tgt := 303) hx hb dL_law_33 (by rw [hz9]; omega) (by rw [hz9]; omega) (by rw [hz9, c33] <;> rfl) (by decide) ?_
    exact law_stroke hL hC hi kA kP kS kY kT kG kN hP hV ha hS (lv_sub hl [0, 1, 2, 3] rfl) next
  · refine lv_tableIn (pc := 33) (tgt := 336) hx hb dL_law_33 (by rw [hz9]; omega) (by rw [hz9]; omega) (by rw [hz9, c33] <;> rfl) (by decide) ?_
    exact law_pass hL hC hi kA kP kS kY kT kG kN hP hV ha hS (lv_sub hl [0, 1, 2, 3] rfl) next
  · refine lv_tableIn (pc := 33) (tgt := 359) hx hb dL_law_33 (by rw [hz9]; omega) (by rw [hz9]; omega) (by rw [hz9, c33] <;> rfl) (by decide) ?_
    exact law_pardon hL hC hi kA kP kS kY kT kG kN hP hV ha hS (lv_sub hl [0, 1, 2, 3] rfl) next
  · refine lv_tableIn (pc := 33) (tgt := 382) hx hb dL_law_33 (by rw [hz9]; omega) (by rw [hz9]; omega) (by rw [hz9, c33] <;> rfl) (by decide) ?_
    exact law_undo hL hC hi kA kP kS kY kT kG kN hP hV ha hS (lv_sub hl [0, 1, 2, 3] rfl) next
  · refine lv_tableIn (pc := 33) (tgt := 395) hx hb dL_law_33 (by rw [hz9]; omega) (by rw [hz9]; omega) (by rw [hz9, c33] <;> rfl) (by decide) ?_
    exact law_behind hL hC hi kA kP kS kY kT kG kN hP hV ha hS (lv_sub hl [0, 1, 2, 3] rfl) next
  · refine lv_tableIn (pc := 33) (tgt := 428) hx hb dL_law_33 (by rw [hz9]; omega) (by rw [hz9]; omega) (by rw [hz9, c33] <;> rfl) (by decide) ?_
    exact law_hollowed hL hC hi kA kP kS kY kT kG kN hP hV ha hS (lv_sub hl [0, 1, 2, 3] rfl) next
  · refine lv_tableIn (pc := 33) (tgt := 451) hx hb dL_law_33 (by rw [hz9]; omega) (by rw [hz9]; omega) (by rw [hz9, c33] <;> rfl) (by decide) ?_
    exact law_smooth hL hC hi kA kP kS kY kT kG kN hP hV ha hS (lv_sub hl [0, 1, 2, 3] rfl) next
  · refine lv_tableIn (pc := 33) (tgt := 494) hx hb dL_law_33 (by rw [hz9]; omega) (by rw [hz9]; omega) (by rw [hz9, c33] <;> rfl) (by decide) ?_
    exact law_round hL hC hi kA kP kS kY kT kG kN hP hV ha hS (lv_sub hl [0, 1, 2, 3] rfl) next
  · refine lv_tableIn (pc := 33) (tgt := 537) hx hb dL_law_33 (by rw [hz9]; omega) (by rw [hz9]; omega) (by rw [hz9, c33] <;> rfl) (by decide) ?_
    exact law_chairs hL hC hi kA kP kS kY kT kG kN hP hV ha hS (lv_sub hl [0, 1, 2, 3] rfl) next
  · refine lv_tableIn (pc := 33) (tgt := 560) hx hb dL_law_33 (by rw [hz9]; omega) (by rw [hz9]; omega) (by rw [hz9, c33] <;> rfl) (by decide) ?_
    exact law_pardons hL hC hi kA kP kS kY kT kG kN hP hV ha hS (lv_sub hl [0, 1, 2, 3] rfl) next
  · refine lv_tableIn (pc := 33) (tgt := 593) hx hb dL_law_33 (by rw [hz9]; omega) (by rw [hz9]; omega) (by rw [hz9, c33] <;> rfl) (by decide) ?_
    exact law_see hL hC hi kA kP kS kY kT kG kN hP hV ha hS (lv_sub hl [0, 1, 2, 3] rfl) next
  · refine lv_tableIn (pc := 33) (tgt := 626) hx hb dL_law_33 (by rw [hz9]; omega) (by rw [hz9]; omega) (by rw [hz9, c33] <;> rfl) (by decide) ?_
    exact law_forget hL hC hi kA kP kS kY kT kG kN hP hV ha hS (lv_sub hl [0, 1, 2, 3] rfl) next
  · refine lv_tableIn (pc := 33) (tgt := 639) hx hb dL_law_33 (by rw [hz9]; omega) (by rw [hz9]; omega) (by rw [hz9, c33] <;> rfl) (by decide) ?_
    exact law_mind hL hC hi kA kP kS kY kT kG kN hP hV ha hS (lv_sub hl [0, 1, 2, 3] rfl) next
  · refine lv_tableIn (pc := 33) (tgt := 672) hx hb dL_law_33 (by rw [hz9]; omega) (by rw [hz9]; omega) (by rw [hz9, c33] <;> rfl) (by decide) ?_
    exact law_deep hL hC hi kA kP kS kY kT kG kN hP hV ha hS (lv_sub hl [0, 1, 2, 3] rfl) next
  · refine lv_tableIn (pc := 33) (tgt := 715) hx hb dL_law_33 (by rw [hz9]; omega) (by rw [hz9]; omega) (by rw [hz9, c33] <;> rfl) (by decide) ?_
    exact law_slip hL hC hi kA kP kS kY kT kG kN hP hV ha hS (lv_sub hl [0, 1, 2, 3] rfl) next
  · refine lv_tableIn (pc := 33) (tgt := 778) hx hb dL_law_33 (by rw [hz9]; omega) (by rw [hz9]; omega) (by rw [hz9, c33] <;> rfl) (by decide) ?_
    exact law_evening hL hC hi kA kP kS kY kT kG kN hP hV ha hS (lv_sub hl [0, 1, 2, 3] rfl) next
  · refine lv_tableIn (pc := 33) (tgt := 821) hx hb dL_law_33 (by rw [hz9]; omega) (by rw [hz9]; omega) (by rw [hz9, c33] <;> rfl) (by decide) ?_
    exact law_keep hL hC hi kA kP kS kY kT kG kN hP hV ha hS (lv_sub hl [0, 1, 2, 3] rfl) next
  · refine lv_tableIn (pc := 33) (tgt := 834) hx hb dL_law_33 (by rw [hz9]; omega) (by rw [hz9]; omega) (by rw [hz9, c33] <;> rfl) (by decide) ?_
    exact law_back hL hC hi kA kP kS kY kT kG kN hP hV ha hS (lv_sub hl [0, 1, 2, 3] rfl) next
  · refine lv_tableIn (pc := 33) (tgt := 847) hx hb dL_law_33 (by rw [hz9]; omega) (by rw [hz9]; omega) (by rw [hz9, c33] <;> rfl) (by decide) ?_
    exact law_count hL hC hi kA kP kS kY kT kG kN hP hV ha hS (lv_sub hl [0, 1, 2, 3] rfl) next
theorem law_loop {p : Program} {l : Launch} {e : Env} {s : State} {m : MethodId} {below : List Frame} {meth : Method} {c : Code} {D : va_G} {cI cC cB cS : ClassId} {b L : Nat} {xs : Nat → Int32} {w0 o : Nat} {as : List Nat} (hL : L ≤ 384) (hC : lwC D cI cC cB cS p s m meth c b L xs) (hV : vD (fun q : Nat => s.heap.size ≤ q) as) : ∀ (n i : Nat) (gs : List va_W) (H : Heap) (locs : List Loc) (ls : Array Slot), L < i + 6 + n → i ≤ L + 6 → LI cI cC cB cS w0 o gs → va_P D vwCl gs.flatten H → fsts gs.flatten = as → va_S (fun q : Nat => s.heap.size ≤ q) s.heap H locs → lv_has ls 4 [(3, .int (nI i)), (0, .ref b), (1, .ref w0), (2, .ref o)] → W p l e room_1 s m #[Value.ref b] below meth c H locs 600000 7302250 (lw_Z below #[Value.ref b] s) (F0 m 18 ls [])
  | 0, i, gs, H, locs, ls, hn, hi, _, _, _, hS, hl => law_exit hL hC (by omega) (by omega) hS hl
  | n + 1, i, gs, H, locs, ls, hn, hi, hI, hP, ha, hS, hl => by
    by_cases q : L < i + 6
    · exact law_exit hL hC q (by omega) hS hl
    · exact law_step hL hC (by omega) hI hP hV ha hS hl (fun gs2 H1 locs1 ls1 h1 h2 h3 h4 h5 => law_loop hL hC hV n (i + 6) gs2 H1 locs1 ls1 (by omega) (by omega) h1 h2 h3 h4 h5)
