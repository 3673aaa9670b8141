set_option maxHeartbeats 16000000 in
set_option maxRecDepth 100000 in
theorem law_chairs {p : Program} {l : Launch} {e : Env} {s : State} {m : MethodId} {below : List Frame} {meth : Method} {c : Code} {D : va_G} {cI cC cB cS : ClassId} {b L : Nat} {xs : Nat → Int32} {w0 o i : Nat} {gs : List va_W} {as : List Nat} {H : Heap} {locs : List Loc} {ls : Array Slot} (hL : L ≤ 384) (hC : lwC D cI cC cB cS p s m meth c b L xs) (hi : i + 6 ≤ L) (hI : LI cI cC cB cS w0 o gs) (hP : va_P D vwCl gs.flatten H) (hV : vD (fun q : Nat => s.heap.size ≤ q) as) (ha : fsts gs.flatten = as) (hS : va_S (fun q : Nat => s.heap.size ≤ q) s.heap H locs) (hl : lv_has ls 4 [(3, .int (nI i)), (0, .ref b), (1, .ref w0), (2, .ref o)]) (next : ∀ (gs2 : List va_W) (H1 : Heap) (locs1 : List Loc) (ls1 : Array Slot), LI cI cC cB cS w0 o gs2 → va_P D vwCl gs2.flatten H1 → fsts gs2.flatten = as → va_S (fun q : Nat => s.heap.size ≤ q) s.heap H1 locs1 → lv_has ls1 4 [(3, .int (nI (i + 6))), (0, .ref b), (1, .ref w0), (2, .ref o)] → W p l e room_1 s m #[Value.ref b] below meth c H1 locs1 600000 7302250 (lw_Z below #[Value.ref b] s) (F0 m 18 ls1 [])) : W p l e room_1 s m #[Value.ref b] below meth c H locs 600000 7302250 (lw_Z below #[Value.ref b] s) (F0 m 537 ls []) := by
  obtain ⟨C0, htsL, hK, hN⟩ := hC
  obtain ⟨hx, hb, hr, hml, hown, hts0, hX, hbl, hlocks, hgv⟩ := id C0
  have hb : c.code = cL_law := hb
  have hA : ∀ q : Nat, s.heap.size ≤ q → (fun q : Nat => s.heap.size ≤ q) q := fun _ h => h
  have hbA : ¬ (fun q : Nat => s.heap.size ≤ q) b := Nat.not_le.mpr hbl
  have hF : mFacts p s m #[Value.ref b] c cL_law 4 wsL_law RL := ⟨hx, hb, hml, hown, htsL⟩
  have hl : lv_has ls 4 [(3, .int (nI i)), (0, .ref b), (1, .ref w0), (2, .ref o)] := hl
  obtain ⟨t0, t1, r0, r1, r2, p0, p1, p2, p3, o0, o1, o2, o3, s0, s1, s2, s3, u0, u1, u2, u3, y0, y1, z0, z1, g0, g1, g2, m0, m1, m2, b0, b1, b2, e20, e21, e22, yb, zb, ad, T, R, P, O, S, U, Y, Z, G, M, B, E2, I, to, so, cl, de, si, wa, ir, ms, nt, ns, nc, nd, ni, nw, nr, nk, na, sl, tx, sc, sh, fr, qu, fa, rw, be, mo, th, rfl, kA, kP, kS, kY, kT, kG, kN⟩ := hI
  obtain ⟨hTo, hRf, hRg, hOp, hMb⟩ := id kA
  obtain ⟨hpk, hc, hm, hto, htb, hso, hde, hsi, hwa, hir, hms⟩ := id kP
  obtain ⟨hsO, hf0, hsb⟩ := id kS
  obtain ⟨hst, hx2, hy9, hl9⟩ := id hsO
  obtain ⟨hy1, hya, hz1, hzk⟩ := id kY
  obtain ⟨hte, htl⟩ := id kT
  obtain ⟨hg8, hgb, hgn, hge, hsc⟩ := id kG
  obtain ⟨hnb, hbg⟩ := id kN
  have hw := hpk.1
  have hp := hw.1
  have hm3 : P.2.2.2.2.2.2 ≤ 3 := hp.2.2.2.2.2.2
  have hcl := pCells_le hp
  have hac8 : I.2.2.2.2.1 ≤ 8 := by rw [hya]; exact hy1.1
  have hkp2 : I.2.2.2.2.2.1 ≤ 2 := by rw [hzk]; exact hz1.1
  have hsn8 : I.2.2.2.2.2.2.2.2.2.2.1 ≤ 8 := by rw [hgn]; exact hg8
  have hlen : T.2 = I.2.2.2.2.2.2.1 := hte.1
  refine lv_aload_n (pc := 537) hx hb dL_law_537 rfl (lv_at hl 2 rfl) ?_
  refine lv_aload_n (pc := 538) hx hb dL_law_538 rfl (lv_at hl 1 rfl) ?_
  refine lv_iload_n (pc := 539) hx hb dL_law_539 rfl (lv_at hl 0 rfl) ?_
  refine lv_iconst (pc := 540) (v := nI 1) hx hb dL_law_540 (by decide) ?_
  refine rn_iadd (pc := 541) hx hb dL_law_541 ?_
  refine ra_sld (pc := 542) (pc := 542) (k := i + 1) hx hb hX hbl hbA hS (by omega) (by omega) dL_law_542 ?_
  refine ci_G (pc := 543) (pc := 543) (As := [.int (xs (i + 1))]) (rest := []) hF hN hK hP hV ha hS hA (k_X9_chairs l D cI cC cB cS w0 t0 r0 o0 u0 y0 z0 g0 m0 b0 p0 p1 p2 p3 P s0 s1 s2 s3 S e20 e21 e22 E2 (xs (i + 1)) ((xs (i + 1)).toInt) rfl hp hst.1) (cwV 1 htsL gL_law_X9_chairs rfl rfl rfl (by decide +kernel) ⟨Nat.le_of_ble_eq_true rfl, Nat.le_of_ble_eq_true rfl⟩) [0, 3, 5, 12] rfl (by decide) 0 9 rfl rfl rfl hl.1 rfl (Nat.le_of_ble_eq_true rfl) dL_law_543 ⟨Nat.le_of_ble_eq_true rfl, Nat.le_of_ble_eq_true rfl⟩ (fun r u H locs hq hG hS => ?_)
  obtain ⟨rfl, E9, rfl⟩ := hq
  obtain ⟨hP, ha⟩ := hG [rwW w0 t0 r0 p0 o0 s0 u0 y0 z0 g0 m0 b0 e20, plW p0 p1 p2 p3 cI P, stW s0 s1 s2 s3 cI S, seW e20 e21 e22 cI E9] rfl rfl
  have hP : va_P D vwCl (List.flatten [rwW w0 t0 r0 p0 o0 s0 u0 y0 z0 g0 m0 b0 e20, ltW t0 t1 cC T, rdW r0 r1 r2 cI R, plW p0 p1 p2 p3 cI P, plW o0 o1 o2 o3 cI O, stW s0 s1 s2 s3 cI S, stW u0 u1 u2 u3 cI U, y8G y0 y1 yb cI cS Y, y2G z0 z1 zb cI cS Z, sgW g0 g1 g2 cI G, smW m0 m1 m2 cI M, roW b0 b1 b2 cI B, seW e20 e21 e22 cI E9, [rmE o ad (pCells P) P.2.2.2.1 P.2.2.2.2.2.1 P.2.2.2.2.2.2 I], [nE 24 (ad 2) cI to], [nE 6 (ad 4) cI so], [nE 6 (ad 5) cI cl], [nE 6 (ad 6) cI de], [nE 6 (ad 7) cI si], [nE 3 (ad 9) cI wa], [nE 3 (ad 10) cI ir], [nE 3 (ad 11) cI ms], [nE 24 (ad 14) cI nt], [nE 6 (ad 16) cI ns], [nE 6 (ad 17) cI nc], [nE 6 (ad 18) cI nd], [nE 6 (ad 19) cI ni], [nE 3 (ad 21) cI nw], [nE 3 (ad 22) cI nr], [nE 3 (ad 23) cI nk], [nE 3 (ad 24) cI na], [nE 384 (ad 25) cI sl], [nE 200 (ad 29) cB tx], [nE 8 (ad 34) cI sc], [nE 8 (ad 35) cI sh], [zE 984 (ad 36) cI fa], [nE 984 (ad 37) cI fr], [nE 984 (ad 38) cI qu], [zE 5 (ad 40) cI rw], [zE 5 (ad 41) cI be], [zE 64 (ad 42) cI mo], [zE 64 (ad 43) cI th]]) H := hP
  have ha : fsts (List.flatten [rwW w0 t0 r0 p0 o0 s0 u0 y0 z0 g0 m0 b0 e20, ltW t0 t1 cC T, rdW r0 r1 r2 cI R, plW p0 p1 p2 p3 cI P, plW o0 o1 o2 o3 cI O, stW s0 s1 s2 s3 cI S, stW u0 u1 u2 u3 cI U, y8G y0 y1 yb cI cS Y, y2G z0 z1 zb cI cS Z, sgW g0 g1 g2 cI G, smW m0 m1 m2 cI M, roW b0 b1 b2 cI B, seW e20 e21 e22 cI E9, [rmE o ad (pCells P) P.2.2.2.1 P.2.2.2.2.2.1 P.2.2.2.2.2.2 I], [nE 24 (ad 2) cI to], [nE 6 (ad 4) cI so], [nE 6 (ad 5) cI cl], [nE 6 (ad 6) cI de], [nE 6 (ad 7) cI si], [nE 3 (ad 9) cI wa], [nE 3 (ad 10) cI ir], [nE 3 (ad 11) cI ms], [nE 24 (ad 14) cI nt], [nE 6 (ad 16) cI ns], [nE 6 (ad 17) cI nc], [nE 6 (ad 18) cI nd], [nE 6 (ad 19) cI ni], [nE 3 (ad 21) cI nw], [nE 3 (ad 22) cI nr], [nE 3 (ad 23) cI nk], [nE 3 (ad 24) cI na], [nE 384 (ad 25) cI sl], [nE 200 (ad 29) cB tx], [nE 8 (ad 34) cI sc], [nE 8 (ad 35) cI sh], [zE 984 (ad 36) cI fa], [nE 984 (ad 37) cI fr], [nE 984 (ad 38) cI qu], [zE 5 (ad 40) cI rw], [zE 5 (ad 41) cI be], [zE 64 (ad 42) cI mo], [zE 64 (ad 43) cI th]]) = as := ha
  refine lv_aload_n (pc := 546) hx hb dL_law_546 rfl (lv_at hl 3 rfl) ?_
  refine lv_aload_n (pc := 547) hx hb dL_law_547 rfl (lv_at hl 1 rfl) ?_
  refine lv_iload_n (pc := 548) hx hb dL_law_548 rfl (lv_at hl 0 rfl) ?_
  refine lv_iconst (pc := 549) (v := nI 1) hx hb dL_law_549 (by decide) ?_
  refine rn_iadd (pc := 550) hx hb dL_law_550 ?_
  refine ra_sld (pc := 551) (pc := 551) (k := i + 1) hx hb hX hbl hbA hS (by omega) (by omega) dL_law_551 ?_
  refine ci_G (pc := 552) (pc := 552) (As := [.int (xs (i + 1))]) (rest := [.int (jI (zChairs P S (xs (i + 1)).toInt))]) hF hN hK hP hV ha hS hA (k_X10_chairs l D cI cC cB cS o ad P I sl mo th (xs (i + 1)) ((xs (i + 1)).toInt) rfl hw (sB_h hsb)) (cwV 1 htsL gL_law_X10_chairs rfl rfl rfl (by decide +kernel) ⟨Nat.le_of_ble_eq_true rfl, Nat.le_of_ble_eq_true rfl⟩) [13, 31, 40, 41] rfl (by decide) 0 10 rfl rfl rfl hl.1 rfl (Nat.le_of_ble_eq_true rfl) dL_law_552 ⟨Nat.le_of_ble_eq_true rfl, Nat.le_of_ble_eq_true rfl⟩ (fun r u H locs hq hG hS => ?_)
  obtain ⟨rfl, m9, t9, rfl⟩ := hq
  obtain ⟨hP, ha⟩ := hG [[rmE o ad (pCells P) P.2.2.2.1 P.2.2.2.2.2.1 P.2.2.2.2.2.2 I], [nE 384 (ad 25) cI sl], [zE 64 (ad 42) cI m9], [zE 64 (ad 43) cI t9]] rfl rfl
  have hP : va_P D vwCl (List.flatten [rwW w0 t0 r0 p0 o0 s0 u0 y0 z0 g0 m0 b0 e20, ltW t0 t1 cC T, rdW r0 r1 r2 cI R, plW p0 p1 p2 p3 cI P, plW o0 o1 o2 o3 cI O, stW s0 s1 s2 s3 cI S, stW u0 u1 u2 u3 cI U, y8G y0 y1 yb cI cS Y, y2G z0 z1 zb cI cS Z, sgW g0 g1 g2 cI G, smW m0 m1 m2 cI M, roW b0 b1 b2 cI B, seW e20 e21 e22 cI E9, [rmE o ad (pCells P) P.2.2.2.1 P.2.2.2.2.2.1 P.2.2.2.2.2.2 I], [nE 24 (ad 2) cI to], [nE 6 (ad 4) cI so], [nE 6 (ad 5) cI cl], [nE 6 (ad 6) cI de], [nE 6 (ad 7) cI si], [nE 3 (ad 9) cI wa], [nE 3 (ad 10) cI ir], [nE 3 (ad 11) cI ms], [nE 24 (ad 14) cI nt], [nE 6 (ad 16) cI ns], [nE 6 (ad 17) cI nc], [nE 6 (ad 18) cI nd], [nE 6 (ad 19) cI ni], [nE 3 (ad 21) cI nw], [nE 3 (ad 22) cI nr], [nE 3 (ad 23) cI nk], [nE 3 (ad 24) cI na], [nE 384 (ad 25) cI sl], [nE 200 (ad 29) cB tx], [nE 8 (ad 34) cI sc], [nE 8 (ad 35) cI sh], [zE 984 (ad 36) cI fa], [nE 984 (ad 37) cI fr], [nE 984 (ad 38) cI qu], [zE 5 (ad 40) cI rw], [zE 5 (ad 41) cI be], [zE 64 (ad 42) cI m9], [zE 64 (ad 43) cI t9]]) H := hP
  have ha : fsts (List.flatten [rwW w0 t0 r0 p0 o0 s0 u0 y0 z0 g0 m0 b0 e20, ltW t0 t1 cC T, rdW r0 r1 r2 cI R, plW p0 p1 p2 p3 cI P, plW o0 o1 o2 o3 cI O, stW s0 s1 s2 s3 cI S, stW u0 u1 u2 u3 cI U, y8G y0 y1 yb cI cS Y, y2G z0 z1 zb cI cS Z, sgW g0 g1 g2 cI G, smW m0 m1 m2 cI M, roW b0 b1 b2 cI B, seW e20 e21 e22 cI E9, [rmE o ad (pCells P) P.2.2.2.1 P.2.2.2.2.2.1 P.2.2.2.2.2.2 I], [nE 24 (ad 2) cI to], [nE 6 (ad 4) cI so], [nE 6 (ad 5) cI cl], [nE 6 (ad 6) cI de], [nE 6 (ad 7) cI si], [nE 3 (ad 9) cI wa], [nE 3 (ad 10) cI ir], [nE 3 (ad 11) cI ms], [nE 24 (ad 14) cI nt], [nE 6 (ad 16) cI ns], [nE 6 (ad 17) cI nc], [nE 6 (ad 18) cI nd], [nE 6 (ad 19) cI ni], [nE 3 (ad 21) cI nw], [nE 3 (ad 22) cI nr], [nE 3 (ad 23) cI nk], [nE 3 (ad 24) cI na], [nE 384 (ad 25) cI sl], [nE 200 (ad 29) cB tx], [nE 8 (ad 34) cI sc], [nE 8 (ad 35) cI sh], [zE 984 (ad 36) cI fa], [nE 984 (ad 37) cI fr], [nE 984 (ad 38) cI qu], [zE 5 (ad 40) cI rw], [zE 5 (ad 41) cI be], [zE 64 (ad 42) cI m9], [zE 64 (ad 43) cI t9]]) = as := ha
  refine r_top (show jI (if 0 ≤ (xs (i + 1)).toInt ∧ (xs (i + 1)).toInt ≤ 40 then maxTo (chN P sl (xs (i + 1)).toInt.toNat P.2.2.2.2.1) 64 else -1) = jI (zChairs P S (xs (i + 1)).toInt) from congrArg jI (chairs_z hp (fun k hk => by rw [rF_at hf0 (show k < 24 by omega), sAt_n (show k < 24 by omega)]) _)) ?_
  refine rc_eq (pc := 552) (pc := 555) (tgt := 870) hx hb rfl rfl dL_law_555 (by decide) (fun _ => ?_) (fun q => absurd rfl q)
  refine lv_iinc (pc := 870) (v := nI (i + 6)) (lv' := [(3, .int (nI (i + 6))), (0, .ref b), (1, .ref w0), (2, .ref o)]) hx hb dL_law_870 hl (k := 0) rfl (by rw [← nI_add]; rfl) (by decide) rfl (fun ls hl => ?_)
  refine lv_goto (pc := 870) (pc := 873) (tgt := 18) hx hb dL_law_873 (by decide) ?_
  exact next _ _ _ _ ⟨t0, t1, r0, r1, r2, p0, p1, p2, p3, o0, o1, o2, o3, s0, s1, s2, s3, u0, u1, u2, u3, y0, y1, z0, z1, g0, g1, g2, m0, m1, m2, b0, b1, b2, e20, e21, e22, yb, zb, ad, T, R, P, O, S, U, Y, Z, G, M, B, E9, I, to, so, cl, de, si, wa, ir, ms, nt, ns, nc, nd, ni, nw, nr, nk, na, sl, tx, sc, sh, fr, qu, fa, rw, be, m9, t9, rfl, kA, kP, kS, kY, kT, kG, kN⟩ hP ha hS (lv_sub hl [0, 1, 2, 3] rfl)
set_option maxHeartbeats 16000000 in
set_option maxRecDepth 100000 in
theorem law_pardons {p : Program} {l : Launch} {e : Env} {s : State} {m : MethodId} {below : List Frame} {meth : Method} {c : Code} {D : va_G} {cI cC cB cS : ClassId} {b L : Nat} {xs : Nat → Int32} {w0 o i : Nat} {gs : List va_W} {as : List Nat} {H : Heap} {locs : List Loc} {ls : Array Slot} (hL : L ≤ 384) (hC : lwC D cI cC cB cS p s m meth c b L xs) (hi : i + 6 ≤ L) (hI : LI cI cC cB cS w0 o gs) (hP : va_P D vwCl gs.flatten H) (hV : vD (fun q : Nat => s.heap.size ≤ q) as) (ha : fsts gs.flatten = as) (hS : va_S (fun q : Nat => s.heap.size ≤ q) s.heap H locs) (hl : lv_has ls 4 [(3, .int (nI i)), (0, .ref b), (1, .ref w0), (2, .ref o)]) (next : ∀ (gs2 : List va_W) (H1 : Heap) (locs1 : List Loc) (ls1 : Array Slot), LI cI cC cB cS w0 o gs2 → va_P D vwCl gs2.flatten H1 → fsts gs2.flatten = as → va_S (fun q : Nat => s.heap.size ≤ q) s.heap H1 locs1 → lv_has ls1 4 [(3, .int (nI (i + 6))), (0, .ref b), (1, .ref w0), (2, .ref o)] → W p l e room_1 s m #[Value.ref b] below meth c H1 locs1 600000 7302250 (lw_Z below #[Value.ref b] s) (F0 m 18 ls1 [])) : W p l e room_1 s m #[Value.ref b] below meth c H locs 600000 7302250 (lw_Z below #[Value.ref b] s) (F0 m 560 ls []) := by
  obtain ⟨C0, htsL, hK, hN⟩ := hC
  obtain ⟨hx, hb, hr, hml, hown, hts0, hX, hbl, hlocks, hgv⟩ := id C0
  have hb : c.code = cL_law := hb
  have hA : ∀ q : Nat, s.heap.size ≤ q → (fun q : Nat => s.heap.size ≤ q) q := fun _ h => h
  have hbA : ¬ (fun q : Nat => s.heap.size ≤ q) b := Nat.not_le.mpr hbl
  have hF : mFacts p s m #[Value.ref b] c cL_law 4 wsL_law RL := ⟨hx, hb, hml, hown, htsL⟩
  have hl : lv_has ls 4 [(3, .int (nI i)), (0, .ref b), (1, .ref w0), (2, .ref o)] := hl
  obtain ⟨t0, t1, r0, r1, r2, p0, p1, p2, p3, o0, o1, o2, o3, s0, s1, s2, s3, u0, u1, u2, u3, y0, y1, z0, z1, g0, g1, g2, m0, m1, m2, b0, b1, b2, e20, e21, e22, yb, zb, ad, T, R, P, O, S, U, Y, Z, G, M, B, E2, I, to, so, cl, de, si, wa, ir, ms, nt, ns, nc, nd, ni, nw, nr, nk, na, sl, tx, sc, sh, fr, qu, fa, rw, be, mo, th, rfl, kA, kP, kS, kY, kT, kG, kN⟩ := hI
  obtain ⟨hTo, hRf, hRg, hOp, hMb⟩ := id kA
  obtain ⟨hpk, hc, hm, hto, htb, hso, hde, hsi, hwa, hir, hms⟩ := id kP
  obtain ⟨hsO, hf0, hsb⟩ := id kS
  obtain ⟨hst, hx2, hy9, hl9⟩ := id hsO
  obtain ⟨hy1, hya, hz1, hzk⟩ := id kY
  obtain ⟨hte, htl⟩ := id kT
  obtain ⟨hg8, hgb, hgn, hge, hsc⟩ := id kG
  obtain ⟨hnb, hbg⟩ := id kN
  have hw := hpk.1
  have hp := hw.1
  have hm3 : P.2.2.2.2.2.2 ≤ 3 := hp.2.2.2.2.2.2
  have hcl := pCells_le hp
  have hac8 : I.2.2.2.2.1 ≤ 8 := by rw [hya]; exact hy1.1
  have hkp2 : I.2.2.2.2.2.1 ≤ 2 := by rw [hzk]; exact hz1.1
  have hsn8 : I.2.2.2.2.2.2.2.2.2.2.1 ≤ 8 := by rw [hgn]; exact hg8
  have hlen : T.2 = I.2.2.2.2.2.2.1 := hte.1
  refine lv_aload_n (pc := 560) hx hb dL_law_560 rfl (lv_at hl 2 rfl) ?_
  refine lv_aload_n (pc := 561) hx hb dL_law_561 rfl (lv_at hl 1 rfl) ?_
  refine lv_iload_n (pc := 562) hx hb dL_law_562 rfl (lv_at hl 0 rfl) ?_
  refine lv_iconst (pc := 563) (v := nI 1) hx hb dL_law_563 (by decide) ?_
  refine rn_iadd (pc := 564) hx hb dL_law_564 ?_
  refine ra_sld (pc := 565) (pc := 565) (k := i + 1) hx hb hX hbl hbA hS (by omega) (by omega) dL_law_565 ?_
  refine lv_aload_n (pc := 566) hx hb dL_law_566 rfl (lv_at hl 1 rfl) ?_
  refine lv_iload_n (pc := 567) hx hb dL_law_567 rfl (lv_at hl 0 rfl) ?_
  refine lv_iconst (pc := 568) (v := nI 2) hx hb dL_law_568 (by decide) ?_
  refine rn_iadd (pc := 569) hx hb dL_law_569 ?_
  refine ra_sld (pc := 570) (pc := 570) (k := i + 2) hx hb hX hbl hbA hS (by omega) (by omega) dL_law_570 ?_
  refine ci_G (pc := 571) (pc := 571) (As := [.int (xs (i + 1)), .int (xs (i + 2))]) (rest := []) hF hN hK hP hV ha hS hA (k_X9_pardons l D cI cC cB cS w0 t0 r0 o0 y0 z0 g0 m0 b0 e20 p0 p1 p2 p3 P s0 s1 s2 s3 S u0 u1 u2 u3 U (xs (i + 1)) ((xs (i + 1)).toInt) rfl (xs (i + 2)) ((xs (i + 2)).toInt) rfl hw hst.1 hst.2.2.2.1 hst.2.2.2.2) (cwV 2 htsL gL_law_X9_pardons rfl rfl rfl (by decide +kernel) ⟨Nat.le_of_ble_eq_true rfl, Nat.le_of_ble_eq_true rfl⟩) [0, 3, 5, 6] rfl (by decide) 0 9 rfl rfl rfl hl.1 rfl (Nat.le_of_ble_eq_true rfl) dL_law_571 ⟨Nat.le_of_ble_eq_true rfl, Nat.le_of_ble_eq_true rfl⟩ (fun r u H locs hq hG hS => ?_)
  obtain ⟨rfl, U9, rfl⟩ := hq
  obtain ⟨hP, ha⟩ := hG [rwW w0 t0 r0 p0 o0 s0 u0 y0 z0 g0 m0 b0 e20, plW p0 p1 p2 p3 cI P, stW s0 s1 s2 s3 cI S, stW u0 u1 u2 u3 cI U9] rfl rfl
  have hP : va_P D vwCl (List.flatten [rwW w0 t0 r0 p0 o0 s0 u0 y0 z0 g0 m0 b0 e20, ltW t0 t1 cC T, rdW r0 r1 r2 cI R, plW p0 p1 p2 p3 cI P, plW o0 o1 o2 o3 cI O, stW s0 s1 s2 s3 cI S, stW u0 u1 u2 u3 cI U9, y8G y0 y1 yb cI cS Y, y2G z0 z1 zb cI cS Z, sgW g0 g1 g2 cI G, smW m0 m1 m2 cI M, roW b0 b1 b2 cI B, seW e20 e21 e22 cI E2, [rmE o ad (pCells P) P.2.2.2.1 P.2.2.2.2.2.1 P.2.2.2.2.2.2 I], [nE 24 (ad 2) cI to], [nE 6 (ad 4) cI so], [nE 6 (ad 5) cI cl], [nE 6 (ad 6) cI de], [nE 6 (ad 7) cI si], [nE 3 (ad 9) cI wa], [nE 3 (ad 10) cI ir], [nE 3 (ad 11) cI ms], [nE 24 (ad 14) cI nt], [nE 6 (ad 16) cI ns], [nE 6 (ad 17) cI nc], [nE 6 (ad 18) cI nd], [nE 6 (ad 19) cI ni], [nE 3 (ad 21) cI nw], [nE 3 (ad 22) cI nr], [nE 3 (ad 23) cI nk], [nE 3 (ad 24) cI na], [nE 384 (ad 25) cI sl], [nE 200 (ad 29) cB tx], [nE 8 (ad 34) cI sc], [nE 8 (ad 35) cI sh], [zE 984 (ad 36) cI fa], [nE 984 (ad 37) cI fr], [nE 984 (ad 38) cI qu], [zE 5 (ad 40) cI rw], [zE 5 (ad 41) cI be], [zE 64 (ad 42) cI mo], [zE 64 (ad 43) cI th]]) H := hP
  have ha : fsts (List.flatten [rwW w0 t0 r0 p0 o0 s0 u0 y0 z0 g0 m0 b0 e20, ltW t0 t1 cC T, rdW r0 r1 r2 cI R, plW p0 p1 p2 p3 cI P, plW o0 o1 o2 o3 cI O, stW s0 s1 s2 s3 cI S, stW u0 u1 u2 u3 cI U9, y8G y0 y1 yb cI cS Y, y2G z0 z1 zb cI cS Z, sgW g0 g1 g2 cI G, smW m0 m1 m2 cI M, roW b0 b1 b2 cI B, seW e20 e21 e22 cI E2, [rmE o ad (pCells P) P.2.2.2.1 P.2.2.2.2.2.1 P.2.2.2.2.2.2 I], [nE 24 (ad 2) cI to], [nE 6 (ad 4) cI so], [nE 6 (ad 5) cI cl], [nE 6 (ad 6) cI de], [nE 6 (ad 7) cI si], [nE 3 (ad 9) cI wa], [nE 3 (ad 10) cI ir], [nE 3 (ad 11) cI ms], [nE 24 (ad 14) cI nt], [nE 6 (ad 16) cI ns], [nE 6 (ad 17) cI nc], [nE 6 (ad 18) cI nd], [nE 6 (ad 19) cI ni], [nE 3 (ad 21) cI nw], [nE 3 (ad 22) cI nr], [nE 3 (ad 23) cI nk], [nE 3 (ad 24) cI na], [nE 384 (ad 25) cI sl], [nE 200 (ad 29) cB tx], [nE 8 (ad 34) cI sc], [nE 8 (ad 35) cI sh], [zE 984 (ad 36) cI fa], [nE 984 (ad 37) cI fr], [nE 984 (ad 38) cI qu], [zE 5 (ad 40) cI rw], [zE 5 (ad 41) cI be], [zE 64 (ad 42) cI mo], [zE 64 (ad 43) cI th]]) = as := ha
  refine lv_aload_n (pc := 574) hx hb dL_law_574 rfl (lv_at hl 3 rfl) ?_
  refine lv_aload_n (pc := 575) hx hb dL_law_575 rfl (lv_at hl 1 rfl) ?_
  refine lv_iload_n (pc := 576) hx hb dL_law_576 rfl (lv_at hl 0 rfl) ?_
  refine lv_iconst (pc := 577) (v := nI 1) hx hb dL_law_577 (by decide) ?_
  refine rn_iadd (pc := 578) hx hb dL_law_578 ?_
  refine ra_sld (pc := 579) (pc := 579) (k := i + 1) hx hb hX hbl hbA hS (by omega) (by omega) dL_law_579 ?_
  refine lv_aload_n (pc := 580) hx hb dL_law_580 rfl (lv_at hl 1 rfl) ?_
  refine lv_iload_n (pc := 581) hx hb dL_law_581 rfl (lv_at hl 0 rfl) ?_
  refine lv_iconst (pc := 582) (v := nI 2) hx hb dL_law_582 (by decide) ?_
  refine rn_iadd (pc := 583) hx hb dL_law_583 ?_
  refine ra_sld (pc := 584) (pc := 584) (k := i + 2) hx hb hX hbl hbA hS (by omega) (by omega) dL_law_584 ?_
  refine ci_G (pc := 585) (pc := 585) (As := [.int (xs (i + 1)), .int (xs (i + 2))]) (rest := [.int (jI (zPardons P S (xs (i + 1)).toInt (xs (i + 2)).toInt))]) hF hN hK hP hV ha hS hA (k_X10_pardons l D cI cC cB cS o ad P I sl so cl de si ms (xs (i + 1)) ((xs (i + 1)).toInt) rfl (xs (i + 2)) ((xs (i + 2)).toInt) rfl S wa ir hpk hst hc hm hf0 hsb hde hso hsi hms hy9 hx2) (cwV 2 htsL gL_law_X10_pardons rfl rfl rfl (by decide +kernel) ⟨Nat.le_of_ble_eq_true rfl, Nat.le_of_ble_eq_true rfl⟩) [13, 31, 15, 16, 17, 18, 21] rfl (by decide) 0 10 rfl rfl rfl hl.1 rfl (Nat.le_of_ble_eq_true rfl) dL_law_585 ⟨Nat.le_of_ble_eq_true rfl, Nat.le_of_ble_eq_true rfl⟩ (fun r u H locs hq hG hS => ?_)
  obtain ⟨rfl, f, rfl, hE⟩ := hq
  obtain ⟨hP, ha⟩ := hG [[rmE o ad (pCells P) P.2.2.2.1 P.2.2.2.2.2.1 P.2.2.2.2.2.2 I], [nE 384 (ad 25) cI f], [nE 6 (ad 4) cI so], [nE 6 (ad 5) cI cl], [nE 6 (ad 6) cI de], [nE 6 (ad 7) cI si], [nE 3 (ad 11) cI ms]] rfl rfl
  have hP : va_P D vwCl (List.flatten [rwW w0 t0 r0 p0 o0 s0 u0 y0 z0 g0 m0 b0 e20, ltW t0 t1 cC T, rdW r0 r1 r2 cI R, plW p0 p1 p2 p3 cI P, plW o0 o1 o2 o3 cI O, stW s0 s1 s2 s3 cI S, stW u0 u1 u2 u3 cI U9, y8G y0 y1 yb cI cS Y, y2G z0 z1 zb cI cS Z, sgW g0 g1 g2 cI G, smW m0 m1 m2 cI M, roW b0 b1 b2 cI B, seW e20 e21 e22 cI E2, [rmE o ad (pCells P) P.2.2.2.1 P.2.2.2.2.2.1 P.2.2.2.2.2.2 I], [nE 24 (ad 2) cI to], [nE 6 (ad 4) cI so], [nE 6 (ad 5) cI cl], [nE 6 (ad 6) cI de], [nE 6 (ad 7) cI si], [nE 3 (ad 9) cI wa], [nE 3 (ad 10) cI ir], [nE 3 (ad 11) cI ms], [nE 24 (ad 14) cI nt], [nE 6 (ad 16) cI ns], [nE 6 (ad 17) cI nc], [nE 6 (ad 18) cI nd], [nE 6 (ad 19) cI ni], [nE 3 (ad 21) cI nw], [nE 3 (ad 22) cI nr], [nE 3 (ad 23) cI nk], [nE 3 (ad 24) cI na], [nE 384 (ad 25) cI f], [nE 200 (ad 29) cB tx], [nE 8 (ad 34) cI sc], [nE 8 (ad 35) cI sh], [zE 984 (ad 36) cI fa], [nE 984 (ad 37) cI fr], [nE 984 (ad 38) cI qu], [zE 5 (ad 40) cI rw], [zE 5 (ad 41) cI be], [zE 64 (ad 42) cI mo], [zE 64 (ad 43) cI th]]) H := hP
  have ha : fsts (List.flatten [rwW w0 t0 r0 p0 o0 s0 u0 y0 z0 g0 m0 b0 e20, ltW t0 t1 cC T, rdW r0 r1 r2 cI R, plW p0 p1 p2 p3 cI P, plW o0 o1 o2 o3 cI O, stW s0 s1 s2 s3 cI S, stW u0 u1 u2 u3 cI U9, y8G y0 y1 yb cI cS Y, y2G z0 z1 zb cI cS Z, sgW g0 g1 g2 cI G, smW m0 m1 m2 cI M, roW b0 b1 b2 cI B, seW e20 e21 e22 cI E2, [rmE o ad (pCells P) P.2.2.2.1 P.2.2.2.2.2.1 P.2.2.2.2.2.2 I], [nE 24 (ad 2) cI to], [nE 6 (ad 4) cI so], [nE 6 (ad 5) cI cl], [nE 6 (ad 6) cI de], [nE 6 (ad 7) cI si], [nE 3 (ad 9) cI wa], [nE 3 (ad 10) cI ir], [nE 3 (ad 11) cI ms], [nE 24 (ad 14) cI nt], [nE 6 (ad 16) cI ns], [nE 6 (ad 17) cI nc], [nE 6 (ad 18) cI nd], [nE 6 (ad 19) cI ni], [nE 3 (ad 21) cI nw], [nE 3 (ad 22) cI nr], [nE 3 (ad 23) cI nk], [nE 3 (ad 24) cI na], [nE 384 (ad 25) cI f], [nE 200 (ad 29) cB tx], [nE 8 (ad 34) cI sc], [nE 8 (ad 35) cI sh], [zE 984 (ad 36) cI fa], [nE 984 (ad 37) cI fr], [nE 984 (ad 38) cI qu], [zE 5 (ad 40) cI rw], [zE 5 (ad 41) cI be], [zE 64 (ad 42) cI mo], [zE 64 (ad 43) cI th]]) = as := ha
  refine r_top (show jI (zPardons P S (xs (i + 1)).toInt (xs (i + 2)).toInt) = jI (zPardons P S (xs (i + 1)).toInt (xs (i + 2)).toInt) from rfl) ?_
  refine rc_eq (pc := 585) (pc := 588) (tgt := 870) hx hb rfl rfl dL_law_588 (by decide) (fun _ => ?_) (fun q => absurd rfl q)
  refine lv_iinc (pc := 870) (v := nI (i + 6)) (lv' := [(3, .int (nI (i + 6))), (0, .ref b), (1, .ref w0), (2, .ref o)]) hx hb dL_law_870 hl (k := 0) rfl (by rw [← nI_add]; rfl) (by decide) rfl (fun ls hl => ?_)
  refine lv_goto (pc := 870) (pc := 873) (tgt := 18) hx hb dL_law_873 (by decide) ?_
  exact next _ _ _ _ ⟨t0, t1, r0, r1, r2, p0, p1, p2, p3, o0, o1, o2, o3, s0, s1, s2, s3, u0, u1, u2, u3, y0, y1, z0, z1, g0, g1, g2, m0, m1, m2, b0, b1, b2, e20, e21, e22, yb, zb, ad, T, R, P, O, S, U9, Y, Z, G, M, B, E2, I, to, so, cl, de, si, wa, ir, ms, nt, ns, nc, nd, ni, nw, nr, nk, na, f, tx, sc, sh, fr, qu, fa, rw, be, mo, th, rfl, kA, kP, (lrS_end hm3 hE kS), (lrY_end hm3 hE kY), kT, kG, kN⟩ hP ha hS (lv_sub hl [0, 1, 2, 3] rfl)
set_option maxHeartbeats 16000000 in
set_option maxRecDepth 100000 in
theorem law_see {p : Program} {l : Launch} {e : Env} {s : State} {m : MethodId} {below : List Frame} {meth : Method} {c : Code} {D : va_G} {cI cC cB cS : ClassId} {b L : Nat} {xs : Nat → Int32} {w0 o i : Nat} {gs : List va_W} {as : List Nat} {H : Heap} {locs : List Loc} {ls : Array Slot} (hL : L ≤ 384) (hC : lwC D cI cC cB cS p s m meth c b L xs) (hi : i + 6 ≤ L) (hI : LI cI cC cB cS w0 o gs) (hP : va_P D vwCl gs.flatten H) (hV : vD (fun q : Nat => s.heap.size ≤ q) as) (ha : fsts gs.flatten = as) (hS : va_S (fun q : Nat => s.heap.size ≤ q) s.heap H locs) (hl : lv_has ls 4 [(3, .int (nI i)), (0, .ref b), (1, .ref w0), (2, .ref o)]) (next : ∀ (gs2 : List va_W) (H1 : Heap) (locs1 : List Loc) (ls1 : Array Slot), LI cI cC cB cS w0 o gs2 → va_P D vwCl gs2.flatten H1 → fsts gs2.flatten = as → va_S (fun q : Nat => s.heap.size ≤ q) s.heap H1 locs1 → lv_has ls1 4 [(3, .int (nI (i + 6))), (0, .ref b), (1, .ref w0), (2, .ref o)] → W p l e room_1 s m #[Value.ref b] below meth c H1 locs1 600000 7302250 (lw_Z below #[Value.ref b] s) (F0 m 18 ls1 [])) : W p l e room_1 s m #[Value.ref b] below meth c H locs 600000 7302250 (lw_Z below #[Value.ref b] s) (F0 m 593 ls []) := by
  obtain ⟨C0, htsL, hK, hN⟩ := hC
  obtain ⟨hx, hb, hr, hml, hown, hts0, hX, hbl, hlocks, hgv⟩ := id C0
  have hb : c.code = cL_law := hb
  have hA : ∀ q : Nat, s.heap.size ≤ q → (fun q : Nat => s.heap.size ≤ q) q := fun _ h => h
  have hbA : ¬ (fun q : Nat => s.heap.size ≤ q) b := Nat.not_le.mpr hbl
  have hF : mFacts p s m #[Value.ref b] c cL_law 4 wsL_law RL := ⟨hx, hb, hml, hown, htsL⟩
  have hl : lv_has ls 4 [(3, .int (nI i)), (0, .ref b), (1, .ref w0), (2, .ref o)] := hl
  obtain ⟨t0, t1, r0, r1, r2, p0, p1, p2, p3, o0, o1, o2, o3, s0, s1, s2, s3, u0, u1, u2, u3, y0, y1, z0, z1, g0, g1, g2, m0, m1, m2, b0, b1, b2, e20, e21, e22, yb, zb, ad, T, R, P, O, S, U, Y, Z, G, M, B, E2, I, to, so, cl, de, si, wa, ir, ms, nt, ns, nc, nd, ni, nw, nr, nk, na, sl, tx, sc, sh, fr, qu, fa, rw, be, mo, th, rfl, kA, kP, kS, kY, kT, kG, kN⟩ := hI
  obtain ⟨hTo, hRf, hRg, hOp, hMb⟩ := id kA
  obtain ⟨hpk, hc, hm, hto, htb, hso, hde, hsi, hwa, hir, hms⟩ := id kP
  obtain ⟨hsO, hf0, hsb⟩ := id kS
  obtain ⟨hst, hx2, hy9, hl9⟩ := id hsO
  obtain ⟨hy1, hya, hz1, hzk⟩ := id kY
  obtain ⟨hte, htl⟩ := id kT
  obtain ⟨hg8, hgb, hgn, hge, hsc⟩ := id kG
  obtain ⟨hnb, hbg⟩ := id kN
  have hw := hpk.1
  have hp := hw.1
  have hm3 : P.2.2.2.2.2.2 ≤ 3 := hp.2.2.2.2.2.2
  have hcl := pCells_le hp
  have hac8 : I.2.2.2.2.1 ≤ 8 := by rw [hya]; exact hy1.1
  have hkp2 : I.2.2.2.2.2.1 ≤ 2 := by rw [hzk]; exact hz1.1
  have hsn8 : I.2.2.2.2.2.2.2.2.2.2.1 ≤ 8 := by rw [hgn]; exact hg8
  have hlen : T.2 = I.2.2.2.2.2.2.1 := hte.1
  refine lv_aload_n (pc := 593) hx hb dL_law_593 rfl (lv_at hl 2 rfl) ?_
  refine lv_aload_n (pc := 594) hx hb dL_law_594 rfl (lv_at hl 1 rfl) ?_
  refine lv_iload_n (pc := 595) hx hb dL_law_595 rfl (lv_at hl 0 rfl) ?_
  refine lv_iconst (pc := 596) (v := nI 1) hx hb dL_law_596 (by decide) ?_
  refine rn_iadd (pc := 597) hx hb dL_law_597 ?_
  refine ra_sld (pc := 598) (pc := 598) (k := i + 1) hx hb hX hbl hbA hS (by omega) (by omega) dL_law_598 ?_
  refine lv_aload_n (pc := 599) hx hb dL_law_599 rfl (lv_at hl 1 rfl) ?_
  refine lv_iload_n (pc := 600) hx hb dL_law_600 rfl (lv_at hl 0 rfl) ?_
  refine lv_iconst (pc := 601) (v := nI 2) hx hb dL_law_601 (by decide) ?_
  refine rn_iadd (pc := 602) hx hb dL_law_602 ?_
  refine ra_sld (pc := 603) (pc := 603) (k := i + 2) hx hb hX hbl hbA hS (by omega) (by omega) dL_law_603 ?_
  refine ci_G (pc := 604) (pc := 604) (As := [.int (xs (i + 1)), .int (xs (i + 2))]) (rest := []) hF hN hK hP hV ha hS hA (k_X9_see l D cI cC cB cS w0 t0 r0 o0 s0 u0 y0 z0 m0 b0 e20 p0 p1 p2 p3 P g0 g1 g2 G (xs (i + 1)) ((xs (i + 1)).toInt) rfl (xs (i + 2)) ((xs (i + 2)).toInt) rfl hp hg8) (cwV 2 htsL gL_law_X9_see rfl rfl rfl (by decide +kernel) ⟨Nat.le_of_ble_eq_true rfl, Nat.le_of_ble_eq_true rfl⟩) [0, 3, 9] rfl (by decide) 0 9 rfl rfl rfl hl.1 rfl (Nat.le_of_ble_eq_true rfl) dL_law_604 ⟨Nat.le_of_ble_eq_true rfl, Nat.le_of_ble_eq_true rfl⟩ (fun r u H locs hq hG hS => ?_)
  obtain ⟨rfl, rfl⟩ := hq
  obtain ⟨hP, ha⟩ := hG [rwW w0 t0 r0 p0 o0 s0 u0 y0 z0 g0 m0 b0 e20, plW p0 p1 p2 p3 cI P, sgW g0 g1 g2 cI (gSee P G ((xs (i + 1)).toInt) ((xs (i + 2)).toInt))] rfl rfl
  have hP : va_P D vwCl (List.flatten [rwW w0 t0 r0 p0 o0 s0 u0 y0 z0 g0 m0 b0 e20, ltW t0 t1 cC T, rdW r0 r1 r2 cI R, plW p0 p1 p2 p3 cI P, plW o0 o1 o2 o3 cI O, stW s0 s1 s2 s3 cI S, stW u0 u1 u2 u3 cI U, y8G y0 y1 yb cI cS Y, y2G z0 z1 zb cI cS Z, sgW g0 g1 g2 cI (gSee P G ((xs (i + 1)).toInt) ((xs (i + 2)).toInt)), smW m0 m1 m2 cI M, roW b0 b1 b2 cI B, seW e20 e21 e22 cI E2, [rmE o ad (pCells P) P.2.2.2.1 P.2.2.2.2.2.1 P.2.2.2.2.2.2 I], [nE 24 (ad 2) cI to], [nE 6 (ad 4) cI so], [nE 6 (ad 5) cI cl], [nE 6 (ad 6) cI de], [nE 6 (ad 7) cI si], [nE 3 (ad 9) cI wa], [nE 3 (ad 10) cI ir], [nE 3 (ad 11) cI ms], [nE 24 (ad 14) cI nt], [nE 6 (ad 16) cI ns], [nE 6 (ad 17) cI nc], [nE 6 (ad 18) cI nd], [nE 6 (ad 19) cI ni], [nE 3 (ad 21) cI nw], [nE 3 (ad 22) cI nr], [nE 3 (ad 23) cI nk], [nE 3 (ad 24) cI na], [nE 384 (ad 25) cI sl], [nE 200 (ad 29) cB tx], [nE 8 (ad 34) cI sc], [nE 8 (ad 35) cI sh], [zE 984 (ad 36) cI fa], [nE 984 (ad 37) cI fr], [nE 984 (ad 38) cI qu], [zE 5 (ad 40) cI rw], [zE 5 (ad 41) cI be], [zE 64 (ad 42) cI mo], [zE 64 (ad 43) cI th]]) H := hP
  have ha : fsts (List.flatten [rwW w0 t0 r0 p0 o0 s0 u0 y0 z0 g0 m0 b0 e20, ltW t0 t1 cC T, rdW r0 r1 r2 cI R, plW p0 p1 p2 p3 cI P, plW o0 o1 o2 o3 cI O, stW s0 s1 s2 s3 cI S, stW u0 u1 u2 u3 cI U, y8G y0 y1 yb cI cS Y, y2G z0 z1 zb cI cS Z, sgW g0 g1 g2 cI (gSee P G ((xs (i + 1)).toInt) ((xs (i + 2)).toInt)), smW m0 m1 m2 cI M, roW b0 b1 b2 cI B, seW e20 e21 e22 cI E2, [rmE o ad (pCells P) P.2.2.2.1 P.2.2.2.2.2.1 P.2.2.2.2.2.2 I], [nE 24 (ad 2) cI to], [nE 6 (ad 4) cI so], [nE 6 (ad 5) cI cl], [nE 6 (ad 6) cI de], [nE 6 (ad 7) cI si], [nE 3 (ad 9) cI wa], [nE 3 (ad 10) cI ir], [nE 3 (ad 11) cI ms], [nE 24 (ad 14) cI nt], [nE 6 (ad 16) cI ns], [nE 6 (ad 17) cI nc], [nE 6 (ad 18) cI nd], [nE 6 (ad 19) cI ni], [nE 3 (ad 21) cI nw], [nE 3 (ad 22) cI nr], [nE 3 (ad 23) cI nk], [nE 3 (ad 24) cI na], [nE 384 (ad 25) cI sl], [nE 200 (ad 29) cB tx], [nE 8 (ad 34) cI sc], [nE 8 (ad 35) cI sh], [zE 984 (ad 36) cI fa], [nE 984 (ad 37) cI fr], [nE 984 (ad 38) cI qu], [zE 5 (ad 40) cI rw], [zE 5 (ad 41) cI be], [zE 64 (ad 42) cI mo], [zE 64 (ad 43) cI th]]) = as := ha
  refine lv_aload_n (pc := 607) hx hb dL_law_607 rfl (lv_at hl 3 rfl) ?_
  refine lv_aload_n (pc := 608) hx hb dL_law_608 rfl (lv_at hl 1 rfl) ?_
  refine lv_iload_n (pc := 609) hx hb dL_law_609 rfl (lv_at hl 0 rfl) ?_
  refine lv_iconst (pc := 610) (v := nI 1) hx hb dL_law_610 (by decide) ?_
  refine rn_iadd (pc := 611) hx hb dL_law_611 ?_
  refine ra_sld (pc := 612) (pc := 612) (k := i + 1) hx hb hX hbl hbA hS (by omega) (by omega) dL_law_612 ?_
  refine lv_aload_n (pc := 613) hx hb dL_law_613 rfl (lv_at hl 1 rfl) ?_
  refine lv_iload_n (pc := 614) hx hb dL_law_614 rfl (lv_at hl 0 rfl) ?_
  refine lv_iconst (pc := 615) (v := nI 2) hx hb dL_law_615 (by decide) ?_
  refine rn_iadd (pc := 616) hx hb dL_law_616 ?_
  refine ra_sld (pc := 617) (pc := 617) (k := i + 2) hx hb hX hbl hbA hS (by omega) (by omega) dL_law_617 ?_
  refine ci_G (pc := 618) (pc := 618) (As := [.int (xs (i + 1)), .int (xs (i + 2))]) (rest := [.int (jI (zSee P G ((xs (i + 1)).toInt) ((xs (i + 2)).toInt)))]) hF hN hK hP hV ha hS hA (k_X10_see l D cI cC cB cS o ad P I sc sh (xs (i + 1)) ((xs (i + 1)).toInt) rfl (xs (i + 2)) ((xs (i + 2)).toInt) rfl hp hsn8) (cwV 2 htsL gL_law_X10_see rfl rfl rfl (by decide +kernel) ⟨Nat.le_of_ble_eq_true rfl, Nat.le_of_ble_eq_true rfl⟩) [13, 33, 34] rfl (by decide) 0 10 rfl rfl rfl hl.1 rfl (Nat.le_of_ble_eq_true rfl) dL_law_618 ⟨Nat.le_of_ble_eq_true rfl, Nat.le_of_ble_eq_true rfl⟩ (fun r u H locs hq hG hS => ?_)
  obtain ⟨rfl, rfl⟩ := hq
  obtain ⟨hP, ha⟩ := hG [[rmE o ad (pCells P) P.2.2.2.1 P.2.2.2.2.2.1 P.2.2.2.2.2.2 (I.1, I.2.1, I.2.2.1, I.2.2.2.1, I.2.2.2.2.1, I.2.2.2.2.2.1, I.2.2.2.2.2.2.1, I.2.2.2.2.2.2.2.1, I.2.2.2.2.2.2.2.2.1, I.2.2.2.2.2.2.2.2.2.1, (gSee P (sc, sh, I.2.2.2.2.2.2.2.2.2.2.1) ((xs (i + 1)).toInt) ((xs (i + 2)).toInt)).2.2, I.2.2.2.2.2.2.2.2.2.2.2)], [nE 8 (ad 34) cI ((gSee P (sc, sh, I.2.2.2.2.2.2.2.2.2.2.1) ((xs (i + 1)).toInt) ((xs (i + 2)).toInt)).1)], [nE 8 (ad 35) cI ((gSee P (sc, sh, I.2.2.2.2.2.2.2.2.2.2.1) ((xs (i + 1)).toInt) ((xs (i + 2)).toInt)).2.1)]] rfl rfl
  have hP : va_P D vwCl (List.flatten [rwW w0 t0 r0 p0 o0 s0 u0 y0 z0 g0 m0 b0 e20, ltW t0 t1 cC T, rdW r0 r1 r2 cI R, plW p0 p1 p2 p3 cI P, plW o0 o1 o2 o3 cI O, stW s0 s1 s2 s3 cI S, stW u0 u1 u2 u3 cI U, y8G y0 y1 yb cI cS Y, y2G z0 z1 zb cI cS Z, sgW g0 g1 g2 cI (gSee P G ((xs (i + 1)).toInt) ((xs (i + 2)).toInt)), smW m0 m1 m2 cI M, roW b0 b1 b2 cI B, seW e20 e21 e22 cI E2, [rmE o ad (pCells P) P.2.2.2.1 P.2.2.2.2.2.1 P.2.2.2.2.2.2 (I.1, I.2.1, I.2.2.1, I.2.2.2.1, I.2.2.2.2.1, I.2.2.2.2.2.1, I.2.2.2.2.2.2.1, I.2.2.2.2.2.2.2.1, I.2.2.2.2.2.2.2.2.1, I.2.2.2.2.2.2.2.2.2.1, (gSee P (sc, sh, I.2.2.2.2.2.2.2.2.2.2.1) ((xs (i + 1)).toInt) ((xs (i + 2)).toInt)).2.2, I.2.2.2.2.2.2.2.2.2.2.2)], [nE 24 (ad 2) cI to], [nE 6 (ad 4) cI so], [nE 6 (ad 5) cI cl], [nE 6 (ad 6) cI de], [nE 6 (ad 7) cI si], [nE 3 (ad 9) cI wa], [nE 3 (ad 10) cI ir], [nE 3 (ad 11) cI ms], [nE 24 (ad 14) cI nt], [nE 6 (ad 16) cI ns], [nE 6 (ad 17) cI nc], [nE 6 (ad 18) cI nd], [nE 6 (ad 19) cI ni], [nE 3 (ad 21) cI nw], [nE 3 (ad 22) cI nr], [nE 3 (ad 23) cI nk], [nE 3 (ad 24) cI na], [nE 384 (ad 25) cI sl], [nE 200 (ad 29) cB tx], [nE 8 (ad 34) cI ((gSee P (sc, sh, I.2.2.2.2.2.2.2.2.2.2.1) ((xs (i + 1)).toInt) ((xs (i + 2)).toInt)).1)], [nE 8 (ad 35) cI ((gSee P (sc, sh, I.2.2.2.2.2.2.2.2.2.2.1) ((xs (i + 1)).toInt) ((xs (i + 2)).toInt)).2.1)], [zE 984 (ad 36) cI fa], [nE 984 (ad 37) cI fr], [nE 984 (ad 38) cI qu], [zE 5 (ad 40) cI rw], [zE 5 (ad 41) cI be], [zE 64 (ad 42) cI mo], [zE 64 (ad 43) cI th]]) H := hP
  have ha : fsts (List.flatten [rwW w0 t0 r0 p0 o0 s0 u0 y0 z0 g0 m0 b0 e20, ltW t0 t1 cC T, rdW r0 r1 r2 cI R, plW p0 p1 p2 p3 cI P, plW o0 o1 o2 o3 cI O, stW s0 s1 s2 s3 cI S, stW u0 u1 u2 u3 cI U, y8G y0 y1 yb cI cS Y, y2G z0 z1 zb cI cS Z, sgW g0 g1 g2 cI (gSee P G ((xs (i + 1)).toInt) ((xs (i + 2)).toInt)), smW m0 m1 m2 cI M, roW b0 b1 b2 cI B, seW e20 e21 e22 cI E2, [rmE o ad (pCells P) P.2.2.2.1 P.2.2.2.2.2.1 P.2.2.2.2.2.2 (I.1, I.2.1, I.2.2.1, I.2.2.2.1, I.2.2.2.2.1, I.2.2.2.2.2.1, I.2.2.2.2.2.2.1, I.2.2.2.2.2.2.2.1, I.2.2.2.2.2.2.2.2.1, I.2.2.2.2.2.2.2.2.2.1, (gSee P (sc, sh, I.2.2.2.2.2.2.2.2.2.2.1) ((xs (i + 1)).toInt) ((xs (i + 2)).toInt)).2.2, I.2.2.2.2.2.2.2.2.2.2.2)], [nE 24 (ad 2) cI to], [nE 6 (ad 4) cI so], [nE 6 (ad 5) cI cl], [nE 6 (ad 6) cI de], [nE 6 (ad 7) cI si], [nE 3 (ad 9) cI wa], [nE 3 (ad 10) cI ir], [nE 3 (ad 11) cI ms], [nE 24 (ad 14) cI nt], [nE 6 (ad 16) cI ns], [nE 6 (ad 17) cI nc], [nE 6 (ad 18) cI nd], [nE 6 (ad 19) cI ni], [nE 3 (ad 21) cI nw], [nE 3 (ad 22) cI nr], [nE 3 (ad 23) cI nk], [nE 3 (ad 24) cI na], [nE 384 (ad 25) cI sl], [nE 200 (ad 29) cB tx], [nE 8 (ad 34) cI ((gSee P (sc, sh, I.2.2.2.2.2.2.2.2.2.2.1) ((xs (i + 1)).toInt) ((xs (i + 2)).toInt)).1)], [nE 8 (ad 35) cI ((gSee P (sc, sh, I.2.2.2.2.2.2.2.2.2.2.1) ((xs (i + 1)).toInt) ((xs (i + 2)).toInt)).2.1)], [zE 984 (ad 36) cI fa], [nE 984 (ad 37) cI fr], [nE 984 (ad 38) cI qu], [zE 5 (ad 40) cI rw], [zE 5 (ad 41) cI be], [zE 64 (ad 42) cI mo], [zE 64 (ad 43) cI th]]) = as := ha
  refine r_top (show jI (zSee P (sc, sh, I.2.2.2.2.2.2.2.2.2.2.1) ((xs (i + 1)).toInt) ((xs (i + 2)).toInt)) = jI (zSee P G ((xs (i + 1)).toInt) ((xs (i + 2)).toInt)) from congrArg jI (zSee_eq (lrG_eq kG) _ _).symm) ?_
  refine rc_eq (pc := 618) (pc := 621) (tgt := 870) hx hb rfl rfl dL_law_621 (by decide) (fun _ => ?_) (fun q => absurd rfl q)
  refine lv_iinc (pc := 870) (v := nI (i + 6)) (lv' := [(3, .int (nI (i + 6))), (0, .ref b), (1, .ref w0), (2, .ref o)]) hx hb dL_law_870 hl (k := 0) rfl (by rw [← nI_add]; rfl) (by decide) rfl (fun ls hl => ?_)
  refine lv_goto (pc := 870) (pc := 873) (tgt := 18) hx hb dL_law_873 (by decide) ?_
  exact next _ _ _ _ ⟨t0, t1, r0, r1, r2, p0, p1, p2, p3, o0, o1, o2, o3, s0, s1, s2, s3, u0, u1, u2, u3, y0, y1, z0, z1, g0, g1, g2, m0, m1, m2, b0, b1, b2, e20, e21, e22, yb, zb, ad, T, R, P, O, S, U, Y, Z, gSee P G ((xs (i + 1)).toInt) ((xs (i + 2)).toInt), M, B, E2, (I.1, I.2.1, I.2.2.1, I.2.2.2.1, I.2.2.2.2.1, I.2.2.2.2.2.1, I.2.2.2.2.2.2.1, I.2.2.2.2.2.2.2.1, I.2.2.2.2.2.2.2.2.1, I.2.2.2.2.2.2.2.2.2.1, (gSee P (sc, sh, I.2.2.2.2.2.2.2.2.2.2.1) ((xs (i + 1)).toInt) ((xs (i + 2)).toInt)).2.2, I.2.2.2.2.2.2.2.2.2.2.2), to, so, cl, de, si, wa, ir, ms, nt, ns, nc, nd, ni, nw, nr, nk, na, sl, tx, (gSee P (sc, sh, I.2.2.2.2.2.2.2.2.2.2.1) ((xs (i + 1)).toInt) ((xs (i + 2)).toInt)).1, (gSee P (sc, sh, I.2.2.2.2.2.2.2.2.2.2.1) ((xs (i + 1)).toInt) ((xs (i + 2)).toInt)).2.1, fr, qu, fa, rw, be, mo, th, rfl, kA, kP, kS, kY, kT, (lrG_see hp kG _ _), kN⟩ hP ha hS (lv_sub hl [0, 1, 2, 3] rfl)
