set_option maxHeartbeats 16000000 in
set_option maxRecDepth 100000 in
theorem law_maid {p : Program} {l : Launch} {e : Env} {s : State} {m : MethodId} {below : List Frame} {meth : Method} {c : Code} {D : va_G} {cI cC cB cS : ClassId} {b L : Nat} {xs : Nat → Int32} {w0 o i : Nat} {gs : List va_W} {as : List Nat} {H : Heap} {locs : List Loc} {ls : Array Slot} (hL : L ≤ 384) (hC : lwC D cI cC cB cS p s m meth c b L xs) (hi : i + 6 ≤ L) (hI : LI cI cC cB cS w0 o gs) (hP : va_P D vwCl gs.flatten H) (hV : vD (fun q : Nat => s.heap.size ≤ q) as) (ha : fsts gs.flatten = as) (hS : va_S (fun q : Nat => s.heap.size ≤ q) s.heap H locs) (hl : lv_has ls 4 [(3, .int (nI i)), (0, .ref b), (1, .ref w0), (2, .ref o)]) (next : ∀ (gs2 : List va_W) (H1 : Heap) (locs1 : List Loc) (ls1 : Array Slot), LI cI cC cB cS w0 o gs2 → va_P D vwCl gs2.flatten H1 → fsts gs2.flatten = as → va_S (fun q : Nat => s.heap.size ≤ q) s.heap H1 locs1 → lv_has ls1 4 [(3, .int (nI (i + 6))), (0, .ref b), (1, .ref w0), (2, .ref o)] → W p l e room_1 s m #[Value.ref b] below meth c H1 locs1 600000 7302250 (lw_Z below #[Value.ref b] s) (F0 m 18 ls1 [])) : W p l e room_1 s m #[Value.ref b] below meth c H locs 600000 7302250 (lw_Z below #[Value.ref b] s) (F0 m 270 ls []) := by
  obtain ⟨C0, htsL, hK, hN⟩ := hC
  obtain ⟨hx, hb, hr, hml, hown, hts0, hX, hbl, hlocks, hgv⟩ := id C0
  have hb : c.code = cL_law := hb
  have hA : ∀ q : Nat, s.heap.size ≤ q → (fun q : Nat => s.heap.size ≤ q) q := fun _ h => h
  have hbA : ¬ (fun q : Nat => s.heap.size ≤ q) b := Nat.not_le.mpr hbl
  have hF : mFacts p s m #[Value.ref b] c cL_law 4 wsL_law RL := ⟨hx, hb, hml, hown, htsL⟩
  have hl : lv_has ls 4 [(3, .int (nI i)), (0, .ref b), (1, .ref w0), (2, .ref o)] := hl
  obtain ⟨t0, t1, r0, r1, r2, p0, p1, p2, p3, o0, o1, o2, o3, s0, s1, s2, s3, u0, u1, u2, u3, y0, y1, z0, z1, g0, g1, g2, m0, m1, m2, b0, b1, b2, e20, e21, e22, yb, zb, ad, T, R, P, O, S, U, Y, Z, G, M, B, E2, I, to, so, cl, de, si, wa, ir, ms, nt, ns, nc, nd, ni, nw, nr, nk, na, sl, tx, sc, sh, fr, qu, fa, rw, be, mo, th, rfl, kA, kP, kS, kY, kT, kG, kN⟩ := hI
  obtain ⟨hTo, hRf, hRg, hOp, hMb⟩ := id kA
  obtain ⟨hpk, hc, hm, hto, htb, hso, hde, hsi, hwa, hir, hms⟩ := id kP
  obtain ⟨hsO, hf0, hsb⟩ := id kS
  obtain ⟨hst, hx2, hy9, hl9⟩ := id hsO
  obtain ⟨hy1, hya, hz1, hzk⟩ := id kY
  obtain ⟨hte, htl⟩ := id kT
  obtain ⟨hg8, hgb, hgn, hge, hsc⟩ := id kG
  obtain ⟨hnb, hbg⟩ := id kN
  have hw := hpk.1
  have hp := hw.1
  have hm3 : P.2.2.2.2.2.2 ≤ 3 := hp.2.2.2.2.2.2
  have hcl := pCells_le hp
  have hac8 : I.2.2.2.2.1 ≤ 8 := by rw [hya]; exact hy1.1
  have hkp2 : I.2.2.2.2.2.1 ≤ 2 := by rw [hzk]; exact hz1.1
  have hsn8 : I.2.2.2.2.2.2.2.2.2.2.1 ≤ 8 := by rw [hgn]; exact hg8
  have hlen : T.2 = I.2.2.2.2.2.2.1 := hte.1
  refine lv_aload_n (pc := 270) hx hb dL_law_270 rfl (lv_at hl 2 rfl) ?_
  refine lv_aload_n (pc := 271) hx hb dL_law_271 rfl (lv_at hl 1 rfl) ?_
  refine lv_iload_n (pc := 272) hx hb dL_law_272 rfl (lv_at hl 0 rfl) ?_
  refine lv_iconst (pc := 273) (v := nI 1) hx hb dL_law_273 (by decide) ?_
  refine rn_iadd (pc := 274) hx hb dL_law_274 ?_
  refine ra_sld (pc := 275) (pc := 275) (k := i + 1) hx hb hX hbl hbA hS (by omega) (by omega) dL_law_275 ?_
  refine lv_aload_n (pc := 276) hx hb dL_law_276 rfl (lv_at hl 1 rfl) ?_
  refine lv_iload_n (pc := 277) hx hb dL_law_277 rfl (lv_at hl 0 rfl) ?_
  refine lv_iconst (pc := 278) (v := nI 2) hx hb dL_law_278 (by decide) ?_
  refine rn_iadd (pc := 279) hx hb dL_law_279 ?_
  refine ra_sld (pc := 280) (pc := 280) (k := i + 2) hx hb hX hbl hbA hS (by omega) (by omega) dL_law_280 ?_
  refine ci_G (pc := 281) (pc := 281) (As := [.int (xs (i + 1)), .int (xs (i + 2))]) (rest := []) hF hN hK hP hV ha hS hA (k_X9_maid l D cI cC cB cS w0 t0 r0 o0 u0 y0 z0 g0 m0 b0 e20 p0 p1 p2 p3 P s0 s1 s2 s3 S (xs (i + 1)) ((xs (i + 1)).toInt) rfl (xs (i + 2)) ((xs (i + 2)).toInt) rfl hw hst.1 ⟨hst.2.1, hst.2.2.1⟩) (cwV 2 htsL gL_law_X9_maid rfl rfl rfl (by decide +kernel) ⟨Nat.le_of_ble_eq_true rfl, Nat.le_of_ble_eq_true rfl⟩) [0, 3, 5] rfl (by decide) 0 9 rfl rfl rfl hl.1 rfl (Nat.le_of_ble_eq_true rfl) dL_law_281 ⟨Nat.le_of_ble_eq_true rfl, Nat.le_of_ble_eq_true rfl⟩ (fun r u H locs hq hG hS => ?_)
  obtain ⟨rfl, rfl⟩ := hq
  obtain ⟨hP, ha⟩ := hG [rwW w0 t0 r0 p0 o0 s0 u0 y0 z0 g0 m0 b0 e20, plW p0 p1 p2 p3 cI P, stW s0 s1 s2 s3 cI S] rfl rfl
  have hP : va_P D vwCl (List.flatten [rwW w0 t0 r0 p0 o0 s0 u0 y0 z0 g0 m0 b0 e20, ltW t0 t1 cC T, rdW r0 r1 r2 cI R, plW p0 p1 p2 p3 cI P, plW o0 o1 o2 o3 cI O, stW s0 s1 s2 s3 cI S, stW u0 u1 u2 u3 cI U, y8G y0 y1 yb cI cS Y, y2G z0 z1 zb cI cS Z, sgW g0 g1 g2 cI G, smW m0 m1 m2 cI M, roW b0 b1 b2 cI B, seW e20 e21 e22 cI E2, [rmE o ad (pCells P) P.2.2.2.1 P.2.2.2.2.2.1 P.2.2.2.2.2.2 I], [nE 24 (ad 2) cI to], [nE 6 (ad 4) cI so], [nE 6 (ad 5) cI cl], [nE 6 (ad 6) cI de], [nE 6 (ad 7) cI si], [nE 3 (ad 9) cI wa], [nE 3 (ad 10) cI ir], [nE 3 (ad 11) cI ms], [nE 24 (ad 14) cI nt], [nE 6 (ad 16) cI ns], [nE 6 (ad 17) cI nc], [nE 6 (ad 18) cI nd], [nE 6 (ad 19) cI ni], [nE 3 (ad 21) cI nw], [nE 3 (ad 22) cI nr], [nE 3 (ad 23) cI nk], [nE 3 (ad 24) cI na], [nE 384 (ad 25) cI sl], [nE 200 (ad 29) cB tx], [nE 8 (ad 34) cI sc], [nE 8 (ad 35) cI sh], [zE 984 (ad 36) cI fa], [nE 984 (ad 37) cI fr], [nE 984 (ad 38) cI qu], [zE 5 (ad 40) cI rw], [zE 5 (ad 41) cI be], [zE 64 (ad 42) cI mo], [zE 64 (ad 43) cI th]]) H := hP
  have ha : fsts (List.flatten [rwW w0 t0 r0 p0 o0 s0 u0 y0 z0 g0 m0 b0 e20, ltW t0 t1 cC T, rdW r0 r1 r2 cI R, plW p0 p1 p2 p3 cI P, plW o0 o1 o2 o3 cI O, stW s0 s1 s2 s3 cI S, stW u0 u1 u2 u3 cI U, y8G y0 y1 yb cI cS Y, y2G z0 z1 zb cI cS Z, sgW g0 g1 g2 cI G, smW m0 m1 m2 cI M, roW b0 b1 b2 cI B, seW e20 e21 e22 cI E2, [rmE o ad (pCells P) P.2.2.2.1 P.2.2.2.2.2.1 P.2.2.2.2.2.2 I], [nE 24 (ad 2) cI to], [nE 6 (ad 4) cI so], [nE 6 (ad 5) cI cl], [nE 6 (ad 6) cI de], [nE 6 (ad 7) cI si], [nE 3 (ad 9) cI wa], [nE 3 (ad 10) cI ir], [nE 3 (ad 11) cI ms], [nE 24 (ad 14) cI nt], [nE 6 (ad 16) cI ns], [nE 6 (ad 17) cI nc], [nE 6 (ad 18) cI nd], [nE 6 (ad 19) cI ni], [nE 3 (ad 21) cI nw], [nE 3 (ad 22) cI nr], [nE 3 (ad 23) cI nk], [nE 3 (ad 24) cI na], [nE 384 (ad 25) cI sl], [nE 200 (ad 29) cB tx], [nE 8 (ad 34) cI sc], [nE 8 (ad 35) cI sh], [zE 984 (ad 36) cI fa], [nE 984 (ad 37) cI fr], [nE 984 (ad 38) cI qu], [zE 5 (ad 40) cI rw], [zE 5 (ad 41) cI be], [zE 64 (ad 42) cI mo], [zE 64 (ad 43) cI th]]) = as := ha
  refine lv_aload_n (pc := 284) hx hb dL_law_284 rfl (lv_at hl 3 rfl) ?_
  refine lv_aload_n (pc := 285) hx hb dL_law_285 rfl (lv_at hl 1 rfl) ?_
  refine lv_iload_n (pc := 286) hx hb dL_law_286 rfl (lv_at hl 0 rfl) ?_
  refine lv_iconst (pc := 287) (v := nI 1) hx hb dL_law_287 (by decide) ?_
  refine rn_iadd (pc := 288) hx hb dL_law_288 ?_
  refine ra_sld (pc := 289) (pc := 289) (k := i + 1) hx hb hX hbl hbA hS (by omega) (by omega) dL_law_289 ?_
  refine lv_aload_n (pc := 290) hx hb dL_law_290 rfl (lv_at hl 1 rfl) ?_
  refine lv_iload_n (pc := 291) hx hb dL_law_291 rfl (lv_at hl 0 rfl) ?_
  refine lv_iconst (pc := 292) (v := nI 2) hx hb dL_law_292 (by decide) ?_
  refine rn_iadd (pc := 293) hx hb dL_law_293 ?_
  refine ra_sld (pc := 294) (pc := 294) (k := i + 2) hx hb hX hbl hbA hS (by omega) (by omega) dL_law_294 ?_
  refine ci_G (pc := 295) (pc := 295) (As := [.int (xs (i + 1)), .int (xs (i + 2))]) (rest := [.int (jI (zMaid P S ((xs (i + 1)).toInt) ((xs (i + 2)).toInt)))]) hF hN hK hP hV ha hS hA (k_X10_maid l D cI cC cB cS o ad P I sl wa ir (xs (i + 1)) ((xs (i + 1)).toInt) rfl (xs (i + 2)) ((xs (i + 2)).toInt) rfl S ms hpk hst hm hf0 hsb hir hwa) (cwV 2 htsL gL_law_X10_maid rfl rfl rfl (by decide +kernel) ⟨Nat.le_of_ble_eq_true rfl, Nat.le_of_ble_eq_true rfl⟩) [13, 31, 19, 20] rfl (by decide) 0 10 rfl rfl rfl hl.1 rfl (Nat.le_of_ble_eq_true rfl) dL_law_295 ⟨Nat.le_of_ble_eq_true rfl, Nat.le_of_ble_eq_true rfl⟩ (fun r u H locs hq hG hS => ?_)
  obtain ⟨rfl, rfl⟩ := hq
  obtain ⟨hP, ha⟩ := hG [[rmE o ad (pCells P) P.2.2.2.1 P.2.2.2.2.2.1 P.2.2.2.2.2.2 I], [nE 384 (ad 25) cI sl], [nE 3 (ad 9) cI wa], [nE 3 (ad 10) cI ir]] rfl rfl
  have hP : va_P D vwCl (List.flatten [rwW w0 t0 r0 p0 o0 s0 u0 y0 z0 g0 m0 b0 e20, ltW t0 t1 cC T, rdW r0 r1 r2 cI R, plW p0 p1 p2 p3 cI P, plW o0 o1 o2 o3 cI O, stW s0 s1 s2 s3 cI S, stW u0 u1 u2 u3 cI U, y8G y0 y1 yb cI cS Y, y2G z0 z1 zb cI cS Z, sgW g0 g1 g2 cI G, smW m0 m1 m2 cI M, roW b0 b1 b2 cI B, seW e20 e21 e22 cI E2, [rmE o ad (pCells P) P.2.2.2.1 P.2.2.2.2.2.1 P.2.2.2.2.2.2 I], [nE 24 (ad 2) cI to], [nE 6 (ad 4) cI so], [nE 6 (ad 5) cI cl], [nE 6 (ad 6) cI de], [nE 6 (ad 7) cI si], [nE 3 (ad 9) cI wa], [nE 3 (ad 10) cI ir], [nE 3 (ad 11) cI ms], [nE 24 (ad 14) cI nt], [nE 6 (ad 16) cI ns], [nE 6 (ad 17) cI nc], [nE 6 (ad 18) cI nd], [nE 6 (ad 19) cI ni], [nE 3 (ad 21) cI nw], [nE 3 (ad 22) cI nr], [nE 3 (ad 23) cI nk], [nE 3 (ad 24) cI na], [nE 384 (ad 25) cI sl], [nE 200 (ad 29) cB tx], [nE 8 (ad 34) cI sc], [nE 8 (ad 35) cI sh], [zE 984 (ad 36) cI fa], [nE 984 (ad 37) cI fr], [nE 984 (ad 38) cI qu], [zE 5 (ad 40) cI rw], [zE 5 (ad 41) cI be], [zE 64 (ad 42) cI mo], [zE 64 (ad 43) cI th]]) H := hP
  have ha : fsts (List.flatten [rwW w0 t0 r0 p0 o0 s0 u0 y0 z0 g0 m0 b0 e20, ltW t0 t1 cC T, rdW r0 r1 r2 cI R, plW p0 p1 p2 p3 cI P, plW o0 o1 o2 o3 cI O, stW s0 s1 s2 s3 cI S, stW u0 u1 u2 u3 cI U, y8G y0 y1 yb cI cS Y, y2G z0 z1 zb cI cS Z, sgW g0 g1 g2 cI G, smW m0 m1 m2 cI M, roW b0 b1 b2 cI B, seW e20 e21 e22 cI E2, [rmE o ad (pCells P) P.2.2.2.1 P.2.2.2.2.2.1 P.2.2.2.2.2.2 I], [nE 24 (ad 2) cI to], [nE 6 (ad 4) cI so], [nE 6 (ad 5) cI cl], [nE 6 (ad 6) cI de], [nE 6 (ad 7) cI si], [nE 3 (ad 9) cI wa], [nE 3 (ad 10) cI ir], [nE 3 (ad 11) cI ms], [nE 24 (ad 14) cI nt], [nE 6 (ad 16) cI ns], [nE 6 (ad 17) cI nc], [nE 6 (ad 18) cI nd], [nE 6 (ad 19) cI ni], [nE 3 (ad 21) cI nw], [nE 3 (ad 22) cI nr], [nE 3 (ad 23) cI nk], [nE 3 (ad 24) cI na], [nE 384 (ad 25) cI sl], [nE 200 (ad 29) cB tx], [nE 8 (ad 34) cI sc], [nE 8 (ad 35) cI sh], [zE 984 (ad 36) cI fa], [nE 984 (ad 37) cI fr], [nE 984 (ad 38) cI qu], [zE 5 (ad 40) cI rw], [zE 5 (ad 41) cI be], [zE 64 (ad 42) cI mo], [zE 64 (ad 43) cI th]]) = as := ha
  refine r_top (show jI (zMaid P S ((xs (i + 1)).toInt) ((xs (i + 2)).toInt)) = jI (zMaid P S ((xs (i + 1)).toInt) ((xs (i + 2)).toInt)) from rfl) ?_
  refine rc_eq (pc := 295) (pc := 298) (tgt := 870) hx hb rfl rfl dL_law_298 (by decide) (fun _ => ?_) (fun q => absurd rfl q)
  refine lv_iinc (pc := 870) (v := nI (i + 6)) (lv' := [(3, .int (nI (i + 6))), (0, .ref b), (1, .ref w0), (2, .ref o)]) hx hb dL_law_870 hl (k := 0) rfl (by rw [← nI_add]; rfl) (by decide) rfl (fun ls hl => ?_)
  refine lv_goto (pc := 870) (pc := 873) (tgt := 18) hx hb dL_law_873 (by decide) ?_
  exact next _ _ _ _ ⟨t0, t1, r0, r1, r2, p0, p1, p2, p3, o0, o1, o2, o3, s0, s1, s2, s3, u0, u1, u2, u3, y0, y1, z0, z1, g0, g1, g2, m0, m1, m2, b0, b1, b2, e20, e21, e22, yb, zb, ad, T, R, P, O, S, U, Y, Z, G, M, B, E2, I, to, so, cl, de, si, wa, ir, ms, nt, ns, nc, nd, ni, nw, nr, nk, na, sl, tx, sc, sh, fr, qu, fa, rw, be, mo, th, rfl, kA, kP, kS, kY, kT, kG, kN⟩ hP ha hS (lv_sub hl [0, 1, 2, 3] rfl)
set_option maxHeartbeats 16000000 in
set_option maxRecDepth 100000 in
theorem law_stroke {p : Program} {l : Launch} {e : Env} {s : State} {m : MethodId} {below : List Frame} {meth : Method} {c : Code} {D : va_G} {cI cC cB cS : ClassId} {b L : Nat} {xs : Nat → Int32} {w0 o i : Nat} {gs : List va_W} {as : List Nat} {H : Heap} {locs : List Loc} {ls : Array Slot} (hL : L ≤ 384) (hC : lwC D cI cC cB cS p s m meth c b L xs) (hi : i + 6 ≤ L) (hI : LI cI cC cB cS w0 o gs) (hP : va_P D vwCl gs.flatten H) (hV : vD (fun q : Nat => s.heap.size ≤ q) as) (ha : fsts gs.flatten = as) (hS : va_S (fun q : Nat => s.heap.size ≤ q) s.heap H locs) (hl : lv_has ls 4 [(3, .int (nI i)), (0, .ref b), (1, .ref w0), (2, .ref o)]) (next : ∀ (gs2 : List va_W) (H1 : Heap) (locs1 : List Loc) (ls1 : Array Slot), LI cI cC cB cS w0 o gs2 → va_P D vwCl gs2.flatten H1 → fsts gs2.flatten = as → va_S (fun q : Nat => s.heap.size ≤ q) s.heap H1 locs1 → lv_has ls1 4 [(3, .int (nI (i + 6))), (0, .ref b), (1, .ref w0), (2, .ref o)] → W p l e room_1 s m #[Value.ref b] below meth c H1 locs1 600000 7302250 (lw_Z below #[Value.ref b] s) (F0 m 18 ls1 [])) : W p l e room_1 s m #[Value.ref b] below meth c H locs 600000 7302250 (lw_Z below #[Value.ref b] s) (F0 m 303 ls []) := by
  obtain ⟨C0, htsL, hK, hN⟩ := hC
  obtain ⟨hx, hb, hr, hml, hown, hts0, hX, hbl, hlocks, hgv⟩ := id C0
  have hb : c.code = cL_law := hb
  have hA : ∀ q : Nat, s.heap.size ≤ q → (fun q : Nat => s.heap.size ≤ q) q := fun _ h => h
  have hbA : ¬ (fun q : Nat => s.heap.size ≤ q) b := Nat.not_le.mpr hbl
  have hF : mFacts p s m #[Value.ref b] c cL_law 4 wsL_law RL := ⟨hx, hb, hml, hown, htsL⟩
  have hl : lv_has ls 4 [(3, .int (nI i)), (0, .ref b), (1, .ref w0), (2, .ref o)] := hl
  obtain ⟨t0, t1, r0, r1, r2, p0, p1, p2, p3, o0, o1, o2, o3, s0, s1, s2, s3, u0, u1, u2, u3, y0, y1, z0, z1, g0, g1, g2, m0, m1, m2, b0, b1, b2, e20, e21, e22, yb, zb, ad, T, R, P, O, S, U, Y, Z, G, M, B, E2, I, to, so, cl, de, si, wa, ir, ms, nt, ns, nc, nd, ni, nw, nr, nk, na, sl, tx, sc, sh, fr, qu, fa, rw, be, mo, th, rfl, kA, kP, kS, kY, kT, kG, kN⟩ := hI
  obtain ⟨hTo, hRf, hRg, hOp, hMb⟩ := id kA
  obtain ⟨hpk, hc, hm, hto, htb, hso, hde, hsi, hwa, hir, hms⟩ := id kP
  obtain ⟨hsO, hf0, hsb⟩ := id kS
  obtain ⟨hst, hx2, hy9, hl9⟩ := id hsO
  obtain ⟨hy1, hya, hz1, hzk⟩ := id kY
  obtain ⟨hte, htl⟩ := id kT
  obtain ⟨hg8, hgb, hgn, hge, hsc⟩ := id kG
  obtain ⟨hnb, hbg⟩ := id kN
  have hw := hpk.1
  have hp := hw.1
  have hm3 : P.2.2.2.2.2.2 ≤ 3 := hp.2.2.2.2.2.2
  have hcl := pCells_le hp
  have hac8 : I.2.2.2.2.1 ≤ 8 := by rw [hya]; exact hy1.1
  have hkp2 : I.2.2.2.2.2.1 ≤ 2 := by rw [hzk]; exact hz1.1
  have hsn8 : I.2.2.2.2.2.2.2.2.2.2.1 ≤ 8 := by rw [hgn]; exact hg8
  have hlen : T.2 = I.2.2.2.2.2.2.1 := hte.1
  refine lv_aload_n (pc := 303) hx hb dL_law_303 rfl (lv_at hl 2 rfl) ?_
  refine lv_aload_n (pc := 304) hx hb dL_law_304 rfl (lv_at hl 1 rfl) ?_
  refine lv_iload_n (pc := 305) hx hb dL_law_305 rfl (lv_at hl 0 rfl) ?_
  refine lv_iconst (pc := 306) (v := nI 1) hx hb dL_law_306 (by decide) ?_
  refine rn_iadd (pc := 307) hx hb dL_law_307 ?_
  refine ra_sld (pc := 308) (pc := 308) (k := i + 1) hx hb hX hbl hbA hS (by omega) (by omega) dL_law_308 ?_
  refine lv_aload_n (pc := 309) hx hb dL_law_309 rfl (lv_at hl 1 rfl) ?_
  refine lv_iload_n (pc := 310) hx hb dL_law_310 rfl (lv_at hl 0 rfl) ?_
  refine lv_iconst (pc := 311) (v := nI 2) hx hb dL_law_311 (by decide) ?_
  refine rn_iadd (pc := 312) hx hb dL_law_312 ?_
  refine ra_sld (pc := 313) (pc := 313) (k := i + 2) hx hb hX hbl hbA hS (by omega) (by omega) dL_law_313 ?_
  refine ci_G (pc := 314) (pc := 314) (As := [.int (xs (i + 1)), .int (xs (i + 2))]) (rest := []) hF hN hK hP hV ha hS hA (k_X9_stroke l D cI cC cB cS w0 t0 r0 o0 u0 z0 g0 m0 b0 e20 p0 p1 p2 p3 P y0 y1 yb Y s0 s1 s2 s3 S (xs (i + 1)) ((xs (i + 1)).toInt) rfl (xs (i + 2)) ((xs (i + 2)).toInt) rfl hpk hst hy1.2.1.1 hy1.1) (cwV 2 htsL gL_law_X9_stroke rfl rfl rfl (by decide +kernel) ⟨Nat.le_of_ble_eq_true rfl, Nat.le_of_ble_eq_true rfl⟩) [0, 3, 7, 5] rfl (by decide) 0 9 rfl rfl rfl hl.1 rfl (Nat.le_of_ble_eq_true rfl) dL_law_314 ⟨Nat.le_of_ble_eq_true rfl, Nat.le_of_ble_eq_true rfl⟩ (fun r u H locs hq hG hS => ?_)
  obtain ⟨rfl, rfl⟩ := hq
  obtain ⟨hP, ha⟩ := hG [rwW w0 t0 r0 p0 o0 s0 u0 y0 z0 g0 m0 b0 e20, plW p0 p1 p2 p3 cI P, y8G y0 y1 yb cI cS (if aStroke P S ((xs (i + 1)).toInt) ((xs (i + 2)).toInt) then psh 8 Y S else Y), stW s0 s1 s2 s3 cI (if aStroke P S ((xs (i + 1)).toInt) ((xs (i + 2)).toInt) then strS P S ((xs (i + 1)).toInt).toNat ((xs (i + 2)).toInt).toNat else S)] rfl rfl
  have hP : va_P D vwCl (List.flatten [rwW w0 t0 r0 p0 o0 s0 u0 y0 z0 g0 m0 b0 e20, ltW t0 t1 cC T, rdW r0 r1 r2 cI R, plW p0 p1 p2 p3 cI P, plW o0 o1 o2 o3 cI O, stW s0 s1 s2 s3 cI (if aStroke P S ((xs (i + 1)).toInt) ((xs (i + 2)).toInt) then strS P S ((xs (i + 1)).toInt).toNat ((xs (i + 2)).toInt).toNat else S), stW u0 u1 u2 u3 cI U, y8G y0 y1 yb cI cS (if aStroke P S ((xs (i + 1)).toInt) ((xs (i + 2)).toInt) then psh 8 Y S else Y), y2G z0 z1 zb cI cS Z, sgW g0 g1 g2 cI G, smW m0 m1 m2 cI M, roW b0 b1 b2 cI B, seW e20 e21 e22 cI E2, [rmE o ad (pCells P) P.2.2.2.1 P.2.2.2.2.2.1 P.2.2.2.2.2.2 I], [nE 24 (ad 2) cI to], [nE 6 (ad 4) cI so], [nE 6 (ad 5) cI cl], [nE 6 (ad 6) cI de], [nE 6 (ad 7) cI si], [nE 3 (ad 9) cI wa], [nE 3 (ad 10) cI ir], [nE 3 (ad 11) cI ms], [nE 24 (ad 14) cI nt], [nE 6 (ad 16) cI ns], [nE 6 (ad 17) cI nc], [nE 6 (ad 18) cI nd], [nE 6 (ad 19) cI ni], [nE 3 (ad 21) cI nw], [nE 3 (ad 22) cI nr], [nE 3 (ad 23) cI nk], [nE 3 (ad 24) cI na], [nE 384 (ad 25) cI sl], [nE 200 (ad 29) cB tx], [nE 8 (ad 34) cI sc], [nE 8 (ad 35) cI sh], [zE 984 (ad 36) cI fa], [nE 984 (ad 37) cI fr], [nE 984 (ad 38) cI qu], [zE 5 (ad 40) cI rw], [zE 5 (ad 41) cI be], [zE 64 (ad 42) cI mo], [zE 64 (ad 43) cI th]]) H := hP
  have ha : fsts (List.flatten [rwW w0 t0 r0 p0 o0 s0 u0 y0 z0 g0 m0 b0 e20, ltW t0 t1 cC T, rdW r0 r1 r2 cI R, plW p0 p1 p2 p3 cI P, plW o0 o1 o2 o3 cI O, stW s0 s1 s2 s3 cI (if aStroke P S ((xs (i + 1)).toInt) ((xs (i + 2)).toInt) then strS P S ((xs (i + 1)).toInt).toNat ((xs (i + 2)).toInt).toNat else S), stW u0 u1 u2 u3 cI U, y8G y0 y1 yb cI cS (if aStroke P S ((xs (i + 1)).toInt) ((xs (i + 2)).toInt) then psh 8 Y S else Y), y2G z0 z1 zb cI cS Z, sgW g0 g1 g2 cI G, smW m0 m1 m2 cI M, roW b0 b1 b2 cI B, seW e20 e21 e22 cI E2, [rmE o ad (pCells P) P.2.2.2.1 P.2.2.2.2.2.1 P.2.2.2.2.2.2 I], [nE 24 (ad 2) cI to], [nE 6 (ad 4) cI so], [nE 6 (ad 5) cI cl], [nE 6 (ad 6) cI de], [nE 6 (ad 7) cI si], [nE 3 (ad 9) cI wa], [nE 3 (ad 10) cI ir], [nE 3 (ad 11) cI ms], [nE 24 (ad 14) cI nt], [nE 6 (ad 16) cI ns], [nE 6 (ad 17) cI nc], [nE 6 (ad 18) cI nd], [nE 6 (ad 19) cI ni], [nE 3 (ad 21) cI nw], [nE 3 (ad 22) cI nr], [nE 3 (ad 23) cI nk], [nE 3 (ad 24) cI na], [nE 384 (ad 25) cI sl], [nE 200 (ad 29) cB tx], [nE 8 (ad 34) cI sc], [nE 8 (ad 35) cI sh], [zE 984 (ad 36) cI fa], [nE 984 (ad 37) cI fr], [nE 984 (ad 38) cI qu], [zE 5 (ad 40) cI rw], [zE 5 (ad 41) cI be], [zE 64 (ad 42) cI mo], [zE 64 (ad 43) cI th]]) = as := ha
  refine lv_aload_n (pc := 317) hx hb dL_law_317 rfl (lv_at hl 3 rfl) ?_
  refine lv_aload_n (pc := 318) hx hb dL_law_318 rfl (lv_at hl 1 rfl) ?_
  refine lv_iload_n (pc := 319) hx hb dL_law_319 rfl (lv_at hl 0 rfl) ?_
  refine lv_iconst (pc := 320) (v := nI 1) hx hb dL_law_320 (by decide) ?_
  refine rn_iadd (pc := 321) hx hb dL_law_321 ?_
  refine ra_sld (pc := 322) (pc := 322) (k := i + 1) hx hb hX hbl hbA hS (by omega) (by omega) dL_law_322 ?_
  refine lv_aload_n (pc := 323) hx hb dL_law_323 rfl (lv_at hl 1 rfl) ?_
  refine lv_iload_n (pc := 324) hx hb dL_law_324 rfl (lv_at hl 0 rfl) ?_
  refine lv_iconst (pc := 325) (v := nI 2) hx hb dL_law_325 (by decide) ?_
  refine rn_iadd (pc := 326) hx hb dL_law_326 ?_
  refine ra_sld (pc := 327) (pc := 327) (k := i + 2) hx hb hX hbl hbA hS (by omega) (by omega) dL_law_327 ?_
  refine ci_G (pc := 328) (pc := 328) (As := [.int (xs (i + 1)), .int (xs (i + 2))]) (rest := [.int (jI (zStroke P S ((xs (i + 1)).toInt) ((xs (i + 2)).toInt)))]) hF hN hK hP hV ha hS hA (k_X10_stroke l D cI cC cB cS o ad P I sl wa ir (xs (i + 1)) ((xs (i + 1)).toInt) rfl (xs (i + 2)) ((xs (i + 2)).toInt) rfl S ms hpk hst hm hf0 hsb hir hwa hac8) (cwV 2 htsL gL_law_X10_stroke rfl rfl rfl (by decide +kernel) ⟨Nat.le_of_ble_eq_true rfl, Nat.le_of_ble_eq_true rfl⟩) [13, 31, 19, 20] rfl (by decide) 0 10 rfl rfl rfl hl.1 rfl (Nat.le_of_ble_eq_true rfl) dL_law_328 ⟨Nat.le_of_ble_eq_true rfl, Nat.le_of_ble_eq_true rfl⟩ (fun r u H locs hq hG hS => ?_)
  obtain ⟨rfl, f, ac9, rfl, hact⟩ := hq
  obtain ⟨hP, ha⟩ := hG [[rmE o ad (pCells P) P.2.2.2.1 P.2.2.2.2.2.1 P.2.2.2.2.2.2 (I.1, I.2.1, I.2.2.1, I.2.2.2.1, ac9, I.2.2.2.2.2.1, I.2.2.2.2.2.2.1, I.2.2.2.2.2.2.2.1, I.2.2.2.2.2.2.2.2.1, I.2.2.2.2.2.2.2.2.2.1, I.2.2.2.2.2.2.2.2.2.2.1, I.2.2.2.2.2.2.2.2.2.2.2)], [nE 384 (ad 25) cI f], [nE 3 (ad 9) cI wa], [nE 3 (ad 10) cI ir]] rfl rfl
  have hP : va_P D vwCl (List.flatten [rwW w0 t0 r0 p0 o0 s0 u0 y0 z0 g0 m0 b0 e20, ltW t0 t1 cC T, rdW r0 r1 r2 cI R, plW p0 p1 p2 p3 cI P, plW o0 o1 o2 o3 cI O, stW s0 s1 s2 s3 cI (if aStroke P S ((xs (i + 1)).toInt) ((xs (i + 2)).toInt) then strS P S ((xs (i + 1)).toInt).toNat ((xs (i + 2)).toInt).toNat else S), stW u0 u1 u2 u3 cI U, y8G y0 y1 yb cI cS (if aStroke P S ((xs (i + 1)).toInt) ((xs (i + 2)).toInt) then psh 8 Y S else Y), y2G z0 z1 zb cI cS Z, sgW g0 g1 g2 cI G, smW m0 m1 m2 cI M, roW b0 b1 b2 cI B, seW e20 e21 e22 cI E2, [rmE o ad (pCells P) P.2.2.2.1 P.2.2.2.2.2.1 P.2.2.2.2.2.2 (I.1, I.2.1, I.2.2.1, I.2.2.2.1, ac9, I.2.2.2.2.2.1, I.2.2.2.2.2.2.1, I.2.2.2.2.2.2.2.1, I.2.2.2.2.2.2.2.2.1, I.2.2.2.2.2.2.2.2.2.1, I.2.2.2.2.2.2.2.2.2.2.1, I.2.2.2.2.2.2.2.2.2.2.2)], [nE 24 (ad 2) cI to], [nE 6 (ad 4) cI so], [nE 6 (ad 5) cI cl], [nE 6 (ad 6) cI de], [nE 6 (ad 7) cI si], [nE 3 (ad 9) cI wa], [nE 3 (ad 10) cI ir], [nE 3 (ad 11) cI ms], [nE 24 (ad 14) cI nt], [nE 6 (ad 16) cI ns], [nE 6 (ad 17) cI nc], [nE 6 (ad 18) cI nd], [nE 6 (ad 19) cI ni], [nE 3 (ad 21) cI nw], [nE 3 (ad 22) cI nr], [nE 3 (ad 23) cI nk], [nE 3 (ad 24) cI na], [nE 384 (ad 25) cI f], [nE 200 (ad 29) cB tx], [nE 8 (ad 34) cI sc], [nE 8 (ad 35) cI sh], [zE 984 (ad 36) cI fa], [nE 984 (ad 37) cI fr], [nE 984 (ad 38) cI qu], [zE 5 (ad 40) cI rw], [zE 5 (ad 41) cI be], [zE 64 (ad 42) cI mo], [zE 64 (ad 43) cI th]]) H := hP
  have ha : fsts (List.flatten [rwW w0 t0 r0 p0 o0 s0 u0 y0 z0 g0 m0 b0 e20, ltW t0 t1 cC T, rdW r0 r1 r2 cI R, plW p0 p1 p2 p3 cI P, plW o0 o1 o2 o3 cI O, stW s0 s1 s2 s3 cI (if aStroke P S ((xs (i + 1)).toInt) ((xs (i + 2)).toInt) then strS P S ((xs (i + 1)).toInt).toNat ((xs (i + 2)).toInt).toNat else S), stW u0 u1 u2 u3 cI U, y8G y0 y1 yb cI cS (if aStroke P S ((xs (i + 1)).toInt) ((xs (i + 2)).toInt) then psh 8 Y S else Y), y2G z0 z1 zb cI cS Z, sgW g0 g1 g2 cI G, smW m0 m1 m2 cI M, roW b0 b1 b2 cI B, seW e20 e21 e22 cI E2, [rmE o ad (pCells P) P.2.2.2.1 P.2.2.2.2.2.1 P.2.2.2.2.2.2 (I.1, I.2.1, I.2.2.1, I.2.2.2.1, ac9, I.2.2.2.2.2.1, I.2.2.2.2.2.2.1, I.2.2.2.2.2.2.2.1, I.2.2.2.2.2.2.2.2.1, I.2.2.2.2.2.2.2.2.2.1, I.2.2.2.2.2.2.2.2.2.2.1, I.2.2.2.2.2.2.2.2.2.2.2)], [nE 24 (ad 2) cI to], [nE 6 (ad 4) cI so], [nE 6 (ad 5) cI cl], [nE 6 (ad 6) cI de], [nE 6 (ad 7) cI si], [nE 3 (ad 9) cI wa], [nE 3 (ad 10) cI ir], [nE 3 (ad 11) cI ms], [nE 24 (ad 14) cI nt], [nE 6 (ad 16) cI ns], [nE 6 (ad 17) cI nc], [nE 6 (ad 18) cI nd], [nE 6 (ad 19) cI ni], [nE 3 (ad 21) cI nw], [nE 3 (ad 22) cI nr], [nE 3 (ad 23) cI nk], [nE 3 (ad 24) cI na], [nE 384 (ad 25) cI f], [nE 200 (ad 29) cB tx], [nE 8 (ad 34) cI sc], [nE 8 (ad 35) cI sh], [zE 984 (ad 36) cI fa], [nE 984 (ad 37) cI fr], [nE 984 (ad 38) cI qu], [zE 5 (ad 40) cI rw], [zE 5 (ad 41) cI be], [zE 64 (ad 42) cI mo], [zE 64 (ad 43) cI th]]) = as := ha
  obtain ⟨hS9, hY9⟩ := act_step (c := aStroke P S (xs (i + 1)).toInt (xs (i + 2)).toInt) hpk (fun q9 => sOK_str hsO (by have h9 := q9.1.2; omega)) kS kY hact
  refine r_top (show jI (zStroke P S (xs (i + 1)).toInt (xs (i + 2)).toInt) = jI (zStroke P S ((xs (i + 1)).toInt) ((xs (i + 2)).toInt)) from rfl) ?_
  refine rc_eq (pc := 328) (pc := 331) (tgt := 870) hx hb rfl rfl dL_law_331 (by decide) (fun _ => ?_) (fun q => absurd rfl q)
  refine lv_iinc (pc := 870) (v := nI (i + 6)) (lv' := [(3, .int (nI (i + 6))), (0, .ref b), (1, .ref w0), (2, .ref o)]) hx hb dL_law_870 hl (k := 0) rfl (by rw [← nI_add]; rfl) (by decide) rfl (fun ls hl => ?_)
  refine lv_goto (pc := 870) (pc := 873) (tgt := 18) hx hb dL_law_873 (by decide) ?_
  exact next _ _ _ _ ⟨t0, t1, r0, r1, r2, p0, p1, p2, p3, o0, o1, o2, o3, s0, s1, s2, s3, u0, u1, u2, u3, y0, y1, z0, z1, g0, g1, g2, m0, m1, m2, b0, b1, b2, e20, e21, e22, yb, zb, ad, T, R, P, O, if aStroke P S ((xs (i + 1)).toInt) ((xs (i + 2)).toInt) then strS P S ((xs (i + 1)).toInt).toNat ((xs (i + 2)).toInt).toNat else S, U, if aStroke P S ((xs (i + 1)).toInt) ((xs (i + 2)).toInt) then psh 8 Y S else Y, Z, G, M, B, E2, (I.1, I.2.1, I.2.2.1, I.2.2.2.1, ac9, I.2.2.2.2.2.1, I.2.2.2.2.2.2.1, I.2.2.2.2.2.2.2.1, I.2.2.2.2.2.2.2.2.1, I.2.2.2.2.2.2.2.2.2.1, I.2.2.2.2.2.2.2.2.2.2.1, I.2.2.2.2.2.2.2.2.2.2.2), to, so, cl, de, si, wa, ir, ms, nt, ns, nc, nd, ni, nw, nr, nk, na, f, tx, sc, sh, fr, qu, fa, rw, be, mo, th, rfl, kA, kP, hS9, hY9, kT, kG, kN⟩ hP ha hS (lv_sub hl [0, 1, 2, 3] rfl)
set_option maxHeartbeats 16000000 in
set_option maxRecDepth 100000 in
theorem law_pass {p : Program} {l : Launch} {e : Env} {s : State} {m : MethodId} {below : List Frame} {meth : Method} {c : Code} {D : va_G} {cI cC cB cS : ClassId} {b L : Nat} {xs : Nat → Int32} {w0 o i : Nat} {gs : List va_W} {as : List Nat} {H : Heap} {locs : List Loc} {ls : Array Slot} (hL : L ≤ 384) (hC : lwC D cI cC cB cS p s m meth c b L xs) (hi : i + 6 ≤ L) (hI : LI cI cC cB cS w0 o gs) (hP : va_P D vwCl gs.flatten H) (hV : vD (fun q : Nat => s.heap.size ≤ q) as) (ha : fsts gs.flatten = as) (hS : va_S (fun q : Nat => s.heap.size ≤ q) s.heap H locs) (hl : lv_has ls 4 [(3, .int (nI i)), (0, .ref b), (1, .ref w0), (2, .ref o)]) (next : ∀ (gs2 : List va_W) (H1 : Heap) (locs1 : List Loc) (ls1 : Array Slot), LI cI cC cB cS w0 o gs2 → va_P D vwCl gs2.flatten H1 → fsts gs2.flatten = as → va_S (fun q : Nat => s.heap.size ≤ q) s.heap H1 locs1 → lv_has ls1 4 [(3, .int (nI (i + 6))), (0, .ref b), (1, .ref w0), (2, .ref o)] → W p l e room_1 s m #[Value.ref b] below meth c H1 locs1 600000 7302250 (lw_Z below #[Value.ref b] s) (F0 m 18 ls1 [])) : W p l e room_1 s m #[Value.ref b] below meth c H locs 600000 7302250 (lw_Z below #[Value.ref b] s) (F0 m 336 ls []) := by
  obtain ⟨C0, htsL, hK, hN⟩ := hC
  obtain ⟨hx, hb, hr, hml, hown, hts0, hX, hbl, hlocks, hgv⟩ := id C0
  have hb : c.code = cL_law := hb
  have hA : ∀ q : Nat, s.heap.size ≤ q → (fun q : Nat => s.heap.size ≤ q) q := fun _ h => h
  have hbA : ¬ (fun q : Nat => s.heap.size ≤ q) b := Nat.not_le.mpr hbl
  have hF : mFacts p s m #[Value.ref b] c cL_law 4 wsL_law RL := ⟨hx, hb, hml, hown, htsL⟩
  have hl : lv_has ls 4 [(3, .int (nI i)), (0, .ref b), (1, .ref w0), (2, .ref o)] := hl
  obtain ⟨t0, t1, r0, r1, r2, p0, p1, p2, p3, o0, o1, o2, o3, s0, s1, s2, s3, u0, u1, u2, u3, y0, y1, z0, z1, g0, g1, g2, m0, m1, m2, b0, b1, b2, e20, e21, e22, yb, zb, ad, T, R, P, O, S, U, Y, Z, G, M, B, E2, I, to, so, cl, de, si, wa, ir, ms, nt, ns, nc, nd, ni, nw, nr, nk, na, sl, tx, sc, sh, fr, qu, fa, rw, be, mo, th, rfl, kA, kP, kS, kY, kT, kG, kN⟩ := hI
  obtain ⟨hTo, hRf, hRg, hOp, hMb⟩ := id kA
  obtain ⟨hpk, hc, hm, hto, htb, hso, hde, hsi, hwa, hir, hms⟩ := id kP
  obtain ⟨hsO, hf0, hsb⟩ := id kS
  obtain ⟨hst, hx2, hy9, hl9⟩ := id hsO
  obtain ⟨hy1, hya, hz1, hzk⟩ := id kY
  obtain ⟨hte, htl⟩ := id kT
  obtain ⟨hg8, hgb, hgn, hge, hsc⟩ := id kG
  obtain ⟨hnb, hbg⟩ := id kN
  have hw := hpk.1
  have hp := hw.1
  have hm3 : P.2.2.2.2.2.2 ≤ 3 := hp.2.2.2.2.2.2
  have hcl := pCells_le hp
  have hac8 : I.2.2.2.2.1 ≤ 8 := by rw [hya]; exact hy1.1
  have hkp2 : I.2.2.2.2.2.1 ≤ 2 := by rw [hzk]; exact hz1.1
  have hsn8 : I.2.2.2.2.2.2.2.2.2.2.1 ≤ 8 := by rw [hgn]; exact hg8
  have hlen : T.2 = I.2.2.2.2.2.2.1 := hte.1
  refine lv_aload_n (pc := 336) hx hb dL_law_336 rfl (lv_at hl 2 rfl) ?_
  refine lv_aload_n (pc := 337) hx hb dL_law_337 rfl (lv_at hl 1 rfl) ?_
  refine lv_iload_n (pc := 338) hx hb dL_law_338 rfl (lv_at hl 0 rfl) ?_
  refine lv_iconst (pc := 339) (v := nI 1) hx hb dL_law_339 (by decide) ?_
  refine rn_iadd (pc := 340) hx hb dL_law_340 ?_
  refine ra_sld (pc := 341) (pc := 341) (k := i + 1) hx hb hX hbl hbA hS (by omega) (by omega) dL_law_341 ?_
  refine ci_G (pc := 342) (pc := 342) (As := [.int (xs (i + 1))]) (rest := []) hF hN hK hP hV ha hS hA (k_X9_pass l D cI cC cB cS w0 t0 r0 o0 u0 z0 g0 m0 b0 e20 p0 p1 p2 p3 P y0 y1 yb Y s0 s1 s2 s3 S (xs (i + 1)) ((xs (i + 1)).toInt) rfl hpk hst hy1.2.1.1 hy1.1) (cwV 1 htsL gL_law_X9_pass rfl rfl rfl (by decide +kernel) ⟨Nat.le_of_ble_eq_true rfl, Nat.le_of_ble_eq_true rfl⟩) [0, 3, 7, 5] rfl (by decide) 0 9 rfl rfl rfl hl.1 rfl (Nat.le_of_ble_eq_true rfl) dL_law_342 ⟨Nat.le_of_ble_eq_true rfl, Nat.le_of_ble_eq_true rfl⟩ (fun r u H locs hq hG hS => ?_)
  obtain ⟨rfl, rfl⟩ := hq
  obtain ⟨hP, ha⟩ := hG [rwW w0 t0 r0 p0 o0 s0 u0 y0 z0 g0 m0 b0 e20, plW p0 p1 p2 p3 cI P, y8G y0 y1 yb cI cS (if aPass S ((xs (i + 1)).toInt) then psh 8 Y S else Y), stW s0 s1 s2 s3 cI (if aPass S ((xs (i + 1)).toInt) then yearsS P S ((xs (i + 1)).toInt).toNat else S)] rfl rfl
  have hP : va_P D vwCl (List.flatten [rwW w0 t0 r0 p0 o0 s0 u0 y0 z0 g0 m0 b0 e20, ltW t0 t1 cC T, rdW r0 r1 r2 cI R, plW p0 p1 p2 p3 cI P, plW o0 o1 o2 o3 cI O, stW s0 s1 s2 s3 cI (if aPass S ((xs (i + 1)).toInt) then yearsS P S ((xs (i + 1)).toInt).toNat else S), stW u0 u1 u2 u3 cI U, y8G y0 y1 yb cI cS (if aPass S ((xs (i + 1)).toInt) then psh 8 Y S else Y), y2G z0 z1 zb cI cS Z, sgW g0 g1 g2 cI G, smW m0 m1 m2 cI M, roW b0 b1 b2 cI B, seW e20 e21 e22 cI E2, [rmE o ad (pCells P) P.2.2.2.1 P.2.2.2.2.2.1 P.2.2.2.2.2.2 I], [nE 24 (ad 2) cI to], [nE 6 (ad 4) cI so], [nE 6 (ad 5) cI cl], [nE 6 (ad 6) cI de], [nE 6 (ad 7) cI si], [nE 3 (ad 9) cI wa], [nE 3 (ad 10) cI ir], [nE 3 (ad 11) cI ms], [nE 24 (ad 14) cI nt], [nE 6 (ad 16) cI ns], [nE 6 (ad 17) cI nc], [nE 6 (ad 18) cI nd], [nE 6 (ad 19) cI ni], [nE 3 (ad 21) cI nw], [nE 3 (ad 22) cI nr], [nE 3 (ad 23) cI nk], [nE 3 (ad 24) cI na], [nE 384 (ad 25) cI sl], [nE 200 (ad 29) cB tx], [nE 8 (ad 34) cI sc], [nE 8 (ad 35) cI sh], [zE 984 (ad 36) cI fa], [nE 984 (ad 37) cI fr], [nE 984 (ad 38) cI qu], [zE 5 (ad 40) cI rw], [zE 5 (ad 41) cI be], [zE 64 (ad 42) cI mo], [zE 64 (ad 43) cI th]]) H := hP
  have ha : fsts (List.flatten [rwW w0 t0 r0 p0 o0 s0 u0 y0 z0 g0 m0 b0 e20, ltW t0 t1 cC T, rdW r0 r1 r2 cI R, plW p0 p1 p2 p3 cI P, plW o0 o1 o2 o3 cI O, stW s0 s1 s2 s3 cI (if aPass S ((xs (i + 1)).toInt) then yearsS P S ((xs (i + 1)).toInt).toNat else S), stW u0 u1 u2 u3 cI U, y8G y0 y1 yb cI cS (if aPass S ((xs (i + 1)).toInt) then psh 8 Y S else Y), y2G z0 z1 zb cI cS Z, sgW g0 g1 g2 cI G, smW m0 m1 m2 cI M, roW b0 b1 b2 cI B, seW e20 e21 e22 cI E2, [rmE o ad (pCells P) P.2.2.2.1 P.2.2.2.2.2.1 P.2.2.2.2.2.2 I], [nE 24 (ad 2) cI to], [nE 6 (ad 4) cI so], [nE 6 (ad 5) cI cl], [nE 6 (ad 6) cI de], [nE 6 (ad 7) cI si], [nE 3 (ad 9) cI wa], [nE 3 (ad 10) cI ir], [nE 3 (ad 11) cI ms], [nE 24 (ad 14) cI nt], [nE 6 (ad 16) cI ns], [nE 6 (ad 17) cI nc], [nE 6 (ad 18) cI nd], [nE 6 (ad 19) cI ni], [nE 3 (ad 21) cI nw], [nE 3 (ad 22) cI nr], [nE 3 (ad 23) cI nk], [nE 3 (ad 24) cI na], [nE 384 (ad 25) cI sl], [nE 200 (ad 29) cB tx], [nE 8 (ad 34) cI sc], [nE 8 (ad 35) cI sh], [zE 984 (ad 36) cI fa], [nE 984 (ad 37) cI fr], [nE 984 (ad 38) cI qu], [zE 5 (ad 40) cI rw], [zE 5 (ad 41) cI be], [zE 64 (ad 42) cI mo], [zE 64 (ad 43) cI th]]) = as := ha
  refine lv_aload_n (pc := 345) hx hb dL_law_345 rfl (lv_at hl 3 rfl) ?_
  refine lv_aload_n (pc := 346) hx hb dL_law_346 rfl (lv_at hl 1 rfl) ?_
  refine lv_iload_n (pc := 347) hx hb dL_law_347 rfl (lv_at hl 0 rfl) ?_
  refine lv_iconst (pc := 348) (v := nI 1) hx hb dL_law_348 (by decide) ?_
  refine rn_iadd (pc := 349) hx hb dL_law_349 ?_
  refine ra_sld (pc := 350) (pc := 350) (k := i + 1) hx hb hX hbl hbA hS (by omega) (by omega) dL_law_350 ?_
  refine ci_G (pc := 351) (pc := 351) (As := [.int (xs (i + 1))]) (rest := [.int (jI (zPass S ((xs (i + 1)).toInt)))]) hF hN hK hP hV ha hS hA (k_X10_pass l D cI cC cB cS o ad P I sl so cl de si ms (xs (i + 1)) ((xs (i + 1)).toInt) rfl S wa ir hpk hst hc hm hf0 hsb hde hso hsi hms hac8) (cwV 1 htsL gL_law_X10_pass rfl rfl rfl (by decide +kernel) ⟨Nat.le_of_ble_eq_true rfl, Nat.le_of_ble_eq_true rfl⟩) [13, 31, 15, 16, 17, 18, 21] rfl (by decide) 0 10 rfl rfl rfl hl.1 rfl (Nat.le_of_ble_eq_true rfl) dL_law_351 ⟨Nat.le_of_ble_eq_true rfl, Nat.le_of_ble_eq_true rfl⟩ (fun r u H locs hq hG hS => ?_)
  obtain ⟨rfl, f, ac9, rfl, hact⟩ := hq
  obtain ⟨hP, ha⟩ := hG [[rmE o ad (pCells P) P.2.2.2.1 P.2.2.2.2.2.1 P.2.2.2.2.2.2 (I.1, I.2.1, I.2.2.1, I.2.2.2.1, ac9, I.2.2.2.2.2.1, I.2.2.2.2.2.2.1, I.2.2.2.2.2.2.2.1, I.2.2.2.2.2.2.2.2.1, I.2.2.2.2.2.2.2.2.2.1, I.2.2.2.2.2.2.2.2.2.2.1, I.2.2.2.2.2.2.2.2.2.2.2)], [nE 384 (ad 25) cI f], [nE 6 (ad 4) cI so], [nE 6 (ad 5) cI cl], [nE 6 (ad 6) cI de], [nE 6 (ad 7) cI si], [nE 3 (ad 11) cI ms]] rfl rfl
  have hP : va_P D vwCl (List.flatten [rwW w0 t0 r0 p0 o0 s0 u0 y0 z0 g0 m0 b0 e20, ltW t0 t1 cC T, rdW r0 r1 r2 cI R, plW p0 p1 p2 p3 cI P, plW o0 o1 o2 o3 cI O, stW s0 s1 s2 s3 cI (if aPass S ((xs (i + 1)).toInt) then yearsS P S ((xs (i + 1)).toInt).toNat else S), stW u0 u1 u2 u3 cI U, y8G y0 y1 yb cI cS (if aPass S ((xs (i + 1)).toInt) then psh 8 Y S else Y), y2G z0 z1 zb cI cS Z, sgW g0 g1 g2 cI G, smW m0 m1 m2 cI M, roW b0 b1 b2 cI B, seW e20 e21 e22 cI E2, [rmE o ad (pCells P) P.2.2.2.1 P.2.2.2.2.2.1 P.2.2.2.2.2.2 (I.1, I.2.1, I.2.2.1, I.2.2.2.1, ac9, I.2.2.2.2.2.1, I.2.2.2.2.2.2.1, I.2.2.2.2.2.2.2.1, I.2.2.2.2.2.2.2.2.1, I.2.2.2.2.2.2.2.2.2.1, I.2.2.2.2.2.2.2.2.2.2.1, I.2.2.2.2.2.2.2.2.2.2.2)], [nE 24 (ad 2) cI to], [nE 6 (ad 4) cI so], [nE 6 (ad 5) cI cl], [nE 6 (ad 6) cI de], [nE 6 (ad 7) cI si], [nE 3 (ad 9) cI wa], [nE 3 (ad 10) cI ir], [nE 3 (ad 11) cI ms], [nE 24 (ad 14) cI nt], [nE 6 (ad 16) cI ns], [nE 6 (ad 17) cI nc], [nE 6 (ad 18) cI nd], [nE 6 (ad 19) cI ni], [nE 3 (ad 21) cI nw], [nE 3 (ad 22) cI nr], [nE 3 (ad 23) cI nk], [nE 3 (ad 24) cI na], [nE 384 (ad 25) cI f], [nE 200 (ad 29) cB tx], [nE 8 (ad 34) cI sc], [nE 8 (ad 35) cI sh], [zE 984 (ad 36) cI fa], [nE 984 (ad 37) cI fr], [nE 984 (ad 38) cI qu], [zE 5 (ad 40) cI rw], [zE 5 (ad 41) cI be], [zE 64 (ad 42) cI mo], [zE 64 (ad 43) cI th]]) H := hP
  have ha : fsts (List.flatten [rwW w0 t0 r0 p0 o0 s0 u0 y0 z0 g0 m0 b0 e20, ltW t0 t1 cC T, rdW r0 r1 r2 cI R, plW p0 p1 p2 p3 cI P, plW o0 o1 o2 o3 cI O, stW s0 s1 s2 s3 cI (if aPass S ((xs (i + 1)).toInt) then yearsS P S ((xs (i + 1)).toInt).toNat else S), stW u0 u1 u2 u3 cI U, y8G y0 y1 yb cI cS (if aPass S ((xs (i + 1)).toInt) then psh 8 Y S else Y), y2G z0 z1 zb cI cS Z, sgW g0 g1 g2 cI G, smW m0 m1 m2 cI M, roW b0 b1 b2 cI B, seW e20 e21 e22 cI E2, [rmE o ad (pCells P) P.2.2.2.1 P.2.2.2.2.2.1 P.2.2.2.2.2.2 (I.1, I.2.1, I.2.2.1, I.2.2.2.1, ac9, I.2.2.2.2.2.1, I.2.2.2.2.2.2.1, I.2.2.2.2.2.2.2.1, I.2.2.2.2.2.2.2.2.1, I.2.2.2.2.2.2.2.2.2.1, I.2.2.2.2.2.2.2.2.2.2.1, I.2.2.2.2.2.2.2.2.2.2.2)], [nE 24 (ad 2) cI to], [nE 6 (ad 4) cI so], [nE 6 (ad 5) cI cl], [nE 6 (ad 6) cI de], [nE 6 (ad 7) cI si], [nE 3 (ad 9) cI wa], [nE 3 (ad 10) cI ir], [nE 3 (ad 11) cI ms], [nE 24 (ad 14) cI nt], [nE 6 (ad 16) cI ns], [nE 6 (ad 17) cI nc], [nE 6 (ad 18) cI nd], [nE 6 (ad 19) cI ni], [nE 3 (ad 21) cI nw], [nE 3 (ad 22) cI nr], [nE 3 (ad 23) cI nk], [nE 3 (ad 24) cI na], [nE 384 (ad 25) cI f], [nE 200 (ad 29) cB tx], [nE 8 (ad 34) cI sc], [nE 8 (ad 35) cI sh], [zE 984 (ad 36) cI fa], [nE 984 (ad 37) cI fr], [nE 984 (ad 38) cI qu], [zE 5 (ad 40) cI rw], [zE 5 (ad 41) cI be], [zE 64 (ad 42) cI mo], [zE 64 (ad 43) cI th]]) = as := ha
  obtain ⟨hS9, hY9⟩ := act_step (c := aPass S (xs (i + 1)).toInt) hpk (fun q9 => sOK_years hpk hsO (by omega)) kS kY hact
  refine r_top (show jI (zPass S (xs (i + 1)).toInt) = jI (zPass S ((xs (i + 1)).toInt)) from rfl) ?_
  refine rc_eq (pc := 351) (pc := 354) (tgt := 870) hx hb rfl rfl dL_law_354 (by decide) (fun _ => ?_) (fun q => absurd rfl q)
  refine lv_iinc (pc := 870) (v := nI (i + 6)) (lv' := [(3, .int (nI (i + 6))), (0, .ref b), (1, .ref w0), (2, .ref o)]) hx hb dL_law_870 hl (k := 0) rfl (by rw [← nI_add]; rfl) (by decide) rfl (fun ls hl => ?_)
  refine lv_goto (pc := 870) (pc := 873) (tgt := 18) hx hb dL_law_873 (by decide) ?_
  exact next _ _ _ _ ⟨t0, t1, r0, r1, r2, p0, p1, p2, p3, o0, o1, o2, o3, s0, s1, s2, s3, u0, u1, u2, u3, y0, y1, z0, z1, g0, g1, g2, m0, m1, m2, b0, b1, b2, e20, e21, e22, yb, zb, ad, T, R, P, O, if aPass S ((xs (i + 1)).toInt) then yearsS P S ((xs (i + 1)).toInt).toNat else S, U, if aPass S ((xs (i + 1)).toInt) then psh 8 Y S else Y, Z, G, M, B, E2, (I.1, I.2.1, I.2.2.1, I.2.2.2.1, ac9, I.2.2.2.2.2.1, I.2.2.2.2.2.2.1, I.2.2.2.2.2.2.2.1, I.2.2.2.2.2.2.2.2.1, I.2.2.2.2.2.2.2.2.2.1, I.2.2.2.2.2.2.2.2.2.2.1, I.2.2.2.2.2.2.2.2.2.2.2), to, so, cl, de, si, wa, ir, ms, nt, ns, nc, nd, ni, nw, nr, nk, na, f, tx, sc, sh, fr, qu, fa, rw, be, mo, th, rfl, kA, kP, hS9, hY9, kT, kG, kN⟩ hP ha hS (lv_sub hl [0, 1, 2, 3] rfl)
