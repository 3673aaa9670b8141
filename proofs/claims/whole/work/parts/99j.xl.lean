set_option maxHeartbeats 16000000 in
set_option maxRecDepth 100000 in
theorem law_forget {p : Program} {l : Launch} {e : Env} {s : State} {m : MethodId} {below : List Frame} {meth : Method} {c : Code} {D : va_G} {cI cC cB cS : ClassId} {b L : Nat} {xs : Nat → Int32} {w0 o i : Nat} {gs : List va_W} {as : List Nat} {H : Heap} {locs : List Loc} {ls : Array Slot} (hL : L ≤ 384) (hC : lwC D cI cC cB cS p s m meth c b L xs) (hi : i + 6 ≤ L) (hI : LI cI cC cB cS w0 o gs) (hP : va_P D vwCl gs.flatten H) (hV : vD (fun q : Nat => s.heap.size ≤ q) as) (ha : fsts gs.flatten = as) (hS : va_S (fun q : Nat => s.heap.size ≤ q) s.heap H locs) (hl : lv_has ls 4 [(3, .int (nI i)), (0, .ref b), (1, .ref w0), (2, .ref o)]) (next : ∀ (gs2 : List va_W) (H1 : Heap) (locs1 : List Loc) (ls1 : Array Slot), LI cI cC cB cS w0 o gs2 → va_P D vwCl gs2.flatten H1 → fsts gs2.flatten = as → va_S (fun q : Nat => s.heap.size ≤ q) s.heap H1 locs1 → lv_has ls1 4 [(3, .int (nI (i + 6))), (0, .ref b), (1, .ref w0), (2, .ref o)] → W p l e room_1 s m #[Value.ref b] below meth c H1 locs1 600000 7302250 (lw_Z below #[Value.ref b] s) (F0 m 18 ls1 [])) : W p l e room_1 s m #[Value.ref b] below meth c H locs 600000 7302250 (lw_Z below #[Value.ref b] s) (F0 m 626 ls []) := by
  obtain ⟨C0, htsL, hK, hN⟩ := hC
  obtain ⟨hx, hb, hr, hml, hown, hts0, hX, hbl, hlocks, hgv⟩ := id C0
  have hb : c.code = cL_law := hb
  have hA : ∀ q : Nat, s.heap.size ≤ q → (fun q : Nat => s.heap.size ≤ q) q := fun _ h => h
  have hbA : ¬ (fun q : Nat => s.heap.size ≤ q) b := Nat.not_le.mpr hbl
  have hF : mFacts p s m #[Value.ref b] c cL_law 4 wsL_law RL := ⟨hx, hb, hml, hown, htsL⟩
  have hl : lv_has ls 4 [(3, .int (nI i)), (0, .ref b), (1, .ref w0), (2, .ref o)] := hl
  obtain ⟨t0, t1, r0, r1, r2, p0, p1, p2, p3, o0, o1, o2, o3, s0, s1, s2, s3, u0, u1, u2, u3, y0, y1, z0, z1, g0, g1, g2, m0, m1, m2, b0, b1, b2, e20, e21, e22, yb, zb, ad, T, R, P, O, S, U, Y, Z, G, M, B, E2, I, to, so, cl, de, si, wa, ir, ms, nt, ns, nc, nd, ni, nw, nr, nk, na, sl, tx, sc, sh, fr, qu, fa, rw, be, mo, th, rfl, kA, kP, kS, kY, kT, kG, kN⟩ := hI
  obtain ⟨hTo, hRf, hRg, hOp, hMb⟩ := id kA
  obtain ⟨hpk, hc, hm, hto, htb, hso, hde, hsi, hwa, hir, hms⟩ := id kP
  obtain ⟨hsO, hf0, hsb⟩ := id kS
  obtain ⟨hst, hx2, hy9, hl9⟩ := id hsO
  obtain ⟨hy1, hya, hz1, hzk⟩ := id kY
  obtain ⟨hte, htl⟩ := id kT
  obtain ⟨hg8, hgb, hgn, hge, hsc⟩ := id kG
  obtain ⟨hnb, hbg⟩ := id kN
  have hw := hpk.1
  have hp := hw.1
  have hm3 : P.2.2.2.2.2.2 ≤ 3 := hp.2.2.2.2.2.2
  have hcl := pCells_le hp
  have hac8 : I.2.2.2.2.1 ≤ 8 := by rw [hya]; exact hy1.1
  have hkp2 : I.2.2.2.2.2.1 ≤ 2 := by rw [hzk]; exact hz1.1
  have hsn8 : I.2.2.2.2.2.2.2.2.2.2.1 ≤ 8 := by rw [hgn]; exact hg8
  have hlen : T.2 = I.2.2.2.2.2.2.1 := hte.1
  refine lv_aload_n (pc := 626) hx hb dL_law_626 rfl (lv_at hl 2 rfl) ?_
  refine ci_G (pc := 627) (pc := 627) (As := []) (rest := []) hF hN hK hP hV ha hS hA (k_X9_forget l D cI cC cB cS w0 t0 r0 p0 o0 s0 u0 y0 z0 m0 b0 e20 g0 g1 g2 G) (cwV 0 htsL gL_law_X9_forget rfl rfl rfl (by decide +kernel) ⟨Nat.le_of_ble_eq_true rfl, Nat.le_of_ble_eq_true rfl⟩) [0, 9] rfl (by decide) 0 9 rfl rfl rfl hl.1 rfl (Nat.le_of_ble_eq_true rfl) dL_law_627 ⟨Nat.le_of_ble_eq_true rfl, Nat.le_of_ble_eq_true rfl⟩ (fun r u H locs hq hG hS => ?_)
  obtain ⟨rfl, rfl⟩ := hq
  obtain ⟨hP, ha⟩ := hG [rwW w0 t0 r0 p0 o0 s0 u0 y0 z0 g0 m0 b0 e20, sgW g0 g1 g2 cI (G.1, G.2.1, 0)] rfl rfl
  have hP : va_P D vwCl (List.flatten [rwW w0 t0 r0 p0 o0 s0 u0 y0 z0 g0 m0 b0 e20, ltW t0 t1 cC T, rdW r0 r1 r2 cI R, plW p0 p1 p2 p3 cI P, plW o0 o1 o2 o3 cI O, stW s0 s1 s2 s3 cI S, stW u0 u1 u2 u3 cI U, y8G y0 y1 yb cI cS Y, y2G z0 z1 zb cI cS Z, sgW g0 g1 g2 cI (G.1, G.2.1, 0), smW m0 m1 m2 cI M, roW b0 b1 b2 cI B, seW e20 e21 e22 cI E2, [rmE o ad (pCells P) P.2.2.2.1 P.2.2.2.2.2.1 P.2.2.2.2.2.2 I], [nE 24 (ad 2) cI to], [nE 6 (ad 4) cI so], [nE 6 (ad 5) cI cl], [nE 6 (ad 6) cI de], [nE 6 (ad 7) cI si], [nE 3 (ad 9) cI wa], [nE 3 (ad 10) cI ir], [nE 3 (ad 11) cI ms], [nE 24 (ad 14) cI nt], [nE 6 (ad 16) cI ns], [nE 6 (ad 17) cI nc], [nE 6 (ad 18) cI nd], [nE 6 (ad 19) cI ni], [nE 3 (ad 21) cI nw], [nE 3 (ad 22) cI nr], [nE 3 (ad 23) cI nk], [nE 3 (ad 24) cI na], [nE 384 (ad 25) cI sl], [nE 200 (ad 29) cB tx], [nE 8 (ad 34) cI sc], [nE 8 (ad 35) cI sh], [zE 984 (ad 36) cI fa], [nE 984 (ad 37) cI fr], [nE 984 (ad 38) cI qu], [zE 5 (ad 40) cI rw], [zE 5 (ad 41) cI be], [zE 64 (ad 42) cI mo], [zE 64 (ad 43) cI th]]) H := hP
  have ha : fsts (List.flatten [rwW w0 t0 r0 p0 o0 s0 u0 y0 z0 g0 m0 b0 e20, ltW t0 t1 cC T, rdW r0 r1 r2 cI R, plW p0 p1 p2 p3 cI P, plW o0 o1 o2 o3 cI O, stW s0 s1 s2 s3 cI S, stW u0 u1 u2 u3 cI U, y8G y0 y1 yb cI cS Y, y2G z0 z1 zb cI cS Z, sgW g0 g1 g2 cI (G.1, G.2.1, 0), smW m0 m1 m2 cI M, roW b0 b1 b2 cI B, seW e20 e21 e22 cI E2, [rmE o ad (pCells P) P.2.2.2.1 P.2.2.2.2.2.1 P.2.2.2.2.2.2 I], [nE 24 (ad 2) cI to], [nE 6 (ad 4) cI so], [nE 6 (ad 5) cI cl], [nE 6 (ad 6) cI de], [nE 6 (ad 7) cI si], [nE 3 (ad 9) cI wa], [nE 3 (ad 10) cI ir], [nE 3 (ad 11) cI ms], [nE 24 (ad 14) cI nt], [nE 6 (ad 16) cI ns], [nE 6 (ad 17) cI nc], [nE 6 (ad 18) cI nd], [nE 6 (ad 19) cI ni], [nE 3 (ad 21) cI nw], [nE 3 (ad 22) cI nr], [nE 3 (ad 23) cI nk], [nE 3 (ad 24) cI na], [nE 384 (ad 25) cI sl], [nE 200 (ad 29) cB tx], [nE 8 (ad 34) cI sc], [nE 8 (ad 35) cI sh], [zE 984 (ad 36) cI fa], [nE 984 (ad 37) cI fr], [nE 984 (ad 38) cI qu], [zE 5 (ad 40) cI rw], [zE 5 (ad 41) cI be], [zE 64 (ad 42) cI mo], [zE 64 (ad 43) cI th]]) = as := ha
  refine lv_aload_n (pc := 630) hx hb dL_law_630 rfl (lv_at hl 3 rfl) ?_
  refine ci_G (pc := 631) (pc := 631) (As := []) (rest := [.int (nI G.2.2)]) hF hN hK hP hV ha hS hA (k_X10_forget l D cI cC cB cS o ad P I) (cwV 0 htsL gL_law_X10_forget rfl rfl rfl (by decide +kernel) ⟨Nat.le_of_ble_eq_true rfl, Nat.le_of_ble_eq_true rfl⟩) [13] rfl (by decide) 0 10 rfl rfl rfl hl.1 rfl (Nat.le_of_ble_eq_true rfl) dL_law_631 ⟨Nat.le_of_ble_eq_true rfl, Nat.le_of_ble_eq_true rfl⟩ (fun r u H locs hq hG hS => ?_)
  obtain ⟨rfl, rfl⟩ := hq
  obtain ⟨hP, ha⟩ := hG [[rmE o ad (pCells P) P.2.2.2.1 P.2.2.2.2.2.1 P.2.2.2.2.2.2 (I.1, I.2.1, I.2.2.1, I.2.2.2.1, I.2.2.2.2.1, I.2.2.2.2.2.1, I.2.2.2.2.2.2.1, I.2.2.2.2.2.2.2.1, I.2.2.2.2.2.2.2.2.1, I.2.2.2.2.2.2.2.2.2.1, 0, I.2.2.2.2.2.2.2.2.2.2.2)]] rfl rfl
  have hP : va_P D vwCl (List.flatten [rwW w0 t0 r0 p0 o0 s0 u0 y0 z0 g0 m0 b0 e20, ltW t0 t1 cC T, rdW r0 r1 r2 cI R, plW p0 p1 p2 p3 cI P, plW o0 o1 o2 o3 cI O, stW s0 s1 s2 s3 cI S, stW u0 u1 u2 u3 cI U, y8G y0 y1 yb cI cS Y, y2G z0 z1 zb cI cS Z, sgW g0 g1 g2 cI (G.1, G.2.1, 0), smW m0 m1 m2 cI M, roW b0 b1 b2 cI B, seW e20 e21 e22 cI E2, [rmE o ad (pCells P) P.2.2.2.1 P.2.2.2.2.2.1 P.2.2.2.2.2.2 (I.1, I.2.1, I.2.2.1, I.2.2.2.1, I.2.2.2.2.1, I.2.2.2.2.2.1, I.2.2.2.2.2.2.1, I.2.2.2.2.2.2.2.1, I.2.2.2.2.2.2.2.2.1, I.2.2.2.2.2.2.2.2.2.1, 0, I.2.2.2.2.2.2.2.2.2.2.2)], [nE 24 (ad 2) cI to], [nE 6 (ad 4) cI so], [nE 6 (ad 5) cI cl], [nE 6 (ad 6) cI de], [nE 6 (ad 7) cI si], [nE 3 (ad 9) cI wa], [nE 3 (ad 10) cI ir], [nE 3 (ad 11) cI ms], [nE 24 (ad 14) cI nt], [nE 6 (ad 16) cI ns], [nE 6 (ad 17) cI nc], [nE 6 (ad 18) cI nd], [nE 6 (ad 19) cI ni], [nE 3 (ad 21) cI nw], [nE 3 (ad 22) cI nr], [nE 3 (ad 23) cI nk], [nE 3 (ad 24) cI na], [nE 384 (ad 25) cI sl], [nE 200 (ad 29) cB tx], [nE 8 (ad 34) cI sc], [nE 8 (ad 35) cI sh], [zE 984 (ad 36) cI fa], [nE 984 (ad 37) cI fr], [nE 984 (ad 38) cI qu], [zE 5 (ad 40) cI rw], [zE 5 (ad 41) cI be], [zE 64 (ad 42) cI mo], [zE 64 (ad 43) cI th]]) H := hP
  have ha : fsts (List.flatten [rwW w0 t0 r0 p0 o0 s0 u0 y0 z0 g0 m0 b0 e20, ltW t0 t1 cC T, rdW r0 r1 r2 cI R, plW p0 p1 p2 p3 cI P, plW o0 o1 o2 o3 cI O, stW s0 s1 s2 s3 cI S, stW u0 u1 u2 u3 cI U, y8G y0 y1 yb cI cS Y, y2G z0 z1 zb cI cS Z, sgW g0 g1 g2 cI (G.1, G.2.1, 0), smW m0 m1 m2 cI M, roW b0 b1 b2 cI B, seW e20 e21 e22 cI E2, [rmE o ad (pCells P) P.2.2.2.1 P.2.2.2.2.2.1 P.2.2.2.2.2.2 (I.1, I.2.1, I.2.2.1, I.2.2.2.1, I.2.2.2.2.1, I.2.2.2.2.2.1, I.2.2.2.2.2.2.1, I.2.2.2.2.2.2.2.1, I.2.2.2.2.2.2.2.2.1, I.2.2.2.2.2.2.2.2.2.1, 0, I.2.2.2.2.2.2.2.2.2.2.2)], [nE 24 (ad 2) cI to], [nE 6 (ad 4) cI so], [nE 6 (ad 5) cI cl], [nE 6 (ad 6) cI de], [nE 6 (ad 7) cI si], [nE 3 (ad 9) cI wa], [nE 3 (ad 10) cI ir], [nE 3 (ad 11) cI ms], [nE 24 (ad 14) cI nt], [nE 6 (ad 16) cI ns], [nE 6 (ad 17) cI nc], [nE 6 (ad 18) cI nd], [nE 6 (ad 19) cI ni], [nE 3 (ad 21) cI nw], [nE 3 (ad 22) cI nr], [nE 3 (ad 23) cI nk], [nE 3 (ad 24) cI na], [nE 384 (ad 25) cI sl], [nE 200 (ad 29) cB tx], [nE 8 (ad 34) cI sc], [nE 8 (ad 35) cI sh], [zE 984 (ad 36) cI fa], [nE 984 (ad 37) cI fr], [nE 984 (ad 38) cI qu], [zE 5 (ad 40) cI rw], [zE 5 (ad 41) cI be], [zE 64 (ad 42) cI mo], [zE 64 (ad 43) cI th]]) = as := ha
  refine r_top (show nI I.2.2.2.2.2.2.2.2.2.2.1 = nI G.2.2 from congrArg nI hgn) ?_
  refine rc_eq (pc := 631) (pc := 634) (tgt := 870) hx hb rfl rfl dL_law_634 (by decide) (fun _ => ?_) (fun q => absurd rfl q)
  refine lv_iinc (pc := 870) (v := nI (i + 6)) (lv' := [(3, .int (nI (i + 6))), (0, .ref b), (1, .ref w0), (2, .ref o)]) hx hb dL_law_870 hl (k := 0) rfl (by rw [← nI_add]; rfl) (by decide) rfl (fun ls hl => ?_)
  refine lv_goto (pc := 870) (pc := 873) (tgt := 18) hx hb dL_law_873 (by decide) ?_
  exact next _ _ _ _ ⟨t0, t1, r0, r1, r2, p0, p1, p2, p3, o0, o1, o2, o3, s0, s1, s2, s3, u0, u1, u2, u3, y0, y1, z0, z1, g0, g1, g2, m0, m1, m2, b0, b1, b2, e20, e21, e22, yb, zb, ad, T, R, P, O, S, U, Y, Z, (G.1, G.2.1, 0), M, B, E2, (I.1, I.2.1, I.2.2.1, I.2.2.2.1, I.2.2.2.2.1, I.2.2.2.2.2.1, I.2.2.2.2.2.2.1, I.2.2.2.2.2.2.2.1, I.2.2.2.2.2.2.2.2.1, I.2.2.2.2.2.2.2.2.2.1, 0, I.2.2.2.2.2.2.2.2.2.2.2), to, so, cl, de, si, wa, ir, ms, nt, ns, nc, nd, ni, nw, nr, nk, na, sl, tx, sc, sh, fr, qu, fa, rw, be, mo, th, rfl, kA, kP, kS, kY, kT, (lrG_0 kG), kN⟩ hP ha hS (lv_sub hl [0, 1, 2, 3] rfl)
set_option maxHeartbeats 16000000 in
set_option maxRecDepth 100000 in
theorem law_mind {p : Program} {l : Launch} {e : Env} {s : State} {m : MethodId} {below : List Frame} {meth : Method} {c : Code} {D : va_G} {cI cC cB cS : ClassId} {b L : Nat} {xs : Nat → Int32} {w0 o i : Nat} {gs : List va_W} {as : List Nat} {H : Heap} {locs : List Loc} {ls : Array Slot} (hL : L ≤ 384) (hC : lwC D cI cC cB cS p s m meth c b L xs) (hi : i + 6 ≤ L) (hI : LI cI cC cB cS w0 o gs) (hP : va_P D vwCl gs.flatten H) (hV : vD (fun q : Nat => s.heap.size ≤ q) as) (ha : fsts gs.flatten = as) (hS : va_S (fun q : Nat => s.heap.size ≤ q) s.heap H locs) (hl : lv_has ls 4 [(3, .int (nI i)), (0, .ref b), (1, .ref w0), (2, .ref o)]) (next : ∀ (gs2 : List va_W) (H1 : Heap) (locs1 : List Loc) (ls1 : Array Slot), LI cI cC cB cS w0 o gs2 → va_P D vwCl gs2.flatten H1 → fsts gs2.flatten = as → va_S (fun q : Nat => s.heap.size ≤ q) s.heap H1 locs1 → lv_has ls1 4 [(3, .int (nI (i + 6))), (0, .ref b), (1, .ref w0), (2, .ref o)] → W p l e room_1 s m #[Value.ref b] below meth c H1 locs1 600000 7302250 (lw_Z below #[Value.ref b] s) (F0 m 18 ls1 [])) : W p l e room_1 s m #[Value.ref b] below meth c H locs 600000 7302250 (lw_Z below #[Value.ref b] s) (F0 m 639 ls []) := by
  obtain ⟨C0, htsL, hK, hN⟩ := hC
  obtain ⟨hx, hb, hr, hml, hown, hts0, hX, hbl, hlocks, hgv⟩ := id C0
  have hb : c.code = cL_law := hb
  have hA : ∀ q : Nat, s.heap.size ≤ q → (fun q : Nat => s.heap.size ≤ q) q := fun _ h => h
  have hbA : ¬ (fun q : Nat => s.heap.size ≤ q) b := Nat.not_le.mpr hbl
  have hF : mFacts p s m #[Value.ref b] c cL_law 4 wsL_law RL := ⟨hx, hb, hml, hown, htsL⟩
  have hl : lv_has ls 4 [(3, .int (nI i)), (0, .ref b), (1, .ref w0), (2, .ref o)] := hl
  obtain ⟨t0, t1, r0, r1, r2, p0, p1, p2, p3, o0, o1, o2, o3, s0, s1, s2, s3, u0, u1, u2, u3, y0, y1, z0, z1, g0, g1, g2, m0, m1, m2, b0, b1, b2, e20, e21, e22, yb, zb, ad, T, R, P, O, S, U, Y, Z, G, M, B, E2, I, to, so, cl, de, si, wa, ir, ms, nt, ns, nc, nd, ni, nw, nr, nk, na, sl, tx, sc, sh, fr, qu, fa, rw, be, mo, th, rfl, kA, kP, kS, kY, kT, kG, kN⟩ := hI
  obtain ⟨hTo, hRf, hRg, hOp, hMb⟩ := id kA
  obtain ⟨hpk, hc, hm, hto, htb, hso, hde, hsi, hwa, hir, hms⟩ := id kP
  obtain ⟨hsO, hf0, hsb⟩ := id kS
  obtain ⟨hst, hx2, hy9, hl9⟩ := id hsO
  obtain ⟨hy1, hya, hz1, hzk⟩ := id kY
  obtain ⟨hte, htl⟩ := id kT
  obtain ⟨hg8, hgb, hgn, hge, hsc⟩ := id kG
  obtain ⟨hnb, hbg⟩ := id kN
  have hw := hpk.1
  have hp := hw.1
  have hm3 : P.2.2.2.2.2.2 ≤ 3 := hp.2.2.2.2.2.2
  have hcl := pCells_le hp
  have hac8 : I.2.2.2.2.1 ≤ 8 := by rw [hya]; exact hy1.1
  have hkp2 : I.2.2.2.2.2.1 ≤ 2 := by rw [hzk]; exact hz1.1
  have hsn8 : I.2.2.2.2.2.2.2.2.2.2.1 ≤ 8 := by rw [hgn]; exact hg8
  have hlen : T.2 = I.2.2.2.2.2.2.1 := hte.1
  refine lv_aload_n (pc := 639) hx hb dL_law_639 rfl (lv_at hl 2 rfl) ?_
  refine lv_aload_n (pc := 640) hx hb dL_law_640 rfl (lv_at hl 1 rfl) ?_
  refine lv_iload_n (pc := 641) hx hb dL_law_641 rfl (lv_at hl 0 rfl) ?_
  refine lv_iconst (pc := 642) (v := nI 1) hx hb dL_law_642 (by decide) ?_
  refine rn_iadd (pc := 643) hx hb dL_law_643 ?_
  refine ra_sld (pc := 644) (pc := 644) (k := i + 1) hx hb hX hbl hbA hS (by omega) (by omega) dL_law_644 ?_
  refine lv_aload_n (pc := 645) hx hb dL_law_645 rfl (lv_at hl 1 rfl) ?_
  refine lv_iload_n (pc := 646) hx hb dL_law_646 rfl (lv_at hl 0 rfl) ?_
  refine lv_iconst (pc := 647) (v := nI 2) hx hb dL_law_647 (by decide) ?_
  refine rn_iadd (pc := 648) hx hb dL_law_648 ?_
  refine ra_sld (pc := 649) (pc := 649) (k := i + 2) hx hb hX hbl hbA hS (by omega) (by omega) dL_law_649 ?_
  refine ci_G (pc := 650) (pc := 650) (As := [.int (xs (i + 1)), .int (xs (i + 2))]) (rest := []) hF hN hK hP hV ha hS hA (k_X9_mind l D cI cC cB cS w0 t0 r0 o0 s0 y0 z0 m0 b0 e20 p0 p1 p2 p3 P u0 u1 u2 u3 U g0 g1 g2 G (xs (i + 1)) ((xs (i + 1)).toInt) rfl (xs (i + 2)) ((xs (i + 2)).toInt) rfl hw hg8 hgb) (cwV 2 htsL gL_law_X9_mind rfl rfl rfl (by decide +kernel) ⟨Nat.le_of_ble_eq_true rfl, Nat.le_of_ble_eq_true rfl⟩) [0, 3, 6, 9] rfl (by decide) 0 9 rfl rfl rfl hl.1 rfl (Nat.le_of_ble_eq_true rfl) dL_law_650 ⟨Nat.le_of_ble_eq_true rfl, Nat.le_of_ble_eq_true rfl⟩ (fun r u H locs hq hG hS => ?_)
  obtain ⟨rfl, U9, rfl⟩ := hq
  obtain ⟨hP, ha⟩ := hG [rwW w0 t0 r0 p0 o0 s0 u0 y0 z0 g0 m0 b0 e20, plW p0 p1 p2 p3 cI P, stW u0 u1 u2 u3 cI U9, sgW g0 g1 g2 cI G] rfl rfl
  have hP : va_P D vwCl (List.flatten [rwW w0 t0 r0 p0 o0 s0 u0 y0 z0 g0 m0 b0 e20, ltW t0 t1 cC T, rdW r0 r1 r2 cI R, plW p0 p1 p2 p3 cI P, plW o0 o1 o2 o3 cI O, stW s0 s1 s2 s3 cI S, stW u0 u1 u2 u3 cI U9, y8G y0 y1 yb cI cS Y, y2G z0 z1 zb cI cS Z, sgW g0 g1 g2 cI G, smW m0 m1 m2 cI M, roW b0 b1 b2 cI B, seW e20 e21 e22 cI E2, [rmE o ad (pCells P) P.2.2.2.1 P.2.2.2.2.2.1 P.2.2.2.2.2.2 I], [nE 24 (ad 2) cI to], [nE 6 (ad 4) cI so], [nE 6 (ad 5) cI cl], [nE 6 (ad 6) cI de], [nE 6 (ad 7) cI si], [nE 3 (ad 9) cI wa], [nE 3 (ad 10) cI ir], [nE 3 (ad 11) cI ms], [nE 24 (ad 14) cI nt], [nE 6 (ad 16) cI ns], [nE 6 (ad 17) cI nc], [nE 6 (ad 18) cI nd], [nE 6 (ad 19) cI ni], [nE 3 (ad 21) cI nw], [nE 3 (ad 22) cI nr], [nE 3 (ad 23) cI nk], [nE 3 (ad 24) cI na], [nE 384 (ad 25) cI sl], [nE 200 (ad 29) cB tx], [nE 8 (ad 34) cI sc], [nE 8 (ad 35) cI sh], [zE 984 (ad 36) cI fa], [nE 984 (ad 37) cI fr], [nE 984 (ad 38) cI qu], [zE 5 (ad 40) cI rw], [zE 5 (ad 41) cI be], [zE 64 (ad 42) cI mo], [zE 64 (ad 43) cI th]]) H := hP
  have ha : fsts (List.flatten [rwW w0 t0 r0 p0 o0 s0 u0 y0 z0 g0 m0 b0 e20, ltW t0 t1 cC T, rdW r0 r1 r2 cI R, plW p0 p1 p2 p3 cI P, plW o0 o1 o2 o3 cI O, stW s0 s1 s2 s3 cI S, stW u0 u1 u2 u3 cI U9, y8G y0 y1 yb cI cS Y, y2G z0 z1 zb cI cS Z, sgW g0 g1 g2 cI G, smW m0 m1 m2 cI M, roW b0 b1 b2 cI B, seW e20 e21 e22 cI E2, [rmE o ad (pCells P) P.2.2.2.1 P.2.2.2.2.2.1 P.2.2.2.2.2.2 I], [nE 24 (ad 2) cI to], [nE 6 (ad 4) cI so], [nE 6 (ad 5) cI cl], [nE 6 (ad 6) cI de], [nE 6 (ad 7) cI si], [nE 3 (ad 9) cI wa], [nE 3 (ad 10) cI ir], [nE 3 (ad 11) cI ms], [nE 24 (ad 14) cI nt], [nE 6 (ad 16) cI ns], [nE 6 (ad 17) cI nc], [nE 6 (ad 18) cI nd], [nE 6 (ad 19) cI ni], [nE 3 (ad 21) cI nw], [nE 3 (ad 22) cI nr], [nE 3 (ad 23) cI nk], [nE 3 (ad 24) cI na], [nE 384 (ad 25) cI sl], [nE 200 (ad 29) cB tx], [nE 8 (ad 34) cI sc], [nE 8 (ad 35) cI sh], [zE 984 (ad 36) cI fa], [nE 984 (ad 37) cI fr], [nE 984 (ad 38) cI qu], [zE 5 (ad 40) cI rw], [zE 5 (ad 41) cI be], [zE 64 (ad 42) cI mo], [zE 64 (ad 43) cI th]]) = as := ha
  refine lv_aload_n (pc := 653) hx hb dL_law_653 rfl (lv_at hl 3 rfl) ?_
  refine lv_aload_n (pc := 654) hx hb dL_law_654 rfl (lv_at hl 1 rfl) ?_
  refine lv_iload_n (pc := 655) hx hb dL_law_655 rfl (lv_at hl 0 rfl) ?_
  refine lv_iconst (pc := 656) (v := nI 1) hx hb dL_law_656 (by decide) ?_
  refine rn_iadd (pc := 657) hx hb dL_law_657 ?_
  refine ra_sld (pc := 658) (pc := 658) (k := i + 1) hx hb hX hbl hbA hS (by omega) (by omega) dL_law_658 ?_
  refine lv_aload_n (pc := 659) hx hb dL_law_659 rfl (lv_at hl 1 rfl) ?_
  refine lv_iload_n (pc := 660) hx hb dL_law_660 rfl (lv_at hl 0 rfl) ?_
  refine lv_iconst (pc := 661) (v := nI 2) hx hb dL_law_661 (by decide) ?_
  refine rn_iadd (pc := 662) hx hb dL_law_662 ?_
  refine ra_sld (pc := 663) (pc := 663) (k := i + 2) hx hb hX hbl hbA hS (by omega) (by omega) dL_law_663 ?_
  refine ci_G (pc := 664) (pc := 664) (As := [.int (xs (i + 1)), .int (xs (i + 2))]) (rest := [.int (jI (zMind P G (xs (i + 1)).toInt (xs (i + 2)).toInt))]) hF hN hK hP hV ha hS hA (k_X10_mind l D cI cC cB cS o ad P I sl so cl de si ms to sc sh (xs (i + 1)) ((xs (i + 1)).toInt) rfl (xs (i + 2)) ((xs (i + 2)).toInt) rfl wa ir hpk hc hm hto hsb hde hso hsi hms htb hsc hsn8) (cwV 2 htsL gL_law_X10_mind rfl rfl rfl (by decide +kernel) ⟨Nat.le_of_ble_eq_true rfl, Nat.le_of_ble_eq_true rfl⟩) [13, 31, 15, 16, 17, 18, 21, 14, 33, 34] rfl (by decide) 0 10 rfl rfl rfl hl.1 rfl (Nat.le_of_ble_eq_true rfl) dL_law_664 ⟨Nat.le_of_ble_eq_true rfl, Nat.le_of_ble_eq_true rfl⟩ (fun r u H locs hq hG hS => ?_)
  obtain ⟨rfl, f, rfl, hE⟩ := hq
  obtain ⟨hP, ha⟩ := hG [[rmE o ad (pCells P) P.2.2.2.1 P.2.2.2.2.2.1 P.2.2.2.2.2.2 I], [nE 384 (ad 25) cI f], [nE 6 (ad 4) cI so], [nE 6 (ad 5) cI cl], [nE 6 (ad 6) cI de], [nE 6 (ad 7) cI si], [nE 3 (ad 11) cI ms], [nE 24 (ad 2) cI to], [nE 8 (ad 34) cI sc], [nE 8 (ad 35) cI sh]] rfl rfl
  have hP : va_P D vwCl (List.flatten [rwW w0 t0 r0 p0 o0 s0 u0 y0 z0 g0 m0 b0 e20, ltW t0 t1 cC T, rdW r0 r1 r2 cI R, plW p0 p1 p2 p3 cI P, plW o0 o1 o2 o3 cI O, stW s0 s1 s2 s3 cI S, stW u0 u1 u2 u3 cI U9, y8G y0 y1 yb cI cS Y, y2G z0 z1 zb cI cS Z, sgW g0 g1 g2 cI G, smW m0 m1 m2 cI M, roW b0 b1 b2 cI B, seW e20 e21 e22 cI E2, [rmE o ad (pCells P) P.2.2.2.1 P.2.2.2.2.2.1 P.2.2.2.2.2.2 I], [nE 24 (ad 2) cI to], [nE 6 (ad 4) cI so], [nE 6 (ad 5) cI cl], [nE 6 (ad 6) cI de], [nE 6 (ad 7) cI si], [nE 3 (ad 9) cI wa], [nE 3 (ad 10) cI ir], [nE 3 (ad 11) cI ms], [nE 24 (ad 14) cI nt], [nE 6 (ad 16) cI ns], [nE 6 (ad 17) cI nc], [nE 6 (ad 18) cI nd], [nE 6 (ad 19) cI ni], [nE 3 (ad 21) cI nw], [nE 3 (ad 22) cI nr], [nE 3 (ad 23) cI nk], [nE 3 (ad 24) cI na], [nE 384 (ad 25) cI f], [nE 200 (ad 29) cB tx], [nE 8 (ad 34) cI sc], [nE 8 (ad 35) cI sh], [zE 984 (ad 36) cI fa], [nE 984 (ad 37) cI fr], [nE 984 (ad 38) cI qu], [zE 5 (ad 40) cI rw], [zE 5 (ad 41) cI be], [zE 64 (ad 42) cI mo], [zE 64 (ad 43) cI th]]) H := hP
  have ha : fsts (List.flatten [rwW w0 t0 r0 p0 o0 s0 u0 y0 z0 g0 m0 b0 e20, ltW t0 t1 cC T, rdW r0 r1 r2 cI R, plW p0 p1 p2 p3 cI P, plW o0 o1 o2 o3 cI O, stW s0 s1 s2 s3 cI S, stW u0 u1 u2 u3 cI U9, y8G y0 y1 yb cI cS Y, y2G z0 z1 zb cI cS Z, sgW g0 g1 g2 cI G, smW m0 m1 m2 cI M, roW b0 b1 b2 cI B, seW e20 e21 e22 cI E2, [rmE o ad (pCells P) P.2.2.2.1 P.2.2.2.2.2.1 P.2.2.2.2.2.2 I], [nE 24 (ad 2) cI to], [nE 6 (ad 4) cI so], [nE 6 (ad 5) cI cl], [nE 6 (ad 6) cI de], [nE 6 (ad 7) cI si], [nE 3 (ad 9) cI wa], [nE 3 (ad 10) cI ir], [nE 3 (ad 11) cI ms], [nE 24 (ad 14) cI nt], [nE 6 (ad 16) cI ns], [nE 6 (ad 17) cI nc], [nE 6 (ad 18) cI nd], [nE 6 (ad 19) cI ni], [nE 3 (ad 21) cI nw], [nE 3 (ad 22) cI nr], [nE 3 (ad 23) cI nk], [nE 3 (ad 24) cI na], [nE 384 (ad 25) cI f], [nE 200 (ad 29) cB tx], [nE 8 (ad 34) cI sc], [nE 8 (ad 35) cI sh], [zE 984 (ad 36) cI fa], [nE 984 (ad 37) cI fr], [nE 984 (ad 38) cI qu], [zE 5 (ad 40) cI rw], [zE 5 (ad 41) cI be], [zE 64 (ad 42) cI mo], [zE 64 (ad 43) cI th]]) = as := ha
  refine r_top (show jI (zMind P (sc, sh, I.2.2.2.2.2.2.2.2.2.2.1) (xs (i + 1)).toInt (xs (i + 2)).toInt) = jI (zMind P G (xs (i + 1)).toInt (xs (i + 2)).toInt) from congrArg jI (zMind_eq (lrG_eq kG) _ _).symm) ?_
  refine rc_eq (pc := 664) (pc := 667) (tgt := 870) hx hb rfl rfl dL_law_667 (by decide) (fun _ => ?_) (fun q => absurd rfl q)
  refine lv_iinc (pc := 870) (v := nI (i + 6)) (lv' := [(3, .int (nI (i + 6))), (0, .ref b), (1, .ref w0), (2, .ref o)]) hx hb dL_law_870 hl (k := 0) rfl (by rw [← nI_add]; rfl) (by decide) rfl (fun ls hl => ?_)
  refine lv_goto (pc := 870) (pc := 873) (tgt := 18) hx hb dL_law_873 (by decide) ?_
  exact next _ _ _ _ ⟨t0, t1, r0, r1, r2, p0, p1, p2, p3, o0, o1, o2, o3, s0, s1, s2, s3, u0, u1, u2, u3, y0, y1, z0, z1, g0, g1, g2, m0, m1, m2, b0, b1, b2, e20, e21, e22, yb, zb, ad, T, R, P, O, S, U9, Y, Z, G, M, B, E2, I, to, so, cl, de, si, wa, ir, ms, nt, ns, nc, nd, ni, nw, nr, nk, na, f, tx, sc, sh, fr, qu, fa, rw, be, mo, th, rfl, kA, kP, (lrS_end hm3 hE kS), (lrY_end hm3 hE kY), kT, kG, kN⟩ hP ha hS (lv_sub hl [0, 1, 2, 3] rfl)
set_option maxHeartbeats 16000000 in
set_option maxRecDepth 100000 in
theorem law_deep {p : Program} {l : Launch} {e : Env} {s : State} {m : MethodId} {below : List Frame} {meth : Method} {c : Code} {D : va_G} {cI cC cB cS : ClassId} {b L : Nat} {xs : Nat → Int32} {w0 o i : Nat} {gs : List va_W} {as : List Nat} {H : Heap} {locs : List Loc} {ls : Array Slot} (hL : L ≤ 384) (hC : lwC D cI cC cB cS p s m meth c b L xs) (hi : i + 6 ≤ L) (hI : LI cI cC cB cS w0 o gs) (hP : va_P D vwCl gs.flatten H) (hV : vD (fun q : Nat => s.heap.size ≤ q) as) (ha : fsts gs.flatten = as) (hS : va_S (fun q : Nat => s.heap.size ≤ q) s.heap H locs) (hl : lv_has ls 4 [(3, .int (nI i)), (0, .ref b), (1, .ref w0), (2, .ref o)]) (next : ∀ (gs2 : List va_W) (H1 : Heap) (locs1 : List Loc) (ls1 : Array Slot), LI cI cC cB cS w0 o gs2 → va_P D vwCl gs2.flatten H1 → fsts gs2.flatten = as → va_S (fun q : Nat => s.heap.size ≤ q) s.heap H1 locs1 → lv_has ls1 4 [(3, .int (nI (i + 6))), (0, .ref b), (1, .ref w0), (2, .ref o)] → W p l e room_1 s m #[Value.ref b] below meth c H1 locs1 600000 7302250 (lw_Z below #[Value.ref b] s) (F0 m 18 ls1 [])) : W p l e room_1 s m #[Value.ref b] below meth c H locs 600000 7302250 (lw_Z below #[Value.ref b] s) (F0 m 672 ls []) := by
  obtain ⟨C0, htsL, hK, hN⟩ := hC
  obtain ⟨hx, hb, hr, hml, hown, hts0, hX, hbl, hlocks, hgv⟩ := id C0
  have hb : c.code = cL_law := hb
  have hA : ∀ q : Nat, s.heap.size ≤ q → (fun q : Nat => s.heap.size ≤ q) q := fun _ h => h
  have hbA : ¬ (fun q : Nat => s.heap.size ≤ q) b := Nat.not_le.mpr hbl
  have hF : mFacts p s m #[Value.ref b] c cL_law 4 wsL_law RL := ⟨hx, hb, hml, hown, htsL⟩
  have hl : lv_has ls 4 [(3, .int (nI i)), (0, .ref b), (1, .ref w0), (2, .ref o)] := hl
  obtain ⟨t0, t1, r0, r1, r2, p0, p1, p2, p3, o0, o1, o2, o3, s0, s1, s2, s3, u0, u1, u2, u3, y0, y1, z0, z1, g0, g1, g2, m0, m1, m2, b0, b1, b2, e20, e21, e22, yb, zb, ad, T, R, P, O, S, U, Y, Z, G, M, B, E2, I, to, so, cl, de, si, wa, ir, ms, nt, ns, nc, nd, ni, nw, nr, nk, na, sl, tx, sc, sh, fr, qu, fa, rw, be, mo, th, rfl, kA, kP, kS, kY, kT, kG, kN⟩ := hI
  obtain ⟨hTo, hRf, hRg, hOp, hMb⟩ := id kA
  obtain ⟨hpk, hc, hm, hto, htb, hso, hde, hsi, hwa, hir, hms⟩ := id kP
  obtain ⟨hsO, hf0, hsb⟩ := id kS
  obtain ⟨hst, hx2, hy9, hl9⟩ := id hsO
  obtain ⟨hy1, hya, hz1, hzk⟩ := id kY
  obtain ⟨hte, htl⟩ := id kT
  obtain ⟨hg8, hgb, hgn, hge, hsc⟩ := id kG
  obtain ⟨hnb, hbg⟩ := id kN
  have hw := hpk.1
  have hp := hw.1
  have hm3 : P.2.2.2.2.2.2 ≤ 3 := hp.2.2.2.2.2.2
  have hcl := pCells_le hp
  have hac8 : I.2.2.2.2.1 ≤ 8 := by rw [hya]; exact hy1.1
  have hkp2 : I.2.2.2.2.2.1 ≤ 2 := by rw [hzk]; exact hz1.1
  have hsn8 : I.2.2.2.2.2.2.2.2.2.2.1 ≤ 8 := by rw [hgn]; exact hg8
  have hlen : T.2 = I.2.2.2.2.2.2.1 := hte.1
  refine lv_aload_n (pc := 672) hx hb dL_law_672 rfl (lv_at hl 2 rfl) ?_
  refine lv_aload_n (pc := 673) hx hb dL_law_673 rfl (lv_at hl 1 rfl) ?_
  refine lv_iload_n (pc := 674) hx hb dL_law_674 rfl (lv_at hl 0 rfl) ?_
  refine lv_iconst (pc := 675) (v := nI 1) hx hb dL_law_675 (by decide) ?_
  refine rn_iadd (pc := 676) hx hb dL_law_676 ?_
  refine ra_sld (pc := 677) (pc := 677) (k := i + 1) hx hb hX hbl hbA hS (by omega) (by omega) dL_law_677 ?_
  refine lv_aload_n (pc := 678) hx hb dL_law_678 rfl (lv_at hl 1 rfl) ?_
  refine lv_iload_n (pc := 679) hx hb dL_law_679 rfl (lv_at hl 0 rfl) ?_
  refine lv_iconst (pc := 680) (v := nI 2) hx hb dL_law_680 (by decide) ?_
  refine rn_iadd (pc := 681) hx hb dL_law_681 ?_
  refine ra_sld (pc := 682) (pc := 682) (k := i + 2) hx hb hX hbl hbA hS (by omega) (by omega) dL_law_682 ?_
  refine lv_aload_n (pc := 683) hx hb dL_law_683 rfl (lv_at hl 1 rfl) ?_
  refine lv_iload_n (pc := 684) hx hb dL_law_684 rfl (lv_at hl 0 rfl) ?_
  refine lv_iconst (pc := 685) (v := nI 3) hx hb dL_law_685 (by decide) ?_
  refine rn_iadd (pc := 686) hx hb dL_law_686 ?_
  refine ra_sld (pc := 687) (pc := 687) (k := i + 3) hx hb hX hbl hbA hS (by omega) (by omega) dL_law_687 ?_
  refine ci_G (pc := 688) (pc := 688) (As := [.int (xs (i + 1)), .int (xs (i + 2)), .int (xs (i + 3))]) (rest := []) hF hN hK hP hV ha hS hA (k_X9_deep l D cI cC cB cS w0 t0 r0 s0 y0 z0 m0 b0 e20 p0 p1 p2 p3 P o0 o1 o2 o3 O u0 u1 u2 u3 U g0 g1 g2 G (xs (i + 1)) ((xs (i + 1)).toInt) rfl (xs (i + 2)) ((xs (i + 2)).toInt) rfl (xs (i + 3)) ((xs (i + 3)).toInt) rfl hw hg8 hgb hOp) (cwV 3 htsL gL_law_X9_deep rfl rfl rfl (by decide +kernel) ⟨Nat.le_of_ble_eq_true rfl, Nat.le_of_ble_eq_true rfl⟩) [0, 3, 4, 6, 9] rfl (by decide) 0 9 rfl rfl rfl hl.1 rfl (Nat.le_of_ble_eq_true rfl) dL_law_688 ⟨Nat.le_of_ble_eq_true rfl, Nat.le_of_ble_eq_true rfl⟩ (fun r u H locs hq hG hS => ?_)
  obtain ⟨rfl, O9, U9, rfl, hO9⟩ := hq
  obtain ⟨hP, ha⟩ := hG [rwW w0 t0 r0 p0 o0 s0 u0 y0 z0 g0 m0 b0 e20, plW p0 p1 p2 p3 cI P, plW o0 o1 o2 o3 cI O9, stW u0 u1 u2 u3 cI U9, sgW g0 g1 g2 cI G] rfl rfl
  have hP : va_P D vwCl (List.flatten [rwW w0 t0 r0 p0 o0 s0 u0 y0 z0 g0 m0 b0 e20, ltW t0 t1 cC T, rdW r0 r1 r2 cI R, plW p0 p1 p2 p3 cI P, plW o0 o1 o2 o3 cI O9, stW s0 s1 s2 s3 cI S, stW u0 u1 u2 u3 cI U9, y8G y0 y1 yb cI cS Y, y2G z0 z1 zb cI cS Z, sgW g0 g1 g2 cI G, smW m0 m1 m2 cI M, roW b0 b1 b2 cI B, seW e20 e21 e22 cI E2, [rmE o ad (pCells P) P.2.2.2.1 P.2.2.2.2.2.1 P.2.2.2.2.2.2 I], [nE 24 (ad 2) cI to], [nE 6 (ad 4) cI so], [nE 6 (ad 5) cI cl], [nE 6 (ad 6) cI de], [nE 6 (ad 7) cI si], [nE 3 (ad 9) cI wa], [nE 3 (ad 10) cI ir], [nE 3 (ad 11) cI ms], [nE 24 (ad 14) cI nt], [nE 6 (ad 16) cI ns], [nE 6 (ad 17) cI nc], [nE 6 (ad 18) cI nd], [nE 6 (ad 19) cI ni], [nE 3 (ad 21) cI nw], [nE 3 (ad 22) cI nr], [nE 3 (ad 23) cI nk], [nE 3 (ad 24) cI na], [nE 384 (ad 25) cI sl], [nE 200 (ad 29) cB tx], [nE 8 (ad 34) cI sc], [nE 8 (ad 35) cI sh], [zE 984 (ad 36) cI fa], [nE 984 (ad 37) cI fr], [nE 984 (ad 38) cI qu], [zE 5 (ad 40) cI rw], [zE 5 (ad 41) cI be], [zE 64 (ad 42) cI mo], [zE 64 (ad 43) cI th]]) H := hP
  have ha : fsts (List.flatten [rwW w0 t0 r0 p0 o0 s0 u0 y0 z0 g0 m0 b0 e20, ltW t0 t1 cC T, rdW r0 r1 r2 cI R, plW p0 p1 p2 p3 cI P, plW o0 o1 o2 o3 cI O9, stW s0 s1 s2 s3 cI S, stW u0 u1 u2 u3 cI U9, y8G y0 y1 yb cI cS Y, y2G z0 z1 zb cI cS Z, sgW g0 g1 g2 cI G, smW m0 m1 m2 cI M, roW b0 b1 b2 cI B, seW e20 e21 e22 cI E2, [rmE o ad (pCells P) P.2.2.2.1 P.2.2.2.2.2.1 P.2.2.2.2.2.2 I], [nE 24 (ad 2) cI to], [nE 6 (ad 4) cI so], [nE 6 (ad 5) cI cl], [nE 6 (ad 6) cI de], [nE 6 (ad 7) cI si], [nE 3 (ad 9) cI wa], [nE 3 (ad 10) cI ir], [nE 3 (ad 11) cI ms], [nE 24 (ad 14) cI nt], [nE 6 (ad 16) cI ns], [nE 6 (ad 17) cI nc], [nE 6 (ad 18) cI nd], [nE 6 (ad 19) cI ni], [nE 3 (ad 21) cI nw], [nE 3 (ad 22) cI nr], [nE 3 (ad 23) cI nk], [nE 3 (ad 24) cI na], [nE 384 (ad 25) cI sl], [nE 200 (ad 29) cB tx], [nE 8 (ad 34) cI sc], [nE 8 (ad 35) cI sh], [zE 984 (ad 36) cI fa], [nE 984 (ad 37) cI fr], [nE 984 (ad 38) cI qu], [zE 5 (ad 40) cI rw], [zE 5 (ad 41) cI be], [zE 64 (ad 42) cI mo], [zE 64 (ad 43) cI th]]) = as := ha
  refine lv_aload_n (pc := 691) hx hb dL_law_691 rfl (lv_at hl 3 rfl) ?_
  refine lv_aload_n (pc := 692) hx hb dL_law_692 rfl (lv_at hl 1 rfl) ?_
  refine lv_iload_n (pc := 693) hx hb dL_law_693 rfl (lv_at hl 0 rfl) ?_
  refine lv_iconst (pc := 694) (v := nI 1) hx hb dL_law_694 (by decide) ?_
  refine rn_iadd (pc := 695) hx hb dL_law_695 ?_
  refine ra_sld (pc := 696) (pc := 696) (k := i + 1) hx hb hX hbl hbA hS (by omega) (by omega) dL_law_696 ?_
  refine lv_aload_n (pc := 697) hx hb dL_law_697 rfl (lv_at hl 1 rfl) ?_
  refine lv_iload_n (pc := 698) hx hb dL_law_698 rfl (lv_at hl 0 rfl) ?_
  refine lv_iconst (pc := 699) (v := nI 2) hx hb dL_law_699 (by decide) ?_
  refine rn_iadd (pc := 700) hx hb dL_law_700 ?_
  refine ra_sld (pc := 701) (pc := 701) (k := i + 2) hx hb hX hbl hbA hS (by omega) (by omega) dL_law_701 ?_
  refine lv_aload_n (pc := 702) hx hb dL_law_702 rfl (lv_at hl 1 rfl) ?_
  refine lv_iload_n (pc := 703) hx hb dL_law_703 rfl (lv_at hl 0 rfl) ?_
  refine lv_iconst (pc := 704) (v := nI 3) hx hb dL_law_704 (by decide) ?_
  refine rn_iadd (pc := 705) hx hb dL_law_705 ?_
  refine ra_sld (pc := 706) (pc := 706) (k := i + 3) hx hb hX hbl hbA hS (by omega) (by omega) dL_law_706 ?_
  refine ci_G (pc := 707) (pc := 707) (As := [.int (xs (i + 1)), .int (xs (i + 2)), .int (xs (i + 3))]) (rest := [.int (jI (zDeep P G (xs (i + 1)).toInt (xs (i + 2)).toInt (xs (i + 3)).toInt))]) hF hN hK hP hV ha hS hA (k_X10_deep l D cI cC cB cS o ad P I sl so cl de si ms to sc sh (xs (i + 1)) ((xs (i + 1)).toInt) rfl (xs (i + 2)) ((xs (i + 2)).toInt) rfl (xs (i + 3)) ((xs (i + 3)).toInt) rfl wa ir hpk hc hm hto hsb hde hso hsi hms htb hsc hsn8) (cwV 3 htsL gL_law_X10_deep rfl rfl rfl (by decide +kernel) ⟨Nat.le_of_ble_eq_true rfl, Nat.le_of_ble_eq_true rfl⟩) [13, 31, 15, 16, 17, 18, 21, 14, 33, 34] rfl (by decide) 0 10 rfl rfl rfl hl.1 rfl (Nat.le_of_ble_eq_true rfl) dL_law_707 ⟨Nat.le_of_ble_eq_true rfl, Nat.le_of_ble_eq_true rfl⟩ (fun r u H locs hq hG hS => ?_)
  obtain ⟨rfl, f, rfl, hE⟩ := hq
  obtain ⟨hP, ha⟩ := hG [[rmE o ad (pCells P) P.2.2.2.1 P.2.2.2.2.2.1 P.2.2.2.2.2.2 I], [nE 384 (ad 25) cI f], [nE 6 (ad 4) cI so], [nE 6 (ad 5) cI cl], [nE 6 (ad 6) cI de], [nE 6 (ad 7) cI si], [nE 3 (ad 11) cI ms], [nE 24 (ad 2) cI to], [nE 8 (ad 34) cI sc], [nE 8 (ad 35) cI sh]] rfl rfl
  have hP : va_P D vwCl (List.flatten [rwW w0 t0 r0 p0 o0 s0 u0 y0 z0 g0 m0 b0 e20, ltW t0 t1 cC T, rdW r0 r1 r2 cI R, plW p0 p1 p2 p3 cI P, plW o0 o1 o2 o3 cI O9, stW s0 s1 s2 s3 cI S, stW u0 u1 u2 u3 cI U9, y8G y0 y1 yb cI cS Y, y2G z0 z1 zb cI cS Z, sgW g0 g1 g2 cI G, smW m0 m1 m2 cI M, roW b0 b1 b2 cI B, seW e20 e21 e22 cI E2, [rmE o ad (pCells P) P.2.2.2.1 P.2.2.2.2.2.1 P.2.2.2.2.2.2 I], [nE 24 (ad 2) cI to], [nE 6 (ad 4) cI so], [nE 6 (ad 5) cI cl], [nE 6 (ad 6) cI de], [nE 6 (ad 7) cI si], [nE 3 (ad 9) cI wa], [nE 3 (ad 10) cI ir], [nE 3 (ad 11) cI ms], [nE 24 (ad 14) cI nt], [nE 6 (ad 16) cI ns], [nE 6 (ad 17) cI nc], [nE 6 (ad 18) cI nd], [nE 6 (ad 19) cI ni], [nE 3 (ad 21) cI nw], [nE 3 (ad 22) cI nr], [nE 3 (ad 23) cI nk], [nE 3 (ad 24) cI na], [nE 384 (ad 25) cI f], [nE 200 (ad 29) cB tx], [nE 8 (ad 34) cI sc], [nE 8 (ad 35) cI sh], [zE 984 (ad 36) cI fa], [nE 984 (ad 37) cI fr], [nE 984 (ad 38) cI qu], [zE 5 (ad 40) cI rw], [zE 5 (ad 41) cI be], [zE 64 (ad 42) cI mo], [zE 64 (ad 43) cI th]]) H := hP
  have ha : fsts (List.flatten [rwW w0 t0 r0 p0 o0 s0 u0 y0 z0 g0 m0 b0 e20, ltW t0 t1 cC T, rdW r0 r1 r2 cI R, plW p0 p1 p2 p3 cI P, plW o0 o1 o2 o3 cI O9, stW s0 s1 s2 s3 cI S, stW u0 u1 u2 u3 cI U9, y8G y0 y1 yb cI cS Y, y2G z0 z1 zb cI cS Z, sgW g0 g1 g2 cI G, smW m0 m1 m2 cI M, roW b0 b1 b2 cI B, seW e20 e21 e22 cI E2, [rmE o ad (pCells P) P.2.2.2.1 P.2.2.2.2.2.1 P.2.2.2.2.2.2 I], [nE 24 (ad 2) cI to], [nE 6 (ad 4) cI so], [nE 6 (ad 5) cI cl], [nE 6 (ad 6) cI de], [nE 6 (ad 7) cI si], [nE 3 (ad 9) cI wa], [nE 3 (ad 10) cI ir], [nE 3 (ad 11) cI ms], [nE 24 (ad 14) cI nt], [nE 6 (ad 16) cI ns], [nE 6 (ad 17) cI nc], [nE 6 (ad 18) cI nd], [nE 6 (ad 19) cI ni], [nE 3 (ad 21) cI nw], [nE 3 (ad 22) cI nr], [nE 3 (ad 23) cI nk], [nE 3 (ad 24) cI na], [nE 384 (ad 25) cI f], [nE 200 (ad 29) cB tx], [nE 8 (ad 34) cI sc], [nE 8 (ad 35) cI sh], [zE 984 (ad 36) cI fa], [nE 984 (ad 37) cI fr], [nE 984 (ad 38) cI qu], [zE 5 (ad 40) cI rw], [zE 5 (ad 41) cI be], [zE 64 (ad 42) cI mo], [zE 64 (ad 43) cI th]]) = as := ha
  refine r_top (show jI (zDeep P (sc, sh, I.2.2.2.2.2.2.2.2.2.2.1) (xs (i + 1)).toInt (xs (i + 2)).toInt (xs (i + 3)).toInt) = jI (zDeep P G (xs (i + 1)).toInt (xs (i + 2)).toInt (xs (i + 3)).toInt) from congrArg jI (zDeep_eq (lrG_eq kG) _ _ _).symm) ?_
  refine rc_eq (pc := 707) (pc := 710) (tgt := 870) hx hb rfl rfl dL_law_710 (by decide) (fun _ => ?_) (fun q => absurd rfl q)
  refine lv_iinc (pc := 870) (v := nI (i + 6)) (lv' := [(3, .int (nI (i + 6))), (0, .ref b), (1, .ref w0), (2, .ref o)]) hx hb dL_law_870 hl (k := 0) rfl (by rw [← nI_add]; rfl) (by decide) rfl (fun ls hl => ?_)
  refine lv_goto (pc := 870) (pc := 873) (tgt := 18) hx hb dL_law_873 (by decide) ?_
  exact next _ _ _ _ ⟨t0, t1, r0, r1, r2, p0, p1, p2, p3, o0, o1, o2, o3, s0, s1, s2, s3, u0, u1, u2, u3, y0, y1, z0, z1, g0, g1, g2, m0, m1, m2, b0, b1, b2, e20, e21, e22, yb, zb, ad, T, R, P, O9, S, U9, Y, Z, G, M, B, E2, I, to, so, cl, de, si, wa, ir, ms, nt, ns, nc, nd, ni, nw, nr, nk, na, f, tx, sc, sh, fr, qu, fa, rw, be, mo, th, rfl, ⟨hTo, hRf, hRg, hO9, hMb⟩, kP, (lrS_end hm3 hE kS), (lrY_end hm3 hE kY), kT, kG, kN⟩ hP ha hS (lv_sub hl [0, 1, 2, 3] rfl)
