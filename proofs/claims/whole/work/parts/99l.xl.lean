set_option maxHeartbeats 16000000 in
set_option maxRecDepth 100000 in
theorem law_back {p : Program} {l : Launch} {e : Env} {s : State} {m : MethodId} {below : List Frame} {meth : Method} {c : Code} {D : va_G} {cI cC cB cS : ClassId} {b L : Nat} {xs : Nat → Int32} {w0 o i : Nat} {gs : List va_W} {as : List Nat} {H : Heap} {locs : List Loc} {ls : Array Slot} (hL : L ≤ 384) (hC : lwC D cI cC cB cS p s m meth c b L xs) (hi : i + 6 ≤ L) (hI : LI cI cC cB cS w0 o gs) (hP : va_P D vwCl gs.flatten H) (hV : vD (fun q : Nat => s.heap.size ≤ q) as) (ha : fsts gs.flatten = as) (hS : va_S (fun q : Nat => s.heap.size ≤ q) s.heap H locs) (hl : lv_has ls 4 [(3, .int (nI i)), (0, .ref b), (1, .ref w0), (2, .ref o)]) (next : ∀ (gs2 : List va_W) (H1 : Heap) (locs1 : List Loc) (ls1 : Array Slot), LI cI cC cB cS w0 o gs2 → va_P D vwCl gs2.flatten H1 → fsts gs2.flatten = as → va_S (fun q : Nat => s.heap.size ≤ q) s.heap H1 locs1 → lv_has ls1 4 [(3, .int (nI (i + 6))), (0, .ref b), (1, .ref w0), (2, .ref o)] → W p l e room_1 s m #[Value.ref b] below meth c H1 locs1 600000 7302250 (lw_Z below #[Value.ref b] s) (F0 m 18 ls1 [])) : W p l e room_1 s m #[Value.ref b] below meth c H locs 600000 7302250 (lw_Z below #[Value.ref b] s) (F0 m 834 ls []) := by
  obtain ⟨C0, htsL, hK, hN⟩ := hC
  obtain ⟨hx, hb, hr, hml, hown, hts0, hX, hbl, hlocks, hgv⟩ := id C0
  have hb : c.code = cL_law := hb
  have hA : ∀ q : Nat, s.heap.size ≤ q → (fun q : Nat => s.heap.size ≤ q) q := fun _ h => h
  have hbA : ¬ (fun q : Nat => s.heap.size ≤ q) b := Nat.not_le.mpr hbl
  have hF : mFacts p s m #[Value.ref b] c cL_law 4 wsL_law RL := ⟨hx, hb, hml, hown, htsL⟩
  have hl : lv_has ls 4 [(3, .int (nI i)), (0, .ref b), (1, .ref w0), (2, .ref o)] := hl
  obtain ⟨t0, t1, r0, r1, r2, p0, p1, p2, p3, o0, o1, o2, o3, s0, s1, s2, s3, u0, u1, u2, u3, y0, y1, z0, z1, g0, g1, g2, m0, m1, m2, b0, b1, b2, e20, e21, e22, yb, zb, ad, T, R, P, O, S, U, Y, Z, G, M, B, E2, I, to, so, cl, de, si, wa, ir, ms, nt, ns, nc, nd, ni, nw, nr, nk, na, sl, tx, sc, sh, fr, qu, fa, rw, be, mo, th, rfl, kA, kP, kS, kY, kT, kG, kN⟩ := hI
  obtain ⟨hTo, hRf, hRg, hOp, hMb⟩ := id kA
  obtain ⟨hpk, hc, hm, hto, htb, hso, hde, hsi, hwa, hir, hms⟩ := id kP
  obtain ⟨hsO, hf0, hsb⟩ := id kS
  obtain ⟨hst, hx2, hy9, hl9⟩ := id hsO
  obtain ⟨hy1, hya, hz1, hzk⟩ := id kY
  obtain ⟨hte, htl⟩ := id kT
  obtain ⟨hg8, hgb, hgn, hge, hsc⟩ := id kG
  obtain ⟨hnb, hbg⟩ := id kN
  have hw := hpk.1
  have hp := hw.1
  have hm3 : P.2.2.2.2.2.2 ≤ 3 := hp.2.2.2.2.2.2
  have hcl := pCells_le hp
  have hac8 : I.2.2.2.2.1 ≤ 8 := by rw [hya]; exact hy1.1
  have hkp2 : I.2.2.2.2.2.1 ≤ 2 := by rw [hzk]; exact hz1.1
  have hsn8 : I.2.2.2.2.2.2.2.2.2.2.1 ≤ 8 := by rw [hgn]; exact hg8
  have hlen : T.2 = I.2.2.2.2.2.2.1 := hte.1
  refine lv_aload_n (pc := 834) hx hb dL_law_834 rfl (lv_at hl 2 rfl) ?_
  refine ci_G (pc := 835) (pc := 835) (As := []) (rest := []) hF hN hK hP hV ha hS hA (k_X9_back l D cI cC cB cS w0 t0 r0 p0 o0 u0 g0 m0 b0 e20 z0 z1 zb Z s0 s1 s2 s3 S y0 y1 yb Y hz1.2.1.1 hz1.1 hy1.2.1.1 hy1.1) (cwV 0 htsL gL_law_X9_back rfl rfl rfl (by decide +kernel) ⟨Nat.le_of_ble_eq_true rfl, Nat.le_of_ble_eq_true rfl⟩) [0, 8, 5, 7] rfl (by decide) 0 9 rfl rfl rfl hl.1 rfl (Nat.le_of_ble_eq_true rfl) dL_law_835 ⟨Nat.le_of_ble_eq_true rfl, Nat.le_of_ble_eq_true rfl⟩ (fun r u H locs hq hG hS => ?_)
  obtain ⟨rfl, rfl⟩ := hq
  obtain ⟨hP, ha⟩ := hG [rwW w0 t0 r0 p0 o0 s0 u0 y0 z0 g0 m0 b0 e20, y2G z0 z1 zb cI cS (Z.1, Z.2.1 - 1, Z.2.2), stW s0 s1 s2 s3 cI (if Z.2.1 = 0 then S else Z.2.2 (Z.1 (Z.2.1 - 1))), y8G y0 y1 yb cI cS (if Z.2.1 = 0 then Y else (Y.1, 0, Y.2.2))] rfl rfl
  have hP : va_P D vwCl (List.flatten [rwW w0 t0 r0 p0 o0 s0 u0 y0 z0 g0 m0 b0 e20, ltW t0 t1 cC T, rdW r0 r1 r2 cI R, plW p0 p1 p2 p3 cI P, plW o0 o1 o2 o3 cI O, stW s0 s1 s2 s3 cI (if Z.2.1 = 0 then S else Z.2.2 (Z.1 (Z.2.1 - 1))), stW u0 u1 u2 u3 cI U, y8G y0 y1 yb cI cS (if Z.2.1 = 0 then Y else (Y.1, 0, Y.2.2)), y2G z0 z1 zb cI cS (Z.1, Z.2.1 - 1, Z.2.2), sgW g0 g1 g2 cI G, smW m0 m1 m2 cI M, roW b0 b1 b2 cI B, seW e20 e21 e22 cI E2, [rmE o ad (pCells P) P.2.2.2.1 P.2.2.2.2.2.1 P.2.2.2.2.2.2 I], [nE 24 (ad 2) cI to], [nE 6 (ad 4) cI so], [nE 6 (ad 5) cI cl], [nE 6 (ad 6) cI de], [nE 6 (ad 7) cI si], [nE 3 (ad 9) cI wa], [nE 3 (ad 10) cI ir], [nE 3 (ad 11) cI ms], [nE 24 (ad 14) cI nt], [nE 6 (ad 16) cI ns], [nE 6 (ad 17) cI nc], [nE 6 (ad 18) cI nd], [nE 6 (ad 19) cI ni], [nE 3 (ad 21) cI nw], [nE 3 (ad 22) cI nr], [nE 3 (ad 23) cI nk], [nE 3 (ad 24) cI na], [nE 384 (ad 25) cI sl], [nE 200 (ad 29) cB tx], [nE 8 (ad 34) cI sc], [nE 8 (ad 35) cI sh], [zE 984 (ad 36) cI fa], [nE 984 (ad 37) cI fr], [nE 984 (ad 38) cI qu], [zE 5 (ad 40) cI rw], [zE 5 (ad 41) cI be], [zE 64 (ad 42) cI mo], [zE 64 (ad 43) cI th]]) H := hP
  have ha : fsts (List.flatten [rwW w0 t0 r0 p0 o0 s0 u0 y0 z0 g0 m0 b0 e20, ltW t0 t1 cC T, rdW r0 r1 r2 cI R, plW p0 p1 p2 p3 cI P, plW o0 o1 o2 o3 cI O, stW s0 s1 s2 s3 cI (if Z.2.1 = 0 then S else Z.2.2 (Z.1 (Z.2.1 - 1))), stW u0 u1 u2 u3 cI U, y8G y0 y1 yb cI cS (if Z.2.1 = 0 then Y else (Y.1, 0, Y.2.2)), y2G z0 z1 zb cI cS (Z.1, Z.2.1 - 1, Z.2.2), sgW g0 g1 g2 cI G, smW m0 m1 m2 cI M, roW b0 b1 b2 cI B, seW e20 e21 e22 cI E2, [rmE o ad (pCells P) P.2.2.2.1 P.2.2.2.2.2.1 P.2.2.2.2.2.2 I], [nE 24 (ad 2) cI to], [nE 6 (ad 4) cI so], [nE 6 (ad 5) cI cl], [nE 6 (ad 6) cI de], [nE 6 (ad 7) cI si], [nE 3 (ad 9) cI wa], [nE 3 (ad 10) cI ir], [nE 3 (ad 11) cI ms], [nE 24 (ad 14) cI nt], [nE 6 (ad 16) cI ns], [nE 6 (ad 17) cI nc], [nE 6 (ad 18) cI nd], [nE 6 (ad 19) cI ni], [nE 3 (ad 21) cI nw], [nE 3 (ad 22) cI nr], [nE 3 (ad 23) cI nk], [nE 3 (ad 24) cI na], [nE 384 (ad 25) cI sl], [nE 200 (ad 29) cB tx], [nE 8 (ad 34) cI sc], [nE 8 (ad 35) cI sh], [zE 984 (ad 36) cI fa], [nE 984 (ad 37) cI fr], [nE 984 (ad 38) cI qu], [zE 5 (ad 40) cI rw], [zE 5 (ad 41) cI be], [zE 64 (ad 42) cI mo], [zE 64 (ad 43) cI th]]) = as := ha
  refine lv_aload_n (pc := 838) hx hb dL_law_838 rfl (lv_at hl 3 rfl) ?_
  refine ci_G (pc := 839) (pc := 839) (As := []) (rest := [.int (jI (zUndo Z.2.1))]) hF hN hK hP hV ha hS hA (k_X10_back l D cI cC cB cS o ad P I sl hkp2) (cwV 0 htsL gL_law_X10_back rfl rfl rfl (by decide +kernel) ⟨Nat.le_of_ble_eq_true rfl, Nat.le_of_ble_eq_true rfl⟩) [13, 31] rfl (by decide) 0 10 rfl rfl rfl hl.1 rfl (Nat.le_of_ble_eq_true rfl) dL_law_839 ⟨Nat.le_of_ble_eq_true rfl, Nat.le_of_ble_eq_true rfl⟩ (fun r u H locs hq hG hS => ?_)
  obtain ⟨rfl, rfl⟩ := hq
  obtain ⟨hP, ha⟩ := hG [[rmE o ad (pCells P) P.2.2.2.1 P.2.2.2.2.2.1 P.2.2.2.2.2.2 (I.1, I.2.1, I.2.2.1, I.2.2.2.1, if I.2.2.2.2.2.1 = 0 then I.2.2.2.2.1 else 0, I.2.2.2.2.2.1 - 1, I.2.2.2.2.2.2.1, I.2.2.2.2.2.2.2.1, I.2.2.2.2.2.2.2.2.1, I.2.2.2.2.2.2.2.2.2.1, I.2.2.2.2.2.2.2.2.2.2.1, I.2.2.2.2.2.2.2.2.2.2.2)], [nE 384 (ad 25) cI (if I.2.2.2.2.2.1 = 0 then sl else cpN sl ((9 + (I.2.2.2.2.2.1 - 1)) * 32) 0 32)]] rfl rfl
  have hP : va_P D vwCl (List.flatten [rwW w0 t0 r0 p0 o0 s0 u0 y0 z0 g0 m0 b0 e20, ltW t0 t1 cC T, rdW r0 r1 r2 cI R, plW p0 p1 p2 p3 cI P, plW o0 o1 o2 o3 cI O, stW s0 s1 s2 s3 cI (if Z.2.1 = 0 then S else Z.2.2 (Z.1 (Z.2.1 - 1))), stW u0 u1 u2 u3 cI U, y8G y0 y1 yb cI cS (if Z.2.1 = 0 then Y else (Y.1, 0, Y.2.2)), y2G z0 z1 zb cI cS (Z.1, Z.2.1 - 1, Z.2.2), sgW g0 g1 g2 cI G, smW m0 m1 m2 cI M, roW b0 b1 b2 cI B, seW e20 e21 e22 cI E2, [rmE o ad (pCells P) P.2.2.2.1 P.2.2.2.2.2.1 P.2.2.2.2.2.2 (I.1, I.2.1, I.2.2.1, I.2.2.2.1, if I.2.2.2.2.2.1 = 0 then I.2.2.2.2.1 else 0, I.2.2.2.2.2.1 - 1, I.2.2.2.2.2.2.1, I.2.2.2.2.2.2.2.1, I.2.2.2.2.2.2.2.2.1, I.2.2.2.2.2.2.2.2.2.1, I.2.2.2.2.2.2.2.2.2.2.1, I.2.2.2.2.2.2.2.2.2.2.2)], [nE 24 (ad 2) cI to], [nE 6 (ad 4) cI so], [nE 6 (ad 5) cI cl], [nE 6 (ad 6) cI de], [nE 6 (ad 7) cI si], [nE 3 (ad 9) cI wa], [nE 3 (ad 10) cI ir], [nE 3 (ad 11) cI ms], [nE 24 (ad 14) cI nt], [nE 6 (ad 16) cI ns], [nE 6 (ad 17) cI nc], [nE 6 (ad 18) cI nd], [nE 6 (ad 19) cI ni], [nE 3 (ad 21) cI nw], [nE 3 (ad 22) cI nr], [nE 3 (ad 23) cI nk], [nE 3 (ad 24) cI na], [nE 384 (ad 25) cI (if I.2.2.2.2.2.1 = 0 then sl else cpN sl ((9 + (I.2.2.2.2.2.1 - 1)) * 32) 0 32)], [nE 200 (ad 29) cB tx], [nE 8 (ad 34) cI sc], [nE 8 (ad 35) cI sh], [zE 984 (ad 36) cI fa], [nE 984 (ad 37) cI fr], [nE 984 (ad 38) cI qu], [zE 5 (ad 40) cI rw], [zE 5 (ad 41) cI be], [zE 64 (ad 42) cI mo], [zE 64 (ad 43) cI th]]) H := hP
  have ha : fsts (List.flatten [rwW w0 t0 r0 p0 o0 s0 u0 y0 z0 g0 m0 b0 e20, ltW t0 t1 cC T, rdW r0 r1 r2 cI R, plW p0 p1 p2 p3 cI P, plW o0 o1 o2 o3 cI O, stW s0 s1 s2 s3 cI (if Z.2.1 = 0 then S else Z.2.2 (Z.1 (Z.2.1 - 1))), stW u0 u1 u2 u3 cI U, y8G y0 y1 yb cI cS (if Z.2.1 = 0 then Y else (Y.1, 0, Y.2.2)), y2G z0 z1 zb cI cS (Z.1, Z.2.1 - 1, Z.2.2), sgW g0 g1 g2 cI G, smW m0 m1 m2 cI M, roW b0 b1 b2 cI B, seW e20 e21 e22 cI E2, [rmE o ad (pCells P) P.2.2.2.1 P.2.2.2.2.2.1 P.2.2.2.2.2.2 (I.1, I.2.1, I.2.2.1, I.2.2.2.1, if I.2.2.2.2.2.1 = 0 then I.2.2.2.2.1 else 0, I.2.2.2.2.2.1 - 1, I.2.2.2.2.2.2.1, I.2.2.2.2.2.2.2.1, I.2.2.2.2.2.2.2.2.1, I.2.2.2.2.2.2.2.2.2.1, I.2.2.2.2.2.2.2.2.2.2.1, I.2.2.2.2.2.2.2.2.2.2.2)], [nE 24 (ad 2) cI to], [nE 6 (ad 4) cI so], [nE 6 (ad 5) cI cl], [nE 6 (ad 6) cI de], [nE 6 (ad 7) cI si], [nE 3 (ad 9) cI wa], [nE 3 (ad 10) cI ir], [nE 3 (ad 11) cI ms], [nE 24 (ad 14) cI nt], [nE 6 (ad 16) cI ns], [nE 6 (ad 17) cI nc], [nE 6 (ad 18) cI nd], [nE 6 (ad 19) cI ni], [nE 3 (ad 21) cI nw], [nE 3 (ad 22) cI nr], [nE 3 (ad 23) cI nk], [nE 3 (ad 24) cI na], [nE 384 (ad 25) cI (if I.2.2.2.2.2.1 = 0 then sl else cpN sl ((9 + (I.2.2.2.2.2.1 - 1)) * 32) 0 32)], [nE 200 (ad 29) cB tx], [nE 8 (ad 34) cI sc], [nE 8 (ad 35) cI sh], [zE 984 (ad 36) cI fa], [nE 984 (ad 37) cI fr], [nE 984 (ad 38) cI qu], [zE 5 (ad 40) cI rw], [zE 5 (ad 41) cI be], [zE 64 (ad 42) cI mo], [zE 64 (ad 43) cI th]]) = as := ha
  obtain ⟨hS9, hY9⟩ := back_step hpk kS kY
  refine r_top (show jI (zUndo I.2.2.2.2.2.1) = jI (zUndo Z.2.1) from congrArg (fun n => jI (zUndo n)) hzk) ?_
  refine rc_eq (pc := 839) (pc := 842) (tgt := 870) hx hb rfl rfl dL_law_842 (by decide) (fun _ => ?_) (fun q => absurd rfl q)
  refine lv_iinc (pc := 870) (v := nI (i + 6)) (lv' := [(3, .int (nI (i + 6))), (0, .ref b), (1, .ref w0), (2, .ref o)]) hx hb dL_law_870 hl (k := 0) rfl (by rw [← nI_add]; rfl) (by decide) rfl (fun ls hl => ?_)
  refine lv_goto (pc := 870) (pc := 873) (tgt := 18) hx hb dL_law_873 (by decide) ?_
  exact next _ _ _ _ ⟨t0, t1, r0, r1, r2, p0, p1, p2, p3, o0, o1, o2, o3, s0, s1, s2, s3, u0, u1, u2, u3, y0, y1, z0, z1, g0, g1, g2, m0, m1, m2, b0, b1, b2, e20, e21, e22, yb, zb, ad, T, R, P, O, if Z.2.1 = 0 then S else Z.2.2 (Z.1 (Z.2.1 - 1)), U, if Z.2.1 = 0 then Y else (Y.1, 0, Y.2.2), (Z.1, Z.2.1 - 1, Z.2.2), G, M, B, E2, (I.1, I.2.1, I.2.2.1, I.2.2.2.1, if I.2.2.2.2.2.1 = 0 then I.2.2.2.2.1 else 0, I.2.2.2.2.2.1 - 1, I.2.2.2.2.2.2.1, I.2.2.2.2.2.2.2.1, I.2.2.2.2.2.2.2.2.1, I.2.2.2.2.2.2.2.2.2.1, I.2.2.2.2.2.2.2.2.2.2.1, I.2.2.2.2.2.2.2.2.2.2.2), to, so, cl, de, si, wa, ir, ms, nt, ns, nc, nd, ni, nw, nr, nk, na, if I.2.2.2.2.2.1 = 0 then sl else cpN sl ((9 + (I.2.2.2.2.2.1 - 1)) * 32) 0 32, tx, sc, sh, fr, qu, fa, rw, be, mo, th, rfl, kA, kP, hS9, hY9, kT, kG, kN⟩ hP ha hS (lv_sub hl [0, 1, 2, 3] rfl)
set_option maxHeartbeats 16000000 in
set_option maxRecDepth 100000 in
theorem law_count {p : Program} {l : Launch} {e : Env} {s : State} {m : MethodId} {below : List Frame} {meth : Method} {c : Code} {D : va_G} {cI cC cB cS : ClassId} {b L : Nat} {xs : Nat → Int32} {w0 o i : Nat} {gs : List va_W} {as : List Nat} {H : Heap} {locs : List Loc} {ls : Array Slot} (hL : L ≤ 384) (hC : lwC D cI cC cB cS p s m meth c b L xs) (hi : i + 6 ≤ L) (hI : LI cI cC cB cS w0 o gs) (hP : va_P D vwCl gs.flatten H) (hV : vD (fun q : Nat => s.heap.size ≤ q) as) (ha : fsts gs.flatten = as) (hS : va_S (fun q : Nat => s.heap.size ≤ q) s.heap H locs) (hl : lv_has ls 4 [(3, .int (nI i)), (0, .ref b), (1, .ref w0), (2, .ref o)]) (next : ∀ (gs2 : List va_W) (H1 : Heap) (locs1 : List Loc) (ls1 : Array Slot), LI cI cC cB cS w0 o gs2 → va_P D vwCl gs2.flatten H1 → fsts gs2.flatten = as → va_S (fun q : Nat => s.heap.size ≤ q) s.heap H1 locs1 → lv_has ls1 4 [(3, .int (nI (i + 6))), (0, .ref b), (1, .ref w0), (2, .ref o)] → W p l e room_1 s m #[Value.ref b] below meth c H1 locs1 600000 7302250 (lw_Z below #[Value.ref b] s) (F0 m 18 ls1 [])) : W p l e room_1 s m #[Value.ref b] below meth c H locs 600000 7302250 (lw_Z below #[Value.ref b] s) (F0 m 847 ls []) := by
  obtain ⟨C0, htsL, hK, hN⟩ := hC
  obtain ⟨hx, hb, hr, hml, hown, hts0, hX, hbl, hlocks, hgv⟩ := id C0
  have hb : c.code = cL_law := hb
  have hA : ∀ q : Nat, s.heap.size ≤ q → (fun q : Nat => s.heap.size ≤ q) q := fun _ h => h
  have hbA : ¬ (fun q : Nat => s.heap.size ≤ q) b := Nat.not_le.mpr hbl
  have hF : mFacts p s m #[Value.ref b] c cL_law 4 wsL_law RL := ⟨hx, hb, hml, hown, htsL⟩
  have hl : lv_has ls 4 [(3, .int (nI i)), (0, .ref b), (1, .ref w0), (2, .ref o)] := hl
  obtain ⟨t0, t1, r0, r1, r2, p0, p1, p2, p3, o0, o1, o2, o3, s0, s1, s2, s3, u0, u1, u2, u3, y0, y1, z0, z1, g0, g1, g2, m0, m1, m2, b0, b1, b2, e20, e21, e22, yb, zb, ad, T, R, P, O, S, U, Y, Z, G, M, B, E2, I, to, so, cl, de, si, wa, ir, ms, nt, ns, nc, nd, ni, nw, nr, nk, na, sl, tx, sc, sh, fr, qu, fa, rw, be, mo, th, rfl, kA, kP, kS, kY, kT, kG, kN⟩ := hI
  obtain ⟨hTo, hRf, hRg, hOp, hMb⟩ := id kA
  obtain ⟨hpk, hc, hm, hto, htb, hso, hde, hsi, hwa, hir, hms⟩ := id kP
  obtain ⟨hsO, hf0, hsb⟩ := id kS
  obtain ⟨hst, hx2, hy9, hl9⟩ := id hsO
  obtain ⟨hy1, hya, hz1, hzk⟩ := id kY
  obtain ⟨hte, htl⟩ := id kT
  obtain ⟨hg8, hgb, hgn, hge, hsc⟩ := id kG
  obtain ⟨hnb, hbg⟩ := id kN
  have hw := hpk.1
  have hp := hw.1
  have hm3 : P.2.2.2.2.2.2 ≤ 3 := hp.2.2.2.2.2.2
  have hcl := pCells_le hp
  have hac8 : I.2.2.2.2.1 ≤ 8 := by rw [hya]; exact hy1.1
  have hkp2 : I.2.2.2.2.2.1 ≤ 2 := by rw [hzk]; exact hz1.1
  have hsn8 : I.2.2.2.2.2.2.2.2.2.2.1 ≤ 8 := by rw [hgn]; exact hg8
  have hlen : T.2 = I.2.2.2.2.2.2.1 := hte.1
  refine lv_aload_n (pc := 847) hx hb dL_law_847 rfl (lv_at hl 2 rfl) ?_
  refine lv_aload_n (pc := 848) hx hb dL_law_848 rfl (lv_at hl 1 rfl) ?_
  refine lv_iload_n (pc := 849) hx hb dL_law_849 rfl (lv_at hl 0 rfl) ?_
  refine lv_iconst (pc := 850) (v := nI 1) hx hb dL_law_850 (by decide) ?_
  refine rn_iadd (pc := 851) hx hb dL_law_851 ?_
  refine ra_sld (pc := 852) (pc := 852) (k := i + 1) hx hb hX hbl hbA hS (by omega) (by omega) dL_law_852 ?_
  refine ci_G (pc := 853) (pc := 853) (As := [.int (xs (i + 1))]) (rest := []) hF hN hK hP hV ha hS hA (k_X9_count l D cI cC cB cS w0 r0 o0 u0 m0 b0 e20 t0 t1 T p0 p1 p2 p3 P s0 s1 s2 s3 S g0 g1 g2 G y0 y1 yb Y z0 z1 zb Z (xs (i + 1)) ((xs (i + 1)).toInt) rfl hpk hst hx2) (cwV 1 htsL gL_law_X9_count rfl rfl rfl (by decide +kernel) ⟨Nat.le_of_ble_eq_true rfl, Nat.le_of_ble_eq_true rfl⟩) [0, 1, 3, 5, 9, 7, 8] rfl (by decide) 0 9 rfl rfl rfl hl.1 rfl (Nat.le_of_ble_eq_true rfl) dL_law_853 ⟨Nat.le_of_ble_eq_true rfl, Nat.le_of_ble_eq_true rfl⟩ (fun r u H locs hq hG hS => ?_)
  obtain ⟨rfl, rfl⟩ := hq
  obtain ⟨hP, ha⟩ := hG [rwW w0 t0 r0 p0 o0 s0 u0 y0 z0 g0 m0 b0 e20, ltW t0 t1 cC T, plW p0 p1 p2 p3 cI P, stW s0 s1 s2 s3 cI S, sgW g0 g1 g2 cI G, y8G y0 y1 yb cI cS Y, y2G z0 z1 zb cI cS Z] rfl rfl
  have hP : va_P D vwCl (List.flatten [rwW w0 t0 r0 p0 o0 s0 u0 y0 z0 g0 m0 b0 e20, ltW t0 t1 cC T, rdW r0 r1 r2 cI R, plW p0 p1 p2 p3 cI P, plW o0 o1 o2 o3 cI O, stW s0 s1 s2 s3 cI S, stW u0 u1 u2 u3 cI U, y8G y0 y1 yb cI cS Y, y2G z0 z1 zb cI cS Z, sgW g0 g1 g2 cI G, smW m0 m1 m2 cI M, roW b0 b1 b2 cI B, seW e20 e21 e22 cI E2, [rmE o ad (pCells P) P.2.2.2.1 P.2.2.2.2.2.1 P.2.2.2.2.2.2 I], [nE 24 (ad 2) cI to], [nE 6 (ad 4) cI so], [nE 6 (ad 5) cI cl], [nE 6 (ad 6) cI de], [nE 6 (ad 7) cI si], [nE 3 (ad 9) cI wa], [nE 3 (ad 10) cI ir], [nE 3 (ad 11) cI ms], [nE 24 (ad 14) cI nt], [nE 6 (ad 16) cI ns], [nE 6 (ad 17) cI nc], [nE 6 (ad 18) cI nd], [nE 6 (ad 19) cI ni], [nE 3 (ad 21) cI nw], [nE 3 (ad 22) cI nr], [nE 3 (ad 23) cI nk], [nE 3 (ad 24) cI na], [nE 384 (ad 25) cI sl], [nE 200 (ad 29) cB tx], [nE 8 (ad 34) cI sc], [nE 8 (ad 35) cI sh], [zE 984 (ad 36) cI fa], [nE 984 (ad 37) cI fr], [nE 984 (ad 38) cI qu], [zE 5 (ad 40) cI rw], [zE 5 (ad 41) cI be], [zE 64 (ad 42) cI mo], [zE 64 (ad 43) cI th]]) H := hP
  have ha : fsts (List.flatten [rwW w0 t0 r0 p0 o0 s0 u0 y0 z0 g0 m0 b0 e20, ltW t0 t1 cC T, rdW r0 r1 r2 cI R, plW p0 p1 p2 p3 cI P, plW o0 o1 o2 o3 cI O, stW s0 s1 s2 s3 cI S, stW u0 u1 u2 u3 cI U, y8G y0 y1 yb cI cS Y, y2G z0 z1 zb cI cS Z, sgW g0 g1 g2 cI G, smW m0 m1 m2 cI M, roW b0 b1 b2 cI B, seW e20 e21 e22 cI E2, [rmE o ad (pCells P) P.2.2.2.1 P.2.2.2.2.2.1 P.2.2.2.2.2.2 I], [nE 24 (ad 2) cI to], [nE 6 (ad 4) cI so], [nE 6 (ad 5) cI cl], [nE 6 (ad 6) cI de], [nE 6 (ad 7) cI si], [nE 3 (ad 9) cI wa], [nE 3 (ad 10) cI ir], [nE 3 (ad 11) cI ms], [nE 24 (ad 14) cI nt], [nE 6 (ad 16) cI ns], [nE 6 (ad 17) cI nc], [nE 6 (ad 18) cI nd], [nE 6 (ad 19) cI ni], [nE 3 (ad 21) cI nw], [nE 3 (ad 22) cI nr], [nE 3 (ad 23) cI nk], [nE 3 (ad 24) cI na], [nE 384 (ad 25) cI sl], [nE 200 (ad 29) cB tx], [nE 8 (ad 34) cI sc], [nE 8 (ad 35) cI sh], [zE 984 (ad 36) cI fa], [nE 984 (ad 37) cI fr], [nE 984 (ad 38) cI qu], [zE 5 (ad 40) cI rw], [zE 5 (ad 41) cI be], [zE 64 (ad 42) cI mo], [zE 64 (ad 43) cI th]]) = as := ha
  refine lv_aload_n (pc := 856) hx hb dL_law_856 rfl (lv_at hl 3 rfl) ?_
  refine lv_aload_n (pc := 857) hx hb dL_law_857 rfl (lv_at hl 1 rfl) ?_
  refine lv_iload_n (pc := 858) hx hb dL_law_858 rfl (lv_at hl 0 rfl) ?_
  refine lv_iconst (pc := 859) (v := nI 1) hx hb dL_law_859 (by decide) ?_
  refine rn_iadd (pc := 860) hx hb dL_law_860 ?_
  refine ra_sld (pc := 861) (pc := 861) (k := i + 1) hx hb hX hbl hbA hS (by omega) (by omega) dL_law_861 ?_
  refine ci_G (pc := 862) (pc := 862) (As := [.int (xs (i + 1))]) (rest := [.int (jI (zCount P S G.2.2 Y.2.1 Z.2.1 T.2 ((xs (i + 1)).toInt)))]) hF hN hK hP hV ha hS hA (k_X10_count l D cI cC cB cS o ad P I sl (xs (i + 1)) ((xs (i + 1)).toInt) rfl S hpk hst hx2 hf0 hsb) (cwV 1 htsL gL_law_X10_count rfl rfl rfl (by decide +kernel) ⟨Nat.le_of_ble_eq_true rfl, Nat.le_of_ble_eq_true rfl⟩) [13, 31] rfl (by decide) 0 10 rfl rfl rfl hl.1 rfl (Nat.le_of_ble_eq_true rfl) dL_law_862 ⟨Nat.le_of_ble_eq_true rfl, Nat.le_of_ble_eq_true rfl⟩ (fun r u H locs hq hG hS => ?_)
  obtain ⟨rfl, rfl⟩ := hq
  obtain ⟨hP, ha⟩ := hG [[rmE o ad (pCells P) P.2.2.2.1 P.2.2.2.2.2.1 P.2.2.2.2.2.2 I], [nE 384 (ad 25) cI sl]] rfl rfl
  have hP : va_P D vwCl (List.flatten [rwW w0 t0 r0 p0 o0 s0 u0 y0 z0 g0 m0 b0 e20, ltW t0 t1 cC T, rdW r0 r1 r2 cI R, plW p0 p1 p2 p3 cI P, plW o0 o1 o2 o3 cI O, stW s0 s1 s2 s3 cI S, stW u0 u1 u2 u3 cI U, y8G y0 y1 yb cI cS Y, y2G z0 z1 zb cI cS Z, sgW g0 g1 g2 cI G, smW m0 m1 m2 cI M, roW b0 b1 b2 cI B, seW e20 e21 e22 cI E2, [rmE o ad (pCells P) P.2.2.2.1 P.2.2.2.2.2.1 P.2.2.2.2.2.2 I], [nE 24 (ad 2) cI to], [nE 6 (ad 4) cI so], [nE 6 (ad 5) cI cl], [nE 6 (ad 6) cI de], [nE 6 (ad 7) cI si], [nE 3 (ad 9) cI wa], [nE 3 (ad 10) cI ir], [nE 3 (ad 11) cI ms], [nE 24 (ad 14) cI nt], [nE 6 (ad 16) cI ns], [nE 6 (ad 17) cI nc], [nE 6 (ad 18) cI nd], [nE 6 (ad 19) cI ni], [nE 3 (ad 21) cI nw], [nE 3 (ad 22) cI nr], [nE 3 (ad 23) cI nk], [nE 3 (ad 24) cI na], [nE 384 (ad 25) cI sl], [nE 200 (ad 29) cB tx], [nE 8 (ad 34) cI sc], [nE 8 (ad 35) cI sh], [zE 984 (ad 36) cI fa], [nE 984 (ad 37) cI fr], [nE 984 (ad 38) cI qu], [zE 5 (ad 40) cI rw], [zE 5 (ad 41) cI be], [zE 64 (ad 42) cI mo], [zE 64 (ad 43) cI th]]) H := hP
  have ha : fsts (List.flatten [rwW w0 t0 r0 p0 o0 s0 u0 y0 z0 g0 m0 b0 e20, ltW t0 t1 cC T, rdW r0 r1 r2 cI R, plW p0 p1 p2 p3 cI P, plW o0 o1 o2 o3 cI O, stW s0 s1 s2 s3 cI S, stW u0 u1 u2 u3 cI U, y8G y0 y1 yb cI cS Y, y2G z0 z1 zb cI cS Z, sgW g0 g1 g2 cI G, smW m0 m1 m2 cI M, roW b0 b1 b2 cI B, seW e20 e21 e22 cI E2, [rmE o ad (pCells P) P.2.2.2.1 P.2.2.2.2.2.1 P.2.2.2.2.2.2 I], [nE 24 (ad 2) cI to], [nE 6 (ad 4) cI so], [nE 6 (ad 5) cI cl], [nE 6 (ad 6) cI de], [nE 6 (ad 7) cI si], [nE 3 (ad 9) cI wa], [nE 3 (ad 10) cI ir], [nE 3 (ad 11) cI ms], [nE 24 (ad 14) cI nt], [nE 6 (ad 16) cI ns], [nE 6 (ad 17) cI nc], [nE 6 (ad 18) cI nd], [nE 6 (ad 19) cI ni], [nE 3 (ad 21) cI nw], [nE 3 (ad 22) cI nr], [nE 3 (ad 23) cI nk], [nE 3 (ad 24) cI na], [nE 384 (ad 25) cI sl], [nE 200 (ad 29) cB tx], [nE 8 (ad 34) cI sc], [nE 8 (ad 35) cI sh], [zE 984 (ad 36) cI fa], [nE 984 (ad 37) cI fr], [nE 984 (ad 38) cI qu], [zE 5 (ad 40) cI rw], [zE 5 (ad 41) cI be], [zE 64 (ad 42) cI mo], [zE 64 (ad 43) cI th]]) = as := ha
  refine r_top (show jI (zCount P S I.2.2.2.2.2.2.2.2.2.2.1 I.2.2.2.2.1 I.2.2.2.2.2.1 I.2.2.2.2.2.2.1 ((xs (i + 1)).toInt)) = jI (zCount P S G.2.2 Y.2.1 Z.2.1 T.2 ((xs (i + 1)).toInt)) from by rw [hgn, hya, hzk, ← hlen]) ?_
  refine rc_eq (pc := 862) (pc := 865) (tgt := 870) hx hb rfl rfl dL_law_865 (by decide) (fun _ => ?_) (fun q => absurd rfl q)
  refine lv_iinc (pc := 870) (v := nI (i + 6)) (lv' := [(3, .int (nI (i + 6))), (0, .ref b), (1, .ref w0), (2, .ref o)]) hx hb dL_law_870 hl (k := 0) rfl (by rw [← nI_add]; rfl) (by decide) rfl (fun ls hl => ?_)
  refine lv_goto (pc := 870) (pc := 873) (tgt := 18) hx hb dL_law_873 (by decide) ?_
  exact next _ _ _ _ ⟨t0, t1, r0, r1, r2, p0, p1, p2, p3, o0, o1, o2, o3, s0, s1, s2, s3, u0, u1, u2, u3, y0, y1, z0, z1, g0, g1, g2, m0, m1, m2, b0, b1, b2, e20, e21, e22, yb, zb, ad, T, R, P, O, S, U, Y, Z, G, M, B, E2, I, to, so, cl, de, si, wa, ir, ms, nt, ns, nc, nd, ni, nw, nr, nk, na, sl, tx, sc, sh, fr, qu, fa, rw, be, mo, th, rfl, kA, kP, kS, kY, kT, kG, kN⟩ hP ha hS (lv_sub hl [0, 1, 2, 3] rfl)
set_option maxHeartbeats 16000000 in
set_option maxRecDepth 100000 in
theorem law_none {p : Program} {l : Launch} {e : Env} {s : State} {m : MethodId} {below : List Frame} {meth : Method} {c : Code} {D : va_G} {cI cC cB cS : ClassId} {b L : Nat} {xs : Nat → Int32} {w0 o i : Nat} {gs : List va_W} {as : List Nat} {H : Heap} {locs : List Loc} {ls : Array Slot} (hL : L ≤ 384) (hC : lwC D cI cC cB cS p s m meth c b L xs) (hi : i + 6 ≤ L) (hI : LI cI cC cB cS w0 o gs) (hP : va_P D vwCl gs.flatten H) (hV : vD (fun q : Nat => s.heap.size ≤ q) as) (ha : fsts gs.flatten = as) (hS : va_S (fun q : Nat => s.heap.size ≤ q) s.heap H locs) (hl : lv_has ls 4 [(3, .int (nI i)), (0, .ref b), (1, .ref w0), (2, .ref o)]) (next : ∀ (gs2 : List va_W) (H1 : Heap) (locs1 : List Loc) (ls1 : Array Slot), LI cI cC cB cS w0 o gs2 → va_P D vwCl gs2.flatten H1 → fsts gs2.flatten = as → va_S (fun q : Nat => s.heap.size ≤ q) s.heap H1 locs1 → lv_has ls1 4 [(3, .int (nI (i + 6))), (0, .ref b), (1, .ref w0), (2, .ref o)] → W p l e room_1 s m #[Value.ref b] below meth c H1 locs1 600000 7302250 (lw_Z below #[Value.ref b] s) (F0 m 18 ls1 [])) : W p l e room_1 s m #[Value.ref b] below meth c H locs 600000 7302250 (lw_Z below #[Value.ref b] s) (F0 m 870 ls []) := by
  obtain ⟨C0, htsL, hK, hN⟩ := hC
  obtain ⟨hx, hb, hr, hml, hown, hts0, hX, hbl, hlocks, hgv⟩ := id C0
  have hb : c.code = cL_law := hb
  have hA : ∀ q : Nat, s.heap.size ≤ q → (fun q : Nat => s.heap.size ≤ q) q := fun _ h => h
  have hbA : ¬ (fun q : Nat => s.heap.size ≤ q) b := Nat.not_le.mpr hbl
  have hF : mFacts p s m #[Value.ref b] c cL_law 4 wsL_law RL := ⟨hx, hb, hml, hown, htsL⟩
  have hl : lv_has ls 4 [(3, .int (nI i)), (0, .ref b), (1, .ref w0), (2, .ref o)] := hl
  obtain ⟨t0, t1, r0, r1, r2, p0, p1, p2, p3, o0, o1, o2, o3, s0, s1, s2, s3, u0, u1, u2, u3, y0, y1, z0, z1, g0, g1, g2, m0, m1, m2, b0, b1, b2, e20, e21, e22, yb, zb, ad, T, R, P, O, S, U, Y, Z, G, M, B, E2, I, to, so, cl, de, si, wa, ir, ms, nt, ns, nc, nd, ni, nw, nr, nk, na, sl, tx, sc, sh, fr, qu, fa, rw, be, mo, th, rfl, kA, kP, kS, kY, kT, kG, kN⟩ := hI
  obtain ⟨hTo, hRf, hRg, hOp, hMb⟩ := id kA
  obtain ⟨hpk, hc, hm, hto, htb, hso, hde, hsi, hwa, hir, hms⟩ := id kP
  obtain ⟨hsO, hf0, hsb⟩ := id kS
  obtain ⟨hst, hx2, hy9, hl9⟩ := id hsO
  obtain ⟨hy1, hya, hz1, hzk⟩ := id kY
  obtain ⟨hte, htl⟩ := id kT
  obtain ⟨hg8, hgb, hgn, hge, hsc⟩ := id kG
  obtain ⟨hnb, hbg⟩ := id kN
  have hw := hpk.1
  have hp := hw.1
  have hm3 : P.2.2.2.2.2.2 ≤ 3 := hp.2.2.2.2.2.2
  have hcl := pCells_le hp
  have hac8 : I.2.2.2.2.1 ≤ 8 := by rw [hya]; exact hy1.1
  have hkp2 : I.2.2.2.2.2.1 ≤ 2 := by rw [hzk]; exact hz1.1
  have hsn8 : I.2.2.2.2.2.2.2.2.2.2.1 ≤ 8 := by rw [hgn]; exact hg8
  have hlen : T.2 = I.2.2.2.2.2.2.1 := hte.1
  refine lv_iinc (pc := 870) (v := nI (i + 6)) (lv' := [(3, .int (nI (i + 6))), (0, .ref b), (1, .ref w0), (2, .ref o)]) hx hb dL_law_870 hl (k := 0) rfl (by rw [← nI_add]; rfl) (by decide) rfl (fun ls hl => ?_)
  refine lv_goto (pc := 870) (pc := 873) (tgt := 18) hx hb dL_law_873 (by decide) ?_
  exact next _ _ _ _ ⟨t0, t1, r0, r1, r2, p0, p1, p2, p3, o0, o1, o2, o3, s0, s1, s2, s3, u0, u1, u2, u3, y0, y1, z0, z1, g0, g1, g2, m0, m1, m2, b0, b1, b2, e20, e21, e22, yb, zb, ad, T, R, P, O, S, U, Y, Z, G, M, B, E2, I, to, so, cl, de, si, wa, ir, ms, nt, ns, nc, nd, ni, nw, nr, nk, na, sl, tx, sc, sh, fr, qu, fa, rw, be, mo, th, rfl, kA, kP, kS, kY, kT, kG, kN⟩ hP ha hS (lv_sub hl [0, 1, 2, 3] rfl)
