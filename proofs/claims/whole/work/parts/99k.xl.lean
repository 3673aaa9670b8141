set_option maxHeartbeats 16000000 in
set_option maxRecDepth 100000 in
theorem law_slip {p : Program} {l : Launch} {e : Env} {s : State} {m : MethodId} {below : List Frame} {meth : Method} {c : Code} {D : va_G} {cI cC cB cS : ClassId} {b L : Nat} {xs : Nat → Int32} {w0 o i : Nat} {gs : List va_W} {as : List Nat} {H : Heap} {locs : List Loc} {ls : Array Slot} (hL : L ≤ 384) (hC : lwC D cI cC cB cS p s m meth c b L xs) (hi : i + 6 ≤ L) (hI : LI cI cC cB cS w0 o gs) (hP : va_P D vwCl gs.flatten H) (hV : vD (fun q : Nat => s.heap.size ≤ q) as) (ha : fsts gs.flatten = as) (hS : va_S (fun q : Nat => s.heap.size ≤ q) s.heap H locs) (hl : lv_has ls 4 [(3, .int (nI i)), (0, .ref b), (1, .ref w0), (2, .ref o)]) (next : ∀ (gs2 : List va_W) (H1 : Heap) (locs1 : List Loc) (ls1 : Array Slot), LI cI cC cB cS w0 o gs2 → va_P D vwCl gs2.flatten H1 → fsts gs2.flatten = as → va_S (fun q : Nat => s.heap.size ≤ q) s.heap H1 locs1 → lv_has ls1 4 [(3, .int (nI (i + 6))), (0, .ref b), (1, .ref w0), (2, .ref o)] → W p l e room_1 s m #[Value.ref b] below meth c H1 locs1 600000 7302250 (lw_Z below #[Value.ref b] s) (F0 m 18 ls1 [])) : W p l e room_1 s m #[Value.ref b] below meth c H locs 600000 7302250 (lw_Z below #[Value.ref b] s) (F0 m 715 ls []) := by
  obtain ⟨C0, htsL, hK, hN⟩ := hC
  obtain ⟨hx, hb, hr, hml, hown, hts0, hX, hbl, hlocks, hgv⟩ := id C0
  have hb : c.code = cL_law := hb
  have hA : ∀ q : Nat, s.heap.size ≤ q → (fun q : Nat => s.heap.size ≤ q) q := fun _ h => h
  have hbA : ¬ (fun q : Nat => s.heap.size ≤ q) b := Nat.not_le.mpr hbl
  have hF : mFacts p s m #[Value.ref b] c cL_law 4 wsL_law RL := ⟨hx, hb, hml, hown, htsL⟩
  have hl : lv_has ls 4 [(3, .int (nI i)), (0, .ref b), (1, .ref w0), (2, .ref o)] := hl
  obtain ⟨t0, t1, r0, r1, r2, p0, p1, p2, p3, o0, o1, o2, o3, s0, s1, s2, s3, u0, u1, u2, u3, y0, y1, z0, z1, g0, g1, g2, m0, m1, m2, b0, b1, b2, e20, e21, e22, yb, zb, ad, T, R, P, O, S, U, Y, Z, G, M, B, E2, I, to, so, cl, de, si, wa, ir, ms, nt, ns, nc, nd, ni, nw, nr, nk, na, sl, tx, sc, sh, fr, qu, fa, rw, be, mo, th, rfl, kA, kP, kS, kY, kT, kG, kN⟩ := hI
  obtain ⟨hTo, hRf, hRg, hOp, hMb⟩ := id kA
  obtain ⟨hpk, hc, hm, hto, htb, hso, hde, hsi, hwa, hir, hms⟩ := id kP
  obtain ⟨hsO, hf0, hsb⟩ := id kS
  obtain ⟨hst, hx2, hy9, hl9⟩ := id hsO
  obtain ⟨hy1, hya, hz1, hzk⟩ := id kY
  obtain ⟨hte, htl⟩ := id kT
  obtain ⟨hg8, hgb, hgn, hge, hsc⟩ := id kG
  obtain ⟨hnb, hbg⟩ := id kN
  have hw := hpk.1
  have hp := hw.1
  have hm3 : P.2.2.2.2.2.2 ≤ 3 := hp.2.2.2.2.2.2
  have hcl := pCells_le hp
  have hac8 : I.2.2.2.2.1 ≤ 8 := by rw [hya]; exact hy1.1
  have hkp2 : I.2.2.2.2.2.1 ≤ 2 := by rw [hzk]; exact hz1.1
  have hsn8 : I.2.2.2.2.2.2.2.2.2.2.1 ≤ 8 := by rw [hgn]; exact hg8
  have hlen : T.2 = I.2.2.2.2.2.2.1 := hte.1
  refine lv_aload_n (pc := 715) hx hb dL_law_715 rfl (lv_at hl 2 rfl) ?_
  refine lv_aload_n (pc := 716) hx hb dL_law_716 rfl (lv_at hl 1 rfl) ?_
  refine lv_iload_n (pc := 717) hx hb dL_law_717 rfl (lv_at hl 0 rfl) ?_
  refine lv_iconst (pc := 718) (v := nI 1) hx hb dL_law_718 (by decide) ?_
  refine rn_iadd (pc := 719) hx hb dL_law_719 ?_
  refine ra_sld (pc := 720) (pc := 720) (k := i + 1) hx hb hX hbl hbA hS (by omega) (by omega) dL_law_720 ?_
  refine lv_aload_n (pc := 721) hx hb dL_law_721 rfl (lv_at hl 1 rfl) ?_
  refine lv_iload_n (pc := 722) hx hb dL_law_722 rfl (lv_at hl 0 rfl) ?_
  refine lv_iconst (pc := 723) (v := nI 2) hx hb dL_law_723 (by decide) ?_
  refine rn_iadd (pc := 724) hx hb dL_law_724 ?_
  refine ra_sld (pc := 725) (pc := 725) (k := i + 2) hx hb hX hbl hbA hS (by omega) (by omega) dL_law_725 ?_
  refine lv_aload_n (pc := 726) hx hb dL_law_726 rfl (lv_at hl 1 rfl) ?_
  refine lv_iload_n (pc := 727) hx hb dL_law_727 rfl (lv_at hl 0 rfl) ?_
  refine lv_iconst (pc := 728) (v := nI 3) hx hb dL_law_728 (by decide) ?_
  refine rn_iadd (pc := 729) hx hb dL_law_729 ?_
  refine ra_sld (pc := 730) (pc := 730) (k := i + 3) hx hb hX hbl hbA hS (by omega) (by omega) dL_law_730 ?_
  refine lv_aload_n (pc := 731) hx hb dL_law_731 rfl (lv_at hl 1 rfl) ?_
  refine lv_iload_n (pc := 732) hx hb dL_law_732 rfl (lv_at hl 0 rfl) ?_
  refine lv_iconst (pc := 733) (v := nI 4) hx hb dL_law_733 (by decide) ?_
  refine rn_iadd (pc := 734) hx hb dL_law_734 ?_
  refine ra_sld (pc := 735) (pc := 735) (k := i + 4) hx hb hX hbl hbA hS (by omega) (by omega) dL_law_735 ?_
  refine lv_aload_n (pc := 736) hx hb dL_law_736 rfl (lv_at hl 1 rfl) ?_
  refine lv_iload_n (pc := 737) hx hb dL_law_737 rfl (lv_at hl 0 rfl) ?_
  refine lv_iconst (pc := 738) (v := nI 5) hx hb dL_law_738 (by decide) ?_
  refine rn_iadd (pc := 739) hx hb dL_law_739 ?_
  refine ra_sld (pc := 740) (pc := 740) (k := i + 5) hx hb hX hbl hbA hS (by omega) (by omega) dL_law_740 ?_
  refine ci_G (pc := 741) (pc := 741) (As := [.int (xs (i + 1)), .int (xs (i + 2)), .int (xs (i + 3)), .int (xs (i + 4)), .int (xs (i + 5))]) (rest := []) hF hN hK hP hV ha hS hA (k_X9_slip l D cI cC cB cS w0 t0 r0 o0 u0 y0 z0 g0 m0 b0 e20 p0 p1 p2 p3 P s0 s1 s2 s3 S (xs (i + 1)) ((xs (i + 1)).toInt) rfl (xs (i + 2)) ((xs (i + 2)).toInt) rfl (xs (i + 3)) ((xs (i + 3)).toInt) rfl (xs (i + 4)) ((xs (i + 4)).toInt) rfl (xs (i + 5)) ((xs (i + 5)).toInt) rfl hpk hst) (cwV 5 htsL gL_law_X9_slip rfl rfl rfl (by decide +kernel) ⟨Nat.le_of_ble_eq_true rfl, Nat.le_of_ble_eq_true rfl⟩) [0, 3, 5] rfl (by decide) 0 9 rfl rfl rfl hl.1 rfl (Nat.le_of_ble_eq_true rfl) dL_law_741 ⟨Nat.le_of_ble_eq_true rfl, Nat.le_of_ble_eq_true rfl⟩ (fun r u H locs hq hG hS => ?_)
  obtain ⟨rfl, rfl⟩ := hq
  obtain ⟨hP, ha⟩ := hG [rwW w0 t0 r0 p0 o0 s0 u0 y0 z0 g0 m0 b0 e20, plW p0 p1 p2 p3 cI P, stW s0 s1 s2 s3 cI S] rfl rfl
  have hP : va_P D vwCl (List.flatten [rwW w0 t0 r0 p0 o0 s0 u0 y0 z0 g0 m0 b0 e20, ltW t0 t1 cC T, rdW r0 r1 r2 cI R, plW p0 p1 p2 p3 cI P, plW o0 o1 o2 o3 cI O, stW s0 s1 s2 s3 cI S, stW u0 u1 u2 u3 cI U, y8G y0 y1 yb cI cS Y, y2G z0 z1 zb cI cS Z, sgW g0 g1 g2 cI G, smW m0 m1 m2 cI M, roW b0 b1 b2 cI B, seW e20 e21 e22 cI E2, [rmE o ad (pCells P) P.2.2.2.1 P.2.2.2.2.2.1 P.2.2.2.2.2.2 I], [nE 24 (ad 2) cI to], [nE 6 (ad 4) cI so], [nE 6 (ad 5) cI cl], [nE 6 (ad 6) cI de], [nE 6 (ad 7) cI si], [nE 3 (ad 9) cI wa], [nE 3 (ad 10) cI ir], [nE 3 (ad 11) cI ms], [nE 24 (ad 14) cI nt], [nE 6 (ad 16) cI ns], [nE 6 (ad 17) cI nc], [nE 6 (ad 18) cI nd], [nE 6 (ad 19) cI ni], [nE 3 (ad 21) cI nw], [nE 3 (ad 22) cI nr], [nE 3 (ad 23) cI nk], [nE 3 (ad 24) cI na], [nE 384 (ad 25) cI sl], [nE 200 (ad 29) cB tx], [nE 8 (ad 34) cI sc], [nE 8 (ad 35) cI sh], [zE 984 (ad 36) cI fa], [nE 984 (ad 37) cI fr], [nE 984 (ad 38) cI qu], [zE 5 (ad 40) cI rw], [zE 5 (ad 41) cI be], [zE 64 (ad 42) cI mo], [zE 64 (ad 43) cI th]]) H := hP
  have ha : fsts (List.flatten [rwW w0 t0 r0 p0 o0 s0 u0 y0 z0 g0 m0 b0 e20, ltW t0 t1 cC T, rdW r0 r1 r2 cI R, plW p0 p1 p2 p3 cI P, plW o0 o1 o2 o3 cI O, stW s0 s1 s2 s3 cI S, stW u0 u1 u2 u3 cI U, y8G y0 y1 yb cI cS Y, y2G z0 z1 zb cI cS Z, sgW g0 g1 g2 cI G, smW m0 m1 m2 cI M, roW b0 b1 b2 cI B, seW e20 e21 e22 cI E2, [rmE o ad (pCells P) P.2.2.2.1 P.2.2.2.2.2.1 P.2.2.2.2.2.2 I], [nE 24 (ad 2) cI to], [nE 6 (ad 4) cI so], [nE 6 (ad 5) cI cl], [nE 6 (ad 6) cI de], [nE 6 (ad 7) cI si], [nE 3 (ad 9) cI wa], [nE 3 (ad 10) cI ir], [nE 3 (ad 11) cI ms], [nE 24 (ad 14) cI nt], [nE 6 (ad 16) cI ns], [nE 6 (ad 17) cI nc], [nE 6 (ad 18) cI nd], [nE 6 (ad 19) cI ni], [nE 3 (ad 21) cI nw], [nE 3 (ad 22) cI nr], [nE 3 (ad 23) cI nk], [nE 3 (ad 24) cI na], [nE 384 (ad 25) cI sl], [nE 200 (ad 29) cB tx], [nE 8 (ad 34) cI sc], [nE 8 (ad 35) cI sh], [zE 984 (ad 36) cI fa], [nE 984 (ad 37) cI fr], [nE 984 (ad 38) cI qu], [zE 5 (ad 40) cI rw], [zE 5 (ad 41) cI be], [zE 64 (ad 42) cI mo], [zE 64 (ad 43) cI th]]) = as := ha
  refine lv_aload_n (pc := 744) hx hb dL_law_744 rfl (lv_at hl 3 rfl) ?_
  refine lv_aload_n (pc := 745) hx hb dL_law_745 rfl (lv_at hl 1 rfl) ?_
  refine lv_iload_n (pc := 746) hx hb dL_law_746 rfl (lv_at hl 0 rfl) ?_
  refine lv_iconst (pc := 747) (v := nI 1) hx hb dL_law_747 (by decide) ?_
  refine rn_iadd (pc := 748) hx hb dL_law_748 ?_
  refine ra_sld (pc := 749) (pc := 749) (k := i + 1) hx hb hX hbl hbA hS (by omega) (by omega) dL_law_749 ?_
  refine lv_aload_n (pc := 750) hx hb dL_law_750 rfl (lv_at hl 1 rfl) ?_
  refine lv_iload_n (pc := 751) hx hb dL_law_751 rfl (lv_at hl 0 rfl) ?_
  refine lv_iconst (pc := 752) (v := nI 2) hx hb dL_law_752 (by decide) ?_
  refine rn_iadd (pc := 753) hx hb dL_law_753 ?_
  refine ra_sld (pc := 754) (pc := 754) (k := i + 2) hx hb hX hbl hbA hS (by omega) (by omega) dL_law_754 ?_
  refine lv_aload_n (pc := 755) hx hb dL_law_755 rfl (lv_at hl 1 rfl) ?_
  refine lv_iload_n (pc := 756) hx hb dL_law_756 rfl (lv_at hl 0 rfl) ?_
  refine lv_iconst (pc := 757) (v := nI 3) hx hb dL_law_757 (by decide) ?_
  refine rn_iadd (pc := 758) hx hb dL_law_758 ?_
  refine ra_sld (pc := 759) (pc := 759) (k := i + 3) hx hb hX hbl hbA hS (by omega) (by omega) dL_law_759 ?_
  refine lv_aload_n (pc := 760) hx hb dL_law_760 rfl (lv_at hl 1 rfl) ?_
  refine lv_iload_n (pc := 761) hx hb dL_law_761 rfl (lv_at hl 0 rfl) ?_
  refine lv_iconst (pc := 762) (v := nI 4) hx hb dL_law_762 (by decide) ?_
  refine rn_iadd (pc := 763) hx hb dL_law_763 ?_
  refine ra_sld (pc := 764) (pc := 764) (k := i + 4) hx hb hX hbl hbA hS (by omega) (by omega) dL_law_764 ?_
  refine lv_aload_n (pc := 765) hx hb dL_law_765 rfl (lv_at hl 1 rfl) ?_
  refine lv_iload_n (pc := 766) hx hb dL_law_766 rfl (lv_at hl 0 rfl) ?_
  refine lv_iconst (pc := 767) (v := nI 5) hx hb dL_law_767 (by decide) ?_
  refine rn_iadd (pc := 768) hx hb dL_law_768 ?_
  refine ra_sld (pc := 769) (pc := 769) (k := i + 5) hx hb hX hbl hbA hS (by omega) (by omega) dL_law_769 ?_
  refine ci_G (pc := 770) (pc := 770) (As := [.int (xs (i + 1)), .int (xs (i + 2)), .int (xs (i + 3)), .int (xs (i + 4)), .int (xs (i + 5))]) (rest := [.int (jI (zSlip P S ((xs (i + 1)).toInt) ((xs (i + 2)).toInt) ((xs (i + 3)).toInt) ((xs (i + 4)).toInt) ((xs (i + 5)).toInt)))]) hF hN hK hP hV ha hS hA (k_X10_slip l D cI cC cB cS o ad P I sl wa ir (xs (i + 1)) ((xs (i + 1)).toInt) rfl (xs (i + 2)) ((xs (i + 2)).toInt) rfl (xs (i + 3)) ((xs (i + 3)).toInt) rfl (xs (i + 4)) ((xs (i + 4)).toInt) rfl (xs (i + 5)) ((xs (i + 5)).toInt) rfl S ms hpk hst hm hf0 hsb hir hwa) (cwV 5 htsL gL_law_X10_slip rfl rfl rfl (by decide +kernel) ⟨Nat.le_of_ble_eq_true rfl, Nat.le_of_ble_eq_true rfl⟩) [13, 31, 19, 20] rfl (by decide) 0 10 rfl rfl rfl hl.1 rfl (Nat.le_of_ble_eq_true rfl) dL_law_770 ⟨Nat.le_of_ble_eq_true rfl, Nat.le_of_ble_eq_true rfl⟩ (fun r u H locs hq hG hS => ?_)
  obtain ⟨rfl, rfl⟩ := hq
  obtain ⟨hP, ha⟩ := hG [[rmE o ad (pCells P) P.2.2.2.1 P.2.2.2.2.2.1 P.2.2.2.2.2.2 I], [nE 384 (ad 25) cI sl], [nE 3 (ad 9) cI wa], [nE 3 (ad 10) cI ir]] rfl rfl
  have hP : va_P D vwCl (List.flatten [rwW w0 t0 r0 p0 o0 s0 u0 y0 z0 g0 m0 b0 e20, ltW t0 t1 cC T, rdW r0 r1 r2 cI R, plW p0 p1 p2 p3 cI P, plW o0 o1 o2 o3 cI O, stW s0 s1 s2 s3 cI S, stW u0 u1 u2 u3 cI U, y8G y0 y1 yb cI cS Y, y2G z0 z1 zb cI cS Z, sgW g0 g1 g2 cI G, smW m0 m1 m2 cI M, roW b0 b1 b2 cI B, seW e20 e21 e22 cI E2, [rmE o ad (pCells P) P.2.2.2.1 P.2.2.2.2.2.1 P.2.2.2.2.2.2 I], [nE 24 (ad 2) cI to], [nE 6 (ad 4) cI so], [nE 6 (ad 5) cI cl], [nE 6 (ad 6) cI de], [nE 6 (ad 7) cI si], [nE 3 (ad 9) cI wa], [nE 3 (ad 10) cI ir], [nE 3 (ad 11) cI ms], [nE 24 (ad 14) cI nt], [nE 6 (ad 16) cI ns], [nE 6 (ad 17) cI nc], [nE 6 (ad 18) cI nd], [nE 6 (ad 19) cI ni], [nE 3 (ad 21) cI nw], [nE 3 (ad 22) cI nr], [nE 3 (ad 23) cI nk], [nE 3 (ad 24) cI na], [nE 384 (ad 25) cI sl], [nE 200 (ad 29) cB tx], [nE 8 (ad 34) cI sc], [nE 8 (ad 35) cI sh], [zE 984 (ad 36) cI fa], [nE 984 (ad 37) cI fr], [nE 984 (ad 38) cI qu], [zE 5 (ad 40) cI rw], [zE 5 (ad 41) cI be], [zE 64 (ad 42) cI mo], [zE 64 (ad 43) cI th]]) H := hP
  have ha : fsts (List.flatten [rwW w0 t0 r0 p0 o0 s0 u0 y0 z0 g0 m0 b0 e20, ltW t0 t1 cC T, rdW r0 r1 r2 cI R, plW p0 p1 p2 p3 cI P, plW o0 o1 o2 o3 cI O, stW s0 s1 s2 s3 cI S, stW u0 u1 u2 u3 cI U, y8G y0 y1 yb cI cS Y, y2G z0 z1 zb cI cS Z, sgW g0 g1 g2 cI G, smW m0 m1 m2 cI M, roW b0 b1 b2 cI B, seW e20 e21 e22 cI E2, [rmE o ad (pCells P) P.2.2.2.1 P.2.2.2.2.2.1 P.2.2.2.2.2.2 I], [nE 24 (ad 2) cI to], [nE 6 (ad 4) cI so], [nE 6 (ad 5) cI cl], [nE 6 (ad 6) cI de], [nE 6 (ad 7) cI si], [nE 3 (ad 9) cI wa], [nE 3 (ad 10) cI ir], [nE 3 (ad 11) cI ms], [nE 24 (ad 14) cI nt], [nE 6 (ad 16) cI ns], [nE 6 (ad 17) cI nc], [nE 6 (ad 18) cI nd], [nE 6 (ad 19) cI ni], [nE 3 (ad 21) cI nw], [nE 3 (ad 22) cI nr], [nE 3 (ad 23) cI nk], [nE 3 (ad 24) cI na], [nE 384 (ad 25) cI sl], [nE 200 (ad 29) cB tx], [nE 8 (ad 34) cI sc], [nE 8 (ad 35) cI sh], [zE 984 (ad 36) cI fa], [nE 984 (ad 37) cI fr], [nE 984 (ad 38) cI qu], [zE 5 (ad 40) cI rw], [zE 5 (ad 41) cI be], [zE 64 (ad 42) cI mo], [zE 64 (ad 43) cI th]]) = as := ha
  refine r_top (show jI (zSlip P S ((xs (i + 1)).toInt) ((xs (i + 2)).toInt) ((xs (i + 3)).toInt) ((xs (i + 4)).toInt) ((xs (i + 5)).toInt)) = jI (zSlip P S ((xs (i + 1)).toInt) ((xs (i + 2)).toInt) ((xs (i + 3)).toInt) ((xs (i + 4)).toInt) ((xs (i + 5)).toInt)) from rfl) ?_
  refine rc_eq (pc := 770) (pc := 773) (tgt := 870) hx hb rfl rfl dL_law_773 (by decide) (fun _ => ?_) (fun q => absurd rfl q)
  refine lv_iinc (pc := 870) (v := nI (i + 6)) (lv' := [(3, .int (nI (i + 6))), (0, .ref b), (1, .ref w0), (2, .ref o)]) hx hb dL_law_870 hl (k := 0) rfl (by rw [← nI_add]; rfl) (by decide) rfl (fun ls hl => ?_)
  refine lv_goto (pc := 870) (pc := 873) (tgt := 18) hx hb dL_law_873 (by decide) ?_
  exact next _ _ _ _ ⟨t0, t1, r0, r1, r2, p0, p1, p2, p3, o0, o1, o2, o3, s0, s1, s2, s3, u0, u1, u2, u3, y0, y1, z0, z1, g0, g1, g2, m0, m1, m2, b0, b1, b2, e20, e21, e22, yb, zb, ad, T, R, P, O, S, U, Y, Z, G, M, B, E2, I, to, so, cl, de, si, wa, ir, ms, nt, ns, nc, nd, ni, nw, nr, nk, na, sl, tx, sc, sh, fr, qu, fa, rw, be, mo, th, rfl, kA, kP, kS, kY, kT, kG, kN⟩ hP ha hS (lv_sub hl [0, 1, 2, 3] rfl)
set_option maxHeartbeats 16000000 in
set_option maxRecDepth 100000 in
theorem law_evening {p : Program} {l : Launch} {e : Env} {s : State} {m : MethodId} {below : List Frame} {meth : Method} {c : Code} {D : va_G} {cI cC cB cS : ClassId} {b L : Nat} {xs : Nat → Int32} {w0 o i : Nat} {gs : List va_W} {as : List Nat} {H : Heap} {locs : List Loc} {ls : Array Slot} (hL : L ≤ 384) (hC : lwC D cI cC cB cS p s m meth c b L xs) (hi : i + 6 ≤ L) (hI : LI cI cC cB cS w0 o gs) (hP : va_P D vwCl gs.flatten H) (hV : vD (fun q : Nat => s.heap.size ≤ q) as) (ha : fsts gs.flatten = as) (hS : va_S (fun q : Nat => s.heap.size ≤ q) s.heap H locs) (hl : lv_has ls 4 [(3, .int (nI i)), (0, .ref b), (1, .ref w0), (2, .ref o)]) (next : ∀ (gs2 : List va_W) (H1 : Heap) (locs1 : List Loc) (ls1 : Array Slot), LI cI cC cB cS w0 o gs2 → va_P D vwCl gs2.flatten H1 → fsts gs2.flatten = as → va_S (fun q : Nat => s.heap.size ≤ q) s.heap H1 locs1 → lv_has ls1 4 [(3, .int (nI (i + 6))), (0, .ref b), (1, .ref w0), (2, .ref o)] → W p l e room_1 s m #[Value.ref b] below meth c H1 locs1 600000 7302250 (lw_Z below #[Value.ref b] s) (F0 m 18 ls1 [])) : W p l e room_1 s m #[Value.ref b] below meth c H locs 600000 7302250 (lw_Z below #[Value.ref b] s) (F0 m 778 ls []) := by
  obtain ⟨C0, htsL, hK, hN⟩ := hC
  obtain ⟨hx, hb, hr, hml, hown, hts0, hX, hbl, hlocks, hgv⟩ := id C0
  have hb : c.code = cL_law := hb
  have hA : ∀ q : Nat, s.heap.size ≤ q → (fun q : Nat => s.heap.size ≤ q) q := fun _ h => h
  have hbA : ¬ (fun q : Nat => s.heap.size ≤ q) b := Nat.not_le.mpr hbl
  have hF : mFacts p s m #[Value.ref b] c cL_law 4 wsL_law RL := ⟨hx, hb, hml, hown, htsL⟩
  have hl : lv_has ls 4 [(3, .int (nI i)), (0, .ref b), (1, .ref w0), (2, .ref o)] := hl
  obtain ⟨t0, t1, r0, r1, r2, p0, p1, p2, p3, o0, o1, o2, o3, s0, s1, s2, s3, u0, u1, u2, u3, y0, y1, z0, z1, g0, g1, g2, m0, m1, m2, b0, b1, b2, e20, e21, e22, yb, zb, ad, T, R, P, O, S, U, Y, Z, G, M, B, E2, I, to, so, cl, de, si, wa, ir, ms, nt, ns, nc, nd, ni, nw, nr, nk, na, sl, tx, sc, sh, fr, qu, fa, rw, be, mo, th, rfl, kA, kP, kS, kY, kT, kG, kN⟩ := hI
  obtain ⟨hTo, hRf, hRg, hOp, hMb⟩ := id kA
  obtain ⟨hpk, hc, hm, hto, htb, hso, hde, hsi, hwa, hir, hms⟩ := id kP
  obtain ⟨hsO, hf0, hsb⟩ := id kS
  obtain ⟨hst, hx2, hy9, hl9⟩ := id hsO
  obtain ⟨hy1, hya, hz1, hzk⟩ := id kY
  obtain ⟨hte, htl⟩ := id kT
  obtain ⟨hg8, hgb, hgn, hge, hsc⟩ := id kG
  obtain ⟨hnb, hbg⟩ := id kN
  have hw := hpk.1
  have hp := hw.1
  have hm3 : P.2.2.2.2.2.2 ≤ 3 := hp.2.2.2.2.2.2
  have hcl := pCells_le hp
  have hac8 : I.2.2.2.2.1 ≤ 8 := by rw [hya]; exact hy1.1
  have hkp2 : I.2.2.2.2.2.1 ≤ 2 := by rw [hzk]; exact hz1.1
  have hsn8 : I.2.2.2.2.2.2.2.2.2.2.1 ≤ 8 := by rw [hgn]; exact hg8
  have hlen : T.2 = I.2.2.2.2.2.2.1 := hte.1
  refine lv_aload_n (pc := 778) hx hb dL_law_778 rfl (lv_at hl 2 rfl) ?_
  refine lv_aload_n (pc := 779) hx hb dL_law_779 rfl (lv_at hl 1 rfl) ?_
  refine lv_iload_n (pc := 780) hx hb dL_law_780 rfl (lv_at hl 0 rfl) ?_
  refine lv_iconst (pc := 781) (v := nI 1) hx hb dL_law_781 (by decide) ?_
  refine rn_iadd (pc := 782) hx hb dL_law_782 ?_
  refine ra_sld (pc := 783) (pc := 783) (k := i + 1) hx hb hX hbl hbA hS (by omega) (by omega) dL_law_783 ?_
  refine lv_aload_n (pc := 784) hx hb dL_law_784 rfl (lv_at hl 1 rfl) ?_
  refine lv_iload_n (pc := 785) hx hb dL_law_785 rfl (lv_at hl 0 rfl) ?_
  refine lv_iconst (pc := 786) (v := nI 2) hx hb dL_law_786 (by decide) ?_
  refine rn_iadd (pc := 787) hx hb dL_law_787 ?_
  refine ra_sld (pc := 788) (pc := 788) (k := i + 2) hx hb hX hbl hbA hS (by omega) (by omega) dL_law_788 ?_
  refine lv_aload_n (pc := 789) hx hb dL_law_789 rfl (lv_at hl 1 rfl) ?_
  refine lv_iload_n (pc := 790) hx hb dL_law_790 rfl (lv_at hl 0 rfl) ?_
  refine lv_iconst (pc := 791) (v := nI 3) hx hb dL_law_791 (by decide) ?_
  refine rn_iadd (pc := 792) hx hb dL_law_792 ?_
  refine ra_sld (pc := 793) (pc := 793) (k := i + 3) hx hb hX hbl hbA hS (by omega) (by omega) dL_law_793 ?_
  refine ci_G (pc := 794) (pc := 794) (As := [.int (xs (i + 1)), .int (xs (i + 2)), .int (xs (i + 3))]) (rest := []) hF hN hK hP hV ha hS hA (k_X9_evening l D cI cC cB cS w0 t0 r0 o0 y0 z0 g0 m0 b0 e20 p0 p1 p2 p3 P s0 s1 s2 s3 S u0 u1 u2 u3 U (xs (i + 1)) ((xs (i + 1)).toInt) rfl (xs (i + 2)) ((xs (i + 2)).toInt) rfl (xs (i + 3)) ((xs (i + 3)).toInt) rfl hpk hst) (cwV 3 htsL gL_law_X9_evening rfl rfl rfl (by decide +kernel) ⟨Nat.le_of_ble_eq_true rfl, Nat.le_of_ble_eq_true rfl⟩) [0, 3, 5, 6] rfl (by decide) 0 9 rfl rfl rfl hl.1 rfl (Nat.le_of_ble_eq_true rfl) dL_law_794 ⟨Nat.le_of_ble_eq_true rfl, Nat.le_of_ble_eq_true rfl⟩ (fun r u H locs hq hG hS => ?_)
  obtain ⟨rfl, U9, rfl⟩ := hq
  obtain ⟨hP, ha⟩ := hG [rwW w0 t0 r0 p0 o0 s0 u0 y0 z0 g0 m0 b0 e20, plW p0 p1 p2 p3 cI P, stW s0 s1 s2 s3 cI S, stW u0 u1 u2 u3 cI U9] rfl rfl
  have hP : va_P D vwCl (List.flatten [rwW w0 t0 r0 p0 o0 s0 u0 y0 z0 g0 m0 b0 e20, ltW t0 t1 cC T, rdW r0 r1 r2 cI R, plW p0 p1 p2 p3 cI P, plW o0 o1 o2 o3 cI O, stW s0 s1 s2 s3 cI S, stW u0 u1 u2 u3 cI U9, y8G y0 y1 yb cI cS Y, y2G z0 z1 zb cI cS Z, sgW g0 g1 g2 cI G, smW m0 m1 m2 cI M, roW b0 b1 b2 cI B, seW e20 e21 e22 cI E2, [rmE o ad (pCells P) P.2.2.2.1 P.2.2.2.2.2.1 P.2.2.2.2.2.2 I], [nE 24 (ad 2) cI to], [nE 6 (ad 4) cI so], [nE 6 (ad 5) cI cl], [nE 6 (ad 6) cI de], [nE 6 (ad 7) cI si], [nE 3 (ad 9) cI wa], [nE 3 (ad 10) cI ir], [nE 3 (ad 11) cI ms], [nE 24 (ad 14) cI nt], [nE 6 (ad 16) cI ns], [nE 6 (ad 17) cI nc], [nE 6 (ad 18) cI nd], [nE 6 (ad 19) cI ni], [nE 3 (ad 21) cI nw], [nE 3 (ad 22) cI nr], [nE 3 (ad 23) cI nk], [nE 3 (ad 24) cI na], [nE 384 (ad 25) cI sl], [nE 200 (ad 29) cB tx], [nE 8 (ad 34) cI sc], [nE 8 (ad 35) cI sh], [zE 984 (ad 36) cI fa], [nE 984 (ad 37) cI fr], [nE 984 (ad 38) cI qu], [zE 5 (ad 40) cI rw], [zE 5 (ad 41) cI be], [zE 64 (ad 42) cI mo], [zE 64 (ad 43) cI th]]) H := hP
  have ha : fsts (List.flatten [rwW w0 t0 r0 p0 o0 s0 u0 y0 z0 g0 m0 b0 e20, ltW t0 t1 cC T, rdW r0 r1 r2 cI R, plW p0 p1 p2 p3 cI P, plW o0 o1 o2 o3 cI O, stW s0 s1 s2 s3 cI S, stW u0 u1 u2 u3 cI U9, y8G y0 y1 yb cI cS Y, y2G z0 z1 zb cI cS Z, sgW g0 g1 g2 cI G, smW m0 m1 m2 cI M, roW b0 b1 b2 cI B, seW e20 e21 e22 cI E2, [rmE o ad (pCells P) P.2.2.2.1 P.2.2.2.2.2.1 P.2.2.2.2.2.2 I], [nE 24 (ad 2) cI to], [nE 6 (ad 4) cI so], [nE 6 (ad 5) cI cl], [nE 6 (ad 6) cI de], [nE 6 (ad 7) cI si], [nE 3 (ad 9) cI wa], [nE 3 (ad 10) cI ir], [nE 3 (ad 11) cI ms], [nE 24 (ad 14) cI nt], [nE 6 (ad 16) cI ns], [nE 6 (ad 17) cI nc], [nE 6 (ad 18) cI nd], [nE 6 (ad 19) cI ni], [nE 3 (ad 21) cI nw], [nE 3 (ad 22) cI nr], [nE 3 (ad 23) cI nk], [nE 3 (ad 24) cI na], [nE 384 (ad 25) cI sl], [nE 200 (ad 29) cB tx], [nE 8 (ad 34) cI sc], [nE 8 (ad 35) cI sh], [zE 984 (ad 36) cI fa], [nE 984 (ad 37) cI fr], [nE 984 (ad 38) cI qu], [zE 5 (ad 40) cI rw], [zE 5 (ad 41) cI be], [zE 64 (ad 42) cI mo], [zE 64 (ad 43) cI th]]) = as := ha
  refine lv_aload_n (pc := 797) hx hb dL_law_797 rfl (lv_at hl 3 rfl) ?_
  refine lv_aload_n (pc := 798) hx hb dL_law_798 rfl (lv_at hl 1 rfl) ?_
  refine lv_iload_n (pc := 799) hx hb dL_law_799 rfl (lv_at hl 0 rfl) ?_
  refine lv_iconst (pc := 800) (v := nI 1) hx hb dL_law_800 (by decide) ?_
  refine rn_iadd (pc := 801) hx hb dL_law_801 ?_
  refine ra_sld (pc := 802) (pc := 802) (k := i + 1) hx hb hX hbl hbA hS (by omega) (by omega) dL_law_802 ?_
  refine lv_aload_n (pc := 803) hx hb dL_law_803 rfl (lv_at hl 1 rfl) ?_
  refine lv_iload_n (pc := 804) hx hb dL_law_804 rfl (lv_at hl 0 rfl) ?_
  refine lv_iconst (pc := 805) (v := nI 2) hx hb dL_law_805 (by decide) ?_
  refine rn_iadd (pc := 806) hx hb dL_law_806 ?_
  refine ra_sld (pc := 807) (pc := 807) (k := i + 2) hx hb hX hbl hbA hS (by omega) (by omega) dL_law_807 ?_
  refine lv_aload_n (pc := 808) hx hb dL_law_808 rfl (lv_at hl 1 rfl) ?_
  refine lv_iload_n (pc := 809) hx hb dL_law_809 rfl (lv_at hl 0 rfl) ?_
  refine lv_iconst (pc := 810) (v := nI 3) hx hb dL_law_810 (by decide) ?_
  refine rn_iadd (pc := 811) hx hb dL_law_811 ?_
  refine ra_sld (pc := 812) (pc := 812) (k := i + 3) hx hb hX hbl hbA hS (by omega) (by omega) dL_law_812 ?_
  refine ci_G (pc := 813) (pc := 813) (As := [.int (xs (i + 1)), .int (xs (i + 2)), .int (xs (i + 3))]) (rest := [.int (jI (zEvening P S (xs (i + 1)).toInt (xs (i + 2)).toInt (xs (i + 3)).toInt))]) hF hN hK hP hV ha hS hA (k_X10_evening l D cI cC cB cS o ad P I sl so cl de si ms wa ir (xs (i + 1)) ((xs (i + 1)).toInt) rfl (xs (i + 2)) ((xs (i + 2)).toInt) rfl (xs (i + 3)) ((xs (i + 3)).toInt) rfl S hpk hst hc hm hf0 hsb hde hso hsi hms hy9 hx2 hir hwa) (cwV 3 htsL gL_law_X10_evening rfl rfl rfl (by decide +kernel) ⟨Nat.le_of_ble_eq_true rfl, Nat.le_of_ble_eq_true rfl⟩) [13, 31, 15, 16, 17, 18, 21, 19, 20] rfl (by decide) 0 10 rfl rfl rfl hl.1 rfl (Nat.le_of_ble_eq_true rfl) dL_law_813 ⟨Nat.le_of_ble_eq_true rfl, Nat.le_of_ble_eq_true rfl⟩ (fun r u H locs hq hG hS => ?_)
  obtain ⟨rfl, f, rfl, hE⟩ := hq
  obtain ⟨hP, ha⟩ := hG [[rmE o ad (pCells P) P.2.2.2.1 P.2.2.2.2.2.1 P.2.2.2.2.2.2 I], [nE 384 (ad 25) cI f], [nE 6 (ad 4) cI so], [nE 6 (ad 5) cI cl], [nE 6 (ad 6) cI de], [nE 6 (ad 7) cI si], [nE 3 (ad 11) cI ms], [nE 3 (ad 9) cI wa], [nE 3 (ad 10) cI ir]] rfl rfl
  have hP : va_P D vwCl (List.flatten [rwW w0 t0 r0 p0 o0 s0 u0 y0 z0 g0 m0 b0 e20, ltW t0 t1 cC T, rdW r0 r1 r2 cI R, plW p0 p1 p2 p3 cI P, plW o0 o1 o2 o3 cI O, stW s0 s1 s2 s3 cI S, stW u0 u1 u2 u3 cI U9, y8G y0 y1 yb cI cS Y, y2G z0 z1 zb cI cS Z, sgW g0 g1 g2 cI G, smW m0 m1 m2 cI M, roW b0 b1 b2 cI B, seW e20 e21 e22 cI E2, [rmE o ad (pCells P) P.2.2.2.1 P.2.2.2.2.2.1 P.2.2.2.2.2.2 I], [nE 24 (ad 2) cI to], [nE 6 (ad 4) cI so], [nE 6 (ad 5) cI cl], [nE 6 (ad 6) cI de], [nE 6 (ad 7) cI si], [nE 3 (ad 9) cI wa], [nE 3 (ad 10) cI ir], [nE 3 (ad 11) cI ms], [nE 24 (ad 14) cI nt], [nE 6 (ad 16) cI ns], [nE 6 (ad 17) cI nc], [nE 6 (ad 18) cI nd], [nE 6 (ad 19) cI ni], [nE 3 (ad 21) cI nw], [nE 3 (ad 22) cI nr], [nE 3 (ad 23) cI nk], [nE 3 (ad 24) cI na], [nE 384 (ad 25) cI f], [nE 200 (ad 29) cB tx], [nE 8 (ad 34) cI sc], [nE 8 (ad 35) cI sh], [zE 984 (ad 36) cI fa], [nE 984 (ad 37) cI fr], [nE 984 (ad 38) cI qu], [zE 5 (ad 40) cI rw], [zE 5 (ad 41) cI be], [zE 64 (ad 42) cI mo], [zE 64 (ad 43) cI th]]) H := hP
  have ha : fsts (List.flatten [rwW w0 t0 r0 p0 o0 s0 u0 y0 z0 g0 m0 b0 e20, ltW t0 t1 cC T, rdW r0 r1 r2 cI R, plW p0 p1 p2 p3 cI P, plW o0 o1 o2 o3 cI O, stW s0 s1 s2 s3 cI S, stW u0 u1 u2 u3 cI U9, y8G y0 y1 yb cI cS Y, y2G z0 z1 zb cI cS Z, sgW g0 g1 g2 cI G, smW m0 m1 m2 cI M, roW b0 b1 b2 cI B, seW e20 e21 e22 cI E2, [rmE o ad (pCells P) P.2.2.2.1 P.2.2.2.2.2.1 P.2.2.2.2.2.2 I], [nE 24 (ad 2) cI to], [nE 6 (ad 4) cI so], [nE 6 (ad 5) cI cl], [nE 6 (ad 6) cI de], [nE 6 (ad 7) cI si], [nE 3 (ad 9) cI wa], [nE 3 (ad 10) cI ir], [nE 3 (ad 11) cI ms], [nE 24 (ad 14) cI nt], [nE 6 (ad 16) cI ns], [nE 6 (ad 17) cI nc], [nE 6 (ad 18) cI nd], [nE 6 (ad 19) cI ni], [nE 3 (ad 21) cI nw], [nE 3 (ad 22) cI nr], [nE 3 (ad 23) cI nk], [nE 3 (ad 24) cI na], [nE 384 (ad 25) cI f], [nE 200 (ad 29) cB tx], [nE 8 (ad 34) cI sc], [nE 8 (ad 35) cI sh], [zE 984 (ad 36) cI fa], [nE 984 (ad 37) cI fr], [nE 984 (ad 38) cI qu], [zE 5 (ad 40) cI rw], [zE 5 (ad 41) cI be], [zE 64 (ad 42) cI mo], [zE 64 (ad 43) cI th]]) = as := ha
  refine r_top (show jI (zEvening P S (xs (i + 1)).toInt (xs (i + 2)).toInt (xs (i + 3)).toInt) = jI (zEvening P S (xs (i + 1)).toInt (xs (i + 2)).toInt (xs (i + 3)).toInt) from rfl) ?_
  refine rc_eq (pc := 813) (pc := 816) (tgt := 870) hx hb rfl rfl dL_law_816 (by decide) (fun _ => ?_) (fun q => absurd rfl q)
  refine lv_iinc (pc := 870) (v := nI (i + 6)) (lv' := [(3, .int (nI (i + 6))), (0, .ref b), (1, .ref w0), (2, .ref o)]) hx hb dL_law_870 hl (k := 0) rfl (by rw [← nI_add]; rfl) (by decide) rfl (fun ls hl => ?_)
  refine lv_goto (pc := 870) (pc := 873) (tgt := 18) hx hb dL_law_873 (by decide) ?_
  exact next _ _ _ _ ⟨t0, t1, r0, r1, r2, p0, p1, p2, p3, o0, o1, o2, o3, s0, s1, s2, s3, u0, u1, u2, u3, y0, y1, z0, z1, g0, g1, g2, m0, m1, m2, b0, b1, b2, e20, e21, e22, yb, zb, ad, T, R, P, O, S, U9, Y, Z, G, M, B, E2, I, to, so, cl, de, si, wa, ir, ms, nt, ns, nc, nd, ni, nw, nr, nk, na, f, tx, sc, sh, fr, qu, fa, rw, be, mo, th, rfl, kA, kP, (lrS_end hm3 hE kS), (lrY_end hm3 hE kY), kT, kG, kN⟩ hP ha hS (lv_sub hl [0, 1, 2, 3] rfl)
set_option maxHeartbeats 16000000 in
set_option maxRecDepth 100000 in
theorem law_keep {p : Program} {l : Launch} {e : Env} {s : State} {m : MethodId} {below : List Frame} {meth : Method} {c : Code} {D : va_G} {cI cC cB cS : ClassId} {b L : Nat} {xs : Nat → Int32} {w0 o i : Nat} {gs : List va_W} {as : List Nat} {H : Heap} {locs : List Loc} {ls : Array Slot} (hL : L ≤ 384) (hC : lwC D cI cC cB cS p s m meth c b L xs) (hi : i + 6 ≤ L) (hI : LI cI cC cB cS w0 o gs) (hP : va_P D vwCl gs.flatten H) (hV : vD (fun q : Nat => s.heap.size ≤ q) as) (ha : fsts gs.flatten = as) (hS : va_S (fun q : Nat => s.heap.size ≤ q) s.heap H locs) (hl : lv_has ls 4 [(3, .int (nI i)), (0, .ref b), (1, .ref w0), (2, .ref o)]) (next : ∀ (gs2 : List va_W) (H1 : Heap) (locs1 : List Loc) (ls1 : Array Slot), LI cI cC cB cS w0 o gs2 → va_P D vwCl gs2.flatten H1 → fsts gs2.flatten = as → va_S (fun q : Nat => s.heap.size ≤ q) s.heap H1 locs1 → lv_has ls1 4 [(3, .int (nI (i + 6))), (0, .ref b), (1, .ref w0), (2, .ref o)] → W p l e room_1 s m #[Value.ref b] below meth c H1 locs1 600000 7302250 (lw_Z below #[Value.ref b] s) (F0 m 18 ls1 [])) : W p l e room_1 s m #[Value.ref b] below meth c H locs 600000 7302250 (lw_Z below #[Value.ref b] s) (F0 m 821 ls []) := by
  obtain ⟨C0, htsL, hK, hN⟩ := hC
  obtain ⟨hx, hb, hr, hml, hown, hts0, hX, hbl, hlocks, hgv⟩ := id C0
  have hb : c.code = cL_law := hb
  have hA : ∀ q : Nat, s.heap.size ≤ q → (fun q : Nat => s.heap.size ≤ q) q := fun _ h => h
  have hbA : ¬ (fun q : Nat => s.heap.size ≤ q) b := Nat.not_le.mpr hbl
  have hF : mFacts p s m #[Value.ref b] c cL_law 4 wsL_law RL := ⟨hx, hb, hml, hown, htsL⟩
  have hl : lv_has ls 4 [(3, .int (nI i)), (0, .ref b), (1, .ref w0), (2, .ref o)] := hl
  obtain ⟨t0, t1, r0, r1, r2, p0, p1, p2, p3, o0, o1, o2, o3, s0, s1, s2, s3, u0, u1, u2, u3, y0, y1, z0, z1, g0, g1, g2, m0, m1, m2, b0, b1, b2, e20, e21, e22, yb, zb, ad, T, R, P, O, S, U, Y, Z, G, M, B, E2, I, to, so, cl, de, si, wa, ir, ms, nt, ns, nc, nd, ni, nw, nr, nk, na, sl, tx, sc, sh, fr, qu, fa, rw, be, mo, th, rfl, kA, kP, kS, kY, kT, kG, kN⟩ := hI
  obtain ⟨hTo, hRf, hRg, hOp, hMb⟩ := id kA
  obtain ⟨hpk, hc, hm, hto, htb, hso, hde, hsi, hwa, hir, hms⟩ := id kP
  obtain ⟨hsO, hf0, hsb⟩ := id kS
  obtain ⟨hst, hx2, hy9, hl9⟩ := id hsO
  obtain ⟨hy1, hya, hz1, hzk⟩ := id kY
  obtain ⟨hte, htl⟩ := id kT
  obtain ⟨hg8, hgb, hgn, hge, hsc⟩ := id kG
  obtain ⟨hnb, hbg⟩ := id kN
  have hw := hpk.1
  have hp := hw.1
  have hm3 : P.2.2.2.2.2.2 ≤ 3 := hp.2.2.2.2.2.2
  have hcl := pCells_le hp
  have hac8 : I.2.2.2.2.1 ≤ 8 := by rw [hya]; exact hy1.1
  have hkp2 : I.2.2.2.2.2.1 ≤ 2 := by rw [hzk]; exact hz1.1
  have hsn8 : I.2.2.2.2.2.2.2.2.2.2.1 ≤ 8 := by rw [hgn]; exact hg8
  have hlen : T.2 = I.2.2.2.2.2.2.1 := hte.1
  refine lv_aload_n (pc := 821) hx hb dL_law_821 rfl (lv_at hl 2 rfl) ?_
  refine ci_G (pc := 822) (pc := 822) (As := []) (rest := []) hF hN hK hP hV ha hS hA (k_X9_keep l D cI cC cB cS w0 t0 r0 p0 o0 u0 y0 g0 m0 b0 e20 z0 z1 zb Z s0 s1 s2 s3 S hz1.2.1.1 hz1.1) (cwV 0 htsL gL_law_X9_keep rfl rfl rfl (by decide +kernel) ⟨Nat.le_of_ble_eq_true rfl, Nat.le_of_ble_eq_true rfl⟩) [0, 8, 5] rfl (by decide) 0 9 rfl rfl rfl hl.1 rfl (Nat.le_of_ble_eq_true rfl) dL_law_822 ⟨Nat.le_of_ble_eq_true rfl, Nat.le_of_ble_eq_true rfl⟩ (fun r u H locs hq hG hS => ?_)
  obtain ⟨rfl, rfl⟩ := hq
  obtain ⟨hP, ha⟩ := hG [rwW w0 t0 r0 p0 o0 s0 u0 y0 z0 g0 m0 b0 e20, y2G z0 z1 zb cI cS (if 2 ≤ Z.2.1 then Z else psh 2 Z S), stW s0 s1 s2 s3 cI S] rfl rfl
  have hP : va_P D vwCl (List.flatten [rwW w0 t0 r0 p0 o0 s0 u0 y0 z0 g0 m0 b0 e20, ltW t0 t1 cC T, rdW r0 r1 r2 cI R, plW p0 p1 p2 p3 cI P, plW o0 o1 o2 o3 cI O, stW s0 s1 s2 s3 cI S, stW u0 u1 u2 u3 cI U, y8G y0 y1 yb cI cS Y, y2G z0 z1 zb cI cS (if 2 ≤ Z.2.1 then Z else psh 2 Z S), sgW g0 g1 g2 cI G, smW m0 m1 m2 cI M, roW b0 b1 b2 cI B, seW e20 e21 e22 cI E2, [rmE o ad (pCells P) P.2.2.2.1 P.2.2.2.2.2.1 P.2.2.2.2.2.2 I], [nE 24 (ad 2) cI to], [nE 6 (ad 4) cI so], [nE 6 (ad 5) cI cl], [nE 6 (ad 6) cI de], [nE 6 (ad 7) cI si], [nE 3 (ad 9) cI wa], [nE 3 (ad 10) cI ir], [nE 3 (ad 11) cI ms], [nE 24 (ad 14) cI nt], [nE 6 (ad 16) cI ns], [nE 6 (ad 17) cI nc], [nE 6 (ad 18) cI nd], [nE 6 (ad 19) cI ni], [nE 3 (ad 21) cI nw], [nE 3 (ad 22) cI nr], [nE 3 (ad 23) cI nk], [nE 3 (ad 24) cI na], [nE 384 (ad 25) cI sl], [nE 200 (ad 29) cB tx], [nE 8 (ad 34) cI sc], [nE 8 (ad 35) cI sh], [zE 984 (ad 36) cI fa], [nE 984 (ad 37) cI fr], [nE 984 (ad 38) cI qu], [zE 5 (ad 40) cI rw], [zE 5 (ad 41) cI be], [zE 64 (ad 42) cI mo], [zE 64 (ad 43) cI th]]) H := hP
  have ha : fsts (List.flatten [rwW w0 t0 r0 p0 o0 s0 u0 y0 z0 g0 m0 b0 e20, ltW t0 t1 cC T, rdW r0 r1 r2 cI R, plW p0 p1 p2 p3 cI P, plW o0 o1 o2 o3 cI O, stW s0 s1 s2 s3 cI S, stW u0 u1 u2 u3 cI U, y8G y0 y1 yb cI cS Y, y2G z0 z1 zb cI cS (if 2 ≤ Z.2.1 then Z else psh 2 Z S), sgW g0 g1 g2 cI G, smW m0 m1 m2 cI M, roW b0 b1 b2 cI B, seW e20 e21 e22 cI E2, [rmE o ad (pCells P) P.2.2.2.1 P.2.2.2.2.2.1 P.2.2.2.2.2.2 I], [nE 24 (ad 2) cI to], [nE 6 (ad 4) cI so], [nE 6 (ad 5) cI cl], [nE 6 (ad 6) cI de], [nE 6 (ad 7) cI si], [nE 3 (ad 9) cI wa], [nE 3 (ad 10) cI ir], [nE 3 (ad 11) cI ms], [nE 24 (ad 14) cI nt], [nE 6 (ad 16) cI ns], [nE 6 (ad 17) cI nc], [nE 6 (ad 18) cI nd], [nE 6 (ad 19) cI ni], [nE 3 (ad 21) cI nw], [nE 3 (ad 22) cI nr], [nE 3 (ad 23) cI nk], [nE 3 (ad 24) cI na], [nE 384 (ad 25) cI sl], [nE 200 (ad 29) cB tx], [nE 8 (ad 34) cI sc], [nE 8 (ad 35) cI sh], [zE 984 (ad 36) cI fa], [nE 984 (ad 37) cI fr], [nE 984 (ad 38) cI qu], [zE 5 (ad 40) cI rw], [zE 5 (ad 41) cI be], [zE 64 (ad 42) cI mo], [zE 64 (ad 43) cI th]]) = as := ha
  refine lv_aload_n (pc := 825) hx hb dL_law_825 rfl (lv_at hl 3 rfl) ?_
  refine ci_G (pc := 826) (pc := 826) (As := []) (rest := [.int (jI (zKeep Z.2.1))]) hF hN hK hP hV ha hS hA (k_X10_keep l D cI cC cB cS o ad P I sl hkp2) (cwV 0 htsL gL_law_X10_keep rfl rfl rfl (by decide +kernel) ⟨Nat.le_of_ble_eq_true rfl, Nat.le_of_ble_eq_true rfl⟩) [13, 31] rfl (by decide) 0 10 rfl rfl rfl hl.1 rfl (Nat.le_of_ble_eq_true rfl) dL_law_826 ⟨Nat.le_of_ble_eq_true rfl, Nat.le_of_ble_eq_true rfl⟩ (fun r u H locs hq hG hS => ?_)
  obtain ⟨rfl, rfl⟩ := hq
  obtain ⟨hP, ha⟩ := hG [[rmE o ad (pCells P) P.2.2.2.1 P.2.2.2.2.2.1 P.2.2.2.2.2.2 (I.1, I.2.1, I.2.2.1, I.2.2.2.1, I.2.2.2.2.1, if I.2.2.2.2.2.1 = 2 then 2 else I.2.2.2.2.2.1 + 1, I.2.2.2.2.2.2.1, I.2.2.2.2.2.2.2.1, I.2.2.2.2.2.2.2.2.1, I.2.2.2.2.2.2.2.2.2.1, I.2.2.2.2.2.2.2.2.2.2.1, I.2.2.2.2.2.2.2.2.2.2.2)], [nE 384 (ad 25) cI (if I.2.2.2.2.2.1 = 2 then sl else cpN sl 0 ((9 + I.2.2.2.2.2.1) * 32) 32)]] rfl rfl
  have hP : va_P D vwCl (List.flatten [rwW w0 t0 r0 p0 o0 s0 u0 y0 z0 g0 m0 b0 e20, ltW t0 t1 cC T, rdW r0 r1 r2 cI R, plW p0 p1 p2 p3 cI P, plW o0 o1 o2 o3 cI O, stW s0 s1 s2 s3 cI S, stW u0 u1 u2 u3 cI U, y8G y0 y1 yb cI cS Y, y2G z0 z1 zb cI cS (if 2 ≤ Z.2.1 then Z else psh 2 Z S), sgW g0 g1 g2 cI G, smW m0 m1 m2 cI M, roW b0 b1 b2 cI B, seW e20 e21 e22 cI E2, [rmE o ad (pCells P) P.2.2.2.1 P.2.2.2.2.2.1 P.2.2.2.2.2.2 (I.1, I.2.1, I.2.2.1, I.2.2.2.1, I.2.2.2.2.1, if I.2.2.2.2.2.1 = 2 then 2 else I.2.2.2.2.2.1 + 1, I.2.2.2.2.2.2.1, I.2.2.2.2.2.2.2.1, I.2.2.2.2.2.2.2.2.1, I.2.2.2.2.2.2.2.2.2.1, I.2.2.2.2.2.2.2.2.2.2.1, I.2.2.2.2.2.2.2.2.2.2.2)], [nE 24 (ad 2) cI to], [nE 6 (ad 4) cI so], [nE 6 (ad 5) cI cl], [nE 6 (ad 6) cI de], [nE 6 (ad 7) cI si], [nE 3 (ad 9) cI wa], [nE 3 (ad 10) cI ir], [nE 3 (ad 11) cI ms], [nE 24 (ad 14) cI nt], [nE 6 (ad 16) cI ns], [nE 6 (ad 17) cI nc], [nE 6 (ad 18) cI nd], [nE 6 (ad 19) cI ni], [nE 3 (ad 21) cI nw], [nE 3 (ad 22) cI nr], [nE 3 (ad 23) cI nk], [nE 3 (ad 24) cI na], [nE 384 (ad 25) cI (if I.2.2.2.2.2.1 = 2 then sl else cpN sl 0 ((9 + I.2.2.2.2.2.1) * 32) 32)], [nE 200 (ad 29) cB tx], [nE 8 (ad 34) cI sc], [nE 8 (ad 35) cI sh], [zE 984 (ad 36) cI fa], [nE 984 (ad 37) cI fr], [nE 984 (ad 38) cI qu], [zE 5 (ad 40) cI rw], [zE 5 (ad 41) cI be], [zE 64 (ad 42) cI mo], [zE 64 (ad 43) cI th]]) H := hP
  have ha : fsts (List.flatten [rwW w0 t0 r0 p0 o0 s0 u0 y0 z0 g0 m0 b0 e20, ltW t0 t1 cC T, rdW r0 r1 r2 cI R, plW p0 p1 p2 p3 cI P, plW o0 o1 o2 o3 cI O, stW s0 s1 s2 s3 cI S, stW u0 u1 u2 u3 cI U, y8G y0 y1 yb cI cS Y, y2G z0 z1 zb cI cS (if 2 ≤ Z.2.1 then Z else psh 2 Z S), sgW g0 g1 g2 cI G, smW m0 m1 m2 cI M, roW b0 b1 b2 cI B, seW e20 e21 e22 cI E2, [rmE o ad (pCells P) P.2.2.2.1 P.2.2.2.2.2.1 P.2.2.2.2.2.2 (I.1, I.2.1, I.2.2.1, I.2.2.2.1, I.2.2.2.2.1, if I.2.2.2.2.2.1 = 2 then 2 else I.2.2.2.2.2.1 + 1, I.2.2.2.2.2.2.1, I.2.2.2.2.2.2.2.1, I.2.2.2.2.2.2.2.2.1, I.2.2.2.2.2.2.2.2.2.1, I.2.2.2.2.2.2.2.2.2.2.1, I.2.2.2.2.2.2.2.2.2.2.2)], [nE 24 (ad 2) cI to], [nE 6 (ad 4) cI so], [nE 6 (ad 5) cI cl], [nE 6 (ad 6) cI de], [nE 6 (ad 7) cI si], [nE 3 (ad 9) cI wa], [nE 3 (ad 10) cI ir], [nE 3 (ad 11) cI ms], [nE 24 (ad 14) cI nt], [nE 6 (ad 16) cI ns], [nE 6 (ad 17) cI nc], [nE 6 (ad 18) cI nd], [nE 6 (ad 19) cI ni], [nE 3 (ad 21) cI nw], [nE 3 (ad 22) cI nr], [nE 3 (ad 23) cI nk], [nE 3 (ad 24) cI na], [nE 384 (ad 25) cI (if I.2.2.2.2.2.1 = 2 then sl else cpN sl 0 ((9 + I.2.2.2.2.2.1) * 32) 32)], [nE 200 (ad 29) cB tx], [nE 8 (ad 34) cI sc], [nE 8 (ad 35) cI sh], [zE 984 (ad 36) cI fa], [nE 984 (ad 37) cI fr], [nE 984 (ad 38) cI qu], [zE 5 (ad 40) cI rw], [zE 5 (ad 41) cI be], [zE 64 (ad 42) cI mo], [zE 64 (ad 43) cI th]]) = as := ha
  obtain ⟨hS9, hY9⟩ := keep_step hpk kS kY
  refine r_top (show jI (zKeep I.2.2.2.2.2.1) = jI (zKeep Z.2.1) from congrArg (fun n => jI (zKeep n)) hzk) ?_
  refine rc_eq (pc := 826) (pc := 829) (tgt := 870) hx hb rfl rfl dL_law_829 (by decide) (fun _ => ?_) (fun q => absurd rfl q)
  refine lv_iinc (pc := 870) (v := nI (i + 6)) (lv' := [(3, .int (nI (i + 6))), (0, .ref b), (1, .ref w0), (2, .ref o)]) hx hb dL_law_870 hl (k := 0) rfl (by rw [← nI_add]; rfl) (by decide) rfl (fun ls hl => ?_)
  refine lv_goto (pc := 870) (pc := 873) (tgt := 18) hx hb dL_law_873 (by decide) ?_
  exact next _ _ _ _ ⟨t0, t1, r0, r1, r2, p0, p1, p2, p3, o0, o1, o2, o3, s0, s1, s2, s3, u0, u1, u2, u3, y0, y1, z0, z1, g0, g1, g2, m0, m1, m2, b0, b1, b2, e20, e21, e22, yb, zb, ad, T, R, P, O, S, U, Y, if 2 ≤ Z.2.1 then Z else psh 2 Z S, G, M, B, E2, (I.1, I.2.1, I.2.2.1, I.2.2.2.1, I.2.2.2.2.1, if I.2.2.2.2.2.1 = 2 then 2 else I.2.2.2.2.2.1 + 1, I.2.2.2.2.2.2.1, I.2.2.2.2.2.2.2.1, I.2.2.2.2.2.2.2.2.1, I.2.2.2.2.2.2.2.2.2.1, I.2.2.2.2.2.2.2.2.2.2.1, I.2.2.2.2.2.2.2.2.2.2.2), to, so, cl, de, si, wa, ir, ms, nt, ns, nc, nd, ni, nw, nr, nk, na, if I.2.2.2.2.2.1 = 2 then sl else cpN sl 0 ((9 + I.2.2.2.2.2.1) * 32) 32, tx, sc, sh, fr, qu, fa, rw, be, mo, th, rfl, kA, kP, hS9, hY9, kT, kG, kN⟩ hP ha hS (lv_sub hl [0, 1, 2, 3] rfl)
