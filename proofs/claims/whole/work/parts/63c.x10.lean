abbrev rmX10_fault : Room := { frames := 6, cells := 0, slots := 0, locals := 137 }
set_option maxHeartbeats 4000000 in
set_option maxRecDepth 100000 in
theorem k_X10_fault (l : Launch) (D : va_G) (cI cC cB cS : ClassId) (o : Nat) (ad : Nat → Nat) (P : PL) (I : RI) (tx : Nat → Nat) (nt : Nat → Nat) (ns : Nat → Nat) (nc : Nat → Nat) (nd : Nat → Nat) (ni : Nat → Nat) (nw : Nat → Nat) (nr : Nat → Nat) (nk : Nat → Nat) (na : Nat → Nat) (O : PL) (hpo : pOK O) (hlt : ltOK (tx, I.2.2.2.2.2.2.1)) (hnb : nB nt ns nc nd ni nw nr nk na) (hbg : I.2.2.2.2.2.2.2.2.1 ≤ 300) : CI l D (kT cI cC cB cS) yX10_fault wsX10_fault rmX10_fault [.ref o] ([rmE o ad (pCells P) P.2.2.2.1 P.2.2.2.2.2.1 P.2.2.2.2.2.2 I, nE 200 (ad 29) cB tx, nE 24 (ad 14) cI nt, nE 6 (ad 16) cI ns, nE 6 (ad 17) cI nc, nE 6 (ad 18) cI nd, nE 6 (ad 19) cI ni, nE 3 (ad 21) cI nw, nE 3 (ad 22) cI nr, nE 3 (ad 23) cI nk, nE 3 (ad 24) cI na]) (fun r u => r = jI (faultZ (readS (tx, I.2.2.2.2.2.2.1) 200 0 (pZ O))) ∧ ∃ (n1 n2 n3 n4 k1 b1 w1 : Nat) (gt gs gc gd gi gw gr gk ga : Nat → Nat), u = [rmE o ad (pCells P) P.2.2.2.1 P.2.2.2.2.2.1 P.2.2.2.2.2.2 (n1, n2, n3, n4, I.2.2.2.2.1, I.2.2.2.2.2.1, I.2.2.2.2.2.2.1, k1, b1, w1, I.2.2.2.2.2.2.2.2.2.2.1, I.2.2.2.2.2.2.2.2.2.2.2), nE 200 (ad 29) cB tx, nE 24 (ad 14) cI gt, nE 6 (ad 16) cI gs, nE 6 (ad 17) cI gc, nE 6 (ad 18) cI gd, nE 6 (ad 19) cI gi, nE 3 (ad 21) cI gw, nE 3 (ad 22) cI gr, nE 3 (ad 23) cI gk, nE 3 (ad 24) cI ga] ∧ (k1 ≤ 300 ∧ b1 ≤ 300 ∧ w1 ≤ 1 ∧ nB gt gs gc gd gi gw gr gk ga)) := by
  refine ci_intro (by decide) rfl (Nat.le_of_ble_eq_true rfl) ?_
  intro p e s m args below meth c ls A QF hF hK hP hV hS hA hN hl hret
  obtain ⟨hx, hb, hml, hown, hts⟩ := id hF
  have hP : va_P D vwCl ([rmE o ad (pCells P) P.2.2.2.1 P.2.2.2.2.2.1 P.2.2.2.2.2.2 I, nE 200 (ad 29) cB tx, nE 24 (ad 14) cI nt, nE 6 (ad 16) cI ns, nE 6 (ad 17) cI nc, nE 6 (ad 18) cI nd, nE 6 (ad 19) cI ni, nE 3 (ad 21) cI nw, nE 3 (ad 22) cI nr, nE 3 (ad 23) cI nk, nE 3 (ad 24) cI na]) s.heap := hP
  have hl : lv_has ls 1 [(0, .ref o)] := hl
  have wf184 := hts (.fieldLink RX10 184 "RemorseWallModel" "begin" "I") (by decide +kernel)
  have hiX10 : ∀ w ∈ u_ws RX10 TX10 44, w ∈ wsX10_fault := by decide +kernel
  refine lv_aload_n (pc := 0) hx hb dX10_fault_0 rfl (lv_at hl 0 rfl) ?_
  refine ci_V (pc := 1) hF hN hK hP hV hS hA (k_X10_reads l D cI cC cB cS o ad P I tx nt ns nc nd ni nw nr nk na O hpo hlt hnb hbg) (cwV 0 hts gX10_fault_X10_reads rfl rfl rfl (by decide +kernel) ⟨Nat.le_of_ble_eq_true rfl, Nat.le_of_ble_eq_true rfl⟩) [0, 1, 2, 3, 4, 5, 6, 7, 8, 9, 10] rfl (by decide) 0 10 rfl rfl rfl hl.1 rfl (Nat.le_of_ble_eq_true rfl) dX10_fault_1 ⟨Nat.le_refl _, Nat.le_refl _⟩ rfl (fun r u H locs hq hu hP hS => ?_)
  obtain ⟨n1, n2, n3, n4, k1, b1, w1, gt, gs, gc, gd, gi, gw, gr, gk, ga, rfl, ⟨hk1, hb1, hw1, hnb1⟩, hJ⟩ := hq
  rcases hJ with ⟨rfl, hno, hrn1, hoo1⟩ | ⟨rfl, hso⟩
  · have hP : va_P D vwCl ([rmE o ad (pCells P) P.2.2.2.1 P.2.2.2.2.2.1 P.2.2.2.2.2.2 (n1, n2, n3, n4, I.2.2.2.2.1, I.2.2.2.2.2.1, I.2.2.2.2.2.2.1, k1, b1, w1, I.2.2.2.2.2.2.2.2.2.2.1, I.2.2.2.2.2.2.2.2.2.2.2), nE 200 (ad 29) cB tx, nE 24 (ad 14) cI gt, nE 6 (ad 16) cI gs, nE 6 (ad 17) cI gc, nE 6 (ad 18) cI gd, nE 6 (ad 19) cI gi, nE 3 (ad 21) cI gw, nE 3 (ad 22) cI gr, nE 3 (ad 23) cI gk, nE 3 (ad 24) cI ga]) H := hP
    refine r0_eq (pc := 4) (tgt := 12) hx hb (tI_nI (by omega)) dX10_fault_4 (by decide) (fun c4 => (by omega)) (fun c4 => ?_)
    refine lv_bipush (pc := 7) (v := jI (-4)) hx hb dX10_fault_7 (by decide) ?_
    refine lv_goto (pc := 9) (tgt := 16) hx hb dX10_fault_9 (by decide) ?_
    exact hret 16 _ hP hS dX10_fault_16 rfl rfl ⟨(by unfold faultZ; rw [hno]), n1, n2, n3, n4, k1, b1, w1, gt, gs, gc, gd, gi, gw, gr, gk, ga, rfl, hk1, hb1, hw1, hnb1⟩
  · have hP : va_P D vwCl ([rmE o ad (pCells P) P.2.2.2.1 P.2.2.2.2.2.1 P.2.2.2.2.2.2 (n1, n2, n3, n4, I.2.2.2.2.1, I.2.2.2.2.2.1, I.2.2.2.2.2.2.1, k1, b1, w1, I.2.2.2.2.2.2.2.2.2.2.1, I.2.2.2.2.2.2.2.2.2.2.2), nE 200 (ad 29) cB tx, nE 24 (ad 14) cI gt, nE 6 (ad 16) cI gs, nE 6 (ad 17) cI gc, nE 6 (ad 18) cI gd, nE 6 (ad 19) cI gi, nE 3 (ad 21) cI gw, nE 3 (ad 22) cI gr, nE 3 (ad 23) cI gk, nE 3 (ad 24) cI ga]) H := hP
    refine r0_eq (pc := 4) (tgt := 12) hx hb (tI_nI (by omega)) dX10_fault_4 (by decide) (fun c4 => ?_) (fun c4 => (by omega))
    refine lv_aload_n (pc := 12) hx hb dX10_fault_12 rfl (lv_at hl 0 rfl) ?_
    refine va_get (pc := 13) (D := D) (ci := 10) (v := .int (nI b1)) (C := RX10) (T := TX10) (N := 44) hx hb hts hiX10 hown hK hP 0 rfl rfl 31 (by decide) wf184 (fun _ h9 => h9) rfl dX10_fault_13 ?_
    exact hret 16 _ hP hS dX10_fault_16 rfl rfl ⟨(by unfold faultZ; rw [hso]; exact jI_nat _), n1, n2, n3, n4, k1, b1, w1, gt, gs, gc, gd, gi, gw, gr, gk, ga, rfl, hk1, hb1, hw1, hnb1⟩
