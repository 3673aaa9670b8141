abbrev rmX9_fault : Room := { frames := 5, cells := 0, slots := 0, locals := 115 }
set_option maxHeartbeats 4000000 in
set_option maxRecDepth 100000 in
theorem k_X9_fault (l : Launch) (D : va_G) (cI cC cB cS : ClassId) (w0 w3 w5 w6 w7 w8 w9 w10 w11 w12 : Nat) (t0 t1 : Nat) (T : LT) (o0 o1 o2 o3 : Nat) (O : PL) (r0 r1 r2 : Nat) (R : RD) (ht : ltOK T) (hp : pOK O) (hf : ∀ j, R.1 j < 100) (hg : ∀ j, R.2.1 j ≤ 9) : CI l D (kT cI cC cB cS) yX9_fault wsX9_fault rmX9_fault [.ref w0] (rwW w0 t0 r0 w3 o0 w5 w6 w7 w8 w9 w10 w11 w12 ++ ltW t0 t1 cC T ++ plW o0 o1 o2 o3 cI O ++ rdW r0 r1 r2 cI R) (fun r u => r = jI (faultZ (readS T 200 0 (pZ O))) ∧ ∃ R9 : RD, u = rwW w0 t0 r0 w3 o0 w5 w6 w7 w8 w9 w10 w11 w12 ++ ltW t0 t1 cC T ++ plW o0 o1 o2 o3 cI ((readS T 200 0 (pZ O)).2) ++ rdW r0 r1 r2 cI R9 ∧ (∀ j, R9.1 j < 100) ∧ (∀ j, R9.2.1 j ≤ 9) ∧ pOK (readS T 200 0 (pZ O)).2) := by
  refine ci_intro (by decide) rfl (Nat.le_of_ble_eq_true rfl) ?_
  intro p e s m args below meth c ls A QF hF hK hP hV hS hA hN hl hret
  obtain ⟨hx, hb, hml, hown, hts⟩ := id hF
  have hP : va_P D vwCl (rwW w0 t0 r0 w3 o0 w5 w6 w7 w8 w9 w10 w11 w12 ++ ltW t0 t1 cC T ++ plW o0 o1 o2 o3 cI O ++ rdW r0 r1 r2 cI R) s.heap := hP
  have hl : lv_has ls 1 [(0, .ref w0)] := hl
  have wf12 := hts (.fieldLink RX9 12 "RemorseWall" "text" "LRemorseWall$Letters;") (by decide +kernel)
  have wf19 := hts (.fieldLink RX9 19 "RemorseWall" "reader" "LRemorseWall$Reader;") (by decide +kernel)
  have wf30 := hts (.fieldLink RX9 30 "RemorseWall" "otherPlan" "LRemorseWall$Plan;") (by decide +kernel)
  have hiX9 : ∀ w ∈ u_ws RX9 TX9 12, w ∈ wsX9_fault := by decide +kernel
  refine lv_aload_n (pc := 0) hx hb dX9_fault_0 rfl (lv_at hl 0 rfl) ?_
  refine va_get (pc := 1) (D := D) (ci := 9) (v := .ref r0) (C := RX9) (T := TX9) (N := 12) hx hb hts hiX9 hown hK hP 0 rfl rfl 1 (by decide) wf19 (fun _ h9 => h9) rfl dX9_fault_1 ?_
  refine lv_aload_n (pc := 4) hx hb dX9_fault_4 rfl (lv_at hl 0 rfl) ?_
  refine va_get (pc := 5) (D := D) (ci := 9) (v := .ref t0) (C := RX9) (T := TX9) (N := 12) hx hb hts hiX9 hown hK hP 0 rfl rfl 0 (by decide) wf12 (fun _ h9 => h9) rfl dX9_fault_5 ?_
  refine lv_aload_n (pc := 8) hx hb dX9_fault_8 rfl (lv_at hl 0 rfl) ?_
  refine va_get (pc := 9) (D := D) (ci := 9) (v := .ref o0) (C := RX9) (T := TX9) (N := 12) hx hb hts hiX9 hown hK hP 0 rfl rfl 3 (by decide) wf30 (fun _ h9 => h9) rfl dX9_fault_9 ?_
  refine ci_V (pc := 12) hF hN hK hP hV hS hA (k_X3_read l D cI cC cB cS r0 r1 r2 R t0 t1 T o0 o1 o2 o3 O ht hp hf hg) (cwV 2 hts gX9_fault_X3_read rfl rfl rfl (by decide +kernel) ⟨Nat.le_of_ble_eq_true rfl, Nat.le_of_ble_eq_true rfl⟩) [7, 8, 9, 1, 2, 3, 4, 5, 6] rfl (by decide) 0 3 rfl rfl rfl hl.1 rfl (Nat.le_of_ble_eq_true rfl) dX9_fault_12 ⟨Nat.le_refl _, Nat.le_refl _⟩ rfl (fun r u H locs hq hu hP hS => ?_)
  obtain ⟨f2, g2, k2, rfl, hf2, hg2, hpo, rfl⟩ := hq
  have hP : va_P D vwCl (rwW w0 t0 r0 w3 o0 w5 w6 w7 w8 w9 w10 w11 w12 ++ ltW t0 t1 cC T ++ plW o0 o1 o2 o3 cI ((readS T 200 0 (pZ O)).2) ++ rdW r0 r1 r2 cI (f2, g2, k2)) H := hP
  exact hret 15 _ hP hS dX9_fault_15 rfl rfl ⟨rfl, (f2, g2, k2), rfl, hf2, hg2, hpo⟩
