set_option maxHeartbeats 4000000 in
set_option maxRecDepth 100000 in
theorem k_X4_try0 (l : Launch) (D : va_G) (cI cC cB cS : ClassId) (r0 r1 r2 : Nat) (R : RO) (p0 p1 p2 p3 : Nat) (P : PL) (s0 s1 s2 s3 : Nat) (S : ST) (mm : Nat) (gg : Nat) (n : Nat) (hr : rOK R) (hp : pOK P) (hi : sHi S) (hmm : mm < 3) (hle : 0 ≤ S.2.1 mm ∧ S.2.1 mm < 100) (hpl : S.2.2.1 mm < pCells P) (hgn : gg + 0 = n) (hn5 : n ≤ 5) : CV l D (kT cI cC cB cS) yX4_tryFrom wsX4_tryFrom (rmX4_tryFrom 0) [.ref r0, .ref p0, .ref s0, .int (nI mm), .int (nI gg), .int (nI n)] (roW r0 r1 r2 cI R ++ plW p0 p1 p2 p3 cI P ++ stW s0 s1 s2 s3 cI S) (fun u => u = roW r0 r1 r2 cI (tryS P mm 0 gg R S) ++ plW p0 p1 p2 p3 cI P ++ stW s0 s1 s2 s3 cI S) := by
  refine cv_intro (by decide) rfl (Nat.le_of_ble_eq_true rfl) ?_
  intro p e s m args below meth c ls A QF hF hK hP hV hS hA hN hl hret
  obtain ⟨hx, hb, hml, hown, hts⟩ := id hF
  have hP : va_P D vwCl (roW r0 r1 r2 cI R ++ plW p0 p1 p2 p3 cI P ++ stW s0 s1 s2 s3 cI S) s.heap := hP
  have hl : lv_has ls 13 [(0, .ref r0), (1, .ref p0), (2, .ref s0), (3, .int (nI mm)), (4, .int (nI gg)), (5, .int (nI n))] := hl
  have hsm := nSum_le hi 24
  refine lv_iload (pc := 0) hx hb dX4_tryFrom_0 (lv_at hl 4 rfl) ?_
  refine r0_lt (pc := 2) (tgt := 22) hx hb (tI_nI (by omega)) dX4_tryFrom_2 (by decide) (fun c2 => ?_) (fun c2 => ?_)
  · omega
  · refine lv_iload (pc := 5) hx hb dX4_tryFrom_5 (lv_at hl 4 rfl) ?_
    refine lv_iload (pc := 7) hx hb dX4_tryFrom_7 (lv_at hl 5 rfl) ?_
    refine rc_ge (pc := 9) (tgt := 22) hx hb (tI_nI (by omega)) (tI_nI (by omega)) dX4_tryFrom_9 (by decide) (fun c9 => ?_) (fun c9 => ?_)
    · refine lv_aload_n (pc := 22) hx hb dX4_tryFrom_22 rfl (lv_at hl 0 rfl) ?_
      refine lv_aload_n (pc := 23) hx hb dX4_tryFrom_23 rfl (lv_at hl 2 rfl) ?_
      refine ci_Vd (pc := 24) (r0 := nI (nSum S.1 24)) hF hN hK hP hV hS hA (k_X8_sum l D cI cC cB cS s0 s1 s2 s3 S hi) (cwV 0 hts gX4_tryFrom_X8_sum rfl rfl rfl (by decide +kernel) ⟨Nat.le_of_ble_eq_true rfl, Nat.le_of_ble_eq_true rfl⟩) [7, 8, 9, 10] rfl (by decide) 0 8 rfl rfl rfl hl.1 rfl (Nat.le_of_ble_eq_true rfl) dX4_tryFrom_24 ⟨Nat.le_refl _, Nat.le_refl _⟩ rfl (ws2 := roW r0 r1 r2 cI R ++ plW p0 p1 p2 p3 cI P ++ stW s0 s1 s2 s3 cI S) rfl (fun H locs hP hS => ?_)
      refine cv_Vd (pc := 27) hF hN hK hP hV hS hA (k_X4_noteIfBetter l D cI cC cB cS r0 r1 r2 R (nSum S.1 24) hr (by omega)) (cwV 1 hts gX4_tryFrom_X4_noteIfBetter rfl rfl rfl (by decide +kernel) ⟨Nat.le_of_ble_eq_true rfl, Nat.le_of_ble_eq_true rfl⟩) [0, 1, 2] rfl (by decide) 0 4 rfl rfl rfl hl.1 rfl (Nat.le_of_ble_eq_true rfl) dX4_tryFrom_27 ⟨Nat.le_refl _, Nat.le_refl _⟩ rfl (ws2 := roW r0 r1 r2 cI (noteS R (nSum S.1 24)) ++ plW p0 p1 p2 p3 cI P ++ stW s0 s1 s2 s3 cI S) rfl (fun H locs hP hS => ?_)
      exact hret 30 _ hP hS dX4_tryFrom_30 rfl rfl
    · omega
