abbrev rmX4_least : Room := { frames := 30, cells := 0, slots := 0, locals := 700 }
set_option maxHeartbeats 4000000 in
set_option maxRecDepth 100000 in
theorem k_X4_least (l : Launch) (D : va_G) (cI cC cB cS : ClassId) (r0 r1 r2 : Nat) (R : RO) (p0 p1 p2 p3 : Nat) (P : PL) (s0 s1 s2 s3 : Nat) (S : ST) (mm : Nat) (n : Nat) (hp : pOK P) (hi : sHi S) (hmm : mm < 3) (hle : n ≤ S.2.1 mm ∧ S.2.1 mm < 100) (hpl : S.2.2.1 mm < pCells P) (hn5 : n ≤ 5) : CI l D (kT cI cC cB cS) yX4_least wsX4_least rmX4_least [.ref r0, .ref p0, .ref s0, .int (nI mm), .int (nI n)] (roW r0 r1 r2 cI R ++ plW p0 p1 p2 p3 cI P ++ stW s0 s1 s2 s3 cI S) (fun r u => r = jI ((tryS P mm n 0 (R.1, R.2.1, -4) S).2.2) ∧ u = roW r0 r1 r2 cI (tryS P mm n 0 (R.1, R.2.1, -4) S) ++ plW p0 p1 p2 p3 cI P ++ stW s0 s1 s2 s3 cI S) := by
  refine ci_intro (by decide) rfl (Nat.le_of_ble_eq_true rfl) ?_
  intro p e s m args below meth c ls A QF hF hK hP hV hS hA hN hl hret
  obtain ⟨hx, hb, hml, hown, hts⟩ := id hF
  have hP : va_P D vwCl (roW r0 r1 r2 cI R ++ plW p0 p1 p2 p3 cI P ++ stW s0 s1 s2 s3 cI S) s.heap := hP
  have hl : lv_has ls 5 [(0, .ref r0), (1, .ref p0), (2, .ref s0), (3, .int (nI mm)), (4, .int (nI n))] := hl
  have wf18 := hts (.fieldLink RX4 18 "RemorseWall$Rounds" "least" "I") (by decide +kernel)
  have hiX4 : ∀ w ∈ u_ws RX4 TX4 3, w ∈ wsX4_least := by decide +kernel
  refine lv_aload_n (pc := 0) hx hb dX4_least_0 rfl (lv_at hl 0 rfl) ?_
  refine lv_bipush (pc := 1) (v := jI (-4)) hx hb dX4_least_1 (by decide) ?_
  refine ra_put (pc := 3) (D := D) (ci := 4) (v := .int (jI (-4))) (ty := .int) (C := RX4) (T := TX4) (N := 3) (ws2 := roW r0 r1 r2 cI (R.1, R.2.1, -4) ++ plW p0 p1 p2 p3 cI P ++ stW s0 s1 s2 s3 cI S) hx hb hts hiX4 tyX4 tyX4_ok nmX4 hown hK hP hV hS 0 rfl rfl 2 (by decide) wf18 (fun _ h9 => h9) rfl (by decide +kernel) rfl rfl (Nat.le_of_ble_eq_true rfl) dX4_least_3 rfl rfl (fun H locs hP hS => ?_)
  refine lv_aload_n (pc := 6) hx hb dX4_least_6 rfl (lv_at hl 0 rfl) ?_
  refine lv_aload_n (pc := 7) hx hb dX4_least_7 rfl (lv_at hl 1 rfl) ?_
  refine lv_aload_n (pc := 8) hx hb dX4_least_8 rfl (lv_at hl 2 rfl) ?_
  refine lv_iload_n (pc := 9) hx hb dX4_least_9 rfl (lv_at hl 3 rfl) ?_
  refine lv_iconst (pc := 10) (v := nI 0) hx hb dX4_least_10 (by decide) ?_
  refine lv_iload (pc := 11) hx hb dX4_least_11 (lv_at hl 4 rfl) ?_
  refine cv_Sd (pc := 13) hF hN hK hP hV hS hA (k_X4_tryAll l D cI cC cB cS n r0 r1 r2 (R.1, R.2.1, -4) p0 p1 p2 p3 P s0 s1 s2 s3 S mm 0 n ⟨by show -4 ≤ (-4 : Int); omega, by show (-4 : Int) ≤ 1000; omega⟩ hp hi hmm hle hpl (by omega) hn5) (va_cwS 6 hts gX4_least_X4_tryFrom rfl rfl rfl (by decide +kernel) ⟨(by show 10 + n + 1 ≤ 30; omega), (by show 8 + (13 + 11) + (200 + 60 * n) ≤ 700; omega)⟩) [0, 1, 2, 3, 4, 5, 6, 7, 8, 9, 10] rfl (by decide) rfl hl.1 rfl (Nat.le_of_ble_eq_true rfl) dX4_least_13 ⟨Nat.le_refl _, Nat.le_refl _⟩ rfl (ws2 := roW r0 r1 r2 cI (tryS P mm n 0 (R.1, R.2.1, -4) S) ++ plW p0 p1 p2 p3 cI P ++ stW s0 s1 s2 s3 cI S) rfl (fun H locs hP hS => ?_)
  refine lv_aload_n (pc := 16) hx hb dX4_least_16 rfl (lv_at hl 0 rfl) ?_
  refine va_get (pc := 17) (D := D) (ci := 4) (v := .int (jI ((tryS P mm n 0 (R.1, R.2.1, -4) S).2.2))) (C := RX4) (T := TX4) (N := 3) hx hb hts hiX4 hown hK hP 0 rfl rfl 2 (by decide) wf18 (fun _ h9 => h9) rfl dX4_least_17 ?_
  exact hret 20 _ hP hS dX4_least_20 rfl rfl ⟨rfl, rfl⟩
