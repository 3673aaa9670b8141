abbrev rmX8_init : Room := { frames := 1, cells := 3, slots := 30, locals := 40 }
set_option maxHeartbeats 4000000 in
set_option maxRecDepth 100000 in
theorem k_X8_init (l : Launch) (D : va_G) (cI cC cB cS : ClassId) (a0 : Nat) : CZ l D (kT cI cC cB cS) yX8_init wsX8_init rmX8_init 3 30 [.ref a0] [(a0, .inr (8, [.null, .null, .null, .int (nI 0), .int (nI 0)]))] (fun u => ∃ q1 q2 q3 : Nat, u = [sE a0 q1 q2 q3 (zN, zN, zN, 0, 0), nE 24 q1 cI ((zN, zN, zN, 0, 0).1), nE 3 q2 cI ((zN, zN, zN, 0, 0).2.1), nE 3 q3 cI ((zN, zN, zN, 0, 0).2.2.1)]) := by
  refine cz_intro (by decide) rfl rfl (Nat.le_of_ble_eq_true rfl) ?_
  intro p e s m args below meth c ls A QF hF hin hK hP hD hS hA hN hl hret
  obtain ⟨hx, hb, hml, hown, hts⟩ := id hF
  have hP : va_P D vwCl ([(a0, .inr (8, [.null, .null, .null, .int (nI 0), .int (nI 0)]))]) s.heap := hP
  have hl : lv_has ls 1 [(0, .ref a0)] := hl
  have hiX8 : ∀ w ∈ u_ws RX8 TX8 5, w ∈ wsX8_init := by decide +kernel
  refine lv_aload_n (pc := 0) hx hb dX8_init_0 rfl (lv_at hl 0 rfl) ?_
  refine W.objInit hx hb hown (hts (.methodLink RX8 3 objectInit) (by decide +kernel)) (hts (.instanceMethod objectInit) (by decide +kernel)) (hts (.code objectInit ⟨#[0xb1]⟩ 1 none) (by decide +kernel)) rfl (by rw [hml]; exact hl.1) rfl dX8_init_1 (Nat.le_of_ble_eq_true rfl) (Nat.le_of_ble_eq_true rfl) ?_
  refine W.eq (g2 := F0 m 4 ls []) rfl ?_
  refine lv_aload_n (pc := 4) hx hb dX8_init_4 rfl (lv_at hl 0 rfl) ?_
  refine lv_bipush (pc := 5) (v := nI 24) hx hb dX8_init_5 (by decide) ?_
  refine rw_newi (pc := 7) hx hb (hts (.arrayClass .int) (by decide +kernel)) hK hP hD hS hA 0 rfl (by omega) (Nat.le_of_ble_eq_true rfl) (Nat.le_of_ble_eq_true rfl) dX8_init_7 (fun q1 H hP hD hS => ?_)
  have hP : va_P D vwCl ([(a0, .inr (8, [.null, .null, .null, .int (nI 0), .int (nI 0)])), (q1, .inl (cI, 24, .inl (fun _ => nI 0)))]) H := hP
  have hD : va_D A ([(a0, .inr (8, [.null, .null, .null, .int (nI 0), .int (nI 0)])), (q1, .inl (cI, 24, .inl (fun _ => nI 0)))]) := hD
  refine va_putF (D := D) (ci := 8) (v := .ref q1) (ty := .array .int) (C := RX8) (T := TX8) (N := 5) hx hb hts hiX8 tyX8 tyX8_ok nmX8 hown hK hP hD hS 0 rfl rfl 0 (by decide) (hts (.fieldLink RX8 9 "RemorseWall$Standing" "high" "[I") (by decide +kernel)) (fun _ h9 => h9) rfl hin rfl (by decide +kernel) rfl rfl (Nat.le_of_ble_eq_true rfl) dX8_init_9 (fun H locs hP hD hS => ?_)
  have hP : va_P D vwCl ([(a0, .inr (8, [.ref q1, .null, .null, .int (nI 0), .int (nI 0)])), (q1, .inl (cI, 24, .inl (fun _ => nI 0)))]) H := hP
  have hD : va_D A ([(a0, .inr (8, [.ref q1, .null, .null, .int (nI 0), .int (nI 0)])), (q1, .inl (cI, 24, .inl (fun _ => nI 0)))]) := hD
  refine lv_aload_n (pc := 12) hx hb dX8_init_12 rfl (lv_at hl 0 rfl) ?_
  refine lv_iconst (pc := 13) (v := nI 3) hx hb dX8_init_13 (by decide) ?_
  refine rw_newi (pc := 14) hx hb (hts (.arrayClass .int) (by decide +kernel)) hK hP hD hS hA 0 rfl (by omega) (Nat.le_of_ble_eq_true rfl) (Nat.le_of_ble_eq_true rfl) dX8_init_14 (fun q2 H hP hD hS => ?_)
  have hP : va_P D vwCl ([(a0, .inr (8, [.ref q1, .null, .null, .int (nI 0), .int (nI 0)])), (q1, .inl (cI, 24, .inl (fun _ => nI 0))), (q2, .inl (cI, 3, .inl (fun _ => nI 0)))]) H := hP
  have hD : va_D A ([(a0, .inr (8, [.ref q1, .null, .null, .int (nI 0), .int (nI 0)])), (q1, .inl (cI, 24, .inl (fun _ => nI 0))), (q2, .inl (cI, 3, .inl (fun _ => nI 0)))]) := hD
  refine va_putF (D := D) (ci := 8) (v := .ref q2) (ty := .array .int) (C := RX8) (T := TX8) (N := 5) hx hb hts hiX8 tyX8 tyX8_ok nmX8 hown hK hP hD hS 0 rfl rfl 1 (by decide) (hts (.fieldLink RX8 15 "RemorseWall$Standing" "left" "[I") (by decide +kernel)) (fun _ h9 => h9) rfl hin rfl (by decide +kernel) rfl rfl (Nat.le_of_ble_eq_true rfl) dX8_init_16 (fun H locs hP hD hS => ?_)
  have hP : va_P D vwCl ([(a0, .inr (8, [.ref q1, .ref q2, .null, .int (nI 0), .int (nI 0)])), (q1, .inl (cI, 24, .inl (fun _ => nI 0))), (q2, .inl (cI, 3, .inl (fun _ => nI 0)))]) H := hP
  have hD : va_D A ([(a0, .inr (8, [.ref q1, .ref q2, .null, .int (nI 0), .int (nI 0)])), (q1, .inl (cI, 24, .inl (fun _ => nI 0))), (q2, .inl (cI, 3, .inl (fun _ => nI 0)))]) := hD
  refine lv_aload_n (pc := 19) hx hb dX8_init_19 rfl (lv_at hl 0 rfl) ?_
  refine lv_iconst (pc := 20) (v := nI 3) hx hb dX8_init_20 (by decide) ?_
  refine rw_newi (pc := 21) hx hb (hts (.arrayClass .int) (by decide +kernel)) hK hP hD hS hA 0 rfl (by omega) (Nat.le_of_ble_eq_true rfl) (Nat.le_of_ble_eq_true rfl) dX8_init_21 (fun q3 H hP hD hS => ?_)
  have hP : va_P D vwCl ([(a0, .inr (8, [.ref q1, .ref q2, .null, .int (nI 0), .int (nI 0)])), (q1, .inl (cI, 24, .inl (fun _ => nI 0))), (q2, .inl (cI, 3, .inl (fun _ => nI 0))), (q3, .inl (cI, 3, .inl (fun _ => nI 0)))]) H := hP
  have hD : va_D A ([(a0, .inr (8, [.ref q1, .ref q2, .null, .int (nI 0), .int (nI 0)])), (q1, .inl (cI, 24, .inl (fun _ => nI 0))), (q2, .inl (cI, 3, .inl (fun _ => nI 0))), (q3, .inl (cI, 3, .inl (fun _ => nI 0)))]) := hD
  refine va_putF (D := D) (ci := 8) (v := .ref q3) (ty := .array .int) (C := RX8) (T := TX8) (N := 5) hx hb hts hiX8 tyX8 tyX8_ok nmX8 hown hK hP hD hS 0 rfl rfl 2 (by decide) (hts (.fieldLink RX8 18 "RemorseWall$Standing" "place" "[I") (by decide +kernel)) (fun _ h9 => h9) rfl hin rfl (by decide +kernel) rfl rfl (Nat.le_of_ble_eq_true rfl) dX8_init_23 (fun H locs hP hD hS => ?_)
  have hP : va_P D vwCl ([(a0, .inr (8, [.ref q1, .ref q2, .ref q3, .int (nI 0), .int (nI 0)])), (q1, .inl (cI, 24, .inl (fun _ => nI 0))), (q2, .inl (cI, 3, .inl (fun _ => nI 0))), (q3, .inl (cI, 3, .inl (fun _ => nI 0)))]) H := hP
  have hD : va_D A ([(a0, .inr (8, [.ref q1, .ref q2, .ref q3, .int (nI 0), .int (nI 0)])), (q1, .inl (cI, 24, .inl (fun _ => nI 0))), (q2, .inl (cI, 3, .inl (fun _ => nI 0))), (q3, .inl (cI, 3, .inl (fun _ => nI 0)))]) := hD
  refine lv_aload_n (pc := 26) hx hb dX8_init_26 rfl (lv_at hl 0 rfl) ?_
  refine lv_iconst (pc := 27) (v := nI 0) hx hb dX8_init_27 (by decide) ?_
  refine va_put (D := D) (ci := 8) (v := .int (nI 0)) (ty := .int) (C := RX8) (T := TX8) (N := 5) hx hb hts hiX8 tyX8 tyX8_ok nmX8 hown hK hP hD hS 0 rfl rfl 3 (by decide) (hts (.fieldLink RX8 21 "RemorseWall$Standing" "pardoned" "I") (by decide +kernel)) (fun _ h9 => h9) rfl (by decide +kernel) rfl rfl (Nat.le_of_ble_eq_true rfl) dX8_init_28 (fun H locs hP hD hS => ?_)
  have hP : va_P D vwCl ([(a0, .inr (8, [.ref q1, .ref q2, .ref q3, .int (nI 0), .int (nI 0)])), (q1, .inl (cI, 24, .inl (fun _ => nI 0))), (q2, .inl (cI, 3, .inl (fun _ => nI 0))), (q3, .inl (cI, 3, .inl (fun _ => nI 0)))]) H := hP
  have hD : va_D A ([(a0, .inr (8, [.ref q1, .ref q2, .ref q3, .int (nI 0), .int (nI 0)])), (q1, .inl (cI, 24, .inl (fun _ => nI 0))), (q2, .inl (cI, 3, .inl (fun _ => nI 0))), (q3, .inl (cI, 3, .inl (fun _ => nI 0)))]) := hD
  refine lv_aload_n (pc := 31) hx hb dX8_init_31 rfl (lv_at hl 0 rfl) ?_
  refine lv_iconst (pc := 32) (v := nI 0) hx hb dX8_init_32 (by decide) ?_
  refine va_put (D := D) (ci := 8) (v := .int (nI 0)) (ty := .int) (C := RX8) (T := TX8) (N := 5) hx hb hts hiX8 tyX8 tyX8_ok nmX8 hown hK hP hD hS 0 rfl rfl 4 (by decide) (hts (.fieldLink RX8 25 "RemorseWall$Standing" "year" "I") (by decide +kernel)) (fun _ h9 => h9) rfl (by decide +kernel) rfl rfl (Nat.le_of_ble_eq_true rfl) dX8_init_33 (fun H locs hP hD hS => ?_)
  have hP : va_P D vwCl ([(a0, .inr (8, [.ref q1, .ref q2, .ref q3, .int (nI 0), .int (nI 0)])), (q1, .inl (cI, 24, .inl (fun _ => nI 0))), (q2, .inl (cI, 3, .inl (fun _ => nI 0))), (q3, .inl (cI, 3, .inl (fun _ => nI 0)))]) H := hP
  have hD : va_D A ([(a0, .inr (8, [.ref q1, .ref q2, .ref q3, .int (nI 0), .int (nI 0)])), (q1, .inl (cI, 24, .inl (fun _ => nI 0))), (q2, .inl (cI, 3, .inl (fun _ => nI 0))), (q3, .inl (cI, 3, .inl (fun _ => nI 0)))]) := hD
  refine W.widen (k := 3) (n := 30) (by omega) (by omega) ?_
  exact hret 36 _ hP hD hS dX8_init_36 ⟨q1, q2, q3, rfl⟩
abbrev rmX2_init : Room := { frames := 1, cells := 3, slots := 60, locals := 40 }
set_option maxHeartbeats 4000000 in
set_option maxRecDepth 100000 in
theorem k_X2_init (l : Launch) (D : va_G) (cI cC cB cS : ClassId) (a0 : Nat) : CZ l D (kT cI cC cB cS) yX2_init wsX2_init rmX2_init 3 60 [.ref a0] [(a0, .inr (2, [.null, .null, .null, .int (nI 0), .int (nI 0), .int (nI 0), .int (nI 0)]))] (fun u => ∃ q1 q2 q3 : Nat, u = [plE a0 q1 q2 q3 (zN, zN, zN, 0, 0, 0, 0), nE 24 q1 cI ((zN, zN, zN, 0, 0, 0, 0).1), nE 24 q2 cI ((zN, zN, zN, 0, 0, 0, 0).2.1), nE 12 q3 cI ((zN, zN, zN, 0, 0, 0, 0).2.2.1)]) := by
  refine cz_intro (by decide) rfl rfl (Nat.le_of_ble_eq_true rfl) ?_
  intro p e s m args below meth c ls A QF hF hin hK hP hD hS hA hN hl hret
  obtain ⟨hx, hb, hml, hown, hts⟩ := id hF
  have hP : va_P D vwCl ([(a0, .inr (2, [.null, .null, .null, .int (nI 0), .int (nI 0), .int (nI 0), .int (nI 0)]))]) s.heap := hP
  have hl : lv_has ls 1 [(0, .ref a0)] := hl
  have hiX2 : ∀ w ∈ u_ws RX2 TX2 7, w ∈ wsX2_init := by decide +kernel
  refine lv_aload_n (pc := 0) hx hb dX2_init_0 rfl (lv_at hl 0 rfl) ?_
  refine W.objInit hx hb hown (hts (.methodLink RX2 3 objectInit) (by decide +kernel)) (hts (.instanceMethod objectInit) (by decide +kernel)) (hts (.code objectInit ⟨#[0xb1]⟩ 1 none) (by decide +kernel)) rfl (by rw [hml]; exact hl.1) rfl dX2_init_1 (Nat.le_of_ble_eq_true rfl) (Nat.le_of_ble_eq_true rfl) ?_
  refine W.eq (g2 := F0 m 4 ls []) rfl ?_
  refine lv_aload_n (pc := 4) hx hb dX2_init_4 rfl (lv_at hl 0 rfl) ?_
  refine lv_bipush (pc := 5) (v := nI 24) hx hb dX2_init_5 (by decide) ?_
  refine rw_newi (pc := 7) hx hb (hts (.arrayClass .int) (by decide +kernel)) hK hP hD hS hA 0 rfl (by omega) (Nat.le_of_ble_eq_true rfl) (Nat.le_of_ble_eq_true rfl) dX2_init_7 (fun q1 H hP hD hS => ?_)
  have hP : va_P D vwCl ([(a0, .inr (2, [.null, .null, .null, .int (nI 0), .int (nI 0), .int (nI 0), .int (nI 0)])), (q1, .inl (cI, 24, .inl (fun _ => nI 0)))]) H := hP
  have hD : va_D A ([(a0, .inr (2, [.null, .null, .null, .int (nI 0), .int (nI 0), .int (nI 0), .int (nI 0)])), (q1, .inl (cI, 24, .inl (fun _ => nI 0)))]) := hD
  refine va_putF (D := D) (ci := 2) (v := .ref q1) (ty := .array .int) (C := RX2) (T := TX2) (N := 7) hx hb hts hiX2 tyX2 tyX2_ok nmX2 hown hK hP hD hS 0 rfl rfl 0 (by decide) (hts (.fieldLink RX2 9 "RemorseWall$Plan" "firstHigh" "[I") (by decide +kernel)) (fun _ h9 => h9) rfl hin rfl (by decide +kernel) rfl rfl (Nat.le_of_ble_eq_true rfl) dX2_init_9 (fun H locs hP hD hS => ?_)
  have hP : va_P D vwCl ([(a0, .inr (2, [.ref q1, .null, .null, .int (nI 0), .int (nI 0), .int (nI 0), .int (nI 0)])), (q1, .inl (cI, 24, .inl (fun _ => nI 0)))]) H := hP
  have hD : va_D A ([(a0, .inr (2, [.ref q1, .null, .null, .int (nI 0), .int (nI 0), .int (nI 0), .int (nI 0)])), (q1, .inl (cI, 24, .inl (fun _ => nI 0)))]) := hD
  refine lv_aload_n (pc := 12) hx hb dX2_init_12 rfl (lv_at hl 0 rfl) ?_
  refine lv_bipush (pc := 13) (v := nI 24) hx hb dX2_init_13 (by decide) ?_
  refine rw_newi (pc := 15) hx hb (hts (.arrayClass .int) (by decide +kernel)) hK hP hD hS hA 0 rfl (by omega) (Nat.le_of_ble_eq_true rfl) (Nat.le_of_ble_eq_true rfl) dX2_init_15 (fun q2 H hP hD hS => ?_)
  have hP : va_P D vwCl ([(a0, .inr (2, [.ref q1, .null, .null, .int (nI 0), .int (nI 0), .int (nI 0), .int (nI 0)])), (q1, .inl (cI, 24, .inl (fun _ => nI 0))), (q2, .inl (cI, 24, .inl (fun _ => nI 0)))]) H := hP
  have hD : va_D A ([(a0, .inr (2, [.ref q1, .null, .null, .int (nI 0), .int (nI 0), .int (nI 0), .int (nI 0)])), (q1, .inl (cI, 24, .inl (fun _ => nI 0))), (q2, .inl (cI, 24, .inl (fun _ => nI 0)))]) := hD
  refine va_putF (D := D) (ci := 2) (v := .ref q2) (ty := .array .int) (C := RX2) (T := TX2) (N := 7) hx hb hts hiX2 tyX2 tyX2_ok nmX2 hown hK hP hD hS 0 rfl rfl 1 (by decide) (hts (.fieldLink RX2 15 "RemorseWall$Plan" "cases" "[I") (by decide +kernel)) (fun _ h9 => h9) rfl hin rfl (by decide +kernel) rfl rfl (Nat.le_of_ble_eq_true rfl) dX2_init_17 (fun H locs hP hD hS => ?_)
  have hP : va_P D vwCl ([(a0, .inr (2, [.ref q1, .ref q2, .null, .int (nI 0), .int (nI 0), .int (nI 0), .int (nI 0)])), (q1, .inl (cI, 24, .inl (fun _ => nI 0))), (q2, .inl (cI, 24, .inl (fun _ => nI 0)))]) H := hP
  have hD : va_D A ([(a0, .inr (2, [.ref q1, .ref q2, .null, .int (nI 0), .int (nI 0), .int (nI 0), .int (nI 0)])), (q1, .inl (cI, 24, .inl (fun _ => nI 0))), (q2, .inl (cI, 24, .inl (fun _ => nI 0)))]) := hD
  refine lv_aload_n (pc := 20) hx hb dX2_init_20 rfl (lv_at hl 0 rfl) ?_
  refine lv_bipush (pc := 21) (v := nI 12) hx hb dX2_init_21 (by decide) ?_
  refine rw_newi (pc := 23) hx hb (hts (.arrayClass .int) (by decide +kernel)) hK hP hD hS hA 0 rfl (by omega) (Nat.le_of_ble_eq_true rfl) (Nat.le_of_ble_eq_true rfl) dX2_init_23 (fun q3 H hP hD hS => ?_)
  have hP : va_P D vwCl ([(a0, .inr (2, [.ref q1, .ref q2, .null, .int (nI 0), .int (nI 0), .int (nI 0), .int (nI 0)])), (q1, .inl (cI, 24, .inl (fun _ => nI 0))), (q2, .inl (cI, 24, .inl (fun _ => nI 0))), (q3, .inl (cI, 12, .inl (fun _ => nI 0)))]) H := hP
  have hD : va_D A ([(a0, .inr (2, [.ref q1, .ref q2, .null, .int (nI 0), .int (nI 0), .int (nI 0), .int (nI 0)])), (q1, .inl (cI, 24, .inl (fun _ => nI 0))), (q2, .inl (cI, 24, .inl (fun _ => nI 0))), (q3, .inl (cI, 12, .inl (fun _ => nI 0)))]) := hD
  refine va_putF (D := D) (ci := 2) (v := .ref q3) (ty := .array .int) (C := RX2) (T := TX2) (N := 7) hx hb hts hiX2 tyX2 tyX2_ok nmX2 hown hK hP hD hS 0 rfl rfl 2 (by decide) (hts (.fieldLink RX2 18 "RemorseWall$Plan" "maids" "[I") (by decide +kernel)) (fun _ h9 => h9) rfl hin rfl (by decide +kernel) rfl rfl (Nat.le_of_ble_eq_true rfl) dX2_init_25 (fun H locs hP hD hS => ?_)
  have hP : va_P D vwCl ([(a0, .inr (2, [.ref q1, .ref q2, .ref q3, .int (nI 0), .int (nI 0), .int (nI 0), .int (nI 0)])), (q1, .inl (cI, 24, .inl (fun _ => nI 0))), (q2, .inl (cI, 24, .inl (fun _ => nI 0))), (q3, .inl (cI, 12, .inl (fun _ => nI 0)))]) H := hP
  have hD : va_D A ([(a0, .inr (2, [.ref q1, .ref q2, .ref q3, .int (nI 0), .int (nI 0), .int (nI 0), .int (nI 0)])), (q1, .inl (cI, 24, .inl (fun _ => nI 0))), (q2, .inl (cI, 24, .inl (fun _ => nI 0))), (q3, .inl (cI, 12, .inl (fun _ => nI 0)))]) := hD
  refine lv_aload_n (pc := 28) hx hb dX2_init_28 rfl (lv_at hl 0 rfl) ?_
  refine lv_iconst (pc := 29) (v := nI 0) hx hb dX2_init_29 (by decide) ?_
  refine va_put (D := D) (ci := 2) (v := .int (nI 0)) (ty := .int) (C := RX2) (T := TX2) (N := 7) hx hb hts hiX2 tyX2 tyX2_ok nmX2 hown hK hP hD hS 0 rfl rfl 3 (by decide) (hts (.fieldLink RX2 21 "RemorseWall$Plan" "width" "I") (by decide +kernel)) (fun _ h9 => h9) rfl (by decide +kernel) rfl rfl (Nat.le_of_ble_eq_true rfl) dX2_init_30 (fun H locs hP hD hS => ?_)
  have hP : va_P D vwCl ([(a0, .inr (2, [.ref q1, .ref q2, .ref q3, .int (nI 0), .int (nI 0), .int (nI 0), .int (nI 0)])), (q1, .inl (cI, 24, .inl (fun _ => nI 0))), (q2, .inl (cI, 24, .inl (fun _ => nI 0))), (q3, .inl (cI, 12, .inl (fun _ => nI 0)))]) H := hP
  have hD : va_D A ([(a0, .inr (2, [.ref q1, .ref q2, .ref q3, .int (nI 0), .int (nI 0), .int (nI 0), .int (nI 0)])), (q1, .inl (cI, 24, .inl (fun _ => nI 0))), (q2, .inl (cI, 24, .inl (fun _ => nI 0))), (q3, .inl (cI, 12, .inl (fun _ => nI 0)))]) := hD
  refine lv_aload_n (pc := 33) hx hb dX2_init_33 rfl (lv_at hl 0 rfl) ?_
  refine lv_iconst (pc := 34) (v := nI 0) hx hb dX2_init_34 (by decide) ?_
  refine va_put (D := D) (ci := 2) (v := .int (nI 0)) (ty := .int) (C := RX2) (T := TX2) (N := 7) hx hb hts hiX2 tyX2 tyX2_ok nmX2 hown hK hP hD hS 0 rfl rfl 4 (by decide) (hts (.fieldLink RX2 25 "RemorseWall$Plan" "rows" "I") (by decide +kernel)) (fun _ h9 => h9) rfl (by decide +kernel) rfl rfl (Nat.le_of_ble_eq_true rfl) dX2_init_35 (fun H locs hP hD hS => ?_)
  have hP : va_P D vwCl ([(a0, .inr (2, [.ref q1, .ref q2, .ref q3, .int (nI 0), .int (nI 0), .int (nI 0), .int (nI 0)])), (q1, .inl (cI, 24, .inl (fun _ => nI 0))), (q2, .inl (cI, 24, .inl (fun _ => nI 0))), (q3, .inl (cI, 12, .inl (fun _ => nI 0)))]) H := hP
  have hD : va_D A ([(a0, .inr (2, [.ref q1, .ref q2, .ref q3, .int (nI 0), .int (nI 0), .int (nI 0), .int (nI 0)])), (q1, .inl (cI, 24, .inl (fun _ => nI 0))), (q2, .inl (cI, 24, .inl (fun _ => nI 0))), (q3, .inl (cI, 12, .inl (fun _ => nI 0)))]) := hD
  refine lv_aload_n (pc := 38) hx hb dX2_init_38 rfl (lv_at hl 0 rfl) ?_
  refine lv_iconst (pc := 39) (v := nI 0) hx hb dX2_init_39 (by decide) ?_
  refine va_put (D := D) (ci := 2) (v := .int (nI 0)) (ty := .int) (C := RX2) (T := TX2) (N := 7) hx hb hts hiX2 tyX2 tyX2_ok nmX2 hown hK hP hD hS 0 rfl rfl 5 (by decide) (hts (.fieldLink RX2 28 "RemorseWall$Plan" "caseCount" "I") (by decide +kernel)) (fun _ h9 => h9) rfl (by decide +kernel) rfl rfl (Nat.le_of_ble_eq_true rfl) dX2_init_40 (fun H locs hP hD hS => ?_)
  have hP : va_P D vwCl ([(a0, .inr (2, [.ref q1, .ref q2, .ref q3, .int (nI 0), .int (nI 0), .int (nI 0), .int (nI 0)])), (q1, .inl (cI, 24, .inl (fun _ => nI 0))), (q2, .inl (cI, 24, .inl (fun _ => nI 0))), (q3, .inl (cI, 12, .inl (fun _ => nI 0)))]) H := hP
  have hD : va_D A ([(a0, .inr (2, [.ref q1, .ref q2, .ref q3, .int (nI 0), .int (nI 0), .int (nI 0), .int (nI 0)])), (q1, .inl (cI, 24, .inl (fun _ => nI 0))), (q2, .inl (cI, 24, .inl (fun _ => nI 0))), (q3, .inl (cI, 12, .inl (fun _ => nI 0)))]) := hD
  refine lv_aload_n (pc := 43) hx hb dX2_init_43 rfl (lv_at hl 0 rfl) ?_
  refine lv_iconst (pc := 44) (v := nI 0) hx hb dX2_init_44 (by decide) ?_
  refine va_put (D := D) (ci := 2) (v := .int (nI 0)) (ty := .int) (C := RX2) (T := TX2) (N := 7) hx hb hts hiX2 tyX2 tyX2_ok nmX2 hown hK hP hD hS 0 rfl rfl 6 (by decide) (hts (.fieldLink RX2 31 "RemorseWall$Plan" "maidCount" "I") (by decide +kernel)) (fun _ h9 => h9) rfl (by decide +kernel) rfl rfl (Nat.le_of_ble_eq_true rfl) dX2_init_45 (fun H locs hP hD hS => ?_)
  have hP : va_P D vwCl ([(a0, .inr (2, [.ref q1, .ref q2, .ref q3, .int (nI 0), .int (nI 0), .int (nI 0), .int (nI 0)])), (q1, .inl (cI, 24, .inl (fun _ => nI 0))), (q2, .inl (cI, 24, .inl (fun _ => nI 0))), (q3, .inl (cI, 12, .inl (fun _ => nI 0)))]) H := hP
  have hD : va_D A ([(a0, .inr (2, [.ref q1, .ref q2, .ref q3, .int (nI 0), .int (nI 0), .int (nI 0), .int (nI 0)])), (q1, .inl (cI, 24, .inl (fun _ => nI 0))), (q2, .inl (cI, 24, .inl (fun _ => nI 0))), (q3, .inl (cI, 12, .inl (fun _ => nI 0)))]) := hD
  refine W.widen (k := 3) (n := 60) (by omega) (by omega) ?_
  exact hret 48 _ hP hD hS dX2_init_48 ⟨q1, q2, q3, rfl⟩
abbrev rmX0_init : Room := { frames := 1, cells := 1, slots := 200, locals := 40 }
set_option maxHeartbeats 4000000 in
set_option maxRecDepth 100000 in
theorem k_X0_init (l : Launch) (D : va_G) (cI cC cB cS : ClassId) (a0 : Nat) : CZ l D (kT cI cC cB cS) yX0_init wsX0_init rmX0_init 1 200 [.ref a0] [(a0, .inr (0, [.null, .int (nI 0)]))] (fun u => ∃ q1 : Nat, u = [ltE a0 q1 (zN, 0), nE 200 q1 cC ((zN, 0).1)]) := by
  refine cz_intro (by decide) rfl rfl (Nat.le_of_ble_eq_true rfl) ?_
  intro p e s m args below meth c ls A QF hF hin hK hP hD hS hA hN hl hret
  obtain ⟨hx, hb, hml, hown, hts⟩ := id hF
  have hP : va_P D vwCl ([(a0, .inr (0, [.null, .int (nI 0)]))]) s.heap := hP
  have hl : lv_has ls 1 [(0, .ref a0)] := hl
  have hiX0 : ∀ w ∈ u_ws RX0 TX0 2, w ∈ wsX0_init := by decide +kernel
  refine lv_aload_n (pc := 0) hx hb dX0_init_0 rfl (lv_at hl 0 rfl) ?_
  refine W.objInit hx hb hown (hts (.methodLink RX0 3 objectInit) (by decide +kernel)) (hts (.instanceMethod objectInit) (by decide +kernel)) (hts (.code objectInit ⟨#[0xb1]⟩ 1 none) (by decide +kernel)) rfl (by rw [hml]; exact hl.1) rfl dX0_init_1 (Nat.le_of_ble_eq_true rfl) (Nat.le_of_ble_eq_true rfl) ?_
  refine W.eq (g2 := F0 m 4 ls []) rfl ?_
  refine lv_aload_n (pc := 4) hx hb dX0_init_4 rfl (lv_at hl 0 rfl) ?_
  refine lv_sipush (pc := 5) (v := nI 200) hx hb dX0_init_5 (by decide) ?_
  refine rw_newc (pc := 8) hx hb (hts (.arrayClass .char) (by decide +kernel)) hK hP hD hS hA 1 rfl (by omega) (Nat.le_of_ble_eq_true rfl) (Nat.le_of_ble_eq_true rfl) dX0_init_8 (fun q1 H hP hD hS => ?_)
  have hP : va_P D vwCl ([(a0, .inr (0, [.null, .int (nI 0)])), (q1, .inl (cC, 200, .inl (fun _ => nI 0)))]) H := hP
  have hD : va_D A ([(a0, .inr (0, [.null, .int (nI 0)])), (q1, .inl (cC, 200, .inl (fun _ => nI 0)))]) := hD
  refine va_putF (D := D) (ci := 0) (v := .ref q1) (ty := .array .char) (C := RX0) (T := TX0) (N := 2) hx hb hts hiX0 tyX0 tyX0_ok nmX0 hown hK hP hD hS 0 rfl rfl 0 (by decide) (hts (.fieldLink RX0 9 "RemorseWall$Letters" "letters" "[C") (by decide +kernel)) (fun _ h9 => h9) rfl hin rfl (by decide +kernel) rfl rfl (Nat.le_of_ble_eq_true rfl) dX0_init_10 (fun H locs hP hD hS => ?_)
  have hP : va_P D vwCl ([(a0, .inr (0, [.ref q1, .int (nI 0)])), (q1, .inl (cC, 200, .inl (fun _ => nI 0)))]) H := hP
  have hD : va_D A ([(a0, .inr (0, [.ref q1, .int (nI 0)])), (q1, .inl (cC, 200, .inl (fun _ => nI 0)))]) := hD
  refine lv_aload_n (pc := 13) hx hb dX0_init_13 rfl (lv_at hl 0 rfl) ?_
  refine lv_iconst (pc := 14) (v := nI 0) hx hb dX0_init_14 (by decide) ?_
  refine va_put (D := D) (ci := 0) (v := .int (nI 0)) (ty := .int) (C := RX0) (T := TX0) (N := 2) hx hb hts hiX0 tyX0 tyX0_ok nmX0 hown hK hP hD hS 0 rfl rfl 1 (by decide) (hts (.fieldLink RX0 15 "RemorseWall$Letters" "size" "I") (by decide +kernel)) (fun _ h9 => h9) rfl (by decide +kernel) rfl rfl (Nat.le_of_ble_eq_true rfl) dX0_init_15 (fun H locs hP hD hS => ?_)
  have hP : va_P D vwCl ([(a0, .inr (0, [.ref q1, .int (nI 0)])), (q1, .inl (cC, 200, .inl (fun _ => nI 0)))]) H := hP
  have hD : va_D A ([(a0, .inr (0, [.ref q1, .int (nI 0)])), (q1, .inl (cC, 200, .inl (fun _ => nI 0)))]) := hD
  refine W.widen (k := 1) (n := 200) (by omega) (by omega) ?_
  exact hret 18 _ hP hD hS dX0_init_18 ⟨q1, rfl⟩
abbrev rmX3_init : Room := { frames := 1, cells := 2, slots := 10, locals := 40 }
set_option maxHeartbeats 4000000 in
set_option maxRecDepth 100000 in
theorem k_X3_init (l : Launch) (D : va_G) (cI cC cB cS : ClassId) (a0 : Nat) : CZ l D (kT cI cC cB cS) yX3_init wsX3_init rmX3_init 2 10 [.ref a0] [(a0, .inr (3, [.null, .null, .int (nI 0)]))] (fun u => ∃ q1 q2 : Nat, u = [rdE a0 q1 q2 (zN, zN, 0), nE 4 q1 cI ((zN, zN, 0).1), nE 6 q2 cI ((zN, zN, 0).2.1)]) := by
  refine cz_intro (by decide) rfl rfl (Nat.le_of_ble_eq_true rfl) ?_
  intro p e s m args below meth c ls A QF hF hin hK hP hD hS hA hN hl hret
  obtain ⟨hx, hb, hml, hown, hts⟩ := id hF
  have hP : va_P D vwCl ([(a0, .inr (3, [.null, .null, .int (nI 0)]))]) s.heap := hP
  have hl : lv_has ls 1 [(0, .ref a0)] := hl
  have hiX3 : ∀ w ∈ u_ws RX3 TX3 3, w ∈ wsX3_init := by decide +kernel
  refine lv_aload_n (pc := 0) hx hb dX3_init_0 rfl (lv_at hl 0 rfl) ?_
  refine W.objInit hx hb hown (hts (.methodLink RX3 3 objectInit) (by decide +kernel)) (hts (.instanceMethod objectInit) (by decide +kernel)) (hts (.code objectInit ⟨#[0xb1]⟩ 1 none) (by decide +kernel)) rfl (by rw [hml]; exact hl.1) rfl dX3_init_1 (Nat.le_of_ble_eq_true rfl) (Nat.le_of_ble_eq_true rfl) ?_
  refine W.eq (g2 := F0 m 4 ls []) rfl ?_
  refine lv_aload_n (pc := 4) hx hb dX3_init_4 rfl (lv_at hl 0 rfl) ?_
  refine lv_iconst (pc := 5) (v := nI 4) hx hb dX3_init_5 (by decide) ?_
  refine rw_newi (pc := 6) hx hb (hts (.arrayClass .int) (by decide +kernel)) hK hP hD hS hA 0 rfl (by omega) (Nat.le_of_ble_eq_true rfl) (Nat.le_of_ble_eq_true rfl) dX3_init_6 (fun q1 H hP hD hS => ?_)
  have hP : va_P D vwCl ([(a0, .inr (3, [.null, .null, .int (nI 0)])), (q1, .inl (cI, 4, .inl (fun _ => nI 0)))]) H := hP
  have hD : va_D A ([(a0, .inr (3, [.null, .null, .int (nI 0)])), (q1, .inl (cI, 4, .inl (fun _ => nI 0)))]) := hD
  refine va_putF (D := D) (ci := 3) (v := .ref q1) (ty := .array .int) (C := RX3) (T := TX3) (N := 3) hx hb hts hiX3 tyX3 tyX3_ok nmX3 hown hK hP hD hS 0 rfl rfl 0 (by decide) (hts (.fieldLink RX3 9 "RemorseWall$Reader" "numbers" "[I") (by decide +kernel)) (fun _ h9 => h9) rfl hin rfl (by decide +kernel) rfl rfl (Nat.le_of_ble_eq_true rfl) dX3_init_8 (fun H locs hP hD hS => ?_)
  have hP : va_P D vwCl ([(a0, .inr (3, [.ref q1, .null, .int (nI 0)])), (q1, .inl (cI, 4, .inl (fun _ => nI 0)))]) H := hP
  have hD : va_D A ([(a0, .inr (3, [.ref q1, .null, .int (nI 0)])), (q1, .inl (cI, 4, .inl (fun _ => nI 0)))]) := hD
  refine lv_aload_n (pc := 11) hx hb dX3_init_11 rfl (lv_at hl 0 rfl) ?_
  refine lv_bipush (pc := 12) (v := nI 6) hx hb dX3_init_12 (by decide) ?_
  refine rw_newi (pc := 14) hx hb (hts (.arrayClass .int) (by decide +kernel)) hK hP hD hS hA 0 rfl (by omega) (Nat.le_of_ble_eq_true rfl) (Nat.le_of_ble_eq_true rfl) dX3_init_14 (fun q2 H hP hD hS => ?_)
  have hP : va_P D vwCl ([(a0, .inr (3, [.ref q1, .null, .int (nI 0)])), (q1, .inl (cI, 4, .inl (fun _ => nI 0))), (q2, .inl (cI, 6, .inl (fun _ => nI 0)))]) H := hP
  have hD : va_D A ([(a0, .inr (3, [.ref q1, .null, .int (nI 0)])), (q1, .inl (cI, 4, .inl (fun _ => nI 0))), (q2, .inl (cI, 6, .inl (fun _ => nI 0)))]) := hD
  refine va_putF (D := D) (ci := 3) (v := .ref q2) (ty := .array .int) (C := RX3) (T := TX3) (N := 3) hx hb hts hiX3 tyX3 tyX3_ok nmX3 hown hK hP hD hS 0 rfl rfl 1 (by decide) (hts (.fieldLink RX3 15 "RemorseWall$Reader" "row" "[I") (by decide +kernel)) (fun _ h9 => h9) rfl hin rfl (by decide +kernel) rfl rfl (Nat.le_of_ble_eq_true rfl) dX3_init_16 (fun H locs hP hD hS => ?_)
  have hP : va_P D vwCl ([(a0, .inr (3, [.ref q1, .ref q2, .int (nI 0)])), (q1, .inl (cI, 4, .inl (fun _ => nI 0))), (q2, .inl (cI, 6, .inl (fun _ => nI 0)))]) H := hP
  have hD : va_D A ([(a0, .inr (3, [.ref q1, .ref q2, .int (nI 0)])), (q1, .inl (cI, 4, .inl (fun _ => nI 0))), (q2, .inl (cI, 6, .inl (fun _ => nI 0)))]) := hD
  refine lv_aload_n (pc := 19) hx hb dX3_init_19 rfl (lv_at hl 0 rfl) ?_
  refine lv_iconst (pc := 20) (v := nI 0) hx hb dX3_init_20 (by decide) ?_
  refine va_put (D := D) (ci := 3) (v := .int (nI 0)) (ty := .int) (C := RX3) (T := TX3) (N := 3) hx hb hts hiX3 tyX3 tyX3_ok nmX3 hown hK hP hD hS 0 rfl rfl 2 (by decide) (hts (.fieldLink RX3 18 "RemorseWall$Reader" "place" "I") (by decide +kernel)) (fun _ h9 => h9) rfl (by decide +kernel) rfl rfl (Nat.le_of_ble_eq_true rfl) dX3_init_21 (fun H locs hP hD hS => ?_)
  have hP : va_P D vwCl ([(a0, .inr (3, [.ref q1, .ref q2, .int (nI 0)])), (q1, .inl (cI, 4, .inl (fun _ => nI 0))), (q2, .inl (cI, 6, .inl (fun _ => nI 0)))]) H := hP
  have hD : va_D A ([(a0, .inr (3, [.ref q1, .ref q2, .int (nI 0)])), (q1, .inl (cI, 4, .inl (fun _ => nI 0))), (q2, .inl (cI, 6, .inl (fun _ => nI 0)))]) := hD
  refine W.widen (k := 2) (n := 10) (by omega) (by omega) ?_
  exact hret 24 _ hP hD hS dX3_init_24 ⟨q1, q2, rfl⟩
abbrev rmX6_init : Room := { frames := 1, cells := 2, slots := 16, locals := 40 }
set_option maxHeartbeats 4000000 in
set_option maxRecDepth 100000 in
theorem k_X6_init (l : Launch) (D : va_G) (cI cC cB cS : ClassId) (a0 : Nat) : CZ l D (kT cI cC cB cS) yX6_init wsX6_init rmX6_init 2 16 [.ref a0] [(a0, .inr (6, [.null, .null, .int (nI 0)]))] (fun u => ∃ q1 q2 : Nat, u = [sgE a0 q1 q2 (zN, zN, 0), nE 8 q1 cI ((zN, zN, 0).1), nE 8 q2 cI ((zN, zN, 0).2.1)]) := by
  refine cz_intro (by decide) rfl rfl (Nat.le_of_ble_eq_true rfl) ?_
  intro p e s m args below meth c ls A QF hF hin hK hP hD hS hA hN hl hret
  obtain ⟨hx, hb, hml, hown, hts⟩ := id hF
  have hP : va_P D vwCl ([(a0, .inr (6, [.null, .null, .int (nI 0)]))]) s.heap := hP
  have hl : lv_has ls 1 [(0, .ref a0)] := hl
  have hiX6 : ∀ w ∈ u_ws RX6 TX6 3, w ∈ wsX6_init := by decide +kernel
  refine lv_aload_n (pc := 0) hx hb dX6_init_0 rfl (lv_at hl 0 rfl) ?_
  refine W.objInit hx hb hown (hts (.methodLink RX6 3 objectInit) (by decide +kernel)) (hts (.instanceMethod objectInit) (by decide +kernel)) (hts (.code objectInit ⟨#[0xb1]⟩ 1 none) (by decide +kernel)) rfl (by rw [hml]; exact hl.1) rfl dX6_init_1 (Nat.le_of_ble_eq_true rfl) (Nat.le_of_ble_eq_true rfl) ?_
  refine W.eq (g2 := F0 m 4 ls []) rfl ?_
  refine lv_aload_n (pc := 4) hx hb dX6_init_4 rfl (lv_at hl 0 rfl) ?_
  refine lv_bipush (pc := 5) (v := nI 8) hx hb dX6_init_5 (by decide) ?_
  refine rw_newi (pc := 7) hx hb (hts (.arrayClass .int) (by decide +kernel)) hK hP hD hS hA 0 rfl (by omega) (Nat.le_of_ble_eq_true rfl) (Nat.le_of_ble_eq_true rfl) dX6_init_7 (fun q1 H hP hD hS => ?_)
  have hP : va_P D vwCl ([(a0, .inr (6, [.null, .null, .int (nI 0)])), (q1, .inl (cI, 8, .inl (fun _ => nI 0)))]) H := hP
  have hD : va_D A ([(a0, .inr (6, [.null, .null, .int (nI 0)])), (q1, .inl (cI, 8, .inl (fun _ => nI 0)))]) := hD
  refine va_putF (D := D) (ci := 6) (v := .ref q1) (ty := .array .int) (C := RX6) (T := TX6) (N := 3) hx hb hts hiX6 tyX6 tyX6_ok nmX6 hown hK hP hD hS 0 rfl rfl 0 (by decide) (hts (.fieldLink RX6 9 "RemorseWall$Sightings" "cells" "[I") (by decide +kernel)) (fun _ h9 => h9) rfl hin rfl (by decide +kernel) rfl rfl (Nat.le_of_ble_eq_true rfl) dX6_init_9 (fun H locs hP hD hS => ?_)
  have hP : va_P D vwCl ([(a0, .inr (6, [.ref q1, .null, .int (nI 0)])), (q1, .inl (cI, 8, .inl (fun _ => nI 0)))]) H := hP
  have hD : va_D A ([(a0, .inr (6, [.ref q1, .null, .int (nI 0)])), (q1, .inl (cI, 8, .inl (fun _ => nI 0)))]) := hD
  refine lv_aload_n (pc := 12) hx hb dX6_init_12 rfl (lv_at hl 0 rfl) ?_
  refine lv_bipush (pc := 13) (v := nI 8) hx hb dX6_init_13 (by decide) ?_
  refine rw_newi (pc := 15) hx hb (hts (.arrayClass .int) (by decide +kernel)) hK hP hD hS hA 0 rfl (by omega) (Nat.le_of_ble_eq_true rfl) (Nat.le_of_ble_eq_true rfl) dX6_init_15 (fun q2 H hP hD hS => ?_)
  have hP : va_P D vwCl ([(a0, .inr (6, [.ref q1, .null, .int (nI 0)])), (q1, .inl (cI, 8, .inl (fun _ => nI 0))), (q2, .inl (cI, 8, .inl (fun _ => nI 0)))]) H := hP
  have hD : va_D A ([(a0, .inr (6, [.ref q1, .null, .int (nI 0)])), (q1, .inl (cI, 8, .inl (fun _ => nI 0))), (q2, .inl (cI, 8, .inl (fun _ => nI 0)))]) := hD
  refine va_putF (D := D) (ci := 6) (v := .ref q2) (ty := .array .int) (C := RX6) (T := TX6) (N := 3) hx hb hts hiX6 tyX6 tyX6_ok nmX6 hown hK hP hD hS 0 rfl rfl 1 (by decide) (hts (.fieldLink RX6 15 "RemorseWall$Sightings" "highs" "[I") (by decide +kernel)) (fun _ h9 => h9) rfl hin rfl (by decide +kernel) rfl rfl (Nat.le_of_ble_eq_true rfl) dX6_init_17 (fun H locs hP hD hS => ?_)
  have hP : va_P D vwCl ([(a0, .inr (6, [.ref q1, .ref q2, .int (nI 0)])), (q1, .inl (cI, 8, .inl (fun _ => nI 0))), (q2, .inl (cI, 8, .inl (fun _ => nI 0)))]) H := hP
  have hD : va_D A ([(a0, .inr (6, [.ref q1, .ref q2, .int (nI 0)])), (q1, .inl (cI, 8, .inl (fun _ => nI 0))), (q2, .inl (cI, 8, .inl (fun _ => nI 0)))]) := hD
  refine lv_aload_n (pc := 20) hx hb dX6_init_20 rfl (lv_at hl 0 rfl) ?_
  refine lv_iconst (pc := 21) (v := nI 0) hx hb dX6_init_21 (by decide) ?_
  refine va_put (D := D) (ci := 6) (v := .int (nI 0)) (ty := .int) (C := RX6) (T := TX6) (N := 3) hx hb hts hiX6 tyX6 tyX6_ok nmX6 hown hK hP hD hS 0 rfl rfl 2 (by decide) (hts (.fieldLink RX6 18 "RemorseWall$Sightings" "size" "I") (by decide +kernel)) (fun _ h9 => h9) rfl (by decide +kernel) rfl rfl (Nat.le_of_ble_eq_true rfl) dX6_init_22 (fun H locs hP hD hS => ?_)
  have hP : va_P D vwCl ([(a0, .inr (6, [.ref q1, .ref q2, .int (nI 0)])), (q1, .inl (cI, 8, .inl (fun _ => nI 0))), (q2, .inl (cI, 8, .inl (fun _ => nI 0)))]) H := hP
  have hD : va_D A ([(a0, .inr (6, [.ref q1, .ref q2, .int (nI 0)])), (q1, .inl (cI, 8, .inl (fun _ => nI 0))), (q2, .inl (cI, 8, .inl (fun _ => nI 0)))]) := hD
  refine W.widen (k := 2) (n := 16) (by omega) (by omega) ?_
  exact hret 25 _ hP hD hS dX6_init_25 ⟨q1, q2, rfl⟩
abbrev rmX7_init : Room := { frames := 1, cells := 2, slots := 993, locals := 40 }
set_option maxHeartbeats 4000000 in
set_option maxRecDepth 100000 in
theorem k_X7_init (l : Launch) (D : va_G) (cI cC cB cS : ClassId) (a0 : Nat) : CZ l D (kT cI cC cB cS) yX7_init wsX7_init rmX7_init 2 993 [.ref a0] [(a0, .inr (7, [.null, .null]))] (fun u => ∃ q1 q2 : Nat, u = [smE a0 q1 q2 (zZ, zN), zE 984 q1 cI ((zZ, zN).1), nE 9 q2 cI ((zZ, zN).2)]) := by
  refine cz_intro (by decide) rfl rfl (Nat.le_of_ble_eq_true rfl) ?_
  intro p e s m args below meth c ls A QF hF hin hK hP hD hS hA hN hl hret
  obtain ⟨hx, hb, hml, hown, hts⟩ := id hF
  have hP : va_P D vwCl ([(a0, .inr (7, [.null, .null]))]) s.heap := hP
  have hl : lv_has ls 1 [(0, .ref a0)] := hl
  have hiX7 : ∀ w ∈ u_ws RX7 TX7 2, w ∈ wsX7_init := by decide +kernel
  refine lv_aload_n (pc := 0) hx hb dX7_init_0 rfl (lv_at hl 0 rfl) ?_
  refine W.objInit hx hb hown (hts (.methodLink RX7 3 objectInit) (by decide +kernel)) (hts (.instanceMethod objectInit) (by decide +kernel)) (hts (.code objectInit ⟨#[0xb1]⟩ 1 none) (by decide +kernel)) rfl (by rw [hml]; exact hl.1) rfl dX7_init_1 (Nat.le_of_ble_eq_true rfl) (Nat.le_of_ble_eq_true rfl) ?_
  refine W.eq (g2 := F0 m 4 ls []) rfl ?_
  refine lv_aload_n (pc := 4) hx hb dX7_init_4 rfl (lv_at hl 0 rfl) ?_
  refine lv_sipush (pc := 5) (v := nI 984) hx hb dX7_init_5 (by decide) ?_
  refine rw_newi (pc := 8) hx hb (hts (.arrayClass .int) (by decide +kernel)) hK hP hD hS hA 0 rfl (by omega) (Nat.le_of_ble_eq_true rfl) (Nat.le_of_ble_eq_true rfl) dX7_init_8 (fun q1 H hP hD hS => ?_)
  have hP : va_P D vwCl ([(a0, .inr (7, [.null, .null])), (q1, .inl (cI, 984, .inl (fun _ => nI 0)))]) H := hP
  have hD : va_D A ([(a0, .inr (7, [.null, .null])), (q1, .inl (cI, 984, .inl (fun _ => nI 0)))]) := hD
  refine va_putF (D := D) (ci := 7) (v := .ref q1) (ty := .array .int) (C := RX7) (T := TX7) (N := 2) hx hb hts hiX7 tyX7 tyX7_ok nmX7 hown hK hP hD hS 0 rfl rfl 0 (by decide) (hts (.fieldLink RX7 11 "RemorseWall$Smoothing" "fewest" "[I") (by decide +kernel)) (fun _ h9 => h9) rfl hin rfl (by decide +kernel) rfl rfl (Nat.le_of_ble_eq_true rfl) dX7_init_10 (fun H locs hP hD hS => ?_)
  have hP : va_P D vwCl ([(a0, .inr (7, [.ref q1, .null])), (q1, .inl (cI, 984, .inl (fun _ => nI 0)))]) H := hP
  have hD : va_D A ([(a0, .inr (7, [.ref q1, .null])), (q1, .inl (cI, 984, .inl (fun _ => nI 0)))]) := hD
  refine lv_aload_n (pc := 13) hx hb dX7_init_13 rfl (lv_at hl 0 rfl) ?_
  refine lv_bipush (pc := 14) (v := nI 9) hx hb dX7_init_14 (by decide) ?_
  refine rw_newi (pc := 16) hx hb (hts (.arrayClass .int) (by decide +kernel)) hK hP hD hS hA 0 rfl (by omega) (Nat.le_of_ble_eq_true rfl) (Nat.le_of_ble_eq_true rfl) dX7_init_16 (fun q2 H hP hD hS => ?_)
  have hP : va_P D vwCl ([(a0, .inr (7, [.ref q1, .null])), (q1, .inl (cI, 984, .inl (fun _ => nI 0))), (q2, .inl (cI, 9, .inl (fun _ => nI 0)))]) H := hP
  have hD : va_D A ([(a0, .inr (7, [.ref q1, .null])), (q1, .inl (cI, 984, .inl (fun _ => nI 0))), (q2, .inl (cI, 9, .inl (fun _ => nI 0)))]) := hD
  refine va_putF (D := D) (ci := 7) (v := .ref q2) (ty := .array .int) (C := RX7) (T := TX7) (N := 2) hx hb hts hiX7 tyX7 tyX7_ok nmX7 hown hK hP hD hS 0 rfl rfl 1 (by decide) (hts (.fieldLink RX7 15 "RemorseWall$Smoothing" "row" "[I") (by decide +kernel)) (fun _ h9 => h9) rfl hin rfl (by decide +kernel) rfl rfl (Nat.le_of_ble_eq_true rfl) dX7_init_18 (fun H locs hP hD hS => ?_)
  have hP : va_P D vwCl ([(a0, .inr (7, [.ref q1, .ref q2])), (q1, .inl (cI, 984, .inl (fun _ => nI 0))), (q2, .inl (cI, 9, .inl (fun _ => nI 0)))]) H := hP
  have hD : va_D A ([(a0, .inr (7, [.ref q1, .ref q2])), (q1, .inl (cI, 984, .inl (fun _ => nI 0))), (q2, .inl (cI, 9, .inl (fun _ => nI 0)))]) := hD
  refine W.widen (k := 2) (n := 993) (by omega) (by omega) ?_
  exact hret 21 _ hP hD hS dX7_init_21 ⟨q1, q2, rfl⟩
abbrev rmX4_init : Room := { frames := 1, cells := 2, slots := 10, locals := 40 }
set_option maxHeartbeats 4000000 in
set_option maxRecDepth 100000 in
theorem k_X4_init (l : Launch) (D : va_G) (cI cC cB cS : ClassId) (a0 : Nat) : CZ l D (kT cI cC cB cS) yX4_init wsX4_init rmX4_init 2 10 [.ref a0] [(a0, .inr (4, [.null, .null, .int (nI 0)]))] (fun u => ∃ q1 q2 : Nat, u = [roE a0 q1 q2 (zN, zN, -4), nE 5 q1 cI ((zN, zN, -4).1), nE 5 q2 cI ((zN, zN, -4).2.1)]) := by
  refine cz_intro (by decide) rfl rfl (Nat.le_of_ble_eq_true rfl) ?_
  intro p e s m args below meth c ls A QF hF hin hK hP hD hS hA hN hl hret
  obtain ⟨hx, hb, hml, hown, hts⟩ := id hF
  have hP : va_P D vwCl ([(a0, .inr (4, [.null, .null, .int (nI 0)]))]) s.heap := hP
  have hl : lv_has ls 1 [(0, .ref a0)] := hl
  have hiX4 : ∀ w ∈ u_ws RX4 TX4 3, w ∈ wsX4_init := by decide +kernel
  refine lv_aload_n (pc := 0) hx hb dX4_init_0 rfl (lv_at hl 0 rfl) ?_
  refine W.objInit hx hb hown (hts (.methodLink RX4 3 objectInit) (by decide +kernel)) (hts (.instanceMethod objectInit) (by decide +kernel)) (hts (.code objectInit ⟨#[0xb1]⟩ 1 none) (by decide +kernel)) rfl (by rw [hml]; exact hl.1) rfl dX4_init_1 (Nat.le_of_ble_eq_true rfl) (Nat.le_of_ble_eq_true rfl) ?_
  refine W.eq (g2 := F0 m 4 ls []) rfl ?_
  refine lv_aload_n (pc := 4) hx hb dX4_init_4 rfl (lv_at hl 0 rfl) ?_
  refine lv_iconst (pc := 5) (v := nI 5) hx hb dX4_init_5 (by decide) ?_
  refine rw_newi (pc := 6) hx hb (hts (.arrayClass .int) (by decide +kernel)) hK hP hD hS hA 0 rfl (by omega) (Nat.le_of_ble_eq_true rfl) (Nat.le_of_ble_eq_true rfl) dX4_init_6 (fun q1 H hP hD hS => ?_)
  have hP : va_P D vwCl ([(a0, .inr (4, [.null, .null, .int (nI 0)])), (q1, .inl (cI, 5, .inl (fun _ => nI 0)))]) H := hP
  have hD : va_D A ([(a0, .inr (4, [.null, .null, .int (nI 0)])), (q1, .inl (cI, 5, .inl (fun _ => nI 0)))]) := hD
  refine va_putF (D := D) (ci := 4) (v := .ref q1) (ty := .array .int) (C := RX4) (T := TX4) (N := 3) hx hb hts hiX4 tyX4 tyX4_ok nmX4 hown hK hP hD hS 0 rfl rfl 0 (by decide) (hts (.fieldLink RX4 9 "RemorseWall$Rounds" "trying" "[I") (by decide +kernel)) (fun _ h9 => h9) rfl hin rfl (by decide +kernel) rfl rfl (Nat.le_of_ble_eq_true rfl) dX4_init_8 (fun H locs hP hD hS => ?_)
  have hP : va_P D vwCl ([(a0, .inr (4, [.ref q1, .null, .int (nI 0)])), (q1, .inl (cI, 5, .inl (fun _ => nI 0)))]) H := hP
  have hD : va_D A ([(a0, .inr (4, [.ref q1, .null, .int (nI 0)])), (q1, .inl (cI, 5, .inl (fun _ => nI 0)))]) := hD
  refine lv_aload_n (pc := 11) hx hb dX4_init_11 rfl (lv_at hl 0 rfl) ?_
  refine lv_iconst (pc := 12) (v := nI 5) hx hb dX4_init_12 (by decide) ?_
  refine rw_newi (pc := 13) hx hb (hts (.arrayClass .int) (by decide +kernel)) hK hP hD hS hA 0 rfl (by omega) (Nat.le_of_ble_eq_true rfl) (Nat.le_of_ble_eq_true rfl) dX4_init_13 (fun q2 H hP hD hS => ?_)
  have hP : va_P D vwCl ([(a0, .inr (4, [.ref q1, .null, .int (nI 0)])), (q1, .inl (cI, 5, .inl (fun _ => nI 0))), (q2, .inl (cI, 5, .inl (fun _ => nI 0)))]) H := hP
  have hD : va_D A ([(a0, .inr (4, [.ref q1, .null, .int (nI 0)])), (q1, .inl (cI, 5, .inl (fun _ => nI 0))), (q2, .inl (cI, 5, .inl (fun _ => nI 0)))]) := hD
  refine va_putF (D := D) (ci := 4) (v := .ref q2) (ty := .array .int) (C := RX4) (T := TX4) (N := 3) hx hb hts hiX4 tyX4 tyX4_ok nmX4 hown hK hP hD hS 0 rfl rfl 1 (by decide) (hts (.fieldLink RX4 15 "RemorseWall$Rounds" "best" "[I") (by decide +kernel)) (fun _ h9 => h9) rfl hin rfl (by decide +kernel) rfl rfl (Nat.le_of_ble_eq_true rfl) dX4_init_15 (fun H locs hP hD hS => ?_)
  have hP : va_P D vwCl ([(a0, .inr (4, [.ref q1, .ref q2, .int (nI 0)])), (q1, .inl (cI, 5, .inl (fun _ => nI 0))), (q2, .inl (cI, 5, .inl (fun _ => nI 0)))]) H := hP
  have hD : va_D A ([(a0, .inr (4, [.ref q1, .ref q2, .int (nI 0)])), (q1, .inl (cI, 5, .inl (fun _ => nI 0))), (q2, .inl (cI, 5, .inl (fun _ => nI 0)))]) := hD
  refine lv_aload_n (pc := 18) hx hb dX4_init_18 rfl (lv_at hl 0 rfl) ?_
  refine lv_bipush (pc := 19) (v := jI (-4)) hx hb dX4_init_19 (by decide) ?_
  refine va_put (D := D) (ci := 4) (v := .int (jI (-4))) (ty := .int) (C := RX4) (T := TX4) (N := 3) hx hb hts hiX4 tyX4 tyX4_ok nmX4 hown hK hP hD hS 0 rfl rfl 2 (by decide) (hts (.fieldLink RX4 18 "RemorseWall$Rounds" "least" "I") (by decide +kernel)) (fun _ h9 => h9) rfl (by decide +kernel) rfl rfl (Nat.le_of_ble_eq_true rfl) dX4_init_21 (fun H locs hP hD hS => ?_)
  have hP : va_P D vwCl ([(a0, .inr (4, [.ref q1, .ref q2, .int (jI (-4))])), (q1, .inl (cI, 5, .inl (fun _ => nI 0))), (q2, .inl (cI, 5, .inl (fun _ => nI 0)))]) H := hP
  have hD : va_D A ([(a0, .inr (4, [.ref q1, .ref q2, .int (jI (-4))])), (q1, .inl (cI, 5, .inl (fun _ => nI 0))), (q2, .inl (cI, 5, .inl (fun _ => nI 0)))]) := hD
  refine W.widen (k := 2) (n := 10) (by omega) (by omega) ?_
  exact hret 24 _ hP hD hS dX4_init_24 ⟨q1, q2, rfl⟩
abbrev rmX5_init : Room := { frames := 1, cells := 2, slots := 32, locals := 40 }
set_option maxHeartbeats 4000000 in
set_option maxRecDepth 100000 in
theorem k_X5_init (l : Launch) (D : va_G) (cI cC cB cS : ClassId) (a0 : Nat) : CZ l D (kT cI cC cB cS) yX5_init wsX5_init rmX5_init 2 32 [.ref a0] [(a0, .inr (5, [.null, .null]))] (fun u => ∃ q1 q2 : Nat, u = [seE a0 q1 q2 (zZ, zZ), zE 16 q1 cI ((zZ, zZ).1), zE 16 q2 cI ((zZ, zZ).2)]) := by
  refine cz_intro (by decide) rfl rfl (Nat.le_of_ble_eq_true rfl) ?_
  intro p e s m args below meth c ls A QF hF hin hK hP hD hS hA hN hl hret
  obtain ⟨hx, hb, hml, hown, hts⟩ := id hF
  have hP : va_P D vwCl ([(a0, .inr (5, [.null, .null]))]) s.heap := hP
  have hl : lv_has ls 1 [(0, .ref a0)] := hl
  have hiX5 : ∀ w ∈ u_ws RX5 TX5 2, w ∈ wsX5_init := by decide +kernel
  refine lv_aload_n (pc := 0) hx hb dX5_init_0 rfl (lv_at hl 0 rfl) ?_
  refine W.objInit hx hb hown (hts (.methodLink RX5 3 objectInit) (by decide +kernel)) (hts (.instanceMethod objectInit) (by decide +kernel)) (hts (.code objectInit ⟨#[0xb1]⟩ 1 none) (by decide +kernel)) rfl (by rw [hml]; exact hl.1) rfl dX5_init_1 (Nat.le_of_ble_eq_true rfl) (Nat.le_of_ble_eq_true rfl) ?_
  refine W.eq (g2 := F0 m 4 ls []) rfl ?_
  refine lv_aload_n (pc := 4) hx hb dX5_init_4 rfl (lv_at hl 0 rfl) ?_
  refine lv_bipush (pc := 5) (v := nI 16) hx hb dX5_init_5 (by decide) ?_
  refine rw_newi (pc := 7) hx hb (hts (.arrayClass .int) (by decide +kernel)) hK hP hD hS hA 0 rfl (by omega) (Nat.le_of_ble_eq_true rfl) (Nat.le_of_ble_eq_true rfl) dX5_init_7 (fun q1 H hP hD hS => ?_)
  have hP : va_P D vwCl ([(a0, .inr (5, [.null, .null])), (q1, .inl (cI, 16, .inl (fun _ => nI 0)))]) H := hP
  have hD : va_D A ([(a0, .inr (5, [.null, .null])), (q1, .inl (cI, 16, .inl (fun _ => nI 0)))]) := hD
  refine va_putF (D := D) (ci := 5) (v := .ref q1) (ty := .array .int) (C := RX5) (T := TX5) (N := 2) hx hb hts hiX5 tyX5 tyX5_ok nmX5 hown hK hP hD hS 0 rfl rfl 0 (by decide) (hts (.fieldLink RX5 11 "RemorseWall$Seating" "before" "[I") (by decide +kernel)) (fun _ h9 => h9) rfl hin rfl (by decide +kernel) rfl rfl (Nat.le_of_ble_eq_true rfl) dX5_init_9 (fun H locs hP hD hS => ?_)
  have hP : va_P D vwCl ([(a0, .inr (5, [.ref q1, .null])), (q1, .inl (cI, 16, .inl (fun _ => nI 0)))]) H := hP
  have hD : va_D A ([(a0, .inr (5, [.ref q1, .null])), (q1, .inl (cI, 16, .inl (fun _ => nI 0)))]) := hD
  refine lv_aload_n (pc := 12) hx hb dX5_init_12 rfl (lv_at hl 0 rfl) ?_
  refine lv_bipush (pc := 13) (v := nI 16) hx hb dX5_init_13 (by decide) ?_
  refine rw_newi (pc := 15) hx hb (hts (.arrayClass .int) (by decide +kernel)) hK hP hD hS hA 0 rfl (by omega) (Nat.le_of_ble_eq_true rfl) (Nat.le_of_ble_eq_true rfl) dX5_init_15 (fun q2 H hP hD hS => ?_)
  have hP : va_P D vwCl ([(a0, .inr (5, [.ref q1, .null])), (q1, .inl (cI, 16, .inl (fun _ => nI 0))), (q2, .inl (cI, 16, .inl (fun _ => nI 0)))]) H := hP
  have hD : va_D A ([(a0, .inr (5, [.ref q1, .null])), (q1, .inl (cI, 16, .inl (fun _ => nI 0))), (q2, .inl (cI, 16, .inl (fun _ => nI 0)))]) := hD
  refine va_putF (D := D) (ci := 5) (v := .ref q2) (ty := .array .int) (C := RX5) (T := TX5) (N := 2) hx hb hts hiX5 tyX5 tyX5_ok nmX5 hown hK hP hD hS 0 rfl rfl 1 (by decide) (hts (.fieldLink RX5 15 "RemorseWall$Seating" "upToHere" "[I") (by decide +kernel)) (fun _ h9 => h9) rfl hin rfl (by decide +kernel) rfl rfl (Nat.le_of_ble_eq_true rfl) dX5_init_17 (fun H locs hP hD hS => ?_)
  have hP : va_P D vwCl ([(a0, .inr (5, [.ref q1, .ref q2])), (q1, .inl (cI, 16, .inl (fun _ => nI 0))), (q2, .inl (cI, 16, .inl (fun _ => nI 0)))]) H := hP
  have hD : va_D A ([(a0, .inr (5, [.ref q1, .ref q2])), (q1, .inl (cI, 16, .inl (fun _ => nI 0))), (q2, .inl (cI, 16, .inl (fun _ => nI 0)))]) := hD
  refine W.widen (k := 2) (n := 32) (by omega) (by omega) ?_
  exact hret 20 _ hP hD hS dX5_init_20 ⟨q1, q2, rfl⟩
