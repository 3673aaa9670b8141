abbrev rmX9_write : Room := { frames := 1, cells := 0, slots := 0, locals := 21 }
set_option maxHeartbeats 4000000 in
set_option maxRecDepth 100000 in
theorem k_X9_write (l : Launch) (D : va_G) (cI cC cB cS : ClassId) (w0 w2 w3 w4 w5 w6 w7 w8 w9 w10 w11 w12 : Nat) (t0 t1 : Nat) (T : LT) (x1 : Int32) (z1 : Int) (hz1 : x1.toInt = z1) (ht : ltOK T) : CI l D (kT cI cC cB cS) yX9_write wsX9_write rmX9_write [.ref w0, .int (x1)] (rwW w0 t0 w2 w3 w4 w5 w6 w7 w8 w9 w10 w11 w12 ++ ltW t0 t1 cC T) (fun r u => r = jI (zWrite T z1) ∧ u = rwW w0 t0 w2 w3 w4 w5 w6 w7 w8 w9 w10 w11 w12 ++ ltW t0 t1 cC (tWrite T z1)) := by
  refine ci_intro (by decide) rfl (Nat.le_of_ble_eq_true rfl) ?_
  intro p e s m args below meth c ls A QF hF hK hP hV hS hA hN hl hret
  obtain ⟨hx, hb, hml, hown, hts⟩ := id hF
  have hP : va_P D vwCl (rwW w0 t0 w2 w3 w4 w5 w6 w7 w8 w9 w10 w11 w12 ++ ltW t0 t1 cC T) s.heap := hP
  have hl : lv_has ls 2 [(0, .ref w0), (1, .int (x1))] := hl
  have wf12 := hts (.fieldLink RX9 12 "RemorseWall" "text" "LRemorseWall$Letters;") (by decide +kernel)
  have hiX9 : ∀ w ∈ u_ws RX9 TX9 12, w ∈ wsX9_write := by decide +kernel
  have ht2 := ht.2
  refine lv_iload_n (pc := 0) hx hb dX9_write_0 rfl (lv_at hl 1 rfl) ?_
  refine lv_bipush (pc := 1) (v := nI 32) hx hb dX9_write_1 (by decide) ?_
  refine rc_lt (pc := 3) (tgt := 12) hx hb hz1 (tI_nI (by omega)) dX9_write_3 (by decide) (fun c3 => ?_) (fun c3 => ?_)
  · refine lv_iconst (pc := 12) (v := jI (-1)) hx hb dX9_write_12 (by decide) ?_
    exact hret 13 _ hP hS dX9_write_13 rfl rfl ⟨(by unfold zWrite; (repeat' split) <;> first | (exfalso; omega) | rfl | exact jI_nat _), (by unfold tWrite; (repeat' split) <;> first | (exfalso; omega) | rfl | exact jI_nat _)⟩
  · refine lv_iload_n (pc := 6) hx hb dX9_write_6 rfl (lv_at hl 1 rfl) ?_
    refine lv_bipush (pc := 7) (v := nI 126) hx hb dX9_write_7 (by decide) ?_
    refine rc_le (pc := 9) (tgt := 14) hx hb hz1 (tI_nI (by omega)) dX9_write_9 (by decide) (fun c9 => ?_) (fun c9 => ?_)
    · obtain ⟨k, rfl⟩ : ∃ k : Nat, z1 = k := ⟨z1.toNat, by omega⟩
      obtain rfl : x1 = nI k := eq_nI hz1
      refine lv_aload_n (pc := 14) hx hb dX9_write_14 rfl (lv_at hl 0 rfl) ?_
      refine va_get (pc := 15) (D := D) (ci := 9) (v := .ref t0) (C := RX9) (T := TX9) (N := 12) hx hb hts hiX9 hown hK hP 0 rfl rfl 0 (by decide) wf12 (fun _ h9 => h9) rfl dX9_write_15 ?_
      refine ci_Vd (pc := 18) (r0 := nI (if 200 ≤ T.2 then 1 else 0)) hF hN hK hP hV hS hA (k_X0_isFull l D cI cC cB cS t0 t1 T ht) (cwV 0 hts gX9_write_X0_isFull rfl rfl rfl (by decide +kernel) ⟨Nat.le_of_ble_eq_true rfl, Nat.le_of_ble_eq_true rfl⟩) [1, 2] rfl (by decide) 0 0 rfl rfl rfl hl.1 rfl (Nat.le_of_ble_eq_true rfl) dX9_write_18 ⟨Nat.le_refl _, Nat.le_refl _⟩ rfl (ws2 := rwW w0 t0 w2 w3 w4 w5 w6 w7 w8 w9 w10 w11 w12 ++ ltW t0 t1 cC T) rfl (fun H locs hP hS => ?_)
      refine rb_eq (pc := 21) (tgt := 27) hx hb dX9_write_21 (by decide) (fun c21 => ?_) (fun c21 => ?_)
      · refine lv_aload_n (pc := 27) hx hb dX9_write_27 rfl (lv_at hl 0 rfl) ?_
        refine va_get (pc := 28) (D := D) (ci := 9) (v := .ref t0) (C := RX9) (T := TX9) (N := 12) hx hb hts hiX9 hown hK hP 0 rfl rfl 0 (by decide) wf12 (fun _ h9 => h9) rfl dX9_write_28 ?_
        refine lv_iload_n (pc := 31) hx hb dX9_write_31 rfl (lv_at hl 1 rfl) ?_
        refine lv_i2c (pc := 32) (v := nI k) hx hb dX9_write_32 (i2c_n (by omega)) ?_
        refine cv_Vd (pc := 33) hF hN hK hP hV hS hA (k_X0_add l D cI cC cB cS t0 t1 T k ht (by omega) (by omega)) (cwV 1 hts gX9_write_X0_add rfl rfl rfl (by decide +kernel) ⟨Nat.le_of_ble_eq_true rfl, Nat.le_of_ble_eq_true rfl⟩) [1, 2] rfl (by decide) 0 0 rfl rfl rfl hl.1 rfl (Nat.le_of_ble_eq_true rfl) dX9_write_33 ⟨Nat.le_refl _, Nat.le_refl _⟩ rfl (ws2 := rwW w0 t0 w2 w3 w4 w5 w6 w7 w8 w9 w10 w11 w12 ++ ltW t0 t1 cC (va_up T.1 T.2 k, T.2 + 1)) rfl (fun H locs hP hS => ?_)
        refine lv_aload_n (pc := 36) hx hb dX9_write_36 rfl (lv_at hl 0 rfl) ?_
        refine va_get (pc := 37) (D := D) (ci := 9) (v := .ref t0) (C := RX9) (T := TX9) (N := 12) hx hb hts hiX9 hown hK hP 0 rfl rfl 0 (by decide) wf12 (fun _ h9 => h9) rfl dX9_write_37 ?_
        refine ci_Vd (pc := 40) (r0 := nI (T.2 + 1)) hF hN hK hP hV hS hA (k_X0_size l D cI cC cB cS t0 t1 (va_up T.1 T.2 k, T.2 + 1)) (cwV 0 hts gX9_write_X0_size rfl rfl rfl (by decide +kernel) ⟨Nat.le_of_ble_eq_true rfl, Nat.le_of_ble_eq_true rfl⟩) [1, 2] rfl (by decide) 0 0 rfl rfl rfl hl.1 rfl (Nat.le_of_ble_eq_true rfl) dX9_write_40 ⟨Nat.le_refl _, Nat.le_refl _⟩ rfl (ws2 := rwW w0 t0 w2 w3 w4 w5 w6 w7 w8 w9 w10 w11 w12 ++ ltW t0 t1 cC (va_up T.1 T.2 k, T.2 + 1)) rfl (fun H locs hP hS => ?_)
        exact hret 43 _ hP hS dX9_write_43 rfl rfl ⟨(by unfold zWrite; (repeat' split) <;> first | (exfalso; omega) | rfl | exact jI_nat _), (by unfold tWrite; (repeat' split) <;> first | (exfalso; omega) | rfl | exact jI_nat _)⟩
      · have c22 := c21
        refine lv_bipush (pc := 24) (v := jI (-3)) hx hb dX9_write_24 (by decide) ?_
        exact hret 26 _ hP hS dX9_write_26 rfl rfl ⟨(by unfold zWrite; (repeat' split) <;> first | (exfalso; omega) | rfl | exact jI_nat _), (by unfold tWrite; (repeat' split) <;> first | (exfalso; omega) | rfl | exact jI_nat _)⟩
    · refine lv_iconst (pc := 12) (v := jI (-1)) hx hb dX9_write_12 (by decide) ?_
      exact hret 13 _ hP hS dX9_write_13 rfl rfl ⟨(by unfold zWrite; (repeat' split) <;> first | (exfalso; omega) | rfl | exact jI_nat _), (by unfold tWrite; (repeat' split) <;> first | (exfalso; omega) | rfl | exact jI_nat _)⟩
abbrev rmX9_wipe : Room := { frames := 1, cells := 0, slots := 0, locals := 20 }
set_option maxHeartbeats 4000000 in
set_option maxRecDepth 100000 in
theorem k_X9_wipe (l : Launch) (D : va_G) (cI cC cB cS : ClassId) (w0 w2 w3 w4 w5 w6 w7 w8 w9 w10 w11 w12 : Nat) (t0 t1 : Nat) (T : LT) (ht : ltOK T) : CI l D (kT cI cC cB cS) yX9_wipe wsX9_wipe rmX9_wipe [.ref w0] (rwW w0 t0 w2 w3 w4 w5 w6 w7 w8 w9 w10 w11 w12 ++ ltW t0 t1 cC T) (fun r u => r = nI T.2 ∧ u = rwW w0 t0 w2 w3 w4 w5 w6 w7 w8 w9 w10 w11 w12 ++ ltW t0 t1 cC (T.1, 0)) := by
  refine ci_intro (by decide) rfl (Nat.le_of_ble_eq_true rfl) ?_
  intro p e s m args below meth c ls A QF hF hK hP hV hS hA hN hl hret
  obtain ⟨hx, hb, hml, hown, hts⟩ := id hF
  have hP : va_P D vwCl (rwW w0 t0 w2 w3 w4 w5 w6 w7 w8 w9 w10 w11 w12 ++ ltW t0 t1 cC T) s.heap := hP
  have hl : lv_has ls 2 [(0, .ref w0)] := hl
  have wf12 := hts (.fieldLink RX9 12 "RemorseWall" "text" "LRemorseWall$Letters;") (by decide +kernel)
  have hiX9 : ∀ w ∈ u_ws RX9 TX9 12, w ∈ wsX9_wipe := by decide +kernel
  refine lv_aload_n (pc := 0) hx hb dX9_wipe_0 rfl (lv_at hl 0 rfl) ?_
  refine va_get (pc := 1) (D := D) (ci := 9) (v := .ref t0) (C := RX9) (T := TX9) (N := 12) hx hb hts hiX9 hown hK hP 0 rfl rfl 0 (by decide) wf12 (fun _ h9 => h9) rfl dX9_wipe_1 ?_
  refine ci_Vd (pc := 4) (r0 := nI T.2) hF hN hK hP hV hS hA (k_X0_size l D cI cC cB cS t0 t1 T) (cwV 0 hts gX9_wipe_X0_size rfl rfl rfl (by decide +kernel) ⟨Nat.le_of_ble_eq_true rfl, Nat.le_of_ble_eq_true rfl⟩) [1, 2] rfl (by decide) 0 0 rfl rfl rfl hl.1 rfl (Nat.le_of_ble_eq_true rfl) dX9_wipe_4 ⟨Nat.le_refl _, Nat.le_refl _⟩ rfl (ws2 := rwW w0 t0 w2 w3 w4 w5 w6 w7 w8 w9 w10 w11 w12 ++ ltW t0 t1 cC T) rfl (fun H locs hP hS => ?_)
  refine lv_istore_n (pc := 7) (lv' := [(1, .int (nI T.2)), (0, .ref w0)]) hx hb dX9_wipe_7 rfl hl (by decide) rfl (fun ls hl => ?_)
  refine lv_aload_n (pc := 8) hx hb dX9_wipe_8 rfl (lv_at hl 1 rfl) ?_
  refine va_get (pc := 9) (D := D) (ci := 9) (v := .ref t0) (C := RX9) (T := TX9) (N := 12) hx hb hts hiX9 hown hK hP 0 rfl rfl 0 (by decide) wf12 (fun _ h9 => h9) rfl dX9_wipe_9 ?_
  refine cv_Vd (pc := 12) hF hN hK hP hV hS hA (k_X0_clear l D cI cC cB cS t0 t1 T) (cwV 0 hts gX9_wipe_X0_clear rfl rfl rfl (by decide +kernel) ⟨Nat.le_of_ble_eq_true rfl, Nat.le_of_ble_eq_true rfl⟩) [1, 2] rfl (by decide) 0 0 rfl rfl rfl hl.1 rfl (Nat.le_of_ble_eq_true rfl) dX9_wipe_12 ⟨Nat.le_refl _, Nat.le_refl _⟩ rfl (ws2 := rwW w0 t0 w2 w3 w4 w5 w6 w7 w8 w9 w10 w11 w12 ++ ltW t0 t1 cC (T.1, 0)) rfl (fun H locs hP hS => ?_)
  refine lv_iload_n (pc := 15) hx hb dX9_wipe_15 rfl (lv_at hl 0 rfl) ?_
  exact hret 16 _ hP hS dX9_wipe_16 rfl rfl ⟨rfl, rfl⟩
abbrev rmX9_forget : Room := { frames := 1, cells := 0, slots := 0, locals := 20 }
set_option maxHeartbeats 4000000 in
set_option maxRecDepth 100000 in
theorem k_X9_forget (l : Launch) (D : va_G) (cI cC cB cS : ClassId) (w0 w1 w2 w3 w4 w5 w6 w7 w8 w10 w11 w12 : Nat) (g0 g1 g2 : Nat) (G : SG) : CI l D (kT cI cC cB cS) yX9_forget wsX9_forget rmX9_forget [.ref w0] (rwW w0 w1 w2 w3 w4 w5 w6 w7 w8 g0 w10 w11 w12 ++ sgW g0 g1 g2 cI G) (fun r u => r = nI G.2.2 ∧ u = rwW w0 w1 w2 w3 w4 w5 w6 w7 w8 g0 w10 w11 w12 ++ sgW g0 g1 g2 cI (G.1, G.2.1, 0)) := by
  refine ci_intro (by decide) rfl (Nat.le_of_ble_eq_true rfl) ?_
  intro p e s m args below meth c ls A QF hF hK hP hV hS hA hN hl hret
  obtain ⟨hx, hb, hml, hown, hts⟩ := id hF
  have hP : va_P D vwCl (rwW w0 w1 w2 w3 w4 w5 w6 w7 w8 g0 w10 w11 w12 ++ sgW g0 g1 g2 cI G) s.heap := hP
  have hl : lv_has ls 2 [(0, .ref w0)] := hl
  have wf58 := hts (.fieldLink RX9 58 "RemorseWall" "seen" "LRemorseWall$Sightings;") (by decide +kernel)
  have hiX9 : ∀ w ∈ u_ws RX9 TX9 12, w ∈ wsX9_forget := by decide +kernel
  refine lv_aload_n (pc := 0) hx hb dX9_forget_0 rfl (lv_at hl 0 rfl) ?_
  refine va_get (pc := 1) (D := D) (ci := 9) (v := .ref g0) (C := RX9) (T := TX9) (N := 12) hx hb hts hiX9 hown hK hP 0 rfl rfl 8 (by decide) wf58 (fun _ h9 => h9) rfl dX9_forget_1 ?_
  refine ci_Vd (pc := 4) (r0 := nI G.2.2) hF hN hK hP hV hS hA (k_X6_size l D cI cC cB cS g0 g1 g2 G) (cwV 0 hts gX9_forget_X6_size rfl rfl rfl (by decide +kernel) ⟨Nat.le_of_ble_eq_true rfl, Nat.le_of_ble_eq_true rfl⟩) [1, 2, 3] rfl (by decide) 0 6 rfl rfl rfl hl.1 rfl (Nat.le_of_ble_eq_true rfl) dX9_forget_4 ⟨Nat.le_refl _, Nat.le_refl _⟩ rfl (ws2 := rwW w0 w1 w2 w3 w4 w5 w6 w7 w8 g0 w10 w11 w12 ++ sgW g0 g1 g2 cI G) rfl (fun H locs hP hS => ?_)
  refine lv_istore_n (pc := 7) (lv' := [(1, .int (nI G.2.2)), (0, .ref w0)]) hx hb dX9_forget_7 rfl hl (by decide) rfl (fun ls hl => ?_)
  refine lv_aload_n (pc := 8) hx hb dX9_forget_8 rfl (lv_at hl 1 rfl) ?_
  refine va_get (pc := 9) (D := D) (ci := 9) (v := .ref g0) (C := RX9) (T := TX9) (N := 12) hx hb hts hiX9 hown hK hP 0 rfl rfl 8 (by decide) wf58 (fun _ h9 => h9) rfl dX9_forget_9 ?_
  refine cv_Vd (pc := 12) hF hN hK hP hV hS hA (k_X6_clear l D cI cC cB cS g0 g1 g2 G) (cwV 0 hts gX9_forget_X6_clear rfl rfl rfl (by decide +kernel) ⟨Nat.le_of_ble_eq_true rfl, Nat.le_of_ble_eq_true rfl⟩) [1, 2, 3] rfl (by decide) 0 6 rfl rfl rfl hl.1 rfl (Nat.le_of_ble_eq_true rfl) dX9_forget_12 ⟨Nat.le_refl _, Nat.le_refl _⟩ rfl (ws2 := rwW w0 w1 w2 w3 w4 w5 w6 w7 w8 g0 w10 w11 w12 ++ sgW g0 g1 g2 cI (G.1, G.2.1, 0)) rfl (fun H locs hP hS => ?_)
  refine lv_iload_n (pc := 15) hx hb dX9_forget_15 rfl (lv_at hl 0 rfl) ?_
  exact hret 16 _ hP hS dX9_forget_16 rfl rfl ⟨rfl, rfl⟩
