abbrev rmX0_size : Room := { frames := 0, cells := 0, slots := 0, locals := 0 }
set_option maxHeartbeats 4000000 in
set_option maxRecDepth 100000 in
theorem k_X0_size (l : Launch) (D : va_G) (cI cC cB cS : ClassId) (t0 t1 : Nat) (T : LT) : CI l D (kT cI cC cB cS) yX0_size wsX0_size rmX0_size [.ref t0] (ltW t0 t1 cC T) (fun r u => r = nI T.2 ∧ u = ltW t0 t1 cC T) := by
  refine ci_intro (by decide) rfl (Nat.le_of_ble_eq_true rfl) ?_
  intro p e s m args below meth c ls A QF hF hK hP hV hS hA hN hl hret
  obtain ⟨hx, hb, hml, hown, hts⟩ := id hF
  have hP : va_P D vwCl (ltW t0 t1 cC T) s.heap := hP
  have hl : lv_has ls 1 [(0, .ref t0)] := hl
  have wf15 := hts (.fieldLink RX0 15 "RemorseWall$Letters" "size" "I") (by decide +kernel)
  have hiX0 : ∀ w ∈ u_ws RX0 TX0 2, w ∈ wsX0_size := by decide +kernel
  refine lv_aload_n (pc := 0) hx hb dX0_size_0 rfl (lv_at hl 0 rfl) ?_
  refine va_get (pc := 1) (D := D) (ci := 0) (v := .int (nI T.2)) (C := RX0) (T := TX0) (N := 2) hx hb hts hiX0 hown hK hP 0 rfl rfl 1 (by decide) wf15 (fun _ h9 => h9) rfl dX0_size_1 ?_
  exact hret 4 _ hP hS dX0_size_4 rfl rfl ⟨rfl, rfl⟩
abbrev rmX0_isFull : Room := { frames := 0, cells := 0, slots := 0, locals := 0 }
set_option maxHeartbeats 4000000 in
set_option maxRecDepth 100000 in
theorem k_X0_isFull (l : Launch) (D : va_G) (cI cC cB cS : ClassId) (t0 t1 : Nat) (T : LT) (ht : ltOK T) : CI l D (kT cI cC cB cS) yX0_isFull wsX0_isFull rmX0_isFull [.ref t0] (ltW t0 t1 cC T) (fun r u => r = nI (if 200 ≤ T.2 then 1 else 0) ∧ u = ltW t0 t1 cC T) := by
  refine ci_intro (by decide) rfl (Nat.le_of_ble_eq_true rfl) ?_
  intro p e s m args below meth c ls A QF hF hK hP hV hS hA hN hl hret
  obtain ⟨hx, hb, hml, hown, hts⟩ := id hF
  have hP : va_P D vwCl (ltW t0 t1 cC T) s.heap := hP
  have hl : lv_has ls 1 [(0, .ref t0)] := hl
  have wf9 := hts (.fieldLink RX0 9 "RemorseWall$Letters" "letters" "[C") (by decide +kernel)
  have wf15 := hts (.fieldLink RX0 15 "RemorseWall$Letters" "size" "I") (by decide +kernel)
  have hiX0 : ∀ w ∈ u_ws RX0 TX0 2, w ∈ wsX0_isFull := by decide +kernel
  have ht2 := ht.2
  refine lv_aload_n (pc := 0) hx hb dX0_isFull_0 rfl (lv_at hl 0 rfl) ?_
  refine va_get (pc := 1) (D := D) (ci := 0) (v := .int (nI T.2)) (C := RX0) (T := TX0) (N := 2) hx hb hts hiX0 hown hK hP 0 rfl rfl 1 (by decide) wf15 (fun _ h9 => h9) rfl dX0_isFull_1 ?_
  refine lv_aload_n (pc := 4) hx hb dX0_isFull_4 rfl (lv_at hl 0 rfl) ?_
  refine va_get (pc := 5) (D := D) (ci := 0) (v := .ref t1) (C := RX0) (T := TX0) (N := 2) hx hb hts hiX0 hown hK hP 0 rfl rfl 0 (by decide) wf9 (fun _ h9 => h9) rfl dX0_isFull_5 ?_
  refine va_alen (pc := 8) (v := nI 200) hx hb hK hP 1 1 rfl rfl rfl dX0_isFull_8 ?_
  refine rc_lt (pc := 9) (tgt := 16) hx hb (tI_nI (by omega)) (tI_nI (by omega)) dX0_isFull_9 (by decide) (fun c9 => ?_) (fun c9 => ?_)
  · refine lv_iconst (pc := 16) (v := nI 0) hx hb dX0_isFull_16 (by decide) ?_
    exact hret 17 _ hP hS dX0_isFull_17 rfl rfl ⟨(by rw [if_neg (by omega)]), rfl⟩
  · refine lv_iconst (pc := 12) (v := nI 1) hx hb dX0_isFull_12 (by decide) ?_
    refine lv_goto (pc := 13) (tgt := 17) hx hb dX0_isFull_13 (by decide) ?_
    exact hret 17 _ hP hS dX0_isFull_17 rfl rfl ⟨(by rw [if_pos (by omega)]), rfl⟩
abbrev rmX0_add : Room := { frames := 0, cells := 0, slots := 0, locals := 0 }
set_option maxHeartbeats 4000000 in
set_option maxRecDepth 100000 in
theorem k_X0_add (l : Launch) (D : va_G) (cI cC cB cS : ClassId) (t0 t1 : Nat) (T : LT) (ch : Nat) (ht : ltOK T) (hch : ch < 127) (hs : T.2 < 200) : CV l D (kT cI cC cB cS) yX0_add wsX0_add rmX0_add [.ref t0, .int (nI ch)] (ltW t0 t1 cC T) (fun u => u = ltW t0 t1 cC (va_up T.1 T.2 ch, T.2 + 1)) := by
  refine cv_intro (by decide) rfl (Nat.le_of_ble_eq_true rfl) ?_
  intro p e s m args below meth c ls A QF hF hK hP hV hS hA hN hl hret
  obtain ⟨hx, hb, hml, hown, hts⟩ := id hF
  have hP : va_P D vwCl (ltW t0 t1 cC T) s.heap := hP
  have hl : lv_has ls 2 [(0, .ref t0), (1, .int (nI ch))] := hl
  have wf9 := hts (.fieldLink RX0 9 "RemorseWall$Letters" "letters" "[C") (by decide +kernel)
  have wf15 := hts (.fieldLink RX0 15 "RemorseWall$Letters" "size" "I") (by decide +kernel)
  have hiX0 : ∀ w ∈ u_ws RX0 TX0 2, w ∈ wsX0_add := by decide +kernel
  have ht2 := ht.2
  refine lv_aload_n (pc := 0) hx hb dX0_add_0 rfl (lv_at hl 0 rfl) ?_
  refine va_get (pc := 1) (D := D) (ci := 0) (v := .int (nI T.2)) (C := RX0) (T := TX0) (N := 2) hx hb hts hiX0 hown hK hP 0 rfl rfl 1 (by decide) wf15 (fun _ h9 => h9) rfl dX0_add_1 ?_
  refine r0_lt (pc := 4) (tgt := 39) hx hb (tI_nI (by omega)) dX0_add_4 (by decide) (fun c4 => ?_) (fun c4 => ?_)
  · omega
  · refine lv_aload_n (pc := 7) hx hb dX0_add_7 rfl (lv_at hl 0 rfl) ?_
    refine va_get (pc := 8) (D := D) (ci := 0) (v := .int (nI T.2)) (C := RX0) (T := TX0) (N := 2) hx hb hts hiX0 hown hK hP 0 rfl rfl 1 (by decide) wf15 (fun _ h9 => h9) rfl dX0_add_8 ?_
    refine lv_aload_n (pc := 11) hx hb dX0_add_11 rfl (lv_at hl 0 rfl) ?_
    refine va_get (pc := 12) (D := D) (ci := 0) (v := .ref t1) (C := RX0) (T := TX0) (N := 2) hx hb hts hiX0 hown hK hP 0 rfl rfl 0 (by decide) wf9 (fun _ h9 => h9) rfl dX0_add_12 ?_
    refine va_alen (pc := 15) (v := nI 200) hx hb hK hP 1 1 rfl rfl rfl dX0_add_15 ?_
    refine rc_ge (pc := 16) (tgt := 39) hx hb (tI_nI (by omega)) (tI_nI (by omega)) dX0_add_16 (by decide) (fun c16 => ?_) (fun c16 => ?_)
    · omega
    · refine lv_aload_n (pc := 19) hx hb dX0_add_19 rfl (lv_at hl 0 rfl) ?_
      refine va_get (pc := 20) (D := D) (ci := 0) (v := .ref t1) (C := RX0) (T := TX0) (N := 2) hx hb hts hiX0 hown hK hP 0 rfl rfl 0 (by decide) wf9 (fun _ h9 => h9) rfl dX0_add_20 ?_
      refine lv_aload_n (pc := 23) hx hb dX0_add_23 rfl (lv_at hl 0 rfl) ?_
      refine va_get (pc := 24) (D := D) (ci := 0) (v := .int (nI T.2)) (C := RX0) (T := TX0) (N := 2) hx hb hts hiX0 hown hK hP 0 rfl rfl 1 (by decide) wf15 (fun _ h9 => h9) rfl dX0_add_24 ?_
      refine lv_iload_n (pc := 27) hx hb dX0_add_27 rfl (lv_at hl 1 rfl) ?_
      refine rn_cast (pc := 28) (f := T.1) (k := T.2) (x := ch) (ws2 := ltW t0 t1 cC (va_up T.1 T.2 ch, T.2)) hx hb hK hP hV hS 1 1 rfl rfl (by omega) (by decide) (by omega) dX0_add_28 rfl rfl (fun H locs hP hS => ?_)
      refine lv_aload_n (pc := 29) hx hb dX0_add_29 rfl (lv_at hl 0 rfl) ?_
      refine lv_dup (pc := 30) hx hb dX0_add_30 rfl ?_
      refine va_get (pc := 31) (D := D) (ci := 0) (v := .int (nI T.2)) (C := RX0) (T := TX0) (N := 2) hx hb hts hiX0 hown hK hP 0 rfl rfl 1 (by decide) wf15 (fun _ h9 => h9) rfl dX0_add_31 ?_
      refine lv_iconst (pc := 34) (v := nI 1) hx hb dX0_add_34 (by decide) ?_
      refine rn_iadd (pc := 35) hx hb dX0_add_35 ?_
      refine ra_put (pc := 36) (D := D) (ci := 0) (v := .int (nI (T.2 + 1))) (ty := .int) (C := RX0) (T := TX0) (N := 2) (ws2 := ltW t0 t1 cC (va_up T.1 T.2 ch, T.2 + 1)) hx hb hts hiX0 tyX0 tyX0_ok nmX0 hown hK hP hV hS 0 rfl rfl 1 (by decide) wf15 (fun _ h9 => h9) rfl (by decide +kernel) rfl rfl (Nat.le_of_ble_eq_true rfl) dX0_add_36 rfl rfl (fun H locs hP hS => ?_)
      exact hret 39 _ hP hS dX0_add_39 rfl rfl
abbrev rmX0_clear : Room := { frames := 0, cells := 0, slots := 0, locals := 0 }
set_option maxHeartbeats 4000000 in
set_option maxRecDepth 100000 in
theorem k_X0_clear (l : Launch) (D : va_G) (cI cC cB cS : ClassId) (t0 t1 : Nat) (T : LT) : CV l D (kT cI cC cB cS) yX0_clear wsX0_clear rmX0_clear [.ref t0] (ltW t0 t1 cC T) (fun u => u = ltW t0 t1 cC (T.1, 0)) := by
  refine cv_intro (by decide) rfl (Nat.le_of_ble_eq_true rfl) ?_
  intro p e s m args below meth c ls A QF hF hK hP hV hS hA hN hl hret
  obtain ⟨hx, hb, hml, hown, hts⟩ := id hF
  have hP : va_P D vwCl (ltW t0 t1 cC T) s.heap := hP
  have hl : lv_has ls 1 [(0, .ref t0)] := hl
  have wf15 := hts (.fieldLink RX0 15 "RemorseWall$Letters" "size" "I") (by decide +kernel)
  have hiX0 : ∀ w ∈ u_ws RX0 TX0 2, w ∈ wsX0_clear := by decide +kernel
  refine lv_aload_n (pc := 0) hx hb dX0_clear_0 rfl (lv_at hl 0 rfl) ?_
  refine lv_iconst (pc := 1) (v := nI 0) hx hb dX0_clear_1 (by decide) ?_
  refine ra_put (pc := 2) (D := D) (ci := 0) (v := .int (nI 0)) (ty := .int) (C := RX0) (T := TX0) (N := 2) (ws2 := ltW t0 t1 cC (T.1, 0)) hx hb hts hiX0 tyX0 tyX0_ok nmX0 hown hK hP hV hS 0 rfl rfl 1 (by decide) wf15 (fun _ h9 => h9) rfl (by decide +kernel) rfl rfl (Nat.le_of_ble_eq_true rfl) dX0_clear_2 rfl rfl (fun H locs hP hS => ?_)
  exact hret 5 _ hP hS dX0_clear_5 rfl rfl
abbrev rmX0_at : Room := { frames := 0, cells := 0, slots := 0, locals := 0 }
set_option maxHeartbeats 4000000 in
set_option maxRecDepth 100000 in
theorem k_X0_at (l : Launch) (D : va_G) (cI cC cB cS : ClassId) (t0 t1 : Nat) (T : LT) (k : Nat) (ht : ltOK T) (hkb : k < 100000) : CI l D (kT cI cC cB cS) yX0_at wsX0_at rmX0_at [.ref t0, .int (nI k)] (ltW t0 t1 cC T) (fun r u => r = nI (tAt T k) ∧ u = ltW t0 t1 cC T) := by
  refine ci_intro (by decide) rfl (Nat.le_of_ble_eq_true rfl) ?_
  intro p e s m args below meth c ls A QF hF hK hP hV hS hA hN hl hret
  obtain ⟨hx, hb, hml, hown, hts⟩ := id hF
  have hP : va_P D vwCl (ltW t0 t1 cC T) s.heap := hP
  have hl : lv_has ls 2 [(0, .ref t0), (1, .int (nI k))] := hl
  have wf9 := hts (.fieldLink RX0 9 "RemorseWall$Letters" "letters" "[C") (by decide +kernel)
  have wf15 := hts (.fieldLink RX0 15 "RemorseWall$Letters" "size" "I") (by decide +kernel)
  have hiX0 : ∀ w ∈ u_ws RX0 TX0 2, w ∈ wsX0_at := by decide +kernel
  have ht2 := ht.2
  have hq := tAt_lt ht k
  refine lv_iload_n (pc := 0) hx hb dX0_at_0 rfl (lv_at hl 1 rfl) ?_
  refine r0_lt (pc := 1) (tgt := 30) hx hb (tI_nI (by omega)) dX0_at_1 (by decide) (fun c1 => ?_) (fun c1 => ?_)
  · omega
  · refine lv_iload_n (pc := 4) hx hb dX0_at_4 rfl (lv_at hl 1 rfl) ?_
    refine lv_aload_n (pc := 5) hx hb dX0_at_5 rfl (lv_at hl 0 rfl) ?_
    refine va_get (pc := 6) (D := D) (ci := 0) (v := .int (nI T.2)) (C := RX0) (T := TX0) (N := 2) hx hb hts hiX0 hown hK hP 0 rfl rfl 1 (by decide) wf15 (fun _ h9 => h9) rfl dX0_at_6 ?_
    refine rc_ge (pc := 9) (tgt := 30) hx hb (tI_nI (by omega)) (tI_nI (by omega)) dX0_at_9 (by decide) (fun c9 => ?_) (fun c9 => ?_)
    · refine lv_iconst (pc := 30) (v := nI 0) hx hb dX0_at_30 (by decide) ?_
      exact hret 31 _ hP hS dX0_at_31 (nar_c (by omega)) rfl ⟨(by unfold tAt; (repeat' split) <;> first | omega | rfl), rfl⟩
    · refine lv_iload_n (pc := 12) hx hb dX0_at_12 rfl (lv_at hl 1 rfl) ?_
      refine lv_aload_n (pc := 13) hx hb dX0_at_13 rfl (lv_at hl 0 rfl) ?_
      refine va_get (pc := 14) (D := D) (ci := 0) (v := .ref t1) (C := RX0) (T := TX0) (N := 2) hx hb hts hiX0 hown hK hP 0 rfl rfl 0 (by decide) wf9 (fun _ h9 => h9) rfl dX0_at_14 ?_
      refine va_alen (pc := 17) (v := nI 200) hx hb hK hP 1 1 rfl rfl rfl dX0_at_17 ?_
      refine rc_ge (pc := 18) (tgt := 30) hx hb (tI_nI (by omega)) (tI_nI (by omega)) dX0_at_18 (by decide) (fun c18 => ?_) (fun c18 => ?_)
      · omega
      · refine lv_aload_n (pc := 21) hx hb dX0_at_21 rfl (lv_at hl 0 rfl) ?_
        refine va_get (pc := 22) (D := D) (ci := 0) (v := .ref t1) (C := RX0) (T := TX0) (N := 2) hx hb hts hiX0 hown hK hP 0 rfl rfl 0 (by decide) wf9 (fun _ h9 => h9) rfl dX0_at_22 ?_
        refine lv_iload_n (pc := 25) hx hb dX0_at_25 rfl (lv_at hl 1 rfl) ?_
        refine ra_cald (pc := 26) (k := k) (v := nI (T.1 k)) hx hb hK hP 1 1 rfl rfl (by omega) (by decide) rfl dX0_at_26 ?_
        have hc := ht.1 k
        refine lv_goto (pc := 27) (tgt := 31) hx hb dX0_at_27 (by decide) ?_
        exact hret 31 _ hP hS dX0_at_31 (nar_c (by omega)) rfl ⟨(by unfold tAt; (repeat' split) <;> first | omega | rfl), rfl⟩
abbrev rmX0_figureAt : Room := { frames := 1, cells := 0, slots := 0, locals := 21 }
set_option maxHeartbeats 4000000 in
set_option maxRecDepth 100000 in
theorem k_X0_figureAt (l : Launch) (D : va_G) (cI cC cB cS : ClassId) (t0 t1 : Nat) (T : LT) (k : Nat) (ht : ltOK T) (hkb : k < 100000) : CI l D (kT cI cC cB cS) yX0_figureAt wsX0_figureAt rmX0_figureAt [.ref t0, .int (nI k)] (ltW t0 t1 cC T) (fun r u => r = jI (figZ T k) ∧ u = ltW t0 t1 cC T) := by
  refine ci_intro (by decide) rfl (Nat.le_of_ble_eq_true rfl) ?_
  intro p e s m args below meth c ls A QF hF hK hP hV hS hA hN hl hret
  obtain ⟨hx, hb, hml, hown, hts⟩ := id hF
  have hP : va_P D vwCl (ltW t0 t1 cC T) s.heap := hP
  have hl : lv_has ls 3 [(0, .ref t0), (1, .int (nI k))] := hl
  refine lv_aload_n (pc := 0) hx hb dX0_figureAt_0 rfl (lv_at hl 0 rfl) ?_
  refine lv_iload_n (pc := 1) hx hb dX0_figureAt_1 rfl (lv_at hl 1 rfl) ?_
  refine ci_Vd (pc := 2) (r0 := nI (tAt T k)) hF hN hK hP hV hS hA (k_X0_at l D cI cC cB cS t0 t1 T k ht hkb) (cwV 1 hts gX0_figureAt_X0_at rfl rfl rfl (by decide +kernel) ⟨Nat.le_of_ble_eq_true rfl, Nat.le_of_ble_eq_true rfl⟩) [0, 1] rfl (by decide) 0 0 rfl rfl rfl hl.1 rfl (Nat.le_of_ble_eq_true rfl) dX0_figureAt_2 ⟨Nat.le_refl _, Nat.le_refl _⟩ rfl (ws2 := ltW t0 t1 cC T) rfl (fun H locs hP hS => ?_)
  have fq1 := tAt_lt ht k
  refine lv_istore_n (pc := 5) (lv' := [(2, .int (nI (tAt T k))), (0, .ref t0), (1, .int (nI k))]) hx hb dX0_figureAt_5 rfl hl (by decide) rfl (fun ls hl => ?_)
  refine lv_iload_n (pc := 6) hx hb dX0_figureAt_6 rfl (lv_at hl 0 rfl) ?_
  refine lv_bipush (pc := 7) (v := nI 48) hx hb dX0_figureAt_7 (by decide) ?_
  refine rc_lt (pc := 9) (tgt := 25) hx hb (tI_nI (by omega)) (tI_nI (by omega)) dX0_figureAt_9 (by decide) (fun c9 => ?_) (fun c9 => ?_)
  · refine lv_bipush (pc := 25) (v := jI (-4)) hx hb dX0_figureAt_25 (by decide) ?_
    exact hret 27 _ hP hS dX0_figureAt_27 rfl rfl ⟨(by unfold figZ; (repeat' split) <;> first | omega | exact jI_nat _ | rfl), rfl⟩
  · refine lv_iload_n (pc := 12) hx hb dX0_figureAt_12 rfl (lv_at hl 0 rfl) ?_
    refine lv_bipush (pc := 13) (v := nI 57) hx hb dX0_figureAt_13 (by decide) ?_
    refine rc_gt (pc := 15) (tgt := 25) hx hb (tI_nI (by omega)) (tI_nI (by omega)) dX0_figureAt_15 (by decide) (fun c15 => ?_) (fun c15 => ?_)
    · refine lv_bipush (pc := 25) (v := jI (-4)) hx hb dX0_figureAt_25 (by decide) ?_
      exact hret 27 _ hP hS dX0_figureAt_27 rfl rfl ⟨(by unfold figZ; (repeat' split) <;> first | omega | exact jI_nat _ | rfl), rfl⟩
    · refine lv_iload_n (pc := 18) hx hb dX0_figureAt_18 rfl (lv_at hl 0 rfl) ?_
      refine lv_bipush (pc := 19) (v := nI 48) hx hb dX0_figureAt_19 (by decide) ?_
      refine rn_isub (pc := 21) hx hb (by omega) dX0_figureAt_21 ?_
      refine lv_goto (pc := 22) (tgt := 27) hx hb dX0_figureAt_22 (by decide) ?_
      exact hret 27 _ hP hS dX0_figureAt_27 rfl rfl ⟨(by unfold figZ; (repeat' split) <;> first | omega | exact jI_nat _ | rfl), rfl⟩
