abbrev rmX8_sum : Room := { frames := 0, cells := 0, slots := 0, locals := 0 }
set_option maxHeartbeats 4000000 in
set_option maxRecDepth 100000 in
theorem k_X8_sum (l : Launch) (D : va_G) (cI cC cB cS : ClassId) (s0 s1 s2 s3 : Nat) (S : ST) (hi : sHi S) : CI l D (kT cI cC cB cS) yX8_sum wsX8_sum rmX8_sum [.ref s0] (stW s0 s1 s2 s3 cI S) (fun r u => r = nI (nSum S.1 24) ∧ u = stW s0 s1 s2 s3 cI S) := by
  refine ci_intro (by decide) rfl (Nat.le_of_ble_eq_true rfl) ?_
  intro p e s m args below meth c ls A QF hF hK hP hV hS hA hN hl hret
  obtain ⟨hx, hb, hml, hown, hts⟩ := id hF
  have hP : va_P D vwCl (stW s0 s1 s2 s3 cI S) s.heap := hP
  have hl : lv_has ls 3 [(0, .ref s0)] := hl
  have wf9 := hts (.fieldLink RX8 9 "RemorseWall$Standing" "high" "[I") (by decide +kernel)
  have hiX8 : ∀ w ∈ u_ws RX8 TX8 5, w ∈ wsX8_sum := by decide +kernel
  refine lv_iconst (pc := 0) (v := nI 0) hx hb dX8_sum_0 (by decide) ?_
  refine lv_istore_n (pc := 1) (lv' := [(1, .int (nI 0)), (0, .ref s0)]) hx hb dX8_sum_1 rfl hl (by decide) rfl (fun ls hl => ?_)
  refine lv_iconst (pc := 2) (v := nI 0) hx hb dX8_sum_2 (by decide) ?_
  refine lv_istore_n (pc := 3) (lv' := [(2, .int (nI 0)), (1, .int (nI 0)), (0, .ref s0)]) hx hb dX8_sum_3 rfl hl (by decide) rfl (fun ls hl => ?_)
  have cut4 : ∀ (fuel : Nat) (i : Nat) (a : Nat) (H : Heap) (locs : List Loc) (ls : Array Slot) (hi24 : i ≤ 24) (ha : a = nSum S.1 i) (hfu : 24 - i < fuel), va_P D vwCl (stW s0 s1 s2 s3 cI S) H → va_S A s.heap H locs → lv_has ls 3 [(2, .int (nI i)), (1, .int (nI a)), (0, .ref s0)] → W p l e rmX8_sum s m args below meth c H locs 0 0 QF (F0 m 4 ls []) := by
    intro fuel
    induction fuel with
    | zero => intro i a H locs ls hi24 ha hfu; omega
    | succ fuel ih4 =>
      intro i a H locs ls hi24 ha hfu hP hS hl
      refine lv_iload_n (pc := 4) hx hb dX8_sum_4 rfl (lv_at hl 0 rfl) ?_
      refine lv_aload_n (pc := 5) hx hb dX8_sum_5 rfl (lv_at hl 2 rfl) ?_
      refine va_get (pc := 6) (D := D) (ci := 8) (v := .ref s1) (C := RX8) (T := TX8) (N := 5) hx hb hts hiX8 hown hK hP 0 rfl rfl 0 (by decide) wf9 (fun _ h9 => h9) rfl dX8_sum_6 ?_
      refine va_alen (pc := 9) (v := nI 24) hx hb hK hP 1 0 rfl rfl rfl dX8_sum_9 ?_
      refine rc_ge (pc := 10) (tgt := 28) hx hb (tI_nI (by omega)) (tI_nI (by omega)) dX8_sum_10 (by decide) (fun c10 => ?_) (fun c10 => ?_)
      · refine lv_iload_n (pc := 28) hx hb dX8_sum_28 rfl (lv_at hl 1 rfl) ?_
        exact hret 29 _ hP hS dX8_sum_29 rfl rfl ⟨(by rw [ha, show i = 24 by omega]), rfl⟩
      · refine lv_iload_n (pc := 13) hx hb dX8_sum_13 rfl (lv_at hl 1 rfl) ?_
        refine lv_aload_n (pc := 14) hx hb dX8_sum_14 rfl (lv_at hl 2 rfl) ?_
        refine va_get (pc := 15) (D := D) (ci := 8) (v := .ref s1) (C := RX8) (T := TX8) (N := 5) hx hb hts hiX8 hown hK hP 0 rfl rfl 0 (by decide) wf9 (fun _ h9 => h9) rfl dX8_sum_15 ?_
        refine lv_iload_n (pc := 18) hx hb dX8_sum_18 rfl (lv_at hl 0 rfl) ?_
        refine ra_iald (pc := 19) (k := i) (v := nI (S.1 i)) hx hb hK hP 1 0 rfl rfl (by omega) (by decide) rfl dX8_sum_19 ?_
        refine rn_iadd (pc := 20) hx hb dX8_sum_20 ?_
        refine lv_istore_n (pc := 21) (lv' := [(1, .int (nI (a + (S.1 i)))), (2, .int (nI i)), (0, .ref s0)]) hx hb dX8_sum_21 rfl hl (by decide) rfl (fun ls hl => ?_)
        refine lv_iinc (pc := 22) (v := nI (i + 1)) (lv' := [(2, .int (nI (i + 1))), (1, .int (nI (a + (S.1 i)))), (0, .ref s0)]) hx hb dX8_sum_22 hl (k := 1) rfl (by rw [← nI_add]; rfl) (by decide) rfl (fun ls hl => ?_)
        refine lv_goto (pc := 25) (tgt := 4) hx hb dX8_sum_25 (by decide) ?_
        exact ih4 (i + 1) (a + S.1 i) _ _ _ (by omega) (by rw [ha]; rfl) (by omega) hP hS (lv_sub hl [0, 1, 2] rfl)
  exact cut4 _ 0 0 _ _ _ (by omega) rfl (Nat.lt_succ_self _) hP hS (lv_sub hl [0, 1, 2] rfl)
abbrev rmX8_leftTo : Room := { frames := 0, cells := 0, slots := 0, locals := 0 }
set_option maxHeartbeats 4000000 in
set_option maxRecDepth 100000 in
theorem k_X8_leftTo (l : Launch) (D : va_G) (cI cC cB cS : ClassId) (s0 s1 s2 s3 : Nat) (S : ST) (k : Nat) (hk : k < 3) : CI l D (kT cI cC cB cS) yX8_leftTo wsX8_leftTo rmX8_leftTo [.ref s0, .int (nI k)] (stW s0 s1 s2 s3 cI S) (fun r u => r = nI (S.2.1 k) ∧ u = stW s0 s1 s2 s3 cI S) := by
  refine ci_intro (by decide) rfl (Nat.le_of_ble_eq_true rfl) ?_
  intro p e s m args below meth c ls A QF hF hK hP hV hS hA hN hl hret
  obtain ⟨hx, hb, hml, hown, hts⟩ := id hF
  have hP : va_P D vwCl (stW s0 s1 s2 s3 cI S) s.heap := hP
  have hl : lv_has ls 2 [(0, .ref s0), (1, .int (nI k))] := hl
  have wf15 := hts (.fieldLink RX8 15 "RemorseWall$Standing" "left" "[I") (by decide +kernel)
  have hiX8 : ∀ w ∈ u_ws RX8 TX8 5, w ∈ wsX8_leftTo := by decide +kernel
  refine lv_iload_n (pc := 0) hx hb dX8_leftTo_0 rfl (lv_at hl 1 rfl) ?_
  refine r0_lt (pc := 1) (tgt := 22) hx hb (tI_nI (by omega)) dX8_leftTo_1 (by decide) (fun c1 => ?_) (fun c1 => ?_)
  · omega
  · refine lv_iload_n (pc := 4) hx hb dX8_leftTo_4 rfl (lv_at hl 1 rfl) ?_
    refine lv_aload_n (pc := 5) hx hb dX8_leftTo_5 rfl (lv_at hl 0 rfl) ?_
    refine va_get (pc := 6) (D := D) (ci := 8) (v := .ref s2) (C := RX8) (T := TX8) (N := 5) hx hb hts hiX8 hown hK hP 0 rfl rfl 1 (by decide) wf15 (fun _ h9 => h9) rfl dX8_leftTo_6 ?_
    refine va_alen (pc := 9) (v := nI 3) hx hb hK hP 2 0 rfl rfl rfl dX8_leftTo_9 ?_
    refine rc_ge (pc := 10) (tgt := 22) hx hb (tI_nI (by omega)) (tI_nI (by omega)) dX8_leftTo_10 (by decide) (fun c10 => ?_) (fun c10 => ?_)
    · omega
    · refine lv_aload_n (pc := 13) hx hb dX8_leftTo_13 rfl (lv_at hl 0 rfl) ?_
      refine va_get (pc := 14) (D := D) (ci := 8) (v := .ref s2) (C := RX8) (T := TX8) (N := 5) hx hb hts hiX8 hown hK hP 0 rfl rfl 1 (by decide) wf15 (fun _ h9 => h9) rfl dX8_leftTo_14 ?_
      refine lv_iload_n (pc := 17) hx hb dX8_leftTo_17 rfl (lv_at hl 1 rfl) ?_
      refine ra_iald (pc := 18) (k := k) (v := nI (S.2.1 k)) hx hb hK hP 2 0 rfl rfl (by omega) (by decide) rfl dX8_leftTo_18 ?_
      refine lv_goto (pc := 19) (tgt := 23) hx hb dX8_leftTo_19 (by decide) ?_
      exact hret 23 _ hP hS dX8_leftTo_23 rfl rfl ⟨rfl, rfl⟩
abbrev rmX8_placeOf : Room := { frames := 0, cells := 0, slots := 0, locals := 0 }
set_option maxHeartbeats 4000000 in
set_option maxRecDepth 100000 in
theorem k_X8_placeOf (l : Launch) (D : va_G) (cI cC cB cS : ClassId) (s0 s1 s2 s3 : Nat) (S : ST) (k : Nat) (hk : k < 3) : CI l D (kT cI cC cB cS) yX8_placeOf wsX8_placeOf rmX8_placeOf [.ref s0, .int (nI k)] (stW s0 s1 s2 s3 cI S) (fun r u => r = nI (S.2.2.1 k) ∧ u = stW s0 s1 s2 s3 cI S) := by
  refine ci_intro (by decide) rfl (Nat.le_of_ble_eq_true rfl) ?_
  intro p e s m args below meth c ls A QF hF hK hP hV hS hA hN hl hret
  obtain ⟨hx, hb, hml, hown, hts⟩ := id hF
  have hP : va_P D vwCl (stW s0 s1 s2 s3 cI S) s.heap := hP
  have hl : lv_has ls 2 [(0, .ref s0), (1, .int (nI k))] := hl
  have wf18 := hts (.fieldLink RX8 18 "RemorseWall$Standing" "place" "[I") (by decide +kernel)
  have hiX8 : ∀ w ∈ u_ws RX8 TX8 5, w ∈ wsX8_placeOf := by decide +kernel
  refine lv_iload_n (pc := 0) hx hb dX8_placeOf_0 rfl (lv_at hl 1 rfl) ?_
  refine r0_lt (pc := 1) (tgt := 22) hx hb (tI_nI (by omega)) dX8_placeOf_1 (by decide) (fun c1 => ?_) (fun c1 => ?_)
  · omega
  · refine lv_iload_n (pc := 4) hx hb dX8_placeOf_4 rfl (lv_at hl 1 rfl) ?_
    refine lv_aload_n (pc := 5) hx hb dX8_placeOf_5 rfl (lv_at hl 0 rfl) ?_
    refine va_get (pc := 6) (D := D) (ci := 8) (v := .ref s3) (C := RX8) (T := TX8) (N := 5) hx hb hts hiX8 hown hK hP 0 rfl rfl 2 (by decide) wf18 (fun _ h9 => h9) rfl dX8_placeOf_6 ?_
    refine va_alen (pc := 9) (v := nI 3) hx hb hK hP 3 0 rfl rfl rfl dX8_placeOf_9 ?_
    refine rc_ge (pc := 10) (tgt := 22) hx hb (tI_nI (by omega)) (tI_nI (by omega)) dX8_placeOf_10 (by decide) (fun c10 => ?_) (fun c10 => ?_)
    · omega
    · refine lv_aload_n (pc := 13) hx hb dX8_placeOf_13 rfl (lv_at hl 0 rfl) ?_
      refine va_get (pc := 14) (D := D) (ci := 8) (v := .ref s3) (C := RX8) (T := TX8) (N := 5) hx hb hts hiX8 hown hK hP 0 rfl rfl 2 (by decide) wf18 (fun _ h9 => h9) rfl dX8_placeOf_14 ?_
      refine lv_iload_n (pc := 17) hx hb dX8_placeOf_17 rfl (lv_at hl 1 rfl) ?_
      refine ra_iald (pc := 18) (k := k) (v := nI (S.2.2.1 k)) hx hb hK hP 3 0 rfl rfl (by omega) (by decide) rfl dX8_placeOf_18 ?_
      refine lv_goto (pc := 19) (tgt := 23) hx hb dX8_placeOf_19 (by decide) ?_
      exact hret 23 _ hP hS dX8_placeOf_23 rfl rfl ⟨rfl, rfl⟩
abbrev rmX8_setLeft : Room := { frames := 0, cells := 0, slots := 0, locals := 0 }
set_option maxHeartbeats 4000000 in
set_option maxRecDepth 100000 in
theorem k_X8_setLeft (l : Launch) (D : va_G) (cI cC cB cS : ClassId) (s0 s1 s2 s3 : Nat) (S : ST) (k : Nat) (v : Nat) (hk : k < 3) : CV l D (kT cI cC cB cS) yX8_setLeft wsX8_setLeft rmX8_setLeft [.ref s0, .int (nI k), .int (nI v)] (stW s0 s1 s2 s3 cI S) (fun u => u = stW s0 s1 s2 s3 cI (S.1, va_up S.2.1 k v, S.2.2)) := by
  refine cv_intro (by decide) rfl (Nat.le_of_ble_eq_true rfl) ?_
  intro p e s m args below meth c ls A QF hF hK hP hV hS hA hN hl hret
  obtain ⟨hx, hb, hml, hown, hts⟩ := id hF
  have hP : va_P D vwCl (stW s0 s1 s2 s3 cI S) s.heap := hP
  have hl : lv_has ls 3 [(0, .ref s0), (1, .int (nI k)), (2, .int (nI v))] := hl
  have wf15 := hts (.fieldLink RX8 15 "RemorseWall$Standing" "left" "[I") (by decide +kernel)
  have hiX8 : ∀ w ∈ u_ws RX8 TX8 5, w ∈ wsX8_setLeft := by decide +kernel
  refine lv_iload_n (pc := 0) hx hb dX8_setLeft_0 rfl (lv_at hl 1 rfl) ?_
  refine r0_lt (pc := 1) (tgt := 20) hx hb (tI_nI (by omega)) dX8_setLeft_1 (by decide) (fun c1 => ?_) (fun c1 => ?_)
  · omega
  · refine lv_iload_n (pc := 4) hx hb dX8_setLeft_4 rfl (lv_at hl 1 rfl) ?_
    refine lv_aload_n (pc := 5) hx hb dX8_setLeft_5 rfl (lv_at hl 0 rfl) ?_
    refine va_get (pc := 6) (D := D) (ci := 8) (v := .ref s2) (C := RX8) (T := TX8) (N := 5) hx hb hts hiX8 hown hK hP 0 rfl rfl 1 (by decide) wf15 (fun _ h9 => h9) rfl dX8_setLeft_6 ?_
    refine va_alen (pc := 9) (v := nI 3) hx hb hK hP 2 0 rfl rfl rfl dX8_setLeft_9 ?_
    refine rc_ge (pc := 10) (tgt := 20) hx hb (tI_nI (by omega)) (tI_nI (by omega)) dX8_setLeft_10 (by decide) (fun c10 => ?_) (fun c10 => ?_)
    · omega
    · refine lv_aload_n (pc := 13) hx hb dX8_setLeft_13 rfl (lv_at hl 0 rfl) ?_
      refine va_get (pc := 14) (D := D) (ci := 8) (v := .ref s2) (C := RX8) (T := TX8) (N := 5) hx hb hts hiX8 hown hK hP 0 rfl rfl 1 (by decide) wf15 (fun _ h9 => h9) rfl dX8_setLeft_14 ?_
      refine lv_iload_n (pc := 17) hx hb dX8_setLeft_17 rfl (lv_at hl 1 rfl) ?_
      refine lv_iload_n (pc := 18) hx hb dX8_setLeft_18 rfl (lv_at hl 2 rfl) ?_
      refine rn_iast (pc := 19) (f := S.2.1) (k := k) (x := v) (ws2 := stW s0 s1 s2 s3 cI (S.1, va_up S.2.1 k v, S.2.2.1, S.2.2.2.1, S.2.2.2.2)) hx hb hK hP hV hS 2 0 rfl rfl (by omega) (by decide) dX8_setLeft_19 rfl rfl (fun H locs hP hS => ?_)
      exact hret 20 _ hP hS dX8_setLeft_20 rfl rfl
abbrev rmX8_setPlace : Room := { frames := 0, cells := 0, slots := 0, locals := 0 }
set_option maxHeartbeats 4000000 in
set_option maxRecDepth 100000 in
theorem k_X8_setPlace (l : Launch) (D : va_G) (cI cC cB cS : ClassId) (s0 s1 s2 s3 : Nat) (S : ST) (k : Nat) (v : Nat) (hk : k < 3) : CV l D (kT cI cC cB cS) yX8_setPlace wsX8_setPlace rmX8_setPlace [.ref s0, .int (nI k), .int (nI v)] (stW s0 s1 s2 s3 cI S) (fun u => u = stW s0 s1 s2 s3 cI (S.1, S.2.1, va_up S.2.2.1 k v, S.2.2.2)) := by
  refine cv_intro (by decide) rfl (Nat.le_of_ble_eq_true rfl) ?_
  intro p e s m args below meth c ls A QF hF hK hP hV hS hA hN hl hret
  obtain ⟨hx, hb, hml, hown, hts⟩ := id hF
  have hP : va_P D vwCl (stW s0 s1 s2 s3 cI S) s.heap := hP
  have hl : lv_has ls 3 [(0, .ref s0), (1, .int (nI k)), (2, .int (nI v))] := hl
  have wf18 := hts (.fieldLink RX8 18 "RemorseWall$Standing" "place" "[I") (by decide +kernel)
  have hiX8 : ∀ w ∈ u_ws RX8 TX8 5, w ∈ wsX8_setPlace := by decide +kernel
  refine lv_iload_n (pc := 0) hx hb dX8_setPlace_0 rfl (lv_at hl 1 rfl) ?_
  refine r0_lt (pc := 1) (tgt := 20) hx hb (tI_nI (by omega)) dX8_setPlace_1 (by decide) (fun c1 => ?_) (fun c1 => ?_)
  · omega
  · refine lv_iload_n (pc := 4) hx hb dX8_setPlace_4 rfl (lv_at hl 1 rfl) ?_
    refine lv_aload_n (pc := 5) hx hb dX8_setPlace_5 rfl (lv_at hl 0 rfl) ?_
    refine va_get (pc := 6) (D := D) (ci := 8) (v := .ref s3) (C := RX8) (T := TX8) (N := 5) hx hb hts hiX8 hown hK hP 0 rfl rfl 2 (by decide) wf18 (fun _ h9 => h9) rfl dX8_setPlace_6 ?_
    refine va_alen (pc := 9) (v := nI 3) hx hb hK hP 3 0 rfl rfl rfl dX8_setPlace_9 ?_
    refine rc_ge (pc := 10) (tgt := 20) hx hb (tI_nI (by omega)) (tI_nI (by omega)) dX8_setPlace_10 (by decide) (fun c10 => ?_) (fun c10 => ?_)
    · omega
    · refine lv_aload_n (pc := 13) hx hb dX8_setPlace_13 rfl (lv_at hl 0 rfl) ?_
      refine va_get (pc := 14) (D := D) (ci := 8) (v := .ref s3) (C := RX8) (T := TX8) (N := 5) hx hb hts hiX8 hown hK hP 0 rfl rfl 2 (by decide) wf18 (fun _ h9 => h9) rfl dX8_setPlace_14 ?_
      refine lv_iload_n (pc := 17) hx hb dX8_setPlace_17 rfl (lv_at hl 1 rfl) ?_
      refine lv_iload_n (pc := 18) hx hb dX8_setPlace_18 rfl (lv_at hl 2 rfl) ?_
      refine rn_iast (pc := 19) (f := S.2.2.1) (k := k) (x := v) (ws2 := stW s0 s1 s2 s3 cI (S.1, S.2.1, va_up S.2.2.1 k v, S.2.2.2.1, S.2.2.2.2)) hx hb hK hP hV hS 3 0 rfl rfl (by omega) (by decide) dX8_setPlace_19 rfl rfl (fun H locs hP hS => ?_)
      exact hret 20 _ hP hS dX8_setPlace_20 rfl rfl
abbrev rmX8_yearIs : Room := { frames := 0, cells := 0, slots := 0, locals := 0 }
set_option maxHeartbeats 4000000 in
set_option maxRecDepth 100000 in
theorem k_X8_yearIs (l : Launch) (D : va_G) (cI cC cB cS : ClassId) (s0 s1 s2 s3 : Nat) (S : ST) : CI l D (kT cI cC cB cS) yX8_yearIs wsX8_yearIs rmX8_yearIs [.ref s0] (stW s0 s1 s2 s3 cI S) (fun r u => r = nI S.2.2.2.2 ∧ u = stW s0 s1 s2 s3 cI S) := by
  refine ci_intro (by decide) rfl (Nat.le_of_ble_eq_true rfl) ?_
  intro p e s m args below meth c ls A QF hF hK hP hV hS hA hN hl hret
  obtain ⟨hx, hb, hml, hown, hts⟩ := id hF
  have hP : va_P D vwCl (stW s0 s1 s2 s3 cI S) s.heap := hP
  have hl : lv_has ls 1 [(0, .ref s0)] := hl
  have wf25 := hts (.fieldLink RX8 25 "RemorseWall$Standing" "year" "I") (by decide +kernel)
  have hiX8 : ∀ w ∈ u_ws RX8 TX8 5, w ∈ wsX8_yearIs := by decide +kernel
  refine lv_aload_n (pc := 0) hx hb dX8_yearIs_0 rfl (lv_at hl 0 rfl) ?_
  refine va_get (pc := 1) (D := D) (ci := 8) (v := .int (nI S.2.2.2.2)) (C := RX8) (T := TX8) (N := 5) hx hb hts hiX8 hown hK hP 0 rfl rfl 4 (by decide) wf25 (fun _ h9 => h9) rfl dX8_yearIs_1 ?_
  exact hret 4 _ hP hS dX8_yearIs_4 rfl rfl ⟨rfl, rfl⟩
abbrev rmX8_nextYear : Room := { frames := 0, cells := 0, slots := 0, locals := 0 }
set_option maxHeartbeats 4000000 in
set_option maxRecDepth 100000 in
theorem k_X8_nextYear (l : Launch) (D : va_G) (cI cC cB cS : ClassId) (s0 s1 s2 s3 : Nat) (S : ST) : CV l D (kT cI cC cB cS) yX8_nextYear wsX8_nextYear rmX8_nextYear [.ref s0] (stW s0 s1 s2 s3 cI S) (fun u => u = stW s0 s1 s2 s3 cI (S.1, S.2.1, S.2.2.1, S.2.2.2.1, S.2.2.2.2 + 1)) := by
  refine cv_intro (by decide) rfl (Nat.le_of_ble_eq_true rfl) ?_
  intro p e s m args below meth c ls A QF hF hK hP hV hS hA hN hl hret
  obtain ⟨hx, hb, hml, hown, hts⟩ := id hF
  have hP : va_P D vwCl (stW s0 s1 s2 s3 cI S) s.heap := hP
  have hl : lv_has ls 1 [(0, .ref s0)] := hl
  have wf25 := hts (.fieldLink RX8 25 "RemorseWall$Standing" "year" "I") (by decide +kernel)
  have hiX8 : ∀ w ∈ u_ws RX8 TX8 5, w ∈ wsX8_nextYear := by decide +kernel
  refine lv_aload_n (pc := 0) hx hb dX8_nextYear_0 rfl (lv_at hl 0 rfl) ?_
  refine lv_dup (pc := 1) hx hb dX8_nextYear_1 rfl ?_
  refine va_get (pc := 2) (D := D) (ci := 8) (v := .int (nI S.2.2.2.2)) (C := RX8) (T := TX8) (N := 5) hx hb hts hiX8 hown hK hP 0 rfl rfl 4 (by decide) wf25 (fun _ h9 => h9) rfl dX8_nextYear_2 ?_
  refine lv_iconst (pc := 5) (v := nI 1) hx hb dX8_nextYear_5 (by decide) ?_
  refine rn_iadd (pc := 6) hx hb dX8_nextYear_6 ?_
  refine ra_put (pc := 7) (D := D) (ci := 8) (v := .int (nI (S.2.2.2.2 + 1))) (ty := .int) (C := RX8) (T := TX8) (N := 5) (ws2 := stW s0 s1 s2 s3 cI (S.1, S.2.1, S.2.2.1, S.2.2.2.1, S.2.2.2.2 + 1)) hx hb hts hiX8 tyX8 tyX8_ok nmX8 hown hK hP hV hS 0 rfl rfl 4 (by decide) wf25 (fun _ h9 => h9) rfl (by decide +kernel) rfl rfl (Nat.le_of_ble_eq_true rfl) dX8_nextYear_7 rfl rfl (fun H locs hP hS => ?_)
  exact hret 10 _ hP hS dX8_nextYear_10 rfl rfl
