abbrev rmX9_strikeIfShe : Room := { frames := 4, cells := 0, slots := 0, locals := 91 }
set_option maxHeartbeats 4000000 in
set_option maxRecDepth 100000 in
theorem k_X9_strikeIfShe (l : Launch) (D : va_G) (cI cC cB cS : ClassId) (w0 w1 w2 w4 w5 w6 w7 w8 w9 w10 w11 w12 : Nat) (p0 p1 p2 p3 : Nat) (P : PL) (v0 v1 v2 v3 : Nat) (V : ST) (k : Nat) (x : Nat) (hp : pOK P) (hi : sHi V) (hls : (∀ k, V.2.1 k < 40) ∧ ∀ k, V.2.2.1 k < pCells P) (hk : k < 3) (hxc : x < pCells P) : CV l D (kT cI cC cB cS) yX9_strikeIfShe wsX9_strikeIfShe rmX9_strikeIfShe [.ref w0, .ref v0, .int (nI k), .int (nI x)] (rwW w0 w1 w2 p0 w4 w5 w6 w7 w8 w9 w10 w11 w12 ++ plW p0 p1 p2 p3 cI P ++ stW v0 v1 v2 v3 cI V) (fun u => u = rwW w0 w1 w2 p0 w4 w5 w6 w7 w8 w9 w10 w11 w12 ++ plW p0 p1 p2 p3 cI P ++ stW v0 v1 v2 v3 cI (strIf P V k x)) := by
  refine cv_intro (by decide) rfl (Nat.le_of_ble_eq_true rfl) ?_
  intro p e s m args below meth c ls A QF hF hK hP hV hS hA hN hl hret
  obtain ⟨hx, hb, hml, hown, hts⟩ := id hF
  have hP : va_P D vwCl (rwW w0 w1 w2 p0 w4 w5 w6 w7 w8 w9 w10 w11 w12 ++ plW p0 p1 p2 p3 cI P ++ stW v0 v1 v2 v3 cI V) s.heap := hP
  have hl : lv_has ls 4 [(0, .ref w0), (1, .ref v0), (2, .int (nI k)), (3, .int (nI x))] := hl
  have wf26 := hts (.fieldLink RX9 26 "RemorseWall" "plan" "LRemorseWall$Plan;") (by decide +kernel)
  have hiX9 : ∀ w ∈ u_ws RX9 TX9 12, w ∈ wsX9_strikeIfShe := by decide +kernel
  have hlk := hls.1 k
  have hpk := hls.2 k
  refine lv_aload_n (pc := 0) hx hb dX9_strikeIfShe_0 rfl (lv_at hl 0 rfl) ?_
  refine va_get (pc := 1) (D := D) (ci := 9) (v := .ref p0) (C := RX9) (T := TX9) (N := 12) hx hb hts hiX9 hown hK hP 0 rfl rfl 2 (by decide) wf26 (fun _ h9 => h9) rfl dX9_strikeIfShe_1 ?_
  refine lv_aload_n (pc := 4) hx hb dX9_strikeIfShe_4 rfl (lv_at hl 1 rfl) ?_
  refine lv_iload_n (pc := 5) hx hb dX9_strikeIfShe_5 rfl (lv_at hl 2 rfl) ?_
  refine lv_iload_n (pc := 6) hx hb dX9_strikeIfShe_6 rfl (lv_at hl 3 rfl) ?_
  refine ci_Vd (pc := 7) (r0 := nI (if canS P V k x then 1 else 0)) hF hN hK hP hV hS hA (k_X2_canStrike l D cI cC cB cS p0 p1 p2 p3 P v0 v1 v2 v3 V k x hp hk (by omega) (by omega) hxc) (cwV 3 hts gX9_strikeIfShe_X2_canStrike rfl rfl rfl (by decide +kernel) ⟨Nat.le_of_ble_eq_true rfl, Nat.le_of_ble_eq_true rfl⟩) [1, 2, 3, 4, 5, 6, 7, 8] rfl (by decide) 0 2 rfl rfl rfl hl.1 rfl (Nat.le_of_ble_eq_true rfl) dX9_strikeIfShe_7 ⟨Nat.le_refl _, Nat.le_refl _⟩ rfl (ws2 := rwW w0 w1 w2 p0 w4 w5 w6 w7 w8 w9 w10 w11 w12 ++ plW p0 p1 p2 p3 cI P ++ stW v0 v1 v2 v3 cI V) rfl (fun H locs hP hS => ?_)
  refine rb_eq (pc := 10) (tgt := 23) hx hb dX9_strikeIfShe_10 (by decide) (fun c10 => ?_) (fun c10 => ?_)
  · exact hret 23 _ hP hS dX9_strikeIfShe_23 rfl (by unfold strIf; rw [if_neg c10])
  · have hc9 := c10.1
    refine lv_aload_n (pc := 13) hx hb dX9_strikeIfShe_13 rfl (lv_at hl 0 rfl) ?_
    refine va_get (pc := 14) (D := D) (ci := 9) (v := .ref p0) (C := RX9) (T := TX9) (N := 12) hx hb hts hiX9 hown hK hP 0 rfl rfl 2 (by decide) wf26 (fun _ h9 => h9) rfl dX9_strikeIfShe_14 ?_
    refine lv_aload_n (pc := 17) hx hb dX9_strikeIfShe_17 rfl (lv_at hl 1 rfl) ?_
    refine lv_iload_n (pc := 18) hx hb dX9_strikeIfShe_18 rfl (lv_at hl 2 rfl) ?_
    refine lv_iload_n (pc := 19) hx hb dX9_strikeIfShe_19 rfl (lv_at hl 3 rfl) ?_
    refine cv_Vd (pc := 20) hF hN hK hP hV hS hA (k_X2_strike l D cI cC cB cS p0 p1 p2 p3 P v0 v1 v2 v3 V k x hp hi hk (by omega) hxc) (cwV 3 hts gX9_strikeIfShe_X2_strike rfl rfl rfl (by decide +kernel) ⟨Nat.le_of_ble_eq_true rfl, Nat.le_of_ble_eq_true rfl⟩) [1, 2, 3, 4, 5, 6, 7, 8] rfl (by decide) 0 2 rfl rfl rfl hl.1 rfl (Nat.le_of_ble_eq_true rfl) dX9_strikeIfShe_20 ⟨Nat.le_refl _, Nat.le_refl _⟩ rfl (ws2 := rwW w0 w1 w2 p0 w4 w5 w6 w7 w8 w9 w10 w11 w12 ++ plW p0 p1 p2 p3 cI P ++ stW v0 v1 v2 v3 cI (strS P V k x)) rfl (fun H locs hP hS => ?_)
    exact hret 23 _ hP hS dX9_strikeIfShe_23 rfl (by unfold strIf; rw [if_pos c10])
