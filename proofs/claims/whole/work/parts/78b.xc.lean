abbrev rmX1_init2 : Room := { frames := 2, cells := 9, slots := 72, locals := 100 }
set_option maxHeartbeats 8000000 in
set_option maxRecDepth 100000 in
theorem k_X1_init2 (l : Launch) (D : va_G) (cI cC cB cS : ClassId) (a0 : Nat) : CY l D (kT cI cC cB cS) yX1_init wsX1_init rmX1_init2 9 72 [.ref a0, .int (nI 2)] [(a0, .inr (1, [.null, .int (nI 0)]))] (fun u => ∃ (h1 : Nat) (yb : Nat → Nat), u = [pE a0 h1 pI0, hE 2 h1 cS (pf yb pI0.1), sE (yb 0) (yb 1) (yb 2) (yb 3) (pI0.2.2 0), nE 24 (yb 1) cI (pI0.2.2 0).1, nE 3 (yb 2) cI (pI0.2.2 0).2.1, nE 3 (yb 3) cI (pI0.2.2 0).2.2.1, sE (yb 4) (yb 5) (yb 6) (yb 7) (pI0.2.2 1), nE 24 (yb 5) cI (pI0.2.2 1).1, nE 3 (yb 6) cI (pI0.2.2 1).2.1, nE 3 (yb 7) cI (pI0.2.2 1).2.2.1]) := by
  refine cy_intro (by decide) rfl rfl (Nat.le_of_ble_eq_true rfl) ?_
  intro p e s m args below meth c ls A QF hF hin hK hP hD hS hA hN hO hl hret
  obtain ⟨hx, hb, hml, hown, hts⟩ := id hF
  have hP : va_P D vwCl ([(a0, .inr (1, [.null, .int (nI 0)]))]) s.heap := hP
  have hl : lv_has ls 3 [(0, .ref a0), (1, .int (nI 2))] := hl
  have hiX1 : ∀ w ∈ u_ws RX1 TX1 2, w ∈ wsX1_init := by decide +kernel
  have hiX8 : ∀ w ∈ u_ws RX8 TX8 5, w ∈ wsX1_init := by decide +kernel
  have mk_max_s := (hts (.static Lib.Math.max.name) (by decide +kernel))
  have mk_max_i := (hts (.initialized "java/lang/Math") (by decide +kernel))
  have mk_max_c := (hts (.code Lib.Math.max.name Lib.Math.max.code 2 (some .int)) (by decide +kernel))
  have mk_max_13 := (hts (.methodLink RX1 13 Lib.Math.max.name) (by decide +kernel))
  refine lv_aload_n hx hb dX1_init_0 rfl (lv_at hl 0 rfl) ?_
  refine W.objInit hx hb hown (hts (.methodLink RX1 1 objectInit) (by decide +kernel)) (hts (.instanceMethod objectInit) (by decide +kernel)) (hts (.code objectInit ⟨#[0xb1]⟩ 1 none) (by decide +kernel)) rfl (by rw [hml]; exact hl.1) rfl dX1_init_1 (Nat.le_of_ble_eq_true rfl) (Nat.le_of_ble_eq_true rfl) ?_
  refine W.eq (g2 := F0 m 4 ls []) rfl ?_
  refine lv_aload_n (pc := 4) hx hb dX1_init_4 rfl (lv_at hl 0 rfl) ?_
  refine lv_iconst (pc := 5) (v := nI 0) hx hb dX1_init_5 (by decide) ?_
  refine va_put (D := D) (ci := 1) (v := .int (nI 0)) (ty := .int) (C := RX1) (T := TX1) (N := 2) hx hb hts hiX1 tyX1 tyX1_ok nmX1 hown hK hP hD hS 0 rfl rfl 1 (by decide) (hts (.fieldLink RX1 7 "RemorseWall$Pile" "size" "I") (by decide +kernel)) (fun _ h9 => h9) rfl (by decide +kernel) rfl rfl (Nat.le_of_ble_eq_true rfl) dX1_init_6 (fun H locs hP hD hS => ?_)
  have hP : va_P D vwCl ([(a0, .inr (1, [.null, .int (nI 0)]))]) H := hP
  have hD : va_D A ([(a0, .inr (1, [.null, .int (nI 0)]))]) := hD
  refine lv_aload_n (pc := 9) hx hb dX1_init_9 rfl (lv_at hl 0 rfl) ?_
  refine lv_iconst (pc := 10) (v := nI 1) hx hb dX1_init_10 (by decide) ?_
  refine lv_iload_n (pc := 11) hx hb dX1_init_11 rfl (lv_at hl 1 rfl) ?_
  refine va_mmax (pc := 12) (R := rmX1_init2) (rest := [.ref a0]) hx hb (hml.trans hl.1.symm) hown mk_max_13 mk_max_s mk_max_i mk_max_c (Nat.le_of_ble_eq_true rfl) (Nat.le_of_ble_eq_true rfl) (Nat.zero_le _) (Nat.zero_le _) dX1_init_12 ?_
  refine r_top (show _ = nI 2 from by decide) ?_
  refine rw_newq (pc := 15) hx hb hown (hts (.classLink RX1 19 RX8) (by decide +kernel)) hO hK hP hD hS hA 3 rfl (by omega) (Nat.le_of_ble_eq_true rfl) (Nat.le_of_ble_eq_true rfl) dX1_init_15 (fun h1 H hP hD hS => ?_)
  have hP : va_P D vwCl ([(a0, .inr (1, [.null, .int (nI 0)])), hE 2 h1 cS (fun _ => none)]) H := hP
  have hD : va_D A ([(a0, .inr (1, [.null, .int (nI 0)])), hE 2 h1 cS (fun _ => none)]) := hD
  refine va_putF (D := D) (ci := 1) (v := .ref h1) (ty := .array (.object RX8)) (C := RX1) (T := TX1) (N := 2) hx hb hts hiX1 tyX1 tyX1_ok nmX1 hown hK hP hD hS 0 rfl rfl 0 (by decide) (hts (.fieldLink RX1 21 "RemorseWall$Pile" "held" "[LRemorseWall$Standing;") (by decide +kernel)) (fun _ h9 => h9) rfl hin rfl (by decide +kernel) rfl rfl (Nat.le_of_ble_eq_true rfl) dX1_init_18 (fun H locs hP hD hS => ?_)
  have hP : va_P D vwCl ([(a0, .inr (1, [.ref h1, .int (nI 0)])), hE 2 h1 cS (fun _ => none)]) H := hP
  have hD : va_D A ([(a0, .inr (1, [.ref h1, .int (nI 0)])), hE 2 h1 cS (fun _ => none)]) := hD
  refine lv_iconst (pc := 21) (v := nI 0) hx hb dX1_init_21 (by decide) ?_
  refine lv_istore_n (lv' := [(2, .int (nI 0)), (0, .ref a0), (1, .int (nI 2))]) hx hb dX1_init_22 rfl hl (by decide) rfl (fun ls hl => ?_)
  refine lv_iload_n (pc := 23) hx hb dX1_init_23 rfl (lv_at hl 0 rfl) ?_
  refine lv_aload_n (pc := 24) hx hb dX1_init_24 rfl (lv_at hl 1 rfl) ?_
  refine va_get (pc := 25) (D := D) (ci := 1) (v := .ref h1) (C := RX1) (T := TX1) (N := 2) hx hb hts hiX1 hown hK hP 0 rfl rfl 0 (by decide) (hts (.fieldLink RX1 21 "RemorseWall$Pile" "held" "[LRemorseWall$Standing;") (by decide +kernel)) (fun _ h9 => h9) rfl dX1_init_25 ?_
  refine va_alen (pc := 28) (v := nI 2) hx hb hK hP 1 3 rfl rfl rfl dX1_init_28 ?_
  refine rc_ge (pc := 29) (tgt := 51) hx hb (tI_nI (by omega)) (tI_nI (by omega)) dX1_init_29 (by decide) (fun c29 => (by omega)) (fun c29 => ?_)
  refine lv_aload_n (pc := 32) hx hb dX1_init_32 rfl (lv_at hl 1 rfl) ?_
  refine va_get (pc := 33) (D := D) (ci := 1) (v := .ref h1) (C := RX1) (T := TX1) (N := 2) hx hb hts hiX1 hown hK hP 0 rfl rfl 0 (by decide) (hts (.fieldLink RX1 21 "RemorseWall$Pile" "held" "[LRemorseWall$Standing;") (by decide +kernel)) (fun _ h9 => h9) rfl dX1_init_33 ?_
  refine lv_iload_n (pc := 36) hx hb dX1_init_36 rfl (lv_at hl 0 rfl) ?_
  refine va_new (ci := 8) (fs := [.null, .null, .null, .int (nI 0), .int (nI 0)]) (C := RX8) (T := TX8) (N := 5) hx hb hts hiX8 tyX8 tyX8_ok hown (hts (.classLink RX1 19 RX8) (by decide +kernel)) (hts (.instantiable RX8 5) (by decide +kernel)) (hts (.initialized RX8) (by decide +kernel)) hK hP hD hS hA rfl (fun j hj => by rcases (show j = 0 ∨ j = 1 ∨ j = 2 ∨ j = 3 ∨ j = 4 by omega) with rfl | rfl | rfl | rfl | rfl <;> rfl) (Nat.le_of_ble_eq_true rfl) (Nat.le_of_ble_eq_true rfl) dX1_init_37 (fun n0 H hP hD hS => ?_)
  have hP : va_P D vwCl ([(a0, .inr (1, [.ref h1, .int (nI 0)])), hE 2 h1 cS (fun _ => none), (n0, .inr (8, [.null, .null, .null, .int (nI 0), .int (nI 0)]))]) H := hP
  have hD : va_D A ([(a0, .inr (1, [.ref h1, .int (nI 0)])), hE 2 h1 cS (fun _ => none), (n0, .inr (8, [.null, .null, .null, .int (nI 0), .int (nI 0)]))]) := hD
  refine lv_dup (pc := 40) hx hb dX1_init_40 rfl ?_
  refine cz_IN (wr := [(a0, .inr (1, [.ref h1, .int (nI 0)])), hE 2 h1 cS (fun _ => none)]) (wc := [(n0, .inr (8, [.null, .null, .null, .int (nI 0), .int (nI 0)]))]) (As := []) (rest := [.ref n0, .int (nI 0), .ref h1]) hF hN hK hP hD hS hA (k_X8_init l D cI cC cB cS n0) ⟨va_cnB 0 hts ggX1_init_X8_init rfl rfl rfl (hN _ (List.mem_of_getElem? (i := 8) rfl)) (hts (.initialized RX8) (by decide +kernel)) (by decide +kernel) ⟨(Nat.le_of_ble_eq_true rfl), (Nat.le_of_ble_eq_true rfl)⟩, rfl, hts (.instanceMethod yX8_init) (by decide +kernel)⟩ rfl rfl hl.1 rfl (Nat.le_of_ble_eq_true rfl) dX1_init_41 ⟨(Nat.le_of_ble_eq_true rfl), (Nat.le_of_ble_eq_true rfl)⟩ (fun u H locs hq hP hD hS => ?_)
  obtain ⟨n0_1, n0_2, n0_3, rfl⟩ := hq
  have hP : va_P D vwCl ([(a0, .inr (1, [.ref h1, .int (nI 0)])), hE 2 h1 cS (fun _ => none), sE n0 n0_1 n0_2 n0_3 st0, nE 24 n0_1 cI st0.1, nE 3 n0_2 cI st0.2.1, nE 3 n0_3 cI st0.2.2.1]) H := hP
  have hD : va_D A ([(a0, .inr (1, [.ref h1, .int (nI 0)])), hE 2 h1 cS (fun _ => none), sE n0 n0_1 n0_2 n0_3 st0, nE 24 n0_1 cI st0.1, nE 3 n0_2 cI st0.2.1, nE 3 n0_3 cI st0.2.2.1]) := hD
  refine rd_ast (pc := 44) (k := 0) (v := n0) (f := (fun _ => none)) hx hb hK hP hD hS 1 3 2 8 rfl rfl rfl rfl (by omega) (by decide) dX1_init_44 (fun H locs hP hD hS => ?_)
  have hP : va_P D vwCl ([(a0, .inr (1, [.ref h1, .int (nI 0)])), hE 2 h1 cS (va_up (fun _ => none) 0 (some n0)), sE n0 n0_1 n0_2 n0_3 st0, nE 24 n0_1 cI st0.1, nE 3 n0_2 cI st0.2.1, nE 3 n0_3 cI st0.2.2.1]) H := hP
  have hD : va_D A ([(a0, .inr (1, [.ref h1, .int (nI 0)])), hE 2 h1 cS (va_up (fun _ => none) 0 (some n0)), sE n0 n0_1 n0_2 n0_3 st0, nE 24 n0_1 cI st0.1, nE 3 n0_2 cI st0.2.1, nE 3 n0_3 cI st0.2.2.1]) := hD
  refine lv_iinc (pc := 45) (v := nI 1) (lv' := [(2, .int (nI 1)), (0, .ref a0), (1, .int (nI 2))]) hx hb dX1_init_45 hl (k := 0) rfl (by decide) (by decide) rfl (fun ls hl => ?_)
  refine lv_goto (pc := 48) (tgt := 23) hx hb dX1_init_48 (by decide) ?_
  refine lv_iload_n (pc := 23) hx hb dX1_init_23 rfl (lv_at hl 0 rfl) ?_
  refine lv_aload_n (pc := 24) hx hb dX1_init_24 rfl (lv_at hl 1 rfl) ?_
  refine va_get (pc := 25) (D := D) (ci := 1) (v := .ref h1) (C := RX1) (T := TX1) (N := 2) hx hb hts hiX1 hown hK hP 0 rfl rfl 0 (by decide) (hts (.fieldLink RX1 21 "RemorseWall$Pile" "held" "[LRemorseWall$Standing;") (by decide +kernel)) (fun _ h9 => h9) rfl dX1_init_25 ?_
  refine va_alen (pc := 28) (v := nI 2) hx hb hK hP 1 3 rfl rfl rfl dX1_init_28 ?_
  refine rc_ge (pc := 29) (tgt := 51) hx hb (tI_nI (by omega)) (tI_nI (by omega)) dX1_init_29 (by decide) (fun c29 => (by omega)) (fun c29 => ?_)
  refine lv_aload_n (pc := 32) hx hb dX1_init_32 rfl (lv_at hl 1 rfl) ?_
  refine va_get (pc := 33) (D := D) (ci := 1) (v := .ref h1) (C := RX1) (T := TX1) (N := 2) hx hb hts hiX1 hown hK hP 0 rfl rfl 0 (by decide) (hts (.fieldLink RX1 21 "RemorseWall$Pile" "held" "[LRemorseWall$Standing;") (by decide +kernel)) (fun _ h9 => h9) rfl dX1_init_33 ?_
  refine lv_iload_n (pc := 36) hx hb dX1_init_36 rfl (lv_at hl 0 rfl) ?_
  refine va_new (ci := 8) (fs := [.null, .null, .null, .int (nI 0), .int (nI 0)]) (C := RX8) (T := TX8) (N := 5) hx hb hts hiX8 tyX8 tyX8_ok hown (hts (.classLink RX1 19 RX8) (by decide +kernel)) (hts (.instantiable RX8 5) (by decide +kernel)) (hts (.initialized RX8) (by decide +kernel)) hK hP hD hS hA rfl (fun j hj => by rcases (show j = 0 ∨ j = 1 ∨ j = 2 ∨ j = 3 ∨ j = 4 by omega) with rfl | rfl | rfl | rfl | rfl <;> rfl) (Nat.le_of_ble_eq_true rfl) (Nat.le_of_ble_eq_true rfl) dX1_init_37 (fun n1 H hP hD hS => ?_)
  have hP : va_P D vwCl ([(a0, .inr (1, [.ref h1, .int (nI 0)])), hE 2 h1 cS (va_up (fun _ => none) 0 (some n0)), sE n0 n0_1 n0_2 n0_3 st0, nE 24 n0_1 cI st0.1, nE 3 n0_2 cI st0.2.1, nE 3 n0_3 cI st0.2.2.1, (n1, .inr (8, [.null, .null, .null, .int (nI 0), .int (nI 0)]))]) H := hP
  have hD : va_D A ([(a0, .inr (1, [.ref h1, .int (nI 0)])), hE 2 h1 cS (va_up (fun _ => none) 0 (some n0)), sE n0 n0_1 n0_2 n0_3 st0, nE 24 n0_1 cI st0.1, nE 3 n0_2 cI st0.2.1, nE 3 n0_3 cI st0.2.2.1, (n1, .inr (8, [.null, .null, .null, .int (nI 0), .int (nI 0)]))]) := hD
  refine lv_dup (pc := 40) hx hb dX1_init_40 rfl ?_
  refine cz_IN (wr := [(a0, .inr (1, [.ref h1, .int (nI 0)])), hE 2 h1 cS (va_up (fun _ => none) 0 (some n0)), sE n0 n0_1 n0_2 n0_3 st0, nE 24 n0_1 cI st0.1, nE 3 n0_2 cI st0.2.1, nE 3 n0_3 cI st0.2.2.1]) (wc := [(n1, .inr (8, [.null, .null, .null, .int (nI 0), .int (nI 0)]))]) (As := []) (rest := [.ref n1, .int (nI 1), .ref h1]) hF hN hK hP hD hS hA (k_X8_init l D cI cC cB cS n1) ⟨va_cnB 0 hts ggX1_init_X8_init rfl rfl rfl (hN _ (List.mem_of_getElem? (i := 8) rfl)) (hts (.initialized RX8) (by decide +kernel)) (by decide +kernel) ⟨(Nat.le_of_ble_eq_true rfl), (Nat.le_of_ble_eq_true rfl)⟩, rfl, hts (.instanceMethod yX8_init) (by decide +kernel)⟩ rfl rfl hl.1 rfl (Nat.le_of_ble_eq_true rfl) dX1_init_41 ⟨(Nat.le_of_ble_eq_true rfl), (Nat.le_of_ble_eq_true rfl)⟩ (fun u H locs hq hP hD hS => ?_)
  obtain ⟨n1_1, n1_2, n1_3, rfl⟩ := hq
  have hP : va_P D vwCl ([(a0, .inr (1, [.ref h1, .int (nI 0)])), hE 2 h1 cS (va_up (fun _ => none) 0 (some n0)), sE n0 n0_1 n0_2 n0_3 st0, nE 24 n0_1 cI st0.1, nE 3 n0_2 cI st0.2.1, nE 3 n0_3 cI st0.2.2.1, sE n1 n1_1 n1_2 n1_3 st0, nE 24 n1_1 cI st0.1, nE 3 n1_2 cI st0.2.1, nE 3 n1_3 cI st0.2.2.1]) H := hP
  have hD : va_D A ([(a0, .inr (1, [.ref h1, .int (nI 0)])), hE 2 h1 cS (va_up (fun _ => none) 0 (some n0)), sE n0 n0_1 n0_2 n0_3 st0, nE 24 n0_1 cI st0.1, nE 3 n0_2 cI st0.2.1, nE 3 n0_3 cI st0.2.2.1, sE n1 n1_1 n1_2 n1_3 st0, nE 24 n1_1 cI st0.1, nE 3 n1_2 cI st0.2.1, nE 3 n1_3 cI st0.2.2.1]) := hD
  refine rd_ast (pc := 44) (k := 1) (v := n1) (f := va_up (fun _ => none) 0 (some n0)) hx hb hK hP hD hS 1 3 6 8 rfl rfl rfl rfl (by omega) (by decide) dX1_init_44 (fun H locs hP hD hS => ?_)
  have hP : va_P D vwCl ([(a0, .inr (1, [.ref h1, .int (nI 0)])), hE 2 h1 cS (va_up (va_up (fun _ => none) 0 (some n0)) 1 (some n1)), sE n0 n0_1 n0_2 n0_3 st0, nE 24 n0_1 cI st0.1, nE 3 n0_2 cI st0.2.1, nE 3 n0_3 cI st0.2.2.1, sE n1 n1_1 n1_2 n1_3 st0, nE 24 n1_1 cI st0.1, nE 3 n1_2 cI st0.2.1, nE 3 n1_3 cI st0.2.2.1]) H := hP
  have hD : va_D A ([(a0, .inr (1, [.ref h1, .int (nI 0)])), hE 2 h1 cS (va_up (va_up (fun _ => none) 0 (some n0)) 1 (some n1)), sE n0 n0_1 n0_2 n0_3 st0, nE 24 n0_1 cI st0.1, nE 3 n0_2 cI st0.2.1, nE 3 n0_3 cI st0.2.2.1, sE n1 n1_1 n1_2 n1_3 st0, nE 24 n1_1 cI st0.1, nE 3 n1_2 cI st0.2.1, nE 3 n1_3 cI st0.2.2.1]) := hD
  refine lv_iinc (pc := 45) (v := nI 2) (lv' := [(2, .int (nI 2)), (0, .ref a0), (1, .int (nI 2))]) hx hb dX1_init_45 hl (k := 0) rfl (by decide) (by decide) rfl (fun ls hl => ?_)
  refine lv_goto (pc := 48) (tgt := 23) hx hb dX1_init_48 (by decide) ?_
  refine lv_iload_n (pc := 23) hx hb dX1_init_23 rfl (lv_at hl 0 rfl) ?_
  refine lv_aload_n (pc := 24) hx hb dX1_init_24 rfl (lv_at hl 1 rfl) ?_
  refine va_get (pc := 25) (D := D) (ci := 1) (v := .ref h1) (C := RX1) (T := TX1) (N := 2) hx hb hts hiX1 hown hK hP 0 rfl rfl 0 (by decide) (hts (.fieldLink RX1 21 "RemorseWall$Pile" "held" "[LRemorseWall$Standing;") (by decide +kernel)) (fun _ h9 => h9) rfl dX1_init_25 ?_
  refine va_alen (pc := 28) (v := nI 2) hx hb hK hP 1 3 rfl rfl rfl dX1_init_28 ?_
  refine rc_ge (pc := 29) (tgt := 51) hx hb (tI_nI (by omega)) (tI_nI (by omega)) dX1_init_29 (by decide) (fun c29 => ?_) (fun c29 => (by omega))
  have hP := va_P_arrq (k := 1) (g := pf (fun k => ([n0, n0_1, n0_2, n0_3, n1, n1_1, n1_2, n1_3] : List Nat).getD k 0) (fun j => j)) hP rfl (fun j hj => by rcases (show j = 0 ∨ j = 1 by omega) with rfl | rfl <;> rfl)
  have hD2 := vD_of hD
  refine W.widen (k := 9) (n := 72) (Nat.le_of_ble_eq_true rfl) (Nat.le_of_ble_eq_true rfl) ?_
  exact hret 51 _ hP (vD_to hD2 rfl) hS dX1_init_51 ⟨h1, (fun k => ([n0, n0_1, n0_2, n0_3, n1, n1_1, n1_2, n1_3] : List Nat).getD k 0), rfl⟩
