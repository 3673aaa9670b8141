abbrev rmX10_smooth : Room := { frames := 3, cells := 0, slots := 0, locals := 70 }
set_option maxHeartbeats 4000000 in
set_option maxRecDepth 100000 in
theorem k_X10_smooth (l : Launch) (D : va_G) (cI cC cB cS : ClassId) (o : Nat) (ad : Nat → Nat) (P : PL) (I : RI) (sl : Nat → Nat) (wa : Nat → Nat) (ir : Nat → Nat) (fa : Nat → Int) (fr : Nat → Nat) (qu : Nat → Nat) (x1 : Int32) (z1 : Int) (hz1 : x1.toInt = z1) (x2 : Int32) (z2 : Int) (hz2 : x2.toInt = z2) (x3 : Int32) (z3 : Int) (hz3 : x3.toInt = z3) (S : ST) (ms : Nat → Nat) (hpk : plOK P) (hst : stOK P S) (hm : rM P wa ir ms) (hf0 : rF P sl 0 S) (hsb : sB sl) (hir : ∀ j, ir j < 100) (hwa : ∀ j, wa j < 100) : CI l D (kT cI cC cB cS) yX10_smooth wsX10_smooth rmX10_smooth [.ref o, .int (x1), .int (x2), .int (x3)] ([rmE o ad (pCells P) P.2.2.2.1 P.2.2.2.2.2.1 P.2.2.2.2.2.2 I, nE 384 (ad 25) cI sl, nE 3 (ad 9) cI wa, nE 3 (ad 10) cI ir, zE 984 (ad 36) cI fa, nE 984 (ad 37) cI fr, nE 984 (ad 38) cI qu]) (fun r u => r = jI (zSmooth P S z1 z2 z3) ∧ ∃ (f9 : Nat → Int) (r9 q9 : Nat → Nat) (e9 : Nat), u = [rmE o ad (pCells P) P.2.2.2.1 P.2.2.2.2.2.1 P.2.2.2.2.2.2 (I.1, I.2.1, I.2.2.1, I.2.2.2.1, I.2.2.2.2.1, I.2.2.2.2.2.1, I.2.2.2.2.2.2.1, I.2.2.2.2.2.2.2.1, I.2.2.2.2.2.2.2.2.1, I.2.2.2.2.2.2.2.2.2.1, I.2.2.2.2.2.2.2.2.2.2.1, e9), nE 384 (ad 25) cI sl, nE 3 (ad 9) cI wa, nE 3 (ad 10) cI ir, zE 984 (ad 36) cI f9, nE 984 (ad 37) cI r9, nE 984 (ad 38) cI q9]) := by
  refine ci_intro (by decide) rfl (Nat.le_of_ble_eq_true rfl) ?_
  intro p e s m args below meth c ls A QF hF hK hP hV hS hA hN hl hret
  obtain ⟨hx, hb, hml, hown, hts⟩ := id hF
  have hP : va_P D vwCl ([rmE o ad (pCells P) P.2.2.2.1 P.2.2.2.2.2.1 P.2.2.2.2.2.2 I, nE 384 (ad 25) cI sl, nE 3 (ad 9) cI wa, nE 3 (ad 10) cI ir, zE 984 (ad 36) cI fa, nE 984 (ad 37) cI fr, nE 984 (ad 38) cI qu]) s.heap := hP
  have hl : lv_has ls 9 [(0, .ref o), (1, .int (x1)), (2, .int (x2)), (3, .int (x3))] := hl
  have wf61 := hts (.fieldLink RX10 61 "RemorseWallModel" "slot" "[I") (by decide +kernel)
  have wf74 := hts (.fieldLink RX10 74 "RemorseWallModel" "far" "[I") (by decide +kernel)
  have wf77 := hts (.fieldLink RX10 77 "RemorseWallModel" "from" "[I") (by decide +kernel)
  have wf80 := hts (.fieldLink RX10 80 "RemorseWallModel" "queue" "[I") (by decide +kernel)
  have wf121 := hts (.fieldLink RX10 121 "RemorseWallModel" "cells" "I") (by decide +kernel)
  have wf269 := hts (.fieldLink RX10 269 "RemorseWallModel" "reached" "I") (by decide +kernel)
  have hiX10 : ∀ w ∈ u_ws RX10 TX10 44, w ∈ wsX10_smooth := by decide +kernel
  have hw := hpk.1
  obtain ⟨hp, hc1, hce, hme⟩ := id hw
  obtain ⟨hp1, hp2, hp3, hp4, hp5, hp6, hp7⟩ := id hp
  have hcl := pCells_le hp
  have hs : sHi S := hst.1
  have hr1 := i32_rng x1
  rw [hz1] at hr1
  have hr2 := i32_rng x2
  rw [hz2] at hr2
  have hr3 := i32_rng x3
  rw [hz3] at hr3
  have hslb := sB_h hsb
  refine lv_aload_n (pc := 0) hx hb dX10_smooth_0 rfl (lv_at hl 0 rfl) ?_
  refine lv_iload_n (pc := 1) hx hb dX10_smooth_1 rfl (lv_at hl 1 rfl) ?_
  refine ci_Vd (pc := 2) (r0 := nI (if okX (P.2.2.2.2.2.2) z1 then 1 else 0)) hF hN hK hP hV hS hA (k_X10_isMaid l D cI cC cB cS o ad P I (x1) z1 hz1 hp) (cwV 1 hts gX10_smooth_X10_isMaid rfl rfl rfl (by decide +kernel) ⟨Nat.le_of_ble_eq_true rfl, Nat.le_of_ble_eq_true rfl⟩) [0] rfl (by decide) 0 10 rfl rfl rfl hl.1 rfl (Nat.le_of_ble_eq_true rfl) dX10_smooth_2 ⟨Nat.le_refl _, Nat.le_refl _⟩ rfl (ws2 := [rmE o ad (pCells P) P.2.2.2.1 P.2.2.2.2.2.1 P.2.2.2.2.2.2 I, nE 384 (ad 25) cI sl, nE 3 (ad 9) cI wa, nE 3 (ad 10) cI ir, zE 984 (ad 36) cI fa, nE 984 (ad 37) cI fr, nE 984 (ad 38) cI qu]) rfl (fun H locs hP hS => ?_)
  refine rb_eq (pc := 5) (tgt := 21) hx hb dX10_smooth_5 (by decide) (fun c5 => ?_) (fun c5 => ?_)
  · refine lv_iconst (pc := 21) (v := jI (-1)) hx hb dX10_smooth_21 (by decide) ?_
    exact hret 22 _ hP hS dX10_smooth_22 rfl rfl ⟨(by unfold zSmooth; rw [if_neg (by omega)]), fa, fr, qu, I.2.2.2.2.2.2.2.2.2.2.2, rfl⟩
  · refine lv_aload_n (pc := 8) hx hb dX10_smooth_8 rfl (lv_at hl 0 rfl) ?_
    refine lv_iload_n (pc := 9) hx hb dX10_smooth_9 rfl (lv_at hl 2 rfl) ?_
    refine ci_Vd (pc := 10) (r0 := nI (if okX (pCells P) z2 then 1 else 0)) hF hN hK hP hV hS hA (k_X10_isCell l D cI cC cB cS o ad P I (x2) z2 hz2 hp) (cwV 1 hts gX10_smooth_X10_isCell rfl rfl rfl (by decide +kernel) ⟨Nat.le_of_ble_eq_true rfl, Nat.le_of_ble_eq_true rfl⟩) [0] rfl (by decide) 0 10 rfl rfl rfl hl.1 rfl (Nat.le_of_ble_eq_true rfl) dX10_smooth_10 ⟨Nat.le_refl _, Nat.le_refl _⟩ rfl (ws2 := [rmE o ad (pCells P) P.2.2.2.1 P.2.2.2.2.2.1 P.2.2.2.2.2.2 I, nE 384 (ad 25) cI sl, nE 3 (ad 9) cI wa, nE 3 (ad 10) cI ir, zE 984 (ad 36) cI fa, nE 984 (ad 37) cI fr, nE 984 (ad 38) cI qu]) rfl (fun H locs hP hS => ?_)
    refine rb_eq (pc := 13) (tgt := 21) hx hb dX10_smooth_13 (by decide) (fun c13 => ?_) (fun c13 => ?_)
    · refine lv_iconst (pc := 21) (v := jI (-1)) hx hb dX10_smooth_21 (by decide) ?_
      exact hret 22 _ hP hS dX10_smooth_22 rfl rfl ⟨(by unfold zSmooth; rw [if_neg (by omega)]), fa, fr, qu, I.2.2.2.2.2.2.2.2.2.2.2, rfl⟩
    · refine lv_iload_n (pc := 16) hx hb dX10_smooth_16 rfl (lv_at hl 3 rfl) ?_
      refine lv_iconst (pc := 17) (v := jI (-1)) hx hb dX10_smooth_17 (by decide) ?_
      refine rc_ge (pc := 18) (tgt := 23) hx hb hz3 (jI_to (by omega)) dX10_smooth_18 (by decide) (fun c18 => ?_) (fun c18 => ?_)
      · obtain ⟨mm, rfl⟩ : ∃ k : Nat, z1 = k := ⟨z1.toNat, by omega⟩
        obtain rfl : x1 = nI mm := eq_nI hz1
        obtain ⟨x, rfl⟩ : ∃ k : Nat, z2 = k := ⟨z2.toNat, by omega⟩
        obtain rfl : x2 = nI x := eq_nI hz2
        have hmmx : mm < P.2.2.2.2.2.2 := by omega
        have hx9 : x < pCells P := by omega
        have hfpl := rF_pl hf0 hmmx
        have hfle := rF_le hf0 (show mm < 3 by omega)
        have hfat := rF_at hf0 (show x < 24 by omega)
        have hplk := hst.2.2.1 mm
        have hlek := hst.2.1 mm
        have hhx := hst.1 x
        have hsx : sAt S (x : Int) = S.1 x := by unfold sAt; rw [if_pos (by omega), Int.toNat_natCast]
        obtain ⟨v0, hv0⟩ : ∃ v0 : Nat, v0 = 41 * S.2.2.1 mm + S.1 x := ⟨_, rfl⟩
        have hv41 : v0 / 41 = S.2.2.1 mm := by omega
        have hv42 : v0 % 41 = S.1 x := by omega
        obtain ⟨n, g, hC, hn1, hn2⟩ := bf_ctx (mm := mm) (x := x) (L := S.2.1 mm) hp (show v0 / 41 < pCells P by omega)
        rw [hv41, hv42, ← hsx] at hn1 hn2
        refine lv_iconst (pc := 23) (v := nI 0) hx hb dX10_smooth_23 (by decide) ?_
        refine lv_istore (pc := 24) (lv' := [(4, .int (nI 0)), (0, .ref o), (1, .int (nI mm)), (2, .int (nI x)), (3, .int (x3))]) hx hb dX10_smooth_24 hl (by decide) rfl (fun ls hl => ?_)
        have cut26 : ∀ (fuel : Nat) (i : Nat) (f : Nat → Int) (H : Heap) (locs : List Loc) (ls : Array Slot) (hi9 : i ≤ 984) (hfa : ∀ j, j < i → f j = -4) (hfu : 984 - i < fuel), va_P D vwCl ([rmE o ad (pCells P) P.2.2.2.1 P.2.2.2.2.2.1 P.2.2.2.2.2.2 I, nE 384 (ad 25) cI sl, nE 3 (ad 9) cI wa, nE 3 (ad 10) cI ir, zE 984 (ad 36) cI f, nE 984 (ad 37) cI fr, nE 984 (ad 38) cI qu]) H → va_S A s.heap H locs → lv_has ls 9 [(4, .int (nI i)), (3, .int (x3)), (2, .int (nI x)), (1, .int (nI mm)), (0, .ref o)] → W p l e rmX10_smooth s m args below meth c H locs 0 0 QF (F0 m 26 ls []) := by
          intro fuel
          induction fuel with
          | zero => intro i f H locs ls hi9 hfa hfu; omega
          | succ fuel ih26 =>
            intro i f H locs ls hi9 hfa hfu hP hS hl
            refine lv_iload (pc := 26) hx hb dX10_smooth_26 (lv_at hl 0 rfl) ?_
            refine lv_sipush (pc := 28) (v := nI 984) hx hb dX10_smooth_28 (by decide) ?_
            refine rc_ge (pc := 31) (tgt := 49) hx hb (tI_nI (by omega)) (tI_nI (by omega)) dX10_smooth_31 (by decide) (fun c31 => ?_) (fun c31 => ?_)
            · have hfa4 : ∀ j, j < 984 → f j = -4 := fun j hj => hfa j (by omega)
              refine lv_aload_n (pc := 49) hx hb dX10_smooth_49 rfl (lv_at hl 4 rfl) ?_
              refine va_get (pc := 50) (D := D) (ci := 10) (v := .ref (ad 38)) (C := RX10) (T := TX10) (N := 44) hx hb hts hiX10 hown hK hP 0 rfl rfl 38 (by decide) wf80 (fun _ h9 => h9) rfl dX10_smooth_50 ?_
              refine lv_iconst (pc := 53) (v := nI 0) hx hb dX10_smooth_53 (by decide) ?_
              refine lv_bipush (pc := 54) (v := nI 41) hx hb dX10_smooth_54 (by decide) ?_
              refine lv_aload_n (pc := 56) hx hb dX10_smooth_56 rfl (lv_at hl 4 rfl) ?_
              refine va_get (pc := 57) (D := D) (ci := 10) (v := .ref (ad 25)) (C := RX10) (T := TX10) (N := 44) hx hb hts hiX10 hown hK hP 0 rfl rfl 25 (by decide) wf61 (fun _ h9 => h9) rfl dX10_smooth_57 ?_
              refine lv_bipush (pc := 60) (v := nI 27) hx hb dX10_smooth_60 (by decide) ?_
              refine lv_iload_n (pc := 62) hx hb dX10_smooth_62 rfl (lv_at hl 3 rfl) ?_
              refine rn_iadd (pc := 63) hx hb dX10_smooth_63 ?_
              refine ra_iald (pc := 64) (k := 27 + mm) (v := nI (sl (27 + mm))) hx hb hK hP 1 0 rfl rfl (by omega) (by decide) rfl dX10_smooth_64 ?_
              have hq := hslb (27 + mm)
              refine r_top (show _ = nI (S.2.2.1 mm) from (by rw [hfpl])) ?_
              refine rn_imul (pc := 65) hx hb dX10_smooth_65 ?_
              refine lv_aload_n (pc := 66) hx hb dX10_smooth_66 rfl (lv_at hl 4 rfl) ?_
              refine va_get (pc := 67) (D := D) (ci := 10) (v := .ref (ad 25)) (C := RX10) (T := TX10) (N := 44) hx hb hts hiX10 hown hK hP 0 rfl rfl 25 (by decide) wf61 (fun _ h9 => h9) rfl dX10_smooth_67 ?_
              refine lv_iload_n (pc := 70) hx hb dX10_smooth_70 rfl (lv_at hl 2 rfl) ?_
              refine ra_iald (pc := 71) (k := x) (v := nI (sl x)) hx hb hK hP 1 0 rfl rfl (by omega) (by decide) rfl dX10_smooth_71 ?_
              have hq := hslb x
              refine r_top (show _ = nI (S.1 x) from (by rw [hfat])) ?_
              refine rn_iadd (pc := 72) hx hb dX10_smooth_72 ?_
              refine r_top (show _ = nI (v0) from (by rw [hv0])) ?_
              refine rn_iast (pc := 73) (f := qu) (k := 0) (x := v0) (ws2 := [rmE o ad (pCells P) P.2.2.2.1 P.2.2.2.2.2.1 P.2.2.2.2.2.2 I, nE 384 (ad 25) cI sl, nE 3 (ad 9) cI wa, nE 3 (ad 10) cI ir, zE 984 (ad 36) cI f, nE 984 (ad 37) cI fr, nE 984 (ad 38) cI (va_up qu 0 v0)]) hx hb hK hP hV hS 6 0 rfl rfl (by omega) (by decide) dX10_smooth_73 rfl rfl (fun H locs hP hS => ?_)
              refine lv_aload_n (pc := 74) hx hb dX10_smooth_74 rfl (lv_at hl 4 rfl) ?_
              refine va_get (pc := 75) (D := D) (ci := 10) (v := .ref (ad 36)) (C := RX10) (T := TX10) (N := 44) hx hb hts hiX10 hown hK hP 0 rfl rfl 36 (by decide) wf74 (fun _ h9 => h9) rfl dX10_smooth_75 ?_
              refine lv_aload_n (pc := 78) hx hb dX10_smooth_78 rfl (lv_at hl 4 rfl) ?_
              refine va_get (pc := 79) (D := D) (ci := 10) (v := .ref (ad 38)) (C := RX10) (T := TX10) (N := 44) hx hb hts hiX10 hown hK hP 0 rfl rfl 38 (by decide) wf80 (fun _ h9 => h9) rfl dX10_smooth_79 ?_
              refine lv_iconst (pc := 82) (v := nI 0) hx hb dX10_smooth_82 (by decide) ?_
              refine ra_iald (pc := 83) (k := 0) (v := nI ((va_up qu 0 v0) 0)) hx hb hK hP 6 0 rfl rfl (by omega) (by decide) rfl dX10_smooth_83 ?_
              skip
              refine r_top (show _ = nI (v0) from (by rw [va_up_self])) ?_
              refine lv_iconst (pc := 84) (v := nI 0) hx hb dX10_smooth_84 (by decide) ?_
              refine rz_iast (pc := 85) (f := f) (k := v0) (x := 0) (ws2 := [rmE o ad (pCells P) P.2.2.2.1 P.2.2.2.2.2.1 P.2.2.2.2.2.2 I, nE 384 (ad 25) cI sl, nE 3 (ad 9) cI wa, nE 3 (ad 10) cI ir, zE 984 (ad 36) cI (va_up f v0 0), nE 984 (ad 37) cI fr, nE 984 (ad 38) cI (va_up qu 0 v0)]) hx hb hK hP hV hS 4 0 rfl rfl (by omega) (by decide) dX10_smooth_85 (show nI 0 = jI 0 from jI_nat 0) rfl rfl (fun H locs hP hS => ?_)
              refine lv_aload_n (pc := 86) hx hb dX10_smooth_86 rfl (lv_at hl 4 rfl) ?_
              refine lv_iconst (pc := 87) (v := nI 1) hx hb dX10_smooth_87 (by decide) ?_
              refine ra_put (pc := 88) (D := D) (ci := 10) (v := .int (nI 1)) (ty := .int) (C := RX10) (T := TX10) (N := 44) (ws2 := [rmE o ad (pCells P) P.2.2.2.1 P.2.2.2.2.2.1 P.2.2.2.2.2.2 (I.1, I.2.1, I.2.2.1, I.2.2.2.1, I.2.2.2.2.1, I.2.2.2.2.2.1, I.2.2.2.2.2.2.1, I.2.2.2.2.2.2.2.1, I.2.2.2.2.2.2.2.2.1, I.2.2.2.2.2.2.2.2.2.1, I.2.2.2.2.2.2.2.2.2.2.1, 1), nE 384 (ad 25) cI sl, nE 3 (ad 9) cI wa, nE 3 (ad 10) cI ir, zE 984 (ad 36) cI (va_up f v0 0), nE 984 (ad 37) cI fr, nE 984 (ad 38) cI (va_up qu 0 v0)]) hx hb hts hiX10 tyX10 tyX10_ok nmX10 hown hK hP hV hS 0 rfl rfl 39 (by decide) wf269 (fun _ h9 => h9) rfl (by decide +kernel) rfl rfl (Nat.le_of_ble_eq_true rfl) dX10_smooth_88 rfl rfl (fun H locs hP hS => ?_)
              refine lv_bipush (pc := 91) (v := jI (-4)) hx hb dX10_smooth_91 (by decide) ?_
              refine lv_istore (pc := 93) (lv' := [(4, .int (jI (-4))), (3, .int (x3)), (2, .int (nI x)), (1, .int (nI mm)), (0, .ref o)]) hx hb dX10_smooth_93 hl (by decide) rfl (fun ls hl => ?_)
              refine lv_iconst (pc := 95) (v := nI 0) hx hb dX10_smooth_95 (by decide) ?_
              refine lv_istore (pc := 96) (lv' := [(5, .int (nI 0)), (4, .int (jI (-4))), (3, .int (x3)), (2, .int (nI x)), (1, .int (nI mm)), (0, .ref o)]) hx hb dX10_smooth_96 hl (by decide) rfl (fun ls hl => ?_)
              have cut98 : ∀ (fuel : Nat) (fa2 : Nat → Int) (fr2 : Nat → Nat) (qu2 : Nat → Nat) (re : Nat) (fd : Int) (i : Nat) (H : Heap) (locs : List Loc) (ls : Array Slot) (hI : bfI (pCells P) (S.2.1 mm) n (dV P mm x (S.2.1 mm)) g fa2 fr2 qu2 re fd i) (hfu : 984 - i < fuel), va_P D vwCl ([rmE o ad (pCells P) P.2.2.2.1 P.2.2.2.2.2.1 P.2.2.2.2.2.2 (I.1, I.2.1, I.2.2.1, I.2.2.2.1, I.2.2.2.2.1, I.2.2.2.2.2.1, I.2.2.2.2.2.2.1, I.2.2.2.2.2.2.2.1, I.2.2.2.2.2.2.2.2.1, I.2.2.2.2.2.2.2.2.2.1, I.2.2.2.2.2.2.2.2.2.2.1, re), nE 384 (ad 25) cI sl, nE 3 (ad 9) cI wa, nE 3 (ad 10) cI ir, zE 984 (ad 36) cI fa2, nE 984 (ad 37) cI fr2, nE 984 (ad 38) cI qu2]) H → va_S A s.heap H locs → lv_has ls 9 [(5, .int (nI i)), (4, .int (jI fd)), (3, .int (x3)), (2, .int (nI x)), (1, .int (nI mm)), (0, .ref o)] → W p l e rmX10_smooth s m args below meth c H locs 0 0 QF (F0 m 98 ls []) := by
                intro fuel
                induction fuel with
                | zero => intro fa2 fr2 qu2 re fd i H locs ls hI hfu; omega
                | succ fuel ih98 =>
                  intro fa2 fr2 qu2 re fd i H locs ls hI hfu hP hS hl
                  have hrel := bf_le hI
                  have hfdr := bf_fd hC hI
                  refine lv_iload (pc := 98) hx hb dX10_smooth_98 (lv_at hl 0 rfl) ?_
                  have cut282 : ∀  (H : Heap) (locs : List Loc) (ls : Array Slot) (hE : (n = S.2.1 mm + 1 ∧ fd = -4) ∨ (n ≤ S.2.1 mm ∧ fd = (g n : Int) ∧ bfE n g fa2 fr2)), va_P D vwCl ([rmE o ad (pCells P) P.2.2.2.1 P.2.2.2.2.2.1 P.2.2.2.2.2.2 (I.1, I.2.1, I.2.2.1, I.2.2.2.1, I.2.2.2.2.1, I.2.2.2.2.2.1, I.2.2.2.2.2.2.1, I.2.2.2.2.2.2.2.1, I.2.2.2.2.2.2.2.2.1, I.2.2.2.2.2.2.2.2.2.1, I.2.2.2.2.2.2.2.2.2.2.1, re), nE 384 (ad 25) cI sl, nE 3 (ad 9) cI wa, nE 3 (ad 10) cI ir, zE 984 (ad 36) cI fa2, nE 984 (ad 37) cI fr2, nE 984 (ad 38) cI qu2]) H → va_S A s.heap H locs → lv_has ls 9 [(4, .int (jI fd)), (3, .int (x3)), (2, .int (nI x)), (1, .int (nI mm)), (0, .ref o)] → W p l e rmX10_smooth s m args below meth c H locs 0 0 QF (F0 m 282 ls []) := by
                    intro  H locs ls hE hP hS hl
                    refine lv_iload (pc := 282) hx hb dX10_smooth_282 (lv_at hl 0 rfl) ?_
                    refine r0_lt (pc := 284) (tgt := 291) hx hb (jI_to (by omega)) dX10_smooth_284 (by decide) (fun c284 => ?_) (fun c284 => ?_)
                    · refine lv_iload (pc := 291) hx hb dX10_smooth_291 (lv_at hl 0 rfl) ?_
                      refine r0_ge (pc := 293) (tgt := 301) hx hb (jI_to (by omega)) dX10_smooth_293 (by decide) (fun c293 => ?_) (fun c293 => ?_)
                      · exfalso; omega
                      · refine lv_bipush (pc := 296) (v := jI (-4)) hx hb dX10_smooth_296 (by decide) ?_
                        refine lv_goto (pc := 298) (tgt := 308) hx hb dX10_smooth_298 (by decide) ?_
                        exact hret 308 _ hP hS dX10_smooth_308 rfl rfl ⟨(by rw [zsm_no hmmx hx9 (by omega) (hn1 (hE.elim (fun q9 => q9.1) (fun q9 => by omega)))]), fa2, fr2, qu2, re, rfl⟩
                    · refine lv_iload_n (pc := 287) hx hb dX10_smooth_287 rfl (lv_at hl 1 rfl) ?_
                      refine r0_ge (pc := 288) (tgt := 309) hx hb hz3 dX10_smooth_288 (by decide) (fun c288 => ?_) (fun c288 => ?_)
                      · obtain ⟨k3, rfl⟩ : ∃ k : Nat, z3 = k := ⟨z3.toNat, by omega⟩
                        obtain rfl : x3 = nI k3 := eq_nI hz3
                        obtain ⟨he1, rfl, he3⟩ := hE.resolve_left (fun q9 => by omega)
                        have hgn := bf_g hC he1 (Nat.le_refl n)
                        refine lv_iload_n (pc := 309) hx hb dX10_smooth_309 rfl (lv_at hl 1 rfl) ?_
                        refine lv_aload_n (pc := 310) hx hb dX10_smooth_310 rfl (lv_at hl 4 rfl) ?_
                        refine va_get (pc := 311) (D := D) (ci := 10) (v := .ref (ad 36)) (C := RX10) (T := TX10) (N := 44) hx hb hts hiX10 hown hK hP 0 rfl rfl 36 (by decide) wf74 (fun _ h9 => h9) rfl dX10_smooth_311 ?_
                        refine lv_iload (pc := 314) hx hb dX10_smooth_314 (lv_at hl 0 rfl) ?_
                        refine r_top (show _ = nI (g n) from (jI_nat _)) ?_
                        refine ra_iald (pc := 316) (k := g n) (v := jI (fa2 (g n))) hx hb hK hP 4 0 rfl rfl (by omega) (by decide) rfl dX10_smooth_316 ?_
                        skip
                        refine r_top (show _ = nI (n) from (by rw [he3.1 n (Nat.le_refl n)]; exact jI_nat _)) ?_
                        refine rc_lt (pc := 317) (tgt := 323) hx hb (tI_nI (by omega)) (tI_nI (by omega)) dX10_smooth_317 (by decide) (fun c317 => ?_) (fun c317 => ?_)
                        · refine lv_iload (pc := 323) hx hb dX10_smooth_323 (lv_at hl 0 rfl) ?_
                          refine r_top (show _ = nI (g n) from (jI_nat _)) ?_
                          refine lv_istore (pc := 325) (lv' := [(5, .int (nI (g n))), (4, .int (jI ((g n : Nat) : Int))), (3, .int (nI k3)), (2, .int (nI x)), (1, .int (nI mm)), (0, .ref o)]) hx hb dX10_smooth_325 hl (by decide) rfl (fun ls hl => ?_)
                          refine lv_aload_n (pc := 327) hx hb dX10_smooth_327 rfl (lv_at hl 5 rfl) ?_
                          refine va_get (pc := 328) (D := D) (ci := 10) (v := .ref (ad 36)) (C := RX10) (T := TX10) (N := 44) hx hb hts hiX10 hown hK hP 0 rfl rfl 36 (by decide) wf74 (fun _ h9 => h9) rfl dX10_smooth_328 ?_
                          refine lv_iload (pc := 331) hx hb dX10_smooth_331 (lv_at hl 1 rfl) ?_
                          refine r_top (show _ = nI (g n) from (jI_nat _)) ?_
                          refine ra_iald (pc := 333) (k := g n) (v := jI (fa2 (g n))) hx hb hK hP 4 0 rfl rfl (by omega) (by decide) rfl dX10_smooth_333 ?_
                          skip
                          refine r_top (show _ = nI (n) from (by rw [he3.1 n (Nat.le_refl n)]; exact jI_nat _)) ?_
                          refine lv_istore (pc := 334) (lv' := [(6, .int (nI n)), (5, .int (nI (g n))), (4, .int (jI ((g n : Nat) : Int))), (3, .int (nI k3)), (2, .int (nI x)), (1, .int (nI mm)), (0, .ref o)]) hx hb dX10_smooth_334 hl (by decide) rfl (fun ls hl => ?_)
                          have cut336 : ∀ (fuel : Nat) (d : Nat) (H : Heap) (locs : List Loc) (ls : Array Slot) (hd9 : d ≤ n) (hk9 : k3 + 1 ≤ d) (hfu : d < fuel), va_P D vwCl ([rmE o ad (pCells P) P.2.2.2.1 P.2.2.2.2.2.1 P.2.2.2.2.2.2 (I.1, I.2.1, I.2.2.1, I.2.2.2.1, I.2.2.2.2.1, I.2.2.2.2.2.1, I.2.2.2.2.2.2.1, I.2.2.2.2.2.2.2.1, I.2.2.2.2.2.2.2.2.1, I.2.2.2.2.2.2.2.2.2.1, I.2.2.2.2.2.2.2.2.2.2.1, re), nE 384 (ad 25) cI sl, nE 3 (ad 9) cI wa, nE 3 (ad 10) cI ir, zE 984 (ad 36) cI fa2, nE 984 (ad 37) cI fr2, nE 984 (ad 38) cI qu2]) H → va_S A s.heap H locs → lv_has ls 9 [(6, .int (nI d)), (5, .int (nI (g d))), (3, .int (nI k3)), (0, .ref o)] → W p l e rmX10_smooth s m args below meth c H locs 0 0 QF (F0 m 336 ls []) := by
                            intro fuel
                            induction fuel with
                            | zero => intro d H locs ls hd9 hk9 hfu; omega
                            | succ fuel ih336 =>
                              intro d H locs ls hd9 hk9 hfu hP hS hl
                              have hgd := bf_g hC he1 hd9
                              refine lv_iload (pc := 336) hx hb dX10_smooth_336 (lv_at hl 0 rfl) ?_
                              refine lv_iload_n (pc := 338) hx hb dX10_smooth_338 rfl (lv_at hl 2 rfl) ?_
                              refine lv_iconst (pc := 339) (v := nI 1) hx hb dX10_smooth_339 (by decide) ?_
                              refine rn_iadd (pc := 340) hx hb dX10_smooth_340 ?_
                              refine rc_le (pc := 341) (tgt := 359) hx hb (tI_nI (by omega)) (tI_nI (by omega)) dX10_smooth_341 (by decide) (fun c341 => ?_) (fun c341 => ?_)
                              · refine lv_iload (pc := 359) hx hb dX10_smooth_359 (lv_at hl 1 rfl) ?_
                                refine lv_bipush (pc := 361) (v := nI 41) hx hb dX10_smooth_361 (by decide) ?_
                                refine rn_idiv (pc := 363) hx hb (by omega) (by omega) dX10_smooth_363 ?_
                                exact hret 364 _ hP hS dX10_smooth_364 rfl rfl ⟨(by rw [zsm_at hmmx hx9 (by omega) (hn2 he1).1, ← (hn2 he1).2 (k3 + 1) (by omega), show d = k3 + 1 by omega]; exact (jI_nat _).symm), fa2, fr2, qu2, re, rfl⟩
                              · refine lv_aload_n (pc := 344) hx hb dX10_smooth_344 rfl (lv_at hl 3 rfl) ?_
                                refine va_get (pc := 345) (D := D) (ci := 10) (v := .ref (ad 37)) (C := RX10) (T := TX10) (N := 44) hx hb hts hiX10 hown hK hP 0 rfl rfl 37 (by decide) wf77 (fun _ h9 => h9) rfl dX10_smooth_345 ?_
                                refine lv_iload (pc := 348) hx hb dX10_smooth_348 (lv_at hl 1 rfl) ?_
                                refine ra_iald (pc := 350) (k := g d) (v := nI (fr2 (g d))) hx hb hK hP 5 0 rfl rfl (by omega) (by decide) rfl dX10_smooth_350 ?_
                                skip
                                refine r_top (show _ = nI (g (d - 1)) from (by have h9 := he3.2 (d - 1) (by omega); rw [show d - 1 + 1 = d by omega] at h9; rw [h9])) ?_
                                refine lv_istore (pc := 351) (lv' := [(5, .int (nI (g (d - 1)))), (6, .int (nI d)), (3, .int (nI k3)), (0, .ref o)]) hx hb dX10_smooth_351 hl (by decide) rfl (fun ls hl => ?_)
                                refine lv_iinc (pc := 353) (v := nI (d - 1)) (lv' := [(6, .int (nI (d - 1))), (5, .int (nI (g (d - 1)))), (3, .int (nI k3)), (0, .ref o)]) hx hb dX10_smooth_353 hl (k := 1) rfl (nI_dec (by omega)) (by decide) rfl (fun ls hl => ?_)
                                refine lv_goto (pc := 356) (tgt := 336) hx hb dX10_smooth_356 (by decide) ?_
                                exact ih336 (d - 1) _ _ _ (by omega) (by omega) (by omega) hP hS (lv_sub hl [0, 1, 2, 3] rfl)
                          exact cut336 _ n _ _ _ (Nat.le_refl n) (by omega) (Nat.lt_succ_self _) hP hS (lv_sub hl [0, 1, 3, 6] rfl)
                        · refine lv_bipush (pc := 320) (v := jI (-4)) hx hb dX10_smooth_320 (by decide) ?_
                          exact hret 322 _ hP hS dX10_smooth_322 rfl rfl ⟨(by rw [zsm_far hmmx hx9 (by omega) (by omega) (hn2 he1).1]), fa2, fr2, qu2, re, rfl⟩
                      · refine lv_iload (pc := 291) hx hb dX10_smooth_291 (lv_at hl 0 rfl) ?_
                        refine r0_ge (pc := 293) (tgt := 301) hx hb (jI_to (by omega)) dX10_smooth_293 (by decide) (fun c293 => ?_) (fun c293 => ?_)
                        · obtain ⟨he1, rfl, he3⟩ := hE.resolve_left (fun q9 => by omega)
                          have hgn := bf_g hC he1 (Nat.le_refl n)
                          refine lv_aload_n (pc := 301) hx hb dX10_smooth_301 rfl (lv_at hl 4 rfl) ?_
                          refine va_get (pc := 302) (D := D) (ci := 10) (v := .ref (ad 36)) (C := RX10) (T := TX10) (N := 44) hx hb hts hiX10 hown hK hP 0 rfl rfl 36 (by decide) wf74 (fun _ h9 => h9) rfl dX10_smooth_302 ?_
                          refine lv_iload (pc := 305) hx hb dX10_smooth_305 (lv_at hl 0 rfl) ?_
                          refine r_top (show _ = nI (g n) from (jI_nat _)) ?_
                          refine ra_iald (pc := 307) (k := g n) (v := jI (fa2 (g n))) hx hb hK hP 4 0 rfl rfl (by omega) (by decide) rfl dX10_smooth_307 ?_
                          skip
                          refine r_top (show _ = nI (n) from (by rw [he3.1 n (Nat.le_refl n)]; exact jI_nat _)) ?_
                          exact hret 308 _ hP hS dX10_smooth_308 rfl rfl ⟨(by rw [zsm_all hmmx hx9 (by omega) (hn2 he1).1]; exact (jI_nat n).symm), fa2, fr2, qu2, re, rfl⟩
                        · exfalso; omega
                  refine lv_aload_n (pc := 100) hx hb dX10_smooth_100 rfl (lv_at hl 5 rfl) ?_
                  refine va_get (pc := 101) (D := D) (ci := 10) (v := .int (nI re)) (C := RX10) (T := TX10) (N := 44) hx hb hts hiX10 hown hK hP 0 rfl rfl 39 (by decide) wf269 (fun _ h9 => h9) rfl dX10_smooth_101 ?_
                  refine rc_ge (pc := 104) (tgt := 282) hx hb (tI_nI (by omega)) (tI_nI (by omega)) dX10_smooth_104 (by decide) (fun c104 => ?_) (fun c104 => ?_)
                  · exact cut282  _ _ _ (bf_end hI (by omega))  hP hS (lv_sub hl [1, 2, 3, 4, 5] rfl)
                  · refine lv_iload (pc := 107) hx hb dX10_smooth_107 (lv_at hl 1 rfl) ?_
                    refine r0_ge (pc := 109) (tgt := 282) hx hb (jI_to (by omega)) dX10_smooth_109 (by decide) (fun c109 => ?_) (fun c109 => ?_)
                    · exact cut282  _ _ _ (bf_end hI (by omega))  hP hS (lv_sub hl [1, 2, 3, 4, 5] rfl)
                    · refine lv_aload_n (pc := 112) hx hb dX10_smooth_112 rfl (lv_at hl 5 rfl) ?_
                      refine va_get (pc := 113) (D := D) (ci := 10) (v := .ref (ad 38)) (C := RX10) (T := TX10) (N := 44) hx hb hts hiX10 hown hK hP 0 rfl rfl 38 (by decide) wf80 (fun _ h9 => h9) rfl dX10_smooth_113 ?_
                      refine lv_iload (pc := 116) hx hb dX10_smooth_116 (lv_at hl 0 rfl) ?_
                      refine ra_iald (pc := 118) (k := i) (v := nI (qu2 i)) hx hb hK hP 6 0 rfl rfl (by omega) (by decide) rfl dX10_smooth_118 ?_
                      skip
                      have hqi := bf_q hC hI (by omega)
                      obtain ⟨v, hv⟩ : ∃ v : Nat, v = qu2 i := ⟨_, rfl⟩
                      rw [← hv] at hqi
                      refine r_top (show _ = nI (v) from (by rw [hv])) ?_
                      refine lv_istore (pc := 119) (lv' := [(6, .int (nI v)), (5, .int (nI i)), (4, .int (jI fd)), (3, .int (x3)), (2, .int (nI x)), (1, .int (nI mm)), (0, .ref o)]) hx hb dX10_smooth_119 hl (by decide) rfl (fun ls hl => ?_)
                      have cut141 : ∀ (fuel : Nat) (fa3 : Nat → Int) (fr3 : Nat → Nat) (qu3 : Nat → Nat) (re3 : Nat) (fd3 : Int) (y : Nat) (H : Heap) (locs : List Loc) (ls : Array Slot) (hJ : bfJ (pCells P) (S.2.1 mm) n (dV P mm x (S.2.1 mm)) (chV P mm x) (adV P) g fa3 fr3 qu3 re3 fd3 i y) (hqv : qu3 i = v) (hy9 : y ≤ pCells P) (hfu : pCells P - y < fuel), va_P D vwCl ([rmE o ad (pCells P) P.2.2.2.1 P.2.2.2.2.2.1 P.2.2.2.2.2.2 (I.1, I.2.1, I.2.2.1, I.2.2.2.1, I.2.2.2.2.1, I.2.2.2.2.2.1, I.2.2.2.2.2.2.1, I.2.2.2.2.2.2.2.1, I.2.2.2.2.2.2.2.2.1, I.2.2.2.2.2.2.2.2.2.1, I.2.2.2.2.2.2.2.2.2.2.1, re3), nE 384 (ad 25) cI sl, nE 3 (ad 9) cI wa, nE 3 (ad 10) cI ir, zE 984 (ad 36) cI fa3, nE 984 (ad 37) cI fr3, nE 984 (ad 38) cI qu3]) H → va_S A s.heap H locs → lv_has ls 9 [(7, .int (nI y)), (6, .int (nI v)), (5, .int (nI i)), (4, .int (jI fd3)), (3, .int (x3)), (2, .int (nI x)), (1, .int (nI mm)), (0, .ref o)] → W p l e rmX10_smooth s m args below meth c H locs 0 0 QF (F0 m 141 ls []) := by
                        intro fuel
                        induction fuel with
                        | zero => intro fa3 fr3 qu3 re3 fd3 y H locs ls hJ hqv hy9 hfu; omega
                        | succ fuel ih141 =>
                          intro fa3 fr3 qu3 re3 fd3 y H locs ls hJ hqv hy9 hfu hP hS hl
                          have hrel3 := bf_le2 hJ
                          have hfd3 := bf_fd2 hC hJ
                          have hfv := bf_fv hC hJ
                          rw [hqv] at hfv
                          refine lv_iload (pc := 141) hx hb dX10_smooth_141 (lv_at hl 0 rfl) ?_
                          refine lv_aload_n (pc := 143) hx hb dX10_smooth_143 rfl (lv_at hl 7 rfl) ?_
                          refine va_get (pc := 144) (D := D) (ci := 10) (v := .int (nI (pCells P))) (C := RX10) (T := TX10) (N := 44) hx hb hts hiX10 hown hK hP 0 rfl rfl 0 (by decide) wf121 (fun _ h9 => h9) rfl dX10_smooth_144 ?_
                          refine rc_ge (pc := 147) (tgt := 276) hx hb (tI_nI (by omega)) (tI_nI (by omega)) dX10_smooth_147 (by decide) (fun c147 => ?_) (fun c147 => ?_)
                          · refine lv_iinc (pc := 276) (v := nI (i + 1)) (lv' := [(5, .int (nI (i + 1))), (7, .int (nI y)), (6, .int (nI v)), (4, .int (jI fd3)), (3, .int (x3)), (2, .int (nI x)), (1, .int (nI mm)), (0, .ref o)]) hx hb dX10_smooth_276 hl (k := 2) rfl (by rw [← nI_add]; rfl) (by decide) rfl (fun ls hl => ?_)
                            refine lv_goto (pc := 279) (tgt := 98) hx hb dX10_smooth_279 (by decide) ?_
                            exact ih98 fa3 fr3 qu3 re3 fd3 (i + 1) _ _ _ (bf_leave hC hJ (by rw [hqv]; omega)) (by omega) hP hS (lv_sub hl [0, 3, 4, 5, 6, 7] rfl)
                          · refine lv_aload_n (pc := 150) hx hb dX10_smooth_150 rfl (lv_at hl 7 rfl) ?_
                            refine va_get (pc := 151) (D := D) (ci := 10) (v := .ref (ad 36)) (C := RX10) (T := TX10) (N := 44) hx hb hts hiX10 hown hK hP 0 rfl rfl 36 (by decide) wf74 (fun _ h9 => h9) rfl dX10_smooth_151 ?_
                            refine lv_iload (pc := 154) hx hb dX10_smooth_154 (lv_at hl 1 rfl) ?_
                            refine ra_iald (pc := 156) (k := v) (v := jI (fa3 v)) hx hb hK hP 4 0 rfl rfl (by omega) (by decide) rfl dX10_smooth_156 ?_
                            skip
                            refine lv_aload_n (pc := 157) hx hb dX10_smooth_157 rfl (lv_at hl 7 rfl) ?_
                            refine va_get (pc := 158) (D := D) (ci := 10) (v := .ref (ad 25)) (C := RX10) (T := TX10) (N := 44) hx hb hts hiX10 hown hK hP 0 rfl rfl 25 (by decide) wf61 (fun _ h9 => h9) rfl dX10_smooth_158 ?_
                            refine lv_bipush (pc := 161) (v := nI 24) hx hb dX10_smooth_161 (by decide) ?_
                            refine lv_iload_n (pc := 163) hx hb dX10_smooth_163 rfl (lv_at hl 6 rfl) ?_
                            refine rn_iadd (pc := 164) hx hb dX10_smooth_164 ?_
                            refine ra_iald (pc := 165) (k := 24 + mm) (v := nI (sl (24 + mm))) hx hb hK hP 1 0 rfl rfl (by omega) (by decide) rfl dX10_smooth_165 ?_
                            have hq := hslb (24 + mm)
                            refine r_top (show _ = nI (S.2.1 mm) from (by rw [hfle])) ?_
                            refine rc_ge (pc := 166) (tgt := 276) hx hb (jI_to (by omega)) (tI_nI (by omega)) dX10_smooth_166 (by decide) (fun c166 => ?_) (fun c166 => ?_)
                            · refine lv_iinc (pc := 276) (v := nI (i + 1)) (lv' := [(5, .int (nI (i + 1))), (7, .int (nI y)), (6, .int (nI v)), (4, .int (jI fd3)), (3, .int (x3)), (2, .int (nI x)), (1, .int (nI mm)), (0, .ref o)]) hx hb dX10_smooth_276 hl (k := 2) rfl (by rw [← nI_add]; rfl) (by decide) rfl (fun ls hl => ?_)
                              refine lv_goto (pc := 279) (tgt := 98) hx hb dX10_smooth_279 (by decide) ?_
                              exact ih98 fa3 fr3 qu3 re3 fd3 (i + 1) _ _ _ (bf_leave hC hJ (by rw [hqv]; omega)) (by omega) hP hS (lv_sub hl [0, 3, 4, 5, 6, 7] rfl)
                            · refine lv_bipush (pc := 169) (v := nI 41) hx hb dX10_smooth_169 (by decide) ?_
                              refine lv_iload (pc := 171) hx hb dX10_smooth_171 (lv_at hl 0 rfl) ?_
                              refine rn_imul (pc := 173) hx hb dX10_smooth_173 ?_
                              refine lv_aload_n (pc := 174) hx hb dX10_smooth_174 rfl (lv_at hl 7 rfl) ?_
                              refine lv_iload_n (pc := 175) hx hb dX10_smooth_175 rfl (lv_at hl 6 rfl) ?_
                              refine lv_iload_n (pc := 176) hx hb dX10_smooth_176 rfl (lv_at hl 5 rfl) ?_
                              refine lv_iload (pc := 177) hx hb dX10_smooth_177 (lv_at hl 1 rfl) ?_
                              refine lv_bipush (pc := 179) (v := nI 41) hx hb dX10_smooth_179 (by decide) ?_
                              refine rn_irem (pc := 181) hx hb (by omega) (by omega) dX10_smooth_181 ?_
                              refine lv_iload (pc := 182) hx hb dX10_smooth_182 (lv_at hl 0 rfl) ?_
                              refine ci_Vd (pc := 184) (r0 := nI (lowS P mm x (v % 41) y)) hF hN hK hP hV hS hA (k_X10_behindStroke l D cI cC cB cS o ad P (I.1, I.2.1, I.2.2.1, I.2.2.2.1, I.2.2.2.2.1, I.2.2.2.2.2.1, I.2.2.2.2.2.2.1, I.2.2.2.2.2.2.2.1, I.2.2.2.2.2.2.2.2.1, I.2.2.2.2.2.2.2.2.2.1, I.2.2.2.2.2.2.2.2.2.2.1, re3) wa ir mm x (v % 41) y ms hp hm hir hwa hmmx (by omega) (by omega) (by omega)) (cwV 4 hts gX10_smooth_X10_behindStroke rfl rfl rfl (by decide +kernel) ⟨Nat.le_of_ble_eq_true rfl, Nat.le_of_ble_eq_true rfl⟩) [0, 2, 3] rfl (by decide) 0 10 rfl rfl rfl hl.1 rfl (Nat.le_of_ble_eq_true rfl) dX10_smooth_184 ⟨Nat.le_refl _, Nat.le_refl _⟩ rfl (ws2 := [rmE o ad (pCells P) P.2.2.2.1 P.2.2.2.2.2.1 P.2.2.2.2.2.2 (I.1, I.2.1, I.2.2.1, I.2.2.2.1, I.2.2.2.2.1, I.2.2.2.2.2.1, I.2.2.2.2.2.2.1, I.2.2.2.2.2.2.2.1, I.2.2.2.2.2.2.2.2.1, I.2.2.2.2.2.2.2.2.2.1, I.2.2.2.2.2.2.2.2.2.2.1, re3), nE 384 (ad 25) cI sl, nE 3 (ad 9) cI wa, nE 3 (ad 10) cI ir, zE 984 (ad 36) cI fa3, nE 984 (ad 37) cI fr3, nE 984 (ad 38) cI qu3]) rfl (fun H locs hP hS => ?_)
                              have fq3 := lowS_le P mm x (v % 41) y
                              refine rn_iadd (pc := 187) hx hb dX10_smooth_187 ?_
                              obtain ⟨t, ht⟩ : ∃ t : Nat, t = chV P mm x v y := ⟨_, rfl⟩
                              have ht9 : t < 984 := by rw [ht]; exact bf_ch hC (by omega)
                              have hft := bf_ft hJ ht9
                              refine r_top (show _ = nI (t) from (by rw [ht])) ?_
                              refine lv_istore (pc := 188) (lv' := [(8, .int (nI t)), (7, .int (nI y)), (6, .int (nI v)), (5, .int (nI i)), (4, .int (jI fd3)), (3, .int (x3)), (2, .int (nI x)), (1, .int (nI mm)), (0, .ref o)]) hx hb dX10_smooth_188 hl (by decide) rfl (fun ls hl => ?_)
                              refine lv_iload (pc := 190) hx hb dX10_smooth_190 (lv_at hl 2 rfl) ?_
                              refine lv_bipush (pc := 192) (v := nI 41) hx hb dX10_smooth_192 (by decide) ?_
                              refine rn_idiv (pc := 194) hx hb (by omega) (by omega) dX10_smooth_194 ?_
                              refine lv_iload (pc := 195) hx hb dX10_smooth_195 (lv_at hl 1 rfl) ?_
                              refine rc_eq (pc := 197) (tgt := 214) hx hb (tI_nI (by omega)) (tI_nI (by omega)) dX10_smooth_197 (by decide) (fun c197 => ?_) (fun c197 => ?_)
                              · refine lv_aload_n (pc := 214) hx hb dX10_smooth_214 rfl (lv_at hl 8 rfl) ?_
                                refine va_get (pc := 215) (D := D) (ci := 10) (v := .ref (ad 36)) (C := RX10) (T := TX10) (N := 44) hx hb hts hiX10 hown hK hP 0 rfl rfl 36 (by decide) wf74 (fun _ h9 => h9) rfl dX10_smooth_215 ?_
                                refine lv_iload (pc := 218) hx hb dX10_smooth_218 (lv_at hl 0 rfl) ?_
                                refine ra_iald (pc := 220) (k := t) (v := jI (fa3 t)) hx hb hK hP 4 0 rfl rfl (by omega) (by decide) rfl dX10_smooth_220 ?_
                                skip
                                refine r0_ge (pc := 221) (tgt := 270) hx hb (jI_to (by omega)) dX10_smooth_221 (by decide) (fun c221 => ?_) (fun c221 => ?_)
                                · refine lv_iinc (pc := 270) (v := nI (y + 1)) (lv' := [(7, .int (nI (y + 1))), (8, .int (nI t)), (6, .int (nI v)), (5, .int (nI i)), (4, .int (jI fd3)), (3, .int (x3)), (2, .int (nI x)), (1, .int (nI mm)), (0, .ref o)]) hx hb dX10_smooth_270 hl (k := 1) rfl (by rw [← nI_add]; rfl) (by decide) rfl (fun ls hl => ?_)
                                  refine lv_goto (pc := 273) (tgt := 141) hx hb dX10_smooth_273 (by decide) ?_
                                  exact ih141 fa3 fr3 qu3 re3 fd3 (y + 1) _ _ _ (bf_skip hC hJ (by omega) (by rw [hqv, ← ht]; exact fun q9 => absurd q9.2 (by omega))) hqv (by omega) (by omega) hP hS (lv_sub hl [0, 2, 3, 4, 5, 6, 7, 8] rfl)
                                · have hre9 := bf_re hJ ht9 (by omega)
                                  refine lv_aload_n (pc := 224) hx hb dX10_smooth_224 rfl (lv_at hl 8 rfl) ?_
                                  refine va_get (pc := 225) (D := D) (ci := 10) (v := .ref (ad 36)) (C := RX10) (T := TX10) (N := 44) hx hb hts hiX10 hown hK hP 0 rfl rfl 36 (by decide) wf74 (fun _ h9 => h9) rfl dX10_smooth_225 ?_
                                  refine lv_iload (pc := 228) hx hb dX10_smooth_228 (lv_at hl 0 rfl) ?_
                                  refine lv_aload_n (pc := 230) hx hb dX10_smooth_230 rfl (lv_at hl 8 rfl) ?_
                                  refine va_get (pc := 231) (D := D) (ci := 10) (v := .ref (ad 36)) (C := RX10) (T := TX10) (N := 44) hx hb hts hiX10 hown hK hP 0 rfl rfl 36 (by decide) wf74 (fun _ h9 => h9) rfl dX10_smooth_231 ?_
                                  refine lv_iload (pc := 234) hx hb dX10_smooth_234 (lv_at hl 2 rfl) ?_
                                  refine ra_iald (pc := 236) (k := v) (v := jI (fa3 v)) hx hb hK hP 4 0 rfl rfl (by omega) (by decide) rfl dX10_smooth_236 ?_
                                  skip
                                  refine lv_iconst (pc := 237) (v := nI 1) hx hb dX10_smooth_237 (by decide) ?_
                                  refine rz_iadd (pc := 238) hx hb rfl (show nI 1 = jI 1 from jI_nat 1) dX10_smooth_238 ?_
                                  refine rz_iast (pc := 239) (f := fa3) (k := t) (x := (fa3 v) + 1) (ws2 := [rmE o ad (pCells P) P.2.2.2.1 P.2.2.2.2.2.1 P.2.2.2.2.2.2 (I.1, I.2.1, I.2.2.1, I.2.2.2.1, I.2.2.2.2.1, I.2.2.2.2.2.1, I.2.2.2.2.2.2.1, I.2.2.2.2.2.2.2.1, I.2.2.2.2.2.2.2.2.1, I.2.2.2.2.2.2.2.2.2.1, I.2.2.2.2.2.2.2.2.2.2.1, re3), nE 384 (ad 25) cI sl, nE 3 (ad 9) cI wa, nE 3 (ad 10) cI ir, zE 984 (ad 36) cI (va_up fa3 t ((fa3 v) + 1)), nE 984 (ad 37) cI fr3, nE 984 (ad 38) cI qu3]) hx hb hK hP hV hS 4 0 rfl rfl (by omega) (by decide) dX10_smooth_239 rfl rfl rfl (fun H locs hP hS => ?_)
                                  refine lv_aload_n (pc := 240) hx hb dX10_smooth_240 rfl (lv_at hl 8 rfl) ?_
                                  refine va_get (pc := 241) (D := D) (ci := 10) (v := .ref (ad 37)) (C := RX10) (T := TX10) (N := 44) hx hb hts hiX10 hown hK hP 0 rfl rfl 37 (by decide) wf77 (fun _ h9 => h9) rfl dX10_smooth_241 ?_
                                  refine lv_iload (pc := 244) hx hb dX10_smooth_244 (lv_at hl 0 rfl) ?_
                                  refine lv_iload (pc := 246) hx hb dX10_smooth_246 (lv_at hl 2 rfl) ?_
                                  refine rn_iast (pc := 248) (f := fr3) (k := t) (x := v) (ws2 := [rmE o ad (pCells P) P.2.2.2.1 P.2.2.2.2.2.1 P.2.2.2.2.2.2 (I.1, I.2.1, I.2.2.1, I.2.2.2.1, I.2.2.2.2.1, I.2.2.2.2.2.1, I.2.2.2.2.2.2.1, I.2.2.2.2.2.2.2.1, I.2.2.2.2.2.2.2.2.1, I.2.2.2.2.2.2.2.2.2.1, I.2.2.2.2.2.2.2.2.2.2.1, re3), nE 384 (ad 25) cI sl, nE 3 (ad 9) cI wa, nE 3 (ad 10) cI ir, zE 984 (ad 36) cI (va_up fa3 t ((fa3 v) + 1)), nE 984 (ad 37) cI (va_up fr3 t v), nE 984 (ad 38) cI qu3]) hx hb hK hP hV hS 5 0 rfl rfl (by omega) (by decide) dX10_smooth_248 rfl rfl (fun H locs hP hS => ?_)
                                  refine lv_aload_n (pc := 249) hx hb dX10_smooth_249 rfl (lv_at hl 8 rfl) ?_
                                  refine va_get (pc := 250) (D := D) (ci := 10) (v := .ref (ad 38)) (C := RX10) (T := TX10) (N := 44) hx hb hts hiX10 hown hK hP 0 rfl rfl 38 (by decide) wf80 (fun _ h9 => h9) rfl dX10_smooth_250 ?_
                                  refine lv_aload_n (pc := 253) hx hb dX10_smooth_253 rfl (lv_at hl 8 rfl) ?_
                                  refine va_get (pc := 254) (D := D) (ci := 10) (v := .int (nI re3)) (C := RX10) (T := TX10) (N := 44) hx hb hts hiX10 hown hK hP 0 rfl rfl 39 (by decide) wf269 (fun _ h9 => h9) rfl dX10_smooth_254 ?_
                                  refine lv_iload (pc := 257) hx hb dX10_smooth_257 (lv_at hl 0 rfl) ?_
                                  refine rn_iast (pc := 259) (f := qu3) (k := re3) (x := t) (ws2 := [rmE o ad (pCells P) P.2.2.2.1 P.2.2.2.2.2.1 P.2.2.2.2.2.2 (I.1, I.2.1, I.2.2.1, I.2.2.2.1, I.2.2.2.2.1, I.2.2.2.2.2.1, I.2.2.2.2.2.2.1, I.2.2.2.2.2.2.2.1, I.2.2.2.2.2.2.2.2.1, I.2.2.2.2.2.2.2.2.2.1, I.2.2.2.2.2.2.2.2.2.2.1, re3), nE 384 (ad 25) cI sl, nE 3 (ad 9) cI wa, nE 3 (ad 10) cI ir, zE 984 (ad 36) cI (va_up fa3 t ((fa3 v) + 1)), nE 984 (ad 37) cI (va_up fr3 t v), nE 984 (ad 38) cI (va_up qu3 re3 t)]) hx hb hK hP hV hS 6 0 rfl rfl (by omega) (by decide) dX10_smooth_259 rfl rfl (fun H locs hP hS => ?_)
                                  refine lv_aload_n (pc := 260) hx hb dX10_smooth_260 rfl (lv_at hl 8 rfl) ?_
                                  refine lv_dup (pc := 261) hx hb dX10_smooth_261 rfl ?_
                                  refine va_get (pc := 262) (D := D) (ci := 10) (v := .int (nI re3)) (C := RX10) (T := TX10) (N := 44) hx hb hts hiX10 hown hK hP 0 rfl rfl 39 (by decide) wf269 (fun _ h9 => h9) rfl dX10_smooth_262 ?_
                                  refine lv_iconst (pc := 265) (v := nI 1) hx hb dX10_smooth_265 (by decide) ?_
                                  refine rn_iadd (pc := 266) hx hb dX10_smooth_266 ?_
                                  refine ra_put (pc := 267) (D := D) (ci := 10) (v := .int (nI (re3 + 1))) (ty := .int) (C := RX10) (T := TX10) (N := 44) (ws2 := [rmE o ad (pCells P) P.2.2.2.1 P.2.2.2.2.2.1 P.2.2.2.2.2.2 (I.1, I.2.1, I.2.2.1, I.2.2.2.1, I.2.2.2.2.1, I.2.2.2.2.2.1, I.2.2.2.2.2.2.1, I.2.2.2.2.2.2.2.1, I.2.2.2.2.2.2.2.2.1, I.2.2.2.2.2.2.2.2.2.1, I.2.2.2.2.2.2.2.2.2.2.1, re3 + 1), nE 384 (ad 25) cI sl, nE 3 (ad 9) cI wa, nE 3 (ad 10) cI ir, zE 984 (ad 36) cI (va_up fa3 t ((fa3 v) + 1)), nE 984 (ad 37) cI (va_up fr3 t v), nE 984 (ad 38) cI (va_up qu3 re3 t)]) hx hb hts hiX10 tyX10 tyX10_ok nmX10 hown hK hP hV hS 0 rfl rfl 39 (by decide) wf269 (fun _ h9 => h9) rfl (by decide +kernel) rfl rfl (Nat.le_of_ble_eq_true rfl) dX10_smooth_267 rfl rfl (fun H locs hP hS => ?_)
                                  refine lv_iinc (pc := 270) (v := nI (y + 1)) (lv' := [(7, .int (nI (y + 1))), (8, .int (nI t)), (6, .int (nI v)), (5, .int (nI i)), (4, .int (jI fd3)), (3, .int (x3)), (2, .int (nI x)), (1, .int (nI mm)), (0, .ref o)]) hx hb dX10_smooth_270 hl (k := 1) rfl (by rw [← nI_add]; rfl) (by decide) rfl (fun ls hl => ?_)
                                  refine lv_goto (pc := 273) (tgt := 141) hx hb dX10_smooth_273 (by decide) ?_
                                  exact ih141 (va_up fa3 t ((fa3 v) + 1)) (va_up fr3 t v) (va_up qu3 re3 t) (re3 + 1) fd3 (y + 1) _ _ _ (by have h9 := bf_add (t := t) hC hJ (by omega) (by rw [hqv]; omega) (by rw [hqv]; exact Or.inl (by omega)) (by rw [hqv]; exact ht) (by omega); rw [hqv] at h9; exact h9) (by rw [va_up_ne _ _ (by omega)]; exact hqv) (by omega) (by omega) hP hS (lv_sub hl [0, 2, 3, 4, 5, 6, 7, 8] rfl)
                              · refine lv_aload_n (pc := 200) hx hb dX10_smooth_200 rfl (lv_at hl 8 rfl) ?_
                                refine lv_iload (pc := 201) hx hb dX10_smooth_201 (lv_at hl 2 rfl) ?_
                                refine lv_bipush (pc := 203) (v := nI 41) hx hb dX10_smooth_203 (by decide) ?_
                                refine rn_idiv (pc := 205) hx hb (by omega) (by omega) dX10_smooth_205 ?_
                                refine lv_iload (pc := 206) hx hb dX10_smooth_206 (lv_at hl 1 rfl) ?_
                                refine ci_Vd (pc := 208) (r0 := nI (if nxt P (v / 41) y then 1 else 0)) hF hN hK hP hV hS hA (k_X10_isNext l D cI cC cB cS o ad P (I.1, I.2.1, I.2.2.1, I.2.2.2.1, I.2.2.2.2.1, I.2.2.2.2.2.1, I.2.2.2.2.2.2.1, I.2.2.2.2.2.2.2.1, I.2.2.2.2.2.2.2.2.1, I.2.2.2.2.2.2.2.2.2.1, I.2.2.2.2.2.2.2.2.2.2.1, re3) (v / 41) y hp (by omega) (by omega)) (cwV 2 hts gX10_smooth_X10_isNext rfl rfl rfl (by decide +kernel) ⟨Nat.le_of_ble_eq_true rfl, Nat.le_of_ble_eq_true rfl⟩) [0] rfl (by decide) 0 10 rfl rfl rfl hl.1 rfl (Nat.le_of_ble_eq_true rfl) dX10_smooth_208 ⟨Nat.le_refl _, Nat.le_refl _⟩ rfl (ws2 := [rmE o ad (pCells P) P.2.2.2.1 P.2.2.2.2.2.1 P.2.2.2.2.2.2 (I.1, I.2.1, I.2.2.1, I.2.2.2.1, I.2.2.2.2.1, I.2.2.2.2.2.1, I.2.2.2.2.2.2.1, I.2.2.2.2.2.2.2.1, I.2.2.2.2.2.2.2.2.1, I.2.2.2.2.2.2.2.2.2.1, I.2.2.2.2.2.2.2.2.2.2.1, re3), nE 384 (ad 25) cI sl, nE 3 (ad 9) cI wa, nE 3 (ad 10) cI ir, zE 984 (ad 36) cI fa3, nE 984 (ad 37) cI fr3, nE 984 (ad 38) cI qu3]) rfl (fun H locs hP hS => ?_)
                                refine rb_eq (pc := 211) (tgt := 270) hx hb dX10_smooth_211 (by decide) (fun c211 => ?_) (fun c211 => ?_)
                                · refine lv_iinc (pc := 270) (v := nI (y + 1)) (lv' := [(7, .int (nI (y + 1))), (8, .int (nI t)), (6, .int (nI v)), (5, .int (nI i)), (4, .int (jI fd3)), (3, .int (x3)), (2, .int (nI x)), (1, .int (nI mm)), (0, .ref o)]) hx hb dX10_smooth_270 hl (k := 1) rfl (by rw [← nI_add]; rfl) (by decide) rfl (fun ls hl => ?_)
                                  refine lv_goto (pc := 273) (tgt := 141) hx hb dX10_smooth_273 (by decide) ?_
                                  exact ih141 fa3 fr3 qu3 re3 fd3 (y + 1) _ _ _ (bf_skip hC hJ (by omega) (by rw [hqv]; exact fun q9 => q9.1.elim (fun e9 => absurd e9 (by omega)) c211)) hqv (by omega) (by omega) hP hS (lv_sub hl [0, 2, 3, 4, 5, 6, 7, 8] rfl)
                                · refine lv_aload_n (pc := 214) hx hb dX10_smooth_214 rfl (lv_at hl 8 rfl) ?_
                                  refine va_get (pc := 215) (D := D) (ci := 10) (v := .ref (ad 36)) (C := RX10) (T := TX10) (N := 44) hx hb hts hiX10 hown hK hP 0 rfl rfl 36 (by decide) wf74 (fun _ h9 => h9) rfl dX10_smooth_215 ?_
                                  refine lv_iload (pc := 218) hx hb dX10_smooth_218 (lv_at hl 0 rfl) ?_
                                  refine ra_iald (pc := 220) (k := t) (v := jI (fa3 t)) hx hb hK hP 4 0 rfl rfl (by omega) (by decide) rfl dX10_smooth_220 ?_
                                  skip
                                  refine r0_ge (pc := 221) (tgt := 270) hx hb (jI_to (by omega)) dX10_smooth_221 (by decide) (fun c221 => ?_) (fun c221 => ?_)
                                  · refine lv_iinc (pc := 270) (v := nI (y + 1)) (lv' := [(7, .int (nI (y + 1))), (8, .int (nI t)), (6, .int (nI v)), (5, .int (nI i)), (4, .int (jI fd3)), (3, .int (x3)), (2, .int (nI x)), (1, .int (nI mm)), (0, .ref o)]) hx hb dX10_smooth_270 hl (k := 1) rfl (by rw [← nI_add]; rfl) (by decide) rfl (fun ls hl => ?_)
                                    refine lv_goto (pc := 273) (tgt := 141) hx hb dX10_smooth_273 (by decide) ?_
                                    exact ih141 fa3 fr3 qu3 re3 fd3 (y + 1) _ _ _ (bf_skip hC hJ (by omega) (by rw [hqv, ← ht]; exact fun q9 => absurd q9.2 (by omega))) hqv (by omega) (by omega) hP hS (lv_sub hl [0, 2, 3, 4, 5, 6, 7, 8] rfl)
                                  · have hre9 := bf_re hJ ht9 (by omega)
                                    refine lv_aload_n (pc := 224) hx hb dX10_smooth_224 rfl (lv_at hl 8 rfl) ?_
                                    refine va_get (pc := 225) (D := D) (ci := 10) (v := .ref (ad 36)) (C := RX10) (T := TX10) (N := 44) hx hb hts hiX10 hown hK hP 0 rfl rfl 36 (by decide) wf74 (fun _ h9 => h9) rfl dX10_smooth_225 ?_
                                    refine lv_iload (pc := 228) hx hb dX10_smooth_228 (lv_at hl 0 rfl) ?_
                                    refine lv_aload_n (pc := 230) hx hb dX10_smooth_230 rfl (lv_at hl 8 rfl) ?_
                                    refine va_get (pc := 231) (D := D) (ci := 10) (v := .ref (ad 36)) (C := RX10) (T := TX10) (N := 44) hx hb hts hiX10 hown hK hP 0 rfl rfl 36 (by decide) wf74 (fun _ h9 => h9) rfl dX10_smooth_231 ?_
                                    refine lv_iload (pc := 234) hx hb dX10_smooth_234 (lv_at hl 2 rfl) ?_
                                    refine ra_iald (pc := 236) (k := v) (v := jI (fa3 v)) hx hb hK hP 4 0 rfl rfl (by omega) (by decide) rfl dX10_smooth_236 ?_
                                    skip
                                    refine lv_iconst (pc := 237) (v := nI 1) hx hb dX10_smooth_237 (by decide) ?_
                                    refine rz_iadd (pc := 238) hx hb rfl (show nI 1 = jI 1 from jI_nat 1) dX10_smooth_238 ?_
                                    refine rz_iast (pc := 239) (f := fa3) (k := t) (x := (fa3 v) + 1) (ws2 := [rmE o ad (pCells P) P.2.2.2.1 P.2.2.2.2.2.1 P.2.2.2.2.2.2 (I.1, I.2.1, I.2.2.1, I.2.2.2.1, I.2.2.2.2.1, I.2.2.2.2.2.1, I.2.2.2.2.2.2.1, I.2.2.2.2.2.2.2.1, I.2.2.2.2.2.2.2.2.1, I.2.2.2.2.2.2.2.2.2.1, I.2.2.2.2.2.2.2.2.2.2.1, re3), nE 384 (ad 25) cI sl, nE 3 (ad 9) cI wa, nE 3 (ad 10) cI ir, zE 984 (ad 36) cI (va_up fa3 t ((fa3 v) + 1)), nE 984 (ad 37) cI fr3, nE 984 (ad 38) cI qu3]) hx hb hK hP hV hS 4 0 rfl rfl (by omega) (by decide) dX10_smooth_239 rfl rfl rfl (fun H locs hP hS => ?_)
                                    refine lv_aload_n (pc := 240) hx hb dX10_smooth_240 rfl (lv_at hl 8 rfl) ?_
                                    refine va_get (pc := 241) (D := D) (ci := 10) (v := .ref (ad 37)) (C := RX10) (T := TX10) (N := 44) hx hb hts hiX10 hown hK hP 0 rfl rfl 37 (by decide) wf77 (fun _ h9 => h9) rfl dX10_smooth_241 ?_
                                    refine lv_iload (pc := 244) hx hb dX10_smooth_244 (lv_at hl 0 rfl) ?_
                                    refine lv_iload (pc := 246) hx hb dX10_smooth_246 (lv_at hl 2 rfl) ?_
                                    refine rn_iast (pc := 248) (f := fr3) (k := t) (x := v) (ws2 := [rmE o ad (pCells P) P.2.2.2.1 P.2.2.2.2.2.1 P.2.2.2.2.2.2 (I.1, I.2.1, I.2.2.1, I.2.2.2.1, I.2.2.2.2.1, I.2.2.2.2.2.1, I.2.2.2.2.2.2.1, I.2.2.2.2.2.2.2.1, I.2.2.2.2.2.2.2.2.1, I.2.2.2.2.2.2.2.2.2.1, I.2.2.2.2.2.2.2.2.2.2.1, re3), nE 384 (ad 25) cI sl, nE 3 (ad 9) cI wa, nE 3 (ad 10) cI ir, zE 984 (ad 36) cI (va_up fa3 t ((fa3 v) + 1)), nE 984 (ad 37) cI (va_up fr3 t v), nE 984 (ad 38) cI qu3]) hx hb hK hP hV hS 5 0 rfl rfl (by omega) (by decide) dX10_smooth_248 rfl rfl (fun H locs hP hS => ?_)
                                    refine lv_aload_n (pc := 249) hx hb dX10_smooth_249 rfl (lv_at hl 8 rfl) ?_
                                    refine va_get (pc := 250) (D := D) (ci := 10) (v := .ref (ad 38)) (C := RX10) (T := TX10) (N := 44) hx hb hts hiX10 hown hK hP 0 rfl rfl 38 (by decide) wf80 (fun _ h9 => h9) rfl dX10_smooth_250 ?_
                                    refine lv_aload_n (pc := 253) hx hb dX10_smooth_253 rfl (lv_at hl 8 rfl) ?_
                                    refine va_get (pc := 254) (D := D) (ci := 10) (v := .int (nI re3)) (C := RX10) (T := TX10) (N := 44) hx hb hts hiX10 hown hK hP 0 rfl rfl 39 (by decide) wf269 (fun _ h9 => h9) rfl dX10_smooth_254 ?_
                                    refine lv_iload (pc := 257) hx hb dX10_smooth_257 (lv_at hl 0 rfl) ?_
                                    refine rn_iast (pc := 259) (f := qu3) (k := re3) (x := t) (ws2 := [rmE o ad (pCells P) P.2.2.2.1 P.2.2.2.2.2.1 P.2.2.2.2.2.2 (I.1, I.2.1, I.2.2.1, I.2.2.2.1, I.2.2.2.2.1, I.2.2.2.2.2.1, I.2.2.2.2.2.2.1, I.2.2.2.2.2.2.2.1, I.2.2.2.2.2.2.2.2.1, I.2.2.2.2.2.2.2.2.2.1, I.2.2.2.2.2.2.2.2.2.2.1, re3), nE 384 (ad 25) cI sl, nE 3 (ad 9) cI wa, nE 3 (ad 10) cI ir, zE 984 (ad 36) cI (va_up fa3 t ((fa3 v) + 1)), nE 984 (ad 37) cI (va_up fr3 t v), nE 984 (ad 38) cI (va_up qu3 re3 t)]) hx hb hK hP hV hS 6 0 rfl rfl (by omega) (by decide) dX10_smooth_259 rfl rfl (fun H locs hP hS => ?_)
                                    refine lv_aload_n (pc := 260) hx hb dX10_smooth_260 rfl (lv_at hl 8 rfl) ?_
                                    refine lv_dup (pc := 261) hx hb dX10_smooth_261 rfl ?_
                                    refine va_get (pc := 262) (D := D) (ci := 10) (v := .int (nI re3)) (C := RX10) (T := TX10) (N := 44) hx hb hts hiX10 hown hK hP 0 rfl rfl 39 (by decide) wf269 (fun _ h9 => h9) rfl dX10_smooth_262 ?_
                                    refine lv_iconst (pc := 265) (v := nI 1) hx hb dX10_smooth_265 (by decide) ?_
                                    refine rn_iadd (pc := 266) hx hb dX10_smooth_266 ?_
                                    refine ra_put (pc := 267) (D := D) (ci := 10) (v := .int (nI (re3 + 1))) (ty := .int) (C := RX10) (T := TX10) (N := 44) (ws2 := [rmE o ad (pCells P) P.2.2.2.1 P.2.2.2.2.2.1 P.2.2.2.2.2.2 (I.1, I.2.1, I.2.2.1, I.2.2.2.1, I.2.2.2.2.1, I.2.2.2.2.2.1, I.2.2.2.2.2.2.1, I.2.2.2.2.2.2.2.1, I.2.2.2.2.2.2.2.2.1, I.2.2.2.2.2.2.2.2.2.1, I.2.2.2.2.2.2.2.2.2.2.1, re3 + 1), nE 384 (ad 25) cI sl, nE 3 (ad 9) cI wa, nE 3 (ad 10) cI ir, zE 984 (ad 36) cI (va_up fa3 t ((fa3 v) + 1)), nE 984 (ad 37) cI (va_up fr3 t v), nE 984 (ad 38) cI (va_up qu3 re3 t)]) hx hb hts hiX10 tyX10 tyX10_ok nmX10 hown hK hP hV hS 0 rfl rfl 39 (by decide) wf269 (fun _ h9 => h9) rfl (by decide +kernel) rfl rfl (Nat.le_of_ble_eq_true rfl) dX10_smooth_267 rfl rfl (fun H locs hP hS => ?_)
                                    refine lv_iinc (pc := 270) (v := nI (y + 1)) (lv' := [(7, .int (nI (y + 1))), (8, .int (nI t)), (6, .int (nI v)), (5, .int (nI i)), (4, .int (jI fd3)), (3, .int (x3)), (2, .int (nI x)), (1, .int (nI mm)), (0, .ref o)]) hx hb dX10_smooth_270 hl (k := 1) rfl (by rw [← nI_add]; rfl) (by decide) rfl (fun ls hl => ?_)
                                    refine lv_goto (pc := 273) (tgt := 141) hx hb dX10_smooth_273 (by decide) ?_
                                    exact ih141 (va_up fa3 t ((fa3 v) + 1)) (va_up fr3 t v) (va_up qu3 re3 t) (re3 + 1) fd3 (y + 1) _ _ _ (by have h9 := bf_add (t := t) hC hJ (by omega) (by rw [hqv]; omega) (by rw [hqv]; exact Or.inr c211) (by rw [hqv]; exact ht) (by omega); rw [hqv] at h9; exact h9) (by rw [va_up_ne _ _ (by omega)]; exact hqv) (by omega) (by omega) hP hS (lv_sub hl [0, 2, 3, 4, 5, 6, 7, 8] rfl)
                      refine lv_iload (pc := 121) hx hb dX10_smooth_121 (lv_at hl 0 rfl) ?_
                      refine lv_bipush (pc := 123) (v := nI 41) hx hb dX10_smooth_123 (by decide) ?_
                      refine rn_irem (pc := 125) hx hb (by omega) (by omega) dX10_smooth_125 ?_
                      refine r0_ne (pc := 126) (tgt := 134) hx hb (tI_nI (by omega)) dX10_smooth_126 (by decide) (fun c126 => ?_) (fun c126 => ?_)
                      · refine lv_bipush (pc := 134) (v := jI (-4)) hx hb dX10_smooth_134 (by decide) ?_
                        refine lv_istore (pc := 136) (lv' := [(4, .int (jI (-4))), (6, .int (nI v)), (5, .int (nI i)), (3, .int (x3)), (2, .int (nI x)), (1, .int (nI mm)), (0, .ref o)]) hx hb dX10_smooth_136 hl (by decide) rfl (fun ls hl => ?_)
                        refine lv_iconst (pc := 138) (v := nI 0) hx hb dX10_smooth_138 (by decide) ?_
                        refine lv_istore (pc := 139) (lv' := [(7, .int (nI 0)), (4, .int (jI (-4))), (6, .int (nI v)), (5, .int (nI i)), (3, .int (x3)), (2, .int (nI x)), (1, .int (nI mm)), (0, .ref o)]) hx hb dX10_smooth_139 hl (by decide) rfl (fun ls hl => ?_)
                        exact cut141 _ fa2 fr2 qu2 re (-4) 0 _ _ _ (bf_enter hC hI (by omega) (by omega) (by rw [← hv, if_neg (by omega)])) hv.symm (Nat.zero_le _) (Nat.lt_succ_self _) hP hS (lv_sub hl [0, 2, 3, 1, 4, 5, 6, 7] rfl)
                      · refine lv_iload (pc := 129) hx hb dX10_smooth_129 (lv_at hl 0 rfl) ?_
                        refine lv_goto (pc := 131) (tgt := 136) hx hb dX10_smooth_131 (by decide) ?_
                        refine lv_istore (pc := 136) (lv' := [(4, .int (nI v)), (6, .int (nI v)), (5, .int (nI i)), (3, .int (x3)), (2, .int (nI x)), (1, .int (nI mm)), (0, .ref o)]) hx hb dX10_smooth_136 hl (by decide) rfl (fun ls hl => ?_)
                        refine lv_iconst (pc := 138) (v := nI 0) hx hb dX10_smooth_138 (by decide) ?_
                        refine lv_istore (pc := 139) (lv' := [(7, .int (nI 0)), (4, .int (nI v)), (6, .int (nI v)), (5, .int (nI i)), (3, .int (x3)), (2, .int (nI x)), (1, .int (nI mm)), (0, .ref o)]) hx hb dX10_smooth_139 hl (by decide) rfl (fun ls hl => ?_)
                        exact cut141 _ fa2 fr2 qu2 re (v : Nat) 0 _ _ _ (bf_enter hC hI (by omega) (by omega) (by rw [← hv, if_pos (by omega)])) hv.symm (Nat.zero_le _) (Nat.lt_succ_self _) hP hS (lv_sub hl [0, 2, 3, 1, 4, 5, 6, 7] rfl)
              exact cut98 _ (va_up f v0 0) fr (va_up qu 0 v0) 1 (-4) 0 _ _ _ (bf_start hC hfa4) (Nat.lt_succ_self _) hP hS (lv_sub hl [0, 1, 2, 3, 4, 5] rfl)
            · refine lv_aload_n (pc := 34) hx hb dX10_smooth_34 rfl (lv_at hl 4 rfl) ?_
              refine va_get (pc := 35) (D := D) (ci := 10) (v := .ref (ad 36)) (C := RX10) (T := TX10) (N := 44) hx hb hts hiX10 hown hK hP 0 rfl rfl 36 (by decide) wf74 (fun _ h9 => h9) rfl dX10_smooth_35 ?_
              refine lv_iload (pc := 38) hx hb dX10_smooth_38 (lv_at hl 0 rfl) ?_
              refine lv_bipush (pc := 40) (v := jI (-4)) hx hb dX10_smooth_40 (by decide) ?_
              refine rz_iast (pc := 42) (f := f) (k := i) (x := -4) (ws2 := [rmE o ad (pCells P) P.2.2.2.1 P.2.2.2.2.2.1 P.2.2.2.2.2.2 I, nE 384 (ad 25) cI sl, nE 3 (ad 9) cI wa, nE 3 (ad 10) cI ir, zE 984 (ad 36) cI (va_up f i (-4)), nE 984 (ad 37) cI fr, nE 984 (ad 38) cI qu]) hx hb hK hP hV hS 4 0 rfl rfl (by omega) (by decide) dX10_smooth_42 rfl rfl rfl (fun H locs hP hS => ?_)
              refine lv_iinc (pc := 43) (v := nI (i + 1)) (lv' := [(4, .int (nI (i + 1))), (3, .int (x3)), (2, .int (nI x)), (1, .int (nI mm)), (0, .ref o)]) hx hb dX10_smooth_43 hl (k := 0) rfl (by rw [← nI_add]; rfl) (by decide) rfl (fun ls hl => ?_)
              refine lv_goto (pc := 46) (tgt := 26) hx hb dX10_smooth_46 (by decide) ?_
              exact ih26 (i + 1) (va_up f i (-4)) _ _ _ (by omega) (va_up_all (Pr := fun _ y9 => y9 = -4) hfa rfl) (by omega) hP hS (lv_sub hl [0, 1, 2, 3, 4] rfl)
        exact cut26 _ 0 fa _ _ _ (by omega) (fun j hj => absurd hj (Nat.not_lt_zero j)) (Nat.lt_succ_self _) hP hS (lv_sub hl [0, 4, 3, 2, 1] rfl)
      · refine lv_iconst (pc := 21) (v := jI (-1)) hx hb dX10_smooth_21 (by decide) ?_
        exact hret 22 _ hP hS dX10_smooth_22 rfl rfl ⟨(by unfold zSmooth; rw [if_neg (by omega)]), fa, fr, qu, I.2.2.2.2.2.2.2.2.2.2.2, rfl⟩
