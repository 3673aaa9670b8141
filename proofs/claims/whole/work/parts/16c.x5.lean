abbrev rmX5_most : Room := { frames := 2, cells := 0, slots := 0, locals := 47 }
set_option maxHeartbeats 4000000 in
set_option maxRecDepth 100000 in
theorem k_X5_most (l : Launch) (D : va_G) (cI cC cB cS : ClassId) (e20 e21 e22 : Nat) (E2 : SE) (p0 p1 p2 p3 : Nat) (P : PL) (s0 s1 s2 s3 : Nat) (S : ST) (h : Nat) (hp : pOK P) (hi : sHi S) (hh : h ≤ 40) : CI l D (kT cI cC cB cS) yX5_most wsX5_most rmX5_most [.ref e20, .ref p0, .ref s0, .int (nI h)] (seW e20 e21 e22 cI E2 ++ plW p0 p1 p2 p3 cI P ++ stW s0 s1 s2 s3 cI S) (fun r u => r = jI (seatR P S h) ∧ ∃ T : SE, u = seW e20 e21 e22 cI T ++ plW p0 p1 p2 p3 cI P ++ stW s0 s1 s2 s3 cI S) := by
  refine ci_intro (by decide) rfl (Nat.le_of_ble_eq_true rfl) ?_
  intro p e s m args below meth c ls A QF hF hK hP hV hS hA hN hl hret
  obtain ⟨hx, hb, hml, hown, hts⟩ := id hF
  have hP : va_P D vwCl (seW e20 e21 e22 cI E2 ++ plW p0 p1 p2 p3 cI P ++ stW s0 s1 s2 s3 cI S) s.heap := hP
  have hl : lv_has ls 8 [(0, .ref e20), (1, .ref p0), (2, .ref s0), (3, .int (nI h))] := hl
  have wf11 := hts (.fieldLink RX5 11 "RemorseWall$Seating" "before" "[I") (by decide +kernel)
  have wf15 := hts (.fieldLink RX5 15 "RemorseWall$Seating" "upToHere" "[I") (by decide +kernel)
  have ac_n := hts (.native arraycopyName) (by decide +kernel)
  have ac_s := hts (.static arraycopyName) (by decide +kernel)
  have ac_i := hts (.initialized "java/lang/System") (by decide +kernel)
  have ac_38 := hts (.methodLink RX5 38 arraycopyName) (by decide +kernel)
  have hiX5 : ∀ w ∈ u_ws RX5 TX5 2, w ∈ wsX5_most := by decide +kernel
  have mk_max_s := hts (.static Lib.Math.max.name) (by decide +kernel)
  have mk_max_i := hts (.initialized "java/lang/Math") (by decide +kernel)
  have mk_max_c := hts (.code Lib.Math.max.name Lib.Math.max.code 2 (some .int)) (by decide +kernel)
  have mk_max_44 := hts (.methodLink RX5 44 Lib.Math.max.name) (by decide +kernel)
  obtain ⟨hp1, hp2, hp3, hp4, hp5, hp6, hp7⟩ := id hp
  refine lv_aload_n (pc := 0) hx hb dX5_most_0 rfl (lv_at hl 0 rfl) ?_
  refine va_get (pc := 1) (D := D) (ci := 5) (v := .ref e21) (C := RX5) (T := TX5) (N := 2) hx hb hts hiX5 hown hK hP 0 rfl rfl 0 (by decide) wf11 (fun _ h9 => h9) rfl dX5_most_1 ?_
  refine lv_iconst (pc := 4) (v := jI (-1)) hx hb dX5_most_4 (by decide) ?_
  refine cv_Sd (pc := 5) hF hN hK hP hV hS hA (k_J7_fill l D cI cC cB cS e21 16 (fun j => jI (E2.1 j)) (jI (-1)) (by decide)) (va_cwS 2 hts gX5_most_J7_fill_53178 rfl rfl rfl (by decide +kernel) ⟨Nat.le_of_ble_eq_true rfl, Nat.le_of_ble_eq_true rfl⟩) [1] rfl (by decide) rfl hl.1 rfl (Nat.le_of_ble_eq_true rfl) dX5_most_5 ⟨Nat.le_refl _, Nat.le_refl _⟩ rfl (ws2 := seW e20 e21 e22 cI (fun _ => -1, E2.2) ++ plW p0 p1 p2 p3 cI P ++ stW s0 s1 s2 s3 cI S) rfl (fun H locs hP hS => ?_)
  refine lv_aload_n (pc := 8) hx hb dX5_most_8 rfl (lv_at hl 0 rfl) ?_
  refine va_get (pc := 9) (D := D) (ci := 5) (v := .ref e21) (C := RX5) (T := TX5) (N := 2) hx hb hts hiX5 hown hK hP 0 rfl rfl 0 (by decide) wf11 (fun _ h9 => h9) rfl dX5_most_9 ?_
  refine lv_iconst (pc := 12) (v := nI 0) hx hb dX5_most_12 (by decide) ?_
  refine lv_iconst (pc := 13) (v := nI 0) hx hb dX5_most_13 (by decide) ?_
  refine rz_iast (pc := 14) (f := fun _ => -1) (k := 0) (x := 0) (ws2 := seW e20 e21 e22 cI (va_up (fun _ => -1) 0 0, E2.2) ++ plW p0 p1 p2 p3 cI P ++ stW s0 s1 s2 s3 cI S) hx hb hK hP hV hS 1 0 rfl rfl (by omega) (by decide) dX5_most_14 (show nI 0 = jI 0 from jI_nat 0) rfl rfl (fun H locs hP hS => ?_)
  refine lv_iconst (pc := 15) (v := nI 0) hx hb dX5_most_15 (by decide) ?_
  refine lv_istore (pc := 16) (lv' := [(4, .int (nI 0)), (0, .ref e20), (1, .ref p0), (2, .ref s0), (3, .int (nI h))]) hx hb dX5_most_16 hl (by decide) rfl (fun ls hl => ?_)
  have cut18 : ∀ (fuel : Nat) (c1 : Nat) (T : SE) (H : Heap) (locs : List Loc) (ls : Array Slot) (hc1 : c1 ≤ P.2.2.2.1) (hT : ∀ l, l < 16 → T.1 l = seatN P S h c1 l) (hfu : P.2.2.2.1 - c1 < fuel), va_P D vwCl (seW e20 e21 e22 cI (T.1, T.2) ++ plW p0 p1 p2 p3 cI P ++ stW s0 s1 s2 s3 cI S) H → va_S A s.heap H locs → lv_has ls 8 [(4, .int (nI c1)), (3, .int (nI h)), (2, .ref s0), (1, .ref p0), (0, .ref e20)] → W p l e rmX5_most s m args below meth c H locs 0 0 QF (F0 m 18 ls []) := by
    intro fuel
    induction fuel with
    | zero => intro c1 T H locs ls hc1 hT hfu; omega
    | succ fuel ih18 =>
      intro c1 T H locs ls hc1 hT hfu hP hS hl
      have hTr : ∀ l, l < 16 → -1 ≤ T.1 l ∧ T.1 l ≤ 100 := fun l hl => by have := seatN_rng (P := P) (S := S) (h := h) c1 l; rw [hT l hl]; omega
      refine lv_iload (pc := 18) hx hb dX5_most_18 (lv_at hl 0 rfl) ?_
      refine lv_aload_n (pc := 20) hx hb dX5_most_20 rfl (lv_at hl 3 rfl) ?_
      refine ci_Vd (pc := 21) (r0 := nI P.2.2.2.1) hF hN hK hP hV hS hA (k_X2_cellsInRow l D cI cC cB cS p0 p1 p2 p3 P) (cwV 0 hts gX5_most_X2_cellsInRow rfl rfl rfl (by decide +kernel) ⟨Nat.le_of_ble_eq_true rfl, Nat.le_of_ble_eq_true rfl⟩) [3, 4, 5, 6] rfl (by decide) 0 2 rfl rfl rfl hl.1 rfl (Nat.le_of_ble_eq_true rfl) dX5_most_21 ⟨Nat.le_refl _, Nat.le_refl _⟩ rfl (ws2 := seW e20 e21 e22 cI (T.1, T.2) ++ plW p0 p1 p2 p3 cI P ++ stW s0 s1 s2 s3 cI S) rfl (fun H locs hP hS => ?_)
      refine rc_ge (pc := 24) (tgt := 123) hx hb (tI_nI (by omega)) (tI_nI (by omega)) dX5_most_24 (by decide) (fun c24 => ?_) (fun c24 => ?_)
      · refine lv_iconst (pc := 123) (v := nI 0) hx hb dX5_most_123 (by decide) ?_
        refine lv_istore (pc := 124) (lv' := [(4, .int (nI 0)), (3, .int (nI h)), (2, .ref s0), (1, .ref p0), (0, .ref e20)]) hx hb dX5_most_124 hl (by decide) rfl (fun ls hl => ?_)
        refine lv_iconst (pc := 126) (v := nI 0) hx hb dX5_most_126 (by decide) ?_
        refine lv_istore (pc := 127) (lv' := [(5, .int (nI 0)), (4, .int (nI 0)), (3, .int (nI h)), (2, .ref s0), (1, .ref p0), (0, .ref e20)]) hx hb dX5_most_127 hl (by decide) rfl (fun ls hl => ?_)
        have cut129 : ∀ (fuel : Nat) (l1 : Nat) (a : Int) (H : Heap) (locs : List Loc) (ls : Array Slot) (hl16 : l1 ≤ 16) (ha : a = maxTo T.1 l1) (hfu : 16 - l1 < fuel), va_P D vwCl (seW e20 e21 e22 cI (T.1, T.2) ++ plW p0 p1 p2 p3 cI P ++ stW s0 s1 s2 s3 cI S) H → va_S A s.heap H locs → lv_has ls 8 [(5, .int (nI l1)), (4, .int (jI a)), (0, .ref e20)] → W p l e rmX5_most s m args below meth c H locs 0 0 QF (F0 m 129 ls []) := by
          intro fuel
          induction fuel with
          | zero => intro l1 a H locs ls hl16 ha hfu; omega
          | succ fuel ih129 =>
            intro l1 a H locs ls hl16 ha hfu hP hS hl
            have hrg := maxTo_rng (b := 100) (by omega) hTr l1 (by omega)
            have hrl := hTr l1
            refine lv_iload (pc := 129) hx hb dX5_most_129 (lv_at hl 0 rfl) ?_
            refine lv_bipush (pc := 131) (v := nI 16) hx hb dX5_most_131 (by decide) ?_
            refine rc_ge (pc := 133) (tgt := 156) hx hb (tI_nI (by omega)) (tI_nI (by omega)) dX5_most_133 (by decide) (fun c133 => ?_) (fun c133 => ?_)
            · refine lv_iload (pc := 156) hx hb dX5_most_156 (lv_at hl 1 rfl) ?_
              exact hret 158 _ hP hS dX5_most_158 rfl rfl ⟨(by rw [ha, show l1 = 16 by omega, maxTo_congr 16 hT, show c1 = P.2.2.2.1 by omega]; rfl), T, rfl⟩
            · refine lv_iload (pc := 136) hx hb dX5_most_136 (lv_at hl 1 rfl) ?_
              refine lv_aload_n (pc := 138) hx hb dX5_most_138 rfl (lv_at hl 2 rfl) ?_
              refine va_get (pc := 139) (D := D) (ci := 5) (v := .ref e21) (C := RX5) (T := TX5) (N := 2) hx hb hts hiX5 hown hK hP 0 rfl rfl 0 (by decide) wf11 (fun _ h9 => h9) rfl dX5_most_139 ?_
              refine lv_iload (pc := 142) hx hb dX5_most_142 (lv_at hl 0 rfl) ?_
              refine ra_iald (pc := 144) (k := l1) (v := jI (T.1 l1)) hx hb hK hP 1 0 rfl rfl (by omega) (by decide) rfl dX5_most_144 ?_
              refine va_mmax (pc := 145) hx hb (hml.trans hl.1.symm) hown mk_max_44 mk_max_s mk_max_i mk_max_c (Nat.le_of_ble_eq_true rfl) (Nat.le_of_ble_eq_true rfl) (Nat.le_refl _) (Nat.le_refl _) dX5_most_145 ?_
              refine r_top (jI_max rfl rfl (by omega) (by omega)) ?_
              refine lv_istore (pc := 148) (lv' := [(4, .int (jI (max a (T.1 l1)))), (5, .int (nI l1)), (0, .ref e20)]) hx hb dX5_most_148 hl (by decide) rfl (fun ls hl => ?_)
              refine lv_iinc (pc := 150) (v := nI (l1 + 1)) (lv' := [(5, .int (nI (l1 + 1))), (4, .int (jI (max a (T.1 l1)))), (0, .ref e20)]) hx hb dX5_most_150 hl (k := 1) rfl (by rw [← nI_add]; rfl) (by decide) rfl (fun ls hl => ?_)
              refine lv_goto (pc := 153) (tgt := 129) hx hb dX5_most_153 (by decide) ?_
              exact ih129 (l1 + 1) (max a (T.1 l1)) _ _ _ (by omega) (by rw [maxTo, ha]) (by omega) hP hS (lv_sub hl [0, 1, 2] rfl)
        exact cut129 _ 0 0 _ _ _ (by omega) rfl (Nat.lt_succ_self _) hP hS (lv_sub hl [0, 1, 5] rfl)
      · refine lv_aload_n (pc := 27) hx hb dX5_most_27 rfl (lv_at hl 3 rfl) ?_
        refine lv_aload_n (pc := 28) hx hb dX5_most_28 rfl (lv_at hl 2 rfl) ?_
        refine lv_iload (pc := 29) hx hb dX5_most_29 (lv_at hl 0 rfl) ?_
        refine lv_iload_n (pc := 31) hx hb dX5_most_31 rfl (lv_at hl 1 rfl) ?_
        refine ci_Sd (pc := 32) hF hN hK hP hV hS hA (k_X5_freeCells l D cI cC cB cS p0 p1 p2 p3 P s0 s1 s2 s3 S c1 h hp hi (by omega) hh) (va_cwS 4 hts gX5_most_X5_freeCells rfl rfl rfl (by decide +kernel) ⟨Nat.le_of_ble_eq_true rfl, Nat.le_of_ble_eq_true rfl⟩) [3, 4, 5, 6, 7, 8, 9, 10] rfl (by decide) rfl hl.1 rfl (Nat.le_of_ble_eq_true rfl) dX5_most_32 ⟨Nat.le_refl _, Nat.le_refl _⟩ rfl (ws2 := seW e20 e21 e22 cI (T.1, T.2) ++ plW p0 p1 p2 p3 cI P ++ stW s0 s1 s2 s3 cI S) rfl (fun H locs hP hS => ?_)
        have fq2 := freeN_16_ P S c1 h hp
        refine lv_istore (pc := 35) (lv' := [(5, .int (nI (freeN P S c1 h P.2.2.2.2.1))), (4, .int (nI c1)), (3, .int (nI h)), (2, .ref s0), (1, .ref p0), (0, .ref e20)]) hx hb dX5_most_35 hl (by decide) rfl (fun ls hl => ?_)
        refine lv_iconst (pc := 37) (v := nI 0) hx hb dX5_most_37 (by decide) ?_
        refine lv_istore (pc := 38) (lv' := [(6, .int (nI 0)), (5, .int (nI (freeN P S c1 h P.2.2.2.2.1))), (4, .int (nI c1)), (3, .int (nI h)), (2, .ref s0), (1, .ref p0), (0, .ref e20)]) hx hb dX5_most_38 hl (by decide) rfl (fun ls hl => ?_)
        have cut40 : ∀ (fuel : Nat) (fl : Nat) (u : Nat → Int) (H : Heap) (locs : List Loc) (ls : Array Slot) (hfl : fl ≤ 16) (hu : ∀ j, j < fl → u j = stepV T.1 (freeN P S c1 h P.2.2.2.2.1) j) (hfu : 16 - fl < fuel), va_P D vwCl (seW e20 e21 e22 cI (T.1, u) ++ plW p0 p1 p2 p3 cI P ++ stW s0 s1 s2 s3 cI S) H → va_S A s.heap H locs → lv_has ls 8 [(6, .int (nI fl)), (5, .int (nI (freeN P S c1 h P.2.2.2.2.1))), (4, .int (nI c1)), (3, .int (nI h)), (2, .ref s0), (1, .ref p0), (0, .ref e20)] → W p l e rmX5_most s m args below meth c H locs 0 0 QF (F0 m 40 ls []) := by
          intro fuel
          induction fuel with
          | zero => intro fl u H locs ls hfl hu hfu; omega
          | succ fuel ih40 =>
            intro fl u H locs ls hfl hu hfu hP hS hl
            have han := Nat.and_le_left (n := fl) (m := fl / 2 ^ 1)
            have hfr := freeN_16_ P S c1 h hp
            refine lv_iload (pc := 40) hx hb dX5_most_40 (lv_at hl 0 rfl) ?_
            refine lv_bipush (pc := 42) (v := nI 16) hx hb dX5_most_42 (by decide) ?_
            refine rc_ge (pc := 44) (tgt := 102) hx hb (tI_nI (by omega)) (tI_nI (by omega)) dX5_most_44 (by decide) (fun c44 => ?_) (fun c44 => ?_)
            · refine lv_aload_n (pc := 102) hx hb dX5_most_102 rfl (lv_at hl 6 rfl) ?_
              refine va_get (pc := 103) (D := D) (ci := 5) (v := .ref e22) (C := RX5) (T := TX5) (N := 2) hx hb hts hiX5 hown hK hP 0 rfl rfl 1 (by decide) wf15 (fun _ h9 => h9) rfl dX5_most_103 ?_
              refine lv_iconst (pc := 106) (v := nI 0) hx hb dX5_most_106 (by decide) ?_
              refine lv_aload_n (pc := 107) hx hb dX5_most_107 rfl (lv_at hl 6 rfl) ?_
              refine va_get (pc := 108) (D := D) (ci := 5) (v := .ref e21) (C := RX5) (T := TX5) (N := 2) hx hb hts hiX5 hown hK hP 0 rfl rfl 0 (by decide) wf11 (fun _ h9 => h9) rfl dX5_most_108 ?_
              refine lv_iconst (pc := 111) (v := nI 0) hx hb dX5_most_111 (by decide) ?_
              refine lv_bipush (pc := 112) (v := nI 16) hx hb dX5_most_112 (by decide) ?_
              refine ra_copy (pc := 114) (sp := 0) (dp := 0) (n := 16) (g2 := fun j => jI (u j)) (ws2 := seW e20 e21 e22 cI (u, u) ++ plW p0 p1 p2 p3 cI P ++ stW s0 s1 s2 s3 cI S) hx hb (hml.trans hl.1.symm) hown ac_38 ac_n ac_s ac_i hK hP hV hS 2 1 0 rfl rfl rfl (by omega) (by omega) (by decide) (by decide) (fun j hj => cpy_all hj) (Nat.le_of_ble_eq_true rfl) (Nat.le_of_ble_eq_true rfl) dX5_most_114 rfl rfl (fun H locs hP hS => ?_)
              refine lv_iinc (pc := 117) (v := nI (c1 + 1)) (lv' := [(4, .int (nI (c1 + 1))), (6, .int (nI fl)), (5, .int (nI (freeN P S c1 h P.2.2.2.2.1))), (3, .int (nI h)), (2, .ref s0), (1, .ref p0), (0, .ref e20)]) hx hb dX5_most_117 hl (k := 2) rfl (by rw [← nI_add]; rfl) (by decide) rfl (fun ls hl => ?_)
              refine lv_goto (pc := 120) (tgt := 18) hx hb dX5_most_120 (by decide) ?_
              exact ih18 (c1 + 1) (u, u) _ _ _ (by omega) (seat_next hT (fun j hj => hu j (by omega))) (by omega) hP hS (lv_sub hl [0, 3, 4, 5, 6] rfl)
            · refine lv_iload (pc := 47) hx hb dX5_most_47 (lv_at hl 0 rfl) ?_
              refine lv_iload (pc := 49) hx hb dX5_most_49 (lv_at hl 1 rfl) ?_
              refine lv_iconst (pc := 51) (v := jI (-1)) hx hb dX5_most_51 (by decide) ?_
              refine lv_ixor (pc := 52) hx hb dX5_most_52 ?_
              refine lv_iand (pc := 53) hx hb dX5_most_53 ?_
              refine r0_ne (pc := 54) (tgt := 71) hx hb rfl dX5_most_54 (by decide) (fun c54 => ?_) (fun c54 => ?_)
              · refine lv_iconst (pc := 71) (v := nI 0) hx hb dX5_most_71 (by decide) ?_
                refine lv_istore (pc := 72) (lv' := [(7, .int (nI 0)), (6, .int (nI fl)), (5, .int (nI (freeN P S c1 h P.2.2.2.2.1))), (4, .int (nI c1)), (3, .int (nI h)), (2, .ref s0), (1, .ref p0), (0, .ref e20)]) hx hb dX5_most_72 hl (by decide) rfl (fun ls hl => ?_)
                refine lv_aload_n (pc := 74) hx hb dX5_most_74 rfl (lv_at hl 7 rfl) ?_
                refine va_get (pc := 75) (D := D) (ci := 5) (v := .ref e22) (C := RX5) (T := TX5) (N := 2) hx hb hts hiX5 hown hK hP 0 rfl rfl 1 (by decide) wf15 (fun _ h9 => h9) rfl dX5_most_75 ?_
                refine lv_iload (pc := 78) hx hb dX5_most_78 (lv_at hl 1 rfl) ?_
                refine lv_iload (pc := 80) hx hb dX5_most_80 (lv_at hl 0 rfl) ?_
                refine r0_eq (pc := 82) (tgt := 94) hx hb (tI_nI (by omega)) dX5_most_82 (by decide) (fun c82 => ?_) (fun c82 => (by omega))
                refine lv_iconst (pc := 94) (v := jI (-1)) hx hb dX5_most_94 (by decide) ?_
                refine rz_iast (pc := 95) (f := u) (k := fl) (x := -1) (ws2 := seW e20 e21 e22 cI (T.1, va_up u fl (-1)) ++ plW p0 p1 p2 p3 cI P ++ stW s0 s1 s2 s3 cI S) hx hb hK hP hV hS 2 0 rfl rfl (by omega) (by decide) dX5_most_95 rfl rfl rfl (fun H locs hP hS => ?_)
                refine lv_iinc (pc := 96) (v := nI (fl + 1)) (lv' := [(6, .int (nI (fl + 1))), (7, .int (nI 0)), (5, .int (nI (freeN P S c1 h P.2.2.2.2.1))), (4, .int (nI c1)), (3, .int (nI h)), (2, .ref s0), (1, .ref p0), (0, .ref e20)]) hx hb dX5_most_96 hl (k := 1) rfl (by rw [← nI_add]; rfl) (by decide) rfl (fun ls hl => ?_)
                refine lv_goto (pc := 99) (tgt := 40) hx hb dX5_most_99 (by decide) ?_
                exact ih40 (fl + 1) (va_up u fl (-1)) _ _ _ (by omega) (va_up_all (Pr := fun j y => y = stepV T.1 (freeN P S c1 h P.2.2.2.2.1) j) hu (by unfold stepV; rw [if_neg (fun q => c54 ((xor_free0 (by omega) (by omega)).mpr q.1))])) (by omega) hP hS (lv_sub hl [0, 2, 3, 4, 5, 6, 7] rfl)
              · refine lv_iload (pc := 57) hx hb dX5_most_57 (lv_at hl 0 rfl) ?_
                refine lv_iload (pc := 59) hx hb dX5_most_59 (lv_at hl 0 rfl) ?_
                refine lv_iconst (pc := 61) (v := nI 1) hx hb dX5_most_61 (by decide) ?_
                refine lv_ishr (pc := 62) hx hb dX5_most_62 ?_
                refine r_top (nI_shr (by omega) (by omega)) ?_
                refine lv_iand (pc := 63) hx hb dX5_most_63 ?_
                refine r_top (nI_and _ _) ?_
                refine r0_ne (pc := 64) (tgt := 71) hx hb (tI_nI (by omega)) dX5_most_64 (by decide) (fun c64 => ?_) (fun c64 => ?_)
                · refine lv_iconst (pc := 71) (v := nI 0) hx hb dX5_most_71 (by decide) ?_
                  refine lv_istore (pc := 72) (lv' := [(7, .int (nI 0)), (6, .int (nI fl)), (5, .int (nI (freeN P S c1 h P.2.2.2.2.1))), (4, .int (nI c1)), (3, .int (nI h)), (2, .ref s0), (1, .ref p0), (0, .ref e20)]) hx hb dX5_most_72 hl (by decide) rfl (fun ls hl => ?_)
                  refine lv_aload_n (pc := 74) hx hb dX5_most_74 rfl (lv_at hl 7 rfl) ?_
                  refine va_get (pc := 75) (D := D) (ci := 5) (v := .ref e22) (C := RX5) (T := TX5) (N := 2) hx hb hts hiX5 hown hK hP 0 rfl rfl 1 (by decide) wf15 (fun _ h9 => h9) rfl dX5_most_75 ?_
                  refine lv_iload (pc := 78) hx hb dX5_most_78 (lv_at hl 1 rfl) ?_
                  refine lv_iload (pc := 80) hx hb dX5_most_80 (lv_at hl 0 rfl) ?_
                  refine r0_eq (pc := 82) (tgt := 94) hx hb (tI_nI (by omega)) dX5_most_82 (by decide) (fun c82 => ?_) (fun c82 => (by omega))
                  refine lv_iconst (pc := 94) (v := jI (-1)) hx hb dX5_most_94 (by decide) ?_
                  refine rz_iast (pc := 95) (f := u) (k := fl) (x := -1) (ws2 := seW e20 e21 e22 cI (T.1, va_up u fl (-1)) ++ plW p0 p1 p2 p3 cI P ++ stW s0 s1 s2 s3 cI S) hx hb hK hP hV hS 2 0 rfl rfl (by omega) (by decide) dX5_most_95 rfl rfl rfl (fun H locs hP hS => ?_)
                  refine lv_iinc (pc := 96) (v := nI (fl + 1)) (lv' := [(6, .int (nI (fl + 1))), (7, .int (nI 0)), (5, .int (nI (freeN P S c1 h P.2.2.2.2.1))), (4, .int (nI c1)), (3, .int (nI h)), (2, .ref s0), (1, .ref p0), (0, .ref e20)]) hx hb dX5_most_96 hl (k := 1) rfl (by rw [← nI_add]; rfl) (by decide) rfl (fun ls hl => ?_)
                  refine lv_goto (pc := 99) (tgt := 40) hx hb dX5_most_99 (by decide) ?_
                  exact ih40 (fl + 1) (va_up u fl (-1)) _ _ _ (by omega) (va_up_all (Pr := fun j y => y = stepV T.1 (freeN P S c1 h P.2.2.2.2.1) j) hu (by unfold stepV; rw [if_neg (fun q => by have := q.2; omega)])) (by omega) hP hS (lv_sub hl [0, 2, 3, 4, 5, 6, 7] rfl)
                · refine lv_iconst (pc := 67) (v := nI 1) hx hb dX5_most_67 (by decide) ?_
                  refine lv_goto (pc := 68) (tgt := 72) hx hb dX5_most_68 (by decide) ?_
                  refine lv_istore (pc := 72) (lv' := [(7, .int (nI 1)), (6, .int (nI fl)), (5, .int (nI (freeN P S c1 h P.2.2.2.2.1))), (4, .int (nI c1)), (3, .int (nI h)), (2, .ref s0), (1, .ref p0), (0, .ref e20)]) hx hb dX5_most_72 hl (by decide) rfl (fun ls hl => ?_)
                  refine lv_aload_n (pc := 74) hx hb dX5_most_74 rfl (lv_at hl 7 rfl) ?_
                  refine va_get (pc := 75) (D := D) (ci := 5) (v := .ref e22) (C := RX5) (T := TX5) (N := 2) hx hb hts hiX5 hown hK hP 0 rfl rfl 1 (by decide) wf15 (fun _ h9 => h9) rfl dX5_most_75 ?_
                  refine lv_iload (pc := 78) hx hb dX5_most_78 (lv_at hl 1 rfl) ?_
                  refine lv_iload (pc := 80) hx hb dX5_most_80 (lv_at hl 0 rfl) ?_
                  refine r0_eq (pc := 82) (tgt := 94) hx hb (tI_nI (by omega)) dX5_most_82 (by decide) (fun c82 => (by omega)) (fun c82 => ?_)
                  refine lv_aload_n (pc := 85) hx hb dX5_most_85 rfl (lv_at hl 7 rfl) ?_
                  refine lv_iload (pc := 86) hx hb dX5_most_86 (lv_at hl 1 rfl) ?_
                  refine ci_Vd (pc := 88) (r0 := jI (mostW T.1 fl 16 + (popN fl 6 : Nat))) hF hN hK hP hV hS hA (k_X5_mostWith l D cI cC cB cS e20 e21 e22 (T.1, u) fl hTr (by omega)) (cwV 1 hts gX5_most_X5_mostWith rfl rfl rfl (by decide +kernel) ⟨Nat.le_of_ble_eq_true rfl, Nat.le_of_ble_eq_true rfl⟩) [0, 1, 2] rfl (by decide) 0 5 rfl rfl rfl hl.1 rfl (Nat.le_of_ble_eq_true rfl) dX5_most_88 ⟨Nat.le_refl _, Nat.le_refl _⟩ rfl (ws2 := seW e20 e21 e22 cI (T.1, u) ++ plW p0 p1 p2 p3 cI P ++ stW s0 s1 s2 s3 cI S) rfl (fun H locs hP hS => ?_)
                  refine lv_goto (pc := 91) (tgt := 95) hx hb dX5_most_91 (by decide) ?_
                  refine rz_iast (pc := 95) (f := u) (k := fl) (x := mostW T.1 fl 16 + (popN fl 6 : Nat)) (ws2 := seW e20 e21 e22 cI (T.1, va_up u fl (mostW T.1 fl 16 + (popN fl 6 : Nat))) ++ plW p0 p1 p2 p3 cI P ++ stW s0 s1 s2 s3 cI S) hx hb hK hP hV hS 2 0 rfl rfl (by omega) (by decide) dX5_most_95 rfl rfl rfl (fun H locs hP hS => ?_)
                  refine lv_iinc (pc := 96) (v := nI (fl + 1)) (lv' := [(6, .int (nI (fl + 1))), (7, .int (nI 1)), (5, .int (nI (freeN P S c1 h P.2.2.2.2.1))), (4, .int (nI c1)), (3, .int (nI h)), (2, .ref s0), (1, .ref p0), (0, .ref e20)]) hx hb dX5_most_96 hl (k := 1) rfl (by rw [← nI_add]; rfl) (by decide) rfl (fun ls hl => ?_)
                  refine lv_goto (pc := 99) (tgt := 40) hx hb dX5_most_99 (by decide) ?_
                  exact ih40 (fl + 1) (va_up u fl (mostW T.1 fl 16 + (popN fl 6 : Nat))) _ _ _ (by omega) (va_up_all (Pr := fun j y => y = stepV T.1 (freeN P S c1 h P.2.2.2.2.1) j) hu (by unfold stepV; rw [if_pos ⟨(xor_free0 (by omega) (by omega)).mp c54, by omega⟩])) (by omega) hP hS (lv_sub hl [0, 2, 3, 4, 5, 6, 7] rfl)
        exact cut40 _ 0 T.2 _ _ _ (by omega) (fun j hj => absurd hj (Nat.not_lt_zero j)) (Nat.lt_succ_self _) hP hS (lv_sub hl [0, 1, 2, 3, 4, 5, 6] rfl)
  exact cut18 _ 0 (va_up (fun _ => -1) 0 0, E2.2) _ _ _ (Nat.zero_le _) (fun l _ => rfl) (Nat.lt_succ_self _) hP hS (lv_sub hl [0, 4, 3, 2, 1] rfl)
