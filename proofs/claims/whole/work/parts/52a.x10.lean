abbrev rmX10_does : Room := { frames := 4, cells := 0, slots := 0, locals := 91 }
set_option maxHeartbeats 4000000 in
set_option maxRecDepth 100000 in
theorem k_X10_does (l : Launch) (D : va_G) (cI cC cB cS : ClassId) (o : Nat) (ad : Nat → Nat) (P : PL) (I : RI) (sl : Nat → Nat) (so : Nat → Nat) (cl : Nat → Nat) (de : Nat → Nat) (si : Nat → Nat) (ms : Nat → Nat) (wa : Nat → Nat) (ir : Nat → Nat) (dr : Nat) (z0 : Nat → Nat) (T : ST) (n : Nat) (hpk : plOK P) (hto : stOK P T) (hT : tRel P z0 sl T n) (hn9 : n ≤ 900) (hc : rC P so cl de si) (hm : rM P wa ir ms) (hde : ∀ j, de j < 100) (hso : ∀ j, so j < 100) (hsi : ∀ j, si j < 100) (hms : ∀ j, ms j < 100) (hir : ∀ j, ir j < 100) (hwa : ∀ j, wa j < 100) (hdr : dr < 65521) : CV l D (kT cI cC cB cS) yX10_does wsX10_does rmX10_does [.ref o, .int (nI 352), .int (nI dr)] ([rmE o ad (pCells P) P.2.2.2.1 P.2.2.2.2.2.1 P.2.2.2.2.2.2 I, nE 384 (ad 25) cI sl, nE 6 (ad 4) cI so, nE 6 (ad 5) cI cl, nE 6 (ad 6) cI de, nE 6 (ad 7) cI si, nE 3 (ad 11) cI ms, nE 3 (ad 9) cI wa, nE 3 (ad 10) cI ir]) (fun u => ∃ f : Nat → Nat, u = [rmE o ad (pCells P) P.2.2.2.1 P.2.2.2.2.2.1 P.2.2.2.2.2.2 I, nE 384 (ad 25) cI f, nE 6 (ad 4) cI so, nE 6 (ad 5) cI cl, nE 6 (ad 6) cI de, nE 6 (ad 7) cI si, nE 3 (ad 11) cI ms, nE 3 (ad 9) cI wa, nE 3 (ad 10) cI ir] ∧ tRel P z0 f (drawS P T dr) (n + 1)) := by
  refine cv_intro (by decide) rfl (Nat.le_of_ble_eq_true rfl) ?_
  intro p e s m args below meth c ls A QF hF hK hP hV hS hA hN hl hret
  obtain ⟨hx, hb, hml, hown, hts⟩ := id hF
  have hP : va_P D vwCl ([rmE o ad (pCells P) P.2.2.2.1 P.2.2.2.2.2.1 P.2.2.2.2.2.2 I, nE 384 (ad 25) cI sl, nE 6 (ad 4) cI so, nE 6 (ad 5) cI cl, nE 6 (ad 6) cI de, nE 6 (ad 7) cI si, nE 3 (ad 11) cI ms, nE 3 (ad 9) cI wa, nE 3 (ad 10) cI ir]) s.heap := hP
  have hl : lv_has ls 4 [(0, .ref o), (1, .int (nI 352)), (2, .int (nI dr))] := hl
  have wf61 := hts (.fieldLink RX10 61 "RemorseWallModel" "slot" "[I") (by decide +kernel)
  have wf121 := hts (.fieldLink RX10 121 "RemorseWallModel" "cells" "I") (by decide +kernel)
  have wf127 := hts (.fieldLink RX10 127 "RemorseWallModel" "cases" "I") (by decide +kernel)
  have wf130 := hts (.fieldLink RX10 130 "RemorseWallModel" "maids" "I") (by decide +kernel)
  have hiX10 : ∀ w ∈ u_ws RX10 TX10 44, w ∈ wsX10_does := by decide +kernel
  have hw := hpk.1
  obtain ⟨hp, hc1, hce, hme⟩ := id hw
  obtain ⟨hp1, hp2, hp3, hp4, hp5, hp6, hp7⟩ := id hp
  have hcl := pCells_le hp
  have hslb := hT.lt (by omega)
  have hclx : ∀ j, j < P.2.2.2.2.2.1 → cl j < pCells P := (fun j hj => by rw [(hc j hj).2.1]; exact hce j hj)
  have hyr : sl (352 + 31) = T.2.2.2.2 := hT.1.1.2.2
  have hpdd := opl hT.1.2.2 hto.2.2.2.1
  have hst5 := hto.2.2.2.2
  refine lv_iload_n (pc := 0) hx hb dX10_does_0 rfl (lv_at hl 2 rfl) ?_
  refine lv_bipush (pc := 1) (v := nI 8) hx hb dX10_does_1 (by decide) ?_
  refine rn_irem (pc := 3) hx hb (by omega) (by omega) dX10_does_3 ?_
  refine lv_istore_n (pc := 4) (lv' := [(3, .int (nI (dr % 8))), (0, .ref o), (1, .int (nI 352)), (2, .int (nI dr))]) hx hb dX10_does_4 rfl hl (by decide) rfl (fun ls hl => ?_)
  refine lv_iload_n (pc := 5) hx hb dX10_does_5 rfl (lv_at hl 0 rfl) ?_
  refine lv_bipush (pc := 6) (v := nI 7) hx hb dX10_does_6 (by decide) ?_
  refine rc_ne (pc := 8) (tgt := 39) hx hb (tI_nI (by omega)) (tI_nI (by omega)) dX10_does_8 (by decide) (fun c8 => ?_) (fun c8 => ?_)
  · refine lv_iload_n (pc := 39) hx hb dX10_does_39 rfl (lv_at hl 0 rfl) ?_
    refine lv_bipush (pc := 40) (v := nI 6) hx hb dX10_does_40 (by decide) ?_
    refine rc_ne (pc := 42) (tgt := 78) hx hb (tI_nI (by omega)) (tI_nI (by omega)) dX10_does_42 (by decide) (fun c42 => ?_) (fun c42 => ?_)
    · refine lv_iload_n (pc := 78) hx hb dX10_does_78 rfl (lv_at hl 0 rfl) ?_
      refine lv_bipush (pc := 79) (v := nI 6) hx hb dX10_does_79 (by decide) ?_
      refine rc_ge (pc := 81) (tgt := 140) hx hb (tI_nI (by omega)) (tI_nI (by omega)) dX10_does_81 (by decide) (fun c81 => ?_) (fun c81 => ?_)
      · exact hret 140 _ hP hS dX10_does_140 rfl ⟨sl, rfl, (by have e9 : drawS P T dr = T := (by unfold drawS strIf; (repeat' split) <;> first | rfl | (exfalso; omega) | (exact absurd ((can_rel (x := dr / 64 % pCells P) (Nat.mod_lt _ (by omega)) (Nat.lt_of_lt_of_le (Nat.mod_lt _ (by omega)) hp7) hT.1.1 hT.1.2.1).mpr (by assumption)) (by assumption))); rw [e9]; exact hT.mono)⟩
      · refine lv_aload_n (pc := 84) hx hb dX10_does_84 rfl (lv_at hl 1 rfl) ?_
        refine va_get (pc := 85) (D := D) (ci := 10) (v := .int (nI P.2.2.2.2.2.2)) (C := RX10) (T := TX10) (N := 44) hx hb hts hiX10 hown hK hP 0 rfl rfl 8 (by decide) wf130 (fun _ h9 => h9) rfl dX10_does_85 ?_
        refine r0_le (pc := 88) (tgt := 140) hx hb (tI_nI (by omega)) dX10_does_88 (by decide) (fun c88 => ?_) (fun c88 => ?_)
        · exact hret 140 _ hP hS dX10_does_140 rfl ⟨sl, rfl, (by have e9 : drawS P T dr = T := (by unfold drawS strIf; (repeat' split) <;> first | rfl | (exfalso; omega) | (exact absurd ((can_rel (x := dr / 64 % pCells P) (Nat.mod_lt _ (by omega)) (Nat.lt_of_lt_of_le (Nat.mod_lt _ (by omega)) hp7) hT.1.1 hT.1.2.1).mpr (by assumption)) (by assumption))); rw [e9]; exact hT.mono)⟩
        · have hmk := Nat.mod_lt (dr / 8) (show 0 < P.2.2.2.2.2.2 by omega)
          have hmx := Nat.mod_lt (dr / 64) (show 0 < pCells P by omega)
          have hpl9 : sl (352 + 27 + dr / 8 % P.2.2.2.2.2.2) = _ := hT.1.2.1 _ hmk
          have hpl8 := hto.2.2.1 (dr / 8 % P.2.2.2.2.2.2)
          have hcan := can_rel (x := dr / 64 % pCells P) hmk (show dr / 8 % P.2.2.2.2.2.2 < 3 by omega) hT.1.1 hT.1.2.1
          refine lv_aload_n (pc := 91) hx hb dX10_does_91 rfl (lv_at hl 1 rfl) ?_
          refine lv_iload_n (pc := 92) hx hb dX10_does_92 rfl (lv_at hl 2 rfl) ?_
          refine lv_iload_n (pc := 93) hx hb dX10_does_93 rfl (lv_at hl 3 rfl) ?_
          refine lv_bipush (pc := 94) (v := nI 8) hx hb dX10_does_94 (by decide) ?_
          refine rn_idiv (pc := 96) hx hb (by omega) (by omega) dX10_does_96 ?_
          refine lv_aload_n (pc := 97) hx hb dX10_does_97 rfl (lv_at hl 1 rfl) ?_
          refine va_get (pc := 98) (D := D) (ci := 10) (v := .int (nI P.2.2.2.2.2.2)) (C := RX10) (T := TX10) (N := 44) hx hb hts hiX10 hown hK hP 0 rfl rfl 8 (by decide) wf130 (fun _ h9 => h9) rfl dX10_does_98 ?_
          refine rn_irem (pc := 101) hx hb (by omega) (by omega) dX10_does_101 ?_
          refine lv_iload_n (pc := 102) hx hb dX10_does_102 rfl (lv_at hl 3 rfl) ?_
          refine lv_bipush (pc := 103) (v := nI 64) hx hb dX10_does_103 (by decide) ?_
          refine rn_idiv (pc := 105) hx hb (by omega) (by omega) dX10_does_105 ?_
          refine lv_aload_n (pc := 106) hx hb dX10_does_106 rfl (lv_at hl 1 rfl) ?_
          refine va_get (pc := 107) (D := D) (ci := 10) (v := .int (nI (pCells P))) (C := RX10) (T := TX10) (N := 44) hx hb hts hiX10 hown hK hP 0 rfl rfl 0 (by decide) wf121 (fun _ h9 => h9) rfl dX10_does_107 ?_
          refine rn_irem (pc := 110) hx hb (by omega) (by omega) dX10_does_110 ?_
          refine ci_Vd (pc := 111) (r0 := nI (if rCan P sl 352 ((dr / 8) % P.2.2.2.2.2.2) ((dr / 64) % (pCells P)) then 1 else 0)) hF hN hK hP hV hS hA (k_X10_canStrike l D cI cC cB cS o ad P I sl 352 ((dr / 8) % P.2.2.2.2.2.2) ((dr / 64) % (pCells P)) hp hslb (by omega) (by omega) (by omega) (by omega)) (cwV 3 hts gX10_does_X10_canStrike rfl rfl rfl (by decide +kernel) ⟨Nat.le_of_ble_eq_true rfl, Nat.le_of_ble_eq_true rfl⟩) [0, 1] rfl (by decide) 0 10 rfl rfl rfl hl.1 rfl (Nat.le_of_ble_eq_true rfl) dX10_does_111 ⟨Nat.le_refl _, Nat.le_refl _⟩ rfl (ws2 := [rmE o ad (pCells P) P.2.2.2.1 P.2.2.2.2.2.1 P.2.2.2.2.2.2 I, nE 384 (ad 25) cI sl, nE 6 (ad 4) cI so, nE 6 (ad 5) cI cl, nE 6 (ad 6) cI de, nE 6 (ad 7) cI si, nE 3 (ad 11) cI ms, nE 3 (ad 9) cI wa, nE 3 (ad 10) cI ir]) rfl (fun H locs hP hS => ?_)
          refine rb_eq (pc := 114) (tgt := 140) hx hb dX10_does_114 (by decide) (fun c114 => ?_) (fun c114 => ?_)
          · exact hret 140 _ hP hS dX10_does_140 rfl ⟨sl, rfl, (by have e9 : drawS P T dr = T := (by unfold drawS strIf; (repeat' split) <;> first | rfl | (exfalso; omega) | (exact absurd ((can_rel (x := dr / 64 % pCells P) (Nat.mod_lt _ (by omega)) (Nat.lt_of_lt_of_le (Nat.mod_lt _ (by omega)) hp7) hT.1.1 hT.1.2.1).mpr (by assumption)) (by assumption))); rw [e9]; exact hT.mono)⟩
          · refine lv_aload_n (pc := 117) hx hb dX10_does_117 rfl (lv_at hl 1 rfl) ?_
            refine lv_iload_n (pc := 118) hx hb dX10_does_118 rfl (lv_at hl 2 rfl) ?_
            refine lv_iload_n (pc := 119) hx hb dX10_does_119 rfl (lv_at hl 3 rfl) ?_
            refine lv_bipush (pc := 120) (v := nI 8) hx hb dX10_does_120 (by decide) ?_
            refine rn_idiv (pc := 122) hx hb (by omega) (by omega) dX10_does_122 ?_
            refine lv_aload_n (pc := 123) hx hb dX10_does_123 rfl (lv_at hl 1 rfl) ?_
            refine va_get (pc := 124) (D := D) (ci := 10) (v := .int (nI P.2.2.2.2.2.2)) (C := RX10) (T := TX10) (N := 44) hx hb hts hiX10 hown hK hP 0 rfl rfl 8 (by decide) wf130 (fun _ h9 => h9) rfl dX10_does_124 ?_
            refine rn_irem (pc := 127) hx hb (by omega) (by omega) dX10_does_127 ?_
            refine lv_iload_n (pc := 128) hx hb dX10_does_128 rfl (lv_at hl 3 rfl) ?_
            refine lv_bipush (pc := 129) (v := nI 64) hx hb dX10_does_129 (by decide) ?_
            refine rn_idiv (pc := 131) hx hb (by omega) (by omega) dX10_does_131 ?_
            refine lv_aload_n (pc := 132) hx hb dX10_does_132 rfl (lv_at hl 1 rfl) ?_
            refine va_get (pc := 133) (D := D) (ci := 10) (v := .int (nI (pCells P))) (C := RX10) (T := TX10) (N := 44) hx hb hts hiX10 hown hK hP 0 rfl rfl 0 (by decide) wf121 (fun _ h9 => h9) rfl dX10_does_133 ?_
            refine rn_irem (pc := 136) hx hb (by omega) (by omega) dX10_does_136 ?_
            refine cv_Vd (pc := 137) hF hN hK hP hV hS hA (k_X10_strikes l D cI cC cB cS o ad P I sl wa ir 352 ((dr / 8) % P.2.2.2.2.2.2) ((dr / 64) % (pCells P)) hp hslb hir hwa (by omega) (by omega) (by omega) c114.1) (cwV 3 hts gX10_does_X10_strikes rfl rfl rfl (by decide +kernel) ⟨Nat.le_of_ble_eq_true rfl, Nat.le_of_ble_eq_true rfl⟩) [0, 1, 7, 8] rfl (by decide) 0 10 rfl rfl rfl hl.1 rfl (Nat.le_of_ble_eq_true rfl) dX10_does_137 ⟨Nat.le_refl _, Nat.le_refl _⟩ rfl (ws2 := [rmE o ad (pCells P) P.2.2.2.1 P.2.2.2.2.2.1 P.2.2.2.2.2.2 I, nE 384 (ad 25) cI (rStr P wa ir 352 ((dr / 8) % P.2.2.2.2.2.2) ((dr / 64) % (pCells P)) sl), nE 6 (ad 4) cI so, nE 6 (ad 5) cI cl, nE 6 (ad 6) cI de, nE 6 (ad 7) cI si, nE 3 (ad 11) cI ms, nE 3 (ad 9) cI wa, nE 3 (ad 10) cI ir]) rfl (fun H locs hP hS => ?_)
            exact hret 140 _ hP hS dX10_does_140 rfl ⟨_, rfl, (by have e9 : drawS P T dr = strS P T (dr / 8 % P.2.2.2.2.2.2) (dr / 64 % pCells P) := (by unfold drawS strIf; rw [if_neg (by omega), if_neg (by omega), if_pos (by omega), if_pos (hcan.mp c114)]); rw [e9]; exact (try_str hw hm hmk hmx hT hto.1).mono)⟩
    · refine lv_aload_n (pc := 45) hx hb dX10_does_45 rfl (lv_at hl 1 rfl) ?_
      refine va_get (pc := 46) (D := D) (ci := 10) (v := .int (nI P.2.2.2.2.2.1)) (C := RX10) (T := TX10) (N := 44) hx hb hts hiX10 hown hK hP 0 rfl rfl 3 (by decide) wf127 (fun _ h9 => h9) rfl dX10_does_46 ?_
      refine r0_le (pc := 49) (tgt := 78) hx hb (tI_nI (by omega)) dX10_does_49 (by decide) (fun c49 => ?_) (fun c49 => ?_)
      · refine lv_iload_n (pc := 78) hx hb dX10_does_78 rfl (lv_at hl 0 rfl) ?_
        refine lv_bipush (pc := 79) (v := nI 6) hx hb dX10_does_79 (by decide) ?_
        refine rc_ge (pc := 81) (tgt := 140) hx hb (tI_nI (by omega)) (tI_nI (by omega)) dX10_does_81 (by decide) (fun c81 => ?_) (fun c81 => ?_)
        · exact hret 140 _ hP hS dX10_does_140 rfl ⟨sl, rfl, (by have e9 : drawS P T dr = T := (by unfold drawS strIf; (repeat' split) <;> first | rfl | (exfalso; omega) | (exact absurd ((can_rel (x := dr / 64 % pCells P) (Nat.mod_lt _ (by omega)) (Nat.lt_of_lt_of_le (Nat.mod_lt _ (by omega)) hp7) hT.1.1 hT.1.2.1).mpr (by assumption)) (by assumption))); rw [e9]; exact hT.mono)⟩
        · refine lv_aload_n (pc := 84) hx hb dX10_does_84 rfl (lv_at hl 1 rfl) ?_
          refine va_get (pc := 85) (D := D) (ci := 10) (v := .int (nI P.2.2.2.2.2.2)) (C := RX10) (T := TX10) (N := 44) hx hb hts hiX10 hown hK hP 0 rfl rfl 8 (by decide) wf130 (fun _ h9 => h9) rfl dX10_does_85 ?_
          refine r0_le (pc := 88) (tgt := 140) hx hb (tI_nI (by omega)) dX10_does_88 (by decide) (fun c88 => ?_) (fun c88 => ?_)
          · exact hret 140 _ hP hS dX10_does_140 rfl ⟨sl, rfl, (by have e9 : drawS P T dr = T := (by unfold drawS strIf; (repeat' split) <;> first | rfl | (exfalso; omega) | (exact absurd ((can_rel (x := dr / 64 % pCells P) (Nat.mod_lt _ (by omega)) (Nat.lt_of_lt_of_le (Nat.mod_lt _ (by omega)) hp7) hT.1.1 hT.1.2.1).mpr (by assumption)) (by assumption))); rw [e9]; exact hT.mono)⟩
          · have hmk := Nat.mod_lt (dr / 8) (show 0 < P.2.2.2.2.2.2 by omega)
            have hmx := Nat.mod_lt (dr / 64) (show 0 < pCells P by omega)
            have hpl9 : sl (352 + 27 + dr / 8 % P.2.2.2.2.2.2) = _ := hT.1.2.1 _ hmk
            have hpl8 := hto.2.2.1 (dr / 8 % P.2.2.2.2.2.2)
            have hcan := can_rel (x := dr / 64 % pCells P) hmk (show dr / 8 % P.2.2.2.2.2.2 < 3 by omega) hT.1.1 hT.1.2.1
            refine lv_aload_n (pc := 91) hx hb dX10_does_91 rfl (lv_at hl 1 rfl) ?_
            refine lv_iload_n (pc := 92) hx hb dX10_does_92 rfl (lv_at hl 2 rfl) ?_
            refine lv_iload_n (pc := 93) hx hb dX10_does_93 rfl (lv_at hl 3 rfl) ?_
            refine lv_bipush (pc := 94) (v := nI 8) hx hb dX10_does_94 (by decide) ?_
            refine rn_idiv (pc := 96) hx hb (by omega) (by omega) dX10_does_96 ?_
            refine lv_aload_n (pc := 97) hx hb dX10_does_97 rfl (lv_at hl 1 rfl) ?_
            refine va_get (pc := 98) (D := D) (ci := 10) (v := .int (nI P.2.2.2.2.2.2)) (C := RX10) (T := TX10) (N := 44) hx hb hts hiX10 hown hK hP 0 rfl rfl 8 (by decide) wf130 (fun _ h9 => h9) rfl dX10_does_98 ?_
            refine rn_irem (pc := 101) hx hb (by omega) (by omega) dX10_does_101 ?_
            refine lv_iload_n (pc := 102) hx hb dX10_does_102 rfl (lv_at hl 3 rfl) ?_
            refine lv_bipush (pc := 103) (v := nI 64) hx hb dX10_does_103 (by decide) ?_
            refine rn_idiv (pc := 105) hx hb (by omega) (by omega) dX10_does_105 ?_
            refine lv_aload_n (pc := 106) hx hb dX10_does_106 rfl (lv_at hl 1 rfl) ?_
            refine va_get (pc := 107) (D := D) (ci := 10) (v := .int (nI (pCells P))) (C := RX10) (T := TX10) (N := 44) hx hb hts hiX10 hown hK hP 0 rfl rfl 0 (by decide) wf121 (fun _ h9 => h9) rfl dX10_does_107 ?_
            refine rn_irem (pc := 110) hx hb (by omega) (by omega) dX10_does_110 ?_
            refine ci_Vd (pc := 111) (r0 := nI (if rCan P sl 352 ((dr / 8) % P.2.2.2.2.2.2) ((dr / 64) % (pCells P)) then 1 else 0)) hF hN hK hP hV hS hA (k_X10_canStrike l D cI cC cB cS o ad P I sl 352 ((dr / 8) % P.2.2.2.2.2.2) ((dr / 64) % (pCells P)) hp hslb (by omega) (by omega) (by omega) (by omega)) (cwV 3 hts gX10_does_X10_canStrike rfl rfl rfl (by decide +kernel) ⟨Nat.le_of_ble_eq_true rfl, Nat.le_of_ble_eq_true rfl⟩) [0, 1] rfl (by decide) 0 10 rfl rfl rfl hl.1 rfl (Nat.le_of_ble_eq_true rfl) dX10_does_111 ⟨Nat.le_refl _, Nat.le_refl _⟩ rfl (ws2 := [rmE o ad (pCells P) P.2.2.2.1 P.2.2.2.2.2.1 P.2.2.2.2.2.2 I, nE 384 (ad 25) cI sl, nE 6 (ad 4) cI so, nE 6 (ad 5) cI cl, nE 6 (ad 6) cI de, nE 6 (ad 7) cI si, nE 3 (ad 11) cI ms, nE 3 (ad 9) cI wa, nE 3 (ad 10) cI ir]) rfl (fun H locs hP hS => ?_)
            refine rb_eq (pc := 114) (tgt := 140) hx hb dX10_does_114 (by decide) (fun c114 => ?_) (fun c114 => ?_)
            · exact hret 140 _ hP hS dX10_does_140 rfl ⟨sl, rfl, (by have e9 : drawS P T dr = T := (by unfold drawS strIf; (repeat' split) <;> first | rfl | (exfalso; omega) | (exact absurd ((can_rel (x := dr / 64 % pCells P) (Nat.mod_lt _ (by omega)) (Nat.lt_of_lt_of_le (Nat.mod_lt _ (by omega)) hp7) hT.1.1 hT.1.2.1).mpr (by assumption)) (by assumption))); rw [e9]; exact hT.mono)⟩
            · refine lv_aload_n (pc := 117) hx hb dX10_does_117 rfl (lv_at hl 1 rfl) ?_
              refine lv_iload_n (pc := 118) hx hb dX10_does_118 rfl (lv_at hl 2 rfl) ?_
              refine lv_iload_n (pc := 119) hx hb dX10_does_119 rfl (lv_at hl 3 rfl) ?_
              refine lv_bipush (pc := 120) (v := nI 8) hx hb dX10_does_120 (by decide) ?_
              refine rn_idiv (pc := 122) hx hb (by omega) (by omega) dX10_does_122 ?_
              refine lv_aload_n (pc := 123) hx hb dX10_does_123 rfl (lv_at hl 1 rfl) ?_
              refine va_get (pc := 124) (D := D) (ci := 10) (v := .int (nI P.2.2.2.2.2.2)) (C := RX10) (T := TX10) (N := 44) hx hb hts hiX10 hown hK hP 0 rfl rfl 8 (by decide) wf130 (fun _ h9 => h9) rfl dX10_does_124 ?_
              refine rn_irem (pc := 127) hx hb (by omega) (by omega) dX10_does_127 ?_
              refine lv_iload_n (pc := 128) hx hb dX10_does_128 rfl (lv_at hl 3 rfl) ?_
              refine lv_bipush (pc := 129) (v := nI 64) hx hb dX10_does_129 (by decide) ?_
              refine rn_idiv (pc := 131) hx hb (by omega) (by omega) dX10_does_131 ?_
              refine lv_aload_n (pc := 132) hx hb dX10_does_132 rfl (lv_at hl 1 rfl) ?_
              refine va_get (pc := 133) (D := D) (ci := 10) (v := .int (nI (pCells P))) (C := RX10) (T := TX10) (N := 44) hx hb hts hiX10 hown hK hP 0 rfl rfl 0 (by decide) wf121 (fun _ h9 => h9) rfl dX10_does_133 ?_
              refine rn_irem (pc := 136) hx hb (by omega) (by omega) dX10_does_136 ?_
              refine cv_Vd (pc := 137) hF hN hK hP hV hS hA (k_X10_strikes l D cI cC cB cS o ad P I sl wa ir 352 ((dr / 8) % P.2.2.2.2.2.2) ((dr / 64) % (pCells P)) hp hslb hir hwa (by omega) (by omega) (by omega) c114.1) (cwV 3 hts gX10_does_X10_strikes rfl rfl rfl (by decide +kernel) ⟨Nat.le_of_ble_eq_true rfl, Nat.le_of_ble_eq_true rfl⟩) [0, 1, 7, 8] rfl (by decide) 0 10 rfl rfl rfl hl.1 rfl (Nat.le_of_ble_eq_true rfl) dX10_does_137 ⟨Nat.le_refl _, Nat.le_refl _⟩ rfl (ws2 := [rmE o ad (pCells P) P.2.2.2.1 P.2.2.2.2.2.1 P.2.2.2.2.2.2 I, nE 384 (ad 25) cI (rStr P wa ir 352 ((dr / 8) % P.2.2.2.2.2.2) ((dr / 64) % (pCells P)) sl), nE 6 (ad 4) cI so, nE 6 (ad 5) cI cl, nE 6 (ad 6) cI de, nE 6 (ad 7) cI si, nE 3 (ad 11) cI ms, nE 3 (ad 9) cI wa, nE 3 (ad 10) cI ir]) rfl (fun H locs hP hS => ?_)
              exact hret 140 _ hP hS dX10_does_140 rfl ⟨_, rfl, (by have e9 : drawS P T dr = strS P T (dr / 8 % P.2.2.2.2.2.2) (dr / 64 % pCells P) := (by unfold drawS strIf; rw [if_neg (by omega), if_neg (by omega), if_pos (by omega), if_pos (hcan.mp c114)]); rw [e9]; exact (try_str hw hm hmk hmx hT hto.1).mono)⟩
      · refine lv_aload_n (pc := 52) hx hb dX10_does_52 rfl (lv_at hl 1 rfl) ?_
        have hmk := Nat.mod_lt (dr / 8) (show 0 < P.2.2.2.2.2.1 by omega)
        have hmk6 : dr / 8 % P.2.2.2.2.2.1 < 6 := by omega
        refine va_get (pc := 53) (D := D) (ci := 10) (v := .ref (ad 25)) (C := RX10) (T := TX10) (N := 44) hx hb hts hiX10 hown hK hP 0 rfl rfl 25 (by decide) wf61 (fun _ h9 => h9) rfl dX10_does_53 ?_
        refine lv_iload_n (pc := 56) hx hb dX10_does_56 rfl (lv_at hl 2 rfl) ?_
        refine lv_bipush (pc := 57) (v := nI 30) hx hb dX10_does_57 (by decide) ?_
        refine rn_iadd (pc := 59) hx hb dX10_does_59 ?_
        refine lv_dup2_11 (pc := 60) hx hb dX10_does_60 rfl rfl ?_
        have h61 := hslb (352 + 30)
        refine ra_iald (pc := 61) (k := 352 + 30) (v := nI (sl (352 + 30))) hx hb hK hP 1 0 rfl rfl (by omega) (by decide) rfl dX10_does_61 ?_
        refine lv_iconst (pc := 62) (v := nI 1) hx hb dX10_does_62 (by decide) ?_
        refine lv_iload_n (pc := 63) hx hb dX10_does_63 rfl (lv_at hl 3 rfl) ?_
        refine lv_bipush (pc := 64) (v := nI 8) hx hb dX10_does_64 (by decide) ?_
        refine rn_idiv (pc := 66) hx hb (by omega) (by omega) dX10_does_66 ?_
        refine lv_aload_n (pc := 67) hx hb dX10_does_67 rfl (lv_at hl 1 rfl) ?_
        refine va_get (pc := 68) (D := D) (ci := 10) (v := .int (nI P.2.2.2.2.2.1)) (C := RX10) (T := TX10) (N := 44) hx hb hts hiX10 hown hK hP 0 rfl rfl 3 (by decide) wf127 (fun _ h9 => h9) rfl dX10_does_68 ?_
        refine rn_irem (pc := 71) hx hb (by omega) (by omega) dX10_does_71 ?_
        refine lv_ishl (pc := 72) hx hb dX10_does_72 ?_
        refine r_top (nI_1shl (by omega)) ?_
        refine lv_ior (pc := 73) hx hb dX10_does_73 ?_
        refine r_top (nI_or _ _) ?_
        refine rn_iast (pc := 74) (f := sl) (k := 352 + 30) (x := (sl (352 + 30)) ||| (2 ^ ((dr / 8) % P.2.2.2.2.2.1))) (ws2 := [rmE o ad (pCells P) P.2.2.2.1 P.2.2.2.2.2.1 P.2.2.2.2.2.2 I, nE 384 (ad 25) cI (va_up sl (352 + 30) ((sl (352 + 30)) ||| (2 ^ ((dr / 8) % P.2.2.2.2.2.1)))), nE 6 (ad 4) cI so, nE 6 (ad 5) cI cl, nE 6 (ad 6) cI de, nE 6 (ad 7) cI si, nE 3 (ad 11) cI ms, nE 3 (ad 9) cI wa, nE 3 (ad 10) cI ir]) hx hb hK hP hV hS 1 0 rfl rfl (by omega) (by decide) dX10_does_74 rfl rfl (fun H locs hP hS => ?_)
        refine lv_goto (pc := 75) (tgt := 140) hx hb dX10_does_75 (by decide) ?_
        exact hret 140 _ hP hS dX10_does_140 rfl ⟨_, rfl, (by have e9 : drawS P T dr = parS T (dr / 8 % P.2.2.2.2.2.1) := (by unfold drawS; rw [if_neg (by omega), if_pos (by omega), if_pos (by omega)]); rw [e9]; exact (try_par hw hmk hT hto.2.2.2.1).mono)⟩
  · refine lv_aload_n (pc := 11) hx hb dX10_does_11 rfl (lv_at hl 1 rfl) ?_
    refine va_get (pc := 12) (D := D) (ci := 10) (v := .ref (ad 25)) (C := RX10) (T := TX10) (N := 44) hx hb hts hiX10 hown hK hP 0 rfl rfl 25 (by decide) wf61 (fun _ h9 => h9) rfl dX10_does_12 ?_
    refine lv_iload_n (pc := 15) hx hb dX10_does_15 rfl (lv_at hl 2 rfl) ?_
    refine lv_bipush (pc := 16) (v := nI 31) hx hb dX10_does_16 (by decide) ?_
    refine rn_iadd (pc := 18) hx hb dX10_does_18 ?_
    refine ra_iald (pc := 19) (k := 352 + 31) (v := nI (sl (352 + 31))) hx hb hK hP 1 0 rfl rfl (by omega) (by decide) rfl dX10_does_19 ?_
    refine lv_sipush (pc := 20) (v := nI 999) hx hb dX10_does_20 (by decide) ?_
    refine rc_ge (pc := 23) (tgt := 39) hx hb (tI_nI (by omega)) (tI_nI (by omega)) dX10_does_23 (by decide) (fun c23 => ?_) (fun c23 => ?_)
    · refine lv_iload_n (pc := 39) hx hb dX10_does_39 rfl (lv_at hl 0 rfl) ?_
      refine lv_bipush (pc := 40) (v := nI 6) hx hb dX10_does_40 (by decide) ?_
      refine rc_ne (pc := 42) (tgt := 78) hx hb (tI_nI (by omega)) (tI_nI (by omega)) dX10_does_42 (by decide) (fun c42 => ?_) (fun c42 => ?_)
      · refine lv_iload_n (pc := 78) hx hb dX10_does_78 rfl (lv_at hl 0 rfl) ?_
        refine lv_bipush (pc := 79) (v := nI 6) hx hb dX10_does_79 (by decide) ?_
        refine rc_ge (pc := 81) (tgt := 140) hx hb (tI_nI (by omega)) (tI_nI (by omega)) dX10_does_81 (by decide) (fun c81 => ?_) (fun c81 => ?_)
        · exact hret 140 _ hP hS dX10_does_140 rfl ⟨sl, rfl, (by have e9 : drawS P T dr = T := (by unfold drawS strIf; (repeat' split) <;> first | rfl | (exfalso; omega) | (exact absurd ((can_rel (x := dr / 64 % pCells P) (Nat.mod_lt _ (by omega)) (Nat.lt_of_lt_of_le (Nat.mod_lt _ (by omega)) hp7) hT.1.1 hT.1.2.1).mpr (by assumption)) (by assumption))); rw [e9]; exact hT.mono)⟩
        · refine lv_aload_n (pc := 84) hx hb dX10_does_84 rfl (lv_at hl 1 rfl) ?_
          refine va_get (pc := 85) (D := D) (ci := 10) (v := .int (nI P.2.2.2.2.2.2)) (C := RX10) (T := TX10) (N := 44) hx hb hts hiX10 hown hK hP 0 rfl rfl 8 (by decide) wf130 (fun _ h9 => h9) rfl dX10_does_85 ?_
          refine r0_le (pc := 88) (tgt := 140) hx hb (tI_nI (by omega)) dX10_does_88 (by decide) (fun c88 => ?_) (fun c88 => ?_)
          · exact hret 140 _ hP hS dX10_does_140 rfl ⟨sl, rfl, (by have e9 : drawS P T dr = T := (by unfold drawS strIf; (repeat' split) <;> first | rfl | (exfalso; omega) | (exact absurd ((can_rel (x := dr / 64 % pCells P) (Nat.mod_lt _ (by omega)) (Nat.lt_of_lt_of_le (Nat.mod_lt _ (by omega)) hp7) hT.1.1 hT.1.2.1).mpr (by assumption)) (by assumption))); rw [e9]; exact hT.mono)⟩
          · have hmk := Nat.mod_lt (dr / 8) (show 0 < P.2.2.2.2.2.2 by omega)
            have hmx := Nat.mod_lt (dr / 64) (show 0 < pCells P by omega)
            have hpl9 : sl (352 + 27 + dr / 8 % P.2.2.2.2.2.2) = _ := hT.1.2.1 _ hmk
            have hpl8 := hto.2.2.1 (dr / 8 % P.2.2.2.2.2.2)
            have hcan := can_rel (x := dr / 64 % pCells P) hmk (show dr / 8 % P.2.2.2.2.2.2 < 3 by omega) hT.1.1 hT.1.2.1
            refine lv_aload_n (pc := 91) hx hb dX10_does_91 rfl (lv_at hl 1 rfl) ?_
            refine lv_iload_n (pc := 92) hx hb dX10_does_92 rfl (lv_at hl 2 rfl) ?_
            refine lv_iload_n (pc := 93) hx hb dX10_does_93 rfl (lv_at hl 3 rfl) ?_
            refine lv_bipush (pc := 94) (v := nI 8) hx hb dX10_does_94 (by decide) ?_
            refine rn_idiv (pc := 96) hx hb (by omega) (by omega) dX10_does_96 ?_
            refine lv_aload_n (pc := 97) hx hb dX10_does_97 rfl (lv_at hl 1 rfl) ?_
            refine va_get (pc := 98) (D := D) (ci := 10) (v := .int (nI P.2.2.2.2.2.2)) (C := RX10) (T := TX10) (N := 44) hx hb hts hiX10 hown hK hP 0 rfl rfl 8 (by decide) wf130 (fun _ h9 => h9) rfl dX10_does_98 ?_
            refine rn_irem (pc := 101) hx hb (by omega) (by omega) dX10_does_101 ?_
            refine lv_iload_n (pc := 102) hx hb dX10_does_102 rfl (lv_at hl 3 rfl) ?_
            refine lv_bipush (pc := 103) (v := nI 64) hx hb dX10_does_103 (by decide) ?_
            refine rn_idiv (pc := 105) hx hb (by omega) (by omega) dX10_does_105 ?_
            refine lv_aload_n (pc := 106) hx hb dX10_does_106 rfl (lv_at hl 1 rfl) ?_
            refine va_get (pc := 107) (D := D) (ci := 10) (v := .int (nI (pCells P))) (C := RX10) (T := TX10) (N := 44) hx hb hts hiX10 hown hK hP 0 rfl rfl 0 (by decide) wf121 (fun _ h9 => h9) rfl dX10_does_107 ?_
            refine rn_irem (pc := 110) hx hb (by omega) (by omega) dX10_does_110 ?_
            refine ci_Vd (pc := 111) (r0 := nI (if rCan P sl 352 ((dr / 8) % P.2.2.2.2.2.2) ((dr / 64) % (pCells P)) then 1 else 0)) hF hN hK hP hV hS hA (k_X10_canStrike l D cI cC cB cS o ad P I sl 352 ((dr / 8) % P.2.2.2.2.2.2) ((dr / 64) % (pCells P)) hp hslb (by omega) (by omega) (by omega) (by omega)) (cwV 3 hts gX10_does_X10_canStrike rfl rfl rfl (by decide +kernel) ⟨Nat.le_of_ble_eq_true rfl, Nat.le_of_ble_eq_true rfl⟩) [0, 1] rfl (by decide) 0 10 rfl rfl rfl hl.1 rfl (Nat.le_of_ble_eq_true rfl) dX10_does_111 ⟨Nat.le_refl _, Nat.le_refl _⟩ rfl (ws2 := [rmE o ad (pCells P) P.2.2.2.1 P.2.2.2.2.2.1 P.2.2.2.2.2.2 I, nE 384 (ad 25) cI sl, nE 6 (ad 4) cI so, nE 6 (ad 5) cI cl, nE 6 (ad 6) cI de, nE 6 (ad 7) cI si, nE 3 (ad 11) cI ms, nE 3 (ad 9) cI wa, nE 3 (ad 10) cI ir]) rfl (fun H locs hP hS => ?_)
            refine rb_eq (pc := 114) (tgt := 140) hx hb dX10_does_114 (by decide) (fun c114 => ?_) (fun c114 => ?_)
            · exact hret 140 _ hP hS dX10_does_140 rfl ⟨sl, rfl, (by have e9 : drawS P T dr = T := (by unfold drawS strIf; (repeat' split) <;> first | rfl | (exfalso; omega) | (exact absurd ((can_rel (x := dr / 64 % pCells P) (Nat.mod_lt _ (by omega)) (Nat.lt_of_lt_of_le (Nat.mod_lt _ (by omega)) hp7) hT.1.1 hT.1.2.1).mpr (by assumption)) (by assumption))); rw [e9]; exact hT.mono)⟩
            · refine lv_aload_n (pc := 117) hx hb dX10_does_117 rfl (lv_at hl 1 rfl) ?_
              refine lv_iload_n (pc := 118) hx hb dX10_does_118 rfl (lv_at hl 2 rfl) ?_
              refine lv_iload_n (pc := 119) hx hb dX10_does_119 rfl (lv_at hl 3 rfl) ?_
              refine lv_bipush (pc := 120) (v := nI 8) hx hb dX10_does_120 (by decide) ?_
              refine rn_idiv (pc := 122) hx hb (by omega) (by omega) dX10_does_122 ?_
              refine lv_aload_n (pc := 123) hx hb dX10_does_123 rfl (lv_at hl 1 rfl) ?_
              refine va_get (pc := 124) (D := D) (ci := 10) (v := .int (nI P.2.2.2.2.2.2)) (C := RX10) (T := TX10) (N := 44) hx hb hts hiX10 hown hK hP 0 rfl rfl 8 (by decide) wf130 (fun _ h9 => h9) rfl dX10_does_124 ?_
              refine rn_irem (pc := 127) hx hb (by omega) (by omega) dX10_does_127 ?_
              refine lv_iload_n (pc := 128) hx hb dX10_does_128 rfl (lv_at hl 3 rfl) ?_
              refine lv_bipush (pc := 129) (v := nI 64) hx hb dX10_does_129 (by decide) ?_
              refine rn_idiv (pc := 131) hx hb (by omega) (by omega) dX10_does_131 ?_
              refine lv_aload_n (pc := 132) hx hb dX10_does_132 rfl (lv_at hl 1 rfl) ?_
              refine va_get (pc := 133) (D := D) (ci := 10) (v := .int (nI (pCells P))) (C := RX10) (T := TX10) (N := 44) hx hb hts hiX10 hown hK hP 0 rfl rfl 0 (by decide) wf121 (fun _ h9 => h9) rfl dX10_does_133 ?_
              refine rn_irem (pc := 136) hx hb (by omega) (by omega) dX10_does_136 ?_
              refine cv_Vd (pc := 137) hF hN hK hP hV hS hA (k_X10_strikes l D cI cC cB cS o ad P I sl wa ir 352 ((dr / 8) % P.2.2.2.2.2.2) ((dr / 64) % (pCells P)) hp hslb hir hwa (by omega) (by omega) (by omega) c114.1) (cwV 3 hts gX10_does_X10_strikes rfl rfl rfl (by decide +kernel) ⟨Nat.le_of_ble_eq_true rfl, Nat.le_of_ble_eq_true rfl⟩) [0, 1, 7, 8] rfl (by decide) 0 10 rfl rfl rfl hl.1 rfl (Nat.le_of_ble_eq_true rfl) dX10_does_137 ⟨Nat.le_refl _, Nat.le_refl _⟩ rfl (ws2 := [rmE o ad (pCells P) P.2.2.2.1 P.2.2.2.2.2.1 P.2.2.2.2.2.2 I, nE 384 (ad 25) cI (rStr P wa ir 352 ((dr / 8) % P.2.2.2.2.2.2) ((dr / 64) % (pCells P)) sl), nE 6 (ad 4) cI so, nE 6 (ad 5) cI cl, nE 6 (ad 6) cI de, nE 6 (ad 7) cI si, nE 3 (ad 11) cI ms, nE 3 (ad 9) cI wa, nE 3 (ad 10) cI ir]) rfl (fun H locs hP hS => ?_)
              exact hret 140 _ hP hS dX10_does_140 rfl ⟨_, rfl, (by have e9 : drawS P T dr = strS P T (dr / 8 % P.2.2.2.2.2.2) (dr / 64 % pCells P) := (by unfold drawS strIf; rw [if_neg (by omega), if_neg (by omega), if_pos (by omega), if_pos (hcan.mp c114)]); rw [e9]; exact (try_str hw hm hmk hmx hT hto.1).mono)⟩
      · refine lv_aload_n (pc := 45) hx hb dX10_does_45 rfl (lv_at hl 1 rfl) ?_
        refine va_get (pc := 46) (D := D) (ci := 10) (v := .int (nI P.2.2.2.2.2.1)) (C := RX10) (T := TX10) (N := 44) hx hb hts hiX10 hown hK hP 0 rfl rfl 3 (by decide) wf127 (fun _ h9 => h9) rfl dX10_does_46 ?_
        refine r0_le (pc := 49) (tgt := 78) hx hb (tI_nI (by omega)) dX10_does_49 (by decide) (fun c49 => ?_) (fun c49 => ?_)
        · refine lv_iload_n (pc := 78) hx hb dX10_does_78 rfl (lv_at hl 0 rfl) ?_
          refine lv_bipush (pc := 79) (v := nI 6) hx hb dX10_does_79 (by decide) ?_
          refine rc_ge (pc := 81) (tgt := 140) hx hb (tI_nI (by omega)) (tI_nI (by omega)) dX10_does_81 (by decide) (fun c81 => ?_) (fun c81 => ?_)
          · exact hret 140 _ hP hS dX10_does_140 rfl ⟨sl, rfl, (by have e9 : drawS P T dr = T := (by unfold drawS strIf; (repeat' split) <;> first | rfl | (exfalso; omega) | (exact absurd ((can_rel (x := dr / 64 % pCells P) (Nat.mod_lt _ (by omega)) (Nat.lt_of_lt_of_le (Nat.mod_lt _ (by omega)) hp7) hT.1.1 hT.1.2.1).mpr (by assumption)) (by assumption))); rw [e9]; exact hT.mono)⟩
          · refine lv_aload_n (pc := 84) hx hb dX10_does_84 rfl (lv_at hl 1 rfl) ?_
            refine va_get (pc := 85) (D := D) (ci := 10) (v := .int (nI P.2.2.2.2.2.2)) (C := RX10) (T := TX10) (N := 44) hx hb hts hiX10 hown hK hP 0 rfl rfl 8 (by decide) wf130 (fun _ h9 => h9) rfl dX10_does_85 ?_
            refine r0_le (pc := 88) (tgt := 140) hx hb (tI_nI (by omega)) dX10_does_88 (by decide) (fun c88 => ?_) (fun c88 => ?_)
            · exact hret 140 _ hP hS dX10_does_140 rfl ⟨sl, rfl, (by have e9 : drawS P T dr = T := (by unfold drawS strIf; (repeat' split) <;> first | rfl | (exfalso; omega) | (exact absurd ((can_rel (x := dr / 64 % pCells P) (Nat.mod_lt _ (by omega)) (Nat.lt_of_lt_of_le (Nat.mod_lt _ (by omega)) hp7) hT.1.1 hT.1.2.1).mpr (by assumption)) (by assumption))); rw [e9]; exact hT.mono)⟩
            · have hmk := Nat.mod_lt (dr / 8) (show 0 < P.2.2.2.2.2.2 by omega)
              have hmx := Nat.mod_lt (dr / 64) (show 0 < pCells P by omega)
              have hpl9 : sl (352 + 27 + dr / 8 % P.2.2.2.2.2.2) = _ := hT.1.2.1 _ hmk
              have hpl8 := hto.2.2.1 (dr / 8 % P.2.2.2.2.2.2)
              have hcan := can_rel (x := dr / 64 % pCells P) hmk (show dr / 8 % P.2.2.2.2.2.2 < 3 by omega) hT.1.1 hT.1.2.1
              refine lv_aload_n (pc := 91) hx hb dX10_does_91 rfl (lv_at hl 1 rfl) ?_
              refine lv_iload_n (pc := 92) hx hb dX10_does_92 rfl (lv_at hl 2 rfl) ?_
              refine lv_iload_n (pc := 93) hx hb dX10_does_93 rfl (lv_at hl 3 rfl) ?_
              refine lv_bipush (pc := 94) (v := nI 8) hx hb dX10_does_94 (by decide) ?_
              refine rn_idiv (pc := 96) hx hb (by omega) (by omega) dX10_does_96 ?_
              refine lv_aload_n (pc := 97) hx hb dX10_does_97 rfl (lv_at hl 1 rfl) ?_
              refine va_get (pc := 98) (D := D) (ci := 10) (v := .int (nI P.2.2.2.2.2.2)) (C := RX10) (T := TX10) (N := 44) hx hb hts hiX10 hown hK hP 0 rfl rfl 8 (by decide) wf130 (fun _ h9 => h9) rfl dX10_does_98 ?_
              refine rn_irem (pc := 101) hx hb (by omega) (by omega) dX10_does_101 ?_
              refine lv_iload_n (pc := 102) hx hb dX10_does_102 rfl (lv_at hl 3 rfl) ?_
              refine lv_bipush (pc := 103) (v := nI 64) hx hb dX10_does_103 (by decide) ?_
              refine rn_idiv (pc := 105) hx hb (by omega) (by omega) dX10_does_105 ?_
              refine lv_aload_n (pc := 106) hx hb dX10_does_106 rfl (lv_at hl 1 rfl) ?_
              refine va_get (pc := 107) (D := D) (ci := 10) (v := .int (nI (pCells P))) (C := RX10) (T := TX10) (N := 44) hx hb hts hiX10 hown hK hP 0 rfl rfl 0 (by decide) wf121 (fun _ h9 => h9) rfl dX10_does_107 ?_
              refine rn_irem (pc := 110) hx hb (by omega) (by omega) dX10_does_110 ?_
              refine ci_Vd (pc := 111) (r0 := nI (if rCan P sl 352 ((dr / 8) % P.2.2.2.2.2.2) ((dr / 64) % (pCells P)) then 1 else 0)) hF hN hK hP hV hS hA (k_X10_canStrike l D cI cC cB cS o ad P I sl 352 ((dr / 8) % P.2.2.2.2.2.2) ((dr / 64) % (pCells P)) hp hslb (by omega) (by omega) (by omega) (by omega)) (cwV 3 hts gX10_does_X10_canStrike rfl rfl rfl (by decide +kernel) ⟨Nat.le_of_ble_eq_true rfl, Nat.le_of_ble_eq_true rfl⟩) [0, 1] rfl (by decide) 0 10 rfl rfl rfl hl.1 rfl (Nat.le_of_ble_eq_true rfl) dX10_does_111 ⟨Nat.le_refl _, Nat.le_refl _⟩ rfl (ws2 := [rmE o ad (pCells P) P.2.2.2.1 P.2.2.2.2.2.1 P.2.2.2.2.2.2 I, nE 384 (ad 25) cI sl, nE 6 (ad 4) cI so, nE 6 (ad 5) cI cl, nE 6 (ad 6) cI de, nE 6 (ad 7) cI si, nE 3 (ad 11) cI ms, nE 3 (ad 9) cI wa, nE 3 (ad 10) cI ir]) rfl (fun H locs hP hS => ?_)
              refine rb_eq (pc := 114) (tgt := 140) hx hb dX10_does_114 (by decide) (fun c114 => ?_) (fun c114 => ?_)
              · exact hret 140 _ hP hS dX10_does_140 rfl ⟨sl, rfl, (by have e9 : drawS P T dr = T := (by unfold drawS strIf; (repeat' split) <;> first | rfl | (exfalso; omega) | (exact absurd ((can_rel (x := dr / 64 % pCells P) (Nat.mod_lt _ (by omega)) (Nat.lt_of_lt_of_le (Nat.mod_lt _ (by omega)) hp7) hT.1.1 hT.1.2.1).mpr (by assumption)) (by assumption))); rw [e9]; exact hT.mono)⟩
              · refine lv_aload_n (pc := 117) hx hb dX10_does_117 rfl (lv_at hl 1 rfl) ?_
                refine lv_iload_n (pc := 118) hx hb dX10_does_118 rfl (lv_at hl 2 rfl) ?_
                refine lv_iload_n (pc := 119) hx hb dX10_does_119 rfl (lv_at hl 3 rfl) ?_
                refine lv_bipush (pc := 120) (v := nI 8) hx hb dX10_does_120 (by decide) ?_
                refine rn_idiv (pc := 122) hx hb (by omega) (by omega) dX10_does_122 ?_
                refine lv_aload_n (pc := 123) hx hb dX10_does_123 rfl (lv_at hl 1 rfl) ?_
                refine va_get (pc := 124) (D := D) (ci := 10) (v := .int (nI P.2.2.2.2.2.2)) (C := RX10) (T := TX10) (N := 44) hx hb hts hiX10 hown hK hP 0 rfl rfl 8 (by decide) wf130 (fun _ h9 => h9) rfl dX10_does_124 ?_
                refine rn_irem (pc := 127) hx hb (by omega) (by omega) dX10_does_127 ?_
                refine lv_iload_n (pc := 128) hx hb dX10_does_128 rfl (lv_at hl 3 rfl) ?_
                refine lv_bipush (pc := 129) (v := nI 64) hx hb dX10_does_129 (by decide) ?_
                refine rn_idiv (pc := 131) hx hb (by omega) (by omega) dX10_does_131 ?_
                refine lv_aload_n (pc := 132) hx hb dX10_does_132 rfl (lv_at hl 1 rfl) ?_
                refine va_get (pc := 133) (D := D) (ci := 10) (v := .int (nI (pCells P))) (C := RX10) (T := TX10) (N := 44) hx hb hts hiX10 hown hK hP 0 rfl rfl 0 (by decide) wf121 (fun _ h9 => h9) rfl dX10_does_133 ?_
                refine rn_irem (pc := 136) hx hb (by omega) (by omega) dX10_does_136 ?_
                refine cv_Vd (pc := 137) hF hN hK hP hV hS hA (k_X10_strikes l D cI cC cB cS o ad P I sl wa ir 352 ((dr / 8) % P.2.2.2.2.2.2) ((dr / 64) % (pCells P)) hp hslb hir hwa (by omega) (by omega) (by omega) c114.1) (cwV 3 hts gX10_does_X10_strikes rfl rfl rfl (by decide +kernel) ⟨Nat.le_of_ble_eq_true rfl, Nat.le_of_ble_eq_true rfl⟩) [0, 1, 7, 8] rfl (by decide) 0 10 rfl rfl rfl hl.1 rfl (Nat.le_of_ble_eq_true rfl) dX10_does_137 ⟨Nat.le_refl _, Nat.le_refl _⟩ rfl (ws2 := [rmE o ad (pCells P) P.2.2.2.1 P.2.2.2.2.2.1 P.2.2.2.2.2.2 I, nE 384 (ad 25) cI (rStr P wa ir 352 ((dr / 8) % P.2.2.2.2.2.2) ((dr / 64) % (pCells P)) sl), nE 6 (ad 4) cI so, nE 6 (ad 5) cI cl, nE 6 (ad 6) cI de, nE 6 (ad 7) cI si, nE 3 (ad 11) cI ms, nE 3 (ad 9) cI wa, nE 3 (ad 10) cI ir]) rfl (fun H locs hP hS => ?_)
                exact hret 140 _ hP hS dX10_does_140 rfl ⟨_, rfl, (by have e9 : drawS P T dr = strS P T (dr / 8 % P.2.2.2.2.2.2) (dr / 64 % pCells P) := (by unfold drawS strIf; rw [if_neg (by omega), if_neg (by omega), if_pos (by omega), if_pos (hcan.mp c114)]); rw [e9]; exact (try_str hw hm hmk hmx hT hto.1).mono)⟩
        · refine lv_aload_n (pc := 52) hx hb dX10_does_52 rfl (lv_at hl 1 rfl) ?_
          have hmk := Nat.mod_lt (dr / 8) (show 0 < P.2.2.2.2.2.1 by omega)
          have hmk6 : dr / 8 % P.2.2.2.2.2.1 < 6 := by omega
          refine va_get (pc := 53) (D := D) (ci := 10) (v := .ref (ad 25)) (C := RX10) (T := TX10) (N := 44) hx hb hts hiX10 hown hK hP 0 rfl rfl 25 (by decide) wf61 (fun _ h9 => h9) rfl dX10_does_53 ?_
          refine lv_iload_n (pc := 56) hx hb dX10_does_56 rfl (lv_at hl 2 rfl) ?_
          refine lv_bipush (pc := 57) (v := nI 30) hx hb dX10_does_57 (by decide) ?_
          refine rn_iadd (pc := 59) hx hb dX10_does_59 ?_
          refine lv_dup2_11 (pc := 60) hx hb dX10_does_60 rfl rfl ?_
          have h61 := hslb (352 + 30)
          refine ra_iald (pc := 61) (k := 352 + 30) (v := nI (sl (352 + 30))) hx hb hK hP 1 0 rfl rfl (by omega) (by decide) rfl dX10_does_61 ?_
          refine lv_iconst (pc := 62) (v := nI 1) hx hb dX10_does_62 (by decide) ?_
          refine lv_iload_n (pc := 63) hx hb dX10_does_63 rfl (lv_at hl 3 rfl) ?_
          refine lv_bipush (pc := 64) (v := nI 8) hx hb dX10_does_64 (by decide) ?_
          refine rn_idiv (pc := 66) hx hb (by omega) (by omega) dX10_does_66 ?_
          refine lv_aload_n (pc := 67) hx hb dX10_does_67 rfl (lv_at hl 1 rfl) ?_
          refine va_get (pc := 68) (D := D) (ci := 10) (v := .int (nI P.2.2.2.2.2.1)) (C := RX10) (T := TX10) (N := 44) hx hb hts hiX10 hown hK hP 0 rfl rfl 3 (by decide) wf127 (fun _ h9 => h9) rfl dX10_does_68 ?_
          refine rn_irem (pc := 71) hx hb (by omega) (by omega) dX10_does_71 ?_
          refine lv_ishl (pc := 72) hx hb dX10_does_72 ?_
          refine r_top (nI_1shl (by omega)) ?_
          refine lv_ior (pc := 73) hx hb dX10_does_73 ?_
          refine r_top (nI_or _ _) ?_
          refine rn_iast (pc := 74) (f := sl) (k := 352 + 30) (x := (sl (352 + 30)) ||| (2 ^ ((dr / 8) % P.2.2.2.2.2.1))) (ws2 := [rmE o ad (pCells P) P.2.2.2.1 P.2.2.2.2.2.1 P.2.2.2.2.2.2 I, nE 384 (ad 25) cI (va_up sl (352 + 30) ((sl (352 + 30)) ||| (2 ^ ((dr / 8) % P.2.2.2.2.2.1)))), nE 6 (ad 4) cI so, nE 6 (ad 5) cI cl, nE 6 (ad 6) cI de, nE 6 (ad 7) cI si, nE 3 (ad 11) cI ms, nE 3 (ad 9) cI wa, nE 3 (ad 10) cI ir]) hx hb hK hP hV hS 1 0 rfl rfl (by omega) (by decide) dX10_does_74 rfl rfl (fun H locs hP hS => ?_)
          refine lv_goto (pc := 75) (tgt := 140) hx hb dX10_does_75 (by decide) ?_
          exact hret 140 _ hP hS dX10_does_140 rfl ⟨_, rfl, (by have e9 : drawS P T dr = parS T (dr / 8 % P.2.2.2.2.2.1) := (by unfold drawS; rw [if_neg (by omega), if_pos (by omega), if_pos (by omega)]); rw [e9]; exact (try_par hw hmk hT hto.2.2.2.1).mono)⟩
    · refine lv_aload_n (pc := 26) hx hb dX10_does_26 rfl (lv_at hl 1 rfl) ?_
      refine lv_iload_n (pc := 27) hx hb dX10_does_27 rfl (lv_at hl 2 rfl) ?_
      refine lv_aload_n (pc := 28) hx hb dX10_does_28 rfl (lv_at hl 1 rfl) ?_
      refine lv_iload_n (pc := 29) hx hb dX10_does_29 rfl (lv_at hl 2 rfl) ?_
      refine ci_Vd (pc := 30) (r0 := nI (opN P.2.2.2.2.2.1 (sl (352 + 30)))) hF hN hK hP hV hS hA (k_X10_open l D cI cC cB cS o ad P I sl 352 hp hpdd (by omega)) (cwV 1 hts gX10_does_X10_open rfl rfl rfl (by decide +kernel) ⟨Nat.le_of_ble_eq_true rfl, Nat.le_of_ble_eq_true rfl⟩) [0, 1] rfl (by decide) 0 10 rfl rfl rfl hl.1 rfl (Nat.le_of_ble_eq_true rfl) dX10_does_30 ⟨Nat.le_refl _, Nat.le_refl _⟩ rfl (ws2 := [rmE o ad (pCells P) P.2.2.2.1 P.2.2.2.2.2.1 P.2.2.2.2.2.2 I, nE 384 (ad 25) cI sl, nE 6 (ad 4) cI so, nE 6 (ad 5) cI cl, nE 6 (ad 6) cI de, nE 6 (ad 7) cI si, nE 3 (ad 11) cI ms, nE 3 (ad 9) cI wa, nE 3 (ad 10) cI ir]) rfl (fun H locs hP hS => ?_)
      have fq9 := opN_lt P.2.2.2.2.2.1 (by omega) (sl (352 + 30)) (by omega)
      refine cv_Vd (pc := 33) hF hN hK hP hV hS hA (k_X10_goes l D cI cC cB cS o ad P I sl so cl de si ms 352 (opN P.2.2.2.2.2.1 (sl (352 + 30))) hp hslb hde hso hsi hms (by omega) (by omega) (by omega)) (cwV 2 hts gX10_does_X10_goes rfl rfl rfl (by decide +kernel) ⟨Nat.le_of_ble_eq_true rfl, Nat.le_of_ble_eq_true rfl⟩) [0, 1, 2, 3, 4, 5, 6] rfl (by decide) 0 10 rfl rfl rfl hl.1 rfl (Nat.le_of_ble_eq_true rfl) dX10_does_33 ⟨Nat.le_refl _, Nat.le_refl _⟩ rfl (ws2 := [rmE o ad (pCells P) P.2.2.2.1 P.2.2.2.2.2.1 P.2.2.2.2.2.2 I, nE 384 (ad 25) cI (rGo P so cl de si ms 352 (opN P.2.2.2.2.2.1 (sl (352 + 30))) sl), nE 6 (ad 4) cI so, nE 6 (ad 5) cI cl, nE 6 (ad 6) cI de, nE 6 (ad 7) cI si, nE 3 (ad 11) cI ms, nE 3 (ad 9) cI wa, nE 3 (ad 10) cI ir]) rfl (fun H locs hP hS => ?_)
      refine lv_goto (pc := 36) (tgt := 140) hx hb dX10_does_36 (by decide) ?_
      exact hret 140 _ hP hS dX10_does_140 rfl ⟨_, rfl, (by have e9 : drawS P T dr = yearS P T := (by unfold drawS; rw [if_pos (by omega), if_pos (by omega)]; rfl); rw [e9]; exact try_year hw hc hm hms hT hto.1 hto.2.2.2.1)⟩
