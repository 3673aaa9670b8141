abbrev rmX10_count : Room := { frames := 1, cells := 0, slots := 0, locals := 23 }
set_option maxHeartbeats 4000000 in
set_option maxRecDepth 100000 in
theorem k_X10_count (l : Launch) (D : va_G) (cI cC cB cS : ClassId) (o : Nat) (ad : Nat → Nat) (P : PL) (I : RI) (sl : Nat → Nat) (x1 : Int32) (z1 : Int) (hz1 : x1.toInt = z1) (S : ST) (hpk : plOK P) (hst : stOK P S) (hx2 : stX P S) (hf0 : rF P sl 0 S) (hsb : sB sl) : CI l D (kT cI cC cB cS) yX10_count wsX10_count rmX10_count [.ref o, .int (x1)] ([rmE o ad (pCells P) P.2.2.2.1 P.2.2.2.2.2.1 P.2.2.2.2.2.2 I, nE 384 (ad 25) cI sl]) (fun r u => r = jI (zCount P S I.2.2.2.2.2.2.2.2.2.2.1 I.2.2.2.2.1 I.2.2.2.2.2.1 I.2.2.2.2.2.2.1 z1) ∧ u = [rmE o ad (pCells P) P.2.2.2.1 P.2.2.2.2.2.1 P.2.2.2.2.2.2 I, nE 384 (ad 25) cI sl]) := by
  refine ci_intro (by decide) rfl (Nat.le_of_ble_eq_true rfl) ?_
  intro p e s m args below meth c ls A QF hF hK hP hV hS hA hN hl hret
  obtain ⟨hx, hb, hml, hown, hts⟩ := id hF
  have hP : va_P D vwCl ([rmE o ad (pCells P) P.2.2.2.1 P.2.2.2.2.2.1 P.2.2.2.2.2.2 I, nE 384 (ad 25) cI sl]) s.heap := hP
  have hl : lv_has ls 2 [(0, .ref o), (1, .int (x1))] := hl
  have wf61 := hts (.fieldLink RX10 61 "RemorseWallModel" "slot" "[I") (by decide +kernel)
  have wf121 := hts (.fieldLink RX10 121 "RemorseWallModel" "cells" "I") (by decide +kernel)
  have wf124 := hts (.fieldLink RX10 124 "RemorseWallModel" "wide" "I") (by decide +kernel)
  have wf127 := hts (.fieldLink RX10 127 "RemorseWallModel" "cases" "I") (by decide +kernel)
  have wf130 := hts (.fieldLink RX10 130 "RemorseWallModel" "maids" "I") (by decide +kernel)
  have wf145 := hts (.fieldLink RX10 145 "RemorseWallModel" "length" "I") (by decide +kernel)
  have wf194 := hts (.fieldLink RX10 194 "RemorseWallModel" "acts" "I") (by decide +kernel)
  have wf197 := hts (.fieldLink RX10 197 "RemorseWallModel" "keeps" "I") (by decide +kernel)
  have wf200 := hts (.fieldLink RX10 200 "RemorseWallModel" "seens" "I") (by decide +kernel)
  have hiX10 : ∀ w ∈ u_ws RX10 TX10 44, w ∈ wsX10_count := by decide +kernel
  have hw := hpk.1
  obtain ⟨hp, hc1, hce, hme⟩ := id hw
  obtain ⟨hp1, hp2, hp3, hp4, hp5, hp6, hp7⟩ := id hp
  have hcl := pCells_le hp
  have hs : sHi S := hst.1
  have hr1 := i32_rng x1
  rw [hz1] at hr1
  have hslb := sB_h hsb
  have hyr := rF_yr hf0
  have hpd9 := hf0.2.2
  have hpd8 := hst.2.2.2.1
  refine lv_iload_n (pc := 0) hx hb dX10_count_0 rfl (lv_at hl 1 rfl) ?_
  refine r0_ne (pc := 1) (tgt := 11) hx hb hz1 dX10_count_1 (by decide) (fun c1 => ?_) (fun c1 => ?_)
  · refine lv_iload_n (pc := 11) hx hb dX10_count_11 rfl (lv_at hl 1 rfl) ?_
    refine lv_iconst (pc := 12) (v := nI 1) hx hb dX10_count_12 (by decide) ?_
    refine rc_ne (pc := 13) (tgt := 23) hx hb hz1 (tI_nI (by omega)) dX10_count_13 (by decide) (fun c13 => ?_) (fun c13 => ?_)
    · refine lv_iload_n (pc := 23) hx hb dX10_count_23 rfl (lv_at hl 1 rfl) ?_
      refine lv_iconst (pc := 24) (v := nI 2) hx hb dX10_count_24 (by decide) ?_
      refine rc_ne (pc := 25) (tgt := 35) hx hb hz1 (tI_nI (by omega)) dX10_count_25 (by decide) (fun c25 => ?_) (fun c25 => ?_)
      · refine lv_iload_n (pc := 35) hx hb dX10_count_35 rfl (lv_at hl 1 rfl) ?_
        refine lv_iconst (pc := 36) (v := nI 3) hx hb dX10_count_36 (by decide) ?_
        refine rc_ne (pc := 37) (tgt := 47) hx hb hz1 (tI_nI (by omega)) dX10_count_37 (by decide) (fun c37 => ?_) (fun c37 => ?_)
        · refine lv_iload_n (pc := 47) hx hb dX10_count_47 rfl (lv_at hl 1 rfl) ?_
          refine lv_iconst (pc := 48) (v := nI 4) hx hb dX10_count_48 (by decide) ?_
          refine rc_ne (pc := 49) (tgt := 62) hx hb hz1 (tI_nI (by omega)) dX10_count_49 (by decide) (fun c49 => ?_) (fun c49 => ?_)
          · refine lv_iload_n (pc := 62) hx hb dX10_count_62 rfl (lv_at hl 1 rfl) ?_
            refine lv_iconst (pc := 63) (v := nI 5) hx hb dX10_count_63 (by decide) ?_
            refine rc_ne (pc := 64) (tgt := 75) hx hb hz1 (tI_nI (by omega)) dX10_count_64 (by decide) (fun c64 => ?_) (fun c64 => ?_)
            · refine lv_iload_n (pc := 75) hx hb dX10_count_75 rfl (lv_at hl 1 rfl) ?_
              refine lv_bipush (pc := 76) (v := nI 6) hx hb dX10_count_76 (by decide) ?_
              refine rc_ne (pc := 78) (tgt := 89) hx hb hz1 (tI_nI (by omega)) dX10_count_78 (by decide) (fun c78 => ?_) (fun c78 => ?_)
              · refine lv_iload_n (pc := 89) hx hb dX10_count_89 rfl (lv_at hl 1 rfl) ?_
                refine lv_bipush (pc := 90) (v := nI 7) hx hb dX10_count_90 (by decide) ?_
                refine rc_ne (pc := 92) (tgt := 106) hx hb hz1 (tI_nI (by omega)) dX10_count_92 (by decide) (fun c92 => ?_) (fun c92 => ?_)
                · refine lv_iload_n (pc := 106) hx hb dX10_count_106 rfl (lv_at hl 1 rfl) ?_
                  refine lv_bipush (pc := 107) (v := nI 8) hx hb dX10_count_107 (by decide) ?_
                  refine rc_ne (pc := 109) (tgt := 119) hx hb hz1 (tI_nI (by omega)) dX10_count_109 (by decide) (fun c109 => ?_) (fun c109 => ?_)
                  · refine lv_iload_n (pc := 119) hx hb dX10_count_119 rfl (lv_at hl 1 rfl) ?_
                    refine lv_bipush (pc := 120) (v := nI 9) hx hb dX10_count_120 (by decide) ?_
                    refine rc_ne (pc := 122) (tgt := 132) hx hb hz1 (tI_nI (by omega)) dX10_count_122 (by decide) (fun c122 => ?_) (fun c122 => ?_)
                    · refine lv_iload_n (pc := 132) hx hb dX10_count_132 rfl (lv_at hl 1 rfl) ?_
                      refine lv_bipush (pc := 133) (v := nI 10) hx hb dX10_count_133 (by decide) ?_
                      refine rc_ne (pc := 135) (tgt := 145) hx hb hz1 (tI_nI (by omega)) dX10_count_135 (by decide) (fun c135 => ?_) (fun c135 => ?_)
                      · refine lv_iload_n (pc := 145) hx hb dX10_count_145 rfl (lv_at hl 1 rfl) ?_
                        refine lv_bipush (pc := 146) (v := nI 11) hx hb dX10_count_146 (by decide) ?_
                        refine rc_ne (pc := 148) (tgt := 158) hx hb hz1 (tI_nI (by omega)) dX10_count_148 (by decide) (fun c148 => ?_) (fun c148 => ?_)
                        · refine lv_iload_n (pc := 158) hx hb dX10_count_158 rfl (lv_at hl 1 rfl) ?_
                          refine lv_bipush (pc := 159) (v := nI 12) hx hb dX10_count_159 (by decide) ?_
                          refine rc_ne (pc := 161) (tgt := 171) hx hb hz1 (tI_nI (by omega)) dX10_count_161 (by decide) (fun c161 => ?_) (fun c161 => ?_)
                          · refine lv_iconst (pc := 171) (v := jI (-1)) hx hb dX10_count_171 (by decide) ?_
                            exact hret 172 _ hP hS dX10_count_172 rfl rfl ⟨(by unfold zCount; rw [if_neg (by omega), if_neg (by omega), if_neg (by omega), if_neg (by omega), if_neg (by omega), if_neg (by omega), if_neg (by omega), if_neg (by omega), if_neg (by omega), if_neg (by omega), if_neg (by omega), if_neg (by omega), if_neg (by omega)]), rfl⟩
                          · refine lv_aload_n (pc := 164) hx hb dX10_count_164 rfl (lv_at hl 0 rfl) ?_
                            refine va_get (pc := 165) (D := D) (ci := 10) (v := .int (nI I.2.2.2.2.2.2.1)) (C := RX10) (T := TX10) (N := 44) hx hb hts hiX10 hown hK hP 0 rfl rfl 28 (by decide) wf145 (fun _ h9 => h9) rfl dX10_count_165 ?_
                            refine lv_goto (pc := 168) (tgt := 172) hx hb dX10_count_168 (by decide) ?_
                            exact hret 172 _ hP hS dX10_count_172 rfl rfl ⟨(by unfold zCount; rw [if_neg (by omega), if_neg (by omega), if_neg (by omega), if_neg (by omega), if_neg (by omega), if_neg (by omega), if_neg (by omega), if_neg (by omega), if_neg (by omega), if_neg (by omega), if_neg (by omega), if_neg (by omega), if_pos (by omega)]; exact jI_nat _), rfl⟩
                        · refine lv_aload_n (pc := 151) hx hb dX10_count_151 rfl (lv_at hl 0 rfl) ?_
                          refine va_get (pc := 152) (D := D) (ci := 10) (v := .int (nI I.2.2.2.2.2.1)) (C := RX10) (T := TX10) (N := 44) hx hb hts hiX10 hown hK hP 0 rfl rfl 27 (by decide) wf197 (fun _ h9 => h9) rfl dX10_count_152 ?_
                          refine lv_goto (pc := 155) (tgt := 172) hx hb dX10_count_155 (by decide) ?_
                          exact hret 172 _ hP hS dX10_count_172 rfl rfl ⟨(by unfold zCount; rw [if_neg (by omega), if_neg (by omega), if_neg (by omega), if_neg (by omega), if_neg (by omega), if_neg (by omega), if_neg (by omega), if_neg (by omega), if_neg (by omega), if_neg (by omega), if_neg (by omega), if_pos (by omega)]; exact jI_nat _), rfl⟩
                      · refine lv_aload_n (pc := 138) hx hb dX10_count_138 rfl (lv_at hl 0 rfl) ?_
                        refine va_get (pc := 139) (D := D) (ci := 10) (v := .int (nI I.2.2.2.2.1)) (C := RX10) (T := TX10) (N := 44) hx hb hts hiX10 hown hK hP 0 rfl rfl 26 (by decide) wf194 (fun _ h9 => h9) rfl dX10_count_139 ?_
                        refine lv_goto (pc := 142) (tgt := 172) hx hb dX10_count_142 (by decide) ?_
                        exact hret 172 _ hP hS dX10_count_172 rfl rfl ⟨(by unfold zCount; rw [if_neg (by omega), if_neg (by omega), if_neg (by omega), if_neg (by omega), if_neg (by omega), if_neg (by omega), if_neg (by omega), if_neg (by omega), if_neg (by omega), if_neg (by omega), if_pos (by omega)]; exact jI_nat _), rfl⟩
                    · refine lv_aload_n (pc := 125) hx hb dX10_count_125 rfl (lv_at hl 0 rfl) ?_
                      refine va_get (pc := 126) (D := D) (ci := 10) (v := .int (nI I.2.2.2.2.2.2.2.2.2.2.1)) (C := RX10) (T := TX10) (N := 44) hx hb hts hiX10 hown hK hP 0 rfl rfl 33 (by decide) wf200 (fun _ h9 => h9) rfl dX10_count_126 ?_
                      refine lv_goto (pc := 129) (tgt := 172) hx hb dX10_count_129 (by decide) ?_
                      exact hret 172 _ hP hS dX10_count_172 rfl rfl ⟨(by unfold zCount; rw [if_neg (by omega), if_neg (by omega), if_neg (by omega), if_neg (by omega), if_neg (by omega), if_neg (by omega), if_neg (by omega), if_neg (by omega), if_neg (by omega), if_pos (by omega)]; exact jI_nat _), rfl⟩
                  · refine lv_aload_n (pc := 112) hx hb dX10_count_112 rfl (lv_at hl 0 rfl) ?_
                    refine ci_Vd (pc := 113) (r0 := nI (nSum (fun j => sl (24 + j)) P.2.2.2.2.2.2)) hF hN hK hP hV hS hA (k_X10_allStrokes l D cI cC cB cS o ad P I sl hp hslb) (cwV 0 hts gX10_count_X10_allStrokes rfl rfl rfl (by decide +kernel) ⟨Nat.le_of_ble_eq_true rfl, Nat.le_of_ble_eq_true rfl⟩) [0, 1] rfl (by decide) 0 10 rfl rfl rfl hl.1 rfl (Nat.le_of_ble_eq_true rfl) dX10_count_113 ⟨Nat.le_refl _, Nat.le_refl _⟩ rfl (ws2 := [rmE o ad (pCells P) P.2.2.2.1 P.2.2.2.2.2.1 P.2.2.2.2.2.2 I, nE 384 (ad 25) cI sl]) rfl (fun H locs hP hS => ?_)
                    refine lv_goto (pc := 116) (tgt := 172) hx hb dX10_count_116 (by decide) ?_
                    exact hret 172 _ hP hS dX10_count_172 rfl rfl ⟨(by unfold zCount; rw [if_neg (by omega), if_neg (by omega), if_neg (by omega), if_neg (by omega), if_neg (by omega), if_neg (by omega), if_neg (by omega), if_neg (by omega), if_pos (by omega)]; rw [all_rel (by omega) hf0 hx2]; exact jI_nat _), rfl⟩
                · refine lv_aload_n (pc := 95) hx hb dX10_count_95 rfl (lv_at hl 0 rfl) ?_
                  refine lv_iconst (pc := 96) (v := nI 0) hx hb dX10_count_96 (by decide) ?_
                  refine ci_Vd (pc := 97) (r0 := nI (opN P.2.2.2.2.2.1 (sl (0 + 30)))) hF hN hK hP hV hS hA (k_X10_open l D cI cC cB cS o ad P I sl 0 hp (opl hf0.2.2 hst.2.2.2.1) (by omega)) (cwV 1 hts gX10_count_X10_open rfl rfl rfl (by decide +kernel) ⟨Nat.le_of_ble_eq_true rfl, Nat.le_of_ble_eq_true rfl⟩) [0, 1] rfl (by decide) 0 10 rfl rfl rfl hl.1 rfl (Nat.le_of_ble_eq_true rfl) dX10_count_97 ⟨Nat.le_refl _, Nat.le_refl _⟩ rfl (ws2 := [rmE o ad (pCells P) P.2.2.2.1 P.2.2.2.2.2.1 P.2.2.2.2.2.2 I, nE 384 (ad 25) cI sl]) rfl (fun H locs hP hS => ?_)
                  have fq2 := opN_lt P.2.2.2.2.2.1 (by omega) (sl (0 + 30)) (by omega)
                  refine ci_Sd (pc := 100) hF hN hK hP hV hS hA (k_X10_bits l D cI cC cB cS (opN P.2.2.2.2.2.1 (sl (0 + 30))) (by omega)) (va_cwS 1 hts gX10_count_X10_bits rfl rfl rfl (by decide +kernel) ⟨Nat.le_of_ble_eq_true rfl, Nat.le_of_ble_eq_true rfl⟩) [] rfl (by decide) rfl hl.1 rfl (Nat.le_of_ble_eq_true rfl) dX10_count_100 ⟨Nat.le_refl _, Nat.le_refl _⟩ rfl (ws2 := [rmE o ad (pCells P) P.2.2.2.1 P.2.2.2.2.2.1 P.2.2.2.2.2.2 I, nE 384 (ad 25) cI sl]) rfl (fun H locs hP hS => ?_)
                  have fq3 := popN_le6 (opN P.2.2.2.2.2.1 (sl (0 + 30)))
                  refine lv_goto (pc := 103) (tgt := 172) hx hb dX10_count_103 (by decide) ?_
                  exact hret 172 _ hP hS dX10_count_172 rfl rfl ⟨(by unfold zCount; rw [if_neg (by omega), if_neg (by omega), if_neg (by omega), if_neg (by omega), if_neg (by omega), if_neg (by omega), if_neg (by omega), if_pos (by omega)]; rw [bits_rel hw hf0 hx2]; exact jI_nat _), rfl⟩
              · refine lv_aload_n (pc := 81) hx hb dX10_count_81 rfl (lv_at hl 0 rfl) ?_
                refine lv_iconst (pc := 82) (v := nI 0) hx hb dX10_count_82 (by decide) ?_
                refine ci_Vd (pc := 83) (r0 := nI (nCnt (fun j => sl (0 + j)) 12 (pCells P))) hF hN hK hP hV hS hA (k_X10_hollows l D cI cC cB cS o ad P I sl 0 hp hslb (by omega)) (cwV 1 hts gX10_count_X10_hollows rfl rfl rfl (by decide +kernel) ⟨Nat.le_of_ble_eq_true rfl, Nat.le_of_ble_eq_true rfl⟩) [0, 1] rfl (by decide) 0 10 rfl rfl rfl hl.1 rfl (Nat.le_of_ble_eq_true rfl) dX10_count_83 ⟨Nat.le_refl _, Nat.le_refl _⟩ rfl (ws2 := [rmE o ad (pCells P) P.2.2.2.1 P.2.2.2.2.2.1 P.2.2.2.2.2.2 I, nE 384 (ad 25) cI sl]) rfl (fun H locs hP hS => ?_)
                refine lv_goto (pc := 86) (tgt := 172) hx hb dX10_count_86 (by decide) ?_
                exact hret 172 _ hP hS dX10_count_172 rfl rfl ⟨(by unfold zCount; rw [if_neg (by omega), if_neg (by omega), if_neg (by omega), if_neg (by omega), if_neg (by omega), if_neg (by omega), if_pos (by omega)]; rw [cnt0_rel hw hf0 hx2]; exact jI_nat _), rfl⟩
            · refine lv_aload_n (pc := 67) hx hb dX10_count_67 rfl (lv_at hl 0 rfl) ?_
              refine lv_iconst (pc := 68) (v := nI 0) hx hb dX10_count_68 (by decide) ?_
              refine ci_Vd (pc := 69) (r0 := nI (nSum (fun j => sl (0 + j)) (pCells P))) hF hN hK hP hV hS hA (k_X10_sum l D cI cC cB cS o ad P I sl 0 hp hslb (by omega)) (cwV 1 hts gX10_count_X10_sum rfl rfl rfl (by decide +kernel) ⟨Nat.le_of_ble_eq_true rfl, Nat.le_of_ble_eq_true rfl⟩) [0, 1] rfl (by decide) 0 10 rfl rfl rfl hl.1 rfl (Nat.le_of_ble_eq_true rfl) dX10_count_69 ⟨Nat.le_refl _, Nat.le_refl _⟩ rfl (ws2 := [rmE o ad (pCells P) P.2.2.2.1 P.2.2.2.2.2.1 P.2.2.2.2.2.2 I, nE 384 (ad 25) cI sl]) rfl (fun H locs hP hS => ?_)
              have fq5 : nSum (fun j => sl (0 + j)) (pCells P) ≤ 2400000 := nSum_24 hslb (pCells_le hp)
              refine lv_goto (pc := 72) (tgt := 172) hx hb dX10_count_72 (by decide) ?_
              exact hret 172 _ hP hS dX10_count_172 rfl rfl ⟨(by unfold zCount; rw [if_neg (by omega), if_neg (by omega), if_neg (by omega), if_neg (by omega), if_neg (by omega), if_pos (by omega)]; rw [sum0_rel hw hf0 hx2]; exact jI_nat _), rfl⟩
          · refine lv_aload_n (pc := 52) hx hb dX10_count_52 rfl (lv_at hl 0 rfl) ?_
            refine va_get (pc := 53) (D := D) (ci := 10) (v := .ref (ad 25)) (C := RX10) (T := TX10) (N := 44) hx hb hts hiX10 hown hK hP 0 rfl rfl 25 (by decide) wf61 (fun _ h9 => h9) rfl dX10_count_53 ?_
            refine lv_bipush (pc := 56) (v := nI 31) hx hb dX10_count_56 (by decide) ?_
            refine ra_iald (pc := 58) (k := 31) (v := nI (sl 31)) hx hb hK hP 1 0 rfl rfl (by omega) (by decide) rfl dX10_count_58 ?_
            refine lv_goto (pc := 59) (tgt := 172) hx hb dX10_count_59 (by decide) ?_
            exact hret 172 _ hP hS dX10_count_172 rfl rfl ⟨(by unfold zCount; rw [if_neg (by omega), if_neg (by omega), if_neg (by omega), if_neg (by omega), if_pos (by omega)]; rw [hyr]; exact jI_nat _), rfl⟩
        · refine lv_aload_n (pc := 40) hx hb dX10_count_40 rfl (lv_at hl 0 rfl) ?_
          refine va_get (pc := 41) (D := D) (ci := 10) (v := .int (nI P.2.2.2.2.2.2)) (C := RX10) (T := TX10) (N := 44) hx hb hts hiX10 hown hK hP 0 rfl rfl 8 (by decide) wf130 (fun _ h9 => h9) rfl dX10_count_41 ?_
          refine lv_goto (pc := 44) (tgt := 172) hx hb dX10_count_44 (by decide) ?_
          exact hret 172 _ hP hS dX10_count_172 rfl rfl ⟨(by unfold zCount; rw [if_neg (by omega), if_neg (by omega), if_neg (by omega), if_pos (by omega)]; exact jI_nat _), rfl⟩
      · refine lv_aload_n (pc := 28) hx hb dX10_count_28 rfl (lv_at hl 0 rfl) ?_
        refine va_get (pc := 29) (D := D) (ci := 10) (v := .int (nI P.2.2.2.2.2.1)) (C := RX10) (T := TX10) (N := 44) hx hb hts hiX10 hown hK hP 0 rfl rfl 3 (by decide) wf127 (fun _ h9 => h9) rfl dX10_count_29 ?_
        refine lv_goto (pc := 32) (tgt := 172) hx hb dX10_count_32 (by decide) ?_
        exact hret 172 _ hP hS dX10_count_172 rfl rfl ⟨(by unfold zCount; rw [if_neg (by omega), if_neg (by omega), if_pos (by omega)]; exact jI_nat _), rfl⟩
    · refine lv_aload_n (pc := 16) hx hb dX10_count_16 rfl (lv_at hl 0 rfl) ?_
      refine va_get (pc := 17) (D := D) (ci := 10) (v := .int (nI P.2.2.2.1)) (C := RX10) (T := TX10) (N := 44) hx hb hts hiX10 hown hK hP 0 rfl rfl 1 (by decide) wf124 (fun _ h9 => h9) rfl dX10_count_17 ?_
      refine lv_goto (pc := 20) (tgt := 172) hx hb dX10_count_20 (by decide) ?_
      exact hret 172 _ hP hS dX10_count_172 rfl rfl ⟨(by unfold zCount; rw [if_neg (by omega), if_pos (by omega)]; exact jI_nat _), rfl⟩
  · refine lv_aload_n (pc := 4) hx hb dX10_count_4 rfl (lv_at hl 0 rfl) ?_
    refine va_get (pc := 5) (D := D) (ci := 10) (v := .int (nI (pCells P))) (C := RX10) (T := TX10) (N := 44) hx hb hts hiX10 hown hK hP 0 rfl rfl 0 (by decide) wf121 (fun _ h9 => h9) rfl dX10_count_5 ?_
    refine lv_goto (pc := 8) (tgt := 172) hx hb dX10_count_8 (by decide) ?_
    exact hret 172 _ hP hS dX10_count_172 rfl rfl ⟨(by unfold zCount; rw [if_pos (by omega)]; exact jI_nat _), rfl⟩
