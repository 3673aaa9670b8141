abbrev rmX2_comeUp : Room := { frames := 3, cells := 0, slots := 0, locals := 68 }
set_option maxHeartbeats 4000000 in
set_option maxRecDepth 100000 in
theorem k_X2_comeUp (l : Launch) (D : va_G) (cI cC cB cS : ClassId) (p0 p1 p2 p3 : Nat) (P : PL) (s0 s1 s2 s3 : Nat) (S : ST) (k : Nat) (hw : pWF P) (hi : sHi S) (hk : k < P.2.2.2.2.2.1) : CV l D (kT cI cC cB cS) yX2_comeUp wsX2_comeUp rmX2_comeUp [.ref p0, .ref s0, .int (nI k)] (plW p0 p1 p2 p3 cI P ++ stW s0 s1 s2 s3 cI S) (fun u => u = plW p0 p1 p2 p3 cI P ++ stW s0 s1 s2 s3 cI (comeS P S k)) := by
  refine cv_intro (by decide) rfl (Nat.le_of_ble_eq_true rfl) ?_
  intro p e s m args below meth c ls A QF hF hK hP hV hS hA hN hl hret
  obtain ⟨hx, hb, hml, hown, hts⟩ := id hF
  have hP : va_P D vwCl (plW p0 p1 p2 p3 cI P ++ stW s0 s1 s2 s3 cI S) s.heap := hP
  have hl : lv_has ls 6 [(0, .ref p0), (1, .ref s0), (2, .int (nI k))] := hl
  obtain ⟨hp, hc1, hce, hme⟩ := id hw
  obtain ⟨hp1, hp2, hp3, hp4, hp5, hp6, hp7⟩ := id hp
  have hc := pCells_le hp
  have hk0 := hce k hk
  refine lv_aload_n (pc := 0) hx hb dX2_comeUp_0 rfl (lv_at hl 0 rfl) ?_
  refine lv_iload_n (pc := 1) hx hb dX2_comeUp_1 rfl (lv_at hl 2 rfl) ?_
  refine lv_iconst (pc := 2) (v := nI 1) hx hb dX2_comeUp_2 (by decide) ?_
  refine ci_Vd (pc := 3) (r0 := nI (P.2.1 (k * 4 + 1))) hF hN hK hP hV hS hA (k_X2_ofCase l D cI cC cB cS p0 p1 p2 p3 P k 1 hp (by omega) (by omega)) (cwV 2 hts gX2_comeUp_X2_ofCase rfl rfl rfl (by decide +kernel) ⟨Nat.le_of_ble_eq_true rfl, Nat.le_of_ble_eq_true rfl⟩) [0, 1, 2, 3] rfl (by decide) 0 2 rfl rfl rfl hl.1 rfl (Nat.le_of_ble_eq_true rfl) dX2_comeUp_3 ⟨Nat.le_refl _, Nat.le_refl _⟩ rfl (ws2 := plW p0 p1 p2 p3 cI P ++ stW s0 s1 s2 s3 cI S) rfl (fun H locs hP hS => ?_)
  have fq1 := hp.2.1 (k * 4 + 1)
  refine lv_istore_n (pc := 6) (lv' := [(3, .int (nI (P.2.1 (k * 4 + 1)))), (0, .ref p0), (1, .ref s0), (2, .int (nI k))]) hx hb dX2_comeUp_6 rfl hl (by decide) rfl (fun ls hl => ?_)
  refine lv_aload_n (pc := 7) hx hb dX2_comeUp_7 rfl (lv_at hl 1 rfl) ?_
  refine lv_iload_n (pc := 8) hx hb dX2_comeUp_8 rfl (lv_at hl 3 rfl) ?_
  refine lv_iconst (pc := 9) (v := nI 2) hx hb dX2_comeUp_9 (by decide) ?_
  refine ci_Vd (pc := 10) (r0 := nI (P.2.1 (k * 4 + 2))) hF hN hK hP hV hS hA (k_X2_ofCase l D cI cC cB cS p0 p1 p2 p3 P k 2 hp (by omega) (by omega)) (cwV 2 hts gX2_comeUp_X2_ofCase rfl rfl rfl (by decide +kernel) ⟨Nat.le_of_ble_eq_true rfl, Nat.le_of_ble_eq_true rfl⟩) [0, 1, 2, 3] rfl (by decide) 0 2 rfl rfl rfl hl.1 rfl (Nat.le_of_ble_eq_true rfl) dX2_comeUp_10 ⟨Nat.le_refl _, Nat.le_refl _⟩ rfl (ws2 := plW p0 p1 p2 p3 cI P ++ stW s0 s1 s2 s3 cI S) rfl (fun H locs hP hS => ?_)
  have fq2 := hp.2.1 (k * 4 + 2)
  refine lv_iconst (pc := 13) (v := nI 2) hx hb dX2_comeUp_13 (by decide) ?_
  refine rn_idiv (pc := 14) hx hb (by omega) (by omega) dX2_comeUp_14 ?_
  refine lv_istore (pc := 15) (lv' := [(4, .int (nI ((P.2.1 (k * 4 + 2)) / 2))), (3, .int (nI (P.2.1 (k * 4 + 1)))), (0, .ref p0), (1, .ref s0), (2, .int (nI k))]) hx hb dX2_comeUp_15 hl (by decide) rfl (fun ls hl => ?_)
  refine lv_aload_n (pc := 17) hx hb dX2_comeUp_17 rfl (lv_at hl 3 rfl) ?_
  refine lv_iload_n (pc := 18) hx hb dX2_comeUp_18 rfl (lv_at hl 1 rfl) ?_
  refine lv_aload_n (pc := 19) hx hb dX2_comeUp_19 rfl (lv_at hl 2 rfl) ?_
  refine lv_iload_n (pc := 20) hx hb dX2_comeUp_20 rfl (lv_at hl 4 rfl) ?_
  refine lv_aload_n (pc := 21) hx hb dX2_comeUp_21 rfl (lv_at hl 3 rfl) ?_
  refine lv_iload_n (pc := 22) hx hb dX2_comeUp_22 rfl (lv_at hl 1 rfl) ?_
  have hsa := sAt_le hi (P.2.1 (k * 4 + 1) : Nat)
  refine ci_Vd (pc := 23) (r0 := nI (sAt S ((P.2.1 (k * 4 + 1) : Nat) : Int))) hF hN hK hP hV hS hA (k_X8_highAt l D cI cC cB cS s0 s1 s2 s3 S (nI (P.2.1 (k * 4 + 1))) ((P.2.1 (k * 4 + 1) : Nat) : Int) (tI_nI (by omega))) (cwV 1 hts gX2_comeUp_X8_highAt rfl rfl rfl (by decide +kernel) ⟨Nat.le_of_ble_eq_true rfl, Nat.le_of_ble_eq_true rfl⟩) [4, 5, 6, 7] rfl (by decide) 0 8 rfl rfl rfl hl.1 rfl (Nat.le_of_ble_eq_true rfl) dX2_comeUp_23 ⟨Nat.le_refl _, Nat.le_refl _⟩ rfl (ws2 := plW p0 p1 p2 p3 cI P ++ stW s0 s1 s2 s3 cI S) rfl (fun H locs hP hS => ?_)
  refine ci_Vd (pc := 26) (r0 := nI (raiseOwn P k (sAt S ((P.2.1 (k * 4 + 1) : Nat) : Int)))) hF hN hK hP hV hS hA (k_X2_raisesOwn l D cI cC cB cS p0 p1 p2 p3 P k (sAt S ((P.2.1 (k * 4 + 1) : Nat) : Int)) hp (by omega) (by omega)) (cwV 2 hts gX2_comeUp_X2_raisesOwn rfl rfl rfl (by decide +kernel) ⟨Nat.le_of_ble_eq_true rfl, Nat.le_of_ble_eq_true rfl⟩) [0, 1, 2, 3] rfl (by decide) 0 2 rfl rfl rfl hl.1 rfl (Nat.le_of_ble_eq_true rfl) dX2_comeUp_26 ⟨Nat.le_refl _, Nat.le_refl _⟩ rfl (ws2 := plW p0 p1 p2 p3 cI P ++ stW s0 s1 s2 s3 cI S) rfl (fun H locs hP hS => ?_)
  have fq4 := raiseOwn_le hp k (sAt S ((P.2.1 (k * 4 + 1) : Nat) : Int))
  refine cv_Vd (pc := 29) hF hN hK hP hV hS hA (k_X8_raise l D cI cC cB cS s0 s1 s2 s3 S (nI (P.2.1 (k * 4 + 1))) ((P.2.1 (k * 4 + 1) : Nat) : Int) (tI_nI (by omega)) (raiseOwn P k (sAt S ((P.2.1 (k * 4 + 1) : Nat) : Int))) hi (by omega)) (cwV 2 hts gX2_comeUp_X8_raise rfl rfl rfl (by decide +kernel) ⟨Nat.le_of_ble_eq_true rfl, Nat.le_of_ble_eq_true rfl⟩) [4, 5, 6, 7] rfl (by decide) 0 8 rfl rfl rfl hl.1 rfl (Nat.le_of_ble_eq_true rfl) dX2_comeUp_29 ⟨Nat.le_refl _, Nat.le_refl _⟩ rfl (ws2 := plW p0 p1 p2 p3 cI P ++ stW s0 s1 s2 s3 cI (sRaise S ((P.2.1 (k * 4 + 1) : Nat) : Int) (raiseOwn P k (sAt S ((P.2.1 (k * 4 + 1) : Nat) : Int))))) rfl (fun H locs hP hS => ?_)
  refine lv_aload_n (pc := 32) hx hb dX2_comeUp_32 rfl (lv_at hl 2 rfl) ?_
  refine lv_iload_n (pc := 33) hx hb dX2_comeUp_33 rfl (lv_at hl 4 rfl) ?_
  refine lv_iconst (pc := 34) (v := nI 0) hx hb dX2_comeUp_34 (by decide) ?_
  refine ci_Vd (pc := 35) (r0 := nI (P.2.1 (k * 4 + 0))) hF hN hK hP hV hS hA (k_X2_ofCase l D cI cC cB cS p0 p1 p2 p3 P k 0 hp (by omega) (by omega)) (cwV 2 hts gX2_comeUp_X2_ofCase rfl rfl rfl (by decide +kernel) ⟨Nat.le_of_ble_eq_true rfl, Nat.le_of_ble_eq_true rfl⟩) [0, 1, 2, 3] rfl (by decide) 0 2 rfl rfl rfl hl.1 rfl (Nat.le_of_ble_eq_true rfl) dX2_comeUp_35 ⟨Nat.le_refl _, Nat.le_refl _⟩ rfl (ws2 := plW p0 p1 p2 p3 cI P ++ stW s0 s1 s2 s3 cI (sRaise S ((P.2.1 (k * 4 + 1) : Nat) : Int) (raiseOwn P k (sAt S ((P.2.1 (k * 4 + 1) : Nat) : Int))))) rfl (fun H locs hP hS => ?_)
  have fq6 := hp.2.1 (k * 4 + 0)
  refine lv_iconst (pc := 38) (v := nI 1) hx hb dX2_comeUp_38 (by decide) ?_
  refine rc_ne (pc := 39) (tgt := 56) hx hb (tI_nI (by omega)) (tI_nI (by omega)) dX2_comeUp_39 (by decide) (fun c39 => ?_) (fun c39 => ?_)
  · refine lv_aload_n (pc := 56) hx hb dX2_comeUp_56 rfl (lv_at hl 2 rfl) ?_
    refine lv_iload_n (pc := 57) hx hb dX2_comeUp_57 rfl (lv_at hl 4 rfl) ?_
    refine lv_iconst (pc := 58) (v := nI 0) hx hb dX2_comeUp_58 (by decide) ?_
    refine ci_Vd (pc := 59) (r0 := nI (P.2.1 (k * 4 + 0))) hF hN hK hP hV hS hA (k_X2_ofCase l D cI cC cB cS p0 p1 p2 p3 P k 0 hp (by omega) (by omega)) (cwV 2 hts gX2_comeUp_X2_ofCase rfl rfl rfl (by decide +kernel) ⟨Nat.le_of_ble_eq_true rfl, Nat.le_of_ble_eq_true rfl⟩) [0, 1, 2, 3] rfl (by decide) 0 2 rfl rfl rfl hl.1 rfl (Nat.le_of_ble_eq_true rfl) dX2_comeUp_59 ⟨Nat.le_refl _, Nat.le_refl _⟩ rfl (ws2 := plW p0 p1 p2 p3 cI P ++ stW s0 s1 s2 s3 cI (sRaise S ((P.2.1 (k * 4 + 1) : Nat) : Int) (raiseOwn P k (sAt S ((P.2.1 (k * 4 + 1) : Nat) : Int))))) rfl (fun H locs hP hS => ?_)
    have fq7 := hp.2.1 (k * 4 + 0)
    refine lv_iconst (pc := 62) (v := nI 2) hx hb dX2_comeUp_62 (by decide) ?_
    refine rc_ne (pc := 63) (tgt := 102) hx hb (tI_nI (by omega)) (tI_nI (by omega)) dX2_comeUp_63 (by decide) (fun c63 => ?_) (fun c63 => ?_)
    · exact hret 102 _ hP hS dX2_comeUp_102 rfl (by unfold comeS; (repeat' split) <;> first | omega | rfl)
    · refine lv_iconst (pc := 66) (v := nI 0) hx hb dX2_comeUp_66 (by decide) ?_
      refine lv_istore (pc := 67) (lv' := [(5, .int (nI 0)), (4, .int (nI ((P.2.1 (k * 4 + 2)) / 2))), (3, .int (nI (P.2.1 (k * 4 + 1)))), (0, .ref p0), (1, .ref s0), (2, .int (nI k))]) hx hb dX2_comeUp_67 hl (by decide) rfl (fun ls hl => ?_)
      refine lv_iload (pc := 69) hx hb dX2_comeUp_69 (lv_at hl 0 rfl) ?_
      refine lv_iconst (pc := 71) (v := nI 5) hx hb dX2_comeUp_71 (by decide) ?_
      refine rc_ge (pc := 72) (tgt := 102) hx hb (tI_nI (by omega)) (tI_nI (by omega)) dX2_comeUp_72 (by decide) (fun c72 => (by omega)) (fun c72 => ?_)
      refine lv_iload (pc := 75) hx hb dX2_comeUp_75 (lv_at hl 0 rfl) ?_
      refine lv_iconst (pc := 77) (v := nI 2) hx hb dX2_comeUp_77 (by decide) ?_
      refine rc_eq (pc := 78) (tgt := 96) hx hb (tI_nI (by omega)) (tI_nI (by omega)) dX2_comeUp_78 (by decide) (fun c78 => (by omega)) (fun c78 => ?_)
      refine lv_aload_n (pc := 81) hx hb dX2_comeUp_81 rfl (lv_at hl 4 rfl) ?_
      refine lv_aload_n (pc := 82) hx hb dX2_comeUp_82 rfl (lv_at hl 3 rfl) ?_
      refine lv_iload_n (pc := 83) hx hb dX2_comeUp_83 rfl (lv_at hl 2 rfl) ?_
      refine lv_iload (pc := 84) hx hb dX2_comeUp_84 (lv_at hl 0 rfl) ?_
      refine ci_Vd (pc := 86) (r0 := jI (wayZ P (P.2.1 (k * 4 + 1)) 0)) hF hN hK hP hV hS hA (k_X2_wayFrom l D cI cC cB cS p0 p1 p2 p3 P (P.2.1 (k * 4 + 1)) 0 hp hk0 (by omega)) (cwV 2 hts gX2_comeUp_X2_wayFrom rfl rfl rfl (by decide +kernel) ⟨Nat.le_of_ble_eq_true rfl, Nat.le_of_ble_eq_true rfl⟩) [0, 1, 2, 3] rfl (by decide) 0 2 rfl rfl rfl hl.1 rfl (Nat.le_of_ble_eq_true rfl) dX2_comeUp_86 ⟨Nat.le_refl _, Nat.le_refl _⟩ rfl (ws2 := plW p0 p1 p2 p3 cI P ++ stW s0 s1 s2 s3 cI (sRaise S ((P.2.1 (k * 4 + 1) : Nat) : Int) (raiseOwn P k (sAt S ((P.2.1 (k * 4 + 1) : Nat) : Int))))) rfl (fun H locs hP hS => ?_)
      have fq8 := wayZ_w hp (show (P.2.1 (k * 4 + 1)) < pCells P from hk0) 0
      refine lv_iload (pc := 89) hx hb dX2_comeUp_89 (lv_at hl 1 rfl) ?_
      refine lv_iconst (pc := 91) (v := nI 1) hx hb dX2_comeUp_91 (by decide) ?_
      refine rn_iadd (pc := 92) hx hb dX2_comeUp_92 ?_
      refine cv_Vd (pc := 93) hF hN hK hP hV hS hA (k_X8_raise l D cI cC cB cS s0 s1 s2 s3 (sRaise S ((P.2.1 (k * 4 + 1) : Nat) : Int) (raiseOwn P k (sAt S ((P.2.1 (k * 4 + 1) : Nat) : Int)))) (jI (wayZ P (P.2.1 (k * 4 + 1)) 0)) (wayZ P (P.2.1 (k * 4 + 1)) 0) (jI_to (by omega)) (((P.2.1 (k * 4 + 2)) / 2) + 1) (sRaise_hi hi _ _) (by omega)) (cwV 2 hts gX2_comeUp_X8_raise rfl rfl rfl (by decide +kernel) ⟨Nat.le_of_ble_eq_true rfl, Nat.le_of_ble_eq_true rfl⟩) [4, 5, 6, 7] rfl (by decide) 0 8 rfl rfl rfl hl.1 rfl (Nat.le_of_ble_eq_true rfl) dX2_comeUp_93 ⟨Nat.le_refl _, Nat.le_refl _⟩ rfl (ws2 := plW p0 p1 p2 p3 cI P ++ stW s0 s1 s2 s3 cI (sRaise (sRaise S ((P.2.1 (k * 4 + 1) : Nat) : Int) (raiseOwn P k (sAt S ((P.2.1 (k * 4 + 1) : Nat) : Int)))) (wayZ P (P.2.1 (k * 4 + 1)) 0) (((P.2.1 (k * 4 + 2)) / 2) + 1))) rfl (fun H locs hP hS => ?_)
      refine lv_iinc (pc := 96) (v := nI 1) (lv' := [(5, .int (nI 1)), (4, .int (nI ((P.2.1 (k * 4 + 2)) / 2))), (3, .int (nI (P.2.1 (k * 4 + 1)))), (0, .ref p0), (1, .ref s0), (2, .int (nI k))]) hx hb dX2_comeUp_96 hl (k := 0) rfl (by decide) (by decide) rfl (fun ls hl => ?_)
      refine lv_goto (pc := 99) (tgt := 69) hx hb dX2_comeUp_99 (by decide) ?_
      refine lv_iload (pc := 69) hx hb dX2_comeUp_69 (lv_at hl 0 rfl) ?_
      refine lv_iconst (pc := 71) (v := nI 5) hx hb dX2_comeUp_71 (by decide) ?_
      refine rc_ge (pc := 72) (tgt := 102) hx hb (tI_nI (by omega)) (tI_nI (by omega)) dX2_comeUp_72 (by decide) (fun c72 => (by omega)) (fun c72 => ?_)
      refine lv_iload (pc := 75) hx hb dX2_comeUp_75 (lv_at hl 0 rfl) ?_
      refine lv_iconst (pc := 77) (v := nI 2) hx hb dX2_comeUp_77 (by decide) ?_
      refine rc_eq (pc := 78) (tgt := 96) hx hb (tI_nI (by omega)) (tI_nI (by omega)) dX2_comeUp_78 (by decide) (fun c78 => (by omega)) (fun c78 => ?_)
      refine lv_aload_n (pc := 81) hx hb dX2_comeUp_81 rfl (lv_at hl 4 rfl) ?_
      refine lv_aload_n (pc := 82) hx hb dX2_comeUp_82 rfl (lv_at hl 3 rfl) ?_
      refine lv_iload_n (pc := 83) hx hb dX2_comeUp_83 rfl (lv_at hl 2 rfl) ?_
      refine lv_iload (pc := 84) hx hb dX2_comeUp_84 (lv_at hl 0 rfl) ?_
      refine ci_Vd (pc := 86) (r0 := jI (wayZ P (P.2.1 (k * 4 + 1)) 1)) hF hN hK hP hV hS hA (k_X2_wayFrom l D cI cC cB cS p0 p1 p2 p3 P (P.2.1 (k * 4 + 1)) 1 hp hk0 (by omega)) (cwV 2 hts gX2_comeUp_X2_wayFrom rfl rfl rfl (by decide +kernel) ⟨Nat.le_of_ble_eq_true rfl, Nat.le_of_ble_eq_true rfl⟩) [0, 1, 2, 3] rfl (by decide) 0 2 rfl rfl rfl hl.1 rfl (Nat.le_of_ble_eq_true rfl) dX2_comeUp_86 ⟨Nat.le_refl _, Nat.le_refl _⟩ rfl (ws2 := plW p0 p1 p2 p3 cI P ++ stW s0 s1 s2 s3 cI (sRaise (sRaise S ((P.2.1 (k * 4 + 1) : Nat) : Int) (raiseOwn P k (sAt S ((P.2.1 (k * 4 + 1) : Nat) : Int)))) (wayZ P (P.2.1 (k * 4 + 1)) 0) (((P.2.1 (k * 4 + 2)) / 2) + 1))) rfl (fun H locs hP hS => ?_)
      have fq10 := wayZ_w hp (show (P.2.1 (k * 4 + 1)) < pCells P from hk0) 1
      refine lv_iload (pc := 89) hx hb dX2_comeUp_89 (lv_at hl 1 rfl) ?_
      refine lv_iconst (pc := 91) (v := nI 1) hx hb dX2_comeUp_91 (by decide) ?_
      refine rn_iadd (pc := 92) hx hb dX2_comeUp_92 ?_
      refine cv_Vd (pc := 93) hF hN hK hP hV hS hA (k_X8_raise l D cI cC cB cS s0 s1 s2 s3 (sRaise (sRaise S ((P.2.1 (k * 4 + 1) : Nat) : Int) (raiseOwn P k (sAt S ((P.2.1 (k * 4 + 1) : Nat) : Int)))) (wayZ P (P.2.1 (k * 4 + 1)) 0) (((P.2.1 (k * 4 + 2)) / 2) + 1)) (jI (wayZ P (P.2.1 (k * 4 + 1)) 1)) (wayZ P (P.2.1 (k * 4 + 1)) 1) (jI_to (by omega)) (((P.2.1 (k * 4 + 2)) / 2) + 1) (sRaise_hi (sRaise_hi hi _ _) _ _) (by omega)) (cwV 2 hts gX2_comeUp_X8_raise rfl rfl rfl (by decide +kernel) ⟨Nat.le_of_ble_eq_true rfl, Nat.le_of_ble_eq_true rfl⟩) [4, 5, 6, 7] rfl (by decide) 0 8 rfl rfl rfl hl.1 rfl (Nat.le_of_ble_eq_true rfl) dX2_comeUp_93 ⟨Nat.le_refl _, Nat.le_refl _⟩ rfl (ws2 := plW p0 p1 p2 p3 cI P ++ stW s0 s1 s2 s3 cI (sRaise (sRaise (sRaise S ((P.2.1 (k * 4 + 1) : Nat) : Int) (raiseOwn P k (sAt S ((P.2.1 (k * 4 + 1) : Nat) : Int)))) (wayZ P (P.2.1 (k * 4 + 1)) 0) (((P.2.1 (k * 4 + 2)) / 2) + 1)) (wayZ P (P.2.1 (k * 4 + 1)) 1) (((P.2.1 (k * 4 + 2)) / 2) + 1))) rfl (fun H locs hP hS => ?_)
      refine lv_iinc (pc := 96) (v := nI 2) (lv' := [(5, .int (nI 2)), (4, .int (nI ((P.2.1 (k * 4 + 2)) / 2))), (3, .int (nI (P.2.1 (k * 4 + 1)))), (0, .ref p0), (1, .ref s0), (2, .int (nI k))]) hx hb dX2_comeUp_96 hl (k := 0) rfl (by decide) (by decide) rfl (fun ls hl => ?_)
      refine lv_goto (pc := 99) (tgt := 69) hx hb dX2_comeUp_99 (by decide) ?_
      refine lv_iload (pc := 69) hx hb dX2_comeUp_69 (lv_at hl 0 rfl) ?_
      refine lv_iconst (pc := 71) (v := nI 5) hx hb dX2_comeUp_71 (by decide) ?_
      refine rc_ge (pc := 72) (tgt := 102) hx hb (tI_nI (by omega)) (tI_nI (by omega)) dX2_comeUp_72 (by decide) (fun c72 => (by omega)) (fun c72 => ?_)
      refine lv_iload (pc := 75) hx hb dX2_comeUp_75 (lv_at hl 0 rfl) ?_
      refine lv_iconst (pc := 77) (v := nI 2) hx hb dX2_comeUp_77 (by decide) ?_
      refine rc_eq (pc := 78) (tgt := 96) hx hb (tI_nI (by omega)) (tI_nI (by omega)) dX2_comeUp_78 (by decide) (fun c78 => ?_) (fun c78 => (by omega))
      refine lv_iinc (pc := 96) (v := nI 3) (lv' := [(5, .int (nI 3)), (4, .int (nI ((P.2.1 (k * 4 + 2)) / 2))), (3, .int (nI (P.2.1 (k * 4 + 1)))), (0, .ref p0), (1, .ref s0), (2, .int (nI k))]) hx hb dX2_comeUp_96 hl (k := 0) rfl (by decide) (by decide) rfl (fun ls hl => ?_)
      refine lv_goto (pc := 99) (tgt := 69) hx hb dX2_comeUp_99 (by decide) ?_
      refine lv_iload (pc := 69) hx hb dX2_comeUp_69 (lv_at hl 0 rfl) ?_
      refine lv_iconst (pc := 71) (v := nI 5) hx hb dX2_comeUp_71 (by decide) ?_
      refine rc_ge (pc := 72) (tgt := 102) hx hb (tI_nI (by omega)) (tI_nI (by omega)) dX2_comeUp_72 (by decide) (fun c72 => (by omega)) (fun c72 => ?_)
      refine lv_iload (pc := 75) hx hb dX2_comeUp_75 (lv_at hl 0 rfl) ?_
      refine lv_iconst (pc := 77) (v := nI 2) hx hb dX2_comeUp_77 (by decide) ?_
      refine rc_eq (pc := 78) (tgt := 96) hx hb (tI_nI (by omega)) (tI_nI (by omega)) dX2_comeUp_78 (by decide) (fun c78 => (by omega)) (fun c78 => ?_)
      refine lv_aload_n (pc := 81) hx hb dX2_comeUp_81 rfl (lv_at hl 4 rfl) ?_
      refine lv_aload_n (pc := 82) hx hb dX2_comeUp_82 rfl (lv_at hl 3 rfl) ?_
      refine lv_iload_n (pc := 83) hx hb dX2_comeUp_83 rfl (lv_at hl 2 rfl) ?_
      refine lv_iload (pc := 84) hx hb dX2_comeUp_84 (lv_at hl 0 rfl) ?_
      refine ci_Vd (pc := 86) (r0 := jI (wayZ P (P.2.1 (k * 4 + 1)) 3)) hF hN hK hP hV hS hA (k_X2_wayFrom l D cI cC cB cS p0 p1 p2 p3 P (P.2.1 (k * 4 + 1)) 3 hp hk0 (by omega)) (cwV 2 hts gX2_comeUp_X2_wayFrom rfl rfl rfl (by decide +kernel) ⟨Nat.le_of_ble_eq_true rfl, Nat.le_of_ble_eq_true rfl⟩) [0, 1, 2, 3] rfl (by decide) 0 2 rfl rfl rfl hl.1 rfl (Nat.le_of_ble_eq_true rfl) dX2_comeUp_86 ⟨Nat.le_refl _, Nat.le_refl _⟩ rfl (ws2 := plW p0 p1 p2 p3 cI P ++ stW s0 s1 s2 s3 cI (sRaise (sRaise (sRaise S ((P.2.1 (k * 4 + 1) : Nat) : Int) (raiseOwn P k (sAt S ((P.2.1 (k * 4 + 1) : Nat) : Int)))) (wayZ P (P.2.1 (k * 4 + 1)) 0) (((P.2.1 (k * 4 + 2)) / 2) + 1)) (wayZ P (P.2.1 (k * 4 + 1)) 1) (((P.2.1 (k * 4 + 2)) / 2) + 1))) rfl (fun H locs hP hS => ?_)
      have fq12 := wayZ_w hp (show (P.2.1 (k * 4 + 1)) < pCells P from hk0) 3
      refine lv_iload (pc := 89) hx hb dX2_comeUp_89 (lv_at hl 1 rfl) ?_
      refine lv_iconst (pc := 91) (v := nI 1) hx hb dX2_comeUp_91 (by decide) ?_
      refine rn_iadd (pc := 92) hx hb dX2_comeUp_92 ?_
      refine cv_Vd (pc := 93) hF hN hK hP hV hS hA (k_X8_raise l D cI cC cB cS s0 s1 s2 s3 (sRaise (sRaise (sRaise S ((P.2.1 (k * 4 + 1) : Nat) : Int) (raiseOwn P k (sAt S ((P.2.1 (k * 4 + 1) : Nat) : Int)))) (wayZ P (P.2.1 (k * 4 + 1)) 0) (((P.2.1 (k * 4 + 2)) / 2) + 1)) (wayZ P (P.2.1 (k * 4 + 1)) 1) (((P.2.1 (k * 4 + 2)) / 2) + 1)) (jI (wayZ P (P.2.1 (k * 4 + 1)) 3)) (wayZ P (P.2.1 (k * 4 + 1)) 3) (jI_to (by omega)) (((P.2.1 (k * 4 + 2)) / 2) + 1) (sRaise_hi (sRaise_hi (sRaise_hi hi _ _) _ _) _ _) (by omega)) (cwV 2 hts gX2_comeUp_X8_raise rfl rfl rfl (by decide +kernel) ⟨Nat.le_of_ble_eq_true rfl, Nat.le_of_ble_eq_true rfl⟩) [4, 5, 6, 7] rfl (by decide) 0 8 rfl rfl rfl hl.1 rfl (Nat.le_of_ble_eq_true rfl) dX2_comeUp_93 ⟨Nat.le_refl _, Nat.le_refl _⟩ rfl (ws2 := plW p0 p1 p2 p3 cI P ++ stW s0 s1 s2 s3 cI (sRaise (sRaise (sRaise (sRaise S ((P.2.1 (k * 4 + 1) : Nat) : Int) (raiseOwn P k (sAt S ((P.2.1 (k * 4 + 1) : Nat) : Int)))) (wayZ P (P.2.1 (k * 4 + 1)) 0) (((P.2.1 (k * 4 + 2)) / 2) + 1)) (wayZ P (P.2.1 (k * 4 + 1)) 1) (((P.2.1 (k * 4 + 2)) / 2) + 1)) (wayZ P (P.2.1 (k * 4 + 1)) 3) (((P.2.1 (k * 4 + 2)) / 2) + 1))) rfl (fun H locs hP hS => ?_)
      refine lv_iinc (pc := 96) (v := nI 4) (lv' := [(5, .int (nI 4)), (4, .int (nI ((P.2.1 (k * 4 + 2)) / 2))), (3, .int (nI (P.2.1 (k * 4 + 1)))), (0, .ref p0), (1, .ref s0), (2, .int (nI k))]) hx hb dX2_comeUp_96 hl (k := 0) rfl (by decide) (by decide) rfl (fun ls hl => ?_)
      refine lv_goto (pc := 99) (tgt := 69) hx hb dX2_comeUp_99 (by decide) ?_
      refine lv_iload (pc := 69) hx hb dX2_comeUp_69 (lv_at hl 0 rfl) ?_
      refine lv_iconst (pc := 71) (v := nI 5) hx hb dX2_comeUp_71 (by decide) ?_
      refine rc_ge (pc := 72) (tgt := 102) hx hb (tI_nI (by omega)) (tI_nI (by omega)) dX2_comeUp_72 (by decide) (fun c72 => (by omega)) (fun c72 => ?_)
      refine lv_iload (pc := 75) hx hb dX2_comeUp_75 (lv_at hl 0 rfl) ?_
      refine lv_iconst (pc := 77) (v := nI 2) hx hb dX2_comeUp_77 (by decide) ?_
      refine rc_eq (pc := 78) (tgt := 96) hx hb (tI_nI (by omega)) (tI_nI (by omega)) dX2_comeUp_78 (by decide) (fun c78 => (by omega)) (fun c78 => ?_)
      refine lv_aload_n (pc := 81) hx hb dX2_comeUp_81 rfl (lv_at hl 4 rfl) ?_
      refine lv_aload_n (pc := 82) hx hb dX2_comeUp_82 rfl (lv_at hl 3 rfl) ?_
      refine lv_iload_n (pc := 83) hx hb dX2_comeUp_83 rfl (lv_at hl 2 rfl) ?_
      refine lv_iload (pc := 84) hx hb dX2_comeUp_84 (lv_at hl 0 rfl) ?_
      refine ci_Vd (pc := 86) (r0 := jI (wayZ P (P.2.1 (k * 4 + 1)) 4)) hF hN hK hP hV hS hA (k_X2_wayFrom l D cI cC cB cS p0 p1 p2 p3 P (P.2.1 (k * 4 + 1)) 4 hp hk0 (by omega)) (cwV 2 hts gX2_comeUp_X2_wayFrom rfl rfl rfl (by decide +kernel) ⟨Nat.le_of_ble_eq_true rfl, Nat.le_of_ble_eq_true rfl⟩) [0, 1, 2, 3] rfl (by decide) 0 2 rfl rfl rfl hl.1 rfl (Nat.le_of_ble_eq_true rfl) dX2_comeUp_86 ⟨Nat.le_refl _, Nat.le_refl _⟩ rfl (ws2 := plW p0 p1 p2 p3 cI P ++ stW s0 s1 s2 s3 cI (sRaise (sRaise (sRaise (sRaise S ((P.2.1 (k * 4 + 1) : Nat) : Int) (raiseOwn P k (sAt S ((P.2.1 (k * 4 + 1) : Nat) : Int)))) (wayZ P (P.2.1 (k * 4 + 1)) 0) (((P.2.1 (k * 4 + 2)) / 2) + 1)) (wayZ P (P.2.1 (k * 4 + 1)) 1) (((P.2.1 (k * 4 + 2)) / 2) + 1)) (wayZ P (P.2.1 (k * 4 + 1)) 3) (((P.2.1 (k * 4 + 2)) / 2) + 1))) rfl (fun H locs hP hS => ?_)
      have fq14 := wayZ_w hp (show (P.2.1 (k * 4 + 1)) < pCells P from hk0) 4
      refine lv_iload (pc := 89) hx hb dX2_comeUp_89 (lv_at hl 1 rfl) ?_
      refine lv_iconst (pc := 91) (v := nI 1) hx hb dX2_comeUp_91 (by decide) ?_
      refine rn_iadd (pc := 92) hx hb dX2_comeUp_92 ?_
      refine cv_Vd (pc := 93) hF hN hK hP hV hS hA (k_X8_raise l D cI cC cB cS s0 s1 s2 s3 (sRaise (sRaise (sRaise (sRaise S ((P.2.1 (k * 4 + 1) : Nat) : Int) (raiseOwn P k (sAt S ((P.2.1 (k * 4 + 1) : Nat) : Int)))) (wayZ P (P.2.1 (k * 4 + 1)) 0) (((P.2.1 (k * 4 + 2)) / 2) + 1)) (wayZ P (P.2.1 (k * 4 + 1)) 1) (((P.2.1 (k * 4 + 2)) / 2) + 1)) (wayZ P (P.2.1 (k * 4 + 1)) 3) (((P.2.1 (k * 4 + 2)) / 2) + 1)) (jI (wayZ P (P.2.1 (k * 4 + 1)) 4)) (wayZ P (P.2.1 (k * 4 + 1)) 4) (jI_to (by omega)) (((P.2.1 (k * 4 + 2)) / 2) + 1) (sRaise_hi (sRaise_hi (sRaise_hi (sRaise_hi hi _ _) _ _) _ _) _ _) (by omega)) (cwV 2 hts gX2_comeUp_X8_raise rfl rfl rfl (by decide +kernel) ⟨Nat.le_of_ble_eq_true rfl, Nat.le_of_ble_eq_true rfl⟩) [4, 5, 6, 7] rfl (by decide) 0 8 rfl rfl rfl hl.1 rfl (Nat.le_of_ble_eq_true rfl) dX2_comeUp_93 ⟨Nat.le_refl _, Nat.le_refl _⟩ rfl (ws2 := plW p0 p1 p2 p3 cI P ++ stW s0 s1 s2 s3 cI (sRaise (sRaise (sRaise (sRaise (sRaise S ((P.2.1 (k * 4 + 1) : Nat) : Int) (raiseOwn P k (sAt S ((P.2.1 (k * 4 + 1) : Nat) : Int)))) (wayZ P (P.2.1 (k * 4 + 1)) 0) (((P.2.1 (k * 4 + 2)) / 2) + 1)) (wayZ P (P.2.1 (k * 4 + 1)) 1) (((P.2.1 (k * 4 + 2)) / 2) + 1)) (wayZ P (P.2.1 (k * 4 + 1)) 3) (((P.2.1 (k * 4 + 2)) / 2) + 1)) (wayZ P (P.2.1 (k * 4 + 1)) 4) (((P.2.1 (k * 4 + 2)) / 2) + 1))) rfl (fun H locs hP hS => ?_)
      refine lv_iinc (pc := 96) (v := nI 5) (lv' := [(5, .int (nI 5)), (4, .int (nI ((P.2.1 (k * 4 + 2)) / 2))), (3, .int (nI (P.2.1 (k * 4 + 1)))), (0, .ref p0), (1, .ref s0), (2, .int (nI k))]) hx hb dX2_comeUp_96 hl (k := 0) rfl (by decide) (by decide) rfl (fun ls hl => ?_)
      refine lv_goto (pc := 99) (tgt := 69) hx hb dX2_comeUp_99 (by decide) ?_
      refine lv_iload (pc := 69) hx hb dX2_comeUp_69 (lv_at hl 0 rfl) ?_
      refine lv_iconst (pc := 71) (v := nI 5) hx hb dX2_comeUp_71 (by decide) ?_
      refine rc_ge (pc := 72) (tgt := 102) hx hb (tI_nI (by omega)) (tI_nI (by omega)) dX2_comeUp_72 (by decide) (fun c72 => ?_) (fun c72 => (by omega))
      exact hret 102 _ hP hS dX2_comeUp_102 rfl (by unfold comeS; (repeat' split) <;> first | omega | rfl)
  · refine lv_aload_n (pc := 42) hx hb dX2_comeUp_42 rfl (lv_at hl 3 rfl) ?_
    refine lv_aload_n (pc := 43) hx hb dX2_comeUp_43 rfl (lv_at hl 2 rfl) ?_
    refine lv_iload_n (pc := 44) hx hb dX2_comeUp_44 rfl (lv_at hl 1 rfl) ?_
    refine ci_Vd (pc := 45) (r0 := jI (wayZ P (P.2.1 (k * 4 + 1)) 3)) hF hN hK hP hV hS hA (k_X2_after l D cI cC cB cS p0 p1 p2 p3 P (P.2.1 (k * 4 + 1)) hp hk0) (cwV 1 hts gX2_comeUp_X2_after rfl rfl rfl (by decide +kernel) ⟨Nat.le_of_ble_eq_true rfl, Nat.le_of_ble_eq_true rfl⟩) [0, 1, 2, 3] rfl (by decide) 0 2 rfl rfl rfl hl.1 rfl (Nat.le_of_ble_eq_true rfl) dX2_comeUp_45 ⟨Nat.le_refl _, Nat.le_refl _⟩ rfl (ws2 := plW p0 p1 p2 p3 cI P ++ stW s0 s1 s2 s3 cI (sRaise S ((P.2.1 (k * 4 + 1) : Nat) : Int) (raiseOwn P k (sAt S ((P.2.1 (k * 4 + 1) : Nat) : Int))))) rfl (fun H locs hP hS => ?_)
    have fq16 := wayZ_w hp (show (P.2.1 (k * 4 + 1)) < pCells P from hk0) 3
    refine lv_iload (pc := 48) hx hb dX2_comeUp_48 (lv_at hl 0 rfl) ?_
    refine cv_Vd (pc := 50) hF hN hK hP hV hS hA (k_X8_raise l D cI cC cB cS s0 s1 s2 s3 (sRaise S ((P.2.1 (k * 4 + 1) : Nat) : Int) (raiseOwn P k (sAt S ((P.2.1 (k * 4 + 1) : Nat) : Int)))) (jI (wayZ P (P.2.1 (k * 4 + 1)) 3)) (wayZ P (P.2.1 (k * 4 + 1)) 3) (jI_to (by omega)) ((P.2.1 (k * 4 + 2)) / 2) (sRaise_hi hi _ _) (by omega)) (cwV 2 hts gX2_comeUp_X8_raise rfl rfl rfl (by decide +kernel) ⟨Nat.le_of_ble_eq_true rfl, Nat.le_of_ble_eq_true rfl⟩) [4, 5, 6, 7] rfl (by decide) 0 8 rfl rfl rfl hl.1 rfl (Nat.le_of_ble_eq_true rfl) dX2_comeUp_50 ⟨Nat.le_refl _, Nat.le_refl _⟩ rfl (ws2 := plW p0 p1 p2 p3 cI P ++ stW s0 s1 s2 s3 cI (sRaise (sRaise S ((P.2.1 (k * 4 + 1) : Nat) : Int) (raiseOwn P k (sAt S ((P.2.1 (k * 4 + 1) : Nat) : Int)))) (wayZ P (P.2.1 (k * 4 + 1)) 3) ((P.2.1 (k * 4 + 2)) / 2))) rfl (fun H locs hP hS => ?_)
    refine lv_goto (pc := 53) (tgt := 102) hx hb dX2_comeUp_53 (by decide) ?_
    exact hret 102 _ hP hS dX2_comeUp_102 rfl (by unfold comeS; (repeat' split) <;> first | omega | rfl)
abbrev rmX2_giveStrokes : Room := { frames := 1, cells := 0, slots := 0, locals := 23 }
set_option maxHeartbeats 4000000 in
set_option maxRecDepth 100000 in
theorem k_X2_giveStrokes (l : Launch) (D : va_G) (cI cC cB cS : ClassId) (p0 p1 p2 p3 : Nat) (P : PL) (s0 s1 s2 s3 : Nat) (S : ST) (hp : pOK P) : CV l D (kT cI cC cB cS) yX2_giveStrokes wsX2_giveStrokes rmX2_giveStrokes [.ref p0, .ref s0] (plW p0 p1 p2 p3 cI P ++ stW s0 s1 s2 s3 cI S) (fun u => u = plW p0 p1 p2 p3 cI P ++ stW s0 s1 s2 s3 cI (giveS P S)) := by
  refine cv_intro (by decide) rfl (Nat.le_of_ble_eq_true rfl) ?_
  intro p e s m args below meth c ls A QF hF hK hP hV hS hA hN hl hret
  obtain ⟨hx, hb, hml, hown, hts⟩ := id hF
  have hP : va_P D vwCl (plW p0 p1 p2 p3 cI P ++ stW s0 s1 s2 s3 cI S) s.heap := hP
  have hl : lv_has ls 3 [(0, .ref p0), (1, .ref s0)] := hl
  have wf31 := hts (.fieldLink RX2 31 "RemorseWall$Plan" "maidCount" "I") (by decide +kernel)
  have hiX2 : ∀ w ∈ u_ws RX2 TX2 7, w ∈ wsX2_giveStrokes := by decide +kernel
  obtain ⟨hp1, hp2, hp3, hp4, hp5, hp6, hp7⟩ := id hp
  refine lv_iconst (pc := 0) (v := nI 0) hx hb dX2_giveStrokes_0 (by decide) ?_
  refine lv_istore_n (pc := 1) (lv' := [(2, .int (nI 0)), (0, .ref p0), (1, .ref s0)]) hx hb dX2_giveStrokes_1 rfl hl (by decide) rfl (fun ls hl => ?_)
  have cut2 : ∀ (fuel : Nat) (k : Nat) (f : Nat → Nat) (H : Heap) (locs : List Loc) (ls : Array Slot) (hk : k ≤ P.2.2.2.2.2.2) (hf : f = giveLe P S.2.1 k) (hfu : P.2.2.2.2.2.2 - k < fuel), va_P D vwCl (plW p0 p1 p2 p3 cI P ++ stW s0 s1 s2 s3 cI (S.1, f, S.2.2.1, S.2.2.2.1, S.2.2.2.2)) H → va_S A s.heap H locs → lv_has ls 3 [(2, .int (nI k)), (1, .ref s0), (0, .ref p0)] → W p l e rmX2_giveStrokes s m args below meth c H locs 0 0 QF (F0 m 2 ls []) := by
    intro fuel
    induction fuel with
    | zero => intro k f H locs ls hk hf hfu; omega
    | succ fuel ih2 =>
      intro k f H locs ls hk hf hfu hP hS hl
      refine lv_iload_n (pc := 2) hx hb dX2_giveStrokes_2 rfl (lv_at hl 0 rfl) ?_
      refine lv_aload_n (pc := 3) hx hb dX2_giveStrokes_3 rfl (lv_at hl 2 rfl) ?_
      refine va_get (pc := 4) (D := D) (ci := 2) (v := .int (nI P.2.2.2.2.2.2)) (C := RX2) (T := TX2) (N := 7) hx hb hts hiX2 hown hK hP 0 rfl rfl 6 (by decide) wf31 (fun _ h9 => h9) rfl dX2_giveStrokes_4 ?_
      refine rc_ge (pc := 7) (tgt := 27) hx hb (tI_nI (by omega)) (tI_nI (by omega)) dX2_giveStrokes_7 (by decide) (fun c7 => ?_) (fun c7 => ?_)
      · exact hret 27 _ hP hS dX2_giveStrokes_27 rfl (by rw [hf, show k = P.2.2.2.2.2.2 by omega])
      · refine lv_aload_n (pc := 10) hx hb dX2_giveStrokes_10 rfl (lv_at hl 1 rfl) ?_
        refine lv_iload_n (pc := 11) hx hb dX2_giveStrokes_11 rfl (lv_at hl 0 rfl) ?_
        refine lv_aload_n (pc := 12) hx hb dX2_giveStrokes_12 rfl (lv_at hl 2 rfl) ?_
        refine lv_iload_n (pc := 13) hx hb dX2_giveStrokes_13 rfl (lv_at hl 0 rfl) ?_
        refine lv_iconst (pc := 14) (v := nI 2) hx hb dX2_giveStrokes_14 (by decide) ?_
        refine ci_Vd (pc := 15) (r0 := nI (P.2.2.1 (k * 4 + 2))) hF hN hK hP hV hS hA (k_X2_ofMaid l D cI cC cB cS p0 p1 p2 p3 P k 2 hp (by omega) (by omega)) (cwV 2 hts gX2_giveStrokes_X2_ofMaid rfl rfl rfl (by decide +kernel) ⟨Nat.le_of_ble_eq_true rfl, Nat.le_of_ble_eq_true rfl⟩) [0, 1, 2, 3] rfl (by decide) 0 2 rfl rfl rfl hl.1 rfl (Nat.le_of_ble_eq_true rfl) dX2_giveStrokes_15 ⟨Nat.le_refl _, Nat.le_refl _⟩ rfl (ws2 := plW p0 p1 p2 p3 cI P ++ stW s0 s1 s2 s3 cI (S.1, f, S.2.2.1, S.2.2.2.1, S.2.2.2.2)) rfl (fun H locs hP hS => ?_)
        have fq1 := hp.2.2.1 (k * 4 + 2)
        refine cv_Vd (pc := 18) hF hN hK hP hV hS hA (k_X8_setLeft l D cI cC cB cS s0 s1 s2 s3 (S.1, f, S.2.2.1, S.2.2.2.1, S.2.2.2.2) k (P.2.2.1 (k * 4 + 2)) (by omega)) (cwV 2 hts gX2_giveStrokes_X8_setLeft rfl rfl rfl (by decide +kernel) ⟨Nat.le_of_ble_eq_true rfl, Nat.le_of_ble_eq_true rfl⟩) [4, 5, 6, 7] rfl (by decide) 0 8 rfl rfl rfl hl.1 rfl (Nat.le_of_ble_eq_true rfl) dX2_giveStrokes_18 ⟨Nat.le_refl _, Nat.le_refl _⟩ rfl (ws2 := plW p0 p1 p2 p3 cI P ++ stW s0 s1 s2 s3 cI (S.1, va_up f k (P.2.2.1 (k * 4 + 2)), (S.2.2.1, S.2.2.2.1, S.2.2.2.2))) rfl (fun H locs hP hS => ?_)
        refine lv_iinc (pc := 21) (v := nI (k + 1)) (lv' := [(2, .int (nI (k + 1))), (1, .ref s0), (0, .ref p0)]) hx hb dX2_giveStrokes_21 hl (k := 0) rfl (by rw [← nI_add]; rfl) (by decide) rfl (fun ls hl => ?_)
        refine lv_goto (pc := 24) (tgt := 2) hx hb dX2_giveStrokes_24 (by decide) ?_
        exact ih2 (k + 1) (va_up f k (P.2.2.1 (k * 4 + 2))) _ _ _ (by omega) (by rw [hf]; rfl) (by omega) hP hS (lv_sub hl [0, 1, 2] rfl)
  exact cut2 _ 0 S.2.1 _ _ _ (Nat.zero_le _) rfl (Nat.lt_succ_self _) hP hS (lv_sub hl [0, 2, 1] rfl)
