/-! the string again: what throws for a wrong place may be null -/
def sM (q av : Nat) (ff : Option Nat) (n : Nat) (tx : Nat → Nat) (A : Nat → Prop) (U : State) (H : Heap) : Prop :=
  va_O "java/lang/String" q A U H ∧ va_OF "java/lang/String" "coder" "B" (.int 0) q A U H ∧ va_OF "java/lang/String" "value" "[B" (.ref av) q A U H ∧ va_T .byte av n (fun j => .int (nI (tx j))) A U H ∧ va_Z "java/lang/String" "COMPACT_STRINGS" "Z" (.int 1) A U H ∧ va_Z "jdk/internal/util/Preconditions" "SIOOBE_FORMATTER" "Ljava/util/function/BiFunction;" (va_rf ff) A U H
section SK
variable {q av n : Nat} {ff : Option Nat} {tx : Nat → Nat} {A : Nat → Prop} {u U s : State} {H H1 : Heap} {locs : List Loc}
theorem sM.moved (hvm : u.vm.Alike U.vm) (h : sM q av ff n tx A u H) : sM q av ff n tx A U H :=
  ⟨va_O.moved hvm h.1, va_OF.moved hvm h.2.1, va_OF.moved hvm h.2.2.1, va_T.moved hvm h.2.2.2.1, va_Z.moved hvm h.2.2.2.2.1, va_Z.moved hvm h.2.2.2.2.2⟩
theorem sM.kept (h : sM q av ff n tx A U H) (hq : ∀ a : Nat, a < H.size → ¬ A a → H1[a]? = H[a]?) : sM q av ff n tx A U H1 :=
  ⟨h.1.kept hq, h.2.1.kept hq, h.2.2.1.kept hq, h.2.2.2.1.kept hq, h.2.2.2.2.1.kept hq, h.2.2.2.2.2.kept hq⟩
theorem sM.fresh (h : sM q av ff n tx A U H) : sM q av ff n tx (va_A [] H.size) U H := by
  obtain ⟨⟨c1, a1, a2, a3, -⟩, ⟨cf2, k2, i2, f2, c2, b1, b2, b3, b4, b5, -⟩, ⟨cf3, k3, i3, f3, c3, d1, d2, d3, d4, d5, -⟩, ⟨c4, e1, e2, e3, e4, e5, e6, -⟩, ⟨cf5, k5, i5, f5, a5, c5, g1, g2, g3, g4, g5, g6, g7, -⟩, ⟨cf6, k6, i6, f6, a6, c6, h1, h2, h3, h4, h5, h6, h7, -⟩⟩ := h
  exact ⟨⟨c1, a1, a2, a3, va_A_nil a1⟩, ⟨cf2, k2, i2, f2, c2, b1, b2, b3, b4, b5, va_A_nil b3⟩, ⟨cf3, k3, i3, f3, c3, d1, d2, d3, d4, d5, va_A_nil d3⟩, ⟨c4, e1, e2, e3, e4, e5, e6, va_A_nil e1⟩, ⟨cf5, k5, i5, f5, a5, c5, g1, g2, g3, g4, g5, g6, g7, va_A_nil g5⟩, ⟨cf6, k6, i6, f6, a6, c6, h1, h2, h3, h4, h5, h6, h7, va_A_nil h5⟩⟩
theorem sM.at (h : sM q av ff n tx A s s.heap) (hS : va_S A s.heap H locs) : ∀ U : State, U.heap = H → s.vm.Alike U.vm → sM q av ff n tx (va_A [] U.heap.size) U U.heap := fun U hU hv => by
  rw [hU]
  exact ((h.kept hS.2.1).fresh).moved hv
theorem sM.recv (h : sM q av ff n tx A s s.heap) (hS : va_S A s.heap H locs) : ∃ cell : Cell, H[q]? = some cell ∧ cell.vm.isStatics = false ∧ s.vm.findClass "java/lang/String" = some cell.cls := by
  obtain ⟨cell, h1, h2, h3, -⟩ := h.1.kept hS.2.1
  exact ⟨cell, h1, h2, h3⟩
end SK
/-- what such a method asks of the start -/
abbrev sN (q av : Nat) (ff : Option Nat) (n : Nat) (tx : Nat → Nat) : State → Prop := fun U => sM q av ff n tx (va_A [] U.heap.size) U U.heap
theorem sN_blind {q av n : Nat} {ff : Option Nat} {tx : Nat → Nat} : ∀ (a : Array Value) (U : State) (g : JFrame) (mk : MethodId), sN q av ff n tx U → sN q av ff n tx (U.calling g mk a) := fun a U g mk h => sM.moved (u := U) (U := U.calling g mk a) (Vm.Alike.refl U.vm) h
theorem k_K3_ref (l : Launch) (i n ff : Nat) (hi : i < n) (hn : n < 2147483648) : CS l yJ3_checkIndex_8e157 wsJ3_checkIndex_8e157 rmJ0 [.int (nI i), .int (nI n), .ref ff] (fun _ => True) (nI i) := by
  refine cs_intro (by decide) rfl (Nat.le_of_ble_eq_true rfl) ?_
  intro p e s m args below meth c ls QF hF hX hS hA hl hret
  obtain ⟨hx, hb, hml, hown, hts⟩ := id hF
  have hl : lv_has ls 3 [(0, .int (nI i)), (1, .int (nI n)), (2, .ref ff)] := hl
  refine lv_iload_n (pc := 0) hx hb dJ3_checkIndex_8e157_0 rfl (lv_at hl 0 rfl) ?_
  refine r0_lt (pc := 1) (tgt := 9) hx hb (tI_nI (by omega)) dJ3_checkIndex_8e157_1 (by decide) (fun c1 => (by omega)) (fun c1 => ?_)
  refine lv_iload_n (pc := 4) hx hb dJ3_checkIndex_8e157_4 rfl (lv_at hl 0 rfl) ?_
  refine lv_iload_n (pc := 5) hx hb dJ3_checkIndex_8e157_5 rfl (lv_at hl 1 rfl) ?_
  refine rc_lt (pc := 6) (tgt := 16) hx hb (tI_nI (by omega)) (tI_nI (by omega)) dJ3_checkIndex_8e157_6 (by decide) (fun c6 => ?_) (fun c6 => (by omega))
  refine lv_iload_n (pc := 16) hx hb dJ3_checkIndex_8e157_16 rfl (lv_at hl 0 rfl) ?_
  exact hret 17 hS dJ3_checkIndex_8e157_17 rfl rfl
theorem k_K3_null (l : Launch) (i n : Nat) (hi : i < n) (hn : n < 2147483648) : CS l yJ3_checkIndex_8e157 wsJ3_checkIndex_8e157 rmJ0 [.int (nI i), .int (nI n), .null] (fun _ => True) (nI i) := by
  refine cs_intro (by decide) rfl (Nat.le_of_ble_eq_true rfl) ?_
  intro p e s m args below meth c ls QF hF hX hS hA hl hret
  obtain ⟨hx, hb, hml, hown, hts⟩ := id hF
  have hl : lv_has ls 3 [(0, .int (nI i)), (1, .int (nI n)), (2, .null)] := hl
  refine lv_iload_n (pc := 0) hx hb dJ3_checkIndex_8e157_0 rfl (lv_at hl 0 rfl) ?_
  refine r0_lt (pc := 1) (tgt := 9) hx hb (tI_nI (by omega)) dJ3_checkIndex_8e157_1 (by decide) (fun c1 => (by omega)) (fun c1 => ?_)
  refine lv_iload_n (pc := 4) hx hb dJ3_checkIndex_8e157_4 rfl (lv_at hl 0 rfl) ?_
  refine lv_iload_n (pc := 5) hx hb dJ3_checkIndex_8e157_5 rfl (lv_at hl 1 rfl) ?_
  refine rc_lt (pc := 6) (tgt := 16) hx hb (tI_nI (by omega)) (tI_nI (by omega)) dJ3_checkIndex_8e157_6 (by decide) (fun c6 => ?_) (fun c6 => (by omega))
  refine lv_iload_n (pc := 16) hx hb dJ3_checkIndex_8e157_16 rfl (lv_at hl 0 rfl) ?_
  exact hret 17 hS dJ3_checkIndex_8e157_17 rfl rfl
theorem k_K3_checkIndex (l : Launch) (i n : Nat) (ff : Option Nat) (hi : i < n) (hn : n < 2147483648) : CS l yJ3_checkIndex_8e157 wsJ3_checkIndex_8e157 rmJ0 [.int (nI i), .int (nI n), va_rf ff] (fun _ => True) (nI i) := by
  cases ff with
  | none => exact k_K3_null l i n hi hn
  | some f => exact k_K3_ref l i n f hi hn
theorem k_K0_checkIndex (l : Launch) (q av : Nat) (ff : Option Nat) (k : Nat) (tx : Nat → Nat) (i n : Nat) (hi : i < n) (hn : n < 2147483648) : CSV l yJ0_checkIndex_df160 wsJ0_checkIndex_df160 rmJ1 [.int (nI i), .int (nI n)] (sN q av ff k tx) := by
  refine csv_intro (by decide) rfl (Nat.le_of_ble_eq_true rfl) ?_
  intro p e s m args below meth c ls QF hF hX hS hA hl hret
  obtain ⟨hx, hb, hml, hown, hts⟩ := id hF
  have hl : lv_has ls 2 [(0, .int (nI i)), (1, .int (nI n))] := hl
  refine lv_iload_n (pc := 0) hx hb dJ0_checkIndex_df160_0 rfl (lv_at hl 0 rfl) ?_
  refine lv_iload_n (pc := 1) hx hb dJ0_checkIndex_df160_1 rfl (lv_at hl 1 rfl) ?_
  refine va_gets (pc := 2) hx hb hX.2.2.2.2.2 hS hown (hts (.fieldLink RJ0 1053 "jdk/internal/util/Preconditions" "SIOOBE_FORMATTER" "Ljava/util/function/BiFunction;") (by decide +kernel)) (fun _ h9 => h9) dJ0_checkIndex_df160_2 ?_
  refine cs_S (pc := 5) (rest := []) hF hS hA (k_K3_checkIndex l i n ff hi hn) (fun _ _ _ => trivial) (fun _ _ _ _ _ => trivial) (va_cwS 3 hts gJ0_checkIndex_df160_J3_checkIndex_8e157 rfl rfl rfl (by decide +kernel) ⟨Nat.le_of_ble_eq_true rfl, Nat.le_of_ble_eq_true rfl⟩) rfl hl.1 rfl (Nat.le_of_ble_eq_true rfl) dJ0_checkIndex_df160_5 ⟨Nat.le_refl _, Nat.le_refl _⟩ (fun H1 locs1 _ _ hS => ?_)
  refine lv_pop (pc := 8) hx hb dJ0_checkIndex_df160_8 rfl ?_
  exact hret 9 hS dJ0_checkIndex_df160_9
theorem k_K1_charAt (l : Launch) (q av : Nat) (ff : Option Nat) (n : Nat) (tx : Nat → Nat) (i : Nat) (hi : i < n) (hn : n < 2147483648) (htx : tx i < 128) : CS l yJ1_charAt_3b067 wsJ1_charAt_3b067 rmJ2 [.ref av, .int (nI i)] (sN q av ff n tx) (nI (tx i)) := by
  refine cs_intro (by decide) rfl (Nat.le_of_ble_eq_true rfl) ?_
  intro p e s m args below meth c ls QF hF hX hS hA hl hret
  obtain ⟨hx, hb, hml, hown, hts⟩ := id hF
  have hl : lv_has ls 2 [(0, .ref av), (1, .int (nI i))] := hl
  refine lv_iload_n (pc := 0) hx hb dJ1_charAt_3b067_0 rfl (lv_at hl 1 rfl) ?_
  refine lv_aload_n (pc := 1) hx hb dJ1_charAt_3b067_1 rfl (lv_at hl 0 rfl) ?_
  refine va_tlen (pc := 2) (v := nI n) hx hb hX.2.2.2.1 hS rfl dJ1_charAt_3b067_2 ?_
  refine csv_S (pc := 3) (rest := []) hF hS hA (k_K0_checkIndex l q av ff n tx i n hi hn) (hX.at hS) sN_blind (va_cwS 2 hts gJ1_charAt_3b067_J0_checkIndex_df160 rfl rfl rfl (by decide +kernel) ⟨Nat.le_of_ble_eq_true rfl, Nat.le_of_ble_eq_true rfl⟩) rfl hl.1 rfl (Nat.le_of_ble_eq_true rfl) dJ1_charAt_3b067_3 ⟨Nat.le_refl _, Nat.le_refl _⟩ (fun H1 locs1 _ _ hS => ?_)
  refine lv_aload_n (pc := 6) hx hb dJ1_charAt_3b067_6 rfl (lv_at hl 0 rfl) ?_
  refine lv_iload_n (pc := 7) hx hb dJ1_charAt_3b067_7 rfl (lv_at hl 1 rfl) ?_
  refine va_tb (pc := 8) (v := .int (nI (tx i))) hx hb hX.2.2.2.1 hS (nI_vp hi hn) (by rw [nI_cl (by omega)]) dJ1_charAt_3b067_8 ?_
  refine lv_sipush (pc := 9) (v := nI 255) hx hb dJ1_charAt_3b067_9 (by decide) ?_
  refine lv_iand (pc := 12) hx hb dJ1_charAt_3b067_12 ?_
  refine r_top (show _ = nI (tx i) from by rw [nI_and, show (255 : Nat) = 2 ^ 8 - 1 from rfl, Nat.and_two_pow_sub_one_eq_mod, Nat.mod_eq_of_lt (show tx i < 2 ^ 8 by omega)]) ?_
  refine lv_i2c (pc := 13) hx hb dJ1_charAt_3b067_13 (i2c_n (show tx i < 65536 by omega)) ?_
  exact hret 14 hS dJ1_charAt_3b067_14 (nar_c (by omega)) rfl
theorem k_K0_coder (l : Launch) (q av : Nat) (ff : Option Nat) (n : Nat) (tx : Nat → Nat) : CS l yJ0_coder_7d493 wsJ0_coder_7d493 rmJ0 [.ref q] (sN q av ff n tx) (nI 0) := by
  refine cs_intro (by decide) rfl (Nat.le_of_ble_eq_true rfl) ?_
  intro p e s m args below meth c ls QF hF hX hS hA hl hret
  obtain ⟨hx, hb, hml, hown, hts⟩ := id hF
  have hl : lv_has ls 1 [(0, .ref q)] := hl
  refine va_gets (pc := 0) hx hb hX.2.2.2.2.1 hS hown (hts (.fieldLink RJ0 38 "java/lang/String" "COMPACT_STRINGS" "Z") (by decide +kernel)) (fun _ h9 => h9) dJ0_coder_7d493_0 ?_
  refine r0_eq (pc := 3) (tgt := 13) hx hb (show (1 : Int32).toInt = 1 by decide) dJ0_coder_7d493_3 (by decide) (fun c3 => (by omega)) (fun c3 => ?_)
  refine lv_aload_n (pc := 6) hx hb dJ0_coder_7d493_6 rfl (lv_at hl 0 rfl) ?_
  refine vk_getf (pc := 7) hx hb hX.2.1 hS hown (hts (.fieldLink RJ0 15 "java/lang/String" "coder" "B") (by decide +kernel)) (fun _ h9 => h9) dJ0_coder_7d493_7 ?_
  refine lv_goto (pc := 10) (tgt := 14) hx hb dJ0_coder_7d493_10 (by decide) ?_
  exact hret 14 hS dJ0_coder_7d493_14 rfl rfl
theorem k_K0_isLatin1 (l : Launch) (q av : Nat) (ff : Option Nat) (n : Nat) (tx : Nat → Nat) : CS l yJ0_isLatin1_aae02 wsJ0_isLatin1_aae02 rmJ0 [.ref q] (sN q av ff n tx) (nI 1) := by
  refine cs_intro (by decide) rfl (Nat.le_of_ble_eq_true rfl) ?_
  intro p e s m args below meth c ls QF hF hX hS hA hl hret
  obtain ⟨hx, hb, hml, hown, hts⟩ := id hF
  have hl : lv_has ls 1 [(0, .ref q)] := hl
  refine va_gets (pc := 0) hx hb hX.2.2.2.2.1 hS hown (hts (.fieldLink RJ0 38 "java/lang/String" "COMPACT_STRINGS" "Z") (by decide +kernel)) (fun _ h9 => h9) dJ0_isLatin1_aae02_0 ?_
  refine r0_eq (pc := 3) (tgt := 17) hx hb (show (1 : Int32).toInt = 1 by decide) dJ0_isLatin1_aae02_3 (by decide) (fun c3 => (by omega)) (fun c3 => ?_)
  refine lv_aload_n (pc := 6) hx hb dJ0_isLatin1_aae02_6 rfl (lv_at hl 0 rfl) ?_
  refine vk_getf (pc := 7) hx hb hX.2.1 hS hown (hts (.fieldLink RJ0 15 "java/lang/String" "coder" "B") (by decide +kernel)) (fun _ h9 => h9) dJ0_isLatin1_aae02_7 ?_
  refine r0_ne (pc := 10) (tgt := 17) hx hb (show (0 : Int32).toInt = 0 by decide) dJ0_isLatin1_aae02_10 (by decide) (fun c10 => (by omega)) (fun c10 => ?_)
  refine lv_iconst (pc := 13) (v := nI 1) hx hb dJ0_isLatin1_aae02_13 (by decide) ?_
  refine lv_goto (pc := 14) (tgt := 18) hx hb dJ0_isLatin1_aae02_14 (by decide) ?_
  exact hret 18 hS dJ0_isLatin1_aae02_18 rfl rfl
theorem k_K0_length (l : Launch) (q av : Nat) (ff : Option Nat) (n : Nat) (tx : Nat → Nat) (hn : n < 2147483648) : CS l yJ0_length_8abf5 wsJ0_length_8abf5 rmJ1 [.ref q] (sN q av ff n tx) (nI n) := by
  refine cs_intro (by decide) rfl (Nat.le_of_ble_eq_true rfl) ?_
  intro p e s m args below meth c ls QF hF hX hS hA hl hret
  obtain ⟨hx, hb, hml, hown, hts⟩ := id hF
  have hl : lv_has ls 1 [(0, .ref q)] := hl
  refine lv_aload_n (pc := 0) hx hb dJ0_length_8abf5_0 rfl (lv_at hl 0 rfl) ?_
  refine vk_getf (pc := 1) hx hb hX.2.2.1 hS hown (hts (.fieldLink RJ0 9 "java/lang/String" "value" "[B") (by decide +kernel)) (fun _ h9 => h9) dJ0_length_8abf5_1 ?_
  refine va_tlen (pc := 4) (v := nI n) hx hb hX.2.2.2.1 hS rfl dJ0_length_8abf5_4 ?_
  refine lv_aload_n (pc := 5) hx hb dJ0_length_8abf5_5 rfl (lv_at hl 0 rfl) ?_
  refine cs_V (pc := 6) (As := []) (rest := [.int (nI n)]) hF hS hA (k_K0_coder l q av ff n tx) (hX.at hS) sN_blind (cwV 0 hts gJ0_length_8abf5_J0_coder_7d493 rfl rfl rfl (by decide +kernel) ⟨Nat.le_of_ble_eq_true rfl, Nat.le_of_ble_eq_true rfl⟩) (hX.recv hS) rfl hl.1 rfl (Nat.le_of_ble_eq_true rfl) dJ0_length_8abf5_6 ⟨Nat.le_refl _, Nat.le_refl _⟩ (fun H1 locs1 _ _ hS => ?_)
  refine lv_ishr (pc := 9) hx hb dJ0_length_8abf5_9 ?_
  refine r_top (nI_shr (by omega) (by omega)) ?_
  exact hret 10 hS dJ0_length_8abf5_10 rfl (by rw [Nat.pow_zero, Nat.div_one])
theorem k_K0_charAt (l : Launch) (q av : Nat) (ff : Option Nat) (n : Nat) (tx : Nat → Nat) (i : Nat) (hi : i < n) (hn : n < 2147483648) (htx : tx i < 128) : CS l yJ0_charAt_5068e wsJ0_charAt_5068e rmJ3 [.ref q, .int (nI i)] (sN q av ff n tx) (nI (tx i)) := by
  refine cs_intro (by decide) rfl (Nat.le_of_ble_eq_true rfl) ?_
  intro p e s m args below meth c ls QF hF hX hS hA hl hret
  obtain ⟨hx, hb, hml, hown, hts⟩ := id hF
  have hl : lv_has ls 2 [(0, .ref q), (1, .int (nI i))] := hl
  refine lv_aload_n (pc := 0) hx hb dJ0_charAt_5068e_0 rfl (lv_at hl 0 rfl) ?_
  refine cs_V (pc := 1) (As := []) (rest := []) hF hS hA (k_K0_isLatin1 l q av ff n tx) (hX.at hS) sN_blind (cwV 0 hts gJ0_charAt_5068e_J0_isLatin1_aae02 rfl rfl rfl (by decide +kernel) ⟨Nat.le_of_ble_eq_true rfl, Nat.le_of_ble_eq_true rfl⟩) (hX.recv hS) rfl hl.1 rfl (Nat.le_of_ble_eq_true rfl) dJ0_charAt_5068e_1 ⟨Nat.le_refl _, Nat.le_refl _⟩ (fun H1 locs1 _ _ hS => ?_)
  refine r0_eq (pc := 4) (tgt := 16) hx hb (tI_nI (by omega)) dJ0_charAt_5068e_4 (by decide) (fun c4 => (by omega)) (fun c4 => ?_)
  refine lv_aload_n (pc := 7) hx hb dJ0_charAt_5068e_7 rfl (lv_at hl 0 rfl) ?_
  refine vk_getf (pc := 8) hx hb hX.2.2.1 hS hown (hts (.fieldLink RJ0 9 "java/lang/String" "value" "[B") (by decide +kernel)) (fun _ h9 => h9) dJ0_charAt_5068e_8 ?_
  refine lv_iload_n (pc := 11) hx hb dJ0_charAt_5068e_11 rfl (lv_at hl 1 rfl) ?_
  refine cs_S (pc := 12) (rest := []) hF hS hA (k_K1_charAt l q av ff n tx i hi hn htx) (hX.at hS) sN_blind (va_cwS 2 hts gJ0_charAt_5068e_J1_charAt_3b067 rfl rfl rfl (by decide +kernel) ⟨Nat.le_of_ble_eq_true rfl, Nat.le_of_ble_eq_true rfl⟩) rfl hl.1 rfl (Nat.le_of_ble_eq_true rfl) dJ0_charAt_5068e_12 ⟨Nat.le_refl _, Nat.le_refl _⟩ (fun H1 locs1 _ _ hS => ?_)
  exact hret 15 hS dJ0_charAt_5068e_15 (nar_c (by omega)) rfl
theorem sM.narrow {q av n : Nat} {ff : Option Nat} {tx : Nat → Nat} {A B : Nat → Prop} {U : State} {H : Heap} (h : sM q av ff n tx A U H) (hAB : ∀ a, B a → A a) : sM q av ff n tx B U H :=
  ⟨h.1.narrow hAB, h.2.1.narrow hAB, h.2.2.1.narrow hAB, h.2.2.2.1.narrow hAB, h.2.2.2.2.1.narrow hAB, h.2.2.2.2.2.narrow hAB⟩
/-- the class's own constructor: it reads its string -/
def CM (l : Launch) (D : va_G) (tys : List (ClassId × FieldType)) (y : MethodName) (w : List Cond) (rm : Room) (mc ms : Nat) (av : List Value) (ws : va_W) (sq sv : Nat) (ff : Option Nat) (Q : va_W → Prop) : Prop :=
  ∀ sz, Met l y w rm (va_Pc av (fun U => cPre D tys ws sz U ∧ va_AO RX8 U ∧ sM sq sv ff 99 tx0 (va_A ws sz) U U.heap ∧ vk_R RX9 83 txt0 sq U)) (va_Qv (fun (u : va_W) => Q u) (fun u t => va_P D vwCl u t.heap ∧ va_D (va_A ws sz) u) (va_A ws sz)) mc ms (va_A ws sz)
theorem cm_intro {l : Launch} {D : va_G} {tys : List (ClassId × FieldType)} {y : MethodName} {w w' : List Cond} {rm : Room} {mc ms : Nat} {av : List Value} {ws : va_W} {sq sv : Nat} {ff : Option Nat} {Q : va_W → Prop} {cc : ByteArray} {maxL : Nat}
    (hy : plainName y.cls = true) (hyn : y.name = "<init>") (hw : w = Cond.code y cc maxL none :: w') (hav : (lg_sl av).length ≤ maxL)
    (body : ∀ (p : Program) (e : Env) (s : State) (m : MethodId) (args : Array Value) (below : List Frame) (meth : Method) (c : Code) (ls : Array Slot) (A : Nat → Prop) (QF : State → Prop),
      mFacts p s m args c cc maxL w y.cls → meth.name = "<init>" → va_K D vwCl tys s → va_P D vwCl ws s.heap → va_D A ws → va_S A s.heap s.heap [] → (∀ q, s.heap.size ≤ q → A q) → nestOK s → va_AO RX8 s → sM sq sv ff 99 tx0 A s s.heap → vk_R RX9 83 txt0 sq s → lv_has ls maxL (lv_args 0 av) →
      (∀ {H : Heap} {locs : List Loc} {ls1 : Array Slot} (pc : Nat) (u : va_W), va_P D vwCl u H → va_D A u → va_S A s.heap H locs → decode cc pc = .ok (.return_, 1) → Q u → W p l e rm s m args below meth c H locs mc ms QF (F0 m pc ls1 [])) →
      W p l e rm s m args below meth c s.heap [] 0 0 QF (F0 m 0 ls [])) : CM l D tys y w rm mc ms av ws sq sv ff Q := by
  intro sz
  refine Met.ofW (cc := cc) (maxL := maxL) (ret := none) hy hw ?_
  intro p e s m args below meth c s₁ B hml hv
  obtain ⟨rfl, ⟨hsz, hP, hK, hD0, hN⟩, hO, hsK, hZs⟩ := hv
  have hx := B.exec
  have hb := B.bytes
  have hr := B.returns
  have hts := atoms_spec (ws := w) B.pre
  have hown : s.vm.findClass y.cls = some m.cls := findClass_of_methodNamed B.named
  have hlocks := B.notSynchronized
  have hin : meth.name = "<init>" := (name_of_methodNamed B.named B.method).1.trans hyn
  subst hsz
  have hD := hD0.self (sz := s.heap.size)
  have hl := lv_entry av (n := maxL) hav
  rw [lg_entry_eq]
  generalize (lg_sl av ++ List.replicate (maxL - (lg_sl av).length) Slot.unset).toArray = ls at hl ⊢
  refine body p e s m _ below meth c ls (va_A ws s.heap.size) _ ⟨hx, hb, hml, hown, hts⟩ hin hK hP hD va_S.rf (fun q h => Or.inr h) hN hO hsK hZs hl ?_
  intro H locs ls1 pc u hPu hDu hS hdg hq
  exact W.vret hx hb hr (fun t ht hW => ⟨⟨u, rfl, hq, by rw [ht]; exact hPu, hDu⟩, hS.F ht⟩) hS.2.2 hdg
theorem cm_blind {D : va_G} {tys : List (ClassId × FieldType)} {ws : va_W} {sz sq sv : Nat} {ff : Option Nat} {av : List Value} : FrameBlind (va_Pc av (fun U => cPre D tys ws sz U ∧ va_AO RX8 U ∧ sM sq sv ff 99 tx0 (va_A ws sz) U U.heap ∧ vk_R RX9 83 txt0 sq U)) := fun a U g mk q => by
  obtain ⟨q0, ⟨q1, qP, qK, qD, qN⟩, qO, qS, qZ⟩ := q
  exact ⟨q0, ⟨q1, qP, va_K.moved (u := U) (U := U.calling g mk a) (Vm.Alike.refl U.vm) qK, qD, qN.calling⟩, va_AO.moved (u := U) (U := U.calling g mk a) (Vm.Alike.refl U.vm) qO, sM.moved (u := U) (U := U.calling g mk a) (Vm.Alike.refl U.vm) qS, vk_R.same rfl qZ⟩
section CXI
variable {p : Program} {l : Launch} {e : Env} {R : Room} {s : State} {m : MethodId} {args : Array Value} {below : List Frame} {meth : Method} {c : Code} {H : Heap} {locs : List Loc} {cells slots mc ms : Nat} {Q : State → Prop} {A : Nat → Prop} {D : va_G} {tys : List (ClassId × FieldType)} {ws wr wc : va_W} {cc : ByteArray} {nL pc : Nat} {ls : Array Slot} {rest st0 : List Value} {own : String} {index maxL n : Nat} {bytes : ByteArray} {Ts w : List Cond} {rm : Room} {y : MethodName} {As : List Value} {b sq sv : Nat} {ff : Option Nat}
theorem cm_I (F : CallFix p m c cc nL s args Ts own) (hN : nestOK s) (hO : va_AO RX8 s) (hsK : sM sq sv ff 99 tx0 A s s.heap) (hZs : vk_R RX9 83 txt0 sq s) (hK : va_K D vwCl tys s) (hP : va_P D vwCl ws H) (hD : va_D A ws) (hS : va_S A s.heap H locs) (hA : ∀ q, s.heap.size ≤ q → A q)
    {Qc : va_W → Prop} (hM : CM l D tys y w rm mc ms (.ref b :: As) wc sq sv ff Qc) (cw : CallB R s args own index y bytes maxL none w rm mc ms n ∧ y.name = "<init>" ∧ (Cond.instanceMethod y).before args s = true)
    (hws : ws = wr ++ wc) (hnA : As.length = n) (hsz : ls.size = nL) (hst : st0 = As.reverse ++ .ref b :: rest) (hrest : (rest.map fun v => v.category).sum ≤ 8) (hdg : decode cc pc = .ok (.invokespecial index, 3)) (hf : cells + mc ≤ R.cells ∧ slots + ms ≤ R.slots)
    (kk : ∀ (u : va_W) (H1 : Heap) (locs1 : List Loc), Qc u → va_P D vwCl (wr ++ u) H1 → va_D A (wr ++ u) → va_S A s.heap H1 locs1 → W p l e R s m args below meth c H1 locs1 (cells + mc) (slots + ms) Q (F0 m (pc + 3) ls rest)) :
    W p l e R s m args below meth c H locs cells slots Q (F0 m pc ls st0) := by
  subst hws
  have hC : (List.range' wr.length wc.length).map (fun i => (wr ++ wc)[i]?) = wc.map some := by
    have := map_mid wr wc []
    rwa [List.append_nil] at this
  have hPc := cut_P hP hC
  have hDc := hD.sub _ (nd_range _ _) hC
  have hFc := va_free (wc := wc) hD hS hA _ hC
  refine va_callv (va_runI (As := As) (rest := rest) F (hM H.size) cw ⟨cm_blind, fun U hU hW => ⟨rfl, cut_pre hN hK hPc hDc hU hW, va_AO.moved hW.alike hO, by rw [hU]; exact ((hsK.kept hS.2.1).narrow hFc).moved hW.alike, hZs.warm hW⟩⟩ rfl hnA hsz hst (lv_room hrest) hdg hf) hS (fun q _ h => hFc q h) hFc (fun u t H1 locs1 ht hvm hw hB hz1 hk1 hS => ?_)
  rw [ht] at hB
  obtain ⟨h1, h2⟩ := cz_join (Qc := Qc) hP hD hFc hk1 hB.1 hB.2
  exact kk u H1 locs1 hw h1 h2 hS
end CXI
