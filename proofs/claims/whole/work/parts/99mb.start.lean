/-! what the start gives -/
theorem va_isr {args : Array Value} {s : State} {C n d : String} (h : (Cond.isRef (.static C n d)).before args s = true) : ∃ ff : Option Nat, (Term.static C n d).eval args s none [] s = some (va_rf ff) := by
  cases hv : (Term.static C n d).eval args s none [] s with
  | none => simp [Cond.before, Cond.holds, Cond.value, hv] at h
  | some w =>
    simp only [Cond.before, Cond.holds, Cond.value, hv] at h
    cases w with
    | null => exact ⟨none, rfl⟩
    | ref a => exact ⟨some a, rfl⟩
    | _ => simp at h
theorem st_arr {args : Array Value} {s : State} {ty : FieldType} (h : (Cond.arrayClass ty).before args s = true) : ∃ (cA : ClassId) (kA : Class) (comp : ClassId), s.vm.findClass ("[" ++ ty.toString) = some cA ∧ s.vm.classes[cA]? = some kA ∧ kA.kind = .array comp ty := by
  obtain ⟨cA, kA, comp, h1, h2, h3⟩ := Cond.arrayClass_spec h
  exact ⟨cA, kA, comp, h1, h2, h3⟩
theorem st_tys {args : Array Value} {s : State} (hts : ∀ w ∈ lw_tbl, w.before args s = true) : ∃ cI cC cB cS : ClassId, ∀ (k : Nat) (q : ClassId × FieldType), (kT cI cC cB cS)[k]? = some q → ArrOfT s q.1 q.2 ∧ va_RA s q.1 q.2 := by
  obtain ⟨cI, kI, oI, i1, i2, i3⟩ := st_arr (hts (.arrayClass .int) (by decide +kernel))
  obtain ⟨cC, kC, oC, c1, c2, c3⟩ := st_arr (hts (.arrayClass .char) (by decide +kernel))
  obtain ⟨cB, kB, oB, b1, b2, b3⟩ := st_arr (hts (.arrayClass .byte) (by decide +kernel))
  obtain ⟨comp, cS, kS, s1, s2, s3, s4, s5⟩ := Cond.arrayOver_spec (hts (.arrayOver (.object RX8)) (by decide +kernel))
  refine ⟨cI, cC, cB, cS, fun k q hq => ?_⟩
  match k, hq with
  | 0, hq => cases hq; exact ⟨fun n z => ⟨fun k h => (by cases h), kI, i2, oI, i3⟩, i1⟩
  | 1, hq => cases hq; exact ⟨fun n z => ⟨fun k h => (by cases h), kC, c2, oC, c3⟩, c1⟩
  | 2, hq => cases hq; exact ⟨fun n z => ⟨fun k h => (by cases h), kB, b2, oB, b3⟩, b1⟩
  | 3, hq => cases hq; exact ⟨fun n z => ⟨fun k h => (by cases h), kS, s3, comp, s4⟩, kS, comp, s3, s4, s1, s5⟩
  | k + 4, hq => simp [kT] at hq
theorem st_K {args : Array Value} {s : State} (hts : ∀ w ∈ lw_tbl, w.before args s = true) : ∃ (D : va_G) (cI cC cB cS : ClassId), va_K D vwCl (kT cI cC cB cS) s := by
  obtain ⟨cI, cC, cB, cS, hT⟩ := st_tys hts
  obtain ⟨c0, i0, h0⟩ := u_known (C := RX0) (T := TX0) (N := 2) (n := 2) hts inFX0 (hts (.instantiable RX0 2) (by decide +kernel))
  obtain ⟨c1, i1, h1⟩ := u_known (C := RX1) (T := TX1) (N := 2) (n := 2) hts inFX1 (hts (.instantiable RX1 2) (by decide +kernel))
  obtain ⟨c2, i2, h2⟩ := u_known (C := RX2) (T := TX2) (N := 7) (n := 7) hts inFX2 (hts (.instantiable RX2 7) (by decide +kernel))
  obtain ⟨c3, i3, h3⟩ := u_known (C := RX3) (T := TX3) (N := 3) (n := 3) hts inFX3 (hts (.instantiable RX3 3) (by decide +kernel))
  obtain ⟨c4, i4, h4⟩ := u_known (C := RX4) (T := TX4) (N := 3) (n := 3) hts inFX4 (hts (.instantiable RX4 3) (by decide +kernel))
  obtain ⟨c5, i5, h5⟩ := u_known (C := RX5) (T := TX5) (N := 2) (n := 2) hts inFX5 (hts (.instantiable RX5 2) (by decide +kernel))
  obtain ⟨c6, i6, h6⟩ := u_known (C := RX6) (T := TX6) (N := 3) (n := 3) hts inFX6 (hts (.instantiable RX6 3) (by decide +kernel))
  obtain ⟨c7, i7, h7⟩ := u_known (C := RX7) (T := TX7) (N := 2) (n := 2) hts inFX7 (hts (.instantiable RX7 2) (by decide +kernel))
  obtain ⟨c8, i8, h8⟩ := u_known (C := RX8) (T := TX8) (N := 5) (n := 5) hts inFX8 (hts (.instantiable RX8 5) (by decide +kernel))
  obtain ⟨c9, i9, h9⟩ := u_known (C := RX9) (T := TX9) (N := 12) (n := 12) hts inFX9 (hts (.instantiable RX9 12) (by decide +kernel))
  obtain ⟨c10, i10, h10⟩ := u_known (C := RX10) (T := TX10) (N := 44) (n := 44) hts inFX10 (hts (.instantiable RX10 44) (by decide +kernel))
  refine ⟨(fun k => match k with | 0 => c0 | 1 => c1 | 2 => c2 | 3 => c3 | 4 => c4 | 5 => c5 | 6 => c6 | 7 => c7 | 8 => c8 | 9 => c9 | _ => c10, fun k => match k with | 0 => i0 | 1 => i1 | 2 => i2 | 3 => i3 | 4 => i4 | 5 => i5 | 6 => i6 | 7 => i7 | 8 => i8 | 9 => i9 | _ => i10), cI, cC, cB, cS, fun k q hq => ?_, hT⟩
  match k, hq with
  | 0, hq => cases hq; exact h0
  | 1, hq => cases hq; exact h1
  | 2, hq => cases hq; exact h2
  | 3, hq => cases hq; exact h3
  | 4, hq => cases hq; exact h4
  | 5, hq => cases hq; exact h5
  | 6, hq => cases hq; exact h6
  | 7, hq => cases hq; exact h7
  | 8, hq => cases hq; exact h8
  | 9, hq => cases hq; exact h9
  | 10, hq => cases hq; exact h10
  | k + 11, hq => simp [vwCl] at hq
theorem st_nest {args : Array Value} {s : State} (hts : ∀ w ∈ lw_tbl, w.before args s = true) : nestOK s := fun q hq =>
  va_Nw.of rfl (hts _ ((by decide +kernel : ∀ q ∈ kNest, Cond.methodLinkNest q.1 q.2.1 q.2.2.1 q.2.2.2 ∈ lw_tbl) q hq))
theorem st_sK {b : Nat} {s : State} (hts : ∀ w ∈ lw_tbl, w.before #[Value.ref b] s = true) (hgv : (Jvm.Cond.and given_1 narrow_1).before #[Value.ref b] s = true) : ∃ (sq sv : Nat) (ff : Option Nat), sM sq sv ff 99 tx0 (fun q : Nat => s.heap.size ≤ q) s s.heap ∧ vk_R RX9 83 txt0 sq s := by
  have hs := flat_of_before _ hgv
  have hA : ∀ a : Nat, a < s.heap.size → ¬ (fun q : Nat => s.heap.size ≤ q) a := fun a h => Nat.not_le.mpr h
  have hex : (Cond.exactly (.string "RemorseWall" 83) "java/lang/String").before #[Value.ref b] s = true := hs _ (by decide +kernel)
  obtain ⟨sq, c, cA, kA, q1, q2, q3, q4, q5, q6, -⟩ := Cond.exactly_spec (args := #[Value.ref b]) (first := s) (o := none) (s := s) (idx := []) (t := .string "RemorseWall" 83) (cls := "java/lang/String") hex
  have hO : va_O "java/lang/String" sq (fun q : Nat => s.heap.size ≤ q) s s.heap := ⟨cA, q3, q5, by rw [q6]; exact q2, hA sq (Array.getElem?_eq_some_iff.mp q3).1⟩
  have hco := hs (Cond.eq (.field (.string "RemorseWall" 83) "java/lang/String" "coder" "B") (.int 0)) (by decide +kernel)
  have har := hs (Cond.arrayOf (.field (.string "RemorseWall" 83) "java/lang/String" "value" "[B") .byte) (by decide +kernel)
  have hle := hs (Cond.eq (.length (.field (.string "RemorseWall" 83) "java/lang/String" "value" "[B")) (.int (Int32.ofNat 99))) (by decide +kernel)
  have hel : ∀ j : Nat, j < 99 → (Cond.eq (.elem (.field (.string "RemorseWall" 83) "java/lang/String" "value" "[B") (.int (Int32.ofNat j))) (.int (nI (tx0 j)))).before #[Value.ref b] s = true := fun j hj =>
    hs _ ((by decide +kernel : ∀ j : Nat, j < 99 → Cond.eq (.elem (.field (.string "RemorseWall" 83) "java/lang/String" "value" "[B") (.int (Int32.ofNat j))) (.int (nI (tx0 j))) ∈ _) j hj)
  obtain ⟨sv, ht, hT⟩ := va_Tof (f := fun j => .int (nI (tx0 j))) (A := (fun q : Nat => s.heap.size ≤ q)) (by decide) har (va_eqt hle) (fun j hj => va_eqt (hel j hj)) hA
  obtain ⟨ff, hff⟩ := va_isr (hs (Cond.isRef (.static "jdk/internal/util/Preconditions" "SIOOBE_FORMATTER" "Ljava/util/function/BiFunction;")) (by decide +kernel))
  have hcs := va_eqi (hs (Cond.eq (.static "java/lang/String" "COMPACT_STRINGS" "Z") (.int 1)) (by decide +kernel))
  exact ⟨sq, sv, ff, ⟨hO, vk_OFof q1 (va_eqt hco) hA, vk_OFof q1 ht hA, hT, va_Zof (hts (.laysStatic "java/lang/String" "COMPACT_STRINGS" "Z") (by decide +kernel)) (hts (.initialized "java/lang/String") (by decide +kernel)) hcs hA,
    va_Zof (hts (.laysStatic "jdk/internal/util/Preconditions" "SIOOBE_FORMATTER" "Ljava/util/function/BiFunction;") (by decide +kernel)) (hts (.initialized "jdk/internal/util/Preconditions") (by decide +kernel)) hff hA⟩, vk_R.of (hts (.stringRef RX9 83 txt0) (by decide +kernel)) q1⟩
