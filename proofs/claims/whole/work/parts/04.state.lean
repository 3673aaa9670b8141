/-! states, and the cells that hold them -/
abbrev kT (cI cC cB cS : ClassId) : List (ClassId × FieldType) := [(cI, .int), (cC, .char), (cB, .byte), (cS, .object RX8)]
/-- a standing: high, left, place, pardoned, year -/
abbrev ST : Type := (Nat → Nat) × (Nat → Nat) × (Nat → Nat) × Nat × Nat
/-- a plan: firstHigh, cases, maids, width, rows, caseCount, maidCount -/
abbrev PL : Type := (Nat → Nat) × (Nat → Nat) × (Nat → Nat) × Nat × Nat × Nat × Nat
abbrev LT : Type := (Nat → Nat) × Nat
abbrev RD : Type := (Nat → Nat) × (Nat → Nat) × Nat
abbrev SG : Type := (Nat → Nat) × (Nat → Nat) × Nat
abbrev SM : Type := (Nat → Int) × (Nat → Nat)
abbrev RO : Type := (Nat → Nat) × (Nat → Nat) × Int
abbrev SE : Type := (Nat → Int) × (Nat → Int)
abbrev stW (a0 a1 a2 a3 : Nat) (cI : ClassId) (S : ST) : va_W := [(a0, .inr (8, [.ref a1, .ref a2, .ref a3, .int (nI S.2.2.2.1), .int (nI S.2.2.2.2)])), (a1, .inl (cI, 24, .inl (fun j => nI (S.1 j)))), (a2, .inl (cI, 3, .inl (fun j => nI (S.2.1 j)))), (a3, .inl (cI, 3, .inl (fun j => nI (S.2.2.1 j))))]
abbrev plW (a0 a1 a2 a3 : Nat) (cI : ClassId) (P : PL) : va_W := [(a0, .inr (2, [.ref a1, .ref a2, .ref a3, .int (nI P.2.2.2.1), .int (nI P.2.2.2.2.1), .int (nI P.2.2.2.2.2.1), .int (nI P.2.2.2.2.2.2)])), (a1, .inl (cI, 24, .inl (fun j => nI (P.1 j)))), (a2, .inl (cI, 24, .inl (fun j => nI (P.2.1 j)))), (a3, .inl (cI, 12, .inl (fun j => nI (P.2.2.1 j))))]
abbrev ltW (a0 a1 : Nat) (cC : ClassId) (T : LT) : va_W := [(a0, .inr (0, [.ref a1, .int (nI T.2)])), (a1, .inl (cC, 200, .inl (fun j => nI (T.1 j))))]
abbrev rdW (a0 a1 a2 : Nat) (cI : ClassId) (T : RD) : va_W := [(a0, .inr (3, [.ref a1, .ref a2, .int (nI T.2.2)])), (a1, .inl (cI, 4, .inl (fun j => nI (T.1 j)))), (a2, .inl (cI, 6, .inl (fun j => nI (T.2.1 j))))]
abbrev sgW (a0 a1 a2 : Nat) (cI : ClassId) (T : SG) : va_W := [(a0, .inr (6, [.ref a1, .ref a2, .int (nI T.2.2)])), (a1, .inl (cI, 8, .inl (fun j => nI (T.1 j)))), (a2, .inl (cI, 8, .inl (fun j => nI (T.2.1 j))))]
abbrev smW (a0 a1 a2 : Nat) (cI : ClassId) (T : SM) : va_W := [(a0, .inr (7, [.ref a1, .ref a2])), (a1, .inl (cI, 984, .inl (fun j => jI (T.1 j)))), (a2, .inl (cI, 9, .inl (fun j => nI (T.2 j))))]
abbrev roW (a0 a1 a2 : Nat) (cI : ClassId) (T : RO) : va_W := [(a0, .inr (4, [.ref a1, .ref a2, .int (jI T.2.2)])), (a1, .inl (cI, 5, .inl (fun j => nI (T.1 j)))), (a2, .inl (cI, 5, .inl (fun j => nI (T.2.1 j))))]
abbrev seW (a0 a1 a2 : Nat) (cI : ClassId) (T : SE) : va_W := [(a0, .inr (5, [.ref a1, .ref a2])), (a1, .inl (cI, 16, .inl (fun j => jI (T.1 j)))), (a2, .inl (cI, 16, .inl (fun j => jI (T.2 j))))]
/-! further rows -/
theorem upd_z {f : Nat → Int} {k : Nat} {v : Int} : upd (fun j => jI (f j)) k (jI v) = fun j => jI (va_up f k v j) := by
  funext j
  simp only [upd, va_up]
  split <;> rfl
theorem nI_dec {n : Nat} (h : 0 < n) : nI n + Int32.ofInt (-1) = nI (n - 1) := by
  obtain ⟨k, rfl⟩ : ∃ k, n = k + 1 := ⟨n - 1, by omega⟩
  exact pk_m1 k
theorem nI_max {x y : Nat} (hx : x < 2147483648) (hy : y < 2147483648) : (if nI x < nI y then nI y else nI x) = nI (max x y) := by
  by_cases h : x < y
  · rw [if_pos (nI_lt h (by omega)), Nat.max_eq_right (by omega)]
  · rw [if_neg (nI_nlt (by omega) (by omega)), Nat.max_eq_left (by omega)]
theorem jI_max {x y : Int32} {a b : Int} (ex : x = jI a) (ey : y = jI b) (ha : -2147483648 ≤ a ∧ a < 2147483648) (hb : -2147483648 ≤ b ∧ b < 2147483648) : (if x < y then y else x) = jI (max a b) := by
  subst ex ey
  by_cases h : a < b
  · rw [if_pos (Int32.lt_iff_toInt_lt.mpr (by rw [jI_to ha, jI_to hb]; exact h)), Int.max_eq_right (by omega)]
  · rw [if_neg (fun q => h (by have := Int32.lt_iff_toInt_lt.mp q; rw [jI_to ha, jI_to hb] at this; exact this)), Int.max_eq_left (by omega)]
section ROWS
variable {p : Program} {l : Launch} {e : Env} {R : Room} {s : State} {m : MethodId} {args : Array Value} {below : List Frame} {meth : Method} {c : Code} {H H0 : Heap} {locs : List Loc} {cells slots : Nat} {Q : State → Prop} {A : Nat → Prop} {D : va_G} {tys : List (ClassId × FieldType)} {ws : va_W} {as : List Nat} {cc : ByteArray} {pc : Nat} {ls : Array Slot} {rest : List Value} {a : Nat}
theorem rz_iast (hexec : p.tables.exec = Jvm.exec) (hb : c.code = cc) (hK : va_K D vwCl tys s) (hP : va_P D vwCl ws H) (hV : vD A as) (hS : va_S A H0 H locs) (q0 t0 : Nat) {cA : ClassId} {n : Nat} {f : Nat → Int} (ha : ws[q0]? = some (a, .inl (cA, n, .inl (fun j => jI (f j))))) (ht : tys[t0]? = some (cA, .int)) {k : Nat} {x : Int} {y : Int32} (hk : k < n) (hn : n < 2147483648) (hdg : decode cc pc = .ok (.iastore, 1)) (ey : y = jI x) (hw : ws.map Prod.fst = as) {ws2 : va_W} (h2 : ws.set q0 (a, .inl (cA, n, .inl (fun j => jI (va_up f k x j)))) = ws2)
    (kk : ∀ (H1 : Heap) (locs1 : List Loc), va_P D vwCl ws2 H1 → va_S A H0 H1 locs1 → W p l e R s m args below meth c H1 locs1 cells slots Q (F0 m (pc + 1) ls rest)) : W p l e R s m args below meth c H locs cells slots Q (F0 m pc ls (.int y :: .int (nI k) :: .ref a :: rest)) := by
  subst ey
  exact ra_iast hexec hb hK hP hV hS q0 t0 ha ht hk hn upd_z hdg hw h2 kk
/-- a boolean that a condition gives -/
theorem rb_ne (hexec : p.tables.exec = Jvm.exec) (hb : c.code = cc) {q : Prop} [Decidable q] {off : Int} {tgt : Nat} (hdg : decode cc pc = .ok (.ifCond .ne off, 3)) (ht : (pc : Int) + off = (tgt : Int)) (kt : q → W p l e R s m args below meth c H locs cells slots Q (F0 m tgt ls rest)) (kf : ¬ q → W p l e R s m args below meth c H locs cells slots Q (F0 m (pc + 3) ls rest)) : W p l e R s m args below meth c H locs cells slots Q (F0 m pc ls (.int (nI (if q then 1 else 0)) :: rest)) := by
  by_cases h : q
  · exact lv_if_ne hexec hb hdg ht (fun _ => kt h) (fun g => by rw [if_pos h] at g; exact absurd g (by decide))
  · exact lv_if_ne hexec hb hdg ht (fun g => by rw [if_neg h] at g; exact absurd rfl g) (fun _ => kf h)
theorem rb_eq (hexec : p.tables.exec = Jvm.exec) (hb : c.code = cc) {q : Prop} [Decidable q] {off : Int} {tgt : Nat} (hdg : decode cc pc = .ok (.ifCond .eq off, 3)) (ht : (pc : Int) + off = (tgt : Int)) (kt : ¬ q → W p l e R s m args below meth c H locs cells slots Q (F0 m tgt ls rest)) (kf : q → W p l e R s m args below meth c H locs cells slots Q (F0 m (pc + 3) ls rest)) : W p l e R s m args below meth c H locs cells slots Q (F0 m pc ls (.int (nI (if q then 1 else 0)) :: rest)) := by
  by_cases h : q
  · exact lv_if_eq hexec hb hdg ht (fun g => by rw [if_pos h] at g; exact absurd g (by decide)) (fun _ => kf h)
  · exact lv_if_eq hexec hb hdg ht (fun _ => kt h) (fun g => by rw [if_neg h] at g; exact absurd rfl g)
end ROWS
theorem nI_min {x y : Nat} (hx : x < 2147483648) (hy : y < 2147483648) : (if nI y < nI x then nI y else nI x) = nI (min x y) := by
  by_cases h : y < x
  · rw [if_pos (nI_lt h (by omega)), Nat.min_eq_right (by omega)]
  · rw [if_neg (nI_nlt (by omega) (by omega)), Nat.min_eq_left (by omega)]
theorem jI_min {x y : Int32} {a b : Int} (ex : x = jI a) (ey : y = jI b) (ha : -2147483648 ≤ a ∧ a < 2147483648) (hb : -2147483648 ≤ b ∧ b < 2147483648) : (if y < x then y else x) = jI (min a b) := by
  subst ex ey
  by_cases h : b < a
  · rw [if_pos (Int32.lt_iff_toInt_lt.mpr (by rw [jI_to ha, jI_to hb]; exact h)), Int.min_eq_right (by omega)]
  · rw [if_neg (fun q => h (by have := Int32.lt_iff_toInt_lt.mp q; rw [jI_to ha, jI_to hb] at this; exact this)), Int.min_eq_left (by omega)]
