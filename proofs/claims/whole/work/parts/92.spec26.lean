/-! a search in breadth, once for all: N cells, at most L steps, D the steps still to go, c the child by way y, A what ways there are, g the first of the shortest roads -/
def cntF (f : Nat → Int) : Nat → Nat | 0 => 0 | n + 1 => cntF f n + (if 0 ≤ f n then 1 else 0)
theorem cntF_le (f : Nat → Int) : ∀ n, cntF f n ≤ n
  | 0 => Nat.le_refl 0
  | n + 1 => by
    have h1 := cntF_le f n
    rw [cntF]
    split <;> omega
theorem cntF_up {f : Nat → Int} {t : Nat} {v : Int} (h : f t < 0) (hv : 0 ≤ v) : ∀ n, cntF (va_up f t v) n = cntF f n + (if t < n then 1 else 0)
  | 0 => by rw [cntF, cntF, if_neg (Nat.not_lt_zero t)]
  | n + 1 => by
    have h1 := cntF_up h hv n
    rw [cntF, cntF, h1]
    by_cases e : n = t
    · subst e
      rw [va_up_self, if_pos hv, if_neg (show ¬ 0 ≤ f n by omega), if_neg (Nat.lt_irrefl n), if_pos (Nat.lt_succ_self n)]
    · rw [va_up_ne _ _ e]
      by_cases q : t < n
      · rw [if_pos q, if_pos (show t < n + 1 by omega)]; omega
      · rw [if_neg q, if_neg (show ¬ t < n + 1 by omega)]; omega
theorem cntF_0 {f : Nat → Int} : ∀ n, (∀ v, v < n → f v = -4) → cntF f n = 0
  | 0, _ => rfl
  | n + 1, h => by rw [cntF, cntF_0 n (fun v hv => h v (by omega)), h n (by omega)]; rfl
theorem cntF_lt {f : Nat → Int} {t n : Nat} (h : f t < 0) (ht : t < n) : cntF f n < n := by
  have h1 := cntF_up h (Int.le_refl 0) n
  have h2 := cntF_le (va_up f t 0) n
  rw [if_pos ht] at h1
  omega
def bfC (N L n v0 : Nat) (D : Nat → Int) (c : Nat → Nat → Nat) (A : Nat → Nat → Prop) (g : Nat → Nat) : Prop :=
  N ≤ 24 ∧ v0 / 41 < N ∧ (∀ v, D v = -4 ∨ (0 ≤ D v ∧ D v ≤ L)) ∧ (∀ v, D v = 0 ↔ v % 41 = 0) ∧ (∀ v y, c v y / 41 = y) ∧
  (∀ v y, v / 41 < N → y < N → A v y → 0 ≤ D (c v y) → D (c v y) + 1 ≤ L → 0 ≤ D v ∧ D v ≤ D (c v y) + 1) ∧
  ((n = L + 1 ∧ D v0 = -4) ∨ (n ≤ L ∧ g 0 = v0 ∧ (∀ m, m ≤ n → D (g m) = ((n - m : Nat) : Int) ∧ g m / 41 < N) ∧
    ∀ m, m < n → (∃ y, y < N ∧ A (g m) y ∧ D (c (g m) y) = ((n - m - 1 : Nat) : Int)) ∧
      ∀ y, y < N → A (g m) y → D (c (g m) y) = ((n - m - 1 : Nat) : Int) → (∀ z, z < y → A (g m) z → D (c (g m) z) ≠ ((n - m - 1 : Nat) : Int)) → g (m + 1) = c (g m) y))
def bfB (N L n : Nat) (D : Nat → Int) (fa : Nat → Int) (qu : Nat → Nat) (re : Nat) : Prop :=
  cntF fa 984 = re ∧ (∀ v, v < 984 → fa v = -4 ∨ (0 ≤ fa v ∧ fa v ≤ L ∧ (D v = -4 ∨ (n : Int) ≤ fa v + D v))) ∧ ∀ j, j < re → qu j / 41 < N ∧ 0 ≤ fa (qu j)
def bfT (n : Nat) (D : Nat → Int) (g : Nat → Nat) (fa : Nat → Int) (fr qu : Nat → Nat) (re i m pm : Nat) : Prop :=
  m ≤ n ∧ i ≤ pm ∧ pm < re ∧ qu pm = g m ∧ (∀ j, j ≤ m → fa (g j) = (j : Int)) ∧ (∀ j, j < m → fr (g (j + 1)) = g j) ∧
  (∀ v, v < 984 → 0 ≤ fa v → fa v ≤ m ∨ (fa v = (m : Int) + 1 ∧ (D v = -4 ∨ (n : Int) < (m : Int) + 1 + D v))) ∧
  ∀ j, j < pm → fa (qu j) ≤ m ∧ (fa (qu j) = (m : Int) → D (qu j) = -4 ∨ (n : Int) < (m : Int) + D (qu j))
def bfE (n : Nat) (g : Nat → Nat) (fa : Nat → Int) (fr : Nat → Nat) : Prop := (∀ j, j ≤ n → fa (g j) = (j : Int)) ∧ ∀ j, j < n → fr (g (j + 1)) = g j
def bfY (n : Nat) (D : Nat → Int) (c : Nat → Nat → Nat) (A : Nat → Nat → Prop) (g : Nat → Nat) (i y m pm : Nat) : Prop :=
  pm = i → m < n ∧ ∀ z, z < y → A (g m) z → D (c (g m) z) ≠ ((n - m - 1 : Nat) : Int)
def bfI (N L n : Nat) (D : Nat → Int) (g : Nat → Nat) (fa : Nat → Int) (fr qu : Nat → Nat) (re : Nat) (fd : Int) (i : Nat) : Prop :=
  i ≤ re ∧ bfB N L n D fa qu re ∧ ((n = L + 1 ∧ fd = -4) ∨ (n ≤ L ∧ ((fd = -4 ∧ ∃ m pm, bfT n D g fa fr qu re i m pm) ∨ (fd = (g n : Int) ∧ bfE n g fa fr))))
def bfJ (N L n : Nat) (D : Nat → Int) (c : Nat → Nat → Nat) (A : Nat → Nat → Prop) (g : Nat → Nat) (fa : Nat → Int) (fr qu : Nat → Nat) (re : Nat) (fd : Int) (i y : Nat) : Prop :=
  i < re ∧ bfB N L n D fa qu re ∧ ((n = L + 1 ∧ fd = -4) ∨ (n ≤ L ∧ ((fd = -4 ∧ ∃ m pm, bfT n D g fa fr qu re i m pm ∧ bfY n D c A g i y m pm) ∨ (fd = (g n : Int) ∧ bfE n g fa fr))))
theorem bf_start {N L n v0 : Nat} {D : Nat → Int} {c : Nat → Nat → Nat} {A : Nat → Nat → Prop} {g : Nat → Nat} {f : Nat → Int} {fr qu : Nat → Nat}
    (hC : bfC N L n v0 D c A g) (hf : ∀ v, v < 984 → f v = -4) : bfI N L n D g (va_up f v0 0) fr (va_up qu 0 v0) 1 (-4) 0 := by
  obtain ⟨hN, hv, hD, hz, hc, hs, hn⟩ := hC
  have hv9 : v0 < 984 := by omega
  have hnd : D v0 = -4 ∨ (n : Int) ≤ 0 + D v0 := by
    rcases hn with ⟨-, h⟩ | ⟨-, h1, h2, -⟩
    · exact Or.inl h
    · have := (h2 0 (Nat.zero_le _)).1
      rw [h1] at this
      exact Or.inr (by rw [this]; omega)
  refine ⟨Nat.zero_le _, ⟨?_, ?_, ?_⟩, ?_⟩
  · rw [cntF_up (by rw [hf v0 hv9]; omega) (Int.le_refl 0), cntF_0 984 hf, if_pos hv9]
  · intro v h
    by_cases e : v = v0
    · subst e; rw [va_up_self]; exact Or.inr ⟨Int.le_refl 0, by omega, hnd⟩
    · rw [va_up_ne _ _ e]; exact Or.inl (hf v h)
  · intro j hj
    obtain rfl : j = 0 := by omega
    rw [va_up_self, va_up_self]
    exact ⟨hv, Int.le_refl 0⟩
  · rcases hn with ⟨h, -⟩ | ⟨h, h1, h2, -⟩
    · exact Or.inl ⟨h, rfl⟩
    · refine Or.inr ⟨h, Or.inl ⟨rfl, 0, 0, Nat.zero_le _, Nat.le_refl 0, by omega, by rw [va_up_self, h1], ?_, fun j hj => absurd hj (Nat.not_lt_zero j), ?_, fun j hj => absurd hj (Nat.not_lt_zero j)⟩⟩
      · intro j hj
        obtain rfl : j = 0 := by omega
        rw [h1, va_up_self]; rfl
      · intro v h3 h4
        by_cases e : v = v0
        · subst e; rw [va_up_self]; exact Or.inl (by omega)
        · rw [va_up_ne _ _ e, hf v h3] at h4; omega
theorem bf_enter {N L n v0 : Nat} {D : Nat → Int} {c : Nat → Nat → Nat} {A : Nat → Nat → Prop} {g : Nat → Nat} {fa : Nat → Int} {fr qu : Nat → Nat} {re i : Nat} {fd f2 : Int}
    (hC : bfC N L n v0 D c A g) (hI : bfI N L n D g fa fr qu re fd i) (hi : i < re) (hfd : fd < 0) (h2 : f2 = if qu i % 41 = 0 then (qu i : Int) else -4) : bfJ N L n D c A g fa fr qu re f2 i 0 := by
  obtain ⟨hN, hv, hD, hz, hc, hs, hn⟩ := hC
  obtain ⟨-, hB, hS⟩ := hI
  obtain ⟨hB1, hB2, hB3⟩ := id hB
  obtain ⟨hq1, hq2⟩ := hB3 i hi
  have hq9 : qu i < 984 := by omega
  have hb2 := hB2 (qu i) hq9
  have hzq := hz (qu i)
  refine ⟨hi, hB, ?_⟩
  rcases hS with ⟨h, -⟩ | ⟨h, h3⟩
  · refine Or.inl ⟨h, ?_⟩
    rw [h2]
    by_cases e : qu i % 41 = 0
    · have := hzq.mpr e; omega
    · rw [if_neg e]
  · refine Or.inr ⟨h, ?_⟩
    rcases h3 with ⟨-, m, pm, hT⟩ | ⟨h4, -⟩
    · obtain ⟨t1, t2, t3, t4, t5, t6, t7, t8⟩ := id hT
      rcases hn with ⟨h9, -⟩ | ⟨-, g1, g2, g3⟩
      · omega
      have hgm := (g2 m t1).1
      by_cases e : qu i % 41 = 0
      · have hd0 := hzq.mpr e
        rw [if_pos e] at h2
        right
        have hipm : i = pm := by
          rcases Nat.lt_or_ge i pm with hlt | hge
          · have h8 := t8 i hlt
            exfalso
            by_cases e2 : fa (qu i) = (m : Int)
            · have := h8.2 e2; omega
            · omega
          · omega
        subst hipm
        rw [t4] at hd0 h2
        have hmn : m = n := by omega
        subst hmn
        exact ⟨h2, t5, t6⟩
      · rw [if_neg e] at h2
        left
        refine ⟨h2, m, pm, hT, fun hp => ?_⟩
        subst hp
        refine ⟨?_, fun z hz => absurd hz (Nat.not_lt_zero z)⟩
        rcases Nat.lt_or_ge m n with hlt | hge
        · exact hlt
        · exfalso
          rw [t4] at e hzq
          exact e (hzq.mp (by rw [hgm]; omega))
    · omega
theorem bf_ch {N L n v0 : Nat} {D : Nat → Int} {c : Nat → Nat → Nat} {A : Nat → Nat → Prop} {g : Nat → Nat} (hC : bfC N L n v0 D c A g) {v y : Nat} (hy : y < N) : c v y < 984 := by
  have h1 := hC.2.2.2.2.1 v y
  have h2 := hC.1
  omega
theorem bf_re {N L n : Nat} {D : Nat → Int} {c : Nat → Nat → Nat} {A : Nat → Nat → Prop} {g : Nat → Nat} {fa : Nat → Int} {fr qu : Nat → Nat} {re i y : Nat} {fd : Int}
    (hJ : bfJ N L n D c A g fa fr qu re fd i y) {t : Nat} (ht : t < 984) (hf : fa t < 0) : re < 984 := by
  obtain ⟨-, ⟨h1, -⟩, -⟩ := hJ
  rw [← h1]
  exact cntF_lt hf ht
theorem bf_skip {N L n v0 : Nat} {D : Nat → Int} {c : Nat → Nat → Nat} {A : Nat → Nat → Prop} {g : Nat → Nat} {fa : Nat → Int} {fr qu : Nat → Nat} {re i y : Nat} {fd : Int}
    (hC : bfC N L n v0 D c A g) (hJ : bfJ N L n D c A g fa fr qu re fd i y) (hy : y < N) (hno : ¬ (A (qu i) y ∧ fa (c (qu i) y) < 0)) : bfJ N L n D c A g fa fr qu re fd i (y + 1) := by
  have ht9 := bf_ch hC (v := qu i) hy
  obtain ⟨hN, hv, hD, hz, hc, hs, hn⟩ := hC
  obtain ⟨hi, hB, hS⟩ := hJ
  refine ⟨hi, hB, ?_⟩
  rcases hS with h | ⟨h, h3⟩
  · exact Or.inl h
  · refine Or.inr ⟨h, ?_⟩
    rcases h3 with ⟨h4, m, pm, hT, hY⟩ | h4
    · refine Or.inl ⟨h4, m, pm, hT, fun hp => ?_⟩
      obtain ⟨y1, y2⟩ := hY hp
      refine ⟨y1, fun z hz9 hA hd => ?_⟩
      rcases Nat.lt_or_ge z y with hlt | hge
      · exact y2 z hlt hA hd
      · obtain rfl : z = y := by omega
        obtain ⟨t1, t2, t3, t4, t5, t6, t7, t8⟩ := hT
        subst hp
        rw [t4] at hno ht9
        have hge0 : 0 ≤ fa (c (g m) z) := by
          rcases Int.lt_or_le (fa (c (g m) z)) 0 with q | q
          · exact absurd ⟨hA, q⟩ hno
          · exact q
        have h7 := t7 _ ht9 hge0
        have hb := hB.2.1 _ ht9
        omega
    · exact Or.inr h4
theorem bf_leave {N L n v0 : Nat} {D : Nat → Int} {c : Nat → Nat → Nat} {A : Nat → Nat → Prop} {g : Nat → Nat} {fa : Nat → Int} {fr qu : Nat → Nat} {re i y : Nat} {fd : Int}
    (hC : bfC N L n v0 D c A g) (hJ : bfJ N L n D c A g fa fr qu re fd i y) (hno : ¬ (y < N ∧ fa (qu i) < L)) : bfI N L n D g fa fr qu re fd (i + 1) := by
  obtain ⟨hN, hv, hD, hz, hc, hs, hn⟩ := hC
  obtain ⟨hi, hB, hS⟩ := hJ
  refine ⟨hi, hB, ?_⟩
  rcases hS with h | ⟨h, h3⟩
  · exact Or.inl h
  · refine Or.inr ⟨h, ?_⟩
    rcases h3 with ⟨h4, m, pm, hT, hY⟩ | h4
    · refine Or.inl ⟨h4, m, pm, ?_⟩
      obtain ⟨t1, t2, t3, t4, t5, t6, t7, t8⟩ := hT
      refine ⟨t1, ?_, t3, t4, t5, t6, t7, t8⟩
      rcases Nat.lt_or_ge i pm with hlt | hge
      · exact hlt
      · exfalso
        obtain rfl : pm = i := by omega
        obtain ⟨y1, y2⟩ := hY rfl
        rcases hn with ⟨h9, -⟩ | ⟨-, g1, g2, g3⟩
        · omega
        obtain ⟨⟨z, z1, z2, z3⟩, -⟩ := g3 m y1
        have hfm := t5 m (Nat.le_refl m)
        rw [← t4] at hfm
        exact y2 z (by omega) z2 z3
    · exact Or.inr h4
theorem bf_end {N L n : Nat} {D : Nat → Int} {g : Nat → Nat} {fa : Nat → Int} {fr qu : Nat → Nat} {re i : Nat} {fd : Int}
    (hI : bfI N L n D g fa fr qu re fd i) (hno : ¬ (i < re ∧ fd < 0)) : (n = L + 1 ∧ fd = -4) ∨ (n ≤ L ∧ fd = (g n : Int) ∧ bfE n g fa fr) := by
  obtain ⟨hi, hB, hS⟩ := hI
  rcases hS with h | ⟨h, h3⟩
  · exact Or.inl h
  · rcases h3 with ⟨h4, m, pm, t1, t2, t3, -⟩ | h4
    · omega
    · exact Or.inr ⟨h, h4⟩
theorem bf_add {N L n v0 : Nat} {D : Nat → Int} {c : Nat → Nat → Nat} {A : Nat → Nat → Prop} {g : Nat → Nat} {fa : Nat → Int} {fr qu : Nat → Nat} {re i y t : Nat} {fd : Int}
    (hC : bfC N L n v0 D c A g) (hJ : bfJ N L n D c A g fa fr qu re fd i y) (hy : y < N) (hL : fa (qu i) < L) (hA : A (qu i) y) (ht : t = c (qu i) y) (hf : fa t < 0) :
    bfJ N L n D c A g (va_up fa t (fa (qu i) + 1)) (va_up fr t (qu i)) (va_up qu re t) (re + 1) fd i (y + 1) := by
  have ht9 := bf_ch hC (v := qu i) hy
  obtain ⟨hN, hv, hD, hz, hc, hs, hn⟩ := hC
  obtain ⟨hi, ⟨hB1, hB2, hB3⟩, hS⟩ := hJ
  obtain ⟨hq1, hq2⟩ := hB3 i hi
  have hq9 : qu i < 984 := by omega
  have hbq := hB2 (qu i) hq9
  have hsv := hs (qu i) y hq1 hy hA
  have hct := hc (qu i) y
  have hDt := hD t
  have hDq := hD (qu i)
  rw [← ht] at ht9 hsv hct
  have hne : ∀ v, 0 ≤ fa v → v ≠ t := fun v h e => by subst e; omega
  have hup : ∀ v, 0 ≤ fa v → va_up fa t (fa (qu i) + 1) v = fa v := fun v h => va_up_ne _ _ (hne v h)
  have hqu : ∀ j, j < re → va_up qu re t j = qu j := fun j h => va_up_ne _ _ (by omega)
  refine ⟨by omega, ⟨?_, ?_, ?_⟩, ?_⟩
  · rw [cntF_up hf (by omega), hB1, if_pos ht9]
  · intro v h
    by_cases e : v = t
    · subst e
      rw [va_up_self]
      rcases hn with ⟨h8, -⟩ | ⟨h8, -⟩ <;> omega
    · rw [va_up_ne _ _ e]; exact hB2 v h
  · intro j hj
    by_cases e : j = re
    · subst e
      rw [va_up_self, va_up_self]
      omega
    · rw [hqu j (by omega), hup _ (hB3 j (by omega)).2]
      exact hB3 j (by omega)
  · rcases hS with h | ⟨h, h3⟩
    · exact Or.inl h
    · refine Or.inr ⟨h, ?_⟩
      rcases hn with ⟨h9, -⟩ | ⟨-, g1, g2, g3⟩
      · omega
      rcases h3 with ⟨h4, m, pm, hT, hY⟩ | ⟨h4, e1, e2⟩
      · refine Or.inl ⟨h4, ?_⟩
        obtain ⟨t1, t2, t3, t4, t5, t6, t7, t8⟩ := hT
        have hgj : ∀ j, j ≤ m → va_up fa t (fa (qu i) + 1) (g j) = (j : Int) := fun j hj => by rw [hup _ (by rw [t5 j hj]; omega)]; exact t5 j hj
        have hfj : ∀ j, j < m → va_up fr t (qu i) (g (j + 1)) = g j := fun j hj => by rw [va_up_ne _ _ (hne _ (by rw [t5 (j + 1) (by omega)]; omega))]; exact t6 j hj
        by_cases hp : pm = i
        · subst hp
          obtain ⟨y1, y2⟩ := hY rfl
          have hgm := (g2 m t1).1
          have hfm := t5 m (Nat.le_refl m)
          by_cases e : D t = ((n - m - 1 : Nat) : Int)
          · have hgn : g (m + 1) = t := by
              rw [ht, t4]
              exact (g3 m y1).2 y hy (by rw [← t4]; exact hA) (by rw [← t4, ← ht]; exact e) y2
            refine ⟨m + 1, re, ⟨by omega, by omega, by omega, ?_, ?_, ?_, ?_, ?_⟩, fun hp => absurd hp (by omega)⟩
            · rw [va_up_self, hgn]
            · intro j hj
              by_cases e2 : j = m + 1
              · subst e2; rw [hgn, va_up_self, t4, hfm]; rfl
              · exact hgj j (by omega)
            · intro j hj
              by_cases e2 : j = m
              · subst e2; rw [hgn, va_up_self, t4]
              · exact hfj j (by omega)
            · intro v h5 h6
              left
              by_cases e2 : v = t
              · subst e2; rw [va_up_self, t4, hfm]; omega
              · rw [va_up_ne _ _ e2] at h6 ⊢
                have := t7 v h5 h6
                omega
            · intro j hj
              have h5 := hB3 j hj
              rw [hqu j hj, hup _ h5.2]
              have := t7 (qu j) (by omega) h5.2
              omega
          · refine ⟨m, pm, ⟨t1, t2, by omega, by rw [hqu pm (by omega)]; exact t4, hgj, hfj, ?_, ?_⟩, fun _ => ⟨y1, ?_⟩⟩
            · intro v h5 h6
              by_cases e2 : v = t
              · subst e2
                rw [va_up_self, t4, hfm]
                rw [t4, hgm] at hsv
                right
                omega
              · rw [va_up_ne _ _ e2] at h6 ⊢
                exact t7 v h5 h6
            · intro j hj
              have h5 := hB3 j (by omega)
              rw [hqu j (by omega), hup _ h5.2]
              exact t8 j hj
            · intro z hz9 hA9 hd
              rcases Nat.lt_or_ge z y with hlt | hge
              · exact y2 z hlt hA9 hd
              · obtain rfl : z = y := by omega
                rw [ht, t4] at e
                exact e hd
        · have hip : i < pm := by omega
          have h8 := t8 i hip
          refine ⟨m, pm, ⟨t1, t2, by omega, by rw [hqu pm (by omega)]; exact t4, hgj, hfj, ?_, ?_⟩, fun q => absurd q hp⟩
          · intro v h5 h6
            by_cases e2 : v = t
            · subst e2
              rw [va_up_self]
              by_cases e3 : fa (qu i) = (m : Int)
              · have h9 := h8.2 e3
                right
                omega
              · left; omega
            · rw [va_up_ne _ _ e2] at h6 ⊢
              exact t7 v h5 h6
          · intro j hj
            have h5 := hB3 j (by omega)
            rw [hqu j (by omega), hup _ h5.2]
            exact t8 j hj
      · refine Or.inr ⟨h4, fun j hj => ?_, fun j hj => ?_⟩
        · rw [hup _ (by rw [e1 j hj]; omega)]; exact e1 j hj
        · rw [va_up_ne _ _ (hne _ (by rw [e1 (j + 1) (by omega)]; omega))]; exact e2 j hj
theorem dV_step {P : PL} {mm x L v y : Nat} (hv : v / 41 < pCells P) (_ : y < pCells P) (hA : adV P v y) (h0 : 0 ≤ dV P mm x L (chV P mm x v y)) (hL : dV P mm x L (chV P mm x v y) + 1 ≤ L) : 0 ≤ dV P mm x L v ∧ dV P mm x L v ≤ dV P mm x L (chV P mm x v y) + 1 := by
  obtain ⟨c1, c2⟩ := chV_q (P := P) (mm := mm) (x := x) (v := v) (y := y)
  obtain ⟨i, hi, hw⟩ := nx_way hv hA
  unfold dV at h0 hL ⊢
  rw [c1, c2] at h0 hL ⊢
  obtain ⟨k, hk⟩ : ∃ k : Nat, fwZ P mm x L y (lowS P mm x (v % 41) y) = (k : Int) := ⟨_, (Int.toNat_of_nonneg h0).symm⟩
  rw [hk] at hL ⊢
  have h1 := (fw_val (P := P) (mm := mm) (x := x) (n0 := k) (k := y) (h := lowS P mm x (v % 41) y) (n := k) (Nat.le_refl _) (L - k)).mpr (by rw [show k + (L - k) = L by omega]; exact hk)
  have h2 : fwZ P mm x (k + 1) (v / 41) (v % 41) ≠ -4 := by
    rw [fwZ]
    by_cases q : fwZ P mm x k (v / 41) (v % 41) = -4
    · rw [if_neg (fun e => e q), if_pos ⟨i, hi, by rw [hw]; omega, by rw [hw]; exact h1⟩]
      omega
    · rw [if_pos q]; exact q
  have h3 := fw_stays h2 (L - (k + 1))
  rw [show k + 1 + (L - (k + 1)) = L by omega] at h3
  have h4 := fw_rng P mm x (k + 1) (v / 41) (v % 41)
  rw [h3]
  omega
theorem fs_first {P : PL} {mm x L k h y : Nat} {n : Nat} (hk : k < pCells P) (hA : k = y ∨ nxt P k y) (hq : fwZ P mm x L y (lowS P mm x h y) = (n : Int)) (hf : ∀ z : Nat, z < y → (k = z ∨ nxt P k z) → fwZ P mm x L z (lowS P mm x h z) ≠ (n : Int)) : fsI (fwZ P mm x L) P mm x k h (n : Int) 5 = (y : Int) := by
  obtain ⟨i, hi, hw⟩ := nx_way hk hA
  have hne : fsI (fwZ P mm x L) P mm x k h (n : Int) 5 ≠ -1 := fun f => (fs_none f i hi).elim (fun e => by rw [hw] at e; omega) (fun e => e (by rw [hw]; exact hq))
  obtain ⟨j, h1, h2, h3, h4, h5⟩ := fs_some hne
  have hrg := wayZ_rng hk j
  rcases Nat.lt_trichotomy j i with hlt | rfl | hgt
  · exfalso
    have h6 := way_up hk hlt hi h2 (by rw [hw]; omega)
    obtain ⟨z, hz⟩ : ∃ z : Nat, wayZ P k j = (z : Int) := ⟨_, (Int.toNat_of_nonneg (by omega)).symm⟩
    rw [hz] at h3
    exact hf z (by omega) (way_nx h1 hz) h3
  · rw [h4, hw]
  · exfalso
    exact (h5 i hgt).elim (fun e => by rw [hw] at e; omega) (fun e => e (by rw [hw]; exact hq))
theorem bf_ctx {P : PL} {mm x L v0 : Nat} (hp : pOK P) (hv : v0 / 41 < pCells P) : ∃ (n : Nat) (g : Nat → Nat), bfC (pCells P) L n v0 (dV P mm x L) (chV P mm x) (adV P) g ∧ (n = L + 1 → fwZ P mm x L (v0 / 41) (v0 % 41) = -4) ∧
    (n ≤ L → fwZ P mm x L (v0 / 41) (v0 % 41) = (n : Int) ∧ ∀ m, m ≤ n → g m / 41 = (walkS (fwZ P mm x L) P mm x n (v0 / 41) (v0 % 41) m).1) := by
  have hb : ∀ n g, ((n = L + 1 ∧ dV P mm x L v0 = -4) ∨ _) → bfC (pCells P) L n v0 (dV P mm x L) (chV P mm x) (adV P) g := fun n g h =>
    ⟨pCells_le hp, hv, dV_rng P mm x L, fun v => dV_zero, fun v y => chV_q.1, fun v y h1 h2 h3 h4 h5 => dV_step h1 h2 h3 h4 h5, h⟩
  rcases dV_rng P mm x L v0 with h0 | ⟨h0, h1⟩
  · exact ⟨L + 1, fun _ => 0, hb _ _ (Or.inl ⟨rfl, h0⟩), fun _ => h0, fun h => absurd h (by omega)⟩
  · obtain ⟨n, hn⟩ : ∃ n : Nat, dV P mm x L v0 = (n : Int) := ⟨_, (Int.toNat_of_nonneg h0).symm⟩
    have hn2 : fwZ P mm x L (v0 / 41) (v0 % 41) = (n : Int) := hn
    have hin := walkS_in hv hn2
    have hml := Nat.mod_lt v0 (show 0 < 41 by omega)
    have hg1 : ∀ m, m ≤ n → (41 * (walkS (fwZ P mm x L) P mm x n (v0 / 41) (v0 % 41) m).1 + (walkS (fwZ P mm x L) P mm x n (v0 / 41) (v0 % 41) m).2) / 41 = (walkS (fwZ P mm x L) P mm x n (v0 / 41) (v0 % 41) m).1 ∧ (41 * (walkS (fwZ P mm x L) P mm x n (v0 / 41) (v0 % 41) m).1 + (walkS (fwZ P mm x L) P mm x n (v0 / 41) (v0 % 41) m).2) % 41 = (walkS (fwZ P mm x L) P mm x n (v0 / 41) (v0 % 41) m).2 := fun m hm => by
      have := (hin m hm).2.1
      omega
    have hdg : ∀ m, m ≤ n → dV P mm x L (41 * (walkS (fwZ P mm x L) P mm x n (v0 / 41) (v0 % 41) m).1 + (walkS (fwZ P mm x L) P mm x n (v0 / 41) (v0 % 41) m).2) = ((n - m : Nat) : Int) := fun m hm => by
      unfold dV
      rw [(hg1 m hm).1, (hg1 m hm).2]
      exact (hin m hm).2.2
    refine ⟨n, fun m => 41 * (walkS (fwZ P mm x L) P mm x n (v0 / 41) (v0 % 41) m).1 + (walkS (fwZ P mm x L) P mm x n (v0 / 41) (v0 % 41) m).2, hb _ _ (Or.inr ⟨by omega, ?_, ?_, ?_⟩), fun h => by omega, fun _ => ⟨hn2, fun m hm => (hg1 m hm).1⟩⟩
    · show 41 * (v0 / 41) + v0 % 41 = v0
      omega
    · intro m hm
      exact ⟨hdg m hm, by show (_ : Nat) / 41 < _; rw [(hg1 m hm).1]; exact (hin m hm).1⟩
    · intro m hm
      have ha := (hin m (by omega)).1
      have hd := (hin m (by omega)).2.2
      have e1 := (hg1 m (by omega)).1
      have e2 := (hg1 m (by omega)).2
      have hq : ∀ y : Nat, dV P mm x L (chV P mm x (41 * (walkS (fwZ P mm x L) P mm x n (v0 / 41) (v0 % 41) m).1 + (walkS (fwZ P mm x L) P mm x n (v0 / 41) (v0 % 41) m).2) y) = fwZ P mm x L y (lowS P mm x (walkS (fwZ P mm x L) P mm x n (v0 / 41) (v0 % 41) m).2 y) := fun y => by
        unfold dV
        rw [chV_q.1, chV_q.2, e2]
      have hadj : ∀ y : Nat, adV P (41 * (walkS (fwZ P mm x L) P mm x n (v0 / 41) (v0 % 41) m).1 + (walkS (fwZ P mm x L) P mm x n (v0 / 41) (v0 % 41) m).2) y ↔ ((walkS (fwZ P mm x L) P mm x n (v0 / 41) (v0 % 41) m).1 = y ∨ nxt P (walkS (fwZ P mm x L) P mm x n (v0 / 41) (v0 % 41) m).1 y) := fun y => by
        unfold adV
        rw [e1]
      refine ⟨?_, ?_⟩
      · obtain ⟨j, w1, w2, w3⟩ := fw_back (n := n - m - 1) (show fwZ P mm x L _ _ = ((n - m - 1 + 1 : Nat) : Int) by rw [hd]; omega)
        have hrg := wayZ_rng ha j
        obtain ⟨z, hz⟩ : ∃ z : Nat, wayZ P (walkS (fwZ P mm x L) P mm x n (v0 / 41) (v0 % 41) m).1 j = (z : Int) := ⟨_, (Int.toNat_of_nonneg (by omega)).symm⟩
        rw [hz] at w3
        exact ⟨z, by omega, (hadj z).mpr (way_nx w1 hz), by rw [hq]; exact w3⟩
      · intro y hy hA hdy hno
        have hfs := fs_first ha ((hadj y).mp hA) (by rw [← hq]; exact hdy) (fun z hz hz2 => by rw [← hq]; exact hno z hz ((hadj z).mpr hz2))
        show 41 * (walkS _ P mm x n (v0 / 41) (v0 % 41) (m + 1)).1 + (walkS _ P mm x n (v0 / 41) (v0 % 41) (m + 1)).2 = _
        rw [walkS, hfs]
        show 41 * y + lowS P mm x _ y = 41 * y + lowS P mm x (_ % 41) y
        rw [e2]
section BF
variable {N L n v0 : Nat} {D : Nat → Int} {c : Nat → Nat → Nat} {A : Nat → Nat → Prop} {g : Nat → Nat} {fa : Nat → Int} {fr qu : Nat → Nat} {re i y : Nat} {fd : Int}
theorem bf_g (hC : bfC N L n v0 D c A g) (hn : n ≤ L) {m : Nat} (hm : m ≤ n) : g m / 41 < N ∧ g m < 984 := by
  obtain ⟨h1, -, -, -, -, -, h2⟩ := hC
  rcases h2 with ⟨h3, -⟩ | ⟨-, -, h3, -⟩
  · omega
  · have := (h3 m hm).2
    omega
theorem bf_le (hI : bfI N L n D g fa fr qu re fd i) : i ≤ re ∧ re ≤ 984 := ⟨hI.1, by rw [← hI.2.1.1]; exact cntF_le _ _⟩
theorem bf_le2 (hJ : bfJ N L n D c A g fa fr qu re fd i y) : i < re ∧ re ≤ 984 := ⟨hJ.1, by rw [← hJ.2.1.1]; exact cntF_le _ _⟩
theorem bf_fd0 (hC : bfC N L n v0 D c A g) {X Y : Prop} (h : (n = L + 1 ∧ fd = -4) ∨ (n ≤ L ∧ ((fd = -4 ∧ X) ∨ (fd = (g n : Int) ∧ Y)))) : -4 ≤ fd ∧ fd < 984 := by
  rcases h with h | ⟨h, h2 | h2⟩
  · omega
  · omega
  · have := (bf_g hC h (Nat.le_refl n)).2
    omega
theorem bf_fd (hC : bfC N L n v0 D c A g) (hI : bfI N L n D g fa fr qu re fd i) : -4 ≤ fd ∧ fd < 984 := bf_fd0 hC hI.2.2
theorem bf_fd2 (hC : bfC N L n v0 D c A g) (hJ : bfJ N L n D c A g fa fr qu re fd i y) : -4 ≤ fd ∧ fd < 984 := bf_fd0 hC hJ.2.2
theorem bf_q (hC : bfC N L n v0 D c A g) (hI : bfI N L n D g fa fr qu re fd i) (hi : i < re) : qu i / 41 < N ∧ qu i < 984 := by
  have h1 := (hI.2.1.2.2 i hi).1
  have h2 := hC.1
  omega
theorem bf_ft (hJ : bfJ N L n D c A g fa fr qu re fd i y) {t : Nat} (ht : t < 984) : -4 ≤ fa t ∧ fa t ≤ L := by
  have := hJ.2.1.2.1 t ht
  omega
theorem bf_fv (hC : bfC N L n v0 D c A g) (hJ : bfJ N L n D c A g fa fr qu re fd i y) : 0 ≤ fa (qu i) ∧ fa (qu i) ≤ L := by
  have h1 := hJ.2.1.2.2 i hJ.1
  have h2 := hC.1
  have h3 := bf_ft hJ (t := qu i) (by omega)
  omega
end BF
section ZSM
variable {P : PL} {S : ST} {mm x : Nat} {k : Int}
theorem zsm_eq (hm : mm < P.2.2.2.2.2.2) (hx : x < pCells P) (hk : -1 ≤ k) {w : Int} (hw : fwZ P mm x (S.2.1 mm) (S.2.2.1 mm) (sAt S (x : Int)) = w) : zSmooth P S (mm : Int) (x : Int) k = if w = -4 ∨ k = -1 then w else if k < w then ((walkS (fwZ P mm x (S.2.1 mm)) P mm x w.toNat (S.2.2.1 mm) (sAt S (x : Int)) (k.toNat + 1)).1 : Nat) else -4 := by
  unfold zSmooth
  rw [if_pos ⟨⟨by omega, by omega⟩, ⟨by omega, by omega⟩, hk⟩]
  simp only [Int.toNat_natCast]
  rw [hw]
theorem zsm_no (hm : mm < P.2.2.2.2.2.2) (hx : x < pCells P) (hk : -1 ≤ k) (hw : fwZ P mm x (S.2.1 mm) (S.2.2.1 mm) (sAt S (x : Int)) = -4) : zSmooth P S (mm : Int) (x : Int) k = -4 := by
  rw [zsm_eq hm hx hk hw, if_pos (Or.inl rfl)]
theorem zsm_all {n : Nat} (hm : mm < P.2.2.2.2.2.2) (hx : x < pCells P) (hk : k = -1) (hw : fwZ P mm x (S.2.1 mm) (S.2.2.1 mm) (sAt S (x : Int)) = (n : Int)) : zSmooth P S (mm : Int) (x : Int) k = (n : Int) := by
  rw [zsm_eq hm hx (by omega) hw, if_pos (Or.inr hk)]
theorem zsm_far {n : Nat} (hm : mm < P.2.2.2.2.2.2) (hx : x < pCells P) (hk : 0 ≤ k) (hkn : (n : Int) ≤ k) (hw : fwZ P mm x (S.2.1 mm) (S.2.2.1 mm) (sAt S (x : Int)) = (n : Int)) : zSmooth P S (mm : Int) (x : Int) k = -4 := by
  rw [zsm_eq hm hx (by omega) hw, if_neg (by omega), if_neg (by omega)]
theorem zsm_at {n k3 : Nat} (hm : mm < P.2.2.2.2.2.2) (hx : x < pCells P) (hkn : k3 < n) (hw : fwZ P mm x (S.2.1 mm) (S.2.2.1 mm) (sAt S (x : Int)) = (n : Int)) : zSmooth P S (mm : Int) (x : Int) (k3 : Int) = (((walkS (fwZ P mm x (S.2.1 mm)) P mm x n (S.2.2.1 mm) (sAt S (x : Int)) (k3 + 1)).1 : Nat) : Int) := by
  rw [zsm_eq hm hx (by omega) hw, if_neg (by omega), if_pos (by omega), Int.toNat_natCast, Int.toNat_natCast]
end ZSM
