/-! chairs: sets of cells none beside another, told row by row or column by column -/
theorem bits_and {a b : Nat} : a &&& b = 0 ↔ ∀ c, ¬ (a.testBit c = true ∧ b.testBit c = true) := by
  constructor
  · intro h c q
    have := Nat.testBit_and a b c
    rw [h, Nat.zero_testBit, q.1, q.2] at this
    exact absurd this (by decide)
  · intro h
    apply Nat.eq_of_testBit_eq
    intro c
    rw [Nat.testBit_and, Nat.zero_testBit]
    cases h1 : a.testBit c with
    | false => rfl
    | true => cases h2 : b.testBit c with
      | false => rfl
      | true => exact absurd ⟨h1, h2⟩ (h c)
theorem bits_sub {a b : Nat} : a &&& b = a ↔ ∀ c, a.testBit c = true → b.testBit c = true := by
  constructor
  · intro h c q
    have := Nat.testBit_and a b c
    rw [h, q] at this
    cases h2 : b.testBit c with
    | false => rw [h2] at this; exact absurd this (by decide)
    | true => rfl
  · intro h
    apply Nat.eq_of_testBit_eq
    intro c
    rw [Nat.testBit_and]
    cases h1 : a.testBit c with
    | false => rfl
    | true => rw [h c h1]; rfl
theorem bits_half {a c : Nat} : (a / 2 ^ 1).testBit c = a.testBit (c + 1) := Nat.testBit_div_two_pow a c
theorem canF_bits {s f : Nat} : canF s f ↔ (∀ c, s.testBit c = true → f.testBit c = true) ∧ ∀ c, ¬ (s.testBit c = true ∧ s.testBit (c + 1) = true) := by
  unfold canF
  rw [bits_sub, bits_and]
  constructor
  · intro ⟨h1, h2⟩
    exact ⟨h1, fun c q => h2 c ⟨q.1, by rw [bits_half]; exact q.2⟩⟩
  · intro ⟨h1, h2⟩
    exact ⟨h1, fun c q => h2 c ⟨q.1, by rw [bits_half] at q; exact q.2⟩⟩
theorem or_bit {a n c : Nat} : (a ||| 2 ^ n).testBit c = true ↔ a.testBit c = true ∨ n = c := by
  rw [Nat.testBit_or, Nat.testBit_two_pow, Bool.or_eq_true, decide_eq_true_eq]
theorem frN_bit {sl : Nat → Nat} {ln h c : Nat} : ∀ w, (frN sl ln h w).testBit c = true ↔ c < w ∧ sl (ln + c) ≤ h
  | 0 => by rw [frN, Nat.zero_testBit]; exact ⟨fun q => absurd q (by decide), fun q => absurd q.1 (Nat.not_lt_zero c)⟩
  | w + 1 => by
    have ih := frN_bit (sl := sl) (ln := ln) (h := h) (c := c) w
    rw [frN]
    by_cases q : sl (ln + w) ≤ h
    · rw [if_pos q, or_bit, ih]
      constructor
      · rintro (⟨h1, h2⟩ | rfl)
        · exact ⟨by omega, h2⟩
        · exact ⟨by omega, q⟩
      · rintro ⟨h1, h2⟩
        by_cases e : w = c
        · exact Or.inr e
        · exact Or.inl ⟨by omega, h2⟩
    · rw [if_neg q, ih]
      constructor
      · rintro ⟨h1, h2⟩; exact ⟨by omega, h2⟩
      · rintro ⟨h1, h2⟩
        by_cases e : w = c
        · subst e; exact absurd h2 q
        · exact ⟨by omega, h2⟩
theorem freeN_bit {P : PL} {S : ST} {col h r : Nat} : ∀ R, (freeN P S col h R).testBit r = true ↔ r < R ∧ sAt S ((r * P.2.2.2.1 + col : Nat) : Int) ≤ h
  | 0 => by rw [freeN, Nat.zero_testBit]; exact ⟨fun q => absurd q (by decide), fun q => absurd q.1 (Nat.not_lt_zero r)⟩
  | R + 1 => by
    have ih := freeN_bit (P := P) (S := S) (col := col) (h := h) (r := r) R
    rw [freeN]
    by_cases q : sAt S ((R * P.2.2.2.1 + col : Nat) : Int) ≤ h
    · rw [if_pos q, or_bit, ih]
      constructor
      · rintro (⟨h1, h2⟩ | rfl)
        · exact ⟨by omega, h2⟩
        · exact ⟨by omega, q⟩
      · rintro ⟨h1, h2⟩
        by_cases e : R = r
        · exact Or.inr e
        · exact Or.inl ⟨by omega, h2⟩
    · rw [if_neg q, ih]
      constructor
      · rintro ⟨h1, h2⟩; exact ⟨by omega, h2⟩
      · rintro ⟨h1, h2⟩
        by_cases e : R = r
        · subst e; exact absurd h2 q
        · exact ⟨by omega, h2⟩
/-- codes of layers: what stands is free, nothing beside another -/
def layQ (A B : Nat) (F : Nat → Nat → Prop) (s : Nat → Nat) : Prop :=
  (∀ r, r < A → ∀ c, (s r).testBit c = true → c < B ∧ F r c) ∧ (∀ r, r < A → ∀ c, ¬ ((s r).testBit c = true ∧ (s r).testBit (c + 1) = true)) ∧ ∀ r, r + 1 < A → ∀ c, ¬ ((s r).testBit c = true ∧ (s (r + 1)).testBit c = true)
def colC (s : Nat → Nat) (c : Nat) : Nat → Nat | 0 => 0 | n + 1 => if (s n).testBit c = true then colC s c n ||| 2 ^ n else colC s c n
theorem colC_bit {s : Nat → Nat} {c r : Nat} : ∀ A, (colC s c A).testBit r = true ↔ r < A ∧ (s r).testBit c = true
  | 0 => by rw [colC, Nat.zero_testBit]; exact ⟨fun q => absurd q (by decide), fun q => absurd q.1 (Nat.not_lt_zero r)⟩
  | A + 1 => by
    have ih := colC_bit (s := s) (c := c) (r := r) A
    rw [colC]
    by_cases q : (s A).testBit c = true
    · rw [if_pos q, or_bit, ih]
      constructor
      · rintro (⟨h1, h2⟩ | rfl)
        · exact ⟨by omega, h2⟩
        · exact ⟨by omega, q⟩
      · rintro ⟨h1, h2⟩
        by_cases e : A = r
        · exact Or.inr e
        · exact Or.inl ⟨by omega, h2⟩
    · rw [if_neg q, ih]
      constructor
      · rintro ⟨h1, h2⟩; exact ⟨by omega, h2⟩
      · rintro ⟨h1, h2⟩
        by_cases e : A = r
        · subst e; exact absurd h2 q
        · exact ⟨by omega, h2⟩
theorem layQ_tr {A B : Nat} {F : Nat → Nat → Prop} {s : Nat → Nat} (h : layQ A B F s) : layQ B A (fun c r => F r c) (fun c => colC s c A) := by
  obtain ⟨h1, h2, h3⟩ := h
  refine ⟨fun c hc r q => ?_, fun c hc r q => ?_, fun c hc r q => ?_⟩
  · obtain ⟨q1, q2⟩ := (colC_bit A).mp q
    exact ⟨q1, (h1 r q1 c q2).2⟩
  · obtain ⟨q1, q2⟩ := (colC_bit A).mp q.1
    obtain ⟨q3, q4⟩ := (colC_bit A).mp q.2
    exact h3 r q3 c ⟨q2, q4⟩
  · obtain ⟨q1, q2⟩ := (colC_bit A).mp q.1
    obtain ⟨q3, q4⟩ := (colC_bit A).mp q.2
    exact h2 r q1 c ⟨q2, q4⟩
theorem nSum_addF {f g : Nat → Nat} : ∀ n, nSum (fun k => f k + g k) n = nSum f n + nSum g n
  | 0 => rfl
  | n + 1 => by rw [nSum, nSum, nSum, nSum_addF n]; omega
theorem nSum_0F : ∀ n, nSum (fun _ => 0) n = 0
  | 0 => rfl
  | n + 1 => by rw [nSum, nSum_0F n]
theorem nSum_eqF {f g : Nat → Nat} : ∀ n, (∀ k, k < n → f k = g k) → nSum f n = nSum g n
  | 0, _ => rfl
  | n + 1, h => by rw [nSum, nSum, nSum_eqF n (fun k hk => h k (by omega)), h n (by omega)]
theorem nSum_swapF {f : Nat → Nat → Nat} {B : Nat} : ∀ A, nSum (fun r => nSum (fun c => f r c) B) A = nSum (fun c => nSum (fun r => f r c) A) B
  | 0 => (nSum_0F B).symm
  | A + 1 => by
    have e : (fun c => nSum (fun r => f r c) (A + 1)) = fun c => nSum (fun r => f r c) A + f A c := rfl
    rw [nSum, nSum_swapF A, e, nSum_addF]
theorem nSum_upF {f : Nat → Nat} {n : Nat} : ∀ d, (∀ k, n ≤ k → f k = 0) → nSum f (n + d) = nSum f n
  | 0, _ => rfl
  | d + 1, h => by show nSum f ((n + d) + 1) = _; rw [nSum, nSum_upF d h, h (n + d) (by omega), Nat.add_zero]
def bitN (a c : Nat) : Nat := if a.testBit c = true then 1 else 0
theorem pop_bits (a : Nat) : ∀ n, popN a n = nSum (fun c => bitN a c) n
  | 0 => rfl
  | n + 1 => by
    rw [popN, nSum, pop_bits a n]
    congr 1
    unfold bitN
    have e : (a.testBit n = true) ↔ a / 2 ^ n % 2 = 1 := by rw [Nat.testBit_eq_decide_div_mod_eq, decide_eq_true_eq]
    have := Nat.mod_lt (a / 2 ^ n) (show 0 < 2 by omega)
    by_cases q : a.testBit n = true
    · rw [if_pos q]; exact e.mp q
    · rw [if_neg q]
      have h9 : ¬ a / 2 ^ n % 2 = 1 := fun h => q (e.mpr h)
      omega
theorem pop_cut {a n : Nat} (hn : n ≤ 6) (h : ∀ c, a.testBit c = true → c < n) : popN a 6 = nSum (fun c => bitN a c) n := by
  rw [pop_bits, show 6 = n + (6 - n) by omega, nSum_upF (6 - n) (fun c hc => by unfold bitN; rw [if_neg (fun q => by have := h c q; omega)])]
theorem lay_sum {A B : Nat} {F : Nat → Nat → Prop} {s : Nat → Nat} (hA : A ≤ 6) (hB : B ≤ 6) (h : layQ A B F s) : nSum (fun r => popN (s r) 6) A = nSum (fun c => popN (colC s c A) 6) B := by
  have e1 : nSum (fun r => popN (s r) 6) A = nSum (fun r => nSum (fun c => bitN (s r) c) B) A := nSum_eqF A (fun r hr => pop_cut hB (fun c q => (h.1 r hr c q).1))
  have e2 : nSum (fun c => popN (colC s c A) 6) B = nSum (fun c => nSum (fun r => bitN (s r) c) A) B := nSum_eqF B (fun c _ => by
    show popN (colC s c A) 6 = _
    rw [pop_cut hA (fun r q => ((colC_bit A).mp q).1)]
    refine nSum_eqF A (fun r hr => ?_)
    unfold bitN
    by_cases q : (s r).testBit c = true
    · rw [if_pos q, if_pos ((colC_bit A).mpr ⟨hr, q⟩)]
    · rw [if_neg q, if_neg (fun q2 => q ((colC_bit A).mp q2).2)])
  rw [e1, e2, nSum_swapF]
theorem lay_lt {A B : Nat} {F : Nat → Nat → Prop} {s : Nat → Nat} (h : layQ A B F s) {r : Nat} (hr : r < A) : s r < 2 ^ B := Nat.lt_pow_two_of_testBit _ (fun c hc => by
  cases q : (s r).testBit c with
  | false => rfl
  | true => have := (h.1 r hr c q).1; omega)
theorem layQ_F {A B : Nat} {F G : Nat → Nat → Prop} {s : Nat → Nat} (h : layQ A B F s) (hF : ∀ r c, r < A → c < B → F r c → G r c) : layQ A B G s :=
  ⟨fun r hr c q => ⟨(h.1 r hr c q).1, hF r c hr (h.1 r hr c q).1 (h.1 r hr c q).2⟩, h.2⟩
theorem maxTo_ge {bf : Nat → Int} {l : Nat} : ∀ n, l < n → bf l ≤ maxTo bf n
  | 0, h => absurd h (Nat.not_lt_zero l)
  | n + 1, h => by
    rw [maxTo]
    by_cases e : l = n
    · subst e; omega
    · have := maxTo_ge (bf := bf) n (show l < n by omega); omega
theorem maxTo_pos {bf : Nat → Int} : ∀ n, 0 ≤ maxTo bf n
  | 0 => Int.le_refl 0
  | n + 1 => by have := maxTo_pos (bf := bf) n; rw [maxTo]; omega
theorem maxTo_at {bf : Nat → Int} : ∀ n, maxTo bf n = 0 ∨ ∃ l, l < n ∧ maxTo bf n = bf l
  | 0 => Or.inl rfl
  | n + 1 => by
    rw [maxTo]
    rcases Int.le_total (bf n) (maxTo bf n) with q | q
    · rw [Int.max_eq_left q]
      rcases maxTo_at (bf := bf) n with h | ⟨l, h1, h2⟩
      · exact Or.inl h
      · exact Or.inr ⟨l, by omega, h2⟩
    · rw [Int.max_eq_right q]
      exact Or.inr ⟨n, by omega, rfl⟩
/-! row by row -/
abbrev rowF (P : PL) (sl : Nat → Nat) (h : Nat) (r c : Nat) : Prop := sl (r * P.2.2.2.1 + c) ≤ h
theorem chT_ge {M : Nat → Int} {fr s t : Nat} (hc : canF s fr ∧ s &&& t = 0) : ∀ n, t < n → M t + (popN s 6 : Nat) ≤ chT M fr s n
  | 0, h => absurd h (Nat.not_lt_zero t)
  | n + 1, h => by
    rw [chT]
    by_cases e : t = n
    · subst e; rw [if_pos hc]; omega
    · have := chT_ge (M := M) hc n (show t < n by omega)
      split <;> omega
theorem chT_at {M : Nat → Int} {fr s : Nat} : ∀ n, chT M fr s n = -99 ∨ ∃ t, t < n ∧ (canF s fr ∧ s &&& t = 0) ∧ chT M fr s n = M t + (popN s 6 : Nat)
  | 0 => Or.inl rfl
  | n + 1 => by
    have ih := chT_at (M := M) (fr := fr) (s := s) n
    have ih2 : chT M fr s n = -99 ∨ ∃ t, t < n + 1 ∧ (canF s fr ∧ s &&& t = 0) ∧ chT M fr s n = M t + (popN s 6 : Nat) := ih.imp id (fun ⟨t, h1, h2⟩ => ⟨t, by omega, h2⟩)
    rw [chT]
    by_cases q : canF s fr ∧ s &&& n = 0
    · rw [if_pos q]
      rcases Int.le_total (M n + (popN s 6 : Nat)) (chT M fr s n) with q2 | q2
      · rw [Int.max_eq_left q2]; exact ih2
      · rw [Int.max_eq_right q2]; exact Or.inr ⟨n, by omega, q, rfl⟩
    · rw [if_neg q]; exact ih2
section CHAIRS
variable {P : PL} {S : ST} {sl : Nat → Nat} {h : Nat}
theorem chN_or : ∀ r l, 0 ≤ chN P sl h r l ∨ chN P sl h r l ≤ -99 + 6 * r
  | 0, l => by
    rw [chN]
    show 0 ≤ (if l = 0 then (0 : Int) else -99) ∨ (if l = 0 then (0 : Int) else -99) ≤ -99 + 6 * ((0 : Nat) : Int)
    split <;> omega
  | r + 1, l => by
    rw [chN]
    show 0 ≤ chT _ _ l 64 ∨ chT _ _ l 64 ≤ -99 + 6 * ((r + 1 : Nat) : Int)
    have hp := popN_le l 6
    rcases chT_at (M := chN P sl h r) (fr := frN sl (r * P.2.2.2.1) h P.2.2.2.1) (s := l) 64 with e | ⟨t, h1, h2, h3⟩
    · omega
    · have := chN_or r t
      omega
theorem row_bits {r c : Nat} {s : Nat} : (s.testBit c = true → (frN sl (r * P.2.2.2.1) h P.2.2.2.1).testBit c = true) ↔ (s.testBit c = true → c < P.2.2.2.1 ∧ rowF P sl h r c) := by
  rw [frN_bit]
theorem chN_hit (hw : P.2.2.2.1 ≤ 6) : ∀ r, r ≤ 4 → ∀ l, l < 64 → 0 ≤ chN P sl h r l → ∃ s : Nat → Nat, layQ r P.2.2.2.1 (rowF P sl h) s ∧ (∀ k, r = k + 1 → s k = l) ∧ chN P sl h r l = ((nSum (fun k => popN (s k) 6) r : Nat) : Int)
  | 0, _, l, _, h0 => ⟨fun _ => 0, ⟨fun r hr => absurd hr (Nat.not_lt_zero r), fun r hr => absurd hr (Nat.not_lt_zero r), fun r hr => absurd hr (Nat.not_lt_zero _)⟩, fun k hk => absurd hk (by omega), by
      rw [chN] at h0 ⊢
      have h0 : 0 ≤ (if l = 0 then (0 : Int) else -99) := h0
      show (if l = 0 then (0 : Int) else -99) = 0
      by_cases e : l = 0
      · rw [if_pos e]
      · rw [if_neg e] at h0; omega⟩
  | r + 1, hr, l, hl, h0 => by
    have e : chN P sl h (r + 1) l = chT (chN P sl h r) (frN sl (r * P.2.2.2.1) h P.2.2.2.1) l 64 := rfl
    rw [e] at h0 ⊢
    have hp := popN_le l 6
    rcases chT_at (M := chN P sl h r) (fr := frN sl (r * P.2.2.2.1) h P.2.2.2.1) (s := l) 64 with q | ⟨t, h1, ⟨h2, h2'⟩, h3⟩
    · omega
    · have hor := chN_or (P := P) (sl := sl) (h := h) r t
      obtain ⟨s, s1, s2, s3⟩ := chN_hit hw r (by omega) t h1 (by omega)
      obtain ⟨c1, c2⟩ := canF_bits.mp h2
      have hne : ∀ k, k < r → va_up s r l k = s k := fun k hk => va_up_ne _ _ (by omega)
      refine ⟨va_up s r l, ⟨fun k hk c q => ?_, fun k hk c q => ?_, fun k hk c q => ?_⟩, fun k hk => ?_, ?_⟩
      · by_cases e : k = r
        · subst e; rw [va_up_self] at q; exact row_bits.mp (c1 c) q
        · rw [hne k (by omega)] at q; exact s1.1 k (by omega) c q
      · by_cases e : k = r
        · subst e; rw [va_up_self] at q; exact c2 c q
        · rw [hne k (by omega)] at q; exact s1.2.1 k (by omega) c q
      · by_cases e : k + 1 = r
        · rw [e, va_up_self, hne k (by omega), s2 k e.symm] at q
          exact bits_and.mp h2' c ⟨q.2, q.1⟩
        · rw [hne k (by omega), hne (k + 1) (by omega)] at q; exact s1.2.2 k (by omega) c q
      · obtain rfl : k = r := by omega
        exact va_up_self _ _ _
      · rw [nSum, va_up_self, nSum_eqF r (fun k hk => show popN (va_up s r l k) 6 = popN (s k) 6 by rw [hne k hk]), h3, s3]
        omega
theorem chN_low (hw : P.2.2.2.1 ≤ 6) {s : Nat → Nat} {R : Nat} (hs : layQ R P.2.2.2.1 (rowF P sl h) s) : ∀ r, r ≤ R → ((nSum (fun k => popN (s k) 6) r : Nat) : Int) ≤ chN P sl h r (if r = 0 then 0 else s (r - 1))
  | 0, _ => by rw [if_pos rfl, chN]; exact Int.le_refl 0
  | r + 1, hr => by
    have ih := chN_low hw hs r (by omega)
    rw [if_neg (by omega), show r + 1 - 1 = r by omega, nSum, chN]
    show _ ≤ chT (chN P sl h r) (frN sl (r * P.2.2.2.1) h P.2.2.2.1) (s r) 64
    have h64 : ∀ k, k < R → s k < 64 := fun k hk => Nat.lt_of_lt_of_le (lay_lt hs hk) (Nat.pow_le_pow_right (n := 2) (j := 6) (by omega) hw)
    have hcan : canF (s r) (frN sl (r * P.2.2.2.1) h P.2.2.2.1) := canF_bits.mpr ⟨fun c => row_bits.mpr (hs.1 r (by omega) c), hs.2.1 r (by omega)⟩
    have hge := chT_ge (M := chN P sl h r) (fr := frN sl (r * P.2.2.2.1) h P.2.2.2.1) (s := s r) (t := if r = 0 then 0 else s (r - 1)) ⟨hcan, by
      by_cases e : r = 0
      · rw [if_pos e]; exact Nat.and_zero _
      · rw [if_neg e]
        refine bits_and.mpr (fun c q => ?_)
        have := hs.2.2 (r - 1) (by omega) c
        rw [show r - 1 + 1 = r by omega] at this
        exact this ⟨q.2, q.1⟩⟩ 64 (by
      by_cases e : r = 0
      · rw [if_pos e]; omega
      · rw [if_neg e]; exact h64 (r - 1) (by omega))
    omega
/-! column by column -/
abbrev colF (P : PL) (S : ST) (h : Nat) (c r : Nat) : Prop := sAt S ((r * P.2.2.2.1 + c : Nat) : Int) ≤ h
theorem most_ge {bf : Nat → Int} {fl l : Nat} (hc : l &&& fl = 0) : ∀ n, l < n → bf l ≤ mostW bf fl n
  | 0, h => absurd h (Nat.not_lt_zero l)
  | n + 1, h => by
    rw [mostW]
    by_cases e : l = n
    · subst e; rw [if_pos hc]; omega
    · have := most_ge (bf := bf) hc n (show l < n by omega)
      split <;> omega
theorem most_at0 {bf : Nat → Int} {fl : Nat} : ∀ n, mostW bf fl n = 0 ∨ ∃ l, l < n ∧ l &&& fl = 0 ∧ mostW bf fl n = bf l
  | 0 => Or.inl rfl
  | n + 1 => by
    have ih : mostW bf fl n = 0 ∨ ∃ l, l < n + 1 ∧ l &&& fl = 0 ∧ mostW bf fl n = bf l := (most_at0 (bf := bf) (fl := fl) n).imp id (fun ⟨t, h1, h2⟩ => ⟨t, by omega, h2⟩)
    rw [mostW]
    by_cases q : n &&& fl = 0
    · rw [if_pos q]
      rcases Int.le_total (bf n) (mostW bf fl n) with q2 | q2
      · rw [Int.max_eq_left q2]; exact ih
      · rw [Int.max_eq_right q2]; exact Or.inr ⟨n, by omega, q, rfl⟩
    · rw [if_neg q]; exact ih
theorem most_at {bf : Nat → Int} {fl : Nat} (h0 : 0 ≤ bf 0) : ∃ l, l < 16 ∧ l &&& fl = 0 ∧ mostW bf fl 16 = bf l := by
  rcases most_at0 (bf := bf) (fl := fl) 16 with q | q
  · have := most_ge (bf := bf) (fl := fl) (l := 0) (Nat.zero_and _) 16 (by omega)
    exact ⟨0, by omega, Nat.zero_and _, by omega⟩
  · exact q
theorem seat_0 : ∀ c, 0 ≤ seatN P S h c 0
  | 0 => Int.le_refl 0
  | c + 1 => by
    show 0 ≤ stepV _ _ 0
    unfold stepV
    rw [if_pos ⟨Nat.zero_and _, Nat.zero_and _⟩]
    have := most_ge (bf := seatN P S h c) (fl := 0) (l := 0) (Nat.zero_and _) 16 (by omega)
    have := seat_0 c
    omega
theorem col_bits {r c : Nat} {s : Nat} : (s.testBit r = true → (freeN P S c h P.2.2.2.2.1).testBit r = true) ↔ (s.testBit r = true → r < P.2.2.2.2.1 ∧ colF P S h c r) := by
  rw [freeN_bit]
theorem seat_hit : ∀ c l, l < 16 → 0 ≤ seatN P S h c l → ∃ s : Nat → Nat, layQ c P.2.2.2.2.1 (colF P S h) s ∧ (∀ k, c = k + 1 → s k = l) ∧ seatN P S h c l = ((nSum (fun k => popN (s k) 6) c : Nat) : Int)
  | 0, l, _, h0 => ⟨fun _ => 0, ⟨fun r hr => absurd hr (Nat.not_lt_zero r), fun r hr => absurd hr (Nat.not_lt_zero r), fun r hr => absurd hr (Nat.not_lt_zero _)⟩, fun k hk => absurd hk (by omega), by
      rw [seatN] at h0 ⊢
      have h0 : 0 ≤ (if l = 0 then (0 : Int) else -1) := h0
      show (if l = 0 then (0 : Int) else -1) = 0
      by_cases e : l = 0
      · rw [if_pos e]
      · rw [if_neg e] at h0; omega⟩
  | r + 1, l, hl, h0 => by
    have e : seatN P S h (r + 1) l = stepV (seatN P S h r) (freeN P S r h P.2.2.2.2.1) l := rfl
    rw [e] at h0 ⊢
    unfold stepV at h0 ⊢
    by_cases q : canF l (freeN P S r h P.2.2.2.2.1)
    · rw [if_pos q] at h0 ⊢
      obtain ⟨t, h1, h2, h3⟩ := most_at (bf := seatN P S h r) (fl := l) (seat_0 r)
      have hge := most_ge (bf := seatN P S h r) (fl := l) (l := 0) (Nat.zero_and _) 16 (by omega)
      have h00 := seat_0 (P := P) (S := S) (h := h) r
      obtain ⟨s, s1, s2, s3⟩ := seat_hit r t h1 (by omega)
      obtain ⟨c1, c2⟩ := canF_bits.mp q
      have hne : ∀ k, k < r → va_up s r l k = s k := fun k hk => va_up_ne _ _ (by omega)
      refine ⟨va_up s r l, ⟨fun k hk c q => ?_, fun k hk c q => ?_, fun k hk c q => ?_⟩, fun k hk => ?_, ?_⟩
      · by_cases e : k = r
        · subst e; rw [va_up_self] at q; exact col_bits.mp (c1 c) q
        · rw [hne k (by omega)] at q; exact s1.1 k (by omega) c q
      · by_cases e : k = r
        · subst e; rw [va_up_self] at q; exact c2 c q
        · rw [hne k (by omega)] at q; exact s1.2.1 k (by omega) c q
      · by_cases e : k + 1 = r
        · rw [e, va_up_self, hne k (by omega), s2 k e.symm] at q
          exact bits_and.mp h2 c q
        · rw [hne k (by omega), hne (k + 1) (by omega)] at q; exact s1.2.2 k (by omega) c q
      · obtain rfl : k = r := by omega
        exact va_up_self _ _ _
      · rw [nSum, va_up_self, nSum_eqF r (fun k hk => show popN (va_up s r l k) 6 = popN (s k) 6 by rw [hne k hk]), h3, s3]
        omega
    · rw [if_neg q] at h0; omega
theorem seat_low (hr4 : P.2.2.2.2.1 ≤ 4) {s : Nat → Nat} {C : Nat} (hs : layQ C P.2.2.2.2.1 (colF P S h) s) : ∀ c, c ≤ C → ((nSum (fun k => popN (s k) 6) c : Nat) : Int) ≤ seatN P S h c (if c = 0 then 0 else s (c - 1))
  | 0, _ => by rw [if_pos rfl, seatN]; exact Int.le_refl 0
  | r + 1, hr => by
    have ih := seat_low hr4 hs r (by omega)
    rw [if_neg (by omega), show r + 1 - 1 = r by omega, nSum, seatN]
    show _ ≤ stepV (seatN P S h r) (freeN P S r h P.2.2.2.2.1) (s r)
    have h16 : ∀ k, k < C → s k < 16 := fun k hk => Nat.lt_of_lt_of_le (lay_lt hs hk) (Nat.pow_le_pow_right (n := 2) (j := 4) (by omega) hr4)
    have hcan : canF (s r) (freeN P S r h P.2.2.2.2.1) := canF_bits.mpr ⟨fun c => col_bits.mpr (hs.1 r (by omega) c), hs.2.1 r (by omega)⟩
    unfold stepV
    rw [if_pos hcan]
    have hge := most_ge (bf := seatN P S h r) (fl := s r) (l := if r = 0 then 0 else s (r - 1)) (by
      by_cases e : r = 0
      · rw [if_pos e]; exact Nat.zero_and _
      · rw [if_neg e]
        refine bits_and.mpr (fun c q => ?_)
        have := hs.2.2 (r - 1) (by omega) c
        rw [show r - 1 + 1 = r by omega] at this
        exact this q) 16 (by
      by_cases e : r = 0
      · rw [if_pos e]; omega
      · rw [if_neg e]; exact h16 (r - 1) (by omega))
    omega
theorem chairs_eq (hp : pOK P) (hsl : ∀ k, k < pCells P → sl k = sAt S (k : Int)) : maxTo (chN P sl h P.2.2.2.2.1) 64 = seatR P S h := by
  obtain ⟨-, -, -, hw, hr, -, -⟩ := hp
  have hin : ∀ r c, r < P.2.2.2.2.1 → c < P.2.2.2.1 → r * P.2.2.2.1 + c < pCells P := fun r c h1 h2 => by
    have h3 : (r + 1) * P.2.2.2.1 ≤ P.2.2.2.2.1 * P.2.2.2.1 := Nat.mul_le_mul_right _ h1
    rw [Nat.succ_mul] at h3
    unfold pCells
    omega
  apply Int.le_antisymm
  · unfold seatR
    rcases maxTo_at (bf := chN P sl h P.2.2.2.2.1) 64 with q | ⟨l, h1, h2⟩
    · rw [q]; exact maxTo_pos _
    · have hpos := maxTo_pos (bf := chN P sl h P.2.2.2.2.1) 64
      obtain ⟨s, s1, s2, s3⟩ := chN_hit hw _ hr l h1 (h2 ▸ hpos)
      have t1 := layQ_F (layQ_tr s1) (G := colF P S h) (fun c r hc hr h9 => by
        have h9 : sl (r * P.2.2.2.1 + c) ≤ h := h9
        rw [hsl _ (hin r c hr hc)] at h9
        exact h9)
      have t2 := seat_low hr t1 P.2.2.2.1 (Nat.le_refl _)
      rw [← lay_sum (by omega) hw s1, ← s3, ← h2] at t2
      refine Int.le_trans t2 (maxTo_ge 16 ?_)
      by_cases e : P.2.2.2.1 = 0
      · rw [if_pos e]; omega
      · rw [if_neg e]
        exact Nat.lt_of_lt_of_le (lay_lt t1 (by omega)) (Nat.pow_le_pow_right (n := 2) (j := 4) (by omega) hr)
  · unfold seatR
    rcases maxTo_at (bf := seatN P S h P.2.2.2.1) 16 with q | ⟨l, h1, h2⟩
    · rw [q]; exact maxTo_pos _
    · have hpos := maxTo_pos (bf := seatN P S h P.2.2.2.1) 16
      obtain ⟨s, s1, s2, s3⟩ := seat_hit _ l h1 (h2 ▸ hpos)
      have t1 := layQ_F (layQ_tr s1) (G := rowF P sl h) (fun r c hr hc h9 => by
        have h9 : sAt S ((r * P.2.2.2.1 + c : Nat) : Int) ≤ h := h9
        rw [← hsl _ (hin r c hr hc)] at h9
        exact h9)
      have t2 := chN_low hw t1 P.2.2.2.2.1 (Nat.le_refl _)
      rw [← lay_sum hw (by omega) s1, ← s3, ← h2] at t2
      refine Int.le_trans t2 (maxTo_ge 64 ?_)
      by_cases e : P.2.2.2.2.1 = 0
      · rw [if_pos e]; omega
      · rw [if_neg e]
        exact Nat.lt_of_lt_of_le (lay_lt t1 (by omega)) (Nat.pow_le_pow_right (n := 2) (j := 6) (by omega) hw)
theorem chairs_z (hp : pOK P) (hsl : ∀ k, k < pCells P → sl k = sAt S (k : Int)) (z : Int) : (if 0 ≤ z ∧ z ≤ 40 then maxTo (chN P sl z.toNat P.2.2.2.2.1) 64 else -1) = zChairs P S z := by
  unfold zChairs
  rw [chairs_eq hp hsl]
end CHAIRS
