/-! the reference's slots and a standing -/
def rS (f : Nat → Nat) (b : Nat) (S : ST) : Prop := (∀ k, k < 24 → f (b + k) = S.1 k) ∧ (∀ k, k < 3 → f (b + 24 + k) = S.2.1 k) ∧ f (b + 31) = S.2.2.2.2
def rA (P : PL) (f : Nat → Nat) (b : Nat) (S : ST) : Prop := ∀ k, k < P.2.2.2.2.2.2 → f (b + 27 + k) = S.2.2.1 k
def rF (P : PL) (f : Nat → Nat) (b : Nat) (S : ST) : Prop := rS f b S ∧ rA P f b S ∧ f (b + 30) = S.2.2.2.1
def rC (P : PL) (so cl de si : Nat → Nat) : Prop := ∀ k, k < P.2.2.2.2.2.1 → so k = P.2.1 (k * 4 + 0) ∧ cl k = P.2.1 (k * 4 + 1) ∧ de k = P.2.1 (k * 4 + 2) ∧ si k = P.2.1 (k * 4 + 3)
def rM (P : PL) (wa ir ms : Nat → Nat) : Prop := ∀ k, k < P.2.2.2.2.2.2 → wa k = P.2.2.1 (k * 4 + 0) ∧ ir k = P.2.2.1 (k * 4 + 1) ∧ ms k = P.2.2.1 (k * 4 + 2)
theorem sRaise_at {T : ST} (hT : sHi T) {z : Int} (hz : -1 ≤ z ∧ z < 24) {v k : Nat} (hk : k < 24) : (sRaise T z v).1 k = if z = (k : Int) then min 40 (T.1 k + v) else T.1 k := by
  unfold sRaise
  by_cases q : z = (k : Int)
  · rw [if_pos q, sSet_at q.symm hk]
    subst q
    unfold sAt clH
    rw [if_pos (by omega), Int.toNat_natCast]
    omega
  · rw [if_neg q, sSet_other (fun e => q e.symm)]
theorem sLower_at {T : ST} (hT : sHi T) {z : Int} (hz : -1 ≤ z ∧ z < 24) {v k : Nat} (hk : k < 24) : (sLower T z v).1 k = if z = (k : Int) then T.1 k - v else T.1 k := by
  have := hT k
  unfold sLower
  by_cases q : z = (k : Int)
  · rw [if_pos q, sSet_at q.symm hk]
    subst q
    unfold sAt clH
    rw [if_pos (by omega), Int.toNat_natCast]
    omega
  · rw [if_neg q, sSet_other (fun e => q e.symm)]
theorem sRaise_m1 (T : ST) (v : Nat) : sRaise T (-1) v = T := by
  unfold sRaise sSet
  rw [if_neg (by omega)]
theorem raise_rel {f : Nat → Nat} {b x v : Nat} {S : ST} (h : rS f b S) (hx : x < 24) (hs : sHi S) : rS (rRai f b x v) b (sRaise S ((x : Nat) : Int) v) := by
  obtain ⟨h1, h2, h3⟩ := h
  refine ⟨fun k hk => ?_, fun k hk => ?_, ?_⟩
  · rw [sRaise_at hs (by omega) hk, rRai]
    by_cases q : x = k
    · subst q
      rw [if_pos rfl, upEq, h1 x hx]
    · rw [if_neg (by omega), upNe (by omega), h1 k hk]
  · rw [rRai, upNe (by omega), h2 k hk, sRaise_2]
  · rw [rRai, upNe (by omega), h3, sRaise_2]
theorem wayZ_ne {P : PL} (hp : pOK P) {x : Nat} (hx : x < pCells P) : (wayZ P x 0 = wayZ P x 1 → wayZ P x 0 = -1) ∧ (wayZ P x 0 = wayZ P x 3 → wayZ P x 0 = -1) ∧ (wayZ P x 0 = wayZ P x 4 → wayZ P x 0 = -1) ∧ (wayZ P x 1 = wayZ P x 3 → wayZ P x 1 = -1) ∧ (wayZ P x 1 = wayZ P x 4 → wayZ P x 1 = -1) ∧ (wayZ P x 3 = wayZ P x 4 → wayZ P x 3 = -1) := by
  have h1 := pWi_pos hx
  have hw : P.2.2.2.1 ≤ 6 := hp.2.2.2.1
  unfold wayZ
  generalize pCells P = n at hx
  generalize hww : P.2.2.2.1 = w at hw h1
  rcases (show w = 1 ∨ w = 2 ∨ w = 3 ∨ w = 4 ∨ w = 5 ∨ w = 6 by omega) with rfl | rfl | rfl | rfl | rfl | rfl <;> simp <;> omega
theorem fair_at {P : PL} {f : Nat → Nat} {x v b : Nat} : ∀ n k, rFair P f x v b n (b + k) = if k < n then min 40 (f (b + k) + (if nxt P x k then v else 0)) else f (b + k)
  | 0, k => by rw [if_neg (by omega)]; rfl
  | n + 1, k => by
    rw [rFair, rRai]
    by_cases q : k = n
    · subst q
      rw [upEq, fair_at k k, if_neg (show ¬ k < k by omega), if_pos (show k < k + 1 by omega)]
    · rw [upNe (by omega), fair_at n k]
      by_cases q2 : k < n
      · rw [if_pos q2, if_pos (show k < n + 1 by omega)]
      · rw [if_neg q2, if_neg (show ¬ k < n + 1 by omega)]
theorem fairS_at {P : PL} {T : ST} {x v k : Nat} (hp : pOK P) (hx : x < pCells P) (hT : sHi T) (hk : k < 24) : (sRaise (sRaise (sRaise (sRaise T (wayZ P x 0) v) (wayZ P x 1) v) (wayZ P x 3) v) (wayZ P x 4) v).1 k = min 40 (T.1 k + (if nxt P x k then v else 0)) := by
  have a0 := wayZ_w hp hx 0
  have a1 := wayZ_w hp hx 1
  have a3 := wayZ_w hp hx 3
  have a4 := wayZ_w hp hx 4
  have hd := wayZ_ne hp hx
  rw [sRaise_at (sRaise_hi (sRaise_hi (sRaise_hi hT _ _) _ _) _ _) a4 hk, sRaise_at (sRaise_hi (sRaise_hi hT _ _) _ _) a3 hk, sRaise_at (sRaise_hi hT _ _) a1 hk, sRaise_at hT a0 hk]
  have := hT k
  unfold nxt
  generalize wayZ P x 0 = y0 at *
  generalize wayZ P x 1 = y1 at *
  generalize wayZ P x 3 = y3 at *
  generalize wayZ P x 4 = y4 at *
  by_cases q0 : y0 = (k : Int)
  · rw [if_pos q0, if_neg (by omega), if_neg (by omega), if_neg (by omega), if_pos (Or.inl q0)]
  · rw [if_neg q0]
    by_cases q1 : y1 = (k : Int)
    · rw [if_pos q1, if_neg (by omega), if_neg (by omega), if_pos (Or.inr (Or.inl q1))]
    · rw [if_neg q1]
      by_cases q3 : y3 = (k : Int)
      · rw [if_pos q3, if_neg (by omega), if_pos (Or.inr (Or.inr (Or.inl q3)))]
      · rw [if_neg q3]
        by_cases q4 : y4 = (k : Int)
        · rw [if_pos q4, if_pos (Or.inr (Or.inr (Or.inr q4)))]
        · rw [if_neg q4, if_neg (by omega)]
          omega
section REL
variable {P : PL} {S : ST} {f so cl de si ms wa ir : Nat → Nat} {b k st x : Nat}
theorem own_rel (hw : pWF P) (hc : rC P so cl de si) (hk : k < P.2.2.2.2.2.1) (h : rS f b S) : rOwn f so cl de b k = raiseOwn P k (sAt S ((P.2.1 (k * 4 + 1) : Nat) : Int)) := by
  obtain ⟨c1, c2, c3, c4⟩ := hc k hk
  have hce := hw.2.2.1 k hk
  have hcl := pCells_le hw.1
  have e : sAt S ((P.2.1 (k * 4 + 1) : Nat) : Int) = f (b + cl k) := by
    unfold sAt
    rw [if_pos (by omega), Int.toNat_natCast, c2, h.1 _ (by omega)]
  unfold rOwn raiseOwn
  rw [e, c1, c3]
  (repeat' split) <;> first | rfl | omega
theorem com_rel (hw : pWF P) (hc : rC P so cl de si) (hk : k < P.2.2.2.2.2.1) (h : rS f b S) (hs : sHi S) : rS (rCom P f so cl de b k) b (comeS P S k) := by
  have ho := own_rel hw hc hk h
  obtain ⟨c1, c2, c3, c4⟩ := hc k hk
  have hce := hw.2.2.1 k hk
  have hcl := pCells_le hw.1
  have r1 : rS (rRai f b (cl k) (rOwn f so cl de b k)) b (sRaise S ((P.2.1 (k * 4 + 1) : Nat) : Int) (raiseOwn P k (sAt S ((P.2.1 (k * 4 + 1) : Nat) : Int)))) := by
    rw [ho, c2]
    exact raise_rel h (by omega) hs
  unfold rCom comeS
  by_cases q1 : P.2.1 (k * 4 + 0) = 1
  · rw [if_pos q1, if_neg (by omega)]
    unfold rCom1
    rw [hbh_iff hce]
    by_cases q2 : hbh P (P.2.1 (k * 4 + 1))
    · have hr := row_in hce q2
      rw [if_pos q2, if_pos ⟨by omega, by rw [c2]; exact q2⟩, c3]
      rw [c2] at r1 ⊢
      exact raise_rel r1 (by omega) (sRaise_hi hs _ _)
    · rw [if_neg q2, if_neg (fun q => q2 (by rw [← c2]; exact q.2)), sRaise_m1]
      exact r1
  · rw [if_neg q1]
    have e1 : rCom1 P f so cl de b k = rRai f b (cl k) (rOwn f so cl de b k) := by
      unfold rCom1
      rw [if_neg (fun q => q1 (by omega))]
    by_cases q2 : P.2.1 (k * 4 + 0) = 2
    · rw [if_pos q2, if_pos (by omega), e1]
      refine ⟨fun j hj => ?_, fun j hj => ?_, ?_⟩
      · rw [fairS_at hw.1 hce (sRaise_hi hs _ _) hj, fair_at, r1.1 j hj, c2, c3]
        by_cases q : j < pCells P
        · rw [if_pos q]
        · have hn : ¬ nxt P (P.2.1 (k * 4 + 1)) j := by
            have a0 := (wayZ_rng hce 0).2
            have a1 := (wayZ_rng hce 1).2
            have a3 := (wayZ_rng hce 3).2
            have a4 := (wayZ_rng hce 4).2
            unfold nxt
            omega
          have := sRaise_hi hs ((P.2.1 (k * 4 + 1) : Nat) : Int) (raiseOwn P k (sAt S ((P.2.1 (k * 4 + 1) : Nat) : Int))) j
          rw [if_neg q, if_neg hn]
          omega
      · rw [rFair_out _ (by omega), r1.2.1 j hj]
        simp only [sRaise_2]
      · rw [rFair_out _ (by omega), r1.2.2]
        simp only [sRaise_2]
    · rw [if_neg q2, if_neg (by omega), e1]
      exact r1
theorem rCom_out (hx : cl k < pCells P) (hc : pCells P ≤ 24) {j : Nat} (hj : j < b ∨ b + 24 ≤ j) : rCom P f so cl de b k j = f j := by
  have e1 : rCom1 P f so cl de b k j = f j := by
    unfold rCom1
    split
    · next q =>
      have := row_in hx q.2
      rw [rRai, upNe (by omega), rRai, upNe (by omega)]
    · rw [rRai, upNe (by omega)]
  unfold rCom
  split
  · rw [rFair_out _ (by omega)]
    exact e1
  · exact e1
theorem goC_out (hcl : ∀ j, j < P.2.2.2.2.2.1 → cl j < pCells P) (hc : pCells P ≤ 24) {j : Nat} (hj : j < b ∨ b + 24 ≤ j) : ∀ n, n ≤ P.2.2.2.2.2.1 → rGoC P f so cl de si b st n j = f j
  | 0, _ => rfl
  | n + 1, h => by
    have ih := goC_out hcl hc hj n (by omega)
    rw [rGoC]
    split
    · rw [rCom_out (hcl n (by omega)) hc hj]
      exact ih
    · exact ih
theorem goM_out {j : Nat} : ∀ n, n ≤ 3 → (j < b + 24 ∨ b + 27 ≤ j) → rGoM f ms b n j = f j
  | 0, _, _ => rfl
  | n + 1, h, hj => by
    rw [rGoM, upNe (by omega)]
    exact goM_out n (by omega) hj
theorem go_out (hw : pWF P) (hcl : ∀ j, j < P.2.2.2.2.2.1 → cl j < pCells P) {j : Nat} (hj : j < b ∨ b + 32 ≤ j ∨ (b + 27 ≤ j ∧ j ≤ b + 30)) : rGo P so cl de si ms b st f j = f j := by
  have h3 : P.2.2.2.2.2.2 ≤ 3 := hw.1.2.2.2.2.2.2
  unfold rGo
  rw [upNe (by omega), goM_out _ h3 (by omega), goC_out hcl (pCells_le hw.1) (by omega) _ (Nat.le_refl _)]
theorem goC_rel (hw : pWF P) (hc : rC P so cl de si) (h : rS f b S) (hs : sHi S) (hst : ∀ k, k < P.2.2.2.2.2.1 → (st / 2 ^ k % 2 = 1 ↔ ¬ sPard S k)) : ∀ n, n ≤ P.2.2.2.2.2.1 → rS (rGoC P f so cl de si b st n) b (yrFold P S n)
  | 0, _ => h
  | n + 1, hn => by
    have ih := goC_rel hw hc h hs hst n (by omega)
    have e2 := yrFold_2 (P := P) (S := S) n
    have eq : (st / 2 ^ n % 2 = 1 ∧ si n ≤ rGoC P f so cl de si b st n (b + 31)) ↔ yrIf P (yrFold P S n) n := by
      unfold yrIf sPard
      rw [ih.2.2, (hc n (by omega)).2.2.2, hst n (by omega), and_comm, e2]
    rw [rGoC, yrFold]
    by_cases q : yrIf P (yrFold P S n) n
    · rw [if_pos (eq.mpr q), if_pos q]
      exact com_rel hw hc (by omega) ih (yrFold_hi hs n)
    · rw [if_neg (fun q2 => q (eq.mp q2)), if_neg q]
      exact ih
theorem goM_rel (hm : rM P wa ir ms) (h : rS f b S) : ∀ n, n ≤ P.2.2.2.2.2.2 → n ≤ 3 → rS (rGoM f ms b n) b (S.1, giveLe P S.2.1 n, S.2.2)
  | 0, _, _ => h
  | n + 1, hn, h3 => by
    obtain ⟨i1, i2, i3⟩ := goM_rel hm h n (by omega) (by omega)
    refine ⟨fun k hk => ?_, fun k hk => ?_, ?_⟩
    · rw [rGoM, upNe (by omega)]
      exact i1 k hk
    · show rGoM f ms b (n + 1) (b + 24 + k) = giveLe P S.2.1 (n + 1) k
      rw [rGoM, giveLe]
      by_cases q : k = n
      · subst q
        rw [upEq, upEq, (hm k (by omega)).2.2]
      · rw [upNe (by omega), upNe q]
        exact i2 k hk
    · rw [rGoM, upNe (by omega)]
      exact i3
theorem go_rel (hw : pWF P) (hc : rC P so cl de si) (hm : rM P wa ir ms) (h : rS f b S) (hs : sHi S) (hst : ∀ k, k < P.2.2.2.2.2.1 → (st / 2 ^ k % 2 = 1 ↔ ¬ sPard S k)) : rS (rGo P so cl de si ms b st f) b (yearS P S) := by
  have h3 : P.2.2.2.2.2.2 ≤ 3 := hw.1.2.2.2.2.2.2
  obtain ⟨i1, i2, i3⟩ := goM_rel hm (goC_rel hw hc h hs hst _ (Nat.le_refl _)) _ (Nat.le_refl _) h3
  unfold rGo
  refine ⟨fun k hk => ?_, fun k hk => ?_, ?_⟩
  · rw [upNe (by omega)]
    exact i1 k hk
  · rw [upNe (by omega)]
    exact i2 k hk
  · rw [upEq, i3]
    rfl
theorem str_rel (hw : pWF P) (hm : rM P wa ir ms) (hk : k < P.2.2.2.2.2.2) (hx : x < pCells P) (h : rS f b S) (ha : rA P f b S) (hs : sHi S) : rS (rStr P wa ir b k x f) b (strS P S k x) ∧ rA P (rStr P wa ir b k x f) b (strS P S k x) ∧ ∀ j, (j < b ∨ b + 30 ≤ j) → rStr P wa ir b k x f j = f j := by
  have h3 : P.2.2.2.2.2.2 ≤ 3 := hw.1.2.2.2.2.2.2
  have hcl := pCells_le hw.1
  obtain ⟨m1, m2, m3⟩ := hm k hk
  have hz := wayZ_w hw.1 hx 3
  have e1 : sAt S ((x : Nat) : Int) = f (b + x) := by
    unfold sAt
    rw [if_pos (by omega), Int.toNat_natCast, h.1 x (by omega)]
  have et : ∀ y, rTak wa ir k y = min (takeS P k y) y := fun y => by
    unfold rTak takeS
    rw [m1, m2]
  have hsub : ∀ a y : Nat, y - min a y = y - a := fun a y => by omega
  have hlo : ∀ j, j < 24 → rStr2 P f wa ir b k x (b + j) = (strS P S k x).1 j := by
    intro j hj
    show _ = (sLower (sLower S ((x : Nat) : Int) (takeS P k (sAt S ((x : Nat) : Int)))) (wayZ P x 3) (takeA P k)).1 j
    rw [sLower_at (sLower_hi hs _ _) hz hj, sLower_at hs (by omega) hj, e1]
    have er : ∀ j, j < 24 → rStr1 f wa ir b k x (b + j) = if ((x : Nat) : Int) = (j : Int) then S.1 j - takeS P k (f (b + x)) else S.1 j := by
      intro j hj
      rw [rStr1]
      by_cases q : x = j
      · subst q
        rw [upEq, if_pos rfl, et, hsub, h.1 x hj]
      · rw [upNe (by omega), if_neg (by omega), h.1 j hj]
    unfold rStr2 takeA
    rw [hbh_iff hx, m1, m2]
    by_cases q1 : P.2.2.1 (k * 4 + 0) = 1
    · rw [if_pos q1]
      by_cases q2 : hbh P x
      · have hr := row_in hx q2
        rw [if_pos ⟨q1, q2⟩, if_pos q2]
        by_cases q3 : j = x + 1
        · subst q3
          rw [if_pos rfl, show b + x + 1 = b + (x + 1) from rfl, upEq, er _ (by omega)]
        · rw [if_neg (by omega), upNe (by omega), er _ hj]
      · rw [if_neg (fun q => q2 q.2), if_neg q2, if_neg (by omega), er _ hj]
    · rw [if_neg q1, if_neg (fun q => q1 q.1), er _ hj, Nat.sub_zero]
      by_cases q2 : hbh P x
      · rw [if_pos q2]
        split <;> split <;> rfl
      · rw [if_neg q2]
        (repeat' split) <;> rfl
  have hhi : ∀ j, (j < b ∨ b + 24 ≤ j) → rStr2 P f wa ir b k x j = f j := by
    intro j hj
    unfold rStr2
    split
    · next q =>
      have := row_in hx q.2
      rw [upNe (by omega), rStr1, upNe (by omega)]
    · rw [rStr1, upNe (by omega)]
  unfold rStr
  refine ⟨⟨fun j hj => ?_, fun j hj => ?_, ?_⟩, fun j hj => ?_, fun j hj => ?_⟩
  · rw [upNe (by omega), upNe (by omega), hlo j hj]
  · rw [strS_le]
    by_cases q : j = k
    · subst q
      rw [upEq, upEq, upNe (by omega), hhi _ (by omega), h.2.1 j hj]
    · rw [upNe (by omega), upNe (by omega), upNe q, hhi _ (by omega), h.2.1 j hj]
  · rw [upNe (by omega), upNe (by omega), hhi _ (by omega), h.2.2, strS_rest]
  · rw [strS_pl, upNe (by omega)]
    by_cases q : j = k
    · subst q
      rw [upEq, upEq]
    · rw [upNe (by omega), upNe q, hhi _ (by omega), ha j hj]
  · rw [upNe (by omega), upNe (by omega), hhi _ (by omega)]
theorem can_rel (hk : k < P.2.2.2.2.2.2) (h3 : k < 3) (h : rS f b S) (ha : rA P f b S) : rCan P f b k x ↔ canS P S k x := by
  unfold rCan canS reach nxt
  rw [h.2.1 k h3, ha k hk]
  have e : wayZ P (S.2.2.1 k) 2 = ((S.2.2.1 k : Nat) : Int) := rfl
  rw [e]
  omega
end REL
