/-! the reference's acts -/
def sB (f : Nat → Nat) : Prop := (∀ j, f j < 90000) ∧ ∀ j, (j < 352 ∨ 384 ≤ j) → f j < 1100
theorem sB_h {f : Nat → Nat} (h : sB f) (j : Nat) : f j < 100000 := Nat.lt_trans (h.1 j) (by omega)
def shN (f : Nat → Nat) (n : Nat) : Nat → Nat := fun j => if 32 ≤ j ∧ j < 32 + n then f (j + 32) else f j
theorem shN_0 (f : Nat → Nat) : shN f (32 - 32) = f := by
  funext j
  unfold shN
  rw [if_neg (by omega)]
theorem shN_s {f g : Nat → Nat} {k : Nat} (h : g = shN f (k - 32)) (hk : 32 ≤ k) : va_up g k (g (k + 32)) = shN f (k + 1 - 32) := by
  subst h
  funext j
  unfold va_up shN
  by_cases e : j = k
  · subst e
    rw [if_pos rfl, if_neg (by omega), if_pos (by omega)]
  · rw [if_neg e]
    by_cases q : 32 ≤ j ∧ j < 32 + (k - 32)
    · rw [if_pos q, if_pos (by omega)]
    · rw [if_neg q, if_neg (by omega)]
def kn (f : Nat → Nat) (ac : Nat) : Nat → Nat := cpN (if ac = 8 then shN f 224 else f) 0 ((if ac = 8 then 8 else ac + 1) * 32) 32
theorem cpN_b {f : Nat → Nat} {a t n b : Nat} (h : ∀ j, f j < b) (j : Nat) : cpN f a t n j < b := by
  unfold cpN
  split
  · exact h _
  · exact h _
theorem shN_b {f : Nat → Nat} {n b : Nat} (h : ∀ j, f j < b) (j : Nat) : shN f n j < b := by
  unfold shN
  split
  · exact h _
  · exact h _
theorem kn_b {f : Nat → Nat} {ac b : Nat} (h : ∀ j, f j < b) (j : Nat) : kn f ac j < b := by
  unfold kn
  split
  · exact cpN_b (shN_b h) j
  · exact cpN_b h j
theorem kn_lo {f : Nat → Nat} {ac j : Nat} (hj : j < 32) : kn f ac j = f j := by
  unfold kn cpN
  rw [if_neg (by split <;> omega)]
  split
  · unfold shN
    rw [if_neg (by omega)]
  · rfl
theorem kn_hi {f : Nat → Nat} {ac j : Nat} (hc : ac ≤ 8) (hj : 288 ≤ j) : kn f ac j = f j := by
  unfold kn cpN
  rw [if_neg (by split <;> omega)]
  split
  · unfold shN
    rw [if_neg (by omega)]
  · rfl
theorem kn_sB {f : Nat → Nat} {ac : Nat} (h : sB f) (hc : ac ≤ 8) : sB (kn f ac) := by
  refine ⟨kn_b h.1, fun j hj => ?_⟩
  by_cases q : 288 ≤ j
  · rw [kn_hi hc q]; exact h.2 j hj
  · unfold kn cpN
    have hs : ∀ i, i < 352 → (if ac = 8 then shN f 224 else f) i < 1100 := by
      intro i hi
      split
      · unfold shN
        split
        · exact h.2 _ (by omega)
        · exact h.2 _ (by omega)
      · exact h.2 _ (by omega)
    generalize (if ac = 8 then shN f 224 else f) = g at hs ⊢
    generalize (if ac = 8 then 8 else ac + 1) * 32 = t
    split
    · exact hs (0 + (j - t)) (by omega)
    · exact hs j (by omega)
theorem rF_lo {P : PL} {f g : Nat → Nat} {b b2 : Nat} {S : ST} (hm : P.2.2.2.2.2.2 ≤ 3) (h : rF P f b S) (he : ∀ j, j < 32 → g (b2 + j) = f (b + j)) : rF P g b2 S := by
  obtain ⟨⟨h1, h2, h3⟩, h4, h5⟩ := h
  refine ⟨⟨fun k hk => ?_, fun k hk => ?_, ?_⟩, fun k hk => ?_, ?_⟩
  · rw [he k (by omega)]; exact h1 k hk
  · have := he (24 + k) (by omega)
    rw [← Nat.add_assoc, ← Nat.add_assoc] at this
    rw [this]; exact h2 k hk
  · rw [he 31 (by omega)]; exact h3
  · have := he (27 + k) (by omega)
    rw [← Nat.add_assoc, ← Nat.add_assoc] at this
    rw [this]; exact h4 k hk
  · rw [he 30 (by omega)]; exact h5
def zPass (S : ST) (n : Int) : Int := if 1 ≤ n ∧ n ≤ 20 then (if (S.2.2.2.2 : Int) + n ≤ 999 then (S.2.2.2.2 : Int) + n else -2) else -1
def zStroke (P : PL) (S : ST) (a z : Int) : Int := if okX P.2.2.2.2.2.2 a ∧ okX (pCells P) z then (if canS P S a.toNat z.toNat then (((strS P S a.toNat z.toNat).1 z.toNat : Nat) : Int) else -2) else -1
def zPardon (P : PL) (S : ST) (z : Int) : Int := if okX P.2.2.2.2.2.1 z then (if sPard S z.toNat then -2 else ((P.2.2.2.2.2.1 - popN (S.2.2.2.1 ||| 2 ^ z.toNat) 6 : Nat) : Int)) else -1
abbrev parS (S : ST) (k : Nat) : ST := (S.1, S.2.1, S.2.2.1, S.2.2.2.1 ||| 2 ^ k, S.2.2.2.2)
/-- whether an act is done -/
abbrev aStroke (P : PL) (S : ST) (a z : Int) : Prop := (okX P.2.2.2.2.2.2 a ∧ okX (pCells P) z) ∧ canS P S a.toNat z.toNat
abbrev aPass (S : ST) (n : Int) : Prop := (1 ≤ n ∧ n ≤ 20) ∧ (S.2.2.2.2 : Int) + n ≤ 999
abbrev aPardon (P : PL) (S : ST) (z : Int) : Prop := okX P.2.2.2.2.2.1 z ∧ ¬ sPard S z.toNat
/-- the slots behind an act: the undone ones as known, the first as it then stands -/
def aRel (P : PL) (sl : Nat → Nat) (ac : Nat) (f : Nat → Nat) (S : ST) : Prop := rF P f 0 S ∧ (∀ j, 32 ≤ j → f j = kn sl ac j) ∧ (∀ j, f j < 99000) ∧ ∀ j, P.2.2.2.2.2.2 ≤ j → j < 3 → f (27 + j) < 1100
theorem rStr_out {P : PL} {wa ir f : Nat → Nat} {k x j : Nat} (hx : x < pCells P) (hcl : pCells P ≤ 24) (h1 : 24 ≤ j) (h2 : j ≠ 27 + k) (h3 : j ≠ 24 + k) : rStr P wa ir 0 k x f j = f j := by
  have e1 : rStr1 f wa ir 0 k x j = f j := upNe (by omega)
  unfold rStr
  rw [upNe (by omega), upNe (by omega)]
  unfold rStr2
  by_cases q : wa k = 1 ∧ hbh P x
  · have := row_in hx q.2
    rw [if_pos q, upNe (by omega), e1]
  · rw [if_neg q, e1]
theorem rMat_own {P : PL} {S : ST} {sl so cl de si : Nat → Nat} {k : Nat} (hw : pWF P) (hc : rC P so cl de si) (hk : k < P.2.2.2.2.2.1) (h : rF P sl 0 S) : rOwn sl so cl de 0 k = raiseOwn P k (sAt S ((P.2.1 (k * 4 + 1) : Nat) : Int)) ∧ sl (cl k) = sAt S ((P.2.1 (k * 4 + 1) : Nat) : Int) := by
  refine ⟨own_rel hw hc hk h.1, ?_⟩
  have hce := hw.2.2.1 k hk
  have hcl := pCells_le hw.1
  unfold sAt
  rw [if_pos (by omega), Int.toNat_natCast, (hc k hk).2.1]
  have := h.1.1 _ (show P.2.1 (k * 4 + 1) < 24 by omega)
  rwa [Nat.zero_add] at this
theorem rF_at {P : PL} {S : ST} {sl : Nat → Nat} (h : rF P sl 0 S) {k : Nat} (hk : k < 24) : sl k = S.1 k := by
  have := h.1.1 k hk
  rwa [Nat.zero_add] at this
theorem rF_le {P : PL} {S : ST} {sl : Nat → Nat} (h : rF P sl 0 S) {k : Nat} (hk : k < 3) : sl (24 + k) = S.2.1 k := by
  have := h.1.2.1 k hk
  rwa [Nat.zero_add] at this
theorem rF_pl {P : PL} {S : ST} {sl : Nat → Nat} (h : rF P sl 0 S) {k : Nat} (hk : k < P.2.2.2.2.2.2) : sl (27 + k) = S.2.2.1 k := by
  have := h.2.1 k hk
  rwa [Nat.zero_add] at this
theorem rF_pd {P : PL} {S : ST} {sl : Nat → Nat} (h : rF P sl 0 S) : sl 30 = S.2.2.2.1 := h.2.2
theorem rF_yr {P : PL} {S : ST} {sl : Nat → Nat} (h : rF P sl 0 S) : sl 31 = S.2.2.2.2 := h.1.2.2
theorem sAt_n {S : ST} {k : Nat} (hk : k < 24) : sAt S ((k : Nat) : Int) = S.1 k := by
  unfold sAt
  rw [if_pos (by omega), Int.toNat_natCast]
theorem rTak_eq {P : PL} {wa ir ms : Nat → Nat} {k : Nat} (hm : rM P wa ir ms) (hk : k < P.2.2.2.2.2.2) (h : Nat) : rTak wa ir k h = min (takeS P k h) h := by
  unfold rTak takeS
  rw [(hm k hk).1, (hm k hk).2.1]
section ACTS
variable {P : PL} {S T : ST} {f sl so cl de si ms wa ir : Nat → Nat} {b k x n ac : Nat}
theorem stroke_rel (hw : pWF P) (hm : rM P wa ir ms) (hk : k < P.2.2.2.2.2.2) (hx : x < pCells P) (h : rF P sl 0 S) (hs : sHi S) (hb : sB sl) : aRel P sl ac (rStr P wa ir 0 k x (kn sl ac)) (strS P S k x) ∧ rStr P wa ir 0 k x (kn sl ac) x = (strS P S k x).1 x := by
  have h3 : P.2.2.2.2.2.2 ≤ 3 := hw.1.2.2.2.2.2.2
  have hcl := pCells_le hw.1
  have hk0 : rF P (kn sl ac) 0 S := rF_lo h3 h (fun j hj => by rw [Nat.zero_add]; exact kn_lo hj)
  obtain ⟨r1, r2, r3⟩ := str_rel hw hm hk hx hk0.1 hk0.2.1 hs
  refine ⟨⟨⟨r1, r2, ?_⟩, fun j hj => r3 j (by omega), fun j => Nat.lt_of_lt_of_le (rStr_b (kn_b hb.1) (by omega) j) (by omega), fun j hj1 hj2 => by
    rw [rStr_out hx hcl (by omega) (by omega) (by omega), kn_lo (by omega)]
    exact hb.2 _ (by omega)⟩, ?_⟩
  · rw [r3 _ (by omega), hk0.2.2, strS_rest]
  · have := r1.1 x (by omega)
    rwa [Nat.zero_add] at this
theorem year1_rel (hw : pWF P) (hc : rC P so cl de si) (hm : rM P wa ir ms) (h : rF P f b S) (hs : sHi S) (hp : S.2.2.2.1 < 64) : rF P (rGo P so cl de si ms b (opN P.2.2.2.2.2.1 (f (b + 30))) f) b (yearS P S) := by
  have h6 : P.2.2.2.2.2.1 ≤ 6 := hw.1.2.2.2.2.2.1
  have h3 : P.2.2.2.2.2.2 ≤ 3 := hw.1.2.2.2.2.2.2
  have hcl : ∀ j, j < P.2.2.2.2.2.1 → cl j < pCells P := fun j hj => by rw [(hc j hj).2.1]; exact hw.2.2.1 j hj
  refine ⟨go_rel hw hc hm h.1 hs (fun k hk => ?_), fun k hk => ?_, ?_⟩
  · rw [h.2.2]
    exact opN_has _ (by omega) _ hp k hk
  · rw [go_out hw hcl (by omega), yearS_pl]
    exact h.2.1 k hk
  · rw [go_out hw hcl (by omega), yearS_pa]
    exact h.2.2
def tRel (P : PL) (sl f : Nat → Nat) (T : ST) (n : Nat) : Prop := rF P f 352 T ∧ (∀ j, (j < 352 ∨ 384 ≤ j) → f j = sl j) ∧ ∀ j, f j < 1100 + n
def tEnd (sl f : Nat → Nat) : Prop := (∀ j, (j < 352 ∨ 384 ≤ j) → f j = sl j) ∧ ∀ j, f j < 90000
theorem tRel.fin (h : tRel P sl f T n) (hn : n ≤ 1000) : tEnd sl f := ⟨h.2.1, fun j => Nat.lt_of_lt_of_le (h.2.2 j) (by omega)⟩
theorem tRel.lt (h : tRel P sl f T n) (hn : n ≤ 1000) (j : Nat) : f j < 100000 := Nat.lt_of_lt_of_le (h.2.2 j) (by omega)
theorem tEnd.rf (h : sB sl) : tEnd sl sl := ⟨fun _ _ => rfl, h.1⟩
theorem try_init (hw : pWF P) (hb : sB sl) (h : rF P sl 0 S) : tRel P sl (cpN sl 0 352 32) S 0 := by
  refine ⟨rF_lo hw.1.2.2.2.2.2.2 h (fun j hj => ?_), fun j hj => ?_, fun j => ?_⟩
  · unfold cpN
    rw [if_pos (by omega), show 352 + j - 352 = j by omega]
  · unfold cpN
    rw [if_neg (by omega)]
  · unfold cpN
    split
    · exact hb.2 _ (by omega)
    · next q =>
      by_cases q2 : j < 352 ∨ 384 ≤ j
      · exact hb.2 j q2
      · omega
theorem try_year (hw : pWF P) (hc : rC P so cl de si) (hm : rM P wa ir ms) (hb : ∀ j, ms j < 100) (h : tRel P sl f T n) (hs : sHi T) (hp : T.2.2.2.1 < 64) : tRel P sl (rGo P so cl de si ms 352 (opN P.2.2.2.2.2.1 (f (352 + 30))) f) (yearS P T) (n + 1) := by
  have hcl : ∀ j, j < P.2.2.2.2.2.1 → cl j < pCells P := fun j hj => by rw [(hc j hj).2.1]; exact hw.2.2.1 j hj
  refine ⟨year1_rel hw hc hm h.1 hs hp, fun j hj => ?_, fun j => ?_⟩
  · rw [go_out hw hcl (by omega)]
    exact h.2.1 j hj
  · have := rGo_b (P := P) (so := so) (cl := cl) (de := de) (si := si) (bs := 352) (st := opN P.2.2.2.2.2.1 (f (352 + 30))) h.2.2 (by omega) hb j
    omega
theorem try_str (hw : pWF P) (hm : rM P wa ir ms) (hk : k < P.2.2.2.2.2.2) (hx : x < pCells P) (h : tRel P sl f T n) (hs : sHi T) : tRel P sl (rStr P wa ir 352 k x f) (strS P T k x) n := by
  have hcl := pCells_le hw.1
  obtain ⟨r1, r2, r3⟩ := str_rel hw hm hk hx h.1.1 h.1.2.1 hs
  refine ⟨⟨r1, r2, ?_⟩, fun j hj => ?_, rStr_b h.2.2 (by omega)⟩
  · rw [r3 _ (by omega), h.1.2.2, strS_rest]
  · rw [r3 j (by omega)]
    exact h.2.1 j hj
theorem par_rel (h : rF P f b S) (h3 : P.2.2.2.2.2.2 ≤ 3) : rF P (va_up f (b + 30) (f (b + 30) ||| 2 ^ k)) b (parS S k) := by
  obtain ⟨⟨h1, h2, h3⟩, h4, h5⟩ := h
  refine ⟨⟨fun j hj => ?_, fun j hj => ?_, ?_⟩, fun j hj => ?_, ?_⟩
  · rw [upNe (by omega)]; exact h1 j hj
  · rw [upNe (by omega)]; exact h2 j hj
  · rw [upNe (by omega)]; exact h3
  · rw [upNe (by omega)]; exact h4 j hj
  · rw [upEq, h5]
theorem try_par (hw : pWF P) (hk : k < P.2.2.2.2.2.1) (h : tRel P sl f T n) (hp : T.2.2.2.1 < 64) : tRel P sl (va_up f (352 + 30) (f (352 + 30) ||| 2 ^ k)) (parS T k) n := by
  have h6 : P.2.2.2.2.2.1 ≤ 6 := hw.1.2.2.2.2.2.1
  refine ⟨par_rel h.1 hw.1.2.2.2.2.2.2, fun j hj => ?_, va_up_b h.2.2 ?_⟩
  · rw [upNe (by omega)]
    exact h.2.1 j hj
  · rw [h.1.2.2]
    have := or_64 hp (show k < 6 by omega)
    omega
theorem nSum_congr {g h : Nat → Nat} : ∀ n, (∀ j, j < n → g j = h j) → nSum g n = nSum h n
  | 0, _ => rfl
  | n + 1, q => by rw [nSum, nSum, nSum_congr n (fun j hj => q j (by omega)), q n (by omega)]
theorem nCnt_congr {g h : Nat → Nat} {a : Nat} : ∀ n, (∀ j, j < n → g j = h j) → nCnt g a n = nCnt h a n
  | 0, _ => rfl
  | n + 1, q => by rw [nCnt, nCnt, nCnt_congr n (fun j hj => q j (by omega)), q n (by omega)]
theorem nSum_more {g : Nat → Nat} {n : Nat} : ∀ i, (∀ j, n ≤ j → j < n + i → g j = 0) → nSum g (n + i) = nSum g n
  | 0, _ => rfl
  | i + 1, q => by
    show nSum g (n + i) + g (n + i) = _
    rw [nSum_more i (fun j h1 h2 => q j h1 (by omega)), q _ (by omega) (by omega), Nat.add_zero]
theorem nCnt_more {g : Nat → Nat} {a n : Nat} (ha : 0 < a) : ∀ i, (∀ j, n ≤ j → j < n + i → g j = 0) → nCnt g a (n + i) = nCnt g a n
  | 0, _ => rfl
  | i + 1, q => by
    show nCnt g a (n + i) + (if a ≤ g (n + i) then 1 else 0) = _
    rw [nCnt_more ha i (fun j h1 h2 => q j h1 (by omega)), q _ (by omega) (by omega), if_neg (by omega), Nat.add_zero]
/-- nothing stands behind the wall -/
def sZ (P : PL) (S : ST) : Prop := ∀ k, pCells P ≤ k → S.1 k = 0
theorem sum_rel (hw : pWF P) (h : rF P f b S) (hz : sZ P S) : nSum (fun j => f (b + j)) (pCells P) = nSum S.1 24 := by
  have hcl := pCells_le hw.1
  rw [show (24 : Nat) = pCells P + (24 - pCells P) by omega, nSum_more _ (fun j h1 _ => hz j h1)]
  exact nSum_congr _ (fun j hj => h.1.1 j (by omega))
theorem cnt_rel (hw : pWF P) (h : rF P f b S) (hz : sZ P S) : nCnt (fun j => f (b + j)) 12 (pCells P) = nCnt S.1 12 24 := by
  have hcl := pCells_le hw.1
  rw [show (24 : Nat) = pCells P + (24 - pCells P) by omega, nCnt_more (by omega) _ (fun j h1 _ => hz j h1)]
  exact nCnt_congr _ (fun j hj => h.1.1 j (by omega))
theorem sSet_z (hz : sZ P S) {z : Int} (hr : z < pCells P) (v : Nat) : sZ P (sSet S z v) := by
  intro j hj
  rw [sSet_other (by omega)]
  exact hz j hj
theorem comeS_z (hw : pWF P) (hk : k < P.2.2.2.2.2.1) (hz : sZ P S) : sZ P (comeS P S k) := by
  have hce := hw.2.2.1 k hk
  have w0 := (wayZ_rng hce 0).2
  have w1 := (wayZ_rng hce 1).2
  have w3 := (wayZ_rng hce 3).2
  have w4 := (wayZ_rng hce 4).2
  unfold comeS sRaise
  split
  · exact sSet_z (sSet_z hz (by omega) _) w3 _
  · split
    · exact sSet_z (sSet_z (sSet_z (sSet_z (sSet_z hz (by omega) _) w0 _) w1 _) w3 _) w4 _
    · exact sSet_z hz (by omega) _
theorem yrFold_z (hw : pWF P) (hz : sZ P S) : ∀ n, n ≤ P.2.2.2.2.2.1 → sZ P (yrFold P S n)
  | 0, _ => hz
  | n + 1, h => by
    have ih := yrFold_z hw hz n (by omega)
    rw [yrFold]
    split
    · exact comeS_z hw (by omega) ih
    · exact ih
theorem yearS_z (hw : pWF P) (hz : sZ P S) : sZ P (yearS P S) := yrFold_z hw hz _ (Nat.le_refl _)
theorem yearsS_z (hw : pWF P) (hz : sZ P S) : ∀ n, sZ P (yearsS P S n)
  | 0 => hz
  | n + 1 => yearS_z hw (yearsS_z hw hz n)
theorem strS_z (hx : x < pCells P) (hz : sZ P S) : sZ P (strS P S k x) := by
  have w3 := (wayZ_rng hx 3).2
  exact sSet_z (sSet_z hz (by omega) _) w3 _
end ACTS
