/-! what holds between the class's state and the reference's -/
def lrA (T : LT) (R : RD) (O : PL) (M : SM) : Prop := ltOK T ∧ (∀ j, R.1 j < 100) ∧ (∀ j, R.2.1 j ≤ 9) ∧ pOK O ∧ ∀ i, -4 ≤ M.1 i ∧ M.1 i ≤ 100
def lrP (P : PL) (to so cl de si wa ir ms : Nat → Nat) : Prop := plOK P ∧ rC P so cl de si ∧ rM P wa ir ms ∧ (∀ k, k < 24 → to k = P.1 k) ∧ (∀ j, to j < 100) ∧ (∀ j, so j < 100) ∧ (∀ j, de j < 100) ∧ (∀ j, si j < 100) ∧ (∀ j, wa j < 100) ∧ (∀ j, ir j < 100) ∧ ∀ j, ms j < 100
def lrS (P : PL) (S : ST) (sl : Nat → Nat) : Prop := sOK P S ∧ rF P sl 0 S ∧ sB sl
def lrY (P : PL) (sl : Nat → Nat) (Y Z : PI) (ac kp : Nat) : Prop := pRel P sl 8 1 Y ∧ ac = Y.2.1 ∧ pRel P sl 2 9 Z ∧ kp = Z.2.1
def lrT (T : LT) (tx : Nat → Nat) (n : Nat) : Prop := tEq T (tx, n) ∧ ltOK (tx, n)
def lrG (G : SG) (sc sh : Nat → Nat) (sn : Nat) : Prop := G.2.2 ≤ 8 ∧ (∀ k, G.1 k < 1000 ∧ G.2.1 k < 1000) ∧ sn = G.2.2 ∧ (∀ j, j < G.2.2 → sc j = G.1 j ∧ sh j = G.2.1 j) ∧ ∀ j, sc j < 24 ∧ sh j < 100
def lrN (nt ns nc nd ni nw nr nk na : Nat → Nat) (bg : Nat) : Prop := nB nt ns nc nd ni nw nr nk na ∧ bg ≤ 300
section TEXT
variable {T U : LT} {z : Int}
theorem zWr_eq (h : tEq T U) : zWrite T z = zWrite U z := by unfold zWrite; rw [h.1]
theorem tWr_eq (h : tEq T U) : tEq (tWrite T z) (tWrite U z) := by
  obtain ⟨h1, h2⟩ := h
  unfold tWrite
  by_cases q : (32 ≤ z ∧ z ≤ 126) ∧ T.2 < 200
  · rw [if_pos q, if_pos (by rw [← h1]; exact q)]
    refine ⟨by show T.2 + 1 = U.2 + 1; rw [h1], fun k hk => ?_⟩
    have hk : k < T.2 + 1 := hk
    show va_up T.1 T.2 z.toNat k = va_up U.1 U.2 z.toNat k
    rw [← h1]
    by_cases e : k = T.2
    · subst e; rw [va_up_self, va_up_self]
    · rw [va_up_ne _ _ e, va_up_ne _ _ e]; exact h2 k (by omega)
  · rw [if_neg q, if_neg (by rw [← h1]; exact q)]
    exact ⟨h1, h2⟩
theorem tWr_ok (h : ltOK T) : ltOK (tWrite T z) := by
  unfold tWrite
  by_cases q : (32 ≤ z ∧ z ≤ 126) ∧ T.2 < 200
  · rw [if_pos q]
    exact ⟨fun k => va_up_lt h.1 (by omega) k, by show T.2 + 1 ≤ 200; omega⟩
  · rw [if_neg q]; exact h
theorem zLay_eq (h : tEq T U) (O : PL) : zLay T O = zLay U O := by unfold zLay; rw [tEq_read h]
end TEXT
section STATES
variable {P : PL} {S : ST} {sl f : Nat → Nat} {Y Z : PI} {ac kp ac2 k n x : Nat}
theorem giveLe_10 {f : Nat → Nat} (hf : ∀ k, f k ≤ 9) : ∀ n, (∀ k, k < n → P.2.2.1 (k * 4 + 2) ≤ 9) → ∀ k, giveLe P f n k ≤ 9
  | 0, _, k => hf k
  | n + 1, h, k => by
    rw [giveLe]
    unfold va_up
    split
    · exact h n (by omega)
    · exact giveLe_10 hf n (fun k hk => h k (by omega)) k
theorem sOK_str (h : sOK P S) (hx : x < pCells P) : sOK P (strS P S k x) := by
  obtain ⟨h1, h2, h3, h4⟩ := h
  refine ⟨strS_ok h1 k hx, strS_x hx h2, by rw [strS_rest]; exact h3, fun j => ?_⟩
  rw [strS_le]
  unfold va_up
  have := h4 k
  split
  · omega
  · exact h4 j
theorem sOK_years (hp : plOK P) (h : sOK P S) (hn : S.2.2.2.2 + n ≤ 999) : sOK P (yearsS P S n) := by
  obtain ⟨h1, h2, h3, h4⟩ := h
  have h5 : ∀ n, ∀ j, (yearsS P S n).2.1 j ≤ 9 := by
    intro n
    induction n with
    | zero => exact h4
    | succ n ih =>
      intro j
      show giveLe P (yrFold P (yearsS P S n) _).2.1 _ j ≤ 9
      rw [yrFold_2]
      exact giveLe_10 ih _ hp.2 j
  exact ⟨yearsS_ok hp h1 (by omega) n (by omega), yearsS_x hp.1 h2 n, by rw [yearsS_yr]; omega, h5 n⟩
theorem sOK_par (hp : plOK P) (h : sOK P S) (hk : k < P.2.2.2.2.2.1) : sOK P (parS S k) := by
  obtain ⟨⟨a1, a2, a3, a4, a5⟩, h2, h3, h4⟩ := h
  have h6 := hp.1.1.2.2.2.2.2.1
  exact ⟨⟨a1, a2, a3, or_64 a4 (by omega), a5⟩, parS_x hk h2, h3, h4⟩
theorem sOK_lay (h : rdOK P) (hc : pCells P ≠ 0) : sOK P (layS P) := by
  have hp := rd_pl h hc
  refine ⟨lay_ok hp, lay_x h hc, Nat.zero_le _, fun j => ?_⟩
  show giveLe P (fun _ => 0) P.2.2.2.2.2.2 j ≤ 9
  exact giveLe_10 (fun _ => Nat.zero_le _) _ hp.2 j
theorem kn_hi9 (h8 : ac ≤ 8) {j : Nat} (hj : 288 ≤ j) : kn sl ac j = sl j := by
  unfold kn cpN
  rw [if_neg (by split <;> omega)]
  split
  · unfold shN
    rw [if_neg (by omega)]
  · rfl
theorem kn_sB9 (h8 : ac ≤ 8) (h : sB sl) : sB (kn sl ac) := by
  refine ⟨kn_b h.1, fun j hj => ?_⟩
  by_cases q : 288 ≤ j
  · rw [kn_hi9 h8 q]; exact h.2 j hj
  · unfold kn cpN
    by_cases e : ac = 8
    · rw [if_pos e, if_pos e]
      unfold shN
      split
      · rw [if_neg (by omega)]; exact h.2 _ (by omega)
      · split
        · exact h.2 _ (by omega)
        · exact h.2 _ (by omega)
    · rw [if_neg e, if_neg e]
      split
      · exact h.2 _ (by omega)
      · exact h.2 _ (by omega)
theorem act_sB (h3 : P.2.2.2.2.2.2 ≤ 3) (hcl : pCells P ≤ 24) (h8 : ac ≤ 8) (hb : sB sl) (h : aRel P sl ac f S) (hs : sOK P S) : sB f := by
  obtain ⟨hF, h1, h2, h4⟩ := h
  obtain ⟨⟨a1, a2, a3, a4, a5⟩, -, a6, -⟩ := hs
  have hk := kn_sB9 h8 hb
  have hlo : ∀ j, j < 32 → f j < 1100 := fun j hj => by
    rcases (show j < 24 ∨ (24 ≤ j ∧ j < 27) ∨ (27 ≤ j ∧ j < 30) ∨ j = 30 ∨ j = 31 by omega) with q | q | q | rfl | rfl
    · have := rF_at hF q
      have := a1 j
      omega
    · obtain ⟨k, rfl⟩ : ∃ k, j = 24 + k := ⟨j - 24, by omega⟩
      have := rF_le hF (show k < 3 by omega)
      have := a2 k
      omega
    · obtain ⟨k, rfl⟩ : ∃ k, j = 27 + k := ⟨j - 27, by omega⟩
      by_cases e : k < P.2.2.2.2.2.2
      · have := rF_pl hF e
        have := a3 k
        omega
      · exact h4 k (by omega) (by omega)
    · have := rF_pd hF
      omega
    · have := rF_yr hF
      omega
  refine ⟨fun j => ?_, fun j hj => ?_⟩
  · by_cases q : j < 32
    · have := hlo j q; omega
    · rw [h1 j (by omega)]; exact hk.1 j
  · by_cases q : j < 32
    · exact hlo j q
    · rw [h1 j (by omega)]; exact hk.2 j hj
theorem lrS_end (h3 : P.2.2.2.2.2.2 ≤ 3) (he : tEnd sl f) (h : lrS P S sl) : lrS P S f := ⟨h.1, he.rF h3 h.2.1, he.sB h.2.2⟩
theorem lrY_end (h3 : P.2.2.2.2.2.2 ≤ 3) (he : tEnd sl f) (h : lrY P sl Y Z ac kp) : lrY P f Y Z ac kp :=
  ⟨pRel_congr h3 h.1 (fun j _ _ => he.1 j (by omega)), h.2.1, pRel_congr h3 h.2.2.1 (fun j _ _ => he.1 j (by omega)), h.2.2.2⟩
theorem act_step {c : Prop} [Decidable c] {S2 : ST} (hp : plOK P) (hS2 : c → sOK P S2) (h3 : lrS P S sl) (h4 : lrY P sl Y Z ac kp)
    (h : (c ∧ ac2 = (if ac = 8 then 8 else ac + 1) ∧ aRel P sl ac f S2) ∨ (¬ c ∧ f = sl ∧ ac2 = ac)) : lrS P (if c then S2 else S) f ∧ lrY P f (if c then psh 8 Y S else Y) Z ac2 kp := by
  have hm : P.2.2.2.2.2.2 ≤ 3 := hp.1.1.2.2.2.2.2.2
  obtain ⟨y1, y2, y3, y4⟩ := id h4
  have h8 : ac ≤ 8 := by rw [y2]; exact y1.1
  rcases h with ⟨hc, rfl, ha⟩ | ⟨hc, rfl, rfl⟩
  · rw [if_pos hc, if_pos hc]
    obtain ⟨k1, k2⟩ := known_rel hm y1 y2 h3.2.1 h3.1
    refine ⟨⟨hS2 hc, ha.1, act_sB hm (pCells_le hp.1.1) h8 h3.2.2 ha (hS2 hc)⟩, pRel_congr hm k1 (fun j hj _ => ha.2.1 j (by omega)), k2, pRel_congr hm y3 (fun j hj _ => ?_), y4⟩
    rw [ha.2.1 j (by omega), kn_hi9 h8 (by omega)]
  · rw [if_neg hc, if_neg hc]
    exact ⟨h3, h4⟩
theorem cp_sB {a t : Nat} (hb : sB sl) (ha : a + 32 ≤ 352) : sB (cpN sl a t 32) := by
  refine ⟨cpN_b hb.1, fun j hj => ?_⟩
  unfold cpN
  split
  · exact hb.2 _ (by omega)
  · exact hb.2 j hj
theorem cp_lo {a : Nat} {j : Nat} (hj : 32 ≤ j) : cpN sl a 0 32 j = sl j := by
  unfold cpN
  rw [if_neg (by omega)]
theorem undo_step (hp : plOK P) (h3 : lrS P S sl) (h4 : lrY P sl Y Z ac kp) : lrS P (if Y.2.1 = 0 then S else Y.2.2 (Y.1 (Y.2.1 - 1))) (if ac = 0 then sl else cpN sl (ac * 32) 0 32) ∧ lrY P (if ac = 0 then sl else cpN sl (ac * 32) 0 32) (Y.1, Y.2.1 - 1, Y.2.2) Z (ac - 1) kp := by
  have hm : P.2.2.2.2.2.2 ≤ 3 := hp.1.1.2.2.2.2.2.2
  obtain ⟨y1, y2, y3, y4⟩ := id h4
  have h8 := y1.1
  by_cases q : Y.2.1 = 0
  · rw [if_pos q, if_pos (by omega)]
    exact ⟨h3, (pRel_0 (Y := (Y.1, Y.2.1 - 1, Y.2.2)) |>.mpr y1.2.1) |> fun h => by rw [show (Y.1, Y.2.1 - 1, Y.2.2) = ((Y.1, 0, Y.2.2) : PI) by rw [q]]; exact h, by show ac - 1 = Y.2.1 - 1; omega, y3, y4⟩
  · rw [if_neg q, if_neg (by omega)]
    obtain ⟨k1, k2, k3⟩ := pop_rel hm y1 (by omega) (by omega)
    have e : 32 * (1 + (Y.2.1 - 1)) = ac * 32 := by omega
    rw [e] at k1 k3
    exact ⟨⟨k2, k1, cp_sB h3.2.2 (by omega)⟩, k3, by show ac - 1 = Y.2.1 - 1; omega, pRel_congr hm y3 (fun j hj _ => cp_lo (by omega)), y4⟩
theorem back_step (hp : plOK P) (h3 : lrS P S sl) (h4 : lrY P sl Y Z ac kp) : lrS P (if Z.2.1 = 0 then S else Z.2.2 (Z.1 (Z.2.1 - 1))) (if kp = 0 then sl else cpN sl ((9 + (kp - 1)) * 32) 0 32) ∧ lrY P (if kp = 0 then sl else cpN sl ((9 + (kp - 1)) * 32) 0 32) (if Z.2.1 = 0 then Y else (Y.1, 0, Y.2.2)) (Z.1, Z.2.1 - 1, Z.2.2) (if kp = 0 then ac else 0) (kp - 1) := by
  have hm : P.2.2.2.2.2.2 ≤ 3 := hp.1.1.2.2.2.2.2.2
  obtain ⟨y1, y2, y3, y4⟩ := id h4
  have h8 := y3.1
  by_cases q : Z.2.1 = 0
  · rw [if_pos q, if_pos q, if_pos (by omega), if_pos (by omega)]
    exact ⟨h3, y1, y2, by rw [show (Z.1, Z.2.1 - 1, Z.2.2) = ((Z.1, 0, Z.2.2) : PI) by rw [q]]; exact pRel_0.mpr y3.2.1, by show kp - 1 = Z.2.1 - 1; omega⟩
  · rw [if_neg q, if_neg q, if_neg (by omega), if_neg (by omega)]
    obtain ⟨k1, k2, k3⟩ := pop_rel hm y3 (by omega) (by omega)
    have e : 32 * (9 + (Z.2.1 - 1)) = (9 + (kp - 1)) * 32 := by omega
    rw [e] at k1 k3
    exact ⟨⟨k2, k1, cp_sB h3.2.2 (by omega)⟩, pRel_0.mpr y1.2.1, rfl, k3, by show kp - 1 = Z.2.1 - 1; omega⟩
theorem keep_step (hp : plOK P) (h3 : lrS P S sl) (h4 : lrY P sl Y Z ac kp) : lrS P S (if kp = 2 then sl else cpN sl 0 ((9 + kp) * 32) 32) ∧ lrY P (if kp = 2 then sl else cpN sl 0 ((9 + kp) * 32) 32) Y (if 2 ≤ Z.2.1 then Z else psh 2 Z S) ac (if kp = 2 then 2 else kp + 1) := by
  have hm : P.2.2.2.2.2.2 ≤ 3 := hp.1.1.2.2.2.2.2.2
  obtain ⟨y1, y2, y3, y4⟩ := id h4
  have h8 := y3.1
  by_cases q : 2 ≤ Z.2.1
  · rw [if_pos q, if_pos (by omega), if_pos (by omega)]
    exact ⟨h3, y1, y2, y3, by omega⟩
  · rw [if_neg q, if_neg (by omega), if_neg (by omega)]
    have k1 := push_rel hm y3 (by omega) (by omega) h3.2.1 h3.1
    have e : 32 * (9 + Z.2.1) = (9 + kp) * 32 := by omega
    rw [e] at k1
    have hlow : ∀ j, j < 288 → cpN sl 0 ((9 + kp) * 32) 32 j = sl j := fun j hj => by
      unfold cpN
      rw [if_neg (by omega)]
    refine ⟨⟨h3.1, rF_lo hm h3.2.1 (fun j hj => by rw [Nat.zero_add]; exact hlow j (by omega)), cp_sB h3.2.2 (by omega)⟩, pRel_congr hm y1 (fun j _ hj => hlow j (by omega)), y2, k1, ?_⟩
    unfold psh
    rw [if_neg (by omega)]
    show kp + 1 = Z.2.1 + 1
    omega
end STATES
section SEEN
variable {P : PL} {G G2 : SG} {sc sh : Nat → Nat} {sn : Nat}
def gEq (G G2 : SG) : Prop := G.2.2 = G2.2.2 ∧ ∀ j, j < G.2.2 → G.1 j = G2.1 j ∧ G.2.1 j = G2.2.1 j
theorem lrG_eq (h : lrG G sc sh sn) : gEq G (sc, sh, sn) := ⟨h.2.2.1.symm, fun j hj => ⟨(h.2.2.2.1 j hj).1.symm, (h.2.2.2.1 j hj).2.symm⟩⟩
theorem seen_eq (h : gEq G G2) {st n : Nat} : seenB P G st n ↔ seenB P G2 st n := by
  obtain ⟨h1, h2⟩ := h
  constructor
  · intro q i hi
    have hi : i < G2.2.2 := hi
    have := q i (by show i < G.2.2; omega)
    have h3 := h2 i (by omega)
    rw [← h3.1, ← h3.2]
    exact this
  · intro q i hi
    have hi : i < G.2.2 := hi
    have := q i (by show i < G2.2.2; omega)
    have h3 := h2 i hi
    rw [h3.1, h3.2]
    exact this
theorem mindN_eq (h : gEq G G2) {n : Nat} : ∀ k, mindN P G n k = mindN P G2 n k
  | 0 => rfl
  | k + 1 => by
    rw [mindN, mindN, mindN_eq h k]
    by_cases q : seenB P G k n
    · rw [if_pos q, if_pos ((seen_eq h).mp q)]
    · rw [if_neg q, if_neg (fun q2 => q ((seen_eq h).mpr q2))]
theorem zMind_eq (h : gEq G G2) (n v : Int) : zMind P G n v = zMind P G2 n v := by unfold zMind; rw [mindN_eq h]
theorem deepN_eq (h : gEq G G2) {i n : Nat} : ∀ k, deepN P G i n k = deepN P G2 i n k
  | 0 => rfl
  | k + 1 => by
    rw [deepN, deepN, deepN_eq h k]
    by_cases q : seenB (dpP P i (k + 1)) G (2 ^ P.2.2.2.2.2.1 - 1) n
    · rw [if_pos q, if_pos ((seen_eq h).mp q)]
    · rw [if_neg q, if_neg (fun q2 => q ((seen_eq h).mpr q2))]
theorem zDeep_eq (h : gEq G G2) (a n v : Int) : zDeep P G a n v = zDeep P G2 a n v := by unfold zDeep; rw [deepN_eq h]
theorem zSee_eq (h : gEq G G2) (a b : Int) : zSee P G a b = zSee P G2 a b := by unfold zSee; rw [h.1]
theorem lrG_see (hp : pOK P) (h : lrG G sc sh sn) (a b : Int) : lrG (gSee P G a b) (gSee P (sc, sh, sn) a b).1 (gSee P (sc, sh, sn) a b).2.1 (gSee P (sc, sh, sn) a b).2.2 := by
  obtain ⟨h1, h2, h3, h4, h5⟩ := id h
  have hcl := pCells_le hp
  subst h3
  unfold gSee
  by_cases q : (okX (pCells P) a ∧ 0 ≤ b ∧ b ≤ 40) ∧ G.2.2 < 8
  · rw [if_pos q, if_pos q]
    obtain ⟨⟨⟨q1, q2⟩, q3, q4⟩, q5⟩ := q
    refine ⟨by show G.2.2 + 1 ≤ 8; omega, fun k => ?_, rfl, fun j hj => ?_, fun j => ?_⟩
    · show va_up G.1 G.2.2 a.toNat k < 1000 ∧ va_up G.2.1 G.2.2 b.toNat k < 1000
      exact ⟨va_up_lt (fun k => (h2 k).1) (by omega) k, va_up_lt (fun k => (h2 k).2) (by omega) k⟩
    · have hj : j < G.2.2 + 1 := hj
      show va_up sc G.2.2 a.toNat j = va_up G.1 G.2.2 a.toNat j ∧ va_up sh G.2.2 b.toNat j = va_up G.2.1 G.2.2 b.toNat j
      by_cases e : j = G.2.2
      · subst e; rw [va_up_self, va_up_self, va_up_self, va_up_self]; exact ⟨rfl, rfl⟩
      · rw [va_up_ne _ _ e, va_up_ne _ _ e, va_up_ne _ _ e, va_up_ne _ _ e]; exact h4 j (by omega)
    · show va_up sc G.2.2 a.toNat j < 24 ∧ va_up sh G.2.2 b.toNat j < 100
      exact ⟨va_up_lt (fun k => (h5 k).1) (by omega) j, va_up_lt (fun k => (h5 k).2) (by omega) j⟩
  · rw [if_neg q, if_neg q]
    exact h
theorem lrG_0 (h : lrG G sc sh sn) : lrG (G.1, G.2.1, 0) sc sh 0 := ⟨Nat.zero_le _, h.2.1, rfl, fun j hj => absurd hj (Nat.not_lt_zero j), h.2.2.2.2⟩
end SEEN
