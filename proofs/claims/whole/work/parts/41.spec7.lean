/-! the reference: its cells, and what its methods do to them, in its own words -/
/-- newCells newWide newCases newMaids acts keeps length at begin isWrong seens reached -/
abbrev RI : Type := Nat × Nat × Nat × Nat × Nat × Nat × Nat × Nat × Nat × Nat × Nat × Nat
abbrev rmE (o : Nat) (ad : Nat → Nat) (ce wi ca ma : Nat) (I : RI) : Nat × va_E := (o, .inr (10, [.int (nI ce), .int (nI wi), .ref (ad 2), .int (nI ca), .ref (ad 4), .ref (ad 5), .ref (ad 6), .ref (ad 7), .int (nI ma), .ref (ad 9), .ref (ad 10), .ref (ad 11), .int (nI I.1), .int (nI I.2.1), .ref (ad 14), .int (nI I.2.2.1), .ref (ad 16), .ref (ad 17), .ref (ad 18), .ref (ad 19), .int (nI I.2.2.2.1), .ref (ad 21), .ref (ad 22), .ref (ad 23), .ref (ad 24), .ref (ad 25), .int (nI I.2.2.2.2.1), .int (nI I.2.2.2.2.2.1), .int (nI I.2.2.2.2.2.2.1), .ref (ad 29), .int (nI I.2.2.2.2.2.2.2.1), .int (nI I.2.2.2.2.2.2.2.2.1), .int (nI I.2.2.2.2.2.2.2.2.2.1), .int (nI I.2.2.2.2.2.2.2.2.2.2.1), .ref (ad 34), .ref (ad 35), .ref (ad 36), .ref (ad 37), .ref (ad 38), .int (nI I.2.2.2.2.2.2.2.2.2.2.2), .ref (ad 40), .ref (ad 41), .ref (ad 42), .ref (ad 43)]))
abbrev nE (n a : Nat) (cI : ClassId) (f : Nat → Nat) : Nat × va_E := (a, .inl (cI, n, .inl (fun j => nI (f j))))
abbrev zE (n a : Nat) (cI : ClassId) (f : Nat → Int) : Nat × va_E := (a, .inl (cI, n, .inl (fun j => jI (f j))))
/-! longs -/
def jL (z : Int) : Int64 := Int64.ofInt z
theorem jL_to {z : Int} (h : -9223372036854775808 ≤ z ∧ z < 9223372036854775808) : (jL z).toInt = z := Int64.toInt_ofInt_of_le (by omega) (by omega)
theorem i2l_j {x : Int32} {z : Int} (h : x.toInt = z) : x.toInt64 = jL z := by
  have h1 := i32_rng x
  apply Int64.toInt_inj.mp
  rw [Int32.toInt_toInt64, jL_to (by omega), h]
theorem lg_cmpZ {a b : Int} (ha : -4611686018427387904 ≤ a ∧ a < 4611686018427387904) (hb : -4611686018427387904 ≤ b ∧ b < 4611686018427387904) : (lg_cmp (jL a) (jL b)).toInt = if b < a then 1 else if a = b then 0 else -1 := by
  unfold lg_cmp
  have ea : (jL a).toInt = a := jL_to (by omega)
  have eb : (jL b).toInt = b := jL_to (by omega)
  have h1 : (jL a > jL b) ↔ b < a := by rw [gt_iff_lt, Int64.lt_iff_toInt_lt, ea, eb]
  have h2 : (jL a = jL b) ↔ a = b := by rw [← Int64.toInt_inj, ea, eb]
  by_cases q1 : b < a
  · rw [if_pos (h1.mpr q1), if_pos q1]; rfl
  · rw [if_neg (fun q => q1 (h1.mp q)), if_neg q1]
    by_cases q2 : a = b
    · rw [if_pos (h2.mpr q2), if_pos q2]; rfl
    · rw [if_neg (fun q => q2 (h2.mp q)), if_neg q2]; rfl
section ROWS
variable {p : Program} {l : Launch} {e : Env} {R : Room} {s : State} {m : MethodId} {args : Array Value} {below : List Frame} {meth : Method} {c : Code} {H H0 : Heap} {locs : List Loc} {cells slots : Nat} {Q : State → Prop} {A : Nat → Prop} {D : va_G} {tys : List (ClassId × FieldType)} {ws : va_W} {as : List Nat} {cc : ByteArray} {pc : Nat} {ls : Array Slot} {rest : List Value} {a : Nat}
theorem rj_lt (hexec : p.tables.exec = Jvm.exec) (hb : c.code = cc) {x y : Int} (hr : (-4611686018427387904 ≤ x ∧ x < 4611686018427387904) ∧ -4611686018427387904 ≤ y ∧ y < 4611686018427387904) {off : Int} {tgt : Nat} (hdg : decode cc pc = .ok (.ifCond .lt off, 3)) (ht : (pc : Int) + off = (tgt : Int)) (kt : x < y → W p l e R s m args below meth c H locs cells slots Q (F0 m tgt ls rest)) (kf : y ≤ x → W p l e R s m args below meth c H locs cells slots Q (F0 m (pc + 3) ls rest)) : W p l e R s m args below meth c H locs cells slots Q (F0 m pc ls (.int (lg_cmp (jL x) (jL y)) :: rest)) := by
  refine r0_lt hexec hb (lg_cmpZ hr.1 hr.2) hdg ht (fun h => kt ?_) (fun h => kf ?_)
  · revert h; (repeat' split) <;> omega
  · revert h; (repeat' split) <;> omega
theorem rj_gt (hexec : p.tables.exec = Jvm.exec) (hb : c.code = cc) {x y : Int} (hr : (-4611686018427387904 ≤ x ∧ x < 4611686018427387904) ∧ -4611686018427387904 ≤ y ∧ y < 4611686018427387904) {off : Int} {tgt : Nat} (hdg : decode cc pc = .ok (.ifCond .gt off, 3)) (ht : (pc : Int) + off = (tgt : Int)) (kt : y < x → W p l e R s m args below meth c H locs cells slots Q (F0 m tgt ls rest)) (kf : x ≤ y → W p l e R s m args below meth c H locs cells slots Q (F0 m (pc + 3) ls rest)) : W p l e R s m args below meth c H locs cells slots Q (F0 m pc ls (.int (lg_cmp (jL x) (jL y)) :: rest)) := by
  refine r0_gt hexec hb (lg_cmpZ hr.1 hr.2) hdg ht (fun h => kt ?_) (fun h => kf ?_)
  · revert h; (repeat' split) <;> omega
  · revert h; (repeat' split) <;> omega
theorem rn_bast (hexec : p.tables.exec = Jvm.exec) (hb : c.code = cc) (hK : va_K D vwCl tys s) (hP : va_P D vwCl ws H) (hV : vD A as) (hS : va_S A H0 H locs) (q0 t0 : Nat) {cA : ClassId} {n : Nat} {f : Nat → Nat} (ha : ws[q0]? = some (a, .inl (cA, n, .inl (fun j => nI (f j))))) (ht : tys[t0]? = some (cA, .byte)) {k x : Nat} (hk : k < n) (hn : n < 2147483648) (hx : vp_nar .byte (nI x) = nI x) (hdg : decode cc pc = .ok (.bastore, 1)) (hw : ws.map Prod.fst = as) {ws2 : va_W} (h2 : ws.set q0 (a, .inl (cA, n, .inl (fun j => nI (va_up f k x j)))) = ws2)
    (kk : ∀ (H1 : Heap) (locs1 : List Loc), va_P D vwCl ws2 H1 → va_S A H0 H1 locs1 → W p l e R s m args below meth c H1 locs1 cells slots Q (F0 m (pc + 1) ls rest)) : W p l e R s m args below meth c H locs cells slots Q (F0 m pc ls (.int (nI x) :: .int (nI k) :: .ref a :: rest)) :=
  va_bast hexec hb hK hP (vD_to hV hw) hS q0 t0 ha ht (nI_vp hk hn) hdg (fun H1 locs1 hP1 _ hS1 => kk H1 locs1 (by rw [nI_cl (by omega), hx, upd_n, h2] at hP1; exact hP1) hS1)
end ROWS
theorem nar_by : ∀ n, n < 128 → vp_nar .byte (nI n) = nI n := by decide +kernel
theorem i2b_n : ∀ n, n < 128 → (nI n).toInt8.toInt32 = nI n := by decide +kernel
/-! bits -/
def opN (ca p : Nat) : Nat := (2 ^ ca - 1) - ((2 ^ ca - 1) &&& p)
theorem open_n : ∀ ca, ca < 7 → ∀ p, p < 64 → nI (2 ^ ca - 1) &&& (nI p ^^^ jI (-1)) = nI (opN ca p) := by decide +kernel
theorem opN_has : ∀ ca, ca < 7 → ∀ p, p < 64 → ∀ k, k < ca → (opN ca p / 2 ^ k % 2 = 1 ↔ ¬ p / 2 ^ k % 2 = 1) := by decide +kernel
theorem opN_lt : ∀ ca, ca < 7 → ∀ p, p < 64 → opN ca p < 64 := by decide +kernel
theorem opN_bits : ∀ ca, ca < 7 → ∀ p, p < 2 ^ ca → popN (opN ca p) 6 = ca - popN p 6 := by decide +kernel
/-! where cells are -/
abbrev nxt (P : PL) (x y : Nat) : Prop := wayZ P x 0 = (y : Int) ∨ wayZ P x 1 = (y : Int) ∨ wayZ P x 3 = (y : Int) ∨ wayZ P x 4 = (y : Int)
abbrev hbh (P : PL) (x : Nat) : Prop := x % P.2.2.2.1 < P.2.2.2.1 - 1
theorem nxt_iff {P : PL} (hw : P.2.2.2.1 ≤ 6) {x y : Nat} (hx : x < pCells P) (hy : y < pCells P) : nxt P x y ↔ (x / P.2.2.2.1 = y / P.2.2.2.1 ∧ ((x : Int) - y = 1 ∨ (y : Int) - x = 1)) ∨ (x : Int) - y = P.2.2.2.1 ∨ (y : Int) - x = P.2.2.2.1 := by
  have h1 := pWi_pos hx
  unfold nxt wayZ
  generalize pCells P = n at hx hy
  generalize hww : P.2.2.2.1 = w at hw h1
  rcases (show w = 1 ∨ w = 2 ∨ w = 3 ∨ w = 4 ∨ w = 5 ∨ w = 6 by omega) with rfl | rfl | rfl | rfl | rfl | rfl <;> simp <;> omega
theorem hbh_iff {P : PL} {x : Nat} (_ : x < pCells P) : wayZ P x 3 = (if hbh P x then ((x + 1 : Nat) : Int) else -1) := rfl
/-! what its methods do -/
def cpN (f : Nat → Nat) (a t n : Nat) : Nat → Nat := fun j => if t ≤ j ∧ j < t + n then f (a + (j - t)) else f j
theorem cpN_0 (f : Nat → Nat) (a t : Nat) : cpN f a t 0 = f := by
  funext j
  unfold cpN
  rw [if_neg (by omega)]
theorem cpN_s {f : Nat → Nat} {a t i : Nat} (h : a + 32 ≤ t ∨ t + 32 ≤ a) (hi : i < 32) : va_up (cpN f a t i) (t + i) (cpN f a t i (a + i)) = cpN f a t (i + 1) := by
  funext j
  unfold va_up cpN
  by_cases e : j = t + i
  · subst e
    rw [if_pos rfl, if_neg (by omega), if_pos (by omega)]
    congr 1
    omega
  · rw [if_neg e]
    by_cases q : t ≤ j ∧ j < t + i
    · rw [if_pos q, if_pos (by omega)]
    · rw [if_neg q, if_neg (by omega)]
abbrev rOwn (sl so cl de : Nat → Nat) (bs k : Nat) : Nat := if so k = 2 then 0 else if so k = 3 ∧ 12 ≤ sl (bs + cl k) then 2 * de k else de k
abbrev rRai (sl : Nat → Nat) (bs x v : Nat) : Nat → Nat := va_up sl (bs + x) (min 40 (sl (bs + x) + v))
def rFair (P : PL) (sl : Nat → Nat) (x v bs : Nat) : Nat → Nat → Nat | 0 => sl | y + 1 => rRai (rFair P sl x v bs y) bs y (if nxt P x y then v else 0)
def rCom1 (P : PL) (sl so cl de : Nat → Nat) (bs k : Nat) : Nat → Nat := if so k = 1 ∧ hbh P (cl k) then rRai (rRai sl bs (cl k) (rOwn sl so cl de bs k)) bs (cl k + 1) (de k / 2) else rRai sl bs (cl k) (rOwn sl so cl de bs k)
def rCom (P : PL) (sl so cl de : Nat → Nat) (bs k : Nat) : Nat → Nat := if so k = 2 then rFair P (rCom1 P sl so cl de bs k) (cl k) (de k / 2 + 1) bs (pCells P) else rCom1 P sl so cl de bs k
def rGoC (P : PL) (sl so cl de si : Nat → Nat) (bs st : Nat) : Nat → Nat → Nat | 0 => sl | k + 1 => if st / 2 ^ k % 2 = 1 ∧ si k ≤ rGoC P sl so cl de si bs st k (bs + 31) then rCom P (rGoC P sl so cl de si bs st k) so cl de bs k else rGoC P sl so cl de si bs st k
def rGoM (sl ms : Nat → Nat) (bs : Nat) : Nat → Nat → Nat | 0 => sl | k + 1 => va_up (rGoM sl ms bs k) (bs + 24 + k) (ms k)
def rGo (P : PL) (so cl de si ms : Nat → Nat) (bs st : Nat) (sl : Nat → Nat) : Nat → Nat := va_up (rGoM (rGoC P sl so cl de si bs st P.2.2.2.2.2.1) ms bs P.2.2.2.2.2.2) (bs + 31) (rGoM (rGoC P sl so cl de si bs st P.2.2.2.2.2.1) ms bs P.2.2.2.2.2.2 (bs + 31) + 1)
def rTak (wa ir : Nat → Nat) (k h : Nat) : Nat := min (if wa k = 2 then 1 + ir k / 2 else if wa k = 3 then (if 12 ≤ h then 0 else 2 * ir k) else ir k) h
theorem rTak_le (wa ir : Nat → Nat) (k h : Nat) : rTak wa ir k h ≤ h := Nat.min_le_right _ _
abbrev rStr1 (sl wa ir : Nat → Nat) (bs k x : Nat) : Nat → Nat := va_up sl (bs + x) (sl (bs + x) - rTak wa ir k (sl (bs + x)))
def rStr2 (P : PL) (sl wa ir : Nat → Nat) (bs k x : Nat) : Nat → Nat := if wa k = 1 ∧ hbh P x then va_up (rStr1 sl wa ir bs k x) (bs + x + 1) (rStr1 sl wa ir bs k x (bs + x + 1) - ir k / 2) else rStr1 sl wa ir bs k x
def rStr (P : PL) (wa ir : Nat → Nat) (bs k x : Nat) (sl : Nat → Nat) : Nat → Nat := va_up (va_up (rStr2 P sl wa ir bs k x) (bs + 27 + k) x) (bs + 24 + k) (va_up (rStr2 P sl wa ir bs k x) (bs + 27 + k) x (bs + 24 + k) - 1)
abbrev rCan (P : PL) (sl : Nat → Nat) (bs k x : Nat) : Prop := 0 < sl (bs + 24 + k) ∧ (sl (bs + 27 + k) = x ∨ nxt P (sl (bs + 27 + k)) x)
/-! what they leave as it is, and bounds -/
theorem upNe {f : Nat → Nat} {i v j : Nat} (h : j ≠ i) : va_up f i v j = f j := by unfold va_up; rw [if_neg h]
theorem upEq {f : Nat → Nat} {i v : Nat} : va_up f i v i = v := by unfold va_up; rw [if_pos rfl]
theorem rFair_out {P : PL} {sl : Nat → Nat} {x v bs j : Nat} : ∀ n, (j < bs ∨ bs + n ≤ j) → rFair P sl x v bs n j = sl j
  | 0, _ => rfl
  | n + 1, h => by
    rw [rFair, rRai, upNe (by omega)]
    exact rFair_out n (by omega)
theorem rCom1_out {P : PL} {sl so cl de : Nat → Nat} {bs k j : Nat} (hc : cl k < 24) (h : j < bs ∨ bs + 24 < j) (h2 : j ≠ bs + 24 ∨ cl k + 1 < 24 ) : rCom1 P sl so cl de bs k j = sl j := by
  unfold rCom1
  split
  · rw [rRai, upNe (by omega), rRai, upNe (by omega)]
  · rw [rRai, upNe (by omega)]
theorem va_up_b {f : Nat → Nat} {i v b : Nat} (h : ∀ j, f j < b) (hv : v < b) (j : Nat) : va_up f i v j < b := va_up_lt h hv j
theorem rRai_b {sl : Nat → Nat} {bs x v b : Nat} (h : ∀ j, sl j < b) (hb : 40 < b) (j : Nat) : rRai sl bs x v j < b := va_up_b h (by omega) j
theorem rFair_b {P : PL} {sl : Nat → Nat} {x v bs b : Nat} (h : ∀ j, sl j < b) (hb : 40 < b) : ∀ n j, rFair P sl x v bs n j < b
  | 0, j => h j
  | n + 1, j => rRai_b (rFair_b h hb n) hb j
theorem rCom1_b {P : PL} {sl so cl de : Nat → Nat} {bs k b : Nat} (h : ∀ j, sl j < b) (hb : 40 < b) (j : Nat) : rCom1 P sl so cl de bs k j < b := by
  unfold rCom1
  split
  · exact rRai_b (rRai_b h hb) hb j
  · exact rRai_b h hb j
theorem rCom_b {P : PL} {sl so cl de : Nat → Nat} {bs k b : Nat} (h : ∀ j, sl j < b) (hb : 40 < b) (j : Nat) : rCom P sl so cl de bs k j < b := by
  unfold rCom
  split
  · exact rFair_b (rCom1_b h hb) hb _ j
  · exact rCom1_b h hb j
theorem rGoC_b {P : PL} {sl so cl de si : Nat → Nat} {bs st b : Nat} (h : ∀ j, sl j < b) (hb : 40 < b) : ∀ n j, rGoC P sl so cl de si bs st n j < b
  | 0, j => h j
  | n + 1, j => by
    rw [rGoC]
    split
    · exact rCom_b (rGoC_b h hb n) hb j
    · exact rGoC_b h hb n j
theorem rGoM_b {sl ms : Nat → Nat} {bs b : Nat} (h : ∀ j, sl j < b) (hm : ∀ j, ms j < b) : ∀ n j, rGoM sl ms bs n j < b
  | 0, j => h j
  | n + 1, j => va_up_b (rGoM_b h hm n) (hm n) j
theorem rGo_b {P : PL} {sl so cl de si ms : Nat → Nat} {bs st b : Nat} (h : ∀ j, sl j < b) (hb : 100 ≤ b) (hm : ∀ j, ms j < 100) (j : Nat) : rGo P so cl de si ms bs st sl j < b + 1 := by
  have h1 := rGoM_b (bs := bs) (n := P.2.2.2.2.2.2) (rGoC_b (P := P) (so := so) (cl := cl) (de := de) (si := si) (bs := bs) (st := st) (n := P.2.2.2.2.2.1) h (by omega)) (fun j => Nat.lt_of_lt_of_le (hm j) hb)
  exact va_up_b (fun j => Nat.lt_succ_of_lt (h1 j)) (by have := h1 (bs + 31); omega) j
theorem rStr2_b {P : PL} {sl wa ir : Nat → Nat} {bs k x b : Nat} (h : ∀ j, sl j < b) (j : Nat) : rStr2 P sl wa ir bs k x j < b := by
  have h1 : ∀ j, rStr1 sl wa ir bs k x j < b := fun j => va_up_b h (by have := h (bs + x); omega) j
  unfold rStr2
  split
  · exact va_up_b h1 (by have := h1 (bs + x + 1); omega) j
  · exact h1 j
theorem rStr_b {P : PL} {sl wa ir : Nat → Nat} {bs k x b : Nat} (h : ∀ j, sl j < b) (hx : x < b) (j : Nat) : rStr P wa ir bs k x sl j < b := by
  have h1 := va_up_b (i := bs + 27 + k) (rStr2_b (P := P) (wa := wa) (ir := ir) (bs := bs) (k := k) (x := x) h) hx
  exact va_up_b h1 (by have := h1 (bs + 24 + k); omega) j
theorem popN_le6 (a : Nat) : popN a 6 ≤ 6 := by
  show 0 + a / 2 ^ 0 % 2 + a / 2 ^ 1 % 2 + a / 2 ^ 2 % 2 + a / 2 ^ 3 % 2 + a / 2 ^ 4 % 2 + a / 2 ^ 5 % 2 ≤ 6
  omega
theorem rOwn_lt {sl so cl de : Nat → Nat} {bs k : Nat} (h : ∀ j, de j < 100) : rOwn sl so cl de bs k < 200 := by
  have := h k
  unfold rOwn
  (repeat' split) <;> omega
section COM
variable {P : PL} {sl so cl de si ms wa ir f : Nat → Nat} {bs k st y x : Nat}
theorem com1_in (h : f = rCom1 P sl so cl de bs k) : (so k = 2 ∧ f = rFair P (rCom1 P sl so cl de bs k) (cl k) (de k / 2 + 1) bs 0) ∨ (so k ≠ 2 ∧ f = rCom1 P sl so cl de bs k) := by
  by_cases q : so k = 2
  · exact Or.inl ⟨q, h⟩
  · exact Or.inr ⟨q, h⟩
theorem com1_st {v : Nat} (h : (so k = 2 ∧ f = rFair P (rCom1 P sl so cl de bs k) (cl k) (de k / 2 + 1) bs y) ∨ (so k ≠ 2 ∧ f = rCom1 P sl so cl de bs k)) (h2 : so k = 2) (hv : v = if nxt P (cl k) y then de k / 2 + 1 else 0) : (so k = 2 ∧ rRai f bs y v = rFair P (rCom1 P sl so cl de bs k) (cl k) (de k / 2 + 1) bs (y + 1)) ∨ (so k ≠ 2 ∧ rRai f bs y v = rCom1 P sl so cl de bs k) := by
  rcases h with ⟨_, h⟩ | ⟨h1, _⟩
  · exact Or.inl ⟨h2, by rw [rFair, h, hv]⟩
  · exact absurd h2 h1
theorem com1_en (h : (so k = 2 ∧ f = rFair P (rCom1 P sl so cl de bs k) (cl k) (de k / 2 + 1) bs y) ∨ (so k ≠ 2 ∧ f = rCom1 P sl so cl de bs k)) (h2 : so k = 2 → y = pCells P) : f = rCom P sl so cl de bs k := by
  unfold rCom
  rcases h with ⟨h1, h⟩ | ⟨h1, h⟩
  · rw [if_pos h1, h, h2 h1]
  · rw [if_neg h1, h]
theorem com1_b (h : (so k = 2 ∧ f = rFair P (rCom1 P sl so cl de bs k) (cl k) (de k / 2 + 1) bs y) ∨ (so k ≠ 2 ∧ f = rCom1 P sl so cl de bs k)) (hs : ∀ j, sl j < 100000) (j : Nat) : f j < 100000 := by
  rcases h with ⟨_, h⟩ | ⟨_, h⟩
  · rw [h]; exact rFair_b (rCom1_b hs (by omega)) (by omega) _ j
  · rw [h]; exact rCom1_b hs (by omega) j
theorem goC_no (h : f = rGoC P sl so cl de si bs st k) (hn : ¬ (st / 2 ^ k % 2 = 1 ∧ si k ≤ f (bs + 31))) : f = rGoC P sl so cl de si bs st (k + 1) := by
  rw [rGoC, ← h, if_neg hn]
theorem goC_yes (h : f = rGoC P sl so cl de si bs st k) (hn : st / 2 ^ k % 2 = 1 ∧ si k ≤ f (bs + 31)) : rCom P f so cl de bs k = rGoC P sl so cl de si bs st (k + 1) := by
  rw [rGoC, ← h, if_pos hn]
theorem str2_at (hk : k < 3) (hx : x < pCells P) (hc : pCells P ≤ 24) {j : Nat} (hj : bs + 24 ≤ j) : rStr2 P sl wa ir bs k x j = sl j := by
  unfold rStr2
  split
  · next q =>
    have := row_in hx q.2
    rw [upNe (by omega), rStr1, upNe (by omega)]
  · rw [rStr1, upNe (by omega)]
theorem str_l (hk : k < 3) (hx : x < pCells P) (hc : pCells P ≤ 24) (h : 0 < sl (bs + 24 + k)) : 0 < va_up (rStr2 P sl wa ir bs k x) (bs + 27 + k) x (bs + 24 + k) := by
  rw [upNe (by omega), str2_at hk hx hc (by omega)]
  exact h
theorem str_b1 (h : ∀ j, sl j < 100000) (j : Nat) : rStr1 sl wa ir bs k x j < 100000 := va_up_b h (by have := h (bs + x); omega) j
theorem rStr_bb (h : ∀ j, sl j < 100000) (hx : x < 100000) (j : Nat) : va_up (rStr2 P sl wa ir bs k x) (bs + 27 + k) x j < 100000 := va_up_b (rStr2_b h) hx j
theorem nSum_lt {g : Nat → Nat} {b : Nat} (h : ∀ k, g k < b) : ∀ n, nSum g n ≤ n * b
  | 0 => by simp [nSum]
  | n + 1 => by
    have h1 := nSum_lt h n
    have h2 := h n
    rw [nSum, Nat.succ_mul]
    omega
theorem nSum_24 {n : Nat} (h : ∀ j, sl j < 100000) (hn : n ≤ 24) : nSum (fun j => sl (bs + j)) n ≤ 2400000 := by
  have h1 := nSum_lt (g := fun j => sl (bs + j)) (b := 100000) (fun k => h _) n
  have h2 : n * 100000 ≤ 24 * 100000 := Nat.mul_le_mul_right _ hn
  omega
end COM
