theorem jI_of {x : Int32} {z : Int} (h : x.toInt = z) : x = jI z := by rw [← h]; exact jI_self x
theorem eq_nI {x : Int32} {k : Nat} (h : x.toInt = (k : Int)) : x = nI k := by rw [jI_nat, ← h]; exact jI_self x
/-! a standing, and what is done to it -/
def sAt (S : ST) (z : Int) : Nat := if 0 ≤ z ∧ z < 24 then S.1 z.toNat else 0
def clH (z : Int) : Nat := (max 0 (min z 40)).toNat
def sSet (S : ST) (z : Int) (h : Nat) : ST := if 0 ≤ z ∧ z < 24 then (va_up S.1 z.toNat h, S.2) else S
def sHi (S : ST) : Prop := ∀ k, S.1 k ≤ 40
def nSum (f : Nat → Nat) : Nat → Nat | 0 => 0 | n + 1 => nSum f n + f n
def nCnt (f : Nat → Nat) (b : Nat) : Nat → Nat | 0 => 0 | n + 1 => nCnt f b n + (if b ≤ f n then 1 else 0)
theorem nSum_le {f : Nat → Nat} {b : Nat} (h : ∀ k, f k ≤ b) : ∀ n, nSum f n ≤ n * b
  | 0 => by simp [nSum]
  | n + 1 => by
    have h1 := nSum_le h n
    have h2 := h n
    rw [nSum, Nat.succ_mul]
    omega
theorem nCnt_le {f : Nat → Nat} {b : Nat} : ∀ n, nCnt f b n ≤ n
  | 0 => by simp [nCnt]
  | n + 1 => by
    have h1 := nCnt_le (f := f) (b := b) n
    rw [nCnt]
    split <;> omega
theorem sAt_le {S : ST} (h : sHi S) (z : Int) : sAt S z ≤ 40 := by
  unfold sAt
  split
  · exact h _
  · omega
theorem clH_le (z : Int) : clH z ≤ 40 := by unfold clH; omega
theorem sSet_hi {S : ST} (h : sHi S) (z : Int) {v : Nat} (hv : v ≤ 40) : sHi (sSet S z v) := by
  intro k
  unfold sSet
  split
  · show va_up S.1 z.toNat v k ≤ 40
    unfold va_up
    split
    · exact hv
    · exact h k
  · exact h k
theorem clH_nI (zh : Int) : jI (max 0 (min zh 40)) = nI (clH zh) := by
  rw [jI_nat]
  unfold clH
  rw [Int.toNat_of_nonneg (by omega)]
def sRaise (S : ST) (z : Int) (b : Nat) : ST := sSet S z (clH ((sAt S z + b : Nat) : Int))
def sLower (S : ST) (z : Int) (b : Nat) : ST := sSet S z (clH ((sAt S z : Int) - (b : Int)))
theorem sRaise_hi {S : ST} (h : sHi S) (z : Int) (b : Nat) : sHi (sRaise S z b) := sSet_hi h z (clH_le _)
theorem sLower_hi {S : ST} (h : sHi S) (z : Int) (b : Nat) : sHi (sLower S z b) := sSet_hi h z (clH_le _)
theorem sSet_2 (S : ST) (z : Int) (v : Nat) : (sSet S z v).2 = S.2 := by
  unfold sSet
  split <;> rfl
theorem sRaise_2 (S : ST) (z : Int) (b : Nat) : (sRaise S z b).2 = S.2 := sSet_2 S z _
theorem sLower_2 (S : ST) (z : Int) (b : Nat) : (sLower S z b).2 = S.2 := sSet_2 S z _
abbrev sPard (S : ST) (k : Nat) : Prop := S.2.2.2.1 / 2 ^ k % 2 = 1
def popN (a : Nat) : Nat → Nat | 0 => 0 | n + 1 => popN a n + a / 2 ^ n % 2
/-! a plan -/
abbrev pWi (P : PL) : Nat := P.2.2.2.1
abbrev pRo (P : PL) : Nat := P.2.2.2.2.1
abbrev pCc (P : PL) : Nat := P.2.2.2.2.2.1
abbrev pMc (P : PL) : Nat := P.2.2.2.2.2.2
def pCells (P : PL) : Nat := P.2.2.2.2.1 * P.2.2.2.1
def pOK (P : PL) : Prop := (∀ k, P.1 k ≤ 9) ∧ (∀ k, P.2.1 k < 100) ∧ (∀ k, P.2.2.1 k < 100) ∧ P.2.2.2.1 ≤ 6 ∧ P.2.2.2.2.1 ≤ 4 ∧ P.2.2.2.2.2.1 ≤ 6 ∧ P.2.2.2.2.2.2 ≤ 3
theorem pCells_le {P : PL} (h : pOK P) : pCells P ≤ 24 := by
  obtain ⟨-, -, -, h1, h2, -, -⟩ := h
  exact Nat.le_trans (Nat.mul_le_mul h2 h1) (by omega)
theorem pWi_pos {P : PL} {k : Nat} (h : k < pCells P) : 1 ≤ P.2.2.2.1 := by
  rcases Nat.eq_zero_or_pos P.2.2.2.1 with q | q
  · unfold pCells at h; rw [q] at h; omega
  · exact q
def wayZ (P : PL) (k way : Nat) : Int :=
  if way = 0 then (if P.2.2.2.1 ≤ k then ((k - P.2.2.2.1 : Nat) : Int) else -1)
  else if way = 1 then (if 0 < k % P.2.2.2.1 then ((k - 1 : Nat) : Int) else -1)
  else if way = 2 then (k : Int)
  else if way = 3 then (if k % P.2.2.2.1 < P.2.2.2.1 - 1 then ((k + 1 : Nat) : Int) else -1)
  else if way = 4 then (if k + P.2.2.2.1 < pCells P then ((k + P.2.2.2.1 : Nat) : Int) else -1)
  else -1
/-- a cell's next of greater number in its row is on the wall -/
theorem row_in {P : PL} {k : Nat} (h : k < pCells P) (h1 : k % P.2.2.2.1 < P.2.2.2.1 - 1) : k + 1 < pCells P := by
  have hw := pWi_pos h
  have hk : k / P.2.2.2.1 < P.2.2.2.2.1 := by
    apply Nat.div_lt_of_lt_mul
    have : k < P.2.2.2.2.1 * P.2.2.2.1 := h
    rwa [Nat.mul_comm] at this
  have h2 := Nat.div_add_mod k P.2.2.2.1
  have h3 : P.2.2.2.1 * (k / P.2.2.2.1 + 1) ≤ P.2.2.2.1 * P.2.2.2.2.1 := Nat.mul_le_mul_left _ hk
  rw [Nat.mul_add, Nat.mul_one, Nat.mul_comm P.2.2.2.1 P.2.2.2.2.1] at h3
  unfold pCells
  omega
theorem wayZ_rng {P : PL} {k : Nat} (h : k < pCells P) (way : Nat) : -1 ≤ wayZ P k way ∧ wayZ P k way < pCells P := by
  have hw := pWi_pos h
  unfold wayZ
  repeat' split
  all_goals first | omega | (have := row_in h (by assumption); omega)
theorem wayZ_w {P : PL} (hp : pOK P) {k : Nat} (h : k < pCells P) (way : Nat) : -1 ≤ wayZ P k way ∧ wayZ P k way < 24 := by
  have := wayZ_rng h way
  have := pCells_le hp
  omega
abbrev reach (P : PL) (k x : Nat) : Prop := wayZ P k 0 = x ∨ wayZ P k 1 = x ∨ wayZ P k 2 = x ∨ wayZ P k 3 = x ∨ wayZ P k 4 = x
def raiseOwn (P : PL) (k h : Nat) : Nat := if P.2.1 (k * 4 + 0) = 2 then 0 else if P.2.1 (k * 4 + 0) = 3 then (if 12 ≤ h then 2 * P.2.1 (k * 4 + 2) else P.2.1 (k * 4 + 2)) else P.2.1 (k * 4 + 2)
theorem raiseOwn_le {P : PL} (hp : pOK P) (k h : Nat) : raiseOwn P k h ≤ 198 := by
  have := hp.2.1 (k * 4 + 2)
  unfold raiseOwn
  repeat' split
  all_goals omega
def takeS (P : PL) (k h : Nat) : Nat := if P.2.2.1 (k * 4 + 0) = 2 then 1 + P.2.2.1 (k * 4 + 1) / 2 else if P.2.2.1 (k * 4 + 0) = 3 then (if 12 ≤ h then 0 else 2 * P.2.2.1 (k * 4 + 1)) else P.2.2.1 (k * 4 + 1)
def takeA (P : PL) (k : Nat) : Nat := if P.2.2.1 (k * 4 + 0) = 1 then P.2.2.1 (k * 4 + 1) / 2 else 0
theorem takeS_le {P : PL} (hp : pOK P) (k h : Nat) : takeS P k h ≤ 198 := by
  have := hp.2.2.1 (k * 4 + 1)
  unfold takeS
  repeat' split
  all_goals omega
theorem takeA_le {P : PL} (hp : pOK P) (k : Nat) : takeA P k ≤ 198 := by
  have := hp.2.2.1 (k * 4 + 1)
  unfold takeA
  repeat' split
  all_goals omega
/-- a laid plan -/
def pWF (P : PL) : Prop := pOK P ∧ 1 ≤ pCells P ∧ (∀ k, k < P.2.2.2.2.2.1 → P.2.1 (k * 4 + 1) < pCells P) ∧ ∀ k, k < P.2.2.2.2.2.2 → P.2.2.1 (k * 4 + 3) < pCells P
def comeS (P : PL) (S : ST) (k : Nat) : ST :=
  if P.2.1 (k * 4 + 0) = 1 then sRaise (sRaise S (P.2.1 (k * 4 + 1) : Nat) (raiseOwn P k (sAt S (P.2.1 (k * 4 + 1) : Nat)))) (wayZ P (P.2.1 (k * 4 + 1)) 3) (P.2.1 (k * 4 + 2) / 2)
  else if P.2.1 (k * 4 + 0) = 2 then
    sRaise (sRaise (sRaise (sRaise (sRaise S (P.2.1 (k * 4 + 1) : Nat) (raiseOwn P k (sAt S (P.2.1 (k * 4 + 1) : Nat)))) (wayZ P (P.2.1 (k * 4 + 1)) 0) (P.2.1 (k * 4 + 2) / 2 + 1)) (wayZ P (P.2.1 (k * 4 + 1)) 1) (P.2.1 (k * 4 + 2) / 2 + 1)) (wayZ P (P.2.1 (k * 4 + 1)) 3) (P.2.1 (k * 4 + 2) / 2 + 1)) (wayZ P (P.2.1 (k * 4 + 1)) 4) (P.2.1 (k * 4 + 2) / 2 + 1)
  else sRaise S (P.2.1 (k * 4 + 1) : Nat) (raiseOwn P k (sAt S (P.2.1 (k * 4 + 1) : Nat)))
theorem comeS_hi {P : PL} {S : ST} (h : sHi S) (k : Nat) : sHi (comeS P S k) := by
  unfold comeS
  repeat' split
  all_goals repeat (first | assumption | apply sRaise_hi)
theorem comeS_2 (P : PL) (S : ST) (k : Nat) : (comeS P S k).2 = S.2 := by
  unfold comeS
  repeat' split
  all_goals simp only [sRaise_2]
def giveLe (P : PL) (f : Nat → Nat) : Nat → Nat → Nat | 0 => f | n + 1 => va_up (giveLe P f n) n (P.2.2.1 (n * 4 + 2))
abbrev giveS (P : PL) (S : ST) : ST := (S.1, giveLe P S.2.1 P.2.2.2.2.2.2, S.2.2)
abbrev yrIf (P : PL) (S : ST) (k : Nat) : Prop := P.2.1 (k * 4 + 3) ≤ S.2.2.2.2 ∧ ¬ sPard S k
def yrFold (P : PL) (S : ST) : Nat → ST | 0 => S | n + 1 => if yrIf P (yrFold P S n) n then comeS P (yrFold P S n) n else yrFold P S n
theorem yrFold_hi {P : PL} {S : ST} (h : sHi S) : ∀ n, sHi (yrFold P S n)
  | 0 => h
  | n + 1 => by
    rw [yrFold]
    split
    · exact comeS_hi (yrFold_hi h n) n
    · exact yrFold_hi h n
theorem yrFold_2 {P : PL} {S : ST} : ∀ n, (yrFold P S n).2 = S.2
  | 0 => rfl
  | n + 1 => by
    rw [yrFold]
    split
    · rw [comeS_2, yrFold_2]
    · exact yrFold_2 n
theorem yrFold_no {P : PL} {S U : ST} {k : Nat} (h : U = yrFold P S k) (hn : ¬ yrIf P U k) : U = yrFold P S (k + 1) := by
  subst h
  rw [yrFold, if_neg hn]
theorem yrFold_yes {P : PL} {S U : ST} {k : Nat} (h : U = yrFold P S k) (hn : yrIf P U k) : comeS P U k = yrFold P S (k + 1) := by
  subst h
  rw [yrFold, if_pos hn]
def yearS (P : PL) (S : ST) : ST := ((yrFold P S P.2.2.2.2.2.1).1, giveLe P (yrFold P S P.2.2.2.2.2.1).2.1 P.2.2.2.2.2.2, (yrFold P S P.2.2.2.2.2.1).2.2.1, (yrFold P S P.2.2.2.2.2.1).2.2.2.1, (yrFold P S P.2.2.2.2.2.1).2.2.2.2 + 1)
theorem yearS_hi {P : PL} {S : ST} (h : sHi S) : sHi (yearS P S) := yrFold_hi h _
theorem yearS_yr (P : PL) (S : ST) : (yearS P S).2.2.2.2 = S.2.2.2.2 + 1 := by
  show (yrFold P S _).2.2.2.2 + 1 = _
  rw [yrFold_2]
theorem yearS_pa (P : PL) (S : ST) : (yearS P S).2.2.2.1 = S.2.2.2.1 := by
  show (yrFold P S _).2.2.2.1 = _
  rw [yrFold_2]
theorem yearS_pl (P : PL) (S : ST) : (yearS P S).2.2.1 = S.2.2.1 := by
  show (yrFold P S _).2.2.1 = _
  rw [yrFold_2]
def yearsS (P : PL) (S : ST) : Nat → ST | 0 => S | n + 1 => yearS P (yearsS P S n)
theorem yearsS_hi {P : PL} {S : ST} (h : sHi S) : ∀ n, sHi (yearsS P S n)
  | 0 => h
  | n + 1 => yearS_hi (yearsS_hi h n)
theorem yearsS_yr (P : PL) (S : ST) : ∀ n, (yearsS P S n).2.2.2.2 = S.2.2.2.2 + n
  | 0 => rfl
  | n + 1 => by rw [yearsS, yearS_yr, yearsS_yr P S n, Nat.add_assoc]
theorem yearsS_pl (P : PL) (S : ST) : ∀ n, (yearsS P S n).2.2.1 = S.2.2.1
  | 0 => rfl
  | n + 1 => by rw [yearsS, yearS_pl, yearsS_pl P S n]
theorem yearsS_pa (P : PL) (S : ST) : ∀ n, (yearsS P S n).2.2.2.1 = S.2.2.2.1
  | 0 => rfl
  | n + 1 => by rw [yearsS, yearS_pa, yearsS_pa P S n]
abbrev canS (P : PL) (S : ST) (k x : Nat) : Prop := 0 < S.2.1 k ∧ reach P (S.2.2.1 k) x
abbrev loS (P : PL) (S : ST) (k x : Nat) : ST := sLower (sLower S (x : Nat) (takeS P k (sAt S (x : Nat)))) (wayZ P x 3) (takeA P k)
def strS (P : PL) (S : ST) (k x : Nat) : ST := ((loS P S k x).1, va_up (loS P S k x).2.1 k ((loS P S k x).2.1 k - 1), va_up (loS P S k x).2.2.1 k x, (loS P S k x).2.2.2)
theorem strS_hi {P : PL} {S : ST} (h : sHi S) (k x : Nat) : sHi (strS P S k x) := sLower_hi (sLower_hi h _ _) _ _
theorem look_2 {k1 k2 o1 o2 d i : Int} (h : i ≠ k1 ∧ i ≠ k2) : Op.lookupswitch.offset [(k1, o1), (k2, o2)] d i = d := by
  show (if k1 = i then o1 else if k2 = i then o2 else d) = d
  rw [if_neg (fun e => h.1 e.symm), if_neg (fun e => h.2 e.symm)]
/-! bits -/
theorem nI_and (a b : Nat) : nI a &&& nI b = nI (a &&& b) := by
  apply Int32.toBitVec_inj.1
  show BitVec.ofNat 32 a &&& BitVec.ofNat 32 b = BitVec.ofNat 32 (a &&& b)
  apply BitVec.eq_of_getLsbD_eq
  intro i hi
  simp [hi]
theorem nI_or (a b : Nat) : nI a ||| nI b = nI (a ||| b) := by
  apply Int32.toBitVec_inj.1
  show BitVec.ofNat 32 a ||| BitVec.ofNat 32 b = BitVec.ofNat 32 (a ||| b)
  apply BitVec.eq_of_getLsbD_eq
  intro i hi
  simp [hi]
theorem s_l : ∀ n, n < 32 → ((nI n &&& 31).toBitVec.smod 32).toNat = n := by decide +kernel
theorem nI_shl {a k : Nat} (hk : k < 32) (h : a * 2 ^ k < 4294967296) : nI a <<< (nI k &&& 31) = nI (a * 2 ^ k) := pk_shlN _ k (s_l k hk) (by omega)
theorem nI_shr {a k : Nat} (hk : k < 32) (h : a < 2147483648) : nI a >>> (nI k &&& 31) = nI (a / 2 ^ k) := pk_shrN (by omega) _ k (s_l k hk)
theorem nI_and1 {a : Nat} (h : a < 4294967296) : nI a &&& nI 1 = nI (a % 2) := pk_andN (by omega) 1 rfl
theorem yearsS_next {P : PL} {S T U : ST} {i k : Nat} (hT : T = yearsS P S i) (hU : U = yrFold P T k) (hk : k = P.2.2.2.2.2.1) : (U.1, giveLe P U.2.1 P.2.2.2.2.2.2, U.2.2.1, U.2.2.2.1, U.2.2.2.2 + 1) = yearsS P S (i + 1) := by
  subst hk
  subst hU
  subst hT
  rfl
def layHi (P : PL) : Nat → Nat → Nat | 0 => fun _ => 0 | n + 1 => va_up (layHi P n) n (P.1 n)
def layPl (P : PL) : Nat → Nat → Nat | 0 => fun _ => 0 | n + 1 => va_up (layPl P n) n (P.2.2.1 (n * 4 + 3))
def layS (P : PL) : ST := (layHi P 24, giveLe P (fun _ => 0) P.2.2.2.2.2.2, layPl P P.2.2.2.2.2.2, 0, 0)
theorem layHi_le {P : PL} (hp : pOK P) : ∀ n k, layHi P n k ≤ 9
  | 0, _ => by simp [layHi]
  | n + 1, k => by
    rw [layHi]
    unfold va_up
    split
    · exact hp.1 n
    · exact layHi_le hp n k
theorem layHi_at (P : PL) : ∀ n k, k < n → layHi P n k = P.1 k
  | 0, _, h => absurd h (Nat.not_lt_zero _)
  | n + 1, k, h => by
    rw [layHi]
    unfold va_up
    split
    · rename_i e; rw [e]
    · exact layHi_at P n k (by omega)
theorem layHi_out (P : PL) : ∀ n k, n ≤ k → layHi P n k = 0
  | 0, _, _ => rfl
  | n + 1, k, h => by
    rw [layHi]
    unfold va_up
    rw [if_neg (by omega)]
    exact layHi_out P n k (by omega)
theorem layS_hi {P : PL} (hp : pOK P) : sHi (layS P) := fun k => Nat.le_trans (layHi_le hp 24 k) (by omega)
theorem clH_n {n : Nat} (h : n ≤ 40) : clH (n : Int) = n := by unfold clH; omega
theorem nI_bit (a : Nat) : nI a &&& nI 1 = nI (a % 2) := by rw [nI_and, Nat.and_one_is_mod]
theorem nI_1shl {k : Nat} (hk : k < 32) : nI 1 <<< (nI k &&& 31) = nI (2 ^ k) := by
  have h : 2 ^ k < 4294967296 := Nat.lt_of_lt_of_le (Nat.pow_lt_pow_right (by omega) hk) (by decide)
  rw [nI_shl hk (by omega), Nat.one_mul]
theorem cpy_n {f g : Nat → Nat} {sp dp n : Nat} : (va_cpy (fun j => nI (f j)) (fun j => nI (g j)) sp dp n) = fun j => nI (va_cpy f g sp dp n j) := by
  funext j
  unfold va_cpy
  split <;> rfl
theorem cpy_all {f g : Nat → Int32} {n j : Nat} (h : j < n) : va_cpy f g 0 0 n j = f j := by
  unfold va_cpy
  rw [if_pos ⟨by omega, by omega⟩]
  congr 1
  omega
section COPY
variable {p : Program} {l : Launch} {e : Env} {R : Room} {s : State} {m : MethodId} {args : Array Value} {below : List Frame} {meth : Method} {c : Code} {H H0 : Heap} {locs : List Loc} {cells slots : Nat} {Q : State → Prop} {A : Nat → Prop} {D : va_G} {tys : List (ClassId × FieldType)} {ws : va_W} {as : List Nat} {cc : ByteArray} {pc : Nat} {ls : Array Slot} {rest : List Value} {a : Nat}
theorem ra_copy (hexec : p.tables.exec = Jvm.exec) (hb : c.code = cc) (hml : c.maxLocals = ls.size) {own : String} {index : Nat} (hown : s.vm.findClass own = some m.cls) (hlink : (Cond.methodLink own index arraycopyName).before args s = true) (hnat : (Cond.native arraycopyName).before args s = true) (hstat : (Cond.static arraycopyName).before args s = true) (hini : (Cond.initialized "java/lang/System").before args s = true)
    (hK : va_K D vwCl tys s) (hP : va_P D vwCl ws H) (hV : vD A as) (hS : va_S A H0 H locs) (q0 q1 t0 : Nat) {a0 : Nat} {cA : ClassId} {n0 n1 : Nat} {f g g2 : Nat → Int32} (ha0 : ws[q0]? = some (a0, .inl (cA, n0, .inl f))) (ha1 : ws[q1]? = some (a, .inl (cA, n1, .inl g))) (ht0 : tys[t0]? = some (cA, .int))
    {sp dp n : Nat} (h4 : sp + n ≤ n0) (h5 : dp + n ≤ n1) (hb0 : n0 < 2147483648) (hb1 : n1 < 2147483648) (hg : ∀ j, j < n1 → va_cpy f g sp dp n j = g2 j)
    (hframes : 1 ≤ R.frames) (hlocals : (rest.map fun v => v.category).sum + (nativeFrameWords "java/lang/System" "arraycopy" 5 + 11) ≤ R.locals) (hdg : decode cc pc = .ok (.invokestatic index, 3)) (hw : ws.map Prod.fst = as) {ws2 : va_W} (h2 : ws.set q1 (a, .inl (cA, n1, .inl g2)) = ws2)
    (kk : ∀ (H1 : Heap) (locs1 : List Loc), va_P D vwCl ws2 H1 → va_S A H0 H1 locs1 → W p l e R s m args below meth c H1 locs1 cells slots Q (F0 m (pc + 3) ls rest)) : W p l e R s m args below meth c H locs cells slots Q (F0 m pc ls (.int (nI n) :: .int (nI dp) :: .ref a :: .int (nI sp) :: .ref a0 :: rest)) := by
  refine va_copyi hexec hb hml hown hlink hnat hstat hini hK hP (vD_to hV hw) hS q0 q1 t0 t0 ha0 ha1 ht0 ht0 rfl (nI_pos (by omega)) (nI_pos (by omega)) (nI_pos (by omega)) (by rw [nI_cl (by omega), nI_cl (by omega)]; exact h4) (by rw [nI_cl (by omega), nI_cl (by omega)]; exact h5) (fun _ _ => rfl) hframes hlocals hdg (fun H1 locs1 hP1 _ hS1 => kk H1 locs1 ?_ hS1)
  rw [nI_cl (by omega), nI_cl (by omega), nI_cl (by omega)] at hP1
  have hl : q1 < ws.length := (List.getElem?_eq_some_iff.mp ha1).1
  have h3 := va_P_arr (k := q1) (a := a) (n := n1) (cA := cA) (g := g2) hP1 (by rw [List.getElem?_set]; simp [hl]) hg
  rw [List.set_set, h2] at h3
  exact h3
end COPY
section CALLS2
variable {p : Program} {l : Launch} {e : Env} {R : Room} {s : State} {m : MethodId} {args : Array Value} {below : List Frame} {meth : Method} {c : Code} {H H0 : Heap} {locs : List Loc} {cells slots : Nat} {Q : State → Prop} {A : Nat → Prop} {D : va_G} {tys : List (ClassId × FieldType)} {ws wc : va_W} {as : List Nat} {cc : ByteArray} {nL pc : Nat} {ls : Array Slot} {rest st0 : List Value} {own C : String} {index maxL n : Nat} {bytes : ByteArray} {ret : Option FieldType} {Ts w : List Cond} {rm : Room} {y : MethodName} {As : List Value} {b : Nat}
theorem cv_Sd (F : CallFix p m c cc nL s args Ts own) (hN : nestOK s) (hK : va_K D vwCl tys s) (hP : va_P D vwCl ws H) (hV : vD A as) (hS : va_S A H0 H locs) (hA : ∀ q, H0.size ≤ q → A q)
    {w1 : va_W} (hM : CV l D tys y w rm As wc (fun u => u = w1)) (cw : CallB R s args own index y bytes maxL ret w rm 0 0 n ∧ (Cond.static y).before args s = true)
    (isC : List Nat) (hC : isC.map (fun i => ws[i]?) = wc.map some) (hn : va_nd isC = true)
    (hnA : As.length = n) (hsz : ls.size = nL) (hst : st0 = As.reverse ++ rest) (hrest : (rest.map fun v => v.category).sum ≤ 8) (hdg : decode cc pc = .ok (.invokestatic index, 3)) (hf : cells ≤ R.cells ∧ slots ≤ R.slots) (ha : ws.map Prod.fst = as)
    {ws2 : va_W} (h2 : putAll ws isC w1 = ws2) (kk : ∀ (H1 : Heap) (locs1 : List Loc), va_P D vwCl ws2 H1 → va_S A H0 H1 locs1 → W p l e R s m args below meth c H1 locs1 cells slots Q (F0 m (pc + 3) ls rest)) :
    W p l e R s m args below meth c H locs cells slots Q (F0 m pc ls st0) := by
  refine cv_S F hN hK hP hV hS hA hM cw isC hC hn hnA hsz hst hrest hdg hf ha (fun u H1 locs1 hq1 _ hP1 hS1 => ?_)
  subst hq1
  rw [h2] at hP1
  exact kk H1 locs1 hP1 hS1
end CALLS2
abbrev aiW (a0 : Nat) (cI : ClassId) (T : Nat × (Nat → Int32)) : va_W := [(a0, .inl (cI, T.1, .inl T.2))]
