/-! what a standing has besides -/
def stX (P : PL) (S : ST) : Prop := sZ P S ∧ (∀ k, P.2.2.2.2.2.2 ≤ k → S.2.1 k = 0) ∧ S.2.2.2.1 < 2 ^ P.2.2.2.2.2.1
def zCount (P : PL) (S : ST) (sn ac kp len : Nat) (v : Int) : Int :=
  if v = 0 then (pCells P : Int) else if v = 1 then (P.2.2.2.1 : Int) else if v = 2 then (P.2.2.2.2.2.1 : Int) else if v = 3 then (P.2.2.2.2.2.2 : Int)
  else if v = 4 then (S.2.2.2.2 : Int) else if v = 5 then (nSum S.1 24 : Int) else if v = 6 then (nCnt S.1 12 24 : Int) else if v = 7 then ((P.2.2.2.2.2.1 - popN S.2.2.2.1 6 : Nat) : Int)
  else if v = 8 then (nSum S.2.1 3 : Int) else if v = 9 then (sn : Int) else if v = 10 then (ac : Int) else if v = 11 then (kp : Int) else if v = 12 then (len : Int) else -1
section CNT
variable {P : PL} {S T : ST} {f sl so cl de si ms wa ir : Nat → Nat} {b k x n ac : Nat}
theorem all_rel (h3 : P.2.2.2.2.2.2 ≤ 3) (h : rF P sl 0 S) (hx : stX P S) : nSum (fun j => sl (24 + j)) P.2.2.2.2.2.2 = nSum S.2.1 3 := by
  rw [show (3 : Nat) = P.2.2.2.2.2.2 + (3 - P.2.2.2.2.2.2) by omega, nSum_more _ (fun j h1 _ => hx.2.1 j h1)]
  exact nSum_congr _ (fun j hj => rF_le h (by omega))
theorem sum0_rel (hw : pWF P) (h : rF P sl 0 S) (hx : stX P S) : nSum (fun j => sl (0 + j)) (pCells P) = nSum S.1 24 := sum_rel hw h hx.1
theorem cnt0_rel (hw : pWF P) (h : rF P sl 0 S) (hx : stX P S) : nCnt (fun j => sl (0 + j)) 12 (pCells P) = nCnt S.1 12 24 := cnt_rel hw h hx.1
theorem bits_rel (hw : pWF P) (h : rF P sl 0 S) (hx : stX P S) : popN (opN P.2.2.2.2.2.1 (sl (0 + 30))) 6 = P.2.2.2.2.2.1 - popN S.2.2.2.1 6 := by
  have h6 : P.2.2.2.2.2.1 ≤ 6 := hw.1.2.2.2.2.2.1
  rw [h.2.2]
  exact opN_bits _ (by omega) _ hx.2.2
theorem yearS_x (hw : pWF P) (h : stX P S) : stX P (yearS P S) := by
  refine ⟨yearS_z hw h.1, fun k hk => ?_, by rw [yearS_pa]; exact h.2.2⟩
  show giveLe P (yrFold P S _).2.1 P.2.2.2.2.2.2 k = 0
  rw [yrFold_2]
  have : ∀ n, n ≤ P.2.2.2.2.2.2 → giveLe P S.2.1 n k = S.2.1 k := by
    intro n
    induction n with
    | zero => intro _; rfl
    | succ n ih =>
      intro hn
      rw [giveLe, upNe (by omega)]
      exact ih (by omega)
  rw [this _ (Nat.le_refl _)]
  exact h.2.1 k hk
theorem yearsS_x (hw : pWF P) (h : stX P S) : ∀ n, stX P (yearsS P S n)
  | 0 => h
  | n + 1 => yearS_x hw (yearsS_x hw h n)
theorem strS_x (hx : x < pCells P) (h : stX P S) : stX P (strS P S k x) := by
  refine ⟨strS_z hx h.1, fun j hj => ?_, by rw [strS_rest]; exact h.2.2⟩
  rw [strS_le]
  by_cases q : j = k
  · subst q
    rw [upEq]
    have := h.2.1 j hj
    omega
  · rw [upNe q]
    exact h.2.1 j hj
theorem parS_x (hk : k < P.2.2.2.2.2.1) (h : stX P S) : stX P (parS S k) :=
  ⟨h.1, h.2.1, Nat.or_lt_two_pow h.2.2 (Nat.pow_lt_pow_right (by omega) hk)⟩
theorem drawS_x (hw : pWF P) (h : stX P S) (d : Nat) : stX P (drawS P S d) := by
  unfold drawS
  split
  · split
    · exact yearsS_x hw h 1
    · exact h
  · split
    · split
      · next q => exact parS_x (Nat.mod_lt _ q) h
      · exact h
    · split
      · next q =>
        unfold strIf
        split
        · exact strS_x (Nat.mod_lt _ q.2) h
        · exact h
      · exact h
theorem eveS_x (hw : pWF P) (h : stX P S) (z : Nat) : ∀ n, stX P (eveS P S z n)
  | 0 => h
  | n + 1 => drawS_x hw (eveS_x hw h z n) _
/-- behind some years: what stands, in all the words that are wanted -/
theorem yearsS_ok (hp : plOK P) (h : stOK P S) (hy : S.2.2.2.2 ≤ 2000) : ∀ n, n ≤ 1000 → stOK P (yearsS P S n)
  | 0, _ => h
  | n + 1, hn => yearS_ok hp (yearsS_ok hp h hy n (by omega)) (by rw [yearsS_yr]; omega)
theorem opl (hh : f (b + 30) = S.2.2.2.1) (h : S.2.2.2.1 < 64) : f (b + 30) < 64 := by rw [hh]; exact h
theorem pass_st (hw : pWF P) (hc : rC P so cl de si) (hm : rM P wa ir ms) (hb : ∀ j, ms j < 100) (hs : sHi T) (hp : T.2.2.2.1 < 64) (h : rF P f 0 T) (h2 : ∀ j, 32 ≤ j → f j = sl j) (h3 : ∀ j, f j < 90000 + n) : rF P (rGo P so cl de si ms 0 (opN P.2.2.2.2.2.1 (f (0 + 30))) f) 0 (yearS P T) ∧ (∀ j, 32 ≤ j → rGo P so cl de si ms 0 (opN P.2.2.2.2.2.1 (f (0 + 30))) f j = sl j) ∧ ∀ j, rGo P so cl de si ms 0 (opN P.2.2.2.2.2.1 (f (0 + 30))) f j < 90000 + (n + 1) := by
  have hcl : ∀ j, j < P.2.2.2.2.2.1 → cl j < pCells P := fun j hj => by rw [(hc j hj).2.1]; exact hw.2.2.1 j hj
  refine ⟨year1_rel hw hc hm h hs hp, fun j hj => ?_, fun j => ?_⟩
  · rw [go_out hw hcl (by omega)]
    exact h2 j hj
  · have := rGo_b (P := P) (so := so) (cl := cl) (de := de) (si := si) (bs := 0) (st := opN P.2.2.2.2.2.1 (f (0 + 30))) h3 (by omega) hb j
    omega
theorem kn_rF (hw : pWF P) (h : rF P sl 0 S) : rF P (kn sl ac) 0 S := rF_lo hw.1.2.2.2.2.2.2 h (fun j hj => by rw [Nat.zero_add]; exact kn_lo hj)
theorem pard_rel (hw : pWF P) (hk : k < P.2.2.2.2.2.1) (h : rF P sl 0 S) (hb : sB sl) (hx : stX P S) (hp : S.2.2.2.1 < 64) : aRel P sl ac (va_up (kn sl ac) 30 (kn sl ac 30 ||| 2 ^ k)) (parS S k) ∧ popN (opN P.2.2.2.2.2.1 (va_up (kn sl ac) 30 (kn sl ac 30 ||| 2 ^ k) (0 + 30))) 6 = P.2.2.2.2.2.1 - popN (S.2.2.2.1 ||| 2 ^ k) 6 ∧ va_up (kn sl ac) 30 (kn sl ac 30 ||| 2 ^ k) (0 + 30) < 64 := by
  have h6 : P.2.2.2.2.2.1 ≤ 6 := hw.1.2.2.2.2.2.1
  have hk0 := kn_rF (ac := ac) hw h
  have hr := par_rel (k := k) hk0 hw.1.2.2.2.2.2.2
  have h64 := or_64 hp (show k < 6 by omega)
  have e : va_up (kn sl ac) 30 (kn sl ac 30 ||| 2 ^ k) (0 + 30) = S.2.2.2.1 ||| 2 ^ k := hr.2.2
  refine ⟨⟨hr, fun j hj => upNe (by omega), va_up_b (fun j => Nat.lt_of_lt_of_le (kn_b hb.1 j) (by omega)) ?_, fun j hj1 hj2 => by
    rw [upNe (by omega), kn_lo (by omega)]
    exact hb.2 _ (by omega)⟩, ?_, ?_⟩
  · have e2 : kn sl ac 30 = S.2.2.2.1 := hk0.2.2
    rw [e2]
    omega
  · rw [e]
    exact opN_bits _ (by omega) _ (parS_x hk hx).2.2
  · rw [e]
    exact h64
end CNT
