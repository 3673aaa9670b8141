/-! methods that answer a reference, rows of references -/
/-- a method that answers the reference ra and leaves the world as it is -/
def CR (l : Launch) (D : va_G) (tys : List (ClassId × FieldType)) (y : MethodName) (w : List Cond) (rm : Room) (av : List Value) (ws : va_W) (ra : Nat) : Prop :=
  ∀ sz, Met l y w rm (va_Pc av (cPre D tys ws sz)) (va_Qr (fun (u : va_W) => u = ws) (fun u a t => a = ra ∧ va_P D vwCl u t.heap) (va_A ws sz)) 0 0 (va_A ws sz)
theorem cr_intro {l : Launch} {D : va_G} {tys : List (ClassId × FieldType)} {y : MethodName} {w w' : List Cond} {rm : Room} {av : List Value} {ws : va_W} {ra : Nat} {cc : ByteArray} {maxL : Nat} {nC : String}
    (hy : plainName y.cls = true) (hw : w = Cond.code y cc maxL (some (.object nC)) :: w') (hav : (lg_sl av).length ≤ maxL)
    (body : ∀ (p : Program) (e : Env) (s : State) (m : MethodId) (args : Array Value) (below : List Frame) (meth : Method) (c : Code) (ls : Array Slot) (A : Nat → Prop) (QF : State → Prop),
      mFacts p s m args c cc maxL w y.cls → va_K D vwCl tys s → va_P D vwCl ws s.heap → vD A (ws.map Prod.fst) → va_S A s.heap s.heap [] → (∀ q, s.heap.size ≤ q → A q) → nestOK s → lv_has ls maxL (lv_args 0 av) →
      (∀ {H : Heap} {locs : List Loc} {ls1 : Array Slot} (pc : Nat), va_P D vwCl ws H → va_S A s.heap H locs → decode cc pc = .ok (.areturn, 1) → W p l e rm s m args below meth c H locs 0 0 QF (F0 m pc ls1 [.ref ra])) →
      W p l e rm s m args below meth c s.heap [] 0 0 QF (F0 m 0 ls [])) : CR l D tys y w rm av ws ra := by
  intro sz
  refine Met.ofW (cc := cc) (maxL := maxL) (ret := some (.object nC)) hy hw ?_
  intro p e s m args below meth c s₁ B hml hv
  obtain ⟨rfl, hsz, hP, hK, hD0, hN⟩ := hv
  have hx := B.exec
  have hb := B.bytes
  have hr := B.returns
  have hts := atoms_spec (ws := w) B.pre
  have hown : s.vm.findClass y.cls = some m.cls := findClass_of_methodNamed B.named
  have hlocks := B.notSynchronized
  subst hsz
  have hl := lv_entry av (n := maxL) hav
  rw [lg_entry_eq]
  generalize (lg_sl av ++ List.replicate (maxL - (lg_sl av).length) Slot.unset).toArray = ls at hl ⊢
  refine body p e s m _ below meth c ls (va_A ws s.heap.size) _ ⟨hx, hb, hml, hown, hts⟩ hK hP (vD_of hD0.self) va_S.rf (fun q h => Or.inr h) hN hl ?_
  intro H locs ls1 pc hPu hS hdg
  exact W.aret hx hb hr (Or.inl ⟨nC, rfl⟩) (Or.inr ⟨ra, rfl⟩) (fun t ht hW => ⟨⟨ws, ra, rfl, rfl, rfl, by rw [ht]; exact hPu⟩, hS.F ht⟩) hS.2.2 hdg
section CALLS
variable {p : Program} {l : Launch} {e : Env} {R : Room} {s : State} {m : MethodId} {args : Array Value} {below : List Frame} {meth : Method} {c : Code} {H H0 : Heap} {locs : List Loc} {cells slots : Nat} {Q : State → Prop} {A : Nat → Prop} {D : va_G} {tys : List (ClassId × FieldType)} {ws wc : va_W} {as : List Nat} {cc : ByteArray} {nL pc : Nat} {ls : Array Slot} {rest st0 : List Value} {own C : String} {index maxL n : Nat} {bytes : ByteArray} {ret : Option FieldType} {Ts w : List Cond} {rm : Room} {y : MethodName} {As : List Value} {b a : Nat}
theorem cr_V (F : CallFix p m c cc nL s args Ts own) (hN : nestOK s) (hK : va_K D vwCl tys s) (hP : va_P D vwCl ws H) (hV : vD A as) (hS : va_S A H0 H locs) (hA : ∀ q, H0.size ≤ q → A q)
    {ra : Nat} (hM : CR l D tys y w rm (.ref b :: As) wc ra) (cw : CallW R s args own C index y bytes maxL ret w rm 0 0 n)
    (isC : List Nat) (hC : isC.map (fun i => ws[i]?) = wc.map some) (hn : va_nd isC = true) (q0 ci : Nat) {fs : List Value} (hq : wc[q0]? = some (b, .inr (ci, fs))) {T : u_T} {N : Nat} (hcl : vwCl[ci]? = some (C, T, N))
    (hnA : As.length = n) (hsz : ls.size = nL) (hst : st0 = As.reverse ++ .ref b :: rest) (hrest : (rest.map fun v => v.category).sum ≤ 8) (hdg : decode cc pc = .ok (.invokevirtual index, 3)) (hf : cells ≤ R.cells ∧ slots ≤ R.slots) (ha : ws.map Prod.fst = as)
    {ws2 : va_W} (h2 : putAll ws isC wc = ws2) (kk : ∀ (H1 : Heap) (locs1 : List Loc), va_P D vwCl ws2 H1 → va_S A H0 H1 locs1 → W p l e R s m args below meth c H1 locs1 cells slots Q (F0 m (pc + 3) ls (.ref ra :: rest))) :
    W p l e R s m args below meth c H locs cells slots Q (F0 m pc ls st0) := by
  have hD := vD_to hV ha
  have hPc := cut_P hP hC
  have hDc := hD.sub isC hn hC
  have hFc := va_free (wc := wc) hD hS hA isC hC
  refine va_callr (va_runV (As := As) (rest := rest) F (hM H.size) cw ⟨cPre.blind, va_recv hK hPc hcl hq, fun U hU hW => ⟨rfl, cut_pre hN hK hPc hDc hU hW⟩⟩ rfl hnA hsz hst (lv_room hrest) hdg hf) hS (fun q _ h => hFc q h) hFc (fun u ra2 t H1 locs1 ht hvm hw hB hz1 hk1 hS => ?_)
  obtain ⟨rfl, hB⟩ := hB
  rw [ht, hw] at hB
  have := putAll_P hP hD hC rfl hB hk1
  rw [h2] at this
  exact kk H1 locs1 this hS
theorem rq_ald (hexec : p.tables.exec = Jvm.exec) (hb : c.code = cc) (hK : va_K D vwCl tys s) (hP : va_P D vwCl ws H) (q0 t0 : Nat) {cA : ClassId} {C : String} {n : Nat} {f : Nat → Option Nat} (ha : ws[q0]? = some (a, .inl (cA, n, .inr (.inr (.inr (.inr f)))))) (ht : tys[t0]? = some (cA, .object C)) {k v : Nat} (hk : k < n) (hn : n < 2147483648) (hv : f k = some v) (hdg : decode cc pc = .ok (.aaload, 1))
    (kk : W p l e R s m args below meth c H locs cells slots Q (F0 m (pc + 1) ls (.ref v :: rest))) : W p l e R s m args below meth c H locs cells slots Q (F0 m pc ls (.int (nI k) :: .ref a :: rest)) := by
  refine va_aldq hexec hb hK hP q0 t0 ha ht (nI_vp hk hn) hdg ?_
  rw [nI_cl (by omega), hv]
  exact kk
theorem rq_ast (hexec : p.tables.exec = Jvm.exec) (hb : c.code = cc) (hK : va_K D vwCl tys s) (hP : va_P D vwCl ws H) (hV : vD A as) (hS : va_S A H0 H locs) (q0 t0 qk ci : Nat) {cA : ClassId} {r : vw_C} {n v : Nat} {vs : List Value} {f : Nat → Option Nat} (ha : ws[q0]? = some (a, .inl (cA, n, .inr (.inr (.inr (.inr f)))))) (ht : tys[t0]? = some (cA, .object r.1)) (hv : ws[qk]? = some (v, .inr (ci, vs))) (hc : vwCl[ci]? = some r) {k : Nat} (hk : k < n) (hn : n < 2147483648) (hdg : decode cc pc = .ok (.aastore, 1)) (hw : ws.map Prod.fst = as) {ws2 : va_W} (h2 : ws.set q0 (a, .inl (cA, n, .inr (.inr (.inr (.inr (va_up f k (some v))))))) = ws2)
    (kk : ∀ (H1 : Heap) (locs1 : List Loc), va_P D vwCl ws2 H1 → va_S A H0 H1 locs1 → W p l e R s m args below meth c H1 locs1 cells slots Q (F0 m (pc + 1) ls rest)) : W p l e R s m args below meth c H locs cells slots Q (F0 m pc ls (.ref v :: .int (nI k) :: .ref a :: rest)) :=
  va_astq hexec hb hK hP (vD_to hV hw) hS q0 t0 qk ci ha ht hv hc (nI_vp hk hn) hdg (fun H1 locs1 hP1 _ hS1 => kk H1 locs1 (by rw [nI_cl (by omega), h2] at hP1; exact hP1) hS1)
end CALLS
/-! a pile: its order, how many, what stands in each -/
abbrev PI : Type := (Nat → Nat) × Nat × (Nat → ST)
abbrev pE (h0 h1 : Nat) (Z : PI) : Nat × va_E := (h0, .inr (1, [.ref h1, .int (nI Z.2.1)]))
abbrev hE (n h1 : Nat) (cS : ClassId) (f : Nat → Option Nat) : Nat × va_E := (h1, .inl (cS, n, .inr (.inr (.inr (.inr f)))))
abbrev pf (yb pi : Nat → Nat) : Nat → Option Nat := fun j => some (yb (4 * pi j))
abbrev sE (a0 a1 a2 a3 : Nat) (S : ST) : Nat × va_E := (a0, .inr (8, [.ref a1, .ref a2, .ref a3, .int (nI S.2.2.2.1), .int (nI S.2.2.2.2)]))
def rotP (n : Nat) (pi : Nat → Nat) : Nat → Nat := fun j => if j = n - 1 then pi 0 else if j < n - 1 then pi (j + 1) else pi j
def shP (yb pi : Nat → Nat) (i : Nat) : Nat → Option Nat := fun j => if j < i - 1 then some (yb (4 * pi (j + 1))) else some (yb (4 * pi j))
theorem shP_1 (yb pi : Nat → Nat) : pf yb pi = shP yb pi 1 := by
  funext j
  unfold shP pf
  rw [if_neg (by omega)]
theorem shP_s {yb pi : Nat → Nat} {i : Nat} (hi : 1 ≤ i) : va_up (shP yb pi i) (i - 1) (some (yb (4 * pi i))) = shP yb pi (i + 1) := by
  funext j
  unfold va_up shP
  by_cases q : j = i - 1
  · subst q
    rw [if_pos rfl, if_pos (by omega), show i - 1 + 1 = i by omega]
  · rw [if_neg q]
    by_cases q2 : j < i - 1
    · rw [if_pos q2, if_pos (by omega)]
    · rw [if_neg q2, if_neg (by omega)]
theorem shP_at {yb pi : Nat → Nat} {i : Nat} (hi : 1 ≤ i) : shP yb pi i i = some (yb (4 * pi i)) := by
  unfold shP
  rw [if_neg (by omega)]
theorem shP_e {yb pi : Nat → Nat} {n : Nat} (hn : 1 ≤ n) : va_up (shP yb pi n) (n - 1) (some (yb (4 * pi 0))) = pf yb (rotP n pi) := by
  funext j
  unfold va_up shP pf rotP
  by_cases q : j = n - 1
  · rw [if_pos q, if_pos q]
  · rw [if_neg q, if_neg q]
    by_cases q2 : j < n - 1
    · rw [if_pos q2, if_pos q2]
    · rw [if_neg q2, if_neg q2]
abbrev plE (a0 a1 a2 a3 : Nat) (P : PL) : Nat × va_E := (a0, .inr (2, [.ref a1, .ref a2, .ref a3, .int (nI P.2.2.2.1), .int (nI P.2.2.2.2.1), .int (nI P.2.2.2.2.2.1), .int (nI P.2.2.2.2.2.2)]))
abbrev ltE (a0 a1 : Nat) (T : LT) : Nat × va_E := (a0, .inr (0, [.ref a1, .int (nI T.2)]))
abbrev rdE (a0 a1 a2 : Nat) (T : RD) : Nat × va_E := (a0, .inr (3, [.ref a1, .ref a2, .int (nI T.2.2)]))
abbrev sgE (a0 a1 a2 : Nat) (T : SG) : Nat × va_E := (a0, .inr (6, [.ref a1, .ref a2, .int (nI T.2.2)]))
abbrev rwE (w0 w1 w2 w3 w4 w5 w6 w7 w8 w9 w10 w11 w12 : Nat) : Nat × va_E := (w0, .inr (9, [.ref w1, .ref w2, .ref w3, .ref w4, .ref w5, .ref w6, .ref w7, .ref w8, .ref w9, .ref w10, .ref w11, .ref w12]))
def psh (n : Nat) (Z : PI) (S : ST) : PI := if n ≤ Z.2.1 then (rotP n Z.1, n, va_up Z.2.2 (Z.1 0) S) else (Z.1, Z.2.1 + 1, va_up Z.2.2 (Z.1 Z.2.1) S)
abbrev ppS (Z : PI) : ST := Z.2.2 (Z.1 (Z.2.1 - 1))
abbrev ppZ (Z : PI) : PI := (Z.1, Z.2.1 - 1, Z.2.2)
theorem rotP_lt {n : Nat} {pi : Nat → Nat} (h : ∀ j, j < n → pi j < n) (hn : 1 ≤ n) (j : Nat) (hj : j < n) : rotP n pi j < n := by
  unfold rotP
  split
  · exact h 0 (by omega)
  · split
    · exact h _ (by omega)
    · exact h j hj
theorem rotP_l {n : Nat} {pi : Nat → Nat} : rotP n pi (n - 1) = pi 0 := by
  unfold rotP
  rw [if_pos rfl]
/-! cells next to one another in a world -/
theorem putAll_set (A X B : va_W) (e x : Nat × va_E) : (A ++ (x :: X) ++ B).set A.length e = A ++ (e :: X) ++ B := by
  rw [List.append_assoc, List.set_append_right _ _ (Nat.le_refl _), Nat.sub_self]
  simp
theorem putAll_mid : ∀ (X U A B : va_W), X.length = U.length → putAll (A ++ X ++ B) (List.range' A.length X.length) U = A ++ U ++ B
  | [], [], _, _, _ => rfl
  | x :: X, u :: U, A, B, h => by
    show putAll ((A ++ (x :: X) ++ B).set A.length u) (List.range' (A.length + 1) X.length) U = A ++ (u :: U) ++ B
    rw [putAll_set]
    have ih := putAll_mid X U (A ++ [u]) B (Nat.succ.inj h)
    simp only [List.length_append, List.length_singleton, List.append_assoc, List.singleton_append] at ih
    simp only [List.append_assoc, List.cons_append]
    exact ih
theorem putMid {ws ws2 A X U B : va_W} {is : List Nat} (h1 : A ++ X ++ B = ws) (h2 : List.range' A.length X.length = is) (h3 : A ++ U ++ B = ws2) (h : X.length = U.length) : putAll ws is U = ws2 := by
  subst h1 h2 h3
  exact putAll_mid X U A B h
theorem popN_lec : ∀ ca, ca < 7 → ∀ p, p < 2 ^ ca → popN p 6 ≤ ca := by decide +kernel
theorem faultZ_n {q : Option Nat × PL} : faultZ q = -4 ↔ q.1 = none := by
  unfold faultZ
  rcases q.1 with _ | k
  · exact ⟨fun _ => rfl, fun _ => rfl⟩
  · refine ⟨fun h => ?_, fun h => by cases h⟩
    have h : (k : Int) = -4 := h
    omega
theorem readS_lt {T : LT} : ∀ (n k : Nat) (P : PL) (j : Nat), (readS T n k P).1 = some j → j < T.2
  | 0, _, _, _, h => by cases h
  | n + 1, k, P, j, h => by
    rw [readS] at h
    by_cases q : k < T.2
    · rw [if_pos q] at h
      rcases hi : itemS T P k with _ | ⟨P1, k1⟩
      · rw [hi] at h
        have h : (some k : Option Nat) = some j := h
        cases h
        exact q
      · rw [hi] at h
        exact readS_lt n k1 P1 j h
    · rw [if_neg q] at h; cases h
theorem faultZ_r {T : LT} (ht : T.2 ≤ 200) (n k : Nat) (P : PL) : -4 ≤ faultZ (readS T n k P) ∧ faultZ (readS T n k P) < 200 := by
  unfold faultZ
  rcases hq : (readS T n k P).1 with _ | j
  · exact ⟨Int.le_refl _, by show (-4 : Int) < 200; omega⟩
  · have := readS_lt n k P j hq
    exact ⟨by show (-4 : Int) ≤ (j : Int); omega, by show (j : Int) < 200; omega⟩
