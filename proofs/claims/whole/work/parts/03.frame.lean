/-! numbers: an int is nI n for a natural number, jI z for an integer -/
def jI (z : Int) : Int32 := Int32.ofInt z
theorem jI_nat (n : Nat) : nI n = jI n := Int32.ofInt_eq_ofNat.symm
theorem jI_add (a b : Int) : jI a + jI b = jI (a + b) := (Int32.ofInt_add a b).symm
theorem jI_sub (a b : Int) : jI a - jI b = jI (a - b) := (Int32.ofInt_sub a b).symm
theorem jI_mul (a b : Int) : jI a * jI b = jI (a * b) := (Int32.ofInt_mul a b).symm
theorem jI_to {a : Int} (h : -2147483648 ≤ a ∧ a < 2147483648) : (jI a).toInt = a := Int32.toInt_ofInt_of_le (by omega) (by omega)
theorem tI_nI {n : Nat} (h : n < 2147483648) : (nI n).toInt = n := nI_toInt (by omega)
theorem jI_self (x : Int32) : x = jI x.toInt := (Int32.ofInt_toInt x).symm
theorem nI_self {x : Int32} (h : 0 ≤ x.toInt) : x = nI x.toInt.toNat := by
  rw [jI_nat, Int.toNat_of_nonneg h]; exact jI_self x
theorem i32_rng (x : Int32) : -2147483648 ≤ x.toInt ∧ x.toInt < 2147483648 := ⟨Int32.le_toInt x, Int32.toInt_lt x⟩
theorem jI_inj {a b : Int} (ha : -2147483648 ≤ a ∧ a < 2147483648) (hb : -2147483648 ≤ b ∧ b < 2147483648) (h : jI a = jI b) : a = b := by
  rw [← jI_to ha, ← jI_to hb, h]
theorem nI_inj {a b : Nat} (ha : a < 2147483648) (hb : b < 2147483648) (h : nI a = nI b) : a = b := by
  have h1 := tI_nI ha
  rw [h, tI_nI hb] at h1
  omega
theorem nI_cl {n : Nat} (h : n < 2147483648) : (nI n).toNatClampNeg = n := nI_clamp (by omega)
theorem nI_vp {n N : Nat} (h : n < N) (hN : N < 2147483648) : vp_in (nI n) N := vp_in_nI h (by omega)
theorem nar_b (c : Prop) [Decidable c] : narrow .boolean (.int (nI (if c then 1 else 0))) = .int (nI (if c then 1 else 0)) := by
  by_cases h : c
  · rw [if_pos h]; rfl
  · rw [if_neg h]; rfl
theorem nar_i (x : Int32) : narrow .int (.int x) = .int x := rfl
theorem nar_c {n : Nat} (h : n < 65536) : narrow .char (.int (nI n)) = .int (nI n) := (pk_charN h).1
/-! worlds -/
def vD (A : Nat → Prop) (as : List Nat) : Prop := (∀ (i j a : Nat), as[i]? = some a → as[j]? = some a → i = j) ∧ ∀ a ∈ as, A a
theorem vD_of {A : Nat → Prop} {ws : va_W} (h : va_D A ws) : vD A (ws.map Prod.fst) := by
  refine ⟨fun i j a hi hj => ?_, fun a ha => ?_⟩
  · rw [List.getElem?_map] at hi hj
    rcases hp : ws[i]? with _ | p
    · rw [hp] at hi; cases hi
    rcases hq : ws[j]? with _ | q
    · rw [hq] at hj; cases hj
    rw [hp] at hi
    rw [hq] at hj
    cases hi
    exact h.1 i j p q hp hq (Option.some.inj hj).symm
  · obtain ⟨q, hq, rfl⟩ := List.mem_map.mp ha
    obtain ⟨k, hk⟩ := List.getElem?_of_mem hq
    exact h.2 k q hk
theorem vD_to {A : Nat → Prop} {ws : va_W} {as : List Nat} (h : vD A as) (ha : ws.map Prod.fst = as) : va_D A ws := by
  subst ha
  refine ⟨fun i j p q hp hq e => h.1 i j p.1 ?_ ?_, fun k q hk => h.2 _ (List.mem_map.mpr ⟨q, List.mem_of_getElem? hk, rfl⟩)⟩
  · rw [List.getElem?_map, hp]; rfl
  · rw [List.getElem?_map, hq, e]; rfl
def putAll : va_W → List Nat → va_W → va_W
  | ws, i :: is, e :: es => putAll (ws.set i e) is es
  | ws, _, _ => ws
theorem putAll_at : ∀ (is : List Nat) (ws u : va_W) (k : Nat) (q : Nat × va_E), is.length = u.length → (putAll ws is u)[k]? = some q → q ∈ u ∨ (k ∉ is ∧ ws[k]? = some q) := by
  intro is
  induction is with
  | nil =>
    intro ws u k q hl h
    cases u with
    | nil => exact Or.inr ⟨List.not_mem_nil, h⟩
    | cons e es => cases hl
  | cons i is ih =>
    intro ws u k q hl h
    cases u with
    | nil => cases hl
    | cons e es =>
      rcases ih (ws.set i e) es k q (Nat.succ.inj hl) h with h1 | ⟨h1, h2⟩
      · exact Or.inl (List.mem_cons_of_mem _ h1)
      · rw [List.getElem?_set] at h2
        by_cases hik : i = k
        · rw [if_pos hik] at h2
          split at h2
          · cases h2; exact Or.inl List.mem_cons_self
          · cases h2
        · rw [if_neg hik] at h2
          exact Or.inr ⟨fun hm => (List.mem_cons.mp hm).elim (fun e => hik e.symm) h1, h2⟩
theorem putAll_P {D : va_G} {cl : List vw_C} {A : Nat → Prop} {ws wc u : va_W} {H H1 : Heap} {isC : List Nat} (hP : va_P D cl ws H) (hD : va_D A ws) (hC : isC.map (fun i => ws[i]?) = wc.map some) (hu : u.map Prod.fst = wc.map Prod.fst) (hPu : va_P D cl u H1) (hk : ∀ q : Nat, q < H.size → ¬ va_A wc H.size q → H1[q]? = H[q]?) : va_P D cl (putAll ws isC u) H1 := by
  have hl : isC.length = u.length := by
    have h1 := congrArg List.length hC
    have h2 := congrArg List.length hu
    simp only [List.length_map] at h1 h2
    omega
  intro k q hq
  rcases putAll_at isC ws u k q hl hq with h | ⟨h1, h2⟩
  · obtain ⟨j, hj⟩ := List.getElem?_of_mem h
    exact hPu j q hj
  · refine (hP k q h2).kept (hk q.1 (hP k q h2).lt ?_)
    rintro (⟨j, e, hj⟩ | hz)
    · have hx : (isC.map (fun i => ws[i]?))[j]? = some (some (q.1, e)) := by rw [hC, List.getElem?_map, hj]; rfl
      rw [List.getElem?_map] at hx
      rcases hi : isC[j]? with _ | i
      · rw [hi] at hx; cases hx
      · rw [hi] at hx
        have hx2 : ws[i]? = some (q.1, e) := Option.some.inj hx
        have : i = k := hD.1 i k _ _ hx2 h2 rfl
        exact h1 (this ▸ List.mem_of_getElem? hi)
    · exact absurd (hP k q h2).lt (by omega)
/-! arrays are what they hold below their length -/
theorem arrV_congr {cA : ClassId} {n : Nat} {f g : Nat → Value} (h : ∀ j, j < n → f j = g j) : arrV cA n f = arrV cA n g := by
  unfold arrV
  congr 2
  funext j
  exact h j.val j.isLt
theorem va_P_arr {D : va_G} {cl : List vw_C} {ws : va_W} {H : Heap} {k a n : Nat} {cA : ClassId} {f g : Nat → Int32} (hP : va_P D cl ws H) (hk : ws[k]? = some (a, .inl (cA, n, .inl f))) (h : ∀ j, j < n → f j = g j) : va_P D cl (ws.set k (a, .inl (cA, n, .inl g))) H := by
  intro i q hq
  rw [List.getElem?_set] at hq
  by_cases hik : k = i
  · rw [if_pos hik] at hq
    split at hq
    · cases hq
      have h1 := hP k _ hk
      show H[a]? = some (vp_cell cA (n, .inl g))
      rw [vp_cell_i, ← arrV_congr (f := fun j => .int (f j)) (fun j hj => by rw [h j hj])]
      exact h1
    · cases hq
  · rw [if_neg hik] at hq
    exact hP i q hq
theorem upd_n {f : Nat → Nat} {k v : Nat} : upd (fun j => nI (f j)) k (nI v) = fun j => nI (va_up f k v j) := by
  funext j
  simp only [upd, va_up]
  split <;> rfl
/-! words of nest mates, carried beside the tables' words -/
def kNest : List (String × Nat × MethodName × String) := [(RX9, 11, yX0_init, RX9), (RX9, 18, yX3_init, RX9), (RX9, 25, yX2_init, RX9), (RX9, 35, yX8_init, RX9), (RX9, 57, yX6_init, RX9), (RX9, 64, yX7_init, RX9), (RX9, 71, yX4_init, RX9), (RX9, 78, yX5_init, RX9), (RX1, 25, yX8_init, RX9), (RX2, 76, yX9_isHollow, RX9), (RX8, 57, yX9_isHollow, RX9)]
def nestOK (U : State) : Prop := ∀ q ∈ kNest, va_Nw (.methodLinkNest q.1 q.2.1 q.2.2.1 q.2.2.2) U
theorem nestOK.warm {s U : State} (h : nestOK s) (hW : s.WarmedH U.vm) : nestOK U := fun q hq => va_Nw.warmM hW (h q hq)
theorem nestOK.calling {U : State} {g : JFrame} {mk : MethodId} {a : Array Value} (h : nestOK U) : nestOK (U.calling g mk a) := fun q hq => va_Nw.same rfl rfl (h q hq)
/-! contracts -/
def cPre (D : va_G) (tys : List (ClassId × FieldType)) (ws : va_W) (sz : Nat) (U : State) : Prop := U.heap.size = sz ∧ va_P D vwCl ws U.heap ∧ va_K D vwCl tys U ∧ va_D (fun _ => True) ws ∧ nestOK U
theorem cPre.blind {D : va_G} {tys : List (ClassId × FieldType)} {ws : va_W} {sz : Nat} {av : List Value} : FrameBlind (va_Pc av (cPre D tys ws sz)) := fun a U g mk q => by
  obtain ⟨q0, q1, qP, qK, qD, qN⟩ := q
  exact ⟨q0, q1, qP, va_K.moved (u := U) (U := U.calling g mk a) (Vm.Alike.refl U.vm) qK, qD, qN.calling⟩
/-- a method that answers an int: Q of the answer and the world behind it -/
def CI (l : Launch) (D : va_G) (tys : List (ClassId × FieldType)) (y : MethodName) (w : List Cond) (rm : Room) (av : List Value) (ws : va_W) (Q : Int32 → va_W → Prop) : Prop :=
  ∀ sz, Met l y w rm (va_Pc av (cPre D tys ws sz)) (va_Qi (fun (r : Int32) (u : va_W) => Q r u ∧ u.map Prod.fst = ws.map Prod.fst) (fun u t => va_P D vwCl u t.heap) (va_A ws sz)) 0 0 (va_A ws sz)
def CV (l : Launch) (D : va_G) (tys : List (ClassId × FieldType)) (y : MethodName) (w : List Cond) (rm : Room) (av : List Value) (ws : va_W) (Q : va_W → Prop) : Prop :=
  ∀ sz, Met l y w rm (va_Pc av (cPre D tys ws sz)) (va_Qv (fun (u : va_W) => Q u ∧ u.map Prod.fst = ws.map Prod.fst) (fun u t => va_P D vwCl u t.heap) (va_A ws sz)) 0 0 (va_A ws sz)
/-- what holds of the machine within a body -/
def mFacts (p : Program) (s : State) (m : MethodId) (args : Array Value) (c : Code) (cc : ByteArray) (maxL : Nat) (w : List Cond) (own : String) : Prop :=
  p.tables.exec = Jvm.exec ∧ c.code = cc ∧ c.maxLocals = maxL ∧ s.vm.findClass own = some m.cls ∧ ∀ w1 ∈ w, w1.before args s = true
theorem ci_intro {l : Launch} {D : va_G} {tys : List (ClassId × FieldType)} {y : MethodName} {w w' : List Cond} {rm : Room} {av : List Value} {ws : va_W} {Q : Int32 → va_W → Prop} {cc : ByteArray} {maxL : Nat} {ty : FieldType}
    (hy : plainName y.cls = true) (hw : w = Cond.code y cc maxL (some ty) :: w') (hav : (lg_sl av).length ≤ maxL)
    (body : ∀ (p : Program) (e : Env) (s : State) (m : MethodId) (args : Array Value) (below : List Frame) (meth : Method) (c : Code) (ls : Array Slot) (A : Nat → Prop) (QF : State → Prop),
      mFacts p s m args c cc maxL w y.cls → va_K D vwCl tys s → va_P D vwCl ws s.heap → vD A (ws.map Prod.fst) → va_S A s.heap s.heap [] → (∀ q, s.heap.size ≤ q → A q) → nestOK s → lv_has ls maxL (lv_args 0 av) →
      (∀ {H : Heap} {locs : List Loc} {ls1 : Array Slot} {r : Int32} (pc : Nat) (u : va_W), va_P D vwCl u H → va_S A s.heap H locs → decode cc pc = .ok (.ireturn, 1) → narrow ty (.int r) = .int r → u.map Prod.fst = ws.map Prod.fst → Q r u → W p l e rm s m args below meth c H locs 0 0 QF (F0 m pc ls1 [.int r])) →
      W p l e rm s m args below meth c s.heap [] 0 0 QF (F0 m 0 ls [])) : CI l D tys y w rm av ws Q := by
  intro sz
  refine Met.ofW (cc := cc) (maxL := maxL) (ret := some ty) hy hw ?_
  intro p e s m args below meth c s₁ B hml hv
  obtain ⟨rfl, hsz, hP, hK, hD0, hN⟩ := hv
  have hx := B.exec
  have hb := B.bytes
  have hr := B.returns
  have hts := atoms_spec (ws := w) B.pre
  have hown : s.vm.findClass y.cls = some m.cls := findClass_of_methodNamed B.named
  have hlocks := B.notSynchronized
  subst hsz
  have hl := lv_entry av (n := maxL) hav
  rw [lg_entry_eq]
  generalize (lg_sl av ++ List.replicate (maxL - (lg_sl av).length) Slot.unset).toArray = ls at hl ⊢
  refine body p e s m _ below meth c ls (va_A ws s.heap.size) _ ⟨hx, hb, hml, hown, hts⟩ hK hP (vD_of hD0.self) va_S.rf (fun q h => Or.inr h) hN hl ?_
  intro H locs ls1 r pc u hPu hS hdg hn hu hq
  exact W.zret hx hb hr hn (fun t ht hW => ⟨⟨r, u, rfl, ⟨hq, hu⟩, by show va_P D vwCl u t.heap; rw [ht]; exact hPu⟩, hS.F ht⟩) hS.2.2 hdg
theorem cv_intro {l : Launch} {D : va_G} {tys : List (ClassId × FieldType)} {y : MethodName} {w w' : List Cond} {rm : Room} {av : List Value} {ws : va_W} {Q : va_W → Prop} {cc : ByteArray} {maxL : Nat}
    (hy : plainName y.cls = true) (hw : w = Cond.code y cc maxL none :: w') (hav : (lg_sl av).length ≤ maxL)
    (body : ∀ (p : Program) (e : Env) (s : State) (m : MethodId) (args : Array Value) (below : List Frame) (meth : Method) (c : Code) (ls : Array Slot) (A : Nat → Prop) (QF : State → Prop),
      mFacts p s m args c cc maxL w y.cls → va_K D vwCl tys s → va_P D vwCl ws s.heap → vD A (ws.map Prod.fst) → va_S A s.heap s.heap [] → (∀ q, s.heap.size ≤ q → A q) → nestOK s → lv_has ls maxL (lv_args 0 av) →
      (∀ {H : Heap} {locs : List Loc} {ls1 : Array Slot} (pc : Nat) (u : va_W), va_P D vwCl u H → va_S A s.heap H locs → decode cc pc = .ok (.return_, 1) → u.map Prod.fst = ws.map Prod.fst → Q u → W p l e rm s m args below meth c H locs 0 0 QF (F0 m pc ls1 [])) →
      W p l e rm s m args below meth c s.heap [] 0 0 QF (F0 m 0 ls [])) : CV l D tys y w rm av ws Q := by
  intro sz
  refine Met.ofW (cc := cc) (maxL := maxL) (ret := none) hy hw ?_
  intro p e s m args below meth c s₁ B hml hv
  obtain ⟨rfl, hsz, hP, hK, hD0, hN⟩ := hv
  have hx := B.exec
  have hb := B.bytes
  have hr := B.returns
  have hts := atoms_spec (ws := w) B.pre
  have hown : s.vm.findClass y.cls = some m.cls := findClass_of_methodNamed B.named
  have hlocks := B.notSynchronized
  subst hsz
  have hl := lv_entry av (n := maxL) hav
  rw [lg_entry_eq]
  generalize (lg_sl av ++ List.replicate (maxL - (lg_sl av).length) Slot.unset).toArray = ls at hl ⊢
  refine body p e s m _ below meth c ls (va_A ws s.heap.size) _ ⟨hx, hb, hml, hown, hts⟩ hK hP (vD_of hD0.self) va_S.rf (fun q h => Or.inr h) hN hl ?_
  intro H locs ls1 pc u hPu hS hdg hu hq
  exact W.vret hx hb hr (fun t ht hW => ⟨⟨u, rfl, ⟨hq, hu⟩, by show va_P D vwCl u t.heap; rw [ht]; exact hPu⟩, hS.F ht⟩) hS.2.2 hdg
section CALLS
variable {p : Program} {l : Launch} {e : Env} {R : Room} {s : State} {m : MethodId} {args : Array Value} {below : List Frame} {meth : Method} {c : Code} {H H0 : Heap} {locs : List Loc} {cells slots : Nat} {Q : State → Prop} {A : Nat → Prop} {D : va_G} {tys : List (ClassId × FieldType)} {ws wc : va_W} {as : List Nat} {cc : ByteArray} {nL pc : Nat} {ls : Array Slot} {rest st0 : List Value} {own C : String} {index maxL n : Nat} {bytes : ByteArray} {ret : Option FieldType} {Ts w : List Cond} {rm : Room} {y : MethodName} {As : List Value} {b : Nat}
/-- the callee's cells, cut out of the caller's -/
theorem cut_P (hP : va_P D vwCl ws H) {isC : List Nat} (hC : isC.map (fun i => ws[i]?) = wc.map some) : va_P D vwCl wc H := by
  intro k q hk
  have hx : (isC.map (fun i => ws[i]?))[k]? = some (some q) := by rw [hC, List.getElem?_map, hk]; rfl
  rw [List.getElem?_map] at hx
  rcases hi : isC[k]? with _ | i
  · rw [hi] at hx; cases hx
  · rw [hi] at hx
    exact hP i q (Option.some.inj hx)
theorem cut_pre (hN : nestOK s) (hK : va_K D vwCl tys s) (hPc : va_P D vwCl wc H) (hDc : va_D A wc) {U : State} (hU : U.heap = H) (hW : s.WarmedH U.vm) : cPre D tys wc H.size U :=
  ⟨by rw [hU], by rw [hU]; exact hPc, va_K.moved hW.alike hK, hDc.weaken (fun _ _ _ _ => trivial), hN.warm hW⟩
theorem ci_V (F : CallFix p m c cc nL s args Ts own) (hN : nestOK s) (hK : va_K D vwCl tys s) (hP : va_P D vwCl ws H) (hV : vD A as) (hS : va_S A H0 H locs) (hA : ∀ q, H0.size ≤ q → A q)
    {Qc : Int32 → va_W → Prop} (hM : CI l D tys y w rm (.ref b :: As) wc Qc) (cw : CallW R s args own C index y bytes maxL ret w rm 0 0 n)
    (isC : List Nat) (hC : isC.map (fun i => ws[i]?) = wc.map some) (hn : va_nd isC = true) (q0 ci : Nat) {fs : List Value} (hq : wc[q0]? = some (b, .inr (ci, fs))) {T : u_T} {N : Nat} (hcl : vwCl[ci]? = some (C, T, N))
    (hnA : As.length = n) (hsz : ls.size = nL) (hst : st0 = As.reverse ++ .ref b :: rest) (hrest : (rest.map fun v => v.category).sum ≤ 8) (hdg : decode cc pc = .ok (.invokevirtual index, 3)) (hf : cells ≤ R.cells ∧ slots ≤ R.slots) (ha : ws.map Prod.fst = as)
    (kk : ∀ (r : Int32) (u : va_W) (H1 : Heap) (locs1 : List Loc), Qc r u → u.map Prod.fst = wc.map Prod.fst → va_P D vwCl (putAll ws isC u) H1 → va_S A H0 H1 locs1 → W p l e R s m args below meth c H1 locs1 cells slots Q (F0 m (pc + 3) ls (.int r :: rest))) :
    W p l e R s m args below meth c H locs cells slots Q (F0 m pc ls st0) := by
  have hD := vD_to hV ha
  have hPc := cut_P hP hC
  have hDc := hD.sub isC hn hC
  have hFc := va_free (wc := wc) hD hS hA isC hC
  refine va_calli (va_runV (As := As) (rest := rest) F (hM H.size) cw ⟨cPre.blind, va_recv hK hPc hcl hq, fun U hU hW => ⟨rfl, cut_pre hN hK hPc hDc hU hW⟩⟩ rfl hnA hsz hst (lv_room hrest) hdg hf) hS (fun q _ h => hFc q h) hFc (fun r u t H1 locs1 ht hvm hw hB hz1 hk1 hS => ?_)
  rw [ht] at hB
  exact kk r u H1 locs1 hw.1 hw.2 (putAll_P hP hD hC hw.2 hB hk1) hS
theorem ci_Vd (F : CallFix p m c cc nL s args Ts own) (hN : nestOK s) (hK : va_K D vwCl tys s) (hP : va_P D vwCl ws H) (hV : vD A as) (hS : va_S A H0 H locs) (hA : ∀ q, H0.size ≤ q → A q)
    {r0 : Int32} {w1 : va_W} (hM : CI l D tys y w rm (.ref b :: As) wc (fun r u => r = r0 ∧ u = w1)) (cw : CallW R s args own C index y bytes maxL ret w rm 0 0 n)
    (isC : List Nat) (hC : isC.map (fun i => ws[i]?) = wc.map some) (hn : va_nd isC = true) (q0 ci : Nat) {fs : List Value} (hq : wc[q0]? = some (b, .inr (ci, fs))) {T : u_T} {N : Nat} (hcl : vwCl[ci]? = some (C, T, N))
    (hnA : As.length = n) (hsz : ls.size = nL) (hst : st0 = As.reverse ++ .ref b :: rest) (hrest : (rest.map fun v => v.category).sum ≤ 8) (hdg : decode cc pc = .ok (.invokevirtual index, 3)) (hf : cells ≤ R.cells ∧ slots ≤ R.slots) (ha : ws.map Prod.fst = as)
    {ws2 : va_W} (h2 : putAll ws isC w1 = ws2) (kk : ∀ (H1 : Heap) (locs1 : List Loc), va_P D vwCl ws2 H1 → va_S A H0 H1 locs1 → W p l e R s m args below meth c H1 locs1 cells slots Q (F0 m (pc + 3) ls (.int r0 :: rest))) :
    W p l e R s m args below meth c H locs cells slots Q (F0 m pc ls st0) := by
  refine ci_V F hN hK hP hV hS hA hM cw isC hC hn q0 ci hq hcl hnA hsz hst hrest hdg hf ha (fun r u H1 locs1 hq1 _ hP1 hS1 => ?_)
  obtain ⟨rfl, rfl⟩ := hq1
  rw [h2] at hP1
  exact kk H1 locs1 hP1 hS1
theorem cv_V (F : CallFix p m c cc nL s args Ts own) (hN : nestOK s) (hK : va_K D vwCl tys s) (hP : va_P D vwCl ws H) (hV : vD A as) (hS : va_S A H0 H locs) (hA : ∀ q, H0.size ≤ q → A q)
    {Qc : va_W → Prop} (hM : CV l D tys y w rm (.ref b :: As) wc Qc) (cw : CallW R s args own C index y bytes maxL ret w rm 0 0 n)
    (isC : List Nat) (hC : isC.map (fun i => ws[i]?) = wc.map some) (hn : va_nd isC = true) (q0 ci : Nat) {fs : List Value} (hq : wc[q0]? = some (b, .inr (ci, fs))) {T : u_T} {N : Nat} (hcl : vwCl[ci]? = some (C, T, N))
    (hnA : As.length = n) (hsz : ls.size = nL) (hst : st0 = As.reverse ++ .ref b :: rest) (hrest : (rest.map fun v => v.category).sum ≤ 8) (hdg : decode cc pc = .ok (.invokevirtual index, 3)) (hf : cells ≤ R.cells ∧ slots ≤ R.slots) (ha : ws.map Prod.fst = as)
    (kk : ∀ (u : va_W) (H1 : Heap) (locs1 : List Loc), Qc u → u.map Prod.fst = wc.map Prod.fst → va_P D vwCl (putAll ws isC u) H1 → va_S A H0 H1 locs1 → W p l e R s m args below meth c H1 locs1 cells slots Q (F0 m (pc + 3) ls rest)) :
    W p l e R s m args below meth c H locs cells slots Q (F0 m pc ls st0) := by
  have hD := vD_to hV ha
  have hPc := cut_P hP hC
  have hDc := hD.sub isC hn hC
  have hFc := va_free (wc := wc) hD hS hA isC hC
  refine va_callv (va_runV (As := As) (rest := rest) F (hM H.size) cw ⟨cPre.blind, va_recv hK hPc hcl hq, fun U hU hW => ⟨rfl, cut_pre hN hK hPc hDc hU hW⟩⟩ rfl hnA hsz hst (lv_room hrest) hdg hf) hS (fun q _ h => hFc q h) hFc (fun u t H1 locs1 ht hvm hw hB hz1 hk1 hS => ?_)
  rw [ht] at hB
  exact kk u H1 locs1 hw.1 hw.2 (putAll_P hP hD hC hw.2 hB hk1) hS
theorem cv_Vd (F : CallFix p m c cc nL s args Ts own) (hN : nestOK s) (hK : va_K D vwCl tys s) (hP : va_P D vwCl ws H) (hV : vD A as) (hS : va_S A H0 H locs) (hA : ∀ q, H0.size ≤ q → A q)
    {w1 : va_W} (hM : CV l D tys y w rm (.ref b :: As) wc (fun u => u = w1)) (cw : CallW R s args own C index y bytes maxL ret w rm 0 0 n)
    (isC : List Nat) (hC : isC.map (fun i => ws[i]?) = wc.map some) (hn : va_nd isC = true) (q0 ci : Nat) {fs : List Value} (hq : wc[q0]? = some (b, .inr (ci, fs))) {T : u_T} {N : Nat} (hcl : vwCl[ci]? = some (C, T, N))
    (hnA : As.length = n) (hsz : ls.size = nL) (hst : st0 = As.reverse ++ .ref b :: rest) (hrest : (rest.map fun v => v.category).sum ≤ 8) (hdg : decode cc pc = .ok (.invokevirtual index, 3)) (hf : cells ≤ R.cells ∧ slots ≤ R.slots) (ha : ws.map Prod.fst = as)
    {ws2 : va_W} (h2 : putAll ws isC w1 = ws2) (kk : ∀ (H1 : Heap) (locs1 : List Loc), va_P D vwCl ws2 H1 → va_S A H0 H1 locs1 → W p l e R s m args below meth c H1 locs1 cells slots Q (F0 m (pc + 3) ls rest)) :
    W p l e R s m args below meth c H locs cells slots Q (F0 m pc ls st0) := by
  refine cv_V F hN hK hP hV hS hA hM cw isC hC hn q0 ci hq hcl hnA hsz hst hrest hdg hf ha (fun u H1 locs1 hq1 _ hP1 hS1 => ?_)
  subst hq1
  rw [h2] at hP1
  exact kk H1 locs1 hP1 hS1
theorem ci_S (F : CallFix p m c cc nL s args Ts own) (hN : nestOK s) (hK : va_K D vwCl tys s) (hP : va_P D vwCl ws H) (hV : vD A as) (hS : va_S A H0 H locs) (hA : ∀ q, H0.size ≤ q → A q)
    {Qc : Int32 → va_W → Prop} (hM : CI l D tys y w rm As wc Qc) (cw : CallB R s args own index y bytes maxL ret w rm 0 0 n ∧ (Cond.static y).before args s = true)
    (isC : List Nat) (hC : isC.map (fun i => ws[i]?) = wc.map some) (hn : va_nd isC = true)
    (hnA : As.length = n) (hsz : ls.size = nL) (hst : st0 = As.reverse ++ rest) (hrest : (rest.map fun v => v.category).sum ≤ 8) (hdg : decode cc pc = .ok (.invokestatic index, 3)) (hf : cells ≤ R.cells ∧ slots ≤ R.slots) (ha : ws.map Prod.fst = as)
    (kk : ∀ (r : Int32) (u : va_W) (H1 : Heap) (locs1 : List Loc), Qc r u → u.map Prod.fst = wc.map Prod.fst → va_P D vwCl (putAll ws isC u) H1 → va_S A H0 H1 locs1 → W p l e R s m args below meth c H1 locs1 cells slots Q (F0 m (pc + 3) ls (.int r :: rest))) :
    W p l e R s m args below meth c H locs cells slots Q (F0 m pc ls st0) := by
  have hD := vD_to hV ha
  have hPc := cut_P hP hC
  have hDc := hD.sub isC hn hC
  have hFc := va_free (wc := wc) hD hS hA isC hC
  refine va_calli (va_runS (As := As) (rest := rest) F (hM H.size) cw ⟨cPre.blind, fun U hU hW => ⟨rfl, cut_pre hN hK hPc hDc hU hW⟩⟩ rfl hnA hsz hst (lv_room hrest) hdg hf) hS (fun q _ h => hFc q h) hFc (fun r u t H1 locs1 ht hvm hw hB hz1 hk1 hS => ?_)
  rw [ht] at hB
  exact kk r u H1 locs1 hw.1 hw.2 (putAll_P hP hD hC hw.2 hB hk1) hS
theorem ci_Sd (F : CallFix p m c cc nL s args Ts own) (hN : nestOK s) (hK : va_K D vwCl tys s) (hP : va_P D vwCl ws H) (hV : vD A as) (hS : va_S A H0 H locs) (hA : ∀ q, H0.size ≤ q → A q)
    {r0 : Int32} {w1 : va_W} (hM : CI l D tys y w rm As wc (fun r u => r = r0 ∧ u = w1)) (cw : CallB R s args own index y bytes maxL ret w rm 0 0 n ∧ (Cond.static y).before args s = true)
    (isC : List Nat) (hC : isC.map (fun i => ws[i]?) = wc.map some) (hn : va_nd isC = true)
    (hnA : As.length = n) (hsz : ls.size = nL) (hst : st0 = As.reverse ++ rest) (hrest : (rest.map fun v => v.category).sum ≤ 8) (hdg : decode cc pc = .ok (.invokestatic index, 3)) (hf : cells ≤ R.cells ∧ slots ≤ R.slots) (ha : ws.map Prod.fst = as)
    {ws2 : va_W} (h2 : putAll ws isC w1 = ws2) (kk : ∀ (H1 : Heap) (locs1 : List Loc), va_P D vwCl ws2 H1 → va_S A H0 H1 locs1 → W p l e R s m args below meth c H1 locs1 cells slots Q (F0 m (pc + 3) ls (.int r0 :: rest))) :
    W p l e R s m args below meth c H locs cells slots Q (F0 m pc ls st0) := by
  refine ci_S F hN hK hP hV hS hA hM cw isC hC hn hnA hsz hst hrest hdg hf ha (fun r u H1 locs1 hq1 _ hP1 hS1 => ?_)
  obtain ⟨rfl, rfl⟩ := hq1
  rw [h2] at hP1
  exact kk H1 locs1 hP1 hS1
theorem cv_S (F : CallFix p m c cc nL s args Ts own) (hN : nestOK s) (hK : va_K D vwCl tys s) (hP : va_P D vwCl ws H) (hV : vD A as) (hS : va_S A H0 H locs) (hA : ∀ q, H0.size ≤ q → A q)
    {Qc : va_W → Prop} (hM : CV l D tys y w rm As wc Qc) (cw : CallB R s args own index y bytes maxL ret w rm 0 0 n ∧ (Cond.static y).before args s = true)
    (isC : List Nat) (hC : isC.map (fun i => ws[i]?) = wc.map some) (hn : va_nd isC = true)
    (hnA : As.length = n) (hsz : ls.size = nL) (hst : st0 = As.reverse ++ rest) (hrest : (rest.map fun v => v.category).sum ≤ 8) (hdg : decode cc pc = .ok (.invokestatic index, 3)) (hf : cells ≤ R.cells ∧ slots ≤ R.slots) (ha : ws.map Prod.fst = as)
    (kk : ∀ (u : va_W) (H1 : Heap) (locs1 : List Loc), Qc u → u.map Prod.fst = wc.map Prod.fst → va_P D vwCl (putAll ws isC u) H1 → va_S A H0 H1 locs1 → W p l e R s m args below meth c H1 locs1 cells slots Q (F0 m (pc + 3) ls rest)) :
    W p l e R s m args below meth c H locs cells slots Q (F0 m pc ls st0) := by
  have hD := vD_to hV ha
  have hPc := cut_P hP hC
  have hDc := hD.sub isC hn hC
  have hFc := va_free (wc := wc) hD hS hA isC hC
  refine va_callv (va_runS (As := As) (rest := rest) F (hM H.size) cw ⟨cPre.blind, fun U hU hW => ⟨rfl, cut_pre hN hK hPc hDc hU hW⟩⟩ rfl hnA hsz hst (lv_room hrest) hdg hf) hS (fun q _ h => hFc q h) hFc (fun u t H1 locs1 ht hvm hw hB hz1 hk1 hS => ?_)
  rw [ht] at hB
  exact kk u H1 locs1 hw.1 hw.2 (putAll_P hP hD hC hw.2 hB hk1) hS
theorem ci_SN {host : String} (F : CallFix p m c cc nL s args Ts own) (hN : nestOK s) (hK : va_K D vwCl tys s) (hP : va_P D vwCl ws H) (hV : vD A as) (hS : va_S A H0 H locs) (hA : ∀ q, H0.size ≤ q → A q)
    {r0 : Int32} (hM : CI l D tys y w rm As [] (fun r u => r = r0 ∧ u = [])) (cw : va_CN R s args own index y host bytes maxL ret w rm 0 0 n ∧ (Cond.static y).before args s = true ∧ True)
    (hnA : As.length = n) (hsz : ls.size = nL) (hst : st0 = As.reverse ++ rest) (hrest : (rest.map fun v => v.category).sum ≤ 8) (hdg : decode cc pc = .ok (.invokestatic index, 3)) (hf : cells ≤ R.cells ∧ slots ≤ R.slots) (ha : ws.map Prod.fst = as)
    (kk : ∀ (H1 : Heap) (locs1 : List Loc), va_P D vwCl ws H1 → va_S A H0 H1 locs1 → W p l e R s m args below meth c H1 locs1 cells slots Q (F0 m (pc + 3) ls (.int r0 :: rest))) :
    W p l e R s m args below meth c H locs cells slots Q (F0 m pc ls st0) := by
  have hD := vD_to hV ha
  have hC : ([] : List Nat).map (fun i => ws[i]?) = ([] : va_W).map some := rfl
  have hPc := cut_P hP hC
  have hDc := hD.sub [] rfl hC
  have hFc := va_free (wc := []) hD hS hA [] hC
  refine va_calli (va_runSN (As := As) (rest := rest) F (hM H.size) cw ⟨cPre.blind, fun U hU hW => ⟨rfl, cut_pre hN hK hPc hDc hU hW⟩⟩ rfl hnA hsz hst (lv_room hrest) hdg hf) hS (fun q _ h => hFc q h) hFc (fun r u t H1 locs1 ht hvm hw hB hz1 hk1 hS => ?_)
  rw [ht] at hB
  obtain ⟨⟨rfl, rfl⟩, -⟩ := hw
  exact kk H1 locs1 (putAll_P hP hD hC rfl hB hk1) hS
end CALLS
section ROWS
variable {p : Program} {l : Launch} {e : Env} {R : Room} {s : State} {m : MethodId} {args : Array Value} {below : List Frame} {meth : Method} {c : Code} {H H0 : Heap} {locs : List Loc} {cells slots : Nat} {Q : State → Prop} {A : Nat → Prop} {D : va_G} {tys : List (ClassId × FieldType)} {ws : va_W} {as : List Nat} {cc : ByteArray} {pc : Nat} {ls : Array Slot} {rest : List Value} {a : Nat}
theorem r_top {x y : Int32} (h : x = y) (k : W p l e R s m args below meth c H locs cells slots Q (F0 m pc ls (.int y :: rest))) : W p l e R s m args below meth c H locs cells slots Q (F0 m pc ls (.int x :: rest)) := h ▸ k
theorem rn_iadd (hexec : p.tables.exec = Jvm.exec) (hb : c.code = cc) {x y : Nat} (hdg : decode cc pc = .ok (.iadd, 1)) (k : W p l e R s m args below meth c H locs cells slots Q (F0 m (pc + 1) ls (.int (nI (x + y)) :: rest))) : W p l e R s m args below meth c H locs cells slots Q (F0 m pc ls (.int (nI y) :: .int (nI x) :: rest)) := lv_iadd hexec hb hdg (by rw [nI_add]; exact k)
theorem rn_imul (hexec : p.tables.exec = Jvm.exec) (hb : c.code = cc) {x y : Nat} (hdg : decode cc pc = .ok (.imul, 1)) (k : W p l e R s m args below meth c H locs cells slots Q (F0 m (pc + 1) ls (.int (nI (x * y)) :: rest))) : W p l e R s m args below meth c H locs cells slots Q (F0 m pc ls (.int (nI y) :: .int (nI x) :: rest)) := lv_imul hexec hb hdg (by rw [pk_mul]; exact k)
theorem rn_isub (hexec : p.tables.exec = Jvm.exec) (hb : c.code = cc) {x y : Nat} (h : y ≤ x) (hdg : decode cc pc = .ok (.isub, 1)) (k : W p l e R s m args below meth c H locs cells slots Q (F0 m (pc + 1) ls (.int (nI (x - y)) :: rest))) : W p l e R s m args below meth c H locs cells slots Q (F0 m pc ls (.int (nI y) :: .int (nI x) :: rest)) := lv_isub hexec hb hdg (by rw [pk_sub h]; exact k)
theorem rn_idiv (hexec : p.tables.exec = Jvm.exec) (hb : c.code = cc) {x y : Nat} (hx : x < 2147483648) (h0 : 0 < y ∧ y < 2147483648) (hdg : decode cc pc = .ok (.idiv, 1)) (k : W p l e R s m args below meth c H locs cells slots Q (F0 m (pc + 1) ls (.int (nI (x / y)) :: rest))) : W p l e R s m args below meth c H locs cells slots Q (F0 m pc ls (.int (nI y) :: .int (nI x) :: rest)) := lv_idiv hexec hb hdg (nI_ne0 h0.1 (by omega)) (by rw [pk_div (by omega) h0.1 (by omega)]; exact k)
theorem rn_irem (hexec : p.tables.exec = Jvm.exec) (hb : c.code = cc) {x y : Nat} (hx : x < 2147483648) (h0 : 0 < y ∧ y < 2147483648) (hdg : decode cc pc = .ok (.irem, 1)) (k : W p l e R s m args below meth c H locs cells slots Q (F0 m (pc + 1) ls (.int (nI (x % y)) :: rest))) : W p l e R s m args below meth c H locs cells slots Q (F0 m pc ls (.int (nI y) :: .int (nI x) :: rest)) := lv_irem hexec hb hdg (nI_ne0 h0.1 (by omega)) (by rw [pk_rem (by omega) h0.1 (by omega)]; exact k)
theorem rz_iadd (hexec : p.tables.exec = Jvm.exec) (hb : c.code = cc) {x y : Int32} {i j : Int} (ex : x = jI i) (ey : y = jI j) (hdg : decode cc pc = .ok (.iadd, 1)) (k : W p l e R s m args below meth c H locs cells slots Q (F0 m (pc + 1) ls (.int (jI (i + j)) :: rest))) : W p l e R s m args below meth c H locs cells slots Q (F0 m pc ls (.int y :: .int x :: rest)) := lv_iadd hexec hb hdg (by rw [ex, ey, jI_add]; exact k)
theorem rz_isub (hexec : p.tables.exec = Jvm.exec) (hb : c.code = cc) {x y : Int32} {i j : Int} (ex : x = jI i) (ey : y = jI j) (hdg : decode cc pc = .ok (.isub, 1)) (k : W p l e R s m args below meth c H locs cells slots Q (F0 m (pc + 1) ls (.int (jI (i - j)) :: rest))) : W p l e R s m args below meth c H locs cells slots Q (F0 m pc ls (.int y :: .int x :: rest)) := lv_isub hexec hb hdg (by rw [ex, ey, jI_sub]; exact k)
theorem rz_imul (hexec : p.tables.exec = Jvm.exec) (hb : c.code = cc) {x y : Int32} {i j : Int} (ex : x = jI i) (ey : y = jI j) (hdg : decode cc pc = .ok (.imul, 1)) (k : W p l e R s m args below meth c H locs cells slots Q (F0 m (pc + 1) ls (.int (jI (i * j)) :: rest))) : W p l e R s m args below meth c H locs cells slots Q (F0 m pc ls (.int y :: .int x :: rest)) := lv_imul hexec hb hdg (by rw [ex, ey, jI_mul]; exact k)
theorem rc_eq (hexec : p.tables.exec = Jvm.exec) (hb : c.code = cc) {x y : Int32} {i j : Int} (ex : x.toInt = i) (ey : y.toInt = j) {off : Int} {tgt : Nat} (hdg : decode cc pc = .ok (.if_icmp .eq off, 3)) (ht : (pc : Int) + off = (tgt : Int)) (kt : i = j → W p l e R s m args below meth c H locs cells slots Q (F0 m tgt ls rest)) (kf : i ≠ j → W p l e R s m args below meth c H locs cells slots Q (F0 m (pc + 3) ls rest)) : W p l e R s m args below meth c H locs cells slots Q (F0 m pc ls (.int y :: .int x :: rest)) := by
  subst ex ey
  exact lv_icmp_eq hexec hb hdg ht (fun h => kt (by rw [h])) (fun h => kf (fun h2 => h (Int32.toInt_inj.mp h2)))
theorem rc_ne (hexec : p.tables.exec = Jvm.exec) (hb : c.code = cc) {x y : Int32} {i j : Int} (ex : x.toInt = i) (ey : y.toInt = j) {off : Int} {tgt : Nat} (hdg : decode cc pc = .ok (.if_icmp .ne off, 3)) (ht : (pc : Int) + off = (tgt : Int)) (kt : i ≠ j → W p l e R s m args below meth c H locs cells slots Q (F0 m tgt ls rest)) (kf : i = j → W p l e R s m args below meth c H locs cells slots Q (F0 m (pc + 3) ls rest)) : W p l e R s m args below meth c H locs cells slots Q (F0 m pc ls (.int y :: .int x :: rest)) := by
  subst ex ey
  exact lv_icmp_ne hexec hb hdg ht (fun h => kt (fun h2 => h (Int32.toInt_inj.mp h2))) (fun h => kf (by rw [h]))
theorem rc_lt (hexec : p.tables.exec = Jvm.exec) (hb : c.code = cc) {x y : Int32} {i j : Int} (ex : x.toInt = i) (ey : y.toInt = j) {off : Int} {tgt : Nat} (hdg : decode cc pc = .ok (.if_icmp .lt off, 3)) (ht : (pc : Int) + off = (tgt : Int)) (kt : i < j → W p l e R s m args below meth c H locs cells slots Q (F0 m tgt ls rest)) (kf : j ≤ i → W p l e R s m args below meth c H locs cells slots Q (F0 m (pc + 3) ls rest)) : W p l e R s m args below meth c H locs cells slots Q (F0 m pc ls (.int y :: .int x :: rest)) := by
  subst ex ey
  exact lv_icmp_lt hexec hb hdg ht (fun h => kt (Int32.lt_iff_toInt_lt.mp h)) (fun h => kf (Int.not_lt.mp (fun h2 => h (Int32.lt_iff_toInt_lt.mpr h2))))
theorem rc_ge (hexec : p.tables.exec = Jvm.exec) (hb : c.code = cc) {x y : Int32} {i j : Int} (ex : x.toInt = i) (ey : y.toInt = j) {off : Int} {tgt : Nat} (hdg : decode cc pc = .ok (.if_icmp .ge off, 3)) (ht : (pc : Int) + off = (tgt : Int)) (kt : j ≤ i → W p l e R s m args below meth c H locs cells slots Q (F0 m tgt ls rest)) (kf : i < j → W p l e R s m args below meth c H locs cells slots Q (F0 m (pc + 3) ls rest)) : W p l e R s m args below meth c H locs cells slots Q (F0 m pc ls (.int y :: .int x :: rest)) := by
  subst ex ey
  exact lv_icmp_ge hexec hb hdg ht (fun h => kt (Int32.le_iff_toInt_le.mp h)) (fun h => kf (Int.not_le.mp (fun h2 => h (Int32.le_iff_toInt_le.mpr h2))))
theorem rc_gt (hexec : p.tables.exec = Jvm.exec) (hb : c.code = cc) {x y : Int32} {i j : Int} (ex : x.toInt = i) (ey : y.toInt = j) {off : Int} {tgt : Nat} (hdg : decode cc pc = .ok (.if_icmp .gt off, 3)) (ht : (pc : Int) + off = (tgt : Int)) (kt : j < i → W p l e R s m args below meth c H locs cells slots Q (F0 m tgt ls rest)) (kf : i ≤ j → W p l e R s m args below meth c H locs cells slots Q (F0 m (pc + 3) ls rest)) : W p l e R s m args below meth c H locs cells slots Q (F0 m pc ls (.int y :: .int x :: rest)) := by
  subst ex ey
  exact lv_icmp_gt hexec hb hdg ht (fun h => kt (Int32.lt_iff_toInt_lt.mp h)) (fun h => kf (Int.not_lt.mp (fun h2 => h (Int32.lt_iff_toInt_lt.mpr h2))))
theorem rc_le (hexec : p.tables.exec = Jvm.exec) (hb : c.code = cc) {x y : Int32} {i j : Int} (ex : x.toInt = i) (ey : y.toInt = j) {off : Int} {tgt : Nat} (hdg : decode cc pc = .ok (.if_icmp .le off, 3)) (ht : (pc : Int) + off = (tgt : Int)) (kt : i ≤ j → W p l e R s m args below meth c H locs cells slots Q (F0 m tgt ls rest)) (kf : j < i → W p l e R s m args below meth c H locs cells slots Q (F0 m (pc + 3) ls rest)) : W p l e R s m args below meth c H locs cells slots Q (F0 m pc ls (.int y :: .int x :: rest)) := by
  subst ex ey
  exact lv_icmp_le hexec hb hdg ht (fun h => kt (Int32.le_iff_toInt_le.mp h)) (fun h => kf (Int.not_le.mp (fun h2 => h (Int32.le_iff_toInt_le.mpr h2))))
theorem r0_eq (hexec : p.tables.exec = Jvm.exec) (hb : c.code = cc) {x : Int32} {i : Int} (ex : x.toInt = i) {off : Int} {tgt : Nat} (hdg : decode cc pc = .ok (.ifCond .eq off, 3)) (ht : (pc : Int) + off = (tgt : Int)) (kt : i = 0 → W p l e R s m args below meth c H locs cells slots Q (F0 m tgt ls rest)) (kf : i ≠ 0 → W p l e R s m args below meth c H locs cells slots Q (F0 m (pc + 3) ls rest)) : W p l e R s m args below meth c H locs cells slots Q (F0 m pc ls (.int x :: rest)) := by
  subst ex
  exact lv_if_eq hexec hb hdg ht (fun h => kt (by rw [h]; rfl)) (fun h => kf (fun h2 => h (Int32.toInt_inj.mp h2)))
theorem r0_ne (hexec : p.tables.exec = Jvm.exec) (hb : c.code = cc) {x : Int32} {i : Int} (ex : x.toInt = i) {off : Int} {tgt : Nat} (hdg : decode cc pc = .ok (.ifCond .ne off, 3)) (ht : (pc : Int) + off = (tgt : Int)) (kt : i ≠ 0 → W p l e R s m args below meth c H locs cells slots Q (F0 m tgt ls rest)) (kf : i = 0 → W p l e R s m args below meth c H locs cells slots Q (F0 m (pc + 3) ls rest)) : W p l e R s m args below meth c H locs cells slots Q (F0 m pc ls (.int x :: rest)) := by
  subst ex
  exact lv_if_ne hexec hb hdg ht (fun h => kt (fun h2 => h (Int32.toInt_inj.mp h2))) (fun h => kf (by rw [h]; rfl))
theorem r0_lt (hexec : p.tables.exec = Jvm.exec) (hb : c.code = cc) {x : Int32} {i : Int} (ex : x.toInt = i) {off : Int} {tgt : Nat} (hdg : decode cc pc = .ok (.ifCond .lt off, 3)) (ht : (pc : Int) + off = (tgt : Int)) (kt : i < 0 → W p l e R s m args below meth c H locs cells slots Q (F0 m tgt ls rest)) (kf : 0 ≤ i → W p l e R s m args below meth c H locs cells slots Q (F0 m (pc + 3) ls rest)) : W p l e R s m args below meth c H locs cells slots Q (F0 m pc ls (.int x :: rest)) := by
  subst ex
  exact lv_if_lt hexec hb hdg ht (fun h => kt (Int32.lt_iff_toInt_lt.mp h)) (fun h => kf (Int.not_lt.mp (fun h2 => h (Int32.lt_iff_toInt_lt.mpr h2))))
theorem r0_ge (hexec : p.tables.exec = Jvm.exec) (hb : c.code = cc) {x : Int32} {i : Int} (ex : x.toInt = i) {off : Int} {tgt : Nat} (hdg : decode cc pc = .ok (.ifCond .ge off, 3)) (ht : (pc : Int) + off = (tgt : Int)) (kt : 0 ≤ i → W p l e R s m args below meth c H locs cells slots Q (F0 m tgt ls rest)) (kf : i < 0 → W p l e R s m args below meth c H locs cells slots Q (F0 m (pc + 3) ls rest)) : W p l e R s m args below meth c H locs cells slots Q (F0 m pc ls (.int x :: rest)) := by
  subst ex
  exact lv_if_ge hexec hb hdg ht (fun h => kt (Int32.le_iff_toInt_le.mp h)) (fun h => kf (Int.not_le.mp (fun h2 => h (Int32.le_iff_toInt_le.mpr h2))))
theorem r0_gt (hexec : p.tables.exec = Jvm.exec) (hb : c.code = cc) {x : Int32} {i : Int} (ex : x.toInt = i) {off : Int} {tgt : Nat} (hdg : decode cc pc = .ok (.ifCond .gt off, 3)) (ht : (pc : Int) + off = (tgt : Int)) (kt : 0 < i → W p l e R s m args below meth c H locs cells slots Q (F0 m tgt ls rest)) (kf : i ≤ 0 → W p l e R s m args below meth c H locs cells slots Q (F0 m (pc + 3) ls rest)) : W p l e R s m args below meth c H locs cells slots Q (F0 m pc ls (.int x :: rest)) := by
  subst ex
  exact lv_if_gt hexec hb hdg ht (fun h => kt (Int32.lt_iff_toInt_lt.mp h)) (fun h => kf (Int.not_lt.mp (fun h2 => h (Int32.lt_iff_toInt_lt.mpr h2))))
theorem r0_le (hexec : p.tables.exec = Jvm.exec) (hb : c.code = cc) {x : Int32} {i : Int} (ex : x.toInt = i) {off : Int} {tgt : Nat} (hdg : decode cc pc = .ok (.ifCond .le off, 3)) (ht : (pc : Int) + off = (tgt : Int)) (kt : i ≤ 0 → W p l e R s m args below meth c H locs cells slots Q (F0 m tgt ls rest)) (kf : 0 < i → W p l e R s m args below meth c H locs cells slots Q (F0 m (pc + 3) ls rest)) : W p l e R s m args below meth c H locs cells slots Q (F0 m pc ls (.int x :: rest)) := by
  subst ex
  exact lv_if_le hexec hb hdg ht (fun h => kt (Int32.le_iff_toInt_le.mp h)) (fun h => kf (Int.not_le.mp (fun h2 => h (Int32.le_iff_toInt_le.mpr h2))))
/-- an int read out of an array of ints, at a natural place -/
theorem ra_iald (hexec : p.tables.exec = Jvm.exec) (hb : c.code = cc) (hK : va_K D vwCl tys s) (hP : va_P D vwCl ws H) (q0 t0 : Nat) {cA : ClassId} {n : Nat} {f : Nat → Int32} (ha : ws[q0]? = some (a, .inl (cA, n, .inl f))) (ht : tys[t0]? = some (cA, .int)) {k : Nat} (hk : k < n) (hn : n < 2147483648) {v : Int32} (hv : f k = v) (hdg : decode cc pc = .ok (.iaload, 1))
    (kk : W p l e R s m args below meth c H locs cells slots Q (F0 m (pc + 1) ls (.int v :: rest))) : W p l e R s m args below meth c H locs cells slots Q (F0 m pc ls (.int (nI k) :: .ref a :: rest)) :=
  va_iald hexec hb hK hP q0 t0 ha ht (nI_vp hk hn) hdg (by rw [nI_cl (by omega), hv]; exact kk)
theorem ra_cald (hexec : p.tables.exec = Jvm.exec) (hb : c.code = cc) (hK : va_K D vwCl tys s) (hP : va_P D vwCl ws H) (q0 t0 : Nat) {cA : ClassId} {n : Nat} {f : Nat → Int32} (ha : ws[q0]? = some (a, .inl (cA, n, .inl f))) (ht : tys[t0]? = some (cA, .char)) {k : Nat} (hk : k < n) (hn : n < 2147483648) {v : Int32} (hv : f k = v) (hdg : decode cc pc = .ok (.caload, 1))
    (kk : W p l e R s m args below meth c H locs cells slots Q (F0 m (pc + 1) ls (.int v :: rest))) : W p l e R s m args below meth c H locs cells slots Q (F0 m pc ls (.int (nI k) :: .ref a :: rest)) :=
  va_cald hexec hb hK hP q0 t0 ha ht (nI_vp hk hn) hdg (by rw [nI_cl (by omega), hv]; exact kk)
theorem ra_bald (hexec : p.tables.exec = Jvm.exec) (hb : c.code = cc) (hK : va_K D vwCl tys s) (hP : va_P D vwCl ws H) (q0 t0 : Nat) {cA : ClassId} {n : Nat} {f : Nat → Int32} (ha : ws[q0]? = some (a, .inl (cA, n, .inl f))) (ht : tys[t0]? = some (cA, .byte)) {k : Nat} (hk : k < n) (hn : n < 2147483648) {v : Int32} (hv : f k = v) (hdg : decode cc pc = .ok (.baload, 1))
    (kk : W p l e R s m args below meth c H locs cells slots Q (F0 m (pc + 1) ls (.int v :: rest))) : W p l e R s m args below meth c H locs cells slots Q (F0 m pc ls (.int (nI k) :: .ref a :: rest)) :=
  va_bald hexec hb hK hP q0 t0 ha ht (nI_vp hk hn) hdg (by rw [nI_cl (by omega), hv]; exact kk)
/-- any int written into an array of ints -/
theorem ra_iast (hexec : p.tables.exec = Jvm.exec) (hb : c.code = cc) (hK : va_K D vwCl tys s) (hP : va_P D vwCl ws H) (hV : vD A as) (hS : va_S A H0 H locs) (q0 t0 : Nat) {cA : ClassId} {n : Nat} {f g : Nat → Int32} (ha : ws[q0]? = some (a, .inl (cA, n, .inl f))) (ht : tys[t0]? = some (cA, .int)) {k : Nat} {x : Int32} (hk : k < n) (hn : n < 2147483648) (hg : upd f k x = g) (hdg : decode cc pc = .ok (.iastore, 1)) (hw : ws.map Prod.fst = as) {ws2 : va_W} (h2 : ws.set q0 (a, .inl (cA, n, .inl g)) = ws2)
    (kk : ∀ (H1 : Heap) (locs1 : List Loc), va_P D vwCl ws2 H1 → va_S A H0 H1 locs1 → W p l e R s m args below meth c H1 locs1 cells slots Q (F0 m (pc + 1) ls rest)) : W p l e R s m args below meth c H locs cells slots Q (F0 m pc ls (.int x :: .int (nI k) :: .ref a :: rest)) :=
  va_iast hexec hb hK hP (vD_to hV hw) hS q0 t0 ha ht (nI_vp hk hn) hdg (fun H1 locs1 hP1 _ hS1 => kk H1 locs1 (by rw [nI_cl (by omega), hg, h2] at hP1; exact hP1) hS1)
/-- a natural number written into an array of natural numbers -/
theorem rn_iast (hexec : p.tables.exec = Jvm.exec) (hb : c.code = cc) (hK : va_K D vwCl tys s) (hP : va_P D vwCl ws H) (hV : vD A as) (hS : va_S A H0 H locs) (q0 t0 : Nat) {cA : ClassId} {n : Nat} {f : Nat → Nat} (ha : ws[q0]? = some (a, .inl (cA, n, .inl (fun j => nI (f j))))) (ht : tys[t0]? = some (cA, .int)) {k x : Nat} (hk : k < n) (hn : n < 2147483648) (hdg : decode cc pc = .ok (.iastore, 1)) (hw : ws.map Prod.fst = as) {ws2 : va_W} (h2 : ws.set q0 (a, .inl (cA, n, .inl (fun j => nI (va_up f k x j)))) = ws2)
    (kk : ∀ (H1 : Heap) (locs1 : List Loc), va_P D vwCl ws2 H1 → va_S A H0 H1 locs1 → W p l e R s m args below meth c H1 locs1 cells slots Q (F0 m (pc + 1) ls rest)) : W p l e R s m args below meth c H locs cells slots Q (F0 m pc ls (.int (nI x) :: .int (nI k) :: .ref a :: rest)) :=
  ra_iast hexec hb hK hP hV hS q0 t0 ha ht hk hn upd_n hdg hw h2 kk
/-- a field that isn't final -/
theorem ra_put (hexec : p.tables.exec = Jvm.exec) (hb : c.code = cc) {own ref C : String} {T : u_T} {N ci index : Nat} {Ts : List Cond} (hts : ∀ w ∈ Ts, w.before args s = true) (hin : ∀ w ∈ u_ws C T N, w ∈ Ts) (ty0 : Nat → FieldType) (hty : ∀ k, k < N → parseFieldDescriptor (T k).2.2.1 = some (ty0 k)) (hnm : ∀ a, a < N → ∀ b, b < N → a ≠ b → (T a).2.1 ≠ (T b).2.1) (hown : s.vm.findClass own = some m.cls) (hK : va_K D vwCl tys s) (hP : va_P D vwCl ws H) (hV : vD A as) (hS0 : va_S A H0 H locs) (q0 : Nat) {fs : List Value} (he : ws[q0]? = some (a, .inr (ci, fs))) (hc : vwCl[ci]? = some (C, T, N)) (k : Nat) (hk : k < N) (hlink : (Cond.fieldLink own index ref (T k).2.1 (T k).2.2.1).before args s = true) (hsame : ∀ x, s.fieldFound? (T k).1 (T k).2.1 (T k).2.2.1 = some x → s.fieldFound? ref (T k).2.1 (T k).2.2.1 = some x) (hfin : (T k).2.2.2 = false) {ty : FieldType} {v : Value} (hd : parseFieldDescriptor (T k).2.2.1 = some ty) (hn : narrow ty v = v) (hfit : fits ty v = true) (hl : k < fs.length)
    (hdg : decode cc pc = .ok (.putfield index, 3)) (hw : ws.map Prod.fst = as) {ws2 : va_W} (h2 : ws.set q0 (a, .inr (ci, fs.set k v)) = ws2) (kk : ∀ (H1 : Heap) (locs1 : List Loc), va_P D vwCl ws2 H1 → va_S A H0 H1 locs1 → W p l e R s m args below meth c H1 locs1 cells slots Q (F0 m (pc + 3) ls rest)) : W p l e R s m args below meth c H locs cells slots Q (F0 m pc ls (v :: .ref a :: rest)) :=
  va_put hexec hb hts hin ty0 hty hnm hown hK hP (vD_to hV hw) hS0 q0 he hc k hk hlink hsame hfin hd hn hfit hl hdg (fun H1 locs1 hP1 _ hS1 => kk H1 locs1 (h2 ▸ hP1) hS1)
end ROWS
