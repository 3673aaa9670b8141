/-! constructors: they make cells -/
def CZ (l : Launch) (D : va_G) (tys : List (ClassId × FieldType)) (y : MethodName) (w : List Cond) (rm : Room) (mc ms : Nat) (av : List Value) (ws : va_W) (Q : va_W → Prop) : Prop :=
  ∀ sz, Met l y w rm (va_Pc av (cPre D tys ws sz)) (va_Qv (fun (u : va_W) => Q u) (fun u t => va_P D vwCl u t.heap ∧ va_D (va_A ws sz) u) (va_A ws sz)) mc ms (va_A ws sz)
theorem cz_intro {l : Launch} {D : va_G} {tys : List (ClassId × FieldType)} {y : MethodName} {w w' : List Cond} {rm : Room} {mc ms : Nat} {av : List Value} {ws : va_W} {Q : va_W → Prop} {cc : ByteArray} {maxL : Nat}
    (hy : plainName y.cls = true) (hyn : y.name = "<init>") (hw : w = Cond.code y cc maxL none :: w') (hav : (lg_sl av).length ≤ maxL)
    (body : ∀ (p : Program) (e : Env) (s : State) (m : MethodId) (args : Array Value) (below : List Frame) (meth : Method) (c : Code) (ls : Array Slot) (A : Nat → Prop) (QF : State → Prop),
      mFacts p s m args c cc maxL w y.cls → meth.name = "<init>" → va_K D vwCl tys s → va_P D vwCl ws s.heap → va_D A ws → va_S A s.heap s.heap [] → (∀ q, s.heap.size ≤ q → A q) → nestOK s → lv_has ls maxL (lv_args 0 av) →
      (∀ {H : Heap} {locs : List Loc} {ls1 : Array Slot} (pc : Nat) (u : va_W), va_P D vwCl u H → va_D A u → va_S A s.heap H locs → decode cc pc = .ok (.return_, 1) → Q u → W p l e rm s m args below meth c H locs mc ms QF (F0 m pc ls1 [])) →
      W p l e rm s m args below meth c s.heap [] 0 0 QF (F0 m 0 ls [])) : CZ l D tys y w rm mc ms av ws Q := by
  intro sz
  refine Met.ofW (cc := cc) (maxL := maxL) (ret := none) hy hw ?_
  intro p e s m args below meth c s₁ B hml hv
  obtain ⟨rfl, hsz, hP, hK, hD0, hN⟩ := hv
  have hx := B.exec
  have hb := B.bytes
  have hr := B.returns
  have hts := atoms_spec (ws := w) B.pre
  have hown : s.vm.findClass y.cls = some m.cls := findClass_of_methodNamed B.named
  have hlocks := B.notSynchronized
  have hin : meth.name = "<init>" := (name_of_methodNamed B.named B.method).1.trans hyn
  subst hsz
  have hD := hD0.self (sz := s.heap.size)
  have hl := lv_entry av (n := maxL) hav
  rw [lg_entry_eq]
  generalize (lg_sl av ++ List.replicate (maxL - (lg_sl av).length) Slot.unset).toArray = ls at hl ⊢
  refine body p e s m _ below meth c ls (va_A ws s.heap.size) _ ⟨hx, hb, hml, hown, hts⟩ hin hK hP hD va_S.rf (fun q h => Or.inr h) hN hl ?_
  intro H locs ls1 pc u hPu hDu hS hdg hq
  exact W.vret hx hb hr (fun t ht hW => ⟨⟨u, rfl, hq, by rw [ht]; exact hPu, hDu⟩, hS.F ht⟩) hS.2.2 hdg
theorem map_mid (A X B : va_W) : (List.range' A.length X.length).map (fun i => (A ++ X ++ B)[i]?) = X.map some := by
  apply List.ext_getElem?
  intro k
  rw [List.getElem?_map, List.getElem?_map]
  by_cases h : k < X.length
  · rw [List.getElem?_range' h, Nat.one_mul]
    show some ((A ++ X ++ B)[A.length + k]?) = _
    rw [List.append_assoc, List.getElem?_append_right (by omega), show A.length + k - A.length = k by omega, List.getElem?_append_left h, List.getElem?_eq_getElem h]
    rfl
  · rw [List.getElem?_eq_none (by rw [List.length_range']; omega), List.getElem?_eq_none (by omega)]
    rfl
theorem nd_range : ∀ (n k : Nat), va_nd (List.range' k n) = true
  | 0, _ => rfl
  | n + 1, k => by
    show (decide (k ∉ List.range' (k + 1) n) && va_nd (List.range' (k + 1) n)) = true
    rw [nd_range n (k + 1), Bool.and_true, decide_eq_true_eq, List.mem_range'_1]
    omega
section CALLS
variable {p : Program} {l : Launch} {e : Env} {R : Room} {s : State} {m : MethodId} {args : Array Value} {below : List Frame} {meth : Method} {c : Code} {H H0 : Heap} {locs : List Loc} {cells slots mc ms : Nat} {Q : State → Prop} {A : Nat → Prop} {D : va_G} {tys : List (ClassId × FieldType)} {ws wr wc : va_W} {cc : ByteArray} {nL pc : Nat} {ls : Array Slot} {rest st0 : List Value} {own C host : String} {index maxL n : Nat} {bytes : ByteArray} {Ts w : List Cond} {rm : Room} {y : MethodName} {As : List Value} {a b : Nat}
/-- the callee's new cells beside what was there -/
theorem cz_join {Qc : va_W → Prop} (hP : va_P D vwCl (wr ++ wc) H) (hD : va_D A (wr ++ wc)) (hFc : ∀ q, va_A wc H.size q → A q) {H1 : Heap} {u : va_W} (hk1 : ∀ q : Nat, q < H.size → ¬ va_A wc H.size q → H1[q]? = H[q]?) (hP1 : va_P D vwCl u H1) (hD1 : va_D (va_A wc H.size) u) : va_P D vwCl (wr ++ u) H1 ∧ va_D A (wr ++ u) := by
  have hC : (List.range' wr.length wc.length).map (fun i => (wr ++ wc)[i]?) = wc.map some := by
    have := map_mid wr wc []
    rwa [List.append_nil] at this
  have hR : (List.range' 0 wr.length).map (fun i => (wr ++ wc)[i]?) = wr.map some := map_mid [] wr wc
  exact va_join hP hD _ _ hC hR (nd_range _ _) (fun i hi hj => by rw [List.mem_range'_1] at hi hj; omega) hk1 hFc hP1 hD1
theorem cz_I (F : CallFix p m c cc nL s args Ts own) (hN : nestOK s) (hK : va_K D vwCl tys s) (hP : va_P D vwCl ws H) (hD : va_D A ws) (hS : va_S A H0 H locs) (hA : ∀ q, H0.size ≤ q → A q)
    {Qc : va_W → Prop} (hM : CZ l D tys y w rm mc ms (.ref b :: As) wc Qc) (cw : CallB R s args own index y bytes maxL none w rm mc ms n ∧ y.name = "<init>" ∧ (Cond.instanceMethod y).before args s = true)
    (hws : ws = wr ++ wc) (hnA : As.length = n) (hsz : ls.size = nL) (hst : st0 = As.reverse ++ .ref b :: rest) (hrest : (rest.map fun v => v.category).sum ≤ 8) (hdg : decode cc pc = .ok (.invokespecial index, 3)) (hf : cells + mc ≤ R.cells ∧ slots + ms ≤ R.slots)
    (kk : ∀ (u : va_W) (H1 : Heap) (locs1 : List Loc), Qc u → va_P D vwCl (wr ++ u) H1 → va_D A (wr ++ u) → va_S A H0 H1 locs1 → W p l e R s m args below meth c H1 locs1 (cells + mc) (slots + ms) Q (F0 m (pc + 3) ls rest)) :
    W p l e R s m args below meth c H locs cells slots Q (F0 m pc ls st0) := by
  subst hws
  have hC : (List.range' wr.length wc.length).map (fun i => (wr ++ wc)[i]?) = wc.map some := by
    have := map_mid wr wc []
    rwa [List.append_nil] at this
  have hPc := cut_P hP hC
  have hDc := hD.sub _ (nd_range _ _) hC
  have hFc := va_free (wc := wc) hD hS hA _ hC
  refine va_callv (va_runI (As := As) (rest := rest) F (hM H.size) cw ⟨cPre.blind, fun U hU hW => ⟨rfl, cut_pre hN hK hPc hDc hU hW⟩⟩ rfl hnA hsz hst (lv_room hrest) hdg hf) hS (fun q _ h => hFc q h) hFc (fun u t H1 locs1 ht hvm hw hB hz1 hk1 hS => ?_)
  rw [ht] at hB
  obtain ⟨h1, h2⟩ := cz_join (Qc := Qc) hP hD hFc hk1 hB.1 hB.2
  exact kk u H1 locs1 hw h1 h2 hS
theorem cz_IN (F : CallFix p m c cc nL s args Ts own) (hN : nestOK s) (hK : va_K D vwCl tys s) (hP : va_P D vwCl ws H) (hD : va_D A ws) (hS : va_S A H0 H locs) (hA : ∀ q, H0.size ≤ q → A q)
    {Qc : va_W → Prop} (hM : CZ l D tys y w rm mc ms (.ref b :: As) wc Qc) (cw : va_CN R s args own index y host bytes maxL none w rm mc ms n ∧ y.name = "<init>" ∧ (Cond.instanceMethod y).before args s = true)
    (hws : ws = wr ++ wc) (hnA : As.length = n) (hsz : ls.size = nL) (hst : st0 = As.reverse ++ .ref b :: rest) (hrest : (rest.map fun v => v.category).sum ≤ 8) (hdg : decode cc pc = .ok (.invokespecial index, 3)) (hf : cells + mc ≤ R.cells ∧ slots + ms ≤ R.slots)
    (kk : ∀ (u : va_W) (H1 : Heap) (locs1 : List Loc), Qc u → va_P D vwCl (wr ++ u) H1 → va_D A (wr ++ u) → va_S A H0 H1 locs1 → W p l e R s m args below meth c H1 locs1 (cells + mc) (slots + ms) Q (F0 m (pc + 3) ls rest)) :
    W p l e R s m args below meth c H locs cells slots Q (F0 m pc ls st0) := by
  subst hws
  have hC : (List.range' wr.length wc.length).map (fun i => (wr ++ wc)[i]?) = wc.map some := by
    have := map_mid wr wc []
    rwa [List.append_nil] at this
  have hPc := cut_P hP hC
  have hDc := hD.sub _ (nd_range _ _) hC
  have hFc := va_free (wc := wc) hD hS hA _ hC
  refine va_callv (va_runIN (As := As) (rest := rest) F (hM H.size) cw ⟨cPre.blind, fun U hU hW => ⟨rfl, cut_pre hN hK hPc hDc hU hW⟩⟩ rfl hnA hsz hst (lv_room hrest) hdg hf) hS (fun q _ h => hFc q h) hFc (fun u t H1 locs1 ht hvm hw hB hz1 hk1 hS => ?_)
  rw [ht] at hB
  obtain ⟨h1, h2⟩ := cz_join (Qc := Qc) hP hD hFc hk1 hB.1 hB.2
  exact kk u H1 locs1 hw h1 h2 hS
/-- new rows of numbers, of a kind that is known -/
theorem rw_newi (hexec : p.tables.exec = Jvm.exec) (hb : c.code = cc) (harr : (Cond.arrayClass .int).before args s = true) (hK : va_K D vwCl tys s) (hP : va_P D vwCl ws H) (hD : va_D A ws) (hS : va_S A H0 H locs) (hA : ∀ q, H0.size ≤ q → A q) (t0 : Nat) {cA : ClassId} (ht : tys[t0]? = some (cA, .int))
    {k : Nat} (hk : k < 100000) (hcells : cells + 1 ≤ R.cells) (hslots : slots + k ≤ R.slots) (hdg : decode cc pc = .ok (.newarray .int, 2))
    (kk : ∀ (q : Nat) (H1 : Heap), va_P D vwCl (ws ++ [(q, .inl (cA, k, .inl (fun _ => nI 0)))]) H1 → va_D A (ws ++ [(q, .inl (cA, k, .inl (fun _ => nI 0)))]) → va_S A H0 H1 locs → W p l e R s m args below meth c H1 locs (cells + 1) (slots + k) Q (F0 m (pc + 2) ls (.ref q :: rest))) : W p l e R s m args below meth c H locs cells slots Q (F0 m pc ls (.int (nI k) :: rest)) := by
  refine va_newa (atype := .int) hexec hb harr rfl hK hP hD hS hA (N' := k) (a0 := (k, .inl (fun _ => nI 0))) (fun cA => by rw [vp_cell_i]; rfl) (nI_pos (by omega)) (nI_cl (by omega)) (by show k * 4 ≤ 536870912; omega) hcells hslots hdg (fun q cB H1 hK1 hP1 hD1 hS1 => ?_)
  have e1 := va_nm_int (hK.2 t0 _ ht).2
  have e2 := va_nm_int (hK1.2 tys.length (cB, .int) (by rw [List.getElem?_append_right (Nat.le_refl _), Nat.sub_self]; rfl)).2
  have e3 : cB = cA := Option.some.inj (e2.symm.trans e1)
  subst e3
  exact kk q H1 hP1 hD1 hS1
theorem rw_newc (hexec : p.tables.exec = Jvm.exec) (hb : c.code = cc) (harr : (Cond.arrayClass .char).before args s = true) (hK : va_K D vwCl tys s) (hP : va_P D vwCl ws H) (hD : va_D A ws) (hS : va_S A H0 H locs) (hA : ∀ q, H0.size ≤ q → A q) (t0 : Nat) {cA : ClassId} (ht : tys[t0]? = some (cA, .char))
    {k : Nat} (hk : k < 100000) (hcells : cells + 1 ≤ R.cells) (hslots : slots + k ≤ R.slots) (hdg : decode cc pc = .ok (.newarray .char, 2))
    (kk : ∀ (q : Nat) (H1 : Heap), va_P D vwCl (ws ++ [(q, .inl (cA, k, .inl (fun _ => nI 0)))]) H1 → va_D A (ws ++ [(q, .inl (cA, k, .inl (fun _ => nI 0)))]) → va_S A H0 H1 locs → W p l e R s m args below meth c H1 locs (cells + 1) (slots + k) Q (F0 m (pc + 2) ls (.ref q :: rest))) : W p l e R s m args below meth c H locs cells slots Q (F0 m pc ls (.int (nI k) :: rest)) := by
  refine va_newa (atype := .char) hexec hb harr rfl hK hP hD hS hA (N' := k) (a0 := (k, .inl (fun _ => nI 0))) (fun cA => by rw [vp_cell_i]; rfl) (nI_pos (by omega)) (nI_cl (by omega)) (by show k * 2 ≤ 536870912; omega) hcells hslots hdg (fun q cB H1 hK1 hP1 hD1 hS1 => ?_)
  have e1 := va_nm_char (hK.2 t0 _ ht).2
  have e2 := va_nm_char (hK1.2 tys.length (cB, .char) (by rw [List.getElem?_append_right (Nat.le_refl _), Nat.sub_self]; rfl)).2
  have e3 : cB = cA := Option.some.inj (e2.symm.trans e1)
  subst e3
  exact kk q H1 hP1 hD1 hS1
theorem rw_newb (hexec : p.tables.exec = Jvm.exec) (hb : c.code = cc) (harr : (Cond.arrayClass .byte).before args s = true) (hK : va_K D vwCl tys s) (hP : va_P D vwCl ws H) (hD : va_D A ws) (hS : va_S A H0 H locs) (hA : ∀ q, H0.size ≤ q → A q) (t0 : Nat) {cA : ClassId} (ht : tys[t0]? = some (cA, .byte))
    {k : Nat} (hk : k < 100000) (hcells : cells + 1 ≤ R.cells) (hslots : slots + k ≤ R.slots) (hdg : decode cc pc = .ok (.newarray .byte, 2))
    (kk : ∀ (q : Nat) (H1 : Heap), va_P D vwCl (ws ++ [(q, .inl (cA, k, .inl (fun _ => nI 0)))]) H1 → va_D A (ws ++ [(q, .inl (cA, k, .inl (fun _ => nI 0)))]) → va_S A H0 H1 locs → W p l e R s m args below meth c H1 locs (cells + 1) (slots + k) Q (F0 m (pc + 2) ls (.ref q :: rest))) : W p l e R s m args below meth c H locs cells slots Q (F0 m pc ls (.int (nI k) :: rest)) := by
  refine va_newa (atype := .byte) hexec hb harr rfl hK hP hD hS hA (N' := k) (a0 := (k, .inl (fun _ => nI 0))) (fun cA => by rw [vp_cell_i]; rfl) (nI_pos (by omega)) (nI_cl (by omega)) (by show k * 1 ≤ 536870912; omega) hcells hslots hdg (fun q cB H1 hK1 hP1 hD1 hS1 => ?_)
  have e1 := va_nm_byte (hK.2 t0 _ ht).2
  have e2 := va_nm_byte (hK1.2 tys.length (cB, .byte) (by rw [List.getElem?_append_right (Nat.le_refl _), Nat.sub_self]; rfl)).2
  have e3 : cB = cA := Option.some.inj (e2.symm.trans e1)
  subst e3
  exact kk q H1 hP1 hD1 hS1
end CALLS
abbrev smE (a0 a1 a2 : Nat) (T : SM) : Nat × va_E := (a0, .inr (7, [.ref a1, .ref a2]))
abbrev roE (a0 a1 a2 : Nat) (T : RO) : Nat × va_E := (a0, .inr (4, [.ref a1, .ref a2, .int (jI T.2.2)]))
abbrev seE (a0 a1 a2 : Nat) (T : SE) : Nat × va_E := (a0, .inr (5, [.ref a1, .ref a2]))
abbrev zN : Nat → Nat := fun _ => 0
abbrev zZ : Nat → Int := fun _ => 0
