/-! constructors that make rows of references, too -/
def CY (l : Launch) (D : va_G) (tys : List (ClassId × FieldType)) (y : MethodName) (w : List Cond) (rm : Room) (mc ms : Nat) (av : List Value) (ws : va_W) (Q : va_W → Prop) : Prop :=
  ∀ sz, Met l y w rm (va_Pc av (fun U => cPre D tys ws sz U ∧ va_AO RX8 U)) (va_Qv (fun (u : va_W) => Q u) (fun u t => va_P D vwCl u t.heap ∧ va_D (va_A ws sz) u) (va_A ws sz)) mc ms (va_A ws sz)
theorem cy_intro {l : Launch} {D : va_G} {tys : List (ClassId × FieldType)} {y : MethodName} {w w' : List Cond} {rm : Room} {mc ms : Nat} {av : List Value} {ws : va_W} {Q : va_W → Prop} {cc : ByteArray} {maxL : Nat}
    (hy : plainName y.cls = true) (hyn : y.name = "<init>") (hw : w = Cond.code y cc maxL none :: w') (hav : (lg_sl av).length ≤ maxL)
    (body : ∀ (p : Program) (e : Env) (s : State) (m : MethodId) (args : Array Value) (below : List Frame) (meth : Method) (c : Code) (ls : Array Slot) (A : Nat → Prop) (QF : State → Prop),
      mFacts p s m args c cc maxL w y.cls → meth.name = "<init>" → va_K D vwCl tys s → va_P D vwCl ws s.heap → va_D A ws → va_S A s.heap s.heap [] → (∀ q, s.heap.size ≤ q → A q) → nestOK s → va_AO RX8 s → lv_has ls maxL (lv_args 0 av) →
      (∀ {H : Heap} {locs : List Loc} {ls1 : Array Slot} (pc : Nat) (u : va_W), va_P D vwCl u H → va_D A u → va_S A s.heap H locs → decode cc pc = .ok (.return_, 1) → Q u → W p l e rm s m args below meth c H locs mc ms QF (F0 m pc ls1 [])) →
      W p l e rm s m args below meth c s.heap [] 0 0 QF (F0 m 0 ls [])) : CY l D tys y w rm mc ms av ws Q := by
  intro sz
  refine Met.ofW (cc := cc) (maxL := maxL) (ret := none) hy hw ?_
  intro p e s m args below meth c s₁ B hml hv
  obtain ⟨rfl, ⟨hsz, hP, hK, hD0, hN⟩, hO⟩ := hv
  have hx := B.exec
  have hb := B.bytes
  have hr := B.returns
  have hts := atoms_spec (ws := w) B.pre
  have hown : s.vm.findClass y.cls = some m.cls := findClass_of_methodNamed B.named
  have hlocks := B.notSynchronized
  have hin : meth.name = "<init>" := (name_of_methodNamed B.named B.method).1.trans hyn
  subst hsz
  have hD := hD0.self (sz := s.heap.size)
  have hl := lv_entry av (n := maxL) hav
  rw [lg_entry_eq]
  generalize (lg_sl av ++ List.replicate (maxL - (lg_sl av).length) Slot.unset).toArray = ls at hl ⊢
  refine body p e s m _ below meth c ls (va_A ws s.heap.size) _ ⟨hx, hb, hml, hown, hts⟩ hin hK hP hD va_S.rf (fun q h => Or.inr h) hN hO hl ?_
  intro H locs ls1 pc u hPu hDu hS hdg hq
  exact W.vret hx hb hr (fun t ht hW => ⟨⟨u, rfl, hq, by rw [ht]; exact hPu, hDu⟩, hS.F ht⟩) hS.2.2 hdg
theorem cy_blind {D : va_G} {tys : List (ClassId × FieldType)} {ws : va_W} {sz : Nat} {av : List Value} : FrameBlind (va_Pc av (fun U => cPre D tys ws sz U ∧ va_AO RX8 U)) := fun a U g mk q => by
  obtain ⟨q0, ⟨q1, qP, qK, qD, qN⟩, qO⟩ := q
  exact ⟨q0, ⟨q1, qP, va_K.moved (u := U) (U := U.calling g mk a) (Vm.Alike.refl U.vm) qK, qD, qN.calling⟩, va_AO.moved (u := U) (U := U.calling g mk a) (Vm.Alike.refl U.vm) qO⟩
theorem va_P_arrq {D : va_G} {cl : List vw_C} {ws : va_W} {H : Heap} {k a n : Nat} {cA : ClassId} {f g : Nat → Option Nat} (hP : va_P D cl ws H) (hk : ws[k]? = some (a, .inl (cA, n, .inr (.inr (.inr (.inr f)))))) (h : ∀ j, j < n → f j = g j) : va_P D cl (ws.set k (a, .inl (cA, n, .inr (.inr (.inr (.inr g)))))) H := by
  intro i q hq
  rw [List.getElem?_set] at hq
  by_cases hik : k = i
  · rw [if_pos hik] at hq
    split at hq
    · cases hq
      have h1 := hP k _ hk
      show H[a]? = some (vp_cell cA (n, .inr (.inr (.inr (.inr g)))))
      rw [vp_cell_q, ← arrV_congr (f := fun j => va_rf (f j)) (fun j hj => by rw [h j hj])]
      exact h1
    · cases hq
  · rw [if_neg hik] at hq
    exact hP i q hq
section CALLS
variable {p : Program} {l : Launch} {e : Env} {R : Room} {s : State} {m : MethodId} {args : Array Value} {below : List Frame} {meth : Method} {c : Code} {H H0 : Heap} {locs : List Loc} {cells slots mc ms : Nat} {Q : State → Prop} {A : Nat → Prop} {D : va_G} {tys : List (ClassId × FieldType)} {ws wr wc : va_W} {cc : ByteArray} {nL pc : Nat} {ls : Array Slot} {rest st0 : List Value} {own C host : String} {index maxL n : Nat} {bytes : ByteArray} {Ts w : List Cond} {rm : Room} {y : MethodName} {As : List Value} {a b : Nat}
theorem cy_I (F : CallFix p m c cc nL s args Ts own) (hN : nestOK s) (hO : va_AO RX8 s) (hK : va_K D vwCl tys s) (hP : va_P D vwCl ws H) (hD : va_D A ws) (hS : va_S A H0 H locs) (hA : ∀ q, H0.size ≤ q → A q)
    {Qc : va_W → Prop} (hM : CY l D tys y w rm mc ms (.ref b :: As) wc Qc) (cw : CallB R s args own index y bytes maxL none w rm mc ms n ∧ y.name = "<init>" ∧ (Cond.instanceMethod y).before args s = true)
    (hws : ws = wr ++ wc) (hnA : As.length = n) (hsz : ls.size = nL) (hst : st0 = As.reverse ++ .ref b :: rest) (hrest : (rest.map fun v => v.category).sum ≤ 8) (hdg : decode cc pc = .ok (.invokespecial index, 3)) (hf : cells + mc ≤ R.cells ∧ slots + ms ≤ R.slots)
    (kk : ∀ (u : va_W) (H1 : Heap) (locs1 : List Loc), Qc u → va_P D vwCl (wr ++ u) H1 → va_D A (wr ++ u) → va_S A H0 H1 locs1 → W p l e R s m args below meth c H1 locs1 (cells + mc) (slots + ms) Q (F0 m (pc + 3) ls rest)) :
    W p l e R s m args below meth c H locs cells slots Q (F0 m pc ls st0) := by
  subst hws
  have hC : (List.range' wr.length wc.length).map (fun i => (wr ++ wc)[i]?) = wc.map some := by
    have := map_mid wr wc []
    rwa [List.append_nil] at this
  have hPc := cut_P hP hC
  have hDc := hD.sub _ (nd_range _ _) hC
  have hFc := va_free (wc := wc) hD hS hA _ hC
  refine va_callv (va_runI (As := As) (rest := rest) F (hM H.size) cw ⟨cy_blind, fun U hU hW => ⟨rfl, cut_pre hN hK hPc hDc hU hW, va_AO.moved hW.alike hO⟩⟩ rfl hnA hsz hst (lv_room hrest) hdg hf) hS (fun q _ h => hFc q h) hFc (fun u t H1 locs1 ht hvm hw hB hz1 hk1 hS => ?_)
  rw [ht] at hB
  obtain ⟨h1, h2⟩ := cz_join (Qc := Qc) hP hD hFc hk1 hB.1 hB.2
  exact kk u H1 locs1 hw h1 h2 hS
theorem cy_IN (F : CallFix p m c cc nL s args Ts own) (hN : nestOK s) (hO : va_AO RX8 s) (hK : va_K D vwCl tys s) (hP : va_P D vwCl ws H) (hD : va_D A ws) (hS : va_S A H0 H locs) (hA : ∀ q, H0.size ≤ q → A q)
    {Qc : va_W → Prop} (hM : CY l D tys y w rm mc ms (.ref b :: As) wc Qc) (cw : va_CN R s args own index y host bytes maxL none w rm mc ms n ∧ y.name = "<init>" ∧ (Cond.instanceMethod y).before args s = true)
    (hws : ws = wr ++ wc) (hnA : As.length = n) (hsz : ls.size = nL) (hst : st0 = As.reverse ++ .ref b :: rest) (hrest : (rest.map fun v => v.category).sum ≤ 8) (hdg : decode cc pc = .ok (.invokespecial index, 3)) (hf : cells + mc ≤ R.cells ∧ slots + ms ≤ R.slots)
    (kk : ∀ (u : va_W) (H1 : Heap) (locs1 : List Loc), Qc u → va_P D vwCl (wr ++ u) H1 → va_D A (wr ++ u) → va_S A H0 H1 locs1 → W p l e R s m args below meth c H1 locs1 (cells + mc) (slots + ms) Q (F0 m (pc + 3) ls rest)) :
    W p l e R s m args below meth c H locs cells slots Q (F0 m pc ls st0) := by
  subst hws
  have hC : (List.range' wr.length wc.length).map (fun i => (wr ++ wc)[i]?) = wc.map some := by
    have := map_mid wr wc []
    rwa [List.append_nil] at this
  have hPc := cut_P hP hC
  have hDc := hD.sub _ (nd_range _ _) hC
  have hFc := va_free (wc := wc) hD hS hA _ hC
  refine va_callv (va_runIN (As := As) (rest := rest) F (hM H.size) cw ⟨cy_blind, fun U hU hW => ⟨rfl, cut_pre hN hK hPc hDc hU hW, va_AO.moved hW.alike hO⟩⟩ rfl hnA hsz hst (lv_room hrest) hdg hf) hS (fun q _ h => hFc q h) hFc (fun u t H1 locs1 ht hvm hw hB hz1 hk1 hS => ?_)
  rw [ht] at hB
  obtain ⟨h1, h2⟩ := cz_join (Qc := Qc) hP hD hFc hk1 hB.1 hB.2
  exact kk u H1 locs1 hw h1 h2 hS
theorem rw_newq (hexec : p.tables.exec = Jvm.exec) (hb : c.code = cc) (hown : s.vm.findClass own = some m.cls) (hcl : (Cond.classLink own index RX8).before args s = true) (hO : va_AO RX8 s) (hK : va_K D vwCl tys s) (hP : va_P D vwCl ws H) (hD : va_D A ws) (hS : va_S A H0 H locs) (hA : ∀ q, H0.size ≤ q → A q) (t0 : Nat) {cA : ClassId} (ht : tys[t0]? = some (cA, .object RX8))
    {k : Nat} (hk : k < 100000) (hcells : cells + 1 ≤ R.cells) (hslots : slots + k ≤ R.slots) (hdg : decode cc pc = .ok (.anewarray index, 3))
    (kk : ∀ (q : Nat) (H1 : Heap), va_P D vwCl (ws ++ [(q, .inl (cA, k, .inr (.inr (.inr (.inr (fun _ => none))))))]) H1 → va_D A (ws ++ [(q, .inl (cA, k, .inr (.inr (.inr (.inr (fun _ => none))))))]) → va_S A H0 H1 locs → W p l e R s m args below meth c H1 locs (cells + 1) (slots + k) Q (F0 m (pc + 3) ls (.ref q :: rest))) : W p l e R s m args below meth c H locs cells slots Q (F0 m pc ls (.int (nI k) :: rest)) := by
  refine va_newq hexec hb hown hcl hO hK hP hD hS hA (N' := k) (nI_pos (by omega)) (nI_cl (by omega)) (by omega) hcells hslots hdg (fun q cB H1 hK1 hP1 hD1 hS1 => ?_)
  have e1 := va_nmO (hK.2 t0 _ ht).2 rfl
  have e2 := va_nmO (hK1.2 tys.length (cB, .object RX8) (by rw [List.getElem?_append_right (Nat.le_refl _), Nat.sub_self]; rfl)).2 rfl
  have e3 : cB = cA := Option.some.inj (e2.symm.trans e1)
  subst e3
  exact kk q H1 hP1 hD1 hS1
theorem rd_ast (hexec : p.tables.exec = Jvm.exec) (hb : c.code = cc) (hK : va_K D vwCl tys s) (hP : va_P D vwCl ws H) (hD : va_D A ws) (hS : va_S A H0 H locs) (q0 t0 qk ci : Nat) {cA : ClassId} {r : vw_C} {n v : Nat} {vs : List Value} {f : Nat → Option Nat} (ha : ws[q0]? = some (a, .inl (cA, n, .inr (.inr (.inr (.inr f)))))) (ht : tys[t0]? = some (cA, .object r.1)) (hv : ws[qk]? = some (v, .inr (ci, vs))) (hc : vwCl[ci]? = some r) {k : Nat} (hk : k < n) (hn : n < 2147483648) (hdg : decode cc pc = .ok (.aastore, 1))
    (kk : ∀ (H1 : Heap) (locs1 : List Loc), va_P D vwCl (ws.set q0 (a, .inl (cA, n, .inr (.inr (.inr (.inr (va_up f k (some v)))))))) H1 → va_D A (ws.set q0 (a, .inl (cA, n, .inr (.inr (.inr (.inr (va_up f k (some v)))))))) → va_S A H0 H1 locs1 → W p l e R s m args below meth c H1 locs1 cells slots Q (F0 m (pc + 1) ls rest)) : W p l e R s m args below meth c H locs cells slots Q (F0 m pc ls (.ref v :: .int (nI k) :: .ref a :: rest)) :=
  va_astq hexec hb hK hP hD hS q0 t0 qk ci ha ht hv hc (nI_vp hk hn) hdg (fun H1 locs1 hP1 hD1 hS1 => by rw [nI_cl (by omega)] at hP1 hD1; exact kk H1 locs1 hP1 hD1 hS1)
end CALLS
abbrev st0 : ST := (zN, zN, zN, 0, 0)
abbrev pI0 : PI := (fun j => j, 0, fun _ => st0)
