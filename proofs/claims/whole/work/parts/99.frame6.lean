/-! worlds in groups: a call takes some groups, and what it leaves stands in their places -/
def setG : List va_W → List Nat → List va_W → List va_W
  | gs, i :: is, u :: us => setG (gs.set i u) is us
  | gs, _, _ => gs
abbrev fsts (g : va_W) : List Nat := g.map Prod.fst
theorem nd_inj {l : List Nat} (h : l.Nodup) : ∀ {i j a : Nat}, l[i]? = some a → l[j]? = some a → i = j := by
  induction l with
  | nil => intro i j a hi; rw [List.getElem?_nil] at hi; cases hi
  | cons x l ih =>
    intro i j a hi hj
    obtain ⟨h1, h2⟩ := List.nodup_cons.mp h
    cases i with
    | zero => cases j with
      | zero => rfl
      | succ j =>
        rw [List.getElem?_cons_zero] at hi
        rw [List.getElem?_cons_succ] at hj
        cases hi
        exact absurd (List.mem_of_getElem? hj) h1
    | succ i => cases j with
      | zero =>
        rw [List.getElem?_cons_succ] at hi
        rw [List.getElem?_cons_zero] at hj
        cases hj
        exact absurd (List.mem_of_getElem? hi) h1
      | succ j =>
        rw [List.getElem?_cons_succ] at hi hj
        rw [ih h2 hi hj]
theorem nd_of {l : List Nat} (h : ∀ i j a : Nat, l[i]? = some a → l[j]? = some a → i = j) : l.Nodup := by
  induction l with
  | nil => exact List.nodup_nil
  | cons x l ih =>
    refine List.nodup_cons.mpr ⟨fun hx => ?_, ih (fun i j a hi hj => ?_)⟩
    · obtain ⟨k, hk⟩ := List.getElem?_of_mem hx
      have := h 0 (k + 1) x rfl (by rw [List.getElem?_cons_succ]; exact hk)
      omega
    · have := h (i + 1) (j + 1) a (by rw [List.getElem?_cons_succ]; exact hi) (by rw [List.getElem?_cons_succ]; exact hj)
      omega
theorem vaD_nd {A : Nat → Prop} {ws : va_W} (hn : (fsts ws).Nodup) (hA : ∀ q ∈ ws, A q.1) : va_D A ws :=
  ⟨fun i j p q hp hq e => nd_inj hn (i := i) (j := j) (a := p.1) (by rw [List.getElem?_map, hp]; rfl) (by rw [List.getElem?_map, hq, e]; rfl), fun k q hk => hA q (List.mem_of_getElem? hk)⟩
theorem getD_mem {gs : List va_W} {i : Nat} {q : Nat × va_E} (h : q ∈ gs.getD i []) : ∃ g, gs[i]? = some g ∧ q ∈ g := by
  rw [List.getD_eq_getElem?_getD] at h
  rcases hg : gs[i]? with _ | g
  · rw [hg] at h; exact absurd h List.not_mem_nil
  · rw [hg] at h; exact ⟨g, rfl, h⟩
theorem sel_in {gs : List va_W} {is : List Nat} {q : Nat × va_E} (h : q ∈ (is.map (fun i => gs.getD i [])).flatten) : ∃ i g, i ∈ is ∧ gs[i]? = some g ∧ q ∈ g := by
  obtain ⟨g, hg, hq⟩ := List.mem_flatten.mp h
  obtain ⟨i, hi, rfl⟩ := List.mem_map.mp hg
  obtain ⟨g2, h2, h3⟩ := getD_mem hq
  exact ⟨i, g2, hi, h2, h3⟩
theorem sel_P {D : va_G} {gs : List va_W} {H : Heap} (hP : va_P D vwCl gs.flatten H) (is : List Nat) : va_P D vwCl (is.map (fun i => gs.getD i [])).flatten H := fun k q hk => by
  obtain ⟨i, g, -, h2, h3⟩ := sel_in (List.mem_of_getElem? hk)
  obtain ⟨k2, h4⟩ := List.getElem?_of_mem (List.mem_flatten.mpr ⟨g, List.mem_of_getElem? h2, h3⟩)
  exact hP k2 q h4
theorem grp_ne : ∀ {gs : List va_W}, (fsts gs.flatten).Nodup → ∀ {i j : Nat} {g h : va_W}, gs[i]? = some g → gs[j]? = some h → i ≠ j → ∀ {p q : Nat × va_E}, p ∈ g → q ∈ h → p.1 ≠ q.1
  | [], _, i, _, _, _, hi, _, _, _, _, _, _ => by rw [List.getElem?_nil] at hi; cases hi
  | g0 :: gs, hn, i, j, g, h, hi, hj, hij, p, q, hp, hq => by
    have hn : (fsts (g0 ++ gs.flatten)).Nodup := hn
    unfold fsts at hn
    rw [List.map_append] at hn
    obtain ⟨n1, n2, n3⟩ := List.nodup_append.mp hn
    cases i with
    | zero => cases j with
      | zero => exact absurd rfl hij
      | succ j =>
        rw [List.getElem?_cons_zero] at hi
        rw [List.getElem?_cons_succ] at hj
        cases hi
        exact n3 _ (List.mem_map.mpr ⟨p, hp, rfl⟩) _ (List.mem_map.mpr ⟨q, List.mem_flatten.mpr ⟨h, List.mem_of_getElem? hj, hq⟩, rfl⟩)
    | succ i => cases j with
      | zero =>
        rw [List.getElem?_cons_succ] at hi
        rw [List.getElem?_cons_zero] at hj
        cases hj
        exact fun e => n3 _ (List.mem_map.mpr ⟨q, hq, rfl⟩) _ (List.mem_map.mpr ⟨p, List.mem_flatten.mpr ⟨g, List.mem_of_getElem? hi, hp⟩, rfl⟩) e.symm
      | succ j =>
        rw [List.getElem?_cons_succ] at hi hj
        exact grp_ne n2 hi hj (by omega) hp hq
theorem grp_nd : ∀ {gs : List va_W}, (fsts gs.flatten).Nodup → ∀ {i : Nat} {g : va_W}, gs[i]? = some g → (fsts g).Nodup
  | [], _, i, _, hi => by rw [List.getElem?_nil] at hi; cases hi
  | g0 :: gs, hn, i, g, hi => by
    have hn : (fsts (g0 ++ gs.flatten)).Nodup := hn
    unfold fsts at hn
    rw [List.map_append] at hn
    obtain ⟨n1, n2, n3⟩ := List.nodup_append.mp hn
    cases i with
    | zero => rw [List.getElem?_cons_zero] at hi; cases hi; exact n1
    | succ i => rw [List.getElem?_cons_succ] at hi; exact grp_nd n2 hi
theorem sel_nd {gs : List va_W} (hn : (fsts gs.flatten).Nodup) : ∀ {is : List Nat}, va_nd is = true → (fsts (is.map (fun i => gs.getD i [])).flatten).Nodup
  | [], _ => List.nodup_nil
  | i :: is, h => by
    have h : (decide (i ∉ is) && va_nd is) = true := h
    rw [Bool.and_eq_true, decide_eq_true_eq] at h
    show (List.map Prod.fst (gs.getD i [] ++ (is.map (fun i => gs.getD i [])).flatten)).Nodup
    rw [List.map_append]
    refine List.nodup_append.mpr ⟨?_, sel_nd hn h.2, fun a ha b hb e => ?_⟩
    · rw [List.getD_eq_getElem?_getD]
      rcases hg : gs[i]? with _ | g
      · exact List.nodup_nil
      · exact grp_nd hn hg
    · obtain ⟨p, hp, rfl⟩ := List.mem_map.mp ha
      obtain ⟨q, hq, rfl⟩ := List.mem_map.mp hb
      obtain ⟨j, g2, hj, h2, hq⟩ := sel_in hq
      obtain ⟨g1, h1, hp⟩ := getD_mem hp
      exact grp_ne hn h1 h2 (fun e2 => h.1 (e2 ▸ hj)) hp hq e
theorem setG_in : ∀ {is : List Nat} {gs us : List va_W} {q : Nat × va_E}, is.length = us.length → q ∈ (setG gs is us).flatten → q ∈ us.flatten ∨ ∃ k g, gs[k]? = some g ∧ q ∈ g ∧ k ∉ is
  | [], gs, us, q, _, h => by
    have h : q ∈ gs.flatten := by
      cases us <;> exact h
    obtain ⟨g, hg, hq⟩ := List.mem_flatten.mp h
    obtain ⟨k, hk⟩ := List.getElem?_of_mem hg
    exact Or.inr ⟨k, g, hk, hq, List.not_mem_nil⟩
  | _ :: _, _, [], _, hl, _ => by cases hl
  | i :: is, gs, u :: us, q, hl, h => by
    have h : q ∈ (setG (gs.set i u) is us).flatten := h
    show q ∈ u ++ us.flatten ∨ _
    rcases setG_in (Nat.succ.inj hl) h with h1 | ⟨k, g, h1, h2, h3⟩
    · exact Or.inl (List.mem_append_right _ h1)
    · rw [List.getElem?_set] at h1
      by_cases hik : i = k
      · rw [if_pos hik] at h1
        split at h1
        · cases h1; exact Or.inl (List.mem_append_left _ h2)
        · cases h1
      · rw [if_neg hik] at h1
        exact Or.inr ⟨k, g, h1, h2, fun hm => (List.mem_cons.mp hm).elim (fun e => hik e.symm) h3⟩
theorem set_f : ∀ (gs : List va_W) (i : Nat) (u : va_W), fsts u = fsts (gs.getD i []) → (gs.set i u).map fsts = gs.map fsts
  | [], _, _, _ => rfl
  | g :: gs, 0, u, h => by
    have h : fsts u = fsts g := h
    show fsts u :: gs.map fsts = fsts g :: gs.map fsts
    rw [h]
  | g :: gs, i + 1, u, h => by
    show fsts g :: (gs.set i u).map fsts = fsts g :: gs.map fsts
    rw [set_f gs i u h]
theorem set_fD : ∀ (gs : List va_W) (i : Nat) (u : va_W), fsts u = fsts (gs.getD i []) → ∀ j, fsts ((gs.set i u).getD j []) = fsts (gs.getD j [])
  | [], _, _, _, _ => rfl
  | _ :: _, 0, _, h, 0 => h
  | _ :: _, 0, _, _, _ + 1 => rfl
  | _ :: _, _ + 1, _, _, 0 => rfl
  | _ :: gs, i + 1, u, h, j + 1 => set_fD gs i u h j
theorem setG_f : ∀ {is : List Nat} {gs us : List va_W}, us.map fsts = is.map (fun i => fsts (gs.getD i [])) → (setG gs is us).map fsts = gs.map fsts
  | [], gs, us, _ => by cases us <;> rfl
  | _ :: _, _, [], h => by cases h
  | i :: is, gs, u :: us, h => by
    have h : fsts u :: us.map fsts = fsts (gs.getD i []) :: is.map (fun i => fsts (gs.getD i [])) := h
    obtain ⟨h1, h2⟩ := List.cons.inj h
    show (setG (gs.set i u) is us).map fsts = _
    rw [setG_f (is := is) (gs := gs.set i u) (us := us) (by rw [h2]; exact congrArg (fun f => is.map f) (funext (fun j => (set_fD gs i u h1 j).symm))), set_f gs i u h1]
theorem flat_f (gs : List va_W) : fsts gs.flatten = (gs.map fsts).flatten := List.map_flatten
section CALLS
variable {p : Program} {l : Launch} {e : Env} {R : Room} {s : State} {m : MethodId} {args : Array Value} {below : List Frame} {meth : Method} {c : Code} {H H0 : Heap} {locs : List Loc} {cells slots : Nat} {Q : State → Prop} {A : Nat → Prop} {D : va_G} {tys : List (ClassId × FieldType)} {wc : va_W} {gs : List va_W} {as : List Nat} {cc : ByteArray} {nL pc : Nat} {ls : Array Slot} {rest st0 : List Value} {own C : String} {index maxL n : Nat} {bytes : ByteArray} {ret : Option FieldType} {Ts w : List Cond} {rm : Room} {y : MethodName} {As : List Value} {b : Nat}
theorem ci_G (F : CallFix p m c cc nL s args Ts own) (hN : nestOK s) (hK : va_K D vwCl tys s) (hP : va_P D vwCl gs.flatten H) (hV : vD A as) (ha : fsts gs.flatten = as) (hS : va_S A H0 H locs) (hA : ∀ q, H0.size ≤ q → A q)
    {Qc : Int32 → va_W → Prop} (hM : CI l D tys y w rm (.ref b :: As) wc Qc) (cw : CallW R s args own C index y bytes maxL ret w rm 0 0 n)
    (is : List Nat) (hwc : wc = (is.map (fun i => gs.getD i [])).flatten) (hnd : va_nd is = true) (q0 ci : Nat) {fs : List Value} (hq : wc[q0]? = some (b, .inr (ci, fs))) {T : u_T} {N : Nat} (hcl : vwCl[ci]? = some (C, T, N))
    (hnA : As.length = n) (hsz : ls.size = nL) (hst : st0 = As.reverse ++ .ref b :: rest) (hrest : (rest.map fun v => v.category).sum ≤ 8) (hdg : decode cc pc = .ok (.invokevirtual index, 3)) (hf : cells ≤ R.cells ∧ slots ≤ R.slots)
    (kk : ∀ (r : Int32) (u : va_W) (H1 : Heap) (locs1 : List Loc), Qc r u → (∀ us : List va_W, us.flatten = u → us.map fsts = is.map (fun i => fsts (gs.getD i [])) → va_P D vwCl (setG gs is us).flatten H1 ∧ fsts (setG gs is us).flatten = as) → va_S A H0 H1 locs1 → W p l e R s m args below meth c H1 locs1 cells slots Q (F0 m (pc + 3) ls (.int r :: rest))) :
    W p l e R s m args below meth c H locs cells slots Q (F0 m pc ls st0) := by
  have hn : (fsts gs.flatten).Nodup := by rw [ha]; exact nd_of hV.1
  have hPc : va_P D vwCl wc H := by rw [hwc]; exact sel_P hP is
  have hin : ∀ q ∈ wc, A q.1 := fun q hq => by
    rw [hwc] at hq
    obtain ⟨i, g, -, h2, h3⟩ := sel_in hq
    refine hV.2 _ ?_
    rw [← ha]
    exact List.mem_map.mpr ⟨q, List.mem_flatten.mpr ⟨g, List.mem_of_getElem? h2, h3⟩, rfl⟩
  have hDc : va_D A wc := vaD_nd (by rw [hwc]; exact sel_nd hn hnd) hin
  have hFc : ∀ q, va_A wc H.size q → A q := by
    rintro q (⟨k, e, h⟩ | h)
    · exact hin _ (List.mem_of_getElem? h)
    · exact hA q (Nat.le_trans hS.1 h)
  refine va_calli (va_runV (As := As) (rest := rest) F (hM H.size) cw ⟨cPre.blind, va_recv hK hPc hcl hq, fun U hU hW => ⟨rfl, cut_pre hN hK hPc hDc hU hW⟩⟩ rfl hnA hsz hst (lv_room hrest) hdg hf) hS (fun q _ h => hFc q h) hFc (fun r u t H1 locs1 ht hvm hw hB hz1 hk1 hS => ?_)
  rw [ht] at hB
  refine kk r u H1 locs1 hw.1 (fun us hu hfs => ⟨fun k q hk => ?_, ?_⟩) hS
  · have hlen : is.length = us.length := by
      have := congrArg List.length hfs
      rw [List.length_map, List.length_map] at this
      exact this.symm
    rcases setG_in hlen (List.mem_of_getElem? hk) with h | ⟨k2, g, h1, h2, h3⟩
    · rw [hu] at h
      obtain ⟨j, hj⟩ := List.getElem?_of_mem h
      exact hB j q hj
    · obtain ⟨k3, h4⟩ := List.getElem?_of_mem (List.mem_flatten.mpr ⟨g, List.mem_of_getElem? h1, h2⟩)
      have hq3 := hP k3 q h4
      refine hq3.kept (hk1 q.1 hq3.lt ?_)
      rintro (⟨j, e, hj⟩ | hz)
      · have hm := List.mem_of_getElem? hj
        rw [hwc] at hm
        obtain ⟨i, g3, hi, h5, h6⟩ := sel_in hm
        exact grp_ne hn h5 h1 (fun e => h3 (e ▸ hi)) h6 h2 rfl
      · exact absurd hq3.lt (by omega)
  · rw [flat_f, setG_f hfs, ← flat_f, ha]
theorem ra_sld (hexec : p.tables.exec = Jvm.exec) (hb : c.code = cc) {L : Nat} {xs : Nat → Int32} (hX : va_X b L xs s H0) (hbl : b < H0.size) (hbA : ¬ A b) (hS : va_S A H0 H locs) {k : Nat} (hk : k < L) (hL : L < 2147483648) (hdg : decode cc pc = .ok (.iaload, 1))
    (kk : W p l e R s m args below meth c H locs cells slots Q (F0 m (pc + 1) ls (.int (xs k) :: rest))) : W p l e R s m args below meth c H locs cells slots Q (F0 m pc ls (.int (nI k) :: .ref b :: rest)) :=
  va_sld hexec hb hX hbl hbA hS (nI_vp hk hL) hdg (by rw [nI_cl (by omega)]; exact kk)
end CALLS
