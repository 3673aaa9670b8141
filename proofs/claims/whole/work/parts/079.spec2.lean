/-! letters, sightings, the rows of a plan -/
def ltOK (T : LT) : Prop := (∀ k, T.1 k < 127) ∧ T.2 ≤ 200
def tAt (T : LT) (k : Nat) : Nat := if k < T.2 then T.1 k else 0
theorem tAt_lt {T : LT} (h : ltOK T) (k : Nat) : tAt T k < 127 := by
  unfold tAt
  split
  · exact h.1 k
  · omega
def figZ (T : LT) (k : Nat) : Int := if 48 ≤ tAt T k ∧ tAt T k ≤ 57 then ((tAt T k - 48 : Nat) : Int) else -4
theorem figZ_rng {T : LT} (k : Nat) : -4 ≤ figZ T k ∧ figZ T k ≤ 9 ∧ (figZ T k ≠ -4 → 0 ≤ figZ T k) := by
  unfold figZ
  split <;> omega
abbrev agr (G : SG) (S : ST) : Prop := ∀ i, i < G.2.2 → sAt S ((G.1 i : Nat) : Int) = G.2.1 i
theorem nar_ch {n : Nat} (h : n < 65536) : vp_nar .char (nI n) = nI n := by
  unfold vp_nar
  rw [nar_c h]
section ROWS
variable {p : Program} {l : Launch} {e : Env} {R : Room} {s : State} {m : MethodId} {args : Array Value} {below : List Frame} {meth : Method} {c : Code} {H H0 : Heap} {locs : List Loc} {cells slots : Nat} {Q : State → Prop} {A : Nat → Prop} {D : va_G} {tys : List (ClassId × FieldType)} {ws : va_W} {as : List Nat} {cc : ByteArray} {pc : Nat} {ls : Array Slot} {rest : List Value} {a : Nat}
theorem rn_cast (hexec : p.tables.exec = Jvm.exec) (hb : c.code = cc) (hK : va_K D vwCl tys s) (hP : va_P D vwCl ws H) (hV : vD A as) (hS : va_S A H0 H locs) (q0 t0 : Nat) {cA : ClassId} {n : Nat} {f : Nat → Nat} (ha : ws[q0]? = some (a, .inl (cA, n, .inl (fun j => nI (f j))))) (ht : tys[t0]? = some (cA, .char)) {k x : Nat} (hk : k < n) (hn : n < 2147483648) (hx : x < 65536) (hdg : decode cc pc = .ok (.castore, 1)) (hw : ws.map Prod.fst = as) {ws2 : va_W} (h2 : ws.set q0 (a, .inl (cA, n, .inl (fun j => nI (va_up f k x j)))) = ws2)
    (kk : ∀ (H1 : Heap) (locs1 : List Loc), va_P D vwCl ws2 H1 → va_S A H0 H1 locs1 → W p l e R s m args below meth c H1 locs1 cells slots Q (F0 m (pc + 1) ls rest)) : W p l e R s m args below meth c H locs cells slots Q (F0 m pc ls (.int (nI x) :: .int (nI k) :: .ref a :: rest)) :=
  va_cast hexec hb hK hP (vD_to hV hw) hS q0 t0 ha ht (nI_vp hk hn) hdg (fun H1 locs1 hP1 _ hS1 => kk H1 locs1 (by rw [nI_cl (by omega), nar_ch hx, upd_n, h2] at hP1; exact hP1) hS1)
end ROWS
abbrev n4W (a0 : Nat) (cI : ClassId) (f : Nat → Nat) : va_W := [(a0, .inl (cI, 4, .inl (fun j => nI (f j))))]
abbrev n6W (a0 : Nat) (cI : ClassId) (f : Nat → Nat) : va_W := [(a0, .inl (cI, 6, .inl (fun j => nI (f j))))]
abbrev rowOK (P : PL) (w : Nat) : Prop := 1 ≤ w ∧ w ≤ 6 ∧ P.2.2.2.2.1 < 4 ∧ (0 < P.2.2.2.2.1 → w = P.2.2.2.1)
def rowFill (f : Nat → Nat) (st : Nat) (g : Nat → Nat) : Nat → Nat → Nat | 0 => f | n + 1 => va_up (rowFill f st g n) (st + n) (g n)
def pRow (P : PL) (g : Nat → Nat) (w : Nat) : PL := (rowFill P.1 (pCells P) g w, P.2.1, P.2.2.1, w, P.2.2.2.2.1 + 1, P.2.2.2.2.2.1, P.2.2.2.2.2.2)
theorem rowOK_in {P : PL} {w : Nat} (h : rowOK P w) : pCells P + w ≤ 24 := by
  obtain ⟨h1, h2, h3, h4⟩ := h
  unfold pCells
  rcases Nat.eq_zero_or_pos P.2.2.2.2.1 with q | q
  · rw [q]; omega
  · rw [← h4 q]
    have : P.2.2.2.2.1 * w ≤ 3 * w := Nat.mul_le_mul_right _ (by omega)
    omega
abbrev casOK (P : PL) (f : Nat → Nat) : Prop := P.2.2.2.2.2.1 < 6 ∧ f 0 ≤ 3 ∧ f 1 < pCells P ∧ 1 ≤ f 2 ∧ f 2 ≤ 9 ∧ f 3 < 20
abbrev maiOK (P : PL) (f : Nat → Nat) : Prop := P.2.2.2.2.2.2 < 3 ∧ f 0 ≤ 3 ∧ f 3 < pCells P ∧ 1 ≤ f 1 ∧ f 1 ≤ 9 ∧ 1 ≤ f 2 ∧ f 2 ≤ 9
def pCas (P : PL) (f : Nat → Nat) : PL := (P.1, va_cpy f P.2.1 0 (P.2.2.2.2.2.1 * 4) 4, P.2.2.1, P.2.2.2.1, P.2.2.2.2.1, P.2.2.2.2.2.1 + 1, P.2.2.2.2.2.2)
def pMai (P : PL) (f : Nat → Nat) : PL := (P.1, P.2.1, va_cpy f P.2.2.1 0 (P.2.2.2.2.2.2 * 4) 4, P.2.2.2.1, P.2.2.2.2.1, P.2.2.2.2.2.1, P.2.2.2.2.2.2 + 1)
theorem rowFill_le {f g : Nat → Nat} {st b : Nat} (hf : ∀ k, f k ≤ b) (hg : ∀ k, g k ≤ b) : ∀ n k, rowFill f st g n k ≤ b
  | 0, k => hf k
  | n + 1, k => by
    rw [rowFill]
    unfold va_up
    split
    · exact hg n
    · exact rowFill_le hf hg n k
theorem cpy_lt {f g : Nat → Nat} {b sp dp n : Nat} (hf : ∀ k, f k < b) (hg : ∀ k, g k < b) (k : Nat) : va_cpy f g sp dp n k < b := by
  unfold va_cpy
  split
  · exact hf _
  · exact hg _
theorem pRow_ok {P : PL} {g : Nat → Nat} {w : Nat} (hp : pOK P) (hg : ∀ k, g k ≤ 9) (h : rowOK P w) : pOK (pRow P g w) := by
  obtain ⟨a1, a2, a3, a4, a5, a6, a7⟩ := hp
  obtain ⟨b1, b2, b3, b4⟩ := h
  exact ⟨rowFill_le a1 hg w, a2, a3, b2, b3, a6, a7⟩
theorem pCas_ok {P : PL} {f : Nat → Nat} (hp : pOK P) (hf : ∀ k, f k < 100) (h : casOK P f) : pOK (pCas P f) := by
  obtain ⟨a1, a2, a3, a4, a5, a6, a7⟩ := hp
  exact ⟨a1, cpy_lt hf a2, a3, a4, a5, h.1, a7⟩
theorem pMai_ok {P : PL} {f : Nat → Nat} (hp : pOK P) (hf : ∀ k, f k < 100) (h : maiOK P f) : pOK (pMai P f) := by
  obtain ⟨a1, a2, a3, a4, a5, a6, a7⟩ := hp
  exact ⟨a1, a2, cpy_lt hf a3, a4, a5, a6, h.1⟩
theorem figZ_rng_ (T : LT) (k : Nat) : -4 ≤ figZ T k ∧ figZ T k ≤ 9 ∧ (figZ T k ≠ -4 → 0 ≤ figZ T k) := figZ_rng k
