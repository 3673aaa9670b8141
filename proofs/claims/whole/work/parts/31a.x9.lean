theorem eg_z (n a : Nat) : eg n a 0 = a := by cases n <;> simp [eg]
theorem eg_s {n a b : Nat} (hn : 0 < n) (h0 : b ≠ 0) : eg n a b = eg (n - 1) b (a % b) := by obtain ⟨k, rfl⟩ : ∃ k, n = k + 1 := ⟨n - 1, by omega⟩; simp [eg, h0]
abbrev rmX9_commonDivisor : Room := { frames := 0, cells := 0, slots := 0, locals := 0 }
set_option maxHeartbeats 4000000 in
set_option maxRecDepth 100000 in
theorem k_X9_commonDivisor (l : Launch) (D : va_G) (cI cC cB cS : ClassId) (a : Nat) (b : Nat) (ha9 : a < 2147483648) (hb9 : b < 2147483648) : CI l D (kT cI cC cB cS) yX9_commonDivisor wsX9_commonDivisor rmX9_commonDivisor [.int (nI a), .int (nI b)] (([] : va_W)) (fun r u => r = nI (eg 64 a b) ∧ u = ([] : va_W)) := by
  refine ci_intro (by decide) rfl (Nat.le_of_ble_eq_true rfl) ?_
  intro p e s m args below meth c ls A QF hF hK hP hV hS hA hN hl hret
  obtain ⟨hx, hb, hml, hown, hts⟩ := id hF
  have hP : va_P D vwCl (([] : va_W)) s.heap := hP
  have hl : lv_has ls 6 [(0, .int (nI a)), (1, .int (nI b))] := hl
  refine lv_iload_n (pc := 0) hx hb dX9_commonDivisor_0 rfl (lv_at hl 0 rfl) ?_
  refine lv_istore_n (pc := 1) (lv' := [(2, .int (nI a)), (0, .int (nI a)), (1, .int (nI b))]) hx hb dX9_commonDivisor_1 rfl hl (by decide) rfl (fun ls hl => ?_)
  refine lv_iload_n (pc := 2) hx hb dX9_commonDivisor_2 rfl (lv_at hl 2 rfl) ?_
  refine lv_istore_n (pc := 3) (lv' := [(3, .int (nI b)), (2, .int (nI a)), (0, .int (nI a)), (1, .int (nI b))]) hx hb dX9_commonDivisor_3 rfl hl (by decide) rfl (fun ls hl => ?_)
  refine lv_iconst (pc := 4) (v := nI 0) hx hb dX9_commonDivisor_4 (by decide) ?_
  refine lv_istore (pc := 5) (lv' := [(4, .int (nI 0)), (3, .int (nI b)), (2, .int (nI a)), (0, .int (nI a)), (1, .int (nI b))]) hx hb dX9_commonDivisor_5 hl (by decide) rfl (fun ls hl => ?_)
  have cut7 : ∀ (fuel : Nat) (k : Nat) (q : Nat) (r : Nat) (H : Heap) (locs : List Loc) (ls : Array Slot) (hk : k ≤ 64) (hq : q < 2147483648) (hr : r < 2147483648) (hE : eg (64 - k) q r = eg 64 a b) (hfu : 64 - k < fuel), va_P D vwCl (([] : va_W)) H → va_S A s.heap H locs → lv_has ls 6 [(4, .int (nI k)), (3, .int (nI r)), (2, .int (nI q)), (1, .int (nI b)), (0, .int (nI a))] → W p l e rmX9_commonDivisor s m args below meth c H locs 0 0 QF (F0 m 7 ls []) := by
    intro fuel
    induction fuel with
    | zero => intro k q r H locs ls hk hq hr hE hfu; omega
    | succ fuel ih7 =>
      intro k q r H locs ls hk hq hr hE hfu hP hS hl
      refine lv_iload (pc := 7) hx hb dX9_commonDivisor_7 (lv_at hl 0 rfl) ?_
      refine lv_bipush (pc := 9) (v := nI 64) hx hb dX9_commonDivisor_9 (by decide) ?_
      refine rc_ge (pc := 11) (tgt := 34) hx hb (tI_nI (by omega)) (tI_nI (by omega)) dX9_commonDivisor_11 (by decide) (fun c11 => ?_) (fun c11 => ?_)
      · refine lv_iload_n (pc := 34) hx hb dX9_commonDivisor_34 rfl (lv_at hl 2 rfl) ?_
        exact hret 35 _ hP hS dX9_commonDivisor_35 rfl rfl ⟨(congrArg nI (by rw [← hE]; first | (rw [show 64 - k = 0 by omega]; rfl) | (rw [show r = 0 by omega]; exact (eg_z _ _).symm))), rfl⟩
      · refine lv_iload_n (pc := 14) hx hb dX9_commonDivisor_14 rfl (lv_at hl 1 rfl) ?_
        refine r0_eq (pc := 15) (tgt := 34) hx hb (tI_nI (by omega)) dX9_commonDivisor_15 (by decide) (fun c15 => ?_) (fun c15 => ?_)
        · refine lv_iload_n (pc := 34) hx hb dX9_commonDivisor_34 rfl (lv_at hl 2 rfl) ?_
          exact hret 35 _ hP hS dX9_commonDivisor_35 rfl rfl ⟨(congrArg nI (by rw [← hE]; first | (rw [show 64 - k = 0 by omega]; rfl) | (rw [show r = 0 by omega]; exact (eg_z _ _).symm))), rfl⟩
        · refine lv_iload_n (pc := 18) hx hb dX9_commonDivisor_18 rfl (lv_at hl 2 rfl) ?_
          refine lv_iload_n (pc := 19) hx hb dX9_commonDivisor_19 rfl (lv_at hl 1 rfl) ?_
          refine rn_irem (pc := 20) hx hb (by omega) (by omega) dX9_commonDivisor_20 ?_
          refine lv_istore (pc := 21) (lv' := [(5, .int (nI (q % r))), (4, .int (nI k)), (3, .int (nI r)), (2, .int (nI q)), (1, .int (nI b)), (0, .int (nI a))]) hx hb dX9_commonDivisor_21 hl (by decide) rfl (fun ls hl => ?_)
          refine lv_iload_n (pc := 23) hx hb dX9_commonDivisor_23 rfl (lv_at hl 2 rfl) ?_
          refine lv_istore_n (pc := 24) (lv' := [(2, .int (nI r)), (5, .int (nI (q % r))), (4, .int (nI k)), (3, .int (nI r)), (1, .int (nI b)), (0, .int (nI a))]) hx hb dX9_commonDivisor_24 rfl hl (by decide) rfl (fun ls hl => ?_)
          refine lv_iload (pc := 25) hx hb dX9_commonDivisor_25 (lv_at hl 1 rfl) ?_
          refine lv_istore_n (pc := 27) (lv' := [(3, .int (nI (q % r))), (2, .int (nI r)), (5, .int (nI (q % r))), (4, .int (nI k)), (1, .int (nI b)), (0, .int (nI a))]) hx hb dX9_commonDivisor_27 rfl hl (by decide) rfl (fun ls hl => ?_)
          refine lv_iinc (pc := 28) (v := nI (k + 1)) (lv' := [(4, .int (nI (k + 1))), (3, .int (nI (q % r))), (2, .int (nI r)), (5, .int (nI (q % r))), (1, .int (nI b)), (0, .int (nI a))]) hx hb dX9_commonDivisor_28 hl (k := 3) rfl (by rw [← nI_add]; rfl) (by decide) rfl (fun ls hl => ?_)
          refine lv_goto (pc := 31) (tgt := 7) hx hb dX9_commonDivisor_31 (by decide) ?_
          exact ih7 (k + 1) r (q % r) _ _ _ (by omega) hr (Nat.lt_of_le_of_lt (Nat.mod_le _ _) hq) (by rw [← hE, eg_s (n := 64 - k) (by omega) (by omega)]; rfl) (by omega) hP hS (lv_sub hl [0, 1, 2, 4, 5] rfl)
  exact cut7 _ 0 a b _ _ _ (Nat.zero_le _) ha9 hb9 rfl (Nat.lt_succ_self _) hP hS (lv_sub hl [0, 1, 2, 4, 3] rfl)
