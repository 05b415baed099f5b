/-! the MODEL's calls: set -/
theorem XC9.high {M M' : XM} {s : XSt} (h : XC9 M s) (hs : high M M') : XC9 M' s := by
  have e : ∀ a, a < 65 → M'.1 a = M.1 a := hs.1
  exact ⟨⟨h.1.1.eqs (fun q h1 h2 => e q (by omega)), h.1.2.same (fun q h1 h2 => e q (by omega))⟩, h.2.1, h.2.2.1.same (by rw [e 0 (by decide)]) (fun a h1 h2 => e a (by omega)), h.2.2.2.1.eqs (by rw [e 41 (by decide)]) (e 42 (by decide)) (e 43 (by decide)), h.2.2.2.2.1.eqs (e 63 (by decide)) (e 64 (by decide)) (hs.2 62 (by decide)), h.2.2.2.2.2.eqs (e 59 (by decide)) (e 60 (by decide))⟩
/-- one row of the present changes (rows 0 to 5) -/
theorem MC9.row {M : XM} {s : XSt} (h : MC9 M s) (k j v : Nat) (hk : k < 6) : MC9 (xput M (66 + k) j (nI v)) (withA s (updA s.1.1 k j v)) := by
  have e : ∀ a, a ≠ 66 + k → (xput M (66 + k) j (nI v)).1 a = M.1 a := fun a ha => funext fun i => if_neg (by omega)
  obtain ⟨h1, h2, h3, h4, h5, h6, h7⟩ := h
  refine ⟨?_, ?_, ?_, h4.eqs (e _ (by omega)) (e _ (by omega)) rfl, ?_, by rw [e 65 (by omega)]; exact h6, ?_⟩
  · unfold MPq at h1 ⊢
    rw [e 65 (by omega), e 88 (by omega), e 89 (by omega), e 90 (by omega), e 91 (by omega), e 92 (by omega), e 93 (by omega), e 94 (by omega)]
    have eA : ∀ k', 6 ≤ k' → (withA s (updA s.1.1 k j v)).1.1 k' 0 = s.1.1 k' 0 := fun k' hk' => if_neg (by omega)
    rw [eA 8 (by decide), eA 10 (by decide), eA 11 (by decide)]
    refine ⟨h1.1, h1.2.1, h1.2.2.1, h1.2.2.2.1, h1.2.2.2.2.1, fun k' hk' j' hj' => ?_, h1.2.2.2.2.2.2⟩
    have h0 := h1.2.2.2.2.2.1 k' hk' j' hj'
    show (if 66 + k' = 66 + k ∧ j' = j then nI v else M.1 (66 + k') j') = nI (if k' = k ∧ j' = j then v else s.1.1 k' j')
    by_cases hc : k' = k ∧ j' = j
    · rw [if_pos (by omega), if_pos hc]
    · rw [if_neg (by omega), if_neg hc, h0]
  · show MIm _ s.2.1
    revert h2
    cases s.2.1 with
    | none => exact fun h2 => (show (xput M (66 + k) j (nI v)).1 65 49 = nI 0 by rw [e 65 (by omega)]; exact h2)
    | some q =>
      intro h2
      refine ⟨by rw [e 65 (by omega)]; exact h2.1, ?_⟩
      have h1 := h2.2
      unfold MIq at h1 ⊢
      rw [e 65 (by omega), e 101 (by omega), e 102 (by omega), e 103 (by omega), e 104 (by omega), e 105 (by omega), e 106 (by omega), e 107 (by omega)]
      refine ⟨h1.1, h1.2.1, h1.2.2.1, h1.2.2.2.1, h1.2.2.2.2.1, fun k' hk' j' hj' => ?_, h1.2.2.2.2.2.2⟩
      rw [e (95 + k') (by omega)]; exact h1.2.2.2.2.2.1 k' hk' j' hj'
  · show MRm _ s.2.2.1 s.2.2.2.1 s.2.2.2.2.1
    unfold MRm MCl at h3 ⊢
    rw [e 65 (by omega), e 72 (by omega), e 73 (by omega), e 74 (by omega), e 75 (by omega), e 76 (by omega), e 77 (by omega), e 78 (by omega)]
    exact h3
  · show MTr _ s.2.2.2.2.2.2.2
    unfold MTr at h5 ⊢
    rw [e 65 (by omega), e 108 (by omega)]
    exact h5
  · unfold MLt at h7 ⊢
    rw [e 80 (by omega)]
    exact h7
section P56
variable {g : XG} {d : Nat} {M : XM} {K : Option Value → XS → XM → Prop} {s : XSt}
theorem fM_set {c n : Int32} (hC : MC9 M s) (h : ∀ M', high M M' → MC9 M' (opSet s c n).2 → K (some (.int (opSet s c n).1)) xSF M') : Ex g (d + 2) yX10_set mX10_set [.ref 65, .int c, .int n] xSF M K := by
  unfold opSet at h
  have hP := hC.1.2.2.2.2.2.1
  refine x_entry kX10_set (Nat.le_of_ble_eq_true rfl) ?_
  show Wp g _ mX10_set 0 [some (.ref 65), some (.int c), some (.int n), none] [] _ _ _ _
  rcases isR_cases (x := c) (n := 16) (by decide) with e | ⟨j, hj, rfl, e⟩
  · simp only [e, Bool.false_eq_true, if_false] at h
    refine x_aload_n (pc := 0) dX10_set_0 rfl ?_
    refine x_iload_n (pc := 1) dX10_set_1 rfl ?_
    refine x_invV1 (pc := 2) dX10_set_2 mlX10_257 imX10_isCell seX10_isCell kX10_isCell (by first | assumption | rfl) rfl (Nat.le_of_ble_eq_true rfl) (by decide) ?_
    refine sm_isCell ?_
    refine x_cv rfl rfl ?_
    rw [e]
    first | (guard_target =~ Wp _ _ _ _ _ (Value.int (nI _) :: _) _ _ _ _; with_reducible refine x_if_neN (pc := 5) (tgt := 10) ?_ dX10_set_5 ?_ (fun h5 => ?_) (fun h5 => ?_); (first | omega | exact b2n_32 _ | exact b2n_31 _); decide) | refine x_if_ne (pc := 5) (tgt := 10) dX10_set_5 (by decide) (fun h5 => ?_) (fun h5 => ?_)
    · skip
      exact absurd rfl h5
    · skip
      refine x_iconst (pc := 8) dX10_set_8 ic_m1 ?_
      refine x_ret (pc := 9) (v := some _) rfl trivial dX10_set_9 (by decide) ?_
      exact h M high.rf hC
  · simp only [e, if_true] at h
    rcases isR_cases (x := n) (n := 10000) (by decide) with e2 | ⟨k, hk, rfl, e2⟩
    · simp only [e2, Bool.false_eq_true, if_false] at h
      refine x_aload_n (pc := 0) dX10_set_0 rfl ?_
      refine x_iload_n (pc := 1) dX10_set_1 rfl ?_
      refine x_invV1 (pc := 2) dX10_set_2 mlX10_257 imX10_isCell seX10_isCell kX10_isCell (by first | assumption | rfl) rfl (Nat.le_of_ble_eq_true rfl) (by decide) ?_
      refine sm_isCell ?_
      refine x_cv rfl rfl ?_
      rw [e]
      first | (guard_target =~ Wp _ _ _ _ _ (Value.int (nI _) :: _) _ _ _ _; with_reducible refine x_if_neN (pc := 5) (tgt := 10) ?_ dX10_set_5 ?_ (fun h5 => ?_) (fun h5 => ?_); (first | omega | exact b2n_32 _ | exact b2n_31 _); decide) | refine x_if_ne (pc := 5) (tgt := 10) dX10_set_5 (by decide) (fun h5 => ?_) (fun h5 => ?_)
      · skip
        refine x_aload_n (pc := 10) dX10_set_10 rfl ?_
        refine x_iload_n (pc := 11) dX10_set_11 rfl ?_
        refine x_invV1 (pc := 12) dX10_set_12 mlX10_261 imX10_isWear seX10_isWear kX10_isWear (by first | assumption | rfl) rfl (Nat.le_of_ble_eq_true rfl) (by decide) ?_
        refine sm_isWear ?_
        refine x_cv rfl rfl ?_
        rw [e2]
        first | (guard_target =~ Wp _ _ _ _ _ (Value.int (nI _) :: _) _ _ _ _; with_reducible refine x_if_neN (pc := 15) (tgt := 21) ?_ dX10_set_15 ?_ (fun h15 => ?_) (fun h15 => ?_); (first | omega | exact b2n_32 _ | exact b2n_31 _); decide) | refine x_if_ne (pc := 15) (tgt := 21) dX10_set_15 (by decide) (fun h15 => ?_) (fun h15 => ?_)
        · skip
          exact absurd rfl h15
        · skip
          refine x_bipush (pc := 18) dX10_set_18 bp_m2 ?_
          refine x_ret (pc := 20) (v := some _) rfl trivial dX10_set_20 (by decide) ?_
          exact h M high.rf hC
      · skip
        cases h5
    · simp only [e2, if_true] at h
      rw [toN_nI (by omega), toN_nI (by omega)] at h
      refine x_aload_n (pc := 0) dX10_set_0 rfl ?_
      refine x_iload_n (pc := 1) dX10_set_1 rfl ?_
      refine x_invV1 (pc := 2) dX10_set_2 mlX10_257 imX10_isCell seX10_isCell kX10_isCell (by first | assumption | rfl) rfl (Nat.le_of_ble_eq_true rfl) (by decide) ?_
      refine sm_isCell ?_
      refine x_cv rfl rfl ?_
      rw [e]
      first | (guard_target =~ Wp _ _ _ _ _ (Value.int (nI _) :: _) _ _ _ _; with_reducible refine x_if_neN (pc := 5) (tgt := 10) ?_ dX10_set_5 ?_ (fun h5 => ?_) (fun h5 => ?_); (first | omega | exact b2n_32 _ | exact b2n_31 _); decide) | refine x_if_ne (pc := 5) (tgt := 10) dX10_set_5 (by decide) (fun h5 => ?_) (fun h5 => ?_)
      · skip
        refine x_aload_n (pc := 10) dX10_set_10 rfl ?_
        refine x_iload_n (pc := 11) dX10_set_11 rfl ?_
        refine x_invV1 (pc := 12) dX10_set_12 mlX10_261 imX10_isWear seX10_isWear kX10_isWear (by first | assumption | rfl) rfl (Nat.le_of_ble_eq_true rfl) (by decide) ?_
        refine sm_isWear ?_
        refine x_cv rfl rfl ?_
        rw [e2]
        first | (guard_target =~ Wp _ _ _ _ _ (Value.int (nI _) :: _) _ _ _ _; with_reducible refine x_if_neN (pc := 15) (tgt := 21) ?_ dX10_set_15 ?_ (fun h15 => ?_) (fun h15 => ?_); (first | omega | exact b2n_32 _ | exact b2n_31 _); decide) | refine x_if_ne (pc := 15) (tgt := 21) dX10_set_15 (by decide) (fun h15 => ?_) (fun h15 => ?_)
        · skip
          refine x_aload_n (pc := 21) dX10_set_21 rfl ?_
          refine x_getR (pc := 22) dX10_set_22 flX10_22 (by first | assumption | rfl) rfl ?_
          refine x_iload_n (pc := 25) dX10_set_25 rfl ?_
          refine x_ialdN (pc := 26) dX10_set_26 (by first | assumption | rfl) (by first | with_reducible rfl | (simp only [xlit, nI_add, pk_mul]; with_reducible rfl)) (by omega) (by decide) ?_
          rw [show M.1 66 j = nI (s.1.1 0 j) from hP 0 (by decide) j hj]
          refine x_istore_n (pc := 27) dX10_set_27 (by decide) xs_3 (x_hp rfl) ?_
          refine x_aload_n (pc := 28) dX10_set_28 rfl ?_
          refine x_getR (pc := 29) dX10_set_29 flX10_22 (by first | assumption | rfl) rfl ?_
          refine x_iload_n (pc := 32) dX10_set_32 rfl ?_
          refine x_iload_n (pc := 33) dX10_set_33 rfl ?_
          refine x_iastN (pc := 34) dX10_set_34 (by first | assumption | rfl) (by first | with_reducible rfl | (simp only [xlit, nI_add, pk_mul]; with_reducible rfl)) (by omega) (by decide) ?_
          refine x_iload_n (pc := 35) dX10_set_35 rfl ?_
          refine x_ret (pc := 36) (v := some _) rfl trivial dX10_set_36 (by decide) ?_
          exact h _ (high.put (by decide)) (hC.row 0 j k (by decide))
        · skip
          cases h15
      · skip
        cases h5
end P56
