/-! the program's calls: read, shift, judge, room -/
def roomA (A : XA) (L : List XCl) (n : Nat) : XA := fun k j => if k = 7 ∧ j < 16 * n then yvF (fG (j / 16) (A 1 (j / 16)) (A 2 (j / 16))) L (j % 16) else if k = 13 ∧ j = 0 then bldF 30 L else A k j
def rdS (s : XSt) : Option (List XCl) × Nat := pR (chT (sLn s (sMd s)) (sTx s (sMd s))) 9 0
def opRoom (s : XSt) : Int32 × XSt := if sMd s = 6 then (-4, s) else match rdS s with
  | (none, q) => (-10 - nI q, (s.1, s.2.1, sTx s, up1 (sLn s) (sMd s) 0, s.2.2.2.2))
  | (some l, _) => (nI (sMd s), ((roomA s.1.1 l (s.1.1 8 0), s.1.2.1, nI (sMd s), qN s, l), s.2.1, sTx s, sLn s, sMd s + 1, s.2.2.2.2.2))
section P50
variable {g : XG} {d : Nat} {M : XM} {K : Option Value → XS → XM → Prop} {s : XSt}
theorem fX9_read {t i : Int32} (hC : XC9 M s) (h : ∀ M', low M M' → XC9 M' s → K (some (.long (vRead s t i))) xSF M') : Ex g (d + 2) yX9_read mX9_read [.ref 0, .int t, .int i] xSF M K := by
  unfold vRead at h
  have hT := hC.2.2.2.2.1
  refine x_entry kX9_read (Nat.le_of_ble_eq_true rfl) ?_
  show Wp g _ mX9_read 0 [some (.ref 0), some (.int t), some (.int i)] [] _ _ _ _
  rcases isR_cases (x := t) (n := 6) (by omega) with e | ⟨t, ht, rfl, e⟩
  · simp only [e, Bool.false_eq_true, if_false, false_and] at h
    refine x_aload_n (pc := 0) dX9_read_0 rfl ?_
    refine x_getR (pc := 1) dX9_read_1 flX9_57 (by first | assumption | rfl) rfl ?_
    refine x_iload_n (pc := 4) dX9_read_4 rfl ?_
    refine x_iload_n (pc := 5) dX9_read_5 rfl ?_
    refine x_invV2 (pc := 6) dX9_read_6 mlX9_280 imX8_hasPlace seX8_hasPlace kX8_hasPlace (by first | assumption | rfl) rfl (Nat.le_of_ble_eq_true rfl) (by decide) ?_
    refine sp_X8_hasPlaceOut e ?_
    refine x_cv rfl rfl ?_
    first | (guard_target =~ Wp _ _ _ _ _ (Value.int (nI _) :: _) _ _ _ _; with_reducible refine x_if_eqN (pc := 9) (tgt := 24) ?_ dX9_read_9 ?_ (fun h9 => ?_) (fun h9 => ?_); (first | omega | exact b2n_32 _ | exact b2n_31 _); decide) | refine x_if_eq (pc := 9) (tgt := 24) dX9_read_9 (by decide) (fun h9 => ?_) (fun h9 => ?_)
    · skip
      refine x_ldc2 (pc := 24) dX9_read_24 ckX9_236 ?_
      refine x_ret (pc := 27) (v := some _) rfl trivial dX9_read_27 (by decide) ?_
      exact h M csame.rf.low hC
    · skip
      exact absurd rfl h9
  have hz : sT s 1 t ≤ 60 := (hT.1 t ht).2.2.2
  simp only [e, true_and] at h
  rw [toN_nI (by omega)] at h
  rcases isR_cases (x := i) (n := sT s 1 t) (by omega) with e2 | ⟨i, hi, rfl, e2⟩
  · simp only [e2, Bool.false_eq_true, if_false] at h
    refine x_aload_n (pc := 0) dX9_read_0 rfl ?_
    refine x_getR (pc := 1) dX9_read_1 flX9_57 (by first | assumption | rfl) rfl ?_
    refine x_iload_n (pc := 4) dX9_read_4 rfl ?_
    refine x_iload_n (pc := 5) dX9_read_5 rfl ?_
    refine x_invV2 (pc := 6) dX9_read_6 mlX9_280 imX8_hasPlace seX8_hasPlace kX8_hasPlace (by first | assumption | rfl) rfl (Nat.le_of_ble_eq_true rfl) (by decide) ?_
    refine sp_X8_hasPlace hT ht ?_
    refine x_cv rfl rfl ?_
    rw [show isR i (nI (s.2.2.2.2.2.1 1 t)) = false from e2]
    first | (guard_target =~ Wp _ _ _ _ _ (Value.int (nI _) :: _) _ _ _ _; with_reducible refine x_if_eqN (pc := 9) (tgt := 24) ?_ dX9_read_9 ?_ (fun h9 => ?_) (fun h9 => ?_); (first | omega | exact b2n_32 _ | exact b2n_31 _); decide) | refine x_if_eq (pc := 9) (tgt := 24) dX9_read_9 (by decide) (fun h9 => ?_) (fun h9 => ?_)
    · skip
      refine x_ldc2 (pc := 24) dX9_read_24 ckX9_236 ?_
      refine x_ret (pc := 27) (v := some _) rfl trivial dX9_read_27 (by decide) ?_
      exact h M csame.rf.low hC
    · skip
      exact absurd rfl h9
  simp only [e2, if_true] at h
  rw [toN_nI (by omega)] at h
  refine x_aload_n (pc := 0) dX9_read_0 rfl ?_
  refine x_getR (pc := 1) dX9_read_1 flX9_57 (by first | assumption | rfl) rfl ?_
  refine x_iload_n (pc := 4) dX9_read_4 rfl ?_
  refine x_iload_n (pc := 5) dX9_read_5 rfl ?_
  refine x_invV2 (pc := 6) dX9_read_6 mlX9_280 imX8_hasPlace seX8_hasPlace kX8_hasPlace (by first | assumption | rfl) rfl (Nat.le_of_ble_eq_true rfl) (by decide) ?_
  refine sp_X8_hasPlace hT ht ?_
  refine x_cv rfl rfl ?_
  rw [show isR (nI i) (nI (s.2.2.2.2.2.1 1 t)) = true from e2]
  first | (guard_target =~ Wp _ _ _ _ _ (Value.int (nI _) :: _) _ _ _ _; with_reducible refine x_if_eqN (pc := 9) (tgt := 24) ?_ dX9_read_9 ?_ (fun h9 => ?_) (fun h9 => ?_); (first | omega | exact b2n_32 _ | exact b2n_31 _); decide) | refine x_if_eq (pc := 9) (tgt := 24) dX9_read_9 (by decide) (fun h9 => ?_) (fun h9 => ?_)
  · skip
    cases h9
  · skip
    refine x_aload_n (pc := 12) dX9_read_12 rfl ?_
    refine x_getR (pc := 13) dX9_read_13 flX9_57 (by first | assumption | rfl) rfl ?_
    refine x_iload_n (pc := 16) dX9_read_16 rfl ?_
    refine x_iload_n (pc := 17) dX9_read_17 rfl ?_
    refine x_invV2 (pc := 18) dX9_read_18 mlX9_283 imX8_itemAt seX8_itemAt kX8_itemAt (by first | assumption | rfl) rfl (Nat.le_of_ble_eq_true rfl) (by decide) ?_
    refine sp_X8_itemAt hT ht (by omega) ?_
    refine x_cv rfl rfl ?_
    refine x_goto (pc := 21) (tgt := 27) dX9_read_21 (by decide) ?_
    refine x_ret (pc := 27) (v := some _) rfl trivial dX9_read_27 (by decide) ?_
    exact h M csame.rf.low hC
theorem fX9_shift {t i o j n : Int32} (hC : XC9 M s) (h : ∀ M', low M M' → XC9 M' (opShift s t i o j n).2 → K (some (.int (opShift s t i o j n).1)) xSF M') : Ex g (d + 2) yX9_shift mX9_shift [.ref 0, .int t, .int i, .int o, .int j, .int n] xSF M K := by
  unfold opShift at h
  have hT := hC.2.2.2.2.1
  refine x_entry kX9_shift (Nat.le_of_ble_eq_true rfl) ?_
  show Wp g _ mX9_shift 0 [some (.ref 0), some (.int t), some (.int i), some (.int o), some (.int j), some (.int n)] [] _ _ _ _
  rcases isR_cases (x := t) (n := 6) (by omega) with e | ⟨t, ht, rfl, e⟩
  · simp only [e, Bool.false_eq_true, if_false, false_and] at h
    refine x_iload_n (pc := 0) dX9_shift_0 rfl ?_
    refine x_invS1 (pc := 1) dX9_shift_1 mlX9_271 stX8_isTape kX8_isTape (Nat.le_of_ble_eq_true rfl) (by decide) ?_
    refine sp_X8_isTape ?_
    refine x_cv rfl rfl ?_
    rw [show isR t 6 = false from e]
    first | (guard_target =~ Wp _ _ _ _ _ (Value.int (nI _) :: _) _ _ _ _; with_reducible refine x_if_eqN (pc := 4) (tgt := 14) ?_ dX9_shift_4 ?_ (fun h4 => ?_) (fun h4 => ?_); (first | omega | exact b2n_32 _ | exact b2n_31 _); decide) | refine x_if_eq (pc := 4) (tgt := 14) dX9_shift_4 (by decide) (fun h4 => ?_) (fun h4 => ?_)
    · skip
      refine x_iconst (pc := 14) dX9_shift_14 ic_m1 ?_
      refine x_ret (pc := 15) (v := some _) rfl trivial dX9_shift_15 (by decide) ?_
      exact h M csame.rf.low hC
    · skip
      exact absurd rfl h4
  rcases isR_cases (x := o) (n := 6) (by omega) with e2 | ⟨o, ho, rfl, e2⟩
  · simp only [e2, Bool.false_eq_true, if_false, and_false] at h
    refine x_iload_n (pc := 0) dX9_shift_0 rfl ?_
    refine x_invS1 (pc := 1) dX9_shift_1 mlX9_271 stX8_isTape kX8_isTape (Nat.le_of_ble_eq_true rfl) (by decide) ?_
    refine sp_X8_isTape ?_
    refine x_cv rfl rfl ?_
    rw [show isR (nI t) 6 = true from e]
    first | (guard_target =~ Wp _ _ _ _ _ (Value.int (nI _) :: _) _ _ _ _; with_reducible refine x_if_eqN (pc := 4) (tgt := 14) ?_ dX9_shift_4 ?_ (fun h4 => ?_) (fun h4 => ?_); (first | omega | exact b2n_32 _ | exact b2n_31 _); decide) | refine x_if_eq (pc := 4) (tgt := 14) dX9_shift_4 (by decide) (fun h4 => ?_) (fun h4 => ?_)
    · skip
      cases h4
    · skip
      refine x_iload_n (pc := 7) dX9_shift_7 rfl ?_
      refine x_invS1 (pc := 8) dX9_shift_8 mlX9_271 stX8_isTape kX8_isTape (Nat.le_of_ble_eq_true rfl) (by decide) ?_
      refine sp_X8_isTape ?_
      refine x_cv rfl rfl ?_
      rw [show isR o 6 = false from e2]
      first | (guard_target =~ Wp _ _ _ _ _ (Value.int (nI _) :: _) _ _ _ _; with_reducible refine x_if_neN (pc := 11) (tgt := 16) ?_ dX9_shift_11 ?_ (fun h11 => ?_) (fun h11 => ?_); (first | omega | exact b2n_32 _ | exact b2n_31 _); decide) | refine x_if_ne (pc := 11) (tgt := 16) dX9_shift_11 (by decide) (fun h11 => ?_) (fun h11 => ?_)
      · skip
        exact absurd rfl h11
      · skip
        refine x_iconst (pc := 14) dX9_shift_14 ic_m1 ?_
        refine x_ret (pc := 15) (v := some _) rfl trivial dX9_shift_15 (by decide) ?_
        exact h M csame.rf.low hC
  simp only [e, e2, and_self, if_true] at h
  rw [toN_nI (by omega), toN_nI (by omega)] at h
  obtain ⟨t1, t2, t3, t4⟩ := hT.1 t ht
  obtain ⟨o1, o2, o3, o4⟩ := hT.1 o ho
  by_cases h0 : sT s 0 t = 0
  · rw [if_pos (Or.inl h0)] at h
    refine x_iload_n (pc := 0) dX9_shift_0 rfl ?_
    refine x_invS1 (pc := 1) dX9_shift_1 mlX9_271 stX8_isTape kX8_isTape (Nat.le_of_ble_eq_true rfl) (by decide) ?_
    refine sp_X8_isTape ?_
    refine x_cv rfl rfl ?_
    rw [show isR (nI t) 6 = true from e]
    first | (guard_target =~ Wp _ _ _ _ _ (Value.int (nI _) :: _) _ _ _ _; with_reducible refine x_if_eqN (pc := 4) (tgt := 14) ?_ dX9_shift_4 ?_ (fun h4 => ?_) (fun h4 => ?_); (first | omega | exact b2n_32 _ | exact b2n_31 _); decide) | refine x_if_eq (pc := 4) (tgt := 14) dX9_shift_4 (by decide) (fun h4 => ?_) (fun h4 => ?_)
    · skip
      cases h4
    · skip
      refine x_iload_n (pc := 7) dX9_shift_7 rfl ?_
      refine x_invS1 (pc := 8) dX9_shift_8 mlX9_271 stX8_isTape kX8_isTape (Nat.le_of_ble_eq_true rfl) (by decide) ?_
      refine sp_X8_isTape ?_
      refine x_cv rfl rfl ?_
      rw [show isR (nI o) 6 = true from e2]
      first | (guard_target =~ Wp _ _ _ _ _ (Value.int (nI _) :: _) _ _ _ _; with_reducible refine x_if_neN (pc := 11) (tgt := 16) ?_ dX9_shift_11 ?_ (fun h11 => ?_) (fun h11 => ?_); (first | omega | exact b2n_32 _ | exact b2n_31 _); decide) | refine x_if_ne (pc := 11) (tgt := 16) dX9_shift_11 (by decide) (fun h11 => ?_) (fun h11 => ?_)
      · skip
        refine x_aload_n (pc := 16) dX9_shift_16 rfl ?_
        refine x_getR (pc := 17) dX9_shift_17 flX9_57 (by first | assumption | rfl) rfl ?_
        refine x_iload_n (pc := 20) dX9_shift_20 rfl ?_
        refine x_invV1 (pc := 21) dX9_shift_21 mlX9_274 imX8_isEmpty seX8_isEmpty kX8_isEmpty (by first | assumption | rfl) rfl (Nat.le_of_ble_eq_true rfl) (by decide) ?_
        refine sp_X8_isEmpty hT ht ?_
        refine x_cv rfl rfl ?_
        rw [decide_eq_true (show s.2.2.2.2.2.1 0 t = 0 from h0)]
        first | (guard_target =~ Wp _ _ _ _ _ (Value.int (nI _) :: _) _ _ _ _; with_reducible refine x_if_neN (pc := 24) (tgt := 38) ?_ dX9_shift_24 ?_ (fun h24 => ?_) (fun h24 => ?_); (first | omega | exact b2n_32 _ | exact b2n_31 _); decide) | refine x_if_ne (pc := 24) (tgt := 38) dX9_shift_24 (by decide) (fun h24 => ?_) (fun h24 => ?_)
        · skip
          refine x_bipush (pc := 38) dX9_shift_38 bp_m11 ?_
          refine x_ret (pc := 40) (v := some _) rfl trivial dX9_shift_40 (by decide) ?_
          exact h M csame.rf.low hC
        · skip
          cases h24
      · skip
        cases h11
  by_cases h1 : sT s 0 o = 0
  · rw [if_pos (Or.inr h1)] at h
    refine x_iload_n (pc := 0) dX9_shift_0 rfl ?_
    refine x_invS1 (pc := 1) dX9_shift_1 mlX9_271 stX8_isTape kX8_isTape (Nat.le_of_ble_eq_true rfl) (by decide) ?_
    refine sp_X8_isTape ?_
    refine x_cv rfl rfl ?_
    rw [show isR (nI t) 6 = true from e]
    first | (guard_target =~ Wp _ _ _ _ _ (Value.int (nI _) :: _) _ _ _ _; with_reducible refine x_if_eqN (pc := 4) (tgt := 14) ?_ dX9_shift_4 ?_ (fun h4 => ?_) (fun h4 => ?_); (first | omega | exact b2n_32 _ | exact b2n_31 _); decide) | refine x_if_eq (pc := 4) (tgt := 14) dX9_shift_4 (by decide) (fun h4 => ?_) (fun h4 => ?_)
    · skip
      cases h4
    · skip
      refine x_iload_n (pc := 7) dX9_shift_7 rfl ?_
      refine x_invS1 (pc := 8) dX9_shift_8 mlX9_271 stX8_isTape kX8_isTape (Nat.le_of_ble_eq_true rfl) (by decide) ?_
      refine sp_X8_isTape ?_
      refine x_cv rfl rfl ?_
      rw [show isR (nI o) 6 = true from e2]
      first | (guard_target =~ Wp _ _ _ _ _ (Value.int (nI _) :: _) _ _ _ _; with_reducible refine x_if_neN (pc := 11) (tgt := 16) ?_ dX9_shift_11 ?_ (fun h11 => ?_) (fun h11 => ?_); (first | omega | exact b2n_32 _ | exact b2n_31 _); decide) | refine x_if_ne (pc := 11) (tgt := 16) dX9_shift_11 (by decide) (fun h11 => ?_) (fun h11 => ?_)
      · skip
        refine x_aload_n (pc := 16) dX9_shift_16 rfl ?_
        refine x_getR (pc := 17) dX9_shift_17 flX9_57 (by first | assumption | rfl) rfl ?_
        refine x_iload_n (pc := 20) dX9_shift_20 rfl ?_
        refine x_invV1 (pc := 21) dX9_shift_21 mlX9_274 imX8_isEmpty seX8_isEmpty kX8_isEmpty (by first | assumption | rfl) rfl (Nat.le_of_ble_eq_true rfl) (by decide) ?_
        refine sp_X8_isEmpty hT ht ?_
        refine x_cv rfl rfl ?_
        rw [decide_eq_false (show ¬ s.2.2.2.2.2.1 0 t = 0 from h0)]
        first | (guard_target =~ Wp _ _ _ _ _ (Value.int (nI _) :: _) _ _ _ _; with_reducible refine x_if_neN (pc := 24) (tgt := 38) ?_ dX9_shift_24 ?_ (fun h24 => ?_) (fun h24 => ?_); (first | omega | exact b2n_32 _ | exact b2n_31 _); decide) | refine x_if_ne (pc := 24) (tgt := 38) dX9_shift_24 (by decide) (fun h24 => ?_) (fun h24 => ?_)
        · skip
          exact absurd rfl h24
        · skip
          refine x_aload_n (pc := 27) dX9_shift_27 rfl ?_
          refine x_getR (pc := 28) dX9_shift_28 flX9_57 (by first | assumption | rfl) rfl ?_
          refine x_iload_n (pc := 31) dX9_shift_31 rfl ?_
          refine x_invV1 (pc := 32) dX9_shift_32 mlX9_274 imX8_isEmpty seX8_isEmpty kX8_isEmpty (by first | assumption | rfl) rfl (Nat.le_of_ble_eq_true rfl) (by decide) ?_
          refine sp_X8_isEmpty hT ho ?_
          refine x_cv rfl rfl ?_
          rw [decide_eq_true (show s.2.2.2.2.2.1 0 o = 0 from h1)]
          first | (guard_target =~ Wp _ _ _ _ _ (Value.int (nI _) :: _) _ _ _ _; with_reducible refine x_if_eqN (pc := 35) (tgt := 41) ?_ dX9_shift_35 ?_ (fun h35 => ?_) (fun h35 => ?_); (first | omega | exact b2n_32 _ | exact b2n_31 _); decide) | refine x_if_eq (pc := 35) (tgt := 41) dX9_shift_35 (by decide) (fun h35 => ?_) (fun h35 => ?_)
          · skip
            cases h35
          · skip
            refine x_bipush (pc := 38) dX9_shift_38 bp_m11 ?_
            refine x_ret (pc := 40) (v := some _) rfl trivial dX9_shift_40 (by decide) ?_
            exact h M csame.rf.low hC
      · skip
        cases h11
  rw [if_neg (fun q => by rcases q with q | q; exact h0 q; exact h1 q)] at h
  by_cases hq : sT s 0 t = sT s 0 o
  · rw [if_pos hq] at h
    by_cases hS : isS i n (sT s 1 t) = true ∧ isS j n (sT s 1 o) = true
    · obtain ⟨a, b, rfl, rfl, hab⟩ := (isS_iff t4).mp hS.1
      obtain ⟨a', b', rfl, hb', hab'⟩ := (isS_iff o4).mp hS.2
      have hzt : s.2.2.2.2.2.1 1 t ≤ 60 := t4
      have hzo : s.2.2.2.2.2.1 1 o ≤ 60 := o4
      obtain rfl : b = b' := nI_inj (by omega) (by omega) hb'
      rw [if_pos hS, toN_nI (by omega), toN_nI (by omega), toN_nI (by omega)] at h
      refine x_iload_n (pc := 0) dX9_shift_0 rfl ?_
      refine x_invS1 (pc := 1) dX9_shift_1 mlX9_271 stX8_isTape kX8_isTape (Nat.le_of_ble_eq_true rfl) (by decide) ?_
      refine sp_X8_isTape ?_
      refine x_cv rfl rfl ?_
      rw [show isR (nI t) 6 = true from e]
      first | (guard_target =~ Wp _ _ _ _ _ (Value.int (nI _) :: _) _ _ _ _; with_reducible refine x_if_eqN (pc := 4) (tgt := 14) ?_ dX9_shift_4 ?_ (fun h4 => ?_) (fun h4 => ?_); (first | omega | exact b2n_32 _ | exact b2n_31 _); decide) | refine x_if_eq (pc := 4) (tgt := 14) dX9_shift_4 (by decide) (fun h4 => ?_) (fun h4 => ?_)
      · skip
        cases h4
      · skip
        refine x_iload_n (pc := 7) dX9_shift_7 rfl ?_
        refine x_invS1 (pc := 8) dX9_shift_8 mlX9_271 stX8_isTape kX8_isTape (Nat.le_of_ble_eq_true rfl) (by decide) ?_
        refine sp_X8_isTape ?_
        refine x_cv rfl rfl ?_
        rw [show isR (nI o) 6 = true from e2]
        first | (guard_target =~ Wp _ _ _ _ _ (Value.int (nI _) :: _) _ _ _ _; with_reducible refine x_if_neN (pc := 11) (tgt := 16) ?_ dX9_shift_11 ?_ (fun h11 => ?_) (fun h11 => ?_); (first | omega | exact b2n_32 _ | exact b2n_31 _); decide) | refine x_if_ne (pc := 11) (tgt := 16) dX9_shift_11 (by decide) (fun h11 => ?_) (fun h11 => ?_)
        · skip
          refine x_aload_n (pc := 16) dX9_shift_16 rfl ?_
          refine x_getR (pc := 17) dX9_shift_17 flX9_57 (by first | assumption | rfl) rfl ?_
          refine x_iload_n (pc := 20) dX9_shift_20 rfl ?_
          refine x_invV1 (pc := 21) dX9_shift_21 mlX9_274 imX8_isEmpty seX8_isEmpty kX8_isEmpty (by first | assumption | rfl) rfl (Nat.le_of_ble_eq_true rfl) (by decide) ?_
          refine sp_X8_isEmpty hT ht ?_
          refine x_cv rfl rfl ?_
          rw [decide_eq_false (show ¬ s.2.2.2.2.2.1 0 t = 0 from h0)]
          first | (guard_target =~ Wp _ _ _ _ _ (Value.int (nI _) :: _) _ _ _ _; with_reducible refine x_if_neN (pc := 24) (tgt := 38) ?_ dX9_shift_24 ?_ (fun h24 => ?_) (fun h24 => ?_); (first | omega | exact b2n_32 _ | exact b2n_31 _); decide) | refine x_if_ne (pc := 24) (tgt := 38) dX9_shift_24 (by decide) (fun h24 => ?_) (fun h24 => ?_)
          · skip
            exact absurd rfl h24
          · skip
            refine x_aload_n (pc := 27) dX9_shift_27 rfl ?_
            refine x_getR (pc := 28) dX9_shift_28 flX9_57 (by first | assumption | rfl) rfl ?_
            refine x_iload_n (pc := 31) dX9_shift_31 rfl ?_
            refine x_invV1 (pc := 32) dX9_shift_32 mlX9_274 imX8_isEmpty seX8_isEmpty kX8_isEmpty (by first | assumption | rfl) rfl (Nat.le_of_ble_eq_true rfl) (by decide) ?_
            refine sp_X8_isEmpty hT ho ?_
            refine x_cv rfl rfl ?_
            rw [decide_eq_false (show ¬ s.2.2.2.2.2.1 0 o = 0 from h1)]
            first | (guard_target =~ Wp _ _ _ _ _ (Value.int (nI _) :: _) _ _ _ _; with_reducible refine x_if_eqN (pc := 35) (tgt := 41) ?_ dX9_shift_35 ?_ (fun h35 => ?_) (fun h35 => ?_); (first | omega | exact b2n_32 _ | exact b2n_31 _); decide) | refine x_if_eq (pc := 35) (tgt := 41) dX9_shift_35 (by decide) (fun h35 => ?_) (fun h35 => ?_)
            · skip
              refine x_aload_n (pc := 41) dX9_shift_41 rfl ?_
              refine x_getR (pc := 42) dX9_shift_42 flX9_57 (by first | assumption | rfl) rfl ?_
              refine x_iload_n (pc := 45) dX9_shift_45 rfl ?_
              refine x_invV1 (pc := 46) dX9_shift_46 mlX9_277 imX8_sortOf seX8_sortOf kX8_sortOf (by first | assumption | rfl) rfl (Nat.le_of_ble_eq_true rfl) (by decide) ?_
              refine sp_X8_sortOf hT ht ?_
              refine x_cv rfl rfl ?_
              refine x_aload_n (pc := 49) dX9_shift_49 rfl ?_
              refine x_getR (pc := 50) dX9_shift_50 flX9_57 (by first | assumption | rfl) rfl ?_
              refine x_iload_n (pc := 53) dX9_shift_53 rfl ?_
              refine x_invV1 (pc := 54) dX9_shift_54 mlX9_277 imX8_sortOf seX8_sortOf kX8_sortOf (by first | assumption | rfl) rfl (Nat.le_of_ble_eq_true rfl) (by decide) ?_
              refine sp_X8_sortOf hT ho ?_
              refine x_cv rfl rfl ?_
              refine x_icmp_eq (pc := 57) (tgt := 63) dX9_shift_57 (by decide) (fun h57 => ?_) (fun h57 => ?_)
              · skip
                refine x_aload_n (pc := 63) dX9_shift_63 rfl ?_
                refine x_getR (pc := 64) dX9_shift_64 flX9_57 (by first | assumption | rfl) rfl ?_
                refine x_iload_n (pc := 67) dX9_shift_67 rfl ?_
                refine x_iload_n (pc := 68) dX9_shift_68 rfl ?_
                refine x_iload (pc := 69) dX9_shift_69 rfl ?_
                refine x_invV3 (pc := 71) dX9_shift_71 mlX9_327 imX8_hasStretch seX8_hasStretch kX8_hasStretch (by first | assumption | rfl) rfl (Nat.le_of_ble_eq_true rfl) (by decide) ?_
                refine sp_X8_hasStretch hT ht ?_
                refine x_cv rfl rfl ?_
                rw [show isS (nI a) (nI b) (s.2.2.2.2.2.1 1 t) = true from hS.1]
                first | (guard_target =~ Wp _ _ _ _ _ (Value.int (nI _) :: _) _ _ _ _; with_reducible refine x_if_eqN (pc := 74) (tgt := 92) ?_ dX9_shift_74 ?_ (fun h74 => ?_) (fun h74 => ?_); (first | omega | exact b2n_32 _ | exact b2n_31 _); decide) | refine x_if_eq (pc := 74) (tgt := 92) dX9_shift_74 (by decide) (fun h74 => ?_) (fun h74 => ?_)
                · skip
                  cases h74
                · skip
                  refine x_aload_n (pc := 77) dX9_shift_77 rfl ?_
                  refine x_getR (pc := 78) dX9_shift_78 flX9_57 (by first | assumption | rfl) rfl ?_
                  refine x_iload_n (pc := 81) dX9_shift_81 rfl ?_
                  refine x_iload (pc := 82) dX9_shift_82 rfl ?_
                  refine x_iload (pc := 84) dX9_shift_84 rfl ?_
                  refine x_invV3 (pc := 86) dX9_shift_86 mlX9_327 imX8_hasStretch seX8_hasStretch kX8_hasStretch (by first | assumption | rfl) rfl (Nat.le_of_ble_eq_true rfl) (by decide) ?_
                  refine sp_X8_hasStretch hT ho ?_
                  refine x_cv rfl rfl ?_
                  rw [show isS (nI a') (nI b) (s.2.2.2.2.2.1 1 o) = true from hS.2]
                  first | (guard_target =~ Wp _ _ _ _ _ (Value.int (nI _) :: _) _ _ _ _; with_reducible refine x_if_neN (pc := 89) (tgt := 95) ?_ dX9_shift_89 ?_ (fun h89 => ?_) (fun h89 => ?_); (first | omega | exact b2n_32 _ | exact b2n_31 _); decide) | refine x_if_ne (pc := 89) (tgt := 95) dX9_shift_89 (by decide) (fun h89 => ?_) (fun h89 => ?_)
                  · skip
                    refine x_aload_n (pc := 95) dX9_shift_95 rfl ?_
                    refine x_getR (pc := 96) dX9_shift_96 flX9_57 (by first | assumption | rfl) rfl ?_
                    refine x_iload_n (pc := 99) dX9_shift_99 rfl ?_
                    refine x_iload_n (pc := 100) dX9_shift_100 rfl ?_
                    refine x_iload_n (pc := 101) dX9_shift_101 rfl ?_
                    refine x_iload (pc := 102) dX9_shift_102 rfl ?_
                    refine x_iload (pc := 104) dX9_shift_104 rfl ?_
                    refine x_invV5 (pc := 106) dX9_shift_106 mlX9_330 imX8_copy seX8_copy kX8_copy (by first | assumption | rfl) rfl (Nat.le_of_ble_eq_true rfl) (by decide) ?_
                    refine sp_X8_copy hT ht ho (by omega) (by omega) (fun M2 hs hT2 => ?_)
                    refine x_cn rfl rfl ?_
                    refine x_iload (pc := 109) dX9_shift_109 rfl ?_
                    refine x_ret (pc := 111) (v := some _) rfl trivial dX9_shift_111 (by decide) ?_
                    exact h M2 (lowP hs) (hC.upP hs hT2)
                  · skip
                    cases h89
              · skip
                exact absurd (congrArg srt hq) h57
            · skip
              exact absurd rfl h35
        · skip
          cases h11
    · rw [if_neg hS] at h
      refine x_iload_n (pc := 0) dX9_shift_0 rfl ?_
      refine x_invS1 (pc := 1) dX9_shift_1 mlX9_271 stX8_isTape kX8_isTape (Nat.le_of_ble_eq_true rfl) (by decide) ?_
      refine sp_X8_isTape ?_
      refine x_cv rfl rfl ?_
      rw [show isR (nI t) 6 = true from e]
      first | (guard_target =~ Wp _ _ _ _ _ (Value.int (nI _) :: _) _ _ _ _; with_reducible refine x_if_eqN (pc := 4) (tgt := 14) ?_ dX9_shift_4 ?_ (fun h4 => ?_) (fun h4 => ?_); (first | omega | exact b2n_32 _ | exact b2n_31 _); decide) | refine x_if_eq (pc := 4) (tgt := 14) dX9_shift_4 (by decide) (fun h4 => ?_) (fun h4 => ?_)
      · skip
        cases h4
      · skip
        refine x_iload_n (pc := 7) dX9_shift_7 rfl ?_
        refine x_invS1 (pc := 8) dX9_shift_8 mlX9_271 stX8_isTape kX8_isTape (Nat.le_of_ble_eq_true rfl) (by decide) ?_
        refine sp_X8_isTape ?_
        refine x_cv rfl rfl ?_
        rw [show isR (nI o) 6 = true from e2]
        first | (guard_target =~ Wp _ _ _ _ _ (Value.int (nI _) :: _) _ _ _ _; with_reducible refine x_if_neN (pc := 11) (tgt := 16) ?_ dX9_shift_11 ?_ (fun h11 => ?_) (fun h11 => ?_); (first | omega | exact b2n_32 _ | exact b2n_31 _); decide) | refine x_if_ne (pc := 11) (tgt := 16) dX9_shift_11 (by decide) (fun h11 => ?_) (fun h11 => ?_)
        · skip
          refine x_aload_n (pc := 16) dX9_shift_16 rfl ?_
          refine x_getR (pc := 17) dX9_shift_17 flX9_57 (by first | assumption | rfl) rfl ?_
          refine x_iload_n (pc := 20) dX9_shift_20 rfl ?_
          refine x_invV1 (pc := 21) dX9_shift_21 mlX9_274 imX8_isEmpty seX8_isEmpty kX8_isEmpty (by first | assumption | rfl) rfl (Nat.le_of_ble_eq_true rfl) (by decide) ?_
          refine sp_X8_isEmpty hT ht ?_
          refine x_cv rfl rfl ?_
          rw [decide_eq_false (show ¬ s.2.2.2.2.2.1 0 t = 0 from h0)]
          first | (guard_target =~ Wp _ _ _ _ _ (Value.int (nI _) :: _) _ _ _ _; with_reducible refine x_if_neN (pc := 24) (tgt := 38) ?_ dX9_shift_24 ?_ (fun h24 => ?_) (fun h24 => ?_); (first | omega | exact b2n_32 _ | exact b2n_31 _); decide) | refine x_if_ne (pc := 24) (tgt := 38) dX9_shift_24 (by decide) (fun h24 => ?_) (fun h24 => ?_)
          · skip
            exact absurd rfl h24
          · skip
            refine x_aload_n (pc := 27) dX9_shift_27 rfl ?_
            refine x_getR (pc := 28) dX9_shift_28 flX9_57 (by first | assumption | rfl) rfl ?_
            refine x_iload_n (pc := 31) dX9_shift_31 rfl ?_
            refine x_invV1 (pc := 32) dX9_shift_32 mlX9_274 imX8_isEmpty seX8_isEmpty kX8_isEmpty (by first | assumption | rfl) rfl (Nat.le_of_ble_eq_true rfl) (by decide) ?_
            refine sp_X8_isEmpty hT ho ?_
            refine x_cv rfl rfl ?_
            rw [decide_eq_false (show ¬ s.2.2.2.2.2.1 0 o = 0 from h1)]
            first | (guard_target =~ Wp _ _ _ _ _ (Value.int (nI _) :: _) _ _ _ _; with_reducible refine x_if_eqN (pc := 35) (tgt := 41) ?_ dX9_shift_35 ?_ (fun h35 => ?_) (fun h35 => ?_); (first | omega | exact b2n_32 _ | exact b2n_31 _); decide) | refine x_if_eq (pc := 35) (tgt := 41) dX9_shift_35 (by decide) (fun h35 => ?_) (fun h35 => ?_)
            · skip
              refine x_aload_n (pc := 41) dX9_shift_41 rfl ?_
              refine x_getR (pc := 42) dX9_shift_42 flX9_57 (by first | assumption | rfl) rfl ?_
              refine x_iload_n (pc := 45) dX9_shift_45 rfl ?_
              refine x_invV1 (pc := 46) dX9_shift_46 mlX9_277 imX8_sortOf seX8_sortOf kX8_sortOf (by first | assumption | rfl) rfl (Nat.le_of_ble_eq_true rfl) (by decide) ?_
              refine sp_X8_sortOf hT ht ?_
              refine x_cv rfl rfl ?_
              refine x_aload_n (pc := 49) dX9_shift_49 rfl ?_
              refine x_getR (pc := 50) dX9_shift_50 flX9_57 (by first | assumption | rfl) rfl ?_
              refine x_iload_n (pc := 53) dX9_shift_53 rfl ?_
              refine x_invV1 (pc := 54) dX9_shift_54 mlX9_277 imX8_sortOf seX8_sortOf kX8_sortOf (by first | assumption | rfl) rfl (Nat.le_of_ble_eq_true rfl) (by decide) ?_
              refine sp_X8_sortOf hT ho ?_
              refine x_cv rfl rfl ?_
              refine x_icmp_eq (pc := 57) (tgt := 63) dX9_shift_57 (by decide) (fun h57 => ?_) (fun h57 => ?_)
              · skip
                refine x_aload_n (pc := 63) dX9_shift_63 rfl ?_
                refine x_getR (pc := 64) dX9_shift_64 flX9_57 (by first | assumption | rfl) rfl ?_
                refine x_iload_n (pc := 67) dX9_shift_67 rfl ?_
                refine x_iload_n (pc := 68) dX9_shift_68 rfl ?_
                refine x_iload (pc := 69) dX9_shift_69 rfl ?_
                refine x_invV3 (pc := 71) dX9_shift_71 mlX9_327 imX8_hasStretch seX8_hasStretch kX8_hasStretch (by first | assumption | rfl) rfl (Nat.le_of_ble_eq_true rfl) (by decide) ?_
                refine sp_X8_hasStretch hT ht ?_
                refine x_cv rfl rfl ?_
                first | (guard_target =~ Wp _ _ _ _ _ (Value.int (nI _) :: _) _ _ _ _; with_reducible refine x_if_eqN (pc := 74) (tgt := 92) ?_ dX9_shift_74 ?_ (fun h74 => ?_) (fun h74 => ?_); (first | omega | exact b2n_32 _ | exact b2n_31 _); decide) | refine x_if_eq (pc := 74) (tgt := 92) dX9_shift_74 (by decide) (fun h74 => ?_) (fun h74 => ?_)
                · skip
                  refine x_bipush (pc := 92) dX9_shift_92 bp_m13 ?_
                  refine x_ret (pc := 94) (v := some _) rfl trivial dX9_shift_94 (by decide) ?_
                  exact h M csame.rf.low hC
                · skip
                  refine x_aload_n (pc := 77) dX9_shift_77 rfl ?_
                  refine x_getR (pc := 78) dX9_shift_78 flX9_57 (by first | assumption | rfl) rfl ?_
                  refine x_iload_n (pc := 81) dX9_shift_81 rfl ?_
                  refine x_iload (pc := 82) dX9_shift_82 rfl ?_
                  refine x_iload (pc := 84) dX9_shift_84 rfl ?_
                  refine x_invV3 (pc := 86) dX9_shift_86 mlX9_327 imX8_hasStretch seX8_hasStretch kX8_hasStretch (by first | assumption | rfl) rfl (Nat.le_of_ble_eq_true rfl) (by decide) ?_
                  refine sp_X8_hasStretch hT ho ?_
                  refine x_cv rfl rfl ?_
                  first | (guard_target =~ Wp _ _ _ _ _ (Value.int (nI _) :: _) _ _ _ _; with_reducible refine x_if_neN (pc := 89) (tgt := 95) ?_ dX9_shift_89 ?_ (fun h89 => ?_) (fun h89 => ?_); (first | omega | exact b2n_32 _ | exact b2n_31 _); decide) | refine x_if_ne (pc := 89) (tgt := 95) dX9_shift_89 (by decide) (fun h89 => ?_) (fun h89 => ?_)
                  · skip
                    exact absurd ⟨b2n_1 h74, b2n_1 h89⟩ hS
                  · skip
                    refine x_bipush (pc := 92) dX9_shift_92 bp_m13 ?_
                    refine x_ret (pc := 94) (v := some _) rfl trivial dX9_shift_94 (by decide) ?_
                    exact h M csame.rf.low hC
              · skip
                exact absurd (congrArg srt hq) h57
            · skip
              exact absurd rfl h35
        · skip
          cases h11
  · rw [if_neg hq] at h
    refine x_iload_n (pc := 0) dX9_shift_0 rfl ?_
    refine x_invS1 (pc := 1) dX9_shift_1 mlX9_271 stX8_isTape kX8_isTape (Nat.le_of_ble_eq_true rfl) (by decide) ?_
    refine sp_X8_isTape ?_
    refine x_cv rfl rfl ?_
    rw [show isR (nI t) 6 = true from e]
    first | (guard_target =~ Wp _ _ _ _ _ (Value.int (nI _) :: _) _ _ _ _; with_reducible refine x_if_eqN (pc := 4) (tgt := 14) ?_ dX9_shift_4 ?_ (fun h4 => ?_) (fun h4 => ?_); (first | omega | exact b2n_32 _ | exact b2n_31 _); decide) | refine x_if_eq (pc := 4) (tgt := 14) dX9_shift_4 (by decide) (fun h4 => ?_) (fun h4 => ?_)
    · skip
      cases h4
    · skip
      refine x_iload_n (pc := 7) dX9_shift_7 rfl ?_
      refine x_invS1 (pc := 8) dX9_shift_8 mlX9_271 stX8_isTape kX8_isTape (Nat.le_of_ble_eq_true rfl) (by decide) ?_
      refine sp_X8_isTape ?_
      refine x_cv rfl rfl ?_
      rw [show isR (nI o) 6 = true from e2]
      first | (guard_target =~ Wp _ _ _ _ _ (Value.int (nI _) :: _) _ _ _ _; with_reducible refine x_if_neN (pc := 11) (tgt := 16) ?_ dX9_shift_11 ?_ (fun h11 => ?_) (fun h11 => ?_); (first | omega | exact b2n_32 _ | exact b2n_31 _); decide) | refine x_if_ne (pc := 11) (tgt := 16) dX9_shift_11 (by decide) (fun h11 => ?_) (fun h11 => ?_)
      · skip
        refine x_aload_n (pc := 16) dX9_shift_16 rfl ?_
        refine x_getR (pc := 17) dX9_shift_17 flX9_57 (by first | assumption | rfl) rfl ?_
        refine x_iload_n (pc := 20) dX9_shift_20 rfl ?_
        refine x_invV1 (pc := 21) dX9_shift_21 mlX9_274 imX8_isEmpty seX8_isEmpty kX8_isEmpty (by first | assumption | rfl) rfl (Nat.le_of_ble_eq_true rfl) (by decide) ?_
        refine sp_X8_isEmpty hT ht ?_
        refine x_cv rfl rfl ?_
        rw [decide_eq_false (show ¬ s.2.2.2.2.2.1 0 t = 0 from h0)]
        first | (guard_target =~ Wp _ _ _ _ _ (Value.int (nI _) :: _) _ _ _ _; with_reducible refine x_if_neN (pc := 24) (tgt := 38) ?_ dX9_shift_24 ?_ (fun h24 => ?_) (fun h24 => ?_); (first | omega | exact b2n_32 _ | exact b2n_31 _); decide) | refine x_if_ne (pc := 24) (tgt := 38) dX9_shift_24 (by decide) (fun h24 => ?_) (fun h24 => ?_)
        · skip
          exact absurd rfl h24
        · skip
          refine x_aload_n (pc := 27) dX9_shift_27 rfl ?_
          refine x_getR (pc := 28) dX9_shift_28 flX9_57 (by first | assumption | rfl) rfl ?_
          refine x_iload_n (pc := 31) dX9_shift_31 rfl ?_
          refine x_invV1 (pc := 32) dX9_shift_32 mlX9_274 imX8_isEmpty seX8_isEmpty kX8_isEmpty (by first | assumption | rfl) rfl (Nat.le_of_ble_eq_true rfl) (by decide) ?_
          refine sp_X8_isEmpty hT ho ?_
          refine x_cv rfl rfl ?_
          rw [decide_eq_false (show ¬ s.2.2.2.2.2.1 0 o = 0 from h1)]
          first | (guard_target =~ Wp _ _ _ _ _ (Value.int (nI _) :: _) _ _ _ _; with_reducible refine x_if_eqN (pc := 35) (tgt := 41) ?_ dX9_shift_35 ?_ (fun h35 => ?_) (fun h35 => ?_); (first | omega | exact b2n_32 _ | exact b2n_31 _); decide) | refine x_if_eq (pc := 35) (tgt := 41) dX9_shift_35 (by decide) (fun h35 => ?_) (fun h35 => ?_)
          · skip
            refine x_aload_n (pc := 41) dX9_shift_41 rfl ?_
            refine x_getR (pc := 42) dX9_shift_42 flX9_57 (by first | assumption | rfl) rfl ?_
            refine x_iload_n (pc := 45) dX9_shift_45 rfl ?_
            refine x_invV1 (pc := 46) dX9_shift_46 mlX9_277 imX8_sortOf seX8_sortOf kX8_sortOf (by first | assumption | rfl) rfl (Nat.le_of_ble_eq_true rfl) (by decide) ?_
            refine sp_X8_sortOf hT ht ?_
            refine x_cv rfl rfl ?_
            refine x_aload_n (pc := 49) dX9_shift_49 rfl ?_
            refine x_getR (pc := 50) dX9_shift_50 flX9_57 (by first | assumption | rfl) rfl ?_
            refine x_iload_n (pc := 53) dX9_shift_53 rfl ?_
            refine x_invV1 (pc := 54) dX9_shift_54 mlX9_277 imX8_sortOf seX8_sortOf kX8_sortOf (by first | assumption | rfl) rfl (Nat.le_of_ble_eq_true rfl) (by decide) ?_
            refine sp_X8_sortOf hT ho ?_
            refine x_cv rfl rfl ?_
            refine x_icmp_eq (pc := 57) (tgt := 63) dX9_shift_57 (by decide) (fun h57 => ?_) (fun h57 => ?_)
            · skip
              exact absurd (srt_inj t2 o2 h57) hq
            · skip
              refine x_bipush (pc := 60) dX9_shift_60 bp_m12 ?_
              refine x_ret (pc := 62) (v := some _) rfl trivial dX9_shift_62 (by decide) ?_
              exact h M csame.rf.low hC
          · skip
            exact absurd rfl h35
      · skip
        cases h11
theorem fX9_judge {t i : Int32} (hC : XC9 M s) (h : ∀ M', low M M' → XC9 M' s → K (some (.int (vJudge s t i))) xSF M') : Ex g (d + 2) yX9_judge mX9_judge [.ref 0, .int t, .int i] xSF M K := by
  unfold vJudge at h
  have hT := hC.2.2.2.2.1
  have hR := hC.1.1
  refine x_entry kX9_judge (Nat.le_of_ble_eq_true rfl) ?_
  show Wp g _ mX9_judge 0 [some (.ref 0), some (.int t), some (.int i), none] [] _ _ _ _
  rcases isR_cases (x := t) (n := 6) (by omega) with e | ⟨t, ht, rfl, e⟩
  · simp only [e, Bool.false_eq_true, if_false] at h
    refine x_iload_n (pc := 0) dX9_judge_0 rfl ?_
    refine x_invS1 (pc := 1) dX9_judge_1 mlX9_271 stX8_isTape kX8_isTape (Nat.le_of_ble_eq_true rfl) (by decide) ?_
    refine sp_X8_isTape ?_
    refine x_cv rfl rfl ?_
    rw [show isR t 6 = false from e]
    first | (guard_target =~ Wp _ _ _ _ _ (Value.int (nI _) :: _) _ _ _ _; with_reducible refine x_if_neN (pc := 4) (tgt := 9) ?_ dX9_judge_4 ?_ (fun h4 => ?_) (fun h4 => ?_); (first | omega | exact b2n_32 _ | exact b2n_31 _); decide) | refine x_if_ne (pc := 4) (tgt := 9) dX9_judge_4 (by decide) (fun h4 => ?_) (fun h4 => ?_)
    · skip
      exact absurd rfl h4
    · skip
      refine x_iconst (pc := 7) dX9_judge_7 ic_m1 ?_
      refine x_ret (pc := 8) (v := some _) rfl trivial dX9_judge_8 (by decide) ?_
      exact h M csame.rf.low hC
  simp only [e, if_true] at h
  rw [toN_nI (by omega)] at h
  obtain ⟨t1, t2, t3, t4⟩ := hT.1 t ht
  have hz : sT s 1 t ≤ 60 := t4
  by_cases h0 : sT s 0 t = 0
  · rw [if_pos h0] at h
    refine x_iload_n (pc := 0) dX9_judge_0 rfl ?_
    refine x_invS1 (pc := 1) dX9_judge_1 mlX9_271 stX8_isTape kX8_isTape (Nat.le_of_ble_eq_true rfl) (by decide) ?_
    refine sp_X8_isTape ?_
    refine x_cv rfl rfl ?_
    rw [show isR (nI t) 6 = true from e]
    first | (guard_target =~ Wp _ _ _ _ _ (Value.int (nI _) :: _) _ _ _ _; with_reducible refine x_if_neN (pc := 4) (tgt := 9) ?_ dX9_judge_4 ?_ (fun h4 => ?_) (fun h4 => ?_); (first | omega | exact b2n_32 _ | exact b2n_31 _); decide) | refine x_if_ne (pc := 4) (tgt := 9) dX9_judge_4 (by decide) (fun h4 => ?_) (fun h4 => ?_)
    · skip
      refine x_aload_n (pc := 9) dX9_judge_9 rfl ?_
      refine x_getR (pc := 10) dX9_judge_10 flX9_57 (by first | assumption | rfl) rfl ?_
      refine x_iload_n (pc := 13) dX9_judge_13 rfl ?_
      refine x_invV1 (pc := 14) dX9_judge_14 mlX9_274 imX8_isEmpty seX8_isEmpty kX8_isEmpty (by first | assumption | rfl) rfl (Nat.le_of_ble_eq_true rfl) (by decide) ?_
      refine sp_X8_isEmpty hT ht ?_
      refine x_cv rfl rfl ?_
      rw [decide_eq_true (show s.2.2.2.2.2.1 0 t = 0 from h0)]
      first | (guard_target =~ Wp _ _ _ _ _ (Value.int (nI _) :: _) _ _ _ _; with_reducible refine x_if_eqN (pc := 17) (tgt := 23) ?_ dX9_judge_17 ?_ (fun h17 => ?_) (fun h17 => ?_); (first | omega | exact b2n_32 _ | exact b2n_31 _); decide) | refine x_if_eq (pc := 17) (tgt := 23) dX9_judge_17 (by decide) (fun h17 => ?_) (fun h17 => ?_)
      · skip
        cases h17
      · skip
        refine x_bipushN (pc := 20) 100 dX9_judge_20 bp_100 ?_
        refine x_ret (pc := 22) (v := some _) rfl trivial dX9_judge_22 (by decide) ?_
        exact h M csame.rf.low hC
    · skip
      cases h4
  rw [if_neg h0] at h
  by_cases h2 : sT s 0 t = 2
  · rw [if_pos h2] at h
    have loop : ∀ m c, c + m = 16 → jdF s.1.1 (sI s) t (sT s 1 t) i m c = jdF s.1.1 (sI s) t (sT s 1 t) i 16 0 → Wp g (d + 2) mX9_judge 40 [some (.ref 0), some (.int (nI t)), some (.int i), some (.int (nI c))] [] xSF (0, 0) M K := by
      intro m
      induction m with
      | zero =>
        intro c hc he
        refine x_iload_n (pc := 40) dX9_judge_40 rfl ?_
        refine x_bipushN (pc := 41) 16 dX9_judge_41 bp_16 ?_
        first | (guard_target =~ Wp _ _ _ _ _ (Value.int (nI _) :: Value.int (nI _) :: _) _ _ _ _; with_reducible refine x_icmp_geN (pc := 43) (tgt := 98) ?_ ?_ dX9_judge_43 ?_ (fun h43 => ?_) (fun h43 => ?_); (first | omega | exact b2n_31 _); (first | omega | exact b2n_31 _); decide) | refine x_icmp_ge (pc := 43) (tgt := 98) dX9_judge_43 (by decide) (fun h43 => ?_) (fun h43 => ?_)
        · skip
          refine x_bipush (pc := 98) dX9_judge_98 bp_m5 ?_
          refine x_ret (pc := 100) (v := some _) rfl trivial dX9_judge_100 (by decide) ?_
          rw [← he] at h; exact h M csame.rf.low hC
        · skip
          omega
      | succ m ih =>
        intro c hc he
        rw [jdF] at he
        rcases isR_cases (x := i + nI c) (n := sT s 1 t) (by omega) with e2 | ⟨z, hz2, hiz, e2⟩
        · simp only [e2, Bool.false_eq_true, if_false] at he
          refine x_iload_n (pc := 40) dX9_judge_40 rfl ?_
          refine x_bipushN (pc := 41) 16 dX9_judge_41 bp_16 ?_
          first | (guard_target =~ Wp _ _ _ _ _ (Value.int (nI _) :: Value.int (nI _) :: _) _ _ _ _; with_reducible refine x_icmp_geN (pc := 43) (tgt := 98) ?_ ?_ dX9_judge_43 ?_ (fun h43 => ?_) (fun h43 => ?_); (first | omega | exact b2n_31 _); (first | omega | exact b2n_31 _); decide) | refine x_icmp_ge (pc := 43) (tgt := 98) dX9_judge_43 (by decide) (fun h43 => ?_) (fun h43 => ?_)
          · skip
            omega
          · skip
            refine x_aload_n (pc := 46) dX9_judge_46 rfl ?_
            refine x_getR (pc := 47) dX9_judge_47 flX9_57 (by first | assumption | rfl) rfl ?_
            refine x_iload_n (pc := 50) dX9_judge_50 rfl ?_
            refine x_iload_n (pc := 51) dX9_judge_51 rfl ?_
            refine x_iload_n (pc := 52) dX9_judge_52 rfl ?_
            refine x_iadd (pc := 53) dX9_judge_53 ?_
            refine x_invV2 (pc := 54) dX9_judge_54 mlX9_280 imX8_hasPlace seX8_hasPlace kX8_hasPlace (by first | assumption | rfl) rfl (Nat.le_of_ble_eq_true rfl) (by decide) ?_
            refine sp_X8_hasPlace hT ht ?_
            refine x_cv rfl rfl ?_
            rw [show isR (i + nI c) (nI (s.2.2.2.2.2.1 1 t)) = false from e2]
            first | (guard_target =~ Wp _ _ _ _ _ (Value.int (nI _) :: _) _ _ _ _; with_reducible refine x_if_neN (pc := 57) (tgt := 65) ?_ dX9_judge_57 ?_ (fun h57 => ?_) (fun h57 => ?_); (first | omega | exact b2n_32 _ | exact b2n_31 _); decide) | refine x_if_ne (pc := 57) (tgt := 65) dX9_judge_57 (by decide) (fun h57 => ?_) (fun h57 => ?_)
            · skip
              exact absurd rfl h57
            · skip
              refine x_bipushN (pc := 60) 100 dX9_judge_60 bp_100 ?_
              refine x_iload_n (pc := 62) dX9_judge_62 rfl ?_
              first | (guard_target =~ Wp _ _ _ _ _ (Value.int (nI _) :: Value.int (nI _) :: _) _ _ _ _; with_reducible refine x_iaddN (pc := 63) dX9_judge_63 ?_) | refine x_iadd (pc := 63) dX9_judge_63 ?_
              refine x_ret (pc := 64) (v := some _) rfl trivial dX9_judge_64 (by decide) ?_
              rw [← he] at h; exact h M csame.rf.low hC
        · simp only [e2, if_true] at he
          rw [hiz, toN_nI (by omega)] at he
          refine x_iload_n (pc := 40) dX9_judge_40 rfl ?_
          refine x_bipushN (pc := 41) 16 dX9_judge_41 bp_16 ?_
          first | (guard_target =~ Wp _ _ _ _ _ (Value.int (nI _) :: Value.int (nI _) :: _) _ _ _ _; with_reducible refine x_icmp_geN (pc := 43) (tgt := 98) ?_ ?_ dX9_judge_43 ?_ (fun h43 => ?_) (fun h43 => ?_); (first | omega | exact b2n_31 _); (first | omega | exact b2n_31 _); decide) | refine x_icmp_ge (pc := 43) (tgt := 98) dX9_judge_43 (by decide) (fun h43 => ?_) (fun h43 => ?_)
          · skip
            omega
          · skip
            refine x_aload_n (pc := 46) dX9_judge_46 rfl ?_
            refine x_getR (pc := 47) dX9_judge_47 flX9_57 (by first | assumption | rfl) rfl ?_
            refine x_iload_n (pc := 50) dX9_judge_50 rfl ?_
            refine x_iload_n (pc := 51) dX9_judge_51 rfl ?_
            refine x_iload_n (pc := 52) dX9_judge_52 rfl ?_
            refine x_iadd (pc := 53) dX9_judge_53 ?_
            refine x_invV2 (pc := 54) dX9_judge_54 mlX9_280 imX8_hasPlace seX8_hasPlace kX8_hasPlace (by first | assumption | rfl) rfl (Nat.le_of_ble_eq_true rfl) (by decide) ?_
            refine sp_X8_hasPlace hT ht ?_
            refine x_cv rfl rfl ?_
            rw [show isR (i + nI c) (nI (s.2.2.2.2.2.1 1 t)) = true from e2]
            first | (guard_target =~ Wp _ _ _ _ _ (Value.int (nI _) :: _) _ _ _ _; with_reducible refine x_if_neN (pc := 57) (tgt := 65) ?_ dX9_judge_57 ?_ (fun h57 => ?_) (fun h57 => ?_); (first | omega | exact b2n_32 _ | exact b2n_31 _); decide) | refine x_if_ne (pc := 57) (tgt := 65) dX9_judge_57 (by decide) (fun h57 => ?_) (fun h57 => ?_)
            · skip
              refine x_aload_n (pc := 65) dX9_judge_65 rfl ?_
              refine x_getR (pc := 66) dX9_judge_66 flX9_57 (by first | assumption | rfl) rfl ?_
              refine x_iload_n (pc := 69) dX9_judge_69 rfl ?_
              refine x_iload_n (pc := 70) dX9_judge_70 rfl ?_
              refine x_iload_n (pc := 71) dX9_judge_71 rfl ?_
              refine x_iadd (pc := 72) dX9_judge_72 ?_
              rw [hiz]
              refine x_invV2 (pc := 73) dX9_judge_73 mlX9_283 imX8_itemAt seX8_itemAt kX8_itemAt (by first | assumption | rfl) rfl (Nat.le_of_ble_eq_true rfl) (by decide) ?_
              refine sp_X8_itemAt hT ht (by omega) ?_
              refine x_cv rfl rfl ?_
              refine x_aload_n (pc := 76) dX9_judge_76 rfl ?_
              refine x_getR (pc := 77) dX9_judge_77 flX9_12 (by first | assumption | rfl) rfl ?_
              refine x_getR (pc := 80) dX9_judge_80 flX9_133 (by first | assumption | rfl) rfl ?_
              refine x_iload_n (pc := 83) dX9_judge_83 rfl ?_
              refine x_ialdN (pc := 84) dX9_judge_84 (by first | assumption | rfl) (by first | with_reducible rfl | (simp only [xlit, nI_add, pk_mul]; with_reducible rfl)) (by omega) (by decide) ?_
              rw [hR.wear (by omega)]
              refine x_i2l (pc := 85) dX9_judge_85 ?_
              refine x_lcmp (pc := 86) dX9_judge_86 ?_
              refine x_if_eq (pc := 87) (tgt := 92) dX9_judge_87 (by decide) (fun h87 => ?_) (fun h87 => ?_)
              · skip
                first | (guard_target =~ Wp _ _ _ _ (_ :: _ :: _ :: some (Value.int (nI _)) :: _) _ _ _ _ _; with_reducible refine x_iincN (pc := 92) 1 ic_1 dX9_judge_92 ?_ xg_3 xs_3 ?_ ?_; decide; exact (x_hp rfl)) | refine x_iincC (pc := 92) ic_1 dX9_judge_92 (by decide) rfl xs_3 (x_hp rfl) ?_
                refine x_goto (pc := 95) (tgt := 40) dX9_judge_95 (by decide) ?_
                rw [if_pos (show sI s (60 * t + z) = (nI (s.1.1 0 c)).toInt64 from (lg_cmp_eq _ _).mp h87)] at he; exact ih (c + 1) (by omega) he
              · skip
                refine x_iload_n (pc := 90) dX9_judge_90 rfl ?_
                refine x_ret (pc := 91) (v := some _) rfl trivial dX9_judge_91 (by decide) ?_
                rw [if_neg (show ¬ sI s (60 * t + z) = (nI (s.1.1 0 c)).toInt64 from fun q => h87 ((lg_cmp_eq _ _).mpr q))] at he; rw [← he] at h; exact h M csame.rf.low hC
            · skip
              cases h57
    refine x_iload_n (pc := 0) dX9_judge_0 rfl ?_
    refine x_invS1 (pc := 1) dX9_judge_1 mlX9_271 stX8_isTape kX8_isTape (Nat.le_of_ble_eq_true rfl) (by decide) ?_
    refine sp_X8_isTape ?_
    refine x_cv rfl rfl ?_
    rw [show isR (nI t) 6 = true from e]
    first | (guard_target =~ Wp _ _ _ _ _ (Value.int (nI _) :: _) _ _ _ _; with_reducible refine x_if_neN (pc := 4) (tgt := 9) ?_ dX9_judge_4 ?_ (fun h4 => ?_) (fun h4 => ?_); (first | omega | exact b2n_32 _ | exact b2n_31 _); decide) | refine x_if_ne (pc := 4) (tgt := 9) dX9_judge_4 (by decide) (fun h4 => ?_) (fun h4 => ?_)
    · skip
      refine x_aload_n (pc := 9) dX9_judge_9 rfl ?_
      refine x_getR (pc := 10) dX9_judge_10 flX9_57 (by first | assumption | rfl) rfl ?_
      refine x_iload_n (pc := 13) dX9_judge_13 rfl ?_
      refine x_invV1 (pc := 14) dX9_judge_14 mlX9_274 imX8_isEmpty seX8_isEmpty kX8_isEmpty (by first | assumption | rfl) rfl (Nat.le_of_ble_eq_true rfl) (by decide) ?_
      refine sp_X8_isEmpty hT ht ?_
      refine x_cv rfl rfl ?_
      rw [decide_eq_false (show ¬ s.2.2.2.2.2.1 0 t = 0 from h0)]
      first | (guard_target =~ Wp _ _ _ _ _ (Value.int (nI _) :: _) _ _ _ _; with_reducible refine x_if_eqN (pc := 17) (tgt := 23) ?_ dX9_judge_17 ?_ (fun h17 => ?_) (fun h17 => ?_); (first | omega | exact b2n_32 _ | exact b2n_31 _); decide) | refine x_if_eq (pc := 17) (tgt := 23) dX9_judge_17 (by decide) (fun h17 => ?_) (fun h17 => ?_)
      · skip
        refine x_aload_n (pc := 23) dX9_judge_23 rfl ?_
        refine x_getR (pc := 24) dX9_judge_24 flX9_57 (by first | assumption | rfl) rfl ?_
        refine x_iload_n (pc := 27) dX9_judge_27 rfl ?_
        refine x_invV1 (pc := 28) dX9_judge_28 mlX9_277 imX8_sortOf seX8_sortOf kX8_sortOf (by first | assumption | rfl) rfl (Nat.le_of_ble_eq_true rfl) (by decide) ?_
        refine sp_X8_sortOf hT ht ?_
        refine x_cv rfl rfl ?_
        refine x_iconstN (pc := 31) 1 dX9_judge_31 ic_1 ?_
        refine x_icmp_eq (pc := 32) (tgt := 38) dX9_judge_32 (by decide) (fun h32 => ?_) (fun h32 => ?_)
        · skip
          refine x_iconstN (pc := 38) 0 dX9_judge_38 ic_0 ?_
          refine x_istore_n (pc := 39) dX9_judge_39 (by decide) xs_3 (x_hp rfl) ?_
          exact loop 16 0 rfl rfl
        · skip
          exact absurd (show srt (s.2.2.2.2.2.1 0 t) = nI 1 by rw [show s.2.2.2.2.2.1 0 t = 2 from h2]; rfl) h32
      · skip
        exact absurd rfl h17
    · skip
      cases h4
  · rw [if_neg h2] at h
    refine x_iload_n (pc := 0) dX9_judge_0 rfl ?_
    refine x_invS1 (pc := 1) dX9_judge_1 mlX9_271 stX8_isTape kX8_isTape (Nat.le_of_ble_eq_true rfl) (by decide) ?_
    refine sp_X8_isTape ?_
    refine x_cv rfl rfl ?_
    rw [show isR (nI t) 6 = true from e]
    first | (guard_target =~ Wp _ _ _ _ _ (Value.int (nI _) :: _) _ _ _ _; with_reducible refine x_if_neN (pc := 4) (tgt := 9) ?_ dX9_judge_4 ?_ (fun h4 => ?_) (fun h4 => ?_); (first | omega | exact b2n_32 _ | exact b2n_31 _); decide) | refine x_if_ne (pc := 4) (tgt := 9) dX9_judge_4 (by decide) (fun h4 => ?_) (fun h4 => ?_)
    · skip
      refine x_aload_n (pc := 9) dX9_judge_9 rfl ?_
      refine x_getR (pc := 10) dX9_judge_10 flX9_57 (by first | assumption | rfl) rfl ?_
      refine x_iload_n (pc := 13) dX9_judge_13 rfl ?_
      refine x_invV1 (pc := 14) dX9_judge_14 mlX9_274 imX8_isEmpty seX8_isEmpty kX8_isEmpty (by first | assumption | rfl) rfl (Nat.le_of_ble_eq_true rfl) (by decide) ?_
      refine sp_X8_isEmpty hT ht ?_
      refine x_cv rfl rfl ?_
      rw [decide_eq_false (show ¬ s.2.2.2.2.2.1 0 t = 0 from h0)]
      first | (guard_target =~ Wp _ _ _ _ _ (Value.int (nI _) :: _) _ _ _ _; with_reducible refine x_if_eqN (pc := 17) (tgt := 23) ?_ dX9_judge_17 ?_ (fun h17 => ?_) (fun h17 => ?_); (first | omega | exact b2n_32 _ | exact b2n_31 _); decide) | refine x_if_eq (pc := 17) (tgt := 23) dX9_judge_17 (by decide) (fun h17 => ?_) (fun h17 => ?_)
      · skip
        refine x_aload_n (pc := 23) dX9_judge_23 rfl ?_
        refine x_getR (pc := 24) dX9_judge_24 flX9_57 (by first | assumption | rfl) rfl ?_
        refine x_iload_n (pc := 27) dX9_judge_27 rfl ?_
        refine x_invV1 (pc := 28) dX9_judge_28 mlX9_277 imX8_sortOf seX8_sortOf kX8_sortOf (by first | assumption | rfl) rfl (Nat.le_of_ble_eq_true rfl) (by decide) ?_
        refine sp_X8_sortOf hT ht ?_
        refine x_cv rfl rfl ?_
        refine x_iconstN (pc := 31) 1 dX9_judge_31 ic_1 ?_
        refine x_icmp_eq (pc := 32) (tgt := 38) dX9_judge_32 (by decide) (fun h32 => ?_) (fun h32 => ?_)
        · skip
          exact absurd (srt_inj t2 (by decide) (show srt (s.2.2.2.2.2.1 0 t) = srt 2 from h32)) h2
        · skip
          refine x_bipush (pc := 35) dX9_judge_35 bp_m12 ?_
          refine x_ret (pc := 37) (v := some _) rfl trivial dX9_judge_37 (by decide) ?_
          exact h M csame.rf.low hC
      · skip
        exact absurd rfl h17
    · skip
      cases h4
end P50
