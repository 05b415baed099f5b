/-! the MODEL's calls: see, book, plan -/
section P63
variable {g : XG} {d : Nat} {M : XM} {K : Option Value → XS → XM → Prop} {s : XSt}
theorem MPq.nt {M : XM} {q : XQ} {N : XA} (h : MPq M q) (h1 : M.1 65 39 = nI (N 7 0) ∧ ∀ j, j < N 7 0 → M.1 88 j = nI (N 0 j) ∧ M.1 89 j = nI (N 1 j) ∧ M.1 90 j = nI (N 2 j)) (h2 : M.1 65 43 = nI (N 8 0) ∧ ∀ j, j < N 8 0 → M.1 91 j = nI (N 3 j) ∧ M.1 92 j = nI (N 4 j)) (h3 : M.1 65 44 = nI (N 9 0) ∧ ∀ j, j < N 9 0 → M.1 93 j = nI (N 5 j) ∧ M.1 94 j = nI (N 6 j)) : MPq M (q.1, q.2.1, q.2.2.1, N, q.2.2.2.2) :=
  ⟨h.1, h.2.1, h.2.2.1, h.2.2.2.1, h.2.2.2.2.1, h.2.2.2.2.2.1, h1, h2, h3⟩
/-- notes change: their rows from 88 on and their numbers -/
theorem MC9.nt {M' : XM} {N : XA} (h : MC9 M s) (hs : msm M M') (e0 : ∀ k, k ≠ 39 → k ≠ 43 → k ≠ 44 → M'.1 65 k = M.1 65 k) (e1 : ∀ a, 66 ≤ a → a < 88 → M'.1 a = M.1 a) (h1 : M'.1 65 39 = nI (N 7 0) ∧ ∀ j, j < N 7 0 → M'.1 88 j = nI (N 0 j) ∧ M'.1 89 j = nI (N 1 j) ∧ M'.1 90 j = nI (N 2 j)) (h2 : M'.1 65 43 = nI (N 8 0) ∧ ∀ j, j < N 8 0 → M'.1 91 j = nI (N 3 j) ∧ M'.1 92 j = nI (N 4 j)) (h3 : M'.1 65 44 = nI (N 9 0) ∧ ∀ j, j < N 9 0 → M'.1 93 j = nI (N 5 j) ∧ M'.1 94 j = nI (N 6 j)) : MC9 M' (withN s N) := by
  have hq := h.1
  refine h.up hs ⟨(e0 0 (by decide) (by decide) (by decide)).trans hq.1, (e0 1 (by decide) (by decide) (by decide)).trans hq.2.1, (e0 2 (by decide) (by decide) (by decide)).trans hq.2.2.1, (e0 3 (by decide) (by decide) (by decide)).trans hq.2.2.2.1, (e0 11 (by decide) (by decide) (by decide)).trans hq.2.2.2.2.1, fun k hk j hj => ?_, h1, h2, h3⟩
  rw [e1 (66 + k) (by omega) (by omega)]; exact hq.2.2.2.2.2.1 k hk j hj
theorem fM_see {c m t : Int32} (hN : bdN (qN s)) (hC : MC9 M s) (h : ∀ M', high M M' → MC9 M' (opSee s c m t).2 → K (some (.int (opSee s c m t).1)) xSF M') : Ex g (d + 2) yX10_see mX10_see [.ref 65, .int c, .int m, .int t] xSF M K := by
  unfold opSee at h
  have h5 : qN s 7 0 ≤ 5 := hN.2.2.2.1
  have n1 : M.1 65 39 = nI (qN s 7 0) ∧ ∀ j, j < qN s 7 0 → M.1 88 j = nI (qN s 0 j) ∧ M.1 89 j = nI (qN s 1 j) ∧ M.1 90 j = nI (qN s 2 j) := hC.1.2.2.2.2.2.2.1
  have n2 : M.1 65 43 = nI (qN s 8 0) ∧ ∀ j, j < qN s 8 0 → M.1 91 j = nI (qN s 3 j) ∧ M.1 92 j = nI (qN s 4 j) := hC.1.2.2.2.2.2.2.2.1
  have n3 : M.1 65 44 = nI (qN s 9 0) ∧ ∀ j, j < qN s 9 0 → M.1 93 j = nI (qN s 5 j) ∧ M.1 94 j = nI (qN s 6 j) := hC.1.2.2.2.2.2.2.2.2
  refine x_entry kX10_see (Nat.le_of_ble_eq_true rfl) ?_
  show Wp g _ mX10_see 0 [some (.ref 65), some (.int c), some (.int m), some (.int t)] [] _ _ _ _
  by_cases e0 : c = -1
  · subst e0
    rw [if_pos rfl] at h
    refine x_iload_n (pc := 0) dX10_see_0 rfl ?_
    refine x_iconst (pc := 1) dX10_see_1 ic_m1 ?_
    refine x_icmp_ne (pc := 2) (tgt := 12) dX10_see_2 (by decide) (fun h2 => ?_) (fun h2 => ?_)
    · skip
      exact absurd rfl h2
    · skip
      refine x_aload_n (pc := 5) dX10_see_5 rfl ?_
      refine x_iconstN (pc := 6) 0 dX10_see_6 ic_0 ?_
      refine x_putI (pc := 7) dX10_see_7 flX10_129 (by first | assumption | rfl) rfl rfl rfl ?_
      refine x_iconstN (pc := 10) 0 dX10_see_10 ic_0 ?_
      refine x_ret (pc := 11) (v := some _) rfl trivial dX10_see_11 (by decide) ?_
      refine h _ (high.put (by decide)) (hC.nt (.put rfl) (fun k q _ _ => if_neg (fun z => q z.2)) (fun a q1 q2 => funext fun j => if_neg (by omega)) ⟨rfl, fun j hj => ?_⟩ n2 n3)
      exact absurd hj (by show ¬ j < updA (qN s) 7 0 0 7 0; simp [updA])
  rw [if_neg e0] at h
  rcases isR_cases (x := c) (n := 16) (by decide) with e | ⟨a, ha, rfl, e⟩
  · simp only [e, Bool.false_eq_true, if_false] at h
    refine x_iload_n (pc := 0) dX10_see_0 rfl ?_
    refine x_iconst (pc := 1) dX10_see_1 ic_m1 ?_
    refine x_icmp_ne (pc := 2) (tgt := 12) dX10_see_2 (by decide) (fun h2 => ?_) (fun h2 => ?_)
    · skip
      refine x_aload_n (pc := 12) dX10_see_12 rfl ?_
      refine x_iload_n (pc := 13) dX10_see_13 rfl ?_
      refine x_invV1 (pc := 14) dX10_see_14 mlX10_257 imX10_isCell seX10_isCell kX10_isCell (by first | assumption | rfl) rfl (Nat.le_of_ble_eq_true rfl) (by decide) ?_
      refine sm_isCell ?_
      refine x_cv rfl rfl ?_
      rw [e]
      first | (guard_target =~ Wp _ _ _ _ _ (Value.int (nI _) :: _) _ _ _ _; with_reducible refine x_if_neN (pc := 17) (tgt := 22) ?_ dX10_see_17 ?_ (fun h17 => ?_) (fun h17 => ?_); (first | omega | exact b2n_32 _ | exact b2n_31 _); decide) | refine x_if_ne (pc := 17) (tgt := 22) dX10_see_17 (by decide) (fun h17 => ?_) (fun h17 => ?_)
      · skip
        exact absurd rfl h17
      · skip
        refine x_iconst (pc := 20) dX10_see_20 ic_m1 ?_
        refine x_ret (pc := 21) (v := some _) rfl trivial dX10_see_21 (by decide) ?_
        exact h M high.rf hC
    · skip
      exact absurd h2 e0
  simp only [e, if_true] at h
  rcases isR_cases (x := m) (n := 10000) (by decide) with e2 | ⟨b, hb, rfl, e2⟩
  · simp only [e2, Bool.false_eq_true, false_and, if_false] at h
    refine x_iload_n (pc := 0) dX10_see_0 rfl ?_
    refine x_iconst (pc := 1) dX10_see_1 ic_m1 ?_
    refine x_icmp_ne (pc := 2) (tgt := 12) dX10_see_2 (by decide) (fun h2 => ?_) (fun h2 => ?_)
    · skip
      refine x_aload_n (pc := 12) dX10_see_12 rfl ?_
      refine x_iload_n (pc := 13) dX10_see_13 rfl ?_
      refine x_invV1 (pc := 14) dX10_see_14 mlX10_257 imX10_isCell seX10_isCell kX10_isCell (by first | assumption | rfl) rfl (Nat.le_of_ble_eq_true rfl) (by decide) ?_
      refine sm_isCell ?_
      refine x_cv rfl rfl ?_
      rw [e]
      first | (guard_target =~ Wp _ _ _ _ _ (Value.int (nI _) :: _) _ _ _ _; with_reducible refine x_if_neN (pc := 17) (tgt := 22) ?_ dX10_see_17 ?_ (fun h17 => ?_) (fun h17 => ?_); (first | omega | exact b2n_32 _ | exact b2n_31 _); decide) | refine x_if_ne (pc := 17) (tgt := 22) dX10_see_17 (by decide) (fun h17 => ?_) (fun h17 => ?_)
      · skip
        refine x_aload_n (pc := 22) dX10_see_22 rfl ?_
        refine x_iload_n (pc := 23) dX10_see_23 rfl ?_
        refine x_invV1 (pc := 24) dX10_see_24 mlX10_261 imX10_isWear seX10_isWear kX10_isWear (by first | assumption | rfl) rfl (Nat.le_of_ble_eq_true rfl) (by decide) ?_
        refine sm_isWear ?_
        refine x_cv rfl rfl ?_
        rw [e2]
        first | (guard_target =~ Wp _ _ _ _ _ (Value.int (nI _) :: _) _ _ _ _; with_reducible refine x_if_eqN (pc := 27) (tgt := 41) ?_ dX10_see_27 ?_ (fun h27 => ?_) (fun h27 => ?_); (first | omega | exact b2n_32 _ | exact b2n_31 _); decide) | refine x_if_eq (pc := 27) (tgt := 41) dX10_see_27 (by decide) (fun h27 => ?_) (fun h27 => ?_)
        · skip
          refine x_bipush (pc := 41) dX10_see_41 bp_m2 ?_
          refine x_ret (pc := 43) (v := some _) rfl trivial dX10_see_43 (by decide) ?_
          exact h M high.rf hC
        · skip
          exact absurd rfl h27
      · skip
        cases h17
    · skip
      exact absurd h2 e0
  rcases isR_cases (x := t) (n := 21) (by decide) with e3 | ⟨v, hv, rfl, e3⟩
  · simp only [e3, Bool.false_eq_true, and_false, if_false] at h
    refine x_iload_n (pc := 0) dX10_see_0 rfl ?_
    refine x_iconst (pc := 1) dX10_see_1 ic_m1 ?_
    refine x_icmp_ne (pc := 2) (tgt := 12) dX10_see_2 (by decide) (fun h2 => ?_) (fun h2 => ?_)
    · skip
      refine x_aload_n (pc := 12) dX10_see_12 rfl ?_
      refine x_iload_n (pc := 13) dX10_see_13 rfl ?_
      refine x_invV1 (pc := 14) dX10_see_14 mlX10_257 imX10_isCell seX10_isCell kX10_isCell (by first | assumption | rfl) rfl (Nat.le_of_ble_eq_true rfl) (by decide) ?_
      refine sm_isCell ?_
      refine x_cv rfl rfl ?_
      rw [e]
      first | (guard_target =~ Wp _ _ _ _ _ (Value.int (nI _) :: _) _ _ _ _; with_reducible refine x_if_neN (pc := 17) (tgt := 22) ?_ dX10_see_17 ?_ (fun h17 => ?_) (fun h17 => ?_); (first | omega | exact b2n_32 _ | exact b2n_31 _); decide) | refine x_if_ne (pc := 17) (tgt := 22) dX10_see_17 (by decide) (fun h17 => ?_) (fun h17 => ?_)
      · skip
        refine x_aload_n (pc := 22) dX10_see_22 rfl ?_
        refine x_iload_n (pc := 23) dX10_see_23 rfl ?_
        refine x_invV1 (pc := 24) dX10_see_24 mlX10_261 imX10_isWear seX10_isWear kX10_isWear (by first | assumption | rfl) rfl (Nat.le_of_ble_eq_true rfl) (by decide) ?_
        refine sm_isWear ?_
        refine x_cv rfl rfl ?_
        rw [e2]
        first | (guard_target =~ Wp _ _ _ _ _ (Value.int (nI _) :: _) _ _ _ _; with_reducible refine x_if_eqN (pc := 27) (tgt := 41) ?_ dX10_see_27 ?_ (fun h27 => ?_) (fun h27 => ?_); (first | omega | exact b2n_32 _ | exact b2n_31 _); decide) | refine x_if_eq (pc := 27) (tgt := 41) dX10_see_27 (by decide) (fun h27 => ?_) (fun h27 => ?_)
        · skip
          cases h27
        · skip
          refine x_aload_n (pc := 30) dX10_see_30 rfl ?_
          refine x_iload_n (pc := 31) dX10_see_31 rfl ?_
          refine x_iconstN (pc := 32) 0 dX10_see_32 ic_0 ?_
          refine x_bipushN (pc := 33) 20 dX10_see_33 bp_20 ?_
          refine x_invV3 (pc := 35) dX10_see_35 mlX10_253 imX10_in seX10_in kX10_in (by first | assumption | rfl) rfl (Nat.le_of_ble_eq_true rfl) (by decide) ?_
          refine sm_in ?_
          refine x_cv rfl rfl ?_
          rw [btw_isR (by decide), show isR t (nI (20 + 1)) = false from e3]
          first | (guard_target =~ Wp _ _ _ _ _ (Value.int (nI _) :: _) _ _ _ _; with_reducible refine x_if_neN (pc := 38) (tgt := 44) ?_ dX10_see_38 ?_ (fun h38 => ?_) (fun h38 => ?_); (first | omega | exact b2n_32 _ | exact b2n_31 _); decide) | refine x_if_ne (pc := 38) (tgt := 44) dX10_see_38 (by decide) (fun h38 => ?_) (fun h38 => ?_)
          · skip
            exact absurd rfl h38
          · skip
            refine x_bipush (pc := 41) dX10_see_41 bp_m2 ?_
            refine x_ret (pc := 43) (v := some _) rfl trivial dX10_see_43 (by decide) ?_
            exact h M high.rf hC
      · skip
        cases h17
    · skip
      exact absurd h2 e0
  simp only [e2, e3, and_self, if_true] at h
  rw [toN_nI (by omega), toN_nI (by omega), toN_nI (by omega)] at h
  refine x_iload_n (pc := 0) dX10_see_0 rfl ?_
  refine x_iconst (pc := 1) dX10_see_1 ic_m1 ?_
  refine x_icmp_ne (pc := 2) (tgt := 12) dX10_see_2 (by decide) (fun h2 => ?_) (fun h2 => ?_)
  · skip
    refine x_aload_n (pc := 12) dX10_see_12 rfl ?_
    refine x_iload_n (pc := 13) dX10_see_13 rfl ?_
    refine x_invV1 (pc := 14) dX10_see_14 mlX10_257 imX10_isCell seX10_isCell kX10_isCell (by first | assumption | rfl) rfl (Nat.le_of_ble_eq_true rfl) (by decide) ?_
    refine sm_isCell ?_
    refine x_cv rfl rfl ?_
    rw [e]
    first | (guard_target =~ Wp _ _ _ _ _ (Value.int (nI _) :: _) _ _ _ _; with_reducible refine x_if_neN (pc := 17) (tgt := 22) ?_ dX10_see_17 ?_ (fun h17 => ?_) (fun h17 => ?_); (first | omega | exact b2n_32 _ | exact b2n_31 _); decide) | refine x_if_ne (pc := 17) (tgt := 22) dX10_see_17 (by decide) (fun h17 => ?_) (fun h17 => ?_)
    · skip
      refine x_aload_n (pc := 22) dX10_see_22 rfl ?_
      refine x_iload_n (pc := 23) dX10_see_23 rfl ?_
      refine x_invV1 (pc := 24) dX10_see_24 mlX10_261 imX10_isWear seX10_isWear kX10_isWear (by first | assumption | rfl) rfl (Nat.le_of_ble_eq_true rfl) (by decide) ?_
      refine sm_isWear ?_
      refine x_cv rfl rfl ?_
      rw [e2]
      first | (guard_target =~ Wp _ _ _ _ _ (Value.int (nI _) :: _) _ _ _ _; with_reducible refine x_if_eqN (pc := 27) (tgt := 41) ?_ dX10_see_27 ?_ (fun h27 => ?_) (fun h27 => ?_); (first | omega | exact b2n_32 _ | exact b2n_31 _); decide) | refine x_if_eq (pc := 27) (tgt := 41) dX10_see_27 (by decide) (fun h27 => ?_) (fun h27 => ?_)
      · skip
        cases h27
      · skip
        refine x_aload_n (pc := 30) dX10_see_30 rfl ?_
        refine x_iload_n (pc := 31) dX10_see_31 rfl ?_
        refine x_iconstN (pc := 32) 0 dX10_see_32 ic_0 ?_
        refine x_bipushN (pc := 33) 20 dX10_see_33 bp_20 ?_
        refine x_invV3 (pc := 35) dX10_see_35 mlX10_253 imX10_in seX10_in kX10_in (by first | assumption | rfl) rfl (Nat.le_of_ble_eq_true rfl) (by decide) ?_
        refine sm_in ?_
        refine x_cv rfl rfl ?_
        rw [btw_isR (by decide), show isR (nI v) (nI (20 + 1)) = true from e3]
        first | (guard_target =~ Wp _ _ _ _ _ (Value.int (nI _) :: _) _ _ _ _; with_reducible refine x_if_neN (pc := 38) (tgt := 44) ?_ dX10_see_38 ?_ (fun h38 => ?_) (fun h38 => ?_); (first | omega | exact b2n_32 _ | exact b2n_31 _); decide) | refine x_if_ne (pc := 38) (tgt := 44) dX10_see_38 (by decide) (fun h38 => ?_) (fun h38 => ?_)
        · skip
          refine x_aload_n (pc := 44) dX10_see_44 rfl ?_
          refine x_getI (pc := 45) dX10_see_45 flX10_129 (by first | assumption | rfl) rfl ?_
          rw [n1.1]
          refine x_iconstN (pc := 48) 5 dX10_see_48 ic_5 ?_
          first | (guard_target =~ Wp _ _ _ _ _ (Value.int (nI _) :: Value.int (nI _) :: _) _ _ _ _; with_reducible refine x_icmp_neN (pc := 49) (tgt := 55) ?_ ?_ dX10_see_49 ?_ (fun h49 => ?_) (fun h49 => ?_); (first | omega | exact b2n_31 _); (first | omega | exact b2n_31 _); decide) | refine x_icmp_ne (pc := 49) (tgt := 55) dX10_see_49 (by decide) (fun h49 => ?_) (fun h49 => ?_)
          · skip
            refine x_aload_n (pc := 55) dX10_see_55 rfl ?_
            refine x_getR (pc := 56) dX10_see_56 flX10_132 (by first | assumption | rfl) rfl ?_
            refine x_aload_n (pc := 59) dX10_see_59 rfl ?_
            refine x_getI (pc := 60) dX10_see_60 flX10_129 (by first | assumption | rfl) rfl ?_
            rw [n1.1]
            refine x_iload_n (pc := 63) dX10_see_63 rfl ?_
            refine x_iastN (pc := 64) dX10_see_64 (by first | assumption | rfl) (by first | with_reducible rfl | (simp only [xlit, nI_add, pk_mul]; with_reducible rfl)) (by omega) (by decide) ?_
            refine x_aload_n (pc := 65) dX10_see_65 rfl ?_
            refine x_getR (pc := 66) dX10_see_66 flX10_135 (by first | assumption | rfl) rfl ?_
            refine x_aload_n (pc := 69) dX10_see_69 rfl ?_
            refine x_getI (pc := 70) dX10_see_70 flX10_129 (by first | assumption | rfl) rfl ?_
            rw [show (xput M 88 (qN s 7 0) (nI a)).1 65 39 = nI (qN s 7 0) from n1.1]
            refine x_iload_n (pc := 73) dX10_see_73 rfl ?_
            refine x_iastN (pc := 74) dX10_see_74 (by first | assumption | rfl) (by first | with_reducible rfl | (simp only [xlit, nI_add, pk_mul]; with_reducible rfl)) (by omega) (by decide) ?_
            refine x_aload_n (pc := 75) dX10_see_75 rfl ?_
            refine x_getR (pc := 76) dX10_see_76 flX10_138 (by first | assumption | rfl) rfl ?_
            refine x_aload_n (pc := 79) dX10_see_79 rfl ?_
            refine x_getI (pc := 80) dX10_see_80 flX10_129 (by first | assumption | rfl) rfl ?_
            rw [show (xput (xput M 88 (qN s 7 0) (nI a)) 89 (qN s 7 0) (nI b)).1 65 39 = nI (qN s 7 0) from n1.1]
            refine x_iload_n (pc := 83) dX10_see_83 rfl ?_
            refine x_iastN (pc := 84) dX10_see_84 (by first | assumption | rfl) (by first | with_reducible rfl | (simp only [xlit, nI_add, pk_mul]; with_reducible rfl)) (by omega) (by decide) ?_
            refine x_aload_n (pc := 85) dX10_see_85 rfl ?_
            refine x_dup (pc := 86) dX10_see_86 rfl ?_
            refine x_getI (pc := 87) dX10_see_87 flX10_129 (by first | assumption | rfl) rfl ?_
            rw [show (xput (xput (xput M 88 (qN s 7 0) (nI a)) 89 (qN s 7 0) (nI b)) 90 (qN s 7 0) (nI v)).1 65 39 = nI (qN s 7 0) from n1.1]
            refine x_iconstN (pc := 90) 1 dX10_see_90 ic_1 ?_
            first | (guard_target =~ Wp _ _ _ _ _ (Value.int (nI _) :: Value.int (nI _) :: _) _ _ _ _; with_reducible refine x_iaddN (pc := 91) dX10_see_91 ?_) | refine x_iadd (pc := 91) dX10_see_91 ?_
            refine x_putI (pc := 92) dX10_see_92 flX10_129 (by first | assumption | rfl) rfl rfl rfl ?_
            refine x_aload_n (pc := 95) dX10_see_95 rfl ?_
            refine x_getI (pc := 96) dX10_see_96 flX10_129 (by first | assumption | rfl) rfl ?_
            refine x_ret (pc := 99) (v := some _) rfl trivial dX10_see_99 (by decide) ?_
            rw [if_pos (by omega)] at h; refine h _ (.tr (.tr (.tr (.put (by decide)) (.put (by decide))) (.put (by decide))) (.put (by decide))) (hC.nt (.tr (.tr (.tr (.put rfl) (.put rfl)) (.put rfl)) (.put rfl)) (fun k q _ _ => ?_) (fun a q1 q2 => funext fun j => ?_) ⟨?_, fun j hj => ?_⟩ ?_ ?_)
            · simp [xput, q]
            · simp [xput, show a ≠ 65 by omega, show a ≠ 88 by omega, show a ≠ 89 by omega, show a ≠ 90 by omega]
            · simp [xput, nSee]
            · rw [show nSee (qN s) a b v 7 0 = qN s 7 0 + 1 by simp [nSee]] at hj
              by_cases z : j = qN s 7 0
              · subst z; simp [xput, nSee]
              · have := n1.2 j (by omega); simp [xput, nSee, z, this]
            · simpa [xput, nSee] using n2
            · simpa [xput, nSee] using n3
          · skip
            refine x_bipush (pc := 52) dX10_see_52 bp_m4 ?_
            refine x_ret (pc := 54) (v := some _) rfl trivial dX10_see_54 (by decide) ?_
            rw [if_neg (by omega)] at h; exact h M high.rf hC
        · skip
          cases h38
    · skip
      cases h17
  · skip
    exact absurd h2 e0
theorem fM_book {c m : Int32} (hN : bdN (qN s)) (hC : MC9 M s) (h : ∀ M', high M M' → MC9 M' (opBook s c m).2 → K (some (.int (opBook s c m).1)) xSF M') : Ex g (d + 2) yX10_book mX10_book [.ref 65, .int c, .int m] xSF M K := by
  unfold opBook at h
  have h5 : qN s 9 0 ≤ 8 := hN.2.2.2.2.2
  have n1 : M.1 65 39 = nI (qN s 7 0) ∧ ∀ j, j < qN s 7 0 → M.1 88 j = nI (qN s 0 j) ∧ M.1 89 j = nI (qN s 1 j) ∧ M.1 90 j = nI (qN s 2 j) := hC.1.2.2.2.2.2.2.1
  have n2 : M.1 65 43 = nI (qN s 8 0) ∧ ∀ j, j < qN s 8 0 → M.1 91 j = nI (qN s 3 j) ∧ M.1 92 j = nI (qN s 4 j) := hC.1.2.2.2.2.2.2.2.1
  have n3 : M.1 65 44 = nI (qN s 9 0) ∧ ∀ j, j < qN s 9 0 → M.1 93 j = nI (qN s 5 j) ∧ M.1 94 j = nI (qN s 6 j) := hC.1.2.2.2.2.2.2.2.2
  refine x_entry kX10_book (Nat.le_of_ble_eq_true rfl) ?_
  show Wp g _ mX10_book 0 [some (.ref 65), some (.int c), some (.int m)] [] _ _ _ _
  by_cases e0 : c = -1
  · subst e0
    rw [if_pos rfl] at h
    refine x_iload_n (pc := 0) dX10_book_0 rfl ?_
    refine x_iconst (pc := 1) dX10_book_1 ic_m1 ?_
    refine x_icmp_ne (pc := 2) (tgt := 12) dX10_book_2 (by decide) (fun h2 => ?_) (fun h2 => ?_)
    · skip
      exact absurd rfl h2
    · skip
      refine x_aload_n (pc := 5) dX10_book_5 rfl ?_
      refine x_iconstN (pc := 6) 0 dX10_book_6 ic_0 ?_
      refine x_putI (pc := 7) dX10_book_7 flX10_144 (by first | assumption | rfl) rfl rfl rfl ?_
      refine x_iconstN (pc := 10) 0 dX10_book_10 ic_0 ?_
      refine x_ret (pc := 11) (v := some _) rfl trivial dX10_book_11 (by decide) ?_
      refine h _ (high.put (by decide)) (hC.nt (.put rfl) (fun k _ _ q => if_neg (fun z => q z.2)) (fun a q1 q2 => funext fun j => if_neg (by omega)) n1 n2 ⟨rfl, fun j hj => ?_⟩)
      exact absurd hj (by show ¬ j < updA (qN s) 9 0 0 9 0; simp [updA])
  rw [if_neg e0] at h
  rcases isR_cases (x := c) (n := 16) (by decide) with e | ⟨a, ha, rfl, e⟩
  · simp only [e, Bool.false_eq_true, if_false] at h
    refine x_iload_n (pc := 0) dX10_book_0 rfl ?_
    refine x_iconst (pc := 1) dX10_book_1 ic_m1 ?_
    refine x_icmp_ne (pc := 2) (tgt := 12) dX10_book_2 (by decide) (fun h2 => ?_) (fun h2 => ?_)
    · skip
      refine x_aload_n (pc := 12) dX10_book_12 rfl ?_
      refine x_iload_n (pc := 13) dX10_book_13 rfl ?_
      refine x_invV1 (pc := 14) dX10_book_14 mlX10_257 imX10_isCell seX10_isCell kX10_isCell (by first | assumption | rfl) rfl (Nat.le_of_ble_eq_true rfl) (by decide) ?_
      refine sm_isCell ?_
      refine x_cv rfl rfl ?_
      rw [e]
      first | (guard_target =~ Wp _ _ _ _ _ (Value.int (nI _) :: _) _ _ _ _; with_reducible refine x_if_neN (pc := 17) (tgt := 22) ?_ dX10_book_17 ?_ (fun h17 => ?_) (fun h17 => ?_); (first | omega | exact b2n_32 _ | exact b2n_31 _); decide) | refine x_if_ne (pc := 17) (tgt := 22) dX10_book_17 (by decide) (fun h17 => ?_) (fun h17 => ?_)
      · skip
        exact absurd rfl h17
      · skip
        refine x_iconst (pc := 20) dX10_book_20 ic_m1 ?_
        refine x_ret (pc := 21) (v := some _) rfl trivial dX10_book_21 (by decide) ?_
        exact h M high.rf hC
    · skip
      exact absurd h2 e0
  simp only [e, if_true] at h
  rcases isR_cases (x := m) (n := 10000) (by decide) with e2 | ⟨b, hb, rfl, e2⟩
  · simp only [e2, Bool.false_eq_true, false_and, if_false] at h
    refine x_iload_n (pc := 0) dX10_book_0 rfl ?_
    refine x_iconst (pc := 1) dX10_book_1 ic_m1 ?_
    refine x_icmp_ne (pc := 2) (tgt := 12) dX10_book_2 (by decide) (fun h2 => ?_) (fun h2 => ?_)
    · skip
      refine x_aload_n (pc := 12) dX10_book_12 rfl ?_
      refine x_iload_n (pc := 13) dX10_book_13 rfl ?_
      refine x_invV1 (pc := 14) dX10_book_14 mlX10_257 imX10_isCell seX10_isCell kX10_isCell (by first | assumption | rfl) rfl (Nat.le_of_ble_eq_true rfl) (by decide) ?_
      refine sm_isCell ?_
      refine x_cv rfl rfl ?_
      rw [e]
      first | (guard_target =~ Wp _ _ _ _ _ (Value.int (nI _) :: _) _ _ _ _; with_reducible refine x_if_neN (pc := 17) (tgt := 22) ?_ dX10_book_17 ?_ (fun h17 => ?_) (fun h17 => ?_); (first | omega | exact b2n_32 _ | exact b2n_31 _); decide) | refine x_if_ne (pc := 17) (tgt := 22) dX10_book_17 (by decide) (fun h17 => ?_) (fun h17 => ?_)
      · skip
        refine x_aload_n (pc := 22) dX10_book_22 rfl ?_
        refine x_iload_n (pc := 23) dX10_book_23 rfl ?_
        refine x_invV1 (pc := 24) dX10_book_24 mlX10_261 imX10_isWear seX10_isWear kX10_isWear (by first | assumption | rfl) rfl (Nat.le_of_ble_eq_true rfl) (by decide) ?_
        refine sm_isWear ?_
        refine x_cv rfl rfl ?_
        rw [e2]
        first | (guard_target =~ Wp _ _ _ _ _ (Value.int (nI _) :: _) _ _ _ _; with_reducible refine x_if_neN (pc := 27) (tgt := 33) ?_ dX10_book_27 ?_ (fun h27 => ?_) (fun h27 => ?_); (first | omega | exact b2n_32 _ | exact b2n_31 _); decide) | refine x_if_ne (pc := 27) (tgt := 33) dX10_book_27 (by decide) (fun h27 => ?_) (fun h27 => ?_)
        · skip
          exact absurd rfl h27
        · skip
          refine x_bipush (pc := 30) dX10_book_30 bp_m2 ?_
          refine x_ret (pc := 32) (v := some _) rfl trivial dX10_book_32 (by decide) ?_
          exact h M high.rf hC
      · skip
        cases h17
    · skip
      exact absurd h2 e0
  simp only [e2, if_true] at h
  rw [toN_nI (by omega), toN_nI (by omega)] at h
  refine x_iload_n (pc := 0) dX10_book_0 rfl ?_
  refine x_iconst (pc := 1) dX10_book_1 ic_m1 ?_
  refine x_icmp_ne (pc := 2) (tgt := 12) dX10_book_2 (by decide) (fun h2 => ?_) (fun h2 => ?_)
  · skip
    refine x_aload_n (pc := 12) dX10_book_12 rfl ?_
    refine x_iload_n (pc := 13) dX10_book_13 rfl ?_
    refine x_invV1 (pc := 14) dX10_book_14 mlX10_257 imX10_isCell seX10_isCell kX10_isCell (by first | assumption | rfl) rfl (Nat.le_of_ble_eq_true rfl) (by decide) ?_
    refine sm_isCell ?_
    refine x_cv rfl rfl ?_
    rw [e]
    first | (guard_target =~ Wp _ _ _ _ _ (Value.int (nI _) :: _) _ _ _ _; with_reducible refine x_if_neN (pc := 17) (tgt := 22) ?_ dX10_book_17 ?_ (fun h17 => ?_) (fun h17 => ?_); (first | omega | exact b2n_32 _ | exact b2n_31 _); decide) | refine x_if_ne (pc := 17) (tgt := 22) dX10_book_17 (by decide) (fun h17 => ?_) (fun h17 => ?_)
    · skip
      refine x_aload_n (pc := 22) dX10_book_22 rfl ?_
      refine x_iload_n (pc := 23) dX10_book_23 rfl ?_
      refine x_invV1 (pc := 24) dX10_book_24 mlX10_261 imX10_isWear seX10_isWear kX10_isWear (by first | assumption | rfl) rfl (Nat.le_of_ble_eq_true rfl) (by decide) ?_
      refine sm_isWear ?_
      refine x_cv rfl rfl ?_
      rw [e2]
      first | (guard_target =~ Wp _ _ _ _ _ (Value.int (nI _) :: _) _ _ _ _; with_reducible refine x_if_neN (pc := 27) (tgt := 33) ?_ dX10_book_27 ?_ (fun h27 => ?_) (fun h27 => ?_); (first | omega | exact b2n_32 _ | exact b2n_31 _); decide) | refine x_if_ne (pc := 27) (tgt := 33) dX10_book_27 (by decide) (fun h27 => ?_) (fun h27 => ?_)
      · skip
        refine x_aload_n (pc := 33) dX10_book_33 rfl ?_
        refine x_getI (pc := 34) dX10_book_34 flX10_144 (by first | assumption | rfl) rfl ?_
        rw [n3.1]
        refine x_bipushN (pc := 37) 8 dX10_book_37 bp_8 ?_
        first | (guard_target =~ Wp _ _ _ _ _ (Value.int (nI _) :: Value.int (nI _) :: _) _ _ _ _; with_reducible refine x_icmp_neN (pc := 39) (tgt := 45) ?_ ?_ dX10_book_39 ?_ (fun h39 => ?_) (fun h39 => ?_); (first | omega | exact b2n_31 _); (first | omega | exact b2n_31 _); decide) | refine x_icmp_ne (pc := 39) (tgt := 45) dX10_book_39 (by decide) (fun h39 => ?_) (fun h39 => ?_)
        · skip
          refine x_aload_n (pc := 45) dX10_book_45 rfl ?_
          refine x_getR (pc := 46) dX10_book_46 flX10_153 (by first | assumption | rfl) rfl ?_
          refine x_aload_n (pc := 49) dX10_book_49 rfl ?_
          refine x_getI (pc := 50) dX10_book_50 flX10_144 (by first | assumption | rfl) rfl ?_
          rw [n3.1]
          refine x_iload_n (pc := 53) dX10_book_53 rfl ?_
          refine x_iastN (pc := 54) dX10_book_54 (by first | assumption | rfl) (by first | with_reducible rfl | (simp only [xlit, nI_add, pk_mul]; with_reducible rfl)) (by omega) (by decide) ?_
          refine x_aload_n (pc := 55) dX10_book_55 rfl ?_
          refine x_getR (pc := 56) dX10_book_56 flX10_156 (by first | assumption | rfl) rfl ?_
          refine x_aload_n (pc := 59) dX10_book_59 rfl ?_
          refine x_getI (pc := 60) dX10_book_60 flX10_144 (by first | assumption | rfl) rfl ?_
          rw [show (xput M 93 (qN s 9 0) (nI a)).1 65 44 = nI (qN s 9 0) from n3.1]
          refine x_iload_n (pc := 63) dX10_book_63 rfl ?_
          refine x_iastN (pc := 64) dX10_book_64 (by first | assumption | rfl) (by first | with_reducible rfl | (simp only [xlit, nI_add, pk_mul]; with_reducible rfl)) (by omega) (by decide) ?_
          refine x_aload_n (pc := 65) dX10_book_65 rfl ?_
          refine x_dup (pc := 66) dX10_book_66 rfl ?_
          refine x_getI (pc := 67) dX10_book_67 flX10_144 (by first | assumption | rfl) rfl ?_
          rw [show (xput (xput M 93 (qN s 9 0) (nI a)) 94 (qN s 9 0) (nI b)).1 65 44 = nI (qN s 9 0) from n3.1]
          refine x_iconstN (pc := 70) 1 dX10_book_70 ic_1 ?_
          first | (guard_target =~ Wp _ _ _ _ _ (Value.int (nI _) :: Value.int (nI _) :: _) _ _ _ _; with_reducible refine x_iaddN (pc := 71) dX10_book_71 ?_) | refine x_iadd (pc := 71) dX10_book_71 ?_
          refine x_putI (pc := 72) dX10_book_72 flX10_144 (by first | assumption | rfl) rfl rfl rfl ?_
          refine x_aload_n (pc := 75) dX10_book_75 rfl ?_
          refine x_getI (pc := 76) dX10_book_76 flX10_144 (by first | assumption | rfl) rfl ?_
          refine x_ret (pc := 79) (v := some _) rfl trivial dX10_book_79 (by decide) ?_
          rw [if_pos (by omega)] at h; refine h _ (.tr (.tr (.put (by decide)) (.put (by decide))) (.put (by decide))) (hC.nt (.tr (.tr (.put rfl) (.put rfl)) (.put rfl)) (fun k _ _ q => ?_) (fun a q1 q2 => funext fun j => ?_) ?_ ?_ ⟨?_, fun j hj => ?_⟩)
          · simp [xput, q]
          · simp [xput, show a ≠ 65 by omega, show a ≠ 93 by omega, show a ≠ 94 by omega]
          · simpa [xput, nBook] using n1
          · simpa [xput, nBook] using n2
          · simp [xput, nBook]
          · rw [show nBook (qN s) a b 9 0 = qN s 9 0 + 1 by simp [nBook]] at hj
            by_cases z : j = qN s 9 0
            · subst z; simp [xput, nBook]
            · have := n3.2 j (by omega); simp [xput, nBook, z, this]
        · skip
          refine x_bipush (pc := 42) dX10_book_42 bp_m4 ?_
          refine x_ret (pc := 44) (v := some _) rfl trivial dX10_book_44 (by decide) ?_
          rw [if_neg (by omega)] at h; exact h M high.rf hC
      · skip
        cases h27
    · skip
      cases h17
  · skip
    exact absurd h2 e0
end P63
