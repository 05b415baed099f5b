/-! the MODEL's calls: goer -/
section P69
variable {g : XG} {d : Nat} {M : XM} {K : Option Value → XS → XM → Prop} {s : XSt}
theorem fM_goer {k v f t : Int32} (hB : bdA s.1.1) (hw : s.1.2.1 < 2 ^ s.1.1 8 0) (h5 : ∀ j, 4 * s.1.1 8 0 ≤ j → j < 24 → s.1.1 5 j = 0) (hC : MC9 M s) (h : ∀ M', high M M' → MC9 M' (opGoer s k v f t).2 → K (some (.int (opGoer s k v f t).1)) xSF M') : Ex g (d + 2) yX10_goer mX10_goer [.ref 65, .int k, .int v, .int f, .int t] xSF M K := by
  unfold opGoer at h
  have h6 := hB.2.1
  have hW := w64 hw h6
  have r0 : M.1 65 0 = nI (s.1.1 8 0) := hC.1.1
  refine x_entry kX10_goer (Nat.le_of_ble_eq_true rfl) ?_
  show Wp g _ mX10_goer 0 [some (.ref 65), some (.int k), some (.int v), some (.int f), some (.int t), none] [] _ _ _ _
  rcases isR_cases (x := k) (n := 7) (by omega) with e | ⟨k, hk, rfl, e⟩
  · simp only [e, Bool.false_eq_true, if_false, false_and] at h
    refine x_aload_n (pc := 0) dX10_goer_0 rfl ?_
    refine x_iload_n (pc := 1) dX10_goer_1 rfl ?_
    refine x_iconstN (pc := 2) 0 dX10_goer_2 ic_0 ?_
    refine x_bipushN (pc := 3) 6 dX10_goer_3 bp_6 ?_
    refine x_invV3 (pc := 5) dX10_goer_5 mlX10_253 imX10_in seX10_in kX10_in (by first | assumption | rfl) rfl (Nat.le_of_ble_eq_true rfl) (by decide) ?_
    refine sm_in ?_
    refine x_cv rfl rfl ?_
    rw [btw_isR (by decide), show isR k (nI (6 + 1)) = false from e]
    first | (guard_target =~ Wp _ _ _ _ _ (Value.int (nI _) :: _) _ _ _ _; with_reducible refine x_if_eqN (pc := 8) (tgt := 28) ?_ dX10_goer_8 ?_ (fun h8 => ?_) (fun h8 => ?_); (first | omega | exact b2n_32 _ | exact b2n_31 _); decide) | refine x_if_eq (pc := 8) (tgt := 28) dX10_goer_8 (by decide) (fun h8 => ?_) (fun h8 => ?_)
    · skip
      refine x_iconst (pc := 28) dX10_goer_28 ic_m1 ?_
      refine x_ret (pc := 29) (v := some _) rfl trivial dX10_goer_29 (by decide) ?_
      exact h M high.rf hC
    · skip
      exact absurd rfl h8
  rcases isR_cases (x := f) (n := 16) (by omega) with e2 | ⟨f, hf, rfl, e2⟩
  · simp only [e2, Bool.false_eq_true, if_false, false_and, and_false] at h
    refine x_aload_n (pc := 0) dX10_goer_0 rfl ?_
    refine x_iload_n (pc := 1) dX10_goer_1 rfl ?_
    refine x_iconstN (pc := 2) 0 dX10_goer_2 ic_0 ?_
    refine x_bipushN (pc := 3) 6 dX10_goer_3 bp_6 ?_
    refine x_invV3 (pc := 5) dX10_goer_5 mlX10_253 imX10_in seX10_in kX10_in (by first | assumption | rfl) rfl (Nat.le_of_ble_eq_true rfl) (by decide) ?_
    refine sm_in ?_
    refine x_cv rfl rfl ?_
    rw [btw_isR (by decide), show isR (nI k) (nI (6 + 1)) = true from e]
    first | (guard_target =~ Wp _ _ _ _ _ (Value.int (nI _) :: _) _ _ _ _; with_reducible refine x_if_eqN (pc := 8) (tgt := 28) ?_ dX10_goer_8 ?_ (fun h8 => ?_) (fun h8 => ?_); (first | omega | exact b2n_32 _ | exact b2n_31 _); decide) | refine x_if_eq (pc := 8) (tgt := 28) dX10_goer_8 (by decide) (fun h8 => ?_) (fun h8 => ?_)
    · skip
      cases h8
    · skip
      refine x_aload_n (pc := 11) dX10_goer_11 rfl ?_
      refine x_iload_n (pc := 12) dX10_goer_12 rfl ?_
      refine x_invV1 (pc := 13) dX10_goer_13 mlX10_257 imX10_isCell seX10_isCell kX10_isCell (by first | assumption | rfl) rfl (Nat.le_of_ble_eq_true rfl) (by decide) ?_
      refine sm_isCell ?_
      refine x_cv rfl rfl ?_
      rw [e2]
      first | (guard_target =~ Wp _ _ _ _ _ (Value.int (nI _) :: _) _ _ _ _; with_reducible refine x_if_eqN (pc := 16) (tgt := 28) ?_ dX10_goer_16 ?_ (fun h16 => ?_) (fun h16 => ?_); (first | omega | exact b2n_32 _ | exact b2n_31 _); decide) | refine x_if_eq (pc := 16) (tgt := 28) dX10_goer_16 (by decide) (fun h16 => ?_) (fun h16 => ?_)
      · skip
        refine x_iconst (pc := 28) dX10_goer_28 ic_m1 ?_
        refine x_ret (pc := 29) (v := some _) rfl trivial dX10_goer_29 (by decide) ?_
        exact h M high.rf hC
      · skip
        exact absurd rfl h16
  rcases isR_cases (x := t) (n := 16) (by omega) with e3 | ⟨t, ht, rfl, e3⟩
  · simp only [e3, Bool.false_eq_true, if_false, and_false] at h
    refine x_aload_n (pc := 0) dX10_goer_0 rfl ?_
    refine x_iload_n (pc := 1) dX10_goer_1 rfl ?_
    refine x_iconstN (pc := 2) 0 dX10_goer_2 ic_0 ?_
    refine x_bipushN (pc := 3) 6 dX10_goer_3 bp_6 ?_
    refine x_invV3 (pc := 5) dX10_goer_5 mlX10_253 imX10_in seX10_in kX10_in (by first | assumption | rfl) rfl (Nat.le_of_ble_eq_true rfl) (by decide) ?_
    refine sm_in ?_
    refine x_cv rfl rfl ?_
    rw [btw_isR (by decide), show isR (nI k) (nI (6 + 1)) = true from e]
    first | (guard_target =~ Wp _ _ _ _ _ (Value.int (nI _) :: _) _ _ _ _; with_reducible refine x_if_eqN (pc := 8) (tgt := 28) ?_ dX10_goer_8 ?_ (fun h8 => ?_) (fun h8 => ?_); (first | omega | exact b2n_32 _ | exact b2n_31 _); decide) | refine x_if_eq (pc := 8) (tgt := 28) dX10_goer_8 (by decide) (fun h8 => ?_) (fun h8 => ?_)
    · skip
      cases h8
    · skip
      refine x_aload_n (pc := 11) dX10_goer_11 rfl ?_
      refine x_iload_n (pc := 12) dX10_goer_12 rfl ?_
      refine x_invV1 (pc := 13) dX10_goer_13 mlX10_257 imX10_isCell seX10_isCell kX10_isCell (by first | assumption | rfl) rfl (Nat.le_of_ble_eq_true rfl) (by decide) ?_
      refine sm_isCell ?_
      refine x_cv rfl rfl ?_
      rw [e2]
      first | (guard_target =~ Wp _ _ _ _ _ (Value.int (nI _) :: _) _ _ _ _; with_reducible refine x_if_eqN (pc := 16) (tgt := 28) ?_ dX10_goer_16 ?_ (fun h16 => ?_) (fun h16 => ?_); (first | omega | exact b2n_32 _ | exact b2n_31 _); decide) | refine x_if_eq (pc := 16) (tgt := 28) dX10_goer_16 (by decide) (fun h16 => ?_) (fun h16 => ?_)
      · skip
        cases h16
      · skip
        refine x_aload_n (pc := 19) dX10_goer_19 rfl ?_
        refine x_iload (pc := 20) dX10_goer_20 rfl ?_
        refine x_invV1 (pc := 22) dX10_goer_22 mlX10_257 imX10_isCell seX10_isCell kX10_isCell (by first | assumption | rfl) rfl (Nat.le_of_ble_eq_true rfl) (by decide) ?_
        refine sm_isCell ?_
        refine x_cv rfl rfl ?_
        rw [e3]
        first | (guard_target =~ Wp _ _ _ _ _ (Value.int (nI _) :: _) _ _ _ _; with_reducible refine x_if_neN (pc := 25) (tgt := 30) ?_ dX10_goer_25 ?_ (fun h25 => ?_) (fun h25 => ?_); (first | omega | exact b2n_32 _ | exact b2n_31 _); decide) | refine x_if_ne (pc := 25) (tgt := 30) dX10_goer_25 (by decide) (fun h25 => ?_) (fun h25 => ?_)
        · skip
          exact absurd rfl h25
        · skip
          refine x_iconst (pc := 28) dX10_goer_28 ic_m1 ?_
          refine x_ret (pc := 29) (v := some _) rfl trivial dX10_goer_29 (by decide) ?_
          exact h M high.rf hC
  simp only [e, e2, e3, and_self, if_true] at h
  rw [toN_nI (by omega), toN_nI (by omega), toN_nI (by omega)] at h
  rcases isR_cases (x := v) (n := 10) (by omega) with e4 | ⟨v, hv, rfl, e4⟩
  · simp only [e4, Bool.false_eq_true, if_false] at h
    refine x_aload_n (pc := 0) dX10_goer_0 rfl ?_
    refine x_iload_n (pc := 1) dX10_goer_1 rfl ?_
    refine x_iconstN (pc := 2) 0 dX10_goer_2 ic_0 ?_
    refine x_bipushN (pc := 3) 6 dX10_goer_3 bp_6 ?_
    refine x_invV3 (pc := 5) dX10_goer_5 mlX10_253 imX10_in seX10_in kX10_in (by first | assumption | rfl) rfl (Nat.le_of_ble_eq_true rfl) (by decide) ?_
    refine sm_in ?_
    refine x_cv rfl rfl ?_
    rw [btw_isR (by decide), show isR (nI k) (nI (6 + 1)) = true from e]
    first | (guard_target =~ Wp _ _ _ _ _ (Value.int (nI _) :: _) _ _ _ _; with_reducible refine x_if_eqN (pc := 8) (tgt := 28) ?_ dX10_goer_8 ?_ (fun h8 => ?_) (fun h8 => ?_); (first | omega | exact b2n_32 _ | exact b2n_31 _); decide) | refine x_if_eq (pc := 8) (tgt := 28) dX10_goer_8 (by decide) (fun h8 => ?_) (fun h8 => ?_)
    · skip
      cases h8
    · skip
      refine x_aload_n (pc := 11) dX10_goer_11 rfl ?_
      refine x_iload_n (pc := 12) dX10_goer_12 rfl ?_
      refine x_invV1 (pc := 13) dX10_goer_13 mlX10_257 imX10_isCell seX10_isCell kX10_isCell (by first | assumption | rfl) rfl (Nat.le_of_ble_eq_true rfl) (by decide) ?_
      refine sm_isCell ?_
      refine x_cv rfl rfl ?_
      rw [e2]
      first | (guard_target =~ Wp _ _ _ _ _ (Value.int (nI _) :: _) _ _ _ _; with_reducible refine x_if_eqN (pc := 16) (tgt := 28) ?_ dX10_goer_16 ?_ (fun h16 => ?_) (fun h16 => ?_); (first | omega | exact b2n_32 _ | exact b2n_31 _); decide) | refine x_if_eq (pc := 16) (tgt := 28) dX10_goer_16 (by decide) (fun h16 => ?_) (fun h16 => ?_)
      · skip
        cases h16
      · skip
        refine x_aload_n (pc := 19) dX10_goer_19 rfl ?_
        refine x_iload (pc := 20) dX10_goer_20 rfl ?_
        refine x_invV1 (pc := 22) dX10_goer_22 mlX10_257 imX10_isCell seX10_isCell kX10_isCell (by first | assumption | rfl) rfl (Nat.le_of_ble_eq_true rfl) (by decide) ?_
        refine sm_isCell ?_
        refine x_cv rfl rfl ?_
        rw [e3]
        first | (guard_target =~ Wp _ _ _ _ _ (Value.int (nI _) :: _) _ _ _ _; with_reducible refine x_if_neN (pc := 25) (tgt := 30) ?_ dX10_goer_25 ?_ (fun h25 => ?_) (fun h25 => ?_); (first | omega | exact b2n_32 _ | exact b2n_31 _); decide) | refine x_if_ne (pc := 25) (tgt := 30) dX10_goer_25 (by decide) (fun h25 => ?_) (fun h25 => ?_)
        · skip
          refine x_aload_n (pc := 30) dX10_goer_30 rfl ?_
          refine x_iload_n (pc := 31) dX10_goer_31 rfl ?_
          refine x_iconstN (pc := 32) 0 dX10_goer_32 ic_0 ?_
          refine x_bipushN (pc := 33) 9 dX10_goer_33 bp_9 ?_
          refine x_invV3 (pc := 35) dX10_goer_35 mlX10_253 imX10_in seX10_in kX10_in (by first | assumption | rfl) rfl (Nat.le_of_ble_eq_true rfl) (by decide) ?_
          refine sm_in ?_
          refine x_cv rfl rfl ?_
          rw [btw_isR (by decide), show isR v (nI (9 + 1)) = false from e4]
          first | (guard_target =~ Wp _ _ _ _ _ (Value.int (nI _) :: _) _ _ _ _; with_reducible refine x_if_neN (pc := 38) (tgt := 44) ?_ dX10_goer_38 ?_ (fun h38 => ?_) (fun h38 => ?_); (first | omega | exact b2n_32 _ | exact b2n_31 _); decide) | refine x_if_ne (pc := 38) (tgt := 44) dX10_goer_38 (by decide) (fun h38 => ?_) (fun h38 => ?_)
          · skip
            exact absurd rfl h38
          · skip
            refine x_bipush (pc := 41) dX10_goer_41 bp_m2 ?_
            refine x_ret (pc := 43) (v := some _) rfl trivial dX10_goer_43 (by decide) ?_
            exact h M high.rf hC
        · skip
          cases h25
  simp only [e4, if_true] at h
  rw [toN_nI (by omega)] at h
  by_cases h7 : s.1.1 8 0 = 6
  · rw [if_neg (by omega)] at h
    refine x_aload_n (pc := 0) dX10_goer_0 rfl ?_
    refine x_iload_n (pc := 1) dX10_goer_1 rfl ?_
    refine x_iconstN (pc := 2) 0 dX10_goer_2 ic_0 ?_
    refine x_bipushN (pc := 3) 6 dX10_goer_3 bp_6 ?_
    refine x_invV3 (pc := 5) dX10_goer_5 mlX10_253 imX10_in seX10_in kX10_in (by first | assumption | rfl) rfl (Nat.le_of_ble_eq_true rfl) (by decide) ?_
    refine sm_in ?_
    refine x_cv rfl rfl ?_
    rw [btw_isR (by decide), show isR (nI k) (nI (6 + 1)) = true from e]
    first | (guard_target =~ Wp _ _ _ _ _ (Value.int (nI _) :: _) _ _ _ _; with_reducible refine x_if_eqN (pc := 8) (tgt := 28) ?_ dX10_goer_8 ?_ (fun h8 => ?_) (fun h8 => ?_); (first | omega | exact b2n_32 _ | exact b2n_31 _); decide) | refine x_if_eq (pc := 8) (tgt := 28) dX10_goer_8 (by decide) (fun h8 => ?_) (fun h8 => ?_)
    · skip
      cases h8
    · skip
      refine x_aload_n (pc := 11) dX10_goer_11 rfl ?_
      refine x_iload_n (pc := 12) dX10_goer_12 rfl ?_
      refine x_invV1 (pc := 13) dX10_goer_13 mlX10_257 imX10_isCell seX10_isCell kX10_isCell (by first | assumption | rfl) rfl (Nat.le_of_ble_eq_true rfl) (by decide) ?_
      refine sm_isCell ?_
      refine x_cv rfl rfl ?_
      rw [e2]
      first | (guard_target =~ Wp _ _ _ _ _ (Value.int (nI _) :: _) _ _ _ _; with_reducible refine x_if_eqN (pc := 16) (tgt := 28) ?_ dX10_goer_16 ?_ (fun h16 => ?_) (fun h16 => ?_); (first | omega | exact b2n_32 _ | exact b2n_31 _); decide) | refine x_if_eq (pc := 16) (tgt := 28) dX10_goer_16 (by decide) (fun h16 => ?_) (fun h16 => ?_)
      · skip
        cases h16
      · skip
        refine x_aload_n (pc := 19) dX10_goer_19 rfl ?_
        refine x_iload (pc := 20) dX10_goer_20 rfl ?_
        refine x_invV1 (pc := 22) dX10_goer_22 mlX10_257 imX10_isCell seX10_isCell kX10_isCell (by first | assumption | rfl) rfl (Nat.le_of_ble_eq_true rfl) (by decide) ?_
        refine sm_isCell ?_
        refine x_cv rfl rfl ?_
        rw [e3]
        first | (guard_target =~ Wp _ _ _ _ _ (Value.int (nI _) :: _) _ _ _ _; with_reducible refine x_if_neN (pc := 25) (tgt := 30) ?_ dX10_goer_25 ?_ (fun h25 => ?_) (fun h25 => ?_); (first | omega | exact b2n_32 _ | exact b2n_31 _); decide) | refine x_if_ne (pc := 25) (tgt := 30) dX10_goer_25 (by decide) (fun h25 => ?_) (fun h25 => ?_)
        · skip
          refine x_aload_n (pc := 30) dX10_goer_30 rfl ?_
          refine x_iload_n (pc := 31) dX10_goer_31 rfl ?_
          refine x_iconstN (pc := 32) 0 dX10_goer_32 ic_0 ?_
          refine x_bipushN (pc := 33) 9 dX10_goer_33 bp_9 ?_
          refine x_invV3 (pc := 35) dX10_goer_35 mlX10_253 imX10_in seX10_in kX10_in (by first | assumption | rfl) rfl (Nat.le_of_ble_eq_true rfl) (by decide) ?_
          refine sm_in ?_
          refine x_cv rfl rfl ?_
          rw [btw_isR (by decide), show isR (nI v) (nI (9 + 1)) = true from e4]
          first | (guard_target =~ Wp _ _ _ _ _ (Value.int (nI _) :: _) _ _ _ _; with_reducible refine x_if_neN (pc := 38) (tgt := 44) ?_ dX10_goer_38 ?_ (fun h38 => ?_) (fun h38 => ?_); (first | omega | exact b2n_32 _ | exact b2n_31 _); decide) | refine x_if_ne (pc := 38) (tgt := 44) dX10_goer_38 (by decide) (fun h38 => ?_) (fun h38 => ?_)
          · skip
            refine x_aload_n (pc := 44) dX10_goer_44 rfl ?_
            refine x_getI (pc := 45) dX10_goer_45 flX10_7 (by first | assumption | rfl) rfl ?_
            rw [r0]
            refine x_bipushN (pc := 48) 6 dX10_goer_48 bp_6 ?_
            first | (guard_target =~ Wp _ _ _ _ _ (Value.int (nI _) :: Value.int (nI _) :: _) _ _ _ _; with_reducible refine x_icmp_neN (pc := 50) (tgt := 56) ?_ ?_ dX10_goer_50 ?_ (fun h50 => ?_) (fun h50 => ?_); (first | omega | exact b2n_31 _); (first | omega | exact b2n_31 _); decide) | refine x_icmp_ne (pc := 50) (tgt := 56) dX10_goer_50 (by decide) (fun h50 => ?_) (fun h50 => ?_)
            · skip
              omega
            · skip
              refine x_bipush (pc := 53) dX10_goer_53 bp_m4 ?_
              refine x_ret (pc := 55) (v := some _) rfl trivial dX10_goer_55 (by decide) ?_
              exact h M high.rf hC
          · skip
            cases h38
        · skip
          cases h25
  rw [if_pos (by omega)] at h
  have hgone : M.1 65 1 &&& (nI (2 ^ s.1.1 8 0) ^^^ -1) = nI s.1.2.1 := by
    rw [show M.1 65 1 = nI s.1.2.1 from hC.1.2.1]
    have := setB_N (b := false) hW (show s.1.1 8 0 < 6 by omega)
    rw [setN_x (by omega) (by omega), if_pos (Nat.testBit_lt_two_pow hw)] at this
    exact this
  have fin : ∀ P : XM, P.2 = M.2 → (∀ a, a ≠ 65 → a ≠ 67 → a ≠ 68 → a ≠ 69 → a ≠ 70 → a ≠ 71 → P.1 a = M.1 a) → (∀ j, j ≠ 0 → j ≠ 1 → P.1 65 j = M.1 65 j) → P.1 65 0 = nI (s.1.1 8 0 + 1) → P.1 65 1 = nI s.1.2.1 → (∀ j, P.1 67 j = if j = s.1.1 8 0 then nI k else M.1 67 j) → (∀ j, P.1 68 j = if j = s.1.1 8 0 then nI v else M.1 68 j) → (∀ j, P.1 69 j = if j = s.1.1 8 0 then nI f else M.1 69 j) → (∀ j, P.1 70 j = if j = s.1.1 8 0 then nI t else M.1 70 j) → (∀ j, P.1 71 j = if 4 * s.1.1 8 0 ≤ j ∧ j < 4 * s.1.1 8 0 + 4 then nI 0 else M.1 71 j) → K (some (.int (nI (s.1.1 8 0)))) xSF P := by
    intro P p2 pa p65 p0 p1 k1 k2 k3 k4 k5
    have hm : ∀ w : Nat → Nat → Bool, w 65 0 = false → w 65 1 = false → (∀ j, w 67 j = false ∧ w 68 j = false ∧ w 69 j = false ∧ w 70 j = false ∧ w 71 j = false) → ksm w M P := by
      intro w w0 w1 wr a j q
      by_cases a65 : a = 65
      · subst a65
        exact p65 j (fun z => by subst z; rw [w0] at q; cases q) (fun z => by subst z; rw [w1] at q; cases q)
      · obtain ⟨z1, z2, z3, z4, z5⟩ := wr j
        rw [pa a a65 (fun z => by subst z; rw [z1] at q; cases q) (fun z => by subst z; rw [z2] at q; cases q) (fun z => by subst z; rw [z3] at q; cases q) (fun z => by subst z; rw [z4] at q; cases q) (fun z => by subst z; rw [z5] at q; cases q)]
    have hh : high M P := ⟨fun a ha => pa a (by omega) (by omega) (by omega) (by omega) (by omega) (by omega), fun a _ => by rw [p2]⟩
    refine h P hh (hC.up ⟨hh, hm _ rfl rfl (fun _ => ⟨rfl, rfl, rfl, rfl, rfl⟩), hm _ rfl rfl (fun _ => ⟨rfl, rfl, rfl, rfl, rfl⟩), hm _ rfl rfl (fun _ => ⟨rfl, rfl, rfl, rfl, rfl⟩), hm _ rfl rfl (fun _ => ⟨rfl, rfl, rfl, rfl, rfl⟩), hm _ rfl rfl (fun _ => ⟨rfl, rfl, rfl, rfl, rfl⟩), p2⟩ ?_)
    obtain ⟨r1, r2, r3, r4, r5, r6, r7⟩ := hC.1
    unfold MPq
    rw [p0, p1, p65 2 (by decide) (by decide), p65 3 (by decide) (by decide), p65 11 (by decide) (by decide), p65 39 (by decide) (by decide), p65 43 (by decide) (by decide), p65 44 (by decide) (by decide)]
    rw [pa 88 (by decide) (by decide) (by decide) (by decide) (by decide) (by decide), pa 89 (by decide) (by decide) (by decide) (by decide) (by decide) (by decide), pa 90 (by decide) (by decide) (by decide) (by decide) (by decide) (by decide), pa 91 (by decide) (by decide) (by decide) (by decide) (by decide) (by decide), pa 92 (by decide) (by decide) (by decide) (by decide) (by decide) (by decide), pa 93 (by decide) (by decide) (by decide) (by decide) (by decide) (by decide), pa 94 (by decide) (by decide) (by decide) (by decide) (by decide) (by decide)]
    have ge : ∀ x j, x ≠ 6 → x ≠ 7 → x ≠ 8 → (j ≠ s.1.1 8 0 ∨ x = 0 ∨ 5 ≤ x) → gorA s.1.1 s.1.2.2.2.2 k v f t x j = s.1.1 x j := fun _ _ z1 z2 z3 z4 => gorA_e z1 z2 z3 z4
    refine ⟨congrArg nI (gorA_n (L := s.1.2.2.2.2) (kd := k) (v := v) (f := f) (t := t)).symm, rfl, r3.trans (congrArg nI (ge 10 0 (by decide) (by decide) (by decide) (by omega)).symm), r4.trans (congrArg nI (ge 11 0 (by decide) (by decide) (by decide) (by omega)).symm), r5, fun x hx j hj => ?_, r7⟩
    have hr := r6 x hx j hj
    have hhx : x = 0 ∨ x = 1 ∨ x = 2 ∨ x = 3 ∨ x = 4 ∨ x = 5 := by omega
    rcases hhx with rfl | rfl | rfl | rfl | rfl | rfl
    · rw [pa (66 + 0) (by decide) (by decide) (by decide) (by decide) (by decide) (by decide), hr]
      exact congrArg nI (ge _ _ (by decide) (by decide) (by decide) (by omega)).symm
    · rw [k1]
      by_cases hjn : j = s.1.1 8 0
      · rw [if_pos hjn]; subst hjn; exact congrArg nI (by simp [gorA, yldA, newA, updA])
      · rw [if_neg hjn, hr]; exact congrArg nI (ge _ _ (by decide) (by decide) (by decide) (Or.inl hjn)).symm
    · rw [k2]
      by_cases hjn : j = s.1.1 8 0
      · rw [if_pos hjn]; subst hjn; exact congrArg nI (by simp [gorA, yldA, newA, updA])
      · rw [if_neg hjn, hr]; exact congrArg nI (ge _ _ (by decide) (by decide) (by decide) (Or.inl hjn)).symm
    · rw [k3]
      by_cases hjn : j = s.1.1 8 0
      · rw [if_pos hjn]; subst hjn; exact congrArg nI (by simp [gorA, yldA, newA, updA])
      · rw [if_neg hjn, hr]; exact congrArg nI (ge _ _ (by decide) (by decide) (by decide) (Or.inl hjn)).symm
    · rw [k4]
      by_cases hjn : j = s.1.1 8 0
      · rw [if_pos hjn]; subst hjn; exact congrArg nI (by simp [gorA, yldA, newA, updA])
      · rw [if_neg hjn, hr]; exact congrArg nI (ge _ _ (by decide) (by decide) (by decide) (Or.inl hjn)).symm
    · have hj24 : j < 24 := hj
      rw [k5, hr]
      have eg := gorA_e (A := s.1.1) (L := s.1.2.2.2.2) (kd := k) (v := v) (f := f) (t := t) (k := 5) (j := j) (by decide) (by decide) (by decide) (by omega)
      by_cases hz : 4 * s.1.1 8 0 ≤ j ∧ j < 4 * s.1.1 8 0 + 4
      · rw [if_pos hz]; exact congrArg nI (eg.trans (h5 j hz.1 hj24)).symm
      · rw [if_neg hz]; exact congrArg nI eg.symm
  have loop : ∀ m i P, i + m = 4 → P.2 = M.2 → (∀ a, a ≠ 65 → a ≠ 67 → a ≠ 68 → a ≠ 69 → a ≠ 70 → a ≠ 71 → P.1 a = M.1 a) → (∀ j, j ≠ 1 → P.1 65 j = M.1 65 j) → P.1 65 1 = nI s.1.2.1 → (∀ j, P.1 67 j = if j = s.1.1 8 0 then nI k else M.1 67 j) → (∀ j, P.1 68 j = if j = s.1.1 8 0 then nI v else M.1 68 j) → (∀ j, P.1 69 j = if j = s.1.1 8 0 then nI f else M.1 69 j) → (∀ j, P.1 70 j = if j = s.1.1 8 0 then nI t else M.1 70 j) → (∀ j, P.1 71 j = if 4 * s.1.1 8 0 ≤ j ∧ j < 4 * s.1.1 8 0 + i then nI 0 else M.1 71 j) → Wp g (d + 2) mX10_goer 117 [some (.ref 65), some (.int (nI k)), some (.int (nI v)), some (.int (nI f)), some (.int (nI t)), some (.int (nI i))] [] xSF (0, 0) P K := by
    intro m
    induction m with
    | zero =>
      intro i P hi p2 pa p65 p1 k1 k2 k3 k4 k5
      obtain rfl : i = 4 := by omega
      have p0 : P.1 65 0 = nI (s.1.1 8 0) := (p65 0 (by decide)).trans r0
      refine x_iload (pc := 117) dX10_goer_117 rfl ?_
      refine x_iconstN (pc := 119) 4 dX10_goer_119 ic_4 ?_
      first | (guard_target =~ Wp _ _ _ _ _ (Value.int (nI _) :: Value.int (nI _) :: _) _ _ _ _; with_reducible refine x_icmp_geN (pc := 120) (tgt := 144) ?_ ?_ dX10_goer_120 ?_ (fun h120 => ?_) (fun h120 => ?_); (first | omega | exact b2n_31 _); (first | omega | exact b2n_31 _); decide) | refine x_icmp_ge (pc := 120) (tgt := 144) dX10_goer_120 (by decide) (fun h120 => ?_) (fun h120 => ?_)
      · skip
        refine x_aload_n (pc := 144) dX10_goer_144 rfl ?_
        refine x_dup (pc := 145) dX10_goer_145 rfl ?_
        refine x_getI (pc := 146) dX10_goer_146 flX10_7 (by first | assumption | rfl) rfl ?_
        rw [p0]
        refine x_iconstN (pc := 149) 1 dX10_goer_149 ic_1 ?_
        first | (guard_target =~ Wp _ _ _ _ _ (Value.int (nI _) :: Value.int (nI _) :: _) _ _ _ _; with_reducible refine x_iaddN (pc := 150) dX10_goer_150 ?_) | refine x_iadd (pc := 150) dX10_goer_150 ?_
        refine x_putI (pc := 151) dX10_goer_151 flX10_7 (by first | assumption | rfl) rfl rfl rfl ?_
        refine x_aload_n (pc := 154) dX10_goer_154 rfl ?_
        refine x_getI (pc := 155) dX10_goer_155 flX10_7 (by first | assumption | rfl) rfl ?_
        rw [show (xput P 65 0 (nI (s.1.1 8 0 + 1))).1 65 0 = nI (s.1.1 8 0 + 1) from rfl]
        refine x_iconstN (pc := 158) 1 dX10_goer_158 ic_1 ?_
        first | (guard_target =~ Wp _ _ _ _ _ (Value.int (nI _) :: Value.int (nI _) :: _) _ _ _ _; with_reducible refine x_isubN (pc := 159) ?_ dX10_goer_159 ?_; omega) | refine x_isub (pc := 159) dX10_goer_159 ?_
        refine x_ret (pc := 160) (v := some _) rfl trivial dX10_goer_160 (by decide) ?_
        refine fin _ p2 (fun a q0 q1 q2 q3 q4 q5 => (funext fun j => if_neg (by omega)).trans (pa a q0 q1 q2 q3 q4 q5)) (fun j q1 q2 => (if_neg (by omega)).trans (p65 j q2)) rfl p1 k1 k2 k3 k4 k5
      · skip
        omega
    | succ m ih =>
      intro i P hi p2 pa p65 p1 k1 k2 k3 k4 k5
      have p0 : P.1 65 0 = nI (s.1.1 8 0) := (p65 0 (by decide)).trans r0
      refine x_iload (pc := 117) dX10_goer_117 rfl ?_
      refine x_iconstN (pc := 119) 4 dX10_goer_119 ic_4 ?_
      first | (guard_target =~ Wp _ _ _ _ _ (Value.int (nI _) :: Value.int (nI _) :: _) _ _ _ _; with_reducible refine x_icmp_geN (pc := 120) (tgt := 144) ?_ ?_ dX10_goer_120 ?_ (fun h120 => ?_) (fun h120 => ?_); (first | omega | exact b2n_31 _); (first | omega | exact b2n_31 _); decide) | refine x_icmp_ge (pc := 120) (tgt := 144) dX10_goer_120 (by decide) (fun h120 => ?_) (fun h120 => ?_)
      · skip
        omega
      · skip
        refine x_aload_n (pc := 123) dX10_goer_123 rfl ?_
        refine x_getR (pc := 124) dX10_goer_124 flX10_38 (by first | assumption | rfl) rfl ?_
        refine x_iconstN (pc := 127) 4 dX10_goer_127 ic_4 ?_
        refine x_aload_n (pc := 128) dX10_goer_128 rfl ?_
        refine x_getI (pc := 129) dX10_goer_129 flX10_7 (by first | assumption | rfl) rfl ?_
        rw [p0]
        first | (guard_target =~ Wp _ _ _ _ _ (Value.int (nI _) :: Value.int (nI _) :: _) _ _ _ _; with_reducible refine x_imulN (pc := 132) dX10_goer_132 ?_) | refine x_imul (pc := 132) dX10_goer_132 ?_
        refine x_iload (pc := 133) dX10_goer_133 rfl ?_
        first | (guard_target =~ Wp _ _ _ _ _ (Value.int (nI _) :: Value.int (nI _) :: _) _ _ _ _; with_reducible refine x_iaddN (pc := 135) dX10_goer_135 ?_) | refine x_iadd (pc := 135) dX10_goer_135 ?_
        refine x_iconstN (pc := 136) 0 dX10_goer_136 ic_0 ?_
        refine x_iastN (pc := 137) dX10_goer_137 (by first | assumption | rfl) (by first | with_reducible rfl | (simp only [xlit, nI_add, pk_mul]; with_reducible rfl)) (by omega) (by decide) ?_
        first | (guard_target =~ Wp _ _ _ _ (_ :: _ :: _ :: _ :: _ :: some (Value.int (nI _)) :: _) _ _ _ _ _; with_reducible refine x_iincN (pc := 138) 1 ic_1 dX10_goer_138 ?_ xg_5 xs_5 ?_ ?_; decide; exact (x_hp rfl)) | refine x_iincC (pc := 138) ic_1 dX10_goer_138 (by decide) rfl xs_5 (x_hp rfl) ?_
        refine x_goto (pc := 141) (tgt := 117) dX10_goer_141 (by decide) ?_
        refine ih (i + 1) _ (by omega) p2 (fun a q0 q1 q2 q3 q4 q5 => (funext fun j => if_neg (by omega)).trans (pa a q0 q1 q2 q3 q4 q5)) p65 p1 k1 k2 k3 k4 (fun j => ?_)
        show (if _ then _ else _) = _
        rw [k5]
        by_cases hj : j = 4 * s.1.1 8 0 + i
        · rw [if_pos ⟨rfl, hj⟩, if_pos (by omega)]
        · rw [if_neg (fun q => hj q.2)]
          have e : (4 * s.1.1 8 0 ≤ j ∧ j < 4 * s.1.1 8 0 + i) ↔ (4 * s.1.1 8 0 ≤ j ∧ j < 4 * s.1.1 8 0 + (i + 1)) := by omega
          simp only [e]
  refine x_aload_n (pc := 0) dX10_goer_0 rfl ?_
  refine x_iload_n (pc := 1) dX10_goer_1 rfl ?_
  refine x_iconstN (pc := 2) 0 dX10_goer_2 ic_0 ?_
  refine x_bipushN (pc := 3) 6 dX10_goer_3 bp_6 ?_
  refine x_invV3 (pc := 5) dX10_goer_5 mlX10_253 imX10_in seX10_in kX10_in (by first | assumption | rfl) rfl (Nat.le_of_ble_eq_true rfl) (by decide) ?_
  refine sm_in ?_
  refine x_cv rfl rfl ?_
  rw [btw_isR (by decide), show isR (nI k) (nI (6 + 1)) = true from e]
  first | (guard_target =~ Wp _ _ _ _ _ (Value.int (nI _) :: _) _ _ _ _; with_reducible refine x_if_eqN (pc := 8) (tgt := 28) ?_ dX10_goer_8 ?_ (fun h8 => ?_) (fun h8 => ?_); (first | omega | exact b2n_32 _ | exact b2n_31 _); decide) | refine x_if_eq (pc := 8) (tgt := 28) dX10_goer_8 (by decide) (fun h8 => ?_) (fun h8 => ?_)
  · skip
    cases h8
  · skip
    refine x_aload_n (pc := 11) dX10_goer_11 rfl ?_
    refine x_iload_n (pc := 12) dX10_goer_12 rfl ?_
    refine x_invV1 (pc := 13) dX10_goer_13 mlX10_257 imX10_isCell seX10_isCell kX10_isCell (by first | assumption | rfl) rfl (Nat.le_of_ble_eq_true rfl) (by decide) ?_
    refine sm_isCell ?_
    refine x_cv rfl rfl ?_
    rw [e2]
    first | (guard_target =~ Wp _ _ _ _ _ (Value.int (nI _) :: _) _ _ _ _; with_reducible refine x_if_eqN (pc := 16) (tgt := 28) ?_ dX10_goer_16 ?_ (fun h16 => ?_) (fun h16 => ?_); (first | omega | exact b2n_32 _ | exact b2n_31 _); decide) | refine x_if_eq (pc := 16) (tgt := 28) dX10_goer_16 (by decide) (fun h16 => ?_) (fun h16 => ?_)
    · skip
      cases h16
    · skip
      refine x_aload_n (pc := 19) dX10_goer_19 rfl ?_
      refine x_iload (pc := 20) dX10_goer_20 rfl ?_
      refine x_invV1 (pc := 22) dX10_goer_22 mlX10_257 imX10_isCell seX10_isCell kX10_isCell (by first | assumption | rfl) rfl (Nat.le_of_ble_eq_true rfl) (by decide) ?_
      refine sm_isCell ?_
      refine x_cv rfl rfl ?_
      rw [e3]
      first | (guard_target =~ Wp _ _ _ _ _ (Value.int (nI _) :: _) _ _ _ _; with_reducible refine x_if_neN (pc := 25) (tgt := 30) ?_ dX10_goer_25 ?_ (fun h25 => ?_) (fun h25 => ?_); (first | omega | exact b2n_32 _ | exact b2n_31 _); decide) | refine x_if_ne (pc := 25) (tgt := 30) dX10_goer_25 (by decide) (fun h25 => ?_) (fun h25 => ?_)
      · skip
        refine x_aload_n (pc := 30) dX10_goer_30 rfl ?_
        refine x_iload_n (pc := 31) dX10_goer_31 rfl ?_
        refine x_iconstN (pc := 32) 0 dX10_goer_32 ic_0 ?_
        refine x_bipushN (pc := 33) 9 dX10_goer_33 bp_9 ?_
        refine x_invV3 (pc := 35) dX10_goer_35 mlX10_253 imX10_in seX10_in kX10_in (by first | assumption | rfl) rfl (Nat.le_of_ble_eq_true rfl) (by decide) ?_
        refine sm_in ?_
        refine x_cv rfl rfl ?_
        rw [btw_isR (by decide), show isR (nI v) (nI (9 + 1)) = true from e4]
        first | (guard_target =~ Wp _ _ _ _ _ (Value.int (nI _) :: _) _ _ _ _; with_reducible refine x_if_neN (pc := 38) (tgt := 44) ?_ dX10_goer_38 ?_ (fun h38 => ?_) (fun h38 => ?_); (first | omega | exact b2n_32 _ | exact b2n_31 _); decide) | refine x_if_ne (pc := 38) (tgt := 44) dX10_goer_38 (by decide) (fun h38 => ?_) (fun h38 => ?_)
        · skip
          refine x_aload_n (pc := 44) dX10_goer_44 rfl ?_
          refine x_getI (pc := 45) dX10_goer_45 flX10_7 (by first | assumption | rfl) rfl ?_
          rw [r0]
          refine x_bipushN (pc := 48) 6 dX10_goer_48 bp_6 ?_
          first | (guard_target =~ Wp _ _ _ _ _ (Value.int (nI _) :: Value.int (nI _) :: _) _ _ _ _; with_reducible refine x_icmp_neN (pc := 50) (tgt := 56) ?_ ?_ dX10_goer_50 ?_ (fun h50 => ?_) (fun h50 => ?_); (first | omega | exact b2n_31 _); (first | omega | exact b2n_31 _); decide) | refine x_icmp_ne (pc := 50) (tgt := 56) dX10_goer_50 (by decide) (fun h50 => ?_) (fun h50 => ?_)
          · skip
            refine x_aload_n (pc := 56) dX10_goer_56 rfl ?_
            refine x_getR (pc := 57) dX10_goer_57 flX10_26 (by first | assumption | rfl) rfl ?_
            refine x_aload_n (pc := 60) dX10_goer_60 rfl ?_
            refine x_getI (pc := 61) dX10_goer_61 flX10_7 (by first | assumption | rfl) rfl ?_
            rw [r0]
            refine x_iload_n (pc := 64) dX10_goer_64 rfl ?_
            refine x_iastN (pc := 65) dX10_goer_65 (by first | assumption | rfl) (by first | with_reducible rfl | (simp only [xlit, nI_add, pk_mul]; with_reducible rfl)) (by omega) (by decide) ?_
            refine x_aload_n (pc := 66) dX10_goer_66 rfl ?_
            refine x_getR (pc := 67) dX10_goer_67 flX10_29 (by first | assumption | rfl) rfl ?_
            refine x_aload_n (pc := 70) dX10_goer_70 rfl ?_
            refine x_getI (pc := 71) dX10_goer_71 flX10_7 (by first | assumption | rfl) rfl ?_
            rw [show (xput M 67 (s.1.1 8 0) (nI k)).1 65 0 = nI (s.1.1 8 0) from r0]
            refine x_iload_n (pc := 74) dX10_goer_74 rfl ?_
            refine x_iastN (pc := 75) dX10_goer_75 (by first | assumption | rfl) (by first | with_reducible rfl | (simp only [xlit, nI_add, pk_mul]; with_reducible rfl)) (by omega) (by decide) ?_
            refine x_aload_n (pc := 76) dX10_goer_76 rfl ?_
            refine x_getR (pc := 77) dX10_goer_77 flX10_32 (by first | assumption | rfl) rfl ?_
            refine x_aload_n (pc := 80) dX10_goer_80 rfl ?_
            refine x_getI (pc := 81) dX10_goer_81 flX10_7 (by first | assumption | rfl) rfl ?_
            rw [show (xput (xput M 67 (s.1.1 8 0) (nI k)) 68 (s.1.1 8 0) (nI v)).1 65 0 = nI (s.1.1 8 0) from r0]
            refine x_iload_n (pc := 84) dX10_goer_84 rfl ?_
            refine x_iastN (pc := 85) dX10_goer_85 (by first | assumption | rfl) (by first | with_reducible rfl | (simp only [xlit, nI_add, pk_mul]; with_reducible rfl)) (by omega) (by decide) ?_
            refine x_aload_n (pc := 86) dX10_goer_86 rfl ?_
            refine x_getR (pc := 87) dX10_goer_87 flX10_35 (by first | assumption | rfl) rfl ?_
            refine x_aload_n (pc := 90) dX10_goer_90 rfl ?_
            refine x_getI (pc := 91) dX10_goer_91 flX10_7 (by first | assumption | rfl) rfl ?_
            rw [show (xput (xput (xput M 67 (s.1.1 8 0) (nI k)) 68 (s.1.1 8 0) (nI v)) 69 (s.1.1 8 0) (nI f)).1 65 0 = nI (s.1.1 8 0) from r0]
            refine x_iload (pc := 94) dX10_goer_94 rfl ?_
            refine x_iastN (pc := 96) dX10_goer_96 (by first | assumption | rfl) (by first | with_reducible rfl | (simp only [xlit, nI_add, pk_mul]; with_reducible rfl)) (by omega) (by decide) ?_
            refine x_aload_n (pc := 97) dX10_goer_97 rfl ?_
            refine x_dup (pc := 98) dX10_goer_98 rfl ?_
            refine x_getI (pc := 99) dX10_goer_99 flX10_13 (by first | assumption | rfl) rfl ?_
            rw [show (xput (xput (xput (xput M 67 (s.1.1 8 0) (nI k)) 68 (s.1.1 8 0) (nI v)) 69 (s.1.1 8 0) (nI f)) 70 (s.1.1 8 0) (nI t)).1 65 1 = M.1 65 1 from rfl]
            refine x_iconstN (pc := 102) 1 dX10_goer_102 ic_1 ?_
            refine x_aload_n (pc := 103) dX10_goer_103 rfl ?_
            refine x_getI (pc := 104) dX10_goer_104 flX10_7 (by first | assumption | rfl) rfl ?_
            rw [show (xput (xput (xput (xput M 67 (s.1.1 8 0) (nI k)) 68 (s.1.1 8 0) (nI v)) 69 (s.1.1 8 0) (nI f)) 70 (s.1.1 8 0) (nI t)).1 65 0 = nI (s.1.1 8 0) from r0]
            first | (guard_target =~ Wp _ _ _ _ _ (Value.int (nI _) :: Value.int (nI _) :: _) _ _ _ _; with_reducible refine x_ishlN (pc := 107) ?_ dX10_goer_107 ?_; omega) | refine x_ishl (pc := 107) dX10_goer_107 ?_
            rw [Nat.one_mul]
            refine x_iconst (pc := 108) dX10_goer_108 ic_m1 ?_
            refine x_ixor (pc := 109) dX10_goer_109 ?_
            refine x_iand (pc := 110) dX10_goer_110 ?_
            rw [hgone]
            refine x_putI (pc := 111) dX10_goer_111 flX10_13 (by first | assumption | rfl) rfl rfl rfl ?_
            refine x_iconstN (pc := 114) 0 dX10_goer_114 ic_0 ?_
            refine x_istore (pc := 115) dX10_goer_115 (by decide) xs_5 (x_hp rfl) ?_
            refine loop 4 0 _ rfl rfl (fun a q0 q1 q2 q3 q4 q5 => funext fun j => ?_) (fun j q1 => ?_) rfl (fun j => ?_) (fun j => ?_) (fun j => ?_) (fun j => ?_) (fun j => ?_)
            · simp [xput, q0, q1, q2, q3, q4]
            · simp [xput, q1]
            · simp [xput]
            · simp [xput]
            · simp [xput]
            · simp [xput]
            · rw [if_neg (by omega)]; simp [xput]
          · skip
            omega
        · skip
          cases h38
      · skip
        cases h25
end P69
