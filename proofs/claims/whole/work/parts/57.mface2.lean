/-! the MODEL's calls: row, count, looked, trace -/
section P57
variable {g : XG} {d : Nat} {M : XM} {K : Option Value → XS → XM → Prop} {s : XSt}
theorem fM_row {x p n : Int32} (hB : bdA s.1.1) (hC : MC9 M s) (h : ∀ M', high M M' → MC9 M' (opRow s x p n).2 → K (some (.int (opRow s x p n).1)) xSF M') : Ex g (d + 2) yX10_row mX10_row [.ref 65, .int x, .int p, .int n] xSF M K := by
  unfold opRow at h
  have hP := hC.1.2.2.2.2.2.1
  have h6 := hB.2.1
  refine x_entry kX10_row (Nat.le_of_ble_eq_true rfl) ?_
  show Wp g _ mX10_row 0 [some (.ref 65), some (.int x), some (.int p), some (.int n), none] [] _ _ _ _
  rcases isR_cases (x := x) (n := s.1.1 8 0) (by omega) with e | ⟨j, hj, rfl, e⟩
  · simp only [e, Bool.false_eq_true, if_false, false_and] at h
    refine x_aload_n (pc := 0) dX10_row_0 rfl ?_
    refine x_iload_n (pc := 1) dX10_row_1 rfl ?_
    refine x_invV1 (pc := 2) dX10_row_2 mlX10_264 imX10_isGoer seX10_isGoer kX10_isGoer (by first | assumption | rfl) rfl (Nat.le_of_ble_eq_true rfl) (by decide) ?_
    refine sm_isGoer h6 hC.1.1 ?_
    refine x_cv rfl rfl ?_
    rw [e]
    first | (guard_target =~ Wp _ _ _ _ _ (Value.int (nI _) :: _) _ _ _ _; with_reducible refine x_if_eqN (pc := 5) (tgt := 18) ?_ dX10_row_5 ?_ (fun h5 => ?_) (fun h5 => ?_); (first | omega | exact b2n_32 _ | exact b2n_31 _); decide) | refine x_if_eq (pc := 5) (tgt := 18) dX10_row_5 (by decide) (fun h5 => ?_) (fun h5 => ?_)
    · skip
      refine x_iconst (pc := 18) dX10_row_18 ic_m1 ?_
      refine x_ret (pc := 19) (v := some _) rfl trivial dX10_row_19 (by decide) ?_
      exact h M high.rf hC
    · skip
      exact absurd rfl h5
  rcases isR_cases (x := p) (n := 4) (by omega) with e2 | ⟨k, hk, rfl, e2⟩
  · simp only [e2, Bool.false_eq_true, if_false, and_false] at h
    refine x_aload_n (pc := 0) dX10_row_0 rfl ?_
    refine x_iload_n (pc := 1) dX10_row_1 rfl ?_
    refine x_invV1 (pc := 2) dX10_row_2 mlX10_264 imX10_isGoer seX10_isGoer kX10_isGoer (by first | assumption | rfl) rfl (Nat.le_of_ble_eq_true rfl) (by decide) ?_
    refine sm_isGoer h6 hC.1.1 ?_
    refine x_cv rfl rfl ?_
    rw [e]
    first | (guard_target =~ Wp _ _ _ _ _ (Value.int (nI _) :: _) _ _ _ _; with_reducible refine x_if_eqN (pc := 5) (tgt := 18) ?_ dX10_row_5 ?_ (fun h5 => ?_) (fun h5 => ?_); (first | omega | exact b2n_32 _ | exact b2n_31 _); decide) | refine x_if_eq (pc := 5) (tgt := 18) dX10_row_5 (by decide) (fun h5 => ?_) (fun h5 => ?_)
    · skip
      cases h5
    · skip
      refine x_aload_n (pc := 8) dX10_row_8 rfl ?_
      refine x_iload_n (pc := 9) dX10_row_9 rfl ?_
      refine x_iconstN (pc := 10) 0 dX10_row_10 ic_0 ?_
      refine x_iconstN (pc := 11) 3 dX10_row_11 ic_3 ?_
      refine x_invV3 (pc := 12) dX10_row_12 mlX10_253 imX10_in seX10_in kX10_in (by first | assumption | rfl) rfl (Nat.le_of_ble_eq_true rfl) (by decide) ?_
      refine sm_in ?_
      refine x_cv rfl rfl ?_
      rw [btw_isR (by decide), show isR p (nI (3 + 1)) = false from e2]
      first | (guard_target =~ Wp _ _ _ _ _ (Value.int (nI _) :: _) _ _ _ _; with_reducible refine x_if_neN (pc := 15) (tgt := 20) ?_ dX10_row_15 ?_ (fun h15 => ?_) (fun h15 => ?_); (first | omega | exact b2n_32 _ | exact b2n_31 _); decide) | refine x_if_ne (pc := 15) (tgt := 20) dX10_row_15 (by decide) (fun h15 => ?_) (fun h15 => ?_)
      · skip
        exact absurd rfl h15
      · skip
        refine x_iconst (pc := 18) dX10_row_18 ic_m1 ?_
        refine x_ret (pc := 19) (v := some _) rfl trivial dX10_row_19 (by decide) ?_
        exact h M high.rf hC
  simp only [e, e2, and_self, if_true] at h
  rw [toN_nI (by omega), toN_nI (by omega)] at h
  have hkb : s.1.1 1 j < 7 := hB.1 1 (by decide) j (show j < 6 by omega)
  rcases isR_cases (x := n) (n := 10) (by omega) with e3 | ⟨v, hv, rfl, e3⟩
  · simp only [e3, Bool.false_eq_true, if_false] at h
    refine x_aload_n (pc := 0) dX10_row_0 rfl ?_
    refine x_iload_n (pc := 1) dX10_row_1 rfl ?_
    refine x_invV1 (pc := 2) dX10_row_2 mlX10_264 imX10_isGoer seX10_isGoer kX10_isGoer (by first | assumption | rfl) rfl (Nat.le_of_ble_eq_true rfl) (by decide) ?_
    refine sm_isGoer h6 hC.1.1 ?_
    refine x_cv rfl rfl ?_
    rw [e]
    first | (guard_target =~ Wp _ _ _ _ _ (Value.int (nI _) :: _) _ _ _ _; with_reducible refine x_if_eqN (pc := 5) (tgt := 18) ?_ dX10_row_5 ?_ (fun h5 => ?_) (fun h5 => ?_); (first | omega | exact b2n_32 _ | exact b2n_31 _); decide) | refine x_if_eq (pc := 5) (tgt := 18) dX10_row_5 (by decide) (fun h5 => ?_) (fun h5 => ?_)
    · skip
      cases h5
    · skip
      refine x_aload_n (pc := 8) dX10_row_8 rfl ?_
      refine x_iload_n (pc := 9) dX10_row_9 rfl ?_
      refine x_iconstN (pc := 10) 0 dX10_row_10 ic_0 ?_
      refine x_iconstN (pc := 11) 3 dX10_row_11 ic_3 ?_
      refine x_invV3 (pc := 12) dX10_row_12 mlX10_253 imX10_in seX10_in kX10_in (by first | assumption | rfl) rfl (Nat.le_of_ble_eq_true rfl) (by decide) ?_
      refine sm_in ?_
      refine x_cv rfl rfl ?_
      rw [btw_isR (by decide), show isR (nI k) (nI (3 + 1)) = true from e2]
      first | (guard_target =~ Wp _ _ _ _ _ (Value.int (nI _) :: _) _ _ _ _; with_reducible refine x_if_neN (pc := 15) (tgt := 20) ?_ dX10_row_15 ?_ (fun h15 => ?_) (fun h15 => ?_); (first | omega | exact b2n_32 _ | exact b2n_31 _); decide) | refine x_if_ne (pc := 15) (tgt := 20) dX10_row_15 (by decide) (fun h15 => ?_) (fun h15 => ?_)
      · skip
        refine x_aload_n (pc := 20) dX10_row_20 rfl ?_
        refine x_iload_n (pc := 21) dX10_row_21 rfl ?_
        refine x_iconstN (pc := 22) 0 dX10_row_22 ic_0 ?_
        refine x_bipushN (pc := 23) 9 dX10_row_23 bp_9 ?_
        refine x_invV3 (pc := 25) dX10_row_25 mlX10_253 imX10_in seX10_in kX10_in (by first | assumption | rfl) rfl (Nat.le_of_ble_eq_true rfl) (by decide) ?_
        refine sm_in ?_
        refine x_cv rfl rfl ?_
        rw [btw_isR (by decide), show isR n (nI (9 + 1)) = false from e3]
        first | (guard_target =~ Wp _ _ _ _ _ (Value.int (nI _) :: _) _ _ _ _; with_reducible refine x_if_neN (pc := 28) (tgt := 34) ?_ dX10_row_28 ?_ (fun h28 => ?_) (fun h28 => ?_); (first | omega | exact b2n_32 _ | exact b2n_31 _); decide) | refine x_if_ne (pc := 28) (tgt := 34) dX10_row_28 (by decide) (fun h28 => ?_) (fun h28 => ?_)
        · skip
          exact absurd rfl h28
        · skip
          refine x_bipush (pc := 31) dX10_row_31 bp_m2 ?_
          refine x_ret (pc := 33) (v := some _) rfl trivial dX10_row_33 (by decide) ?_
          exact h M high.rf hC
      · skip
        cases h15
  · simp only [e3, if_true] at h
    rw [toN_nI (by omega)] at h
    refine x_aload_n (pc := 0) dX10_row_0 rfl ?_
    refine x_iload_n (pc := 1) dX10_row_1 rfl ?_
    refine x_invV1 (pc := 2) dX10_row_2 mlX10_264 imX10_isGoer seX10_isGoer kX10_isGoer (by first | assumption | rfl) rfl (Nat.le_of_ble_eq_true rfl) (by decide) ?_
    refine sm_isGoer h6 hC.1.1 ?_
    refine x_cv rfl rfl ?_
    rw [e]
    first | (guard_target =~ Wp _ _ _ _ _ (Value.int (nI _) :: _) _ _ _ _; with_reducible refine x_if_eqN (pc := 5) (tgt := 18) ?_ dX10_row_5 ?_ (fun h5 => ?_) (fun h5 => ?_); (first | omega | exact b2n_32 _ | exact b2n_31 _); decide) | refine x_if_eq (pc := 5) (tgt := 18) dX10_row_5 (by decide) (fun h5 => ?_) (fun h5 => ?_)
    · skip
      cases h5
    · skip
      refine x_aload_n (pc := 8) dX10_row_8 rfl ?_
      refine x_iload_n (pc := 9) dX10_row_9 rfl ?_
      refine x_iconstN (pc := 10) 0 dX10_row_10 ic_0 ?_
      refine x_iconstN (pc := 11) 3 dX10_row_11 ic_3 ?_
      refine x_invV3 (pc := 12) dX10_row_12 mlX10_253 imX10_in seX10_in kX10_in (by first | assumption | rfl) rfl (Nat.le_of_ble_eq_true rfl) (by decide) ?_
      refine sm_in ?_
      refine x_cv rfl rfl ?_
      rw [btw_isR (by decide), show isR (nI k) (nI (3 + 1)) = true from e2]
      first | (guard_target =~ Wp _ _ _ _ _ (Value.int (nI _) :: _) _ _ _ _; with_reducible refine x_if_neN (pc := 15) (tgt := 20) ?_ dX10_row_15 ?_ (fun h15 => ?_) (fun h15 => ?_); (first | omega | exact b2n_32 _ | exact b2n_31 _); decide) | refine x_if_ne (pc := 15) (tgt := 20) dX10_row_15 (by decide) (fun h15 => ?_) (fun h15 => ?_)
      · skip
        refine x_aload_n (pc := 20) dX10_row_20 rfl ?_
        refine x_iload_n (pc := 21) dX10_row_21 rfl ?_
        refine x_iconstN (pc := 22) 0 dX10_row_22 ic_0 ?_
        refine x_bipushN (pc := 23) 9 dX10_row_23 bp_9 ?_
        refine x_invV3 (pc := 25) dX10_row_25 mlX10_253 imX10_in seX10_in kX10_in (by first | assumption | rfl) rfl (Nat.le_of_ble_eq_true rfl) (by decide) ?_
        refine sm_in ?_
        refine x_cv rfl rfl ?_
        rw [btw_isR (by decide), show isR (nI v) (nI (9 + 1)) = true from e3]
        first | (guard_target =~ Wp _ _ _ _ _ (Value.int (nI _) :: _) _ _ _ _; with_reducible refine x_if_neN (pc := 28) (tgt := 34) ?_ dX10_row_28 ?_ (fun h28 => ?_) (fun h28 => ?_); (first | omega | exact b2n_32 _ | exact b2n_31 _); decide) | refine x_if_ne (pc := 28) (tgt := 34) dX10_row_28 (by decide) (fun h28 => ?_) (fun h28 => ?_)
        · skip
          refine x_aload_n (pc := 34) dX10_row_34 rfl ?_
          refine x_getR (pc := 35) dX10_row_35 flX10_26 (by first | assumption | rfl) rfl ?_
          refine x_iload_n (pc := 38) dX10_row_38 rfl ?_
          refine x_ialdN (pc := 39) dX10_row_39 (by first | assumption | rfl) (by first | with_reducible rfl | (simp only [xlit, nI_add, pk_mul]; with_reducible rfl)) (by omega) (by decide) ?_
          rw [show M.1 67 j = nI (s.1.1 1 j) from hP 1 (by decide) j (show j < 6 by omega)]
          refine x_bipushN (pc := 40) 6 dX10_row_40 bp_6 ?_
          first | (guard_target =~ Wp _ _ _ _ _ (Value.int (nI _) :: Value.int (nI _) :: _) _ _ _ _; with_reducible refine x_icmp_eqN (pc := 42) (tgt := 48) ?_ ?_ dX10_row_42 ?_ (fun h42 => ?_) (fun h42 => ?_); (first | omega | exact b2n_31 _); (first | omega | exact b2n_31 _); decide) | refine x_icmp_eq (pc := 42) (tgt := 48) dX10_row_42 (by decide) (fun h42 => ?_) (fun h42 => ?_)
          · skip
            refine x_aload_n (pc := 48) dX10_row_48 rfl ?_
            refine x_getR (pc := 49) dX10_row_49 flX10_38 (by first | assumption | rfl) rfl ?_
            refine x_iconstN (pc := 52) 4 dX10_row_52 ic_4 ?_
            refine x_iload_n (pc := 53) dX10_row_53 rfl ?_
            first | (guard_target =~ Wp _ _ _ _ _ (Value.int (nI _) :: Value.int (nI _) :: _) _ _ _ _; with_reducible refine x_imulN (pc := 54) dX10_row_54 ?_) | refine x_imul (pc := 54) dX10_row_54 ?_
            refine x_iload_n (pc := 55) dX10_row_55 rfl ?_
            first | (guard_target =~ Wp _ _ _ _ _ (Value.int (nI _) :: Value.int (nI _) :: _) _ _ _ _; with_reducible refine x_iaddN (pc := 56) dX10_row_56 ?_) | refine x_iadd (pc := 56) dX10_row_56 ?_
            refine x_ialdN (pc := 57) dX10_row_57 (by first | assumption | rfl) (by first | with_reducible rfl | (simp only [xlit, nI_add, pk_mul]; with_reducible rfl)) (by omega) (by decide) ?_
            rw [show M.1 71 (4 * j + k) = nI (s.1.1 5 (j * 4 + k)) by rw [Nat.mul_comm]; exact hP 5 (by decide) (j * 4 + k) (show j * 4 + k < 24 by omega)]
            refine x_istore (pc := 58) dX10_row_58 (by decide) xs_4 (x_hp rfl) ?_
            refine x_aload_n (pc := 60) dX10_row_60 rfl ?_
            refine x_getR (pc := 61) dX10_row_61 flX10_38 (by first | assumption | rfl) rfl ?_
            refine x_iconstN (pc := 64) 4 dX10_row_64 ic_4 ?_
            refine x_iload_n (pc := 65) dX10_row_65 rfl ?_
            first | (guard_target =~ Wp _ _ _ _ _ (Value.int (nI _) :: Value.int (nI _) :: _) _ _ _ _; with_reducible refine x_imulN (pc := 66) dX10_row_66 ?_) | refine x_imul (pc := 66) dX10_row_66 ?_
            refine x_iload_n (pc := 67) dX10_row_67 rfl ?_
            first | (guard_target =~ Wp _ _ _ _ _ (Value.int (nI _) :: Value.int (nI _) :: _) _ _ _ _; with_reducible refine x_iaddN (pc := 68) dX10_row_68 ?_) | refine x_iadd (pc := 68) dX10_row_68 ?_
            refine x_iload_n (pc := 69) dX10_row_69 rfl ?_
            refine x_iastN (pc := 70) dX10_row_70 (by first | assumption | rfl) (by first | with_reducible rfl | (simp only [xlit, nI_add, pk_mul]; with_reducible rfl)) (by omega) (by decide) ?_
            refine x_iload (pc := 71) dX10_row_71 rfl ?_
            refine x_ret (pc := 73) (v := some _) rfl trivial dX10_row_73 (by decide) ?_
            rw [if_pos h42] at h; rw [Nat.mul_comm 4 j]; exact h _ (high.put (by decide)) (hC.row 5 (j * 4 + k) v (by decide))
          · skip
            refine x_bipush (pc := 45) dX10_row_45 bp_m3 ?_
            refine x_ret (pc := 47) (v := some _) rfl trivial dX10_row_47 (by decide) ?_
            rw [if_neg h42] at h; exact h M high.rf hC
        · skip
          cases h28
      · skip
        cases h15
theorem fM_looked (hC : MC9 M s) (hN : bdN (qN s)) (h : ∀ M', high M M' → MC9 M' s → K (some (.int (vLooked s))) xSF M') (hw : ∀ j, j < 16 → s.1.1 0 j < 10000) : Ex g d yX10_looked mX10_looked [.ref 65] xSF M K := by
  unfold vLooked at h
  have hP := hC.1.2.2.2.2.2.1
  have hB : M.1 65 44 = nI (qN s 9 0) ∧ ∀ j, j < qN s 9 0 → M.1 93 j = nI (qN s 5 j) ∧ M.1 94 j = nI (qN s 6 j) := hC.1.2.2.2.2.2.2.2.2
  have h8 := hN.2.2.2.2.2
  refine x_entry kX10_looked (Nat.le_of_ble_eq_true rfl) ?_
  show Wp g _ mX10_looked 0 [some (.ref 65), none] [] _ _ _ _
  have loop : ∀ m k, k + m = qN s 9 0 → fstO (qN s) s.1.1 m k = fstO (qN s) s.1.1 (qN s 9 0) 0 → Wp g d mX10_looked 2 [some (.ref 65), some (.int (nI k))] [] xSF (0, 0) M K := by
    intro m
    induction m with
    | zero =>
      intro k hk he
      refine x_iload_n (pc := 2) dX10_looked_2 rfl ?_
      refine x_aload_n (pc := 3) dX10_looked_3 rfl ?_
      refine x_getI (pc := 4) dX10_looked_4 flX10_144 (by first | assumption | rfl) rfl ?_
      rw [hB.1]
      first | (guard_target =~ Wp _ _ _ _ _ (Value.int (nI _) :: Value.int (nI _) :: _) _ _ _ _; with_reducible refine x_icmp_geN (pc := 7) (tgt := 38) ?_ ?_ dX10_looked_7 ?_ (fun h7 => ?_) (fun h7 => ?_); (first | omega | exact b2n_31 _); (first | omega | exact b2n_31 _); decide) | refine x_icmp_ge (pc := 7) (tgt := 38) dX10_looked_7 (by decide) (fun h7 => ?_) (fun h7 => ?_)
      · skip
        refine x_bipush (pc := 38) dX10_looked_38 bp_m5 ?_
        refine x_ret (pc := 40) (v := some _) rfl trivial dX10_looked_40 (by decide) ?_
        rw [← he] at h; exact h M high.rf hC
      · skip
        omega
    | succ m ih =>
      intro k hk he
      have hk2 : k < qN s 9 0 := by omega
      obtain ⟨b1, b2⟩ := hB.2 k hk2
      obtain ⟨b3, b4⟩ := hN.2.2.1 k hk2
      have hwk := hw _ b3
      rw [fstO] at he
      refine x_iload_n (pc := 2) dX10_looked_2 rfl ?_
      refine x_aload_n (pc := 3) dX10_looked_3 rfl ?_
      refine x_getI (pc := 4) dX10_looked_4 flX10_144 (by first | assumption | rfl) rfl ?_
      rw [hB.1]
      first | (guard_target =~ Wp _ _ _ _ _ (Value.int (nI _) :: Value.int (nI _) :: _) _ _ _ _; with_reducible refine x_icmp_geN (pc := 7) (tgt := 38) ?_ ?_ dX10_looked_7 ?_ (fun h7 => ?_) (fun h7 => ?_); (first | omega | exact b2n_31 _); (first | omega | exact b2n_31 _); decide) | refine x_icmp_ge (pc := 7) (tgt := 38) dX10_looked_7 (by decide) (fun h7 => ?_) (fun h7 => ?_)
      · skip
        omega
      · skip
        refine x_aload_n (pc := 10) dX10_looked_10 rfl ?_
        refine x_getR (pc := 11) dX10_looked_11 flX10_22 (by first | assumption | rfl) rfl ?_
        refine x_aload_n (pc := 14) dX10_looked_14 rfl ?_
        refine x_getR (pc := 15) dX10_looked_15 flX10_153 (by first | assumption | rfl) rfl ?_
        refine x_iload_n (pc := 18) dX10_looked_18 rfl ?_
        refine x_ialdN (pc := 19) dX10_looked_19 (by first | assumption | rfl) (by first | with_reducible rfl | (simp only [xlit, nI_add, pk_mul]; with_reducible rfl)) (by omega) (by decide) ?_
        rw [b1]
        refine x_ialdN (pc := 20) dX10_looked_20 (by first | assumption | rfl) (by first | with_reducible rfl | (simp only [xlit, nI_add, pk_mul]; with_reducible rfl)) (by exact b3) (by decide) ?_
        rw [show M.1 66 (qN s 5 k) = nI (s.1.1 0 (qN s 5 k)) from hP 0 (by decide) _ b3]
        refine x_aload_n (pc := 21) dX10_looked_21 rfl ?_
        refine x_getR (pc := 22) dX10_looked_22 flX10_156 (by first | assumption | rfl) rfl ?_
        refine x_iload_n (pc := 25) dX10_looked_25 rfl ?_
        refine x_ialdN (pc := 26) dX10_looked_26 (by first | assumption | rfl) (by first | with_reducible rfl | (simp only [xlit, nI_add, pk_mul]; with_reducible rfl)) (by omega) (by decide) ?_
        rw [b2]
        refine x_icmp_eq (pc := 27) (tgt := 32) dX10_looked_27 (by decide) (fun h27 => ?_) (fun h27 => ?_)
        · skip
          first | (guard_target =~ Wp _ _ _ _ (_ :: some (Value.int (nI _)) :: _) _ _ _ _ _; with_reducible refine x_iincN (pc := 32) 1 ic_1 dX10_looked_32 ?_ xg_1 xs_1 ?_ ?_; decide; exact (x_hp rfl)) | refine x_iincC (pc := 32) ic_1 dX10_looked_32 (by decide) rfl xs_1 (x_hp rfl) ?_
          refine x_goto (pc := 35) (tgt := 2) dX10_looked_35 (by decide) ?_
          rw [if_pos ((nI_eq (by omega) (by omega)).mp h27)] at he; exact ih (k + 1) (by omega) he
        · skip
          refine x_iload_n (pc := 30) dX10_looked_30 rfl ?_
          refine x_ret (pc := 31) (v := some _) rfl trivial dX10_looked_31 (by decide) ?_
          rw [if_neg (fun q => h27 (by rw [q]))] at he; rw [← he] at h; exact h M high.rf hC
  refine x_iconstN (pc := 0) 0 dX10_looked_0 ic_0 ?_
  refine x_istore_n (pc := 1) dX10_looked_1 (by decide) xs_1 (x_hp rfl) ?_
  exact loop (qN s 9 0) 0 (by omega) rfl
theorem fM_count {x : Int32} (hC : MC9 M s) (h : ∀ M', high M M' → MC9 M' s → K (some (.int (vCount s x))) xSF M') : Ex g d yX10_count mX10_count [.ref 65, .int x] xSF M K := by
  unfold vCount at h
  refine x_entry kX10_count (Nat.le_of_ble_eq_true rfl) ?_
  show Wp g _ mX10_count 0 [some (.ref 65), some (.int x)] [] _ _ _ _
  rcases isR_cases (x := x) (n := 7) (by omega) with e | ⟨j, hj, rfl, e⟩
  · simp only [e, Bool.false_eq_true, if_false] at h
    refine x_iload_n (pc := 0) dX10_count_0 rfl ?_
    refine x_tableOut (pc := 1) (tgt := 79) dX10_count_1 (isR_out (n := 6) (by decide) e) (by decide) ?_
    refine x_bipush (pc := 79) dX10_count_79 bp_m2 ?_
    refine x_ret (pc := 81) (v := some _) rfl trivial dX10_count_81 (by decide) ?_
    exact h M high.rf hC
  simp only [e, if_true] at h
  rw [toN_nI (by omega)] at h
  have hh : j = 0 ∨ j = 1 ∨ j = 2 ∨ j = 3 ∨ j = 4 ∨ j = 5 ∨ j = 6 := by omega
  rcases hh with rfl | rfl | rfl | rfl | rfl | rfl | rfl
  · skip
    refine x_iload_n (pc := 0) dX10_count_0 rfl ?_
    refine x_tableIn (pc := 1) (off := 43) (tgt := 44) dX10_count_1 (by decide) (by decide) (by decide) (by decide) ?_
    refine x_aload_n (pc := 44) dX10_count_44 rfl ?_
    refine x_getI (pc := 45) dX10_count_45 flX10_7 (by first | assumption | rfl) rfl ?_
    rw [hC.1.1]
    refine x_ret (pc := 48) (v := some _) rfl trivial dX10_count_48 (by decide) ?_
    exact h M high.rf hC
  · skip
    refine x_iload_n (pc := 0) dX10_count_0 rfl ?_
    refine x_tableIn (pc := 1) (off := 48) (tgt := 49) dX10_count_1 (by decide) (by decide) (by decide) (by decide) ?_
    refine x_aload_n (pc := 49) dX10_count_49 rfl ?_
    refine x_getI (pc := 50) dX10_count_50 flX10_41 (by first | assumption | rfl) rfl ?_
    rw [hC.2.2.1.1]
    refine x_ret (pc := 53) (v := some _) rfl trivial dX10_count_53 (by decide) ?_
    exact h M high.rf hC
  · skip
    refine x_iload_n (pc := 0) dX10_count_0 rfl ?_
    refine x_tableIn (pc := 1) (off := 53) (tgt := 54) dX10_count_1 (by decide) (by decide) (by decide) (by decide) ?_
    refine x_aload_n (pc := 54) dX10_count_54 rfl ?_
    refine x_getI (pc := 55) dX10_count_55 flX10_129 (by first | assumption | rfl) rfl ?_
    rw [hC.1.2.2.2.2.2.2.1.1]
    refine x_ret (pc := 58) (v := some _) rfl trivial dX10_count_58 (by decide) ?_
    exact h M high.rf hC
  · skip
    refine x_iload_n (pc := 0) dX10_count_0 rfl ?_
    refine x_tableIn (pc := 1) (off := 58) (tgt := 59) dX10_count_1 (by decide) (by decide) (by decide) (by decide) ?_
    refine x_aload_n (pc := 59) dX10_count_59 rfl ?_
    refine x_getI (pc := 60) dX10_count_60 flX10_141 (by first | assumption | rfl) rfl ?_
    rw [hC.1.2.2.2.2.2.2.2.1.1]
    refine x_ret (pc := 63) (v := some _) rfl trivial dX10_count_63 (by decide) ?_
    exact h M high.rf hC
  · skip
    refine x_iload_n (pc := 0) dX10_count_0 rfl ?_
    refine x_tableIn (pc := 1) (off := 63) (tgt := 64) dX10_count_1 (by decide) (by decide) (by decide) (by decide) ?_
    refine x_aload_n (pc := 64) dX10_count_64 rfl ?_
    refine x_getI (pc := 65) dX10_count_65 flX10_144 (by first | assumption | rfl) rfl ?_
    rw [hC.1.2.2.2.2.2.2.2.2.1]
    refine x_ret (pc := 68) (v := some _) rfl trivial dX10_count_68 (by decide) ?_
    exact h M high.rf hC
  · skip
    refine x_iload_n (pc := 0) dX10_count_0 rfl ?_
    refine x_tableIn (pc := 1) (off := 68) (tgt := 69) dX10_count_1 (by decide) (by decide) (by decide) (by decide) ?_
    refine x_aload_n (pc := 69) dX10_count_69 rfl ?_
    refine x_getI (pc := 70) dX10_count_70 flX10_47 (by first | assumption | rfl) rfl ?_
    rw [hC.2.2.1.2.1]
    refine x_ret (pc := 73) (v := some _) rfl trivial dX10_count_73 (by decide) ?_
    exact h M high.rf hC
  · skip
    refine x_iload_n (pc := 0) dX10_count_0 rfl ?_
    refine x_tableIn (pc := 1) (off := 73) (tgt := 74) dX10_count_1 (by decide) (by decide) (by decide) (by decide) ?_
    refine x_aload_n (pc := 74) dX10_count_74 rfl ?_
    refine x_getI (pc := 75) dX10_count_75 flX10_226 (by first | assumption | rfl) rfl ?_
    rw [hC.2.2.2.2.1.1]
    refine x_ret (pc := 78) (v := some _) rfl trivial dX10_count_78 (by decide) ?_
    exact h M high.rf hC
end P57
