/-! NOTES 2 -/
section P25
variable {g : XG} {d : Nat} {M : XM} {K : Option Value → XS → XM → Prop} {a b : Nat} {A N : XA} {w r : Int32}
theorem sp_X5_addToPlan {x n : Nat} {pn : Int32} (hx : x < 4) (hn : x ≠ 0 → pn = nI n ∧ n < 16) (hc : Nots b) (hR : NR b M N) (hno : ¬ N 8 0 < 10 → K (some (.int (nI 0))) xSF M)
    (h : N 8 0 < 10 → ∀ M', xsame b (b + 8) M M' → NR b M' (nPlan N x n) → K (some (.int (nI 1))) xSF M') : Ex g d yX5_addToPlan mX5_addToPlan [.ref b, .int (nI x), .int pn] xSF M K := by
  obtain ⟨c0, c1, c2, c3, c4, c5, c6, c7⟩ := hc
  obtain ⟨n1, n2, n3, ⟨n4, n5⟩, ⟨n6, n7⟩, n8, n9⟩ := hR
  refine x_entry kX5_addToPlan (Nat.le_of_ble_eq_true rfl) ?_
  show Wp g _ mX5_addToPlan 0 [some (.ref b), some (.int (nI x)), some (.int pn)] [] _ _ _ _
  refine x_aload_n (pc := 0) dX5_addToPlan_0 rfl ?_
  refine x_getI (pc := 1) dX5_addToPlan_1 flX5_43 (by first | assumption | rfl) rfl ?_
  first | rw [n6] | (rw [xput_ne (Or.inl (by omega)), n6]) | (rw [xput_ne (Or.inl (by omega)), xput_ne (Or.inl (by omega)), n6])
  refine x_bipushN (pc := 4) 10 dX5_addToPlan_4 bp_10 ?_
  first | (guard_target =~ Wp _ _ _ _ _ (Value.int (nI _) :: Value.int (nI _) :: _) _ _ _ _; with_reducible refine x_icmp_ltN (pc := 6) (tgt := 11) ?_ ?_ dX5_addToPlan_6 ?_ (fun h6 => ?_) (fun h6 => ?_); (first | omega | exact b2n_31 _); (first | omega | exact b2n_31 _); decide) | refine x_icmp_lt (pc := 6) (tgt := 11) dX5_addToPlan_6 (by decide) (fun h6 => ?_) (fun h6 => ?_)
  · skip
    refine x_aload_n (pc := 11) dX5_addToPlan_11 rfl ?_
    refine x_getR (pc := 12) dX5_addToPlan_12 flX5_21 (by first | assumption | rfl) rfl ?_
    refine x_aload_n (pc := 15) dX5_addToPlan_15 rfl ?_
    refine x_getI (pc := 16) dX5_addToPlan_16 flX5_43 (by first | assumption | rfl) rfl ?_
    first | rw [n6] | (rw [xput_ne (Or.inl (by omega)), n6]) | (rw [xput_ne (Or.inl (by omega)), xput_ne (Or.inl (by omega)), n6])
    refine x_iload_n (pc := 19) dX5_addToPlan_19 rfl ?_
    refine x_iastN (pc := 20) dX5_addToPlan_20 (by first | assumption | rfl) (by first | with_reducible rfl | (simp only [xlit, nI_add, pk_mul]; with_reducible rfl)) (by omega) (by decide) ?_
    refine x_aload_n (pc := 21) dX5_addToPlan_21 rfl ?_
    refine x_getR (pc := 22) dX5_addToPlan_22 flX5_24 (by first | assumption | rfl) rfl ?_
    refine x_aload_n (pc := 25) dX5_addToPlan_25 rfl ?_
    refine x_getI (pc := 26) dX5_addToPlan_26 flX5_43 (by first | assumption | rfl) rfl ?_
    first | rw [n6] | (rw [xput_ne (Or.inl (by omega)), n6]) | (rw [xput_ne (Or.inl (by omega)), xput_ne (Or.inl (by omega)), n6])
    refine x_iload_n (pc := 29) dX5_addToPlan_29 rfl ?_
    refine x_iastN (pc := 30) dX5_addToPlan_30 (by first | assumption | rfl) (by first | with_reducible rfl | (simp only [xlit, nI_add, pk_mul]; with_reducible rfl)) (by omega) (by decide) ?_
    refine x_aload_n (pc := 31) dX5_addToPlan_31 rfl ?_
    refine x_dup (pc := 32) dX5_addToPlan_32 rfl ?_
    refine x_getI (pc := 33) dX5_addToPlan_33 flX5_43 (by first | assumption | rfl) rfl ?_
    first | rw [n6] | (rw [xput_ne (Or.inl (by omega)), n6]) | (rw [xput_ne (Or.inl (by omega)), xput_ne (Or.inl (by omega)), n6])
    refine x_iconstN (pc := 36) 1 dX5_addToPlan_36 ic_1 ?_
    first | (guard_target =~ Wp _ _ _ _ _ (Value.int (nI _) :: Value.int (nI _) :: _) _ _ _ _; with_reducible refine x_iaddN (pc := 37) dX5_addToPlan_37 ?_) | refine x_iadd (pc := 37) dX5_addToPlan_37 ?_
    refine x_putI (pc := 38) dX5_addToPlan_38 flX5_43 (by first | assumption | rfl) rfl rfl rfl ?_
    refine x_iconstN (pc := 41) 1 dX5_addToPlan_41 ic_1 ?_
    refine x_ret (pc := 42) (v := some _) rfl (by first | rfl | decide | exact xrt_b) dX5_addToPlan_42 (by decide) ?_
    refine h (by omega) _ (((xsame.put (by omega) (by omega)).tr (xsame.put (by omega) (by omega))).tr (xsame.put (by omega) (by omega))) ⟨fun j hj => ?_, fun j hj => ?_, fun j hj => ?_, ?_⟩
    · obtain ⟨q1, q2, q3, q4, q5, q6⟩ := n1 j (by simpa [nPlan] using hj)
      simp [xput, nPlan, q1, q2, q3, q4, q5, q6]
    · have hj2 : j < N 8 0 + 1 := by simpa [nPlan] using hj
      by_cases hjn : j = N 8 0
      · subst hjn
        simp only [xput, nPlan]
        simp [hx]
        exact fun z => hn z
      · obtain ⟨q1, q2, q3⟩ := n2 j (by omega)
        simp only [xput, nPlan]
        simp [hjn, q1, q2]
        exact fun z => q3 z
    · obtain ⟨q1, q2, q3, q4⟩ := n3 j (by simpa [nPlan] using hj)
      simp [xput, nPlan, q1, q2, q3, q4]
    · simp [xput, nPlan, n4, n5, n6, n7, n8, n9]; omega
  · skip
    refine x_iconstN (pc := 9) 0 dX5_addToPlan_9 ic_0 ?_
    refine x_ret (pc := 10) (v := some _) rfl (by first | rfl | decide | exact xrt_b) dX5_addToPlan_10 (by decide) ?_
    exact hno (by omega)
theorem sp_X5_addToBook {x n : Nat} (hx : x < 16) (hn : n < 10000) (hc : Nots b) (hR : NR b M N) (hno : ¬ N 9 0 < 8 → K (some (.int (nI 0))) xSF M)
    (h : N 9 0 < 8 → ∀ M', xsame b (b + 8) M M' → NR b M' (nBook N x n) → K (some (.int (nI 1))) xSF M') : Ex g d yX5_addToBook mX5_addToBook [.ref b, .int (nI x), .int (nI n)] xSF M K := by
  obtain ⟨c0, c1, c2, c3, c4, c5, c6, c7⟩ := hc
  obtain ⟨n1, n2, n3, ⟨n4, n5⟩, ⟨n6, n7⟩, n8, n9⟩ := hR
  refine x_entry kX5_addToBook (Nat.le_of_ble_eq_true rfl) ?_
  show Wp g _ mX5_addToBook 0 [some (.ref b), some (.int (nI x)), some (.int (nI n))] [] _ _ _ _
  refine x_aload_n (pc := 0) dX5_addToBook_0 rfl ?_
  refine x_getI (pc := 1) dX5_addToBook_1 flX5_46 (by first | assumption | rfl) rfl ?_
  first | rw [n8] | (rw [xput_ne (Or.inl (by omega)), n8]) | (rw [xput_ne (Or.inl (by omega)), xput_ne (Or.inl (by omega)), n8])
  refine x_bipushN (pc := 4) 8 dX5_addToBook_4 bp_8 ?_
  first | (guard_target =~ Wp _ _ _ _ _ (Value.int (nI _) :: Value.int (nI _) :: _) _ _ _ _; with_reducible refine x_icmp_ltN (pc := 6) (tgt := 11) ?_ ?_ dX5_addToBook_6 ?_ (fun h6 => ?_) (fun h6 => ?_); (first | omega | exact b2n_31 _); (first | omega | exact b2n_31 _); decide) | refine x_icmp_lt (pc := 6) (tgt := 11) dX5_addToBook_6 (by decide) (fun h6 => ?_) (fun h6 => ?_)
  · skip
    refine x_aload_n (pc := 11) dX5_addToBook_11 rfl ?_
    refine x_getR (pc := 12) dX5_addToBook_12 flX5_27 (by first | assumption | rfl) rfl ?_
    refine x_aload_n (pc := 15) dX5_addToBook_15 rfl ?_
    refine x_getI (pc := 16) dX5_addToBook_16 flX5_46 (by first | assumption | rfl) rfl ?_
    first | rw [n8] | (rw [xput_ne (Or.inl (by omega)), n8]) | (rw [xput_ne (Or.inl (by omega)), xput_ne (Or.inl (by omega)), n8])
    refine x_iload_n (pc := 19) dX5_addToBook_19 rfl ?_
    refine x_iastN (pc := 20) dX5_addToBook_20 (by first | assumption | rfl) (by first | with_reducible rfl | (simp only [xlit, nI_add, pk_mul]; with_reducible rfl)) (by omega) (by decide) ?_
    refine x_aload_n (pc := 21) dX5_addToBook_21 rfl ?_
    refine x_getR (pc := 22) dX5_addToBook_22 flX5_30 (by first | assumption | rfl) rfl ?_
    refine x_aload_n (pc := 25) dX5_addToBook_25 rfl ?_
    refine x_getI (pc := 26) dX5_addToBook_26 flX5_46 (by first | assumption | rfl) rfl ?_
    first | rw [n8] | (rw [xput_ne (Or.inl (by omega)), n8]) | (rw [xput_ne (Or.inl (by omega)), xput_ne (Or.inl (by omega)), n8])
    refine x_iload_n (pc := 29) dX5_addToBook_29 rfl ?_
    refine x_iastN (pc := 30) dX5_addToBook_30 (by first | assumption | rfl) (by first | with_reducible rfl | (simp only [xlit, nI_add, pk_mul]; with_reducible rfl)) (by omega) (by decide) ?_
    refine x_aload_n (pc := 31) dX5_addToBook_31 rfl ?_
    refine x_dup (pc := 32) dX5_addToBook_32 rfl ?_
    refine x_getI (pc := 33) dX5_addToBook_33 flX5_46 (by first | assumption | rfl) rfl ?_
    first | rw [n8] | (rw [xput_ne (Or.inl (by omega)), n8]) | (rw [xput_ne (Or.inl (by omega)), xput_ne (Or.inl (by omega)), n8])
    refine x_iconstN (pc := 36) 1 dX5_addToBook_36 ic_1 ?_
    first | (guard_target =~ Wp _ _ _ _ _ (Value.int (nI _) :: Value.int (nI _) :: _) _ _ _ _; with_reducible refine x_iaddN (pc := 37) dX5_addToBook_37 ?_) | refine x_iadd (pc := 37) dX5_addToBook_37 ?_
    refine x_putI (pc := 38) dX5_addToBook_38 flX5_46 (by first | assumption | rfl) rfl rfl rfl ?_
    refine x_iconstN (pc := 41) 1 dX5_addToBook_41 ic_1 ?_
    refine x_ret (pc := 42) (v := some _) rfl (by first | rfl | decide | exact xrt_b) dX5_addToBook_42 (by decide) ?_
    refine h (by omega) _ (((xsame.put (by omega) (by omega)).tr (xsame.put (by omega) (by omega))).tr (xsame.put (by omega) (by omega))) ⟨fun j hj => ?_, fun j hj => ?_, fun j hj => ?_, ?_⟩
    · obtain ⟨q1, q2, q3, q4, q5, q6⟩ := n1 j (by simpa [nBook] using hj)
      simp [xput, nBook, q1, q2, q3, q4, q5, q6]
    · obtain ⟨q1, q2, q3⟩ := n2 j (by simpa [nBook] using hj)
      simp only [xput, nBook]
      simp [q1, q2]
      exact fun z => q3 z
    · have hj2 : j < N 9 0 + 1 := by simpa [nBook] using hj
      by_cases hjn : j = N 9 0
      · subst hjn
        simp [xput, nBook, hx, hn]
      · obtain ⟨q1, q2, q3, q4⟩ := n3 j (by omega)
        simp [xput, nBook, hjn, q1, q2, q3, q4]
    · simp [xput, nBook, n4, n5, n6, n7, n8, n9]; omega
  · skip
    refine x_iconstN (pc := 9) 0 dX5_addToBook_9 ic_0 ?_
    refine x_ret (pc := 10) (v := some _) rfl (by first | rfl | decide | exact xrt_b) dX5_addToBook_10 (by decide) ?_
    exact hno (by omega)
theorem sp_X5_isAllSeenSo (hc : Nots b) (hR : NR b M N) (hca : Car a) (hA : CR a M A w r) (h : K (some (.int (nI (b2n (seenOk N A w))))) xSF M) : Ex g (d + 3) yX5_isAllSeenSo mX5_isAllSeenSo [.ref b, .ref a] xSF M K := by
  obtain ⟨c0, c1, c2, c3, c4, c5, c6, c7⟩ := hc
  obtain ⟨e0, -⟩ := id hca
  obtain ⟨h1, h2, h3, ⟨h4, h5⟩, -⟩ := hR
  refine x_entry kX5_isAllSeenSo (Nat.le_of_ble_eq_true rfl) ?_
  show Wp g _ mX5_isAllSeenSo 0 [some (.ref b), some (.ref a), none] [] _ _ _ _
  have loop : ∀ n k, k + n = N 7 0 → allN (fun k => decide (gainA A w (N 0 k) (N 2 k) = N 1 k)) k = true → Wp g (d + 3) mX5_isAllSeenSo 2 [some (.ref b), some (.ref a), some (.int (nI k))] [] xSF (0, 0) M K := by
    intro n
    induction n with
    | zero =>
      intro k hk hall
      obtain rfl : k = N 7 0 := by omega
      refine x_iload_n (pc := 2) dX5_isAllSeenSo_2 rfl ?_
      refine x_aload_n (pc := 3) dX5_isAllSeenSo_3 rfl ?_
      refine x_getI (pc := 4) dX5_isAllSeenSo_4 flX5_39 (by first | assumption | rfl) rfl ?_
      rw [h4]
      first | (guard_target =~ Wp _ _ _ _ _ (Value.int (nI _) :: Value.int (nI _) :: _) _ _ _ _; with_reducible refine x_icmp_geN (pc := 7) (tgt := 48) ?_ ?_ dX5_isAllSeenSo_7 ?_ (fun h7 => ?_) (fun h7 => ?_); (first | omega | exact b2n_31 _); (first | omega | exact b2n_31 _); decide) | refine x_icmp_ge (pc := 7) (tgt := 48) dX5_isAllSeenSo_7 (by decide) (fun h7 => ?_) (fun h7 => ?_)
      · skip
        refine x_iconstN (pc := 48) 1 dX5_isAllSeenSo_48 ic_1 ?_
        refine x_ret (pc := 49) (v := some _) rfl (by first | rfl | decide | exact xrt_b) dX5_isAllSeenSo_49 (by decide) ?_
        rw [show seenOk N A w = true from hall] at h; exact h
      · skip
        omega
    | succ n ih =>
      intro k hk hall
      obtain ⟨q1, q2, q3, q4, q5, q6⟩ := h1 k (by omega)
      have hgb := gainA_le (days := N 2 k) hA q2
      have hgb2 : 6 * (11 * N 2 k * 999) ≤ 1318680 := by have := Nat.mul_le_mul_right 999 (Nat.mul_le_mul_left 11 q6); omega
      refine x_iload_n (pc := 2) dX5_isAllSeenSo_2 rfl ?_
      refine x_aload_n (pc := 3) dX5_isAllSeenSo_3 rfl ?_
      refine x_getI (pc := 4) dX5_isAllSeenSo_4 flX5_39 (by first | assumption | rfl) rfl ?_
      rw [h4]
      first | (guard_target =~ Wp _ _ _ _ _ (Value.int (nI _) :: Value.int (nI _) :: _) _ _ _ _; with_reducible refine x_icmp_geN (pc := 7) (tgt := 48) ?_ ?_ dX5_isAllSeenSo_7 ?_ (fun h7 => ?_) (fun h7 => ?_); (first | omega | exact b2n_31 _); (first | omega | exact b2n_31 _); decide) | refine x_icmp_ge (pc := 7) (tgt := 48) dX5_isAllSeenSo_7 (by decide) (fun h7 => ?_) (fun h7 => ?_)
      · skip
        omega
      · skip
        refine x_iload_n (pc := 10) dX5_isAllSeenSo_10 rfl ?_
        refine x_iconstN (pc := 11) 5 dX5_isAllSeenSo_11 ic_5 ?_
        first | (guard_target =~ Wp _ _ _ _ _ (Value.int (nI _) :: Value.int (nI _) :: _) _ _ _ _; with_reducible refine x_icmp_geN (pc := 12) (tgt := 48) ?_ ?_ dX5_isAllSeenSo_12 ?_ (fun h12 => ?_) (fun h12 => ?_); (first | omega | exact b2n_31 _); (first | omega | exact b2n_31 _); decide) | refine x_icmp_ge (pc := 12) (tgt := 48) dX5_isAllSeenSo_12 (by decide) (fun h12 => ?_) (fun h12 => ?_)
        · skip
          omega
        · skip
          refine x_aload_n (pc := 15) dX5_isAllSeenSo_15 rfl ?_
          refine x_aload_n (pc := 16) dX5_isAllSeenSo_16 rfl ?_
          refine x_getR (pc := 17) dX5_isAllSeenSo_17 flX5_11 (by first | assumption | rfl) rfl ?_
          refine x_iload_n (pc := 20) dX5_isAllSeenSo_20 rfl ?_
          refine x_ialdN (pc := 21) dX5_isAllSeenSo_21 (by first | assumption | rfl) (by first | with_reducible rfl | (simp only [xlit, nI_add, pk_mul]; with_reducible rfl)) (by omega) (by decide) ?_
          rw [q1]
          refine x_aload_n (pc := 22) dX5_isAllSeenSo_22 rfl ?_
          refine x_getR (pc := 23) dX5_isAllSeenSo_23 flX5_18 (by first | assumption | rfl) rfl ?_
          refine x_iload_n (pc := 26) dX5_isAllSeenSo_26 rfl ?_
          refine x_ialdN (pc := 27) dX5_isAllSeenSo_27 (by first | assumption | rfl) (by first | with_reducible rfl | (simp only [xlit, nI_add, pk_mul]; with_reducible rfl)) (by omega) (by decide) ?_
          rw [q5]
          refine x_invV2 (pc := 28) dX5_isAllSeenSo_28 mlX5_49 imX2_gain seX2_gain kX2_gain (by first | assumption | rfl) rfl (Nat.le_of_ble_eq_true rfl) (by decide) ?_
          refine sp_X2_gain q2 (by omega) hca hA ?_
          refine x_cv rfl rfl ?_
          refine x_aload_n (pc := 31) dX5_isAllSeenSo_31 rfl ?_
          refine x_getR (pc := 32) dX5_isAllSeenSo_32 flX5_15 (by first | assumption | rfl) rfl ?_
          refine x_iload_n (pc := 35) dX5_isAllSeenSo_35 rfl ?_
          refine x_ialdN (pc := 36) dX5_isAllSeenSo_36 (by first | assumption | rfl) (by first | with_reducible rfl | (simp only [xlit, nI_add, pk_mul]; with_reducible rfl)) (by omega) (by decide) ?_
          rw [q3]
          first | (guard_target =~ Wp _ _ _ _ _ (Value.int (nI _) :: Value.int (nI _) :: _) _ _ _ _; with_reducible refine x_icmp_eqN (pc := 37) (tgt := 42) ?_ ?_ dX5_isAllSeenSo_37 ?_ (fun h37 => ?_) (fun h37 => ?_); (first | omega | exact b2n_31 _); (first | omega | exact b2n_31 _); decide) | refine x_icmp_eq (pc := 37) (tgt := 42) dX5_isAllSeenSo_37 (by decide) (fun h37 => ?_) (fun h37 => ?_)
          · skip
            first | (guard_target =~ Wp _ _ _ _ (_ :: _ :: some (Value.int (nI _)) :: _) _ _ _ _ _; with_reducible refine x_iincN (pc := 42) 1 ic_1 dX5_isAllSeenSo_42 ?_ xg_2 xs_2 ?_ ?_; decide; exact (x_hp rfl)) | refine x_iincC (pc := 42) ic_1 dX5_isAllSeenSo_42 (by decide) rfl xs_2 (x_hp rfl) ?_
            refine x_goto (pc := 45) (tgt := 2) dX5_isAllSeenSo_45 (by decide) ?_
            refine ih (k + 1) (by omega) ?_
            rw [allN, hall, decide_eq_true h37]; rfl
          · skip
            refine x_iconstN (pc := 40) 0 dX5_isAllSeenSo_40 ic_0 ?_
            refine x_ret (pc := 41) (v := some _) rfl (by first | rfl | decide | exact xrt_b) dX5_isAllSeenSo_41 (by decide) ?_
            have hf : seenOk N A w = false := by
              cases hs : seenOk N A w with
              | false => rfl
              | true => exact absurd (of_decide_eq_true (allN_iff.mp hs k (by omega))) h37
            rw [hf] at h; exact h
  refine x_iconstN (pc := 0) 0 dX5_isAllSeenSo_0 ic_0 ?_
  refine x_istore_n (pc := 1) dX5_isAllSeenSo_1 (by decide) xs_2 (x_hp rfl) ?_
  exact loop (N 7 0) 0 (by omega) rfl
theorem sp_X5_firstOtherwise (hc : Nots b) (hR : NR b M N) (hca : Car a) (hA : CR a M A w r) (h : K (some (.int (fstO N A (N 9 0) 0))) xSF M) : Ex g d yX5_firstOtherwise mX5_firstOtherwise [.ref b, .ref a] xSF M K := by
  obtain ⟨c0, c1, c2, c3, c4, c5, c6, c7⟩ := hc
  obtain ⟨e0, e1, -⟩ := id hca
  obtain ⟨h1, h2, h3, -, -, h8, h9⟩ := hR
  refine x_entry kX5_firstOtherwise (Nat.le_of_ble_eq_true rfl) ?_
  show Wp g _ mX5_firstOtherwise 0 [some (.ref b), some (.ref a), none] [] _ _ _ _
  have loop : ∀ n k, k + n = N 9 0 → fstO N A n k = fstO N A (N 9 0) 0 → Wp g d mX5_firstOtherwise 2 [some (.ref b), some (.ref a), some (.int (nI k))] [] xSF (0, 0) M K := by
    intro n
    induction n with
    | zero =>
      intro k hk he
      obtain rfl : k = N 9 0 := by omega
      refine x_iload_n (pc := 2) dX5_firstOtherwise_2 rfl ?_
      refine x_aload_n (pc := 3) dX5_firstOtherwise_3 rfl ?_
      refine x_getI (pc := 4) dX5_firstOtherwise_4 flX5_46 (by first | assumption | rfl) rfl ?_
      rw [h8]
      first | (guard_target =~ Wp _ _ _ _ _ (Value.int (nI _) :: Value.int (nI _) :: _) _ _ _ _; with_reducible refine x_icmp_geN (pc := 7) (tgt := 44) ?_ ?_ dX5_firstOtherwise_7 ?_ (fun h7 => ?_) (fun h7 => ?_); (first | omega | exact b2n_31 _); (first | omega | exact b2n_31 _); decide) | refine x_icmp_ge (pc := 7) (tgt := 44) dX5_firstOtherwise_7 (by decide) (fun h7 => ?_) (fun h7 => ?_)
      · skip
        refine x_bipush (pc := 44) dX5_firstOtherwise_44 bp_m5 ?_
        refine x_ret (pc := 46) (v := some _) rfl trivial dX5_firstOtherwise_46 (by decide) ?_
        rw [← he] at h; exact h
      · skip
        omega
    | succ n ih =>
      intro k hk he
      obtain ⟨q1, q2, q3, q4⟩ := h3 k (by omega)
      have hwb := hA.wearB q2
      rw [fstO] at he
      refine x_iload_n (pc := 2) dX5_firstOtherwise_2 rfl ?_
      refine x_aload_n (pc := 3) dX5_firstOtherwise_3 rfl ?_
      refine x_getI (pc := 4) dX5_firstOtherwise_4 flX5_46 (by first | assumption | rfl) rfl ?_
      rw [h8]
      first | (guard_target =~ Wp _ _ _ _ _ (Value.int (nI _) :: Value.int (nI _) :: _) _ _ _ _; with_reducible refine x_icmp_geN (pc := 7) (tgt := 44) ?_ ?_ dX5_firstOtherwise_7 ?_ (fun h7 => ?_) (fun h7 => ?_); (first | omega | exact b2n_31 _); (first | omega | exact b2n_31 _); decide) | refine x_icmp_ge (pc := 7) (tgt := 44) dX5_firstOtherwise_7 (by decide) (fun h7 => ?_) (fun h7 => ?_)
      · skip
        omega
      · skip
        refine x_iload_n (pc := 10) dX5_firstOtherwise_10 rfl ?_
        refine x_bipushN (pc := 11) 8 dX5_firstOtherwise_11 bp_8 ?_
        first | (guard_target =~ Wp _ _ _ _ _ (Value.int (nI _) :: Value.int (nI _) :: _) _ _ _ _; with_reducible refine x_icmp_geN (pc := 13) (tgt := 44) ?_ ?_ dX5_firstOtherwise_13 ?_ (fun h13 => ?_) (fun h13 => ?_); (first | omega | exact b2n_31 _); (first | omega | exact b2n_31 _); decide) | refine x_icmp_ge (pc := 13) (tgt := 44) dX5_firstOtherwise_13 (by decide) (fun h13 => ?_) (fun h13 => ?_)
        · skip
          omega
        · skip
          refine x_aload_n (pc := 16) dX5_firstOtherwise_16 rfl ?_
          refine x_getR (pc := 17) dX5_firstOtherwise_17 flX5_55 (by first | assumption | rfl) rfl ?_
          refine x_aload_n (pc := 20) dX5_firstOtherwise_20 rfl ?_
          refine x_getR (pc := 21) dX5_firstOtherwise_21 flX5_27 (by first | assumption | rfl) rfl ?_
          refine x_iload_n (pc := 24) dX5_firstOtherwise_24 rfl ?_
          refine x_ialdN (pc := 25) dX5_firstOtherwise_25 (by first | assumption | rfl) (by first | with_reducible rfl | (simp only [xlit, nI_add, pk_mul]; with_reducible rfl)) (by omega) (by decide) ?_
          rw [q1]
          refine x_ialdN (pc := 26) dX5_firstOtherwise_26 (by first | assumption | rfl) (by first | with_reducible rfl | (simp only [xlit, nI_add, pk_mul]; with_reducible rfl)) (by omega) (by decide) ?_
          rw [hA.wear q2]
          refine x_aload_n (pc := 27) dX5_firstOtherwise_27 rfl ?_
          refine x_getR (pc := 28) dX5_firstOtherwise_28 flX5_30 (by first | assumption | rfl) rfl ?_
          refine x_iload_n (pc := 31) dX5_firstOtherwise_31 rfl ?_
          refine x_ialdN (pc := 32) dX5_firstOtherwise_32 (by first | assumption | rfl) (by first | with_reducible rfl | (simp only [xlit, nI_add, pk_mul]; with_reducible rfl)) (by omega) (by decide) ?_
          rw [q3]
          first | (guard_target =~ Wp _ _ _ _ _ (Value.int (nI _) :: Value.int (nI _) :: _) _ _ _ _; with_reducible refine x_icmp_eqN (pc := 33) (tgt := 38) ?_ ?_ dX5_firstOtherwise_33 ?_ (fun h33 => ?_) (fun h33 => ?_); (first | omega | exact b2n_31 _); (first | omega | exact b2n_31 _); decide) | refine x_icmp_eq (pc := 33) (tgt := 38) dX5_firstOtherwise_33 (by decide) (fun h33 => ?_) (fun h33 => ?_)
          · skip
            first | (guard_target =~ Wp _ _ _ _ (_ :: _ :: some (Value.int (nI _)) :: _) _ _ _ _ _; with_reducible refine x_iincN (pc := 38) 1 ic_1 dX5_firstOtherwise_38 ?_ xg_2 xs_2 ?_ ?_; decide; exact (x_hp rfl)) | refine x_iincC (pc := 38) ic_1 dX5_firstOtherwise_38 (by decide) rfl xs_2 (x_hp rfl) ?_
            refine x_goto (pc := 41) (tgt := 2) dX5_firstOtherwise_41 (by decide) ?_
            refine ih (k + 1) (by omega) ?_
            rw [if_pos h33] at he; exact he
          · skip
            refine x_iload_n (pc := 36) dX5_firstOtherwise_36 rfl ?_
            refine x_ret (pc := 37) (v := some _) rfl trivial dX5_firstOtherwise_37 (by decide) ?_
            rw [if_neg h33] at he; rw [← he] at h; exact h
  refine x_iconstN (pc := 0) 0 dX5_firstOtherwise_0 ic_0 ?_
  refine x_istore_n (pc := 1) dX5_firstOtherwise_1 (by decide) xs_2 (x_hp rfl) ?_
  exact loop (N 9 0) 0 (by omega) rfl
def NI (b c : Nat) (M : XM) (k : Nat) (M1 : XM) : Prop := xsame b (b + 8) M M1 ∧ ∀ k', k' < k → ∀ j, j < ([5, 5, 5, 10, 10, 8, 8] : List Nat).getD k' 0 → M1.1 (b + 1 + k') j = M.1 (c + 1 + k') j
theorem nc_step {m : XMe} {pc : Nat} {ls : XL} {st : List Value} {B : Nat × Nat} {c k n : Nat} {M0 : XM} (hab : b + 8 ≤ c ∨ c + 8 ≤ b) (hI : NI b c M k M0) (hk : k < 7) (hn : ([5, 5, 5, 10, 10, 8, 8] : List Nat).getD k 0 = n)
    (kk : ∀ M1, NI b c M (k + 1) M1 → Wp g d m pc ls st xSF B M1 K) : Wp g d m pc ls st xSF B (xcpy M0 (c + 1 + k) (b + 1 + k) (nI 0).toNatClampNeg (nI 0).toNatClampNeg (nI n).toNatClampNeg) K := by
  have h31 : n < 2 ^ 31 := by
    have h : ∀ k, k < 7 → ([5, 5, 5, 10, 10, 8, 8] : List Nat).getD k 0 < 2 ^ 31 := by decide +kernel
    rw [← hn]; exact h k hk
  have e0 : (nI 0).toNatClampNeg = 0 := by decide
  have en : (nI n).toNatClampNeg = n := nI_clamp h31
  obtain ⟨h1, h2⟩ := hI
  refine kk _ ⟨h1.tr ⟨fun q hq => ?_, rfl⟩, fun k' hk' j hj => ?_⟩
  · have : ¬ q = b + 1 + k := by omega
    funext i; simp [xcpy, xrow, this]
  · rw [e0, en]
    by_cases hkk : k' = k
    · subst hkk
      have e : M0.1 (c + 1 + k') = M.1 (c + 1 + k') := h1.1 _ (by omega)
      have hjn : j < n := by omega
      simp [xcpy, xrow, va_cpy, hjn, e]
    · have : ¬ b + 1 + k' = b + 1 + k := by omega
      simp only [xcpy, xrow, if_neg this]
      exact h2 k' (by omega) j hj
theorem xput3_ne {M : XM} {b q i k1 k2 k3 : Nat} {x1 x2 x3 : Int32} (hq : q ≠ b) : (xput (xput (xput M b k1 x1) b k2 x2) b k3 x3).1 q i = M.1 q i := by simp [xput, hq]
theorem sp_X5_become {c : Nat} (hab : b + 8 ≤ c ∨ c + 8 ≤ b) (hc : Nots b) (hcb : Nots c) (hR : NR c M N)
    (h : ∀ M', xsame b (b + 8) M M' → NR b M' N → K none xSF M') : Ex g (d + 1) yX5_become mX5_become [.ref b, .ref c] xSF M K := by
  obtain ⟨c0, c1, c2, c3, c4, c5, c6, c7⟩ := hc
  obtain ⟨b0, b1, b2, b3, b4, b5, b6, b7⟩ := hcb
  refine x_entry kX5_become (Nat.le_of_ble_eq_true rfl) ?_
  show Wp g _ mX5_become 0 [some (.ref b), some (.ref c)] [] _ _ _ _
  have hI0 : NI b c M 0 M := ⟨xsame.rf, fun k' hk' => by omega⟩
  refine x_aload_n (pc := 0) dX5_become_0 rfl ?_
  refine x_getR (pc := 1) dX5_become_1 flX5_11 (by first | assumption | rfl) rfl ?_
  refine x_iconstN (pc := 4) 0 dX5_become_4 ic_0 ?_
  refine x_aload_n (pc := 5) dX5_become_5 rfl ?_
  refine x_getR (pc := 6) dX5_become_6 flX5_11 (by first | assumption | rfl) rfl ?_
  refine x_iconstN (pc := 9) 0 dX5_become_9 ic_0 ?_
  refine x_iconstN (pc := 10) 5 dX5_become_10 ic_5 ?_
  refine x_copyI (pc := 11) rfl dX5_become_11 mlX5_33 natCpy stCpy iniSys (by first | assumption | rfl) (by first | assumption | rfl) (by decide) (by decide) (by decide) (by decide) (by decide) (by decide) ?_
  refine nc_step (k := 0) hab hI0 (by decide) rfl (fun M1 hI1 => ?_)
  refine x_aload_n (pc := 14) dX5_become_14 rfl ?_
  refine x_getR (pc := 15) dX5_become_15 flX5_15 (by first | assumption | rfl) rfl ?_
  refine x_iconstN (pc := 18) 0 dX5_become_18 ic_0 ?_
  refine x_aload_n (pc := 19) dX5_become_19 rfl ?_
  refine x_getR (pc := 20) dX5_become_20 flX5_15 (by first | assumption | rfl) rfl ?_
  refine x_iconstN (pc := 23) 0 dX5_become_23 ic_0 ?_
  refine x_iconstN (pc := 24) 5 dX5_become_24 ic_5 ?_
  refine x_copyI (pc := 25) rfl dX5_become_25 mlX5_33 natCpy stCpy iniSys (by first | assumption | rfl) (by first | assumption | rfl) (by decide) (by decide) (by decide) (by decide) (by decide) (by decide) ?_
  refine nc_step (k := 1) hab hI1 (by decide) rfl (fun M2 hI2 => ?_)
  refine x_aload_n (pc := 28) dX5_become_28 rfl ?_
  refine x_getR (pc := 29) dX5_become_29 flX5_18 (by first | assumption | rfl) rfl ?_
  refine x_iconstN (pc := 32) 0 dX5_become_32 ic_0 ?_
  refine x_aload_n (pc := 33) dX5_become_33 rfl ?_
  refine x_getR (pc := 34) dX5_become_34 flX5_18 (by first | assumption | rfl) rfl ?_
  refine x_iconstN (pc := 37) 0 dX5_become_37 ic_0 ?_
  refine x_iconstN (pc := 38) 5 dX5_become_38 ic_5 ?_
  refine x_copyI (pc := 39) rfl dX5_become_39 mlX5_33 natCpy stCpy iniSys (by first | assumption | rfl) (by first | assumption | rfl) (by decide) (by decide) (by decide) (by decide) (by decide) (by decide) ?_
  refine nc_step (k := 2) hab hI2 (by decide) rfl (fun M3 hI3 => ?_)
  refine x_aload_n (pc := 42) dX5_become_42 rfl ?_
  refine x_getR (pc := 43) dX5_become_43 flX5_21 (by first | assumption | rfl) rfl ?_
  refine x_iconstN (pc := 46) 0 dX5_become_46 ic_0 ?_
  refine x_aload_n (pc := 47) dX5_become_47 rfl ?_
  refine x_getR (pc := 48) dX5_become_48 flX5_21 (by first | assumption | rfl) rfl ?_
  refine x_iconstN (pc := 51) 0 dX5_become_51 ic_0 ?_
  refine x_bipushN (pc := 52) 10 dX5_become_52 bp_10 ?_
  refine x_copyI (pc := 54) rfl dX5_become_54 mlX5_33 natCpy stCpy iniSys (by first | assumption | rfl) (by first | assumption | rfl) (by decide) (by decide) (by decide) (by decide) (by decide) (by decide) ?_
  refine nc_step (k := 3) hab hI3 (by decide) rfl (fun M4 hI4 => ?_)
  refine x_aload_n (pc := 57) dX5_become_57 rfl ?_
  refine x_getR (pc := 58) dX5_become_58 flX5_24 (by first | assumption | rfl) rfl ?_
  refine x_iconstN (pc := 61) 0 dX5_become_61 ic_0 ?_
  refine x_aload_n (pc := 62) dX5_become_62 rfl ?_
  refine x_getR (pc := 63) dX5_become_63 flX5_24 (by first | assumption | rfl) rfl ?_
  refine x_iconstN (pc := 66) 0 dX5_become_66 ic_0 ?_
  refine x_bipushN (pc := 67) 10 dX5_become_67 bp_10 ?_
  refine x_copyI (pc := 69) rfl dX5_become_69 mlX5_33 natCpy stCpy iniSys (by first | assumption | rfl) (by first | assumption | rfl) (by decide) (by decide) (by decide) (by decide) (by decide) (by decide) ?_
  refine nc_step (k := 4) hab hI4 (by decide) rfl (fun M5 hI5 => ?_)
  refine x_aload_n (pc := 72) dX5_become_72 rfl ?_
  refine x_getR (pc := 73) dX5_become_73 flX5_27 (by first | assumption | rfl) rfl ?_
  refine x_iconstN (pc := 76) 0 dX5_become_76 ic_0 ?_
  refine x_aload_n (pc := 77) dX5_become_77 rfl ?_
  refine x_getR (pc := 78) dX5_become_78 flX5_27 (by first | assumption | rfl) rfl ?_
  refine x_iconstN (pc := 81) 0 dX5_become_81 ic_0 ?_
  refine x_bipushN (pc := 82) 8 dX5_become_82 bp_8 ?_
  refine x_copyI (pc := 84) rfl dX5_become_84 mlX5_33 natCpy stCpy iniSys (by first | assumption | rfl) (by first | assumption | rfl) (by decide) (by decide) (by decide) (by decide) (by decide) (by decide) ?_
  refine nc_step (k := 5) hab hI5 (by decide) rfl (fun M6 hI6 => ?_)
  refine x_aload_n (pc := 87) dX5_become_87 rfl ?_
  refine x_getR (pc := 88) dX5_become_88 flX5_30 (by first | assumption | rfl) rfl ?_
  refine x_iconstN (pc := 91) 0 dX5_become_91 ic_0 ?_
  refine x_aload_n (pc := 92) dX5_become_92 rfl ?_
  refine x_getR (pc := 93) dX5_become_93 flX5_30 (by first | assumption | rfl) rfl ?_
  refine x_iconstN (pc := 96) 0 dX5_become_96 ic_0 ?_
  refine x_bipushN (pc := 97) 8 dX5_become_97 bp_8 ?_
  refine x_copyI (pc := 99) rfl dX5_become_99 mlX5_33 natCpy stCpy iniSys (by first | assumption | rfl) (by first | assumption | rfl) (by decide) (by decide) (by decide) (by decide) (by decide) (by decide) ?_
  refine nc_step (k := 6) hab hI6 (by decide) rfl (fun M7 hI7 => ?_)
  refine x_aload_n (pc := 102) dX5_become_102 rfl ?_
  refine x_aload_n (pc := 103) dX5_become_103 rfl ?_
  refine x_getI (pc := 104) dX5_become_104 flX5_39 (by first | assumption | rfl) rfl ?_
  refine x_putI (pc := 107) dX5_become_107 flX5_39 (by first | assumption | rfl) rfl rfl rfl ?_
  refine x_aload_n (pc := 110) dX5_become_110 rfl ?_
  refine x_aload_n (pc := 111) dX5_become_111 rfl ?_
  refine x_getI (pc := 112) dX5_become_112 flX5_43 (by first | assumption | rfl) rfl ?_
  refine x_putI (pc := 115) dX5_become_115 flX5_43 (by first | assumption | rfl) rfl rfl rfl ?_
  refine x_aload_n (pc := 118) dX5_become_118 rfl ?_
  refine x_aload_n (pc := 119) dX5_become_119 rfl ?_
  refine x_getI (pc := 120) dX5_become_120 flX5_46 (by first | assumption | rfl) rfl ?_
  refine x_putI (pc := 123) dX5_become_123 flX5_46 (by first | assumption | rfl) rfl rfl rfl ?_
  refine x_ret (pc := 126) (v := none) rfl trivial dX5_become_126 (by decide) ?_
  refine h _ (((hI7.1.tr (xsame.put (by omega) (by omega))).tr (xsame.put (by omega) (by omega))).tr (xsame.put (by omega) (by omega))) ?_
  have eb : M7.1 c = M.1 c := hI7.1.1 c (by omega)
  have hba : ¬ c = b := by omega
  obtain ⟨h1, h2, h3, ⟨h4, h5⟩, ⟨h6, h7⟩, h8, h9⟩ := hR
  have g0 := hI7.2 0 (by decide)
  have g1 := hI7.2 1 (by decide)
  have g2 := hI7.2 2 (by decide)
  have g3 := hI7.2 3 (by decide)
  have g4 := hI7.2 4 (by decide)
  have g5 := hI7.2 5 (by decide)
  have g6 := hI7.2 6 (by decide)
  refine ⟨fun j hj => ?_, fun j hj => ?_, fun j hj => ?_, ?_⟩
  · obtain ⟨q1, q2, q3, q4, q5, q6⟩ := h1 j hj
    rw [xput3_ne (by omega), xput3_ne (by omega), xput3_ne (by omega)]
    exact ⟨(g0 j (by show j < 5; omega)).trans q1, q2, (g1 j (by show j < 5; omega)).trans q3, q4, (g2 j (by show j < 5; omega)).trans q5, q6⟩
  · obtain ⟨q1, q2, q3⟩ := h2 j hj
    rw [xput3_ne (by omega), xput3_ne (by omega)]
    exact ⟨(g3 j (by show j < 10; omega)).trans q1, q2, fun z => ⟨(g4 j (by show j < 10; omega)).trans (q3 z).1, (q3 z).2⟩⟩
  · obtain ⟨q1, q2, q3, q4⟩ := h3 j hj
    rw [xput3_ne (by omega), xput3_ne (by omega)]
    exact ⟨(g5 j (by show j < 8; omega)).trans q1, q2, (g6 j (by show j < 8; omega)).trans q3, q4⟩
  · simp [xput, hba, eb, h4, h5, h6, h7, h8, h9]
end P25
