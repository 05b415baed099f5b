/-! the MODEL's calls: tape, item, read, shift, judge -/
section P65
variable {g : XG} {d : Nat} {M : XM} {K : Option Value → XS → XM → Prop} {s : XSt}
theorem fM_tape {t x n : Int32} (hC : MC9 M s) (h : ∀ M', high M M' → MC9 M' (opTape s t x n).2 → K (some (.int (opTape s t x n).1)) xSF M') : Ex g (d + 2) yX10_tape mX10_tape [.ref 65, .int t, .int x, .int n] xSF M K := by
  unfold opTape at h
  have hT : TR 109 111 M (sT s) (sI s) := hC.2.2.2.1
  refine x_entry kX10_tape (Nat.le_of_ble_eq_true rfl) ?_
  show Wp g _ mX10_tape 0 [some (.ref 65), some (.int t), some (.int x), some (.int n), none] [] _ _ _ _
  rcases isR_cases (x := t) (n := 6) (by omega) with e | ⟨t, ht, rfl, e⟩
  · simp only [e, Bool.false_eq_true, if_false] at h
    refine x_aload_n (pc := 0) dX10_tape_0 rfl ?_
    refine x_iload_n (pc := 1) dX10_tape_1 rfl ?_
    refine x_invV1 (pc := 2) dX10_tape_2 mlX10_436 imX10_isTape seX10_isTape kX10_isTape (by first | assumption | rfl) rfl (Nat.le_of_ble_eq_true rfl) (by decide) ?_
    refine sm_isTape ?_
    refine x_cv rfl rfl ?_
    rw [e]
    first | (guard_target =~ Wp _ _ _ _ _ (Value.int (nI _) :: _) _ _ _ _; with_reducible refine x_if_neN (pc := 5) (tgt := 10) ?_ dX10_tape_5 ?_ (fun h5 => ?_) (fun h5 => ?_); (first | omega | exact b2n_32 _ | exact b2n_31 _); decide) | refine x_if_ne (pc := 5) (tgt := 10) dX10_tape_5 (by decide) (fun h5 => ?_) (fun h5 => ?_)
    · skip
      exact absurd rfl h5
    · skip
      refine x_iconst (pc := 8) dX10_tape_8 ic_m1 ?_
      refine x_ret (pc := 9) (v := some _) rfl trivial dX10_tape_9 (by decide) ?_
      exact h M high.rf hC
  simp only [e, if_true] at h
  rw [toN_nI (by omega)] at h
  rcases btw_srt (x := x) with e2 | ⟨k, hk, rfl, e2⟩
  · simp only [e2, Bool.false_eq_true, if_false] at h
    refine x_aload_n (pc := 0) dX10_tape_0 rfl ?_
    refine x_iload_n (pc := 1) dX10_tape_1 rfl ?_
    refine x_invV1 (pc := 2) dX10_tape_2 mlX10_436 imX10_isTape seX10_isTape kX10_isTape (by first | assumption | rfl) rfl (Nat.le_of_ble_eq_true rfl) (by decide) ?_
    refine sm_isTape ?_
    refine x_cv rfl rfl ?_
    rw [e]
    first | (guard_target =~ Wp _ _ _ _ _ (Value.int (nI _) :: _) _ _ _ _; with_reducible refine x_if_neN (pc := 5) (tgt := 10) ?_ dX10_tape_5 ?_ (fun h5 => ?_) (fun h5 => ?_); (first | omega | exact b2n_32 _ | exact b2n_31 _); decide) | refine x_if_ne (pc := 5) (tgt := 10) dX10_tape_5 (by decide) (fun h5 => ?_) (fun h5 => ?_)
    · skip
      refine x_aload_n (pc := 10) dX10_tape_10 rfl ?_
      refine x_iload_n (pc := 11) dX10_tape_11 rfl ?_
      refine x_iconst (pc := 12) dX10_tape_12 ic_m1 ?_
      refine x_iconstN (pc := 13) 4 dX10_tape_13 ic_4 ?_
      refine x_invV3 (pc := 14) dX10_tape_14 mlX10_253 imX10_in seX10_in kX10_in (by first | assumption | rfl) rfl (Nat.le_of_ble_eq_true rfl) (by decide) ?_
      refine sm_in ?_
      refine x_cv rfl rfl ?_
      rw [e2]
      first | (guard_target =~ Wp _ _ _ _ _ (Value.int (nI _) :: _) _ _ _ _; with_reducible refine x_if_eqN (pc := 17) (tgt := 30) ?_ dX10_tape_17 ?_ (fun h17 => ?_) (fun h17 => ?_); (first | omega | exact b2n_32 _ | exact b2n_31 _); decide) | refine x_if_eq (pc := 17) (tgt := 30) dX10_tape_17 (by decide) (fun h17 => ?_) (fun h17 => ?_)
      · skip
        refine x_bipush (pc := 30) dX10_tape_30 bp_m2 ?_
        refine x_ret (pc := 32) (v := some _) rfl trivial dX10_tape_32 (by decide) ?_
        exact h M high.rf hC
      · skip
        exact absurd rfl h17
    · skip
      cases h5
  simp only [e2, if_true] at h
  have loop : ∀ z n, z ≤ 60 → (∀ M', high M M' → MC9 M' (tpSt s (updA (updA (sT s) 0 t k) 1 t z) (iRen (sI s) t)) → K (some (.int 1)) xSF M') → ∀ m i M', i + m = 60 → M'.1 = (xput (xput M 109 t (srt k)) 110 t (nI z)).1 → (∀ a j, M'.2 a j = if a = 111 ∧ 60 * t ≤ j ∧ j < 60 * t + i then 0 else M.2 a j) → Wp g (d + 2) mX10_tape 69 [some (.ref 65), some (.int (nI t)), some (.int (srt k)), some (.int n), some (.int (nI i))] [] xSF (0, 0) M' K := by
    intro z n hz hK m
    have fin : ∀ M', M'.1 = (xput (xput M 109 t (srt k)) 110 t (nI z)).1 → (∀ a j, M'.2 a j = if a = 111 ∧ 60 * t ≤ j ∧ j < 60 * t + 60 then 0 else M.2 a j) → K (some (.int 1)) xSF M' := by
      intro M' q1 q2
      have q3 : ∀ w, w 109 t = false → w 110 t = false → ksm w M M' := fun w z1 z2 a k q => by rw [q1]; exact ((ksm.put z1).tr (ksm.put z2)) a k q
      refine hK M' ⟨fun a n1 => ?_, fun a n1 => ?_⟩ (hC.upT (q3 _ rfl rfl) (q3 _ rfl rfl) (q3 _ rfl rfl) (q3 _ rfl rfl) (q3 _ rfl rfl) ⟨fun u hu => ?_, fun j hj => ?_⟩)
      · rw [q1]
        funext j
        simp [xput, show a ≠ 109 by omega, show a ≠ 110 by omega]
      · funext j
        rw [q2, if_neg (by omega)]
      · obtain ⟨f1, f2, f3, f4⟩ := hT.1 u hu
        rw [q1]
        by_cases hut : u = t
        · subst hut
          simp [xput, updA, hk, hz]
        · simp [xput, updA, hut, f1, f2, f3, f4]
      · rw [q2, hT.2 j hj]
        simp [iRen]
    induction m with
    | zero =>
      intro i M' hi q1 q2
      obtain rfl : i = 60 := by omega
      refine x_iload (pc := 69) dX10_tape_69 rfl ?_
      refine x_bipushN (pc := 71) 60 dX10_tape_71 bp_60 ?_
      first | (guard_target =~ Wp _ _ _ _ _ (Value.int (nI _) :: Value.int (nI _) :: _) _ _ _ _; with_reducible refine x_icmp_geN (pc := 73) (tgt := 95) ?_ ?_ dX10_tape_73 ?_ (fun h73 => ?_) (fun h73 => ?_); (first | omega | exact b2n_31 _); (first | omega | exact b2n_31 _); decide) | refine x_icmp_ge (pc := 73) (tgt := 95) dX10_tape_73 (by decide) (fun h73 => ?_) (fun h73 => ?_)
      · skip
        refine x_iconstN (pc := 95) 1 dX10_tape_95 ic_1 ?_
        refine x_ret (pc := 96) (v := some _) rfl trivial dX10_tape_96 (by decide) ?_
        exact fin M' q1 q2
      · skip
        omega
    | succ m ih =>
      intro i M' hi q1 q2
      refine x_iload (pc := 69) dX10_tape_69 rfl ?_
      refine x_bipushN (pc := 71) 60 dX10_tape_71 bp_60 ?_
      first | (guard_target =~ Wp _ _ _ _ _ (Value.int (nI _) :: Value.int (nI _) :: _) _ _ _ _; with_reducible refine x_icmp_geN (pc := 73) (tgt := 95) ?_ ?_ dX10_tape_73 ?_ (fun h73 => ?_) (fun h73 => ?_); (first | omega | exact b2n_31 _); (first | omega | exact b2n_31 _); decide) | refine x_icmp_ge (pc := 73) (tgt := 95) dX10_tape_73 (by decide) (fun h73 => ?_) (fun h73 => ?_)
      · skip
        omega
      · skip
        refine x_aload_n (pc := 76) dX10_tape_76 rfl ?_
        refine x_getR (pc := 77) dX10_tape_77 flX10_238 (by first | assumption | rfl) rfl ?_
        refine x_bipushN (pc := 80) 60 dX10_tape_80 bp_60 ?_
        refine x_iload_n (pc := 82) dX10_tape_82 rfl ?_
        first | (guard_target =~ Wp _ _ _ _ _ (Value.int (nI _) :: Value.int (nI _) :: _) _ _ _ _; with_reducible refine x_imulN (pc := 83) dX10_tape_83 ?_) | refine x_imul (pc := 83) dX10_tape_83 ?_
        refine x_iload (pc := 84) dX10_tape_84 rfl ?_
        first | (guard_target =~ Wp _ _ _ _ _ (Value.int (nI _) :: Value.int (nI _) :: _) _ _ _ _; with_reducible refine x_iaddN (pc := 86) dX10_tape_86 ?_) | refine x_iadd (pc := 86) dX10_tape_86 ?_
        refine x_lconst (pc := 87) (v := 0) dX10_tape_87 (by decide) ?_
        refine x_lastN (pc := 88) dX10_tape_88 (by first | assumption | rfl) (by first | with_reducible rfl | (simp only [xlit, nI_add, pk_mul]; with_reducible rfl)) (by omega) (by decide) ?_
        first | (guard_target =~ Wp _ _ _ _ (_ :: _ :: _ :: _ :: some (Value.int (nI _)) :: _) _ _ _ _ _; with_reducible refine x_iincN (pc := 89) 1 ic_1 dX10_tape_89 ?_ xg_4 xs_4 ?_ ?_; decide; exact (x_hp rfl)) | refine x_iincC (pc := 89) ic_1 dX10_tape_89 (by decide) rfl xs_4 (x_hp rfl) ?_
        refine x_goto (pc := 92) (tgt := 69) dX10_tape_92 (by decide) ?_
        refine ih (i + 1) _ (by omega) q1 (fun a j => ?_)
        show (if _ then _ else _) = _
        rw [q2]
        by_cases ha : a = 111
        · subst ha
          by_cases hj : j = 60 * t + i
          · subst hj; simp
          · simp only [hj, and_false, if_false, true_and]
            have e : (60 * t ≤ j ∧ j < 60 * t + i) ↔ (60 * t ≤ j ∧ j < 60 * t + (i + 1)) := by omega
            simp only [e]
        · simp [ha]
  by_cases h0 : k = 0
  · subst h0
    rw [if_pos (show srt 0 = -1 from rfl)] at h
    refine x_aload_n (pc := 0) dX10_tape_0 rfl ?_
    refine x_iload_n (pc := 1) dX10_tape_1 rfl ?_
    refine x_invV1 (pc := 2) dX10_tape_2 mlX10_436 imX10_isTape seX10_isTape kX10_isTape (by first | assumption | rfl) rfl (Nat.le_of_ble_eq_true rfl) (by decide) ?_
    refine sm_isTape ?_
    refine x_cv rfl rfl ?_
    rw [e]
    first | (guard_target =~ Wp _ _ _ _ _ (Value.int (nI _) :: _) _ _ _ _; with_reducible refine x_if_neN (pc := 5) (tgt := 10) ?_ dX10_tape_5 ?_ (fun h5 => ?_) (fun h5 => ?_); (first | omega | exact b2n_32 _ | exact b2n_31 _); decide) | refine x_if_ne (pc := 5) (tgt := 10) dX10_tape_5 (by decide) (fun h5 => ?_) (fun h5 => ?_)
    · skip
      refine x_aload_n (pc := 10) dX10_tape_10 rfl ?_
      refine x_iload_n (pc := 11) dX10_tape_11 rfl ?_
      refine x_iconst (pc := 12) dX10_tape_12 ic_m1 ?_
      refine x_iconstN (pc := 13) 4 dX10_tape_13 ic_4 ?_
      refine x_invV3 (pc := 14) dX10_tape_14 mlX10_253 imX10_in seX10_in kX10_in (by first | assumption | rfl) rfl (Nat.le_of_ble_eq_true rfl) (by decide) ?_
      refine sm_in ?_
      refine x_cv rfl rfl ?_
      rw [e2]
      first | (guard_target =~ Wp _ _ _ _ _ (Value.int (nI _) :: _) _ _ _ _; with_reducible refine x_if_eqN (pc := 17) (tgt := 30) ?_ dX10_tape_17 ?_ (fun h17 => ?_) (fun h17 => ?_); (first | omega | exact b2n_32 _ | exact b2n_31 _); decide) | refine x_if_eq (pc := 17) (tgt := 30) dX10_tape_17 (by decide) (fun h17 => ?_) (fun h17 => ?_)
      · skip
        cases h17
      · skip
        refine x_iload_n (pc := 20) dX10_tape_20 rfl ?_
        refine x_if_lt (pc := 21) (tgt := 33) dX10_tape_21 (by decide) (fun h21 => ?_) (fun h21 => ?_)
        · skip
          refine x_iload_n (pc := 33) dX10_tape_33 rfl ?_
          refine x_if_lt (pc := 34) (tgt := 44) dX10_tape_34 (by decide) (fun h34 => ?_) (fun h34 => ?_)
          · skip
            refine x_aload_n (pc := 44) dX10_tape_44 rfl ?_
            refine x_getR (pc := 45) dX10_tape_45 flX10_232 (by first | assumption | rfl) rfl ?_
            refine x_iload_n (pc := 48) dX10_tape_48 rfl ?_
            refine x_iload_n (pc := 49) dX10_tape_49 rfl ?_
            refine x_iastN (pc := 50) dX10_tape_50 (by first | assumption | rfl) (by first | with_reducible rfl | (simp only [xlit, nI_add, pk_mul]; with_reducible rfl)) (by omega) (by decide) ?_
            refine x_aload_n (pc := 51) dX10_tape_51 rfl ?_
            refine x_getR (pc := 52) dX10_tape_52 flX10_235 (by first | assumption | rfl) rfl ?_
            refine x_iload_n (pc := 55) dX10_tape_55 rfl ?_
            refine x_iload_n (pc := 56) dX10_tape_56 rfl ?_
            refine x_if_ge (pc := 57) (tgt := 64) dX10_tape_57 (by decide) (fun h57 => ?_) (fun h57 => ?_)
            · skip
              exact absurd h57 (by decide)
            · skip
              refine x_iconstN (pc := 60) 0 dX10_tape_60 ic_0 ?_
              refine x_goto (pc := 61) (tgt := 65) dX10_tape_61 (by decide) ?_
              refine x_iastN (pc := 65) dX10_tape_65 (by first | assumption | rfl) (by first | with_reducible rfl | (simp only [xlit, nI_add, pk_mul]; with_reducible rfl)) (by omega) (by decide) ?_
              refine x_iconstN (pc := 66) 0 dX10_tape_66 ic_0 ?_
              refine x_istore (pc := 67) dX10_tape_67 (by decide) xs_4 (x_hp rfl) ?_
              exact loop 0 n (by decide) h 60 0 _ rfl rfl (fun a j => (if_neg (by omega)).symm)
          · skip
            exact absurd (by decide) h34
        · skip
          exact absurd (by decide) h21
    · skip
      cases h5
  have hm1 : ¬ srt k = -1 := fun q => h0 ((srt_m1 hk).mp q)
  have hm2 : ¬ srt k < 0 := fun q => h0 ((srt_neg hk).mp q)
  rw [if_neg hm1] at h
  by_cases hn : nI 60 < n
  · rw [if_pos hn] at h
    refine x_aload_n (pc := 0) dX10_tape_0 rfl ?_
    refine x_iload_n (pc := 1) dX10_tape_1 rfl ?_
    refine x_invV1 (pc := 2) dX10_tape_2 mlX10_436 imX10_isTape seX10_isTape kX10_isTape (by first | assumption | rfl) rfl (Nat.le_of_ble_eq_true rfl) (by decide) ?_
    refine sm_isTape ?_
    refine x_cv rfl rfl ?_
    rw [e]
    first | (guard_target =~ Wp _ _ _ _ _ (Value.int (nI _) :: _) _ _ _ _; with_reducible refine x_if_neN (pc := 5) (tgt := 10) ?_ dX10_tape_5 ?_ (fun h5 => ?_) (fun h5 => ?_); (first | omega | exact b2n_32 _ | exact b2n_31 _); decide) | refine x_if_ne (pc := 5) (tgt := 10) dX10_tape_5 (by decide) (fun h5 => ?_) (fun h5 => ?_)
    · skip
      refine x_aload_n (pc := 10) dX10_tape_10 rfl ?_
      refine x_iload_n (pc := 11) dX10_tape_11 rfl ?_
      refine x_iconst (pc := 12) dX10_tape_12 ic_m1 ?_
      refine x_iconstN (pc := 13) 4 dX10_tape_13 ic_4 ?_
      refine x_invV3 (pc := 14) dX10_tape_14 mlX10_253 imX10_in seX10_in kX10_in (by first | assumption | rfl) rfl (Nat.le_of_ble_eq_true rfl) (by decide) ?_
      refine sm_in ?_
      refine x_cv rfl rfl ?_
      rw [e2]
      first | (guard_target =~ Wp _ _ _ _ _ (Value.int (nI _) :: _) _ _ _ _; with_reducible refine x_if_eqN (pc := 17) (tgt := 30) ?_ dX10_tape_17 ?_ (fun h17 => ?_) (fun h17 => ?_); (first | omega | exact b2n_32 _ | exact b2n_31 _); decide) | refine x_if_eq (pc := 17) (tgt := 30) dX10_tape_17 (by decide) (fun h17 => ?_) (fun h17 => ?_)
      · skip
        cases h17
      · skip
        refine x_iload_n (pc := 20) dX10_tape_20 rfl ?_
        refine x_if_lt (pc := 21) (tgt := 33) dX10_tape_21 (by decide) (fun h21 => ?_) (fun h21 => ?_)
        · skip
          exact absurd h21 hm2
        · skip
          refine x_iload_n (pc := 24) dX10_tape_24 rfl ?_
          refine x_bipushN (pc := 25) 60 dX10_tape_25 bp_60 ?_
          refine x_icmp_le (pc := 27) (tgt := 33) dX10_tape_27 (by decide) (fun h27 => ?_) (fun h27 => ?_)
          · skip
            exact absurd hn (Int32.not_lt.mpr h27)
          · skip
            refine x_bipush (pc := 30) dX10_tape_30 bp_m2 ?_
            refine x_ret (pc := 32) (v := some _) rfl trivial dX10_tape_32 (by decide) ?_
            exact h M high.rf hC
    · skip
      cases h5
  rw [if_neg hn] at h
  by_cases hn0 : n < 0
  · rw [if_pos hn0] at h
    refine x_aload_n (pc := 0) dX10_tape_0 rfl ?_
    refine x_iload_n (pc := 1) dX10_tape_1 rfl ?_
    refine x_invV1 (pc := 2) dX10_tape_2 mlX10_436 imX10_isTape seX10_isTape kX10_isTape (by first | assumption | rfl) rfl (Nat.le_of_ble_eq_true rfl) (by decide) ?_
    refine sm_isTape ?_
    refine x_cv rfl rfl ?_
    rw [e]
    first | (guard_target =~ Wp _ _ _ _ _ (Value.int (nI _) :: _) _ _ _ _; with_reducible refine x_if_neN (pc := 5) (tgt := 10) ?_ dX10_tape_5 ?_ (fun h5 => ?_) (fun h5 => ?_); (first | omega | exact b2n_32 _ | exact b2n_31 _); decide) | refine x_if_ne (pc := 5) (tgt := 10) dX10_tape_5 (by decide) (fun h5 => ?_) (fun h5 => ?_)
    · skip
      refine x_aload_n (pc := 10) dX10_tape_10 rfl ?_
      refine x_iload_n (pc := 11) dX10_tape_11 rfl ?_
      refine x_iconst (pc := 12) dX10_tape_12 ic_m1 ?_
      refine x_iconstN (pc := 13) 4 dX10_tape_13 ic_4 ?_
      refine x_invV3 (pc := 14) dX10_tape_14 mlX10_253 imX10_in seX10_in kX10_in (by first | assumption | rfl) rfl (Nat.le_of_ble_eq_true rfl) (by decide) ?_
      refine sm_in ?_
      refine x_cv rfl rfl ?_
      rw [e2]
      first | (guard_target =~ Wp _ _ _ _ _ (Value.int (nI _) :: _) _ _ _ _; with_reducible refine x_if_eqN (pc := 17) (tgt := 30) ?_ dX10_tape_17 ?_ (fun h17 => ?_) (fun h17 => ?_); (first | omega | exact b2n_32 _ | exact b2n_31 _); decide) | refine x_if_eq (pc := 17) (tgt := 30) dX10_tape_17 (by decide) (fun h17 => ?_) (fun h17 => ?_)
      · skip
        cases h17
      · skip
        refine x_iload_n (pc := 20) dX10_tape_20 rfl ?_
        refine x_if_lt (pc := 21) (tgt := 33) dX10_tape_21 (by decide) (fun h21 => ?_) (fun h21 => ?_)
        · skip
          exact absurd h21 hm2
        · skip
          refine x_iload_n (pc := 24) dX10_tape_24 rfl ?_
          refine x_bipushN (pc := 25) 60 dX10_tape_25 bp_60 ?_
          refine x_icmp_le (pc := 27) (tgt := 33) dX10_tape_27 (by decide) (fun h27 => ?_) (fun h27 => ?_)
          · skip
            refine x_iload_n (pc := 33) dX10_tape_33 rfl ?_
            refine x_if_lt (pc := 34) (tgt := 44) dX10_tape_34 (by decide) (fun h34 => ?_) (fun h34 => ?_)
            · skip
              exact absurd h34 hm2
            · skip
              refine x_iload_n (pc := 37) dX10_tape_37 rfl ?_
              refine x_if_ge (pc := 38) (tgt := 44) dX10_tape_38 (by decide) (fun h38 => ?_) (fun h38 => ?_)
              · skip
                exact absurd hn0 (Int32.not_lt.mpr h38)
              · skip
                refine x_bipush (pc := 41) dX10_tape_41 bp_m14 ?_
                refine x_ret (pc := 43) (v := some _) rfl trivial dX10_tape_43 (by decide) ?_
                exact h M high.rf hC
          · skip
            exact absurd (Int32.not_lt.mp hn) h27
    · skip
      cases h5
  rw [if_neg hn0] at h
  obtain ⟨z, hz, rfl⟩ := nI_of hn0
  have hz60 : z ≤ 60 := (nI_leI hz (by decide)).mp (Int32.not_lt.mp hn)
  have hkk : toN (srt k) + 1 = k := by
    obtain ⟨k', rfl⟩ : ∃ k', k = k' + 1 := ⟨k - 1, by omega⟩
    show toN (nI k') + 1 = _
    rw [toN_nI (by omega)]
  rw [hkk, toN_nI (by omega)] at h
  refine x_aload_n (pc := 0) dX10_tape_0 rfl ?_
  refine x_iload_n (pc := 1) dX10_tape_1 rfl ?_
  refine x_invV1 (pc := 2) dX10_tape_2 mlX10_436 imX10_isTape seX10_isTape kX10_isTape (by first | assumption | rfl) rfl (Nat.le_of_ble_eq_true rfl) (by decide) ?_
  refine sm_isTape ?_
  refine x_cv rfl rfl ?_
  rw [e]
  first | (guard_target =~ Wp _ _ _ _ _ (Value.int (nI _) :: _) _ _ _ _; with_reducible refine x_if_neN (pc := 5) (tgt := 10) ?_ dX10_tape_5 ?_ (fun h5 => ?_) (fun h5 => ?_); (first | omega | exact b2n_32 _ | exact b2n_31 _); decide) | refine x_if_ne (pc := 5) (tgt := 10) dX10_tape_5 (by decide) (fun h5 => ?_) (fun h5 => ?_)
  · skip
    refine x_aload_n (pc := 10) dX10_tape_10 rfl ?_
    refine x_iload_n (pc := 11) dX10_tape_11 rfl ?_
    refine x_iconst (pc := 12) dX10_tape_12 ic_m1 ?_
    refine x_iconstN (pc := 13) 4 dX10_tape_13 ic_4 ?_
    refine x_invV3 (pc := 14) dX10_tape_14 mlX10_253 imX10_in seX10_in kX10_in (by first | assumption | rfl) rfl (Nat.le_of_ble_eq_true rfl) (by decide) ?_
    refine sm_in ?_
    refine x_cv rfl rfl ?_
    rw [e2]
    first | (guard_target =~ Wp _ _ _ _ _ (Value.int (nI _) :: _) _ _ _ _; with_reducible refine x_if_eqN (pc := 17) (tgt := 30) ?_ dX10_tape_17 ?_ (fun h17 => ?_) (fun h17 => ?_); (first | omega | exact b2n_32 _ | exact b2n_31 _); decide) | refine x_if_eq (pc := 17) (tgt := 30) dX10_tape_17 (by decide) (fun h17 => ?_) (fun h17 => ?_)
    · skip
      cases h17
    · skip
      refine x_iload_n (pc := 20) dX10_tape_20 rfl ?_
      refine x_if_lt (pc := 21) (tgt := 33) dX10_tape_21 (by decide) (fun h21 => ?_) (fun h21 => ?_)
      · skip
        exact absurd h21 hm2
      · skip
        refine x_iload_n (pc := 24) dX10_tape_24 rfl ?_
        refine x_bipushN (pc := 25) 60 dX10_tape_25 bp_60 ?_
        refine x_icmp_le (pc := 27) (tgt := 33) dX10_tape_27 (by decide) (fun h27 => ?_) (fun h27 => ?_)
        · skip
          refine x_iload_n (pc := 33) dX10_tape_33 rfl ?_
          refine x_if_lt (pc := 34) (tgt := 44) dX10_tape_34 (by decide) (fun h34 => ?_) (fun h34 => ?_)
          · skip
            exact absurd h34 hm2
          · skip
            refine x_iload_n (pc := 37) dX10_tape_37 rfl ?_
            refine x_if_ge (pc := 38) (tgt := 44) dX10_tape_38 (by decide) (fun h38 => ?_) (fun h38 => ?_)
            · skip
              refine x_aload_n (pc := 44) dX10_tape_44 rfl ?_
              refine x_getR (pc := 45) dX10_tape_45 flX10_232 (by first | assumption | rfl) rfl ?_
              refine x_iload_n (pc := 48) dX10_tape_48 rfl ?_
              refine x_iload_n (pc := 49) dX10_tape_49 rfl ?_
              refine x_iastN (pc := 50) dX10_tape_50 (by first | assumption | rfl) (by first | with_reducible rfl | (simp only [xlit, nI_add, pk_mul]; with_reducible rfl)) (by omega) (by decide) ?_
              refine x_aload_n (pc := 51) dX10_tape_51 rfl ?_
              refine x_getR (pc := 52) dX10_tape_52 flX10_235 (by first | assumption | rfl) rfl ?_
              refine x_iload_n (pc := 55) dX10_tape_55 rfl ?_
              refine x_iload_n (pc := 56) dX10_tape_56 rfl ?_
              refine x_if_ge (pc := 57) (tgt := 64) dX10_tape_57 (by decide) (fun h57 => ?_) (fun h57 => ?_)
              · skip
                refine x_iload_n (pc := 64) dX10_tape_64 rfl ?_
                refine x_iastN (pc := 65) dX10_tape_65 (by first | assumption | rfl) (by first | with_reducible rfl | (simp only [xlit, nI_add, pk_mul]; with_reducible rfl)) (by omega) (by decide) ?_
                refine x_iconstN (pc := 66) 0 dX10_tape_66 ic_0 ?_
                refine x_istore (pc := 67) dX10_tape_67 (by decide) xs_4 (x_hp rfl) ?_
                exact loop z (nI z) hz60 h 60 0 _ rfl rfl (fun a j => (if_neg (by omega)).symm)
              · skip
                exact absurd (Int32.not_lt.mp hm2) h57
            · skip
              exact absurd (Int32.not_lt.mp hn0) h38
        · skip
          exact absurd (Int32.not_lt.mp hn) h27
  · skip
    cases h5
theorem fM_item {t i : Int32} {v : Int64} (hC : MC9 M s) (h : ∀ M', high M M' → MC9 M' (opItem s t i v).2 → K (some (.int (opItem s t i v).1)) xSF M') : Ex g (d + 2) yX10_item mX10_item [.ref 65, .int t, .int i, .long v] xSF M K := by
  unfold opItem at h
  have hT : TR 109 111 M (sT s) (sI s) := hC.2.2.2.1
  refine x_entry kX10_item (Nat.le_of_ble_eq_true rfl) ?_
  show Wp g _ mX10_item 0 [some (.ref 65), some (.int t), some (.int i), some (.long v), none] [] _ _ _ _
  rcases isR_cases (x := t) (n := 6) (by omega) with e | ⟨t, ht, rfl, e⟩
  · simp only [e, Bool.false_eq_true, if_false] at h
    refine x_aload_n (pc := 0) dX10_item_0 rfl ?_
    refine x_iload_n (pc := 1) dX10_item_1 rfl ?_
    refine x_invV1 (pc := 2) dX10_item_2 mlX10_436 imX10_isTape seX10_isTape kX10_isTape (by first | assumption | rfl) rfl (Nat.le_of_ble_eq_true rfl) (by decide) ?_
    refine sm_isTape ?_
    refine x_cv rfl rfl ?_
    rw [e]
    first | (guard_target =~ Wp _ _ _ _ _ (Value.int (nI _) :: _) _ _ _ _; with_reducible refine x_if_neN (pc := 5) (tgt := 10) ?_ dX10_item_5 ?_ (fun h5 => ?_) (fun h5 => ?_); (first | omega | exact b2n_32 _ | exact b2n_31 _); decide) | refine x_if_ne (pc := 5) (tgt := 10) dX10_item_5 (by decide) (fun h5 => ?_) (fun h5 => ?_)
    · skip
      exact absurd rfl h5
    · skip
      refine x_iconst (pc := 8) dX10_item_8 ic_m1 ?_
      refine x_ret (pc := 9) (v := some _) rfl trivial dX10_item_9 (by decide) ?_
      exact h M high.rf hC
  simp only [e, if_true] at h
  rw [toN_nI (by omega)] at h
  obtain ⟨f1, f2, f3, f4⟩ := hT.1 t ht
  by_cases h0 : sT s 0 t = 0
  · rw [if_pos h0] at h
    refine x_aload_n (pc := 0) dX10_item_0 rfl ?_
    refine x_iload_n (pc := 1) dX10_item_1 rfl ?_
    refine x_invV1 (pc := 2) dX10_item_2 mlX10_436 imX10_isTape seX10_isTape kX10_isTape (by first | assumption | rfl) rfl (Nat.le_of_ble_eq_true rfl) (by decide) ?_
    refine sm_isTape ?_
    refine x_cv rfl rfl ?_
    rw [e]
    first | (guard_target =~ Wp _ _ _ _ _ (Value.int (nI _) :: _) _ _ _ _; with_reducible refine x_if_neN (pc := 5) (tgt := 10) ?_ dX10_item_5 ?_ (fun h5 => ?_) (fun h5 => ?_); (first | omega | exact b2n_32 _ | exact b2n_31 _); decide) | refine x_if_ne (pc := 5) (tgt := 10) dX10_item_5 (by decide) (fun h5 => ?_) (fun h5 => ?_)
    · skip
      refine x_aload_n (pc := 10) dX10_item_10 rfl ?_
      refine x_getR (pc := 11) dX10_item_11 flX10_232 (by first | assumption | rfl) rfl ?_
      refine x_iload_n (pc := 14) dX10_item_14 rfl ?_
      refine x_ialdN (pc := 15) dX10_item_15 (by first | assumption | rfl) (by first | with_reducible rfl | (simp only [xlit, nI_add, pk_mul]; with_reducible rfl)) (by omega) (by decide) ?_
      rw [f1]
      refine x_if_ge (pc := 16) (tgt := 22) dX10_item_16 (by decide) (fun h16 => ?_) (fun h16 => ?_)
      · skip
        exact absurd ((srt_neg f2).mpr h0) (Int32.not_lt.mpr h16)
      · skip
        refine x_bipush (pc := 19) dX10_item_19 bp_m11 ?_
        refine x_ret (pc := 21) (v := some _) rfl trivial dX10_item_21 (by decide) ?_
        exact h M high.rf hC
    · skip
      cases h5
  rw [if_neg h0] at h
  have hm : ¬ srt (sT s 0 t) < 0 := fun q => h0 ((srt_neg f2).mp q)
  rcases isR_cases (x := i) (n := sT s 1 t) (by omega) with e2 | ⟨i, hi, rfl, e2⟩
  · simp only [e2, Bool.false_eq_true, if_false] at h
    refine x_aload_n (pc := 0) dX10_item_0 rfl ?_
    refine x_iload_n (pc := 1) dX10_item_1 rfl ?_
    refine x_invV1 (pc := 2) dX10_item_2 mlX10_436 imX10_isTape seX10_isTape kX10_isTape (by first | assumption | rfl) rfl (Nat.le_of_ble_eq_true rfl) (by decide) ?_
    refine sm_isTape ?_
    refine x_cv rfl rfl ?_
    rw [e]
    first | (guard_target =~ Wp _ _ _ _ _ (Value.int (nI _) :: _) _ _ _ _; with_reducible refine x_if_neN (pc := 5) (tgt := 10) ?_ dX10_item_5 ?_ (fun h5 => ?_) (fun h5 => ?_); (first | omega | exact b2n_32 _ | exact b2n_31 _); decide) | refine x_if_ne (pc := 5) (tgt := 10) dX10_item_5 (by decide) (fun h5 => ?_) (fun h5 => ?_)
    · skip
      refine x_aload_n (pc := 10) dX10_item_10 rfl ?_
      refine x_getR (pc := 11) dX10_item_11 flX10_232 (by first | assumption | rfl) rfl ?_
      refine x_iload_n (pc := 14) dX10_item_14 rfl ?_
      refine x_ialdN (pc := 15) dX10_item_15 (by first | assumption | rfl) (by first | with_reducible rfl | (simp only [xlit, nI_add, pk_mul]; with_reducible rfl)) (by omega) (by decide) ?_
      rw [f1]
      refine x_if_ge (pc := 16) (tgt := 22) dX10_item_16 (by decide) (fun h16 => ?_) (fun h16 => ?_)
      · skip
        refine x_aload_n (pc := 22) dX10_item_22 rfl ?_
        refine x_iload_n (pc := 23) dX10_item_23 rfl ?_
        refine x_iconstN (pc := 24) 0 dX10_item_24 ic_0 ?_
        refine x_aload_n (pc := 25) dX10_item_25 rfl ?_
        refine x_getR (pc := 26) dX10_item_26 flX10_235 (by first | assumption | rfl) rfl ?_
        refine x_iload_n (pc := 29) dX10_item_29 rfl ?_
        refine x_ialdN (pc := 30) dX10_item_30 (by first | assumption | rfl) (by first | with_reducible rfl | (simp only [xlit, nI_add, pk_mul]; with_reducible rfl)) (by omega) (by decide) ?_
        rw [f3]
        refine x_iconstN (pc := 31) 1 dX10_item_31 ic_1 ?_
        refine x_isub (pc := 32) dX10_item_32 ?_
        refine x_invV3 (pc := 33) dX10_item_33 mlX10_253 imX10_in seX10_in kX10_in (by first | assumption | rfl) rfl (Nat.le_of_ble_eq_true rfl) (by decide) ?_
        refine sm_in ?_
        refine x_cv rfl rfl ?_
        rw [btw_m1 (by omega), e2]
        first | (guard_target =~ Wp _ _ _ _ _ (Value.int (nI _) :: _) _ _ _ _; with_reducible refine x_if_neN (pc := 36) (tgt := 42) ?_ dX10_item_36 ?_ (fun h36 => ?_) (fun h36 => ?_); (first | omega | exact b2n_32 _ | exact b2n_31 _); decide) | refine x_if_ne (pc := 36) (tgt := 42) dX10_item_36 (by decide) (fun h36 => ?_) (fun h36 => ?_)
        · skip
          exact absurd rfl h36
        · skip
          refine x_bipush (pc := 39) dX10_item_39 bp_m13 ?_
          refine x_ret (pc := 41) (v := some _) rfl trivial dX10_item_41 (by decide) ?_
          exact h M high.rf hC
      · skip
        exact absurd (Int32.not_lt.mp hm) h16
    · skip
      cases h5
  simp only [e2, if_true] at h
  rw [toN_nI (by omega)] at h
  refine x_aload_n (pc := 0) dX10_item_0 rfl ?_
  refine x_iload_n (pc := 1) dX10_item_1 rfl ?_
  refine x_invV1 (pc := 2) dX10_item_2 mlX10_436 imX10_isTape seX10_isTape kX10_isTape (by first | assumption | rfl) rfl (Nat.le_of_ble_eq_true rfl) (by decide) ?_
  refine sm_isTape ?_
  refine x_cv rfl rfl ?_
  rw [e]
  first | (guard_target =~ Wp _ _ _ _ _ (Value.int (nI _) :: _) _ _ _ _; with_reducible refine x_if_neN (pc := 5) (tgt := 10) ?_ dX10_item_5 ?_ (fun h5 => ?_) (fun h5 => ?_); (first | omega | exact b2n_32 _ | exact b2n_31 _); decide) | refine x_if_ne (pc := 5) (tgt := 10) dX10_item_5 (by decide) (fun h5 => ?_) (fun h5 => ?_)
  · skip
    refine x_aload_n (pc := 10) dX10_item_10 rfl ?_
    refine x_getR (pc := 11) dX10_item_11 flX10_232 (by first | assumption | rfl) rfl ?_
    refine x_iload_n (pc := 14) dX10_item_14 rfl ?_
    refine x_ialdN (pc := 15) dX10_item_15 (by first | assumption | rfl) (by first | with_reducible rfl | (simp only [xlit, nI_add, pk_mul]; with_reducible rfl)) (by omega) (by decide) ?_
    rw [f1]
    refine x_if_ge (pc := 16) (tgt := 22) dX10_item_16 (by decide) (fun h16 => ?_) (fun h16 => ?_)
    · skip
      refine x_aload_n (pc := 22) dX10_item_22 rfl ?_
      refine x_iload_n (pc := 23) dX10_item_23 rfl ?_
      refine x_iconstN (pc := 24) 0 dX10_item_24 ic_0 ?_
      refine x_aload_n (pc := 25) dX10_item_25 rfl ?_
      refine x_getR (pc := 26) dX10_item_26 flX10_235 (by first | assumption | rfl) rfl ?_
      refine x_iload_n (pc := 29) dX10_item_29 rfl ?_
      refine x_ialdN (pc := 30) dX10_item_30 (by first | assumption | rfl) (by first | with_reducible rfl | (simp only [xlit, nI_add, pk_mul]; with_reducible rfl)) (by omega) (by decide) ?_
      rw [f3]
      refine x_iconstN (pc := 31) 1 dX10_item_31 ic_1 ?_
      refine x_isub (pc := 32) dX10_item_32 ?_
      refine x_invV3 (pc := 33) dX10_item_33 mlX10_253 imX10_in seX10_in kX10_in (by first | assumption | rfl) rfl (Nat.le_of_ble_eq_true rfl) (by decide) ?_
      refine sm_in ?_
      refine x_cv rfl rfl ?_
      rw [btw_m1 (by omega), e2]
      first | (guard_target =~ Wp _ _ _ _ _ (Value.int (nI _) :: _) _ _ _ _; with_reducible refine x_if_neN (pc := 36) (tgt := 42) ?_ dX10_item_36 ?_ (fun h36 => ?_) (fun h36 => ?_); (first | omega | exact b2n_32 _ | exact b2n_31 _); decide) | refine x_if_ne (pc := 36) (tgt := 42) dX10_item_36 (by decide) (fun h36 => ?_) (fun h36 => ?_)
      · skip
        refine x_aload_n (pc := 42) dX10_item_42 rfl ?_
        refine x_getR (pc := 43) dX10_item_43 flX10_238 (by first | assumption | rfl) rfl ?_
        refine x_bipushN (pc := 46) 60 dX10_item_46 bp_60 ?_
        refine x_iload_n (pc := 48) dX10_item_48 rfl ?_
        first | (guard_target =~ Wp _ _ _ _ _ (Value.int (nI _) :: Value.int (nI _) :: _) _ _ _ _; with_reducible refine x_imulN (pc := 49) dX10_item_49 ?_) | refine x_imul (pc := 49) dX10_item_49 ?_
        refine x_iload_n (pc := 50) dX10_item_50 rfl ?_
        first | (guard_target =~ Wp _ _ _ _ _ (Value.int (nI _) :: Value.int (nI _) :: _) _ _ _ _; with_reducible refine x_iaddN (pc := 51) dX10_item_51 ?_) | refine x_iadd (pc := 51) dX10_item_51 ?_
        refine x_aload_n (pc := 52) dX10_item_52 rfl ?_
        refine x_aload_n (pc := 53) dX10_item_53 rfl ?_
        refine x_getR (pc := 54) dX10_item_54 flX10_232 (by first | assumption | rfl) rfl ?_
        refine x_iload_n (pc := 57) dX10_item_57 rfl ?_
        refine x_ialdN (pc := 58) dX10_item_58 (by first | assumption | rfl) (by first | with_reducible rfl | (simp only [xlit, nI_add, pk_mul]; with_reducible rfl)) (by omega) (by decide) ?_
        rw [f1]
        refine x_lload_n (pc := 59) dX10_item_59 rfl ?_
        refine x_invV2 (pc := 60) dX10_item_60 mlX10_463 imX10_narrow seX10_narrow kX10_narrow (by first | assumption | rfl) rfl (Nat.le_of_ble_eq_true rfl) (by decide) ?_
        refine sm_narrow f2 h0 ?_
        refine x_cv rfl rfl ?_
        refine x_lastN (pc := 63) dX10_item_63 (by first | assumption | rfl) (by first | with_reducible rfl | (simp only [xlit, nI_add, pk_mul]; with_reducible rfl)) (by omega) (by decide) ?_
        refine x_iconstN (pc := 64) 1 dX10_item_64 ic_1 ?_
        refine x_ret (pc := 65) (v := some _) rfl trivial dX10_item_65 (by decide) ?_
        refine h _ ⟨fun a _ => rfl, fun a ha => funext fun j => if_neg (by omega)⟩ (hC.upT .rf .rf .rf .rf .rf ⟨fun u hu => hT.1 u hu, fun k hk => ?_⟩)
        show (if _ then _ else _) = (if _ then _ else _)
        simp only [true_and, hT.2 k hk]
      · skip
        cases h36
    · skip
      exact absurd (Int32.not_lt.mp hm) h16
  · skip
    cases h5
theorem fM_read {t i : Int32} (h0 : ∀ t, t < 6 → sT s 0 t = 0 → sT s 1 t = 0) (hC : MC9 M s) (h : ∀ M', high M M' → MC9 M' s → K (some (.long (vRead s t i))) xSF M') : Ex g (d + 2) yX10_read mX10_read [.ref 65, .int t, .int i] xSF M K := by
  unfold vRead at h
  have hT : TR 109 111 M (sT s) (sI s) := hC.2.2.2.1
  refine x_entry kX10_read (Nat.le_of_ble_eq_true rfl) ?_
  show Wp g _ mX10_read 0 [some (.ref 65), some (.int t), some (.int i)] [] _ _ _ _
  rcases isR_cases (x := t) (n := 6) (by omega) with e | ⟨t, ht, rfl, e⟩
  · simp only [e, Bool.false_eq_true, if_false, false_and] at h
    refine x_aload_n (pc := 0) dX10_read_0 rfl ?_
    refine x_iload_n (pc := 1) dX10_read_1 rfl ?_
    refine x_invV1 (pc := 2) dX10_read_2 mlX10_436 imX10_isTape seX10_isTape kX10_isTape (by first | assumption | rfl) rfl (Nat.le_of_ble_eq_true rfl) (by decide) ?_
    refine sm_isTape ?_
    refine x_cv rfl rfl ?_
    rw [e]
    first | (guard_target =~ Wp _ _ _ _ _ (Value.int (nI _) :: _) _ _ _ _; with_reducible refine x_if_eqN (pc := 5) (tgt := 34) ?_ dX10_read_5 ?_ (fun h5 => ?_) (fun h5 => ?_); (first | omega | exact b2n_32 _ | exact b2n_31 _); decide) | refine x_if_eq (pc := 5) (tgt := 34) dX10_read_5 (by decide) (fun h5 => ?_) (fun h5 => ?_)
    · skip
      refine x_ldc2 (pc := 34) dX10_read_34 ckX10_424 ?_
      refine x_goto (pc := 37) (tgt := 51) dX10_read_37 (by decide) ?_
      refine x_ret (pc := 51) (v := some _) rfl trivial dX10_read_51 (by decide) ?_
      exact h M high.rf hC
    · skip
      exact absurd rfl h5
  simp only [e, true_and] at h
  rw [toN_nI (by omega)] at h
  obtain ⟨f1, f2, f3, f4⟩ := hT.1 t ht
  rcases isR_cases (x := i) (n := sT s 1 t) (by omega) with e2 | ⟨i, hi, rfl, e2⟩
  · simp only [e2, Bool.false_eq_true, if_false] at h
    refine x_aload_n (pc := 0) dX10_read_0 rfl ?_
    refine x_iload_n (pc := 1) dX10_read_1 rfl ?_
    refine x_invV1 (pc := 2) dX10_read_2 mlX10_436 imX10_isTape seX10_isTape kX10_isTape (by first | assumption | rfl) rfl (Nat.le_of_ble_eq_true rfl) (by decide) ?_
    refine sm_isTape ?_
    refine x_cv rfl rfl ?_
    rw [e]
    first | (guard_target =~ Wp _ _ _ _ _ (Value.int (nI _) :: _) _ _ _ _; with_reducible refine x_if_eqN (pc := 5) (tgt := 34) ?_ dX10_read_5 ?_ (fun h5 => ?_) (fun h5 => ?_); (first | omega | exact b2n_32 _ | exact b2n_31 _); decide) | refine x_if_eq (pc := 5) (tgt := 34) dX10_read_5 (by decide) (fun h5 => ?_) (fun h5 => ?_)
    · skip
      cases h5
    · skip
      refine x_aload_n (pc := 8) dX10_read_8 rfl ?_
      refine x_getR (pc := 9) dX10_read_9 flX10_232 (by first | assumption | rfl) rfl ?_
      refine x_iload_n (pc := 12) dX10_read_12 rfl ?_
      refine x_ialdN (pc := 13) dX10_read_13 (by first | assumption | rfl) (by first | with_reducible rfl | (simp only [xlit, nI_add, pk_mul]; with_reducible rfl)) (by omega) (by decide) ?_
      rw [f1]
      refine x_if_lt (pc := 14) (tgt := 34) dX10_read_14 (by decide) (fun h14 => ?_) (fun h14 => ?_)
      · skip
        refine x_ldc2 (pc := 34) dX10_read_34 ckX10_424 ?_
        refine x_goto (pc := 37) (tgt := 51) dX10_read_37 (by decide) ?_
        refine x_ret (pc := 51) (v := some _) rfl trivial dX10_read_51 (by decide) ?_
        exact h M high.rf hC
      · skip
        refine x_aload_n (pc := 17) dX10_read_17 rfl ?_
        refine x_iload_n (pc := 18) dX10_read_18 rfl ?_
        refine x_iconstN (pc := 19) 0 dX10_read_19 ic_0 ?_
        refine x_aload_n (pc := 20) dX10_read_20 rfl ?_
        refine x_getR (pc := 21) dX10_read_21 flX10_235 (by first | assumption | rfl) rfl ?_
        refine x_iload_n (pc := 24) dX10_read_24 rfl ?_
        refine x_ialdN (pc := 25) dX10_read_25 (by first | assumption | rfl) (by first | with_reducible rfl | (simp only [xlit, nI_add, pk_mul]; with_reducible rfl)) (by omega) (by decide) ?_
        rw [f3]
        refine x_iconstN (pc := 26) 1 dX10_read_26 ic_1 ?_
        refine x_isub (pc := 27) dX10_read_27 ?_
        refine x_invV3 (pc := 28) dX10_read_28 mlX10_253 imX10_in seX10_in kX10_in (by first | assumption | rfl) rfl (Nat.le_of_ble_eq_true rfl) (by decide) ?_
        refine sm_in ?_
        refine x_cv rfl rfl ?_
        rw [btw_m1 (by omega), e2]
        first | (guard_target =~ Wp _ _ _ _ _ (Value.int (nI _) :: _) _ _ _ _; with_reducible refine x_if_neN (pc := 31) (tgt := 40) ?_ dX10_read_31 ?_ (fun h31 => ?_) (fun h31 => ?_); (first | omega | exact b2n_32 _ | exact b2n_31 _); decide) | refine x_if_ne (pc := 31) (tgt := 40) dX10_read_31 (by decide) (fun h31 => ?_) (fun h31 => ?_)
        · skip
          exact absurd rfl h31
        · skip
          refine x_ldc2 (pc := 34) dX10_read_34 ckX10_424 ?_
          refine x_goto (pc := 37) (tgt := 51) dX10_read_37 (by decide) ?_
          refine x_ret (pc := 51) (v := some _) rfl trivial dX10_read_51 (by decide) ?_
          exact h M high.rf hC
  have hn0 : sT s 0 t ≠ 0 := fun q => by rw [h0 t ht q] at hi; omega
  have hm : ¬ srt (sT s 0 t) < 0 := fun q => hn0 ((srt_neg f2).mp q)
  simp only [e2, if_true] at h
  rw [toN_nI (by omega)] at h
  refine x_aload_n (pc := 0) dX10_read_0 rfl ?_
  refine x_iload_n (pc := 1) dX10_read_1 rfl ?_
  refine x_invV1 (pc := 2) dX10_read_2 mlX10_436 imX10_isTape seX10_isTape kX10_isTape (by first | assumption | rfl) rfl (Nat.le_of_ble_eq_true rfl) (by decide) ?_
  refine sm_isTape ?_
  refine x_cv rfl rfl ?_
  rw [e]
  first | (guard_target =~ Wp _ _ _ _ _ (Value.int (nI _) :: _) _ _ _ _; with_reducible refine x_if_eqN (pc := 5) (tgt := 34) ?_ dX10_read_5 ?_ (fun h5 => ?_) (fun h5 => ?_); (first | omega | exact b2n_32 _ | exact b2n_31 _); decide) | refine x_if_eq (pc := 5) (tgt := 34) dX10_read_5 (by decide) (fun h5 => ?_) (fun h5 => ?_)
  · skip
    cases h5
  · skip
    refine x_aload_n (pc := 8) dX10_read_8 rfl ?_
    refine x_getR (pc := 9) dX10_read_9 flX10_232 (by first | assumption | rfl) rfl ?_
    refine x_iload_n (pc := 12) dX10_read_12 rfl ?_
    refine x_ialdN (pc := 13) dX10_read_13 (by first | assumption | rfl) (by first | with_reducible rfl | (simp only [xlit, nI_add, pk_mul]; with_reducible rfl)) (by omega) (by decide) ?_
    rw [f1]
    refine x_if_lt (pc := 14) (tgt := 34) dX10_read_14 (by decide) (fun h14 => ?_) (fun h14 => ?_)
    · skip
      exact absurd h14 hm
    · skip
      refine x_aload_n (pc := 17) dX10_read_17 rfl ?_
      refine x_iload_n (pc := 18) dX10_read_18 rfl ?_
      refine x_iconstN (pc := 19) 0 dX10_read_19 ic_0 ?_
      refine x_aload_n (pc := 20) dX10_read_20 rfl ?_
      refine x_getR (pc := 21) dX10_read_21 flX10_235 (by first | assumption | rfl) rfl ?_
      refine x_iload_n (pc := 24) dX10_read_24 rfl ?_
      refine x_ialdN (pc := 25) dX10_read_25 (by first | assumption | rfl) (by first | with_reducible rfl | (simp only [xlit, nI_add, pk_mul]; with_reducible rfl)) (by omega) (by decide) ?_
      rw [f3]
      refine x_iconstN (pc := 26) 1 dX10_read_26 ic_1 ?_
      refine x_isub (pc := 27) dX10_read_27 ?_
      refine x_invV3 (pc := 28) dX10_read_28 mlX10_253 imX10_in seX10_in kX10_in (by first | assumption | rfl) rfl (Nat.le_of_ble_eq_true rfl) (by decide) ?_
      refine sm_in ?_
      refine x_cv rfl rfl ?_
      rw [btw_m1 (by omega), e2]
      first | (guard_target =~ Wp _ _ _ _ _ (Value.int (nI _) :: _) _ _ _ _; with_reducible refine x_if_neN (pc := 31) (tgt := 40) ?_ dX10_read_31 ?_ (fun h31 => ?_) (fun h31 => ?_); (first | omega | exact b2n_32 _ | exact b2n_31 _); decide) | refine x_if_ne (pc := 31) (tgt := 40) dX10_read_31 (by decide) (fun h31 => ?_) (fun h31 => ?_)
      · skip
        refine x_aload_n (pc := 40) dX10_read_40 rfl ?_
        refine x_getR (pc := 41) dX10_read_41 flX10_238 (by first | assumption | rfl) rfl ?_
        refine x_bipushN (pc := 44) 60 dX10_read_44 bp_60 ?_
        refine x_iload_n (pc := 46) dX10_read_46 rfl ?_
        first | (guard_target =~ Wp _ _ _ _ _ (Value.int (nI _) :: Value.int (nI _) :: _) _ _ _ _; with_reducible refine x_imulN (pc := 47) dX10_read_47 ?_) | refine x_imul (pc := 47) dX10_read_47 ?_
        refine x_iload_n (pc := 48) dX10_read_48 rfl ?_
        first | (guard_target =~ Wp _ _ _ _ _ (Value.int (nI _) :: Value.int (nI _) :: _) _ _ _ _; with_reducible refine x_iaddN (pc := 49) dX10_read_49 ?_) | refine x_iadd (pc := 49) dX10_read_49 ?_
        refine x_laldN (pc := 50) dX10_read_50 (by first | assumption | rfl) (by first | with_reducible rfl | (simp only [xlit, nI_add, pk_mul]; with_reducible rfl)) (by omega) (by decide) ?_
        rw [hT.2 _ (by omega)]
        refine x_ret (pc := 51) (v := some _) rfl trivial dX10_read_51 (by decide) ?_
        exact h M high.rf hC
      · skip
        cases h31
end P65
