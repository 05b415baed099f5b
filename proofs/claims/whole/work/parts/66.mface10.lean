/-! the MODEL's calls: shift, judge -/
theorem sub_toI {z b : Nat} (hz : z < 2 ^ 30) (hb : b < 2 ^ 31) : (nI z - nI b).toInt = (z : Int) - b := by
  rw [Int32.toInt_sub, nI_toInt (by omega), nI_toInt hb]
  apply Int.bmod_eq_of_le <;> omega
theorem sub_gt {z a b : Nat} (hz : z < 2 ^ 30) (ha : a < 2 ^ 31) (hb : b < 2 ^ 31) : nI z - nI b < nI a ↔ z < a + b := by
  rw [Int32.lt_iff_toInt_lt, sub_toI hz hb, nI_toInt ha]; omega
theorem isS_N {a b z : Nat} (ha : a < 2 ^ 31) (hb : b < 2 ^ 31) (hz : z ≤ 60) : isS (nI a) (nI b) z = true ↔ a + b ≤ z := by
  rw [isS_iff hz]
  constructor
  · rintro ⟨a', b', e1, e2, h⟩
    rw [nI_inj (by omega) (by omega) e1, nI_inj (by omega) (by omega) e2]; exact h
  · intro h; exact ⟨a, b, rfl, rfl, h⟩
theorem isR_add {a c z : Nat} (ha : a < 2 ^ 31) (hc : c < 16) (hz : z ≤ 60) : isR (nI a + nI c) (nI z) = decide (a + c < z) := by
  rw [nI_add]
  by_cases h : a + c < 2 ^ 31
  · rw [isR_nI h (by omega)]
  · rw [decide_eq_false (by omega)]
    refine isR_neg ?_
    rw [Int32.lt_iff_toInt_lt, ← nI_add, Int32.toInt_add, nI_toInt ha, nI_toInt (by omega), Int.bmod_def]
    show _ < (0 : Int)
    split <;> omega
section P66
variable {g : XG} {d : Nat} {M : XM} {K : Option Value → XS → XM → Prop} {s : XSt}
theorem fM_shift {t i o j n : Int32} (hC : MC9 M s) (h : ∀ M', high M M' → MC9 M' (opShift s t i o j n).2 → K (some (.int (opShift s t i o j n).1)) xSF M') : Ex g (d + 2) yX10_shift mX10_shift [.ref 65, .int t, .int i, .int o, .int j, .int n] xSF M K := by
  unfold opShift at h
  have hT : TR 109 111 M (sT s) (sI s) := hC.2.2.2.1
  refine x_entry kX10_shift (Nat.le_of_ble_eq_true rfl) ?_
  show Wp g _ mX10_shift 0 [some (.ref 65), some (.int t), some (.int i), some (.int o), some (.int j), some (.int n), none] [] _ _ _ _
  rcases isR_cases (x := t) (n := 6) (by omega) with e | ⟨t, ht, rfl, e⟩
  · simp only [e, Bool.false_eq_true, if_false, false_and] at h
    refine x_aload_n (pc := 0) dX10_shift_0 rfl ?_
    refine x_iload_n (pc := 1) dX10_shift_1 rfl ?_
    refine x_invV1 (pc := 2) dX10_shift_2 mlX10_436 imX10_isTape seX10_isTape kX10_isTape (by first | assumption | rfl) rfl (Nat.le_of_ble_eq_true rfl) (by decide) ?_
    refine sm_isTape ?_
    refine x_cv rfl rfl ?_
    rw [e]
    first | (guard_target =~ Wp _ _ _ _ _ (Value.int (nI _) :: _) _ _ _ _; with_reducible refine x_if_eqN (pc := 5) (tgt := 16) ?_ dX10_shift_5 ?_ (fun h5 => ?_) (fun h5 => ?_); (first | omega | exact b2n_32 _ | exact b2n_31 _); decide) | refine x_if_eq (pc := 5) (tgt := 16) dX10_shift_5 (by decide) (fun h5 => ?_) (fun h5 => ?_)
    · skip
      refine x_iconst (pc := 16) dX10_shift_16 ic_m1 ?_
      refine x_ret (pc := 17) (v := some _) rfl trivial dX10_shift_17 (by decide) ?_
      exact h M high.rf hC
    · skip
      exact absurd rfl h5
  rcases isR_cases (x := o) (n := 6) (by omega) with e2 | ⟨o, ho, rfl, e2⟩
  · simp only [e2, Bool.false_eq_true, if_false, and_false] at h
    refine x_aload_n (pc := 0) dX10_shift_0 rfl ?_
    refine x_iload_n (pc := 1) dX10_shift_1 rfl ?_
    refine x_invV1 (pc := 2) dX10_shift_2 mlX10_436 imX10_isTape seX10_isTape kX10_isTape (by first | assumption | rfl) rfl (Nat.le_of_ble_eq_true rfl) (by decide) ?_
    refine sm_isTape ?_
    refine x_cv rfl rfl ?_
    rw [e]
    first | (guard_target =~ Wp _ _ _ _ _ (Value.int (nI _) :: _) _ _ _ _; with_reducible refine x_if_eqN (pc := 5) (tgt := 16) ?_ dX10_shift_5 ?_ (fun h5 => ?_) (fun h5 => ?_); (first | omega | exact b2n_32 _ | exact b2n_31 _); decide) | refine x_if_eq (pc := 5) (tgt := 16) dX10_shift_5 (by decide) (fun h5 => ?_) (fun h5 => ?_)
    · skip
      cases h5
    · skip
      refine x_aload_n (pc := 8) dX10_shift_8 rfl ?_
      refine x_iload_n (pc := 9) dX10_shift_9 rfl ?_
      refine x_invV1 (pc := 10) dX10_shift_10 mlX10_436 imX10_isTape seX10_isTape kX10_isTape (by first | assumption | rfl) rfl (Nat.le_of_ble_eq_true rfl) (by decide) ?_
      refine sm_isTape ?_
      refine x_cv rfl rfl ?_
      rw [e2]
      first | (guard_target =~ Wp _ _ _ _ _ (Value.int (nI _) :: _) _ _ _ _; with_reducible refine x_if_neN (pc := 13) (tgt := 18) ?_ dX10_shift_13 ?_ (fun h13 => ?_) (fun h13 => ?_); (first | omega | exact b2n_32 _ | exact b2n_31 _); decide) | refine x_if_ne (pc := 13) (tgt := 18) dX10_shift_13 (by decide) (fun h13 => ?_) (fun h13 => ?_)
      · skip
        exact absurd rfl h13
      · skip
        refine x_iconst (pc := 16) dX10_shift_16 ic_m1 ?_
        refine x_ret (pc := 17) (v := some _) rfl trivial dX10_shift_17 (by decide) ?_
        exact h M high.rf hC
  simp only [e, e2, and_self, if_true] at h
  rw [toN_nI (by omega), toN_nI (by omega)] at h
  obtain ⟨t1, t2, t3, t4⟩ := hT.1 t ht
  obtain ⟨o1, o2, o3, o4⟩ := hT.1 o ho
  have hz1 : sT s 1 t ≤ 60 := t4
  have hz2 : sT s 1 o ≤ 60 := o4
  by_cases h0 : sT s 0 t = 0
  · rw [if_pos (Or.inl h0)] at h
    refine x_aload_n (pc := 0) dX10_shift_0 rfl ?_
    refine x_iload_n (pc := 1) dX10_shift_1 rfl ?_
    refine x_invV1 (pc := 2) dX10_shift_2 mlX10_436 imX10_isTape seX10_isTape kX10_isTape (by first | assumption | rfl) rfl (Nat.le_of_ble_eq_true rfl) (by decide) ?_
    refine sm_isTape ?_
    refine x_cv rfl rfl ?_
    rw [e]
    first | (guard_target =~ Wp _ _ _ _ _ (Value.int (nI _) :: _) _ _ _ _; with_reducible refine x_if_eqN (pc := 5) (tgt := 16) ?_ dX10_shift_5 ?_ (fun h5 => ?_) (fun h5 => ?_); (first | omega | exact b2n_32 _ | exact b2n_31 _); decide) | refine x_if_eq (pc := 5) (tgt := 16) dX10_shift_5 (by decide) (fun h5 => ?_) (fun h5 => ?_)
    · skip
      cases h5
    · skip
      refine x_aload_n (pc := 8) dX10_shift_8 rfl ?_
      refine x_iload_n (pc := 9) dX10_shift_9 rfl ?_
      refine x_invV1 (pc := 10) dX10_shift_10 mlX10_436 imX10_isTape seX10_isTape kX10_isTape (by first | assumption | rfl) rfl (Nat.le_of_ble_eq_true rfl) (by decide) ?_
      refine sm_isTape ?_
      refine x_cv rfl rfl ?_
      rw [e2]
      first | (guard_target =~ Wp _ _ _ _ _ (Value.int (nI _) :: _) _ _ _ _; with_reducible refine x_if_neN (pc := 13) (tgt := 18) ?_ dX10_shift_13 ?_ (fun h13 => ?_) (fun h13 => ?_); (first | omega | exact b2n_32 _ | exact b2n_31 _); decide) | refine x_if_ne (pc := 13) (tgt := 18) dX10_shift_13 (by decide) (fun h13 => ?_) (fun h13 => ?_)
      · skip
        refine x_aload_n (pc := 18) dX10_shift_18 rfl ?_
        refine x_getR (pc := 19) dX10_shift_19 flX10_232 (by first | assumption | rfl) rfl ?_
        refine x_iload_n (pc := 22) dX10_shift_22 rfl ?_
        refine x_ialdN (pc := 23) dX10_shift_23 (by first | assumption | rfl) (by first | with_reducible rfl | (simp only [xlit, nI_add, pk_mul]; with_reducible rfl)) (by omega) (by decide) ?_
        rw [t1]
        refine x_if_lt (pc := 24) (tgt := 36) dX10_shift_24 (by decide) (fun h24 => ?_) (fun h24 => ?_)
        · skip
          refine x_bipush (pc := 36) dX10_shift_36 bp_m11 ?_
          refine x_ret (pc := 38) (v := some _) rfl trivial dX10_shift_38 (by decide) ?_
          exact h M high.rf hC
        · skip
          exact absurd ((srt_neg t2).mpr h0) h24
      · skip
        cases h13
  by_cases h1 : sT s 0 o = 0
  · rw [if_pos (Or.inr h1)] at h
    refine x_aload_n (pc := 0) dX10_shift_0 rfl ?_
    refine x_iload_n (pc := 1) dX10_shift_1 rfl ?_
    refine x_invV1 (pc := 2) dX10_shift_2 mlX10_436 imX10_isTape seX10_isTape kX10_isTape (by first | assumption | rfl) rfl (Nat.le_of_ble_eq_true rfl) (by decide) ?_
    refine sm_isTape ?_
    refine x_cv rfl rfl ?_
    rw [e]
    first | (guard_target =~ Wp _ _ _ _ _ (Value.int (nI _) :: _) _ _ _ _; with_reducible refine x_if_eqN (pc := 5) (tgt := 16) ?_ dX10_shift_5 ?_ (fun h5 => ?_) (fun h5 => ?_); (first | omega | exact b2n_32 _ | exact b2n_31 _); decide) | refine x_if_eq (pc := 5) (tgt := 16) dX10_shift_5 (by decide) (fun h5 => ?_) (fun h5 => ?_)
    · skip
      cases h5
    · skip
      refine x_aload_n (pc := 8) dX10_shift_8 rfl ?_
      refine x_iload_n (pc := 9) dX10_shift_9 rfl ?_
      refine x_invV1 (pc := 10) dX10_shift_10 mlX10_436 imX10_isTape seX10_isTape kX10_isTape (by first | assumption | rfl) rfl (Nat.le_of_ble_eq_true rfl) (by decide) ?_
      refine sm_isTape ?_
      refine x_cv rfl rfl ?_
      rw [e2]
      first | (guard_target =~ Wp _ _ _ _ _ (Value.int (nI _) :: _) _ _ _ _; with_reducible refine x_if_neN (pc := 13) (tgt := 18) ?_ dX10_shift_13 ?_ (fun h13 => ?_) (fun h13 => ?_); (first | omega | exact b2n_32 _ | exact b2n_31 _); decide) | refine x_if_ne (pc := 13) (tgt := 18) dX10_shift_13 (by decide) (fun h13 => ?_) (fun h13 => ?_)
      · skip
        refine x_aload_n (pc := 18) dX10_shift_18 rfl ?_
        refine x_getR (pc := 19) dX10_shift_19 flX10_232 (by first | assumption | rfl) rfl ?_
        refine x_iload_n (pc := 22) dX10_shift_22 rfl ?_
        refine x_ialdN (pc := 23) dX10_shift_23 (by first | assumption | rfl) (by first | with_reducible rfl | (simp only [xlit, nI_add, pk_mul]; with_reducible rfl)) (by omega) (by decide) ?_
        rw [t1]
        refine x_if_lt (pc := 24) (tgt := 36) dX10_shift_24 (by decide) (fun h24 => ?_) (fun h24 => ?_)
        · skip
          exact absurd ((srt_neg t2).mp h24) h0
        · skip
          refine x_aload_n (pc := 27) dX10_shift_27 rfl ?_
          refine x_getR (pc := 28) dX10_shift_28 flX10_232 (by first | assumption | rfl) rfl ?_
          refine x_iload_n (pc := 31) dX10_shift_31 rfl ?_
          refine x_ialdN (pc := 32) dX10_shift_32 (by first | assumption | rfl) (by first | with_reducible rfl | (simp only [xlit, nI_add, pk_mul]; with_reducible rfl)) (by omega) (by decide) ?_
          rw [o1]
          refine x_if_ge (pc := 33) (tgt := 39) dX10_shift_33 (by decide) (fun h33 => ?_) (fun h33 => ?_)
          · skip
            exact absurd ((srt_neg o2).mpr h1) (Int32.not_lt.mpr h33)
          · skip
            refine x_bipush (pc := 36) dX10_shift_36 bp_m11 ?_
            refine x_ret (pc := 38) (v := some _) rfl trivial dX10_shift_38 (by decide) ?_
            exact h M high.rf hC
      · skip
        cases h13
  rw [if_neg (fun q => by rcases q with q | q; exact h0 q; exact h1 q)] at h
  have hm1 : ¬ srt (sT s 0 t) < 0 := fun q => h0 ((srt_neg t2).mp q)
  have hm2 : ¬ srt (sT s 0 o) < 0 := fun q => h1 ((srt_neg o2).mp q)
  by_cases hq : sT s 0 t = sT s 0 o
  · rw [if_pos hq] at h
    by_cases n0 : n < 0
    · rw [if_neg (fun q => absurd n0 (Int32.not_lt.mpr (of_decide_eq_true q.1).2.1))] at h
      refine x_aload_n (pc := 0) dX10_shift_0 rfl ?_
      refine x_iload_n (pc := 1) dX10_shift_1 rfl ?_
      refine x_invV1 (pc := 2) dX10_shift_2 mlX10_436 imX10_isTape seX10_isTape kX10_isTape (by first | assumption | rfl) rfl (Nat.le_of_ble_eq_true rfl) (by decide) ?_
      refine sm_isTape ?_
      refine x_cv rfl rfl ?_
      rw [e]
      first | (guard_target =~ Wp _ _ _ _ _ (Value.int (nI _) :: _) _ _ _ _; with_reducible refine x_if_eqN (pc := 5) (tgt := 16) ?_ dX10_shift_5 ?_ (fun h5 => ?_) (fun h5 => ?_); (first | omega | exact b2n_32 _ | exact b2n_31 _); decide) | refine x_if_eq (pc := 5) (tgt := 16) dX10_shift_5 (by decide) (fun h5 => ?_) (fun h5 => ?_)
      · skip
        cases h5
      · skip
        refine x_aload_n (pc := 8) dX10_shift_8 rfl ?_
        refine x_iload_n (pc := 9) dX10_shift_9 rfl ?_
        refine x_invV1 (pc := 10) dX10_shift_10 mlX10_436 imX10_isTape seX10_isTape kX10_isTape (by first | assumption | rfl) rfl (Nat.le_of_ble_eq_true rfl) (by decide) ?_
        refine sm_isTape ?_
        refine x_cv rfl rfl ?_
        rw [e2]
        first | (guard_target =~ Wp _ _ _ _ _ (Value.int (nI _) :: _) _ _ _ _; with_reducible refine x_if_neN (pc := 13) (tgt := 18) ?_ dX10_shift_13 ?_ (fun h13 => ?_) (fun h13 => ?_); (first | omega | exact b2n_32 _ | exact b2n_31 _); decide) | refine x_if_ne (pc := 13) (tgt := 18) dX10_shift_13 (by decide) (fun h13 => ?_) (fun h13 => ?_)
        · skip
          refine x_aload_n (pc := 18) dX10_shift_18 rfl ?_
          refine x_getR (pc := 19) dX10_shift_19 flX10_232 (by first | assumption | rfl) rfl ?_
          refine x_iload_n (pc := 22) dX10_shift_22 rfl ?_
          refine x_ialdN (pc := 23) dX10_shift_23 (by first | assumption | rfl) (by first | with_reducible rfl | (simp only [xlit, nI_add, pk_mul]; with_reducible rfl)) (by omega) (by decide) ?_
          rw [t1]
          refine x_if_lt (pc := 24) (tgt := 36) dX10_shift_24 (by decide) (fun h24 => ?_) (fun h24 => ?_)
          · skip
            exact absurd h24 hm1
          · skip
            refine x_aload_n (pc := 27) dX10_shift_27 rfl ?_
            refine x_getR (pc := 28) dX10_shift_28 flX10_232 (by first | assumption | rfl) rfl ?_
            refine x_iload_n (pc := 31) dX10_shift_31 rfl ?_
            refine x_ialdN (pc := 32) dX10_shift_32 (by first | assumption | rfl) (by first | with_reducible rfl | (simp only [xlit, nI_add, pk_mul]; with_reducible rfl)) (by omega) (by decide) ?_
            rw [o1]
            refine x_if_ge (pc := 33) (tgt := 39) dX10_shift_33 (by decide) (fun h33 => ?_) (fun h33 => ?_)
            · skip
              refine x_aload_n (pc := 39) dX10_shift_39 rfl ?_
              refine x_getR (pc := 40) dX10_shift_40 flX10_232 (by first | assumption | rfl) rfl ?_
              refine x_iload_n (pc := 43) dX10_shift_43 rfl ?_
              refine x_ialdN (pc := 44) dX10_shift_44 (by first | assumption | rfl) (by first | with_reducible rfl | (simp only [xlit, nI_add, pk_mul]; with_reducible rfl)) (by omega) (by decide) ?_
              rw [t1]
              refine x_aload_n (pc := 45) dX10_shift_45 rfl ?_
              refine x_getR (pc := 46) dX10_shift_46 flX10_232 (by first | assumption | rfl) rfl ?_
              refine x_iload_n (pc := 49) dX10_shift_49 rfl ?_
              refine x_ialdN (pc := 50) dX10_shift_50 (by first | assumption | rfl) (by first | with_reducible rfl | (simp only [xlit, nI_add, pk_mul]; with_reducible rfl)) (by omega) (by decide) ?_
              rw [o1]
              refine x_icmp_eq (pc := 51) (tgt := 57) dX10_shift_51 (by decide) (fun h51 => ?_) (fun h51 => ?_)
              · skip
                refine x_iload (pc := 57) dX10_shift_57 rfl ?_
                refine x_if_lt (pc := 59) (tgt := 98) dX10_shift_59 (by decide) (fun h59 => ?_) (fun h59 => ?_)
                · skip
                  refine x_bipush (pc := 98) dX10_shift_98 bp_m13 ?_
                  refine x_ret (pc := 100) (v := some _) rfl trivial dX10_shift_100 (by decide) ?_
                  exact h M high.rf hC
                · skip
                  exact absurd n0 h59
              · skip
                exact absurd (by rw [hq]) h51
            · skip
              exact absurd (Int32.not_lt.mp hm2) h33
        · skip
          cases h13
    by_cases i0 : i < 0
    · rw [if_neg (fun q => absurd i0 (Int32.not_lt.mpr (of_decide_eq_true q.1).1))] at h
      refine x_aload_n (pc := 0) dX10_shift_0 rfl ?_
      refine x_iload_n (pc := 1) dX10_shift_1 rfl ?_
      refine x_invV1 (pc := 2) dX10_shift_2 mlX10_436 imX10_isTape seX10_isTape kX10_isTape (by first | assumption | rfl) rfl (Nat.le_of_ble_eq_true rfl) (by decide) ?_
      refine sm_isTape ?_
      refine x_cv rfl rfl ?_
      rw [e]
      first | (guard_target =~ Wp _ _ _ _ _ (Value.int (nI _) :: _) _ _ _ _; with_reducible refine x_if_eqN (pc := 5) (tgt := 16) ?_ dX10_shift_5 ?_ (fun h5 => ?_) (fun h5 => ?_); (first | omega | exact b2n_32 _ | exact b2n_31 _); decide) | refine x_if_eq (pc := 5) (tgt := 16) dX10_shift_5 (by decide) (fun h5 => ?_) (fun h5 => ?_)
      · skip
        cases h5
      · skip
        refine x_aload_n (pc := 8) dX10_shift_8 rfl ?_
        refine x_iload_n (pc := 9) dX10_shift_9 rfl ?_
        refine x_invV1 (pc := 10) dX10_shift_10 mlX10_436 imX10_isTape seX10_isTape kX10_isTape (by first | assumption | rfl) rfl (Nat.le_of_ble_eq_true rfl) (by decide) ?_
        refine sm_isTape ?_
        refine x_cv rfl rfl ?_
        rw [e2]
        first | (guard_target =~ Wp _ _ _ _ _ (Value.int (nI _) :: _) _ _ _ _; with_reducible refine x_if_neN (pc := 13) (tgt := 18) ?_ dX10_shift_13 ?_ (fun h13 => ?_) (fun h13 => ?_); (first | omega | exact b2n_32 _ | exact b2n_31 _); decide) | refine x_if_ne (pc := 13) (tgt := 18) dX10_shift_13 (by decide) (fun h13 => ?_) (fun h13 => ?_)
        · skip
          refine x_aload_n (pc := 18) dX10_shift_18 rfl ?_
          refine x_getR (pc := 19) dX10_shift_19 flX10_232 (by first | assumption | rfl) rfl ?_
          refine x_iload_n (pc := 22) dX10_shift_22 rfl ?_
          refine x_ialdN (pc := 23) dX10_shift_23 (by first | assumption | rfl) (by first | with_reducible rfl | (simp only [xlit, nI_add, pk_mul]; with_reducible rfl)) (by omega) (by decide) ?_
          rw [t1]
          refine x_if_lt (pc := 24) (tgt := 36) dX10_shift_24 (by decide) (fun h24 => ?_) (fun h24 => ?_)
          · skip
            exact absurd h24 hm1
          · skip
            refine x_aload_n (pc := 27) dX10_shift_27 rfl ?_
            refine x_getR (pc := 28) dX10_shift_28 flX10_232 (by first | assumption | rfl) rfl ?_
            refine x_iload_n (pc := 31) dX10_shift_31 rfl ?_
            refine x_ialdN (pc := 32) dX10_shift_32 (by first | assumption | rfl) (by first | with_reducible rfl | (simp only [xlit, nI_add, pk_mul]; with_reducible rfl)) (by omega) (by decide) ?_
            rw [o1]
            refine x_if_ge (pc := 33) (tgt := 39) dX10_shift_33 (by decide) (fun h33 => ?_) (fun h33 => ?_)
            · skip
              refine x_aload_n (pc := 39) dX10_shift_39 rfl ?_
              refine x_getR (pc := 40) dX10_shift_40 flX10_232 (by first | assumption | rfl) rfl ?_
              refine x_iload_n (pc := 43) dX10_shift_43 rfl ?_
              refine x_ialdN (pc := 44) dX10_shift_44 (by first | assumption | rfl) (by first | with_reducible rfl | (simp only [xlit, nI_add, pk_mul]; with_reducible rfl)) (by omega) (by decide) ?_
              rw [t1]
              refine x_aload_n (pc := 45) dX10_shift_45 rfl ?_
              refine x_getR (pc := 46) dX10_shift_46 flX10_232 (by first | assumption | rfl) rfl ?_
              refine x_iload_n (pc := 49) dX10_shift_49 rfl ?_
              refine x_ialdN (pc := 50) dX10_shift_50 (by first | assumption | rfl) (by first | with_reducible rfl | (simp only [xlit, nI_add, pk_mul]; with_reducible rfl)) (by omega) (by decide) ?_
              rw [o1]
              refine x_icmp_eq (pc := 51) (tgt := 57) dX10_shift_51 (by decide) (fun h51 => ?_) (fun h51 => ?_)
              · skip
                refine x_iload (pc := 57) dX10_shift_57 rfl ?_
                refine x_if_lt (pc := 59) (tgt := 98) dX10_shift_59 (by decide) (fun h59 => ?_) (fun h59 => ?_)
                · skip
                  exact absurd h59 n0
                · skip
                  refine x_iload_n (pc := 62) dX10_shift_62 rfl ?_
                  refine x_if_lt (pc := 63) (tgt := 98) dX10_shift_63 (by decide) (fun h63 => ?_) (fun h63 => ?_)
                  · skip
                    refine x_bipush (pc := 98) dX10_shift_98 bp_m13 ?_
                    refine x_ret (pc := 100) (v := some _) rfl trivial dX10_shift_100 (by decide) ?_
                    exact h M high.rf hC
                  · skip
                    exact absurd i0 h63
              · skip
                exact absurd (by rw [hq]) h51
            · skip
              exact absurd (Int32.not_lt.mp hm2) h33
        · skip
          cases h13
    by_cases j0 : j < 0
    · rw [if_neg (fun q => absurd j0 (Int32.not_lt.mpr (of_decide_eq_true q.2).1))] at h
      refine x_aload_n (pc := 0) dX10_shift_0 rfl ?_
      refine x_iload_n (pc := 1) dX10_shift_1 rfl ?_
      refine x_invV1 (pc := 2) dX10_shift_2 mlX10_436 imX10_isTape seX10_isTape kX10_isTape (by first | assumption | rfl) rfl (Nat.le_of_ble_eq_true rfl) (by decide) ?_
      refine sm_isTape ?_
      refine x_cv rfl rfl ?_
      rw [e]
      first | (guard_target =~ Wp _ _ _ _ _ (Value.int (nI _) :: _) _ _ _ _; with_reducible refine x_if_eqN (pc := 5) (tgt := 16) ?_ dX10_shift_5 ?_ (fun h5 => ?_) (fun h5 => ?_); (first | omega | exact b2n_32 _ | exact b2n_31 _); decide) | refine x_if_eq (pc := 5) (tgt := 16) dX10_shift_5 (by decide) (fun h5 => ?_) (fun h5 => ?_)
      · skip
        cases h5
      · skip
        refine x_aload_n (pc := 8) dX10_shift_8 rfl ?_
        refine x_iload_n (pc := 9) dX10_shift_9 rfl ?_
        refine x_invV1 (pc := 10) dX10_shift_10 mlX10_436 imX10_isTape seX10_isTape kX10_isTape (by first | assumption | rfl) rfl (Nat.le_of_ble_eq_true rfl) (by decide) ?_
        refine sm_isTape ?_
        refine x_cv rfl rfl ?_
        rw [e2]
        first | (guard_target =~ Wp _ _ _ _ _ (Value.int (nI _) :: _) _ _ _ _; with_reducible refine x_if_neN (pc := 13) (tgt := 18) ?_ dX10_shift_13 ?_ (fun h13 => ?_) (fun h13 => ?_); (first | omega | exact b2n_32 _ | exact b2n_31 _); decide) | refine x_if_ne (pc := 13) (tgt := 18) dX10_shift_13 (by decide) (fun h13 => ?_) (fun h13 => ?_)
        · skip
          refine x_aload_n (pc := 18) dX10_shift_18 rfl ?_
          refine x_getR (pc := 19) dX10_shift_19 flX10_232 (by first | assumption | rfl) rfl ?_
          refine x_iload_n (pc := 22) dX10_shift_22 rfl ?_
          refine x_ialdN (pc := 23) dX10_shift_23 (by first | assumption | rfl) (by first | with_reducible rfl | (simp only [xlit, nI_add, pk_mul]; with_reducible rfl)) (by omega) (by decide) ?_
          rw [t1]
          refine x_if_lt (pc := 24) (tgt := 36) dX10_shift_24 (by decide) (fun h24 => ?_) (fun h24 => ?_)
          · skip
            exact absurd h24 hm1
          · skip
            refine x_aload_n (pc := 27) dX10_shift_27 rfl ?_
            refine x_getR (pc := 28) dX10_shift_28 flX10_232 (by first | assumption | rfl) rfl ?_
            refine x_iload_n (pc := 31) dX10_shift_31 rfl ?_
            refine x_ialdN (pc := 32) dX10_shift_32 (by first | assumption | rfl) (by first | with_reducible rfl | (simp only [xlit, nI_add, pk_mul]; with_reducible rfl)) (by omega) (by decide) ?_
            rw [o1]
            refine x_if_ge (pc := 33) (tgt := 39) dX10_shift_33 (by decide) (fun h33 => ?_) (fun h33 => ?_)
            · skip
              refine x_aload_n (pc := 39) dX10_shift_39 rfl ?_
              refine x_getR (pc := 40) dX10_shift_40 flX10_232 (by first | assumption | rfl) rfl ?_
              refine x_iload_n (pc := 43) dX10_shift_43 rfl ?_
              refine x_ialdN (pc := 44) dX10_shift_44 (by first | assumption | rfl) (by first | with_reducible rfl | (simp only [xlit, nI_add, pk_mul]; with_reducible rfl)) (by omega) (by decide) ?_
              rw [t1]
              refine x_aload_n (pc := 45) dX10_shift_45 rfl ?_
              refine x_getR (pc := 46) dX10_shift_46 flX10_232 (by first | assumption | rfl) rfl ?_
              refine x_iload_n (pc := 49) dX10_shift_49 rfl ?_
              refine x_ialdN (pc := 50) dX10_shift_50 (by first | assumption | rfl) (by first | with_reducible rfl | (simp only [xlit, nI_add, pk_mul]; with_reducible rfl)) (by omega) (by decide) ?_
              rw [o1]
              refine x_icmp_eq (pc := 51) (tgt := 57) dX10_shift_51 (by decide) (fun h51 => ?_) (fun h51 => ?_)
              · skip
                refine x_iload (pc := 57) dX10_shift_57 rfl ?_
                refine x_if_lt (pc := 59) (tgt := 98) dX10_shift_59 (by decide) (fun h59 => ?_) (fun h59 => ?_)
                · skip
                  exact absurd h59 n0
                · skip
                  refine x_iload_n (pc := 62) dX10_shift_62 rfl ?_
                  refine x_if_lt (pc := 63) (tgt := 98) dX10_shift_63 (by decide) (fun h63 => ?_) (fun h63 => ?_)
                  · skip
                    exact absurd h63 i0
                  · skip
                    refine x_iload (pc := 66) dX10_shift_66 rfl ?_
                    refine x_if_lt (pc := 68) (tgt := 98) dX10_shift_68 (by decide) (fun h68 => ?_) (fun h68 => ?_)
                    · skip
                      refine x_bipush (pc := 98) dX10_shift_98 bp_m13 ?_
                      refine x_ret (pc := 100) (v := some _) rfl trivial dX10_shift_100 (by decide) ?_
                      exact h M high.rf hC
                    · skip
                      exact absurd j0 h68
              · skip
                exact absurd (by rw [hq]) h51
            · skip
              exact absurd (Int32.not_lt.mp hm2) h33
        · skip
          cases h13
    obtain ⟨b, hb, rfl⟩ := nI_of n0
    obtain ⟨a, ha, rfl⟩ := nI_of i0
    obtain ⟨c, hc, rfl⟩ := nI_of j0
    simp only [isS_N ha hb hz1, isS_N hc hb hz2, toN_nI hb, toN_nI ha, toN_nI hc] at h
    have copy : a + b ≤ sT s 1 t → c + b ≤ sT s 1 o → (∀ M', high M M' → MC9 M' (tpSt s (sT s) (iCpy (sI s) (60 * t + a) (60 * o + c) b)) → K (some (.int (nI b))) xSF M') → ∀ M' : XM, M'.1 = M.1 → (∀ q, q ≠ 112 → M'.2 q = M.2 q) → (∀ k, k < b → M'.2 112 k = sI s (60 * t + a + k)) → ∀ m k M2, k + m = b → M2.1 = M.1 → (∀ q, q ≠ 111 → M2.2 q = M'.2 q) → (∀ p, M2.2 111 p = if 60 * o + c ≤ p ∧ p < 60 * o + c + k then sI s (60 * t + a + (p - (60 * o + c))) else M.2 111 p) → Wp g (d + 2) mX10_shift 141 [some (.ref 65), some (.int (nI t)), some (.int (nI a)), some (.int (nI o)), some (.int (nI c)), some (.int (nI b)), some (.int (nI k))] [] xSF (0, 0) M2 K := by
      intro ht' ho' hK M' q1 q2 q3 m
      induction m with
      | zero =>
        intro k M2 hk r1 r2 r3
        obtain rfl : k = b := by omega
        refine x_iload (pc := 141) dX10_shift_141 rfl ?_
        refine x_iload (pc := 143) dX10_shift_143 rfl ?_
        first | (guard_target =~ Wp _ _ _ _ _ (Value.int (nI _) :: Value.int (nI _) :: _) _ _ _ _; with_reducible refine x_icmp_geN (pc := 145) (tgt := 176) ?_ ?_ dX10_shift_145 ?_ (fun h145 => ?_) (fun h145 => ?_); (first | omega | exact b2n_31 _); (first | omega | exact b2n_31 _); decide) | refine x_icmp_ge (pc := 145) (tgt := 176) dX10_shift_145 (by decide) (fun h145 => ?_) (fun h145 => ?_)
        · skip
          refine x_iload (pc := 176) dX10_shift_176 rfl ?_
          refine x_ret (pc := 178) (v := some _) rfl trivial dX10_shift_178 (by decide) ?_
          refine hK M2 ⟨fun p _ => by rw [r1], fun p hp => by rw [r2 p (by omega), q2 p (by omega)]⟩ (hC.upT (fun _ _ _ => by rw [r1]) (fun _ _ _ => by rw [r1]) (fun _ _ _ => by rw [r1]) (fun _ _ _ => by rw [r1]) (fun _ _ _ => by rw [r1]) ⟨fun u hu => ?_, fun p hp => ?_⟩)
          · rw [r1]; exact hT.1 u hu
          · rw [r3, hT.2 p hp]; rfl
        · skip
          omega
      | succ m ih =>
        intro k M2 hk r1 r2 r3
        refine x_iload (pc := 141) dX10_shift_141 rfl ?_
        refine x_iload (pc := 143) dX10_shift_143 rfl ?_
        first | (guard_target =~ Wp _ _ _ _ _ (Value.int (nI _) :: Value.int (nI _) :: _) _ _ _ _; with_reducible refine x_icmp_geN (pc := 145) (tgt := 176) ?_ ?_ dX10_shift_145 ?_ (fun h145 => ?_) (fun h145 => ?_); (first | omega | exact b2n_31 _); (first | omega | exact b2n_31 _); decide) | refine x_icmp_ge (pc := 145) (tgt := 176) dX10_shift_145 (by decide) (fun h145 => ?_) (fun h145 => ?_)
        · skip
          omega
        · skip
          refine x_aload_n (pc := 148) dX10_shift_148 rfl ?_
          refine x_getR (pc := 149) dX10_shift_149 flX10_238 (by first | assumption | rfl) rfl ?_
          refine x_bipushN (pc := 152) 60 dX10_shift_152 bp_60 ?_
          refine x_iload_n (pc := 154) dX10_shift_154 rfl ?_
          first | (guard_target =~ Wp _ _ _ _ _ (Value.int (nI _) :: Value.int (nI _) :: _) _ _ _ _; with_reducible refine x_imulN (pc := 155) dX10_shift_155 ?_) | refine x_imul (pc := 155) dX10_shift_155 ?_
          refine x_iload (pc := 156) dX10_shift_156 rfl ?_
          first | (guard_target =~ Wp _ _ _ _ _ (Value.int (nI _) :: Value.int (nI _) :: _) _ _ _ _; with_reducible refine x_iaddN (pc := 158) dX10_shift_158 ?_) | refine x_iadd (pc := 158) dX10_shift_158 ?_
          refine x_iload (pc := 159) dX10_shift_159 rfl ?_
          first | (guard_target =~ Wp _ _ _ _ _ (Value.int (nI _) :: Value.int (nI _) :: _) _ _ _ _; with_reducible refine x_iaddN (pc := 161) dX10_shift_161 ?_) | refine x_iadd (pc := 161) dX10_shift_161 ?_
          refine x_aload_n (pc := 162) dX10_shift_162 rfl ?_
          refine x_getR (pc := 163) dX10_shift_163 flX10_242 (by first | assumption | rfl) rfl ?_
          refine x_iload (pc := 166) dX10_shift_166 rfl ?_
          refine x_laldN (pc := 168) dX10_shift_168 (by first | assumption | rfl) (by first | with_reducible rfl | (simp only [xlit, nI_add, pk_mul]; with_reducible rfl)) (by omega) (by decide) ?_
          rw [show M2.2 112 k = sI s (60 * t + a + k) by rw [r2 112 (by decide)]; exact q3 k (by omega)]
          refine x_lastN (pc := 169) dX10_shift_169 (by first | assumption | rfl) (by first | with_reducible rfl | (simp only [xlit, nI_add, pk_mul]; with_reducible rfl)) (by omega) (by decide) ?_
          first | (guard_target =~ Wp _ _ _ _ (_ :: _ :: _ :: _ :: _ :: _ :: some (Value.int (nI _)) :: _) _ _ _ _ _; with_reducible refine x_iincN (pc := 170) 1 ic_1 dX10_shift_170 ?_ xg_6 xs_6 ?_ ?_; decide; exact (x_hp rfl)) | refine x_iincC (pc := 170) ic_1 dX10_shift_170 (by decide) rfl xs_6 (x_hp rfl) ?_
          refine x_goto (pc := 173) (tgt := 141) dX10_shift_173 (by decide) ?_
          refine ih (k + 1) _ (by omega) r1 (fun q hq => ?_) (fun p => ?_)
          · exact (funext fun z => if_neg (by omega)).trans (r2 q hq)
          · show (if _ then _ else _) = _
            rw [r3]
            by_cases hp : p = 60 * o + c + k
            · subst hp
              rw [if_pos ⟨rfl, rfl⟩, if_pos (by omega)]; congr 1; omega
            · rw [if_neg (by omega)]
              have e : (60 * o + c ≤ p ∧ p < 60 * o + c + k) ↔ (60 * o + c ≤ p ∧ p < 60 * o + c + (k + 1)) := by omega
              simp only [e]
    have save : a + b ≤ sT s 1 t → c + b ≤ sT s 1 o → (∀ M', high M M' → MC9 M' (tpSt s (sT s) (iCpy (sI s) (60 * t + a) (60 * o + c) b)) → K (some (.int (nI b))) xSF M') → ∀ m k M2, k + m = b → M2.1 = M.1 → (∀ q, q ≠ 112 → M2.2 q = M.2 q) → (∀ p, p < k → M2.2 112 p = sI s (60 * t + a + p)) → Wp g (d + 2) mX10_shift 104 [some (.ref 65), some (.int (nI t)), some (.int (nI a)), some (.int (nI o)), some (.int (nI c)), some (.int (nI b)), some (.int (nI k))] [] xSF (0, 0) M2 K := by
      intro ht' ho' hK m
      induction m with
      | zero =>
        intro k M2 hk r1 r2 r3
        obtain rfl : k = b := by omega
        refine x_iload (pc := 104) dX10_shift_104 rfl ?_
        refine x_iload (pc := 106) dX10_shift_106 rfl ?_
        first | (guard_target =~ Wp _ _ _ _ _ (Value.int (nI _) :: Value.int (nI _) :: _) _ _ _ _; with_reducible refine x_icmp_geN (pc := 108) (tgt := 138) ?_ ?_ dX10_shift_108 ?_ (fun h108 => ?_) (fun h108 => ?_); (first | omega | exact b2n_31 _); (first | omega | exact b2n_31 _); decide) | refine x_icmp_ge (pc := 108) (tgt := 138) dX10_shift_108 (by decide) (fun h108 => ?_) (fun h108 => ?_)
        · skip
          refine x_iconstN (pc := 138) 0 dX10_shift_138 ic_0 ?_
          refine x_istore (pc := 139) dX10_shift_139 (by decide) xs_6 (x_hp rfl) ?_
          refine copy ht' ho' hK M2 r1 r2 r3 k 0 M2 (by omega) r1 (fun q _ => rfl) (fun p => ?_)
          rw [if_neg (by omega), r2 111 (by decide)]
        · skip
          omega
      | succ m ih =>
        intro k M2 hk r1 r2 r3
        refine x_iload (pc := 104) dX10_shift_104 rfl ?_
        refine x_iload (pc := 106) dX10_shift_106 rfl ?_
        first | (guard_target =~ Wp _ _ _ _ _ (Value.int (nI _) :: Value.int (nI _) :: _) _ _ _ _; with_reducible refine x_icmp_geN (pc := 108) (tgt := 138) ?_ ?_ dX10_shift_108 ?_ (fun h108 => ?_) (fun h108 => ?_); (first | omega | exact b2n_31 _); (first | omega | exact b2n_31 _); decide) | refine x_icmp_ge (pc := 108) (tgt := 138) dX10_shift_108 (by decide) (fun h108 => ?_) (fun h108 => ?_)
        · skip
          omega
        · skip
          refine x_aload_n (pc := 111) dX10_shift_111 rfl ?_
          refine x_getR (pc := 112) dX10_shift_112 flX10_242 (by first | assumption | rfl) rfl ?_
          refine x_iload (pc := 115) dX10_shift_115 rfl ?_
          refine x_aload_n (pc := 117) dX10_shift_117 rfl ?_
          refine x_getR (pc := 118) dX10_shift_118 flX10_238 (by first | assumption | rfl) rfl ?_
          refine x_bipushN (pc := 121) 60 dX10_shift_121 bp_60 ?_
          refine x_iload_n (pc := 123) dX10_shift_123 rfl ?_
          first | (guard_target =~ Wp _ _ _ _ _ (Value.int (nI _) :: Value.int (nI _) :: _) _ _ _ _; with_reducible refine x_imulN (pc := 124) dX10_shift_124 ?_) | refine x_imul (pc := 124) dX10_shift_124 ?_
          refine x_iload_n (pc := 125) dX10_shift_125 rfl ?_
          first | (guard_target =~ Wp _ _ _ _ _ (Value.int (nI _) :: Value.int (nI _) :: _) _ _ _ _; with_reducible refine x_iaddN (pc := 126) dX10_shift_126 ?_) | refine x_iadd (pc := 126) dX10_shift_126 ?_
          refine x_iload (pc := 127) dX10_shift_127 rfl ?_
          first | (guard_target =~ Wp _ _ _ _ _ (Value.int (nI _) :: Value.int (nI _) :: _) _ _ _ _; with_reducible refine x_iaddN (pc := 129) dX10_shift_129 ?_) | refine x_iadd (pc := 129) dX10_shift_129 ?_
          refine x_laldN (pc := 130) dX10_shift_130 (by first | assumption | rfl) (by first | with_reducible rfl | (simp only [xlit, nI_add, pk_mul]; with_reducible rfl)) (by omega) (by decide) ?_
          rw [show M2.2 111 (60 * t + a + k) = sI s (60 * t + a + k) by rw [r2 111 (by decide)]; exact hT.2 _ (by omega)]
          refine x_lastN (pc := 131) dX10_shift_131 (by first | assumption | rfl) (by first | with_reducible rfl | (simp only [xlit, nI_add, pk_mul]; with_reducible rfl)) (by omega) (by decide) ?_
          first | (guard_target =~ Wp _ _ _ _ (_ :: _ :: _ :: _ :: _ :: _ :: some (Value.int (nI _)) :: _) _ _ _ _ _; with_reducible refine x_iincN (pc := 132) 1 ic_1 dX10_shift_132 ?_ xg_6 xs_6 ?_ ?_; decide; exact (x_hp rfl)) | refine x_iincC (pc := 132) ic_1 dX10_shift_132 (by decide) rfl xs_6 (x_hp rfl) ?_
          refine x_goto (pc := 135) (tgt := 104) dX10_shift_135 (by decide) ?_
          refine ih (k + 1) _ (by omega) r1 (fun q hq => ?_) (fun p hp => ?_)
          · exact (funext fun z => if_neg (by omega)).trans (r2 q hq)
          · show (if _ then _ else _) = _
            by_cases hpk : p = k
            · subst hpk; rw [if_pos ⟨rfl, rfl⟩]
            · rw [if_neg (by omega)]; exact r3 p (by omega)
    refine x_aload_n (pc := 0) dX10_shift_0 rfl ?_
    refine x_iload_n (pc := 1) dX10_shift_1 rfl ?_
    refine x_invV1 (pc := 2) dX10_shift_2 mlX10_436 imX10_isTape seX10_isTape kX10_isTape (by first | assumption | rfl) rfl (Nat.le_of_ble_eq_true rfl) (by decide) ?_
    refine sm_isTape ?_
    refine x_cv rfl rfl ?_
    rw [e]
    first | (guard_target =~ Wp _ _ _ _ _ (Value.int (nI _) :: _) _ _ _ _; with_reducible refine x_if_eqN (pc := 5) (tgt := 16) ?_ dX10_shift_5 ?_ (fun h5 => ?_) (fun h5 => ?_); (first | omega | exact b2n_32 _ | exact b2n_31 _); decide) | refine x_if_eq (pc := 5) (tgt := 16) dX10_shift_5 (by decide) (fun h5 => ?_) (fun h5 => ?_)
    · skip
      cases h5
    · skip
      refine x_aload_n (pc := 8) dX10_shift_8 rfl ?_
      refine x_iload_n (pc := 9) dX10_shift_9 rfl ?_
      refine x_invV1 (pc := 10) dX10_shift_10 mlX10_436 imX10_isTape seX10_isTape kX10_isTape (by first | assumption | rfl) rfl (Nat.le_of_ble_eq_true rfl) (by decide) ?_
      refine sm_isTape ?_
      refine x_cv rfl rfl ?_
      rw [e2]
      first | (guard_target =~ Wp _ _ _ _ _ (Value.int (nI _) :: _) _ _ _ _; with_reducible refine x_if_neN (pc := 13) (tgt := 18) ?_ dX10_shift_13 ?_ (fun h13 => ?_) (fun h13 => ?_); (first | omega | exact b2n_32 _ | exact b2n_31 _); decide) | refine x_if_ne (pc := 13) (tgt := 18) dX10_shift_13 (by decide) (fun h13 => ?_) (fun h13 => ?_)
      · skip
        refine x_aload_n (pc := 18) dX10_shift_18 rfl ?_
        refine x_getR (pc := 19) dX10_shift_19 flX10_232 (by first | assumption | rfl) rfl ?_
        refine x_iload_n (pc := 22) dX10_shift_22 rfl ?_
        refine x_ialdN (pc := 23) dX10_shift_23 (by first | assumption | rfl) (by first | with_reducible rfl | (simp only [xlit, nI_add, pk_mul]; with_reducible rfl)) (by omega) (by decide) ?_
        rw [t1]
        refine x_if_lt (pc := 24) (tgt := 36) dX10_shift_24 (by decide) (fun h24 => ?_) (fun h24 => ?_)
        · skip
          exact absurd h24 hm1
        · skip
          refine x_aload_n (pc := 27) dX10_shift_27 rfl ?_
          refine x_getR (pc := 28) dX10_shift_28 flX10_232 (by first | assumption | rfl) rfl ?_
          refine x_iload_n (pc := 31) dX10_shift_31 rfl ?_
          refine x_ialdN (pc := 32) dX10_shift_32 (by first | assumption | rfl) (by first | with_reducible rfl | (simp only [xlit, nI_add, pk_mul]; with_reducible rfl)) (by omega) (by decide) ?_
          rw [o1]
          refine x_if_ge (pc := 33) (tgt := 39) dX10_shift_33 (by decide) (fun h33 => ?_) (fun h33 => ?_)
          · skip
            refine x_aload_n (pc := 39) dX10_shift_39 rfl ?_
            refine x_getR (pc := 40) dX10_shift_40 flX10_232 (by first | assumption | rfl) rfl ?_
            refine x_iload_n (pc := 43) dX10_shift_43 rfl ?_
            refine x_ialdN (pc := 44) dX10_shift_44 (by first | assumption | rfl) (by first | with_reducible rfl | (simp only [xlit, nI_add, pk_mul]; with_reducible rfl)) (by omega) (by decide) ?_
            rw [t1]
            refine x_aload_n (pc := 45) dX10_shift_45 rfl ?_
            refine x_getR (pc := 46) dX10_shift_46 flX10_232 (by first | assumption | rfl) rfl ?_
            refine x_iload_n (pc := 49) dX10_shift_49 rfl ?_
            refine x_ialdN (pc := 50) dX10_shift_50 (by first | assumption | rfl) (by first | with_reducible rfl | (simp only [xlit, nI_add, pk_mul]; with_reducible rfl)) (by omega) (by decide) ?_
            rw [o1]
            refine x_icmp_eq (pc := 51) (tgt := 57) dX10_shift_51 (by decide) (fun h51 => ?_) (fun h51 => ?_)
            · skip
              refine x_iload (pc := 57) dX10_shift_57 rfl ?_
              refine x_if_lt (pc := 59) (tgt := 98) dX10_shift_59 (by decide) (fun h59 => ?_) (fun h59 => ?_)
              · skip
                exact absurd h59 n0
              · skip
                refine x_iload_n (pc := 62) dX10_shift_62 rfl ?_
                refine x_if_lt (pc := 63) (tgt := 98) dX10_shift_63 (by decide) (fun h63 => ?_) (fun h63 => ?_)
                · skip
                  exact absurd h63 i0
                · skip
                  refine x_iload (pc := 66) dX10_shift_66 rfl ?_
                  refine x_if_lt (pc := 68) (tgt := 98) dX10_shift_68 (by decide) (fun h68 => ?_) (fun h68 => ?_)
                  · skip
                    exact absurd h68 j0
                  · skip
                    refine x_iload_n (pc := 71) dX10_shift_71 rfl ?_
                    refine x_aload_n (pc := 72) dX10_shift_72 rfl ?_
                    refine x_getR (pc := 73) dX10_shift_73 flX10_235 (by first | assumption | rfl) rfl ?_
                    refine x_iload_n (pc := 76) dX10_shift_76 rfl ?_
                    refine x_ialdN (pc := 77) dX10_shift_77 (by first | assumption | rfl) (by first | with_reducible rfl | (simp only [xlit, nI_add, pk_mul]; with_reducible rfl)) (by omega) (by decide) ?_
                    rw [t3]
                    refine x_iload (pc := 78) dX10_shift_78 rfl ?_
                    refine x_isub (pc := 80) dX10_shift_80 ?_
                    refine x_icmp_gt (pc := 81) (tgt := 98) dX10_shift_81 (by decide) (fun h81 => ?_) (fun h81 => ?_)
                    · skip
                      refine x_bipush (pc := 98) dX10_shift_98 bp_m13 ?_
                      refine x_ret (pc := 100) (v := some _) rfl trivial dX10_shift_100 (by decide) ?_
                      rw [if_neg (fun q => absurd ((sub_gt (by omega) ha hb).mp h81) (by omega))] at h; exact h M high.rf hC
                    · skip
                      refine x_iload (pc := 84) dX10_shift_84 rfl ?_
                      refine x_aload_n (pc := 86) dX10_shift_86 rfl ?_
                      refine x_getR (pc := 87) dX10_shift_87 flX10_235 (by first | assumption | rfl) rfl ?_
                      refine x_iload_n (pc := 90) dX10_shift_90 rfl ?_
                      refine x_ialdN (pc := 91) dX10_shift_91 (by first | assumption | rfl) (by first | with_reducible rfl | (simp only [xlit, nI_add, pk_mul]; with_reducible rfl)) (by omega) (by decide) ?_
                      rw [o3]
                      refine x_iload (pc := 92) dX10_shift_92 rfl ?_
                      refine x_isub (pc := 94) dX10_shift_94 ?_
                      refine x_icmp_le (pc := 95) (tgt := 101) dX10_shift_95 (by decide) (fun h95 => ?_) (fun h95 => ?_)
                      · skip
                        refine x_iconstN (pc := 101) 0 dX10_shift_101 ic_0 ?_
                        refine x_istore (pc := 102) dX10_shift_102 (by decide) xs_6 (x_hp rfl) ?_
                        have z1 : a + b ≤ sT s 1 t := Nat.not_lt.mp (fun q => h81 ((sub_gt (by omega) ha hb).mpr q))
                        have z2 : c + b ≤ sT s 1 o := Nat.not_lt.mp (fun q => absurd ((sub_gt (by omega) hc hb).mpr q) (Int32.not_lt.mpr h95))
                        rw [if_pos ⟨z1, z2⟩] at h
                        exact save z1 z2 h b 0 M (by omega) rfl (fun q _ => rfl) (fun p hp => absurd hp (by omega))
                      · skip
                        refine x_bipush (pc := 98) dX10_shift_98 bp_m13 ?_
                        refine x_ret (pc := 100) (v := some _) rfl trivial dX10_shift_100 (by decide) ?_
                        rw [if_neg (fun q => absurd ((sub_gt (by omega) hc hb).mp (Int32.not_le.mp h95)) (by omega))] at h; exact h M high.rf hC
            · skip
              exact absurd (by rw [hq]) h51
          · skip
            exact absurd (Int32.not_lt.mp hm2) h33
      · skip
        cases h13
  · rw [if_neg hq] at h
    refine x_aload_n (pc := 0) dX10_shift_0 rfl ?_
    refine x_iload_n (pc := 1) dX10_shift_1 rfl ?_
    refine x_invV1 (pc := 2) dX10_shift_2 mlX10_436 imX10_isTape seX10_isTape kX10_isTape (by first | assumption | rfl) rfl (Nat.le_of_ble_eq_true rfl) (by decide) ?_
    refine sm_isTape ?_
    refine x_cv rfl rfl ?_
    rw [e]
    first | (guard_target =~ Wp _ _ _ _ _ (Value.int (nI _) :: _) _ _ _ _; with_reducible refine x_if_eqN (pc := 5) (tgt := 16) ?_ dX10_shift_5 ?_ (fun h5 => ?_) (fun h5 => ?_); (first | omega | exact b2n_32 _ | exact b2n_31 _); decide) | refine x_if_eq (pc := 5) (tgt := 16) dX10_shift_5 (by decide) (fun h5 => ?_) (fun h5 => ?_)
    · skip
      cases h5
    · skip
      refine x_aload_n (pc := 8) dX10_shift_8 rfl ?_
      refine x_iload_n (pc := 9) dX10_shift_9 rfl ?_
      refine x_invV1 (pc := 10) dX10_shift_10 mlX10_436 imX10_isTape seX10_isTape kX10_isTape (by first | assumption | rfl) rfl (Nat.le_of_ble_eq_true rfl) (by decide) ?_
      refine sm_isTape ?_
      refine x_cv rfl rfl ?_
      rw [e2]
      first | (guard_target =~ Wp _ _ _ _ _ (Value.int (nI _) :: _) _ _ _ _; with_reducible refine x_if_neN (pc := 13) (tgt := 18) ?_ dX10_shift_13 ?_ (fun h13 => ?_) (fun h13 => ?_); (first | omega | exact b2n_32 _ | exact b2n_31 _); decide) | refine x_if_ne (pc := 13) (tgt := 18) dX10_shift_13 (by decide) (fun h13 => ?_) (fun h13 => ?_)
      · skip
        refine x_aload_n (pc := 18) dX10_shift_18 rfl ?_
        refine x_getR (pc := 19) dX10_shift_19 flX10_232 (by first | assumption | rfl) rfl ?_
        refine x_iload_n (pc := 22) dX10_shift_22 rfl ?_
        refine x_ialdN (pc := 23) dX10_shift_23 (by first | assumption | rfl) (by first | with_reducible rfl | (simp only [xlit, nI_add, pk_mul]; with_reducible rfl)) (by omega) (by decide) ?_
        rw [t1]
        refine x_if_lt (pc := 24) (tgt := 36) dX10_shift_24 (by decide) (fun h24 => ?_) (fun h24 => ?_)
        · skip
          exact absurd h24 hm1
        · skip
          refine x_aload_n (pc := 27) dX10_shift_27 rfl ?_
          refine x_getR (pc := 28) dX10_shift_28 flX10_232 (by first | assumption | rfl) rfl ?_
          refine x_iload_n (pc := 31) dX10_shift_31 rfl ?_
          refine x_ialdN (pc := 32) dX10_shift_32 (by first | assumption | rfl) (by first | with_reducible rfl | (simp only [xlit, nI_add, pk_mul]; with_reducible rfl)) (by omega) (by decide) ?_
          rw [o1]
          refine x_if_ge (pc := 33) (tgt := 39) dX10_shift_33 (by decide) (fun h33 => ?_) (fun h33 => ?_)
          · skip
            refine x_aload_n (pc := 39) dX10_shift_39 rfl ?_
            refine x_getR (pc := 40) dX10_shift_40 flX10_232 (by first | assumption | rfl) rfl ?_
            refine x_iload_n (pc := 43) dX10_shift_43 rfl ?_
            refine x_ialdN (pc := 44) dX10_shift_44 (by first | assumption | rfl) (by first | with_reducible rfl | (simp only [xlit, nI_add, pk_mul]; with_reducible rfl)) (by omega) (by decide) ?_
            rw [t1]
            refine x_aload_n (pc := 45) dX10_shift_45 rfl ?_
            refine x_getR (pc := 46) dX10_shift_46 flX10_232 (by first | assumption | rfl) rfl ?_
            refine x_iload_n (pc := 49) dX10_shift_49 rfl ?_
            refine x_ialdN (pc := 50) dX10_shift_50 (by first | assumption | rfl) (by first | with_reducible rfl | (simp only [xlit, nI_add, pk_mul]; with_reducible rfl)) (by omega) (by decide) ?_
            rw [o1]
            refine x_icmp_eq (pc := 51) (tgt := 57) dX10_shift_51 (by decide) (fun h51 => ?_) (fun h51 => ?_)
            · skip
              exact absurd (srt_inj t2 o2 h51) hq
            · skip
              refine x_bipush (pc := 54) dX10_shift_54 bp_m12 ?_
              refine x_ret (pc := 56) (v := some _) rfl trivial dX10_shift_56 (by decide) ?_
              exact h M high.rf hC
          · skip
            exact absurd (Int32.not_lt.mp hm2) h33
      · skip
        cases h13
theorem fM_judge {t i : Int32} (hB : bdA s.1.1) (hC : MC9 M s) (h : ∀ M', high M M' → MC9 M' s → K (some (.int (vJudge s t i))) xSF M') : Ex g (d + 2) yX10_judge mX10_judge [.ref 65, .int t, .int i] xSF M K := by
  unfold vJudge at h
  have hT : TR 109 111 M (sT s) (sI s) := hC.2.2.2.1
  have hP := hC.1.2.2.2.2.2.1
  refine x_entry kX10_judge (Nat.le_of_ble_eq_true rfl) ?_
  show Wp g _ mX10_judge 0 [some (.ref 65), some (.int t), some (.int i), none] [] _ _ _ _
  rcases isR_cases (x := t) (n := 6) (by omega) with e | ⟨t, ht, rfl, e⟩
  · simp only [e, Bool.false_eq_true, if_false] at h
    refine x_aload_n (pc := 0) dX10_judge_0 rfl ?_
    refine x_iload_n (pc := 1) dX10_judge_1 rfl ?_
    refine x_invV1 (pc := 2) dX10_judge_2 mlX10_436 imX10_isTape seX10_isTape kX10_isTape (by first | assumption | rfl) rfl (Nat.le_of_ble_eq_true rfl) (by decide) ?_
    refine sm_isTape ?_
    refine x_cv rfl rfl ?_
    rw [e]
    first | (guard_target =~ Wp _ _ _ _ _ (Value.int (nI _) :: _) _ _ _ _; with_reducible refine x_if_neN (pc := 5) (tgt := 10) ?_ dX10_judge_5 ?_ (fun h5 => ?_) (fun h5 => ?_); (first | omega | exact b2n_32 _ | exact b2n_31 _); decide) | refine x_if_ne (pc := 5) (tgt := 10) dX10_judge_5 (by decide) (fun h5 => ?_) (fun h5 => ?_)
    · skip
      exact absurd rfl h5
    · skip
      refine x_iconst (pc := 8) dX10_judge_8 ic_m1 ?_
      refine x_ret (pc := 9) (v := some _) rfl trivial dX10_judge_9 (by decide) ?_
      exact h M high.rf hC
  simp only [e, if_true] at h
  rw [toN_nI (by omega)] at h
  obtain ⟨t1, t2, t3, t4⟩ := hT.1 t ht
  have hz : sT s 1 t ≤ 60 := t4
  by_cases h0 : sT s 0 t = 0
  · rw [if_pos h0] at h
    refine x_aload_n (pc := 0) dX10_judge_0 rfl ?_
    refine x_iload_n (pc := 1) dX10_judge_1 rfl ?_
    refine x_invV1 (pc := 2) dX10_judge_2 mlX10_436 imX10_isTape seX10_isTape kX10_isTape (by first | assumption | rfl) rfl (Nat.le_of_ble_eq_true rfl) (by decide) ?_
    refine sm_isTape ?_
    refine x_cv rfl rfl ?_
    rw [e]
    first | (guard_target =~ Wp _ _ _ _ _ (Value.int (nI _) :: _) _ _ _ _; with_reducible refine x_if_neN (pc := 5) (tgt := 10) ?_ dX10_judge_5 ?_ (fun h5 => ?_) (fun h5 => ?_); (first | omega | exact b2n_32 _ | exact b2n_31 _); decide) | refine x_if_ne (pc := 5) (tgt := 10) dX10_judge_5 (by decide) (fun h5 => ?_) (fun h5 => ?_)
    · skip
      refine x_aload_n (pc := 10) dX10_judge_10 rfl ?_
      refine x_getR (pc := 11) dX10_judge_11 flX10_232 (by first | assumption | rfl) rfl ?_
      refine x_iload_n (pc := 14) dX10_judge_14 rfl ?_
      refine x_ialdN (pc := 15) dX10_judge_15 (by first | assumption | rfl) (by first | with_reducible rfl | (simp only [xlit, nI_add, pk_mul]; with_reducible rfl)) (by omega) (by decide) ?_
      rw [t1]
      refine x_if_lt (pc := 16) (tgt := 32) dX10_judge_16 (by decide) (fun h16 => ?_) (fun h16 => ?_)
      · skip
        refine x_iconstN (pc := 32) 0 dX10_judge_32 ic_0 ?_
        refine x_istore_n (pc := 33) dX10_judge_33 (by decide) xs_3 (x_hp rfl) ?_
        refine x_iload_n (pc := 34) dX10_judge_34 rfl ?_
        refine x_bipushN (pc := 35) 16 dX10_judge_35 bp_16 ?_
        first | (guard_target =~ Wp _ _ _ _ _ (Value.int (nI _) :: Value.int (nI _) :: _) _ _ _ _; with_reducible refine x_icmp_geN (pc := 37) (tgt := 104) ?_ ?_ dX10_judge_37 ?_ (fun h37 => ?_) (fun h37 => ?_); (first | omega | exact b2n_31 _); (first | omega | exact b2n_31 _); decide) | refine x_icmp_ge (pc := 37) (tgt := 104) dX10_judge_37 (by decide) (fun h37 => ?_) (fun h37 => ?_)
        · skip
          omega
        · skip
          refine x_aload_n (pc := 40) dX10_judge_40 rfl ?_
          refine x_getR (pc := 41) dX10_judge_41 flX10_232 (by first | assumption | rfl) rfl ?_
          refine x_iload_n (pc := 44) dX10_judge_44 rfl ?_
          refine x_ialdN (pc := 45) dX10_judge_45 (by first | assumption | rfl) (by first | with_reducible rfl | (simp only [xlit, nI_add, pk_mul]; with_reducible rfl)) (by omega) (by decide) ?_
          rw [t1]
          refine x_if_lt (pc := 46) (tgt := 67) dX10_judge_46 (by decide) (fun h46 => ?_) (fun h46 => ?_)
          · skip
            refine x_bipushN (pc := 67) 100 dX10_judge_67 bp_100 ?_
            refine x_iload_n (pc := 69) dX10_judge_69 rfl ?_
            first | (guard_target =~ Wp _ _ _ _ _ (Value.int (nI _) :: Value.int (nI _) :: _) _ _ _ _; with_reducible refine x_iaddN (pc := 70) dX10_judge_70 ?_) | refine x_iadd (pc := 70) dX10_judge_70 ?_
            refine x_ret (pc := 71) (v := some _) rfl trivial dX10_judge_71 (by decide) ?_
            exact h M high.rf hC
          · skip
            exact absurd ((srt_neg t2).mpr h0) h46
      · skip
        exact absurd ((srt_neg t2).mpr h0) h16
    · skip
      cases h5
  rw [if_neg h0] at h
  have hm : ¬ srt (sT s 0 t) < 0 := fun q => h0 ((srt_neg t2).mp q)
  by_cases h2 : sT s 0 t = 2
  · rw [if_pos h2] at h
    by_cases i0 : i < 0
    · rw [jdF, isR_neg (show i + nI 0 < 0 by rw [show nI 0 = (0 : Int32) from rfl, Int32.add_zero]; exact i0), if_neg (by decide)] at h
      refine x_aload_n (pc := 0) dX10_judge_0 rfl ?_
      refine x_iload_n (pc := 1) dX10_judge_1 rfl ?_
      refine x_invV1 (pc := 2) dX10_judge_2 mlX10_436 imX10_isTape seX10_isTape kX10_isTape (by first | assumption | rfl) rfl (Nat.le_of_ble_eq_true rfl) (by decide) ?_
      refine sm_isTape ?_
      refine x_cv rfl rfl ?_
      rw [e]
      first | (guard_target =~ Wp _ _ _ _ _ (Value.int (nI _) :: _) _ _ _ _; with_reducible refine x_if_neN (pc := 5) (tgt := 10) ?_ dX10_judge_5 ?_ (fun h5 => ?_) (fun h5 => ?_); (first | omega | exact b2n_32 _ | exact b2n_31 _); decide) | refine x_if_ne (pc := 5) (tgt := 10) dX10_judge_5 (by decide) (fun h5 => ?_) (fun h5 => ?_)
      · skip
        refine x_aload_n (pc := 10) dX10_judge_10 rfl ?_
        refine x_getR (pc := 11) dX10_judge_11 flX10_232 (by first | assumption | rfl) rfl ?_
        refine x_iload_n (pc := 14) dX10_judge_14 rfl ?_
        refine x_ialdN (pc := 15) dX10_judge_15 (by first | assumption | rfl) (by first | with_reducible rfl | (simp only [xlit, nI_add, pk_mul]; with_reducible rfl)) (by omega) (by decide) ?_
        rw [t1]
        refine x_if_lt (pc := 16) (tgt := 32) dX10_judge_16 (by decide) (fun h16 => ?_) (fun h16 => ?_)
        · skip
          exact absurd h16 hm
        · skip
          refine x_aload_n (pc := 19) dX10_judge_19 rfl ?_
          refine x_getR (pc := 20) dX10_judge_20 flX10_232 (by first | assumption | rfl) rfl ?_
          refine x_iload_n (pc := 23) dX10_judge_23 rfl ?_
          refine x_ialdN (pc := 24) dX10_judge_24 (by first | assumption | rfl) (by first | with_reducible rfl | (simp only [xlit, nI_add, pk_mul]; with_reducible rfl)) (by omega) (by decide) ?_
          rw [t1, h2]
          refine x_iconstN (pc := 25) 1 dX10_judge_25 ic_1 ?_
          refine x_icmp_eq (pc := 26) (tgt := 32) dX10_judge_26 (by decide) (fun h26 => ?_) (fun h26 => ?_)
          · skip
            refine x_iconstN (pc := 32) 0 dX10_judge_32 ic_0 ?_
            refine x_istore_n (pc := 33) dX10_judge_33 (by decide) xs_3 (x_hp rfl) ?_
            refine x_iload_n (pc := 34) dX10_judge_34 rfl ?_
            refine x_bipushN (pc := 35) 16 dX10_judge_35 bp_16 ?_
            first | (guard_target =~ Wp _ _ _ _ _ (Value.int (nI _) :: Value.int (nI _) :: _) _ _ _ _; with_reducible refine x_icmp_geN (pc := 37) (tgt := 104) ?_ ?_ dX10_judge_37 ?_ (fun h37 => ?_) (fun h37 => ?_); (first | omega | exact b2n_31 _); (first | omega | exact b2n_31 _); decide) | refine x_icmp_ge (pc := 37) (tgt := 104) dX10_judge_37 (by decide) (fun h37 => ?_) (fun h37 => ?_)
            · skip
              omega
            · skip
              refine x_aload_n (pc := 40) dX10_judge_40 rfl ?_
              refine x_getR (pc := 41) dX10_judge_41 flX10_232 (by first | assumption | rfl) rfl ?_
              refine x_iload_n (pc := 44) dX10_judge_44 rfl ?_
              refine x_ialdN (pc := 45) dX10_judge_45 (by first | assumption | rfl) (by first | with_reducible rfl | (simp only [xlit, nI_add, pk_mul]; with_reducible rfl)) (by omega) (by decide) ?_
              rw [t1]
              refine x_if_lt (pc := 46) (tgt := 67) dX10_judge_46 (by decide) (fun h46 => ?_) (fun h46 => ?_)
              · skip
                exact absurd h46 hm
              · skip
                refine x_iload_n (pc := 49) dX10_judge_49 rfl ?_
                refine x_if_lt (pc := 50) (tgt := 67) dX10_judge_50 (by decide) (fun h50 => ?_) (fun h50 => ?_)
                · skip
                  refine x_bipushN (pc := 67) 100 dX10_judge_67 bp_100 ?_
                  refine x_iload_n (pc := 69) dX10_judge_69 rfl ?_
                  first | (guard_target =~ Wp _ _ _ _ _ (Value.int (nI _) :: Value.int (nI _) :: _) _ _ _ _; with_reducible refine x_iaddN (pc := 70) dX10_judge_70 ?_) | refine x_iadd (pc := 70) dX10_judge_70 ?_
                  refine x_ret (pc := 71) (v := some _) rfl trivial dX10_judge_71 (by decide) ?_
                  exact h M high.rf hC
                · skip
                  exact absurd i0 h50
          · skip
            exact absurd rfl h26
      · skip
        cases h5
    obtain ⟨a, ha, rfl⟩ := nI_of i0
    have loop : ∀ m c, c + m = 16 → jdF s.1.1 (sI s) t (sT s 1 t) (nI a) m c = jdF s.1.1 (sI s) t (sT s 1 t) (nI a) 16 0 → Wp g (d + 2) mX10_judge 34 [some (.ref 65), some (.int (nI t)), some (.int (nI a)), some (.int (nI c))] [] xSF (0, 0) M K := by
      intro m
      induction m with
      | zero =>
        intro c hc he
        refine x_iload_n (pc := 34) dX10_judge_34 rfl ?_
        refine x_bipushN (pc := 35) 16 dX10_judge_35 bp_16 ?_
        first | (guard_target =~ Wp _ _ _ _ _ (Value.int (nI _) :: Value.int (nI _) :: _) _ _ _ _; with_reducible refine x_icmp_geN (pc := 37) (tgt := 104) ?_ ?_ dX10_judge_37 ?_ (fun h37 => ?_) (fun h37 => ?_); (first | omega | exact b2n_31 _); (first | omega | exact b2n_31 _); decide) | refine x_icmp_ge (pc := 37) (tgt := 104) dX10_judge_37 (by decide) (fun h37 => ?_) (fun h37 => ?_)
        · skip
          refine x_bipush (pc := 104) dX10_judge_104 bp_m5 ?_
          refine x_ret (pc := 106) (v := some _) rfl trivial dX10_judge_106 (by decide) ?_
          rw [← he] at h; exact h M high.rf hC
        · skip
          omega
      | succ m ih =>
        intro c hc he
        rw [jdF, isR_add ha (by omega) hz] at he
        have hw : s.1.1 0 c < 67108864 := hB.1 0 (by decide) c (show c < 16 by omega)
        have eS : nI (sT s 1 t) - nI c - nI 1 = nI (sT s 1 t) - nI (c + 1) := by rw [Int32.sub_sub, nI_add]
        by_cases hin : a + c < sT s 1 t
        · rw [if_pos (decide_eq_true hin), nI_add, toN_nI (by omega)] at he
          refine x_iload_n (pc := 34) dX10_judge_34 rfl ?_
          refine x_bipushN (pc := 35) 16 dX10_judge_35 bp_16 ?_
          first | (guard_target =~ Wp _ _ _ _ _ (Value.int (nI _) :: Value.int (nI _) :: _) _ _ _ _; with_reducible refine x_icmp_geN (pc := 37) (tgt := 104) ?_ ?_ dX10_judge_37 ?_ (fun h37 => ?_) (fun h37 => ?_); (first | omega | exact b2n_31 _); (first | omega | exact b2n_31 _); decide) | refine x_icmp_ge (pc := 37) (tgt := 104) dX10_judge_37 (by decide) (fun h37 => ?_) (fun h37 => ?_)
          · skip
            omega
          · skip
            refine x_aload_n (pc := 40) dX10_judge_40 rfl ?_
            refine x_getR (pc := 41) dX10_judge_41 flX10_232 (by first | assumption | rfl) rfl ?_
            refine x_iload_n (pc := 44) dX10_judge_44 rfl ?_
            refine x_ialdN (pc := 45) dX10_judge_45 (by first | assumption | rfl) (by first | with_reducible rfl | (simp only [xlit, nI_add, pk_mul]; with_reducible rfl)) (by omega) (by decide) ?_
            rw [t1]
            refine x_if_lt (pc := 46) (tgt := 67) dX10_judge_46 (by decide) (fun h46 => ?_) (fun h46 => ?_)
            · skip
              exact absurd h46 hm
            · skip
              refine x_iload_n (pc := 49) dX10_judge_49 rfl ?_
              refine x_if_lt (pc := 50) (tgt := 67) dX10_judge_50 (by decide) (fun h50 => ?_) (fun h50 => ?_)
              · skip
                exact absurd h50 i0
              · skip
                refine x_iload_n (pc := 53) dX10_judge_53 rfl ?_
                refine x_aload_n (pc := 54) dX10_judge_54 rfl ?_
                refine x_getR (pc := 55) dX10_judge_55 flX10_235 (by first | assumption | rfl) rfl ?_
                refine x_iload_n (pc := 58) dX10_judge_58 rfl ?_
                refine x_ialdN (pc := 59) dX10_judge_59 (by first | assumption | rfl) (by first | with_reducible rfl | (simp only [xlit, nI_add, pk_mul]; with_reducible rfl)) (by omega) (by decide) ?_
                rw [t3]
                refine x_iload_n (pc := 60) dX10_judge_60 rfl ?_
                refine x_isub (pc := 61) dX10_judge_61 ?_
                refine x_iconstN (pc := 62) 1 dX10_judge_62 ic_1 ?_
                refine x_isub (pc := 63) dX10_judge_63 ?_
                rw [eS]
                refine x_icmp_le (pc := 64) (tgt := 72) dX10_judge_64 (by decide) (fun h64 => ?_) (fun h64 => ?_)
                · skip
                  refine x_aload_n (pc := 72) dX10_judge_72 rfl ?_
                  refine x_getR (pc := 73) dX10_judge_73 flX10_238 (by first | assumption | rfl) rfl ?_
                  refine x_bipushN (pc := 76) 60 dX10_judge_76 bp_60 ?_
                  refine x_iload_n (pc := 78) dX10_judge_78 rfl ?_
                  first | (guard_target =~ Wp _ _ _ _ _ (Value.int (nI _) :: Value.int (nI _) :: _) _ _ _ _; with_reducible refine x_imulN (pc := 79) dX10_judge_79 ?_) | refine x_imul (pc := 79) dX10_judge_79 ?_
                  refine x_iload_n (pc := 80) dX10_judge_80 rfl ?_
                  first | (guard_target =~ Wp _ _ _ _ _ (Value.int (nI _) :: Value.int (nI _) :: _) _ _ _ _; with_reducible refine x_iaddN (pc := 81) dX10_judge_81 ?_) | refine x_iadd (pc := 81) dX10_judge_81 ?_
                  refine x_iload_n (pc := 82) dX10_judge_82 rfl ?_
                  first | (guard_target =~ Wp _ _ _ _ _ (Value.int (nI _) :: Value.int (nI _) :: _) _ _ _ _; with_reducible refine x_iaddN (pc := 83) dX10_judge_83 ?_) | refine x_iadd (pc := 83) dX10_judge_83 ?_
                  refine x_laldN (pc := 84) dX10_judge_84 (by first | assumption | rfl) (by first | with_reducible rfl | (simp only [xlit, nI_add, pk_mul]; with_reducible rfl)) (by omega) (by decide) ?_
                  rw [hT.2 _ (by omega), Nat.add_assoc]
                  refine x_aload_n (pc := 85) dX10_judge_85 rfl ?_
                  refine x_getR (pc := 86) dX10_judge_86 flX10_22 (by first | assumption | rfl) rfl ?_
                  refine x_iload_n (pc := 89) dX10_judge_89 rfl ?_
                  refine x_ialdN (pc := 90) dX10_judge_90 (by first | assumption | rfl) (by first | with_reducible rfl | (simp only [xlit, nI_add, pk_mul]; with_reducible rfl)) (by omega) (by decide) ?_
                  rw [show M.1 66 c = nI (s.1.1 0 c) from hP 0 (by decide) c (show c < 16 by omega)]
                  refine x_i2l (pc := 91) dX10_judge_91 ?_
                  refine x_lcmp (pc := 92) dX10_judge_92 ?_
                  first | (guard_target =~ Wp _ _ _ _ _ (Value.int (nI _) :: _) _ _ _ _; with_reducible refine x_if_eqN (pc := 93) (tgt := 98) ?_ dX10_judge_93 ?_ (fun h93 => ?_) (fun h93 => ?_); (first | omega | exact b2n_32 _ | exact b2n_31 _); decide) | refine x_if_eq (pc := 93) (tgt := 98) dX10_judge_93 (by decide) (fun h93 => ?_) (fun h93 => ?_)
                  · skip
                    first | (guard_target =~ Wp _ _ _ _ (_ :: _ :: _ :: some (Value.int (nI _)) :: _) _ _ _ _ _; with_reducible refine x_iincN (pc := 98) 1 ic_1 dX10_judge_98 ?_ xg_3 xs_3 ?_ ?_; decide; exact (x_hp rfl)) | refine x_iincC (pc := 98) ic_1 dX10_judge_98 (by decide) rfl xs_3 (x_hp rfl) ?_
                    refine x_goto (pc := 101) (tgt := 34) dX10_judge_101 (by decide) ?_
                    rw [if_pos ((lg_cmp_eq _ _).mp h93)] at he; exact ih (c + 1) (by omega) he
                  · skip
                    refine x_iload_n (pc := 96) dX10_judge_96 rfl ?_
                    refine x_ret (pc := 97) (v := some _) rfl trivial dX10_judge_97 (by decide) ?_
                    rw [if_neg (fun q => h93 ((lg_cmp_eq _ _).mpr q))] at he; rw [← he] at h; exact h M high.rf hC
                · skip
                  exact absurd ((sub_gt (by omega) ha (by omega)).mp (Int32.not_le.mp h64)) (by omega)
        · rw [if_neg (by rw [decide_eq_false hin]; decide)] at he
          refine x_iload_n (pc := 34) dX10_judge_34 rfl ?_
          refine x_bipushN (pc := 35) 16 dX10_judge_35 bp_16 ?_
          first | (guard_target =~ Wp _ _ _ _ _ (Value.int (nI _) :: Value.int (nI _) :: _) _ _ _ _; with_reducible refine x_icmp_geN (pc := 37) (tgt := 104) ?_ ?_ dX10_judge_37 ?_ (fun h37 => ?_) (fun h37 => ?_); (first | omega | exact b2n_31 _); (first | omega | exact b2n_31 _); decide) | refine x_icmp_ge (pc := 37) (tgt := 104) dX10_judge_37 (by decide) (fun h37 => ?_) (fun h37 => ?_)
          · skip
            omega
          · skip
            refine x_aload_n (pc := 40) dX10_judge_40 rfl ?_
            refine x_getR (pc := 41) dX10_judge_41 flX10_232 (by first | assumption | rfl) rfl ?_
            refine x_iload_n (pc := 44) dX10_judge_44 rfl ?_
            refine x_ialdN (pc := 45) dX10_judge_45 (by first | assumption | rfl) (by first | with_reducible rfl | (simp only [xlit, nI_add, pk_mul]; with_reducible rfl)) (by omega) (by decide) ?_
            rw [t1]
            refine x_if_lt (pc := 46) (tgt := 67) dX10_judge_46 (by decide) (fun h46 => ?_) (fun h46 => ?_)
            · skip
              exact absurd h46 hm
            · skip
              refine x_iload_n (pc := 49) dX10_judge_49 rfl ?_
              refine x_if_lt (pc := 50) (tgt := 67) dX10_judge_50 (by decide) (fun h50 => ?_) (fun h50 => ?_)
              · skip
                exact absurd h50 i0
              · skip
                refine x_iload_n (pc := 53) dX10_judge_53 rfl ?_
                refine x_aload_n (pc := 54) dX10_judge_54 rfl ?_
                refine x_getR (pc := 55) dX10_judge_55 flX10_235 (by first | assumption | rfl) rfl ?_
                refine x_iload_n (pc := 58) dX10_judge_58 rfl ?_
                refine x_ialdN (pc := 59) dX10_judge_59 (by first | assumption | rfl) (by first | with_reducible rfl | (simp only [xlit, nI_add, pk_mul]; with_reducible rfl)) (by omega) (by decide) ?_
                rw [t3]
                refine x_iload_n (pc := 60) dX10_judge_60 rfl ?_
                refine x_isub (pc := 61) dX10_judge_61 ?_
                refine x_iconstN (pc := 62) 1 dX10_judge_62 ic_1 ?_
                refine x_isub (pc := 63) dX10_judge_63 ?_
                rw [eS]
                refine x_icmp_le (pc := 64) (tgt := 72) dX10_judge_64 (by decide) (fun h64 => ?_) (fun h64 => ?_)
                · skip
                  exact absurd ((sub_gt (by omega) ha (by omega)).mpr (by omega)) (Int32.not_lt.mpr h64)
                · skip
                  refine x_bipushN (pc := 67) 100 dX10_judge_67 bp_100 ?_
                  refine x_iload_n (pc := 69) dX10_judge_69 rfl ?_
                  first | (guard_target =~ Wp _ _ _ _ _ (Value.int (nI _) :: Value.int (nI _) :: _) _ _ _ _; with_reducible refine x_iaddN (pc := 70) dX10_judge_70 ?_) | refine x_iadd (pc := 70) dX10_judge_70 ?_
                  refine x_ret (pc := 71) (v := some _) rfl trivial dX10_judge_71 (by decide) ?_
                  rw [← he] at h; exact h M high.rf hC
    refine x_aload_n (pc := 0) dX10_judge_0 rfl ?_
    refine x_iload_n (pc := 1) dX10_judge_1 rfl ?_
    refine x_invV1 (pc := 2) dX10_judge_2 mlX10_436 imX10_isTape seX10_isTape kX10_isTape (by first | assumption | rfl) rfl (Nat.le_of_ble_eq_true rfl) (by decide) ?_
    refine sm_isTape ?_
    refine x_cv rfl rfl ?_
    rw [e]
    first | (guard_target =~ Wp _ _ _ _ _ (Value.int (nI _) :: _) _ _ _ _; with_reducible refine x_if_neN (pc := 5) (tgt := 10) ?_ dX10_judge_5 ?_ (fun h5 => ?_) (fun h5 => ?_); (first | omega | exact b2n_32 _ | exact b2n_31 _); decide) | refine x_if_ne (pc := 5) (tgt := 10) dX10_judge_5 (by decide) (fun h5 => ?_) (fun h5 => ?_)
    · skip
      refine x_aload_n (pc := 10) dX10_judge_10 rfl ?_
      refine x_getR (pc := 11) dX10_judge_11 flX10_232 (by first | assumption | rfl) rfl ?_
      refine x_iload_n (pc := 14) dX10_judge_14 rfl ?_
      refine x_ialdN (pc := 15) dX10_judge_15 (by first | assumption | rfl) (by first | with_reducible rfl | (simp only [xlit, nI_add, pk_mul]; with_reducible rfl)) (by omega) (by decide) ?_
      rw [t1]
      refine x_if_lt (pc := 16) (tgt := 32) dX10_judge_16 (by decide) (fun h16 => ?_) (fun h16 => ?_)
      · skip
        exact absurd h16 hm
      · skip
        refine x_aload_n (pc := 19) dX10_judge_19 rfl ?_
        refine x_getR (pc := 20) dX10_judge_20 flX10_232 (by first | assumption | rfl) rfl ?_
        refine x_iload_n (pc := 23) dX10_judge_23 rfl ?_
        refine x_ialdN (pc := 24) dX10_judge_24 (by first | assumption | rfl) (by first | with_reducible rfl | (simp only [xlit, nI_add, pk_mul]; with_reducible rfl)) (by omega) (by decide) ?_
        rw [t1, h2]
        refine x_iconstN (pc := 25) 1 dX10_judge_25 ic_1 ?_
        refine x_icmp_eq (pc := 26) (tgt := 32) dX10_judge_26 (by decide) (fun h26 => ?_) (fun h26 => ?_)
        · skip
          refine x_iconstN (pc := 32) 0 dX10_judge_32 ic_0 ?_
          refine x_istore_n (pc := 33) dX10_judge_33 (by decide) xs_3 (x_hp rfl) ?_
          exact loop 16 0 (by omega) rfl
        · skip
          exact absurd rfl h26
    · skip
      cases h5
  · rw [if_neg h2] at h
    refine x_aload_n (pc := 0) dX10_judge_0 rfl ?_
    refine x_iload_n (pc := 1) dX10_judge_1 rfl ?_
    refine x_invV1 (pc := 2) dX10_judge_2 mlX10_436 imX10_isTape seX10_isTape kX10_isTape (by first | assumption | rfl) rfl (Nat.le_of_ble_eq_true rfl) (by decide) ?_
    refine sm_isTape ?_
    refine x_cv rfl rfl ?_
    rw [e]
    first | (guard_target =~ Wp _ _ _ _ _ (Value.int (nI _) :: _) _ _ _ _; with_reducible refine x_if_neN (pc := 5) (tgt := 10) ?_ dX10_judge_5 ?_ (fun h5 => ?_) (fun h5 => ?_); (first | omega | exact b2n_32 _ | exact b2n_31 _); decide) | refine x_if_ne (pc := 5) (tgt := 10) dX10_judge_5 (by decide) (fun h5 => ?_) (fun h5 => ?_)
    · skip
      refine x_aload_n (pc := 10) dX10_judge_10 rfl ?_
      refine x_getR (pc := 11) dX10_judge_11 flX10_232 (by first | assumption | rfl) rfl ?_
      refine x_iload_n (pc := 14) dX10_judge_14 rfl ?_
      refine x_ialdN (pc := 15) dX10_judge_15 (by first | assumption | rfl) (by first | with_reducible rfl | (simp only [xlit, nI_add, pk_mul]; with_reducible rfl)) (by omega) (by decide) ?_
      rw [t1]
      refine x_if_lt (pc := 16) (tgt := 32) dX10_judge_16 (by decide) (fun h16 => ?_) (fun h16 => ?_)
      · skip
        exact absurd h16 hm
      · skip
        refine x_aload_n (pc := 19) dX10_judge_19 rfl ?_
        refine x_getR (pc := 20) dX10_judge_20 flX10_232 (by first | assumption | rfl) rfl ?_
        refine x_iload_n (pc := 23) dX10_judge_23 rfl ?_
        refine x_ialdN (pc := 24) dX10_judge_24 (by first | assumption | rfl) (by first | with_reducible rfl | (simp only [xlit, nI_add, pk_mul]; with_reducible rfl)) (by omega) (by decide) ?_
        rw [t1]
        refine x_iconstN (pc := 25) 1 dX10_judge_25 ic_1 ?_
        refine x_icmp_eq (pc := 26) (tgt := 32) dX10_judge_26 (by decide) (fun h26 => ?_) (fun h26 => ?_)
        · skip
          exact absurd (srt_inj (b := 2) t2 (by decide) h26) h2
        · skip
          refine x_bipush (pc := 29) dX10_judge_29 bp_m12 ?_
          refine x_ret (pc := 31) (v := some _) rfl trivial dX10_judge_31 (by decide) ?_
          exact h M high.rf hC
    · skip
      cases h5
end P66
