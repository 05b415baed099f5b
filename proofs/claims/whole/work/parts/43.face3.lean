/-! the program's calls: row, move, goer -/
def gorA (A : XA) (L : List XCl) (k v f t : Nat) : XA := yldA (newA A k v f t) (A 8 0) (yvF (fG (A 8 0) k v) L)
def opGoer (s : XSt) (k v f t : Int32) : Int32 × XSt := if isR k (nI 7) = true ∧ isR f (nI 16) = true ∧ isR t (nI 16) = true then (if isR v (nI 10) = true then (if s.1.1 8 0 < 6 then (nI (s.1.1 8 0), withA s (gorA s.1.1 s.1.2.2.2.2 (toN k) (toN v) (toN f) (toN t))) else (-4, s)) else (-2, s)) else (-1, s)
section P43
variable {g : XG} {d : Nat} {M : XM} {K : Option Value → XS → XM → Prop} {s : XSt}
theorem fX9_row {x p n : Int32} (hC : XC9 M s) (h : ∀ M', low M M' → XC9 M' (opRow s x p n).2 → K (some (.int (opRow s x p n).1)) xSF M') : Ex g (d + 1) yX9_row mX9_row [.ref 0, .int x, .int p, .int n] xSF M K := by
  unfold opRow at h
  have hR := hC.1.1
  have h6 := hR.goersB
  refine x_entry kX9_row (Nat.le_of_ble_eq_true rfl) ?_
  show Wp g _ mX9_row 0 [some (.ref 0), some (.int x), some (.int p), some (.int n), none, none] [] _ _ _ _
  rcases isR_cases (x := x) (n := s.1.1 8 0) (by omega) with e | ⟨j, hj, rfl, e⟩
  · simp only [e, Bool.false_eq_true, if_false, false_and] at h
    refine x_aload_n (pc := 0) dX9_row_0 rfl ?_
    refine x_getR (pc := 1) dX9_row_1 flX9_12 (by first | assumption | rfl) rfl ?_
    refine x_iload_n (pc := 4) dX9_row_4 rfl ?_
    refine x_invV1 (pc := 5) dX9_row_5 mlX9_88 imX2_hasGoer seX2_hasGoer kX2_hasGoer (by first | assumption | rfl) rfl (Nat.le_of_ble_eq_true rfl) (by decide) ?_
    refine sp_X2_hasGoer car1 hR ?_
    refine x_cv rfl rfl ?_
    rw [e]
    first | (guard_target =~ Wp _ _ _ _ _ (Value.int (nI _) :: _) _ _ _ _; with_reducible refine x_if_eqN (pc := 8) (tgt := 20) ?_ dX9_row_8 ?_ (fun h8 => ?_) (fun h8 => ?_); (first | omega | exact b2n_32 _ | exact b2n_31 _); decide) | refine x_if_eq (pc := 8) (tgt := 20) dX9_row_8 (by decide) (fun h8 => ?_) (fun h8 => ?_)
    · skip
      refine x_iconst (pc := 20) dX9_row_20 ic_m1 ?_
      refine x_ret (pc := 21) (v := some _) rfl trivial dX9_row_21 (by decide) ?_
      exact h M csame.rf.low hC
    · skip
      exact absurd rfl h8
  rcases isR_cases (x := p) (n := 4) (by omega) with e2 | ⟨k, hk, rfl, e2⟩
  · simp only [e2, Bool.false_eq_true, if_false, and_false] at h
    refine x_aload_n (pc := 0) dX9_row_0 rfl ?_
    refine x_getR (pc := 1) dX9_row_1 flX9_12 (by first | assumption | rfl) rfl ?_
    refine x_iload_n (pc := 4) dX9_row_4 rfl ?_
    refine x_invV1 (pc := 5) dX9_row_5 mlX9_88 imX2_hasGoer seX2_hasGoer kX2_hasGoer (by first | assumption | rfl) rfl (Nat.le_of_ble_eq_true rfl) (by decide) ?_
    refine sp_X2_hasGoer car1 hR ?_
    refine x_cv rfl rfl ?_
    rw [e]
    first | (guard_target =~ Wp _ _ _ _ _ (Value.int (nI _) :: _) _ _ _ _; with_reducible refine x_if_eqN (pc := 8) (tgt := 20) ?_ dX9_row_8 ?_ (fun h8 => ?_) (fun h8 => ?_); (first | omega | exact b2n_32 _ | exact b2n_31 _); decide) | refine x_if_eq (pc := 8) (tgt := 20) dX9_row_8 (by decide) (fun h8 => ?_) (fun h8 => ?_)
    · skip
      cases h8
    · skip
      refine x_iload_n (pc := 11) dX9_row_11 rfl ?_
      refine x_iconstN (pc := 12) 0 dX9_row_12 ic_0 ?_
      refine x_iconstN (pc := 13) 3 dX9_row_13 ic_3 ?_
      refine x_invS3 (pc := 14) dX9_row_14 mlX9_72 stX9_isBetween kX9_isBetween (Nat.le_of_ble_eq_true rfl) (by decide) ?_
      refine sp_X9_isBetween ?_
      refine x_cv rfl rfl ?_
      rw [btw_isR (by decide), show isR p (nI (3 + 1)) = false from e2]
      first | (guard_target =~ Wp _ _ _ _ _ (Value.int (nI _) :: _) _ _ _ _; with_reducible refine x_if_neN (pc := 17) (tgt := 22) ?_ dX9_row_17 ?_ (fun h17 => ?_) (fun h17 => ?_); (first | omega | exact b2n_32 _ | exact b2n_31 _); decide) | refine x_if_ne (pc := 17) (tgt := 22) dX9_row_17 (by decide) (fun h17 => ?_) (fun h17 => ?_)
      · skip
        exact absurd rfl h17
      · skip
        refine x_iconst (pc := 20) dX9_row_20 ic_m1 ?_
        refine x_ret (pc := 21) (v := some _) rfl trivial dX9_row_21 (by decide) ?_
        exact h M csame.rf.low hC
  simp only [e, e2, and_self, if_true] at h
  rw [toN_nI (by omega), toN_nI (by omega)] at h
  have hkb := hR.kindB (show j < 6 by omega)
  rcases isR_cases (x := n) (n := 10) (by omega) with e3 | ⟨v, hv, rfl, e3⟩
  · simp only [e3, Bool.false_eq_true, if_false] at h
    refine x_aload_n (pc := 0) dX9_row_0 rfl ?_
    refine x_getR (pc := 1) dX9_row_1 flX9_12 (by first | assumption | rfl) rfl ?_
    refine x_iload_n (pc := 4) dX9_row_4 rfl ?_
    refine x_invV1 (pc := 5) dX9_row_5 mlX9_88 imX2_hasGoer seX2_hasGoer kX2_hasGoer (by first | assumption | rfl) rfl (Nat.le_of_ble_eq_true rfl) (by decide) ?_
    refine sp_X2_hasGoer car1 hR ?_
    refine x_cv rfl rfl ?_
    rw [e]
    first | (guard_target =~ Wp _ _ _ _ _ (Value.int (nI _) :: _) _ _ _ _; with_reducible refine x_if_eqN (pc := 8) (tgt := 20) ?_ dX9_row_8 ?_ (fun h8 => ?_) (fun h8 => ?_); (first | omega | exact b2n_32 _ | exact b2n_31 _); decide) | refine x_if_eq (pc := 8) (tgt := 20) dX9_row_8 (by decide) (fun h8 => ?_) (fun h8 => ?_)
    · skip
      cases h8
    · skip
      refine x_iload_n (pc := 11) dX9_row_11 rfl ?_
      refine x_iconstN (pc := 12) 0 dX9_row_12 ic_0 ?_
      refine x_iconstN (pc := 13) 3 dX9_row_13 ic_3 ?_
      refine x_invS3 (pc := 14) dX9_row_14 mlX9_72 stX9_isBetween kX9_isBetween (Nat.le_of_ble_eq_true rfl) (by decide) ?_
      refine sp_X9_isBetween ?_
      refine x_cv rfl rfl ?_
      rw [btw_isR (by decide), show isR (nI k) (nI (3 + 1)) = true from e2]
      first | (guard_target =~ Wp _ _ _ _ _ (Value.int (nI _) :: _) _ _ _ _; with_reducible refine x_if_neN (pc := 17) (tgt := 22) ?_ dX9_row_17 ?_ (fun h17 => ?_) (fun h17 => ?_); (first | omega | exact b2n_32 _ | exact b2n_31 _); decide) | refine x_if_ne (pc := 17) (tgt := 22) dX9_row_17 (by decide) (fun h17 => ?_) (fun h17 => ?_)
      · skip
        refine x_iload_n (pc := 22) dX9_row_22 rfl ?_
        refine x_iconstN (pc := 23) 0 dX9_row_23 ic_0 ?_
        refine x_bipushN (pc := 24) 9 dX9_row_24 bp_9 ?_
        refine x_invS3 (pc := 26) dX9_row_26 mlX9_72 stX9_isBetween kX9_isBetween (Nat.le_of_ble_eq_true rfl) (by decide) ?_
        refine sp_X9_isBetween ?_
        refine x_cv rfl rfl ?_
        rw [btw_isR (by decide), show isR n (nI (9 + 1)) = false from e3]
        first | (guard_target =~ Wp _ _ _ _ _ (Value.int (nI _) :: _) _ _ _ _; with_reducible refine x_if_neN (pc := 29) (tgt := 35) ?_ dX9_row_29 ?_ (fun h29 => ?_) (fun h29 => ?_); (first | omega | exact b2n_32 _ | exact b2n_31 _); decide) | refine x_if_ne (pc := 29) (tgt := 35) dX9_row_29 (by decide) (fun h29 => ?_) (fun h29 => ?_)
        · skip
          exact absurd rfl h29
        · skip
          refine x_bipush (pc := 32) dX9_row_32 bp_m2 ?_
          refine x_ret (pc := 34) (v := some _) rfl trivial dX9_row_34 (by decide) ?_
          exact h M csame.rf.low hC
      · skip
        cases h17
  · simp only [e3, if_true] at h
    rw [toN_nI (by omega)] at h
    refine x_aload_n (pc := 0) dX9_row_0 rfl ?_
    refine x_getR (pc := 1) dX9_row_1 flX9_12 (by first | assumption | rfl) rfl ?_
    refine x_iload_n (pc := 4) dX9_row_4 rfl ?_
    refine x_invV1 (pc := 5) dX9_row_5 mlX9_88 imX2_hasGoer seX2_hasGoer kX2_hasGoer (by first | assumption | rfl) rfl (Nat.le_of_ble_eq_true rfl) (by decide) ?_
    refine sp_X2_hasGoer car1 hR ?_
    refine x_cv rfl rfl ?_
    rw [e]
    first | (guard_target =~ Wp _ _ _ _ _ (Value.int (nI _) :: _) _ _ _ _; with_reducible refine x_if_eqN (pc := 8) (tgt := 20) ?_ dX9_row_8 ?_ (fun h8 => ?_) (fun h8 => ?_); (first | omega | exact b2n_32 _ | exact b2n_31 _); decide) | refine x_if_eq (pc := 8) (tgt := 20) dX9_row_8 (by decide) (fun h8 => ?_) (fun h8 => ?_)
    · skip
      cases h8
    · skip
      refine x_iload_n (pc := 11) dX9_row_11 rfl ?_
      refine x_iconstN (pc := 12) 0 dX9_row_12 ic_0 ?_
      refine x_iconstN (pc := 13) 3 dX9_row_13 ic_3 ?_
      refine x_invS3 (pc := 14) dX9_row_14 mlX9_72 stX9_isBetween kX9_isBetween (Nat.le_of_ble_eq_true rfl) (by decide) ?_
      refine sp_X9_isBetween ?_
      refine x_cv rfl rfl ?_
      rw [btw_isR (by decide), show isR (nI k) (nI (3 + 1)) = true from e2]
      first | (guard_target =~ Wp _ _ _ _ _ (Value.int (nI _) :: _) _ _ _ _; with_reducible refine x_if_neN (pc := 17) (tgt := 22) ?_ dX9_row_17 ?_ (fun h17 => ?_) (fun h17 => ?_); (first | omega | exact b2n_32 _ | exact b2n_31 _); decide) | refine x_if_ne (pc := 17) (tgt := 22) dX9_row_17 (by decide) (fun h17 => ?_) (fun h17 => ?_)
      · skip
        refine x_iload_n (pc := 22) dX9_row_22 rfl ?_
        refine x_iconstN (pc := 23) 0 dX9_row_23 ic_0 ?_
        refine x_bipushN (pc := 24) 9 dX9_row_24 bp_9 ?_
        refine x_invS3 (pc := 26) dX9_row_26 mlX9_72 stX9_isBetween kX9_isBetween (Nat.le_of_ble_eq_true rfl) (by decide) ?_
        refine sp_X9_isBetween ?_
        refine x_cv rfl rfl ?_
        rw [btw_isR (by decide), show isR (nI v) (nI (9 + 1)) = true from e3]
        first | (guard_target =~ Wp _ _ _ _ _ (Value.int (nI _) :: _) _ _ _ _; with_reducible refine x_if_neN (pc := 29) (tgt := 35) ?_ dX9_row_29 ?_ (fun h29 => ?_) (fun h29 => ?_); (first | omega | exact b2n_32 _ | exact b2n_31 _); decide) | refine x_if_ne (pc := 29) (tgt := 35) dX9_row_29 (by decide) (fun h29 => ?_) (fun h29 => ?_)
        · skip
          refine x_aload_n (pc := 35) dX9_row_35 rfl ?_
          refine x_getR (pc := 36) dX9_row_36 flX9_12 (by first | assumption | rfl) rfl ?_
          refine x_getR (pc := 39) dX9_row_39 flX9_107 (by first | assumption | rfl) rfl ?_
          refine x_iload_n (pc := 42) dX9_row_42 rfl ?_
          refine x_ialdN (pc := 43) dX9_row_43 (by first | assumption | rfl) (by first | with_reducible rfl | (simp only [xlit, nI_add, pk_mul]; with_reducible rfl)) (by omega) (by decide) ?_
          rw [hR.kind (by omega)]
          refine x_bipushN (pc := 44) 6 dX9_row_44 bp_6 ?_
          first | (guard_target =~ Wp _ _ _ _ _ (Value.int (nI _) :: Value.int (nI _) :: _) _ _ _ _; with_reducible refine x_icmp_eqN (pc := 46) (tgt := 52) ?_ ?_ dX9_row_46 ?_ (fun h46 => ?_) (fun h46 => ?_); (first | omega | exact b2n_31 _); (first | omega | exact b2n_31 _); decide) | refine x_icmp_eq (pc := 46) (tgt := 52) dX9_row_46 (by decide) (fun h46 => ?_) (fun h46 => ?_)
          · skip
            refine x_iload_n (pc := 52) dX9_row_52 rfl ?_
            refine x_iconstN (pc := 53) 4 dX9_row_53 ic_4 ?_
            first | (guard_target =~ Wp _ _ _ _ _ (Value.int (nI _) :: Value.int (nI _) :: _) _ _ _ _; with_reducible refine x_imulN (pc := 54) dX9_row_54 ?_) | refine x_imul (pc := 54) dX9_row_54 ?_
            refine x_iload_n (pc := 55) dX9_row_55 rfl ?_
            first | (guard_target =~ Wp _ _ _ _ _ (Value.int (nI _) :: Value.int (nI _) :: _) _ _ _ _; with_reducible refine x_iaddN (pc := 56) dX9_row_56 ?_) | refine x_iadd (pc := 56) dX9_row_56 ?_
            refine x_istore (pc := 57) dX9_row_57 (by decide) xs_4 (x_hp rfl) ?_
            refine x_aload_n (pc := 59) dX9_row_59 rfl ?_
            refine x_getR (pc := 60) dX9_row_60 flX9_12 (by first | assumption | rfl) rfl ?_
            refine x_getR (pc := 63) dX9_row_63 flX9_152 (by first | assumption | rfl) rfl ?_
            refine x_iload (pc := 66) dX9_row_66 rfl ?_
            refine x_ialdN (pc := 68) dX9_row_68 (by first | assumption | rfl) (by first | with_reducible rfl | (simp only [xlit, nI_add, pk_mul]; with_reducible rfl)) (by omega) (by decide) ?_
            rw [hR.rows (by omega)]
            refine x_istore (pc := 69) dX9_row_69 (by decide) xs_5 (x_hp rfl) ?_
            refine x_aload_n (pc := 71) dX9_row_71 rfl ?_
            refine x_getR (pc := 72) dX9_row_72 flX9_12 (by first | assumption | rfl) rfl ?_
            refine x_getR (pc := 75) dX9_row_75 flX9_152 (by first | assumption | rfl) rfl ?_
            refine x_iload (pc := 78) dX9_row_78 rfl ?_
            refine x_iload_n (pc := 80) dX9_row_80 rfl ?_
            refine x_iastN (pc := 81) dX9_row_81 (by first | assumption | rfl) (by first | with_reducible rfl | (simp only [xlit, nI_add, pk_mul]; with_reducible rfl)) (by omega) (by decide) ?_
            refine x_iload (pc := 82) dX9_row_82 rfl ?_
            refine x_ret (pc := 84) (v := some _) rfl trivial dX9_row_84 (by decide) ?_
            rw [if_pos h46] at h
            have hR2 := hR.put 5 (by decide) (j * 4 + k) (v := v) (by show v < 10; omega)
            have hs : csame M (xput M (1 + 1 + 5) (j * 4 + k) (nI v)) := csame.c1 (xsame.put (by decide) (by decide))
            refine h _ hs.low (hC.up hs hR2 (okQ.newA hC.2.1 hR2.bd hC.2.1.2.2.1 (Nat.le_refl _) (hC.2.1.2.2.2.2.1.cong rfl rfl rfl (fun g _ => ⟨rfl, rfl, rfl, rfl, rfl, fun _ _ => rfl⟩) (fun i q1 q2 => ?_))))
            exact if_neg (by omega)
          · skip
            refine x_bipush (pc := 49) dX9_row_49 bp_m3 ?_
            refine x_ret (pc := 51) (v := some _) rfl trivial dX9_row_51 (by decide) ?_
            rw [if_neg h46] at h; exact h M csame.rf.low hC
        · skip
          cases h29
      · skip
        cases h17
theorem movA_e {A : XA} {a gg c k j : Nat} (h : k ≠ 6) (h2 : k ≠ a) : movA A a gg c k j = A k j := by
  simp [movA, updA, h, h2]
theorem movA_cache {A : XA} {L : List XCl} {a gg c : Nat} (ha : a = 3 ∨ a = 4) (h : cacheA A L) : cacheA (movA A a gg c) L := by
  obtain ⟨c1, c2, c3, c4⟩ := h
  have e : ∀ k j, k ≠ 6 → k ≠ a → movA A a gg c k j = A k j := fun k j h1 h2 => movA_e h1 h2
  have ew : ∀ g, wayL (movA A a gg c) g = wayL (updA A a gg c) g := fun g => wayL_cong (by rw [e _ _ (by decide) (by omega)]; simp [updA]; omega) (by simp [movA, updA]) (by simp [movA, updA]) (by rw [e _ _ (by decide) (by omega)]; simp [updA]; omega)
  have e8 := e 8 0 (by decide) (by omega)
  refine ⟨fun g q => ?_, fun g q i hi => ?_, ?_, fun j q1 q2 => ?_⟩
  · rw [e8] at q
    rw [ew]
    by_cases hg : g = gg
    · subst hg; simp [movA, updA]
    · have e6 : movA A a gg c 6 g = A 6 g := by simp [movA, updA, hg]
      rw [e6, c1 g q]
      congr 1
      have h10 : ¬ 10 = a := by omega
      exact wayL_cong (by simp [updA, hg]) (by simp [updA, hg]) (by simp [updA, hg]) (by simp [updA, h10])
  · rw [e8] at q
    rw [e 7 _ (by decide) (by omega), e 1 _ (by decide) (by omega), e 2 _ (by decide) (by omega)]
    exact c2 g q i hi
  · rw [e 13 _ (by decide) (by omega)]; exact c3
  · rw [e8] at q1
    rw [e 5 _ (by decide) (by omega)]; exact c4 j q1 q2
theorem fX9_move {x what c : Int32} (hC : XC9 M s) (h : ∀ M', low M M' → XC9 M' (opMove s x what c).2 → K (some (.int (opMove s x what c).1)) xSF M') : Ex g (d + 4) yX9_move mX9_move [.ref 0, .int x, .int what, .int c] xSF M K := by
  unfold opMove at h
  have hR := hC.1.1
  have h6 := hR.goersB
  refine x_entry kX9_move (Nat.le_of_ble_eq_true rfl) ?_
  show Wp g _ mX9_move 0 [some (.ref 0), some (.int x), some (.int what), some (.int c), none, none] [] _ _ _ _
  rcases isR_cases (x := x) (n := s.1.1 8 0) (by omega) with e | ⟨j, hj, rfl, e⟩
  · simp only [e, Bool.false_eq_true, if_false, false_and] at h
    refine x_aload_n (pc := 0) dX9_move_0 rfl ?_
    refine x_getR (pc := 1) dX9_move_1 flX9_12 (by first | assumption | rfl) rfl ?_
    refine x_iload_n (pc := 4) dX9_move_4 rfl ?_
    refine x_invV1 (pc := 5) dX9_move_5 mlX9_88 imX2_hasGoer seX2_hasGoer kX2_hasGoer (by first | assumption | rfl) rfl (Nat.le_of_ble_eq_true rfl) (by decide) ?_
    refine sp_X2_hasGoer car1 hR ?_
    refine x_cv rfl rfl ?_
    rw [e]
    first | (guard_target =~ Wp _ _ _ _ _ (Value.int (nI _) :: _) _ _ _ _; with_reducible refine x_if_eqN (pc := 8) (tgt := 27) ?_ dX9_move_8 ?_ (fun h8 => ?_) (fun h8 => ?_); (first | omega | exact b2n_32 _ | exact b2n_31 _); decide) | refine x_if_eq (pc := 8) (tgt := 27) dX9_move_8 (by decide) (fun h8 => ?_) (fun h8 => ?_)
    · skip
      refine x_iconst (pc := 27) dX9_move_27 ic_m1 ?_
      refine x_ret (pc := 28) (v := some _) rfl trivial dX9_move_28 (by decide) ?_
      exact h M csame.rf.low hC
    · skip
      exact absurd rfl h8
  rcases isR_cases (x := what) (n := 2) (by omega) with e2 | ⟨k, hk, rfl, e2⟩
  · simp only [e2, Bool.false_eq_true, if_false, and_false, false_and] at h
    refine x_aload_n (pc := 0) dX9_move_0 rfl ?_
    refine x_getR (pc := 1) dX9_move_1 flX9_12 (by first | assumption | rfl) rfl ?_
    refine x_iload_n (pc := 4) dX9_move_4 rfl ?_
    refine x_invV1 (pc := 5) dX9_move_5 mlX9_88 imX2_hasGoer seX2_hasGoer kX2_hasGoer (by first | assumption | rfl) rfl (Nat.le_of_ble_eq_true rfl) (by decide) ?_
    refine sp_X2_hasGoer car1 hR ?_
    refine x_cv rfl rfl ?_
    rw [e]
    first | (guard_target =~ Wp _ _ _ _ _ (Value.int (nI _) :: _) _ _ _ _; with_reducible refine x_if_eqN (pc := 8) (tgt := 27) ?_ dX9_move_8 ?_ (fun h8 => ?_) (fun h8 => ?_); (first | omega | exact b2n_32 _ | exact b2n_31 _); decide) | refine x_if_eq (pc := 8) (tgt := 27) dX9_move_8 (by decide) (fun h8 => ?_) (fun h8 => ?_)
    · skip
      cases h8
    · skip
      refine x_iload_n (pc := 11) dX9_move_11 rfl ?_
      refine x_iconstN (pc := 12) 0 dX9_move_12 ic_0 ?_
      refine x_iconstN (pc := 13) 1 dX9_move_13 ic_1 ?_
      refine x_invS3 (pc := 14) dX9_move_14 mlX9_72 stX9_isBetween kX9_isBetween (Nat.le_of_ble_eq_true rfl) (by decide) ?_
      refine sp_X9_isBetween ?_
      refine x_cv rfl rfl ?_
      rw [btw_isR (by decide), show isR what (nI (1 + 1)) = false from e2]
      first | (guard_target =~ Wp _ _ _ _ _ (Value.int (nI _) :: _) _ _ _ _; with_reducible refine x_if_eqN (pc := 17) (tgt := 27) ?_ dX9_move_17 ?_ (fun h17 => ?_) (fun h17 => ?_); (first | omega | exact b2n_32 _ | exact b2n_31 _); decide) | refine x_if_eq (pc := 17) (tgt := 27) dX9_move_17 (by decide) (fun h17 => ?_) (fun h17 => ?_)
      · skip
        refine x_iconst (pc := 27) dX9_move_27 ic_m1 ?_
        refine x_ret (pc := 28) (v := some _) rfl trivial dX9_move_28 (by decide) ?_
        exact h M csame.rf.low hC
      · skip
        exact absurd rfl h17
  rcases isR_cases (x := c) (n := 16) (by omega) with e3 | ⟨z, hz, rfl, e3⟩
  · simp only [e3, Bool.false_eq_true, if_false, and_false] at h
    refine x_aload_n (pc := 0) dX9_move_0 rfl ?_
    refine x_getR (pc := 1) dX9_move_1 flX9_12 (by first | assumption | rfl) rfl ?_
    refine x_iload_n (pc := 4) dX9_move_4 rfl ?_
    refine x_invV1 (pc := 5) dX9_move_5 mlX9_88 imX2_hasGoer seX2_hasGoer kX2_hasGoer (by first | assumption | rfl) rfl (Nat.le_of_ble_eq_true rfl) (by decide) ?_
    refine sp_X2_hasGoer car1 hR ?_
    refine x_cv rfl rfl ?_
    rw [e]
    first | (guard_target =~ Wp _ _ _ _ _ (Value.int (nI _) :: _) _ _ _ _; with_reducible refine x_if_eqN (pc := 8) (tgt := 27) ?_ dX9_move_8 ?_ (fun h8 => ?_) (fun h8 => ?_); (first | omega | exact b2n_32 _ | exact b2n_31 _); decide) | refine x_if_eq (pc := 8) (tgt := 27) dX9_move_8 (by decide) (fun h8 => ?_) (fun h8 => ?_)
    · skip
      cases h8
    · skip
      refine x_iload_n (pc := 11) dX9_move_11 rfl ?_
      refine x_iconstN (pc := 12) 0 dX9_move_12 ic_0 ?_
      refine x_iconstN (pc := 13) 1 dX9_move_13 ic_1 ?_
      refine x_invS3 (pc := 14) dX9_move_14 mlX9_72 stX9_isBetween kX9_isBetween (Nat.le_of_ble_eq_true rfl) (by decide) ?_
      refine sp_X9_isBetween ?_
      refine x_cv rfl rfl ?_
      rw [btw_isR (by decide), show isR (nI k) (nI (1 + 1)) = true from e2]
      first | (guard_target =~ Wp _ _ _ _ _ (Value.int (nI _) :: _) _ _ _ _; with_reducible refine x_if_eqN (pc := 17) (tgt := 27) ?_ dX9_move_17 ?_ (fun h17 => ?_) (fun h17 => ?_); (first | omega | exact b2n_32 _ | exact b2n_31 _); decide) | refine x_if_eq (pc := 17) (tgt := 27) dX9_move_17 (by decide) (fun h17 => ?_) (fun h17 => ?_)
      · skip
        cases h17
      · skip
        refine x_iload_n (pc := 20) dX9_move_20 rfl ?_
        refine x_invS1 (pc := 21) dX9_move_21 mlX9_67 stX3_isCell kX3_isCell (Nat.le_of_ble_eq_true rfl) (by decide) ?_
        refine sp_X3_isCell ?_
        refine x_cv rfl rfl ?_
        rw [show isR c 16 = false from e3]
        first | (guard_target =~ Wp _ _ _ _ _ (Value.int (nI _) :: _) _ _ _ _; with_reducible refine x_if_neN (pc := 24) (tgt := 29) ?_ dX9_move_24 ?_ (fun h24 => ?_) (fun h24 => ?_); (first | omega | exact b2n_32 _ | exact b2n_31 _); decide) | refine x_if_ne (pc := 24) (tgt := 29) dX9_move_24 (by decide) (fun h24 => ?_) (fun h24 => ?_)
        · skip
          exact absurd rfl h24
        · skip
          refine x_iconst (pc := 27) dX9_move_27 ic_m1 ?_
          refine x_ret (pc := 28) (v := some _) rfl trivial dX9_move_28 (by decide) ?_
          exact h M csame.rf.low hC
  simp only [e, e2, e3, and_self, if_true] at h
  rw [toN_nI (by omega), toN_nI (by omega), toN_nI (by omega)] at h
  have fin : ∀ M2 a, a = 3 ∨ a = 4 → csame M M2 → CR 1 M2 (movA s.1.1 a j z) (nI s.1.2.1) s.1.2.2.1 → XC9 M2 (withA s (movA s.1.1 a j z)) := fun M2 a ha hs hR2 =>
    hC.up hs hR2 (okQ.newA hC.2.1 hR2.bd ⟨fun i hi => by rw [movA_e (by decide) (by omega)]; exact hC.2.1.2.2.1.1 i hi, by rw [movA_e (by decide) (by omega)]; exact hC.2.1.2.2.1.2⟩ (Nat.le_of_eq (movA_e (by decide) (by omega)).symm) (movA_cache ha hC.2.1.2.2.2.2.1))
  have hk2 : k = 0 ∨ k = 1 := by omega
  rcases hk2 with rfl | rfl
  · have hR2 := hR.put 3 (by decide) j (v := z) (by show z < 16; omega)
    refine x_aload_n (pc := 0) dX9_move_0 rfl ?_
    refine x_getR (pc := 1) dX9_move_1 flX9_12 (by first | assumption | rfl) rfl ?_
    refine x_iload_n (pc := 4) dX9_move_4 rfl ?_
    refine x_invV1 (pc := 5) dX9_move_5 mlX9_88 imX2_hasGoer seX2_hasGoer kX2_hasGoer (by first | assumption | rfl) rfl (Nat.le_of_ble_eq_true rfl) (by decide) ?_
    refine sp_X2_hasGoer car1 hR ?_
    refine x_cv rfl rfl ?_
    rw [e]
    first | (guard_target =~ Wp _ _ _ _ _ (Value.int (nI _) :: _) _ _ _ _; with_reducible refine x_if_eqN (pc := 8) (tgt := 27) ?_ dX9_move_8 ?_ (fun h8 => ?_) (fun h8 => ?_); (first | omega | exact b2n_32 _ | exact b2n_31 _); decide) | refine x_if_eq (pc := 8) (tgt := 27) dX9_move_8 (by decide) (fun h8 => ?_) (fun h8 => ?_)
    · skip
      cases h8
    · skip
      refine x_iload_n (pc := 11) dX9_move_11 rfl ?_
      refine x_iconstN (pc := 12) 0 dX9_move_12 ic_0 ?_
      refine x_iconstN (pc := 13) 1 dX9_move_13 ic_1 ?_
      refine x_invS3 (pc := 14) dX9_move_14 mlX9_72 stX9_isBetween kX9_isBetween (Nat.le_of_ble_eq_true rfl) (by decide) ?_
      refine sp_X9_isBetween ?_
      refine x_cv rfl rfl ?_
      rw [btw_isR (by decide), show isR (nI 0) (nI (1 + 1)) = true from e2]
      first | (guard_target =~ Wp _ _ _ _ _ (Value.int (nI _) :: _) _ _ _ _; with_reducible refine x_if_eqN (pc := 17) (tgt := 27) ?_ dX9_move_17 ?_ (fun h17 => ?_) (fun h17 => ?_); (first | omega | exact b2n_32 _ | exact b2n_31 _); decide) | refine x_if_eq (pc := 17) (tgt := 27) dX9_move_17 (by decide) (fun h17 => ?_) (fun h17 => ?_)
      · skip
        cases h17
      · skip
        refine x_iload_n (pc := 20) dX9_move_20 rfl ?_
        refine x_invS1 (pc := 21) dX9_move_21 mlX9_67 stX3_isCell kX3_isCell (Nat.le_of_ble_eq_true rfl) (by decide) ?_
        refine sp_X3_isCell ?_
        refine x_cv rfl rfl ?_
        rw [show isR (nI z) 16 = true from e3]
        first | (guard_target =~ Wp _ _ _ _ _ (Value.int (nI _) :: _) _ _ _ _; with_reducible refine x_if_neN (pc := 24) (tgt := 29) ?_ dX9_move_24 ?_ (fun h24 => ?_) (fun h24 => ?_); (first | omega | exact b2n_32 _ | exact b2n_31 _); decide) | refine x_if_ne (pc := 24) (tgt := 29) dX9_move_24 (by decide) (fun h24 => ?_) (fun h24 => ?_)
        · skip
          refine x_iload_n (pc := 29) dX9_move_29 rfl ?_
          first | (guard_target =~ Wp _ _ _ _ _ (Value.int (nI _) :: _) _ _ _ _; with_reducible refine x_if_neN (pc := 30) (tgt := 43) ?_ dX9_move_30 ?_ (fun h30 => ?_) (fun h30 => ?_); (first | omega | exact b2n_32 _ | exact b2n_31 _); decide) | refine x_if_ne (pc := 30) (tgt := 43) dX9_move_30 (by decide) (fun h30 => ?_) (fun h30 => ?_)
          · skip
            omega
          · skip
            refine x_aload_n (pc := 33) dX9_move_33 rfl ?_
            refine x_getR (pc := 34) dX9_move_34 flX9_12 (by first | assumption | rfl) rfl ?_
            refine x_getR (pc := 37) dX9_move_37 flX9_113 (by first | assumption | rfl) rfl ?_
            refine x_goto (pc := 40) (tgt := 50) dX9_move_40 (by decide) ?_
            refine x_astore (pc := 50) (by omega) dX9_move_50 (by decide) xs_4 (x_hp rfl) ?_
            refine x_aload (pc := 52) dX9_move_52 rfl ?_
            refine x_iload_n (pc := 54) dX9_move_54 rfl ?_
            refine x_ialdN (pc := 55) dX9_move_55 (by first | assumption | rfl) (by first | with_reducible rfl | (simp only [xlit, nI_add, pk_mul]; with_reducible rfl)) (by omega) (by decide) ?_
            rw [hR.from (by omega)]
            refine x_istore (pc := 56) dX9_move_56 (by decide) xs_5 (x_hp rfl) ?_
            refine x_aload (pc := 58) dX9_move_58 rfl ?_
            refine x_iload_n (pc := 60) dX9_move_60 rfl ?_
            refine x_iload_n (pc := 61) dX9_move_61 rfl ?_
            refine x_iastN (pc := 62) dX9_move_62 (by first | assumption | rfl) (by first | with_reducible rfl | (simp only [xlit, nI_add, pk_mul]; with_reducible rfl)) (by omega) (by decide) ?_
            refine x_aload_n (pc := 63) dX9_move_63 rfl ?_
            refine x_getR (pc := 64) dX9_move_64 flX9_12 (by first | assumption | rfl) rfl ?_
            refine x_iload_n (pc := 67) dX9_move_67 rfl ?_
            refine x_invV1 (pc := 68) dX9_move_68 mlX9_136 imX2_findWay seX2_findWay kX2_findWay (by first | assumption | rfl) rfl (Nat.le_of_ble_eq_true rfl) (by decide) ?_
            refine sp_X2_findWay (by omega) car1 hR2 (fun M2 hs2 hR3 => ?_)
            refine x_cn rfl rfl ?_
            refine x_iload (pc := 71) dX9_move_71 rfl ?_
            refine x_ret (pc := 73) (v := some _) rfl trivial dX9_move_73 (by decide) ?_
            have hs : csame M M2 := (csame.c1 (xsame.put (by decide) (by decide))).tr (csame.c1 hs2)
            exact h M2 hs.low (fin M2 3 (Or.inl rfl) hs hR3)
        · skip
          cases h24
  · have hR2 := hR.put 4 (by decide) j (v := z) (by show z < 16; omega)
    refine x_aload_n (pc := 0) dX9_move_0 rfl ?_
    refine x_getR (pc := 1) dX9_move_1 flX9_12 (by first | assumption | rfl) rfl ?_
    refine x_iload_n (pc := 4) dX9_move_4 rfl ?_
    refine x_invV1 (pc := 5) dX9_move_5 mlX9_88 imX2_hasGoer seX2_hasGoer kX2_hasGoer (by first | assumption | rfl) rfl (Nat.le_of_ble_eq_true rfl) (by decide) ?_
    refine sp_X2_hasGoer car1 hR ?_
    refine x_cv rfl rfl ?_
    rw [e]
    first | (guard_target =~ Wp _ _ _ _ _ (Value.int (nI _) :: _) _ _ _ _; with_reducible refine x_if_eqN (pc := 8) (tgt := 27) ?_ dX9_move_8 ?_ (fun h8 => ?_) (fun h8 => ?_); (first | omega | exact b2n_32 _ | exact b2n_31 _); decide) | refine x_if_eq (pc := 8) (tgt := 27) dX9_move_8 (by decide) (fun h8 => ?_) (fun h8 => ?_)
    · skip
      cases h8
    · skip
      refine x_iload_n (pc := 11) dX9_move_11 rfl ?_
      refine x_iconstN (pc := 12) 0 dX9_move_12 ic_0 ?_
      refine x_iconstN (pc := 13) 1 dX9_move_13 ic_1 ?_
      refine x_invS3 (pc := 14) dX9_move_14 mlX9_72 stX9_isBetween kX9_isBetween (Nat.le_of_ble_eq_true rfl) (by decide) ?_
      refine sp_X9_isBetween ?_
      refine x_cv rfl rfl ?_
      rw [btw_isR (by decide), show isR (nI 1) (nI (1 + 1)) = true from e2]
      first | (guard_target =~ Wp _ _ _ _ _ (Value.int (nI _) :: _) _ _ _ _; with_reducible refine x_if_eqN (pc := 17) (tgt := 27) ?_ dX9_move_17 ?_ (fun h17 => ?_) (fun h17 => ?_); (first | omega | exact b2n_32 _ | exact b2n_31 _); decide) | refine x_if_eq (pc := 17) (tgt := 27) dX9_move_17 (by decide) (fun h17 => ?_) (fun h17 => ?_)
      · skip
        cases h17
      · skip
        refine x_iload_n (pc := 20) dX9_move_20 rfl ?_
        refine x_invS1 (pc := 21) dX9_move_21 mlX9_67 stX3_isCell kX3_isCell (Nat.le_of_ble_eq_true rfl) (by decide) ?_
        refine sp_X3_isCell ?_
        refine x_cv rfl rfl ?_
        rw [show isR (nI z) 16 = true from e3]
        first | (guard_target =~ Wp _ _ _ _ _ (Value.int (nI _) :: _) _ _ _ _; with_reducible refine x_if_neN (pc := 24) (tgt := 29) ?_ dX9_move_24 ?_ (fun h24 => ?_) (fun h24 => ?_); (first | omega | exact b2n_32 _ | exact b2n_31 _); decide) | refine x_if_ne (pc := 24) (tgt := 29) dX9_move_24 (by decide) (fun h24 => ?_) (fun h24 => ?_)
        · skip
          refine x_iload_n (pc := 29) dX9_move_29 rfl ?_
          first | (guard_target =~ Wp _ _ _ _ _ (Value.int (nI _) :: _) _ _ _ _; with_reducible refine x_if_neN (pc := 30) (tgt := 43) ?_ dX9_move_30 ?_ (fun h30 => ?_) (fun h30 => ?_); (first | omega | exact b2n_32 _ | exact b2n_31 _); decide) | refine x_if_ne (pc := 30) (tgt := 43) dX9_move_30 (by decide) (fun h30 => ?_) (fun h30 => ?_)
          · skip
            refine x_aload_n (pc := 43) dX9_move_43 rfl ?_
            refine x_getR (pc := 44) dX9_move_44 flX9_12 (by first | assumption | rfl) rfl ?_
            refine x_getR (pc := 47) dX9_move_47 flX9_116 (by first | assumption | rfl) rfl ?_
            refine x_astore (pc := 50) (by omega) dX9_move_50 (by decide) xs_4 (x_hp rfl) ?_
            refine x_aload (pc := 52) dX9_move_52 rfl ?_
            refine x_iload_n (pc := 54) dX9_move_54 rfl ?_
            refine x_ialdN (pc := 55) dX9_move_55 (by first | assumption | rfl) (by first | with_reducible rfl | (simp only [xlit, nI_add, pk_mul]; with_reducible rfl)) (by omega) (by decide) ?_
            rw [hR.to (by omega)]
            refine x_istore (pc := 56) dX9_move_56 (by decide) xs_5 (x_hp rfl) ?_
            refine x_aload (pc := 58) dX9_move_58 rfl ?_
            refine x_iload_n (pc := 60) dX9_move_60 rfl ?_
            refine x_iload_n (pc := 61) dX9_move_61 rfl ?_
            refine x_iastN (pc := 62) dX9_move_62 (by first | assumption | rfl) (by first | with_reducible rfl | (simp only [xlit, nI_add, pk_mul]; with_reducible rfl)) (by omega) (by decide) ?_
            refine x_aload_n (pc := 63) dX9_move_63 rfl ?_
            refine x_getR (pc := 64) dX9_move_64 flX9_12 (by first | assumption | rfl) rfl ?_
            refine x_iload_n (pc := 67) dX9_move_67 rfl ?_
            refine x_invV1 (pc := 68) dX9_move_68 mlX9_136 imX2_findWay seX2_findWay kX2_findWay (by first | assumption | rfl) rfl (Nat.le_of_ble_eq_true rfl) (by decide) ?_
            refine sp_X2_findWay (by omega) car1 hR2 (fun M2 hs2 hR3 => ?_)
            refine x_cn rfl rfl ?_
            refine x_iload (pc := 71) dX9_move_71 rfl ?_
            refine x_ret (pc := 73) (v := some _) rfl trivial dX9_move_73 (by decide) ?_
            have hs : csame M M2 := (csame.c1 (xsame.put (by decide) (by decide))).tr (csame.c1 hs2)
            exact h M2 hs.low (fin M2 4 (Or.inr rfl) hs hR3)
          · skip
            omega
        · skip
          cases h24
theorem gorA_e {A : XA} {L : List XCl} {kd v f t k j : Nat} (h6 : k ≠ 6) (h7 : k ≠ 7) (h8 : k ≠ 8) (hj : j ≠ A 8 0 ∨ k = 0 ∨ 5 ≤ k) : gorA A L kd v f t k j = A k j := by
  unfold gorA yldA newA updA
  simp only [h6, h7, h8, false_and, if_false]
  by_cases hjn : j = A 8 0
  · have hk : k = 0 ∨ 5 ≤ k := by omega
    rw [if_neg (by omega), if_neg (by omega), if_neg (by omega), if_neg (by omega)]
  · simp [hjn]
theorem gorA_n {A : XA} {L : List XCl} {kd v f t : Nat} : gorA A L kd v f t 8 0 = A 8 0 + 1 := by simp [gorA, yldA, newA, updA]
theorem gorA_cache {A : XA} {L : List XCl} {kd v f t : Nat} (h : cacheA A L) (hn : A 8 0 < 6) : cacheA (gorA A L kd v f t) L := by
  obtain ⟨c1, c2, c3, c4⟩ := h
  have ew : wayL (gorA A L kd v f t) (A 8 0) = wayL (fun k j => if k = 8 ∧ j = 0 then A 8 0 + 1 else if j = A 8 0 ∧ k = 1 then kd else if j = A 8 0 ∧ k = 2 then v else if j = A 8 0 ∧ k = 3 then f else if j = A 8 0 ∧ k = 4 then t else A k j) (A 8 0) := wayL_cong (by simp [gorA, yldA, newA, updA]) (by simp [gorA, yldA, newA, updA]) (by simp [gorA, yldA, newA, updA]) (by simp [gorA, yldA, newA, updA])
  refine ⟨fun g q => ?_, fun g q i hi => ?_, ?_, fun j q1 q2 => ?_⟩
  · rw [gorA_n] at q
    by_cases hg : g = A 8 0
    · subst hg
      rw [ew]
      simp [gorA, yldA, newA, updA]
    · have e6 : gorA A L kd v f t 6 g = A 6 g := by simp [gorA, yldA, newA, updA, hg]
      rw [e6, c1 g (by omega)]
      congr 1
      refine wayL_cong ?_ ?_ ?_ ?_
      · rw [gorA_e (by decide) (by decide) (by decide) (Or.inl hg)]
      · rw [gorA_e (by decide) (by decide) (by decide) (Or.inl hg)]
      · rw [gorA_e (by decide) (by decide) (by decide) (Or.inl hg)]
      · rw [gorA_e (by decide) (by decide) (by decide) (Or.inr (by omega))]
  · rw [gorA_n] at q
    by_cases hg : g = A 8 0
    · subst hg
      have e1 : gorA A L kd v f t 1 (A 8 0) = kd := by simp [gorA, yldA, newA, updA]
      have e2 : gorA A L kd v f t 2 (A 8 0) = v := by simp [gorA, yldA, newA, updA]
      rw [e1, e2]
      show (if 7 = 7 ∧ 16 * A 8 0 ≤ A 8 0 * 16 + i ∧ A 8 0 * 16 + i < 16 * A 8 0 + 16 then yvF (fG (A 8 0) kd v) L (A 8 0 * 16 + i - 16 * A 8 0) else _) = _
      rw [if_pos (by omega), show A 8 0 * 16 + i - 16 * A 8 0 = i by omega]
    · rw [gorA_e (k := 1) (by decide) (by decide) (by decide) (Or.inl hg), gorA_e (k := 2) (by decide) (by decide) (by decide) (Or.inl hg), ← c2 g (by omega) i hi]
      show (if 7 = 7 ∧ 16 * A 8 0 ≤ g * 16 + i ∧ g * 16 + i < 16 * A 8 0 + 16 then _ else newA A kd v f t 7 (g * 16 + i)) = _
      rw [if_neg (by omega)]
      simp [newA, updA]
  · rw [gorA_e (by decide) (by decide) (by decide) (Or.inr (by omega))]; exact c3
  · rw [gorA_n] at q1
    rw [gorA_e (by decide) (by decide) (by decide) (Or.inr (by omega))]; exact c4 j (by omega) q2
theorem fX9_goer {k v f t : Int32} (hC : XC9 M s) (h : ∀ M', low M M' → XC9 M' (opGoer s k v f t).2 → K (some (.int (opGoer s k v f t).1)) xSF M') : Ex g (d + 19) yX9_goer mX9_goer [.ref 0, .int k, .int v, .int f, .int t] xSF M K := by
  unfold opGoer at h
  have hR := hC.1.1
  have h6 := hR.goersB
  refine x_entry kX9_goer (Nat.le_of_ble_eq_true rfl) ?_
  show Wp g _ mX9_goer 0 [some (.ref 0), some (.int k), some (.int v), some (.int f), some (.int t), none] [] _ _ _ _
  rcases isR_cases (x := k) (n := 7) (by omega) with e | ⟨k, hk, rfl, e⟩
  · simp only [e, Bool.false_eq_true, if_false, false_and] at h
    refine x_iload_n (pc := 0) dX9_goer_0 rfl ?_
    refine x_invS1 (pc := 1) dX9_goer_1 mlX9_61 stX4_isKind kX4_isKind (Nat.le_of_ble_eq_true rfl) (by decide) ?_
    refine sp_X4_isKind ?_
    refine x_cv rfl rfl ?_
    rw [show isR k 7 = false from e]
    first | (guard_target =~ Wp _ _ _ _ _ (Value.int (nI _) :: _) _ _ _ _; with_reducible refine x_if_eqN (pc := 4) (tgt := 22) ?_ dX9_goer_4 ?_ (fun h4 => ?_) (fun h4 => ?_); (first | omega | exact b2n_32 _ | exact b2n_31 _); decide) | refine x_if_eq (pc := 4) (tgt := 22) dX9_goer_4 (by decide) (fun h4 => ?_) (fun h4 => ?_)
    · skip
      refine x_iconst (pc := 22) dX9_goer_22 ic_m1 ?_
      refine x_ret (pc := 23) (v := some _) rfl trivial dX9_goer_23 (by decide) ?_
      exact h M csame.rf.low hC
    · skip
      exact absurd rfl h4
  rcases isR_cases (x := f) (n := 16) (by omega) with e2 | ⟨f, hf, rfl, e2⟩
  · simp only [e2, Bool.false_eq_true, if_false, and_false, false_and] at h
    refine x_iload_n (pc := 0) dX9_goer_0 rfl ?_
    refine x_invS1 (pc := 1) dX9_goer_1 mlX9_61 stX4_isKind kX4_isKind (Nat.le_of_ble_eq_true rfl) (by decide) ?_
    refine sp_X4_isKind ?_
    refine x_cv rfl rfl ?_
    rw [show isR (nI k) 7 = true from e]
    first | (guard_target =~ Wp _ _ _ _ _ (Value.int (nI _) :: _) _ _ _ _; with_reducible refine x_if_eqN (pc := 4) (tgt := 22) ?_ dX9_goer_4 ?_ (fun h4 => ?_) (fun h4 => ?_); (first | omega | exact b2n_32 _ | exact b2n_31 _); decide) | refine x_if_eq (pc := 4) (tgt := 22) dX9_goer_4 (by decide) (fun h4 => ?_) (fun h4 => ?_)
    · skip
      cases h4
    · skip
      refine x_iload_n (pc := 7) dX9_goer_7 rfl ?_
      refine x_invS1 (pc := 8) dX9_goer_8 mlX9_67 stX3_isCell kX3_isCell (Nat.le_of_ble_eq_true rfl) (by decide) ?_
      refine sp_X3_isCell ?_
      refine x_cv rfl rfl ?_
      rw [show isR f 16 = false from e2]
      first | (guard_target =~ Wp _ _ _ _ _ (Value.int (nI _) :: _) _ _ _ _; with_reducible refine x_if_eqN (pc := 11) (tgt := 22) ?_ dX9_goer_11 ?_ (fun h11 => ?_) (fun h11 => ?_); (first | omega | exact b2n_32 _ | exact b2n_31 _); decide) | refine x_if_eq (pc := 11) (tgt := 22) dX9_goer_11 (by decide) (fun h11 => ?_) (fun h11 => ?_)
      · skip
        refine x_iconst (pc := 22) dX9_goer_22 ic_m1 ?_
        refine x_ret (pc := 23) (v := some _) rfl trivial dX9_goer_23 (by decide) ?_
        exact h M csame.rf.low hC
      · skip
        exact absurd rfl h11
  rcases isR_cases (x := t) (n := 16) (by omega) with e3 | ⟨t, ht, rfl, e3⟩
  · simp only [e3, Bool.false_eq_true, if_false, and_false] at h
    refine x_iload_n (pc := 0) dX9_goer_0 rfl ?_
    refine x_invS1 (pc := 1) dX9_goer_1 mlX9_61 stX4_isKind kX4_isKind (Nat.le_of_ble_eq_true rfl) (by decide) ?_
    refine sp_X4_isKind ?_
    refine x_cv rfl rfl ?_
    rw [show isR (nI k) 7 = true from e]
    first | (guard_target =~ Wp _ _ _ _ _ (Value.int (nI _) :: _) _ _ _ _; with_reducible refine x_if_eqN (pc := 4) (tgt := 22) ?_ dX9_goer_4 ?_ (fun h4 => ?_) (fun h4 => ?_); (first | omega | exact b2n_32 _ | exact b2n_31 _); decide) | refine x_if_eq (pc := 4) (tgt := 22) dX9_goer_4 (by decide) (fun h4 => ?_) (fun h4 => ?_)
    · skip
      cases h4
    · skip
      refine x_iload_n (pc := 7) dX9_goer_7 rfl ?_
      refine x_invS1 (pc := 8) dX9_goer_8 mlX9_67 stX3_isCell kX3_isCell (Nat.le_of_ble_eq_true rfl) (by decide) ?_
      refine sp_X3_isCell ?_
      refine x_cv rfl rfl ?_
      rw [show isR (nI f) 16 = true from e2]
      first | (guard_target =~ Wp _ _ _ _ _ (Value.int (nI _) :: _) _ _ _ _; with_reducible refine x_if_eqN (pc := 11) (tgt := 22) ?_ dX9_goer_11 ?_ (fun h11 => ?_) (fun h11 => ?_); (first | omega | exact b2n_32 _ | exact b2n_31 _); decide) | refine x_if_eq (pc := 11) (tgt := 22) dX9_goer_11 (by decide) (fun h11 => ?_) (fun h11 => ?_)
      · skip
        cases h11
      · skip
        refine x_iload (pc := 14) dX9_goer_14 rfl ?_
        refine x_invS1 (pc := 16) dX9_goer_16 mlX9_67 stX3_isCell kX3_isCell (Nat.le_of_ble_eq_true rfl) (by decide) ?_
        refine sp_X3_isCell ?_
        refine x_cv rfl rfl ?_
        rw [show isR t 16 = false from e3]
        first | (guard_target =~ Wp _ _ _ _ _ (Value.int (nI _) :: _) _ _ _ _; with_reducible refine x_if_neN (pc := 19) (tgt := 24) ?_ dX9_goer_19 ?_ (fun h19 => ?_) (fun h19 => ?_); (first | omega | exact b2n_32 _ | exact b2n_31 _); decide) | refine x_if_ne (pc := 19) (tgt := 24) dX9_goer_19 (by decide) (fun h19 => ?_) (fun h19 => ?_)
        · skip
          exact absurd rfl h19
        · skip
          refine x_iconst (pc := 22) dX9_goer_22 ic_m1 ?_
          refine x_ret (pc := 23) (v := some _) rfl trivial dX9_goer_23 (by decide) ?_
          exact h M csame.rf.low hC
  simp only [e, e2, e3, and_self, if_true] at h
  rw [toN_nI (by omega), toN_nI (by omega), toN_nI (by omega)] at h
  rcases isR_cases (x := v) (n := 10) (by omega) with e4 | ⟨v, hv, rfl, e4⟩
  · simp only [e4, Bool.false_eq_true, if_false] at h
    refine x_iload_n (pc := 0) dX9_goer_0 rfl ?_
    refine x_invS1 (pc := 1) dX9_goer_1 mlX9_61 stX4_isKind kX4_isKind (Nat.le_of_ble_eq_true rfl) (by decide) ?_
    refine sp_X4_isKind ?_
    refine x_cv rfl rfl ?_
    rw [show isR (nI k) 7 = true from e]
    first | (guard_target =~ Wp _ _ _ _ _ (Value.int (nI _) :: _) _ _ _ _; with_reducible refine x_if_eqN (pc := 4) (tgt := 22) ?_ dX9_goer_4 ?_ (fun h4 => ?_) (fun h4 => ?_); (first | omega | exact b2n_32 _ | exact b2n_31 _); decide) | refine x_if_eq (pc := 4) (tgt := 22) dX9_goer_4 (by decide) (fun h4 => ?_) (fun h4 => ?_)
    · skip
      cases h4
    · skip
      refine x_iload_n (pc := 7) dX9_goer_7 rfl ?_
      refine x_invS1 (pc := 8) dX9_goer_8 mlX9_67 stX3_isCell kX3_isCell (Nat.le_of_ble_eq_true rfl) (by decide) ?_
      refine sp_X3_isCell ?_
      refine x_cv rfl rfl ?_
      rw [show isR (nI f) 16 = true from e2]
      first | (guard_target =~ Wp _ _ _ _ _ (Value.int (nI _) :: _) _ _ _ _; with_reducible refine x_if_eqN (pc := 11) (tgt := 22) ?_ dX9_goer_11 ?_ (fun h11 => ?_) (fun h11 => ?_); (first | omega | exact b2n_32 _ | exact b2n_31 _); decide) | refine x_if_eq (pc := 11) (tgt := 22) dX9_goer_11 (by decide) (fun h11 => ?_) (fun h11 => ?_)
      · skip
        cases h11
      · skip
        refine x_iload (pc := 14) dX9_goer_14 rfl ?_
        refine x_invS1 (pc := 16) dX9_goer_16 mlX9_67 stX3_isCell kX3_isCell (Nat.le_of_ble_eq_true rfl) (by decide) ?_
        refine sp_X3_isCell ?_
        refine x_cv rfl rfl ?_
        rw [show isR (nI t) 16 = true from e3]
        first | (guard_target =~ Wp _ _ _ _ _ (Value.int (nI _) :: _) _ _ _ _; with_reducible refine x_if_neN (pc := 19) (tgt := 24) ?_ dX9_goer_19 ?_ (fun h19 => ?_) (fun h19 => ?_); (first | omega | exact b2n_32 _ | exact b2n_31 _); decide) | refine x_if_ne (pc := 19) (tgt := 24) dX9_goer_19 (by decide) (fun h19 => ?_) (fun h19 => ?_)
        · skip
          refine x_iload_n (pc := 24) dX9_goer_24 rfl ?_
          refine x_iconstN (pc := 25) 0 dX9_goer_25 ic_0 ?_
          refine x_bipushN (pc := 26) 9 dX9_goer_26 bp_9 ?_
          refine x_invS3 (pc := 28) dX9_goer_28 mlX9_72 stX9_isBetween kX9_isBetween (Nat.le_of_ble_eq_true rfl) (by decide) ?_
          refine sp_X9_isBetween ?_
          refine x_cv rfl rfl ?_
          rw [btw_isR (by decide), show isR v (nI (9 + 1)) = false from e4]
          first | (guard_target =~ Wp _ _ _ _ _ (Value.int (nI _) :: _) _ _ _ _; with_reducible refine x_if_neN (pc := 31) (tgt := 37) ?_ dX9_goer_31 ?_ (fun h31 => ?_) (fun h31 => ?_); (first | omega | exact b2n_32 _ | exact b2n_31 _); decide) | refine x_if_ne (pc := 31) (tgt := 37) dX9_goer_31 (by decide) (fun h31 => ?_) (fun h31 => ?_)
          · skip
            exact absurd rfl h31
          · skip
            refine x_bipush (pc := 34) dX9_goer_34 bp_m2 ?_
            refine x_ret (pc := 36) (v := some _) rfl trivial dX9_goer_36 (by decide) ?_
            exact h M csame.rf.low hC
        · skip
          cases h19
  · simp only [e4, if_true] at h
    rw [toN_nI (by omega)] at h
    refine x_iload_n (pc := 0) dX9_goer_0 rfl ?_
    refine x_invS1 (pc := 1) dX9_goer_1 mlX9_61 stX4_isKind kX4_isKind (Nat.le_of_ble_eq_true rfl) (by decide) ?_
    refine sp_X4_isKind ?_
    refine x_cv rfl rfl ?_
    rw [show isR (nI k) 7 = true from e]
    first | (guard_target =~ Wp _ _ _ _ _ (Value.int (nI _) :: _) _ _ _ _; with_reducible refine x_if_eqN (pc := 4) (tgt := 22) ?_ dX9_goer_4 ?_ (fun h4 => ?_) (fun h4 => ?_); (first | omega | exact b2n_32 _ | exact b2n_31 _); decide) | refine x_if_eq (pc := 4) (tgt := 22) dX9_goer_4 (by decide) (fun h4 => ?_) (fun h4 => ?_)
    · skip
      cases h4
    · skip
      refine x_iload_n (pc := 7) dX9_goer_7 rfl ?_
      refine x_invS1 (pc := 8) dX9_goer_8 mlX9_67 stX3_isCell kX3_isCell (Nat.le_of_ble_eq_true rfl) (by decide) ?_
      refine sp_X3_isCell ?_
      refine x_cv rfl rfl ?_
      rw [show isR (nI f) 16 = true from e2]
      first | (guard_target =~ Wp _ _ _ _ _ (Value.int (nI _) :: _) _ _ _ _; with_reducible refine x_if_eqN (pc := 11) (tgt := 22) ?_ dX9_goer_11 ?_ (fun h11 => ?_) (fun h11 => ?_); (first | omega | exact b2n_32 _ | exact b2n_31 _); decide) | refine x_if_eq (pc := 11) (tgt := 22) dX9_goer_11 (by decide) (fun h11 => ?_) (fun h11 => ?_)
      · skip
        cases h11
      · skip
        refine x_iload (pc := 14) dX9_goer_14 rfl ?_
        refine x_invS1 (pc := 16) dX9_goer_16 mlX9_67 stX3_isCell kX3_isCell (Nat.le_of_ble_eq_true rfl) (by decide) ?_
        refine sp_X3_isCell ?_
        refine x_cv rfl rfl ?_
        rw [show isR (nI t) 16 = true from e3]
        first | (guard_target =~ Wp _ _ _ _ _ (Value.int (nI _) :: _) _ _ _ _; with_reducible refine x_if_neN (pc := 19) (tgt := 24) ?_ dX9_goer_19 ?_ (fun h19 => ?_) (fun h19 => ?_); (first | omega | exact b2n_32 _ | exact b2n_31 _); decide) | refine x_if_ne (pc := 19) (tgt := 24) dX9_goer_19 (by decide) (fun h19 => ?_) (fun h19 => ?_)
        · skip
          refine x_iload_n (pc := 24) dX9_goer_24 rfl ?_
          refine x_iconstN (pc := 25) 0 dX9_goer_25 ic_0 ?_
          refine x_bipushN (pc := 26) 9 dX9_goer_26 bp_9 ?_
          refine x_invS3 (pc := 28) dX9_goer_28 mlX9_72 stX9_isBetween kX9_isBetween (Nat.le_of_ble_eq_true rfl) (by decide) ?_
          refine sp_X9_isBetween ?_
          refine x_cv rfl rfl ?_
          rw [btw_isR (by decide), show isR (nI v) (nI (9 + 1)) = true from e4]
          first | (guard_target =~ Wp _ _ _ _ _ (Value.int (nI _) :: _) _ _ _ _; with_reducible refine x_if_neN (pc := 31) (tgt := 37) ?_ dX9_goer_31 ?_ (fun h31 => ?_) (fun h31 => ?_); (first | omega | exact b2n_32 _ | exact b2n_31 _); decide) | refine x_if_ne (pc := 31) (tgt := 37) dX9_goer_31 (by decide) (fun h31 => ?_) (fun h31 => ?_)
          · skip
            refine x_aload_n (pc := 37) dX9_goer_37 rfl ?_
            refine x_getR (pc := 38) dX9_goer_38 flX9_12 (by first | assumption | rfl) rfl ?_
            refine x_getI (pc := 41) dX9_goer_41 flX9_76 (by first | assumption | rfl) rfl ?_
            rw [hR.goers]
            refine x_bipushN (pc := 44) 6 dX9_goer_44 bp_6 ?_
            first | (guard_target =~ Wp _ _ _ _ _ (Value.int (nI _) :: Value.int (nI _) :: _) _ _ _ _; with_reducible refine x_icmp_ltN (pc := 46) (tgt := 52) ?_ ?_ dX9_goer_46 ?_ (fun h46 => ?_) (fun h46 => ?_); (first | omega | exact b2n_31 _); (first | omega | exact b2n_31 _); decide) | refine x_icmp_lt (pc := 46) (tgt := 52) dX9_goer_46 (by decide) (fun h46 => ?_) (fun h46 => ?_)
            · skip
              refine x_aload_n (pc := 52) dX9_goer_52 rfl ?_
              refine x_getR (pc := 53) dX9_goer_53 flX9_12 (by first | assumption | rfl) rfl ?_
              refine x_iload_n (pc := 56) dX9_goer_56 rfl ?_
              refine x_iload_n (pc := 57) dX9_goer_57 rfl ?_
              refine x_iload_n (pc := 58) dX9_goer_58 rfl ?_
              refine x_iload (pc := 59) dX9_goer_59 rfl ?_
              refine x_invV4 (pc := 61) dX9_goer_61 mlX9_80 imX2_addGoer seX2_addGoer kX2_addGoer (by first | assumption | rfl) rfl (Nat.le_of_ble_eq_true rfl) (by decide) ?_
              refine sp_X2_addGoer hk hv hf ht h46 car1 hR (fun M1 hs1 hR1 => ?_)
              refine x_cv rfl rfl ?_
              refine x_istore (pc := 64) dX9_goer_64 (by decide) xs_5 (x_hp rfl) ?_
              refine x_aload_n (pc := 66) dX9_goer_66 rfl ?_
              refine x_iload (pc := 67) dX9_goer_67 rfl ?_
              refine x_invV1 (pc := 69) dX9_goer_69 mlX9_84 imX9_learnYields seX9_learnYields kX9_learnYields (by first | assumption | rfl) rfl (Nat.le_of_ble_eq_true rfl) (by decide) ?_
              refine sp_X9_learnYields h46 hR1 (hC.2.2.2.1.eqs (by rw [hs1.1 41 (by decide)]) (hs1.1 42 (by decide)) (hs1.1 43 (by decide))) hC.2.1.2.2.2.2.2.1 (fun M2 hs2 hR2 => ?_)
              refine x_cn rfl rfl ?_
              refine x_iload (pc := 72) dX9_goer_72 rfl ?_
              refine x_ret (pc := 74) (v := some _) rfl trivial dX9_goer_74 (by decide) ?_
              rw [if_pos h46] at h
              have hs : csame M M2 := (csame.c1 hs1).tr hs2
              have eA : yldA (newA s.1.1 k v f t) (s.1.1 8 0) (yvF (fG (s.1.1 8 0) (newA s.1.1 k v f t 1 (s.1.1 8 0)) (newA s.1.1 k v f t 2 (s.1.1 8 0))) s.1.2.2.2.2) = gorA s.1.1 s.1.2.2.2.2 k v f t := by unfold gorA; congr 3 <;> simp [newA, updA]
              rw [eA] at hR2
              refine h M2 hs.low (hC.up hs hR2 (okQ.newA hC.2.1 hR2.bd ⟨fun i hi => by rw [gorA_e (by decide) (by decide) (by decide) (by omega)]; exact hC.2.1.2.2.1.1 i hi, by rw [gorA_e (by decide) (by decide) (by decide) (by omega)]; exact hC.2.1.2.2.1.2⟩ (by rw [gorA_n]; omega) (gorA_cache hC.2.1.2.2.2.2.1 h46)))
            · skip
              refine x_bipush (pc := 49) dX9_goer_49 bp_m4 ?_
              refine x_ret (pc := 51) (v := some _) rfl trivial dX9_goer_51 (by decide) ?_
              rw [if_neg h46] at h; exact h M csame.rf.low hC
          · skip
            cases h31
        · skip
          cases h19
end P43
