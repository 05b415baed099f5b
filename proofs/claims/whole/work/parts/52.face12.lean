/-! the program's calls: of -/
def ofN (s : XSt) (x j : Nat) : Int32 := if 10 ≤ j ∧ j < 26 then (if j - 10 < (wayL s.1.1 x).length then nI ((wayL s.1.1 x).getD (j - 10) 0) else -5) else if 30 ≤ j ∧ j < 46 then nI (trd s.1.1 (qw s) x (j - 30) 1) else if 50 ≤ j ∧ j < 66 then nI (s.1.1 7 (x * 16 + (j - 50))) else if j = 0 then nI (s.1.1 1 x) else if j = 1 then nI (s.1.1 2 x) else if j = 2 then nI (s.1.1 3 x) else if j = 3 then nI (s.1.1 4 x) else if j = 4 then nI (b2n (s.1.2.1.testBit x)) else if j = 5 then nI (xpop (s.1.1 6 x)) else -1
def vOf (s : XSt) (x w : Int32) : Int32 := if isR x (nI (s.1.1 8 0)) = true then (if isR w (nI 66) = true then ofN s (toN x) (toN w) else -1) else -1
section P52
variable {g : XG} {d : Nat} {M : XM} {K : Option Value → XS → XM → Prop} {s : XSt}
theorem isR_sub {x : Int32} {a b : Nat} (h : isR x (nI b) = false) (hab : a ≤ b) (hb : b < 2 ^ 31) : isR x (nI a) = false := by
  cases q : isR x (nI a) with
  | false => rfl
  | true =>
    obtain ⟨z, hz, rfl⟩ := (isR_iff (by omega)).mp q
    rw [isR_nI (by omega) hb, decide_eq_true (by omega)] at h
    cases h
theorem fX9_of {x w : Int32} (hC : XC9 M s) (h : ∀ M', low M M' → XC9 M' s → K (some (.int (vOf s x w))) xSF M') : Ex g (d + 5) yX9_of mX9_of [.ref 0, .int x, .int w] xSF M K := by
  unfold vOf at h
  have hR := hC.1.1
  have h6 := hR.goersB
  refine x_entry kX9_of (Nat.le_of_ble_eq_true rfl) ?_
  show Wp g _ mX9_of 0 [some (.ref 0), some (.int x), some (.int w)] [] _ _ _ _
  rcases isR_cases (x := x) (n := s.1.1 8 0) (by omega) with e | ⟨x, hx, rfl, e⟩
  · simp only [e, Bool.false_eq_true, if_false] at h
    refine x_aload_n (pc := 0) dX9_of_0 rfl ?_
    refine x_getR (pc := 1) dX9_of_1 flX9_12 (by first | assumption | rfl) rfl ?_
    refine x_iload_n (pc := 4) dX9_of_4 rfl ?_
    refine x_invV1 (pc := 5) dX9_of_5 mlX9_88 imX2_hasGoer seX2_hasGoer kX2_hasGoer (by first | assumption | rfl) rfl (Nat.le_of_ble_eq_true rfl) (by decide) ?_
    refine sp_X2_hasGoer car1 hR ?_
    refine x_cv rfl rfl ?_
    rw [e]
    first | (guard_target =~ Wp _ _ _ _ _ (Value.int (nI _) :: _) _ _ _ _; with_reducible refine x_if_neN (pc := 8) (tgt := 13) ?_ dX9_of_8 ?_ (fun h8 => ?_) (fun h8 => ?_); (first | omega | exact b2n_32 _ | exact b2n_31 _); decide) | refine x_if_ne (pc := 8) (tgt := 13) dX9_of_8 (by decide) (fun h8 => ?_) (fun h8 => ?_)
    · skip
      exact absurd rfl h8
    · skip
      refine x_iconst (pc := 11) dX9_of_11 ic_m1 ?_
      refine x_ret (pc := 12) (v := some _) rfl trivial dX9_of_12 (by decide) ?_
      exact h M csame.rf.low hC
  simp only [e, if_true] at h
  rw [toN_nI (by omega)] at h
  rcases isR_cases (x := w) (n := 66) (by omega) with e2 | ⟨j, hj, rfl, e2⟩
  · simp only [e2, Bool.false_eq_true, if_false] at h
    refine x_aload_n (pc := 0) dX9_of_0 rfl ?_
    refine x_getR (pc := 1) dX9_of_1 flX9_12 (by first | assumption | rfl) rfl ?_
    refine x_iload_n (pc := 4) dX9_of_4 rfl ?_
    refine x_invV1 (pc := 5) dX9_of_5 mlX9_88 imX2_hasGoer seX2_hasGoer kX2_hasGoer (by first | assumption | rfl) rfl (Nat.le_of_ble_eq_true rfl) (by decide) ?_
    refine sp_X2_hasGoer car1 hR ?_
    refine x_cv rfl rfl ?_
    rw [e]
    first | (guard_target =~ Wp _ _ _ _ _ (Value.int (nI _) :: _) _ _ _ _; with_reducible refine x_if_neN (pc := 8) (tgt := 13) ?_ dX9_of_8 ?_ (fun h8 => ?_) (fun h8 => ?_); (first | omega | exact b2n_32 _ | exact b2n_31 _); decide) | refine x_if_ne (pc := 8) (tgt := 13) dX9_of_8 (by decide) (fun h8 => ?_) (fun h8 => ?_)
    · skip
      refine x_iload_n (pc := 13) dX9_of_13 rfl ?_
      refine x_bipushN (pc := 14) 10 dX9_of_14 bp_10 ?_
      refine x_invS2 (pc := 16) dX9_of_16 mlX9_91 stX9_isCellAsked kX9_isCellAsked (Nat.le_of_ble_eq_true rfl) (by decide) ?_
      refine sp_X9_isCellAsked ?_
      refine x_cv rfl rfl ?_
      rw [ask_out (by decide) (isR_sub e2 (by decide) (by decide))]
      first | (guard_target =~ Wp _ _ _ _ _ (Value.int (nI _) :: _) _ _ _ _; with_reducible refine x_if_eqN (pc := 19) (tgt := 35) ?_ dX9_of_19 ?_ (fun h19 => ?_) (fun h19 => ?_); (first | omega | exact b2n_32 _ | exact b2n_31 _); decide) | refine x_if_eq (pc := 19) (tgt := 35) dX9_of_19 (by decide) (fun h19 => ?_) (fun h19 => ?_)
      · skip
        refine x_iload_n (pc := 35) dX9_of_35 rfl ?_
        refine x_bipushN (pc := 36) 30 dX9_of_36 bp_30 ?_
        refine x_invS2 (pc := 38) dX9_of_38 mlX9_91 stX9_isCellAsked kX9_isCellAsked (Nat.le_of_ble_eq_true rfl) (by decide) ?_
        refine sp_X9_isCellAsked ?_
        refine x_cv rfl rfl ?_
        rw [ask_out (by decide) (isR_sub e2 (by decide) (by decide))]
        first | (guard_target =~ Wp _ _ _ _ _ (Value.int (nI _) :: _) _ _ _ _; with_reducible refine x_if_eqN (pc := 41) (tgt := 58) ?_ dX9_of_41 ?_ (fun h41 => ?_) (fun h41 => ?_); (first | omega | exact b2n_32 _ | exact b2n_31 _); decide) | refine x_if_eq (pc := 41) (tgt := 58) dX9_of_41 (by decide) (fun h41 => ?_) (fun h41 => ?_)
        · skip
          refine x_iload_n (pc := 58) dX9_of_58 rfl ?_
          refine x_bipushN (pc := 59) 50 dX9_of_59 bp_50 ?_
          refine x_invS2 (pc := 61) dX9_of_61 mlX9_91 stX9_isCellAsked kX9_isCellAsked (Nat.le_of_ble_eq_true rfl) (by decide) ?_
          refine sp_X9_isCellAsked ?_
          refine x_cv rfl rfl ?_
          rw [ask_out (by decide) (isR_sub e2 (by decide) (by decide))]
          first | (guard_target =~ Wp _ _ _ _ _ (Value.int (nI _) :: _) _ _ _ _; with_reducible refine x_if_eqN (pc := 64) (tgt := 85) ?_ dX9_of_64 ?_ (fun h64 => ?_) (fun h64 => ?_); (first | omega | exact b2n_32 _ | exact b2n_31 _); decide) | refine x_if_eq (pc := 64) (tgt := 85) dX9_of_64 (by decide) (fun h64 => ?_) (fun h64 => ?_)
          · skip
            refine x_iload_n (pc := 85) dX9_of_85 rfl ?_
            refine x_tableOut (pc := 86) (tgt := 189) dX9_of_86 (isR_out (n := 5) (by decide) (isR_sub e2 (by decide) (by decide))) (by decide) ?_
            refine x_iconst (pc := 189) dX9_of_189 ic_m1 ?_
            refine x_ret (pc := 190) (v := some _) rfl trivial dX9_of_190 (by decide) ?_
            exact h M csame.rf.low hC
          · skip
            exact absurd rfl h64
        · skip
          exact absurd rfl h41
      · skip
        exact absurd rfl h19
    · skip
      cases h8
  simp only [e2, if_true] at h
  rw [toN_nI (by omega)] at h
  by_cases c1 : 10 ≤ j ∧ j < 26
  · unfold ofN at h
    rw [if_pos c1] at h
    refine x_aload_n (pc := 0) dX9_of_0 rfl ?_
    refine x_getR (pc := 1) dX9_of_1 flX9_12 (by first | assumption | rfl) rfl ?_
    refine x_iload_n (pc := 4) dX9_of_4 rfl ?_
    refine x_invV1 (pc := 5) dX9_of_5 mlX9_88 imX2_hasGoer seX2_hasGoer kX2_hasGoer (by first | assumption | rfl) rfl (Nat.le_of_ble_eq_true rfl) (by decide) ?_
    refine sp_X2_hasGoer car1 hR ?_
    refine x_cv rfl rfl ?_
    rw [e]
    first | (guard_target =~ Wp _ _ _ _ _ (Value.int (nI _) :: _) _ _ _ _; with_reducible refine x_if_neN (pc := 8) (tgt := 13) ?_ dX9_of_8 ?_ (fun h8 => ?_) (fun h8 => ?_); (first | omega | exact b2n_32 _ | exact b2n_31 _); decide) | refine x_if_ne (pc := 8) (tgt := 13) dX9_of_8 (by decide) (fun h8 => ?_) (fun h8 => ?_)
    · skip
      refine x_iload_n (pc := 13) dX9_of_13 rfl ?_
      refine x_bipushN (pc := 14) 10 dX9_of_14 bp_10 ?_
      refine x_invS2 (pc := 16) dX9_of_16 mlX9_91 stX9_isCellAsked kX9_isCellAsked (Nat.le_of_ble_eq_true rfl) (by decide) ?_
      refine sp_X9_isCellAsked ?_
      refine x_cv rfl rfl ?_
      rw [ask_nI (by omega) (by decide), decide_eq_true (by omega)]
      first | (guard_target =~ Wp _ _ _ _ _ (Value.int (nI _) :: _) _ _ _ _; with_reducible refine x_if_eqN (pc := 19) (tgt := 35) ?_ dX9_of_19 ?_ (fun h19 => ?_) (fun h19 => ?_); (first | omega | exact b2n_32 _ | exact b2n_31 _); decide) | refine x_if_eq (pc := 19) (tgt := 35) dX9_of_19 (by decide) (fun h19 => ?_) (fun h19 => ?_)
      · skip
        cases h19
      · skip
        refine x_aload_n (pc := 22) dX9_of_22 rfl ?_
        refine x_getR (pc := 23) dX9_of_23 flX9_12 (by first | assumption | rfl) rfl ?_
        refine x_iload_n (pc := 26) dX9_of_26 rfl ?_
        refine x_iload_n (pc := 27) dX9_of_27 rfl ?_
        refine x_bipushN (pc := 28) 10 dX9_of_28 bp_10 ?_
        first | (guard_target =~ Wp _ _ _ _ _ (Value.int (nI _) :: Value.int (nI _) :: _) _ _ _ _; with_reducible refine x_isubN (pc := 30) ?_ dX9_of_30 ?_; omega) | refine x_isub (pc := 30) dX9_of_30 ?_
        refine x_invV2 (pc := 31) dX9_of_31 mlX9_95 imX2_cellOfWay seX2_cellOfWay kX2_cellOfWay (by first | assumption | rfl) rfl (Nat.le_of_ble_eq_true rfl) (by decide) ?_
        refine sp_X2_cellOfWay (by omega) (by omega) car1 hR (fun M2 hs => ?_)
        refine x_cv rfl rfl ?_
        refine x_ret (pc := 34) (v := some _) rfl trivial dX9_of_34 (by decide) ?_
        exact h M2 (csame.c1 (hs.wide (by decide) (by decide))).low (hC.st (csame.c1 (hs.wide (by decide) (by decide))) (hR.out hs (by decide)))
    · skip
      cases h8
  by_cases c2 : 30 ≤ j ∧ j < 46
  · unfold ofN at h
    rw [if_neg c1, if_pos c2] at h
    refine x_aload_n (pc := 0) dX9_of_0 rfl ?_
    refine x_getR (pc := 1) dX9_of_1 flX9_12 (by first | assumption | rfl) rfl ?_
    refine x_iload_n (pc := 4) dX9_of_4 rfl ?_
    refine x_invV1 (pc := 5) dX9_of_5 mlX9_88 imX2_hasGoer seX2_hasGoer kX2_hasGoer (by first | assumption | rfl) rfl (Nat.le_of_ble_eq_true rfl) (by decide) ?_
    refine sp_X2_hasGoer car1 hR ?_
    refine x_cv rfl rfl ?_
    rw [e]
    first | (guard_target =~ Wp _ _ _ _ _ (Value.int (nI _) :: _) _ _ _ _; with_reducible refine x_if_neN (pc := 8) (tgt := 13) ?_ dX9_of_8 ?_ (fun h8 => ?_) (fun h8 => ?_); (first | omega | exact b2n_32 _ | exact b2n_31 _); decide) | refine x_if_ne (pc := 8) (tgt := 13) dX9_of_8 (by decide) (fun h8 => ?_) (fun h8 => ?_)
    · skip
      refine x_iload_n (pc := 13) dX9_of_13 rfl ?_
      refine x_bipushN (pc := 14) 10 dX9_of_14 bp_10 ?_
      refine x_invS2 (pc := 16) dX9_of_16 mlX9_91 stX9_isCellAsked kX9_isCellAsked (Nat.le_of_ble_eq_true rfl) (by decide) ?_
      refine sp_X9_isCellAsked ?_
      refine x_cv rfl rfl ?_
      rw [ask_nI (by omega) (by decide), decide_eq_false (by omega)]
      first | (guard_target =~ Wp _ _ _ _ _ (Value.int (nI _) :: _) _ _ _ _; with_reducible refine x_if_eqN (pc := 19) (tgt := 35) ?_ dX9_of_19 ?_ (fun h19 => ?_) (fun h19 => ?_); (first | omega | exact b2n_32 _ | exact b2n_31 _); decide) | refine x_if_eq (pc := 19) (tgt := 35) dX9_of_19 (by decide) (fun h19 => ?_) (fun h19 => ?_)
      · skip
        refine x_iload_n (pc := 35) dX9_of_35 rfl ?_
        refine x_bipushN (pc := 36) 30 dX9_of_36 bp_30 ?_
        refine x_invS2 (pc := 38) dX9_of_38 mlX9_91 stX9_isCellAsked kX9_isCellAsked (Nat.le_of_ble_eq_true rfl) (by decide) ?_
        refine sp_X9_isCellAsked ?_
        refine x_cv rfl rfl ?_
        rw [ask_nI (by omega) (by decide), decide_eq_true (by omega)]
        first | (guard_target =~ Wp _ _ _ _ _ (Value.int (nI _) :: _) _ _ _ _; with_reducible refine x_if_eqN (pc := 41) (tgt := 58) ?_ dX9_of_41 ?_ (fun h41 => ?_) (fun h41 => ?_); (first | omega | exact b2n_32 _ | exact b2n_31 _); decide) | refine x_if_eq (pc := 41) (tgt := 58) dX9_of_41 (by decide) (fun h41 => ?_) (fun h41 => ?_)
        · skip
          cases h41
        · skip
          refine x_aload_n (pc := 44) dX9_of_44 rfl ?_
          refine x_getR (pc := 45) dX9_of_45 flX9_12 (by first | assumption | rfl) rfl ?_
          refine x_iload_n (pc := 48) dX9_of_48 rfl ?_
          refine x_iload_n (pc := 49) dX9_of_49 rfl ?_
          refine x_bipushN (pc := 50) 30 dX9_of_50 bp_30 ?_
          first | (guard_target =~ Wp _ _ _ _ _ (Value.int (nI _) :: Value.int (nI _) :: _) _ _ _ _; with_reducible refine x_isubN (pc := 52) ?_ dX9_of_52 ?_; omega) | refine x_isub (pc := 52) dX9_of_52 ?_
          refine x_iconstN (pc := 53) 1 dX9_of_53 ic_1 ?_
          refine x_invV3 (pc := 54) dX9_of_54 mlX9_99 imX2_treads seX2_treads kX2_treads (by first | assumption | rfl) rfl (Nat.le_of_ble_eq_true rfl) (by decide) ?_
          refine sp_X2_treads (by omega) (by omega) (by decide) car1 hR ?_
          refine x_cv rfl rfl ?_
          refine x_ret (pc := 57) (v := some _) rfl trivial dX9_of_57 (by decide) ?_
          exact h M csame.rf.low hC
      · skip
        exact absurd rfl h19
    · skip
      cases h8
  by_cases c3 : 50 ≤ j ∧ j < 66
  · unfold ofN at h
    rw [if_neg c1, if_neg c2, if_pos c3] at h
    refine x_aload_n (pc := 0) dX9_of_0 rfl ?_
    refine x_getR (pc := 1) dX9_of_1 flX9_12 (by first | assumption | rfl) rfl ?_
    refine x_iload_n (pc := 4) dX9_of_4 rfl ?_
    refine x_invV1 (pc := 5) dX9_of_5 mlX9_88 imX2_hasGoer seX2_hasGoer kX2_hasGoer (by first | assumption | rfl) rfl (Nat.le_of_ble_eq_true rfl) (by decide) ?_
    refine sp_X2_hasGoer car1 hR ?_
    refine x_cv rfl rfl ?_
    rw [e]
    first | (guard_target =~ Wp _ _ _ _ _ (Value.int (nI _) :: _) _ _ _ _; with_reducible refine x_if_neN (pc := 8) (tgt := 13) ?_ dX9_of_8 ?_ (fun h8 => ?_) (fun h8 => ?_); (first | omega | exact b2n_32 _ | exact b2n_31 _); decide) | refine x_if_ne (pc := 8) (tgt := 13) dX9_of_8 (by decide) (fun h8 => ?_) (fun h8 => ?_)
    · skip
      refine x_iload_n (pc := 13) dX9_of_13 rfl ?_
      refine x_bipushN (pc := 14) 10 dX9_of_14 bp_10 ?_
      refine x_invS2 (pc := 16) dX9_of_16 mlX9_91 stX9_isCellAsked kX9_isCellAsked (Nat.le_of_ble_eq_true rfl) (by decide) ?_
      refine sp_X9_isCellAsked ?_
      refine x_cv rfl rfl ?_
      rw [ask_nI (by omega) (by decide), decide_eq_false (by omega)]
      first | (guard_target =~ Wp _ _ _ _ _ (Value.int (nI _) :: _) _ _ _ _; with_reducible refine x_if_eqN (pc := 19) (tgt := 35) ?_ dX9_of_19 ?_ (fun h19 => ?_) (fun h19 => ?_); (first | omega | exact b2n_32 _ | exact b2n_31 _); decide) | refine x_if_eq (pc := 19) (tgt := 35) dX9_of_19 (by decide) (fun h19 => ?_) (fun h19 => ?_)
      · skip
        refine x_iload_n (pc := 35) dX9_of_35 rfl ?_
        refine x_bipushN (pc := 36) 30 dX9_of_36 bp_30 ?_
        refine x_invS2 (pc := 38) dX9_of_38 mlX9_91 stX9_isCellAsked kX9_isCellAsked (Nat.le_of_ble_eq_true rfl) (by decide) ?_
        refine sp_X9_isCellAsked ?_
        refine x_cv rfl rfl ?_
        rw [ask_nI (by omega) (by decide), decide_eq_false (by omega)]
        first | (guard_target =~ Wp _ _ _ _ _ (Value.int (nI _) :: _) _ _ _ _; with_reducible refine x_if_eqN (pc := 41) (tgt := 58) ?_ dX9_of_41 ?_ (fun h41 => ?_) (fun h41 => ?_); (first | omega | exact b2n_32 _ | exact b2n_31 _); decide) | refine x_if_eq (pc := 41) (tgt := 58) dX9_of_41 (by decide) (fun h41 => ?_) (fun h41 => ?_)
        · skip
          refine x_iload_n (pc := 58) dX9_of_58 rfl ?_
          refine x_bipushN (pc := 59) 50 dX9_of_59 bp_50 ?_
          refine x_invS2 (pc := 61) dX9_of_61 mlX9_91 stX9_isCellAsked kX9_isCellAsked (Nat.le_of_ble_eq_true rfl) (by decide) ?_
          refine sp_X9_isCellAsked ?_
          refine x_cv rfl rfl ?_
          rw [ask_nI (by omega) (by decide), decide_eq_true (by omega)]
          first | (guard_target =~ Wp _ _ _ _ _ (Value.int (nI _) :: _) _ _ _ _; with_reducible refine x_if_eqN (pc := 64) (tgt := 85) ?_ dX9_of_64 ?_ (fun h64 => ?_) (fun h64 => ?_); (first | omega | exact b2n_32 _ | exact b2n_31 _); decide) | refine x_if_eq (pc := 64) (tgt := 85) dX9_of_64 (by decide) (fun h64 => ?_) (fun h64 => ?_)
          · skip
            cases h64
          · skip
            refine x_aload_n (pc := 67) dX9_of_67 rfl ?_
            refine x_getR (pc := 68) dX9_of_68 flX9_12 (by first | assumption | rfl) rfl ?_
            refine x_getR (pc := 71) dX9_of_71 flX9_103 (by first | assumption | rfl) rfl ?_
            refine x_iload_n (pc := 74) dX9_of_74 rfl ?_
            refine x_bipushN (pc := 75) 16 dX9_of_75 bp_16 ?_
            first | (guard_target =~ Wp _ _ _ _ _ (Value.int (nI _) :: Value.int (nI _) :: _) _ _ _ _; with_reducible refine x_imulN (pc := 77) dX9_of_77 ?_) | refine x_imul (pc := 77) dX9_of_77 ?_
            refine x_iload_n (pc := 78) dX9_of_78 rfl ?_
            first | (guard_target =~ Wp _ _ _ _ _ (Value.int (nI _) :: Value.int (nI _) :: _) _ _ _ _; with_reducible refine x_iaddN (pc := 79) dX9_of_79 ?_) | refine x_iadd (pc := 79) dX9_of_79 ?_
            refine x_bipushN (pc := 80) 50 dX9_of_80 bp_50 ?_
            first | (guard_target =~ Wp _ _ _ _ _ (Value.int (nI _) :: Value.int (nI _) :: _) _ _ _ _; with_reducible refine x_isubN (pc := 82) ?_ dX9_of_82 ?_; omega) | refine x_isub (pc := 82) dX9_of_82 ?_
            refine x_ialdN (pc := 83) dX9_of_83 (by first | assumption | rfl) (by first | with_reducible rfl | (simp only [xlit, nI_add, pk_mul]; with_reducible rfl)) (by omega) (by decide) ?_
            rw [hR.yields (by omega), show x * 16 + j - 50 = x * 16 + (j - 50) by omega]
            refine x_ret (pc := 84) (v := some _) rfl trivial dX9_of_84 (by decide) ?_
            exact h M csame.rf.low hC
        · skip
          exact absurd rfl h41
      · skip
        exact absurd rfl h19
    · skip
      cases h8
  have pre : Wp g (d + 5) mX9_of 86 [some (.ref 0), some (.int (nI x)), some (.int (nI j))] [.int (nI j)] xSF (0, 0) M K → Wp g (d + 5) mX9_of 0 [some (.ref 0), some (.int (nI x)), some (.int (nI j))] [] xSF (0, 0) M K := by
    intro hh
    refine x_aload_n (pc := 0) dX9_of_0 rfl ?_
    refine x_getR (pc := 1) dX9_of_1 flX9_12 (by first | assumption | rfl) rfl ?_
    refine x_iload_n (pc := 4) dX9_of_4 rfl ?_
    refine x_invV1 (pc := 5) dX9_of_5 mlX9_88 imX2_hasGoer seX2_hasGoer kX2_hasGoer (by first | assumption | rfl) rfl (Nat.le_of_ble_eq_true rfl) (by decide) ?_
    refine sp_X2_hasGoer car1 hR ?_
    refine x_cv rfl rfl ?_
    rw [e]
    first | (guard_target =~ Wp _ _ _ _ _ (Value.int (nI _) :: _) _ _ _ _; with_reducible refine x_if_neN (pc := 8) (tgt := 13) ?_ dX9_of_8 ?_ (fun h8 => ?_) (fun h8 => ?_); (first | omega | exact b2n_32 _ | exact b2n_31 _); decide) | refine x_if_ne (pc := 8) (tgt := 13) dX9_of_8 (by decide) (fun h8 => ?_) (fun h8 => ?_)
    · skip
      refine x_iload_n (pc := 13) dX9_of_13 rfl ?_
      refine x_bipushN (pc := 14) 10 dX9_of_14 bp_10 ?_
      refine x_invS2 (pc := 16) dX9_of_16 mlX9_91 stX9_isCellAsked kX9_isCellAsked (Nat.le_of_ble_eq_true rfl) (by decide) ?_
      refine sp_X9_isCellAsked ?_
      refine x_cv rfl rfl ?_
      rw [ask_nI (by omega) (by decide), decide_eq_false (by omega)]
      first | (guard_target =~ Wp _ _ _ _ _ (Value.int (nI _) :: _) _ _ _ _; with_reducible refine x_if_eqN (pc := 19) (tgt := 35) ?_ dX9_of_19 ?_ (fun h19 => ?_) (fun h19 => ?_); (first | omega | exact b2n_32 _ | exact b2n_31 _); decide) | refine x_if_eq (pc := 19) (tgt := 35) dX9_of_19 (by decide) (fun h19 => ?_) (fun h19 => ?_)
      · skip
        refine x_iload_n (pc := 35) dX9_of_35 rfl ?_
        refine x_bipushN (pc := 36) 30 dX9_of_36 bp_30 ?_
        refine x_invS2 (pc := 38) dX9_of_38 mlX9_91 stX9_isCellAsked kX9_isCellAsked (Nat.le_of_ble_eq_true rfl) (by decide) ?_
        refine sp_X9_isCellAsked ?_
        refine x_cv rfl rfl ?_
        rw [ask_nI (by omega) (by decide), decide_eq_false (by omega)]
        first | (guard_target =~ Wp _ _ _ _ _ (Value.int (nI _) :: _) _ _ _ _; with_reducible refine x_if_eqN (pc := 41) (tgt := 58) ?_ dX9_of_41 ?_ (fun h41 => ?_) (fun h41 => ?_); (first | omega | exact b2n_32 _ | exact b2n_31 _); decide) | refine x_if_eq (pc := 41) (tgt := 58) dX9_of_41 (by decide) (fun h41 => ?_) (fun h41 => ?_)
        · skip
          refine x_iload_n (pc := 58) dX9_of_58 rfl ?_
          refine x_bipushN (pc := 59) 50 dX9_of_59 bp_50 ?_
          refine x_invS2 (pc := 61) dX9_of_61 mlX9_91 stX9_isCellAsked kX9_isCellAsked (Nat.le_of_ble_eq_true rfl) (by decide) ?_
          refine sp_X9_isCellAsked ?_
          refine x_cv rfl rfl ?_
          rw [ask_nI (by omega) (by decide), decide_eq_false (by omega)]
          first | (guard_target =~ Wp _ _ _ _ _ (Value.int (nI _) :: _) _ _ _ _; with_reducible refine x_if_eqN (pc := 64) (tgt := 85) ?_ dX9_of_64 ?_ (fun h64 => ?_) (fun h64 => ?_); (first | omega | exact b2n_32 _ | exact b2n_31 _); decide) | refine x_if_eq (pc := 64) (tgt := 85) dX9_of_64 (by decide) (fun h64 => ?_) (fun h64 => ?_)
          · skip
            refine x_iload_n (pc := 85) dX9_of_85 rfl ?_
            exact hh
          · skip
            exact absurd rfl h64
        · skip
          exact absurd rfl h41
      · skip
        exact absurd rfl h19
    · skip
      cases h8
  refine pre ?_
  unfold ofN at h
  rw [if_neg c1, if_neg c2, if_neg c3] at h
  by_cases c4 : 6 ≤ j
  · rw [if_neg (by omega), if_neg (by omega), if_neg (by omega), if_neg (by omega), if_neg (by omega), if_neg (by omega)] at h
    refine x_tableOut (pc := 86) (tgt := 189) dX9_of_86 (Or.inr (by rw [nI_toInt (by omega)]; omega)) (by decide) ?_
    refine x_iconst (pc := 189) dX9_of_189 ic_m1 ?_
    refine x_ret (pc := 190) (v := some _) rfl trivial dX9_of_190 (by decide) ?_
    exact h M csame.rf.low hC
  have hh : j = 0 ∨ j = 1 ∨ j = 2 ∨ j = 3 ∨ j = 4 ∨ j = 5 := by omega
  rcases hh with rfl | rfl | rfl | rfl | rfl | rfl
  · skip
    refine x_tableIn (pc := 86) (off := 38) (tgt := 124) dX9_of_86 (by decide) (by decide) (by decide) (by decide) ?_
    refine x_aload_n (pc := 124) dX9_of_124 rfl ?_
    refine x_getR (pc := 125) dX9_of_125 flX9_12 (by first | assumption | rfl) rfl ?_
    refine x_getR (pc := 128) dX9_of_128 flX9_107 (by first | assumption | rfl) rfl ?_
    refine x_iload_n (pc := 131) dX9_of_131 rfl ?_
    refine x_ialdN (pc := 132) dX9_of_132 (by first | assumption | rfl) (by first | with_reducible rfl | (simp only [xlit, nI_add, pk_mul]; with_reducible rfl)) (by omega) (by decide) ?_
    rw [hR.kind (by omega)]
    refine x_ret (pc := 133) (v := some _) rfl trivial dX9_of_133 (by decide) ?_
    exact h M csame.rf.low hC
  · skip
    refine x_tableIn (pc := 86) (off := 48) (tgt := 134) dX9_of_86 (by decide) (by decide) (by decide) (by decide) ?_
    refine x_aload_n (pc := 134) dX9_of_134 rfl ?_
    refine x_getR (pc := 135) dX9_of_135 flX9_12 (by first | assumption | rfl) rfl ?_
    refine x_getR (pc := 138) dX9_of_138 flX9_110 (by first | assumption | rfl) rfl ?_
    refine x_iload_n (pc := 141) dX9_of_141 rfl ?_
    refine x_ialdN (pc := 142) dX9_of_142 (by first | assumption | rfl) (by first | with_reducible rfl | (simp only [xlit, nI_add, pk_mul]; with_reducible rfl)) (by omega) (by decide) ?_
    rw [hR.v (by omega)]
    refine x_ret (pc := 143) (v := some _) rfl trivial dX9_of_143 (by decide) ?_
    exact h M csame.rf.low hC
  · skip
    refine x_tableIn (pc := 86) (off := 58) (tgt := 144) dX9_of_86 (by decide) (by decide) (by decide) (by decide) ?_
    refine x_aload_n (pc := 144) dX9_of_144 rfl ?_
    refine x_getR (pc := 145) dX9_of_145 flX9_12 (by first | assumption | rfl) rfl ?_
    refine x_getR (pc := 148) dX9_of_148 flX9_113 (by first | assumption | rfl) rfl ?_
    refine x_iload_n (pc := 151) dX9_of_151 rfl ?_
    refine x_ialdN (pc := 152) dX9_of_152 (by first | assumption | rfl) (by first | with_reducible rfl | (simp only [xlit, nI_add, pk_mul]; with_reducible rfl)) (by omega) (by decide) ?_
    rw [hR.from (by omega)]
    refine x_ret (pc := 153) (v := some _) rfl trivial dX9_of_153 (by decide) ?_
    exact h M csame.rf.low hC
  · skip
    refine x_tableIn (pc := 86) (off := 68) (tgt := 154) dX9_of_86 (by decide) (by decide) (by decide) (by decide) ?_
    refine x_aload_n (pc := 154) dX9_of_154 rfl ?_
    refine x_getR (pc := 155) dX9_of_155 flX9_12 (by first | assumption | rfl) rfl ?_
    refine x_getR (pc := 158) dX9_of_158 flX9_116 (by first | assumption | rfl) rfl ?_
    refine x_iload_n (pc := 161) dX9_of_161 rfl ?_
    refine x_ialdN (pc := 162) dX9_of_162 (by first | assumption | rfl) (by first | with_reducible rfl | (simp only [xlit, nI_add, pk_mul]; with_reducible rfl)) (by omega) (by decide) ?_
    rw [hR.to (by omega)]
    refine x_ret (pc := 163) (v := some _) rfl trivial dX9_of_163 (by decide) ?_
    exact h M csame.rf.low hC
  · skip
    refine x_tableIn (pc := 86) (off := 78) (tgt := 164) dX9_of_86 (by decide) (by decide) (by decide) (by decide) ?_
    refine x_aload_n (pc := 164) dX9_of_164 rfl ?_
    refine x_getR (pc := 165) dX9_of_165 flX9_12 (by first | assumption | rfl) rfl ?_
    refine x_iload_n (pc := 168) dX9_of_168 rfl ?_
    refine x_invV1 (pc := 169) dX9_of_169 mlX9_119 imX2_isAway seX2_isAway kX2_isAway (by first | assumption | rfl) rfl (Nat.le_of_ble_eq_true rfl) (by decide) ?_
    refine sp_X2_isAway (by omega) car1 hR ?_
    refine x_cv rfl rfl ?_
    refine x_invS1 (pc := 172) dX9_of_172 mlX9_122 stX9_oneIf kX9_oneIf (Nat.le_of_ble_eq_true rfl) (by decide) ?_
    refine sp_X9_oneIf ?_
    refine x_cv rfl rfl ?_
    rw [tb_nI (by omega)]
    refine x_ret (pc := 175) (v := some _) rfl trivial dX9_of_175 (by decide) ?_
    exact h M csame.rf.low hC
  · have hwb := hR.waysB (show x < 6 by omega)
    refine x_tableIn (pc := 86) (off := 90) (tgt := 176) dX9_of_86 (by decide) (by decide) (by decide) (by decide) ?_
    refine x_aload_n (pc := 176) dX9_of_176 rfl ?_
    refine x_getR (pc := 177) dX9_of_177 flX9_12 (by first | assumption | rfl) rfl ?_
    refine x_getR (pc := 180) dX9_of_180 flX9_126 (by first | assumption | rfl) rfl ?_
    refine x_iload_n (pc := 183) dX9_of_183 rfl ?_
    refine x_ialdN (pc := 184) dX9_of_184 (by first | assumption | rfl) (by first | with_reducible rfl | (simp only [xlit, nI_add, pk_mul]; with_reducible rfl)) (by omega) (by decide) ?_
    rw [hR.ways (by omega)]
    refine x_invS1 (pc := 185) dX9_of_185 mlX9_129 stX3_howMany kX3_howMany (Nat.le_of_ble_eq_true rfl) (by decide) ?_
    refine sp_X3_howMany (by omega) ?_
    refine x_cv rfl rfl ?_
    refine x_ret (pc := 188) (v := some _) rfl trivial dX9_of_188 (by decide) ?_
    exact h M csame.rf.low hC
end P52
