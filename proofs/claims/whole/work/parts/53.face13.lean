/-! the program's calls: odds, mean -/
def fracN (a b : Nat) (part : Int32) : Int64 := if part = 0 then (nI (a / Nat.gcd a b)).toInt64 else if part = 1 then (nI (b / Nat.gcd a b)).toInt64 else -9223372036854775808
def vOdds (s : XSt) (c n part : Int32) : Int64 := if isR c (nI 16) = true ∧ isR n (nI 61) = true ∧ 0 < s.1.1 8 0 then fracN (xsum (fun k => b2n (outW s.1.1 (qw s) (toN c) (toN n) k)) (s.1.1 8 0)) (s.1.1 8 0) part else -9223372036854775808
def vMean (s : XSt) (n part : Int32) : Int64 := if isR n (nI 61) = true then fracN (sumA (onA s (toN n))) 16 part else -9223372036854775808
section P53
variable {g : XG} {d : Nat} {S : XS} {M : XM} {K : Option Value → XS → XM → Prop} {s : XSt}
theorem sp_X9_commonDivisor {a b : Nat} (ha : a < 2 ^ 31) (hb : b ≤ 16) (h : K (some (.int (nI (Nat.gcd a b)))) S M) : Ex g d yX9_commonDivisor mX9_commonDivisor [.int (nI a), .int (nI b)] S M K := by
  refine x_entry kX9_commonDivisor (Nat.le_of_ble_eq_true rfl) ?_
  show Wp g _ mX9_commonDivisor 0 [some (.int (nI a)), some (.int (nI b)), none, none, none, none] [] _ _ _ _
  have loop : ∀ m p q k o5, q ≤ m → p < 2 ^ 31 → k + q ≤ 20 → Nat.gcd p q = Nat.gcd a b → Wp g d mX9_commonDivisor 7 [some (.int (nI a)), some (.int (nI b)), some (.int (nI p)), some (.int (nI q)), some (.int (nI k)), o5] [] S (0, 0) M K := by
    intro m
    induction m with
    | zero =>
      intro p q k o5 hq hp hk he
      obtain rfl : q = 0 := Nat.le_zero.mp hq
      rw [Nat.gcd_zero_right] at he
      refine x_iload (pc := 7) dX9_commonDivisor_7 rfl ?_
      refine x_bipushN (pc := 9) 50 dX9_commonDivisor_9 bp_50 ?_
      first | (guard_target =~ Wp _ _ _ _ _ (Value.int (nI _) :: Value.int (nI _) :: _) _ _ _ _; with_reducible refine x_icmp_geN (pc := 11) (tgt := 34) ?_ ?_ dX9_commonDivisor_11 ?_ (fun h11 => ?_) (fun h11 => ?_); (first | omega | exact b2n_31 _); (first | omega | exact b2n_31 _); decide) | refine x_icmp_ge (pc := 11) (tgt := 34) dX9_commonDivisor_11 (by decide) (fun h11 => ?_) (fun h11 => ?_)
      · skip
        omega
      · skip
        refine x_iload_n (pc := 14) dX9_commonDivisor_14 rfl ?_
        first | (guard_target =~ Wp _ _ _ _ _ (Value.int (nI _) :: _) _ _ _ _; with_reducible refine x_if_eqN (pc := 15) (tgt := 34) ?_ dX9_commonDivisor_15 ?_ (fun h15 => ?_) (fun h15 => ?_); (first | omega | exact b2n_32 _ | exact b2n_31 _); decide) | refine x_if_eq (pc := 15) (tgt := 34) dX9_commonDivisor_15 (by decide) (fun h15 => ?_) (fun h15 => ?_)
        · skip
          refine x_iload_n (pc := 34) dX9_commonDivisor_34 rfl ?_
          refine x_ret (pc := 35) (v := some _) rfl trivial dX9_commonDivisor_35 (by decide) ?_
          rw [← he] at h; exact h
        · skip
          omega
    | succ m ih =>
      intro p q k o5 hq hp hk he
      by_cases h0 : q = 0
      · subst h0
        rw [Nat.gcd_zero_right] at he
        refine x_iload (pc := 7) dX9_commonDivisor_7 rfl ?_
        refine x_bipushN (pc := 9) 50 dX9_commonDivisor_9 bp_50 ?_
        first | (guard_target =~ Wp _ _ _ _ _ (Value.int (nI _) :: Value.int (nI _) :: _) _ _ _ _; with_reducible refine x_icmp_geN (pc := 11) (tgt := 34) ?_ ?_ dX9_commonDivisor_11 ?_ (fun h11 => ?_) (fun h11 => ?_); (first | omega | exact b2n_31 _); (first | omega | exact b2n_31 _); decide) | refine x_icmp_ge (pc := 11) (tgt := 34) dX9_commonDivisor_11 (by decide) (fun h11 => ?_) (fun h11 => ?_)
        · skip
          omega
        · skip
          refine x_iload_n (pc := 14) dX9_commonDivisor_14 rfl ?_
          first | (guard_target =~ Wp _ _ _ _ _ (Value.int (nI _) :: _) _ _ _ _; with_reducible refine x_if_eqN (pc := 15) (tgt := 34) ?_ dX9_commonDivisor_15 ?_ (fun h15 => ?_) (fun h15 => ?_); (first | omega | exact b2n_32 _ | exact b2n_31 _); decide) | refine x_if_eq (pc := 15) (tgt := 34) dX9_commonDivisor_15 (by decide) (fun h15 => ?_) (fun h15 => ?_)
          · skip
            refine x_iload_n (pc := 34) dX9_commonDivisor_34 rfl ?_
            refine x_ret (pc := 35) (v := some _) rfl trivial dX9_commonDivisor_35 (by decide) ?_
            rw [← he] at h; exact h
          · skip
            omega
      · have hlt := Nat.mod_lt p (show q > 0 by omega)
        refine x_iload (pc := 7) dX9_commonDivisor_7 rfl ?_
        refine x_bipushN (pc := 9) 50 dX9_commonDivisor_9 bp_50 ?_
        first | (guard_target =~ Wp _ _ _ _ _ (Value.int (nI _) :: Value.int (nI _) :: _) _ _ _ _; with_reducible refine x_icmp_geN (pc := 11) (tgt := 34) ?_ ?_ dX9_commonDivisor_11 ?_ (fun h11 => ?_) (fun h11 => ?_); (first | omega | exact b2n_31 _); (first | omega | exact b2n_31 _); decide) | refine x_icmp_ge (pc := 11) (tgt := 34) dX9_commonDivisor_11 (by decide) (fun h11 => ?_) (fun h11 => ?_)
        · skip
          omega
        · skip
          refine x_iload_n (pc := 14) dX9_commonDivisor_14 rfl ?_
          first | (guard_target =~ Wp _ _ _ _ _ (Value.int (nI _) :: _) _ _ _ _; with_reducible refine x_if_eqN (pc := 15) (tgt := 34) ?_ dX9_commonDivisor_15 ?_ (fun h15 => ?_) (fun h15 => ?_); (first | omega | exact b2n_32 _ | exact b2n_31 _); decide) | refine x_if_eq (pc := 15) (tgt := 34) dX9_commonDivisor_15 (by decide) (fun h15 => ?_) (fun h15 => ?_)
          · skip
            omega
          · skip
            refine x_iload_n (pc := 18) dX9_commonDivisor_18 rfl ?_
            refine x_iload_n (pc := 19) dX9_commonDivisor_19 rfl ?_
            first | (guard_target =~ Wp _ _ _ _ _ (Value.int (nI _) :: Value.int (nI _) :: _) _ _ _ _; with_reducible refine x_iremN (pc := 20) ?_ ?_ ?_ dX9_commonDivisor_20 ?_; omega; omega; omega) | refine x_irem (pc := 20) dX9_commonDivisor_20 (by assumption) ?_
            refine x_istore (pc := 21) dX9_commonDivisor_21 (by decide) xs_5 (x_hp rfl) ?_
            refine x_iload_n (pc := 23) dX9_commonDivisor_23 rfl ?_
            refine x_istore_n (pc := 24) dX9_commonDivisor_24 (by decide) xs_2 (x_hp rfl) ?_
            refine x_iload (pc := 25) dX9_commonDivisor_25 rfl ?_
            refine x_istore_n (pc := 27) dX9_commonDivisor_27 (by decide) xs_3 (x_hp rfl) ?_
            first | (guard_target =~ Wp _ _ _ _ (_ :: _ :: _ :: _ :: some (Value.int (nI _)) :: _) _ _ _ _ _; with_reducible refine x_iincN (pc := 28) 1 ic_1 dX9_commonDivisor_28 ?_ xg_4 xs_4 ?_ ?_; decide; exact (x_hp rfl)) | refine x_iincC (pc := 28) ic_1 dX9_commonDivisor_28 (by decide) rfl xs_4 (x_hp rfl) ?_
            refine x_goto (pc := 31) (tgt := 7) dX9_commonDivisor_31 (by decide) ?_
            exact ih q (p % q) (k + 1) _ (by omega) (by omega) (by omega) (by rw [← he, Nat.gcd_comm p q, Nat.gcd_rec q p, Nat.gcd_comm])
  refine x_iload_n (pc := 0) dX9_commonDivisor_0 rfl ?_
  refine x_istore_n (pc := 1) dX9_commonDivisor_1 (by decide) xs_2 (x_hp rfl) ?_
  refine x_iload_n (pc := 2) dX9_commonDivisor_2 rfl ?_
  refine x_istore_n (pc := 3) dX9_commonDivisor_3 (by decide) xs_3 (x_hp rfl) ?_
  refine x_iconstN (pc := 4) 0 dX9_commonDivisor_4 ic_0 ?_
  refine x_istore (pc := 5) dX9_commonDivisor_5 (by decide) xs_4 (x_hp rfl) ?_
  exact loop 16 a b 0 _ hb ha (by omega) rfl
theorem sp_X9_partOfFraction {a b : Nat} {part : Int32} (ha : a < 2 ^ 31) (h0 : 0 < b) (hb : b ≤ 16) (h : K (some (.long (fracN a b part))) S M) : Ex g (d + 1) yX9_partOfFraction mX9_partOfFraction [.int (nI a), .int (nI b), .int part] S M K := by
  have hg := Nat.gcd_pos_of_pos_right a h0
  have hgb : Nat.gcd a b ≤ b := Nat.gcd_le_right a h0
  unfold fracN at h
  refine x_entry kX9_partOfFraction (Nat.le_of_ble_eq_true rfl) ?_
  show Wp g _ mX9_partOfFraction 0 [some (.int (nI a)), some (.int (nI b)), some (.int part), none] [] _ _ _ _
  by_cases p0 : part = 0
  · subst p0
    rw [if_pos rfl] at h
    refine x_iload_n (pc := 0) dX9_partOfFraction_0 rfl ?_
    refine x_if_eq (pc := 1) (tgt := 13) dX9_partOfFraction_1 (by decide) (fun h1 => ?_) (fun h1 => ?_)
    · skip
      refine x_iload_n (pc := 13) dX9_partOfFraction_13 rfl ?_
      refine x_iload_n (pc := 14) dX9_partOfFraction_14 rfl ?_
      refine x_invS2 (pc := 15) dX9_partOfFraction_15 mlX9_342 stX9_commonDivisor kX9_commonDivisor (Nat.le_of_ble_eq_true rfl) (by decide) ?_
      refine sp_X9_commonDivisor ha hb ?_
      refine x_cv rfl rfl ?_
      refine x_istore_n (pc := 18) dX9_partOfFraction_18 (by decide) xs_3 (x_hp rfl) ?_
      refine x_iload_n (pc := 19) dX9_partOfFraction_19 rfl ?_
      first | (guard_target =~ Wp _ _ _ _ _ (Value.int (nI _) :: _) _ _ _ _; with_reducible refine x_if_neN (pc := 20) (tgt := 27) ?_ dX9_partOfFraction_20 ?_ (fun h20 => ?_) (fun h20 => ?_); (first | omega | exact b2n_32 _ | exact b2n_31 _); decide) | refine x_if_ne (pc := 20) (tgt := 27) dX9_partOfFraction_20 (by decide) (fun h20 => ?_) (fun h20 => ?_)
      · skip
        refine x_iload_n (pc := 27) dX9_partOfFraction_27 rfl ?_
        refine x_if_ne (pc := 28) (tgt := 38) dX9_partOfFraction_28 (by decide) (fun h28 => ?_) (fun h28 => ?_)
        · skip
          exact absurd rfl h28
        · skip
          refine x_iload_n (pc := 31) dX9_partOfFraction_31 rfl ?_
          refine x_iload_n (pc := 32) dX9_partOfFraction_32 rfl ?_
          first | (guard_target =~ Wp _ _ _ _ _ (Value.int (nI _) :: Value.int (nI _) :: _) _ _ _ _; with_reducible refine x_idivN (pc := 33) ?_ ?_ ?_ dX9_partOfFraction_33 ?_; omega; omega; omega) | refine x_idiv (pc := 33) dX9_partOfFraction_33 (by assumption) ?_
          refine x_i2l (pc := 34) dX9_partOfFraction_34 ?_
          refine x_goto (pc := 35) (tgt := 42) dX9_partOfFraction_35 (by decide) ?_
          refine x_ret (pc := 42) (v := some _) rfl trivial dX9_partOfFraction_42 (by decide) ?_
          exact h
      · skip
        omega
    · skip
      exact absurd rfl h1
  rw [if_neg p0] at h
  by_cases p1 : part = 1
  · subst p1
    rw [if_pos rfl] at h
    refine x_iload_n (pc := 0) dX9_partOfFraction_0 rfl ?_
    refine x_if_eq (pc := 1) (tgt := 13) dX9_partOfFraction_1 (by decide) (fun h1 => ?_) (fun h1 => ?_)
    · skip
      exact absurd h1 p0
    · skip
      refine x_iload_n (pc := 4) dX9_partOfFraction_4 rfl ?_
      refine x_iconstN (pc := 5) 1 dX9_partOfFraction_5 ic_1 ?_
      refine x_icmp_eq (pc := 6) (tgt := 13) dX9_partOfFraction_6 (by decide) (fun h6 => ?_) (fun h6 => ?_)
      · skip
        refine x_iload_n (pc := 13) dX9_partOfFraction_13 rfl ?_
        refine x_iload_n (pc := 14) dX9_partOfFraction_14 rfl ?_
        refine x_invS2 (pc := 15) dX9_partOfFraction_15 mlX9_342 stX9_commonDivisor kX9_commonDivisor (Nat.le_of_ble_eq_true rfl) (by decide) ?_
        refine sp_X9_commonDivisor ha hb ?_
        refine x_cv rfl rfl ?_
        refine x_istore_n (pc := 18) dX9_partOfFraction_18 (by decide) xs_3 (x_hp rfl) ?_
        refine x_iload_n (pc := 19) dX9_partOfFraction_19 rfl ?_
        first | (guard_target =~ Wp _ _ _ _ _ (Value.int (nI _) :: _) _ _ _ _; with_reducible refine x_if_neN (pc := 20) (tgt := 27) ?_ dX9_partOfFraction_20 ?_ (fun h20 => ?_) (fun h20 => ?_); (first | omega | exact b2n_32 _ | exact b2n_31 _); decide) | refine x_if_ne (pc := 20) (tgt := 27) dX9_partOfFraction_20 (by decide) (fun h20 => ?_) (fun h20 => ?_)
        · skip
          refine x_iload_n (pc := 27) dX9_partOfFraction_27 rfl ?_
          refine x_if_ne (pc := 28) (tgt := 38) dX9_partOfFraction_28 (by decide) (fun h28 => ?_) (fun h28 => ?_)
          · skip
            refine x_iload_n (pc := 38) dX9_partOfFraction_38 rfl ?_
            refine x_iload_n (pc := 39) dX9_partOfFraction_39 rfl ?_
            first | (guard_target =~ Wp _ _ _ _ _ (Value.int (nI _) :: Value.int (nI _) :: _) _ _ _ _; with_reducible refine x_idivN (pc := 40) ?_ ?_ ?_ dX9_partOfFraction_40 ?_; omega; omega; omega) | refine x_idiv (pc := 40) dX9_partOfFraction_40 (by assumption) ?_
            refine x_i2l (pc := 41) dX9_partOfFraction_41 ?_
            refine x_ret (pc := 42) (v := some _) rfl trivial dX9_partOfFraction_42 (by decide) ?_
            exact h
          · skip
            exact absurd h28 p0
        · skip
          omega
      · skip
        exact absurd rfl h6
  rw [if_neg p1] at h
  refine x_iload_n (pc := 0) dX9_partOfFraction_0 rfl ?_
  refine x_if_eq (pc := 1) (tgt := 13) dX9_partOfFraction_1 (by decide) (fun h1 => ?_) (fun h1 => ?_)
  · skip
    exact absurd h1 p0
  · skip
    refine x_iload_n (pc := 4) dX9_partOfFraction_4 rfl ?_
    refine x_iconstN (pc := 5) 1 dX9_partOfFraction_5 ic_1 ?_
    refine x_icmp_eq (pc := 6) (tgt := 13) dX9_partOfFraction_6 (by decide) (fun h6 => ?_) (fun h6 => ?_)
    · skip
      exact absurd h6 p1
    · skip
      refine x_ldc2 (pc := 9) dX9_partOfFraction_9 ckX9_236 ?_
      refine x_ret (pc := 12) (v := some _) rfl trivial dX9_partOfFraction_12 (by decide) ?_
      exact h
theorem fX9_mean {n part : Int32} (hC : XC9 M s) (h : ∀ M', low M M' → XC9 M' s → K (some (.long (vMean s n part))) xSF M') : Ex g (d + 5) yX9_mean mX9_mean [.ref 0, .int n, .int part] xSF M K := by
  unfold vMean at h
  have hR := hC.1.1
  have hS := hC.2.1.2.2.1
  refine x_entry kX9_mean (Nat.le_of_ble_eq_true rfl) ?_
  show Wp g _ mX9_mean 0 [some (.ref 0), some (.int n), some (.int part)] [] _ _ _ _
  rcases isR_cases (x := n) (n := 61) (by omega) with e | ⟨n, hn, rfl, e⟩
  · simp only [e, Bool.false_eq_true, if_false] at h
    refine x_iload_n (pc := 0) dX9_mean_0 rfl ?_
    refine x_iconstN (pc := 1) 0 dX9_mean_1 ic_0 ?_
    refine x_bipushN (pc := 2) 60 dX9_mean_2 bp_60 ?_
    refine x_invS3 (pc := 4) dX9_mean_4 mlX9_72 stX9_isBetween kX9_isBetween (Nat.le_of_ble_eq_true rfl) (by decide) ?_
    refine sp_X9_isBetween ?_
    refine x_cv rfl rfl ?_
    rw [btw_isR (by decide), show isR n (nI (60 + 1)) = false from e]
    first | (guard_target =~ Wp _ _ _ _ _ (Value.int (nI _) :: _) _ _ _ _; with_reducible refine x_if_neN (pc := 7) (tgt := 14) ?_ dX9_mean_7 ?_ (fun h7 => ?_) (fun h7 => ?_); (first | omega | exact b2n_32 _ | exact b2n_31 _); decide) | refine x_if_ne (pc := 7) (tgt := 14) dX9_mean_7 (by decide) (fun h7 => ?_) (fun h7 => ?_)
    · skip
      exact absurd rfl h7
    · skip
      refine x_ldc2 (pc := 10) dX9_mean_10 ckX9_236 ?_
      refine x_ret (pc := 13) (v := some _) rfl trivial dX9_mean_13 (by decide) ?_
      exact h M csame.rf.low hC
  simp only [e, if_true] at h
  rw [toN_nI (by omega)] at h
  have hsb : sumA (onA s n) < 2 ^ 31 := by
    have := sumA_leB (fun j hj => spA_bd (n := n) (w := nI s.1.2.1) hR (b := 9999) (fun j hj => by have := hS.1 j hj; omega) j hj)
    have e1 : onA s n = spA s.1.1 (nI s.1.2.1) n := rfl
    rw [e1]
    omega
  refine x_iload_n (pc := 0) dX9_mean_0 rfl ?_
  refine x_iconstN (pc := 1) 0 dX9_mean_1 ic_0 ?_
  refine x_bipushN (pc := 2) 60 dX9_mean_2 bp_60 ?_
  refine x_invS3 (pc := 4) dX9_mean_4 mlX9_72 stX9_isBetween kX9_isBetween (Nat.le_of_ble_eq_true rfl) (by decide) ?_
  refine sp_X9_isBetween ?_
  refine x_cv rfl rfl ?_
  rw [btw_isR (by decide), show isR (nI n) (nI (60 + 1)) = true from e]
  first | (guard_target =~ Wp _ _ _ _ _ (Value.int (nI _) :: _) _ _ _ _; with_reducible refine x_if_neN (pc := 7) (tgt := 14) ?_ dX9_mean_7 ?_ (fun h7 => ?_) (fun h7 => ?_); (first | omega | exact b2n_32 _ | exact b2n_31 _); decide) | refine x_if_ne (pc := 7) (tgt := 14) dX9_mean_7 (by decide) (fun h7 => ?_) (fun h7 => ?_)
  · skip
    refine x_aload_n (pc := 14) dX9_mean_14 rfl ?_
    refine x_getR (pc := 15) dX9_mean_15 flX9_43 (by first | assumption | rfl) rfl ?_
    refine x_iload_n (pc := 18) dX9_mean_18 rfl ?_
    refine x_invV1 (pc := 19) dX9_mean_19 mlX9_195 imX1_behind seX1_behind kX1_behind (by first | assumption | rfl) rfl (Nat.le_of_ble_eq_true rfl) (by decide) ?_
    refine sp_X1_behind (by omega) hS hR (fun M2 hs hR2 => ?_)
    refine x_cv rfl rfl ?_
    refine x_invV0 (pc := 22) dX9_mean_22 mlX9_180 imX2_wearOfAll seX2_wearOfAll kX2_wearOfAll (by first | assumption | rfl) rfl (Nat.le_of_ble_eq_true rfl) (by decide) ?_
    refine sp_X2_wearOfAll car46 hR2 ?_
    refine x_cv rfl rfl ?_
    refine x_bipushN (pc := 25) 16 dX9_mean_25 bp_16 ?_
    refine x_iload_n (pc := 27) dX9_mean_27 rfl ?_
    refine x_invS3 (pc := 28) dX9_mean_28 mlX9_241 stX9_partOfFraction kX9_partOfFraction (Nat.le_of_ble_eq_true rfl) (by decide) ?_
    refine sp_X9_partOfFraction hsb (by decide) (by decide) ?_
    refine x_cv rfl rfl ?_
    refine x_ret (pc := 31) (v := some _) rfl trivial dX9_mean_31 (by decide) ?_
    exact h M2 (csame.t hs).low (hC.st (csame.t hs) (hR.out hs (by decide)))
  · skip
    cases h7
theorem fX9_odds {c n part : Int32} (hC : XC9 M s) (h : ∀ M', low M M' → XC9 M' s → K (some (.long (vOdds s c n part))) xSF M') : Ex g (d + 5) yX9_odds mX9_odds [.ref 0, .int c, .int n, .int part] xSF M K := by
  unfold vOdds at h
  have hR := hC.1.1
  have hS := hC.2.1.2.2.1
  have h6 := hR.goersB
  refine x_entry kX9_odds (Nat.le_of_ble_eq_true rfl) ?_
  show Wp g _ mX9_odds 0 [some (.ref 0), some (.int c), some (.int n), some (.int part)] [] _ _ _ _
  rcases isR_cases (x := c) (n := 16) (by omega) with e | ⟨c, hc, rfl, e⟩
  · simp only [e, Bool.false_eq_true, if_false, false_and] at h
    refine x_iload_n (pc := 0) dX9_odds_0 rfl ?_
    refine x_invS1 (pc := 1) dX9_odds_1 mlX9_67 stX3_isCell kX3_isCell (Nat.le_of_ble_eq_true rfl) (by decide) ?_
    refine sp_X3_isCell ?_
    refine x_cv rfl rfl ?_
    rw [show isR c 16 = false from e]
    first | (guard_target =~ Wp _ _ _ _ _ (Value.int (nI _) :: _) _ _ _ _; with_reducible refine x_if_eqN (pc := 4) (tgt := 27) ?_ dX9_odds_4 ?_ (fun h4 => ?_) (fun h4 => ?_); (first | omega | exact b2n_32 _ | exact b2n_31 _); decide) | refine x_if_eq (pc := 4) (tgt := 27) dX9_odds_4 (by decide) (fun h4 => ?_) (fun h4 => ?_)
    · skip
      refine x_ldc2 (pc := 27) dX9_odds_27 ckX9_236 ?_
      refine x_ret (pc := 30) (v := some _) rfl trivial dX9_odds_30 (by decide) ?_
      exact h M csame.rf.low hC
    · skip
      exact absurd rfl h4
  rcases isR_cases (x := n) (n := 61) (by omega) with e2 | ⟨n, hn, rfl, e2⟩
  · simp only [e2, Bool.false_eq_true, if_false, false_and, and_false] at h
    refine x_iload_n (pc := 0) dX9_odds_0 rfl ?_
    refine x_invS1 (pc := 1) dX9_odds_1 mlX9_67 stX3_isCell kX3_isCell (Nat.le_of_ble_eq_true rfl) (by decide) ?_
    refine sp_X3_isCell ?_
    refine x_cv rfl rfl ?_
    rw [show isR (nI c) 16 = true from e]
    first | (guard_target =~ Wp _ _ _ _ _ (Value.int (nI _) :: _) _ _ _ _; with_reducible refine x_if_eqN (pc := 4) (tgt := 27) ?_ dX9_odds_4 ?_ (fun h4 => ?_) (fun h4 => ?_); (first | omega | exact b2n_32 _ | exact b2n_31 _); decide) | refine x_if_eq (pc := 4) (tgt := 27) dX9_odds_4 (by decide) (fun h4 => ?_) (fun h4 => ?_)
    · skip
      cases h4
    · skip
      refine x_iload_n (pc := 7) dX9_odds_7 rfl ?_
      refine x_iconstN (pc := 8) 0 dX9_odds_8 ic_0 ?_
      refine x_bipushN (pc := 9) 60 dX9_odds_9 bp_60 ?_
      refine x_invS3 (pc := 11) dX9_odds_11 mlX9_72 stX9_isBetween kX9_isBetween (Nat.le_of_ble_eq_true rfl) (by decide) ?_
      refine sp_X9_isBetween ?_
      refine x_cv rfl rfl ?_
      rw [btw_isR (by decide), show isR n (nI (60 + 1)) = false from e2]
      first | (guard_target =~ Wp _ _ _ _ _ (Value.int (nI _) :: _) _ _ _ _; with_reducible refine x_if_eqN (pc := 14) (tgt := 27) ?_ dX9_odds_14 ?_ (fun h14 => ?_) (fun h14 => ?_); (first | omega | exact b2n_32 _ | exact b2n_31 _); decide) | refine x_if_eq (pc := 14) (tgt := 27) dX9_odds_14 (by decide) (fun h14 => ?_) (fun h14 => ?_)
      · skip
        refine x_ldc2 (pc := 27) dX9_odds_27 ckX9_236 ?_
        refine x_ret (pc := 30) (v := some _) rfl trivial dX9_odds_30 (by decide) ?_
        exact h M csame.rf.low hC
      · skip
        exact absurd rfl h14
  simp only [e, e2, true_and] at h
  rw [toN_nI (by omega), toN_nI (by omega)] at h
  by_cases hg : 0 < s.1.1 8 0
  · rw [if_pos hg] at h
    have hxb : xsum (fun k => b2n (outW s.1.1 (nI s.1.2.1) c n k)) (s.1.1 8 0) < 2 ^ 31 := by
      have := xsum_bd (f := fun k => b2n (outW s.1.1 (nI s.1.2.1) c n k)) (b := 1) (n := s.1.1 8 0) (fun i _ => by have := b2n_lt (outW s.1.1 (nI s.1.2.1) c n i); omega)
      omega
    refine x_iload_n (pc := 0) dX9_odds_0 rfl ?_
    refine x_invS1 (pc := 1) dX9_odds_1 mlX9_67 stX3_isCell kX3_isCell (Nat.le_of_ble_eq_true rfl) (by decide) ?_
    refine sp_X3_isCell ?_
    refine x_cv rfl rfl ?_
    rw [show isR (nI c) 16 = true from e]
    first | (guard_target =~ Wp _ _ _ _ _ (Value.int (nI _) :: _) _ _ _ _; with_reducible refine x_if_eqN (pc := 4) (tgt := 27) ?_ dX9_odds_4 ?_ (fun h4 => ?_) (fun h4 => ?_); (first | omega | exact b2n_32 _ | exact b2n_31 _); decide) | refine x_if_eq (pc := 4) (tgt := 27) dX9_odds_4 (by decide) (fun h4 => ?_) (fun h4 => ?_)
    · skip
      cases h4
    · skip
      refine x_iload_n (pc := 7) dX9_odds_7 rfl ?_
      refine x_iconstN (pc := 8) 0 dX9_odds_8 ic_0 ?_
      refine x_bipushN (pc := 9) 60 dX9_odds_9 bp_60 ?_
      refine x_invS3 (pc := 11) dX9_odds_11 mlX9_72 stX9_isBetween kX9_isBetween (Nat.le_of_ble_eq_true rfl) (by decide) ?_
      refine sp_X9_isBetween ?_
      refine x_cv rfl rfl ?_
      rw [btw_isR (by decide), show isR (nI n) (nI (60 + 1)) = true from e2]
      first | (guard_target =~ Wp _ _ _ _ _ (Value.int (nI _) :: _) _ _ _ _; with_reducible refine x_if_eqN (pc := 14) (tgt := 27) ?_ dX9_odds_14 ?_ (fun h14 => ?_) (fun h14 => ?_); (first | omega | exact b2n_32 _ | exact b2n_31 _); decide) | refine x_if_eq (pc := 14) (tgt := 27) dX9_odds_14 (by decide) (fun h14 => ?_) (fun h14 => ?_)
      · skip
        cases h14
      · skip
        refine x_aload_n (pc := 17) dX9_odds_17 rfl ?_
        refine x_getR (pc := 18) dX9_odds_18 flX9_12 (by first | assumption | rfl) rfl ?_
        refine x_getI (pc := 21) dX9_odds_21 flX9_76 (by first | assumption | rfl) rfl ?_
        rw [hR.goers]
        first | (guard_target =~ Wp _ _ _ _ _ (Value.int (nI _) :: _) _ _ _ _; with_reducible refine x_if_neN (pc := 24) (tgt := 31) ?_ dX9_odds_24 ?_ (fun h24 => ?_) (fun h24 => ?_); (first | omega | exact b2n_32 _ | exact b2n_31 _); decide) | refine x_if_ne (pc := 24) (tgt := 31) dX9_odds_24 (by decide) (fun h24 => ?_) (fun h24 => ?_)
        · skip
          refine x_aload_n (pc := 31) dX9_odds_31 rfl ?_
          refine x_getR (pc := 32) dX9_odds_32 flX9_43 (by first | assumption | rfl) rfl ?_
          refine x_iload_n (pc := 35) dX9_odds_35 rfl ?_
          refine x_iload_n (pc := 36) dX9_odds_36 rfl ?_
          refine x_invV2 (pc := 37) dX9_odds_37 mlX9_238 imX1_goersWithoutWhomBald seX1_goersWithoutWhomBald kX1_goersWithoutWhomBald (by first | assumption | rfl) rfl (Nat.le_of_ble_eq_true rfl) (by decide) ?_
          refine sp_X1_goersWithoutWhomBald hc (by omega) hS hR (fun M2 hs => ?_)
          refine x_cv rfl rfl ?_
          refine x_aload_n (pc := 40) dX9_odds_40 rfl ?_
          refine x_getR (pc := 41) dX9_odds_41 flX9_12 (by first | assumption | rfl) rfl ?_
          refine x_getI (pc := 44) dX9_odds_44 flX9_76 (by first | assumption | rfl) rfl ?_
          rw [(hR.out hs (by decide)).goers]
          refine x_iload_n (pc := 47) dX9_odds_47 rfl ?_
          refine x_invS3 (pc := 48) dX9_odds_48 mlX9_241 stX9_partOfFraction kX9_partOfFraction (Nat.le_of_ble_eq_true rfl) (by decide) ?_
          refine sp_X9_partOfFraction hxb hg (by omega) ?_
          refine x_cv rfl rfl ?_
          refine x_ret (pc := 51) (v := some _) rfl trivial dX9_odds_51 (by decide) ?_
          exact h M2 (csame.t hs).low (hC.st (csame.t hs) (hR.out hs (by decide)))
        · skip
          omega
  · rw [if_neg hg] at h
    refine x_iload_n (pc := 0) dX9_odds_0 rfl ?_
    refine x_invS1 (pc := 1) dX9_odds_1 mlX9_67 stX3_isCell kX3_isCell (Nat.le_of_ble_eq_true rfl) (by decide) ?_
    refine sp_X3_isCell ?_
    refine x_cv rfl rfl ?_
    rw [show isR (nI c) 16 = true from e]
    first | (guard_target =~ Wp _ _ _ _ _ (Value.int (nI _) :: _) _ _ _ _; with_reducible refine x_if_eqN (pc := 4) (tgt := 27) ?_ dX9_odds_4 ?_ (fun h4 => ?_) (fun h4 => ?_); (first | omega | exact b2n_32 _ | exact b2n_31 _); decide) | refine x_if_eq (pc := 4) (tgt := 27) dX9_odds_4 (by decide) (fun h4 => ?_) (fun h4 => ?_)
    · skip
      cases h4
    · skip
      refine x_iload_n (pc := 7) dX9_odds_7 rfl ?_
      refine x_iconstN (pc := 8) 0 dX9_odds_8 ic_0 ?_
      refine x_bipushN (pc := 9) 60 dX9_odds_9 bp_60 ?_
      refine x_invS3 (pc := 11) dX9_odds_11 mlX9_72 stX9_isBetween kX9_isBetween (Nat.le_of_ble_eq_true rfl) (by decide) ?_
      refine sp_X9_isBetween ?_
      refine x_cv rfl rfl ?_
      rw [btw_isR (by decide), show isR (nI n) (nI (60 + 1)) = true from e2]
      first | (guard_target =~ Wp _ _ _ _ _ (Value.int (nI _) :: _) _ _ _ _; with_reducible refine x_if_eqN (pc := 14) (tgt := 27) ?_ dX9_odds_14 ?_ (fun h14 => ?_) (fun h14 => ?_); (first | omega | exact b2n_32 _ | exact b2n_31 _); decide) | refine x_if_eq (pc := 14) (tgt := 27) dX9_odds_14 (by decide) (fun h14 => ?_) (fun h14 => ?_)
      · skip
        cases h14
      · skip
        refine x_aload_n (pc := 17) dX9_odds_17 rfl ?_
        refine x_getR (pc := 18) dX9_odds_18 flX9_12 (by first | assumption | rfl) rfl ?_
        refine x_getI (pc := 21) dX9_odds_21 flX9_76 (by first | assumption | rfl) rfl ?_
        rw [hR.goers]
        first | (guard_target =~ Wp _ _ _ _ _ (Value.int (nI _) :: _) _ _ _ _; with_reducible refine x_if_neN (pc := 24) (tgt := 31) ?_ dX9_odds_24 ?_ (fun h24 => ?_) (fun h24 => ?_); (first | omega | exact b2n_32 _ | exact b2n_31 _); decide) | refine x_if_ne (pc := 24) (tgt := 31) dX9_odds_24 (by decide) (fun h24 => ?_) (fun h24 => ?_)
        · skip
          omega
        · skip
          refine x_ldc2 (pc := 27) dX9_odds_27 ckX9_236 ?_
          refine x_ret (pc := 30) (v := some _) rfl trivial dX9_odds_30 (by decide) ?_
          exact h M csame.rf.low hC
end P53
