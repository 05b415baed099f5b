/-! the MODEL's calls: mean, odds -/
section P83
variable {g : XG} {d : Nat} {M M0 : XM} {K : Option Value → XS → XM → Prop} {s : XSt} {A : XA} {L : List XCl} {W b0 : Nat}
theorem sm_divisor {a b : Nat} (ha : a < 2 ^ 31) (hb : b ≤ 16) (h : K (some (.int (nI (Nat.gcd a b)))) xSF M) : Ex g d yX10_divisor mX10_divisor [.ref 65, .int (nI a), .int (nI b)] xSF M K := by
  refine x_entry kX10_divisor (Nat.le_of_ble_eq_true rfl) ?_
  show Wp g _ mX10_divisor 0 [some (.ref 65), some (.int (nI a)), some (.int (nI b)), none, none, none] [] _ _ _ _
  have loop : ∀ m p q o5, q ≤ m → p < 2 ^ 31 → q ≤ 16 → Nat.gcd p q = Nat.gcd a b → Wp g d mX10_divisor 5 [some (.ref 65), some (.int (nI a)), some (.int (nI b)), some (.int (nI p)), some (.int (nI q)), o5] [] xSF (0, 0) M K := by
    intro m
    induction m with
    | zero =>
      intro p q o5 hq hp hq2 he
      obtain rfl : q = 0 := Nat.le_zero.mp hq
      rw [Nat.gcd_zero_right] at he
      refine x_iload (pc := 5) dX10_divisor_5 rfl ?_
      first | (guard_target =~ Wp _ _ _ _ _ (Value.int (nI _) :: _) _ _ _ _; with_reducible refine x_if_eqN (pc := 7) (tgt := 26) ?_ dX10_divisor_7 ?_ (fun h7 => ?_) (fun h7 => ?_); (first | omega | exact b2n_32 _ | exact b2n_31 _); decide) | refine x_if_eq (pc := 7) (tgt := 26) dX10_divisor_7 (by decide) (fun h7 => ?_) (fun h7 => ?_)
      · skip
        refine x_iload_n (pc := 26) dX10_divisor_26 rfl ?_
        refine x_ret (pc := 27) (v := some _) rfl trivial dX10_divisor_27 (by decide) ?_
        rw [← he] at h; exact h
      · skip
        omega
    | succ m ih =>
      intro p q o5 hq hp hq2 he
      by_cases h0 : q = 0
      · subst h0
        rw [Nat.gcd_zero_right] at he
        refine x_iload (pc := 5) dX10_divisor_5 rfl ?_
        first | (guard_target =~ Wp _ _ _ _ _ (Value.int (nI _) :: _) _ _ _ _; with_reducible refine x_if_eqN (pc := 7) (tgt := 26) ?_ dX10_divisor_7 ?_ (fun h7 => ?_) (fun h7 => ?_); (first | omega | exact b2n_32 _ | exact b2n_31 _); decide) | refine x_if_eq (pc := 7) (tgt := 26) dX10_divisor_7 (by decide) (fun h7 => ?_) (fun h7 => ?_)
        · skip
          refine x_iload_n (pc := 26) dX10_divisor_26 rfl ?_
          refine x_ret (pc := 27) (v := some _) rfl trivial dX10_divisor_27 (by decide) ?_
          rw [← he] at h; exact h
        · skip
          omega
      · have hlt := Nat.mod_lt p (show q > 0 by omega)
        refine x_iload (pc := 5) dX10_divisor_5 rfl ?_
        first | (guard_target =~ Wp _ _ _ _ _ (Value.int (nI _) :: _) _ _ _ _; with_reducible refine x_if_eqN (pc := 7) (tgt := 26) ?_ dX10_divisor_7 ?_ (fun h7 => ?_) (fun h7 => ?_); (first | omega | exact b2n_32 _ | exact b2n_31 _); decide) | refine x_if_eq (pc := 7) (tgt := 26) dX10_divisor_7 (by decide) (fun h7 => ?_) (fun h7 => ?_)
        · skip
          omega
        · skip
          refine x_iload_n (pc := 10) dX10_divisor_10 rfl ?_
          refine x_iload (pc := 11) dX10_divisor_11 rfl ?_
          first | (guard_target =~ Wp _ _ _ _ _ (Value.int (nI _) :: Value.int (nI _) :: _) _ _ _ _; with_reducible refine x_iremN (pc := 13) ?_ ?_ ?_ dX10_divisor_13 ?_; omega; omega; omega) | refine x_irem (pc := 13) dX10_divisor_13 (by assumption) ?_
          refine x_istore (pc := 14) dX10_divisor_14 (by decide) xs_5 (x_hp rfl) ?_
          refine x_iload (pc := 16) dX10_divisor_16 rfl ?_
          refine x_istore_n (pc := 18) dX10_divisor_18 (by decide) xs_3 (x_hp rfl) ?_
          refine x_iload (pc := 19) dX10_divisor_19 rfl ?_
          refine x_istore (pc := 21) dX10_divisor_21 (by decide) xs_4 (x_hp rfl) ?_
          refine x_goto (pc := 23) (tgt := 5) dX10_divisor_23 (by decide) ?_
          exact ih q (p % q) _ (by omega) (by omega) (by omega) (by rw [← he, Nat.gcd_comm p q, Nat.gcd_rec q p, Nat.gcd_comm])
  refine x_iload_n (pc := 0) dX10_divisor_0 rfl ?_
  refine x_istore_n (pc := 1) dX10_divisor_1 (by decide) xs_3 (x_hp rfl) ?_
  refine x_iload_n (pc := 2) dX10_divisor_2 rfl ?_
  refine x_istore (pc := 3) dX10_divisor_3 (by decide) xs_4 (x_hp rfl) ?_
  exact loop 16 a b _ hb ha hb rfl
theorem sm_lowest {a b p : Nat} (ha : a < 2 ^ 31) (h0 : 0 < b) (hb : b ≤ 16) (hp : p < 2) (h : K (some (.long (fracN a b (nI p)))) xSF M) : Ex g (d + 1) yX10_lowest mX10_lowest [.ref 65, .int (nI a), .int (nI b), .int (nI p)] xSF M K := by
  have hg := Nat.gcd_pos_of_pos_right a h0
  have hgb : Nat.gcd a b ≤ b := Nat.gcd_le_right a h0
  unfold fracN at h
  refine x_entry kX10_lowest (Nat.le_of_ble_eq_true rfl) ?_
  show Wp g _ mX10_lowest 0 [some (.ref 65), some (.int (nI a)), some (.int (nI b)), some (.int (nI p)), none] [] _ _ _ _
  by_cases p0 : p = 0
  · subst p0
    rw [if_pos (show nI 0 = 0 from rfl)] at h
    refine x_aload_n (pc := 0) dX10_lowest_0 rfl ?_
    refine x_iload_n (pc := 1) dX10_lowest_1 rfl ?_
    refine x_iload_n (pc := 2) dX10_lowest_2 rfl ?_
    refine x_invV2 (pc := 3) dX10_lowest_3 mlX10_421 imX10_divisor seX10_divisor kX10_divisor (by first | assumption | rfl) rfl (Nat.le_of_ble_eq_true rfl) (by decide) ?_
    refine sm_divisor ha hb ?_
    refine x_cv rfl rfl ?_
    refine x_istore (pc := 6) dX10_lowest_6 (by decide) xs_4 (x_hp rfl) ?_
    refine x_iload_n (pc := 8) dX10_lowest_8 rfl ?_
    first | (guard_target =~ Wp _ _ _ _ _ (Value.int (nI _) :: _) _ _ _ _; with_reducible refine x_if_neN (pc := 9) (tgt := 20) ?_ dX10_lowest_9 ?_ (fun h9 => ?_) (fun h9 => ?_); (first | omega | exact b2n_32 _ | exact b2n_31 _); decide) | refine x_if_ne (pc := 9) (tgt := 20) dX10_lowest_9 (by decide) (fun h9 => ?_) (fun h9 => ?_)
    · skip
      omega
    · skip
      refine x_iload_n (pc := 12) dX10_lowest_12 rfl ?_
      refine x_iload (pc := 13) dX10_lowest_13 rfl ?_
      first | (guard_target =~ Wp _ _ _ _ _ (Value.int (nI _) :: Value.int (nI _) :: _) _ _ _ _; with_reducible refine x_idivN (pc := 15) ?_ ?_ ?_ dX10_lowest_15 ?_; omega; omega; omega) | refine x_idiv (pc := 15) dX10_lowest_15 (by assumption) ?_
      refine x_i2l (pc := 16) dX10_lowest_16 ?_
      refine x_goto (pc := 17) (tgt := 25) dX10_lowest_17 (by decide) ?_
      refine x_ret (pc := 25) (v := some _) rfl trivial dX10_lowest_25 (by decide) ?_
      exact h
  · obtain rfl : p = 1 := by omega
    rw [if_neg (by decide), if_pos (show nI 1 = 1 from rfl)] at h
    refine x_aload_n (pc := 0) dX10_lowest_0 rfl ?_
    refine x_iload_n (pc := 1) dX10_lowest_1 rfl ?_
    refine x_iload_n (pc := 2) dX10_lowest_2 rfl ?_
    refine x_invV2 (pc := 3) dX10_lowest_3 mlX10_421 imX10_divisor seX10_divisor kX10_divisor (by first | assumption | rfl) rfl (Nat.le_of_ble_eq_true rfl) (by decide) ?_
    refine sm_divisor ha hb ?_
    refine x_cv rfl rfl ?_
    refine x_istore (pc := 6) dX10_lowest_6 (by decide) xs_4 (x_hp rfl) ?_
    refine x_iload_n (pc := 8) dX10_lowest_8 rfl ?_
    first | (guard_target =~ Wp _ _ _ _ _ (Value.int (nI _) :: _) _ _ _ _; with_reducible refine x_if_neN (pc := 9) (tgt := 20) ?_ dX10_lowest_9 ?_ (fun h9 => ?_) (fun h9 => ?_); (first | omega | exact b2n_32 _ | exact b2n_31 _); decide) | refine x_if_ne (pc := 9) (tgt := 20) dX10_lowest_9 (by decide) (fun h9 => ?_) (fun h9 => ?_)
    · skip
      refine x_iload_n (pc := 20) dX10_lowest_20 rfl ?_
      refine x_iload (pc := 21) dX10_lowest_21 rfl ?_
      first | (guard_target =~ Wp _ _ _ _ _ (Value.int (nI _) :: Value.int (nI _) :: _) _ _ _ _; with_reducible refine x_idivN (pc := 23) ?_ ?_ ?_ dX10_lowest_23 ?_; omega; omega; omega) | refine x_idiv (pc := 23) dX10_lowest_23 (by assumption) ?_
      refine x_i2l (pc := 24) dX10_lowest_24 ?_
      refine x_ret (pc := 25) (v := some _) rfl trivial dX10_lowest_25 (by decide) ?_
      exact h
    · skip
      omega
theorem fracN_no {a b : Nat} {part : Int32} (h : isR part (nI 2) = false) : fracN a b part = -9223372036854775808 := by
  unfold fracN
  rw [if_neg (fun q => by subst q; revert h; decide), if_neg (fun q => by subst q; revert h; decide)]
theorem fM_mean {n part : Int32} (hC : MC9 M s) (ok : okM s) (h : ∀ M', high M M' → MC9 M' s → K (some (.long (vMean s n part))) xSF M') : Ex g (d + 7) yX10_mean mX10_mean [.ref 65, .int n, .int part] xSF M K := by
  unfold vMean at h
  refine x_entry kX10_mean (Nat.le_of_ble_eq_true rfl) ?_
  show Wp g _ mX10_mean 0 [some (.ref 65), some (.int n), some (.int part)] [] _ _ _ _
  rcases isR_cases (x := n) (n := 61) (by decide) with e | ⟨k, hk, rfl, e⟩
  · simp only [e, Bool.false_eq_true, if_false] at h
    refine x_aload_n (pc := 0) dX10_mean_0 rfl ?_
    refine x_iload_n (pc := 1) dX10_mean_1 rfl ?_
    refine x_invV1 (pc := 2) dX10_mean_2 mlX10_358 imX10_isDays seX10_isDays kX10_isDays (by first | assumption | rfl) rfl (Nat.le_of_ble_eq_true rfl) (by decide) ?_
    refine sm_isDays ?_
    refine x_cv rfl rfl ?_
    rw [e]
    first | (guard_target =~ Wp _ _ _ _ _ (Value.int (nI _) :: _) _ _ _ _; with_reducible refine x_if_eqN (pc := 5) (tgt := 34) ?_ dX10_mean_5 ?_ (fun h5 => ?_) (fun h5 => ?_); (first | omega | exact b2n_32 _ | exact b2n_31 _); decide) | refine x_if_eq (pc := 5) (tgt := 34) dX10_mean_5 (by decide) (fun h5 => ?_) (fun h5 => ?_)
    · skip
      refine x_ldc2 (pc := 34) dX10_mean_34 ckX10_424 ?_
      refine x_ret (pc := 37) (v := some _) rfl trivial dX10_mean_37 (by decide) ?_
      exact h M high.rf hC
    · skip
      exact absurd rfl h5
  simp only [e, if_true] at h
  rw [toN_nI (by omega)] at h
  rcases isR_cases (x := part) (n := 2) (by decide) with e2 | ⟨p, hp, rfl, e2⟩
  · rw [fracN_no e2] at h
    refine x_aload_n (pc := 0) dX10_mean_0 rfl ?_
    refine x_iload_n (pc := 1) dX10_mean_1 rfl ?_
    refine x_invV1 (pc := 2) dX10_mean_2 mlX10_358 imX10_isDays seX10_isDays kX10_isDays (by first | assumption | rfl) rfl (Nat.le_of_ble_eq_true rfl) (by decide) ?_
    refine sm_isDays ?_
    refine x_cv rfl rfl ?_
    rw [e]
    first | (guard_target =~ Wp _ _ _ _ _ (Value.int (nI _) :: _) _ _ _ _; with_reducible refine x_if_eqN (pc := 5) (tgt := 34) ?_ dX10_mean_5 ?_ (fun h5 => ?_) (fun h5 => ?_); (first | omega | exact b2n_32 _ | exact b2n_31 _); decide) | refine x_if_eq (pc := 5) (tgt := 34) dX10_mean_5 (by decide) (fun h5 => ?_) (fun h5 => ?_)
    · skip
      cases h5
    · skip
      refine x_aload_n (pc := 8) dX10_mean_8 rfl ?_
      refine x_iload_n (pc := 9) dX10_mean_9 rfl ?_
      refine x_iconstN (pc := 10) 0 dX10_mean_10 ic_0 ?_
      refine x_iconstN (pc := 11) 1 dX10_mean_11 ic_1 ?_
      refine x_invV3 (pc := 12) dX10_mean_12 mlX10_253 imX10_in seX10_in kX10_in (by first | assumption | rfl) rfl (Nat.le_of_ble_eq_true rfl) (by decide) ?_
      refine sm_in ?_
      refine x_cv rfl rfl ?_
      rw [btw_isR (by decide), show isR part (nI (1 + 1)) = false from e2]
      first | (guard_target =~ Wp _ _ _ _ _ (Value.int (nI _) :: _) _ _ _ _; with_reducible refine x_if_eqN (pc := 15) (tgt := 34) ?_ dX10_mean_15 ?_ (fun h15 => ?_) (fun h15 => ?_); (first | omega | exact b2n_32 _ | exact b2n_31 _); decide) | refine x_if_eq (pc := 15) (tgt := 34) dX10_mean_15 (by decide) (fun h15 => ?_) (fun h15 => ?_)
      · skip
        refine x_ldc2 (pc := 34) dX10_mean_34 ckX10_424 ?_
        refine x_ret (pc := 37) (v := some _) rfl trivial dX10_mean_37 (by decide) ?_
        exact h M high.rf hC
      · skip
        exact absurd rfl h15
  have hon : vOn s (nI k) (nI 1) = nI (sumA (onA s k)) := by
    unfold vOn
    rw [if_pos ⟨by decide, by decide⟩, if_pos e, if_neg (by decide), if_neg (by decide), toN_nI (by omega)]
  have hsb : sumA (onA s k) < 2 ^ 31 := by
    have hw : whoW (qw s) (s.1.1 8 0) _ := who_here ok.away ok.bd.2.1
    obtain ⟨b0, hL⟩ := hC.ls ok
    have : sumA (onA s k) ≤ 16 * 20000000 := by
      refine xsum_bd (fun c hc => ?_)
      have h1 := ok.std.1 c hc
      have h2 := gain_bd (n := k) hc ok.cache hL.1 ok.bd _ hw
      show s.1.1 0 c + gainA s.1.1 (qw s) c k ≤ _
      omega
    omega
  refine x_aload_n (pc := 0) dX10_mean_0 rfl ?_
  refine x_iload_n (pc := 1) dX10_mean_1 rfl ?_
  refine x_invV1 (pc := 2) dX10_mean_2 mlX10_358 imX10_isDays seX10_isDays kX10_isDays (by first | assumption | rfl) rfl (Nat.le_of_ble_eq_true rfl) (by decide) ?_
  refine sm_isDays ?_
  refine x_cv rfl rfl ?_
  rw [e]
  first | (guard_target =~ Wp _ _ _ _ _ (Value.int (nI _) :: _) _ _ _ _; with_reducible refine x_if_eqN (pc := 5) (tgt := 34) ?_ dX10_mean_5 ?_ (fun h5 => ?_) (fun h5 => ?_); (first | omega | exact b2n_32 _ | exact b2n_31 _); decide) | refine x_if_eq (pc := 5) (tgt := 34) dX10_mean_5 (by decide) (fun h5 => ?_) (fun h5 => ?_)
  · skip
    cases h5
  · skip
    refine x_aload_n (pc := 8) dX10_mean_8 rfl ?_
    refine x_iload_n (pc := 9) dX10_mean_9 rfl ?_
    refine x_iconstN (pc := 10) 0 dX10_mean_10 ic_0 ?_
    refine x_iconstN (pc := 11) 1 dX10_mean_11 ic_1 ?_
    refine x_invV3 (pc := 12) dX10_mean_12 mlX10_253 imX10_in seX10_in kX10_in (by first | assumption | rfl) rfl (Nat.le_of_ble_eq_true rfl) (by decide) ?_
    refine sm_in ?_
    refine x_cv rfl rfl ?_
    rw [btw_isR (by decide), show isR (nI p) (nI (1 + 1)) = true from e2]
    first | (guard_target =~ Wp _ _ _ _ _ (Value.int (nI _) :: _) _ _ _ _; with_reducible refine x_if_eqN (pc := 15) (tgt := 34) ?_ dX10_mean_15 ?_ (fun h15 => ?_) (fun h15 => ?_); (first | omega | exact b2n_32 _ | exact b2n_31 _); decide) | refine x_if_eq (pc := 15) (tgt := 34) dX10_mean_15 (by decide) (fun h15 => ?_) (fun h15 => ?_)
    · skip
      cases h15
    · skip
      refine x_aload_n (pc := 18) dX10_mean_18 rfl ?_
      refine x_aload_n (pc := 19) dX10_mean_19 rfl ?_
      refine x_iload_n (pc := 20) dX10_mean_20 rfl ?_
      refine x_iconstN (pc := 21) 1 dX10_mean_21 ic_1 ?_
      refine x_invV2 (pc := 22) dX10_mean_22 mlX10_430 imX10_on seX10_on kX10_on (by first | assumption | rfl) rfl (Nat.le_of_ble_eq_true rfl) (by decide) ?_
      refine fM_on hC ok (fun M2 hh2 hC2 => ?_)
      refine x_cv rfl rfl ?_
      rw [hon]
      refine x_bipushN (pc := 25) 16 dX10_mean_25 bp_16 ?_
      refine x_iload_n (pc := 27) dX10_mean_27 rfl ?_
      refine x_invV3 (pc := 28) dX10_mean_28 mlX10_426 imX10_lowest seX10_lowest kX10_lowest (by first | assumption | rfl) rfl (Nat.le_of_ble_eq_true rfl) (by decide) ?_
      refine sm_lowest hsb (by decide) (by decide) hp ?_
      refine x_cv rfl rfl ?_
      refine x_goto (pc := 31) (tgt := 37) dX10_mean_31 (by decide) ?_
      refine x_ret (pc := 37) (v := some _) rfl trivial dX10_mean_37 (by decide) ?_
      exact h M2 hh2 hC2
theorem who_or {W n k : Nat} (hW : W < 64) (hn : n ≤ 6) (hk : k < 6) : whoW (nI W ||| nI (2 ^ k)) n ((63 &&& (W ^^^ 4294967295)) &&& (2 ^ k ^^^ 4294967295)) := by
  intro g hg
  have m : ∀ g, g < 6 → Nat.testBit 63 g = true := by decide +kernel
  rw [nI_or, tb_nI (by omega), Nat.testBit_and, Nat.testBit_and, m g (by omega), Nat.testBit_xor, Nat.testBit_xor, neg_tb g (by omega), Nat.testBit_or]
  simp
theorem fM_odds {c n part : Int32} (hC : MC9 M s) (ok : okM s) (h : ∀ M', high M M' → MC9 M' s → K (some (.long (vOdds s c n part))) xSF M') : Ex g (d + 6) yX10_odds mX10_odds [.ref 65, .int c, .int n, .int part] xSF M K := by
  unfold vOdds at h
  have hB := ok.bd
  obtain ⟨b0, hL⟩ := hC.ls ok
  have hstd := ok.std
  have h11 := hstd.2
  have hQ := hC.1.mq
  have hL2 := ok.cache
  have h6 := hB.2.1
  refine x_entry kX10_odds (Nat.le_of_ble_eq_true rfl) ?_
  show Wp g _ mX10_odds 0 [some (.ref 65), some (.int c), some (.int n), some (.int part), none, none] [] _ _ _ _
  rcases isR_cases (x := c) (n := 16) (by decide) with e | ⟨c, hc, rfl, e⟩
  · rw [if_neg (fun q => by rw [e] at q; cases q.1)] at h
    refine x_aload_n (pc := 0) dX10_odds_0 rfl ?_
    refine x_iload_n (pc := 1) dX10_odds_1 rfl ?_
    refine x_invV1 (pc := 2) dX10_odds_2 mlX10_257 imX10_isCell seX10_isCell kX10_isCell (by first | assumption | rfl) rfl (Nat.le_of_ble_eq_true rfl) (by decide) ?_
    refine sm_isCell ?_
    refine x_cv rfl rfl ?_
    rw [e]
    first | (guard_target =~ Wp _ _ _ _ _ (Value.int (nI _) :: _) _ _ _ _; with_reducible refine x_if_eqN (pc := 5) (tgt := 33) ?_ dX10_odds_5 ?_ (fun h5 => ?_) (fun h5 => ?_); (first | omega | exact b2n_32 _ | exact b2n_31 _); decide) | refine x_if_eq (pc := 5) (tgt := 33) dX10_odds_5 (by decide) (fun h5 => ?_) (fun h5 => ?_)
    · skip
      refine x_ldc2 (pc := 33) dX10_odds_33 ckX10_424 ?_
      refine x_ret (pc := 36) (v := some _) rfl trivial dX10_odds_36 (by decide) ?_
      exact h M high.rf hC
    · skip
      exact absurd rfl h5
  rcases isR_cases (x := n) (n := 61) (by decide) with e2 | ⟨n, hn, rfl, e2⟩
  · rw [if_neg (fun q => by rw [e2] at q; cases q.2.1)] at h
    refine x_aload_n (pc := 0) dX10_odds_0 rfl ?_
    refine x_iload_n (pc := 1) dX10_odds_1 rfl ?_
    refine x_invV1 (pc := 2) dX10_odds_2 mlX10_257 imX10_isCell seX10_isCell kX10_isCell (by first | assumption | rfl) rfl (Nat.le_of_ble_eq_true rfl) (by decide) ?_
    refine sm_isCell ?_
    refine x_cv rfl rfl ?_
    rw [e]
    first | (guard_target =~ Wp _ _ _ _ _ (Value.int (nI _) :: _) _ _ _ _; with_reducible refine x_if_eqN (pc := 5) (tgt := 33) ?_ dX10_odds_5 ?_ (fun h5 => ?_) (fun h5 => ?_); (first | omega | exact b2n_32 _ | exact b2n_31 _); decide) | refine x_if_eq (pc := 5) (tgt := 33) dX10_odds_5 (by decide) (fun h5 => ?_) (fun h5 => ?_)
    · skip
      cases h5
    · skip
      refine x_aload_n (pc := 8) dX10_odds_8 rfl ?_
      refine x_iload_n (pc := 9) dX10_odds_9 rfl ?_
      refine x_invV1 (pc := 10) dX10_odds_10 mlX10_358 imX10_isDays seX10_isDays kX10_isDays (by first | assumption | rfl) rfl (Nat.le_of_ble_eq_true rfl) (by decide) ?_
      refine sm_isDays ?_
      refine x_cv rfl rfl ?_
      rw [e2]
      first | (guard_target =~ Wp _ _ _ _ _ (Value.int (nI _) :: _) _ _ _ _; with_reducible refine x_if_eqN (pc := 13) (tgt := 33) ?_ dX10_odds_13 ?_ (fun h13 => ?_) (fun h13 => ?_); (first | omega | exact b2n_32 _ | exact b2n_31 _); decide) | refine x_if_eq (pc := 13) (tgt := 33) dX10_odds_13 (by decide) (fun h13 => ?_) (fun h13 => ?_)
      · skip
        refine x_ldc2 (pc := 33) dX10_odds_33 ckX10_424 ?_
        refine x_ret (pc := 36) (v := some _) rfl trivial dX10_odds_36 (by decide) ?_
        exact h M high.rf hC
      · skip
        exact absurd rfl h13
  rcases isR_cases (x := part) (n := 2) (by decide) with e3 | ⟨p, hp, rfl, e3⟩
  · have hno : (if isR (nI c) (nI 16) = true ∧ isR (nI n) (nI 61) = true ∧ 0 < s.1.1 8 0 then fracN (xsum (fun k => b2n (outW s.1.1 (qw s) (toN (nI c)) (toN (nI n)) k)) (s.1.1 8 0)) (s.1.1 8 0) part else -9223372036854775808) = -9223372036854775808 := by rw [fracN_no e3]; split <;> rfl
    rw [hno] at h
    refine x_aload_n (pc := 0) dX10_odds_0 rfl ?_
    refine x_iload_n (pc := 1) dX10_odds_1 rfl ?_
    refine x_invV1 (pc := 2) dX10_odds_2 mlX10_257 imX10_isCell seX10_isCell kX10_isCell (by first | assumption | rfl) rfl (Nat.le_of_ble_eq_true rfl) (by decide) ?_
    refine sm_isCell ?_
    refine x_cv rfl rfl ?_
    rw [e]
    first | (guard_target =~ Wp _ _ _ _ _ (Value.int (nI _) :: _) _ _ _ _; with_reducible refine x_if_eqN (pc := 5) (tgt := 33) ?_ dX10_odds_5 ?_ (fun h5 => ?_) (fun h5 => ?_); (first | omega | exact b2n_32 _ | exact b2n_31 _); decide) | refine x_if_eq (pc := 5) (tgt := 33) dX10_odds_5 (by decide) (fun h5 => ?_) (fun h5 => ?_)
    · skip
      cases h5
    · skip
      refine x_aload_n (pc := 8) dX10_odds_8 rfl ?_
      refine x_iload_n (pc := 9) dX10_odds_9 rfl ?_
      refine x_invV1 (pc := 10) dX10_odds_10 mlX10_358 imX10_isDays seX10_isDays kX10_isDays (by first | assumption | rfl) rfl (Nat.le_of_ble_eq_true rfl) (by decide) ?_
      refine sm_isDays ?_
      refine x_cv rfl rfl ?_
      rw [e2]
      first | (guard_target =~ Wp _ _ _ _ _ (Value.int (nI _) :: _) _ _ _ _; with_reducible refine x_if_eqN (pc := 13) (tgt := 33) ?_ dX10_odds_13 ?_ (fun h13 => ?_) (fun h13 => ?_); (first | omega | exact b2n_32 _ | exact b2n_31 _); decide) | refine x_if_eq (pc := 13) (tgt := 33) dX10_odds_13 (by decide) (fun h13 => ?_) (fun h13 => ?_)
      · skip
        cases h13
      · skip
        refine x_aload_n (pc := 16) dX10_odds_16 rfl ?_
        refine x_iload_n (pc := 17) dX10_odds_17 rfl ?_
        refine x_iconstN (pc := 18) 0 dX10_odds_18 ic_0 ?_
        refine x_iconstN (pc := 19) 1 dX10_odds_19 ic_1 ?_
        refine x_invV3 (pc := 20) dX10_odds_20 mlX10_253 imX10_in seX10_in kX10_in (by first | assumption | rfl) rfl (Nat.le_of_ble_eq_true rfl) (by decide) ?_
        refine sm_in ?_
        refine x_cv rfl rfl ?_
        rw [btw_isR (by decide), show isR part (nI (1 + 1)) = false from e3]
        first | (guard_target =~ Wp _ _ _ _ _ (Value.int (nI _) :: _) _ _ _ _; with_reducible refine x_if_eqN (pc := 23) (tgt := 33) ?_ dX10_odds_23 ?_ (fun h23 => ?_) (fun h23 => ?_); (first | omega | exact b2n_32 _ | exact b2n_31 _); decide) | refine x_if_eq (pc := 23) (tgt := 33) dX10_odds_23 (by decide) (fun h23 => ?_) (fun h23 => ?_)
        · skip
          refine x_ldc2 (pc := 33) dX10_odds_33 ckX10_424 ?_
          refine x_ret (pc := 36) (v := some _) rfl trivial dX10_odds_36 (by decide) ?_
          exact h M high.rf hC
        · skip
          exact absurd rfl h23
  by_cases h0 : s.1.1 8 0 = 0
  · rw [if_neg (fun q => by omega)] at h
    refine x_aload_n (pc := 0) dX10_odds_0 rfl ?_
    refine x_iload_n (pc := 1) dX10_odds_1 rfl ?_
    refine x_invV1 (pc := 2) dX10_odds_2 mlX10_257 imX10_isCell seX10_isCell kX10_isCell (by first | assumption | rfl) rfl (Nat.le_of_ble_eq_true rfl) (by decide) ?_
    refine sm_isCell ?_
    refine x_cv rfl rfl ?_
    rw [e]
    first | (guard_target =~ Wp _ _ _ _ _ (Value.int (nI _) :: _) _ _ _ _; with_reducible refine x_if_eqN (pc := 5) (tgt := 33) ?_ dX10_odds_5 ?_ (fun h5 => ?_) (fun h5 => ?_); (first | omega | exact b2n_32 _ | exact b2n_31 _); decide) | refine x_if_eq (pc := 5) (tgt := 33) dX10_odds_5 (by decide) (fun h5 => ?_) (fun h5 => ?_)
    · skip
      cases h5
    · skip
      refine x_aload_n (pc := 8) dX10_odds_8 rfl ?_
      refine x_iload_n (pc := 9) dX10_odds_9 rfl ?_
      refine x_invV1 (pc := 10) dX10_odds_10 mlX10_358 imX10_isDays seX10_isDays kX10_isDays (by first | assumption | rfl) rfl (Nat.le_of_ble_eq_true rfl) (by decide) ?_
      refine sm_isDays ?_
      refine x_cv rfl rfl ?_
      rw [e2]
      first | (guard_target =~ Wp _ _ _ _ _ (Value.int (nI _) :: _) _ _ _ _; with_reducible refine x_if_eqN (pc := 13) (tgt := 33) ?_ dX10_odds_13 ?_ (fun h13 => ?_) (fun h13 => ?_); (first | omega | exact b2n_32 _ | exact b2n_31 _); decide) | refine x_if_eq (pc := 13) (tgt := 33) dX10_odds_13 (by decide) (fun h13 => ?_) (fun h13 => ?_)
      · skip
        cases h13
      · skip
        refine x_aload_n (pc := 16) dX10_odds_16 rfl ?_
        refine x_iload_n (pc := 17) dX10_odds_17 rfl ?_
        refine x_iconstN (pc := 18) 0 dX10_odds_18 ic_0 ?_
        refine x_iconstN (pc := 19) 1 dX10_odds_19 ic_1 ?_
        refine x_invV3 (pc := 20) dX10_odds_20 mlX10_253 imX10_in seX10_in kX10_in (by first | assumption | rfl) rfl (Nat.le_of_ble_eq_true rfl) (by decide) ?_
        refine sm_in ?_
        refine x_cv rfl rfl ?_
        rw [btw_isR (by decide), show isR (nI p) (nI (1 + 1)) = true from e3]
        first | (guard_target =~ Wp _ _ _ _ _ (Value.int (nI _) :: _) _ _ _ _; with_reducible refine x_if_eqN (pc := 23) (tgt := 33) ?_ dX10_odds_23 ?_ (fun h23 => ?_) (fun h23 => ?_); (first | omega | exact b2n_32 _ | exact b2n_31 _); decide) | refine x_if_eq (pc := 23) (tgt := 33) dX10_odds_23 (by decide) (fun h23 => ?_) (fun h23 => ?_)
        · skip
          cases h23
        · skip
          refine x_aload_n (pc := 26) dX10_odds_26 rfl ?_
          refine x_getI (pc := 27) dX10_odds_27 flX10_7 (by first | assumption | rfl) rfl ?_
          rw [hC.1.1]
          first | (guard_target =~ Wp _ _ _ _ _ (Value.int (nI _) :: _) _ _ _ _; with_reducible refine x_if_neN (pc := 30) (tgt := 37) ?_ dX10_odds_30 ?_ (fun h30 => ?_) (fun h30 => ?_); (first | omega | exact b2n_32 _ | exact b2n_31 _); decide) | refine x_if_ne (pc := 30) (tgt := 37) dX10_odds_30 (by decide) (fun h30 => ?_) (fun h30 => ?_)
          · skip
            exact absurd h0 h30
          · skip
            refine x_ldc2 (pc := 33) dX10_odds_33 ckX10_424 ?_
            refine x_ret (pc := 36) (v := some _) rfl trivial dX10_odds_36 (by decide) ?_
            exact h M high.rf hC
  rw [if_pos ⟨e, e2, by omega⟩, toN_nI (by omega), toN_nI (by omega)] at h
  have hbl : bldF 30 s.1.2.2.2.2 < 100 := bldF_bd _ 30 (by decide) (fun x q => (hL.1.2 x q).1)
  have loop : ∀ m k M1, k + m = s.1.1 8 0 → only pZ M M1 → (∀ j, j < 64 * s.1.1 8 0 → M1.1 85 j = nI (wnF s.1.1 s.1.2.2.2.2 j)) → Wp g (d + 6) mX10_odds 47 [some (.ref 65), some (.int (nI c)), some (.int (nI n)), some (.int (nI p)), some (.int (nI (xsum (fun k => b2n (outW s.1.1 (qw s) c n k)) k))), some (.int (nI k))] [] xSF (0, 0) M1 K := by
    intro m
    induction m with
    | zero =>
      intro k M1 hk ho h85
      obtain rfl : k = s.1.1 8 0 := by omega
      have hgood : xsum (fun k => b2n (outW s.1.1 (qw s) c n k)) (s.1.1 8 0) ≤ s.1.1 8 0 * 1 := xsum_bd (fun i _ => by have := b2n_lt (outW s.1.1 (qw s) c n i); omega)
      refine x_iload (pc := 47) dX10_odds_47 rfl ?_
      refine x_aload_n (pc := 49) dX10_odds_49 rfl ?_
      refine x_getI (pc := 50) dX10_odds_50 flX10_7 (by first | assumption | rfl) rfl ?_
      rw [(hQ.keep ho pZ_Q).1]
      first | (guard_target =~ Wp _ _ _ _ _ (Value.int (nI _) :: Value.int (nI _) :: _) _ _ _ _; with_reducible refine x_icmp_geN (pc := 53) (tgt := 109) ?_ ?_ dX10_odds_53 ?_ (fun h53 => ?_) (fun h53 => ?_); (first | omega | exact b2n_31 _); (first | omega | exact b2n_31 _); decide) | refine x_icmp_ge (pc := 53) (tgt := 109) dX10_odds_53 (by decide) (fun h53 => ?_) (fun h53 => ?_)
      · skip
        refine x_aload_n (pc := 109) dX10_odds_109 rfl ?_
        refine x_iload (pc := 110) dX10_odds_110 rfl ?_
        refine x_aload_n (pc := 112) dX10_odds_112 rfl ?_
        refine x_getI (pc := 113) dX10_odds_113 flX10_7 (by first | assumption | rfl) rfl ?_
        rw [(hQ.keep ho pZ_Q).1]
        refine x_iload_n (pc := 116) dX10_odds_116 rfl ?_
        refine x_invV3 (pc := 117) dX10_odds_117 mlX10_426 imX10_lowest seX10_lowest kX10_lowest (by first | assumption | rfl) rfl (Nat.le_of_ble_eq_true rfl) (by decide) ?_
        refine sm_lowest (by omega) (by omega) (by omega) hp ?_
        refine x_cv rfl rfl ?_
        refine x_ret (pc := 120) (v := some _) rfl trivial dX10_odds_120 (by decide) ?_
        exact h M1 ho.qsm.1.1 (hC.st ho.qsm)
      · skip
        omega
    | succ m ih =>
      intro k M1 hk ho h85
      have hQ1 := hQ.keep ho pZ_Q
      have hx : outW s.1.1 (qw s) c n k = decide (s.1.1 13 0 ≤ spA s.1.1 (qw s ||| nI (2 ^ k)) n 0 c) := rfl
      have nx : ∀ v M5, only pZ M M5 → (∀ j, j < 64 * s.1.1 8 0 → M5.1 85 j = nI (wnF s.1.1 s.1.2.2.2.2 j)) → v = b2n (outW s.1.1 (qw s) c n k) → Wp g (d + 6) mX10_odds 47 [some (.ref 65), some (.int (nI c)), some (.int (nI n)), some (.int (nI p)), some (.int (nI (xsum (fun k => b2n (outW s.1.1 (qw s) c n k)) k + v))), some (.int (nI (k + 1)))] [] xSF (0, 0) M5 K := by
        intro v M5 ho5 h85 hv
        have := ih (k + 1) M5 (by omega) ho5 h85
        rw [xsum, ← hv] at this
        exact this
      refine x_iload (pc := 47) dX10_odds_47 rfl ?_
      refine x_aload_n (pc := 49) dX10_odds_49 rfl ?_
      refine x_getI (pc := 50) dX10_odds_50 flX10_7 (by first | assumption | rfl) rfl ?_
      rw [hQ1.1]
      first | (guard_target =~ Wp _ _ _ _ _ (Value.int (nI _) :: Value.int (nI _) :: _) _ _ _ _; with_reducible refine x_icmp_geN (pc := 53) (tgt := 109) ?_ ?_ dX10_odds_53 ?_ (fun h53 => ?_) (fun h53 => ?_); (first | omega | exact b2n_31 _); (first | omega | exact b2n_31 _); decide) | refine x_icmp_ge (pc := 53) (tgt := 109) dX10_odds_53 (by decide) (fun h53 => ?_) (fun h53 => ?_)
      · skip
        omega
      · skip
        refine x_aload_n (pc := 56) dX10_odds_56 rfl ?_
        refine x_invV0 (pc := 57) dX10_odds_57 mlX10_375 imX10_save seX10_save kX10_save (by first | assumption | rfl) rfl (Nat.le_of_ble_eq_true rfl) (by decide) ?_
        refine sm_save (fun M2 ho2 hk2 h332 => ?_)
        refine x_cn rfl rfl ?_
        refine x_aload_n (pc := 60) dX10_odds_60 rfl ?_
        refine x_aload_n (pc := 61) dX10_odds_61 rfl ?_
        refine x_invV0 (pc := 62) dX10_odds_62 mlX10_364 imX10_here seX10_here kX10_here (by first | assumption | rfl) rfl (Nat.le_of_ble_eq_true rfl) (by decide) ?_
        refine sm_here ((ho2.1 65 1 rfl).trans hQ1.2.1) ?_
        refine x_cv rfl rfl ?_
        refine x_iconstN (pc := 65) 1 dX10_odds_65 ic_1 ?_
        refine x_iload (pc := 66) dX10_odds_66 rfl ?_
        first | (guard_target =~ Wp _ _ _ _ _ (Value.int (nI _) :: Value.int (nI _) :: _) _ _ _ _; with_reducible refine x_ishlN (pc := 68) ?_ dX10_odds_68 ?_; omega) | refine x_ishl (pc := 68) dX10_odds_68 ?_
        refine x_iconst (pc := 69) dX10_odds_69 ic_m1 ?_
        rw [show (-1 : Int32) = nI 4294967295 by decide +kernel, Nat.one_mul]
        first | (guard_target =~ Wp _ _ _ _ _ (Value.int (nI _) :: Value.int (nI _) :: _) _ _ _ _; with_reducible refine x_ixorN (pc := 70) dX10_odds_70 ?_) | refine x_ixor (pc := 70) dX10_odds_70 ?_
        first | (guard_target =~ Wp _ _ _ _ _ (Value.int (nI _) :: Value.int (nI _) :: _) _ _ _ _; with_reducible refine x_iandN (pc := 71) dX10_odds_71 ?_) | refine x_iand (pc := 71) dX10_odds_71 ?_
        refine x_iload_n (pc := 72) dX10_odds_72 rfl ?_
        refine x_invV2 (pc := 73) dX10_odds_73 mlX10_367 imX10_goDays seX10_goDays kX10_goDays (by first | assumption | rfl) rfl (Nat.le_of_ble_eq_true rfl) (by decide) ?_
        refine sm_try (w := qw s ||| nI (2 ^ k)) (A := s.1.1) (L := s.1.2.2.2.2) ((ho2.1 65 0 rfl).trans hQ1.1) ((ho2.1 65 3 rfl).trans hQ1.2.2.2.1) (fun c hc => ⟨(ho2.1 66 c rfl).trans (hQ1.2.2.2.2 0 (by decide) c hc), by have := hstd.1 c hc; omega⟩) hL2 hL.1 hB h332 (fun j q => (ho2.1 85 j rfl).trans (h85 j q)) (who_or ok.away h6 (by omega)) (by omega) (by omega) (fun M4 ho4 hx4 _ => ?_)
        refine x_cn rfl rfl ?_
        refine x_iload (pc := 76) dX10_odds_76 rfl ?_
        refine x_aload_n (pc := 78) dX10_odds_78 rfl ?_
        refine x_getR (pc := 79) dX10_odds_79 flX10_22 (by first | assumption | rfl) rfl ?_
        refine x_iload_n (pc := 82) dX10_odds_82 rfl ?_
        refine x_ialdN (pc := 83) dX10_odds_83 (by first | assumption | rfl) (by first | with_reducible rfl | (simp only [xlit, nI_add, pk_mul]; with_reducible rfl)) (by omega) (by decide) ?_
        rw [(hx4 c hc).1]
        refine x_aload_n (pc := 84) dX10_odds_84 rfl ?_
        refine x_invV0 (pc := 85) dX10_odds_85 mlX10_371 imX10_bald seX10_bald kX10_bald (by first | assumption | rfl) rfl (Nat.le_of_ble_eq_true rfl) (by decide) ?_
        refine sm_bald (hL.keep ((ho.wide pY_Z).tr ((ho2.wide pY_S).tr (ho4.wide pY_D))) pY_L) ?_
        refine x_cv rfl rfl ?_
        have hx4c := (hx4 c hc).2
        first | (guard_target =~ Wp _ _ _ _ _ (Value.int (nI _) :: Value.int (nI _) :: _) _ _ _ _; with_reducible refine x_icmp_ltN (pc := 88) (tgt := 95) ?_ ?_ dX10_odds_88 ?_ (fun h88 => ?_) (fun h88 => ?_); (first | omega | exact b2n_31 _); (first | omega | exact b2n_31 _); decide) | refine x_icmp_lt (pc := 88) (tgt := 95) dX10_odds_88 (by decide) (fun h88 => ?_) (fun h88 => ?_)
        · skip
          refine x_iconstN (pc := 95) 0 dX10_odds_95 ic_0 ?_
          first | (guard_target =~ Wp _ _ _ _ _ (Value.int (nI _) :: Value.int (nI _) :: _) _ _ _ _; with_reducible refine x_iaddN (pc := 96) dX10_odds_96 ?_) | refine x_iadd (pc := 96) dX10_odds_96 ?_
          refine x_istore (pc := 97) dX10_odds_97 (by decide) xs_4 (x_hp rfl) ?_
          refine x_aload_n (pc := 99) dX10_odds_99 rfl ?_
          refine x_invV0 (pc := 100) dX10_odds_100 mlX10_378 imX10_putBack seX10_putBack kX10_putBack (by first | assumption | rfl) rfl (Nat.le_of_ble_eq_true rfl) (by decide) ?_
          refine sm_putBack (M0 := M1) ((ho2.wide pY_S).tr (ho4.wide pY_D)) (hk2.keep ho4 pD_K) ((ho.1 65 33 rfl).trans hC.2.2.2.2.2.1) (fun M5 ho5 hb5 => ?_)
          refine x_cn rfl rfl ?_
          first | (guard_target =~ Wp _ _ _ _ (_ :: _ :: _ :: _ :: _ :: some (Value.int (nI _)) :: _) _ _ _ _ _; with_reducible refine x_iincN (pc := 103) 1 ic_1 dX10_odds_103 ?_ xg_5 xs_5 ?_ ?_; decide; exact (x_hp rfl)) | refine x_iincC (pc := 103) ic_1 dX10_odds_103 (by decide) rfl xs_5 (x_hp rfl) ?_
          refine x_goto (pc := 106) (tgt := 47) dX10_odds_106 (by decide) ?_
          exact nx 0 M5 (ho.tr ho5) (fun j q => (hb5.1 85 j rfl).trans ((ho4.1 85 j rfl).trans ((ho2.1 85 j rfl).trans (h85 j q)))) (by rw [hx, decide_eq_false (by rw [hL2.2.2.1]; omega)]; rfl)
        · skip
          refine x_iconstN (pc := 91) 1 dX10_odds_91 ic_1 ?_
          refine x_goto (pc := 92) (tgt := 96) dX10_odds_92 (by decide) ?_
          first | (guard_target =~ Wp _ _ _ _ _ (Value.int (nI _) :: Value.int (nI _) :: _) _ _ _ _; with_reducible refine x_iaddN (pc := 96) dX10_odds_96 ?_) | refine x_iadd (pc := 96) dX10_odds_96 ?_
          refine x_istore (pc := 97) dX10_odds_97 (by decide) xs_4 (x_hp rfl) ?_
          refine x_aload_n (pc := 99) dX10_odds_99 rfl ?_
          refine x_invV0 (pc := 100) dX10_odds_100 mlX10_378 imX10_putBack seX10_putBack kX10_putBack (by first | assumption | rfl) rfl (Nat.le_of_ble_eq_true rfl) (by decide) ?_
          refine sm_putBack (M0 := M1) ((ho2.wide pY_S).tr (ho4.wide pY_D)) (hk2.keep ho4 pD_K) ((ho.1 65 33 rfl).trans hC.2.2.2.2.2.1) (fun M5 ho5 hb5 => ?_)
          refine x_cn rfl rfl ?_
          first | (guard_target =~ Wp _ _ _ _ (_ :: _ :: _ :: _ :: _ :: some (Value.int (nI _)) :: _) _ _ _ _ _; with_reducible refine x_iincN (pc := 103) 1 ic_1 dX10_odds_103 ?_ xg_5 xs_5 ?_ ?_; decide; exact (x_hp rfl)) | refine x_iincC (pc := 103) ic_1 dX10_odds_103 (by decide) rfl xs_5 (x_hp rfl) ?_
          refine x_goto (pc := 106) (tgt := 47) dX10_odds_106 (by decide) ?_
          exact nx 1 M5 (ho.tr ho5) (fun j q => (hb5.1 85 j rfl).trans ((ho4.1 85 j rfl).trans ((ho2.1 85 j rfl).trans (h85 j q)))) (by rw [hx, decide_eq_true (by rw [hL2.2.2.1]; omega)]; rfl)
  refine x_aload_n (pc := 0) dX10_odds_0 rfl ?_
  refine x_iload_n (pc := 1) dX10_odds_1 rfl ?_
  refine x_invV1 (pc := 2) dX10_odds_2 mlX10_257 imX10_isCell seX10_isCell kX10_isCell (by first | assumption | rfl) rfl (Nat.le_of_ble_eq_true rfl) (by decide) ?_
  refine sm_isCell ?_
  refine x_cv rfl rfl ?_
  rw [e]
  first | (guard_target =~ Wp _ _ _ _ _ (Value.int (nI _) :: _) _ _ _ _; with_reducible refine x_if_eqN (pc := 5) (tgt := 33) ?_ dX10_odds_5 ?_ (fun h5 => ?_) (fun h5 => ?_); (first | omega | exact b2n_32 _ | exact b2n_31 _); decide) | refine x_if_eq (pc := 5) (tgt := 33) dX10_odds_5 (by decide) (fun h5 => ?_) (fun h5 => ?_)
  · skip
    cases h5
  · skip
    refine x_aload_n (pc := 8) dX10_odds_8 rfl ?_
    refine x_iload_n (pc := 9) dX10_odds_9 rfl ?_
    refine x_invV1 (pc := 10) dX10_odds_10 mlX10_358 imX10_isDays seX10_isDays kX10_isDays (by first | assumption | rfl) rfl (Nat.le_of_ble_eq_true rfl) (by decide) ?_
    refine sm_isDays ?_
    refine x_cv rfl rfl ?_
    rw [e2]
    first | (guard_target =~ Wp _ _ _ _ _ (Value.int (nI _) :: _) _ _ _ _; with_reducible refine x_if_eqN (pc := 13) (tgt := 33) ?_ dX10_odds_13 ?_ (fun h13 => ?_) (fun h13 => ?_); (first | omega | exact b2n_32 _ | exact b2n_31 _); decide) | refine x_if_eq (pc := 13) (tgt := 33) dX10_odds_13 (by decide) (fun h13 => ?_) (fun h13 => ?_)
    · skip
      cases h13
    · skip
      refine x_aload_n (pc := 16) dX10_odds_16 rfl ?_
      refine x_iload_n (pc := 17) dX10_odds_17 rfl ?_
      refine x_iconstN (pc := 18) 0 dX10_odds_18 ic_0 ?_
      refine x_iconstN (pc := 19) 1 dX10_odds_19 ic_1 ?_
      refine x_invV3 (pc := 20) dX10_odds_20 mlX10_253 imX10_in seX10_in kX10_in (by first | assumption | rfl) rfl (Nat.le_of_ble_eq_true rfl) (by decide) ?_
      refine sm_in ?_
      refine x_cv rfl rfl ?_
      rw [btw_isR (by decide), show isR (nI p) (nI (1 + 1)) = true from e3]
      first | (guard_target =~ Wp _ _ _ _ _ (Value.int (nI _) :: _) _ _ _ _; with_reducible refine x_if_eqN (pc := 23) (tgt := 33) ?_ dX10_odds_23 ?_ (fun h23 => ?_) (fun h23 => ?_); (first | omega | exact b2n_32 _ | exact b2n_31 _); decide) | refine x_if_eq (pc := 23) (tgt := 33) dX10_odds_23 (by decide) (fun h23 => ?_) (fun h23 => ?_)
      · skip
        cases h23
      · skip
        refine x_aload_n (pc := 26) dX10_odds_26 rfl ?_
        refine x_getI (pc := 27) dX10_odds_27 flX10_7 (by first | assumption | rfl) rfl ?_
        rw [hC.1.1]
        first | (guard_target =~ Wp _ _ _ _ _ (Value.int (nI _) :: _) _ _ _ _; with_reducible refine x_if_neN (pc := 30) (tgt := 37) ?_ dX10_odds_30 ?_ (fun h30 => ?_) (fun h30 => ?_); (first | omega | exact b2n_32 _ | exact b2n_31 _); decide) | refine x_if_ne (pc := 30) (tgt := 37) dX10_odds_30 (by decide) (fun h30 => ?_) (fun h30 => ?_)
        · skip
          refine x_aload_n (pc := 37) dX10_odds_37 rfl ?_
          refine x_invV0 (pc := 38) dX10_odds_38 mlX10_361 imX10_layWorn seX10_layWorn kX10_layWorn (by first | assumption | rfl) rfl (Nat.le_of_ble_eq_true rfl) (by decide) ?_
          refine sm_layWorn hL hB hQ (fun M1 ho1 h85 => ?_)
          refine x_cn rfl rfl ?_
          refine x_iconstN (pc := 41) 0 dX10_odds_41 ic_0 ?_
          refine x_istore (pc := 42) dX10_odds_42 (by decide) xs_4 (x_hp rfl) ?_
          refine x_iconstN (pc := 44) 0 dX10_odds_44 ic_0 ?_
          refine x_istore (pc := 45) dX10_odds_45 (by decide) xs_5 (x_hp rfl) ?_
          exact loop (s.1.1 8 0) 0 M1 (by omega) (ho1.wide pZ_N) h85
        · skip
          exact absurd h30 h0
end P83
