/-! the MODEL: the small methods -/
theorem btw_m1 {x : Int32} {n : Nat} (hn : n < 2 ^ 30) : btw x (nI 0) (nI n - nI 1) = isR x (nI n) := by
  by_cases h : n = 0
  · subst h
    have h1 : btw x (nI 0) (nI 0 - nI 1) = false := decide_eq_false (fun q => absurd (Int32.le_trans q.1 q.2) (by decide))
    have h2 : isR x (nI 0) = false := decide_eq_false (fun q => absurd (Int32.lt_of_le_of_lt q.1 q.2) (by decide))
    rw [h1, h2]
  · rw [pk_sub (by omega), btw_isR (by omega), show n - 1 + 1 = n by omega]
theorem nxt_adj : ∀ a, a < 16 → ∀ b, b < 16 → decide (a / 4 - b / 4 + (b / 4 - a / 4) + (a % 4 - b % 4 + (b % 4 - a % 4)) = 1) = adj a b := by decide +kernel
theorem xrt_b {b : Bool} : xrt (some .boolean) (some (.int (nI (b2n b)))) := by
  cases b
  · show narrow .boolean (.int (nI 0)) = .int (nI 0); decide
  · show narrow .boolean (.int (nI 1)) = .int (nI 1); decide
section P54
variable {g : XG} {d : Nat} {S : XS} {M : XM} {K : Option Value → XS → XM → Prop}
theorem sm_in {n lo hi : Int32} (h : K (some (.int (nI (b2n (btw n lo hi))))) xSF M) : Ex g d yX10_in mX10_in [.ref 65, .int n, .int lo, .int hi] xSF M K := by
  refine x_entry kX10_in (Nat.le_of_ble_eq_true rfl) ?_
  show Wp g _ mX10_in 0 [some (.ref 65), some (.int n), some (.int lo), some (.int hi)] [] _ _ _ _
  refine x_iload_n (pc := 0) dX10_in_0 rfl ?_
  refine x_iload_n (pc := 1) dX10_in_1 rfl ?_
  refine x_icmp_lt (pc := 2) (tgt := 14) dX10_in_2 (by decide) (fun h2 => ?_) (fun h2 => ?_)
  · skip
    refine x_iconstN (pc := 14) 0 dX10_in_14 ic_0 ?_
    refine x_ret (pc := 15) (v := some _) rfl (by first | rfl | decide | exact xrt_b) dX10_in_15 (by decide) ?_
    rw [show btw n lo hi = false from decide_eq_false (fun q => absurd q.1 (Int32.not_le.mpr h2))] at h; exact h
  · skip
    refine x_iload_n (pc := 5) dX10_in_5 rfl ?_
    refine x_iload_n (pc := 6) dX10_in_6 rfl ?_
    refine x_icmp_gt (pc := 7) (tgt := 14) dX10_in_7 (by decide) (fun h7 => ?_) (fun h7 => ?_)
    · skip
      refine x_iconstN (pc := 14) 0 dX10_in_14 ic_0 ?_
      refine x_ret (pc := 15) (v := some _) rfl (by first | rfl | decide | exact xrt_b) dX10_in_15 (by decide) ?_
      rw [show btw n lo hi = false from decide_eq_false (fun q => absurd q.2 (Int32.not_le.mpr h7))] at h; exact h
    · skip
      refine x_iconstN (pc := 10) 1 dX10_in_10 ic_1 ?_
      refine x_goto (pc := 11) (tgt := 15) dX10_in_11 (by decide) ?_
      refine x_ret (pc := 15) (v := some _) rfl (by first | rfl | decide | exact xrt_b) dX10_in_15 (by decide) ?_
      rw [show btw n lo hi = true from decide_eq_true ⟨Int32.not_lt.mp h2, Int32.not_lt.mp h7⟩] at h; exact h
theorem sm_has {x : Int32} {k : Nat} (hk : k < 32) (h : K (some (.int (nI (b2n (tb x k))))) xSF M) : Ex g d yX10_has mX10_has [.ref 65, .int x, .int (nI k)] xSF M K := by
  refine x_entry kX10_has (Nat.le_of_ble_eq_true rfl) ?_
  show Wp g _ mX10_has 0 [some (.ref 65), some (.int x), some (.int (nI k))] [] _ _ _ _
  refine x_iload_n (pc := 0) dX10_has_0 rfl ?_
  refine x_iload_n (pc := 1) dX10_has_1 rfl ?_
  refine x_ishr (pc := 2) dX10_has_2 ?_
  refine x_iconstN (pc := 3) 1 dX10_has_3 ic_1 ?_
  refine x_iand (pc := 4) dX10_has_4 ?_
  rw [tb_shr hk]
  refine x_iconstN (pc := 5) 1 dX10_has_5 ic_1 ?_
  first | (guard_target =~ Wp _ _ _ _ _ (Value.int (nI _) :: Value.int (nI _) :: _) _ _ _ _; with_reducible refine x_icmp_neN (pc := 6) (tgt := 13) ?_ ?_ dX10_has_6 ?_ (fun h6 => ?_) (fun h6 => ?_); (first | omega | exact b2n_31 _); (first | omega | exact b2n_31 _); decide) | refine x_icmp_ne (pc := 6) (tgt := 13) dX10_has_6 (by decide) (fun h6 => ?_) (fun h6 => ?_)
  · skip
    refine x_iconstN (pc := 13) 0 dX10_has_13 ic_0 ?_
    refine x_ret (pc := 14) (v := some _) rfl (by first | rfl | decide | exact xrt_b) dX10_has_14 (by decide) ?_
    rw [show b2n (tb x k) = 0 by have := b2n_lt (tb x k); omega] at h; exact h
  · skip
    refine x_iconstN (pc := 9) 1 dX10_has_9 ic_1 ?_
    refine x_goto (pc := 10) (tgt := 14) dX10_has_10 (by decide) ?_
    refine x_ret (pc := 14) (v := some _) rfl (by first | rfl | decide | exact xrt_b) dX10_has_14 (by decide) ?_
    rw [h6] at h; exact h
theorem sm_least {a b : Nat} (ha : a < 2 ^ 31) (hb : b < 2 ^ 31) (h : K (some (.int (nI (min a b)))) xSF M) : Ex g d yX10_least mX10_least [.ref 65, .int (nI a), .int (nI b)] xSF M K := by
  refine x_entry kX10_least (Nat.le_of_ble_eq_true rfl) ?_
  show Wp g _ mX10_least 0 [some (.ref 65), some (.int (nI a)), some (.int (nI b))] [] _ _ _ _
  refine x_iload_n (pc := 0) dX10_least_0 rfl ?_
  refine x_iload_n (pc := 1) dX10_least_1 rfl ?_
  first | (guard_target =~ Wp _ _ _ _ _ (Value.int (nI _) :: Value.int (nI _) :: _) _ _ _ _; with_reducible refine x_icmp_geN (pc := 2) (tgt := 9) ?_ ?_ dX10_least_2 ?_ (fun h2 => ?_) (fun h2 => ?_); (first | omega | exact b2n_31 _); (first | omega | exact b2n_31 _); decide) | refine x_icmp_ge (pc := 2) (tgt := 9) dX10_least_2 (by decide) (fun h2 => ?_) (fun h2 => ?_)
  · skip
    refine x_iload_n (pc := 9) dX10_least_9 rfl ?_
    refine x_ret (pc := 10) (v := some _) rfl trivial dX10_least_10 (by decide) ?_
    rw [Nat.min_eq_right (by omega)] at h; exact h
  · skip
    refine x_iload_n (pc := 5) dX10_least_5 rfl ?_
    refine x_goto (pc := 6) (tgt := 10) dX10_least_6 (by decide) ?_
    refine x_ret (pc := 10) (v := some _) rfl trivial dX10_least_10 (by decide) ?_
    rw [Nat.min_eq_left (by omega)] at h; exact h
theorem sm_bits {b : Nat} (h : K (some (.int (nI (xpop b)))) xSF M) : Ex g (d + 1) yX10_bits mX10_bits [.ref 65, .int (nI b)] xSF M K := by
  refine x_entry kX10_bits (Nat.le_of_ble_eq_true rfl) ?_
  show Wp g _ mX10_bits 0 [some (.ref 65), some (.int (nI b)), none, none] [] _ _ _ _
  have loop : ∀ n i, i + n = 16 → Wp g (d + 1) mX10_bits 4 [some (.ref 65), some (.int (nI b)), some (.int (nI (xsum (fun i => b2n (b.testBit i)) i))), some (.int (nI i))] [] xSF (0, 0) M K := by
    intro n
    induction n with
    | zero =>
      intro i hi
      obtain rfl : i = 16 := by omega
      refine x_iload_n (pc := 4) dX10_bits_4 rfl ?_
      refine x_bipushN (pc := 5) 16 dX10_bits_5 bp_16 ?_
      first | (guard_target =~ Wp _ _ _ _ _ (Value.int (nI _) :: Value.int (nI _) :: _) _ _ _ _; with_reducible refine x_icmp_geN (pc := 7) (tgt := 33) ?_ ?_ dX10_bits_7 ?_ (fun h7 => ?_) (fun h7 => ?_); (first | omega | exact b2n_31 _); (first | omega | exact b2n_31 _); decide) | refine x_icmp_ge (pc := 7) (tgt := 33) dX10_bits_7 (by decide) (fun h7 => ?_) (fun h7 => ?_)
      · skip
        refine x_iload_n (pc := 33) dX10_bits_33 rfl ?_
        refine x_ret (pc := 34) (v := some _) rfl trivial dX10_bits_34 (by decide) ?_
        exact h
      · skip
        omega
    | succ n ih =>
      intro i hi
      refine x_iload_n (pc := 4) dX10_bits_4 rfl ?_
      refine x_bipushN (pc := 5) 16 dX10_bits_5 bp_16 ?_
      first | (guard_target =~ Wp _ _ _ _ _ (Value.int (nI _) :: Value.int (nI _) :: _) _ _ _ _; with_reducible refine x_icmp_geN (pc := 7) (tgt := 33) ?_ ?_ dX10_bits_7 ?_ (fun h7 => ?_) (fun h7 => ?_); (first | omega | exact b2n_31 _); (first | omega | exact b2n_31 _); decide) | refine x_icmp_ge (pc := 7) (tgt := 33) dX10_bits_7 (by decide) (fun h7 => ?_) (fun h7 => ?_)
      · skip
        omega
      · skip
        refine x_iload_n (pc := 10) dX10_bits_10 rfl ?_
        refine x_aload_n (pc := 11) dX10_bits_11 rfl ?_
        refine x_iload_n (pc := 12) dX10_bits_12 rfl ?_
        refine x_iload_n (pc := 13) dX10_bits_13 rfl ?_
        refine x_invV2 (pc := 14) dX10_bits_14 mlX10_245 imX10_has seX10_has kX10_has (by first | assumption | rfl) rfl (Nat.le_of_ble_eq_true rfl) (by decide) ?_
        refine sm_has (by omega) ?_
        refine x_cv rfl rfl ?_
        rw [tb_nI (by omega)]
        first | (guard_target =~ Wp _ _ _ _ _ (Value.int (nI _) :: _) _ _ _ _; with_reducible refine x_if_eqN (pc := 17) (tgt := 24) ?_ dX10_bits_17 ?_ (fun h17 => ?_) (fun h17 => ?_); (first | omega | exact b2n_32 _ | exact b2n_31 _); decide) | refine x_if_eq (pc := 17) (tgt := 24) dX10_bits_17 (by decide) (fun h17 => ?_) (fun h17 => ?_)
        · skip
          refine x_iconstN (pc := 24) 0 dX10_bits_24 ic_0 ?_
          first | (guard_target =~ Wp _ _ _ _ _ (Value.int (nI _) :: Value.int (nI _) :: _) _ _ _ _; with_reducible refine x_iaddN (pc := 25) dX10_bits_25 ?_) | refine x_iadd (pc := 25) dX10_bits_25 ?_
          refine x_istore_n (pc := 26) dX10_bits_26 (by decide) xs_2 (x_hp rfl) ?_
          first | (guard_target =~ Wp _ _ _ _ (_ :: _ :: _ :: some (Value.int (nI _)) :: _) _ _ _ _ _; with_reducible refine x_iincN (pc := 27) 1 ic_1 dX10_bits_27 ?_ xg_3 xs_3 ?_ ?_; decide; exact (x_hp rfl)) | refine x_iincC (pc := 27) ic_1 dX10_bits_27 (by decide) rfl xs_3 (x_hp rfl) ?_
          refine x_goto (pc := 30) (tgt := 4) dX10_bits_30 (by decide) ?_
          have z := ih (i + 1) (by omega); rw [xsum, h17] at z; exact z
        · skip
          refine x_iconstN (pc := 20) 1 dX10_bits_20 ic_1 ?_
          refine x_goto (pc := 21) (tgt := 25) dX10_bits_21 (by decide) ?_
          first | (guard_target =~ Wp _ _ _ _ _ (Value.int (nI _) :: Value.int (nI _) :: _) _ _ _ _; with_reducible refine x_iaddN (pc := 25) dX10_bits_25 ?_) | refine x_iadd (pc := 25) dX10_bits_25 ?_
          refine x_istore_n (pc := 26) dX10_bits_26 (by decide) xs_2 (x_hp rfl) ?_
          first | (guard_target =~ Wp _ _ _ _ (_ :: _ :: _ :: some (Value.int (nI _)) :: _) _ _ _ _ _; with_reducible refine x_iincN (pc := 27) 1 ic_1 dX10_bits_27 ?_ xg_3 xs_3 ?_ ?_; decide; exact (x_hp rfl)) | refine x_iincC (pc := 27) ic_1 dX10_bits_27 (by decide) rfl xs_3 (x_hp rfl) ?_
          refine x_goto (pc := 30) (tgt := 4) dX10_bits_30 (by decide) ?_
          have z := ih (i + 1) (by omega); rw [xsum, show b2n (b.testBit i) = 1 by have := b2n_lt (b.testBit i); omega] at z; exact z
  refine x_iconstN (pc := 0) 0 dX10_bits_0 ic_0 ?_
  refine x_istore_n (pc := 1) dX10_bits_1 (by decide) xs_2 (x_hp rfl) ?_
  refine x_iconstN (pc := 2) 0 dX10_bits_2 ic_0 ?_
  refine x_istore_n (pc := 3) dX10_bits_3 (by decide) xs_3 (x_hp rfl) ?_
  exact loop 16 0 rfl
theorem sm_apart {a b : Nat} (ha : a < 2 ^ 31) (hb : b < 2 ^ 31) (h : K (some (.int (nI (a - b + (b - a))))) xSF M) : Ex g d yX10_apart mX10_apart [.ref 65, .int (nI a), .int (nI b)] xSF M K := by
  refine x_entry kX10_apart (Nat.le_of_ble_eq_true rfl) ?_
  show Wp g _ mX10_apart 0 [some (.ref 65), some (.int (nI a)), some (.int (nI b))] [] _ _ _ _
  refine x_iload_n (pc := 0) dX10_apart_0 rfl ?_
  refine x_iload_n (pc := 1) dX10_apart_1 rfl ?_
  first | (guard_target =~ Wp _ _ _ _ _ (Value.int (nI _) :: Value.int (nI _) :: _) _ _ _ _; with_reducible refine x_icmp_leN (pc := 2) (tgt := 11) ?_ ?_ dX10_apart_2 ?_ (fun h2 => ?_) (fun h2 => ?_); (first | omega | exact b2n_31 _); (first | omega | exact b2n_31 _); decide) | refine x_icmp_le (pc := 2) (tgt := 11) dX10_apart_2 (by decide) (fun h2 => ?_) (fun h2 => ?_)
  · skip
    refine x_iload_n (pc := 11) dX10_apart_11 rfl ?_
    refine x_iload_n (pc := 12) dX10_apart_12 rfl ?_
    first | (guard_target =~ Wp _ _ _ _ _ (Value.int (nI _) :: Value.int (nI _) :: _) _ _ _ _; with_reducible refine x_isubN (pc := 13) ?_ dX10_apart_13 ?_; omega) | refine x_isub (pc := 13) dX10_apart_13 ?_
    refine x_ret (pc := 14) (v := some _) rfl trivial dX10_apart_14 (by decide) ?_
    rw [show a - b + (b - a) = b - a by omega] at h; exact h
  · skip
    refine x_iload_n (pc := 5) dX10_apart_5 rfl ?_
    refine x_iload_n (pc := 6) dX10_apart_6 rfl ?_
    first | (guard_target =~ Wp _ _ _ _ _ (Value.int (nI _) :: Value.int (nI _) :: _) _ _ _ _; with_reducible refine x_isubN (pc := 7) ?_ dX10_apart_7 ?_; omega) | refine x_isub (pc := 7) dX10_apart_7 ?_
    refine x_goto (pc := 8) (tgt := 14) dX10_apart_8 (by decide) ?_
    refine x_ret (pc := 14) (v := some _) rfl trivial dX10_apart_14 (by decide) ?_
    rw [show a - b + (b - a) = a - b by omega] at h; exact h
theorem sm_isNext {a b : Nat} (ha : a < 16) (hb : b < 16) (h : K (some (.int (nI (b2n (adj a b))))) xSF M) : Ex g (d + 1) yX10_isNext mX10_isNext [.ref 65, .int (nI a), .int (nI b)] xSF M K := by
  rw [← nxt_adj a ha b hb] at h
  refine x_entry kX10_isNext (Nat.le_of_ble_eq_true rfl) ?_
  show Wp g _ mX10_isNext 0 [some (.ref 65), some (.int (nI a)), some (.int (nI b))] [] _ _ _ _
  refine x_aload_n (pc := 0) dX10_isNext_0 rfl ?_
  refine x_iload_n (pc := 1) dX10_isNext_1 rfl ?_
  refine x_iconstN (pc := 2) 4 dX10_isNext_2 ic_4 ?_
  first | (guard_target =~ Wp _ _ _ _ _ (Value.int (nI _) :: Value.int (nI _) :: _) _ _ _ _; with_reducible refine x_idivN (pc := 3) ?_ ?_ ?_ dX10_isNext_3 ?_; omega; omega; omega) | refine x_idiv (pc := 3) dX10_isNext_3 (by assumption) ?_
  refine x_iload_n (pc := 4) dX10_isNext_4 rfl ?_
  refine x_iconstN (pc := 5) 4 dX10_isNext_5 ic_4 ?_
  first | (guard_target =~ Wp _ _ _ _ _ (Value.int (nI _) :: Value.int (nI _) :: _) _ _ _ _; with_reducible refine x_idivN (pc := 6) ?_ ?_ ?_ dX10_isNext_6 ?_; omega; omega; omega) | refine x_idiv (pc := 6) dX10_isNext_6 (by assumption) ?_
  refine x_invV2 (pc := 7) dX10_isNext_7 mlX10_249 imX10_apart seX10_apart kX10_apart (by first | assumption | rfl) rfl (Nat.le_of_ble_eq_true rfl) (by decide) ?_
  refine sm_apart (by omega) (by omega) ?_
  refine x_cv rfl rfl ?_
  refine x_aload_n (pc := 10) dX10_isNext_10 rfl ?_
  refine x_iload_n (pc := 11) dX10_isNext_11 rfl ?_
  refine x_iconstN (pc := 12) 4 dX10_isNext_12 ic_4 ?_
  first | (guard_target =~ Wp _ _ _ _ _ (Value.int (nI _) :: Value.int (nI _) :: _) _ _ _ _; with_reducible refine x_iremN (pc := 13) ?_ ?_ ?_ dX10_isNext_13 ?_; omega; omega; omega) | refine x_irem (pc := 13) dX10_isNext_13 (by assumption) ?_
  refine x_iload_n (pc := 14) dX10_isNext_14 rfl ?_
  refine x_iconstN (pc := 15) 4 dX10_isNext_15 ic_4 ?_
  first | (guard_target =~ Wp _ _ _ _ _ (Value.int (nI _) :: Value.int (nI _) :: _) _ _ _ _; with_reducible refine x_iremN (pc := 16) ?_ ?_ ?_ dX10_isNext_16 ?_; omega; omega; omega) | refine x_irem (pc := 16) dX10_isNext_16 (by assumption) ?_
  refine x_invV2 (pc := 17) dX10_isNext_17 mlX10_249 imX10_apart seX10_apart kX10_apart (by first | assumption | rfl) rfl (Nat.le_of_ble_eq_true rfl) (by decide) ?_
  refine sm_apart (by omega) (by omega) ?_
  refine x_cv rfl rfl ?_
  first | (guard_target =~ Wp _ _ _ _ _ (Value.int (nI _) :: Value.int (nI _) :: _) _ _ _ _; with_reducible refine x_iaddN (pc := 20) dX10_isNext_20 ?_) | refine x_iadd (pc := 20) dX10_isNext_20 ?_
  refine x_iconstN (pc := 21) 1 dX10_isNext_21 ic_1 ?_
  first | (guard_target =~ Wp _ _ _ _ _ (Value.int (nI _) :: Value.int (nI _) :: _) _ _ _ _; with_reducible refine x_icmp_neN (pc := 22) (tgt := 29) ?_ ?_ dX10_isNext_22 ?_ (fun h22 => ?_) (fun h22 => ?_); (first | omega | exact b2n_31 _); (first | omega | exact b2n_31 _); decide) | refine x_icmp_ne (pc := 22) (tgt := 29) dX10_isNext_22 (by decide) (fun h22 => ?_) (fun h22 => ?_)
  · skip
    refine x_iconstN (pc := 29) 0 dX10_isNext_29 ic_0 ?_
    refine x_ret (pc := 30) (v := some _) rfl (by first | rfl | decide | exact xrt_b) dX10_isNext_30 (by decide) ?_
    rw [decide_eq_false h22] at h; exact h
  · skip
    refine x_iconstN (pc := 25) 1 dX10_isNext_25 ic_1 ?_
    refine x_goto (pc := 26) (tgt := 30) dX10_isNext_26 (by decide) ?_
    refine x_ret (pc := 30) (v := some _) rfl (by first | rfl | decide | exact xrt_b) dX10_isNext_30 (by decide) ?_
    rw [decide_eq_true h22] at h; exact h
theorem sm_isCell {c : Int32} (h : K (some (.int (nI (b2n (isR c (nI 16)))))) xSF M) : Ex g (d + 1) yX10_isCell mX10_isCell [.ref 65, .int c] xSF M K := by
  refine x_entry kX10_isCell (Nat.le_of_ble_eq_true rfl) ?_
  show Wp g _ mX10_isCell 0 [some (.ref 65), some (.int c)] [] _ _ _ _
  refine x_aload_n (pc := 0) dX10_isCell_0 rfl ?_
  refine x_iload_n (pc := 1) dX10_isCell_1 rfl ?_
  refine x_iconstN (pc := 2) 0 dX10_isCell_2 ic_0 ?_
  refine x_bipushN (pc := 3) 15 dX10_isCell_3 bp_15 ?_
  refine x_invV3 (pc := 5) dX10_isCell_5 mlX10_253 imX10_in seX10_in kX10_in (by first | assumption | rfl) rfl (Nat.le_of_ble_eq_true rfl) (by decide) ?_
  refine sm_in ?_
  refine x_cv rfl rfl ?_
  rw [btw_isR (by decide)]
  refine x_ret (pc := 8) (v := some _) rfl (by first | rfl | decide | exact xrt_b) dX10_isCell_8 (by decide) ?_
  exact h
theorem sm_isWear {c : Int32} (h : K (some (.int (nI (b2n (isR c (nI 10000)))))) xSF M) : Ex g (d + 1) yX10_isWear mX10_isWear [.ref 65, .int c] xSF M K := by
  refine x_entry kX10_isWear (Nat.le_of_ble_eq_true rfl) ?_
  show Wp g _ mX10_isWear 0 [some (.ref 65), some (.int c)] [] _ _ _ _
  refine x_aload_n (pc := 0) dX10_isWear_0 rfl ?_
  refine x_iload_n (pc := 1) dX10_isWear_1 rfl ?_
  refine x_iconstN (pc := 2) 0 dX10_isWear_2 ic_0 ?_
  refine x_sipushN (pc := 3) 9999 dX10_isWear_3 sp_9999 ?_
  refine x_invV3 (pc := 6) dX10_isWear_6 mlX10_253 imX10_in seX10_in kX10_in (by first | assumption | rfl) rfl (Nat.le_of_ble_eq_true rfl) (by decide) ?_
  refine sm_in ?_
  refine x_cv rfl rfl ?_
  rw [btw_isR (by decide)]
  refine x_ret (pc := 9) (v := some _) rfl (by first | rfl | decide | exact xrt_b) dX10_isWear_9 (by decide) ?_
  exact h
theorem sm_isDays {c : Int32} (h : K (some (.int (nI (b2n (isR c (nI 61)))))) xSF M) : Ex g (d + 1) yX10_isDays mX10_isDays [.ref 65, .int c] xSF M K := by
  refine x_entry kX10_isDays (Nat.le_of_ble_eq_true rfl) ?_
  show Wp g _ mX10_isDays 0 [some (.ref 65), some (.int c)] [] _ _ _ _
  refine x_aload_n (pc := 0) dX10_isDays_0 rfl ?_
  refine x_iload_n (pc := 1) dX10_isDays_1 rfl ?_
  refine x_iconstN (pc := 2) 0 dX10_isDays_2 ic_0 ?_
  refine x_bipushN (pc := 3) 60 dX10_isDays_3 bp_60 ?_
  refine x_invV3 (pc := 5) dX10_isDays_5 mlX10_253 imX10_in seX10_in kX10_in (by first | assumption | rfl) rfl (Nat.le_of_ble_eq_true rfl) (by decide) ?_
  refine sm_in ?_
  refine x_cv rfl rfl ?_
  rw [btw_isR (by decide)]
  refine x_ret (pc := 8) (v := some _) rfl (by first | rfl | decide | exact xrt_b) dX10_isDays_8 (by decide) ?_
  exact h
theorem sm_isGoer {c : Int32} {n : Nat} (hn : n ≤ 6) (hg : M.1 65 0 = nI n) (h : K (some (.int (nI (b2n (isR c (nI n)))))) xSF M) : Ex g (d + 1) yX10_isGoer mX10_isGoer [.ref 65, .int c] xSF M K := by
  refine x_entry kX10_isGoer (Nat.le_of_ble_eq_true rfl) ?_
  show Wp g _ mX10_isGoer 0 [some (.ref 65), some (.int c)] [] _ _ _ _
  refine x_aload_n (pc := 0) dX10_isGoer_0 rfl ?_
  refine x_iload_n (pc := 1) dX10_isGoer_1 rfl ?_
  refine x_iconstN (pc := 2) 0 dX10_isGoer_2 ic_0 ?_
  refine x_aload_n (pc := 3) dX10_isGoer_3 rfl ?_
  refine x_getI (pc := 4) dX10_isGoer_4 flX10_7 (by first | assumption | rfl) rfl ?_
  rw [hg]
  refine x_iconstN (pc := 7) 1 dX10_isGoer_7 ic_1 ?_
  refine x_isub (pc := 8) dX10_isGoer_8 ?_
  refine x_invV3 (pc := 9) dX10_isGoer_9 mlX10_253 imX10_in seX10_in kX10_in (by first | assumption | rfl) rfl (Nat.le_of_ble_eq_true rfl) (by decide) ?_
  refine sm_in ?_
  refine x_cv rfl rfl ?_
  rw [btw_m1 (by omega)]
  refine x_ret (pc := 12) (v := some _) rfl (by first | rfl | decide | exact xrt_b) dX10_isGoer_12 (by decide) ?_
  exact h
end P54
