/-! the MODEL's calls: away, stand, move, feed -/
theorem tb_m32 (i : Nat) : (4294967295 : Nat).testBit i = decide (i < 32) := by
  rw [show (4294967295 : Nat) = 2 ^ 32 - 1 by decide, Nat.testBit_two_pow_sub_one]
theorem setN_x {f c : Nat} {b : Bool} (hf : f < 65536) (hc : c < 16) : setN f c b = if f.testBit c = b then f else f ^^^ 2 ^ c := by
  apply Nat.eq_of_testBit_eq
  intro i
  have h32 : 32 ≤ i → f.testBit i = false := fun h => Nat.testBit_lt_two_pow (Nat.lt_of_lt_of_le hf (Nat.le_trans (by decide : 65536 ≤ 2 ^ 32) (Nat.pow_le_pow_right (by decide) h)))
  by_cases hi : i = c
  · subst hi
    cases b <;> cases e : f.testBit i <;> simp [setN, Nat.testBit_or, Nat.testBit_and, Nat.testBit_xor, Nat.testBit_two_pow, tb_m32, e] <;> omega
  · have h2 : ¬ c = i := fun q => hi q.symm
    cases b <;> cases e : f.testBit c <;> simp [setN, Nat.testBit_or, Nat.testBit_and, Nat.testBit_xor, Nat.testBit_two_pow, tb_m32, e, h2] <;> (intro q; by_cases h : i < 32; exact h; rw [h32 (by omega)] at q; cases q)
section P62
variable {g : XG} {d : Nat} {M : XM} {K : Option Value → XS → XM → Prop} {s : XSt}
theorem sm_goes {k W : Nat} {b : Bool} (hk : k < 6) (hW : W < 64) (h1 : M.1 65 1 = nI W) (h : K none xSF (xput M 65 1 (nI (setN W k b)))) : Ex g d yX10_goes mX10_goes [.ref 65, .int (nI k), .int (nI (b2n b))] xSF M K := by
  rw [← setB_N hW hk, ← h1] at h
  refine x_entry kX10_goes (Nat.le_of_ble_eq_true rfl) ?_
  show Wp g _ mX10_goes 0 [some (.ref 65), some (.int (nI k)), some (.int (nI (b2n b)))] [] _ _ _ _
  refine x_aload_n (pc := 0) dX10_goes_0 rfl ?_
  refine x_iload_n (pc := 1) dX10_goes_1 rfl ?_
  first | (guard_target =~ Wp _ _ _ _ _ (Value.int (nI _) :: _) _ _ _ _; with_reducible refine x_if_eqN (pc := 2) (tgt := 16) ?_ dX10_goes_2 ?_ (fun h2 => ?_) (fun h2 => ?_); (first | omega | exact b2n_32 _ | exact b2n_31 _); decide) | refine x_if_eq (pc := 2) (tgt := 16) dX10_goes_2 (by decide) (fun h2 => ?_) (fun h2 => ?_)
  · skip
    refine x_aload_n (pc := 16) dX10_goes_16 rfl ?_
    refine x_getI (pc := 17) dX10_goes_17 flX10_13 (by first | assumption | rfl) rfl ?_
    refine x_iconstN (pc := 20) 1 dX10_goes_20 ic_1 ?_
    refine x_iload_n (pc := 21) dX10_goes_21 rfl ?_
    first | (guard_target =~ Wp _ _ _ _ _ (Value.int (nI _) :: Value.int (nI _) :: _) _ _ _ _; with_reducible refine x_ishlN (pc := 22) ?_ dX10_goes_22 ?_; omega) | refine x_ishl (pc := 22) dX10_goes_22 ?_
    rw [Nat.one_mul]
    refine x_iconst (pc := 23) dX10_goes_23 ic_m1 ?_
    refine x_ixor (pc := 24) dX10_goes_24 ?_
    refine x_iand (pc := 25) dX10_goes_25 ?_
    refine x_putI (pc := 26) dX10_goes_26 flX10_13 (by first | assumption | rfl) rfl rfl rfl ?_
    refine x_ret (pc := 29) (v := none) rfl trivial dX10_goes_29 (by decide) ?_
    rw [b2n_0 h2] at h; exact h
  · skip
    refine x_aload_n (pc := 5) dX10_goes_5 rfl ?_
    refine x_getI (pc := 6) dX10_goes_6 flX10_13 (by first | assumption | rfl) rfl ?_
    refine x_iconstN (pc := 9) 1 dX10_goes_9 ic_1 ?_
    refine x_iload_n (pc := 10) dX10_goes_10 rfl ?_
    first | (guard_target =~ Wp _ _ _ _ _ (Value.int (nI _) :: Value.int (nI _) :: _) _ _ _ _; with_reducible refine x_ishlN (pc := 11) ?_ dX10_goes_11 ?_; omega) | refine x_ishl (pc := 11) dX10_goes_11 ?_
    rw [Nat.one_mul]
    refine x_ior (pc := 12) dX10_goes_12 ?_
    refine x_goto (pc := 13) (tgt := 26) dX10_goes_13 (by decide) ?_
    refine x_putI (pc := 26) dX10_goes_26 flX10_13 (by first | assumption | rfl) rfl rfl rfl ?_
    refine x_ret (pc := 29) (v := none) rfl trivial dX10_goes_29 (by decide) ?_
    rw [b2n_1 h2] at h; exact h
theorem fM_away {x : Int32} {b : Bool} (hB : bdA s.1.1) (hw : s.1.2.1 < 2 ^ s.1.1 8 0) (hC : MC9 M s) (h : ∀ M', high M M' → MC9 M' (opAway s x b).2 → K (some (.int (opAway s x b).1)) xSF M') : Ex g (d + 2) yX10_away mX10_away [.ref 65, .int x, .int (nI (b2n b))] xSF M K := by
  unfold opAway at h
  have h6 := hB.2.1
  have hW := w64 hw h6
  refine x_entry kX10_away (Nat.le_of_ble_eq_true rfl) ?_
  show Wp g _ mX10_away 0 [some (.ref 65), some (.int x), some (.int (nI (b2n b))), none] [] _ _ _ _
  rcases isR_cases (x := x) (n := s.1.1 8 0) (by omega) with e | ⟨j, hj, rfl, e⟩
  · simp only [e, Bool.false_eq_true, if_false] at h
    refine x_aload_n (pc := 0) dX10_away_0 rfl ?_
    refine x_iload_n (pc := 1) dX10_away_1 rfl ?_
    refine x_invV1 (pc := 2) dX10_away_2 mlX10_264 imX10_isGoer seX10_isGoer kX10_isGoer (by first | assumption | rfl) rfl (Nat.le_of_ble_eq_true rfl) (by decide) ?_
    refine sm_isGoer h6 hC.1.1 ?_
    refine x_cv rfl rfl ?_
    rw [e]
    first | (guard_target =~ Wp _ _ _ _ _ (Value.int (nI _) :: _) _ _ _ _; with_reducible refine x_if_neN (pc := 5) (tgt := 10) ?_ dX10_away_5 ?_ (fun h5 => ?_) (fun h5 => ?_); (first | omega | exact b2n_32 _ | exact b2n_31 _); decide) | refine x_if_ne (pc := 5) (tgt := 10) dX10_away_5 (by decide) (fun h5 => ?_) (fun h5 => ?_)
    · skip
      exact absurd rfl h5
    · skip
      refine x_iconst (pc := 8) dX10_away_8 ic_m1 ?_
      refine x_ret (pc := 9) (v := some _) rfl trivial dX10_away_9 (by decide) ?_
      exact h M high.rf hC
  · simp only [e, if_true] at h
    rw [toN_nI (by omega)] at h
    have hq : MC9 (xput M 65 1 (nI (setN s.1.2.1 j b))) ((s.1.1, setN s.1.2.1 j b, s.1.2.2), s.2) := hC.up (.put rfl) (hC.1.num 1 _ (by decide) hC.1.1 rfl hC.1.2.2.1 hC.1.2.2.2.1 hC.1.2.2.2.2.1 rfl (fun _ _ _ _ => rfl) (by decide))
    refine x_aload_n (pc := 0) dX10_away_0 rfl ?_
    refine x_iload_n (pc := 1) dX10_away_1 rfl ?_
    refine x_invV1 (pc := 2) dX10_away_2 mlX10_264 imX10_isGoer seX10_isGoer kX10_isGoer (by first | assumption | rfl) rfl (Nat.le_of_ble_eq_true rfl) (by decide) ?_
    refine sm_isGoer h6 hC.1.1 ?_
    refine x_cv rfl rfl ?_
    rw [e]
    first | (guard_target =~ Wp _ _ _ _ _ (Value.int (nI _) :: _) _ _ _ _; with_reducible refine x_if_neN (pc := 5) (tgt := 10) ?_ dX10_away_5 ?_ (fun h5 => ?_) (fun h5 => ?_); (first | omega | exact b2n_32 _ | exact b2n_31 _); decide) | refine x_if_ne (pc := 5) (tgt := 10) dX10_away_5 (by decide) (fun h5 => ?_) (fun h5 => ?_)
    · skip
      refine x_aload_n (pc := 10) dX10_away_10 rfl ?_
      refine x_aload_n (pc := 11) dX10_away_11 rfl ?_
      refine x_getI (pc := 12) dX10_away_12 flX10_13 (by first | assumption | rfl) rfl ?_
      rw [hC.1.2.1]
      refine x_iload_n (pc := 15) dX10_away_15 rfl ?_
      refine x_invV2 (pc := 16) dX10_away_16 mlX10_245 imX10_has seX10_has kX10_has (by first | assumption | rfl) rfl (Nat.le_of_ble_eq_true rfl) (by decide) ?_
      refine sm_has (by omega) ?_
      refine x_cv rfl rfl ?_
      rw [tb_nI (by omega)]
      first | (guard_target =~ Wp _ _ _ _ _ (Value.int (nI _) :: _) _ _ _ _; with_reducible refine x_if_eqN (pc := 19) (tgt := 26) ?_ dX10_away_19 ?_ (fun h19 => ?_) (fun h19 => ?_); (first | omega | exact b2n_32 _ | exact b2n_31 _); decide) | refine x_if_eq (pc := 19) (tgt := 26) dX10_away_19 (by decide) (fun h19 => ?_) (fun h19 => ?_)
      · skip
        refine x_iconstN (pc := 26) 0 dX10_away_26 ic_0 ?_
        refine x_istore_n (pc := 27) dX10_away_27 (by decide) xs_3 (x_hp rfl) ?_
        refine x_aload_n (pc := 28) dX10_away_28 rfl ?_
        refine x_iload_n (pc := 29) dX10_away_29 rfl ?_
        refine x_iload_n (pc := 30) dX10_away_30 rfl ?_
        refine x_invV2 (pc := 31) dX10_away_31 mlX10_267 imX10_goes seX10_goes kX10_goes (by first | assumption | rfl) rfl (Nat.le_of_ble_eq_true rfl) (by decide) ?_
        refine sm_goes (by omega) hW hC.1.2.1 ?_
        refine x_cn rfl rfl ?_
        refine x_iload_n (pc := 34) dX10_away_34 rfl ?_
        refine x_ret (pc := 35) (v := some _) rfl trivial dX10_away_35 (by decide) ?_
        rw [b2n_0 h19] at h; exact h _ (high.put (by decide)) hq
      · skip
        refine x_iconstN (pc := 22) 1 dX10_away_22 ic_1 ?_
        refine x_goto (pc := 23) (tgt := 27) dX10_away_23 (by decide) ?_
        refine x_istore_n (pc := 27) dX10_away_27 (by decide) xs_3 (x_hp rfl) ?_
        refine x_aload_n (pc := 28) dX10_away_28 rfl ?_
        refine x_iload_n (pc := 29) dX10_away_29 rfl ?_
        refine x_iload_n (pc := 30) dX10_away_30 rfl ?_
        refine x_invV2 (pc := 31) dX10_away_31 mlX10_267 imX10_goes seX10_goes kX10_goes (by first | assumption | rfl) rfl (Nat.le_of_ble_eq_true rfl) (by decide) ?_
        refine sm_goes (by omega) hW hC.1.2.1 ?_
        refine x_cn rfl rfl ?_
        refine x_iload_n (pc := 34) dX10_away_34 rfl ?_
        refine x_ret (pc := 35) (v := some _) rfl trivial dX10_away_35 (by decide) ?_
        rw [b2n_1 h19] at h; exact h _ (high.put (by decide)) hq
    · skip
      cases h5
theorem fM_stand {c : Int32} {b : Bool} (hB : bdA s.1.1) (hC : MC9 M s) (h : ∀ M', high M M' → MC9 M' (opStand s c b).2 → K (some (.int (opStand s c b).1)) xSF M') : Ex g (d + 2) yX10_stand mX10_stand [.ref 65, .int c, .int (nI (b2n b))] xSF M K := by
  unfold opStand at h
  have hF := hB.2.2
  refine x_entry kX10_stand (Nat.le_of_ble_eq_true rfl) ?_
  show Wp g _ mX10_stand 0 [some (.ref 65), some (.int c), some (.int (nI (b2n b))), none] [] _ _ _ _
  rcases isR_cases (x := c) (n := 16) (by decide) with e | ⟨j, hj, rfl, e⟩
  · simp only [e, Bool.false_eq_true, if_false] at h
    refine x_aload_n (pc := 0) dX10_stand_0 rfl ?_
    refine x_iload_n (pc := 1) dX10_stand_1 rfl ?_
    refine x_invV1 (pc := 2) dX10_stand_2 mlX10_257 imX10_isCell seX10_isCell kX10_isCell (by first | assumption | rfl) rfl (Nat.le_of_ble_eq_true rfl) (by decide) ?_
    refine sm_isCell ?_
    refine x_cv rfl rfl ?_
    rw [e]
    first | (guard_target =~ Wp _ _ _ _ _ (Value.int (nI _) :: _) _ _ _ _; with_reducible refine x_if_neN (pc := 5) (tgt := 10) ?_ dX10_stand_5 ?_ (fun h5 => ?_) (fun h5 => ?_); (first | omega | exact b2n_32 _ | exact b2n_31 _); decide) | refine x_if_ne (pc := 5) (tgt := 10) dX10_stand_5 (by decide) (fun h5 => ?_) (fun h5 => ?_)
    · skip
      exact absurd rfl h5
    · skip
      refine x_iconst (pc := 8) dX10_stand_8 ic_m1 ?_
      refine x_ret (pc := 9) (v := some _) rfl trivial dX10_stand_9 (by decide) ?_
      exact h M high.rf hC
  · simp only [e, if_true] at h
    rw [toN_nI (by omega)] at h
    have hq : MC9 (xput M 65 2 (setB (M.1 65 2) j b)) (if (s.1.1 10 0).testBit j = b then s else withA s (furA s.1.1 (s.1.1 10 0 ^^^ 2 ^ j))) := by
      have hv : setB (M.1 65 2) j b = nI (setN (s.1.1 10 0) j b) := by
        rw [hC.1.2.2.1]
        cases b with
        | true => show nI _ ||| nI (2 ^ j) = _; rw [nI_or]; rfl
        | false =>
          show nI (s.1.1 10 0) &&& (nI (2 ^ j) ^^^ -1) = nI (s.1.1 10 0 &&& (2 ^ j ^^^ 4294967295))
          rw [show (-1 : Int32) = nI 4294967295 by decide +kernel, nI_xor, nI_and]
      rw [hv, setN_x hF hj]
      by_cases h2 : (s.1.1 10 0).testBit j = b
      · rw [if_pos h2, if_pos h2]
        exact hC.up (.put rfl) (hC.1.num 2 _ (by decide) hC.1.1 hC.1.2.1 rfl hC.1.2.2.2.1 hC.1.2.2.2.2.1 rfl (fun _ _ _ _ => rfl) (by decide))
      · rw [if_neg h2, if_neg h2]
        refine hC.up (.put rfl) (hC.1.num 2 _ (by decide) ?_ hC.1.2.1 ?_ ?_ hC.1.2.2.2.2.1 rfl (fun k hk j' _ => furA_e (by omega) (by omega)) (by decide))
        · exact hC.1.1.trans (congrArg nI (furA_e (f := s.1.1 10 0 ^^^ 2 ^ j) (k := 8) (by decide) (by decide)).symm)
        · show nI _ = nI _
          exact congrArg nI (by simp [furA, updA])
        · exact hC.1.2.2.2.1.trans (congrArg nI (furA_e (f := s.1.1 10 0 ^^^ 2 ^ j) (k := 11) (by decide) (by decide)).symm)
    refine x_aload_n (pc := 0) dX10_stand_0 rfl ?_
    refine x_iload_n (pc := 1) dX10_stand_1 rfl ?_
    refine x_invV1 (pc := 2) dX10_stand_2 mlX10_257 imX10_isCell seX10_isCell kX10_isCell (by first | assumption | rfl) rfl (Nat.le_of_ble_eq_true rfl) (by decide) ?_
    refine sm_isCell ?_
    refine x_cv rfl rfl ?_
    rw [e]
    first | (guard_target =~ Wp _ _ _ _ _ (Value.int (nI _) :: _) _ _ _ _; with_reducible refine x_if_neN (pc := 5) (tgt := 10) ?_ dX10_stand_5 ?_ (fun h5 => ?_) (fun h5 => ?_); (first | omega | exact b2n_32 _ | exact b2n_31 _); decide) | refine x_if_ne (pc := 5) (tgt := 10) dX10_stand_5 (by decide) (fun h5 => ?_) (fun h5 => ?_)
    · skip
      refine x_aload_n (pc := 10) dX10_stand_10 rfl ?_
      refine x_aload_n (pc := 11) dX10_stand_11 rfl ?_
      refine x_getI (pc := 12) dX10_stand_12 flX10_16 (by first | assumption | rfl) rfl ?_
      rw [hC.1.2.2.1]
      refine x_iload_n (pc := 15) dX10_stand_15 rfl ?_
      refine x_invV2 (pc := 16) dX10_stand_16 mlX10_245 imX10_has seX10_has kX10_has (by first | assumption | rfl) rfl (Nat.le_of_ble_eq_true rfl) (by decide) ?_
      refine sm_has (by omega) ?_
      refine x_cv rfl rfl ?_
      rw [tb_nI (by omega)]
      first | (guard_target =~ Wp _ _ _ _ _ (Value.int (nI _) :: _) _ _ _ _; with_reducible refine x_if_eqN (pc := 19) (tgt := 26) ?_ dX10_stand_19 ?_ (fun h19 => ?_) (fun h19 => ?_); (first | omega | exact b2n_32 _ | exact b2n_31 _); decide) | refine x_if_eq (pc := 19) (tgt := 26) dX10_stand_19 (by decide) (fun h19 => ?_) (fun h19 => ?_)
      · skip
        refine x_iconstN (pc := 26) 0 dX10_stand_26 ic_0 ?_
        refine x_istore_n (pc := 27) dX10_stand_27 (by decide) xs_3 (x_hp rfl) ?_
        refine x_aload_n (pc := 28) dX10_stand_28 rfl ?_
        refine x_iload_n (pc := 29) dX10_stand_29 rfl ?_
        first | (guard_target =~ Wp _ _ _ _ _ (Value.int (nI _) :: _) _ _ _ _; with_reducible refine x_if_eqN (pc := 30) (tgt := 44) ?_ dX10_stand_30 ?_ (fun h30 => ?_) (fun h30 => ?_); (first | omega | exact b2n_32 _ | exact b2n_31 _); decide) | refine x_if_eq (pc := 30) (tgt := 44) dX10_stand_30 (by decide) (fun h30 => ?_) (fun h30 => ?_)
        · skip
          refine x_aload_n (pc := 44) dX10_stand_44 rfl ?_
          refine x_getI (pc := 45) dX10_stand_45 flX10_16 (by first | assumption | rfl) rfl ?_
          refine x_iconstN (pc := 48) 1 dX10_stand_48 ic_1 ?_
          refine x_iload_n (pc := 49) dX10_stand_49 rfl ?_
          first | (guard_target =~ Wp _ _ _ _ _ (Value.int (nI _) :: Value.int (nI _) :: _) _ _ _ _; with_reducible refine x_ishlN (pc := 50) ?_ dX10_stand_50 ?_; omega) | refine x_ishl (pc := 50) dX10_stand_50 ?_
          rw [Nat.one_mul]
          refine x_iconst (pc := 51) dX10_stand_51 ic_m1 ?_
          refine x_ixor (pc := 52) dX10_stand_52 ?_
          refine x_iand (pc := 53) dX10_stand_53 ?_
          refine x_putI (pc := 54) dX10_stand_54 flX10_16 (by first | assumption | rfl) rfl rfl rfl ?_
          refine x_iload_n (pc := 57) dX10_stand_57 rfl ?_
          refine x_ret (pc := 58) (v := some _) rfl trivial dX10_stand_58 (by decide) ?_
          rw [b2n_0 h19] at hq h; rw [b2n_0 h30] at hq h; exact h _ (high.put (by decide)) hq
        · skip
          refine x_aload_n (pc := 33) dX10_stand_33 rfl ?_
          refine x_getI (pc := 34) dX10_stand_34 flX10_16 (by first | assumption | rfl) rfl ?_
          refine x_iconstN (pc := 37) 1 dX10_stand_37 ic_1 ?_
          refine x_iload_n (pc := 38) dX10_stand_38 rfl ?_
          first | (guard_target =~ Wp _ _ _ _ _ (Value.int (nI _) :: Value.int (nI _) :: _) _ _ _ _; with_reducible refine x_ishlN (pc := 39) ?_ dX10_stand_39 ?_; omega) | refine x_ishl (pc := 39) dX10_stand_39 ?_
          rw [Nat.one_mul]
          refine x_ior (pc := 40) dX10_stand_40 ?_
          refine x_goto (pc := 41) (tgt := 54) dX10_stand_41 (by decide) ?_
          refine x_putI (pc := 54) dX10_stand_54 flX10_16 (by first | assumption | rfl) rfl rfl rfl ?_
          refine x_iload_n (pc := 57) dX10_stand_57 rfl ?_
          refine x_ret (pc := 58) (v := some _) rfl trivial dX10_stand_58 (by decide) ?_
          rw [b2n_0 h19] at hq h; rw [b2n_1 h30] at hq h; exact h _ (high.put (by decide)) hq
      · skip
        refine x_iconstN (pc := 22) 1 dX10_stand_22 ic_1 ?_
        refine x_goto (pc := 23) (tgt := 27) dX10_stand_23 (by decide) ?_
        refine x_istore_n (pc := 27) dX10_stand_27 (by decide) xs_3 (x_hp rfl) ?_
        refine x_aload_n (pc := 28) dX10_stand_28 rfl ?_
        refine x_iload_n (pc := 29) dX10_stand_29 rfl ?_
        first | (guard_target =~ Wp _ _ _ _ _ (Value.int (nI _) :: _) _ _ _ _; with_reducible refine x_if_eqN (pc := 30) (tgt := 44) ?_ dX10_stand_30 ?_ (fun h30 => ?_) (fun h30 => ?_); (first | omega | exact b2n_32 _ | exact b2n_31 _); decide) | refine x_if_eq (pc := 30) (tgt := 44) dX10_stand_30 (by decide) (fun h30 => ?_) (fun h30 => ?_)
        · skip
          refine x_aload_n (pc := 44) dX10_stand_44 rfl ?_
          refine x_getI (pc := 45) dX10_stand_45 flX10_16 (by first | assumption | rfl) rfl ?_
          refine x_iconstN (pc := 48) 1 dX10_stand_48 ic_1 ?_
          refine x_iload_n (pc := 49) dX10_stand_49 rfl ?_
          first | (guard_target =~ Wp _ _ _ _ _ (Value.int (nI _) :: Value.int (nI _) :: _) _ _ _ _; with_reducible refine x_ishlN (pc := 50) ?_ dX10_stand_50 ?_; omega) | refine x_ishl (pc := 50) dX10_stand_50 ?_
          rw [Nat.one_mul]
          refine x_iconst (pc := 51) dX10_stand_51 ic_m1 ?_
          refine x_ixor (pc := 52) dX10_stand_52 ?_
          refine x_iand (pc := 53) dX10_stand_53 ?_
          refine x_putI (pc := 54) dX10_stand_54 flX10_16 (by first | assumption | rfl) rfl rfl rfl ?_
          refine x_iload_n (pc := 57) dX10_stand_57 rfl ?_
          refine x_ret (pc := 58) (v := some _) rfl trivial dX10_stand_58 (by decide) ?_
          rw [b2n_1 h19] at hq h; rw [b2n_0 h30] at hq h; exact h _ (high.put (by decide)) hq
        · skip
          refine x_aload_n (pc := 33) dX10_stand_33 rfl ?_
          refine x_getI (pc := 34) dX10_stand_34 flX10_16 (by first | assumption | rfl) rfl ?_
          refine x_iconstN (pc := 37) 1 dX10_stand_37 ic_1 ?_
          refine x_iload_n (pc := 38) dX10_stand_38 rfl ?_
          first | (guard_target =~ Wp _ _ _ _ _ (Value.int (nI _) :: Value.int (nI _) :: _) _ _ _ _; with_reducible refine x_ishlN (pc := 39) ?_ dX10_stand_39 ?_; omega) | refine x_ishl (pc := 39) dX10_stand_39 ?_
          rw [Nat.one_mul]
          refine x_ior (pc := 40) dX10_stand_40 ?_
          refine x_goto (pc := 41) (tgt := 54) dX10_stand_41 (by decide) ?_
          refine x_putI (pc := 54) dX10_stand_54 flX10_16 (by first | assumption | rfl) rfl rfl rfl ?_
          refine x_iload_n (pc := 57) dX10_stand_57 rfl ?_
          refine x_ret (pc := 58) (v := some _) rfl trivial dX10_stand_58 (by decide) ?_
          rw [b2n_1 h19] at hq h; rw [b2n_1 h30] at hq h; exact h _ (high.put (by decide)) hq
    · skip
      cases h5
theorem fM_move {x w c : Int32} (hB : bdA s.1.1) (hC : MC9 M s) (h : ∀ M', high M M' → MC9 M' (opMove s x w c).2 → K (some (.int (opMove s x w c).1)) xSF M') : Ex g (d + 2) yX10_move mX10_move [.ref 65, .int x, .int w, .int c] xSF M K := by
  unfold opMove at h
  have hP := hC.1.2.2.2.2.2.1
  have h6 := hB.2.1
  refine x_entry kX10_move (Nat.le_of_ble_eq_true rfl) ?_
  show Wp g _ mX10_move 0 [some (.ref 65), some (.int x), some (.int w), some (.int c), none] [] _ _ _ _
  rcases isR_cases (x := x) (n := s.1.1 8 0) (by omega) with e | ⟨j, hj, rfl, e⟩
  · simp only [e, Bool.false_eq_true, if_false, false_and] at h
    refine x_aload_n (pc := 0) dX10_move_0 rfl ?_
    refine x_iload_n (pc := 1) dX10_move_1 rfl ?_
    refine x_invV1 (pc := 2) dX10_move_2 mlX10_264 imX10_isGoer seX10_isGoer kX10_isGoer (by first | assumption | rfl) rfl (Nat.le_of_ble_eq_true rfl) (by decide) ?_
    refine sm_isGoer h6 hC.1.1 ?_
    refine x_cv rfl rfl ?_
    rw [e]
    first | (guard_target =~ Wp _ _ _ _ _ (Value.int (nI _) :: _) _ _ _ _; with_reducible refine x_if_eqN (pc := 5) (tgt := 26) ?_ dX10_move_5 ?_ (fun h5 => ?_) (fun h5 => ?_); (first | omega | exact b2n_32 _ | exact b2n_31 _); decide) | refine x_if_eq (pc := 5) (tgt := 26) dX10_move_5 (by decide) (fun h5 => ?_) (fun h5 => ?_)
    · skip
      refine x_iconst (pc := 26) dX10_move_26 ic_m1 ?_
      refine x_ret (pc := 27) (v := some _) rfl trivial dX10_move_27 (by decide) ?_
      exact h M high.rf hC
    · skip
      exact absurd rfl h5
  rcases isR_cases (x := w) (n := 2) (by omega) with e2 | ⟨k, hk, rfl, e2⟩
  · simp only [e2, Bool.false_eq_true, if_false, false_and, and_false] at h
    refine x_aload_n (pc := 0) dX10_move_0 rfl ?_
    refine x_iload_n (pc := 1) dX10_move_1 rfl ?_
    refine x_invV1 (pc := 2) dX10_move_2 mlX10_264 imX10_isGoer seX10_isGoer kX10_isGoer (by first | assumption | rfl) rfl (Nat.le_of_ble_eq_true rfl) (by decide) ?_
    refine sm_isGoer h6 hC.1.1 ?_
    refine x_cv rfl rfl ?_
    rw [e]
    first | (guard_target =~ Wp _ _ _ _ _ (Value.int (nI _) :: _) _ _ _ _; with_reducible refine x_if_eqN (pc := 5) (tgt := 26) ?_ dX10_move_5 ?_ (fun h5 => ?_) (fun h5 => ?_); (first | omega | exact b2n_32 _ | exact b2n_31 _); decide) | refine x_if_eq (pc := 5) (tgt := 26) dX10_move_5 (by decide) (fun h5 => ?_) (fun h5 => ?_)
    · skip
      cases h5
    · skip
      refine x_aload_n (pc := 8) dX10_move_8 rfl ?_
      refine x_iload_n (pc := 9) dX10_move_9 rfl ?_
      refine x_iconstN (pc := 10) 0 dX10_move_10 ic_0 ?_
      refine x_iconstN (pc := 11) 1 dX10_move_11 ic_1 ?_
      refine x_invV3 (pc := 12) dX10_move_12 mlX10_253 imX10_in seX10_in kX10_in (by first | assumption | rfl) rfl (Nat.le_of_ble_eq_true rfl) (by decide) ?_
      refine sm_in ?_
      refine x_cv rfl rfl ?_
      rw [btw_isR (by decide), show isR w (nI (1 + 1)) = false from e2]
      first | (guard_target =~ Wp _ _ _ _ _ (Value.int (nI _) :: _) _ _ _ _; with_reducible refine x_if_eqN (pc := 15) (tgt := 26) ?_ dX10_move_15 ?_ (fun h15 => ?_) (fun h15 => ?_); (first | omega | exact b2n_32 _ | exact b2n_31 _); decide) | refine x_if_eq (pc := 15) (tgt := 26) dX10_move_15 (by decide) (fun h15 => ?_) (fun h15 => ?_)
      · skip
        refine x_iconst (pc := 26) dX10_move_26 ic_m1 ?_
        refine x_ret (pc := 27) (v := some _) rfl trivial dX10_move_27 (by decide) ?_
        exact h M high.rf hC
      · skip
        exact absurd rfl h15
  rcases isR_cases (x := c) (n := 16) (by omega) with e3 | ⟨v, hv, rfl, e3⟩
  · simp only [e3, Bool.false_eq_true, if_false, and_false] at h
    refine x_aload_n (pc := 0) dX10_move_0 rfl ?_
    refine x_iload_n (pc := 1) dX10_move_1 rfl ?_
    refine x_invV1 (pc := 2) dX10_move_2 mlX10_264 imX10_isGoer seX10_isGoer kX10_isGoer (by first | assumption | rfl) rfl (Nat.le_of_ble_eq_true rfl) (by decide) ?_
    refine sm_isGoer h6 hC.1.1 ?_
    refine x_cv rfl rfl ?_
    rw [e]
    first | (guard_target =~ Wp _ _ _ _ _ (Value.int (nI _) :: _) _ _ _ _; with_reducible refine x_if_eqN (pc := 5) (tgt := 26) ?_ dX10_move_5 ?_ (fun h5 => ?_) (fun h5 => ?_); (first | omega | exact b2n_32 _ | exact b2n_31 _); decide) | refine x_if_eq (pc := 5) (tgt := 26) dX10_move_5 (by decide) (fun h5 => ?_) (fun h5 => ?_)
    · skip
      cases h5
    · skip
      refine x_aload_n (pc := 8) dX10_move_8 rfl ?_
      refine x_iload_n (pc := 9) dX10_move_9 rfl ?_
      refine x_iconstN (pc := 10) 0 dX10_move_10 ic_0 ?_
      refine x_iconstN (pc := 11) 1 dX10_move_11 ic_1 ?_
      refine x_invV3 (pc := 12) dX10_move_12 mlX10_253 imX10_in seX10_in kX10_in (by first | assumption | rfl) rfl (Nat.le_of_ble_eq_true rfl) (by decide) ?_
      refine sm_in ?_
      refine x_cv rfl rfl ?_
      rw [btw_isR (by decide), show isR (nI k) (nI (1 + 1)) = true from e2]
      first | (guard_target =~ Wp _ _ _ _ _ (Value.int (nI _) :: _) _ _ _ _; with_reducible refine x_if_eqN (pc := 15) (tgt := 26) ?_ dX10_move_15 ?_ (fun h15 => ?_) (fun h15 => ?_); (first | omega | exact b2n_32 _ | exact b2n_31 _); decide) | refine x_if_eq (pc := 15) (tgt := 26) dX10_move_15 (by decide) (fun h15 => ?_) (fun h15 => ?_)
      · skip
        cases h15
      · skip
        refine x_aload_n (pc := 18) dX10_move_18 rfl ?_
        refine x_iload_n (pc := 19) dX10_move_19 rfl ?_
        refine x_invV1 (pc := 20) dX10_move_20 mlX10_257 imX10_isCell seX10_isCell kX10_isCell (by first | assumption | rfl) rfl (Nat.le_of_ble_eq_true rfl) (by decide) ?_
        refine sm_isCell ?_
        refine x_cv rfl rfl ?_
        rw [e3]
        first | (guard_target =~ Wp _ _ _ _ _ (Value.int (nI _) :: _) _ _ _ _; with_reducible refine x_if_neN (pc := 23) (tgt := 28) ?_ dX10_move_23 ?_ (fun h23 => ?_) (fun h23 => ?_); (first | omega | exact b2n_32 _ | exact b2n_31 _); decide) | refine x_if_ne (pc := 23) (tgt := 28) dX10_move_23 (by decide) (fun h23 => ?_) (fun h23 => ?_)
        · skip
          exact absurd rfl h23
        · skip
          refine x_iconst (pc := 26) dX10_move_26 ic_m1 ?_
          refine x_ret (pc := 27) (v := some _) rfl trivial dX10_move_27 (by decide) ?_
          exact h M high.rf hC
  simp only [e, e2, e3, and_self, if_true] at h
  rw [toN_nI (by omega), toN_nI (by omega), toN_nI (by omega)] at h
  have hq : MC9 (xput M (66 + (3 + k)) j (nI v)) (withA s (movA s.1.1 (3 + k) j v)) := by
    have hR := hC.1.row (3 + k) j v (by omega)
    have e : ∀ k' j', k' ≠ 6 → movA s.1.1 (3 + k) j v k' j' = updA s.1.1 (3 + k) j v k' j' := fun k' j' hk' => if_neg (fun q => hk' q.1)
    exact hC.up (.put (by have : k = 0 ∨ k = 1 := by omega
                          rcases this with rfl | rfl <;> rfl)) (hR.cgA (e _ _ (by decide)) (e _ _ (by decide)) (e _ _ (by decide)) (fun k' hk' j' _ => e _ _ (by omega)))
  refine x_aload_n (pc := 0) dX10_move_0 rfl ?_
  refine x_iload_n (pc := 1) dX10_move_1 rfl ?_
  refine x_invV1 (pc := 2) dX10_move_2 mlX10_264 imX10_isGoer seX10_isGoer kX10_isGoer (by first | assumption | rfl) rfl (Nat.le_of_ble_eq_true rfl) (by decide) ?_
  refine sm_isGoer h6 hC.1.1 ?_
  refine x_cv rfl rfl ?_
  rw [e]
  first | (guard_target =~ Wp _ _ _ _ _ (Value.int (nI _) :: _) _ _ _ _; with_reducible refine x_if_eqN (pc := 5) (tgt := 26) ?_ dX10_move_5 ?_ (fun h5 => ?_) (fun h5 => ?_); (first | omega | exact b2n_32 _ | exact b2n_31 _); decide) | refine x_if_eq (pc := 5) (tgt := 26) dX10_move_5 (by decide) (fun h5 => ?_) (fun h5 => ?_)
  · skip
    cases h5
  · skip
    refine x_aload_n (pc := 8) dX10_move_8 rfl ?_
    refine x_iload_n (pc := 9) dX10_move_9 rfl ?_
    refine x_iconstN (pc := 10) 0 dX10_move_10 ic_0 ?_
    refine x_iconstN (pc := 11) 1 dX10_move_11 ic_1 ?_
    refine x_invV3 (pc := 12) dX10_move_12 mlX10_253 imX10_in seX10_in kX10_in (by first | assumption | rfl) rfl (Nat.le_of_ble_eq_true rfl) (by decide) ?_
    refine sm_in ?_
    refine x_cv rfl rfl ?_
    rw [btw_isR (by decide), show isR (nI k) (nI (1 + 1)) = true from e2]
    first | (guard_target =~ Wp _ _ _ _ _ (Value.int (nI _) :: _) _ _ _ _; with_reducible refine x_if_eqN (pc := 15) (tgt := 26) ?_ dX10_move_15 ?_ (fun h15 => ?_) (fun h15 => ?_); (first | omega | exact b2n_32 _ | exact b2n_31 _); decide) | refine x_if_eq (pc := 15) (tgt := 26) dX10_move_15 (by decide) (fun h15 => ?_) (fun h15 => ?_)
    · skip
      cases h15
    · skip
      refine x_aload_n (pc := 18) dX10_move_18 rfl ?_
      refine x_iload_n (pc := 19) dX10_move_19 rfl ?_
      refine x_invV1 (pc := 20) dX10_move_20 mlX10_257 imX10_isCell seX10_isCell kX10_isCell (by first | assumption | rfl) rfl (Nat.le_of_ble_eq_true rfl) (by decide) ?_
      refine sm_isCell ?_
      refine x_cv rfl rfl ?_
      rw [e3]
      first | (guard_target =~ Wp _ _ _ _ _ (Value.int (nI _) :: _) _ _ _ _; with_reducible refine x_if_neN (pc := 23) (tgt := 28) ?_ dX10_move_23 ?_ (fun h23 => ?_) (fun h23 => ?_); (first | omega | exact b2n_32 _ | exact b2n_31 _); decide) | refine x_if_ne (pc := 23) (tgt := 28) dX10_move_23 (by decide) (fun h23 => ?_) (fun h23 => ?_)
      · skip
        refine x_iload_n (pc := 28) dX10_move_28 rfl ?_
        first | (guard_target =~ Wp _ _ _ _ _ (Value.int (nI _) :: _) _ _ _ _; with_reducible refine x_if_neN (pc := 29) (tgt := 41) ?_ dX10_move_29 ?_ (fun h29 => ?_) (fun h29 => ?_); (first | omega | exact b2n_32 _ | exact b2n_31 _); decide) | refine x_if_ne (pc := 29) (tgt := 41) dX10_move_29 (by decide) (fun h29 => ?_) (fun h29 => ?_)
        · skip
          refine x_aload_n (pc := 41) dX10_move_41 rfl ?_
          refine x_getR (pc := 42) dX10_move_42 flX10_35 (by first | assumption | rfl) rfl ?_
          refine x_iload_n (pc := 45) dX10_move_45 rfl ?_
          refine x_ialdN (pc := 46) dX10_move_46 (by first | assumption | rfl) (by first | with_reducible rfl | (simp only [xlit, nI_add, pk_mul]; with_reducible rfl)) (by omega) (by decide) ?_
          rw [show M.1 70 j = nI (s.1.1 4 j) from hP 4 (by decide) j (show j < 6 by omega)]
          refine x_istore (pc := 47) dX10_move_47 (by decide) xs_4 (x_hp rfl) ?_
          refine x_iload_n (pc := 49) dX10_move_49 rfl ?_
          first | (guard_target =~ Wp _ _ _ _ _ (Value.int (nI _) :: _) _ _ _ _; with_reducible refine x_if_neN (pc := 50) (tgt := 63) ?_ dX10_move_50 ?_ (fun h50 => ?_) (fun h50 => ?_); (first | omega | exact b2n_32 _ | exact b2n_31 _); decide) | refine x_if_ne (pc := 50) (tgt := 63) dX10_move_50 (by decide) (fun h50 => ?_) (fun h50 => ?_)
          · skip
            refine x_aload_n (pc := 63) dX10_move_63 rfl ?_
            refine x_getR (pc := 64) dX10_move_64 flX10_35 (by first | assumption | rfl) rfl ?_
            refine x_iload_n (pc := 67) dX10_move_67 rfl ?_
            refine x_iload_n (pc := 68) dX10_move_68 rfl ?_
            refine x_iastN (pc := 69) dX10_move_69 (by first | assumption | rfl) (by first | with_reducible rfl | (simp only [xlit, nI_add, pk_mul]; with_reducible rfl)) (by omega) (by decide) ?_
            refine x_iload (pc := 70) dX10_move_70 rfl ?_
            refine x_ret (pc := 72) (v := some _) rfl trivial dX10_move_72 (by decide) ?_
            obtain rfl : k = 1 := by omega
            exact h _ (high.put (by decide)) hq
          · skip
            refine x_aload_n (pc := 53) dX10_move_53 rfl ?_
            refine x_getR (pc := 54) dX10_move_54 flX10_32 (by first | assumption | rfl) rfl ?_
            refine x_iload_n (pc := 57) dX10_move_57 rfl ?_
            refine x_iload_n (pc := 58) dX10_move_58 rfl ?_
            refine x_iastN (pc := 59) dX10_move_59 (by first | assumption | rfl) (by first | with_reducible rfl | (simp only [xlit, nI_add, pk_mul]; with_reducible rfl)) (by omega) (by decide) ?_
            refine x_goto (pc := 60) (tgt := 70) dX10_move_60 (by decide) ?_
            refine x_iload (pc := 70) dX10_move_70 rfl ?_
            refine x_ret (pc := 72) (v := some _) rfl trivial dX10_move_72 (by decide) ?_
            omega
        · skip
          refine x_aload_n (pc := 32) dX10_move_32 rfl ?_
          refine x_getR (pc := 33) dX10_move_33 flX10_32 (by first | assumption | rfl) rfl ?_
          refine x_iload_n (pc := 36) dX10_move_36 rfl ?_
          refine x_ialdN (pc := 37) dX10_move_37 (by first | assumption | rfl) (by first | with_reducible rfl | (simp only [xlit, nI_add, pk_mul]; with_reducible rfl)) (by omega) (by decide) ?_
          rw [show M.1 69 j = nI (s.1.1 3 j) from hP 3 (by decide) j (show j < 6 by omega)]
          refine x_goto (pc := 38) (tgt := 47) dX10_move_38 (by decide) ?_
          refine x_istore (pc := 47) dX10_move_47 (by decide) xs_4 (x_hp rfl) ?_
          refine x_iload_n (pc := 49) dX10_move_49 rfl ?_
          first | (guard_target =~ Wp _ _ _ _ _ (Value.int (nI _) :: _) _ _ _ _; with_reducible refine x_if_neN (pc := 50) (tgt := 63) ?_ dX10_move_50 ?_ (fun h50 => ?_) (fun h50 => ?_); (first | omega | exact b2n_32 _ | exact b2n_31 _); decide) | refine x_if_ne (pc := 50) (tgt := 63) dX10_move_50 (by decide) (fun h50 => ?_) (fun h50 => ?_)
          · skip
            refine x_aload_n (pc := 63) dX10_move_63 rfl ?_
            refine x_getR (pc := 64) dX10_move_64 flX10_35 (by first | assumption | rfl) rfl ?_
            refine x_iload_n (pc := 67) dX10_move_67 rfl ?_
            refine x_iload_n (pc := 68) dX10_move_68 rfl ?_
            refine x_iastN (pc := 69) dX10_move_69 (by first | assumption | rfl) (by first | with_reducible rfl | (simp only [xlit, nI_add, pk_mul]; with_reducible rfl)) (by omega) (by decide) ?_
            refine x_iload (pc := 70) dX10_move_70 rfl ?_
            refine x_ret (pc := 72) (v := some _) rfl trivial dX10_move_72 (by decide) ?_
            omega
          · skip
            refine x_aload_n (pc := 53) dX10_move_53 rfl ?_
            refine x_getR (pc := 54) dX10_move_54 flX10_32 (by first | assumption | rfl) rfl ?_
            refine x_iload_n (pc := 57) dX10_move_57 rfl ?_
            refine x_iload_n (pc := 58) dX10_move_58 rfl ?_
            refine x_iastN (pc := 59) dX10_move_59 (by first | assumption | rfl) (by first | with_reducible rfl | (simp only [xlit, nI_add, pk_mul]; with_reducible rfl)) (by omega) (by decide) ?_
            refine x_goto (pc := 60) (tgt := 70) dX10_move_60 (by decide) ?_
            refine x_iload (pc := 70) dX10_move_70 rfl ?_
            refine x_ret (pc := 72) (v := some _) rfl trivial dX10_move_72 (by decide) ?_
            obtain rfl : k = 0 := by omega
            exact h _ (high.put (by decide)) hq
      · skip
        cases h23
theorem fM_feed {x : Int32} (hL : sLn s (sMd s) ≤ 100) (hC : MC9 M s) (h : ∀ M', high M M' → MC9 M' (opFeed s x).2 → K (some (.int (opFeed s x).1)) xSF M') : Ex g (d + 1) yX10_feed mX10_feed [.ref 65, .int x] xSF M K := by
  unfold opFeed at h
  have hl : M.1 65 12 = nI (sLn s (sMd s)) := hC.2.2.1.2.1
  refine x_entry kX10_feed (Nat.le_of_ble_eq_true rfl) ?_
  show Wp g _ mX10_feed 0 [some (.ref 65), some (.int x)] [] _ _ _ _
  rcases isR_cases (x := x) (n := 128) (by decide) with e | ⟨j, hj, rfl, e⟩
  · simp only [e, Bool.false_eq_true, if_false] at h
    refine x_aload_n (pc := 0) dX10_feed_0 rfl ?_
    refine x_iload_n (pc := 1) dX10_feed_1 rfl ?_
    refine x_iconstN (pc := 2) 0 dX10_feed_2 ic_0 ?_
    refine x_bipushN (pc := 3) 127 dX10_feed_3 bp_127 ?_
    refine x_invV3 (pc := 5) dX10_feed_5 mlX10_253 imX10_in seX10_in kX10_in (by first | assumption | rfl) rfl (Nat.le_of_ble_eq_true rfl) (by decide) ?_
    refine sm_in ?_
    refine x_cv rfl rfl ?_
    rw [btw_isR (by decide), show isR x (nI (127 + 1)) = false from e]
    first | (guard_target =~ Wp _ _ _ _ _ (Value.int (nI _) :: _) _ _ _ _; with_reducible refine x_if_neN (pc := 8) (tgt := 14) ?_ dX10_feed_8 ?_ (fun h8 => ?_) (fun h8 => ?_); (first | omega | exact b2n_32 _ | exact b2n_31 _); decide) | refine x_if_ne (pc := 8) (tgt := 14) dX10_feed_8 (by decide) (fun h8 => ?_) (fun h8 => ?_)
    · skip
      exact absurd rfl h8
    · skip
      refine x_bipush (pc := 11) dX10_feed_11 bp_m2 ?_
      refine x_ret (pc := 13) (v := some _) rfl trivial dX10_feed_13 (by decide) ?_
      exact h M high.rf hC
  · simp only [e, if_true] at h
    rw [toN_nI (by omega)] at h
    refine x_aload_n (pc := 0) dX10_feed_0 rfl ?_
    refine x_iload_n (pc := 1) dX10_feed_1 rfl ?_
    refine x_iconstN (pc := 2) 0 dX10_feed_2 ic_0 ?_
    refine x_bipushN (pc := 3) 127 dX10_feed_3 bp_127 ?_
    refine x_invV3 (pc := 5) dX10_feed_5 mlX10_253 imX10_in seX10_in kX10_in (by first | assumption | rfl) rfl (Nat.le_of_ble_eq_true rfl) (by decide) ?_
    refine sm_in ?_
    refine x_cv rfl rfl ?_
    rw [btw_isR (by decide), show isR (nI j) (nI (127 + 1)) = true from e]
    first | (guard_target =~ Wp _ _ _ _ _ (Value.int (nI _) :: _) _ _ _ _; with_reducible refine x_if_neN (pc := 8) (tgt := 14) ?_ dX10_feed_8 ?_ (fun h8 => ?_) (fun h8 => ?_); (first | omega | exact b2n_32 _ | exact b2n_31 _); decide) | refine x_if_ne (pc := 8) (tgt := 14) dX10_feed_8 (by decide) (fun h8 => ?_) (fun h8 => ?_)
    · skip
      refine x_aload_n (pc := 14) dX10_feed_14 rfl ?_
      refine x_getI (pc := 15) dX10_feed_15 flX10_47 (by first | assumption | rfl) rfl ?_
      rw [hl]
      refine x_bipushN (pc := 18) 100 dX10_feed_18 bp_100 ?_
      first | (guard_target =~ Wp _ _ _ _ _ (Value.int (nI _) :: Value.int (nI _) :: _) _ _ _ _; with_reducible refine x_icmp_neN (pc := 20) (tgt := 26) ?_ ?_ dX10_feed_20 ?_ (fun h20 => ?_) (fun h20 => ?_); (first | omega | exact b2n_31 _); (first | omega | exact b2n_31 _); decide) | refine x_icmp_ne (pc := 20) (tgt := 26) dX10_feed_20 (by decide) (fun h20 => ?_) (fun h20 => ?_)
      · skip
        refine x_aload_n (pc := 26) dX10_feed_26 rfl ?_
        refine x_getR (pc := 27) dX10_feed_27 flX10_56 (by first | assumption | rfl) rfl ?_
        refine x_aload_n (pc := 30) dX10_feed_30 rfl ?_
        refine x_getI (pc := 31) dX10_feed_31 flX10_47 (by first | assumption | rfl) rfl ?_
        rw [hl]
        refine x_iload_n (pc := 34) dX10_feed_34 rfl ?_
        refine x_iastN (pc := 35) dX10_feed_35 (by first | assumption | rfl) (by first | with_reducible rfl | (simp only [xlit, nI_add, pk_mul]; with_reducible rfl)) (by omega) (by decide) ?_
        refine x_aload_n (pc := 36) dX10_feed_36 rfl ?_
        refine x_dup (pc := 37) dX10_feed_37 rfl ?_
        refine x_getI (pc := 38) dX10_feed_38 flX10_47 (by first | assumption | rfl) rfl ?_
        rw [show (xput M 72 (sLn s (sMd s)) (nI j)).1 65 12 = nI (sLn s (sMd s)) from hl]
        refine x_iconstN (pc := 41) 1 dX10_feed_41 ic_1 ?_
        first | (guard_target =~ Wp _ _ _ _ _ (Value.int (nI _) :: Value.int (nI _) :: _) _ _ _ _; with_reducible refine x_iaddN (pc := 42) dX10_feed_42 ?_) | refine x_iadd (pc := 42) dX10_feed_42 ?_
        refine x_putI (pc := 43) dX10_feed_43 flX10_47 (by first | assumption | rfl) rfl rfl rfl ?_
        refine x_aload_n (pc := 46) dX10_feed_46 rfl ?_
        refine x_getI (pc := 47) dX10_feed_47 flX10_47 (by first | assumption | rfl) rfl ?_
        refine x_ret (pc := 50) (v := some _) rfl trivial dX10_feed_50 (by decide) ?_
        rw [if_pos (show sLn s (sMd s) < 100 by omega)] at h; refine h _ ((high.put (by decide)).tr (high.put (by decide))) ?_
        exact hC.upR (.tr (.put rfl) (.put rfl)) (.tr (.put rfl) (.put rfl)) (.tr (.put rfl) (.put rfl)) (.tr (.put rfl) (.put rfl)) (.tr (.put rfl) (.put rfl)) rfl (hC.2.2.1.feed j)
      · skip
        refine x_bipush (pc := 23) dX10_feed_23 bp_m4 ?_
        refine x_ret (pc := 25) (v := some _) rfl trivial dX10_feed_25 (by decide) ?_
        rw [if_neg (by omega)] at h; exact h M high.rf hC
    · skip
      cases h8
end P62
