/-! the program's calls: pass, worn, meet, starts, can, sole, who, best -/
def qw (s : XSt) : Int32 := nI s.1.2.1
def opPass (s : XSt) (n : Int32) : Int32 × XSt := if isR n (nI 61) = true then (if s.1.1 11 0 + toN n ≤ 9999 then (nI (s.1.1 11 0 + toN n), withA s (limA (spA s.1.1 (qw s) (toN n)))) else (-3, s)) else (-2, s)
def vWorn (s : XSt) (c : Int32) : Int32 := if isR c (nI 16) = true then oI' (dubF s.1.1 (qw s) (toN c) 61 0) else -1
def vMeet (s : XSt) (x y : Int32) : Int32 := if isR x (nI (s.1.1 8 0)) = true ∧ isR y (nI (s.1.1 8 0)) = true then (if toN x = toN y then -2 else nI (s.1.1 6 (toN x) &&& s.1.1 6 (toN y))) else -1
def vStarts (s : XSt) (x : Int32) : Int32 := if isR x (nI (s.1.1 8 0)) = true then nI (xset (fun c => seenOk s.1.2.2.2.1 (stA s.1.1 (toN x) c) (qw s)) 16) else -1
def canS (s : XSt) (x : Nat) : Nat := xset (fun v => seenOk s.1.2.2.2.1 (fitA s.1.1 s.1.2.2.2.2 x v) (qw s)) 10
def vCan (s : XSt) (x what : Int32) : Int32 := if isR x (nI (s.1.1 8 0)) = true ∧ isR what (nI 2) = true then (if toN what = 0 then nI (xpop (canS s (toN x))) else xfst (canS s (toN x))) else -1
def vSole (s : XSt) : Int32 := nI (xset (fun k => seenOk s.1.2.2.2.1 s.1.1 (soleW k)) (s.1.1 8 0))
section P44
variable {g : XG} {d : Nat} {M : XM} {K : Option Value → XS → XM → Prop} {s : XSt}
theorem spl_cache {A B : XA} {L : List XCl} (h : cacheA A L) (he : ∀ k j, k ≠ 0 → k ≠ 11 → B k j = A k j) : cacheA B L :=
  h.cong (he 8 0 (by decide) (by decide)) (he 10 0 (by decide) (by decide)) (he 13 0 (by decide) (by decide)) (fun g _ => ⟨he 1 g (by decide) (by decide), he 2 g (by decide) (by decide), he 3 g (by decide) (by decide), he 4 g (by decide) (by decide), he 6 g (by decide) (by decide), fun i _ => he 7 _ (by decide) (by decide)⟩) (fun j _ _ => he 5 j (by decide) (by decide))
theorem fX9_pass {n : Int32} (hC : XC9 M s) (h : ∀ M', low M M' → XC9 M' (opPass s n).2 → K (some (.int (opPass s n).1)) xSF M') : Ex g (d + 4) yX9_pass mX9_pass [.ref 0, .int n] xSF M K := by
  unfold opPass at h
  have hR := hC.1.1
  have hS := hC.2.1.2.2.1
  have hd := hS.2
  refine x_entry kX9_pass (Nat.le_of_ble_eq_true rfl) ?_
  show Wp g _ mX9_pass 0 [some (.ref 0), some (.int n)] [] _ _ _ _
  rcases isR_cases (x := n) (n := 61) (by omega) with e | ⟨n, hn, rfl, e⟩
  · simp only [e, Bool.false_eq_true, if_false] at h
    refine x_iload_n (pc := 0) dX9_pass_0 rfl ?_
    refine x_iconstN (pc := 1) 0 dX9_pass_1 ic_0 ?_
    refine x_bipushN (pc := 2) 60 dX9_pass_2 bp_60 ?_
    refine x_invS3 (pc := 4) dX9_pass_4 mlX9_72 stX9_isBetween kX9_isBetween (Nat.le_of_ble_eq_true rfl) (by decide) ?_
    refine sp_X9_isBetween ?_
    refine x_cv rfl rfl ?_
    rw [btw_isR (by decide), show isR n (nI (60 + 1)) = false from e]
    first | (guard_target =~ Wp _ _ _ _ _ (Value.int (nI _) :: _) _ _ _ _; with_reducible refine x_if_neN (pc := 7) (tgt := 13) ?_ dX9_pass_7 ?_ (fun h7 => ?_) (fun h7 => ?_); (first | omega | exact b2n_32 _ | exact b2n_31 _); decide) | refine x_if_ne (pc := 7) (tgt := 13) dX9_pass_7 (by decide) (fun h7 => ?_) (fun h7 => ?_)
    · skip
      exact absurd rfl h7
    · skip
      refine x_bipush (pc := 10) dX9_pass_10 bp_m2 ?_
      refine x_ret (pc := 12) (v := some _) rfl trivial dX9_pass_12 (by decide) ?_
      exact h M csame.rf.low hC
  · simp only [e, if_true] at h
    rw [toN_nI (by omega)] at h
    refine x_iload_n (pc := 0) dX9_pass_0 rfl ?_
    refine x_iconstN (pc := 1) 0 dX9_pass_1 ic_0 ?_
    refine x_bipushN (pc := 2) 60 dX9_pass_2 bp_60 ?_
    refine x_invS3 (pc := 4) dX9_pass_4 mlX9_72 stX9_isBetween kX9_isBetween (Nat.le_of_ble_eq_true rfl) (by decide) ?_
    refine sp_X9_isBetween ?_
    refine x_cv rfl rfl ?_
    rw [btw_isR (by decide), show isR (nI n) (nI (60 + 1)) = true from e]
    first | (guard_target =~ Wp _ _ _ _ _ (Value.int (nI _) :: _) _ _ _ _; with_reducible refine x_if_neN (pc := 7) (tgt := 13) ?_ dX9_pass_7 ?_ (fun h7 => ?_) (fun h7 => ?_); (first | omega | exact b2n_32 _ | exact b2n_31 _); decide) | refine x_if_ne (pc := 7) (tgt := 13) dX9_pass_7 (by decide) (fun h7 => ?_) (fun h7 => ?_)
    · skip
      refine x_aload_n (pc := 13) dX9_pass_13 rfl ?_
      refine x_getR (pc := 14) dX9_pass_14 flX9_12 (by first | assumption | rfl) rfl ?_
      refine x_getI (pc := 17) dX9_pass_17 flX9_174 (by first | assumption | rfl) rfl ?_
      rw [hR.day]
      refine x_iload_n (pc := 20) dX9_pass_20 rfl ?_
      first | (guard_target =~ Wp _ _ _ _ _ (Value.int (nI _) :: Value.int (nI _) :: _) _ _ _ _; with_reducible refine x_iaddN (pc := 21) dX9_pass_21 ?_) | refine x_iadd (pc := 21) dX9_pass_21 ?_
      refine x_sipushN (pc := 22) 9999 dX9_pass_22 sp_9999 ?_
      first | (guard_target =~ Wp _ _ _ _ _ (Value.int (nI _) :: Value.int (nI _) :: _) _ _ _ _; with_reducible refine x_icmp_leN (pc := 25) (tgt := 31) ?_ ?_ dX9_pass_25 ?_ (fun h25 => ?_) (fun h25 => ?_); (first | omega | exact b2n_31 _); (first | omega | exact b2n_31 _); decide) | refine x_icmp_le (pc := 25) (tgt := 31) dX9_pass_25 (by decide) (fun h25 => ?_) (fun h25 => ?_)
      · skip
        refine x_aload_n (pc := 31) dX9_pass_31 rfl ?_
        refine x_getR (pc := 32) dX9_pass_32 flX9_12 (by first | assumption | rfl) rfl ?_
        refine x_iload_n (pc := 35) dX9_pass_35 rfl ?_
        refine x_invV1 (pc := 36) dX9_pass_36 mlX9_189 imX2_spend seX2_spend kX2_spend (by first | assumption | rfl) rfl (Nat.le_of_ble_eq_true rfl) (by decide) ?_
        refine sp_X2_spend (by omega) car1 hR (fun j hj => by have := hS.1 j hj; omega) (by omega) (fun M1 hs1 hR1 => ?_)
        refine x_cn rfl rfl ?_
        refine x_aload_n (pc := 39) dX9_pass_39 rfl ?_
        refine x_getR (pc := 40) dX9_pass_40 flX9_12 (by first | assumption | rfl) rfl ?_
        refine x_invV0 (pc := 43) dX9_pass_43 mlX9_192 imX2_limitWear seX2_limitWear kX2_limitWear (by first | assumption | rfl) rfl (Nat.le_of_ble_eq_true rfl) (by decide) ?_
        refine sp_X2_limitWear car1 hR1 (fun M2 hs2 hR2 => ?_)
        refine x_cn rfl rfl ?_
        refine x_aload_n (pc := 46) dX9_pass_46 rfl ?_
        refine x_getR (pc := 47) dX9_pass_47 flX9_12 (by first | assumption | rfl) rfl ?_
        refine x_getI (pc := 50) dX9_pass_50 flX9_174 (by first | assumption | rfl) rfl ?_
        rw [show M2.1 1 11 = nI (s.1.1 11 0 + n) from hR2.day]
        refine x_ret (pc := 53) (v := some _) rfl trivial dX9_pass_53 (by decide) ?_
        rw [if_pos h25] at h
        have hs : csame M M2 := (csame.c1 hs1).tr (csame.c1 hs2)
        refine h M2 hs.low (hC.up hs hR2 (okQ.newA hC.2.1 hR2.bd ⟨fun i hi => ?_, ?_⟩ (Nat.le_refl _) (spl_cache hC.2.1.2.2.2.2.1 (fun k j h0 h11 => ?_))))
        · show min (spA s.1.1 (qw s) n 0 i) 9999 < 10000
          omega
        · show s.1.1 11 0 + n < 10000
          omega
        · simp [limA, spA, h0, h11]
      · skip
        refine x_bipush (pc := 28) dX9_pass_28 bp_m3 ?_
        refine x_ret (pc := 30) (v := some _) rfl trivial dX9_pass_30 (by decide) ?_
        rw [if_neg h25] at h; exact h M csame.rf.low hC
    · skip
      cases h7
theorem fX9_worn {c : Int32} (hC : XC9 M s) (h : ∀ M', low M M' → XC9 M' s → K (some (.int (vWorn s c))) xSF M') : Ex g (d + 4) yX9_worn mX9_worn [.ref 0, .int c] xSF M K := by
  unfold vWorn at h
  have hR := hC.1.1
  refine x_entry kX9_worn (Nat.le_of_ble_eq_true rfl) ?_
  show Wp g _ mX9_worn 0 [some (.ref 0), some (.int c)] [] _ _ _ _
  rcases isR_cases (x := c) (n := 16) (by omega) with e | ⟨j, hj, rfl, e⟩
  · simp only [e, Bool.false_eq_true, if_false] at h
    refine x_iload_n (pc := 0) dX9_worn_0 rfl ?_
    refine x_invS1 (pc := 1) dX9_worn_1 mlX9_67 stX3_isCell kX3_isCell (Nat.le_of_ble_eq_true rfl) (by decide) ?_
    refine sp_X3_isCell ?_
    refine x_cv rfl rfl ?_
    rw [show isR c 16 = false from e]
    first | (guard_target =~ Wp _ _ _ _ _ (Value.int (nI _) :: _) _ _ _ _; with_reducible refine x_if_eqN (pc := 4) (tgt := 18) ?_ dX9_worn_4 ?_ (fun h4 => ?_) (fun h4 => ?_); (first | omega | exact b2n_32 _ | exact b2n_31 _); decide) | refine x_if_eq (pc := 4) (tgt := 18) dX9_worn_4 (by decide) (fun h4 => ?_) (fun h4 => ?_)
    · skip
      refine x_iconst (pc := 18) dX9_worn_18 ic_m1 ?_
      refine x_ret (pc := 19) (v := some _) rfl trivial dX9_worn_19 (by decide) ?_
      exact h M csame.rf.low hC
    · skip
      exact absurd rfl h4
  · simp only [e, if_true] at h
    rw [toN_nI (by omega)] at h
    refine x_iload_n (pc := 0) dX9_worn_0 rfl ?_
    refine x_invS1 (pc := 1) dX9_worn_1 mlX9_67 stX3_isCell kX3_isCell (Nat.le_of_ble_eq_true rfl) (by decide) ?_
    refine sp_X3_isCell ?_
    refine x_cv rfl rfl ?_
    rw [show isR (nI j) 16 = true from e]
    first | (guard_target =~ Wp _ _ _ _ _ (Value.int (nI _) :: _) _ _ _ _; with_reducible refine x_if_eqN (pc := 4) (tgt := 18) ?_ dX9_worn_4 ?_ (fun h4 => ?_) (fun h4 => ?_); (first | omega | exact b2n_32 _ | exact b2n_31 _); decide) | refine x_if_eq (pc := 4) (tgt := 18) dX9_worn_4 (by decide) (fun h4 => ?_) (fun h4 => ?_)
    · skip
      cases h4
    · skip
      refine x_aload_n (pc := 7) dX9_worn_7 rfl ?_
      refine x_getR (pc := 8) dX9_worn_8 flX9_43 (by first | assumption | rfl) rfl ?_
      refine x_iload_n (pc := 11) dX9_worn_11 rfl ?_
      refine x_invV1 (pc := 12) dX9_worn_12 mlX9_199 imX1_daysUntilBald seX1_daysUntilBald kX1_daysUntilBald (by first | assumption | rfl) rfl (Nat.le_of_ble_eq_true rfl) (by decide) ?_
      refine sp_X1_daysUntilBald hj hC.2.1.2.2.1 hR ?_
      refine x_cv rfl rfl ?_
      refine x_goto (pc := 15) (tgt := 19) dX9_worn_15 (by decide) ?_
      refine x_ret (pc := 19) (v := some _) rfl trivial dX9_worn_19 (by decide) ?_
      exact h M csame.rf.low hC
theorem fX9_meet {x y : Int32} (hC : XC9 M s) (h : ∀ M', low M M' → XC9 M' s → K (some (.int (vMeet s x y))) xSF M') : Ex g (d + 1) yX9_meet mX9_meet [.ref 0, .int x, .int y] xSF M K := by
  unfold vMeet at h
  have hR := hC.1.1
  have h6 := hR.goersB
  refine x_entry kX9_meet (Nat.le_of_ble_eq_true rfl) ?_
  show Wp g _ mX9_meet 0 [some (.ref 0), some (.int x), some (.int y)] [] _ _ _ _
  rcases isR_cases (x := x) (n := s.1.1 8 0) (by omega) with e | ⟨j, hj, rfl, e⟩
  · simp only [e, Bool.false_eq_true, if_false, false_and] at h
    refine x_aload_n (pc := 0) dX9_meet_0 rfl ?_
    refine x_getR (pc := 1) dX9_meet_1 flX9_12 (by first | assumption | rfl) rfl ?_
    refine x_iload_n (pc := 4) dX9_meet_4 rfl ?_
    refine x_invV1 (pc := 5) dX9_meet_5 mlX9_88 imX2_hasGoer seX2_hasGoer kX2_hasGoer (by first | assumption | rfl) rfl (Nat.le_of_ble_eq_true rfl) (by decide) ?_
    refine sp_X2_hasGoer car1 hR ?_
    refine x_cv rfl rfl ?_
    rw [e]
    first | (guard_target =~ Wp _ _ _ _ _ (Value.int (nI _) :: _) _ _ _ _; with_reducible refine x_if_eqN (pc := 8) (tgt := 22) ?_ dX9_meet_8 ?_ (fun h8 => ?_) (fun h8 => ?_); (first | omega | exact b2n_32 _ | exact b2n_31 _); decide) | refine x_if_eq (pc := 8) (tgt := 22) dX9_meet_8 (by decide) (fun h8 => ?_) (fun h8 => ?_)
    · skip
      refine x_iconst (pc := 22) dX9_meet_22 ic_m1 ?_
      refine x_ret (pc := 23) (v := some _) rfl trivial dX9_meet_23 (by decide) ?_
      exact h M csame.rf.low hC
    · skip
      exact absurd rfl h8
  rcases isR_cases (x := y) (n := s.1.1 8 0) (by omega) with e2 | ⟨k, hk, rfl, e2⟩
  · simp only [e2, Bool.false_eq_true, if_false, and_false] at h
    refine x_aload_n (pc := 0) dX9_meet_0 rfl ?_
    refine x_getR (pc := 1) dX9_meet_1 flX9_12 (by first | assumption | rfl) rfl ?_
    refine x_iload_n (pc := 4) dX9_meet_4 rfl ?_
    refine x_invV1 (pc := 5) dX9_meet_5 mlX9_88 imX2_hasGoer seX2_hasGoer kX2_hasGoer (by first | assumption | rfl) rfl (Nat.le_of_ble_eq_true rfl) (by decide) ?_
    refine sp_X2_hasGoer car1 hR ?_
    refine x_cv rfl rfl ?_
    rw [e]
    first | (guard_target =~ Wp _ _ _ _ _ (Value.int (nI _) :: _) _ _ _ _; with_reducible refine x_if_eqN (pc := 8) (tgt := 22) ?_ dX9_meet_8 ?_ (fun h8 => ?_) (fun h8 => ?_); (first | omega | exact b2n_32 _ | exact b2n_31 _); decide) | refine x_if_eq (pc := 8) (tgt := 22) dX9_meet_8 (by decide) (fun h8 => ?_) (fun h8 => ?_)
    · skip
      cases h8
    · skip
      refine x_aload_n (pc := 11) dX9_meet_11 rfl ?_
      refine x_getR (pc := 12) dX9_meet_12 flX9_12 (by first | assumption | rfl) rfl ?_
      refine x_iload_n (pc := 15) dX9_meet_15 rfl ?_
      refine x_invV1 (pc := 16) dX9_meet_16 mlX9_88 imX2_hasGoer seX2_hasGoer kX2_hasGoer (by first | assumption | rfl) rfl (Nat.le_of_ble_eq_true rfl) (by decide) ?_
      refine sp_X2_hasGoer car1 hR ?_
      refine x_cv rfl rfl ?_
      rw [e2]
      first | (guard_target =~ Wp _ _ _ _ _ (Value.int (nI _) :: _) _ _ _ _; with_reducible refine x_if_neN (pc := 19) (tgt := 24) ?_ dX9_meet_19 ?_ (fun h19 => ?_) (fun h19 => ?_); (first | omega | exact b2n_32 _ | exact b2n_31 _); decide) | refine x_if_ne (pc := 19) (tgt := 24) dX9_meet_19 (by decide) (fun h19 => ?_) (fun h19 => ?_)
      · skip
        exact absurd rfl h19
      · skip
        refine x_iconst (pc := 22) dX9_meet_22 ic_m1 ?_
        refine x_ret (pc := 23) (v := some _) rfl trivial dX9_meet_23 (by decide) ?_
        exact h M csame.rf.low hC
  simp only [e, e2, and_self, if_true] at h
  rw [toN_nI (by omega), toN_nI (by omega)] at h
  refine x_aload_n (pc := 0) dX9_meet_0 rfl ?_
  refine x_getR (pc := 1) dX9_meet_1 flX9_12 (by first | assumption | rfl) rfl ?_
  refine x_iload_n (pc := 4) dX9_meet_4 rfl ?_
  refine x_invV1 (pc := 5) dX9_meet_5 mlX9_88 imX2_hasGoer seX2_hasGoer kX2_hasGoer (by first | assumption | rfl) rfl (Nat.le_of_ble_eq_true rfl) (by decide) ?_
  refine sp_X2_hasGoer car1 hR ?_
  refine x_cv rfl rfl ?_
  rw [e]
  first | (guard_target =~ Wp _ _ _ _ _ (Value.int (nI _) :: _) _ _ _ _; with_reducible refine x_if_eqN (pc := 8) (tgt := 22) ?_ dX9_meet_8 ?_ (fun h8 => ?_) (fun h8 => ?_); (first | omega | exact b2n_32 _ | exact b2n_31 _); decide) | refine x_if_eq (pc := 8) (tgt := 22) dX9_meet_8 (by decide) (fun h8 => ?_) (fun h8 => ?_)
  · skip
    cases h8
  · skip
    refine x_aload_n (pc := 11) dX9_meet_11 rfl ?_
    refine x_getR (pc := 12) dX9_meet_12 flX9_12 (by first | assumption | rfl) rfl ?_
    refine x_iload_n (pc := 15) dX9_meet_15 rfl ?_
    refine x_invV1 (pc := 16) dX9_meet_16 mlX9_88 imX2_hasGoer seX2_hasGoer kX2_hasGoer (by first | assumption | rfl) rfl (Nat.le_of_ble_eq_true rfl) (by decide) ?_
    refine sp_X2_hasGoer car1 hR ?_
    refine x_cv rfl rfl ?_
    rw [e2]
    first | (guard_target =~ Wp _ _ _ _ _ (Value.int (nI _) :: _) _ _ _ _; with_reducible refine x_if_neN (pc := 19) (tgt := 24) ?_ dX9_meet_19 ?_ (fun h19 => ?_) (fun h19 => ?_); (first | omega | exact b2n_32 _ | exact b2n_31 _); decide) | refine x_if_ne (pc := 19) (tgt := 24) dX9_meet_19 (by decide) (fun h19 => ?_) (fun h19 => ?_)
    · skip
      refine x_iload_n (pc := 24) dX9_meet_24 rfl ?_
      refine x_iload_n (pc := 25) dX9_meet_25 rfl ?_
      first | (guard_target =~ Wp _ _ _ _ _ (Value.int (nI _) :: Value.int (nI _) :: _) _ _ _ _; with_reducible refine x_icmp_neN (pc := 26) (tgt := 32) ?_ ?_ dX9_meet_26 ?_ (fun h26 => ?_) (fun h26 => ?_); (first | omega | exact b2n_31 _); (first | omega | exact b2n_31 _); decide) | refine x_icmp_ne (pc := 26) (tgt := 32) dX9_meet_26 (by decide) (fun h26 => ?_) (fun h26 => ?_)
      · skip
        refine x_aload_n (pc := 32) dX9_meet_32 rfl ?_
        refine x_getR (pc := 33) dX9_meet_33 flX9_12 (by first | assumption | rfl) rfl ?_
        refine x_getR (pc := 36) dX9_meet_36 flX9_126 (by first | assumption | rfl) rfl ?_
        refine x_iload_n (pc := 39) dX9_meet_39 rfl ?_
        refine x_ialdN (pc := 40) dX9_meet_40 (by first | assumption | rfl) (by first | with_reducible rfl | (simp only [xlit, nI_add, pk_mul]; with_reducible rfl)) (by omega) (by decide) ?_
        rw [hR.ways (by omega)]
        refine x_aload_n (pc := 41) dX9_meet_41 rfl ?_
        refine x_getR (pc := 42) dX9_meet_42 flX9_12 (by first | assumption | rfl) rfl ?_
        refine x_getR (pc := 45) dX9_meet_45 flX9_126 (by first | assumption | rfl) rfl ?_
        refine x_iload_n (pc := 48) dX9_meet_48 rfl ?_
        refine x_ialdN (pc := 49) dX9_meet_49 (by first | assumption | rfl) (by first | with_reducible rfl | (simp only [xlit, nI_add, pk_mul]; with_reducible rfl)) (by omega) (by decide) ?_
        rw [hR.ways (by omega)]
        first | (guard_target =~ Wp _ _ _ _ _ (Value.int (nI _) :: Value.int (nI _) :: _) _ _ _ _; with_reducible refine x_iandN (pc := 50) dX9_meet_50 ?_) | refine x_iand (pc := 50) dX9_meet_50 ?_
        refine x_ret (pc := 51) (v := some _) rfl trivial dX9_meet_51 (by decide) ?_
        rw [if_neg h26] at h; exact h M csame.rf.low hC
      · skip
        refine x_bipush (pc := 29) dX9_meet_29 bp_m2 ?_
        refine x_ret (pc := 31) (v := some _) rfl trivial dX9_meet_31 (by decide) ?_
        rw [if_pos h26] at h; exact h M csame.rf.low hC
    · skip
      cases h19
theorem fX9_starts {x : Int32} (hC : XC9 M s) (h : ∀ M', low M M' → XC9 M' s → K (some (.int (vStarts s x))) xSF M') : Ex g (d + 6) yX9_starts mX9_starts [.ref 0, .int x] xSF M K := by
  unfold vStarts at h
  have hR := hC.1.1
  have h6 := hR.goersB
  refine x_entry kX9_starts (Nat.le_of_ble_eq_true rfl) ?_
  show Wp g _ mX9_starts 0 [some (.ref 0), some (.int x)] [] _ _ _ _
  rcases isR_cases (x := x) (n := s.1.1 8 0) (by omega) with e | ⟨j, hj, rfl, e⟩
  · simp only [e, Bool.false_eq_true, if_false] at h
    refine x_aload_n (pc := 0) dX9_starts_0 rfl ?_
    refine x_getR (pc := 1) dX9_starts_1 flX9_12 (by first | assumption | rfl) rfl ?_
    refine x_iload_n (pc := 4) dX9_starts_4 rfl ?_
    refine x_invV1 (pc := 5) dX9_starts_5 mlX9_88 imX2_hasGoer seX2_hasGoer kX2_hasGoer (by first | assumption | rfl) rfl (Nat.le_of_ble_eq_true rfl) (by decide) ?_
    refine sp_X2_hasGoer car1 hR ?_
    refine x_cv rfl rfl ?_
    rw [e]
    first | (guard_target =~ Wp _ _ _ _ _ (Value.int (nI _) :: _) _ _ _ _; with_reducible refine x_if_eqN (pc := 8) (tgt := 22) ?_ dX9_starts_8 ?_ (fun h8 => ?_) (fun h8 => ?_); (first | omega | exact b2n_32 _ | exact b2n_31 _); decide) | refine x_if_eq (pc := 8) (tgt := 22) dX9_starts_8 (by decide) (fun h8 => ?_) (fun h8 => ?_)
    · skip
      refine x_iconst (pc := 22) dX9_starts_22 ic_m1 ?_
      refine x_ret (pc := 23) (v := some _) rfl trivial dX9_starts_23 (by decide) ?_
      exact h M csame.rf.low hC
    · skip
      exact absurd rfl h8
  · simp only [e, if_true] at h
    rw [toN_nI (by omega)] at h
    refine x_aload_n (pc := 0) dX9_starts_0 rfl ?_
    refine x_getR (pc := 1) dX9_starts_1 flX9_12 (by first | assumption | rfl) rfl ?_
    refine x_iload_n (pc := 4) dX9_starts_4 rfl ?_
    refine x_invV1 (pc := 5) dX9_starts_5 mlX9_88 imX2_hasGoer seX2_hasGoer kX2_hasGoer (by first | assumption | rfl) rfl (Nat.le_of_ble_eq_true rfl) (by decide) ?_
    refine sp_X2_hasGoer car1 hR ?_
    refine x_cv rfl rfl ?_
    rw [e]
    first | (guard_target =~ Wp _ _ _ _ _ (Value.int (nI _) :: _) _ _ _ _; with_reducible refine x_if_eqN (pc := 8) (tgt := 22) ?_ dX9_starts_8 ?_ (fun h8 => ?_) (fun h8 => ?_); (first | omega | exact b2n_32 _ | exact b2n_31 _); decide) | refine x_if_eq (pc := 8) (tgt := 22) dX9_starts_8 (by decide) (fun h8 => ?_) (fun h8 => ?_)
    · skip
      cases h8
    · skip
      refine x_aload_n (pc := 11) dX9_starts_11 rfl ?_
      refine x_getR (pc := 12) dX9_starts_12 flX9_43 (by first | assumption | rfl) rfl ?_
      refine x_iload_n (pc := 15) dX9_starts_15 rfl ?_
      refine x_invV1 (pc := 16) dX9_starts_16 mlX9_224 imX1_startsOf seX1_startsOf kX1_startsOf (by first | assumption | rfl) rfl (Nat.le_of_ble_eq_true rfl) (by decide) ?_
      refine sp_X1_startsOf (by omega) hR hC.1.2 (fun M2 hs => ?_)
      refine x_cv rfl rfl ?_
      refine x_goto (pc := 19) (tgt := 23) dX9_starts_19 (by decide) ?_
      refine x_ret (pc := 23) (v := some _) rfl trivial dX9_starts_23 (by decide) ?_
      exact h M2 (csame.t hs).low (hC.st (csame.t hs) (hR.out hs (by decide)))
theorem fX9_can {x what : Int32} (hC : XC9 M s) (h : ∀ M', low M M' → XC9 M' s → K (some (.int (vCan s x what))) xSF M') : Ex g (d + 19) yX9_can mX9_can [.ref 0, .int x, .int what] xSF M K := by
  unfold vCan at h
  have hR := hC.1.1
  have h6 := hR.goersB
  refine x_entry kX9_can (Nat.le_of_ble_eq_true rfl) ?_
  show Wp g _ mX9_can 0 [some (.ref 0), some (.int x), some (.int what), none] [] _ _ _ _
  rcases isR_cases (x := x) (n := s.1.1 8 0) (by omega) with e | ⟨j, hj, rfl, e⟩
  · simp only [e, Bool.false_eq_true, if_false, false_and] at h
    refine x_aload_n (pc := 0) dX9_can_0 rfl ?_
    refine x_getR (pc := 1) dX9_can_1 flX9_12 (by first | assumption | rfl) rfl ?_
    refine x_iload_n (pc := 4) dX9_can_4 rfl ?_
    refine x_invV1 (pc := 5) dX9_can_5 mlX9_88 imX2_hasGoer seX2_hasGoer kX2_hasGoer (by first | assumption | rfl) rfl (Nat.le_of_ble_eq_true rfl) (by decide) ?_
    refine sp_X2_hasGoer car1 hR ?_
    refine x_cv rfl rfl ?_
    rw [e]
    first | (guard_target =~ Wp _ _ _ _ _ (Value.int (nI _) :: _) _ _ _ _; with_reducible refine x_if_eqN (pc := 8) (tgt := 20) ?_ dX9_can_8 ?_ (fun h8 => ?_) (fun h8 => ?_); (first | omega | exact b2n_32 _ | exact b2n_31 _); decide) | refine x_if_eq (pc := 8) (tgt := 20) dX9_can_8 (by decide) (fun h8 => ?_) (fun h8 => ?_)
    · skip
      refine x_iconst (pc := 20) dX9_can_20 ic_m1 ?_
      refine x_ret (pc := 21) (v := some _) rfl trivial dX9_can_21 (by decide) ?_
      exact h M csame.rf.low hC
    · skip
      exact absurd rfl h8
  rcases isR_cases (x := what) (n := 2) (by omega) with e2 | ⟨k, hk, rfl, e2⟩
  · simp only [e2, Bool.false_eq_true, if_false, and_false] at h
    refine x_aload_n (pc := 0) dX9_can_0 rfl ?_
    refine x_getR (pc := 1) dX9_can_1 flX9_12 (by first | assumption | rfl) rfl ?_
    refine x_iload_n (pc := 4) dX9_can_4 rfl ?_
    refine x_invV1 (pc := 5) dX9_can_5 mlX9_88 imX2_hasGoer seX2_hasGoer kX2_hasGoer (by first | assumption | rfl) rfl (Nat.le_of_ble_eq_true rfl) (by decide) ?_
    refine sp_X2_hasGoer car1 hR ?_
    refine x_cv rfl rfl ?_
    rw [e]
    first | (guard_target =~ Wp _ _ _ _ _ (Value.int (nI _) :: _) _ _ _ _; with_reducible refine x_if_eqN (pc := 8) (tgt := 20) ?_ dX9_can_8 ?_ (fun h8 => ?_) (fun h8 => ?_); (first | omega | exact b2n_32 _ | exact b2n_31 _); decide) | refine x_if_eq (pc := 8) (tgt := 20) dX9_can_8 (by decide) (fun h8 => ?_) (fun h8 => ?_)
    · skip
      cases h8
    · skip
      refine x_iload_n (pc := 11) dX9_can_11 rfl ?_
      refine x_iconstN (pc := 12) 0 dX9_can_12 ic_0 ?_
      refine x_iconstN (pc := 13) 1 dX9_can_13 ic_1 ?_
      refine x_invS3 (pc := 14) dX9_can_14 mlX9_72 stX9_isBetween kX9_isBetween (Nat.le_of_ble_eq_true rfl) (by decide) ?_
      refine sp_X9_isBetween ?_
      refine x_cv rfl rfl ?_
      rw [btw_isR (by decide), show isR what (nI (1 + 1)) = false from e2]
      first | (guard_target =~ Wp _ _ _ _ _ (Value.int (nI _) :: _) _ _ _ _; with_reducible refine x_if_neN (pc := 17) (tgt := 22) ?_ dX9_can_17 ?_ (fun h17 => ?_) (fun h17 => ?_); (first | omega | exact b2n_32 _ | exact b2n_31 _); decide) | refine x_if_ne (pc := 17) (tgt := 22) dX9_can_17 (by decide) (fun h17 => ?_) (fun h17 => ?_)
      · skip
        exact absurd rfl h17
      · skip
        refine x_iconst (pc := 20) dX9_can_20 ic_m1 ?_
        refine x_ret (pc := 21) (v := some _) rfl trivial dX9_can_21 (by decide) ?_
        exact h M csame.rf.low hC
  simp only [e, e2, and_self, if_true] at h
  rw [toN_nI (by omega), toN_nI (by omega)] at h
  have hlt : canS s j < 2 ^ 10 := xset_lt (n := 10)
  refine x_aload_n (pc := 0) dX9_can_0 rfl ?_
  refine x_getR (pc := 1) dX9_can_1 flX9_12 (by first | assumption | rfl) rfl ?_
  refine x_iload_n (pc := 4) dX9_can_4 rfl ?_
  refine x_invV1 (pc := 5) dX9_can_5 mlX9_88 imX2_hasGoer seX2_hasGoer kX2_hasGoer (by first | assumption | rfl) rfl (Nat.le_of_ble_eq_true rfl) (by decide) ?_
  refine sp_X2_hasGoer car1 hR ?_
  refine x_cv rfl rfl ?_
  rw [e]
  first | (guard_target =~ Wp _ _ _ _ _ (Value.int (nI _) :: _) _ _ _ _; with_reducible refine x_if_eqN (pc := 8) (tgt := 20) ?_ dX9_can_8 ?_ (fun h8 => ?_) (fun h8 => ?_); (first | omega | exact b2n_32 _ | exact b2n_31 _); decide) | refine x_if_eq (pc := 8) (tgt := 20) dX9_can_8 (by decide) (fun h8 => ?_) (fun h8 => ?_)
  · skip
    cases h8
  · skip
    refine x_iload_n (pc := 11) dX9_can_11 rfl ?_
    refine x_iconstN (pc := 12) 0 dX9_can_12 ic_0 ?_
    refine x_iconstN (pc := 13) 1 dX9_can_13 ic_1 ?_
    refine x_invS3 (pc := 14) dX9_can_14 mlX9_72 stX9_isBetween kX9_isBetween (Nat.le_of_ble_eq_true rfl) (by decide) ?_
    refine sp_X9_isBetween ?_
    refine x_cv rfl rfl ?_
    rw [btw_isR (by decide), show isR (nI k) (nI (1 + 1)) = true from e2]
    first | (guard_target =~ Wp _ _ _ _ _ (Value.int (nI _) :: _) _ _ _ _; with_reducible refine x_if_neN (pc := 17) (tgt := 22) ?_ dX9_can_17 ?_ (fun h17 => ?_) (fun h17 => ?_); (first | omega | exact b2n_32 _ | exact b2n_31 _); decide) | refine x_if_ne (pc := 17) (tgt := 22) dX9_can_17 (by decide) (fun h17 => ?_) (fun h17 => ?_)
    · skip
      refine x_aload_n (pc := 22) dX9_can_22 rfl ?_
      refine x_getR (pc := 23) dX9_can_23 flX9_43 (by first | assumption | rfl) rfl ?_
      refine x_iload_n (pc := 26) dX9_can_26 rfl ?_
      refine x_invV1 (pc := 27) dX9_can_27 mlX9_227 imX1_fittingNumbers seX1_fittingNumbers kX1_fittingNumbers (by first | assumption | rfl) rfl (Nat.le_of_ble_eq_true rfl) (by decide) ?_
      refine sp_X1_fittingNumbers (by omega) hR hC.1.2 hC.2.2.2.1 hC.2.1.2.2.2.2.2.1 (fun M2 hs => ?_)
      refine x_cv rfl rfl ?_
      rw [show xset (fun v => seenOk s.1.2.2.2.1 (fitA s.1.1 s.1.2.2.2.2 j v) (nI s.1.2.1)) 10 = canS s j from rfl]
      refine x_istore_n (pc := 30) dX9_can_30 (by decide) xs_3 (x_hp rfl) ?_
      refine x_iload_n (pc := 31) dX9_can_31 rfl ?_
      first | (guard_target =~ Wp _ _ _ _ _ (Value.int (nI _) :: _) _ _ _ _; with_reducible refine x_if_neN (pc := 32) (tgt := 42) ?_ dX9_can_32 ?_ (fun h32 => ?_) (fun h32 => ?_); (first | omega | exact b2n_32 _ | exact b2n_31 _); decide) | refine x_if_ne (pc := 32) (tgt := 42) dX9_can_32 (by decide) (fun h32 => ?_) (fun h32 => ?_)
      · skip
        refine x_iload_n (pc := 42) dX9_can_42 rfl ?_
        refine x_invS1 (pc := 43) dX9_can_43 mlX9_230 stX3_first kX3_first (Nat.le_of_ble_eq_true rfl) (by decide) ?_
        refine sp_X3_first (by omega) ?_
        refine x_cv rfl rfl ?_
        refine x_ret (pc := 46) (v := some _) rfl trivial dX9_can_46 (by decide) ?_
        rw [if_neg h32] at h; exact h M2 (csame.a hs).low (hC.st (csame.a hs) (hR.asm hs))
      · skip
        refine x_iload_n (pc := 35) dX9_can_35 rfl ?_
        refine x_invS1 (pc := 36) dX9_can_36 mlX9_129 stX3_howMany kX3_howMany (Nat.le_of_ble_eq_true rfl) (by decide) ?_
        refine sp_X3_howMany (by omega) ?_
        refine x_cv rfl rfl ?_
        refine x_goto (pc := 39) (tgt := 46) dX9_can_39 (by decide) ?_
        refine x_ret (pc := 46) (v := some _) rfl trivial dX9_can_46 (by decide) ?_
        rw [if_pos h32] at h; exact h M2 (csame.a hs).low (hC.st (csame.a hs) (hR.asm hs))
    · skip
      cases h17
theorem fX9_sole (hC : XC9 M s) (h : ∀ M', low M M' → XC9 M' s → K (some (.int (vSole s))) xSF M') : Ex g (d + 5) yX9_sole mX9_sole [.ref 0] xSF M K := by
  have hR := hC.1.1
  refine x_entry kX9_sole (Nat.le_of_ble_eq_true rfl) ?_
  show Wp g _ mX9_sole 0 [some (.ref 0)] [] _ _ _ _
  refine x_aload_n (pc := 0) dX9_sole_0 rfl ?_
  refine x_getR (pc := 1) dX9_sole_1 flX9_43 (by first | assumption | rfl) rfl ?_
  refine x_invV0 (pc := 4) dX9_sole_4 mlX9_233 imX1_soleGoers seX1_soleGoers kX1_soleGoers (by first | assumption | rfl) rfl (Nat.le_of_ble_eq_true rfl) (by decide) ?_
  refine sp_X1_soleGoers hR hC.1.2 (fun M2 hs => ?_)
  refine x_cv rfl rfl ?_
  refine x_ret (pc := 7) (v := some _) rfl trivial dX9_sole_7 (by decide) ?_
  exact h M2 (csame.t hs).low (hC.st (csame.t hs) (hR.out hs (by decide)))
def vWho (s : XSt) (p n what : Int32) : Int32 := if isR what (nI 2) = true then (if isR p (nI 65536) = true ∧ btw n (nI 1) (nI 20) = true then (if toN what = 0 then oI' (fewF (fun t => hlB s.1.1 s.1.2.1 (toN n) t (toN p)) (2 ^ s.1.1 8 0)) else nI (xsum (fun t => b2n (hlB s.1.1 s.1.2.1 (toN n) t (toN p))) (2 ^ s.1.1 8 0))) else -2) else -1
theorem btw_cases {x : Int32} {lo hi : Nat} (hl : lo < 2 ^ 31) (hh : hi + 1 < 2 ^ 31) : btw x (nI lo) (nI hi) = false ∨ ∃ j, lo ≤ j ∧ j ≤ hi ∧ x = nI j ∧ btw x (nI lo) (nI hi) = true := by
  cases h : btw x (nI lo) (nI hi) with
  | false => exact Or.inl rfl
  | true =>
    refine Or.inr ?_
    obtain ⟨h1, h2⟩ := of_decide_eq_true h
    skip
    · have h0 : ¬ x < 0 := fun q => absurd (Int32.lt_of_le_of_lt h1 q) (nI_pos hl)
      obtain ⟨j, hj, rfl⟩ := nI_of h0
      exact ⟨j, (nI_leI hl hj).mp h1, (nI_leI hj (by omega)).mp h2, rfl, rfl⟩
end P44
