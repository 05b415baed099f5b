/-! the program's calls: who, best, see, plan, book, looked, ends -/
def withN (s : XSt) (N : XA) : XSt := ((s.1.1, s.1.2.1, s.1.2.2.1, N, s.1.2.2.2.2), s.2)
def qN (s : XSt) : XA := s.1.2.2.2.1
def opSee (s : XSt) (c m t : Int32) : Int32 × XSt := if c = -1 then (0, withN s (updA (qN s) 7 0 0)) else if isR c (nI 16) = true then (if isR m (nI 10000) = true ∧ isR t (nI 21) = true then (if qN s 7 0 < 5 then (nI (qN s 7 0 + 1), withN s (nSee (qN s) (toN c) (toN m) (toN t))) else (-4, s)) else (-2, s)) else (-1, s)
def opBook (s : XSt) (c m : Int32) : Int32 × XSt := if c = -1 then (0, withN s (updA (qN s) 9 0 0)) else if isR c (nI 16) = true then (if isR m (nI 10000) = true then (if qN s 9 0 < 8 then (nI (qN s 9 0 + 1), withN s (nBook (qN s) (toN c) (toN m))) else (-4, s)) else (-2, s)) else (-1, s)
def opPlan (s : XSt) (x n : Int32) : Int32 × XSt := if x = -1 then (0, withN s (updA (qN s) 8 0 0)) else if isR x (nI 4) = true ∧ (toN x = 1 → isR n (nI (s.1.1 8 0)) = true) ∧ (2 ≤ toN x → isR n (nI 16) = true) then (if qN s 8 0 < 10 then (nI (qN s 8 0 + 1), withN s (nPlan (qN s) (toN x) (if toN x = 0 then 0 else toN n))) else (-4, s)) else (-1, s)
def vLooked (s : XSt) : Int32 := fstO (qN s) s.1.1 (qN s 9 0) 0
def plB (s : XSt) : XA := (plF (qN s) (s.1.1, qw s) (qN s 8 0)).1
def vEnds (s : XSt) (what : Int32) : Int32 := if isR what (nI 2) = true then (if toN what = 0 then nI (sumA (plB s)) else nI (xpop (baldA (plB s)))) else -1
def vBest (s : XSt) (what v : Int32) : Prop := if what = 0 then ∃ o l, bstI s.1.1 (qw s) (fun s => ∃ a b, a ≤ b ∧ b < 16 ∧ s = prS a b) o l ∧ v = oI' o else if what = 1 then v = oI' (lst (layP s.1.1 (qw s)) 16 0) else v = -1
section P45
variable {g : XG} {d : Nat} {M : XM} {K : Option Value → XS → XM → Prop} {s : XSt}
theorem csame.n {M M' : XM} (h : xsame 25 33 M M') : csame M M' ∨ True := Or.inr trivial
theorem XC9.upN {M M' : XM} {s : XSt} {N : XA} (h : XC9 M s) (hs : xsame 25 33 M M') (hR : NR 25 M' N) (hp : ∀ k, k < N 8 0 → N 3 k = 1 → N 4 k < s.1.1 8 0) : XC9 M' (withN s N) := by
  obtain ⟨q1, q2, q3, q4, q5, q6, q7⟩ := h.2.1
  refine ⟨⟨h.1.1.out hs (by decide), hR⟩, ⟨q1, hR.bd, q3, q4, q5, q6, hp⟩, ?_, h.2.2.2.1.eqs (by rw [hs.1 41 (by decide)]) (hs.1 42 (by decide)) (hs.1 43 (by decide)), h.2.2.2.2.1.eqs (hs.1 63 (by decide)) (hs.1 64 (by decide)) (by rw [hs.2]), h.2.2.2.2.2.eqs (hs.1 59 (by decide)) (hs.1 60 (by decide))⟩
  have h3 := h.2.2.1
  show XIm M' s.2.2.1 s.2.2.2.1 s.2.2.2.2.1 s.2.1
  revert h3
  cases s.2.1 with
  | none => exact fun h3 => (show M'.1 0 4 = nI 0 by rw [hs.1 0 (by decide)]; exact h3)
  | some q => exact fun h3 => ⟨by rw [hs.1 0 (by decide)]; exact h3.1, ⟨h3.2.1.1.out hs (by decide), h3.2.1.2.out hs (by decide)⟩, h3.2.2⟩
theorem lowN {M M' : XM} (h : xsame 25 33 M M') : low M M' := ⟨fun a ha => h.1 a (by omega), fun a _ => by rw [h.2]⟩
theorem cm1 : (-1 : Int32) = -1 := rfl
theorem m1R {n : Nat} (x : Int32) (h : isR x (nI n) = true) : ¬ x = -1 := by
  rintro rfl
  have := of_decide_eq_true h
  exact absurd this.1 (by decide)
theorem fX9_see {c m t : Int32} (hC : XC9 M s) (h : ∀ M', low M M' → XC9 M' (opSee s c m t).2 → K (some (.int (opSee s c m t).1)) xSF M') : Ex g (d + 1) yX9_see mX9_see [.ref 0, .int c, .int m, .int t] xSF M K := by
  unfold opSee at h
  have hN := hC.1.2
  have hpl := hC.2.1.2.2.2.2.2.2
  have h5 := hN.2.2.2.1.2
  refine x_entry kX9_see (Nat.le_of_ble_eq_true rfl) ?_
  show Wp g _ mX9_see 0 [some (.ref 0), some (.int c), some (.int m), some (.int t)] [] _ _ _ _
  by_cases hc : c = -1
  · rw [if_pos hc] at h
    refine x_iload_n (pc := 0) dX9_see_0 rfl ?_
    refine x_iconst (pc := 1) dX9_see_1 ic_m1 ?_
    refine x_icmp_ne (pc := 2) (tgt := 13) dX9_see_2 (by decide) (fun h2 => ?_) (fun h2 => ?_)
    · skip
      exact absurd hc h2
    · skip
      refine x_aload_n (pc := 5) dX9_see_5 rfl ?_
      refine x_getR (pc := 6) dX9_see_6 flX9_24 (by first | assumption | rfl) rfl ?_
      refine x_invV0 (pc := 9) dX9_see_9 mlX9_215 imX5_forgetSeen seX5_forgetSeen kX5_forgetSeen (by first | assumption | rfl) rfl (Nat.le_of_ble_eq_true rfl) (by decide) ?_
      refine sp_X5_forgetSeen nots25 ?_
      refine x_cv rfl rfl ?_
      refine x_ret (pc := 12) (v := some _) rfl trivial dX9_see_12 (by decide) ?_
      exact h _ (lowN (xsame.put (by decide) (by decide))) (hC.upN (xsame.put (by decide) (by decide)) (hN.put0 7 (Or.inl rfl)) hpl)
  rw [if_neg hc] at h
  rcases isR_cases (x := c) (n := 16) (by omega) with e | ⟨c, hcc, rfl, e⟩
  · simp only [e, Bool.false_eq_true, if_false] at h
    refine x_iload_n (pc := 0) dX9_see_0 rfl ?_
    refine x_iconst (pc := 1) dX9_see_1 ic_m1 ?_
    refine x_icmp_ne (pc := 2) (tgt := 13) dX9_see_2 (by decide) (fun h2 => ?_) (fun h2 => ?_)
    · skip
      refine x_iload_n (pc := 13) dX9_see_13 rfl ?_
      refine x_invS1 (pc := 14) dX9_see_14 mlX9_67 stX3_isCell kX3_isCell (Nat.le_of_ble_eq_true rfl) (by decide) ?_
      refine sp_X3_isCell ?_
      refine x_cv rfl rfl ?_
      rw [show isR c 16 = false from e]
      first | (guard_target =~ Wp _ _ _ _ _ (Value.int (nI _) :: _) _ _ _ _; with_reducible refine x_if_neN (pc := 17) (tgt := 22) ?_ dX9_see_17 ?_ (fun h17 => ?_) (fun h17 => ?_); (first | omega | exact b2n_32 _ | exact b2n_31 _); decide) | refine x_if_ne (pc := 17) (tgt := 22) dX9_see_17 (by decide) (fun h17 => ?_) (fun h17 => ?_)
      · skip
        exact absurd rfl h17
      · skip
        refine x_iconst (pc := 20) dX9_see_20 ic_m1 ?_
        refine x_ret (pc := 21) (v := some _) rfl trivial dX9_see_21 (by decide) ?_
        exact h M csame.rf.low hC
    · skip
      exact absurd h2 hc
  simp only [e, if_true] at h
  rcases isR_cases (x := m) (n := 10000) (by omega) with e2 | ⟨m, hm, rfl, e2⟩
  · simp only [e2, Bool.false_eq_true, if_false, false_and] at h
    refine x_iload_n (pc := 0) dX9_see_0 rfl ?_
    refine x_iconst (pc := 1) dX9_see_1 ic_m1 ?_
    refine x_icmp_ne (pc := 2) (tgt := 13) dX9_see_2 (by decide) (fun h2 => ?_) (fun h2 => ?_)
    · skip
      refine x_iload_n (pc := 13) dX9_see_13 rfl ?_
      refine x_invS1 (pc := 14) dX9_see_14 mlX9_67 stX3_isCell kX3_isCell (Nat.le_of_ble_eq_true rfl) (by decide) ?_
      refine sp_X3_isCell ?_
      refine x_cv rfl rfl ?_
      rw [show isR (nI c) 16 = true from e]
      first | (guard_target =~ Wp _ _ _ _ _ (Value.int (nI _) :: _) _ _ _ _; with_reducible refine x_if_neN (pc := 17) (tgt := 22) ?_ dX9_see_17 ?_ (fun h17 => ?_) (fun h17 => ?_); (first | omega | exact b2n_32 _ | exact b2n_31 _); decide) | refine x_if_ne (pc := 17) (tgt := 22) dX9_see_17 (by decide) (fun h17 => ?_) (fun h17 => ?_)
      · skip
        refine x_iload_n (pc := 22) dX9_see_22 rfl ?_
        refine x_iconstN (pc := 23) 0 dX9_see_23 ic_0 ?_
        refine x_sipushN (pc := 24) 9999 dX9_see_24 sp_9999 ?_
        refine x_invS3 (pc := 27) dX9_see_27 mlX9_72 stX9_isBetween kX9_isBetween (Nat.le_of_ble_eq_true rfl) (by decide) ?_
        refine sp_X9_isBetween ?_
        refine x_cv rfl rfl ?_
        rw [btw_isR (by decide), show isR m (nI (9999 + 1)) = false from e2]
        first | (guard_target =~ Wp _ _ _ _ _ (Value.int (nI _) :: _) _ _ _ _; with_reducible refine x_if_eqN (pc := 30) (tgt := 43) ?_ dX9_see_30 ?_ (fun h30 => ?_) (fun h30 => ?_); (first | omega | exact b2n_32 _ | exact b2n_31 _); decide) | refine x_if_eq (pc := 30) (tgt := 43) dX9_see_30 (by decide) (fun h30 => ?_) (fun h30 => ?_)
        · skip
          refine x_bipush (pc := 43) dX9_see_43 bp_m2 ?_
          refine x_ret (pc := 45) (v := some _) rfl trivial dX9_see_45 (by decide) ?_
          exact h M csame.rf.low hC
        · skip
          exact absurd rfl h30
      · skip
        cases h17
    · skip
      exact absurd h2 hc
  rcases isR_cases (x := t) (n := 21) (by omega) with e3 | ⟨t, ht, rfl, e3⟩
  · simp only [e3, Bool.false_eq_true, if_false, and_false] at h
    refine x_iload_n (pc := 0) dX9_see_0 rfl ?_
    refine x_iconst (pc := 1) dX9_see_1 ic_m1 ?_
    refine x_icmp_ne (pc := 2) (tgt := 13) dX9_see_2 (by decide) (fun h2 => ?_) (fun h2 => ?_)
    · skip
      refine x_iload_n (pc := 13) dX9_see_13 rfl ?_
      refine x_invS1 (pc := 14) dX9_see_14 mlX9_67 stX3_isCell kX3_isCell (Nat.le_of_ble_eq_true rfl) (by decide) ?_
      refine sp_X3_isCell ?_
      refine x_cv rfl rfl ?_
      rw [show isR (nI c) 16 = true from e]
      first | (guard_target =~ Wp _ _ _ _ _ (Value.int (nI _) :: _) _ _ _ _; with_reducible refine x_if_neN (pc := 17) (tgt := 22) ?_ dX9_see_17 ?_ (fun h17 => ?_) (fun h17 => ?_); (first | omega | exact b2n_32 _ | exact b2n_31 _); decide) | refine x_if_ne (pc := 17) (tgt := 22) dX9_see_17 (by decide) (fun h17 => ?_) (fun h17 => ?_)
      · skip
        refine x_iload_n (pc := 22) dX9_see_22 rfl ?_
        refine x_iconstN (pc := 23) 0 dX9_see_23 ic_0 ?_
        refine x_sipushN (pc := 24) 9999 dX9_see_24 sp_9999 ?_
        refine x_invS3 (pc := 27) dX9_see_27 mlX9_72 stX9_isBetween kX9_isBetween (Nat.le_of_ble_eq_true rfl) (by decide) ?_
        refine sp_X9_isBetween ?_
        refine x_cv rfl rfl ?_
        rw [btw_isR (by decide), show isR (nI m) (nI (9999 + 1)) = true from e2]
        first | (guard_target =~ Wp _ _ _ _ _ (Value.int (nI _) :: _) _ _ _ _; with_reducible refine x_if_eqN (pc := 30) (tgt := 43) ?_ dX9_see_30 ?_ (fun h30 => ?_) (fun h30 => ?_); (first | omega | exact b2n_32 _ | exact b2n_31 _); decide) | refine x_if_eq (pc := 30) (tgt := 43) dX9_see_30 (by decide) (fun h30 => ?_) (fun h30 => ?_)
        · skip
          cases h30
        · skip
          refine x_iload_n (pc := 33) dX9_see_33 rfl ?_
          refine x_iconstN (pc := 34) 0 dX9_see_34 ic_0 ?_
          refine x_bipushN (pc := 35) 20 dX9_see_35 bp_20 ?_
          refine x_invS3 (pc := 37) dX9_see_37 mlX9_72 stX9_isBetween kX9_isBetween (Nat.le_of_ble_eq_true rfl) (by decide) ?_
          refine sp_X9_isBetween ?_
          refine x_cv rfl rfl ?_
          rw [btw_isR (by decide), show isR t (nI (20 + 1)) = false from e3]
          first | (guard_target =~ Wp _ _ _ _ _ (Value.int (nI _) :: _) _ _ _ _; with_reducible refine x_if_neN (pc := 40) (tgt := 46) ?_ dX9_see_40 ?_ (fun h40 => ?_) (fun h40 => ?_); (first | omega | exact b2n_32 _ | exact b2n_31 _); decide) | refine x_if_ne (pc := 40) (tgt := 46) dX9_see_40 (by decide) (fun h40 => ?_) (fun h40 => ?_)
          · skip
            exact absurd rfl h40
          · skip
            refine x_bipush (pc := 43) dX9_see_43 bp_m2 ?_
            refine x_ret (pc := 45) (v := some _) rfl trivial dX9_see_45 (by decide) ?_
            exact h M csame.rf.low hC
      · skip
        cases h17
    · skip
      exact absurd h2 hc
  simp only [e2, e3, and_self, if_true] at h
  rw [toN_nI (by omega), toN_nI (by omega), toN_nI (by omega)] at h
  by_cases hq : qN s 7 0 < 5
  · rw [if_pos hq] at h
    refine x_iload_n (pc := 0) dX9_see_0 rfl ?_
    refine x_iconst (pc := 1) dX9_see_1 ic_m1 ?_
    refine x_icmp_ne (pc := 2) (tgt := 13) dX9_see_2 (by decide) (fun h2 => ?_) (fun h2 => ?_)
    · skip
      refine x_iload_n (pc := 13) dX9_see_13 rfl ?_
      refine x_invS1 (pc := 14) dX9_see_14 mlX9_67 stX3_isCell kX3_isCell (Nat.le_of_ble_eq_true rfl) (by decide) ?_
      refine sp_X3_isCell ?_
      refine x_cv rfl rfl ?_
      rw [show isR (nI c) 16 = true from e]
      first | (guard_target =~ Wp _ _ _ _ _ (Value.int (nI _) :: _) _ _ _ _; with_reducible refine x_if_neN (pc := 17) (tgt := 22) ?_ dX9_see_17 ?_ (fun h17 => ?_) (fun h17 => ?_); (first | omega | exact b2n_32 _ | exact b2n_31 _); decide) | refine x_if_ne (pc := 17) (tgt := 22) dX9_see_17 (by decide) (fun h17 => ?_) (fun h17 => ?_)
      · skip
        refine x_iload_n (pc := 22) dX9_see_22 rfl ?_
        refine x_iconstN (pc := 23) 0 dX9_see_23 ic_0 ?_
        refine x_sipushN (pc := 24) 9999 dX9_see_24 sp_9999 ?_
        refine x_invS3 (pc := 27) dX9_see_27 mlX9_72 stX9_isBetween kX9_isBetween (Nat.le_of_ble_eq_true rfl) (by decide) ?_
        refine sp_X9_isBetween ?_
        refine x_cv rfl rfl ?_
        rw [btw_isR (by decide), show isR (nI m) (nI (9999 + 1)) = true from e2]
        first | (guard_target =~ Wp _ _ _ _ _ (Value.int (nI _) :: _) _ _ _ _; with_reducible refine x_if_eqN (pc := 30) (tgt := 43) ?_ dX9_see_30 ?_ (fun h30 => ?_) (fun h30 => ?_); (first | omega | exact b2n_32 _ | exact b2n_31 _); decide) | refine x_if_eq (pc := 30) (tgt := 43) dX9_see_30 (by decide) (fun h30 => ?_) (fun h30 => ?_)
        · skip
          cases h30
        · skip
          refine x_iload_n (pc := 33) dX9_see_33 rfl ?_
          refine x_iconstN (pc := 34) 0 dX9_see_34 ic_0 ?_
          refine x_bipushN (pc := 35) 20 dX9_see_35 bp_20 ?_
          refine x_invS3 (pc := 37) dX9_see_37 mlX9_72 stX9_isBetween kX9_isBetween (Nat.le_of_ble_eq_true rfl) (by decide) ?_
          refine sp_X9_isBetween ?_
          refine x_cv rfl rfl ?_
          rw [btw_isR (by decide), show isR (nI t) (nI (20 + 1)) = true from e3]
          first | (guard_target =~ Wp _ _ _ _ _ (Value.int (nI _) :: _) _ _ _ _; with_reducible refine x_if_neN (pc := 40) (tgt := 46) ?_ dX9_see_40 ?_ (fun h40 => ?_) (fun h40 => ?_); (first | omega | exact b2n_32 _ | exact b2n_31 _); decide) | refine x_if_ne (pc := 40) (tgt := 46) dX9_see_40 (by decide) (fun h40 => ?_) (fun h40 => ?_)
          · skip
            refine x_aload_n (pc := 46) dX9_see_46 rfl ?_
            refine x_getR (pc := 47) dX9_see_47 flX9_24 (by first | assumption | rfl) rfl ?_
            refine x_iload_n (pc := 50) dX9_see_50 rfl ?_
            refine x_iload_n (pc := 51) dX9_see_51 rfl ?_
            refine x_iload_n (pc := 52) dX9_see_52 rfl ?_
            refine x_invV3 (pc := 53) dX9_see_53 mlX9_218 imX5_addSeen seX5_addSeen kX5_addSeen (by first | assumption | rfl) rfl (Nat.le_of_ble_eq_true rfl) (by decide) ?_
            refine sp_X5_addSeen hcc hm (by omega) nots25 hN (fun z => absurd hq z) (fun _ M2 hs hN2 => ?_)
            refine x_cv rfl rfl ?_
            first | (guard_target =~ Wp _ _ _ _ _ (Value.int (nI _) :: _) _ _ _ _; with_reducible refine x_if_eqN (pc := 56) (tgt := 69) ?_ dX9_see_56 ?_ (fun h56 => ?_) (fun h56 => ?_); (first | omega | exact b2n_32 _ | exact b2n_31 _); decide) | refine x_if_eq (pc := 56) (tgt := 69) dX9_see_56 (by decide) (fun h56 => ?_) (fun h56 => ?_)
            · skip
              omega
            · skip
              refine x_aload_n (pc := 59) dX9_see_59 rfl ?_
              refine x_getR (pc := 60) dX9_see_60 flX9_24 (by first | assumption | rfl) rfl ?_
              refine x_getI (pc := 63) dX9_see_63 flX9_221 (by first | assumption | rfl) rfl ?_
              rw [show M2.1 25 7 = nI (qN s 7 0 + 1) from hN2.2.2.2.1.1]
              refine x_goto (pc := 66) (tgt := 71) dX9_see_66 (by decide) ?_
              refine x_ret (pc := 71) (v := some _) rfl trivial dX9_see_71 (by decide) ?_
              exact h M2 (lowN hs) (hC.upN hs hN2 (fun k hk hk1 => by simp only [nSee] at hk hk1 ⊢; simp at hk hk1 ⊢; exact hpl k hk hk1))
          · skip
            cases h40
      · skip
        cases h17
    · skip
      exact absurd h2 hc
  · rw [if_neg hq] at h
    refine x_iload_n (pc := 0) dX9_see_0 rfl ?_
    refine x_iconst (pc := 1) dX9_see_1 ic_m1 ?_
    refine x_icmp_ne (pc := 2) (tgt := 13) dX9_see_2 (by decide) (fun h2 => ?_) (fun h2 => ?_)
    · skip
      refine x_iload_n (pc := 13) dX9_see_13 rfl ?_
      refine x_invS1 (pc := 14) dX9_see_14 mlX9_67 stX3_isCell kX3_isCell (Nat.le_of_ble_eq_true rfl) (by decide) ?_
      refine sp_X3_isCell ?_
      refine x_cv rfl rfl ?_
      rw [show isR (nI c) 16 = true from e]
      first | (guard_target =~ Wp _ _ _ _ _ (Value.int (nI _) :: _) _ _ _ _; with_reducible refine x_if_neN (pc := 17) (tgt := 22) ?_ dX9_see_17 ?_ (fun h17 => ?_) (fun h17 => ?_); (first | omega | exact b2n_32 _ | exact b2n_31 _); decide) | refine x_if_ne (pc := 17) (tgt := 22) dX9_see_17 (by decide) (fun h17 => ?_) (fun h17 => ?_)
      · skip
        refine x_iload_n (pc := 22) dX9_see_22 rfl ?_
        refine x_iconstN (pc := 23) 0 dX9_see_23 ic_0 ?_
        refine x_sipushN (pc := 24) 9999 dX9_see_24 sp_9999 ?_
        refine x_invS3 (pc := 27) dX9_see_27 mlX9_72 stX9_isBetween kX9_isBetween (Nat.le_of_ble_eq_true rfl) (by decide) ?_
        refine sp_X9_isBetween ?_
        refine x_cv rfl rfl ?_
        rw [btw_isR (by decide), show isR (nI m) (nI (9999 + 1)) = true from e2]
        first | (guard_target =~ Wp _ _ _ _ _ (Value.int (nI _) :: _) _ _ _ _; with_reducible refine x_if_eqN (pc := 30) (tgt := 43) ?_ dX9_see_30 ?_ (fun h30 => ?_) (fun h30 => ?_); (first | omega | exact b2n_32 _ | exact b2n_31 _); decide) | refine x_if_eq (pc := 30) (tgt := 43) dX9_see_30 (by decide) (fun h30 => ?_) (fun h30 => ?_)
        · skip
          cases h30
        · skip
          refine x_iload_n (pc := 33) dX9_see_33 rfl ?_
          refine x_iconstN (pc := 34) 0 dX9_see_34 ic_0 ?_
          refine x_bipushN (pc := 35) 20 dX9_see_35 bp_20 ?_
          refine x_invS3 (pc := 37) dX9_see_37 mlX9_72 stX9_isBetween kX9_isBetween (Nat.le_of_ble_eq_true rfl) (by decide) ?_
          refine sp_X9_isBetween ?_
          refine x_cv rfl rfl ?_
          rw [btw_isR (by decide), show isR (nI t) (nI (20 + 1)) = true from e3]
          first | (guard_target =~ Wp _ _ _ _ _ (Value.int (nI _) :: _) _ _ _ _; with_reducible refine x_if_neN (pc := 40) (tgt := 46) ?_ dX9_see_40 ?_ (fun h40 => ?_) (fun h40 => ?_); (first | omega | exact b2n_32 _ | exact b2n_31 _); decide) | refine x_if_ne (pc := 40) (tgt := 46) dX9_see_40 (by decide) (fun h40 => ?_) (fun h40 => ?_)
          · skip
            refine x_aload_n (pc := 46) dX9_see_46 rfl ?_
            refine x_getR (pc := 47) dX9_see_47 flX9_24 (by first | assumption | rfl) rfl ?_
            refine x_iload_n (pc := 50) dX9_see_50 rfl ?_
            refine x_iload_n (pc := 51) dX9_see_51 rfl ?_
            refine x_iload_n (pc := 52) dX9_see_52 rfl ?_
            refine x_invV3 (pc := 53) dX9_see_53 mlX9_218 imX5_addSeen seX5_addSeen kX5_addSeen (by first | assumption | rfl) rfl (Nat.le_of_ble_eq_true rfl) (by decide) ?_
            refine sp_X5_addSeen hcc hm (by omega) nots25 hN (fun _ => ?_) (fun z => absurd z hq)
            refine x_cv rfl rfl ?_
            first | (guard_target =~ Wp _ _ _ _ _ (Value.int (nI _) :: _) _ _ _ _; with_reducible refine x_if_eqN (pc := 56) (tgt := 69) ?_ dX9_see_56 ?_ (fun h56 => ?_) (fun h56 => ?_); (first | omega | exact b2n_32 _ | exact b2n_31 _); decide) | refine x_if_eq (pc := 56) (tgt := 69) dX9_see_56 (by decide) (fun h56 => ?_) (fun h56 => ?_)
            · skip
              refine x_bipush (pc := 69) dX9_see_69 bp_m4 ?_
              refine x_ret (pc := 71) (v := some _) rfl trivial dX9_see_71 (by decide) ?_
              exact h M csame.rf.low hC
            · skip
              omega
          · skip
            cases h40
      · skip
        cases h17
    · skip
      exact absurd h2 hc
theorem fX9_book {c m : Int32} (hC : XC9 M s) (h : ∀ M', low M M' → XC9 M' (opBook s c m).2 → K (some (.int (opBook s c m).1)) xSF M') : Ex g (d + 1) yX9_book mX9_book [.ref 0, .int c, .int m] xSF M K := by
  unfold opBook at h
  have hN := hC.1.2
  have hpl := hC.2.1.2.2.2.2.2.2
  have h5 := hN.2.2.2.2.2.2
  refine x_entry kX9_book (Nat.le_of_ble_eq_true rfl) ?_
  show Wp g _ mX9_book 0 [some (.ref 0), some (.int c), some (.int m)] [] _ _ _ _
  by_cases hc : c = -1
  · rw [if_pos hc] at h
    refine x_iload_n (pc := 0) dX9_book_0 rfl ?_
    refine x_iconst (pc := 1) dX9_book_1 ic_m1 ?_
    refine x_icmp_ne (pc := 2) (tgt := 13) dX9_book_2 (by decide) (fun h2 => ?_) (fun h2 => ?_)
    · skip
      exact absurd hc h2
    · skip
      refine x_aload_n (pc := 5) dX9_book_5 rfl ?_
      refine x_getR (pc := 6) dX9_book_6 flX9_24 (by first | assumption | rfl) rfl ?_
      refine x_invV0 (pc := 9) dX9_book_9 mlX9_258 imX5_forgetBook seX5_forgetBook kX5_forgetBook (by first | assumption | rfl) rfl (Nat.le_of_ble_eq_true rfl) (by decide) ?_
      refine sp_X5_forgetBook nots25 ?_
      refine x_cv rfl rfl ?_
      refine x_ret (pc := 12) (v := some _) rfl trivial dX9_book_12 (by decide) ?_
      exact h _ (lowN (xsame.put (by decide) (by decide))) (hC.upN (xsame.put (by decide) (by decide)) (hN.put0 9 (Or.inr (Or.inr rfl))) hpl)
  rw [if_neg hc] at h
  rcases isR_cases (x := c) (n := 16) (by omega) with e | ⟨c, hcc, rfl, e⟩
  · simp only [e, Bool.false_eq_true, if_false] at h
    refine x_iload_n (pc := 0) dX9_book_0 rfl ?_
    refine x_iconst (pc := 1) dX9_book_1 ic_m1 ?_
    refine x_icmp_ne (pc := 2) (tgt := 13) dX9_book_2 (by decide) (fun h2 => ?_) (fun h2 => ?_)
    · skip
      refine x_iload_n (pc := 13) dX9_book_13 rfl ?_
      refine x_invS1 (pc := 14) dX9_book_14 mlX9_67 stX3_isCell kX3_isCell (Nat.le_of_ble_eq_true rfl) (by decide) ?_
      refine sp_X3_isCell ?_
      refine x_cv rfl rfl ?_
      rw [show isR c 16 = false from e]
      first | (guard_target =~ Wp _ _ _ _ _ (Value.int (nI _) :: _) _ _ _ _; with_reducible refine x_if_neN (pc := 17) (tgt := 22) ?_ dX9_book_17 ?_ (fun h17 => ?_) (fun h17 => ?_); (first | omega | exact b2n_32 _ | exact b2n_31 _); decide) | refine x_if_ne (pc := 17) (tgt := 22) dX9_book_17 (by decide) (fun h17 => ?_) (fun h17 => ?_)
      · skip
        exact absurd rfl h17
      · skip
        refine x_iconst (pc := 20) dX9_book_20 ic_m1 ?_
        refine x_ret (pc := 21) (v := some _) rfl trivial dX9_book_21 (by decide) ?_
        exact h M csame.rf.low hC
    · skip
      exact absurd h2 hc
  simp only [e, if_true] at h
  rcases isR_cases (x := m) (n := 10000) (by omega) with e2 | ⟨m, hm, rfl, e2⟩
  · simp only [e2, Bool.false_eq_true, if_false] at h
    refine x_iload_n (pc := 0) dX9_book_0 rfl ?_
    refine x_iconst (pc := 1) dX9_book_1 ic_m1 ?_
    refine x_icmp_ne (pc := 2) (tgt := 13) dX9_book_2 (by decide) (fun h2 => ?_) (fun h2 => ?_)
    · skip
      refine x_iload_n (pc := 13) dX9_book_13 rfl ?_
      refine x_invS1 (pc := 14) dX9_book_14 mlX9_67 stX3_isCell kX3_isCell (Nat.le_of_ble_eq_true rfl) (by decide) ?_
      refine sp_X3_isCell ?_
      refine x_cv rfl rfl ?_
      rw [show isR (nI c) 16 = true from e]
      first | (guard_target =~ Wp _ _ _ _ _ (Value.int (nI _) :: _) _ _ _ _; with_reducible refine x_if_neN (pc := 17) (tgt := 22) ?_ dX9_book_17 ?_ (fun h17 => ?_) (fun h17 => ?_); (first | omega | exact b2n_32 _ | exact b2n_31 _); decide) | refine x_if_ne (pc := 17) (tgt := 22) dX9_book_17 (by decide) (fun h17 => ?_) (fun h17 => ?_)
      · skip
        refine x_iload_n (pc := 22) dX9_book_22 rfl ?_
        refine x_iconstN (pc := 23) 0 dX9_book_23 ic_0 ?_
        refine x_sipushN (pc := 24) 9999 dX9_book_24 sp_9999 ?_
        refine x_invS3 (pc := 27) dX9_book_27 mlX9_72 stX9_isBetween kX9_isBetween (Nat.le_of_ble_eq_true rfl) (by decide) ?_
        refine sp_X9_isBetween ?_
        refine x_cv rfl rfl ?_
        rw [btw_isR (by decide), show isR m (nI (9999 + 1)) = false from e2]
        first | (guard_target =~ Wp _ _ _ _ _ (Value.int (nI _) :: _) _ _ _ _; with_reducible refine x_if_neN (pc := 30) (tgt := 36) ?_ dX9_book_30 ?_ (fun h30 => ?_) (fun h30 => ?_); (first | omega | exact b2n_32 _ | exact b2n_31 _); decide) | refine x_if_ne (pc := 30) (tgt := 36) dX9_book_30 (by decide) (fun h30 => ?_) (fun h30 => ?_)
        · skip
          exact absurd rfl h30
        · skip
          refine x_bipush (pc := 33) dX9_book_33 bp_m2 ?_
          refine x_ret (pc := 35) (v := some _) rfl trivial dX9_book_35 (by decide) ?_
          exact h M csame.rf.low hC
      · skip
        cases h17
    · skip
      exact absurd h2 hc
  simp only [e2, if_true] at h
  rw [toN_nI (by omega), toN_nI (by omega)] at h
  by_cases hq : qN s 9 0 < 8
  · rw [if_pos hq] at h
    refine x_iload_n (pc := 0) dX9_book_0 rfl ?_
    refine x_iconst (pc := 1) dX9_book_1 ic_m1 ?_
    refine x_icmp_ne (pc := 2) (tgt := 13) dX9_book_2 (by decide) (fun h2 => ?_) (fun h2 => ?_)
    · skip
      refine x_iload_n (pc := 13) dX9_book_13 rfl ?_
      refine x_invS1 (pc := 14) dX9_book_14 mlX9_67 stX3_isCell kX3_isCell (Nat.le_of_ble_eq_true rfl) (by decide) ?_
      refine sp_X3_isCell ?_
      refine x_cv rfl rfl ?_
      rw [show isR (nI c) 16 = true from e]
      first | (guard_target =~ Wp _ _ _ _ _ (Value.int (nI _) :: _) _ _ _ _; with_reducible refine x_if_neN (pc := 17) (tgt := 22) ?_ dX9_book_17 ?_ (fun h17 => ?_) (fun h17 => ?_); (first | omega | exact b2n_32 _ | exact b2n_31 _); decide) | refine x_if_ne (pc := 17) (tgt := 22) dX9_book_17 (by decide) (fun h17 => ?_) (fun h17 => ?_)
      · skip
        refine x_iload_n (pc := 22) dX9_book_22 rfl ?_
        refine x_iconstN (pc := 23) 0 dX9_book_23 ic_0 ?_
        refine x_sipushN (pc := 24) 9999 dX9_book_24 sp_9999 ?_
        refine x_invS3 (pc := 27) dX9_book_27 mlX9_72 stX9_isBetween kX9_isBetween (Nat.le_of_ble_eq_true rfl) (by decide) ?_
        refine sp_X9_isBetween ?_
        refine x_cv rfl rfl ?_
        rw [btw_isR (by decide), show isR (nI m) (nI (9999 + 1)) = true from e2]
        first | (guard_target =~ Wp _ _ _ _ _ (Value.int (nI _) :: _) _ _ _ _; with_reducible refine x_if_neN (pc := 30) (tgt := 36) ?_ dX9_book_30 ?_ (fun h30 => ?_) (fun h30 => ?_); (first | omega | exact b2n_32 _ | exact b2n_31 _); decide) | refine x_if_ne (pc := 30) (tgt := 36) dX9_book_30 (by decide) (fun h30 => ?_) (fun h30 => ?_)
        · skip
          refine x_aload_n (pc := 36) dX9_book_36 rfl ?_
          refine x_getR (pc := 37) dX9_book_37 flX9_24 (by first | assumption | rfl) rfl ?_
          refine x_iload_n (pc := 40) dX9_book_40 rfl ?_
          refine x_iload_n (pc := 41) dX9_book_41 rfl ?_
          refine x_invV2 (pc := 42) dX9_book_42 mlX9_261 imX5_addToBook seX5_addToBook kX5_addToBook (by first | assumption | rfl) rfl (Nat.le_of_ble_eq_true rfl) (by decide) ?_
          refine sp_X5_addToBook hcc hm nots25 hN (fun z => absurd hq z) (fun _ M2 hs hN2 => ?_)
          refine x_cv rfl rfl ?_
          first | (guard_target =~ Wp _ _ _ _ _ (Value.int (nI _) :: _) _ _ _ _; with_reducible refine x_if_eqN (pc := 45) (tgt := 58) ?_ dX9_book_45 ?_ (fun h45 => ?_) (fun h45 => ?_); (first | omega | exact b2n_32 _ | exact b2n_31 _); decide) | refine x_if_eq (pc := 45) (tgt := 58) dX9_book_45 (by decide) (fun h45 => ?_) (fun h45 => ?_)
          · skip
            omega
          · skip
            refine x_aload_n (pc := 48) dX9_book_48 rfl ?_
            refine x_getR (pc := 49) dX9_book_49 flX9_24 (by first | assumption | rfl) rfl ?_
            refine x_getI (pc := 52) dX9_book_52 flX9_264 (by first | assumption | rfl) rfl ?_
            rw [show M2.1 25 9 = nI (qN s 9 0 + 1) from hN2.2.2.2.2.2.1]
            refine x_goto (pc := 55) (tgt := 60) dX9_book_55 (by decide) ?_
            refine x_ret (pc := 60) (v := some _) rfl trivial dX9_book_60 (by decide) ?_
            exact h M2 (lowN hs) (hC.upN hs hN2 (fun k hk hk1 => by simp only [nBook] at hk hk1 ⊢; simp at hk hk1 ⊢; exact hpl k hk hk1))
        · skip
          cases h30
      · skip
        cases h17
    · skip
      exact absurd h2 hc
  · rw [if_neg hq] at h
    refine x_iload_n (pc := 0) dX9_book_0 rfl ?_
    refine x_iconst (pc := 1) dX9_book_1 ic_m1 ?_
    refine x_icmp_ne (pc := 2) (tgt := 13) dX9_book_2 (by decide) (fun h2 => ?_) (fun h2 => ?_)
    · skip
      refine x_iload_n (pc := 13) dX9_book_13 rfl ?_
      refine x_invS1 (pc := 14) dX9_book_14 mlX9_67 stX3_isCell kX3_isCell (Nat.le_of_ble_eq_true rfl) (by decide) ?_
      refine sp_X3_isCell ?_
      refine x_cv rfl rfl ?_
      rw [show isR (nI c) 16 = true from e]
      first | (guard_target =~ Wp _ _ _ _ _ (Value.int (nI _) :: _) _ _ _ _; with_reducible refine x_if_neN (pc := 17) (tgt := 22) ?_ dX9_book_17 ?_ (fun h17 => ?_) (fun h17 => ?_); (first | omega | exact b2n_32 _ | exact b2n_31 _); decide) | refine x_if_ne (pc := 17) (tgt := 22) dX9_book_17 (by decide) (fun h17 => ?_) (fun h17 => ?_)
      · skip
        refine x_iload_n (pc := 22) dX9_book_22 rfl ?_
        refine x_iconstN (pc := 23) 0 dX9_book_23 ic_0 ?_
        refine x_sipushN (pc := 24) 9999 dX9_book_24 sp_9999 ?_
        refine x_invS3 (pc := 27) dX9_book_27 mlX9_72 stX9_isBetween kX9_isBetween (Nat.le_of_ble_eq_true rfl) (by decide) ?_
        refine sp_X9_isBetween ?_
        refine x_cv rfl rfl ?_
        rw [btw_isR (by decide), show isR (nI m) (nI (9999 + 1)) = true from e2]
        first | (guard_target =~ Wp _ _ _ _ _ (Value.int (nI _) :: _) _ _ _ _; with_reducible refine x_if_neN (pc := 30) (tgt := 36) ?_ dX9_book_30 ?_ (fun h30 => ?_) (fun h30 => ?_); (first | omega | exact b2n_32 _ | exact b2n_31 _); decide) | refine x_if_ne (pc := 30) (tgt := 36) dX9_book_30 (by decide) (fun h30 => ?_) (fun h30 => ?_)
        · skip
          refine x_aload_n (pc := 36) dX9_book_36 rfl ?_
          refine x_getR (pc := 37) dX9_book_37 flX9_24 (by first | assumption | rfl) rfl ?_
          refine x_iload_n (pc := 40) dX9_book_40 rfl ?_
          refine x_iload_n (pc := 41) dX9_book_41 rfl ?_
          refine x_invV2 (pc := 42) dX9_book_42 mlX9_261 imX5_addToBook seX5_addToBook kX5_addToBook (by first | assumption | rfl) rfl (Nat.le_of_ble_eq_true rfl) (by decide) ?_
          refine sp_X5_addToBook hcc hm nots25 hN (fun _ => ?_) (fun z => absurd z hq)
          refine x_cv rfl rfl ?_
          first | (guard_target =~ Wp _ _ _ _ _ (Value.int (nI _) :: _) _ _ _ _; with_reducible refine x_if_eqN (pc := 45) (tgt := 58) ?_ dX9_book_45 ?_ (fun h45 => ?_) (fun h45 => ?_); (first | omega | exact b2n_32 _ | exact b2n_31 _); decide) | refine x_if_eq (pc := 45) (tgt := 58) dX9_book_45 (by decide) (fun h45 => ?_) (fun h45 => ?_)
          · skip
            refine x_bipush (pc := 58) dX9_book_58 bp_m4 ?_
            refine x_ret (pc := 60) (v := some _) rfl trivial dX9_book_60 (by decide) ?_
            exact h M csame.rf.low hC
          · skip
            omega
        · skip
          cases h30
      · skip
        cases h17
    · skip
      exact absurd h2 hc
theorem fX9_looked (hC : XC9 M s) (h : ∀ M', low M M' → XC9 M' s → K (some (.int (vLooked s))) xSF M') : Ex g (d + 1) yX9_looked mX9_looked [.ref 0] xSF M K := by
  refine x_entry kX9_looked (Nat.le_of_ble_eq_true rfl) ?_
  show Wp g _ mX9_looked 0 [some (.ref 0)] [] _ _ _ _
  refine x_aload_n (pc := 0) dX9_looked_0 rfl ?_
  refine x_getR (pc := 1) dX9_looked_1 flX9_24 (by first | assumption | rfl) rfl ?_
  refine x_aload_n (pc := 4) dX9_looked_4 rfl ?_
  refine x_getR (pc := 5) dX9_looked_5 flX9_12 (by first | assumption | rfl) rfl ?_
  refine x_invV1 (pc := 8) dX9_looked_8 mlX9_267 imX5_firstOtherwise seX5_firstOtherwise kX5_firstOtherwise (by first | assumption | rfl) rfl (Nat.le_of_ble_eq_true rfl) (by decide) ?_
  refine sp_X5_firstOtherwise nots25 hC.1.2 car1 hC.1.1 ?_
  refine x_cv rfl rfl ?_
  refine x_ret (pc := 11) (v := some _) rfl trivial dX9_looked_11 (by decide) ?_
  exact h M csame.rf.low hC
theorem fX9_ends {what : Int32} (hC : XC9 M s) (h : ∀ M', low M M' → XC9 M' s → K (some (.int (vEnds s what))) xSF M') : Ex g (d + 6) yX9_ends mX9_ends [.ref 0, .int what] xSF M K := by
  unfold vEnds at h
  have hR := hC.1.1
  refine x_entry kX9_ends (Nat.le_of_ble_eq_true rfl) ?_
  show Wp g _ mX9_ends 0 [some (.ref 0), some (.int what), none] [] _ _ _ _
  rcases isR_cases (x := what) (n := 2) (by omega) with e | ⟨k, hk, rfl, e⟩
  · simp only [e, Bool.false_eq_true, if_false] at h
    refine x_iload_n (pc := 0) dX9_ends_0 rfl ?_
    refine x_iconstN (pc := 1) 0 dX9_ends_1 ic_0 ?_
    refine x_iconstN (pc := 2) 1 dX9_ends_2 ic_1 ?_
    refine x_invS3 (pc := 3) dX9_ends_3 mlX9_72 stX9_isBetween kX9_isBetween (Nat.le_of_ble_eq_true rfl) (by decide) ?_
    refine sp_X9_isBetween ?_
    refine x_cv rfl rfl ?_
    rw [btw_isR (by decide), show isR what (nI (1 + 1)) = false from e]
    first | (guard_target =~ Wp _ _ _ _ _ (Value.int (nI _) :: _) _ _ _ _; with_reducible refine x_if_neN (pc := 6) (tgt := 11) ?_ dX9_ends_6 ?_ (fun h6 => ?_) (fun h6 => ?_); (first | omega | exact b2n_32 _ | exact b2n_31 _); decide) | refine x_if_ne (pc := 6) (tgt := 11) dX9_ends_6 (by decide) (fun h6 => ?_) (fun h6 => ?_)
    · skip
      exact absurd rfl h6
    · skip
      refine x_iconst (pc := 9) dX9_ends_9 ic_m1 ?_
      refine x_ret (pc := 10) (v := some _) rfl trivial dX9_ends_10 (by decide) ?_
      exact h M csame.rf.low hC
  · simp only [e, if_true] at h
    rw [toN_nI (by omega)] at h
    refine x_iload_n (pc := 0) dX9_ends_0 rfl ?_
    refine x_iconstN (pc := 1) 0 dX9_ends_1 ic_0 ?_
    refine x_iconstN (pc := 2) 1 dX9_ends_2 ic_1 ?_
    refine x_invS3 (pc := 3) dX9_ends_3 mlX9_72 stX9_isBetween kX9_isBetween (Nat.le_of_ble_eq_true rfl) (by decide) ?_
    refine sp_X9_isBetween ?_
    refine x_cv rfl rfl ?_
    rw [btw_isR (by decide), show isR (nI k) (nI (1 + 1)) = true from e]
    first | (guard_target =~ Wp _ _ _ _ _ (Value.int (nI _) :: _) _ _ _ _; with_reducible refine x_if_neN (pc := 6) (tgt := 11) ?_ dX9_ends_6 ?_ (fun h6 => ?_) (fun h6 => ?_); (first | omega | exact b2n_32 _ | exact b2n_31 _); decide) | refine x_if_ne (pc := 6) (tgt := 11) dX9_ends_6 (by decide) (fun h6 => ?_) (fun h6 => ?_)
    · skip
      refine x_aload_n (pc := 11) dX9_ends_11 rfl ?_
      refine x_getR (pc := 12) dX9_ends_12 flX9_43 (by first | assumption | rfl) rfl ?_
      refine x_invV0 (pc := 15) dX9_ends_15 mlX9_254 imX1_behindPlan seX1_behindPlan kX1_behindPlan (by first | assumption | rfl) rfl (Nat.le_of_ble_eq_true rfl) (by decide) ?_
      refine sp_X1_behindPlan hC.2.1.2.2.1 hR hC.1.2 (fun M2 hs hR2 => ?_)
      refine x_cv rfl rfl ?_
      refine x_astore_n (pc := 18) (by omega) dX9_ends_18 (by decide) xs_2 (x_hp rfl) ?_
      refine x_iload_n (pc := 19) dX9_ends_19 rfl ?_
      first | (guard_target =~ Wp _ _ _ _ _ (Value.int (nI _) :: _) _ _ _ _; with_reducible refine x_if_neN (pc := 20) (tgt := 30) ?_ dX9_ends_20 ?_ (fun h20 => ?_) (fun h20 => ?_); (first | omega | exact b2n_32 _ | exact b2n_31 _); decide) | refine x_if_ne (pc := 20) (tgt := 30) dX9_ends_20 (by decide) (fun h20 => ?_) (fun h20 => ?_)
      · skip
        refine x_aload_n (pc := 30) dX9_ends_30 rfl ?_
        refine x_invV0 (pc := 31) dX9_ends_31 mlX9_177 imX2_baldCells seX2_baldCells kX2_baldCells (by first | assumption | rfl) rfl (Nat.le_of_ble_eq_true rfl) (by decide) ?_
        refine sp_X2_baldCells car46 hR2 ?_
        refine x_cv rfl rfl ?_
        have hlt := baldA_lt (A := (plF s.1.2.2.2.1 (s.1.1, nI s.1.2.1) (s.1.2.2.2.1 8 0)).1)
        refine x_invS1 (pc := 34) dX9_ends_34 mlX9_129 stX3_howMany kX3_howMany (Nat.le_of_ble_eq_true rfl) (by decide) ?_
        refine sp_X3_howMany (by omega) ?_
        refine x_cv rfl rfl ?_
        refine x_ret (pc := 37) (v := some _) rfl trivial dX9_ends_37 (by decide) ?_
        rw [if_neg h20] at h; exact h M2 (csame.t hs).low (hC.st (csame.t hs) (hR.out hs (by decide)))
      · skip
        refine x_aload_n (pc := 23) dX9_ends_23 rfl ?_
        refine x_invV0 (pc := 24) dX9_ends_24 mlX9_180 imX2_wearOfAll seX2_wearOfAll kX2_wearOfAll (by first | assumption | rfl) rfl (Nat.le_of_ble_eq_true rfl) (by decide) ?_
        refine sp_X2_wearOfAll car46 hR2 ?_
        refine x_cv rfl rfl ?_
        refine x_goto (pc := 27) (tgt := 37) dX9_ends_27 (by decide) ?_
        refine x_ret (pc := 37) (v := some _) rfl trivial dX9_ends_37 (by decide) ?_
        rw [if_pos h20] at h; exact h M2 (csame.t hs).low (hC.st (csame.t hs) (hR.out hs (by decide)))
    · skip
      cases h6
end P45
