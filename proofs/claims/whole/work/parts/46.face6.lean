/-! the program's calls: who, best, plan, told, on -/
def toldN (s : XSt) (j : Nat) : Int32 := if j = 0 then nI (s.1.1 11 0) else if j = 1 then nI (s.1.1 13 0) else if j = 2 then nI (s.1.1 10 0) else if j = 3 then nI (baldA s.1.1) else if j = 4 then nI (sumA s.1.1) else if j = 5 then nI (trodG s.1.1 (qw s) (s.1.1 8 0)) else if j = 6 then fwnF s.1.1 (qw s) 60 1 else if 10 ≤ j then nI (s.1.1 0 (j - 10)) else -1
def vTold (s : XSt) (x : Int32) : Int32 := if isR x (nI 26) = true then toldN s (toN x) else -1
def onA (s : XSt) (n : Nat) : XA := spA s.1.1 (qw s) n
def vOn (s : XSt) (n what : Int32) : Int32 := if isR what (nI 26) = true ∧ (toN what < 2 ∨ 10 ≤ toN what) then (if isR n (nI 61) = true then (if 10 ≤ toN what then nI (onA s (toN n) 0 (toN what - 10)) else if toN what = 0 then nI (baldA (onA s (toN n))) else nI (sumA (onA s (toN n)))) else -2) else -1
theorem ask_nI {j lo : Nat} (hj : j < 2 ^ 31) (hl : lo < 2 ^ 30) : decide (nI lo ≤ nI j ∧ nI j < nI lo + nI 16) = decide (lo ≤ j ∧ j < lo + 16) := by
  rw [nI_add]
  exact decide_eq_decide.mpr (and_congr (nI_leI (by omega) hj) (nI_ltI hj (by omega)))
theorem ask_out {x : Int32} {lo : Nat} (hl : lo < 2 ^ 30) (h : isR x (nI (lo + 16)) = false) : decide (nI lo ≤ x ∧ x < nI lo + nI 16) = false := by
  refine decide_eq_false (fun q => ?_)
  rw [nI_add] at q
  have h0 : ¬ x < 0 := fun z => absurd (Int32.lt_of_le_of_lt q.1 z) (nI_pos (by omega))
  rw [show isR x (nI (lo + 16)) = true from decide_eq_true ⟨Int32.not_lt.mp h0, q.2⟩] at h
  cases h
theorem isR_out {x : Int32} {n : Nat} (hn : n + 1 < 2 ^ 31) (h : isR x (nI (n + 1)) = false) : x.toInt < 0 ∨ (n : Int) < x.toInt := by
  rcases pk_ix x hn with q | q | ⟨j, hj, rfl⟩
  · exact Or.inl (by rw [Int32.lt_iff_toInt_lt] at q; exact q)
  · refine Or.inr ?_
    rw [Int32.le_iff_toInt_le, nI_toInt hn] at q
    omega
  · rw [isR_nI (by omega) hn, decide_eq_true hj] at h
    cases h
section P46
variable {g : XG} {d : Nat} {M : XM} {K : Option Value → XS → XM → Prop} {s : XSt}
theorem fX9_who {p n what : Int32} (hC : XC9 M s) (h : ∀ M', low M M' → XC9 M' s → K (some (.int (vWho s p n what))) xSF M') : Ex g (d + 5) yX9_who mX9_who [.ref 0, .int p, .int n, .int what] xSF M K := by
  unfold vWho at h
  have hR := hC.1.1
  have hW := w64 hC.2.1.2.2.2.1 hR.goersB
  refine x_entry kX9_who (Nat.le_of_ble_eq_true rfl) ?_
  show Wp g _ mX9_who 0 [some (.ref 0), some (.int p), some (.int n), some (.int what)] [] _ _ _ _
  rcases isR_cases (x := what) (n := 2) (by omega) with e | ⟨k, hk, rfl, e⟩
  · simp only [e, Bool.false_eq_true, if_false] at h
    refine x_iload_n (pc := 0) dX9_who_0 rfl ?_
    refine x_iconstN (pc := 1) 0 dX9_who_1 ic_0 ?_
    refine x_iconstN (pc := 2) 1 dX9_who_2 ic_1 ?_
    refine x_invS3 (pc := 3) dX9_who_3 mlX9_72 stX9_isBetween kX9_isBetween (Nat.le_of_ble_eq_true rfl) (by decide) ?_
    refine sp_X9_isBetween ?_
    refine x_cv rfl rfl ?_
    rw [btw_isR (by decide), show isR what (nI (1 + 1)) = false from e]
    first | (guard_target =~ Wp _ _ _ _ _ (Value.int (nI _) :: _) _ _ _ _; with_reducible refine x_if_neN (pc := 6) (tgt := 11) ?_ dX9_who_6 ?_ (fun h6 => ?_) (fun h6 => ?_); (first | omega | exact b2n_32 _ | exact b2n_31 _); decide) | refine x_if_ne (pc := 6) (tgt := 11) dX9_who_6 (by decide) (fun h6 => ?_) (fun h6 => ?_)
    · skip
      exact absurd rfl h6
    · skip
      refine x_iconst (pc := 9) dX9_who_9 ic_m1 ?_
      refine x_ret (pc := 10) (v := some _) rfl trivial dX9_who_10 (by decide) ?_
      exact h M csame.rf.low hC
  simp only [e, if_true] at h
  rcases isR_cases (x := p) (n := 65536) (by omega) with e2 | ⟨p, hp, rfl, e2⟩
  · simp only [e2, Bool.false_eq_true, if_false, false_and] at h
    refine x_iload_n (pc := 0) dX9_who_0 rfl ?_
    refine x_iconstN (pc := 1) 0 dX9_who_1 ic_0 ?_
    refine x_iconstN (pc := 2) 1 dX9_who_2 ic_1 ?_
    refine x_invS3 (pc := 3) dX9_who_3 mlX9_72 stX9_isBetween kX9_isBetween (Nat.le_of_ble_eq_true rfl) (by decide) ?_
    refine sp_X9_isBetween ?_
    refine x_cv rfl rfl ?_
    rw [btw_isR (by decide), show isR (nI k) (nI (1 + 1)) = true from e]
    first | (guard_target =~ Wp _ _ _ _ _ (Value.int (nI _) :: _) _ _ _ _; with_reducible refine x_if_neN (pc := 6) (tgt := 11) ?_ dX9_who_6 ?_ (fun h6 => ?_) (fun h6 => ?_); (first | omega | exact b2n_32 _ | exact b2n_31 _); decide) | refine x_if_ne (pc := 6) (tgt := 11) dX9_who_6 (by decide) (fun h6 => ?_) (fun h6 => ?_)
    · skip
      refine x_iload_n (pc := 11) dX9_who_11 rfl ?_
      refine x_iconstN (pc := 12) 0 dX9_who_12 ic_0 ?_
      refine x_ldc (pc := 13) (v := nI 65535) dX9_who_13 ckX9_202 ?_
      refine x_invS3 (pc := 15) dX9_who_15 mlX9_72 stX9_isBetween kX9_isBetween (Nat.le_of_ble_eq_true rfl) (by decide) ?_
      refine sp_X9_isBetween ?_
      refine x_cv rfl rfl ?_
      rw [btw_isR (by decide), show isR p (nI (65535 + 1)) = false from e2]
      first | (guard_target =~ Wp _ _ _ _ _ (Value.int (nI _) :: _) _ _ _ _; with_reducible refine x_if_eqN (pc := 18) (tgt := 31) ?_ dX9_who_18 ?_ (fun h18 => ?_) (fun h18 => ?_); (first | omega | exact b2n_32 _ | exact b2n_31 _); decide) | refine x_if_eq (pc := 18) (tgt := 31) dX9_who_18 (by decide) (fun h18 => ?_) (fun h18 => ?_)
      · skip
        refine x_bipush (pc := 31) dX9_who_31 bp_m2 ?_
        refine x_ret (pc := 33) (v := some _) rfl trivial dX9_who_33 (by decide) ?_
        exact h M csame.rf.low hC
      · skip
        exact absurd rfl h18
    · skip
      cases h6
  rcases btw_cases (x := n) (lo := 1) (hi := 20) (by decide) (by decide) with e3 | ⟨n, hn1, hn2, rfl, e3⟩
  · simp only [e3, Bool.false_eq_true, if_false, and_false] at h
    refine x_iload_n (pc := 0) dX9_who_0 rfl ?_
    refine x_iconstN (pc := 1) 0 dX9_who_1 ic_0 ?_
    refine x_iconstN (pc := 2) 1 dX9_who_2 ic_1 ?_
    refine x_invS3 (pc := 3) dX9_who_3 mlX9_72 stX9_isBetween kX9_isBetween (Nat.le_of_ble_eq_true rfl) (by decide) ?_
    refine sp_X9_isBetween ?_
    refine x_cv rfl rfl ?_
    rw [btw_isR (by decide), show isR (nI k) (nI (1 + 1)) = true from e]
    first | (guard_target =~ Wp _ _ _ _ _ (Value.int (nI _) :: _) _ _ _ _; with_reducible refine x_if_neN (pc := 6) (tgt := 11) ?_ dX9_who_6 ?_ (fun h6 => ?_) (fun h6 => ?_); (first | omega | exact b2n_32 _ | exact b2n_31 _); decide) | refine x_if_ne (pc := 6) (tgt := 11) dX9_who_6 (by decide) (fun h6 => ?_) (fun h6 => ?_)
    · skip
      refine x_iload_n (pc := 11) dX9_who_11 rfl ?_
      refine x_iconstN (pc := 12) 0 dX9_who_12 ic_0 ?_
      refine x_ldc (pc := 13) (v := nI 65535) dX9_who_13 ckX9_202 ?_
      refine x_invS3 (pc := 15) dX9_who_15 mlX9_72 stX9_isBetween kX9_isBetween (Nat.le_of_ble_eq_true rfl) (by decide) ?_
      refine sp_X9_isBetween ?_
      refine x_cv rfl rfl ?_
      rw [btw_isR (by decide), show isR (nI p) (nI (65535 + 1)) = true from e2]
      first | (guard_target =~ Wp _ _ _ _ _ (Value.int (nI _) :: _) _ _ _ _; with_reducible refine x_if_eqN (pc := 18) (tgt := 31) ?_ dX9_who_18 ?_ (fun h18 => ?_) (fun h18 => ?_); (first | omega | exact b2n_32 _ | exact b2n_31 _); decide) | refine x_if_eq (pc := 18) (tgt := 31) dX9_who_18 (by decide) (fun h18 => ?_) (fun h18 => ?_)
      · skip
        cases h18
      · skip
        refine x_iload_n (pc := 21) dX9_who_21 rfl ?_
        refine x_iconstN (pc := 22) 1 dX9_who_22 ic_1 ?_
        refine x_bipushN (pc := 23) 20 dX9_who_23 bp_20 ?_
        refine x_invS3 (pc := 25) dX9_who_25 mlX9_72 stX9_isBetween kX9_isBetween (Nat.le_of_ble_eq_true rfl) (by decide) ?_
        refine sp_X9_isBetween ?_
        refine x_cv rfl rfl ?_
        rw [e3]
        first | (guard_target =~ Wp _ _ _ _ _ (Value.int (nI _) :: _) _ _ _ _; with_reducible refine x_if_neN (pc := 28) (tgt := 34) ?_ dX9_who_28 ?_ (fun h28 => ?_) (fun h28 => ?_); (first | omega | exact b2n_32 _ | exact b2n_31 _); decide) | refine x_if_ne (pc := 28) (tgt := 34) dX9_who_28 (by decide) (fun h28 => ?_) (fun h28 => ?_)
        · skip
          exact absurd rfl h28
        · skip
          refine x_bipush (pc := 31) dX9_who_31 bp_m2 ?_
          refine x_ret (pc := 33) (v := some _) rfl trivial dX9_who_33 (by decide) ?_
          exact h M csame.rf.low hC
    · skip
      cases h6
  simp only [e2, e3, and_self, if_true] at h
  rw [toN_nI (by omega), toN_nI (by omega), toN_nI (by omega)] at h
  refine x_iload_n (pc := 0) dX9_who_0 rfl ?_
  refine x_iconstN (pc := 1) 0 dX9_who_1 ic_0 ?_
  refine x_iconstN (pc := 2) 1 dX9_who_2 ic_1 ?_
  refine x_invS3 (pc := 3) dX9_who_3 mlX9_72 stX9_isBetween kX9_isBetween (Nat.le_of_ble_eq_true rfl) (by decide) ?_
  refine sp_X9_isBetween ?_
  refine x_cv rfl rfl ?_
  rw [btw_isR (by decide), show isR (nI k) (nI (1 + 1)) = true from e]
  first | (guard_target =~ Wp _ _ _ _ _ (Value.int (nI _) :: _) _ _ _ _; with_reducible refine x_if_neN (pc := 6) (tgt := 11) ?_ dX9_who_6 ?_ (fun h6 => ?_) (fun h6 => ?_); (first | omega | exact b2n_32 _ | exact b2n_31 _); decide) | refine x_if_ne (pc := 6) (tgt := 11) dX9_who_6 (by decide) (fun h6 => ?_) (fun h6 => ?_)
  · skip
    refine x_iload_n (pc := 11) dX9_who_11 rfl ?_
    refine x_iconstN (pc := 12) 0 dX9_who_12 ic_0 ?_
    refine x_ldc (pc := 13) (v := nI 65535) dX9_who_13 ckX9_202 ?_
    refine x_invS3 (pc := 15) dX9_who_15 mlX9_72 stX9_isBetween kX9_isBetween (Nat.le_of_ble_eq_true rfl) (by decide) ?_
    refine sp_X9_isBetween ?_
    refine x_cv rfl rfl ?_
    rw [btw_isR (by decide), show isR (nI p) (nI (65535 + 1)) = true from e2]
    first | (guard_target =~ Wp _ _ _ _ _ (Value.int (nI _) :: _) _ _ _ _; with_reducible refine x_if_eqN (pc := 18) (tgt := 31) ?_ dX9_who_18 ?_ (fun h18 => ?_) (fun h18 => ?_); (first | omega | exact b2n_32 _ | exact b2n_31 _); decide) | refine x_if_eq (pc := 18) (tgt := 31) dX9_who_18 (by decide) (fun h18 => ?_) (fun h18 => ?_)
    · skip
      cases h18
    · skip
      refine x_iload_n (pc := 21) dX9_who_21 rfl ?_
      refine x_iconstN (pc := 22) 1 dX9_who_22 ic_1 ?_
      refine x_bipushN (pc := 23) 20 dX9_who_23 bp_20 ?_
      refine x_invS3 (pc := 25) dX9_who_25 mlX9_72 stX9_isBetween kX9_isBetween (Nat.le_of_ble_eq_true rfl) (by decide) ?_
      refine sp_X9_isBetween ?_
      refine x_cv rfl rfl ?_
      rw [e3]
      first | (guard_target =~ Wp _ _ _ _ _ (Value.int (nI _) :: _) _ _ _ _; with_reducible refine x_if_neN (pc := 28) (tgt := 34) ?_ dX9_who_28 ?_ (fun h28 => ?_) (fun h28 => ?_); (first | omega | exact b2n_32 _ | exact b2n_31 _); decide) | refine x_if_ne (pc := 28) (tgt := 34) dX9_who_28 (by decide) (fun h28 => ?_) (fun h28 => ?_)
      · skip
        refine x_iload_n (pc := 34) dX9_who_34 rfl ?_
        first | (guard_target =~ Wp _ _ _ _ _ (Value.int (nI _) :: _) _ _ _ _; with_reducible refine x_if_neN (pc := 35) (tgt := 50) ?_ dX9_who_35 ?_ (fun h35 => ?_) (fun h35 => ?_); (first | omega | exact b2n_32 _ | exact b2n_31 _); decide) | refine x_if_ne (pc := 35) (tgt := 50) dX9_who_35 (by decide) (fun h35 => ?_) (fun h35 => ?_)
        · skip
          refine x_aload_n (pc := 50) dX9_who_50 rfl ?_
          refine x_getR (pc := 51) dX9_who_51 flX9_43 (by first | assumption | rfl) rfl ?_
          refine x_iload_n (pc := 54) dX9_who_54 rfl ?_
          refine x_iload_n (pc := 55) dX9_who_55 rfl ?_
          refine x_invV2 (pc := 56) dX9_who_56 mlX9_206 imX1_setsWhoLeft seX1_setsWhoLeft kX1_setsWhoLeft (by first | assumption | rfl) rfl (Nat.le_of_ble_eq_true rfl) (by decide) ?_
          refine sp_X1_setsWhoLeft (by omega) hp hW hR (fun M2 hs => ?_)
          refine x_cv rfl rfl ?_
          refine x_ret (pc := 59) (v := some _) rfl trivial dX9_who_59 (by decide) ?_
          rw [if_neg h35] at h; exact h M2 (csame.p hs).low (hC.st (csame.p hs) (hR.out hs (by decide)))
        · skip
          refine x_aload_n (pc := 38) dX9_who_38 rfl ?_
          refine x_getR (pc := 39) dX9_who_39 flX9_43 (by first | assumption | rfl) rfl ?_
          refine x_iload_n (pc := 42) dX9_who_42 rfl ?_
          refine x_iload_n (pc := 43) dX9_who_43 rfl ?_
          refine x_invV2 (pc := 44) dX9_who_44 mlX9_203 imX1_fewestWhoLeft seX1_fewestWhoLeft kX1_fewestWhoLeft (by first | assumption | rfl) rfl (Nat.le_of_ble_eq_true rfl) (by decide) ?_
          refine sp_X1_fewestWhoLeft (by omega) hp hW hR (fun M2 hs => ?_)
          refine x_cv rfl rfl ?_
          refine x_goto (pc := 47) (tgt := 59) dX9_who_47 (by decide) ?_
          refine x_ret (pc := 59) (v := some _) rfl trivial dX9_who_59 (by decide) ?_
          rw [if_pos h35] at h; exact h M2 (csame.p hs).low (hC.st (csame.p hs) (hR.out hs (by decide)))
      · skip
        cases h28
  · skip
    cases h6
theorem fX9_best {what : Int32} (hC : XC9 M s) (h : ∀ M' v, low M M' → XC9 M' s → vBest s what v → K (some (.int v)) xSF M') : Ex g (d + 6) yX9_best mX9_best [.ref 0, .int what] xSF M K := by
  unfold vBest at h
  have hR := hC.1.1
  refine x_entry kX9_best (Nat.le_of_ble_eq_true rfl) ?_
  show Wp g _ mX9_best 0 [some (.ref 0), some (.int what)] [] _ _ _ _
  by_cases h0 : what = 0
  · subst h0
    refine x_iload_n (pc := 0) dX9_best_0 rfl ?_
    refine x_lookup (pc := 1) (off := 27) (tgt := 28) dX9_best_1 (by decide +kernel) (by decide +kernel) (by decide) ?_
    refine x_aload_n (pc := 28) dX9_best_28 rfl ?_
    refine x_getR (pc := 29) dX9_best_29 flX9_43 (by first | assumption | rfl) rfl ?_
    refine x_invV0 (pc := 32) dX9_best_32 mlX9_209 imX1_bestFurniture seX1_bestFurniture kX1_bestFurniture (by first | assumption | rfl) rfl (Nat.le_of_ble_eq_true rfl) (by decide) ?_
    refine sp_X1_bestFurniture hC.2.1.2.2.1 hR (fun M2 o l hs hb => ?_)
    refine x_cv rfl rfl ?_
    refine x_ret (pc := 35) (v := some _) rfl trivial dX9_best_35 (by decide) ?_
    exact h M2 _ (csame.t hs).low (hC.st (csame.t hs) (hR.out hs (by decide))) (by rw [if_pos rfl]; exact ⟨o, l, hb, rfl⟩)
  by_cases h1 : what = 1
  · subst h1
    refine x_iload_n (pc := 0) dX9_best_0 rfl ?_
    refine x_lookup (pc := 1) (off := 35) (tgt := 36) dX9_best_1 (by decide +kernel) (by decide +kernel) (by decide) ?_
    refine x_aload_n (pc := 36) dX9_best_36 rfl ?_
    refine x_getR (pc := 37) dX9_best_37 flX9_43 (by first | assumption | rfl) rfl ?_
    refine x_invV0 (pc := 40) dX9_best_40 mlX9_212 imX1_cellToLay seX1_cellToLay kX1_cellToLay (by first | assumption | rfl) rfl (Nat.le_of_ble_eq_true rfl) (by decide) ?_
    refine sp_X1_cellToLay hC.2.1.2.2.1 hR (fun M2 hs => ?_)
    refine x_cv rfl rfl ?_
    refine x_ret (pc := 43) (v := some _) rfl trivial dX9_best_43 (by decide) ?_
    exact h M2 _ (csame.t hs).low (hC.st (csame.t hs) (hR.out hs (by decide))) (by rw [if_neg h0, if_pos rfl]; rfl)
  have i0 : ¬ what.toInt = 0 := fun q => h0 (Int32.toInt_inj.mp q)
  have i1 : ¬ what.toInt = 1 := fun q => h1 (Int32.toInt_inj.mp q)
  refine x_iload_n (pc := 0) dX9_best_0 rfl ?_
  refine x_lookup (pc := 1) (off := 43) (tgt := 44) dX9_best_1 (by decide +kernel) (by simp [Op.lookupswitch.offset, i0, i1, Ne.symm i0, Ne.symm i1]) (by decide) ?_
  refine x_iconst (pc := 44) dX9_best_44 ic_m1 ?_
  refine x_ret (pc := 45) (v := some _) rfl trivial dX9_best_45 (by decide) ?_
  exact h M _ csame.rf.low hC (by rw [if_neg h0, if_neg h1])
theorem fX9_told {x : Int32} (hC : XC9 M s) (h : ∀ M', low M M' → XC9 M' s → K (some (.int (vTold s x))) xSF M') : Ex g (d + 5) yX9_told mX9_told [.ref 0, .int x] xSF M K := by
  unfold vTold at h
  have hR := hC.1.1
  refine x_entry kX9_told (Nat.le_of_ble_eq_true rfl) ?_
  show Wp g _ mX9_told 0 [some (.ref 0), some (.int x)] [] _ _ _ _
  rcases isR_cases (x := x) (n := 26) (by omega) with e | ⟨j, hj, rfl, e⟩
  · simp only [e, Bool.false_eq_true, if_false] at h
    have e7 : isR x (nI (6 + 1)) = false := by
      cases q : isR x (nI (6 + 1)) with
      | false => rfl
      | true =>
        obtain ⟨z, hz, rfl⟩ := (isR_iff (by decide)).mp q
        rw [isR_nI (by omega) (by decide), decide_eq_true (by omega)] at e
        cases e
    refine x_iload_n (pc := 0) dX9_told_0 rfl ?_
    refine x_bipushN (pc := 1) 10 dX9_told_1 bp_10 ?_
    refine x_invS2 (pc := 3) dX9_told_3 mlX9_91 stX9_isCellAsked kX9_isCellAsked (Nat.le_of_ble_eq_true rfl) (by decide) ?_
    refine sp_X9_isCellAsked ?_
    refine x_cv rfl rfl ?_
    rw [ask_out (by decide) e]
    first | (guard_target =~ Wp _ _ _ _ _ (Value.int (nI _) :: _) _ _ _ _; with_reducible refine x_if_eqN (pc := 6) (tgt := 22) ?_ dX9_told_6 ?_ (fun h6 => ?_) (fun h6 => ?_); (first | omega | exact b2n_32 _ | exact b2n_31 _); decide) | refine x_if_eq (pc := 6) (tgt := 22) dX9_told_6 (by decide) (fun h6 => ?_) (fun h6 => ?_)
    · skip
      refine x_iload_n (pc := 22) dX9_told_22 rfl ?_
      refine x_tableOut (pc := 23) (tgt := 120) dX9_told_23 (isR_out (by decide) e7) (by decide) ?_
      refine x_iconst (pc := 120) dX9_told_120 ic_m1 ?_
      refine x_ret (pc := 121) (v := some _) rfl trivial dX9_told_121 (by decide) ?_
      exact h M csame.rf.low hC
    · skip
      exact absurd rfl h6
  simp only [e, if_true] at h
  rw [toN_nI (by omega)] at h
  by_cases h10 : 10 ≤ j
  · have ht : toldN s j = nI (s.1.1 0 (j - 10)) := by
      unfold toldN
      rw [if_neg (by omega), if_neg (by omega), if_neg (by omega), if_neg (by omega), if_neg (by omega), if_neg (by omega), if_neg (by omega), if_pos h10]
    rw [ht] at h
    refine x_iload_n (pc := 0) dX9_told_0 rfl ?_
    refine x_bipushN (pc := 1) 10 dX9_told_1 bp_10 ?_
    refine x_invS2 (pc := 3) dX9_told_3 mlX9_91 stX9_isCellAsked kX9_isCellAsked (Nat.le_of_ble_eq_true rfl) (by decide) ?_
    refine sp_X9_isCellAsked ?_
    refine x_cv rfl rfl ?_
    rw [ask_nI (by omega) (by decide), decide_eq_true (by omega)]
    first | (guard_target =~ Wp _ _ _ _ _ (Value.int (nI _) :: _) _ _ _ _; with_reducible refine x_if_eqN (pc := 6) (tgt := 22) ?_ dX9_told_6 ?_ (fun h6 => ?_) (fun h6 => ?_); (first | omega | exact b2n_32 _ | exact b2n_31 _); decide) | refine x_if_eq (pc := 6) (tgt := 22) dX9_told_6 (by decide) (fun h6 => ?_) (fun h6 => ?_)
    · skip
      cases h6
    · skip
      refine x_aload_n (pc := 9) dX9_told_9 rfl ?_
      refine x_getR (pc := 10) dX9_told_10 flX9_12 (by first | assumption | rfl) rfl ?_
      refine x_getR (pc := 13) dX9_told_13 flX9_133 (by first | assumption | rfl) rfl ?_
      refine x_iload_n (pc := 16) dX9_told_16 rfl ?_
      refine x_bipushN (pc := 17) 10 dX9_told_17 bp_10 ?_
      first | (guard_target =~ Wp _ _ _ _ _ (Value.int (nI _) :: Value.int (nI _) :: _) _ _ _ _; with_reducible refine x_isubN (pc := 19) ?_ dX9_told_19 ?_; omega) | refine x_isub (pc := 19) dX9_told_19 ?_
      refine x_ialdN (pc := 20) dX9_told_20 (by first | assumption | rfl) (by first | with_reducible rfl | (simp only [xlit, nI_add, pk_mul]; with_reducible rfl)) (by omega) (by decide) ?_
      rw [hR.wear (by omega)]
      refine x_ret (pc := 21) (v := some _) rfl trivial dX9_told_21 (by decide) ?_
      exact h M csame.rf.low hC
  by_cases h7 : 7 ≤ j
  · have ht : toldN s j = -1 := by
      unfold toldN
      rw [if_neg (by omega), if_neg (by omega), if_neg (by omega), if_neg (by omega), if_neg (by omega), if_neg (by omega), if_neg (by omega), if_neg h10]
    rw [ht] at h
    refine x_iload_n (pc := 0) dX9_told_0 rfl ?_
    refine x_bipushN (pc := 1) 10 dX9_told_1 bp_10 ?_
    refine x_invS2 (pc := 3) dX9_told_3 mlX9_91 stX9_isCellAsked kX9_isCellAsked (Nat.le_of_ble_eq_true rfl) (by decide) ?_
    refine sp_X9_isCellAsked ?_
    refine x_cv rfl rfl ?_
    rw [ask_nI (by omega) (by decide), decide_eq_false (by omega)]
    first | (guard_target =~ Wp _ _ _ _ _ (Value.int (nI _) :: _) _ _ _ _; with_reducible refine x_if_eqN (pc := 6) (tgt := 22) ?_ dX9_told_6 ?_ (fun h6 => ?_) (fun h6 => ?_); (first | omega | exact b2n_32 _ | exact b2n_31 _); decide) | refine x_if_eq (pc := 6) (tgt := 22) dX9_told_6 (by decide) (fun h6 => ?_) (fun h6 => ?_)
    · skip
      refine x_iload_n (pc := 22) dX9_told_22 rfl ?_
      refine x_tableOut (pc := 23) (tgt := 120) dX9_told_23 (Or.inr (by rw [nI_toInt (by omega)]; omega)) (by decide) ?_
      refine x_iconst (pc := 120) dX9_told_120 ic_m1 ?_
      refine x_ret (pc := 121) (v := some _) rfl trivial dX9_told_121 (by decide) ?_
      exact h M csame.rf.low hC
    · skip
      exact absurd rfl h6
  have hh : j = 0 ∨ j = 1 ∨ j = 2 ∨ j = 3 ∨ j = 4 ∨ j = 5 ∨ j = 6 := by omega
  rcases hh with rfl | rfl | rfl | rfl | rfl | rfl | rfl
  · skip
    refine x_iload_n (pc := 0) dX9_told_0 rfl ?_
    refine x_bipushN (pc := 1) 10 dX9_told_1 bp_10 ?_
    refine x_invS2 (pc := 3) dX9_told_3 mlX9_91 stX9_isCellAsked kX9_isCellAsked (Nat.le_of_ble_eq_true rfl) (by decide) ?_
    refine sp_X9_isCellAsked ?_
    refine x_cv rfl rfl ?_
    rw [ask_nI (by omega) (by decide), decide_eq_false (by omega)]
    first | (guard_target =~ Wp _ _ _ _ _ (Value.int (nI _) :: _) _ _ _ _; with_reducible refine x_if_eqN (pc := 6) (tgt := 22) ?_ dX9_told_6 ?_ (fun h6 => ?_) (fun h6 => ?_); (first | omega | exact b2n_32 _ | exact b2n_31 _); decide) | refine x_if_eq (pc := 6) (tgt := 22) dX9_told_6 (by decide) (fun h6 => ?_) (fun h6 => ?_)
    · skip
      refine x_iload_n (pc := 22) dX9_told_22 rfl ?_
      refine x_tableIn (pc := 23) (off := 41) (tgt := 64) dX9_told_23 (by decide) (by decide) (by decide) (by decide) ?_
      refine x_aload_n (pc := 64) dX9_told_64 rfl ?_
      refine x_getR (pc := 65) dX9_told_65 flX9_12 (by first | assumption | rfl) rfl ?_
      refine x_getI (pc := 68) dX9_told_68 flX9_174 (by first | assumption | rfl) rfl ?_
      rw [hR.day]
      refine x_ret (pc := 71) (v := some _) rfl trivial dX9_told_71 (by decide) ?_
      exact h M csame.rf.low hC
    · skip
      exact absurd rfl h6
  · skip
    refine x_iload_n (pc := 0) dX9_told_0 rfl ?_
    refine x_bipushN (pc := 1) 10 dX9_told_1 bp_10 ?_
    refine x_invS2 (pc := 3) dX9_told_3 mlX9_91 stX9_isCellAsked kX9_isCellAsked (Nat.le_of_ble_eq_true rfl) (by decide) ?_
    refine sp_X9_isCellAsked ?_
    refine x_cv rfl rfl ?_
    rw [ask_nI (by omega) (by decide), decide_eq_false (by omega)]
    first | (guard_target =~ Wp _ _ _ _ _ (Value.int (nI _) :: _) _ _ _ _; with_reducible refine x_if_eqN (pc := 6) (tgt := 22) ?_ dX9_told_6 ?_ (fun h6 => ?_) (fun h6 => ?_); (first | omega | exact b2n_32 _ | exact b2n_31 _); decide) | refine x_if_eq (pc := 6) (tgt := 22) dX9_told_6 (by decide) (fun h6 => ?_) (fun h6 => ?_)
    · skip
      refine x_iload_n (pc := 22) dX9_told_22 rfl ?_
      refine x_tableIn (pc := 23) (off := 49) (tgt := 72) dX9_told_23 (by decide) (by decide) (by decide) (by decide) ?_
      refine x_aload_n (pc := 72) dX9_told_72 rfl ?_
      refine x_getR (pc := 73) dX9_told_73 flX9_12 (by first | assumption | rfl) rfl ?_
      refine x_getI (pc := 76) dX9_told_76 flX9_172 (by first | assumption | rfl) rfl ?_
      rw [hR.bald]
      refine x_ret (pc := 79) (v := some _) rfl trivial dX9_told_79 (by decide) ?_
      exact h M csame.rf.low hC
    · skip
      exact absurd rfl h6
  · skip
    refine x_iload_n (pc := 0) dX9_told_0 rfl ?_
    refine x_bipushN (pc := 1) 10 dX9_told_1 bp_10 ?_
    refine x_invS2 (pc := 3) dX9_told_3 mlX9_91 stX9_isCellAsked kX9_isCellAsked (Nat.le_of_ble_eq_true rfl) (by decide) ?_
    refine sp_X9_isCellAsked ?_
    refine x_cv rfl rfl ?_
    rw [ask_nI (by omega) (by decide), decide_eq_false (by omega)]
    first | (guard_target =~ Wp _ _ _ _ _ (Value.int (nI _) :: _) _ _ _ _; with_reducible refine x_if_eqN (pc := 6) (tgt := 22) ?_ dX9_told_6 ?_ (fun h6 => ?_) (fun h6 => ?_); (first | omega | exact b2n_32 _ | exact b2n_31 _); decide) | refine x_if_eq (pc := 6) (tgt := 22) dX9_told_6 (by decide) (fun h6 => ?_) (fun h6 => ?_)
    · skip
      refine x_iload_n (pc := 22) dX9_told_22 rfl ?_
      refine x_tableIn (pc := 23) (off := 57) (tgt := 80) dX9_told_23 (by decide) (by decide) (by decide) (by decide) ?_
      refine x_aload_n (pc := 80) dX9_told_80 rfl ?_
      refine x_getR (pc := 81) dX9_told_81 flX9_12 (by first | assumption | rfl) rfl ?_
      refine x_getI (pc := 84) dX9_told_84 flX9_143 (by first | assumption | rfl) rfl ?_
      rw [hR.furn]
      refine x_ret (pc := 87) (v := some _) rfl trivial dX9_told_87 (by decide) ?_
      exact h M csame.rf.low hC
    · skip
      exact absurd rfl h6
  · skip
    refine x_iload_n (pc := 0) dX9_told_0 rfl ?_
    refine x_bipushN (pc := 1) 10 dX9_told_1 bp_10 ?_
    refine x_invS2 (pc := 3) dX9_told_3 mlX9_91 stX9_isCellAsked kX9_isCellAsked (Nat.le_of_ble_eq_true rfl) (by decide) ?_
    refine sp_X9_isCellAsked ?_
    refine x_cv rfl rfl ?_
    rw [ask_nI (by omega) (by decide), decide_eq_false (by omega)]
    first | (guard_target =~ Wp _ _ _ _ _ (Value.int (nI _) :: _) _ _ _ _; with_reducible refine x_if_eqN (pc := 6) (tgt := 22) ?_ dX9_told_6 ?_ (fun h6 => ?_) (fun h6 => ?_); (first | omega | exact b2n_32 _ | exact b2n_31 _); decide) | refine x_if_eq (pc := 6) (tgt := 22) dX9_told_6 (by decide) (fun h6 => ?_) (fun h6 => ?_)
    · skip
      refine x_iload_n (pc := 22) dX9_told_22 rfl ?_
      refine x_tableIn (pc := 23) (off := 65) (tgt := 88) dX9_told_23 (by decide) (by decide) (by decide) (by decide) ?_
      refine x_aload_n (pc := 88) dX9_told_88 rfl ?_
      refine x_getR (pc := 89) dX9_told_89 flX9_12 (by first | assumption | rfl) rfl ?_
      refine x_invV0 (pc := 92) dX9_told_92 mlX9_177 imX2_baldCells seX2_baldCells kX2_baldCells (by first | assumption | rfl) rfl (Nat.le_of_ble_eq_true rfl) (by decide) ?_
      refine sp_X2_baldCells car1 hR ?_
      refine x_cv rfl rfl ?_
      refine x_ret (pc := 95) (v := some _) rfl trivial dX9_told_95 (by decide) ?_
      exact h M csame.rf.low hC
    · skip
      exact absurd rfl h6
  · skip
    refine x_iload_n (pc := 0) dX9_told_0 rfl ?_
    refine x_bipushN (pc := 1) 10 dX9_told_1 bp_10 ?_
    refine x_invS2 (pc := 3) dX9_told_3 mlX9_91 stX9_isCellAsked kX9_isCellAsked (Nat.le_of_ble_eq_true rfl) (by decide) ?_
    refine sp_X9_isCellAsked ?_
    refine x_cv rfl rfl ?_
    rw [ask_nI (by omega) (by decide), decide_eq_false (by omega)]
    first | (guard_target =~ Wp _ _ _ _ _ (Value.int (nI _) :: _) _ _ _ _; with_reducible refine x_if_eqN (pc := 6) (tgt := 22) ?_ dX9_told_6 ?_ (fun h6 => ?_) (fun h6 => ?_); (first | omega | exact b2n_32 _ | exact b2n_31 _); decide) | refine x_if_eq (pc := 6) (tgt := 22) dX9_told_6 (by decide) (fun h6 => ?_) (fun h6 => ?_)
    · skip
      refine x_iload_n (pc := 22) dX9_told_22 rfl ?_
      refine x_tableIn (pc := 23) (off := 73) (tgt := 96) dX9_told_23 (by decide) (by decide) (by decide) (by decide) ?_
      refine x_aload_n (pc := 96) dX9_told_96 rfl ?_
      refine x_getR (pc := 97) dX9_told_97 flX9_12 (by first | assumption | rfl) rfl ?_
      refine x_invV0 (pc := 100) dX9_told_100 mlX9_180 imX2_wearOfAll seX2_wearOfAll kX2_wearOfAll (by first | assumption | rfl) rfl (Nat.le_of_ble_eq_true rfl) (by decide) ?_
      refine sp_X2_wearOfAll car1 hR ?_
      refine x_cv rfl rfl ?_
      refine x_ret (pc := 103) (v := some _) rfl trivial dX9_told_103 (by decide) ?_
      exact h M csame.rf.low hC
    · skip
      exact absurd rfl h6
  · skip
    refine x_iload_n (pc := 0) dX9_told_0 rfl ?_
    refine x_bipushN (pc := 1) 10 dX9_told_1 bp_10 ?_
    refine x_invS2 (pc := 3) dX9_told_3 mlX9_91 stX9_isCellAsked kX9_isCellAsked (Nat.le_of_ble_eq_true rfl) (by decide) ?_
    refine sp_X9_isCellAsked ?_
    refine x_cv rfl rfl ?_
    rw [ask_nI (by omega) (by decide), decide_eq_false (by omega)]
    first | (guard_target =~ Wp _ _ _ _ _ (Value.int (nI _) :: _) _ _ _ _; with_reducible refine x_if_eqN (pc := 6) (tgt := 22) ?_ dX9_told_6 ?_ (fun h6 => ?_) (fun h6 => ?_); (first | omega | exact b2n_32 _ | exact b2n_31 _); decide) | refine x_if_eq (pc := 6) (tgt := 22) dX9_told_6 (by decide) (fun h6 => ?_) (fun h6 => ?_)
    · skip
      refine x_iload_n (pc := 22) dX9_told_22 rfl ?_
      refine x_tableIn (pc := 23) (off := 81) (tgt := 104) dX9_told_23 (by decide) (by decide) (by decide) (by decide) ?_
      refine x_aload_n (pc := 104) dX9_told_104 rfl ?_
      refine x_getR (pc := 105) dX9_told_105 flX9_12 (by first | assumption | rfl) rfl ?_
      refine x_invV0 (pc := 108) dX9_told_108 mlX9_183 imX2_troddenCells seX2_troddenCells kX2_troddenCells (by first | assumption | rfl) rfl (Nat.le_of_ble_eq_true rfl) (by decide) ?_
      refine sp_X2_troddenCells car1 hR ?_
      refine x_cv rfl rfl ?_
      refine x_ret (pc := 111) (v := some _) rfl trivial dX9_told_111 (by decide) ?_
      exact h M csame.rf.low hC
    · skip
      exact absurd rfl h6
  · skip
    refine x_iload_n (pc := 0) dX9_told_0 rfl ?_
    refine x_bipushN (pc := 1) 10 dX9_told_1 bp_10 ?_
    refine x_invS2 (pc := 3) dX9_told_3 mlX9_91 stX9_isCellAsked kX9_isCellAsked (Nat.le_of_ble_eq_true rfl) (by decide) ?_
    refine sp_X9_isCellAsked ?_
    refine x_cv rfl rfl ?_
    rw [ask_nI (by omega) (by decide), decide_eq_false (by omega)]
    first | (guard_target =~ Wp _ _ _ _ _ (Value.int (nI _) :: _) _ _ _ _; with_reducible refine x_if_eqN (pc := 6) (tgt := 22) ?_ dX9_told_6 ?_ (fun h6 => ?_) (fun h6 => ?_); (first | omega | exact b2n_32 _ | exact b2n_31 _); decide) | refine x_if_eq (pc := 6) (tgt := 22) dX9_told_6 (by decide) (fun h6 => ?_) (fun h6 => ?_)
    · skip
      refine x_iload_n (pc := 22) dX9_told_22 rfl ?_
      refine x_tableIn (pc := 23) (off := 89) (tgt := 112) dX9_told_23 (by decide) (by decide) (by decide) (by decide) ?_
      refine x_aload_n (pc := 112) dX9_told_112 rfl ?_
      refine x_getR (pc := 113) dX9_told_113 flX9_43 (by first | assumption | rfl) rfl ?_
      refine x_invV0 (pc := 116) dX9_told_116 mlX9_186 imX1_firstWorn seX1_firstWorn kX1_firstWorn (by first | assumption | rfl) rfl (Nat.le_of_ble_eq_true rfl) (by decide) ?_
      refine sp_X1_firstWorn hC.2.1.2.2.1 hR (fun M2 hs => ?_)
      refine x_cv rfl rfl ?_
      refine x_ret (pc := 119) (v := some _) rfl trivial dX9_told_119 (by decide) ?_
      exact h M2 (csame.t hs).low (hC.st (csame.t hs) (hR.out hs (by decide)))
    · skip
      exact absurd rfl h6
end P46
