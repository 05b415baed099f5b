/-! the program's calls: on, plan, feed -/
def wrSt (s : XSt) (tx : Nat → Nat → Nat) (ln : Nat → Nat) : XSt := (s.1, s.2.1, tx, ln, s.2.2.2.2)
def sTx (s : XSt) : Nat → Nat → Nat := s.2.2.1
def sLn (s : XSt) : Nat → Nat := s.2.2.2.1
def sMd (s : XSt) : Nat := s.2.2.2.2.1
def opFeed (s : XSt) (x : Int32) : Int32 × XSt := if isR x (nI 128) = true then (if sLn s (sMd s) < 100 then (nI (sLn s (sMd s) + 1), wrSt s (up2 (sTx s) (sMd s) (sLn s (sMd s)) (toN x)) (up1 (sLn s) (sMd s) (sLn s (sMd s) + 1))) else (-4, s)) else (-2, s)
section P47
variable {g : XG} {d : Nat} {M : XM} {K : Option Value → XS → XM → Prop} {s : XSt}
theorem fX9_on {n what : Int32} (hC : XC9 M s) (h : ∀ M', low M M' → XC9 M' s → K (some (.int (vOn s n what))) xSF M') : Ex g (d + 5) yX9_on mX9_on [.ref 0, .int n, .int what] xSF M K := by
  unfold vOn at h
  have hR := hC.1.1
  refine x_entry kX9_on (Nat.le_of_ble_eq_true rfl) ?_
  show Wp g _ mX9_on 0 [some (.ref 0), some (.int n), some (.int what), none, none] [] _ _ _ _
  rcases isR_cases (x := what) (n := 26) (by omega) with e | ⟨k, hk, rfl, e⟩
  · simp only [e, Bool.false_eq_true, if_false, false_and] at h
    have e2 : isR what (nI (1 + 1)) = false := by
      cases q : isR what (nI (1 + 1)) with
      | false => rfl
      | true =>
        obtain ⟨z, hz, rfl⟩ := (isR_iff (by decide)).mp q
        rw [isR_nI (by omega) (by decide), decide_eq_true (by omega)] at e
        cases e
    refine x_iload_n (pc := 0) dX9_on_0 rfl ?_
    refine x_bipushN (pc := 1) 10 dX9_on_1 bp_10 ?_
    refine x_invS2 (pc := 3) dX9_on_3 mlX9_91 stX9_isCellAsked kX9_isCellAsked (Nat.le_of_ble_eq_true rfl) (by decide) ?_
    refine sp_X9_isCellAsked ?_
    refine x_cv rfl rfl ?_
    rw [ask_out (by decide) e]
    refine x_istore_n (pc := 6) dX9_on_6 (by decide) xs_3 (x_hp rfl) ?_
    refine x_iload_n (pc := 7) dX9_on_7 rfl ?_
    first | (guard_target =~ Wp _ _ _ _ _ (Value.int (nI _) :: _) _ _ _ _; with_reducible refine x_if_neN (pc := 8) (tgt := 22) ?_ dX9_on_8 ?_ (fun h8 => ?_) (fun h8 => ?_); (first | omega | exact b2n_32 _ | exact b2n_31 _); decide) | refine x_if_ne (pc := 8) (tgt := 22) dX9_on_8 (by decide) (fun h8 => ?_) (fun h8 => ?_)
    · skip
      exact absurd rfl h8
    · skip
      refine x_iload_n (pc := 11) dX9_on_11 rfl ?_
      refine x_iconstN (pc := 12) 0 dX9_on_12 ic_0 ?_
      refine x_iconstN (pc := 13) 1 dX9_on_13 ic_1 ?_
      refine x_invS3 (pc := 14) dX9_on_14 mlX9_72 stX9_isBetween kX9_isBetween (Nat.le_of_ble_eq_true rfl) (by decide) ?_
      refine sp_X9_isBetween ?_
      refine x_cv rfl rfl ?_
      rw [btw_isR (by decide), e2]
      first | (guard_target =~ Wp _ _ _ _ _ (Value.int (nI _) :: _) _ _ _ _; with_reducible refine x_if_neN (pc := 17) (tgt := 22) ?_ dX9_on_17 ?_ (fun h17 => ?_) (fun h17 => ?_); (first | omega | exact b2n_32 _ | exact b2n_31 _); decide) | refine x_if_ne (pc := 17) (tgt := 22) dX9_on_17 (by decide) (fun h17 => ?_) (fun h17 => ?_)
      · skip
        exact absurd rfl h17
      · skip
        refine x_iconst (pc := 20) dX9_on_20 ic_m1 ?_
        refine x_ret (pc := 21) (v := some _) rfl trivial dX9_on_21 (by decide) ?_
        exact h M csame.rf.low hC
  simp only [e, true_and] at h
  rw [toN_nI (by omega)] at h
  have hlo : decide (nI 10 ≤ nI k ∧ nI k < nI 10 + nI 16) = decide (10 ≤ k) := by
    rw [ask_nI (by omega) (by decide)]
    exact decide_eq_decide.mpr ⟨fun q => q.1, fun q => ⟨q, by omega⟩⟩
  have hb2 : btw (nI k) (nI 0) (nI 1) = decide (k < 2) := by rw [btw_isR (by decide), isR_nI (by omega) (by decide)]
  by_cases h1 : k < 2 ∨ 10 ≤ k
  · rw [if_pos h1] at h
    rcases isR_cases (x := n) (n := 61) (by omega) with e3 | ⟨n, hn, rfl, e3⟩
    · simp only [e3, Bool.false_eq_true, if_false] at h
      refine x_iload_n (pc := 0) dX9_on_0 rfl ?_
      refine x_bipushN (pc := 1) 10 dX9_on_1 bp_10 ?_
      refine x_invS2 (pc := 3) dX9_on_3 mlX9_91 stX9_isCellAsked kX9_isCellAsked (Nat.le_of_ble_eq_true rfl) (by decide) ?_
      refine sp_X9_isCellAsked ?_
      refine x_cv rfl rfl ?_
      rw [hlo]
      refine x_istore_n (pc := 6) dX9_on_6 (by decide) xs_3 (x_hp rfl) ?_
      refine x_iload_n (pc := 7) dX9_on_7 rfl ?_
      first | (guard_target =~ Wp _ _ _ _ _ (Value.int (nI _) :: _) _ _ _ _; with_reducible refine x_if_neN (pc := 8) (tgt := 22) ?_ dX9_on_8 ?_ (fun h8 => ?_) (fun h8 => ?_); (first | omega | exact b2n_32 _ | exact b2n_31 _); decide) | refine x_if_ne (pc := 8) (tgt := 22) dX9_on_8 (by decide) (fun h8 => ?_) (fun h8 => ?_)
      · skip
        refine x_iload_n (pc := 22) dX9_on_22 rfl ?_
        refine x_iconstN (pc := 23) 0 dX9_on_23 ic_0 ?_
        refine x_bipushN (pc := 24) 60 dX9_on_24 bp_60 ?_
        refine x_invS3 (pc := 26) dX9_on_26 mlX9_72 stX9_isBetween kX9_isBetween (Nat.le_of_ble_eq_true rfl) (by decide) ?_
        refine sp_X9_isBetween ?_
        refine x_cv rfl rfl ?_
        rw [btw_isR (by decide), show isR n (nI (60 + 1)) = false from e3]
        first | (guard_target =~ Wp _ _ _ _ _ (Value.int (nI _) :: _) _ _ _ _; with_reducible refine x_if_neN (pc := 29) (tgt := 35) ?_ dX9_on_29 ?_ (fun h29 => ?_) (fun h29 => ?_); (first | omega | exact b2n_32 _ | exact b2n_31 _); decide) | refine x_if_ne (pc := 29) (tgt := 35) dX9_on_29 (by decide) (fun h29 => ?_) (fun h29 => ?_)
        · skip
          exact absurd rfl h29
        · skip
          refine x_bipush (pc := 32) dX9_on_32 bp_m2 ?_
          refine x_ret (pc := 34) (v := some _) rfl trivial dX9_on_34 (by decide) ?_
          exact h M csame.rf.low hC
      · skip
        refine x_iload_n (pc := 11) dX9_on_11 rfl ?_
        refine x_iconstN (pc := 12) 0 dX9_on_12 ic_0 ?_
        refine x_iconstN (pc := 13) 1 dX9_on_13 ic_1 ?_
        refine x_invS3 (pc := 14) dX9_on_14 mlX9_72 stX9_isBetween kX9_isBetween (Nat.le_of_ble_eq_true rfl) (by decide) ?_
        refine sp_X9_isBetween ?_
        refine x_cv rfl rfl ?_
        rw [hb2]
        first | (guard_target =~ Wp _ _ _ _ _ (Value.int (nI _) :: _) _ _ _ _; with_reducible refine x_if_neN (pc := 17) (tgt := 22) ?_ dX9_on_17 ?_ (fun h17 => ?_) (fun h17 => ?_); (first | omega | exact b2n_32 _ | exact b2n_31 _); decide) | refine x_if_ne (pc := 17) (tgt := 22) dX9_on_17 (by decide) (fun h17 => ?_) (fun h17 => ?_)
        · skip
          refine x_iload_n (pc := 22) dX9_on_22 rfl ?_
          refine x_iconstN (pc := 23) 0 dX9_on_23 ic_0 ?_
          refine x_bipushN (pc := 24) 60 dX9_on_24 bp_60 ?_
          refine x_invS3 (pc := 26) dX9_on_26 mlX9_72 stX9_isBetween kX9_isBetween (Nat.le_of_ble_eq_true rfl) (by decide) ?_
          refine sp_X9_isBetween ?_
          refine x_cv rfl rfl ?_
          rw [btw_isR (by decide), show isR n (nI (60 + 1)) = false from e3]
          first | (guard_target =~ Wp _ _ _ _ _ (Value.int (nI _) :: _) _ _ _ _; with_reducible refine x_if_neN (pc := 29) (tgt := 35) ?_ dX9_on_29 ?_ (fun h29 => ?_) (fun h29 => ?_); (first | omega | exact b2n_32 _ | exact b2n_31 _); decide) | refine x_if_ne (pc := 29) (tgt := 35) dX9_on_29 (by decide) (fun h29 => ?_) (fun h29 => ?_)
          · skip
            exact absurd rfl h29
          · skip
            refine x_bipush (pc := 32) dX9_on_32 bp_m2 ?_
            refine x_ret (pc := 34) (v := some _) rfl trivial dX9_on_34 (by decide) ?_
            exact h M csame.rf.low hC
        · skip
          have z1 := of_decide_eq_false (b2n_0 h8); have z2 := of_decide_eq_false (b2n_0 h17); omega
    · simp only [e3, if_true] at h
      rw [toN_nI (by omega)] at h
      by_cases h10 : 10 ≤ k
      · rw [if_pos h10] at h
        refine x_iload_n (pc := 0) dX9_on_0 rfl ?_
        refine x_bipushN (pc := 1) 10 dX9_on_1 bp_10 ?_
        refine x_invS2 (pc := 3) dX9_on_3 mlX9_91 stX9_isCellAsked kX9_isCellAsked (Nat.le_of_ble_eq_true rfl) (by decide) ?_
        refine sp_X9_isCellAsked ?_
        refine x_cv rfl rfl ?_
        rw [hlo, decide_eq_true h10]
        refine x_istore_n (pc := 6) dX9_on_6 (by decide) xs_3 (x_hp rfl) ?_
        refine x_iload_n (pc := 7) dX9_on_7 rfl ?_
        first | (guard_target =~ Wp _ _ _ _ _ (Value.int (nI _) :: _) _ _ _ _; with_reducible refine x_if_neN (pc := 8) (tgt := 22) ?_ dX9_on_8 ?_ (fun h8 => ?_) (fun h8 => ?_); (first | omega | exact b2n_32 _ | exact b2n_31 _); decide) | refine x_if_ne (pc := 8) (tgt := 22) dX9_on_8 (by decide) (fun h8 => ?_) (fun h8 => ?_)
        · skip
          refine x_iload_n (pc := 22) dX9_on_22 rfl ?_
          refine x_iconstN (pc := 23) 0 dX9_on_23 ic_0 ?_
          refine x_bipushN (pc := 24) 60 dX9_on_24 bp_60 ?_
          refine x_invS3 (pc := 26) dX9_on_26 mlX9_72 stX9_isBetween kX9_isBetween (Nat.le_of_ble_eq_true rfl) (by decide) ?_
          refine sp_X9_isBetween ?_
          refine x_cv rfl rfl ?_
          rw [btw_isR (by decide), show isR (nI n) (nI (60 + 1)) = true from e3]
          first | (guard_target =~ Wp _ _ _ _ _ (Value.int (nI _) :: _) _ _ _ _; with_reducible refine x_if_neN (pc := 29) (tgt := 35) ?_ dX9_on_29 ?_ (fun h29 => ?_) (fun h29 => ?_); (first | omega | exact b2n_32 _ | exact b2n_31 _); decide) | refine x_if_ne (pc := 29) (tgt := 35) dX9_on_29 (by decide) (fun h29 => ?_) (fun h29 => ?_)
          · skip
            refine x_aload_n (pc := 35) dX9_on_35 rfl ?_
            refine x_getR (pc := 36) dX9_on_36 flX9_43 (by first | assumption | rfl) rfl ?_
            refine x_iload_n (pc := 39) dX9_on_39 rfl ?_
            refine x_invV1 (pc := 40) dX9_on_40 mlX9_195 imX1_behind seX1_behind kX1_behind (by first | assumption | rfl) rfl (Nat.le_of_ble_eq_true rfl) (by decide) ?_
            refine sp_X1_behind (by omega) hC.2.1.2.2.1 hR (fun M2 hs hR2 => ?_)
            refine x_cv rfl rfl ?_
            refine x_astore (pc := 43) (by omega) dX9_on_43 (by decide) xs_4 (x_hp rfl) ?_
            refine x_iload_n (pc := 45) dX9_on_45 rfl ?_
            first | (guard_target =~ Wp _ _ _ _ _ (Value.int (nI _) :: _) _ _ _ _; with_reducible refine x_if_eqN (pc := 46) (tgt := 60) ?_ dX9_on_46 ?_ (fun h46 => ?_) (fun h46 => ?_); (first | omega | exact b2n_32 _ | exact b2n_31 _); decide) | refine x_if_eq (pc := 46) (tgt := 60) dX9_on_46 (by decide) (fun h46 => ?_) (fun h46 => ?_)
            · skip
              cases h46
            · skip
              refine x_aload (pc := 49) dX9_on_49 rfl ?_
              refine x_getR (pc := 51) dX9_on_51 flX9_133 (by first | assumption | rfl) rfl ?_
              refine x_iload_n (pc := 54) dX9_on_54 rfl ?_
              refine x_bipushN (pc := 55) 10 dX9_on_55 bp_10 ?_
              first | (guard_target =~ Wp _ _ _ _ _ (Value.int (nI _) :: Value.int (nI _) :: _) _ _ _ _; with_reducible refine x_isubN (pc := 57) ?_ dX9_on_57 ?_; omega) | refine x_isub (pc := 57) dX9_on_57 ?_
              refine x_ialdN (pc := 58) dX9_on_58 (by first | assumption | rfl) (by first | with_reducible rfl | (simp only [xlit, nI_add, pk_mul]; with_reducible rfl)) (by omega) (by decide) ?_
              rw [hR2.wear (by omega)]
              refine x_ret (pc := 59) (v := some _) rfl trivial dX9_on_59 (by decide) ?_
              exact h M2 (csame.t hs).low (hC.st (csame.t hs) (hR.out hs (by decide)))
          · skip
            cases h29
        · skip
          cases h8
      · rw [if_neg h10] at h
        refine x_iload_n (pc := 0) dX9_on_0 rfl ?_
        refine x_bipushN (pc := 1) 10 dX9_on_1 bp_10 ?_
        refine x_invS2 (pc := 3) dX9_on_3 mlX9_91 stX9_isCellAsked kX9_isCellAsked (Nat.le_of_ble_eq_true rfl) (by decide) ?_
        refine sp_X9_isCellAsked ?_
        refine x_cv rfl rfl ?_
        rw [hlo, decide_eq_false h10]
        refine x_istore_n (pc := 6) dX9_on_6 (by decide) xs_3 (x_hp rfl) ?_
        refine x_iload_n (pc := 7) dX9_on_7 rfl ?_
        first | (guard_target =~ Wp _ _ _ _ _ (Value.int (nI _) :: _) _ _ _ _; with_reducible refine x_if_neN (pc := 8) (tgt := 22) ?_ dX9_on_8 ?_ (fun h8 => ?_) (fun h8 => ?_); (first | omega | exact b2n_32 _ | exact b2n_31 _); decide) | refine x_if_ne (pc := 8) (tgt := 22) dX9_on_8 (by decide) (fun h8 => ?_) (fun h8 => ?_)
        · skip
          exact absurd rfl h8
        · skip
          refine x_iload_n (pc := 11) dX9_on_11 rfl ?_
          refine x_iconstN (pc := 12) 0 dX9_on_12 ic_0 ?_
          refine x_iconstN (pc := 13) 1 dX9_on_13 ic_1 ?_
          refine x_invS3 (pc := 14) dX9_on_14 mlX9_72 stX9_isBetween kX9_isBetween (Nat.le_of_ble_eq_true rfl) (by decide) ?_
          refine sp_X9_isBetween ?_
          refine x_cv rfl rfl ?_
          rw [hb2, decide_eq_true (by omega)]
          first | (guard_target =~ Wp _ _ _ _ _ (Value.int (nI _) :: _) _ _ _ _; with_reducible refine x_if_neN (pc := 17) (tgt := 22) ?_ dX9_on_17 ?_ (fun h17 => ?_) (fun h17 => ?_); (first | omega | exact b2n_32 _ | exact b2n_31 _); decide) | refine x_if_ne (pc := 17) (tgt := 22) dX9_on_17 (by decide) (fun h17 => ?_) (fun h17 => ?_)
          · skip
            refine x_iload_n (pc := 22) dX9_on_22 rfl ?_
            refine x_iconstN (pc := 23) 0 dX9_on_23 ic_0 ?_
            refine x_bipushN (pc := 24) 60 dX9_on_24 bp_60 ?_
            refine x_invS3 (pc := 26) dX9_on_26 mlX9_72 stX9_isBetween kX9_isBetween (Nat.le_of_ble_eq_true rfl) (by decide) ?_
            refine sp_X9_isBetween ?_
            refine x_cv rfl rfl ?_
            rw [btw_isR (by decide), show isR (nI n) (nI (60 + 1)) = true from e3]
            first | (guard_target =~ Wp _ _ _ _ _ (Value.int (nI _) :: _) _ _ _ _; with_reducible refine x_if_neN (pc := 29) (tgt := 35) ?_ dX9_on_29 ?_ (fun h29 => ?_) (fun h29 => ?_); (first | omega | exact b2n_32 _ | exact b2n_31 _); decide) | refine x_if_ne (pc := 29) (tgt := 35) dX9_on_29 (by decide) (fun h29 => ?_) (fun h29 => ?_)
            · skip
              refine x_aload_n (pc := 35) dX9_on_35 rfl ?_
              refine x_getR (pc := 36) dX9_on_36 flX9_43 (by first | assumption | rfl) rfl ?_
              refine x_iload_n (pc := 39) dX9_on_39 rfl ?_
              refine x_invV1 (pc := 40) dX9_on_40 mlX9_195 imX1_behind seX1_behind kX1_behind (by first | assumption | rfl) rfl (Nat.le_of_ble_eq_true rfl) (by decide) ?_
              refine sp_X1_behind (by omega) hC.2.1.2.2.1 hR (fun M2 hs hR2 => ?_)
              refine x_cv rfl rfl ?_
              refine x_astore (pc := 43) (by omega) dX9_on_43 (by decide) xs_4 (x_hp rfl) ?_
              refine x_iload_n (pc := 45) dX9_on_45 rfl ?_
              first | (guard_target =~ Wp _ _ _ _ _ (Value.int (nI _) :: _) _ _ _ _; with_reducible refine x_if_eqN (pc := 46) (tgt := 60) ?_ dX9_on_46 ?_ (fun h46 => ?_) (fun h46 => ?_); (first | omega | exact b2n_32 _ | exact b2n_31 _); decide) | refine x_if_eq (pc := 46) (tgt := 60) dX9_on_46 (by decide) (fun h46 => ?_) (fun h46 => ?_)
              · skip
                refine x_iload_n (pc := 60) dX9_on_60 rfl ?_
                first | (guard_target =~ Wp _ _ _ _ _ (Value.int (nI _) :: _) _ _ _ _; with_reducible refine x_if_neN (pc := 61) (tgt := 72) ?_ dX9_on_61 ?_ (fun h61 => ?_) (fun h61 => ?_); (first | omega | exact b2n_32 _ | exact b2n_31 _); decide) | refine x_if_ne (pc := 61) (tgt := 72) dX9_on_61 (by decide) (fun h61 => ?_) (fun h61 => ?_)
                · skip
                  refine x_aload (pc := 72) dX9_on_72 rfl ?_
                  refine x_invV0 (pc := 74) dX9_on_74 mlX9_180 imX2_wearOfAll seX2_wearOfAll kX2_wearOfAll (by first | assumption | rfl) rfl (Nat.le_of_ble_eq_true rfl) (by decide) ?_
                  refine sp_X2_wearOfAll car46 hR2 ?_
                  refine x_cv rfl rfl ?_
                  refine x_ret (pc := 77) (v := some _) rfl trivial dX9_on_77 (by decide) ?_
                  rw [if_neg h61] at h; exact h M2 (csame.t hs).low (hC.st (csame.t hs) (hR.out hs (by decide)))
                · skip
                  refine x_aload (pc := 64) dX9_on_64 rfl ?_
                  refine x_invV0 (pc := 66) dX9_on_66 mlX9_177 imX2_baldCells seX2_baldCells kX2_baldCells (by first | assumption | rfl) rfl (Nat.le_of_ble_eq_true rfl) (by decide) ?_
                  refine sp_X2_baldCells car46 hR2 ?_
                  refine x_cv rfl rfl ?_
                  refine x_goto (pc := 69) (tgt := 77) dX9_on_69 (by decide) ?_
                  refine x_ret (pc := 77) (v := some _) rfl trivial dX9_on_77 (by decide) ?_
                  rw [if_pos h61] at h; exact h M2 (csame.t hs).low (hC.st (csame.t hs) (hR.out hs (by decide)))
              · skip
                exact absurd rfl h46
            · skip
              cases h29
          · skip
            cases h17
  · rw [if_neg h1] at h
    refine x_iload_n (pc := 0) dX9_on_0 rfl ?_
    refine x_bipushN (pc := 1) 10 dX9_on_1 bp_10 ?_
    refine x_invS2 (pc := 3) dX9_on_3 mlX9_91 stX9_isCellAsked kX9_isCellAsked (Nat.le_of_ble_eq_true rfl) (by decide) ?_
    refine sp_X9_isCellAsked ?_
    refine x_cv rfl rfl ?_
    rw [hlo, decide_eq_false (by omega)]
    refine x_istore_n (pc := 6) dX9_on_6 (by decide) xs_3 (x_hp rfl) ?_
    refine x_iload_n (pc := 7) dX9_on_7 rfl ?_
    first | (guard_target =~ Wp _ _ _ _ _ (Value.int (nI _) :: _) _ _ _ _; with_reducible refine x_if_neN (pc := 8) (tgt := 22) ?_ dX9_on_8 ?_ (fun h8 => ?_) (fun h8 => ?_); (first | omega | exact b2n_32 _ | exact b2n_31 _); decide) | refine x_if_ne (pc := 8) (tgt := 22) dX9_on_8 (by decide) (fun h8 => ?_) (fun h8 => ?_)
    · skip
      exact absurd rfl h8
    · skip
      refine x_iload_n (pc := 11) dX9_on_11 rfl ?_
      refine x_iconstN (pc := 12) 0 dX9_on_12 ic_0 ?_
      refine x_iconstN (pc := 13) 1 dX9_on_13 ic_1 ?_
      refine x_invS3 (pc := 14) dX9_on_14 mlX9_72 stX9_isBetween kX9_isBetween (Nat.le_of_ble_eq_true rfl) (by decide) ?_
      refine sp_X9_isBetween ?_
      refine x_cv rfl rfl ?_
      rw [hb2, decide_eq_false (by omega)]
      first | (guard_target =~ Wp _ _ _ _ _ (Value.int (nI _) :: _) _ _ _ _; with_reducible refine x_if_neN (pc := 17) (tgt := 22) ?_ dX9_on_17 ?_ (fun h17 => ?_) (fun h17 => ?_); (first | omega | exact b2n_32 _ | exact b2n_31 _); decide) | refine x_if_ne (pc := 17) (tgt := 22) dX9_on_17 (by decide) (fun h17 => ?_) (fun h17 => ?_)
      · skip
        exact absurd rfl h17
      · skip
        refine x_iconst (pc := 20) dX9_on_20 ic_m1 ?_
        refine x_ret (pc := 21) (v := some _) rfl trivial dX9_on_21 (by decide) ?_
        exact h M csame.rf.low hC
theorem fX9_plan {x n : Int32} (hC : XC9 M s) (h : ∀ M', low M M' → XC9 M' (opPlan s x n).2 → K (some (.int (opPlan s x n).1)) xSF M') : Ex g (d + 1) yX9_plan mX9_plan [.ref 0, .int x, .int n] xSF M K := by
  unfold opPlan at h
  have hR := hC.1.1
  have h6 := hR.goersB
  have hN := hC.1.2
  have hpl := hC.2.1.2.2.2.2.2.2
  have h5 := hN.2.2.2.2.1.2
  refine x_entry kX9_plan (Nat.le_of_ble_eq_true rfl) ?_
  show Wp g _ mX9_plan 0 [some (.ref 0), some (.int x), some (.int n)] [] _ _ _ _
  by_cases hc : x = -1
  · rw [if_pos hc] at h
    refine x_iload_n (pc := 0) dX9_plan_0 rfl ?_
    refine x_iconst (pc := 1) dX9_plan_1 ic_m1 ?_
    refine x_icmp_ne (pc := 2) (tgt := 13) dX9_plan_2 (by decide) (fun h2 => ?_) (fun h2 => ?_)
    · skip
      exact absurd hc h2
    · skip
      refine x_aload_n (pc := 5) dX9_plan_5 rfl ?_
      refine x_getR (pc := 6) dX9_plan_6 flX9_24 (by first | assumption | rfl) rfl ?_
      refine x_invV0 (pc := 9) dX9_plan_9 mlX9_245 imX5_forgetPlan seX5_forgetPlan kX5_forgetPlan (by first | assumption | rfl) rfl (Nat.le_of_ble_eq_true rfl) (by decide) ?_
      refine sp_X5_forgetPlan nots25 ?_
      refine x_cv rfl rfl ?_
      refine x_ret (pc := 12) (v := some _) rfl trivial dX9_plan_12 (by decide) ?_
      exact h _ (lowN (xsame.put (by decide) (by decide))) (hC.upN (xsame.put (by decide) (by decide)) (hN.put0 8 (Or.inr (Or.inl rfl))) (fun k hk => by simp [updA] at hk))
  rw [if_neg hc] at h
  rcases isR_cases (x := x) (n := 4) (by omega) with e | ⟨k, hk, rfl, e⟩
  · simp only [e, Bool.false_eq_true, if_false, false_and] at h
    refine x_iload_n (pc := 0) dX9_plan_0 rfl ?_
    refine x_iconst (pc := 1) dX9_plan_1 ic_m1 ?_
    refine x_icmp_ne (pc := 2) (tgt := 13) dX9_plan_2 (by decide) (fun h2 => ?_) (fun h2 => ?_)
    · skip
      refine x_iload_n (pc := 13) dX9_plan_13 rfl ?_
      refine x_iconstN (pc := 14) 0 dX9_plan_14 ic_0 ?_
      refine x_iconstN (pc := 15) 3 dX9_plan_15 ic_3 ?_
      refine x_invS3 (pc := 16) dX9_plan_16 mlX9_72 stX9_isBetween kX9_isBetween (Nat.le_of_ble_eq_true rfl) (by decide) ?_
      refine sp_X9_isBetween ?_
      refine x_cv rfl rfl ?_
      rw [btw_isR (by decide), show isR x (nI (3 + 1)) = false from e]
      first | (guard_target =~ Wp _ _ _ _ _ (Value.int (nI _) :: _) _ _ _ _; with_reducible refine x_if_neN (pc := 19) (tgt := 24) ?_ dX9_plan_19 ?_ (fun h19 => ?_) (fun h19 => ?_); (first | omega | exact b2n_32 _ | exact b2n_31 _); decide) | refine x_if_ne (pc := 19) (tgt := 24) dX9_plan_19 (by decide) (fun h19 => ?_) (fun h19 => ?_)
      · skip
        exact absurd rfl h19
      · skip
        refine x_iconst (pc := 22) dX9_plan_22 ic_m1 ?_
        refine x_ret (pc := 23) (v := some _) rfl trivial dX9_plan_23 (by decide) ?_
        exact h M csame.rf.low hC
    · skip
      exact absurd h2 hc
  simp only [e, true_and] at h
  rw [toN_nI (by omega)] at h
  have add : ∀ (z : Nat), (k ≠ 0 → n = nI z ∧ z < 16) → (k = 1 → z < s.1.1 8 0) → (if k = 0 then 0 else toN n) = (if k = 0 then 0 else z) → ((k = 1 → isR n (nI (s.1.1 8 0)) = true) ∧ (2 ≤ k → isR n (nI 16) = true)) →
      Wp g (d + 1) mX9_plan 56 [some (.ref 0), some (.int (nI k)), some (.int n)] [] xSF (0, 0) M K := by
    intro z hz hz1 he hcond
    rw [if_pos hcond, he] at h
    have he0 : k = 0 ∨ k ≠ 0 := by omega
    have hnx : (k ≠ 0 → n = nI (if k = 0 then 0 else z) ∧ (if k = 0 then 0 else z) < 16) := fun q => by rw [if_neg q]; exact hz q
    by_cases hq : qN s 8 0 < 10
    · rw [if_pos hq] at h
      refine x_aload_n (pc := 56) dX9_plan_56 rfl ?_
      refine x_getR (pc := 57) dX9_plan_57 flX9_24 (by first | assumption | rfl) rfl ?_
      refine x_iload_n (pc := 60) dX9_plan_60 rfl ?_
      refine x_iload_n (pc := 61) dX9_plan_61 rfl ?_
      refine x_invV2 (pc := 62) dX9_plan_62 mlX9_248 imX5_addToPlan seX5_addToPlan kX5_addToPlan (by first | assumption | rfl) rfl (Nat.le_of_ble_eq_true rfl) (by decide) ?_
      refine sp_X5_addToPlan hk hnx nots25 hN (fun z => absurd hq z) (fun _ M2 hs hN2 => ?_)
      refine x_cv rfl rfl ?_
      first | (guard_target =~ Wp _ _ _ _ _ (Value.int (nI _) :: _) _ _ _ _; with_reducible refine x_if_eqN (pc := 65) (tgt := 78) ?_ dX9_plan_65 ?_ (fun h65 => ?_) (fun h65 => ?_); (first | omega | exact b2n_32 _ | exact b2n_31 _); decide) | refine x_if_eq (pc := 65) (tgt := 78) dX9_plan_65 (by decide) (fun h65 => ?_) (fun h65 => ?_)
      · skip
        omega
      · skip
        refine x_aload_n (pc := 68) dX9_plan_68 rfl ?_
        refine x_getR (pc := 69) dX9_plan_69 flX9_24 (by first | assumption | rfl) rfl ?_
        refine x_getI (pc := 72) dX9_plan_72 flX9_251 (by first | assumption | rfl) rfl ?_
        rw [show M2.1 25 8 = nI (qN s 8 0 + 1) from hN2.2.2.2.2.1.1]
        refine x_goto (pc := 75) (tgt := 80) dX9_plan_75 (by decide) ?_
        refine x_ret (pc := 80) (v := some _) rfl trivial dX9_plan_80 (by decide) ?_
        refine h M2 (lowN hs) (hC.upN hs hN2 (fun i hi hi1 => ?_))
        have ei : nPlan (qN s) k (if k = 0 then 0 else z) 8 0 = qN s 8 0 + 1 := by simp [nPlan]
        rw [ei] at hi
        by_cases hin : i = qN s 8 0
        · subst hin
          have e3 : nPlan (qN s) k (if k = 0 then 0 else z) 3 (qN s 8 0) = k := by simp [nPlan]
          have e4 : nPlan (qN s) k (if k = 0 then 0 else z) 4 (qN s 8 0) = (if k = 0 then 0 else z) := by simp [nPlan]
          rw [e3] at hi1
          rw [e4, if_neg (by omega)]
          exact hz1 hi1
        · have e3 : nPlan (qN s) k (if k = 0 then 0 else z) 3 i = qN s 3 i := by simp [nPlan, hin]
          have e4 : nPlan (qN s) k (if k = 0 then 0 else z) 4 i = qN s 4 i := by simp [nPlan, hin]
          rw [e3] at hi1
          rw [e4]
          exact hpl i (by show i < qN s 8 0; omega) hi1
    · rw [if_neg hq] at h
      refine x_aload_n (pc := 56) dX9_plan_56 rfl ?_
      refine x_getR (pc := 57) dX9_plan_57 flX9_24 (by first | assumption | rfl) rfl ?_
      refine x_iload_n (pc := 60) dX9_plan_60 rfl ?_
      refine x_iload_n (pc := 61) dX9_plan_61 rfl ?_
      refine x_invV2 (pc := 62) dX9_plan_62 mlX9_248 imX5_addToPlan seX5_addToPlan kX5_addToPlan (by first | assumption | rfl) rfl (Nat.le_of_ble_eq_true rfl) (by decide) ?_
      refine sp_X5_addToPlan hk hnx nots25 hN (fun _ => ?_) (fun z => absurd z hq)
      refine x_cv rfl rfl ?_
      first | (guard_target =~ Wp _ _ _ _ _ (Value.int (nI _) :: _) _ _ _ _; with_reducible refine x_if_eqN (pc := 65) (tgt := 78) ?_ dX9_plan_65 ?_ (fun h65 => ?_) (fun h65 => ?_); (first | omega | exact b2n_32 _ | exact b2n_31 _); decide) | refine x_if_eq (pc := 65) (tgt := 78) dX9_plan_65 (by decide) (fun h65 => ?_) (fun h65 => ?_)
      · skip
        refine x_bipush (pc := 78) dX9_plan_78 bp_m4 ?_
        refine x_ret (pc := 80) (v := some _) rfl trivial dX9_plan_80 (by decide) ?_
        exact h M csame.rf.low hC
      · skip
        omega
  by_cases k1 : k = 1
  · rcases isR_cases (x := n) (n := s.1.1 8 0) (by omega) with e2 | ⟨n, hn, rfl, e2⟩
    · rw [if_neg (fun q => by rw [q.1 k1] at e2; cases e2)] at h
      refine x_iload_n (pc := 0) dX9_plan_0 rfl ?_
      refine x_iconst (pc := 1) dX9_plan_1 ic_m1 ?_
      refine x_icmp_ne (pc := 2) (tgt := 13) dX9_plan_2 (by decide) (fun h2 => ?_) (fun h2 => ?_)
      · skip
        refine x_iload_n (pc := 13) dX9_plan_13 rfl ?_
        refine x_iconstN (pc := 14) 0 dX9_plan_14 ic_0 ?_
        refine x_iconstN (pc := 15) 3 dX9_plan_15 ic_3 ?_
        refine x_invS3 (pc := 16) dX9_plan_16 mlX9_72 stX9_isBetween kX9_isBetween (Nat.le_of_ble_eq_true rfl) (by decide) ?_
        refine sp_X9_isBetween ?_
        refine x_cv rfl rfl ?_
        rw [btw_isR (by decide), show isR (nI k) (nI (3 + 1)) = true from e]
        first | (guard_target =~ Wp _ _ _ _ _ (Value.int (nI _) :: _) _ _ _ _; with_reducible refine x_if_neN (pc := 19) (tgt := 24) ?_ dX9_plan_19 ?_ (fun h19 => ?_) (fun h19 => ?_); (first | omega | exact b2n_32 _ | exact b2n_31 _); decide) | refine x_if_ne (pc := 19) (tgt := 24) dX9_plan_19 (by decide) (fun h19 => ?_) (fun h19 => ?_)
        · skip
          refine x_iload_n (pc := 24) dX9_plan_24 rfl ?_
          refine x_iconstN (pc := 25) 1 dX9_plan_25 ic_1 ?_
          first | (guard_target =~ Wp _ _ _ _ _ (Value.int (nI _) :: Value.int (nI _) :: _) _ _ _ _; with_reducible refine x_icmp_neN (pc := 26) (tgt := 42) ?_ ?_ dX9_plan_26 ?_ (fun h26 => ?_) (fun h26 => ?_); (first | omega | exact b2n_31 _); (first | omega | exact b2n_31 _); decide) | refine x_icmp_ne (pc := 26) (tgt := 42) dX9_plan_26 (by decide) (fun h26 => ?_) (fun h26 => ?_)
          · skip
            omega
          · skip
            refine x_aload_n (pc := 29) dX9_plan_29 rfl ?_
            refine x_getR (pc := 30) dX9_plan_30 flX9_12 (by first | assumption | rfl) rfl ?_
            refine x_iload_n (pc := 33) dX9_plan_33 rfl ?_
            refine x_invV1 (pc := 34) dX9_plan_34 mlX9_88 imX2_hasGoer seX2_hasGoer kX2_hasGoer (by first | assumption | rfl) rfl (Nat.le_of_ble_eq_true rfl) (by decide) ?_
            refine sp_X2_hasGoer car1 hR ?_
            refine x_cv rfl rfl ?_
            rw [e2]
            first | (guard_target =~ Wp _ _ _ _ _ (Value.int (nI _) :: _) _ _ _ _; with_reducible refine x_if_neN (pc := 37) (tgt := 42) ?_ dX9_plan_37 ?_ (fun h37 => ?_) (fun h37 => ?_); (first | omega | exact b2n_32 _ | exact b2n_31 _); decide) | refine x_if_ne (pc := 37) (tgt := 42) dX9_plan_37 (by decide) (fun h37 => ?_) (fun h37 => ?_)
            · skip
              exact absurd rfl h37
            · skip
              refine x_iconst (pc := 40) dX9_plan_40 ic_m1 ?_
              refine x_ret (pc := 41) (v := some _) rfl trivial dX9_plan_41 (by decide) ?_
              exact h M csame.rf.low hC
        · skip
          cases h19
      · skip
        exact absurd h2 hc
    · skip
      refine x_iload_n (pc := 0) dX9_plan_0 rfl ?_
      refine x_iconst (pc := 1) dX9_plan_1 ic_m1 ?_
      refine x_icmp_ne (pc := 2) (tgt := 13) dX9_plan_2 (by decide) (fun h2 => ?_) (fun h2 => ?_)
      · skip
        refine x_iload_n (pc := 13) dX9_plan_13 rfl ?_
        refine x_iconstN (pc := 14) 0 dX9_plan_14 ic_0 ?_
        refine x_iconstN (pc := 15) 3 dX9_plan_15 ic_3 ?_
        refine x_invS3 (pc := 16) dX9_plan_16 mlX9_72 stX9_isBetween kX9_isBetween (Nat.le_of_ble_eq_true rfl) (by decide) ?_
        refine sp_X9_isBetween ?_
        refine x_cv rfl rfl ?_
        rw [btw_isR (by decide), show isR (nI k) (nI (3 + 1)) = true from e]
        first | (guard_target =~ Wp _ _ _ _ _ (Value.int (nI _) :: _) _ _ _ _; with_reducible refine x_if_neN (pc := 19) (tgt := 24) ?_ dX9_plan_19 ?_ (fun h19 => ?_) (fun h19 => ?_); (first | omega | exact b2n_32 _ | exact b2n_31 _); decide) | refine x_if_ne (pc := 19) (tgt := 24) dX9_plan_19 (by decide) (fun h19 => ?_) (fun h19 => ?_)
        · skip
          refine x_iload_n (pc := 24) dX9_plan_24 rfl ?_
          refine x_iconstN (pc := 25) 1 dX9_plan_25 ic_1 ?_
          first | (guard_target =~ Wp _ _ _ _ _ (Value.int (nI _) :: Value.int (nI _) :: _) _ _ _ _; with_reducible refine x_icmp_neN (pc := 26) (tgt := 42) ?_ ?_ dX9_plan_26 ?_ (fun h26 => ?_) (fun h26 => ?_); (first | omega | exact b2n_31 _); (first | omega | exact b2n_31 _); decide) | refine x_icmp_ne (pc := 26) (tgt := 42) dX9_plan_26 (by decide) (fun h26 => ?_) (fun h26 => ?_)
          · skip
            omega
          · skip
            refine x_aload_n (pc := 29) dX9_plan_29 rfl ?_
            refine x_getR (pc := 30) dX9_plan_30 flX9_12 (by first | assumption | rfl) rfl ?_
            refine x_iload_n (pc := 33) dX9_plan_33 rfl ?_
            refine x_invV1 (pc := 34) dX9_plan_34 mlX9_88 imX2_hasGoer seX2_hasGoer kX2_hasGoer (by first | assumption | rfl) rfl (Nat.le_of_ble_eq_true rfl) (by decide) ?_
            refine sp_X2_hasGoer car1 hR ?_
            refine x_cv rfl rfl ?_
            rw [e2]
            first | (guard_target =~ Wp _ _ _ _ _ (Value.int (nI _) :: _) _ _ _ _; with_reducible refine x_if_neN (pc := 37) (tgt := 42) ?_ dX9_plan_37 ?_ (fun h37 => ?_) (fun h37 => ?_); (first | omega | exact b2n_32 _ | exact b2n_31 _); decide) | refine x_if_ne (pc := 37) (tgt := 42) dX9_plan_37 (by decide) (fun h37 => ?_) (fun h37 => ?_)
            · skip
              refine x_iload_n (pc := 42) dX9_plan_42 rfl ?_
              refine x_iconstN (pc := 43) 2 dX9_plan_43 ic_2 ?_
              first | (guard_target =~ Wp _ _ _ _ _ (Value.int (nI _) :: Value.int (nI _) :: _) _ _ _ _; with_reducible refine x_icmp_ltN (pc := 44) (tgt := 56) ?_ ?_ dX9_plan_44 ?_ (fun h44 => ?_) (fun h44 => ?_); (first | omega | exact b2n_31 _); (first | omega | exact b2n_31 _); decide) | refine x_icmp_lt (pc := 44) (tgt := 56) dX9_plan_44 (by decide) (fun h44 => ?_) (fun h44 => ?_)
              · skip
                exact add n (fun _ => ⟨rfl, by omega⟩) (fun _ => hn) (by rw [toN_nI (by omega)]) ⟨fun _ => e2, fun q => by omega⟩
              · skip
                omega
            · skip
              cases h37
        · skip
          cases h19
      · skip
        exact absurd h2 hc
  by_cases k2 : 2 ≤ k
  · rcases isR_cases (x := n) (n := 16) (by omega) with e2 | ⟨n, hn, rfl, e2⟩
    · rw [if_neg (fun q => by rw [q.2 k2] at e2; cases e2)] at h
      refine x_iload_n (pc := 0) dX9_plan_0 rfl ?_
      refine x_iconst (pc := 1) dX9_plan_1 ic_m1 ?_
      refine x_icmp_ne (pc := 2) (tgt := 13) dX9_plan_2 (by decide) (fun h2 => ?_) (fun h2 => ?_)
      · skip
        refine x_iload_n (pc := 13) dX9_plan_13 rfl ?_
        refine x_iconstN (pc := 14) 0 dX9_plan_14 ic_0 ?_
        refine x_iconstN (pc := 15) 3 dX9_plan_15 ic_3 ?_
        refine x_invS3 (pc := 16) dX9_plan_16 mlX9_72 stX9_isBetween kX9_isBetween (Nat.le_of_ble_eq_true rfl) (by decide) ?_
        refine sp_X9_isBetween ?_
        refine x_cv rfl rfl ?_
        rw [btw_isR (by decide), show isR (nI k) (nI (3 + 1)) = true from e]
        first | (guard_target =~ Wp _ _ _ _ _ (Value.int (nI _) :: _) _ _ _ _; with_reducible refine x_if_neN (pc := 19) (tgt := 24) ?_ dX9_plan_19 ?_ (fun h19 => ?_) (fun h19 => ?_); (first | omega | exact b2n_32 _ | exact b2n_31 _); decide) | refine x_if_ne (pc := 19) (tgt := 24) dX9_plan_19 (by decide) (fun h19 => ?_) (fun h19 => ?_)
        · skip
          refine x_iload_n (pc := 24) dX9_plan_24 rfl ?_
          refine x_iconstN (pc := 25) 1 dX9_plan_25 ic_1 ?_
          first | (guard_target =~ Wp _ _ _ _ _ (Value.int (nI _) :: Value.int (nI _) :: _) _ _ _ _; with_reducible refine x_icmp_neN (pc := 26) (tgt := 42) ?_ ?_ dX9_plan_26 ?_ (fun h26 => ?_) (fun h26 => ?_); (first | omega | exact b2n_31 _); (first | omega | exact b2n_31 _); decide) | refine x_icmp_ne (pc := 26) (tgt := 42) dX9_plan_26 (by decide) (fun h26 => ?_) (fun h26 => ?_)
          · skip
            refine x_iload_n (pc := 42) dX9_plan_42 rfl ?_
            refine x_iconstN (pc := 43) 2 dX9_plan_43 ic_2 ?_
            first | (guard_target =~ Wp _ _ _ _ _ (Value.int (nI _) :: Value.int (nI _) :: _) _ _ _ _; with_reducible refine x_icmp_ltN (pc := 44) (tgt := 56) ?_ ?_ dX9_plan_44 ?_ (fun h44 => ?_) (fun h44 => ?_); (first | omega | exact b2n_31 _); (first | omega | exact b2n_31 _); decide) | refine x_icmp_lt (pc := 44) (tgt := 56) dX9_plan_44 (by decide) (fun h44 => ?_) (fun h44 => ?_)
            · skip
              omega
            · skip
              refine x_iload_n (pc := 47) dX9_plan_47 rfl ?_
              refine x_invS1 (pc := 48) dX9_plan_48 mlX9_67 stX3_isCell kX3_isCell (Nat.le_of_ble_eq_true rfl) (by decide) ?_
              refine sp_X3_isCell ?_
              refine x_cv rfl rfl ?_
              rw [show isR n 16 = false from e2]
              first | (guard_target =~ Wp _ _ _ _ _ (Value.int (nI _) :: _) _ _ _ _; with_reducible refine x_if_neN (pc := 51) (tgt := 56) ?_ dX9_plan_51 ?_ (fun h51 => ?_) (fun h51 => ?_); (first | omega | exact b2n_32 _ | exact b2n_31 _); decide) | refine x_if_ne (pc := 51) (tgt := 56) dX9_plan_51 (by decide) (fun h51 => ?_) (fun h51 => ?_)
              · skip
                exact absurd rfl h51
              · skip
                refine x_iconst (pc := 54) dX9_plan_54 ic_m1 ?_
                refine x_ret (pc := 55) (v := some _) rfl trivial dX9_plan_55 (by decide) ?_
                exact h M csame.rf.low hC
          · skip
            omega
        · skip
          cases h19
      · skip
        exact absurd h2 hc
    · skip
      refine x_iload_n (pc := 0) dX9_plan_0 rfl ?_
      refine x_iconst (pc := 1) dX9_plan_1 ic_m1 ?_
      refine x_icmp_ne (pc := 2) (tgt := 13) dX9_plan_2 (by decide) (fun h2 => ?_) (fun h2 => ?_)
      · skip
        refine x_iload_n (pc := 13) dX9_plan_13 rfl ?_
        refine x_iconstN (pc := 14) 0 dX9_plan_14 ic_0 ?_
        refine x_iconstN (pc := 15) 3 dX9_plan_15 ic_3 ?_
        refine x_invS3 (pc := 16) dX9_plan_16 mlX9_72 stX9_isBetween kX9_isBetween (Nat.le_of_ble_eq_true rfl) (by decide) ?_
        refine sp_X9_isBetween ?_
        refine x_cv rfl rfl ?_
        rw [btw_isR (by decide), show isR (nI k) (nI (3 + 1)) = true from e]
        first | (guard_target =~ Wp _ _ _ _ _ (Value.int (nI _) :: _) _ _ _ _; with_reducible refine x_if_neN (pc := 19) (tgt := 24) ?_ dX9_plan_19 ?_ (fun h19 => ?_) (fun h19 => ?_); (first | omega | exact b2n_32 _ | exact b2n_31 _); decide) | refine x_if_ne (pc := 19) (tgt := 24) dX9_plan_19 (by decide) (fun h19 => ?_) (fun h19 => ?_)
        · skip
          refine x_iload_n (pc := 24) dX9_plan_24 rfl ?_
          refine x_iconstN (pc := 25) 1 dX9_plan_25 ic_1 ?_
          first | (guard_target =~ Wp _ _ _ _ _ (Value.int (nI _) :: Value.int (nI _) :: _) _ _ _ _; with_reducible refine x_icmp_neN (pc := 26) (tgt := 42) ?_ ?_ dX9_plan_26 ?_ (fun h26 => ?_) (fun h26 => ?_); (first | omega | exact b2n_31 _); (first | omega | exact b2n_31 _); decide) | refine x_icmp_ne (pc := 26) (tgt := 42) dX9_plan_26 (by decide) (fun h26 => ?_) (fun h26 => ?_)
          · skip
            refine x_iload_n (pc := 42) dX9_plan_42 rfl ?_
            refine x_iconstN (pc := 43) 2 dX9_plan_43 ic_2 ?_
            first | (guard_target =~ Wp _ _ _ _ _ (Value.int (nI _) :: Value.int (nI _) :: _) _ _ _ _; with_reducible refine x_icmp_ltN (pc := 44) (tgt := 56) ?_ ?_ dX9_plan_44 ?_ (fun h44 => ?_) (fun h44 => ?_); (first | omega | exact b2n_31 _); (first | omega | exact b2n_31 _); decide) | refine x_icmp_lt (pc := 44) (tgt := 56) dX9_plan_44 (by decide) (fun h44 => ?_) (fun h44 => ?_)
            · skip
              omega
            · skip
              refine x_iload_n (pc := 47) dX9_plan_47 rfl ?_
              refine x_invS1 (pc := 48) dX9_plan_48 mlX9_67 stX3_isCell kX3_isCell (Nat.le_of_ble_eq_true rfl) (by decide) ?_
              refine sp_X3_isCell ?_
              refine x_cv rfl rfl ?_
              rw [show isR (nI n) 16 = true from e2]
              first | (guard_target =~ Wp _ _ _ _ _ (Value.int (nI _) :: _) _ _ _ _; with_reducible refine x_if_neN (pc := 51) (tgt := 56) ?_ dX9_plan_51 ?_ (fun h51 => ?_) (fun h51 => ?_); (first | omega | exact b2n_32 _ | exact b2n_31 _); decide) | refine x_if_ne (pc := 51) (tgt := 56) dX9_plan_51 (by decide) (fun h51 => ?_) (fun h51 => ?_)
              · skip
                exact add n (fun _ => ⟨rfl, by omega⟩) (fun q => by omega) (by rw [toN_nI (by omega)]) ⟨fun q => by omega, fun _ => e2⟩
              · skip
                cases h51
          · skip
            omega
        · skip
          cases h19
      · skip
        exact absurd h2 hc
  · skip
    refine x_iload_n (pc := 0) dX9_plan_0 rfl ?_
    refine x_iconst (pc := 1) dX9_plan_1 ic_m1 ?_
    refine x_icmp_ne (pc := 2) (tgt := 13) dX9_plan_2 (by decide) (fun h2 => ?_) (fun h2 => ?_)
    · skip
      refine x_iload_n (pc := 13) dX9_plan_13 rfl ?_
      refine x_iconstN (pc := 14) 0 dX9_plan_14 ic_0 ?_
      refine x_iconstN (pc := 15) 3 dX9_plan_15 ic_3 ?_
      refine x_invS3 (pc := 16) dX9_plan_16 mlX9_72 stX9_isBetween kX9_isBetween (Nat.le_of_ble_eq_true rfl) (by decide) ?_
      refine sp_X9_isBetween ?_
      refine x_cv rfl rfl ?_
      rw [btw_isR (by decide), show isR (nI k) (nI (3 + 1)) = true from e]
      first | (guard_target =~ Wp _ _ _ _ _ (Value.int (nI _) :: _) _ _ _ _; with_reducible refine x_if_neN (pc := 19) (tgt := 24) ?_ dX9_plan_19 ?_ (fun h19 => ?_) (fun h19 => ?_); (first | omega | exact b2n_32 _ | exact b2n_31 _); decide) | refine x_if_ne (pc := 19) (tgt := 24) dX9_plan_19 (by decide) (fun h19 => ?_) (fun h19 => ?_)
      · skip
        refine x_iload_n (pc := 24) dX9_plan_24 rfl ?_
        refine x_iconstN (pc := 25) 1 dX9_plan_25 ic_1 ?_
        first | (guard_target =~ Wp _ _ _ _ _ (Value.int (nI _) :: Value.int (nI _) :: _) _ _ _ _; with_reducible refine x_icmp_neN (pc := 26) (tgt := 42) ?_ ?_ dX9_plan_26 ?_ (fun h26 => ?_) (fun h26 => ?_); (first | omega | exact b2n_31 _); (first | omega | exact b2n_31 _); decide) | refine x_icmp_ne (pc := 26) (tgt := 42) dX9_plan_26 (by decide) (fun h26 => ?_) (fun h26 => ?_)
        · skip
          refine x_iload_n (pc := 42) dX9_plan_42 rfl ?_
          refine x_iconstN (pc := 43) 2 dX9_plan_43 ic_2 ?_
          first | (guard_target =~ Wp _ _ _ _ _ (Value.int (nI _) :: Value.int (nI _) :: _) _ _ _ _; with_reducible refine x_icmp_ltN (pc := 44) (tgt := 56) ?_ ?_ dX9_plan_44 ?_ (fun h44 => ?_) (fun h44 => ?_); (first | omega | exact b2n_31 _); (first | omega | exact b2n_31 _); decide) | refine x_icmp_lt (pc := 44) (tgt := 56) dX9_plan_44 (by decide) (fun h44 => ?_) (fun h44 => ?_)
          · skip
            exact add 0 (fun q => by omega) (fun q => by omega) (by rw [if_pos (by omega), if_pos (by omega)]) ⟨fun q => by omega, fun q => by omega⟩
          · skip
            omega
        · skip
          omega
      · skip
        cases h19
    · skip
      exact absurd h2 hc
theorem RmL.cong {tx tx' : Nat → Nat → Nat} {ln ln' : Nat → Nat} {made made' : Nat} {r : Int32} {L : List XCl} (h : RmL tx ln made r L) (hm : made ≤ made') (he : ∀ b, b < made → tx' b = tx b ∧ ln' b = ln b) : RmL tx' ln' made' r L := by
  obtain ⟨h1, h2⟩ := h
  refine ⟨h1, ?_⟩
  rcases h2 with h2 | ⟨b, q, h2, h3, h4⟩
  · exact Or.inl h2
  · refine Or.inr ⟨b, q, by omega, h3, ?_⟩
    rw [(he b h2).1, (he b h2).2]
    exact h4
theorem okQ.cong {tx tx' : Nat → Nat → Nat} {ln ln' : Nat → Nat} {made made' : Nat} {q : XQ} (h : okQ tx ln made q) (hm : made ≤ made') (he : ∀ b, b < made → tx' b = tx b ∧ ln' b = ln b) : okQ tx' ln' made' q := by
  obtain ⟨q1, q2, q3, q4, q5, q6, q7⟩ := h
  exact ⟨q1, q2, q3, q4, q5, q6.cong hm he, q7⟩
/-- the rooms change -/
theorem XC9.upR {M M' : XM} {s : XSt} {tx : Nat → Nat → Nat} {ln : Nat → Nat} {made : Nat} (h : XC9 M s) (hs : xsame 41 45 M M') (hR : RmS M' tx ln made) (hm : sMd s ≤ made) (he : ∀ b, b < sMd s → tx b = sTx s b ∧ ln b = sLn s b) : XC9 M' (s.1, s.2.1, tx, ln, made, s.2.2.2.2.2) := by
  refine ⟨⟨h.1.1.out hs (by decide), h.1.2.out hs (by decide)⟩, h.2.1.cong hm he, ?_, hR, h.2.2.2.2.1.eqs (hs.1 63 (by decide)) (hs.1 64 (by decide)) (by rw [hs.2]), h.2.2.2.2.2.eqs (hs.1 59 (by decide)) (hs.1 60 (by decide))⟩
  have h3 := h.2.2.1
  show XIm M' tx ln made s.2.1
  revert h3
  cases s.2.1 with
  | none => exact fun h3 => (show M'.1 0 4 = nI 0 by rw [hs.1 0 (by decide)]; exact h3)
  | some q => exact fun h3 => ⟨by rw [hs.1 0 (by decide)]; exact h3.1, ⟨h3.2.1.1.out hs (by decide), h3.2.1.2.out hs (by decide)⟩, h3.2.2.cong hm he⟩
theorem lowR {M M' : XM} (h : xsame 41 45 M M') : low M M' := ⟨fun a ha => h.1 a (by omega), fun a _ => by rw [h.2]⟩
theorem i2b_id : ∀ x, x < 128 → (nI x).toInt8.toInt32 = nI x := by decide +kernel
theorem fX9_feed {x : Int32} (hC : XC9 M s) (h : ∀ M', low M M' → XC9 M' (opFeed s x).2 → K (some (.int (opFeed s x).1)) xSF M') : Ex g (d + 1) yX9_feed mX9_feed [.ref 0, .int x] xSF M K := by
  unfold opFeed at h
  have hm := hC.2.2.2.1
  have hl := (hm.2.2 (sMd s) hm.2.1).2.1
  refine x_entry kX9_feed (Nat.le_of_ble_eq_true rfl) ?_
  show Wp g _ mX9_feed 0 [some (.ref 0), some (.int x)] [] _ _ _ _
  rcases isR_cases (x := x) (n := 128) (by omega) with e | ⟨x, hx, rfl, e⟩
  · simp only [e, Bool.false_eq_true, if_false] at h
    refine x_iload_n (pc := 0) dX9_feed_0 rfl ?_
    refine x_iconstN (pc := 1) 0 dX9_feed_1 ic_0 ?_
    refine x_bipushN (pc := 2) 127 dX9_feed_2 bp_127 ?_
    refine x_invS3 (pc := 4) dX9_feed_4 mlX9_72 stX9_isBetween kX9_isBetween (Nat.le_of_ble_eq_true rfl) (by decide) ?_
    refine sp_X9_isBetween ?_
    refine x_cv rfl rfl ?_
    rw [btw_isR (by decide), show isR x (nI (127 + 1)) = false from e]
    first | (guard_target =~ Wp _ _ _ _ _ (Value.int (nI _) :: _) _ _ _ _; with_reducible refine x_if_neN (pc := 7) (tgt := 13) ?_ dX9_feed_7 ?_ (fun h7 => ?_) (fun h7 => ?_); (first | omega | exact b2n_32 _ | exact b2n_31 _); decide) | refine x_if_ne (pc := 7) (tgt := 13) dX9_feed_7 (by decide) (fun h7 => ?_) (fun h7 => ?_)
    · skip
      exact absurd rfl h7
    · skip
      refine x_bipush (pc := 10) dX9_feed_10 bp_m2 ?_
      refine x_ret (pc := 12) (v := some _) rfl trivial dX9_feed_12 (by decide) ?_
      exact h M csame.rf.low hC
  simp only [e, if_true] at h
  rw [toN_nI (by omega)] at h
  by_cases hq : sLn s (sMd s) < 100
  · rw [if_pos hq] at h
    refine x_iload_n (pc := 0) dX9_feed_0 rfl ?_
    refine x_iconstN (pc := 1) 0 dX9_feed_1 ic_0 ?_
    refine x_bipushN (pc := 2) 127 dX9_feed_2 bp_127 ?_
    refine x_invS3 (pc := 4) dX9_feed_4 mlX9_72 stX9_isBetween kX9_isBetween (Nat.le_of_ble_eq_true rfl) (by decide) ?_
    refine sp_X9_isBetween ?_
    refine x_cv rfl rfl ?_
    rw [btw_isR (by decide), show isR (nI x) (nI (127 + 1)) = true from e]
    first | (guard_target =~ Wp _ _ _ _ _ (Value.int (nI _) :: _) _ _ _ _; with_reducible refine x_if_neN (pc := 7) (tgt := 13) ?_ dX9_feed_7 ?_ (fun h7 => ?_) (fun h7 => ?_); (first | omega | exact b2n_32 _ | exact b2n_31 _); decide) | refine x_if_ne (pc := 7) (tgt := 13) dX9_feed_7 (by decide) (fun h7 => ?_) (fun h7 => ?_)
    · skip
      refine x_aload_n (pc := 13) dX9_feed_13 rfl ?_
      refine x_getR (pc := 14) dX9_feed_14 flX9_34 (by first | assumption | rfl) rfl ?_
      refine x_iload_n (pc := 17) dX9_feed_17 rfl ?_
      refine x_i2b (pc := 18) dX9_feed_18 ?_
      rw [i2b_id x hx]
      refine x_invV1 (pc := 19) dX9_feed_19 mlX9_155 imX6_addSign seX6_addSign kX6_addSign (by first | assumption | rfl) rfl (Nat.le_of_ble_eq_true rfl) (by decide) ?_
      refine sp_X6_addSign hx hm (fun z => absurd hq (by rw [show sLn s (sMd s) = 100 from z]; omega)) (fun _ M2 hs hR2 => ?_)
      refine x_cv rfl rfl ?_
      first | (guard_target =~ Wp _ _ _ _ _ (Value.int (nI _) :: _) _ _ _ _; with_reducible refine x_if_eqN (pc := 22) (tgt := 35) ?_ dX9_feed_22 ?_ (fun h22 => ?_) (fun h22 => ?_); (first | omega | exact b2n_32 _ | exact b2n_31 _); decide) | refine x_if_eq (pc := 22) (tgt := 35) dX9_feed_22 (by decide) (fun h22 => ?_) (fun h22 => ?_)
      · skip
        omega
      · skip
        refine x_aload_n (pc := 25) dX9_feed_25 rfl ?_
        refine x_getR (pc := 26) dX9_feed_26 flX9_34 (by first | assumption | rfl) rfl ?_
        refine x_invV0 (pc := 29) dX9_feed_29 mlX9_159 imX6_textLength seX6_textLength kX6_textLength (by first | assumption | rfl) rfl (Nat.le_of_ble_eq_true rfl) (by decide) ?_
        refine sp_X6_textLength hR2 ?_
        refine x_cv rfl rfl ?_
        rw [show up1 s.2.2.2.1 s.2.2.2.2.1 (s.2.2.2.1 s.2.2.2.2.1 + 1) s.2.2.2.2.1 = sLn s (sMd s) + 1 by simp [up1, sLn, sMd]]
        refine x_goto (pc := 32) (tgt := 37) dX9_feed_32 (by decide) ?_
        refine x_ret (pc := 37) (v := some _) rfl trivial dX9_feed_37 (by decide) ?_
        exact h M2 (lowR hs) (hC.upR hs hR2 (Nat.le_refl _) (fun b hb => ⟨funext fun k => by simp [up2]; omega, by simp [up1]; omega⟩))
    · skip
      cases h7
  · rw [if_neg hq] at h
    refine x_iload_n (pc := 0) dX9_feed_0 rfl ?_
    refine x_iconstN (pc := 1) 0 dX9_feed_1 ic_0 ?_
    refine x_bipushN (pc := 2) 127 dX9_feed_2 bp_127 ?_
    refine x_invS3 (pc := 4) dX9_feed_4 mlX9_72 stX9_isBetween kX9_isBetween (Nat.le_of_ble_eq_true rfl) (by decide) ?_
    refine sp_X9_isBetween ?_
    refine x_cv rfl rfl ?_
    rw [btw_isR (by decide), show isR (nI x) (nI (127 + 1)) = true from e]
    first | (guard_target =~ Wp _ _ _ _ _ (Value.int (nI _) :: _) _ _ _ _; with_reducible refine x_if_neN (pc := 7) (tgt := 13) ?_ dX9_feed_7 ?_ (fun h7 => ?_) (fun h7 => ?_); (first | omega | exact b2n_32 _ | exact b2n_31 _); decide) | refine x_if_ne (pc := 7) (tgt := 13) dX9_feed_7 (by decide) (fun h7 => ?_) (fun h7 => ?_)
    · skip
      refine x_aload_n (pc := 13) dX9_feed_13 rfl ?_
      refine x_getR (pc := 14) dX9_feed_14 flX9_34 (by first | assumption | rfl) rfl ?_
      refine x_iload_n (pc := 17) dX9_feed_17 rfl ?_
      refine x_i2b (pc := 18) dX9_feed_18 ?_
      rw [i2b_id x hx]
      refine x_invV1 (pc := 19) dX9_feed_19 mlX9_155 imX6_addSign seX6_addSign kX6_addSign (by first | assumption | rfl) rfl (Nat.le_of_ble_eq_true rfl) (by decide) ?_
      refine sp_X6_addSign hx hm (fun _ => ?_) (fun z => absurd z hq)
      refine x_cv rfl rfl ?_
      first | (guard_target =~ Wp _ _ _ _ _ (Value.int (nI _) :: _) _ _ _ _; with_reducible refine x_if_eqN (pc := 22) (tgt := 35) ?_ dX9_feed_22 ?_ (fun h22 => ?_) (fun h22 => ?_); (first | omega | exact b2n_32 _ | exact b2n_31 _); decide) | refine x_if_eq (pc := 22) (tgt := 35) dX9_feed_22 (by decide) (fun h22 => ?_) (fun h22 => ?_)
      · skip
        refine x_bipush (pc := 35) dX9_feed_35 bp_m4 ?_
        refine x_ret (pc := 37) (v := some _) rfl trivial dX9_feed_37 (by decide) ?_
        exact h M csame.rf.low hC
      · skip
        omega
    · skip
      cases h7
end P47
