/-! the MODEL's reader: a test, an expression -/
section P94
variable {g : XG} {d : Nat} {M M0 : XM} {K : Option Value → XS → XM → Prop} {n sg ci p o : Nat} {t : Nat → Nat} {C V U : List Nat} {j : Nat}
def tstR (M0 M' : XM) (sg ci : Nat) (C U : List Nat) (j o : Nat) (r : Option XP × Nat) : Prop := match r with
  | (none, q) => PN M0 M' sg ci q
  | (some e, q) => PS M0 M' sg ci q (C ++ e.1 ++ List.replicate j 0) U (o - j)
theorem sm_takesTest (hT : CT M0 n t) (hsg : sg + 100 ≤ 600) (hpn : p ≤ n) (hj : j ≤ o) (ho4 : o ≤ 4) (hU : ∀ u U', U = u :: U' → u ≠ 33 ∧ u < 200) (h : PS M0 M sg ci p C (List.replicate j 33 ++ U) o) (hK : ∀ M', tstR M0 M' sg ci C U j o (pT (chT n t) p) → K (some (.int (nI (b2n (pT (chT n t) p).1.isSome)))) xSF M') : Ex g (d + 3) yX10_takesTest mX10_takesTest [.ref 65] xSF M K := by
  have hn := hT.2.1
  have hTX := hT.tx
  have hcp := (hTX.2 p).2
  have hcp1 := (hTX.2 (p + 1)).2
  have h13 : M.1 65 13 = nI p := h.2.1
  refine x_entry kX10_takesTest (Nat.le_of_ble_eq_true rfl) ?_
  show Wp g _ mX10_takesTest 0 [some (.ref 65), none, none] [] _ _ _ _
  by_cases h6 : fldP (chT n t p) = 6
  · have e : pT (chT n t) p = (none, p) := by unfold pT; rw [if_pos h6]
    rw [e] at hK
    refine x_aload_n (pc := 0) dX10_takesTest_0 rfl ?_
    refine x_aload_n (pc := 1) dX10_takesTest_1 rfl ?_
    refine x_invV0 (pc := 2) dX10_takesTest_2 mlX10_271 imX10_next seX10_next kX10_next (by first | assumption | rfl) rfl (Nat.le_of_ble_eq_true rfl) (by decide) ?_
    refine sm_next hT h.1 h13 (by omega) ?_
    refine x_cv rfl rfl ?_
    refine x_invV1 (pc := 5) dX10_takesTest_5 mlX10_286 imX10_place seX10_place kX10_place (by first | assumption | rfl) rfl (Nat.le_of_ble_eq_true rfl) (by decide) ?_
    refine sm_place hcp ?_
    refine x_cv rfl rfl ?_
    rw [if_pos h6]
    refine x_istore_n (pc := 8) dX10_takesTest_8 (by decide) xs_1 (x_hp rfl) ?_
    refine x_iload_n (pc := 9) dX10_takesTest_9 rfl ?_
    refine x_if_ge (pc := 10) (tgt := 15) dX10_takesTest_10 (by decide) (fun h10 => ?_) (fun h10 => ?_)
    · skip
      exact absurd h10 (by decide)
    · skip
      refine x_iconstN (pc := 13) 0 dX10_takesTest_13 ic_0 ?_
      refine x_ret (pc := 14) (v := some _) rfl (by first | rfl | decide | exact xrt_b) dX10_takesTest_14 (by decide) ?_
      exact hK M h.pn
  have hf6 := fldP_lt h6
  have hpn1 : p < n := hTX.lt rfl (fldP_ne0 h6)
  have hb : ∀ x, x < 129 → btw (srt x) (nI 60) (nI 62) = decide (61 ≤ x ∧ x ≤ 63) := by decide +kernel
  by_cases h2 : 61 ≤ chT n t (p + 1) ∧ chT n t (p + 1) ≤ 63
  · have hpn2 : p + 1 < n := hTX.lt rfl (by omega : chT n t (p + 1) ≠ 0)
    have hs1 : srt (chT n t (p + 1)) = nI (chT n t (p + 1) - 1) := srt_s (by omega)
    have hm1 := h.at (q := p + 1) (by omega)
    have hm2 := hm1.at (q := p + 1 + 1) (by omega)
    have hlen := h.2.2.2.2.2.2.2
    cases hnum : numP (chT n t) (p + 2) with
    | none =>
      have e : pT (chT n t) p = (none, p + 2) := by unfold pT; rw [if_neg h6, if_pos h2, hnum]
      rw [e] at hK
      refine x_aload_n (pc := 0) dX10_takesTest_0 rfl ?_
      refine x_aload_n (pc := 1) dX10_takesTest_1 rfl ?_
      refine x_invV0 (pc := 2) dX10_takesTest_2 mlX10_271 imX10_next seX10_next kX10_next (by first | assumption | rfl) rfl (Nat.le_of_ble_eq_true rfl) (by decide) ?_
      refine sm_next hT h.1 h13 (by omega) ?_
      refine x_cv rfl rfl ?_
      refine x_invV1 (pc := 5) dX10_takesTest_5 mlX10_286 imX10_place seX10_place kX10_place (by first | assumption | rfl) rfl (Nat.le_of_ble_eq_true rfl) (by decide) ?_
      refine sm_place hcp ?_
      refine x_cv rfl rfl ?_
      rw [if_neg h6]
      refine x_istore_n (pc := 8) dX10_takesTest_8 (by decide) xs_1 (x_hp rfl) ?_
      refine x_iload_n (pc := 9) dX10_takesTest_9 rfl ?_
      refine x_if_ge (pc := 10) (tgt := 15) dX10_takesTest_10 (by decide) (fun h10 => ?_) (fun h10 => ?_)
      · skip
        refine x_aload_n (pc := 15) dX10_takesTest_15 rfl ?_
        refine x_dup (pc := 16) dX10_takesTest_16 rfl ?_
        refine x_getI (pc := 17) dX10_takesTest_17 flX10_50 (by first | assumption | rfl) rfl ?_
        rw [h13]
        refine x_iconstN (pc := 20) 1 dX10_takesTest_20 ic_1 ?_
        first | (guard_target =~ Wp _ _ _ _ _ (Value.int (nI _) :: Value.int (nI _) :: _) _ _ _ _; with_reducible refine x_iaddN (pc := 21) dX10_takesTest_21 ?_) | refine x_iadd (pc := 21) dX10_takesTest_21 ?_
        refine x_putI (pc := 22) dX10_takesTest_22 flX10_50 (by first | assumption | rfl) rfl rfl rfl ?_
        refine x_aload_n (pc := 25) dX10_takesTest_25 rfl ?_
        refine x_invV0 (pc := 26) dX10_takesTest_26 mlX10_271 imX10_next seX10_next kX10_next (by first | assumption | rfl) rfl (Nat.le_of_ble_eq_true rfl) (by decide) ?_
        refine sm_next hT hm1.1 hm1.2.1 (by omega) ?_
        refine x_cv rfl rfl ?_
        refine x_istore_n (pc := 29) dX10_takesTest_29 (by decide) xs_2 (x_hp rfl) ?_
        refine x_aload_n (pc := 30) dX10_takesTest_30 rfl ?_
        refine x_iload_n (pc := 31) dX10_takesTest_31 rfl ?_
        refine x_bipushN (pc := 32) 60 dX10_takesTest_32 bp_60 ?_
        refine x_bipushN (pc := 34) 62 dX10_takesTest_34 bp_62 ?_
        refine x_invV3 (pc := 36) dX10_takesTest_36 mlX10_253 imX10_in seX10_in kX10_in (by first | assumption | rfl) rfl (Nat.le_of_ble_eq_true rfl) (by decide) ?_
        refine sm_in ?_
        refine x_cv rfl rfl ?_
        rw [hb _ hcp1, decide_eq_true h2]
        first | (guard_target =~ Wp _ _ _ _ _ (Value.int (nI _) :: _) _ _ _ _; with_reducible refine x_if_neN (pc := 39) (tgt := 44) ?_ dX10_takesTest_39 ?_ (fun h39 => ?_) (fun h39 => ?_); (first | omega | exact b2n_32 _ | exact b2n_31 _); decide) | refine x_if_ne (pc := 39) (tgt := 44) dX10_takesTest_39 (by decide) (fun h39 => ?_) (fun h39 => ?_)
        · skip
          refine x_aload_n (pc := 44) dX10_takesTest_44 rfl ?_
          refine x_dup (pc := 45) dX10_takesTest_45 rfl ?_
          refine x_getI (pc := 46) dX10_takesTest_46 flX10_50 (by first | assumption | rfl) rfl ?_
          rw [show (xput M 65 13 (nI (p + 1))).1 65 13 = nI (p + 1) from rfl]
          refine x_iconstN (pc := 49) 1 dX10_takesTest_49 ic_1 ?_
          first | (guard_target =~ Wp _ _ _ _ _ (Value.int (nI _) :: Value.int (nI _) :: _) _ _ _ _; with_reducible refine x_iaddN (pc := 50) dX10_takesTest_50 ?_) | refine x_iadd (pc := 50) dX10_takesTest_50 ?_
          refine x_putI (pc := 51) dX10_takesTest_51 flX10_50 (by first | assumption | rfl) rfl rfl rfl ?_
          refine x_aload_n (pc := 54) dX10_takesTest_54 rfl ?_
          refine x_invV0 (pc := 55) dX10_takesTest_55 mlX10_290 imX10_takesNumber seX10_takesNumber kX10_takesNumber (by first | assumption | rfl) rfl (Nat.le_of_ble_eq_true rfl) (by decide) ?_
          refine sm_takesNumber hT hm2.pn (by omega) (fun M2 ho2 hq2 hv2 => ?_)
          refine x_cv rfl rfl ?_
          rw [show numP (chT n t) (p + 1 + 1) = none from hnum]
          first | (guard_target =~ Wp _ _ _ _ _ (Value.int (nI _) :: _) _ _ _ _; with_reducible refine x_if_neN (pc := 58) (tgt := 63) ?_ dX10_takesTest_58 ?_ (fun h58 => ?_) (fun h58 => ?_); (first | omega | exact b2n_32 _ | exact b2n_31 _); decide) | refine x_if_ne (pc := 58) (tgt := 63) dX10_takesTest_58 (by decide) (fun h58 => ?_) (fun h58 => ?_)
          · skip
            exact absurd rfl h58
          · skip
            refine x_iconstN (pc := 61) 0 dX10_takesTest_61 ic_0 ?_
            refine x_ret (pc := 62) (v := some _) rfl (by first | rfl | decide | exact xrt_b) dX10_takesTest_62 (by decide) ?_
            rw [show numP (chT n t) (p + 1 + 1) = none from hnum] at hq2; exact hK M2 (hm2.pn.mv ho2 hq2)
        · skip
          cases h39
      · skip
        exact absurd (nI_pos' (by omega)) h10
    | some r =>
      obtain ⟨v, q⟩ := r
      obtain ⟨z1, z2, z3⟩ := numP_some hTX hnum
      have e : pT (chT n t) p = (some ([1000 * fldP (chT n t p) + 100 * (chT n t (p + 1) - 61) + v + 3], fun f => tstP (f (fldP (chT n t p))) (chT n t (p + 1) - 61) v), q) := by unfold pT; rw [if_neg h6, if_pos h2, hnum]
      rw [e] at hK
      refine x_aload_n (pc := 0) dX10_takesTest_0 rfl ?_
      refine x_aload_n (pc := 1) dX10_takesTest_1 rfl ?_
      refine x_invV0 (pc := 2) dX10_takesTest_2 mlX10_271 imX10_next seX10_next kX10_next (by first | assumption | rfl) rfl (Nat.le_of_ble_eq_true rfl) (by decide) ?_
      refine sm_next hT h.1 h13 (by omega) ?_
      refine x_cv rfl rfl ?_
      refine x_invV1 (pc := 5) dX10_takesTest_5 mlX10_286 imX10_place seX10_place kX10_place (by first | assumption | rfl) rfl (Nat.le_of_ble_eq_true rfl) (by decide) ?_
      refine sm_place hcp ?_
      refine x_cv rfl rfl ?_
      rw [if_neg h6]
      refine x_istore_n (pc := 8) dX10_takesTest_8 (by decide) xs_1 (x_hp rfl) ?_
      refine x_iload_n (pc := 9) dX10_takesTest_9 rfl ?_
      refine x_if_ge (pc := 10) (tgt := 15) dX10_takesTest_10 (by decide) (fun h10 => ?_) (fun h10 => ?_)
      · skip
        refine x_aload_n (pc := 15) dX10_takesTest_15 rfl ?_
        refine x_dup (pc := 16) dX10_takesTest_16 rfl ?_
        refine x_getI (pc := 17) dX10_takesTest_17 flX10_50 (by first | assumption | rfl) rfl ?_
        rw [h13]
        refine x_iconstN (pc := 20) 1 dX10_takesTest_20 ic_1 ?_
        first | (guard_target =~ Wp _ _ _ _ _ (Value.int (nI _) :: Value.int (nI _) :: _) _ _ _ _; with_reducible refine x_iaddN (pc := 21) dX10_takesTest_21 ?_) | refine x_iadd (pc := 21) dX10_takesTest_21 ?_
        refine x_putI (pc := 22) dX10_takesTest_22 flX10_50 (by first | assumption | rfl) rfl rfl rfl ?_
        refine x_aload_n (pc := 25) dX10_takesTest_25 rfl ?_
        refine x_invV0 (pc := 26) dX10_takesTest_26 mlX10_271 imX10_next seX10_next kX10_next (by first | assumption | rfl) rfl (Nat.le_of_ble_eq_true rfl) (by decide) ?_
        refine sm_next hT hm1.1 hm1.2.1 (by omega) ?_
        refine x_cv rfl rfl ?_
        rw [hs1]
        refine x_istore_n (pc := 29) dX10_takesTest_29 (by decide) xs_2 (x_hp rfl) ?_
        refine x_aload_n (pc := 30) dX10_takesTest_30 rfl ?_
        refine x_iload_n (pc := 31) dX10_takesTest_31 rfl ?_
        refine x_bipushN (pc := 32) 60 dX10_takesTest_32 bp_60 ?_
        refine x_bipushN (pc := 34) 62 dX10_takesTest_34 bp_62 ?_
        refine x_invV3 (pc := 36) dX10_takesTest_36 mlX10_253 imX10_in seX10_in kX10_in (by first | assumption | rfl) rfl (Nat.le_of_ble_eq_true rfl) (by decide) ?_
        refine sm_in ?_
        refine x_cv rfl rfl ?_
        rw [← hs1, hb _ hcp1, decide_eq_true h2]
        first | (guard_target =~ Wp _ _ _ _ _ (Value.int (nI _) :: _) _ _ _ _; with_reducible refine x_if_neN (pc := 39) (tgt := 44) ?_ dX10_takesTest_39 ?_ (fun h39 => ?_) (fun h39 => ?_); (first | omega | exact b2n_32 _ | exact b2n_31 _); decide) | refine x_if_ne (pc := 39) (tgt := 44) dX10_takesTest_39 (by decide) (fun h39 => ?_) (fun h39 => ?_)
        · skip
          refine x_aload_n (pc := 44) dX10_takesTest_44 rfl ?_
          refine x_dup (pc := 45) dX10_takesTest_45 rfl ?_
          refine x_getI (pc := 46) dX10_takesTest_46 flX10_50 (by first | assumption | rfl) rfl ?_
          rw [show (xput M 65 13 (nI (p + 1))).1 65 13 = nI (p + 1) from rfl]
          refine x_iconstN (pc := 49) 1 dX10_takesTest_49 ic_1 ?_
          first | (guard_target =~ Wp _ _ _ _ _ (Value.int (nI _) :: Value.int (nI _) :: _) _ _ _ _; with_reducible refine x_iaddN (pc := 50) dX10_takesTest_50 ?_) | refine x_iadd (pc := 50) dX10_takesTest_50 ?_
          refine x_putI (pc := 51) dX10_takesTest_51 flX10_50 (by first | assumption | rfl) rfl rfl rfl ?_
          refine x_aload_n (pc := 54) dX10_takesTest_54 rfl ?_
          refine x_invV0 (pc := 55) dX10_takesTest_55 mlX10_290 imX10_takesNumber seX10_takesNumber kX10_takesNumber (by first | assumption | rfl) rfl (Nat.le_of_ble_eq_true rfl) (by decide) ?_
          refine sm_takesNumber hT hm2.pn (by omega) (fun M2 ho2 hq2 hv2 => ?_)
          refine x_cv rfl rfl ?_
          rw [show numP (chT n t) (p + 1 + 1) = some (v, q) from hnum] at hq2 hv2 ⊢
          have hv2' : M2.1 65 14 = nI v := hv2 _ rfl
          have hq2' : M2.1 65 13 = nI q := hq2
          have hm3 := hm2.mv ho2 hq2' (show p + 1 + 1 ≤ q by omega)
          first | (guard_target =~ Wp _ _ _ _ _ (Value.int (nI _) :: _) _ _ _ _; with_reducible refine x_if_neN (pc := 58) (tgt := 63) ?_ dX10_takesTest_58 ?_ (fun h58 => ?_) (fun h58 => ?_); (first | omega | exact b2n_32 _ | exact b2n_31 _); decide) | refine x_if_ne (pc := 58) (tgt := 63) dX10_takesTest_58 (by decide) (fun h58 => ?_) (fun h58 => ?_)
          · skip
            refine x_aload_n (pc := 63) dX10_takesTest_63 rfl ?_
            refine x_sipushN (pc := 64) 1000 dX10_takesTest_64 sp_1000 ?_
            refine x_iload_n (pc := 67) dX10_takesTest_67 rfl ?_
            first | (guard_target =~ Wp _ _ _ _ _ (Value.int (nI _) :: Value.int (nI _) :: _) _ _ _ _; with_reducible refine x_imulN (pc := 68) dX10_takesTest_68 ?_) | refine x_imul (pc := 68) dX10_takesTest_68 ?_
            refine x_bipushN (pc := 69) 100 dX10_takesTest_69 bp_100 ?_
            refine x_iload_n (pc := 71) dX10_takesTest_71 rfl ?_
            try rw [hs1]
            refine x_bipushN (pc := 72) 60 dX10_takesTest_72 bp_60 ?_
            first | (guard_target =~ Wp _ _ _ _ _ (Value.int (nI _) :: Value.int (nI _) :: _) _ _ _ _; with_reducible refine x_isubN (pc := 74) ?_ dX10_takesTest_74 ?_; omega) | refine x_isub (pc := 74) dX10_takesTest_74 ?_
            rw [show chT n t (p + 1) - 1 - 60 = chT n t (p + 1) - 61 by omega]
            first | (guard_target =~ Wp _ _ _ _ _ (Value.int (nI _) :: Value.int (nI _) :: _) _ _ _ _; with_reducible refine x_imulN (pc := 75) dX10_takesTest_75 ?_) | refine x_imul (pc := 75) dX10_takesTest_75 ?_
            first | (guard_target =~ Wp _ _ _ _ _ (Value.int (nI _) :: Value.int (nI _) :: _) _ _ _ _; with_reducible refine x_iaddN (pc := 76) dX10_takesTest_76 ?_) | refine x_iadd (pc := 76) dX10_takesTest_76 ?_
            refine x_aload_n (pc := 77) dX10_takesTest_77 rfl ?_
            refine x_getI (pc := 78) dX10_takesTest_78 flX10_53 (by first | assumption | rfl) rfl ?_
            rw [hv2']
            first | (guard_target =~ Wp _ _ _ _ _ (Value.int (nI _) :: Value.int (nI _) :: _) _ _ _ _; with_reducible refine x_iaddN (pc := 81) dX10_takesTest_81 ?_) | refine x_iadd (pc := 81) dX10_takesTest_81 ?_
            refine x_invV1 (pc := 82) dX10_takesTest_82 mlX10_282 imX10_emits seX10_emits kX10_emits (by first | assumption | rfl) rfl (Nat.le_of_ble_eq_true rfl) (by decide) ?_
            refine sm_emits (by omega) hm3.2.2.1 ?_
            refine x_cn rfl rfl ?_
            refine x_aload_n (pc := 85) dX10_takesTest_85 rfl ?_
            refine x_invV0 (pc := 86) dX10_takesTest_86 mlX10_293 imX10_whole seX10_whole kX10_whole (by first | assumption | rfl) rfl (Nat.le_of_ble_eq_true rfl) (by decide) ?_
            refine sm_whole hsg (by omega) hU j _ _ _ hj ho4 (hm3.emit (x := 1000 * fldP (chT n t p) + 100 * (chT n t (p + 1) - 61) + v + 3) rfl (by omega) (by omega)) (fun M4 h4 => ?_)
            refine x_cn rfl rfl ?_
            refine x_iconstN (pc := 89) 1 dX10_takesTest_89 ic_1 ?_
            refine x_ret (pc := 90) (v := some _) rfl (by first | rfl | decide | exact xrt_b) dX10_takesTest_90 (by decide) ?_
            exact hK M4 h4
          · skip
            cases h58
        · skip
          cases h39
      · skip
        exact absurd (nI_pos' (by omega)) h10
  · have e : pT (chT n t) p = (none, p + 1) := by unfold pT; rw [if_neg h6, if_neg h2]
    rw [e] at hK
    refine x_aload_n (pc := 0) dX10_takesTest_0 rfl ?_
    refine x_aload_n (pc := 1) dX10_takesTest_1 rfl ?_
    refine x_invV0 (pc := 2) dX10_takesTest_2 mlX10_271 imX10_next seX10_next kX10_next (by first | assumption | rfl) rfl (Nat.le_of_ble_eq_true rfl) (by decide) ?_
    refine sm_next hT h.1 h13 (by omega) ?_
    refine x_cv rfl rfl ?_
    refine x_invV1 (pc := 5) dX10_takesTest_5 mlX10_286 imX10_place seX10_place kX10_place (by first | assumption | rfl) rfl (Nat.le_of_ble_eq_true rfl) (by decide) ?_
    refine sm_place hcp ?_
    refine x_cv rfl rfl ?_
    rw [if_neg h6]
    refine x_istore_n (pc := 8) dX10_takesTest_8 (by decide) xs_1 (x_hp rfl) ?_
    refine x_iload_n (pc := 9) dX10_takesTest_9 rfl ?_
    refine x_if_ge (pc := 10) (tgt := 15) dX10_takesTest_10 (by decide) (fun h10 => ?_) (fun h10 => ?_)
    · skip
      refine x_aload_n (pc := 15) dX10_takesTest_15 rfl ?_
      refine x_dup (pc := 16) dX10_takesTest_16 rfl ?_
      refine x_getI (pc := 17) dX10_takesTest_17 flX10_50 (by first | assumption | rfl) rfl ?_
      rw [h13]
      refine x_iconstN (pc := 20) 1 dX10_takesTest_20 ic_1 ?_
      first | (guard_target =~ Wp _ _ _ _ _ (Value.int (nI _) :: Value.int (nI _) :: _) _ _ _ _; with_reducible refine x_iaddN (pc := 21) dX10_takesTest_21 ?_) | refine x_iadd (pc := 21) dX10_takesTest_21 ?_
      refine x_putI (pc := 22) dX10_takesTest_22 flX10_50 (by first | assumption | rfl) rfl rfl rfl ?_
      refine x_aload_n (pc := 25) dX10_takesTest_25 rfl ?_
      have hm1 := h.at (q := p + 1) (by omega)
      refine x_invV0 (pc := 26) dX10_takesTest_26 mlX10_271 imX10_next seX10_next kX10_next (by first | assumption | rfl) rfl (Nat.le_of_ble_eq_true rfl) (by decide) ?_
      refine sm_next hT hm1.1 hm1.2.1 (by omega) ?_
      refine x_cv rfl rfl ?_
      refine x_istore_n (pc := 29) dX10_takesTest_29 (by decide) xs_2 (x_hp rfl) ?_
      refine x_aload_n (pc := 30) dX10_takesTest_30 rfl ?_
      refine x_iload_n (pc := 31) dX10_takesTest_31 rfl ?_
      refine x_bipushN (pc := 32) 60 dX10_takesTest_32 bp_60 ?_
      refine x_bipushN (pc := 34) 62 dX10_takesTest_34 bp_62 ?_
      refine x_invV3 (pc := 36) dX10_takesTest_36 mlX10_253 imX10_in seX10_in kX10_in (by first | assumption | rfl) rfl (Nat.le_of_ble_eq_true rfl) (by decide) ?_
      refine sm_in ?_
      refine x_cv rfl rfl ?_
      rw [hb _ hcp1, decide_eq_false h2]
      first | (guard_target =~ Wp _ _ _ _ _ (Value.int (nI _) :: _) _ _ _ _; with_reducible refine x_if_neN (pc := 39) (tgt := 44) ?_ dX10_takesTest_39 ?_ (fun h39 => ?_) (fun h39 => ?_); (first | omega | exact b2n_32 _ | exact b2n_31 _); decide) | refine x_if_ne (pc := 39) (tgt := 44) dX10_takesTest_39 (by decide) (fun h39 => ?_) (fun h39 => ?_)
      · skip
        exact absurd rfl h39
      · skip
        refine x_iconstN (pc := 42) 0 dX10_takesTest_42 ic_0 ?_
        refine x_ret (pc := 43) (v := some _) rfl (by first | rfl | decide | exact xrt_b) dX10_takesTest_43 (by decide) ?_
        exact hK _ hm1.pn
    · skip
      exact absurd (nI_pos' (by omega)) h10
/-- the operators that wait, the codes already out -/
def vd (any both : Option XP) (W : List Nat) : List Nat := match any, both with
  | none, none => W
  | none, some _ => 38 :: W
  | some _, none => 124 :: W
  | some _, some _ => 38 :: 124 :: W
def cd (o : Option XP) : List Nat := match o with
  | none => []
  | some e => e.1
theorem stl_W {s : Nat} {W : List Nat} (hW : ∀ u W', W = u :: W' → u = 40) : stl s W = ([], W) := by
  cases W with
  | nil => rfl
  | cons u W' => have := hW u W' rfl; subst this; rfl
theorem stl_and {any both : Option XP} {W : List Nat} {e : XP} (hW : ∀ u W', W = u :: W' → u = 40) : (stl 38 (vd any both W)).2 = vd any none W ∧ cd any ++ cd both ++ e.1 ++ (stl 38 (vd any both W)).1 = cd any ++ (cA both e).1 := by
  have h := stl_W (s := 38) hW
  cases any <;> cases both <;> simp [vd, cd, cA, stl, h]
theorem stl_or {any both : Option XP} {W : List Nat} {e : XP} (hW : ∀ u W', W = u :: W' → u = 40) : (stl 124 (vd any both W)).2 = W ∧ cd any ++ cd both ++ e.1 ++ (stl 124 (vd any both W)).1 = (cO any (cA both e)).1 := by
  have h := stl_W (s := 124) hW
  cases any <;> cases both <;> simp [vd, cd, cA, cO, stl, h]
theorem vd_lt {any both : Option XP} {W : List Nat} (hW : ∀ w, w ∈ W → w < 200) : ∀ v, v ∈ vd any both W → v < 200 := by
  intro v hv
  cases any <;> cases both <;> simp [vd] at hv
  · exact hW v hv
  · rcases hv with rfl | hv; decide; exact hW v hv
  · rcases hv with rfl | hv; decide; exact hW v hv
  · rcases hv with rfl | rfl | hv; decide; decide; exact hW v hv
theorem vd_hd {any both : Option XP} {W : List Nat} (hW : ∀ u W', W = u :: W' → u = 40) : ∀ u U', vd any both W = u :: U' → u ≠ 33 ∧ u < 200 := by
  intro u U' h
  cases any <;> cases both <;> simp [vd] at h
  · rw [hW u U' h]; decide
  · rw [← h.1]; decide
  · rw [← h.1]; decide
  · rw [← h.1]; decide
/-- where the reader stands -/
def AtE (g : XG) (d ci : Nat) (K : Option Value → XS → XM → Prop) (w : Nat) (M : XM) : Prop := ∀ o3, Wp g (d + 4) mX10_takesE 22 [some (.ref 65), some (.int (nI ci)), some (.int (nI w)), o3] [] xSF (0, 0) M K
def facW (g : XG) (d : Nat) (K : Option Value → XS → XM → Prop) (M0 : XM) (n sg ci : Nat) (t : Nat → Nat) (f : Nat) : Prop := ∀ p C U j o M, p ≤ n → o + f = 4 → j ≤ o → (∀ u U', U = u :: U' → u ≠ 33 ∧ u < 200) → (∀ u, u ∈ U → u < 200) → PS M0 M sg ci p C (List.replicate j 33 ++ U) o →
  (∀ q M', pF (chT n t) f p = (none, q) → PN M0 M' sg ci q → K (some (.int (nI 0))) xSF M') →
  (∀ e q M', pF (chT n t) f p = (some e, q) → PS M0 M' sg ci q (C ++ e.1 ++ List.replicate j 0) U (o - j) → AtE g d ci K 0 M') → AtE g d ci K 1 M
theorem expW {f : Nat} (hT : CT M0 n t) (hsg : sg + 100 ≤ 600) (hci : ci < 60) (hF : facW g d K M0 n sg ci t f) : ∀ k any both p C0 W o M, p ≤ n → n + 1 ≤ k + p → o + f = 4 → (∀ u W', W = u :: W' → u = 40) → (∀ u, u ∈ W → u < 200) → PS M0 M sg ci p (C0 ++ (cd any ++ cd both)) (vd any both W) o →
    (∀ q M', lE (chT n t) (pF (chT n t) f) k any both p = (none, q) → PN M0 M' sg ci q → K (some (.int (nI 0))) xSF M') →
    (∀ e q M', lE (chT n t) (pF (chT n t) f) k any both p = (some e, q) → q ≤ n → PS M0 M' sg ci q (C0 ++ e.1) W o → M'.1 77 ci = nI (sg + (C0 ++ e.1).length) → Wp g (d + 4) mX10_takesE 178 [some (.ref 65), some (.int (nI ci)), some (.int (nI 0)), some (.int (srt (chT n t q)))] [] xSF (0, 0) M' K) → AtE g d ci K 1 M := by
  have hn100 := hT.2.1
  have hTX := hT.tx
  intro k
  induction k with
  | zero => intro any both p C0 W o M hp hk; omega
  | succ k ih =>
    intro any both p C0 W o M hp hk hof hW hW2 h hn hs
    refine hF p (C0 ++ (cd any ++ cd both)) (vd any both W) 0 o M hp hof (by omega) (vd_hd hW) (vd_lt hW2) h (fun q M' hr hN => hn q M' (by rw [lE, hr]) hN) (fun e q M1 hr h1 => ?_)
    have hok := pF_ok hTX f p hp
    rw [hr] at hok
    obtain ⟨k1, k2, k3⟩ := hok
    have k4 := (k3 e rfl).1
    simp only at k1 k2 k4
    rw [List.replicate_zero, List.append_nil, Nat.sub_zero] at h1
    intro o3
    have hcq := (hTX.2 q).2
    have hlen := h1.2.2.2.2.2.2.2
    by_cases c39 : chT n t q = 39
    · have hqn : q < n := hTX.lt c39 (by decide)
      obtain ⟨s1, s2⟩ := stl_and (any := any) (both := both) (e := e) hW
      have hle : lE (chT n t) (pF (chT n t) f) (k + 1) any both p = lE (chT n t) (pF (chT n t) f) k any (some (cA both e)) (q + 1) := by
        rw [lE, hr]; simp only; rw [if_neg (by omega), if_pos c39]
      rw [hle] at hn hs
      refine x_aload_n (pc := 22) dX10_takesE_22 rfl ?_
      refine x_invV0 (pc := 23) dX10_takesE_23 mlX10_271 imX10_next seX10_next kX10_next (by first | assumption | rfl) rfl (Nat.le_of_ble_eq_true rfl) (by decide) ?_
      refine sm_next hT h1.1 h1.2.1 (by omega) ?_
      refine x_cv rfl rfl ?_
      rw [c39, show srt 39 = nI 38 from rfl]
      refine x_istore_n (pc := 26) dX10_takesE_26 (by decide) xs_3 (x_hp rfl) ?_
      refine x_iload_n (pc := 27) dX10_takesE_27 rfl ?_
      first | (guard_target =~ Wp _ _ _ _ _ (Value.int (nI _) :: _) _ _ _ _; with_reducible refine x_if_eqN (pc := 28) (tgt := 110) ?_ dX10_takesE_28 ?_ (fun h28 => ?_) (fun h28 => ?_); (first | omega | exact b2n_32 _ | exact b2n_31 _); decide) | refine x_if_eq (pc := 28) (tgt := 110) dX10_takesE_28 (by decide) (fun h28 => ?_) (fun h28 => ?_)
      · skip
        refine x_iload_n (pc := 110) dX10_takesE_110 rfl ?_
        refine x_bipushN (pc := 111) 38 dX10_takesE_111 bp_38 ?_
        first | (guard_target =~ Wp _ _ _ _ _ (Value.int (nI _) :: Value.int (nI _) :: _) _ _ _ _; with_reducible refine x_icmp_eqN (pc := 113) (tgt := 122) ?_ ?_ dX10_takesE_113 ?_ (fun h113 => ?_) (fun h113 => ?_); (first | omega | exact b2n_31 _); (first | omega | exact b2n_31 _); decide) | refine x_icmp_eq (pc := 113) (tgt := 122) dX10_takesE_113 (by decide) (fun h113 => ?_) (fun h113 => ?_)
        · skip
          refine x_aload_n (pc := 122) dX10_takesE_122 rfl ?_
          refine x_iload_n (pc := 123) dX10_takesE_123 rfl ?_
          refine x_invV1 (pc := 124) dX10_takesE_124 mlX10_299 imX10_settle seX10_settle kX10_settle (by first | assumption | rfl) rfl (Nat.le_of_ble_eq_true rfl) (by decide) ?_
          refine sm_settle hsg (by omega) (by decide) _ _ _ (vd_lt hW2) h1 (fun M2 h2 => ?_)
          rw [s1, List.append_assoc, List.append_assoc, ← List.append_assoc (cd any ++ cd both), s2] at h2
          refine x_cn rfl rfl ?_
          refine x_aload_n (pc := 127) dX10_takesE_127 rfl ?_
          refine x_getR (pc := 128) dX10_takesE_128 flX10_77 (by first | assumption | rfl) rfl ?_
          refine x_aload_n (pc := 131) dX10_takesE_131 rfl ?_
          refine x_getI (pc := 132) dX10_takesE_132 flX10_83 (by first | assumption | rfl) rfl ?_
          rw [h2.2.2.2.1]
          refine x_iload_n (pc := 135) dX10_takesE_135 rfl ?_
          refine x_iastN (pc := 136) dX10_takesE_136 (by first | assumption | rfl) (by first | with_reducible rfl | (simp only [xlit, nI_add, pk_mul]; with_reducible rfl)) (by have := h2.2.2.2.2.2.2.2; omega) (by decide) ?_
          refine x_aload_n (pc := 137) dX10_takesE_137 rfl ?_
          refine x_dup (pc := 138) dX10_takesE_138 rfl ?_
          refine x_getI (pc := 139) dX10_takesE_139 flX10_83 (by first | assumption | rfl) rfl ?_
          rw [show (xput M2 79 (vd any none W).length (nI 38)).1 65 24 = nI (vd any none W).length from h2.2.2.2.1]
          refine x_iconstN (pc := 142) 1 dX10_takesE_142 ic_1 ?_
          first | (guard_target =~ Wp _ _ _ _ _ (Value.int (nI _) :: Value.int (nI _) :: _) _ _ _ _; with_reducible refine x_iaddN (pc := 143) dX10_takesE_143 ?_) | refine x_iadd (pc := 143) dX10_takesE_143 ?_
          refine x_putI (pc := 144) dX10_takesE_144 flX10_83 (by first | assumption | rfl) rfl rfl rfl ?_
          refine x_iconstN (pc := 147) 1 dX10_takesE_147 ic_1 ?_
          refine x_istore_n (pc := 148) dX10_takesE_148 (by decide) xs_2 (x_hp rfl) ?_
          refine x_aload_n (pc := 149) dX10_takesE_149 rfl ?_
          refine x_dup (pc := 150) dX10_takesE_150 rfl ?_
          refine x_getI (pc := 151) dX10_takesE_151 flX10_50 (by first | assumption | rfl) rfl ?_
          rw [show (xput (xput M2 79 (vd any none W).length (nI 38)) 65 24 (nI ((vd any none W).length + 1))).1 65 13 = nI q from h2.2.1]
          refine x_iconstN (pc := 154) 1 dX10_takesE_154 ic_1 ?_
          first | (guard_target =~ Wp _ _ _ _ _ (Value.int (nI _) :: Value.int (nI _) :: _) _ _ _ _; with_reducible refine x_iaddN (pc := 155) dX10_takesE_155 ?_) | refine x_iadd (pc := 155) dX10_takesE_155 ?_
          refine x_putI (pc := 156) dX10_takesE_156 flX10_50 (by first | assumption | rfl) rfl rfl rfl ?_
          refine x_goto (pc := 159) (tgt := 22) dX10_takesE_159 (by decide) ?_
          refine ih any (some (cA both e)) (q + 1) C0 W o _ (by omega) (by omega) hof hW hW2 ?_ hn hs _
          have hp2 := h2.push (v := 38)
          have hv : vd any (some (cA both e)) W = 38 :: vd any none W := by cases any <;> rfl
          rw [hv]; exact hp2
        · skip
          omega
      · skip
        omega
    obtain ⟨s1, s2⟩ := stl_or (any := any) (both := both) (e := e) hW
    by_cases c125 : chT n t q = 125
    · have hqn : q < n := hTX.lt c125 (by decide)
      have hle : lE (chT n t) (pF (chT n t) f) (k + 1) any both p = lE (chT n t) (pF (chT n t) f) k (some (cO any (cA both e))) none (q + 1) := by
        rw [lE, hr]; simp only; rw [if_pos c125]
      rw [hle] at hn hs
      refine x_aload_n (pc := 22) dX10_takesE_22 rfl ?_
      refine x_invV0 (pc := 23) dX10_takesE_23 mlX10_271 imX10_next seX10_next kX10_next (by first | assumption | rfl) rfl (Nat.le_of_ble_eq_true rfl) (by decide) ?_
      refine sm_next hT h1.1 h1.2.1 (by omega) ?_
      refine x_cv rfl rfl ?_
      rw [c125, show srt 125 = nI 124 from rfl]
      refine x_istore_n (pc := 26) dX10_takesE_26 (by decide) xs_3 (x_hp rfl) ?_
      refine x_iload_n (pc := 27) dX10_takesE_27 rfl ?_
      first | (guard_target =~ Wp _ _ _ _ _ (Value.int (nI _) :: _) _ _ _ _; with_reducible refine x_if_eqN (pc := 28) (tgt := 110) ?_ dX10_takesE_28 ?_ (fun h28 => ?_) (fun h28 => ?_); (first | omega | exact b2n_32 _ | exact b2n_31 _); decide) | refine x_if_eq (pc := 28) (tgt := 110) dX10_takesE_28 (by decide) (fun h28 => ?_) (fun h28 => ?_)
      · skip
        refine x_iload_n (pc := 110) dX10_takesE_110 rfl ?_
        refine x_bipushN (pc := 111) 38 dX10_takesE_111 bp_38 ?_
        first | (guard_target =~ Wp _ _ _ _ _ (Value.int (nI _) :: Value.int (nI _) :: _) _ _ _ _; with_reducible refine x_icmp_eqN (pc := 113) (tgt := 122) ?_ ?_ dX10_takesE_113 ?_ (fun h113 => ?_) (fun h113 => ?_); (first | omega | exact b2n_31 _); (first | omega | exact b2n_31 _); decide) | refine x_icmp_eq (pc := 113) (tgt := 122) dX10_takesE_113 (by decide) (fun h113 => ?_) (fun h113 => ?_)
        · skip
          omega
        · skip
          refine x_iload_n (pc := 116) dX10_takesE_116 rfl ?_
          refine x_bipushN (pc := 117) 124 dX10_takesE_117 bp_124 ?_
          first | (guard_target =~ Wp _ _ _ _ _ (Value.int (nI _) :: Value.int (nI _) :: _) _ _ _ _; with_reducible refine x_icmp_neN (pc := 119) (tgt := 162) ?_ ?_ dX10_takesE_119 ?_ (fun h119 => ?_) (fun h119 => ?_); (first | omega | exact b2n_31 _); (first | omega | exact b2n_31 _); decide) | refine x_icmp_ne (pc := 119) (tgt := 162) dX10_takesE_119 (by decide) (fun h119 => ?_) (fun h119 => ?_)
          · skip
            omega
          · skip
            refine x_aload_n (pc := 122) dX10_takesE_122 rfl ?_
            refine x_iload_n (pc := 123) dX10_takesE_123 rfl ?_
            refine x_invV1 (pc := 124) dX10_takesE_124 mlX10_299 imX10_settle seX10_settle kX10_settle (by first | assumption | rfl) rfl (Nat.le_of_ble_eq_true rfl) (by decide) ?_
            refine sm_settle hsg (by omega) (by decide) _ _ _ (vd_lt hW2) h1 (fun M2 h2 => ?_)
            rw [s1, List.append_assoc, List.append_assoc, ← List.append_assoc (cd any ++ cd both), s2] at h2
            refine x_cn rfl rfl ?_
            refine x_aload_n (pc := 127) dX10_takesE_127 rfl ?_
            refine x_getR (pc := 128) dX10_takesE_128 flX10_77 (by first | assumption | rfl) rfl ?_
            refine x_aload_n (pc := 131) dX10_takesE_131 rfl ?_
            refine x_getI (pc := 132) dX10_takesE_132 flX10_83 (by first | assumption | rfl) rfl ?_
            rw [h2.2.2.2.1]
            refine x_iload_n (pc := 135) dX10_takesE_135 rfl ?_
            refine x_iastN (pc := 136) dX10_takesE_136 (by first | assumption | rfl) (by first | with_reducible rfl | (simp only [xlit, nI_add, pk_mul]; with_reducible rfl)) (by have := h2.2.2.2.2.2.2.2; omega) (by decide) ?_
            refine x_aload_n (pc := 137) dX10_takesE_137 rfl ?_
            refine x_dup (pc := 138) dX10_takesE_138 rfl ?_
            refine x_getI (pc := 139) dX10_takesE_139 flX10_83 (by first | assumption | rfl) rfl ?_
            rw [show (xput M2 79 W.length (nI 124)).1 65 24 = nI W.length from h2.2.2.2.1]
            refine x_iconstN (pc := 142) 1 dX10_takesE_142 ic_1 ?_
            first | (guard_target =~ Wp _ _ _ _ _ (Value.int (nI _) :: Value.int (nI _) :: _) _ _ _ _; with_reducible refine x_iaddN (pc := 143) dX10_takesE_143 ?_) | refine x_iadd (pc := 143) dX10_takesE_143 ?_
            refine x_putI (pc := 144) dX10_takesE_144 flX10_83 (by first | assumption | rfl) rfl rfl rfl ?_
            refine x_iconstN (pc := 147) 1 dX10_takesE_147 ic_1 ?_
            refine x_istore_n (pc := 148) dX10_takesE_148 (by decide) xs_2 (x_hp rfl) ?_
            refine x_aload_n (pc := 149) dX10_takesE_149 rfl ?_
            refine x_dup (pc := 150) dX10_takesE_150 rfl ?_
            refine x_getI (pc := 151) dX10_takesE_151 flX10_50 (by first | assumption | rfl) rfl ?_
            rw [show (xput (xput M2 79 W.length (nI 124)) 65 24 (nI (W.length + 1))).1 65 13 = nI q from h2.2.1]
            refine x_iconstN (pc := 154) 1 dX10_takesE_154 ic_1 ?_
            first | (guard_target =~ Wp _ _ _ _ _ (Value.int (nI _) :: Value.int (nI _) :: _) _ _ _ _; with_reducible refine x_iaddN (pc := 155) dX10_takesE_155 ?_) | refine x_iadd (pc := 155) dX10_takesE_155 ?_
            refine x_putI (pc := 156) dX10_takesE_156 flX10_50 (by first | assumption | rfl) rfl rfl rfl ?_
            refine x_goto (pc := 159) (tgt := 22) dX10_takesE_159 (by decide) ?_
            refine ih (some (cO any (cA both e))) none (q + 1) C0 W o _ (by omega) (by omega) hof hW hW2 ?_ hn hs _
            have hp2 := h2.push (v := 124)
            rw [show cd (some (cO any (cA both e))) ++ cd none = (cO any (cA both e)).1 from List.append_nil _]
            exact hp2
      · skip
        omega
    · have hle : lE (chT n t) (pF (chT n t) f) (k + 1) any both p = (some (cO any (cA both e)), q) := by
        rw [lE, hr]; simp only; rw [if_neg c125, if_neg c39]
      have hne : ∀ k, k < 128 → chT n t q ≠ k + 1 → ¬ srt (chT n t q) = nI k := fun k hk q' z => q' ((srt_eq _ hcq k hk).mp z)
      have n38 := hne 38 (by decide) c39
      have n124 := hne 124 (by decide) c125
      refine x_aload_n (pc := 22) dX10_takesE_22 rfl ?_
      refine x_invV0 (pc := 23) dX10_takesE_23 mlX10_271 imX10_next seX10_next kX10_next (by first | assumption | rfl) rfl (Nat.le_of_ble_eq_true rfl) (by decide) ?_
      refine sm_next hT h1.1 h1.2.1 (by omega) ?_
      refine x_cv rfl rfl ?_
      refine x_istore_n (pc := 26) dX10_takesE_26 (by decide) xs_3 (x_hp rfl) ?_
      refine x_iload_n (pc := 27) dX10_takesE_27 rfl ?_
      first | (guard_target =~ Wp _ _ _ _ _ (Value.int (nI _) :: _) _ _ _ _; with_reducible refine x_if_eqN (pc := 28) (tgt := 110) ?_ dX10_takesE_28 ?_ (fun h28 => ?_) (fun h28 => ?_); (first | omega | exact b2n_32 _ | exact b2n_31 _); decide) | refine x_if_eq (pc := 28) (tgt := 110) dX10_takesE_28 (by decide) (fun h28 => ?_) (fun h28 => ?_)
      · skip
        refine x_iload_n (pc := 110) dX10_takesE_110 rfl ?_
        refine x_bipushN (pc := 111) 38 dX10_takesE_111 bp_38 ?_
        refine x_icmp_eq (pc := 113) (tgt := 122) dX10_takesE_113 (by decide) (fun h113 => ?_) (fun h113 => ?_)
        · skip
          exact absurd h113 n38
        · skip
          refine x_iload_n (pc := 116) dX10_takesE_116 rfl ?_
          refine x_bipushN (pc := 117) 124 dX10_takesE_117 bp_124 ?_
          refine x_icmp_ne (pc := 119) (tgt := 162) dX10_takesE_119 (by decide) (fun h119 => ?_) (fun h119 => ?_)
          · skip
            refine x_aload_n (pc := 162) dX10_takesE_162 rfl ?_
            refine x_bipushN (pc := 163) 124 dX10_takesE_163 bp_124 ?_
            refine x_invV1 (pc := 165) dX10_takesE_165 mlX10_299 imX10_settle seX10_settle kX10_settle (by first | assumption | rfl) rfl (Nat.le_of_ble_eq_true rfl) (by decide) ?_
            refine sm_settle hsg (by omega) (by decide) _ _ _ (vd_lt hW2) h1 (fun M2 h2 => ?_)
            rw [s1, List.append_assoc, List.append_assoc, ← List.append_assoc (cd any ++ cd both), s2] at h2
            refine x_cn rfl rfl ?_
            refine x_aload_n (pc := 168) dX10_takesE_168 rfl ?_
            refine x_getR (pc := 169) dX10_takesE_169 flX10_71 (by first | assumption | rfl) rfl ?_
            refine x_iload_n (pc := 172) dX10_takesE_172 rfl ?_
            refine x_aload_n (pc := 173) dX10_takesE_173 rfl ?_
            refine x_getI (pc := 174) dX10_takesE_174 flX10_80 (by first | assumption | rfl) rfl ?_
            rw [h2.2.2.1]
            refine x_iastN (pc := 177) dX10_takesE_177 (by first | assumption | rfl) (by first | with_reducible rfl | (simp only [xlit, nI_add, pk_mul]; with_reducible rfl)) (by omega) (by decide) ?_
            refine hs (cO any (cA both e)) q _ hle (by omega) ?_ ?_
            · obtain ⟨g1, g2, g3, g4, g5, g6, g7, g8⟩ := h2
              exact ⟨g1.tr (only.put (by simp [pK])), g2, g3, g4, g5, g6, stkW_eq g7 (fun _ _ => rfl), g8⟩
            · simp [xput]
          · skip
            exact absurd h119 n124
      · skip
        omega
theorem facW_all (hT : CT M0 n t) (hsg : sg + 100 ≤ 600) (hci : ci < 60) : ∀ f, facW g d K M0 n sg ci t f := by
  have hn100 := hT.2.1
  have hTX := hT.tx
  -- a test, whatever the depth
  have tst : ∀ p C U j o M, p ≤ n → o ≤ 4 → j ≤ o → (∀ u U', U = u :: U' → u ≠ 33 ∧ u < 200) → PS M0 M sg ci p C (List.replicate j 33 ++ U) o → chT n t p ≠ 34 → chT n t p ≠ 41 →
      (∀ q M', pT (chT n t) p = (none, q) → PN M0 M' sg ci q → K (some (.int (nI 0))) xSF M') →
      (∀ e q M', pT (chT n t) p = (some e, q) → PS M0 M' sg ci q (C ++ e.1 ++ List.replicate j 0) U (o - j) → AtE g d ci K 0 M') → AtE g d ci K 1 M := by
    intro p C U j o M hp ho4 hj hU h c34 c41 hn hs o3
    have hcp := (hTX.2 p).2
    have hne : ∀ k, k < 128 → chT n t p ≠ k + 1 → ¬ srt (chT n t p) = nI k := fun k hk q' z => q' ((srt_eq _ hcp k hk).mp z)
    have n33 := hne 33 (by decide) c34
    have n40 := hne 40 (by decide) c41
    rcases hr : pT (chT n t) p with ⟨_ | e, q⟩
    · skip
      refine x_aload_n (pc := 22) dX10_takesE_22 rfl ?_
      refine x_invV0 (pc := 23) dX10_takesE_23 mlX10_271 imX10_next seX10_next kX10_next (by first | assumption | rfl) rfl (Nat.le_of_ble_eq_true rfl) (by decide) ?_
      refine sm_next hT h.1 h.2.1 (by omega) ?_
      refine x_cv rfl rfl ?_
      refine x_istore_n (pc := 26) dX10_takesE_26 (by decide) xs_3 (x_hp rfl) ?_
      refine x_iload_n (pc := 27) dX10_takesE_27 rfl ?_
      first | (guard_target =~ Wp _ _ _ _ _ (Value.int (nI _) :: _) _ _ _ _; with_reducible refine x_if_eqN (pc := 28) (tgt := 110) ?_ dX10_takesE_28 ?_ (fun h28 => ?_) (fun h28 => ?_); (first | omega | exact b2n_32 _ | exact b2n_31 _); decide) | refine x_if_eq (pc := 28) (tgt := 110) dX10_takesE_28 (by decide) (fun h28 => ?_) (fun h28 => ?_)
      · skip
        omega
      · skip
        refine x_iload_n (pc := 31) dX10_takesE_31 rfl ?_
        refine x_bipushN (pc := 32) 33 dX10_takesE_32 bp_33 ?_
        refine x_icmp_eq (pc := 34) (tgt := 43) dX10_takesE_34 (by decide) (fun h34 => ?_) (fun h34 => ?_)
        · skip
          exact absurd h34 n33
        · skip
          refine x_iload_n (pc := 37) dX10_takesE_37 rfl ?_
          refine x_bipushN (pc := 38) 40 dX10_takesE_38 bp_40 ?_
          refine x_icmp_ne (pc := 40) (tgt := 96) dX10_takesE_40 (by decide) (fun h40 => ?_) (fun h40 => ?_)
          · skip
            refine x_aload_n (pc := 96) dX10_takesE_96 rfl ?_
            refine x_invV0 (pc := 97) dX10_takesE_97 mlX10_296 imX10_takesTest seX10_takesTest kX10_takesTest (by first | assumption | rfl) rfl (Nat.le_of_ble_eq_true rfl) (by decide) ?_
            refine sm_takesTest hT hsg hp hj ho4 hU h (fun M2 h2 => ?_)
            refine x_cv rfl rfl ?_
            rw [hr] at h2 ⊢
            first | (guard_target =~ Wp _ _ _ _ _ (Value.int (nI _) :: _) _ _ _ _; with_reducible refine x_if_eqN (pc := 100) (tgt := 108) ?_ dX10_takesE_100 ?_ (fun h100 => ?_) (fun h100 => ?_); (first | omega | exact b2n_32 _ | exact b2n_31 _); decide) | refine x_if_eq (pc := 100) (tgt := 108) dX10_takesE_100 (by decide) (fun h100 => ?_) (fun h100 => ?_)
            · skip
              refine x_iconstN (pc := 108) 0 dX10_takesE_108 ic_0 ?_
              refine x_ret (pc := 109) (v := some _) rfl (by first | rfl | decide | exact xrt_b) dX10_takesE_109 (by decide) ?_
              exact hn q M2 hr h2
            · skip
              exact absurd rfl h100
          · skip
            exact absurd h40 n40
    · skip
      refine x_aload_n (pc := 22) dX10_takesE_22 rfl ?_
      refine x_invV0 (pc := 23) dX10_takesE_23 mlX10_271 imX10_next seX10_next kX10_next (by first | assumption | rfl) rfl (Nat.le_of_ble_eq_true rfl) (by decide) ?_
      refine sm_next hT h.1 h.2.1 (by omega) ?_
      refine x_cv rfl rfl ?_
      refine x_istore_n (pc := 26) dX10_takesE_26 (by decide) xs_3 (x_hp rfl) ?_
      refine x_iload_n (pc := 27) dX10_takesE_27 rfl ?_
      first | (guard_target =~ Wp _ _ _ _ _ (Value.int (nI _) :: _) _ _ _ _; with_reducible refine x_if_eqN (pc := 28) (tgt := 110) ?_ dX10_takesE_28 ?_ (fun h28 => ?_) (fun h28 => ?_); (first | omega | exact b2n_32 _ | exact b2n_31 _); decide) | refine x_if_eq (pc := 28) (tgt := 110) dX10_takesE_28 (by decide) (fun h28 => ?_) (fun h28 => ?_)
      · skip
        omega
      · skip
        refine x_iload_n (pc := 31) dX10_takesE_31 rfl ?_
        refine x_bipushN (pc := 32) 33 dX10_takesE_32 bp_33 ?_
        refine x_icmp_eq (pc := 34) (tgt := 43) dX10_takesE_34 (by decide) (fun h34 => ?_) (fun h34 => ?_)
        · skip
          exact absurd h34 n33
        · skip
          refine x_iload_n (pc := 37) dX10_takesE_37 rfl ?_
          refine x_bipushN (pc := 38) 40 dX10_takesE_38 bp_40 ?_
          refine x_icmp_ne (pc := 40) (tgt := 96) dX10_takesE_40 (by decide) (fun h40 => ?_) (fun h40 => ?_)
          · skip
            refine x_aload_n (pc := 96) dX10_takesE_96 rfl ?_
            refine x_invV0 (pc := 97) dX10_takesE_97 mlX10_296 imX10_takesTest seX10_takesTest kX10_takesTest (by first | assumption | rfl) rfl (Nat.le_of_ble_eq_true rfl) (by decide) ?_
            refine sm_takesTest hT hsg hp hj ho4 hU h (fun M2 h2 => ?_)
            refine x_cv rfl rfl ?_
            rw [hr] at h2 ⊢
            first | (guard_target =~ Wp _ _ _ _ _ (Value.int (nI _) :: _) _ _ _ _; with_reducible refine x_if_eqN (pc := 100) (tgt := 108) ?_ dX10_takesE_100 ?_ (fun h100 => ?_) (fun h100 => ?_); (first | omega | exact b2n_32 _ | exact b2n_31 _); decide) | refine x_if_eq (pc := 100) (tgt := 108) dX10_takesE_100 (by decide) (fun h100 => ?_) (fun h100 => ?_)
            · skip
              cases h100
            · skip
              refine x_iconstN (pc := 103) 0 dX10_takesE_103 ic_0 ?_
              refine x_istore_n (pc := 104) dX10_takesE_104 (by decide) xs_2 (x_hp rfl) ?_
              refine x_goto (pc := 105) (tgt := 22) dX10_takesE_105 (by decide) ?_
              exact hs e q M2 hr h2 _
          · skip
            exact absurd h40 n40
  intro f
  induction f with
  | zero =>
    intro p C U j o M hp hof hj hU hU2 h hn hs
    by_cases c34 : chT n t p = 34
    · intro o3
      have hr : pF (chT n t) 0 p = (none, p) := by rw [pF]; unfold pT; rw [if_pos (by rw [c34]; rfl)]
      refine x_aload_n (pc := 22) dX10_takesE_22 rfl ?_
      refine x_invV0 (pc := 23) dX10_takesE_23 mlX10_271 imX10_next seX10_next kX10_next (by first | assumption | rfl) rfl (Nat.le_of_ble_eq_true rfl) (by decide) ?_
      refine sm_next hT h.1 h.2.1 (by omega) ?_
      refine x_cv rfl rfl ?_
      rw [c34, show srt 34 = nI 33 from rfl]
      refine x_istore_n (pc := 26) dX10_takesE_26 (by decide) xs_3 (x_hp rfl) ?_
      refine x_iload_n (pc := 27) dX10_takesE_27 rfl ?_
      first | (guard_target =~ Wp _ _ _ _ _ (Value.int (nI _) :: _) _ _ _ _; with_reducible refine x_if_eqN (pc := 28) (tgt := 110) ?_ dX10_takesE_28 ?_ (fun h28 => ?_) (fun h28 => ?_); (first | omega | exact b2n_32 _ | exact b2n_31 _); decide) | refine x_if_eq (pc := 28) (tgt := 110) dX10_takesE_28 (by decide) (fun h28 => ?_) (fun h28 => ?_)
      · skip
        omega
      · skip
        refine x_iload_n (pc := 31) dX10_takesE_31 rfl ?_
        refine x_bipushN (pc := 32) 33 dX10_takesE_32 bp_33 ?_
        first | (guard_target =~ Wp _ _ _ _ _ (Value.int (nI _) :: Value.int (nI _) :: _) _ _ _ _; with_reducible refine x_icmp_eqN (pc := 34) (tgt := 43) ?_ ?_ dX10_takesE_34 ?_ (fun h34 => ?_) (fun h34 => ?_); (first | omega | exact b2n_31 _); (first | omega | exact b2n_31 _); decide) | refine x_icmp_eq (pc := 34) (tgt := 43) dX10_takesE_34 (by decide) (fun h34 => ?_) (fun h34 => ?_)
        · skip
          refine x_aload_n (pc := 43) dX10_takesE_43 rfl ?_
          refine x_getI (pc := 44) dX10_takesE_44 flX10_86 (by first | assumption | rfl) rfl ?_
          rw [h.2.2.2.2.1]
          refine x_iconstN (pc := 47) 4 dX10_takesE_47 ic_4 ?_
          first | (guard_target =~ Wp _ _ _ _ _ (Value.int (nI _) :: Value.int (nI _) :: _) _ _ _ _; with_reducible refine x_icmp_neN (pc := 48) (tgt := 53) ?_ ?_ dX10_takesE_48 ?_ (fun h48 => ?_) (fun h48 => ?_); (first | omega | exact b2n_31 _); (first | omega | exact b2n_31 _); decide) | refine x_icmp_ne (pc := 48) (tgt := 53) dX10_takesE_48 (by decide) (fun h48 => ?_) (fun h48 => ?_)
          · skip
            omega
          · skip
            refine x_iconstN (pc := 51) 0 dX10_takesE_51 ic_0 ?_
            refine x_ret (pc := 52) (v := some _) rfl (by first | rfl | decide | exact xrt_b) dX10_takesE_52 (by decide) ?_
            exact hn p M hr h.pn
        · skip
          exact absurd rfl h34
    by_cases c41 : chT n t p = 41
    · intro o3
      have hr : pF (chT n t) 0 p = (none, p) := by rw [pF]; unfold pT; rw [if_pos (by rw [c41]; rfl)]
      refine x_aload_n (pc := 22) dX10_takesE_22 rfl ?_
      refine x_invV0 (pc := 23) dX10_takesE_23 mlX10_271 imX10_next seX10_next kX10_next (by first | assumption | rfl) rfl (Nat.le_of_ble_eq_true rfl) (by decide) ?_
      refine sm_next hT h.1 h.2.1 (by omega) ?_
      refine x_cv rfl rfl ?_
      rw [c41, show srt 41 = nI 40 from rfl]
      refine x_istore_n (pc := 26) dX10_takesE_26 (by decide) xs_3 (x_hp rfl) ?_
      refine x_iload_n (pc := 27) dX10_takesE_27 rfl ?_
      first | (guard_target =~ Wp _ _ _ _ _ (Value.int (nI _) :: _) _ _ _ _; with_reducible refine x_if_eqN (pc := 28) (tgt := 110) ?_ dX10_takesE_28 ?_ (fun h28 => ?_) (fun h28 => ?_); (first | omega | exact b2n_32 _ | exact b2n_31 _); decide) | refine x_if_eq (pc := 28) (tgt := 110) dX10_takesE_28 (by decide) (fun h28 => ?_) (fun h28 => ?_)
      · skip
        omega
      · skip
        refine x_iload_n (pc := 31) dX10_takesE_31 rfl ?_
        refine x_bipushN (pc := 32) 33 dX10_takesE_32 bp_33 ?_
        first | (guard_target =~ Wp _ _ _ _ _ (Value.int (nI _) :: Value.int (nI _) :: _) _ _ _ _; with_reducible refine x_icmp_eqN (pc := 34) (tgt := 43) ?_ ?_ dX10_takesE_34 ?_ (fun h34 => ?_) (fun h34 => ?_); (first | omega | exact b2n_31 _); (first | omega | exact b2n_31 _); decide) | refine x_icmp_eq (pc := 34) (tgt := 43) dX10_takesE_34 (by decide) (fun h34 => ?_) (fun h34 => ?_)
        · skip
          omega
        · skip
          refine x_iload_n (pc := 37) dX10_takesE_37 rfl ?_
          refine x_bipushN (pc := 38) 40 dX10_takesE_38 bp_40 ?_
          first | (guard_target =~ Wp _ _ _ _ _ (Value.int (nI _) :: Value.int (nI _) :: _) _ _ _ _; with_reducible refine x_icmp_neN (pc := 40) (tgt := 96) ?_ ?_ dX10_takesE_40 ?_ (fun h40 => ?_) (fun h40 => ?_); (first | omega | exact b2n_31 _); (first | omega | exact b2n_31 _); decide) | refine x_icmp_ne (pc := 40) (tgt := 96) dX10_takesE_40 (by decide) (fun h40 => ?_) (fun h40 => ?_)
          · skip
            exact absurd rfl h40
          · skip
            refine x_aload_n (pc := 43) dX10_takesE_43 rfl ?_
            refine x_getI (pc := 44) dX10_takesE_44 flX10_86 (by first | assumption | rfl) rfl ?_
            rw [h.2.2.2.2.1]
            refine x_iconstN (pc := 47) 4 dX10_takesE_47 ic_4 ?_
            first | (guard_target =~ Wp _ _ _ _ _ (Value.int (nI _) :: Value.int (nI _) :: _) _ _ _ _; with_reducible refine x_icmp_neN (pc := 48) (tgt := 53) ?_ ?_ dX10_takesE_48 ?_ (fun h48 => ?_) (fun h48 => ?_); (first | omega | exact b2n_31 _); (first | omega | exact b2n_31 _); decide) | refine x_icmp_ne (pc := 48) (tgt := 53) dX10_takesE_48 (by decide) (fun h48 => ?_) (fun h48 => ?_)
            · skip
              omega
            · skip
              refine x_iconstN (pc := 51) 0 dX10_takesE_51 ic_0 ?_
              refine x_ret (pc := 52) (v := some _) rfl (by first | rfl | decide | exact xrt_b) dX10_takesE_52 (by decide) ?_
              exact hn p M hr h.pn
    exact tst p C U j o M hp (by omega) hj hU h c34 c41 hn hs
  | succ f ih =>
    intro p C U j o M hp hof hj hU hU2 h0 hn hs
    obtain ⟨T, hTe⟩ : ∃ T : List Nat, T = List.replicate j 33 ++ U := ⟨_, rfl⟩
    have h : PS M0 M sg ci p C T o := by rw [hTe]; exact h0
    have hlen := h.2.2.2.2.2.2.2
    by_cases c34 : chT n t p = 34
    · intro o3
      have hpn : p < n := hTX.lt c34 (by decide)
      have hr : pF (chT n t) (f + 1) p = ngR (pF (chT n t) f (p + 1)) := by rw [pF, if_pos c34]
      rw [hr] at hn hs
      have ho1 := h.opn (o' := o + 1)
      have h24 : M.1 65 24 = nI T.length := h.2.2.2.1
      refine x_aload_n (pc := 22) dX10_takesE_22 rfl ?_
      refine x_invV0 (pc := 23) dX10_takesE_23 mlX10_271 imX10_next seX10_next kX10_next (by first | assumption | rfl) rfl (Nat.le_of_ble_eq_true rfl) (by decide) ?_
      refine sm_next hT h.1 h.2.1 (by omega) ?_
      refine x_cv rfl rfl ?_
      rw [c34, show srt 34 = nI 33 from rfl]
      refine x_istore_n (pc := 26) dX10_takesE_26 (by decide) xs_3 (x_hp rfl) ?_
      refine x_iload_n (pc := 27) dX10_takesE_27 rfl ?_
      first | (guard_target =~ Wp _ _ _ _ _ (Value.int (nI _) :: _) _ _ _ _; with_reducible refine x_if_eqN (pc := 28) (tgt := 110) ?_ dX10_takesE_28 ?_ (fun h28 => ?_) (fun h28 => ?_); (first | omega | exact b2n_32 _ | exact b2n_31 _); decide) | refine x_if_eq (pc := 28) (tgt := 110) dX10_takesE_28 (by decide) (fun h28 => ?_) (fun h28 => ?_)
      · skip
        omega
      · skip
        refine x_iload_n (pc := 31) dX10_takesE_31 rfl ?_
        refine x_bipushN (pc := 32) 33 dX10_takesE_32 bp_33 ?_
        first | (guard_target =~ Wp _ _ _ _ _ (Value.int (nI _) :: Value.int (nI _) :: _) _ _ _ _; with_reducible refine x_icmp_eqN (pc := 34) (tgt := 43) ?_ ?_ dX10_takesE_34 ?_ (fun h34 => ?_) (fun h34 => ?_); (first | omega | exact b2n_31 _); (first | omega | exact b2n_31 _); decide) | refine x_icmp_eq (pc := 34) (tgt := 43) dX10_takesE_34 (by decide) (fun h34 => ?_) (fun h34 => ?_)
        · skip
          refine x_aload_n (pc := 43) dX10_takesE_43 rfl ?_
          refine x_getI (pc := 44) dX10_takesE_44 flX10_86 (by first | assumption | rfl) rfl ?_
          rw [h.2.2.2.2.1]
          refine x_iconstN (pc := 47) 4 dX10_takesE_47 ic_4 ?_
          first | (guard_target =~ Wp _ _ _ _ _ (Value.int (nI _) :: Value.int (nI _) :: _) _ _ _ _; with_reducible refine x_icmp_neN (pc := 48) (tgt := 53) ?_ ?_ dX10_takesE_48 ?_ (fun h48 => ?_) (fun h48 => ?_); (first | omega | exact b2n_31 _); (first | omega | exact b2n_31 _); decide) | refine x_icmp_ne (pc := 48) (tgt := 53) dX10_takesE_48 (by decide) (fun h48 => ?_) (fun h48 => ?_)
          · skip
            refine x_aload_n (pc := 53) dX10_takesE_53 rfl ?_
            refine x_dup (pc := 54) dX10_takesE_54 rfl ?_
            refine x_getI (pc := 55) dX10_takesE_55 flX10_86 (by first | assumption | rfl) rfl ?_
            rw [h.2.2.2.2.1]
            refine x_iconstN (pc := 58) 1 dX10_takesE_58 ic_1 ?_
            first | (guard_target =~ Wp _ _ _ _ _ (Value.int (nI _) :: Value.int (nI _) :: _) _ _ _ _; with_reducible refine x_iaddN (pc := 59) dX10_takesE_59 ?_) | refine x_iadd (pc := 59) dX10_takesE_59 ?_
            refine x_putI (pc := 60) dX10_takesE_60 flX10_86 (by first | assumption | rfl) rfl rfl rfl ?_
            refine x_aload_n (pc := 63) dX10_takesE_63 rfl ?_
            refine x_getR (pc := 64) dX10_takesE_64 flX10_77 (by first | assumption | rfl) rfl ?_
            refine x_aload_n (pc := 67) dX10_takesE_67 rfl ?_
            refine x_getI (pc := 68) dX10_takesE_68 flX10_83 (by first | assumption | rfl) rfl ?_
            rw [show (xput M 65 25 (nI (o + 1))).1 65 24 = nI T.length from h24]
            refine x_iload_n (pc := 71) dX10_takesE_71 rfl ?_
            refine x_iastN (pc := 72) dX10_takesE_72 (by first | assumption | rfl) (by first | with_reducible rfl | (simp only [xlit, nI_add, pk_mul]; with_reducible rfl)) (by omega) (by decide) ?_
            refine x_aload_n (pc := 73) dX10_takesE_73 rfl ?_
            refine x_dup (pc := 74) dX10_takesE_74 rfl ?_
            refine x_getI (pc := 75) dX10_takesE_75 flX10_83 (by first | assumption | rfl) rfl ?_
            rw [show (xput (xput M 65 25 (nI (o + 1))) 79 T.length (nI 33)).1 65 24 = nI T.length from h24]
            refine x_iconstN (pc := 78) 1 dX10_takesE_78 ic_1 ?_
            first | (guard_target =~ Wp _ _ _ _ _ (Value.int (nI _) :: Value.int (nI _) :: _) _ _ _ _; with_reducible refine x_iaddN (pc := 79) dX10_takesE_79 ?_) | refine x_iadd (pc := 79) dX10_takesE_79 ?_
            refine x_putI (pc := 80) dX10_takesE_80 flX10_83 (by first | assumption | rfl) rfl rfl rfl ?_
            refine x_aload_n (pc := 83) dX10_takesE_83 rfl ?_
            refine x_dup (pc := 84) dX10_takesE_84 rfl ?_
            refine x_getI (pc := 85) dX10_takesE_85 flX10_50 (by first | assumption | rfl) rfl ?_
            rw [show (xput (xput (xput M 65 25 (nI (o + 1))) 79 T.length (nI 33)) 65 24 (nI (T.length + 1))).1 65 13 = nI p from h.2.1]
            refine x_iconstN (pc := 88) 1 dX10_takesE_88 ic_1 ?_
            first | (guard_target =~ Wp _ _ _ _ _ (Value.int (nI _) :: Value.int (nI _) :: _) _ _ _ _; with_reducible refine x_iaddN (pc := 89) dX10_takesE_89 ?_) | refine x_iadd (pc := 89) dX10_takesE_89 ?_
            refine x_putI (pc := 90) dX10_takesE_90 flX10_50 (by first | assumption | rfl) rfl rfl rfl ?_
            refine x_goto (pc := 93) (tgt := 22) dX10_takesE_93 (by decide) ?_
            refine ih (p + 1) C U (j + 1) (o + 1) _ (by omega) (by omega) (by omega) hU hU2 (by rw [List.replicate_succ, List.cons_append, ← hTe]; exact ho1.push (v := 33)) (fun q M' e1 e2 => hn q M' (by rw [e1]; rfl) e2) (fun e q M' e1 e2 => hs (e.1 ++ [0], fun f => !e.2 f) q M' (by rw [e1]; rfl) ?_) _
            rw [show o + 1 - (j + 1) = o - j by omega] at e2
            have ee : C ++ e.1 ++ List.replicate (j + 1) 0 = C ++ (e.1 ++ [0]) ++ List.replicate j 0 := by rw [List.replicate_succ]; simp
            rw [ee] at e2; exact e2
          · skip
            omega
        · skip
          exact absurd rfl h34
    by_cases c41 : chT n t p = 41
    · intro o3
      have hpn : p < n := hTX.lt c41 (by decide)
      have hr : pF (chT n t) (f + 1) p = clR (chT n t) (lE (chT n t) (pF (chT n t) f) 100 none none (p + 1)) := by rw [pF, if_neg c34, if_pos c41]
      rw [hr] at hn hs
      have ho1 := h.opn (o' := o + 1)
      have h24 : M.1 65 24 = nI T.length := h.2.2.2.1
      have fin : ∀ e q M', lE (chT n t) (pF (chT n t) f) 100 none none (p + 1) = (some e, q) → q ≤ n → PS M0 M' sg ci q (C ++ e.1) (40 :: T) (o + 1) → Wp g (d + 4) mX10_takesE 178 [some (.ref 65), some (.int (nI ci)), some (.int (nI 0)), some (.int (srt (chT n t q)))] [] xSF (0, 0) M' K := by
        intro e q M' e1 hqn h2
        have hcq := (hTX.2 q).2
        have h242 : M'.1 65 24 = nI (T.length + 1) := h2.2.2.2.1
        have hl2 := h2.2.2.2.2.2.2.2
        simp only [List.length_cons] at hl2
        by_cases c42 : chT n t q = 42
        · have hq1 : q < n := hTX.lt c42 (by decide)
          have hpp := ((h2.pop).opn (o' := o)).at (q := q + 1) (by omega)
          refine x_aload_n (pc := 178) dX10_takesE_178 rfl ?_
          refine x_getI (pc := 179) dX10_takesE_179 flX10_83 (by first | assumption | rfl) rfl ?_
          rw [h242]
          first | (guard_target =~ Wp _ _ _ _ _ (Value.int (nI _) :: _) _ _ _ _; with_reducible refine x_if_neN (pc := 182) (tgt := 187) ?_ dX10_takesE_182 ?_ (fun h182 => ?_) (fun h182 => ?_); (first | omega | exact b2n_32 _ | exact b2n_31 _); decide) | refine x_if_ne (pc := 182) (tgt := 187) dX10_takesE_182 (by decide) (fun h182 => ?_) (fun h182 => ?_)
          · skip
            rw [c42, show srt 42 = nI 41 from rfl]
            refine x_iload_n (pc := 187) dX10_takesE_187 rfl ?_
            refine x_bipushN (pc := 188) 41 dX10_takesE_188 bp_41 ?_
            first | (guard_target =~ Wp _ _ _ _ _ (Value.int (nI _) :: Value.int (nI _) :: _) _ _ _ _; with_reducible refine x_icmp_eqN (pc := 190) (tgt := 195) ?_ ?_ dX10_takesE_190 ?_ (fun h190 => ?_) (fun h190 => ?_); (first | omega | exact b2n_31 _); (first | omega | exact b2n_31 _); decide) | refine x_icmp_eq (pc := 190) (tgt := 195) dX10_takesE_190 (by decide) (fun h190 => ?_) (fun h190 => ?_)
            · skip
              refine x_aload_n (pc := 195) dX10_takesE_195 rfl ?_
              refine x_dup (pc := 196) dX10_takesE_196 rfl ?_
              refine x_getI (pc := 197) dX10_takesE_197 flX10_83 (by first | assumption | rfl) rfl ?_
              rw [h242]
              refine x_iconstN (pc := 200) 1 dX10_takesE_200 ic_1 ?_
              first | (guard_target =~ Wp _ _ _ _ _ (Value.int (nI _) :: Value.int (nI _) :: _) _ _ _ _; with_reducible refine x_isubN (pc := 201) ?_ dX10_takesE_201 ?_; omega) | refine x_isub (pc := 201) dX10_takesE_201 ?_
              refine x_putI (pc := 202) dX10_takesE_202 flX10_83 (by first | assumption | rfl) rfl rfl rfl ?_
              refine x_aload_n (pc := 205) dX10_takesE_205 rfl ?_
              refine x_dup (pc := 206) dX10_takesE_206 rfl ?_
              refine x_getI (pc := 207) dX10_takesE_207 flX10_86 (by first | assumption | rfl) rfl ?_
              rw [show (xput M' 65 24 (nI (T.length + 1 - 1))).1 65 25 = nI (o + 1) from h2.2.2.2.2.1]
              refine x_iconstN (pc := 210) 1 dX10_takesE_210 ic_1 ?_
              first | (guard_target =~ Wp _ _ _ _ _ (Value.int (nI _) :: Value.int (nI _) :: _) _ _ _ _; with_reducible refine x_isubN (pc := 211) ?_ dX10_takesE_211 ?_; omega) | refine x_isub (pc := 211) dX10_takesE_211 ?_
              refine x_putI (pc := 212) dX10_takesE_212 flX10_86 (by first | assumption | rfl) rfl rfl rfl ?_
              refine x_aload_n (pc := 215) dX10_takesE_215 rfl ?_
              refine x_dup (pc := 216) dX10_takesE_216 rfl ?_
              refine x_getI (pc := 217) dX10_takesE_217 flX10_50 (by first | assumption | rfl) rfl ?_
              rw [show (xput (xput M' 65 24 (nI (T.length + 1 - 1))) 65 25 (nI (o + 1 - 1))).1 65 13 = nI q from h2.2.1]
              refine x_iconstN (pc := 220) 1 dX10_takesE_220 ic_1 ?_
              first | (guard_target =~ Wp _ _ _ _ _ (Value.int (nI _) :: Value.int (nI _) :: _) _ _ _ _; with_reducible refine x_iaddN (pc := 221) dX10_takesE_221 ?_) | refine x_iadd (pc := 221) dX10_takesE_221 ?_
              refine x_putI (pc := 222) dX10_takesE_222 flX10_50 (by first | assumption | rfl) rfl rfl rfl ?_
              refine x_aload_n (pc := 225) dX10_takesE_225 rfl ?_
              refine x_invV0 (pc := 226) dX10_takesE_226 mlX10_293 imX10_whole seX10_whole kX10_whole (by first | assumption | rfl) rfl (Nat.le_of_ble_eq_true rfl) (by decide) ?_
              refine sm_whole (M0 := M0) (sg := sg) (ci := ci) (p := q + 1) hsg (by omega) hU j _ (C ++ e.1) o hj (by omega) (by rw [← hTe]; exact hpp) (fun M4 h4 => ?_)
              refine x_cn rfl rfl ?_
              refine x_goto (pc := 229) (tgt := 22) dX10_takesE_229 (by decide) ?_
              exact hs e (q + 1) M4 (by rw [e1]; show (if chT n t q = 42 then (some e, q + 1) else (none, q)) = _; rw [if_pos c42]) h4 _
            · skip
              exact absurd rfl h190
          · skip
            omega
        · have hne : ¬ srt (chT n t q) = nI 41 := fun z => c42 ((srt_eq _ hcq 41 (by decide)).mp z)
          refine x_aload_n (pc := 178) dX10_takesE_178 rfl ?_
          refine x_getI (pc := 179) dX10_takesE_179 flX10_83 (by first | assumption | rfl) rfl ?_
          rw [h242]
          first | (guard_target =~ Wp _ _ _ _ _ (Value.int (nI _) :: _) _ _ _ _; with_reducible refine x_if_neN (pc := 182) (tgt := 187) ?_ dX10_takesE_182 ?_ (fun h182 => ?_) (fun h182 => ?_); (first | omega | exact b2n_32 _ | exact b2n_31 _); decide) | refine x_if_ne (pc := 182) (tgt := 187) dX10_takesE_182 (by decide) (fun h182 => ?_) (fun h182 => ?_)
          · skip
            refine x_iload_n (pc := 187) dX10_takesE_187 rfl ?_
            refine x_bipushN (pc := 188) 41 dX10_takesE_188 bp_41 ?_
            refine x_icmp_eq (pc := 190) (tgt := 195) dX10_takesE_190 (by decide) (fun h190 => ?_) (fun h190 => ?_)
            · skip
              exact absurd h190 hne
            · skip
              refine x_iconstN (pc := 193) 0 dX10_takesE_193 ic_0 ?_
              refine x_ret (pc := 194) (v := some _) rfl (by first | rfl | decide | exact xrt_b) dX10_takesE_194 (by decide) ?_
              exact hn q M' (by rw [e1]; show (if chT n t q = 42 then (some e, q + 1) else (none, q)) = _; rw [if_neg c42]) h2.pn
          · skip
            omega
      refine x_aload_n (pc := 22) dX10_takesE_22 rfl ?_
      refine x_invV0 (pc := 23) dX10_takesE_23 mlX10_271 imX10_next seX10_next kX10_next (by first | assumption | rfl) rfl (Nat.le_of_ble_eq_true rfl) (by decide) ?_
      refine sm_next hT h.1 h.2.1 (by omega) ?_
      refine x_cv rfl rfl ?_
      rw [c41, show srt 41 = nI 40 from rfl]
      refine x_istore_n (pc := 26) dX10_takesE_26 (by decide) xs_3 (x_hp rfl) ?_
      refine x_iload_n (pc := 27) dX10_takesE_27 rfl ?_
      first | (guard_target =~ Wp _ _ _ _ _ (Value.int (nI _) :: _) _ _ _ _; with_reducible refine x_if_eqN (pc := 28) (tgt := 110) ?_ dX10_takesE_28 ?_ (fun h28 => ?_) (fun h28 => ?_); (first | omega | exact b2n_32 _ | exact b2n_31 _); decide) | refine x_if_eq (pc := 28) (tgt := 110) dX10_takesE_28 (by decide) (fun h28 => ?_) (fun h28 => ?_)
      · skip
        omega
      · skip
        refine x_iload_n (pc := 31) dX10_takesE_31 rfl ?_
        refine x_bipushN (pc := 32) 33 dX10_takesE_32 bp_33 ?_
        first | (guard_target =~ Wp _ _ _ _ _ (Value.int (nI _) :: Value.int (nI _) :: _) _ _ _ _; with_reducible refine x_icmp_eqN (pc := 34) (tgt := 43) ?_ ?_ dX10_takesE_34 ?_ (fun h34 => ?_) (fun h34 => ?_); (first | omega | exact b2n_31 _); (first | omega | exact b2n_31 _); decide) | refine x_icmp_eq (pc := 34) (tgt := 43) dX10_takesE_34 (by decide) (fun h34 => ?_) (fun h34 => ?_)
        · skip
          omega
        · skip
          refine x_iload_n (pc := 37) dX10_takesE_37 rfl ?_
          refine x_bipushN (pc := 38) 40 dX10_takesE_38 bp_40 ?_
          first | (guard_target =~ Wp _ _ _ _ _ (Value.int (nI _) :: Value.int (nI _) :: _) _ _ _ _; with_reducible refine x_icmp_neN (pc := 40) (tgt := 96) ?_ ?_ dX10_takesE_40 ?_ (fun h40 => ?_) (fun h40 => ?_); (first | omega | exact b2n_31 _); (first | omega | exact b2n_31 _); decide) | refine x_icmp_ne (pc := 40) (tgt := 96) dX10_takesE_40 (by decide) (fun h40 => ?_) (fun h40 => ?_)
          · skip
            exact absurd rfl h40
          · skip
            refine x_aload_n (pc := 43) dX10_takesE_43 rfl ?_
            refine x_getI (pc := 44) dX10_takesE_44 flX10_86 (by first | assumption | rfl) rfl ?_
            rw [h.2.2.2.2.1]
            refine x_iconstN (pc := 47) 4 dX10_takesE_47 ic_4 ?_
            first | (guard_target =~ Wp _ _ _ _ _ (Value.int (nI _) :: Value.int (nI _) :: _) _ _ _ _; with_reducible refine x_icmp_neN (pc := 48) (tgt := 53) ?_ ?_ dX10_takesE_48 ?_ (fun h48 => ?_) (fun h48 => ?_); (first | omega | exact b2n_31 _); (first | omega | exact b2n_31 _); decide) | refine x_icmp_ne (pc := 48) (tgt := 53) dX10_takesE_48 (by decide) (fun h48 => ?_) (fun h48 => ?_)
            · skip
              refine x_aload_n (pc := 53) dX10_takesE_53 rfl ?_
              refine x_dup (pc := 54) dX10_takesE_54 rfl ?_
              refine x_getI (pc := 55) dX10_takesE_55 flX10_86 (by first | assumption | rfl) rfl ?_
              rw [h.2.2.2.2.1]
              refine x_iconstN (pc := 58) 1 dX10_takesE_58 ic_1 ?_
              first | (guard_target =~ Wp _ _ _ _ _ (Value.int (nI _) :: Value.int (nI _) :: _) _ _ _ _; with_reducible refine x_iaddN (pc := 59) dX10_takesE_59 ?_) | refine x_iadd (pc := 59) dX10_takesE_59 ?_
              refine x_putI (pc := 60) dX10_takesE_60 flX10_86 (by first | assumption | rfl) rfl rfl rfl ?_
              refine x_aload_n (pc := 63) dX10_takesE_63 rfl ?_
              refine x_getR (pc := 64) dX10_takesE_64 flX10_77 (by first | assumption | rfl) rfl ?_
              refine x_aload_n (pc := 67) dX10_takesE_67 rfl ?_
              refine x_getI (pc := 68) dX10_takesE_68 flX10_83 (by first | assumption | rfl) rfl ?_
              rw [show (xput M 65 25 (nI (o + 1))).1 65 24 = nI T.length from h24]
              refine x_iload_n (pc := 71) dX10_takesE_71 rfl ?_
              refine x_iastN (pc := 72) dX10_takesE_72 (by first | assumption | rfl) (by first | with_reducible rfl | (simp only [xlit, nI_add, pk_mul]; with_reducible rfl)) (by omega) (by decide) ?_
              refine x_aload_n (pc := 73) dX10_takesE_73 rfl ?_
              refine x_dup (pc := 74) dX10_takesE_74 rfl ?_
              refine x_getI (pc := 75) dX10_takesE_75 flX10_83 (by first | assumption | rfl) rfl ?_
              rw [show (xput (xput M 65 25 (nI (o + 1))) 79 T.length (nI 40)).1 65 24 = nI T.length from h24]
              refine x_iconstN (pc := 78) 1 dX10_takesE_78 ic_1 ?_
              first | (guard_target =~ Wp _ _ _ _ _ (Value.int (nI _) :: Value.int (nI _) :: _) _ _ _ _; with_reducible refine x_iaddN (pc := 79) dX10_takesE_79 ?_) | refine x_iadd (pc := 79) dX10_takesE_79 ?_
              refine x_putI (pc := 80) dX10_takesE_80 flX10_83 (by first | assumption | rfl) rfl rfl rfl ?_
              refine x_aload_n (pc := 83) dX10_takesE_83 rfl ?_
              refine x_dup (pc := 84) dX10_takesE_84 rfl ?_
              refine x_getI (pc := 85) dX10_takesE_85 flX10_50 (by first | assumption | rfl) rfl ?_
              rw [show (xput (xput (xput M 65 25 (nI (o + 1))) 79 T.length (nI 40)) 65 24 (nI (T.length + 1))).1 65 13 = nI p from h.2.1]
              refine x_iconstN (pc := 88) 1 dX10_takesE_88 ic_1 ?_
              first | (guard_target =~ Wp _ _ _ _ _ (Value.int (nI _) :: Value.int (nI _) :: _) _ _ _ _; with_reducible refine x_iaddN (pc := 89) dX10_takesE_89 ?_) | refine x_iadd (pc := 89) dX10_takesE_89 ?_
              refine x_putI (pc := 90) dX10_takesE_90 flX10_50 (by first | assumption | rfl) rfl rfl rfl ?_
              refine x_goto (pc := 93) (tgt := 22) dX10_takesE_93 (by decide) ?_
              refine expW hT hsg hci ih 100 none none (p + 1) C (40 :: T) (o + 1) _ (by omega) (by omega) (by omega) (fun u W' z => by cases z; rfl) (fun u hu => ?_) ?_ (fun q M' e1 e2 => hn q M' (by rw [e1]; rfl) e2) (fun e q M' e1 hqn h2 _ => fin e q M' e1 hqn h2) _
              · rcases List.mem_cons.mp hu with rfl | hu
                · decide
                · rw [hTe] at hu
                  rcases List.mem_append.mp hu with hu | hu
                  · rw [List.mem_replicate] at hu; rw [hu.2]; decide
                  · exact hU2 u hu
              · rw [show C ++ (cd none ++ cd none) = C from List.append_nil C]; exact ho1.push (v := 40)
            · skip
              omega
    have hr : pF (chT n t) (f + 1) p = pT (chT n t) p := by rw [pF, if_neg c34, if_neg c41]
    rw [hr] at hn hs
    exact tst p C U j o M hp (by omega) hj hU h0 c34 c41 hn hs
end P94
