/-! the MODEL's reader: a test, an expression -/
section P94
variable {g : XG} {d : Nat} {M M0 : XM} {K : Option Value → XS → XM → Prop} {n sg ci p o : Nat} {t : Nat → Nat} {C V U : List Nat} {j : Nat}
def tstR (M0 M' : XM) (sg ci : Nat) (C U : List Nat) (j o : Nat) (r : Option XP × Nat) : Prop := match r with
  | (none, q) => PN M0 M' sg ci q
  | (some e, q) => PS M0 M' sg ci q (C ++ e.1 ++ List.replicate j 0) U (o - j)
theorem sm_takesTest (hT : CT M0 n t) (hsg : sg + 100 ≤ 600) (hpn : p ≤ n) (hj : j ≤ o) (ho4 : o ≤ 4) (hU : ∀ u U', U = u :: U' → u ≠ 33 ∧ u < 200) (h : PS M0 M sg ci p C (List.replicate j 33 ++ U) o) (hK : ∀ M', tstR M0 M' sg ci C U j o (pT (chT n t) p) → K (some (.int (nI (b2n (pT (chT n t) p).1.isSome)))) xSF M') : Ex g (d + 3) yX10_takesTest mX10_takesTest [.ref 65] xSF M K := by
  have hn := hT.2.1
  have hTX := hT.tx
  have hcp := (hTX.2 p).2
  have hcp1 := (hTX.2 (p + 1)).2
  have h13 : M.1 65 13 = nI p := h.2.1
  refine x_entry kX10_takesTest (Nat.le_of_ble_eq_true rfl) ?_
  show Wp g _ mX10_takesTest 0 [some (.ref 65), none, none] [] _ _ _ _
  by_cases h6 : fldP (chT n t p) = 6
  · have e : pT (chT n t) p = (none, p) := by unfold pT; rw [if_pos h6]
    rw [e] at hK
    refine x_aload_n (pc := 0) dX10_takesTest_0 rfl ?_
    refine x_aload_n (pc := 1) dX10_takesTest_1 rfl ?_
    refine x_invV0 (pc := 2) dX10_takesTest_2 mlX10_271 imX10_next seX10_next kX10_next (by first | assumption | rfl) rfl (Nat.le_of_ble_eq_true rfl) (by decide) ?_
    refine sm_next hT h.1 h13 (by omega) ?_
    refine x_cv rfl rfl ?_
    refine x_invV1 (pc := 5) dX10_takesTest_5 mlX10_286 imX10_place seX10_place kX10_place (by first | assumption | rfl) rfl (Nat.le_of_ble_eq_true rfl) (by decide) ?_
    refine sm_place hcp ?_
    refine x_cv rfl rfl ?_
    rw [if_pos h6]
    refine x_istore_n (pc := 8) dX10_takesTest_8 (by decide) xs_1 (x_hp rfl) ?_
    refine x_iload_n (pc := 9) dX10_takesTest_9 rfl ?_
    refine x_if_ge (pc := 10) (tgt := 15) dX10_takesTest_10 (by decide) (fun h10 => ?_) (fun h10 => ?_)
    · skip
      exact absurd h10 (by decide)
    · skip
      refine x_iconstN (pc := 13) 0 dX10_takesTest_13 ic_0 ?_
      refine x_ret (pc := 14) (v := some _) rfl (by first | rfl | decide | exact xrt_b) dX10_takesTest_14 (by decide) ?_
      exact hK M h.pn
  have hf6 := fldP_lt h6
  have hpn1 : p < n := hTX.lt rfl (fldP_ne0 h6)
  have hb : ∀ x, x < 129 → btw (srt x) (nI 60) (nI 62) = decide (61 ≤ x ∧ x ≤ 63) := by decide +kernel
  by_cases h2 : 61 ≤ chT n t (p + 1) ∧ chT n t (p + 1) ≤ 63
  · have hpn2 : p + 1 < n := hTX.lt rfl (by omega : chT n t (p + 1) ≠ 0)
    have hs1 : srt (chT n t (p + 1)) = nI (chT n t (p + 1) - 1) := srt_s (by omega)
    have hm1 := h.at (q := p + 1) (by omega)
    have hm2 := hm1.at (q := p + 1 + 1) (by omega)
    have hlen := h.2.2.2.2.2.2.2
    cases hnum : numP (chT n t) (p + 2) with
    | none =>
      have e : pT (chT n t) p = (none, p + 2) := by unfold pT; rw [if_neg h6, if_pos h2, hnum]
      rw [e] at hK
      refine x_aload_n (pc := 0) dX10_takesTest_0 rfl ?_
      refine x_aload_n (pc := 1) dX10_takesTest_1 rfl ?_
      refine x_invV0 (pc := 2) dX10_takesTest_2 mlX10_271 imX10_next seX10_next kX10_next (by first | assumption | rfl) rfl (Nat.le_of_ble_eq_true rfl) (by decide) ?_
      refine sm_next hT h.1 h13 (by omega) ?_
      refine x_cv rfl rfl ?_
      refine x_invV1 (pc := 5) dX10_takesTest_5 mlX10_286 imX10_place seX10_place kX10_place (by first | assumption | rfl) rfl (Nat.le_of_ble_eq_true rfl) (by decide) ?_
      refine sm_place hcp ?_
      refine x_cv rfl rfl ?_
      rw [if_neg h6]
      refine x_istore_n (pc := 8) dX10_takesTest_8 (by decide) xs_1 (x_hp rfl) ?_
      refine x_iload_n (pc := 9) dX10_takesTest_9 rfl ?_
      refine x_if_ge (pc := 10) (tgt := 15) dX10_takesTest_10 (by decide) (fun h10 => ?_) (fun h10 => ?_)
      · skip
        refine x_aload_n (pc := 15) dX10_takesTest_15 rfl ?_
        refine x_dup (pc := 16) dX10_takesTest_16 rfl ?_
        refine x_getI (pc := 17) dX10_takesTest_17 flX10_50 (by first | assumption | rfl) rfl ?_
        rw [h13]
        refine x_iconstN (pc := 20) 1 dX10_takesTest_20 ic_1 ?_
        first | (guard_target =~ Wp _ _ _ _ _ (Value.int (nI _) :: Value.int (nI _) :: _) _ _ _ _; with_reducible refine x_iaddN (pc := 21) dX10_takesTest_21 ?_) | refine x_iadd (pc := 21) dX10_takesTest_21 ?_
        refine x_putI (pc := 22) dX10_takesTest_22 flX10_50 (by first | assumption | rfl) rfl rfl rfl ?_
        refine x_aload_n (pc := 25) dX10_takesTest_25 rfl ?_
        refine x_invV0 (pc := 26) dX10_takesTest_26 mlX10_271 imX10_next seX10_next kX10_next (by first | assumption | rfl) rfl (Nat.le_of_ble_eq_true rfl) (by decide) ?_
        refine sm_next hT hm1.1 hm1.2.1 (by omega) ?_
        refine x_cv rfl rfl ?_
        refine x_istore_n (pc := 29) dX10_takesTest_29 (by decide) xs_2 (x_hp rfl) ?_
        refine x_aload_n (pc := 30) dX10_takesTest_30 rfl ?_
        refine x_iload_n (pc := 31) dX10_takesTest_31 rfl ?_
        refine x_bipushN (pc := 32) 60 dX10_takesTest_32 bp_60 ?_
        refine x_bipushN (pc := 34) 62 dX10_takesTest_34 bp_62 ?_
        refine x_invV3 (pc := 36) dX10_takesTest_36 mlX10_253 imX10_in seX10_in kX10_in (by first | assumption | rfl) rfl (Nat.le_of_ble_eq_true rfl) (by decide) ?_
        refine sm_in ?_
        refine x_cv rfl rfl ?_
        rw [hb _ hcp1, decide_eq_true h2]
        first | (guard_target =~ Wp _ _ _ _ _ (Value.int (nI _) :: _) _ _ _ _; with_reducible refine x_if_neN (pc := 39) (tgt := 44) ?_ dX10_takesTest_39 ?_ (fun h39 => ?_) (fun h39 => ?_); (first | omega | exact b2n_32 _ | exact b2n_31 _); decide) | refine x_if_ne (pc := 39) (tgt := 44) dX10_takesTest_39 (by decide) (fun h39 => ?_) (fun h39 => ?_)
        · skip
          refine x_aload_n (pc := 44) dX10_takesTest_44 rfl ?_
          refine x_dup (pc := 45) dX10_takesTest_45 rfl ?_
          refine x_getI (pc := 46) dX10_takesTest_46 flX10_50 (by first | assumption | rfl) rfl ?_
          rw [show (xput M 65 13 (nI (p + 1))).1 65 13 = nI (p + 1) from rfl]
          refine x_iconstN (pc := 49) 1 dX10_takesTest_49 ic_1 ?_
          first | (guard_target =~ Wp _ _ _ _ _ (Value.int (nI _) :: Value.int (nI _) :: _) _ _ _ _; with_reducible refine x_iaddN (pc := 50) dX10_takesTest_50 ?_) | refine x_iadd (pc := 50) dX10_takesTest_50 ?_
          refine x_putI (pc := 51) dX10_takesTest_51 flX10_50 (by first | assumption | rfl) rfl rfl rfl ?_
          refine x_aload_n (pc := 54) dX10_takesTest_54 rfl ?_
          refine x_invV0 (pc := 55) dX10_takesTest_55 mlX10_290 imX10_takesNumber seX10_takesNumber kX10_takesNumber (by first | assumption | rfl) rfl (Nat.le_of_ble_eq_true rfl) (by decide) ?_
          refine sm_takesNumber hT hm2.pn (by omega) (fun M2 ho2 hq2 hv2 => ?_)
          refine x_cv rfl rfl ?_
          rw [show numP (chT n t) (p + 1 + 1) = none from hnum]
          first | (guard_target =~ Wp _ _ _ _ _ (Value.int (nI _) :: _) _ _ _ _; with_reducible refine x_if_neN (pc := 58) (tgt := 63) ?_ dX10_takesTest_58 ?_ (fun h58 => ?_) (fun h58 => ?_); (first | omega | exact b2n_32 _ | exact b2n_31 _); decide) | refine x_if_ne (pc := 58) (tgt := 63) dX10_takesTest_58 (by decide) (fun h58 => ?_) (fun h58 => ?_)
          · skip
            exact absurd rfl h58
          · skip
            refine x_iconstN (pc := 61) 0 dX10_takesTest_61 ic_0 ?_
            refine x_ret (pc := 62) (v := some _) rfl (by first | rfl | decide | exact xrt_b) dX10_takesTest_62 (by decide) ?_
            rw [show numP (chT n t) (p + 1 + 1) = none from hnum] at hq2; exact hK M2 (hm2.pn.mv ho2 hq2)
        · skip
          cases h39
      · skip
        exact absurd (nI_pos' (by omega)) h10
    | some r =>
      obtain ⟨v, q⟩ := r
      obtain ⟨z1, z2, z3⟩ := numP_some hTX hnum
      have e : pT (chT n t) p = (some ([1000 * fldP (chT n t p) + 100 * (chT n t (p + 1) - 61) + v + 3], fun f => tstP (f (fldP (chT n t p))) (chT n t (p + 1) - 61) v), q) := by unfold pT; rw [if_neg h6, if_pos h2, hnum]
      rw [e] at hK
      refine x_aload_n (pc := 0) dX10_takesTest_0 rfl ?_
      refine x_aload_n (pc := 1) dX10_takesTest_1 rfl ?_
      refine x_invV0 (pc := 2) dX10_takesTest_2 mlX10_271 imX10_next seX10_next kX10_next (by first | assumption | rfl) rfl (Nat.le_of_ble_eq_true rfl) (by decide) ?_
      refine sm_next hT h.1 h13 (by omega) ?_
      refine x_cv rfl rfl ?_
      refine x_invV1 (pc := 5) dX10_takesTest_5 mlX10_286 imX10_place seX10_place kX10_place (by first | assumption | rfl) rfl (Nat.le_of_ble_eq_true rfl) (by decide) ?_
      refine sm_place hcp ?_
      refine x_cv rfl rfl ?_
      rw [if_neg h6]
      refine x_istore_n (pc := 8) dX10_takesTest_8 (by decide) xs_1 (x_hp rfl) ?_
      refine x_iload_n (pc := 9) dX10_takesTest_9 rfl ?_
      refine x_if_ge (pc := 10) (tgt := 15) dX10_takesTest_10 (by decide) (fun h10 => ?_) (fun h10 => ?_)
      · skip
        refine x_aload_n (pc := 15) dX10_takesTest_15 rfl ?_
        refine x_dup (pc := 16) dX10_takesTest_16 rfl ?_
        refine x_getI (pc := 17) dX10_takesTest_17 flX10_50 (by first | assumption | rfl) rfl ?_
        rw [h13]
        refine x_iconstN (pc := 20) 1 dX10_takesTest_20 ic_1 ?_
        first | (guard_target =~ Wp _ _ _ _ _ (Value.int (nI _) :: Value.int (nI _) :: _) _ _ _ _; with_reducible refine x_iaddN (pc := 21) dX10_takesTest_21 ?_) | refine x_iadd (pc := 21) dX10_takesTest_21 ?_
        refine x_putI (pc := 22) dX10_takesTest_22 flX10_50 (by first | assumption | rfl) rfl rfl rfl ?_
        refine x_aload_n (pc := 25) dX10_takesTest_25 rfl ?_
        refine x_invV0 (pc := 26) dX10_takesTest_26 mlX10_271 imX10_next seX10_next kX10_next (by first | assumption | rfl) rfl (Nat.le_of_ble_eq_true rfl) (by decide) ?_
        refine sm_next hT hm1.1 hm1.2.1 (by omega) ?_
        refine x_cv rfl rfl ?_
        rw [hs1]
        refine x_istore_n (pc := 29) dX10_takesTest_29 (by decide) xs_2 (x_hp rfl) ?_
        refine x_aload_n (pc := 30) dX10_takesTest_30 rfl ?_
        refine x_iload_n (pc := 31) dX10_takesTest_31 rfl ?_
        refine x_bipushN (pc := 32) 60 dX10_takesTest_32 bp_60 ?_
        refine x_bipushN (pc := 34) 62 dX10_takesTest_34 bp_62 ?_
        refine x_invV3 (pc := 36) dX10_takesTest_36 mlX10_253 imX10_in seX10_in kX10_in (by first | assumption | rfl) rfl (Nat.le_of_ble_eq_true rfl) (by decide) ?_
        refine sm_in ?_
        refine x_cv rfl rfl ?_
        rw [← hs1, hb _ hcp1, decide_eq_true h2]
        first | (guard_target =~ Wp _ _ _ _ _ (Value.int (nI _) :: _) _ _ _ _; with_reducible refine x_if_neN (pc := 39) (tgt := 44) ?_ dX10_takesTest_39 ?_ (fun h39 => ?_) (fun h39 => ?_); (first | omega | exact b2n_32 _ | exact b2n_31 _); decide) | refine x_if_ne (pc := 39) (tgt := 44) dX10_takesTest_39 (by decide) (fun h39 => ?_) (fun h39 => ?_)
        · skip
          refine x_aload_n (pc := 44) dX10_takesTest_44 rfl ?_
          refine x_dup (pc := 45) dX10_takesTest_45 rfl ?_
          refine x_getI (pc := 46) dX10_takesTest_46 flX10_50 (by first | assumption | rfl) rfl ?_
          rw [show (xput M 65 13 (nI (p + 1))).1 65 13 = nI (p + 1) from rfl]
          refine x_iconstN (pc := 49) 1 dX10_takesTest_49 ic_1 ?_
          first | (guard_target =~ Wp _ _ _ _ _ (Value.int (nI _) :: Value.int (nI _) :: _) _ _ _ _; with_reducible refine x_iaddN (pc := 50) dX10_takesTest_50 ?_) | refine x_iadd (pc := 50) dX10_takesTest_50 ?_
          refine x_putI (pc := 51) dX10_takesTest_51 flX10_50 (by first | assumption | rfl) rfl rfl rfl ?_
          refine x_aload_n (pc := 54) dX10_takesTest_54 rfl ?_
          refine x_invV0 (pc := 55) dX10_takesTest_55 mlX10_290 imX10_takesNumber seX10_takesNumber kX10_takesNumber (by first | assumption | rfl) rfl (Nat.le_of_ble_eq_true rfl) (by decide) ?_
          refine sm_takesNumber hT hm2.pn (by omega) (fun M2 ho2 hq2 hv2 => ?_)
          refine x_cv rfl rfl ?_
          rw [show numP (chT n t) (p + 1 + 1) = some (v, q) from hnum] at hq2 hv2 ⊢
          have hv2' : M2.1 65 14 = nI v := hv2 _ rfl
          have hq2' : M2.1 65 13 = nI q := hq2
          have hm3 := hm2.mv ho2 hq2' (show p + 1 + 1 ≤ q by omega)
          first | (guard_target =~ Wp _ _ _ _ _ (Value.int (nI _) :: _) _ _ _ _; with_reducible refine x_if_neN (pc := 58) (tgt := 63) ?_ dX10_takesTest_58 ?_ (fun h58 => ?_) (fun h58 => ?_); (first | omega | exact b2n_32 _ | exact b2n_31 _); decide) | refine x_if_ne (pc := 58) (tgt := 63) dX10_takesTest_58 (by decide) (fun h58 => ?_) (fun h58 => ?_)
          · skip
            refine x_aload_n (pc := 63) dX10_takesTest_63 rfl ?_
            refine x_sipushN (pc := 64) 1000 dX10_takesTest_64 sp_1000 ?_
            refine x_iload_n (pc := 67) dX10_takesTest_67 rfl ?_
            first | (guard_target =~ Wp _ _ _ _ _ (Value.int (nI _) :: Value.int (nI _) :: _) _ _ _ _; with_reducible refine x_imulN (pc := 68) dX10_takesTest_68 ?_) | refine x_imul (pc := 68) dX10_takesTest_68 ?_
            refine x_bipushN (pc := 69) 100 dX10_takesTest_69 bp_100 ?_
            refine x_iload_n (pc := 71) dX10_takesTest_71 rfl ?_
            try rw [hs1]
            refine x_bipushN (pc := 72) 60 dX10_takesTest_72 bp_60 ?_
            first | (guard_target =~ Wp _ _ _ _ _ (Value.int (nI _) :: Value.int (nI _) :: _) _ _ _ _; with_reducible refine x_isubN (pc := 74) ?_ dX10_takesTest_74 ?_; omega) | refine x_isub (pc := 74) dX10_takesTest_74 ?_
            rw [show chT n t (p + 1) - 1 - 60 = chT n t (p + 1) - 61 by omega]
            first | (guard_target =~ Wp _ _ _ _ _ (Value.int (nI _) :: Value.int (nI _) :: _) _ _ _ _; with_reducible refine x_imulN (pc := 75) dX10_takesTest_75 ?_) | refine x_imul (pc := 75) dX10_takesTest_75 ?_
            first | (guard_target =~ Wp _ _ _ _ _ (Value.int (nI _) :: Value.int (nI _) :: _) _ _ _ _; with_reducible refine x_iaddN (pc := 76) dX10_takesTest_76 ?_) | refine x_iadd (pc := 76) dX10_takesTest_76 ?_
            refine x_aload_n (pc := 77) dX10_takesTest_77 rfl ?_
            refine x_getI (pc := 78) dX10_takesTest_78 flX10_53 (by first | assumption | rfl) rfl ?_
            rw [hv2']
            first | (guard_target =~ Wp _ _ _ _ _ (Value.int (nI _) :: Value.int (nI _) :: _) _ _ _ _; with_reducible refine x_iaddN (pc := 81) dX10_takesTest_81 ?_) | refine x_iadd (pc := 81) dX10_takesTest_81 ?_
            refine x_invV1 (pc := 82) dX10_takesTest_82 mlX10_282 imX10_emits seX10_emits kX10_emits (by first | assumption | rfl) rfl (Nat.le_of_ble_eq_true rfl) (by decide) ?_
            refine sm_emits (by omega) hm3.2.2.1 ?_
            refine x_cn rfl rfl ?_
            refine x_aload_n (pc := 85) dX10_takesTest_85 rfl ?_
            refine x_invV0 (pc := 86) dX10_takesTest_86 mlX10_293 imX10_whole seX10_whole kX10_whole (by first | assumption | rfl) rfl (Nat.le_of_ble_eq_true rfl) (by decide) ?_
            refine sm_whole hsg (by omega) hU j _ _ _ hj ho4 (hm3.emit (x := 1000 * fldP (chT n t p) + 100 * (chT n t (p + 1) - 61) + v + 3) rfl (by omega) (by omega)) (fun M4 h4 => ?_)
            refine x_cn rfl rfl ?_
            refine x_iconstN (pc := 89) 1 dX10_takesTest_89 ic_1 ?_
            refine x_ret (pc := 90) (v := some _) rfl (by first | rfl | decide | exact xrt_b) dX10_takesTest_90 (by decide) ?_
            exact hK M4 h4
          · skip
            cases h58
        · skip
          cases h39
      · skip
        exact absurd (nI_pos' (by omega)) h10
  · have e : pT (chT n t) p = (none, p + 1) := by unfold pT; rw [if_neg h6, if_neg h2]
    rw [e] at hK
    refine x_aload_n (pc := 0) dX10_takesTest_0 rfl ?_
    refine x_aload_n (pc := 1) dX10_takesTest_1 rfl ?_
    refine x_invV0 (pc := 2) dX10_takesTest_2 mlX10_271 imX10_next seX10_next kX10_next (by first | assumption | rfl) rfl (Nat.le_of_ble_eq_true rfl) (by decide) ?_
    refine sm_next hT h.1 h13 (by omega) ?_
    refine x_cv rfl rfl ?_
    refine x_invV1 (pc := 5) dX10_takesTest_5 mlX10_286 imX10_place seX10_place kX10_place (by first | assumption | rfl) rfl (Nat.le_of_ble_eq_true rfl) (by decide) ?_
    refine sm_place hcp ?_
    refine x_cv rfl rfl ?_
    rw [if_neg h6]
    refine x_istore_n (pc := 8) dX10_takesTest_8 (by decide) xs_1 (x_hp rfl) ?_
    refine x_iload_n (pc := 9) dX10_takesTest_9 rfl ?_
    refine x_if_ge (pc := 10) (tgt := 15) dX10_takesTest_10 (by decide) (fun h10 => ?_) (fun h10 => ?_)
    · skip
      refine x_aload_n (pc := 15) dX10_takesTest_15 rfl ?_
      refine x_dup (pc := 16) dX10_takesTest_16 rfl ?_
      refine x_getI (pc := 17) dX10_takesTest_17 flX10_50 (by first | assumption | rfl) rfl ?_
      rw [h13]
      refine x_iconstN (pc := 20) 1 dX10_takesTest_20 ic_1 ?_
      first | (guard_target =~ Wp _ _ _ _ _ (Value.int (nI _) :: Value.int (nI _) :: _) _ _ _ _; with_reducible refine x_iaddN (pc := 21) dX10_takesTest_21 ?_) | refine x_iadd (pc := 21) dX10_takesTest_21 ?_
      refine x_putI (pc := 22) dX10_takesTest_22 flX10_50 (by first | assumption | rfl) rfl rfl rfl ?_
      refine x_aload_n (pc := 25) dX10_takesTest_25 rfl ?_
      have hm1 := h.at (q := p + 1) (by omega)
      refine x_invV0 (pc := 26) dX10_takesTest_26 mlX10_271 imX10_next seX10_next kX10_next (by first | assumption | rfl) rfl (Nat.le_of_ble_eq_true rfl) (by decide) ?_
      refine sm_next hT hm1.1 hm1.2.1 (by omega) ?_
      refine x_cv rfl rfl ?_
      refine x_istore_n (pc := 29) dX10_takesTest_29 (by decide) xs_2 (x_hp rfl) ?_
      refine x_aload_n (pc := 30) dX10_takesTest_30 rfl ?_
      refine x_iload_n (pc := 31) dX10_takesTest_31 rfl ?_
      refine x_bipushN (pc := 32) 60 dX10_takesTest_32 bp_60 ?_
      refine x_bipushN (pc := 34) 62 dX10_takesTest_34 bp_62 ?_
      refine x_invV3 (pc := 36) dX10_takesTest_36 mlX10_253 imX10_in seX10_in kX10_in (by first | assumption | rfl) rfl (Nat.le_of_ble_eq_true rfl) (by decide) ?_
      refine sm_in ?_
      refine x_cv rfl rfl ?_
      rw [hb _ hcp1, decide_eq_false h2]
      first | (guard_target =~ Wp _ _ _ _ _ (Value.int (nI _) :: _) _ _ _ _; with_reducible refine x_if_neN (pc := 39) (tgt := 44) ?_ dX10_takesTest_39 ?_ (fun h39 => ?_) (fun h39 => ?_); (first | omega | exact b2n_32 _ | exact b2n_31 _); decide) | refine x_if_ne (pc := 39) (tgt := 44) dX10_takesTest_39 (by decide) (fun h39 => ?_) (fun h39 => ?_)
      · skip
        exact absurd rfl h39
      · skip
        refine x_iconstN (pc := 42) 0 dX10_takesTest_42 ic_0 ?_
        refine x_ret (pc := 43) (v := some _) rfl (by first | rfl | decide | exact xrt_b) dX10_takesTest_43 (by decide) ?_
        exact hK _ hm1.pn
    · skip
      exact absurd (nI_pos' (by omega)) h10
/-- the operators that wait, the codes already out -/
def vd (any both : Option XP) (W : List Nat) : List Nat := match any, both with
  | none, none => W
  | none, some _ => 38 :: W
  | some _, none => 124 :: W
  | some _, some _ => 38 :: 124 :: W
def cd (o : Option XP) : List Nat := match o with
  | none => []
  | some e => e.1
theorem stl_W {s : Nat} {W : List Nat} (hW : ∀ u W', W = u :: W' → u = 40) : stl s W = ([], W) := by
  cases W with
  | nil => rfl
  | cons u W' => have := hW u W' rfl; subst this; rfl
theorem stl_and {any both : Option XP} {W : List Nat} {e : XP} (hW : ∀ u W', W = u :: W' → u = 40) : (stl 38 (vd any both W)).2 = vd any none W ∧ cd any ++ cd both ++ e.1 ++ (stl 38 (vd any both W)).1 = cd any ++ (cA both e).1 := by
  have h := stl_W (s := 38) hW
  cases any <;> cases both <;> simp [vd, cd, cA, stl, h]
theorem stl_or {any both : Option XP} {W : List Nat} {e : XP} (hW : ∀ u W', W = u :: W' → u = 40) : (stl 124 (vd any both W)).2 = W ∧ cd any ++ cd both ++ e.1 ++ (stl 124 (vd any both W)).1 = (cO any (cA both e)).1 := by
  have h := stl_W (s := 124) hW
  cases any <;> cases both <;> simp [vd, cd, cA, cO, stl, h]
theorem vd_lt {any both : Option XP} {W : List Nat} (hW : ∀ w, w ∈ W → w < 200) : ∀ v, v ∈ vd any both W → v < 200 := by
  intro v hv
  cases any <;> cases both <;> simp [vd] at hv
  · exact hW v hv
  · rcases hv with rfl | hv; decide; exact hW v hv
  · rcases hv with rfl | hv; decide; exact hW v hv
  · rcases hv with rfl | rfl | hv; decide; decide; exact hW v hv
theorem vd_hd {any both : Option XP} {W : List Nat} (hW : ∀ u W', W = u :: W' → u = 40) : ∀ u U', vd any both W = u :: U' → u ≠ 33 ∧ u < 200 := by
  intro u U' h
  cases any <;> cases both <;> simp [vd] at h
  · rw [hW u U' h]; decide
  · rw [← h.1]; decide
  · rw [← h.1]; decide
  · rw [← h.1]; decide
/-- where the reader stands -/
def AtE (g : XG) (d ci : Nat) (K : Option Value → XS → XM → Prop) (w : Nat) (M : XM) : Prop := ∀ o3, Wp g (d + 4) mX10_takesE 22 [some (.ref 65), some (.int (nI ci)), some (.int (nI w)), o3] [] xSF (0, 0) M K
def facW (g : XG) (d : Nat) (K : Option Value → XS → XM → Prop) (M0 : XM) (n sg ci : Nat) (t : Nat → Nat) (f : Nat) : Prop := ∀ p C U j o M, p ≤ n → o + f = 4 → j ≤ o → (∀ u U', U = u :: U' → u ≠ 33 ∧ u < 200) → (∀ u, u ∈ U → u < 200) → PS M0 M sg ci p C (List.replicate j 33 ++ U) o →
  (∀ q M', pF (chT n t) f p = (none, q) → PN M0 M' sg ci q → K (some (.int (nI 0))) xSF M') →
  (∀ e q M', pF (chT n t) f p = (some e, q) → PS M0 M' sg ci q (C ++ e.1 ++ List.replicate j 0) U (o - j) → AtE g d ci K 0 M') → AtE g d ci K 1 M
theorem expW {f : Nat} (hT : CT M0 n t) (hsg : sg + 100 ≤ 600) (hci : ci < 60) (hF : facW g d K M0 n sg ci t f) : ∀ k any both p C0 W o M, p ≤ n → n + 1 ≤ k + p → o + f = 4 → (∀ u W', W = u :: W' → u = 40) → (∀ u, u ∈ W → u < 200) → PS M0 M sg ci p (C0 ++ (cd any ++ cd both)) (vd any both W) o →
    (∀ q M', lE (chT n t) (pF (chT n t) f) k any both p = (none, q) → PN M0 M' sg ci q → K (some (.int (nI 0))) xSF M') →
    (∀ e q M', lE (chT n t) (pF (chT n t) f) k any both p = (some e, q) → q ≤ n → PS M0 M' sg ci q (C0 ++ e.1) W o → M'.1 77 ci = nI (sg + (C0 ++ e.1).length) → Wp g (d + 4) mX10_takesE 178 [some (.ref 65), some (.int (nI ci)), some (.int (nI 0)), some (.int (srt (chT n t q)))] [] xSF (0, 0) M' K) → AtE g d ci K 1 M := by
  have hn100 := hT.2.1
  have hTX := hT.tx
  intro k
  induction k with
  | zero => intro any both p C0 W o M hp hk; omega
  | succ k ih =>
    intro any both p C0 W o M hp hk hof hW hW2 h hn hs
    refine hF p (C0 ++ (cd any ++ cd both)) (vd any both W) 0 o M hp hof (by omega) (vd_hd hW) (vd_lt hW2) h (fun q M' hr hN => hn q M' (by rw [lE, hr]) hN) (fun e q M1 hr h1 => ?_)
    have hok := pF_ok hTX f p hp
    rw [hr] at hok
    obtain ⟨k1, k2, k3⟩ := hok
    have k4 := (k3 e rfl).1
    simp only at k1 k2 k4
    rw [List.replicate_zero, List.append_nil, Nat.sub_zero] at h1
    intro o3
    have hcq := (hTX.2 q).2
    have hlen := h1.2.2.2.2.2.2.2
    by_cases c39 : chT n t q = 39
    · have hqn : q < n := hTX.lt c39 (by decide)
      obtain ⟨s1, s2⟩ := stl_and (any := any) (both := both) (e := e) hW
      have hle : lE (chT n t) (pF (chT n t) f) (k + 1) any both p = lE (chT n t) (pF (chT n t) f) k any (some (cA both e)) (q + 1) := by
        rw [lE, hr]; simp only; rw [if_neg (by omega), if_pos c39]
      rw [hle] at hn hs
      refine x_aload_n (pc := 22) dX10_takesE_22 rfl ?_
      refine x_invV0 (pc := 23) dX10_takesE_23 mlX10_271 imX10_next seX10_next kX10_next (by first | assumption | rfl) rfl (Nat.le_of_ble_eq_true rfl) (by decide) ?_
      refine sm_next hT h1.1 h1.2.1 (by omega) ?_
      refine x_cv rfl rfl ?_
      rw [c39, show srt 39 = nI 38 from rfl]
      refine x_istore_n (pc := 26) dX10_takesE_26 (by decide) xs_3 (x_hp rfl) ?_
      refine x_iload_n (pc := 27) dX10_takesE_27 rfl ?_
      first | (guard_target =~ Wp _ _ _ _ _ (Value.int (nI _) :: _) _ _ _ _; with_reducible refine x_if_eqN (pc := 28) (tgt := 110) ?_ dX10_takesE_28 ?_ (fun h28 => ?_) (fun h28 => ?_); (first | omega | exact b2n_32 _ | exact b2n_31 _); decide) | refine x_if_eq (pc := 28) (tgt := 110) dX10_takesE_28 (by decide) (fun h28 => ?_) (fun h28 => ?_)
      · skip
        refine x_iload_n (pc := 110) dX10_takesE_110 rfl ?_
        refine x_bipushN (pc := 111) 38 dX10_takesE_111 bp_38 ?_
        first | (guard_target =~ Wp _ _ _ _ _ (Value.int (nI _) :: Value.int (nI _) :: _) _ _ _ _; with_reducible refine x_icmp_eqN (pc := 113) (tgt := 122) ?_ ?_ dX10_takesE_113 ?_ (fun h113 => ?_) (fun h113 => ?_); (first | omega | exact b2n_31 _); (first | omega | exact b2n_31 _); decide) | refine x_icmp_eq (pc := 113) (tgt := 122) dX10_takesE_113 (by decide) (fun h113 => ?_) (fun h113 => ?_)
        · skip
          refine x_aload_n (pc := 122) dX10_takesE_122 rfl ?_
          refine x_iload_n (pc := 123) dX10_takesE_123 rfl ?_
          refine x_invV1 (pc := 124) dX10_takesE_124 mlX10_299 imX10_settle seX10_settle kX10_settle (by first | assumption | rfl) rfl (Nat.le_of_ble_eq_true rfl) (by decide) ?_
          refine sm_settle hsg (by omega) (by decide) _ _ _ (vd_lt hW2) h1 (fun M2 h2 => ?_)
          rw [s1, List.append_assoc, List.append_assoc, ← List.append_assoc (cd any ++ cd both), s2] at h2
          refine x_cn rfl rfl ?_
          refine x_aload_n (pc := 127) dX10_takesE_127 rfl ?_
          refine x_getR (pc := 128) dX10_takesE_128 flX10_77 (by first | assumption | rfl) rfl ?_
          refine x_aload_n (pc := 131) dX10_takesE_131 rfl ?_
          refine x_getI (pc := 132) dX10_takesE_132 flX10_83 (by first | assumption | rfl) rfl ?_
          rw [h2.2.2.2.1]
          refine x_iload_n (pc := 135) dX10_takesE_135 rfl ?_
          refine x_iastN (pc := 136) dX10_takesE_136 (by first | assumption | rfl) (by first | with_reducible rfl | (simp only [xlit, nI_add, pk_mul]; with_reducible rfl)) (by have := h2.2.2.2.2.2.2.2; omega) (by decide) ?_
          refine x_aload_n (pc := 137) dX10_takesE_137 rfl ?_
          refine x_dup (pc := 138) dX10_takesE_138 rfl ?_
          refine x_getI (pc := 139) dX10_takesE_139 flX10_83 (by first | assumption | rfl) rfl ?_
          rw [show (xput M2 79 (vd any none W).length (nI 38)).1 65 24 = nI (vd any none W).length from h2.2.2.2.1]
          refine x_iconstN (pc := 142) 1 dX10_takesE_142 ic_1 ?_
          first | (guard_target =~ Wp _ _ _ _ _ (Value.int (nI _) :: Value.int (nI _) :: _) _ _ _ _; with_reducible refine x_iaddN (pc := 143) dX10_takesE_143 ?_) | refine x_iadd (pc := 143) dX10_takesE_143 ?_
          refine x_putI (pc := 144) dX10_takesE_144 flX10_83 (by first | assumption | rfl) rfl rfl rfl ?_
          refine x_iconstN (pc := 147) 1 dX10_takesE_147 ic_1 ?_
          refine x_istore_n (pc := 148) dX10_takesE_148 (by decide) xs_2 (x_hp rfl) ?_
          refine x_aload_n (pc := 149) dX10_takesE_149 rfl ?_
          refine x_dup (pc := 150) dX10_takesE_150 rfl ?_
          refine x_getI (pc := 151) dX10_takesE_151 flX10_50 (by first | assumption | rfl) rfl ?_
          rw [show (xput (xput M2 79 (vd any none W).length (nI 38)) 65 24 (nI ((vd any none W).length + 1))).1 65 13 = nI q from h2.2.1]
          refine x_iconstN (pc := 154) 1 dX10_takesE_154 ic_1 ?_
          first | (guard_target =~ Wp _ _ _ _ _ (Value.int (nI _) :: Value.int (nI _) :: _) _ _ _ _; with_reducible refine x_iaddN (pc := 155) dX10_takesE_155 ?_) | refine x_iadd (pc := 155) dX10_takesE_155 ?_
          refine x_putI (pc := 156) dX10_takesE_156 flX10_50 (by first | assumption | rfl) rfl rfl rfl ?_
          refine x_goto (pc := 159) (tgt := 22) dX10_takesE_159 (by decide) ?_
          refine ih any (some (cA both e)) (q + 1) C0 W o _ (by omega) (by omega) hof hW hW2 ?_ hn hs _
          have hp2 := h2.push (v := 38)
          have hv : vd any (some (cA both e)) W = 38 :: vd any none W := by cases any <;> rfl
          rw [hv]; exact hp2
        · skip
          omega
      · skip
        omega
    · sorry
end P94
