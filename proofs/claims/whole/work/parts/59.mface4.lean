/-! the MODEL's calls: taken -/
theorem isU7_eq : ∀ k, k < 7 → ∀ o, o < 7 → isU7 k o = decide (o = 0 ∨ k = o ∨ (o = 1 ∧ k = 4) ∨ (o = 2 ∧ k = 5) ∨ (o = 3 ∧ k = 6)) := by decide +kernel
section P59
variable {g : XG} {d : Nat} {M : XM} {K : Option Value → XS → XM → Prop} {s : XSt}
theorem fM_taken {x k : Int32} (hB : bdA s.1.1) (hC : MC9 M s) (h : ∀ M', high M M' → MC9 M' s → K (some (.int (vTaken s x k))) xSF M') : Ex g (d + 2) yX10_taken mX10_taken [.ref 65, .int x, .int k] xSF M K := by
  unfold vTaken at h
  have hP := hC.1.2.2.2.2.2.1
  have h6 := hB.2.1
  refine x_entry kX10_taken (Nat.le_of_ble_eq_true rfl) ?_
  show Wp g _ mX10_taken 0 [some (.ref 65), some (.int x), some (.int k), none] [] _ _ _ _
  rcases isR_cases (x := k) (n := 7) (by omega) with e | ⟨k, hk, rfl, e⟩
  · simp only [e, Bool.false_eq_true, if_false] at h
    refine x_aload_n (pc := 0) dX10_taken_0 rfl ?_
    refine x_iload_n (pc := 1) dX10_taken_1 rfl ?_
    refine x_iconstN (pc := 2) 0 dX10_taken_2 ic_0 ?_
    refine x_bipushN (pc := 3) 6 dX10_taken_3 bp_6 ?_
    refine x_invV3 (pc := 5) dX10_taken_5 mlX10_253 imX10_in seX10_in kX10_in (by first | assumption | rfl) rfl (Nat.le_of_ble_eq_true rfl) (by decide) ?_
    refine sm_in ?_
    refine x_cv rfl rfl ?_
    rw [btw_isR (by decide), show isR k (nI (6 + 1)) = false from e]
    first | (guard_target =~ Wp _ _ _ _ _ (Value.int (nI _) :: _) _ _ _ _; with_reducible refine x_if_neN (pc := 8) (tgt := 14) ?_ dX10_taken_8 ?_ (fun h8 => ?_) (fun h8 => ?_); (first | omega | exact b2n_32 _ | exact b2n_31 _); decide) | refine x_if_ne (pc := 8) (tgt := 14) dX10_taken_8 (by decide) (fun h8 => ?_) (fun h8 => ?_)
    · skip
      exact absurd rfl h8
    · skip
      refine x_bipush (pc := 11) dX10_taken_11 bp_m2 ?_
      refine x_ret (pc := 13) (v := some _) rfl trivial dX10_taken_13 (by decide) ?_
      exact h M high.rf hC
  simp only [e, if_true] at h
  rw [toN_nI (by omega)] at h
  rcases isR_cases (x := x) (n := s.1.1 8 0) (by omega) with e2 | ⟨j, hj, rfl, e2⟩
  · simp only [e2, Bool.false_eq_true, if_false] at h
    refine x_aload_n (pc := 0) dX10_taken_0 rfl ?_
    refine x_iload_n (pc := 1) dX10_taken_1 rfl ?_
    refine x_iconstN (pc := 2) 0 dX10_taken_2 ic_0 ?_
    refine x_bipushN (pc := 3) 6 dX10_taken_3 bp_6 ?_
    refine x_invV3 (pc := 5) dX10_taken_5 mlX10_253 imX10_in seX10_in kX10_in (by first | assumption | rfl) rfl (Nat.le_of_ble_eq_true rfl) (by decide) ?_
    refine sm_in ?_
    refine x_cv rfl rfl ?_
    rw [btw_isR (by decide), show isR (nI k) (nI (6 + 1)) = true from e]
    first | (guard_target =~ Wp _ _ _ _ _ (Value.int (nI _) :: _) _ _ _ _; with_reducible refine x_if_neN (pc := 8) (tgt := 14) ?_ dX10_taken_8 ?_ (fun h8 => ?_) (fun h8 => ?_); (first | omega | exact b2n_32 _ | exact b2n_31 _); decide) | refine x_if_ne (pc := 8) (tgt := 14) dX10_taken_8 (by decide) (fun h8 => ?_) (fun h8 => ?_)
    · skip
      refine x_aload_n (pc := 14) dX10_taken_14 rfl ?_
      refine x_iload_n (pc := 15) dX10_taken_15 rfl ?_
      refine x_invV1 (pc := 16) dX10_taken_16 mlX10_264 imX10_isGoer seX10_isGoer kX10_isGoer (by first | assumption | rfl) rfl (Nat.le_of_ble_eq_true rfl) (by decide) ?_
      refine sm_isGoer h6 hC.1.1 ?_
      refine x_cv rfl rfl ?_
      rw [e2]
      first | (guard_target =~ Wp _ _ _ _ _ (Value.int (nI _) :: _) _ _ _ _; with_reducible refine x_if_neN (pc := 19) (tgt := 25) ?_ dX10_taken_19 ?_ (fun h19 => ?_) (fun h19 => ?_); (first | omega | exact b2n_32 _ | exact b2n_31 _); decide) | refine x_if_ne (pc := 19) (tgt := 25) dX10_taken_19 (by decide) (fun h19 => ?_) (fun h19 => ?_)
      · skip
        exact absurd rfl h19
      · skip
        refine x_bipush (pc := 22) dX10_taken_22 bp_m11 ?_
        refine x_ret (pc := 24) (v := some _) rfl trivial dX10_taken_24 (by decide) ?_
        exact h M high.rf hC
    · skip
      cases h8
  simp only [e2, if_true] at h
  rw [toN_nI (by omega)] at h
  have hkb : s.1.1 1 j < 7 := hB.1 1 (by decide) j (show j < 6 by omega)
  rw [isU7_eq _ hkb _ hk] at h
  refine x_aload_n (pc := 0) dX10_taken_0 rfl ?_
  refine x_iload_n (pc := 1) dX10_taken_1 rfl ?_
  refine x_iconstN (pc := 2) 0 dX10_taken_2 ic_0 ?_
  refine x_bipushN (pc := 3) 6 dX10_taken_3 bp_6 ?_
  refine x_invV3 (pc := 5) dX10_taken_5 mlX10_253 imX10_in seX10_in kX10_in (by first | assumption | rfl) rfl (Nat.le_of_ble_eq_true rfl) (by decide) ?_
  refine sm_in ?_
  refine x_cv rfl rfl ?_
  rw [btw_isR (by decide), show isR (nI k) (nI (6 + 1)) = true from e]
  first | (guard_target =~ Wp _ _ _ _ _ (Value.int (nI _) :: _) _ _ _ _; with_reducible refine x_if_neN (pc := 8) (tgt := 14) ?_ dX10_taken_8 ?_ (fun h8 => ?_) (fun h8 => ?_); (first | omega | exact b2n_32 _ | exact b2n_31 _); decide) | refine x_if_ne (pc := 8) (tgt := 14) dX10_taken_8 (by decide) (fun h8 => ?_) (fun h8 => ?_)
  · skip
    refine x_aload_n (pc := 14) dX10_taken_14 rfl ?_
    refine x_iload_n (pc := 15) dX10_taken_15 rfl ?_
    refine x_invV1 (pc := 16) dX10_taken_16 mlX10_264 imX10_isGoer seX10_isGoer kX10_isGoer (by first | assumption | rfl) rfl (Nat.le_of_ble_eq_true rfl) (by decide) ?_
    refine sm_isGoer h6 hC.1.1 ?_
    refine x_cv rfl rfl ?_
    rw [e2]
    first | (guard_target =~ Wp _ _ _ _ _ (Value.int (nI _) :: _) _ _ _ _; with_reducible refine x_if_neN (pc := 19) (tgt := 25) ?_ dX10_taken_19 ?_ (fun h19 => ?_) (fun h19 => ?_); (first | omega | exact b2n_32 _ | exact b2n_31 _); decide) | refine x_if_ne (pc := 19) (tgt := 25) dX10_taken_19 (by decide) (fun h19 => ?_) (fun h19 => ?_)
    · skip
      refine x_aload_n (pc := 25) dX10_taken_25 rfl ?_
      refine x_getR (pc := 26) dX10_taken_26 flX10_26 (by first | assumption | rfl) rfl ?_
      refine x_iload_n (pc := 29) dX10_taken_29 rfl ?_
      refine x_ialdN (pc := 30) dX10_taken_30 (by first | assumption | rfl) (by first | with_reducible rfl | (simp only [xlit, nI_add, pk_mul]; with_reducible rfl)) (by omega) (by decide) ?_
      rw [show M.1 67 j = nI (s.1.1 1 j) from hP 1 (by decide) j (show j < 6 by omega)]
      refine x_istore_n (pc := 31) dX10_taken_31 (by decide) xs_3 (x_hp rfl) ?_
      refine x_iload_n (pc := 32) dX10_taken_32 rfl ?_
      first | (guard_target =~ Wp _ _ _ _ _ (Value.int (nI _) :: _) _ _ _ _; with_reducible refine x_if_eqN (pc := 33) (tgt := 72) ?_ dX10_taken_33 ?_ (fun h33 => ?_) (fun h33 => ?_); (first | omega | exact b2n_32 _ | exact b2n_31 _); decide) | refine x_if_eq (pc := 33) (tgt := 72) dX10_taken_33 (by decide) (fun h33 => ?_) (fun h33 => ?_)
      · skip
        refine x_iload_n (pc := 72) dX10_taken_72 rfl ?_
        refine x_goto (pc := 73) (tgt := 78) dX10_taken_73 (by decide) ?_
        refine x_ret (pc := 78) (v := some _) rfl trivial dX10_taken_78 (by decide) ?_
        first | (rw [if_pos (decide_eq_true (by omega))] at h; exact h M high.rf hC) | (rw [if_neg (fun q => absurd (of_decide_eq_true q) (by omega))] at h; exact h M high.rf hC)
      · skip
        refine x_iload_n (pc := 36) dX10_taken_36 rfl ?_
        refine x_iload_n (pc := 37) dX10_taken_37 rfl ?_
        first | (guard_target =~ Wp _ _ _ _ _ (Value.int (nI _) :: Value.int (nI _) :: _) _ _ _ _; with_reducible refine x_icmp_eqN (pc := 38) (tgt := 72) ?_ ?_ dX10_taken_38 ?_ (fun h38 => ?_) (fun h38 => ?_); (first | omega | exact b2n_31 _); (first | omega | exact b2n_31 _); decide) | refine x_icmp_eq (pc := 38) (tgt := 72) dX10_taken_38 (by decide) (fun h38 => ?_) (fun h38 => ?_)
        · skip
          refine x_iload_n (pc := 72) dX10_taken_72 rfl ?_
          refine x_goto (pc := 73) (tgt := 78) dX10_taken_73 (by decide) ?_
          refine x_ret (pc := 78) (v := some _) rfl trivial dX10_taken_78 (by decide) ?_
          first | (rw [if_pos (decide_eq_true (by omega))] at h; exact h M high.rf hC) | (rw [if_neg (fun q => absurd (of_decide_eq_true q) (by omega))] at h; exact h M high.rf hC)
        · skip
          refine x_iload_n (pc := 41) dX10_taken_41 rfl ?_
          refine x_iconstN (pc := 42) 1 dX10_taken_42 ic_1 ?_
          first | (guard_target =~ Wp _ _ _ _ _ (Value.int (nI _) :: Value.int (nI _) :: _) _ _ _ _; with_reducible refine x_icmp_neN (pc := 43) (tgt := 51) ?_ ?_ dX10_taken_43 ?_ (fun h43 => ?_) (fun h43 => ?_); (first | omega | exact b2n_31 _); (first | omega | exact b2n_31 _); decide) | refine x_icmp_ne (pc := 43) (tgt := 51) dX10_taken_43 (by decide) (fun h43 => ?_) (fun h43 => ?_)
          · skip
            refine x_iload_n (pc := 51) dX10_taken_51 rfl ?_
            refine x_iconstN (pc := 52) 2 dX10_taken_52 ic_2 ?_
            first | (guard_target =~ Wp _ _ _ _ _ (Value.int (nI _) :: Value.int (nI _) :: _) _ _ _ _; with_reducible refine x_icmp_neN (pc := 53) (tgt := 61) ?_ ?_ dX10_taken_53 ?_ (fun h53 => ?_) (fun h53 => ?_); (first | omega | exact b2n_31 _); (first | omega | exact b2n_31 _); decide) | refine x_icmp_ne (pc := 53) (tgt := 61) dX10_taken_53 (by decide) (fun h53 => ?_) (fun h53 => ?_)
            · skip
              refine x_iload_n (pc := 61) dX10_taken_61 rfl ?_
              refine x_iconstN (pc := 62) 3 dX10_taken_62 ic_3 ?_
              first | (guard_target =~ Wp _ _ _ _ _ (Value.int (nI _) :: Value.int (nI _) :: _) _ _ _ _; with_reducible refine x_icmp_neN (pc := 63) (tgt := 76) ?_ ?_ dX10_taken_63 ?_ (fun h63 => ?_) (fun h63 => ?_); (first | omega | exact b2n_31 _); (first | omega | exact b2n_31 _); decide) | refine x_icmp_ne (pc := 63) (tgt := 76) dX10_taken_63 (by decide) (fun h63 => ?_) (fun h63 => ?_)
              · skip
                refine x_bipush (pc := 76) dX10_taken_76 bp_m12 ?_
                refine x_ret (pc := 78) (v := some _) rfl trivial dX10_taken_78 (by decide) ?_
                first | (rw [if_pos (decide_eq_true (by omega))] at h; exact h M high.rf hC) | (rw [if_neg (fun q => absurd (of_decide_eq_true q) (by omega))] at h; exact h M high.rf hC)
              · skip
                refine x_iload_n (pc := 66) dX10_taken_66 rfl ?_
                refine x_bipushN (pc := 67) 6 dX10_taken_67 bp_6 ?_
                first | (guard_target =~ Wp _ _ _ _ _ (Value.int (nI _) :: Value.int (nI _) :: _) _ _ _ _; with_reducible refine x_icmp_neN (pc := 69) (tgt := 76) ?_ ?_ dX10_taken_69 ?_ (fun h69 => ?_) (fun h69 => ?_); (first | omega | exact b2n_31 _); (first | omega | exact b2n_31 _); decide) | refine x_icmp_ne (pc := 69) (tgt := 76) dX10_taken_69 (by decide) (fun h69 => ?_) (fun h69 => ?_)
                · skip
                  refine x_bipush (pc := 76) dX10_taken_76 bp_m12 ?_
                  refine x_ret (pc := 78) (v := some _) rfl trivial dX10_taken_78 (by decide) ?_
                  first | (rw [if_pos (decide_eq_true (by omega))] at h; exact h M high.rf hC) | (rw [if_neg (fun q => absurd (of_decide_eq_true q) (by omega))] at h; exact h M high.rf hC)
                · skip
                  refine x_iload_n (pc := 72) dX10_taken_72 rfl ?_
                  refine x_goto (pc := 73) (tgt := 78) dX10_taken_73 (by decide) ?_
                  refine x_ret (pc := 78) (v := some _) rfl trivial dX10_taken_78 (by decide) ?_
                  first | (rw [if_pos (decide_eq_true (by omega))] at h; exact h M high.rf hC) | (rw [if_neg (fun q => absurd (of_decide_eq_true q) (by omega))] at h; exact h M high.rf hC)
            · skip
              refine x_iload_n (pc := 56) dX10_taken_56 rfl ?_
              refine x_iconstN (pc := 57) 5 dX10_taken_57 ic_5 ?_
              first | (guard_target =~ Wp _ _ _ _ _ (Value.int (nI _) :: Value.int (nI _) :: _) _ _ _ _; with_reducible refine x_icmp_eqN (pc := 58) (tgt := 72) ?_ ?_ dX10_taken_58 ?_ (fun h58 => ?_) (fun h58 => ?_); (first | omega | exact b2n_31 _); (first | omega | exact b2n_31 _); decide) | refine x_icmp_eq (pc := 58) (tgt := 72) dX10_taken_58 (by decide) (fun h58 => ?_) (fun h58 => ?_)
              · skip
                refine x_iload_n (pc := 72) dX10_taken_72 rfl ?_
                refine x_goto (pc := 73) (tgt := 78) dX10_taken_73 (by decide) ?_
                refine x_ret (pc := 78) (v := some _) rfl trivial dX10_taken_78 (by decide) ?_
                first | (rw [if_pos (decide_eq_true (by omega))] at h; exact h M high.rf hC) | (rw [if_neg (fun q => absurd (of_decide_eq_true q) (by omega))] at h; exact h M high.rf hC)
              · skip
                refine x_iload_n (pc := 61) dX10_taken_61 rfl ?_
                refine x_iconstN (pc := 62) 3 dX10_taken_62 ic_3 ?_
                first | (guard_target =~ Wp _ _ _ _ _ (Value.int (nI _) :: Value.int (nI _) :: _) _ _ _ _; with_reducible refine x_icmp_neN (pc := 63) (tgt := 76) ?_ ?_ dX10_taken_63 ?_ (fun h63 => ?_) (fun h63 => ?_); (first | omega | exact b2n_31 _); (first | omega | exact b2n_31 _); decide) | refine x_icmp_ne (pc := 63) (tgt := 76) dX10_taken_63 (by decide) (fun h63 => ?_) (fun h63 => ?_)
                · skip
                  refine x_bipush (pc := 76) dX10_taken_76 bp_m12 ?_
                  refine x_ret (pc := 78) (v := some _) rfl trivial dX10_taken_78 (by decide) ?_
                  first | (rw [if_pos (decide_eq_true (by omega))] at h; exact h M high.rf hC) | (rw [if_neg (fun q => absurd (of_decide_eq_true q) (by omega))] at h; exact h M high.rf hC)
                · skip
                  refine x_iload_n (pc := 66) dX10_taken_66 rfl ?_
                  refine x_bipushN (pc := 67) 6 dX10_taken_67 bp_6 ?_
                  first | (guard_target =~ Wp _ _ _ _ _ (Value.int (nI _) :: Value.int (nI _) :: _) _ _ _ _; with_reducible refine x_icmp_neN (pc := 69) (tgt := 76) ?_ ?_ dX10_taken_69 ?_ (fun h69 => ?_) (fun h69 => ?_); (first | omega | exact b2n_31 _); (first | omega | exact b2n_31 _); decide) | refine x_icmp_ne (pc := 69) (tgt := 76) dX10_taken_69 (by decide) (fun h69 => ?_) (fun h69 => ?_)
                  · skip
                    refine x_bipush (pc := 76) dX10_taken_76 bp_m12 ?_
                    refine x_ret (pc := 78) (v := some _) rfl trivial dX10_taken_78 (by decide) ?_
                    first | (rw [if_pos (decide_eq_true (by omega))] at h; exact h M high.rf hC) | (rw [if_neg (fun q => absurd (of_decide_eq_true q) (by omega))] at h; exact h M high.rf hC)
                  · skip
                    refine x_iload_n (pc := 72) dX10_taken_72 rfl ?_
                    refine x_goto (pc := 73) (tgt := 78) dX10_taken_73 (by decide) ?_
                    refine x_ret (pc := 78) (v := some _) rfl trivial dX10_taken_78 (by decide) ?_
                    first | (rw [if_pos (decide_eq_true (by omega))] at h; exact h M high.rf hC) | (rw [if_neg (fun q => absurd (of_decide_eq_true q) (by omega))] at h; exact h M high.rf hC)
          · skip
            refine x_iload_n (pc := 46) dX10_taken_46 rfl ?_
            refine x_iconstN (pc := 47) 4 dX10_taken_47 ic_4 ?_
            first | (guard_target =~ Wp _ _ _ _ _ (Value.int (nI _) :: Value.int (nI _) :: _) _ _ _ _; with_reducible refine x_icmp_eqN (pc := 48) (tgt := 72) ?_ ?_ dX10_taken_48 ?_ (fun h48 => ?_) (fun h48 => ?_); (first | omega | exact b2n_31 _); (first | omega | exact b2n_31 _); decide) | refine x_icmp_eq (pc := 48) (tgt := 72) dX10_taken_48 (by decide) (fun h48 => ?_) (fun h48 => ?_)
            · skip
              refine x_iload_n (pc := 72) dX10_taken_72 rfl ?_
              refine x_goto (pc := 73) (tgt := 78) dX10_taken_73 (by decide) ?_
              refine x_ret (pc := 78) (v := some _) rfl trivial dX10_taken_78 (by decide) ?_
              first | (rw [if_pos (decide_eq_true (by omega))] at h; exact h M high.rf hC) | (rw [if_neg (fun q => absurd (of_decide_eq_true q) (by omega))] at h; exact h M high.rf hC)
            · skip
              refine x_iload_n (pc := 51) dX10_taken_51 rfl ?_
              refine x_iconstN (pc := 52) 2 dX10_taken_52 ic_2 ?_
              first | (guard_target =~ Wp _ _ _ _ _ (Value.int (nI _) :: Value.int (nI _) :: _) _ _ _ _; with_reducible refine x_icmp_neN (pc := 53) (tgt := 61) ?_ ?_ dX10_taken_53 ?_ (fun h53 => ?_) (fun h53 => ?_); (first | omega | exact b2n_31 _); (first | omega | exact b2n_31 _); decide) | refine x_icmp_ne (pc := 53) (tgt := 61) dX10_taken_53 (by decide) (fun h53 => ?_) (fun h53 => ?_)
              · skip
                refine x_iload_n (pc := 61) dX10_taken_61 rfl ?_
                refine x_iconstN (pc := 62) 3 dX10_taken_62 ic_3 ?_
                first | (guard_target =~ Wp _ _ _ _ _ (Value.int (nI _) :: Value.int (nI _) :: _) _ _ _ _; with_reducible refine x_icmp_neN (pc := 63) (tgt := 76) ?_ ?_ dX10_taken_63 ?_ (fun h63 => ?_) (fun h63 => ?_); (first | omega | exact b2n_31 _); (first | omega | exact b2n_31 _); decide) | refine x_icmp_ne (pc := 63) (tgt := 76) dX10_taken_63 (by decide) (fun h63 => ?_) (fun h63 => ?_)
                · skip
                  refine x_bipush (pc := 76) dX10_taken_76 bp_m12 ?_
                  refine x_ret (pc := 78) (v := some _) rfl trivial dX10_taken_78 (by decide) ?_
                  first | (rw [if_pos (decide_eq_true (by omega))] at h; exact h M high.rf hC) | (rw [if_neg (fun q => absurd (of_decide_eq_true q) (by omega))] at h; exact h M high.rf hC)
                · skip
                  refine x_iload_n (pc := 66) dX10_taken_66 rfl ?_
                  refine x_bipushN (pc := 67) 6 dX10_taken_67 bp_6 ?_
                  first | (guard_target =~ Wp _ _ _ _ _ (Value.int (nI _) :: Value.int (nI _) :: _) _ _ _ _; with_reducible refine x_icmp_neN (pc := 69) (tgt := 76) ?_ ?_ dX10_taken_69 ?_ (fun h69 => ?_) (fun h69 => ?_); (first | omega | exact b2n_31 _); (first | omega | exact b2n_31 _); decide) | refine x_icmp_ne (pc := 69) (tgt := 76) dX10_taken_69 (by decide) (fun h69 => ?_) (fun h69 => ?_)
                  · skip
                    refine x_bipush (pc := 76) dX10_taken_76 bp_m12 ?_
                    refine x_ret (pc := 78) (v := some _) rfl trivial dX10_taken_78 (by decide) ?_
                    first | (rw [if_pos (decide_eq_true (by omega))] at h; exact h M high.rf hC) | (rw [if_neg (fun q => absurd (of_decide_eq_true q) (by omega))] at h; exact h M high.rf hC)
                  · skip
                    refine x_iload_n (pc := 72) dX10_taken_72 rfl ?_
                    refine x_goto (pc := 73) (tgt := 78) dX10_taken_73 (by decide) ?_
                    refine x_ret (pc := 78) (v := some _) rfl trivial dX10_taken_78 (by decide) ?_
                    first | (rw [if_pos (decide_eq_true (by omega))] at h; exact h M high.rf hC) | (rw [if_neg (fun q => absurd (of_decide_eq_true q) (by omega))] at h; exact h M high.rf hC)
              · skip
                refine x_iload_n (pc := 56) dX10_taken_56 rfl ?_
                refine x_iconstN (pc := 57) 5 dX10_taken_57 ic_5 ?_
                first | (guard_target =~ Wp _ _ _ _ _ (Value.int (nI _) :: Value.int (nI _) :: _) _ _ _ _; with_reducible refine x_icmp_eqN (pc := 58) (tgt := 72) ?_ ?_ dX10_taken_58 ?_ (fun h58 => ?_) (fun h58 => ?_); (first | omega | exact b2n_31 _); (first | omega | exact b2n_31 _); decide) | refine x_icmp_eq (pc := 58) (tgt := 72) dX10_taken_58 (by decide) (fun h58 => ?_) (fun h58 => ?_)
                · skip
                  refine x_iload_n (pc := 72) dX10_taken_72 rfl ?_
                  refine x_goto (pc := 73) (tgt := 78) dX10_taken_73 (by decide) ?_
                  refine x_ret (pc := 78) (v := some _) rfl trivial dX10_taken_78 (by decide) ?_
                  first | (rw [if_pos (decide_eq_true (by omega))] at h; exact h M high.rf hC) | (rw [if_neg (fun q => absurd (of_decide_eq_true q) (by omega))] at h; exact h M high.rf hC)
                · skip
                  refine x_iload_n (pc := 61) dX10_taken_61 rfl ?_
                  refine x_iconstN (pc := 62) 3 dX10_taken_62 ic_3 ?_
                  first | (guard_target =~ Wp _ _ _ _ _ (Value.int (nI _) :: Value.int (nI _) :: _) _ _ _ _; with_reducible refine x_icmp_neN (pc := 63) (tgt := 76) ?_ ?_ dX10_taken_63 ?_ (fun h63 => ?_) (fun h63 => ?_); (first | omega | exact b2n_31 _); (first | omega | exact b2n_31 _); decide) | refine x_icmp_ne (pc := 63) (tgt := 76) dX10_taken_63 (by decide) (fun h63 => ?_) (fun h63 => ?_)
                  · skip
                    refine x_bipush (pc := 76) dX10_taken_76 bp_m12 ?_
                    refine x_ret (pc := 78) (v := some _) rfl trivial dX10_taken_78 (by decide) ?_
                    first | (rw [if_pos (decide_eq_true (by omega))] at h; exact h M high.rf hC) | (rw [if_neg (fun q => absurd (of_decide_eq_true q) (by omega))] at h; exact h M high.rf hC)
                  · skip
                    refine x_iload_n (pc := 66) dX10_taken_66 rfl ?_
                    refine x_bipushN (pc := 67) 6 dX10_taken_67 bp_6 ?_
                    first | (guard_target =~ Wp _ _ _ _ _ (Value.int (nI _) :: Value.int (nI _) :: _) _ _ _ _; with_reducible refine x_icmp_neN (pc := 69) (tgt := 76) ?_ ?_ dX10_taken_69 ?_ (fun h69 => ?_) (fun h69 => ?_); (first | omega | exact b2n_31 _); (first | omega | exact b2n_31 _); decide) | refine x_icmp_ne (pc := 69) (tgt := 76) dX10_taken_69 (by decide) (fun h69 => ?_) (fun h69 => ?_)
                    · skip
                      refine x_bipush (pc := 76) dX10_taken_76 bp_m12 ?_
                      refine x_ret (pc := 78) (v := some _) rfl trivial dX10_taken_78 (by decide) ?_
                      first | (rw [if_pos (decide_eq_true (by omega))] at h; exact h M high.rf hC) | (rw [if_neg (fun q => absurd (of_decide_eq_true q) (by omega))] at h; exact h M high.rf hC)
                    · skip
                      refine x_iload_n (pc := 72) dX10_taken_72 rfl ?_
                      refine x_goto (pc := 73) (tgt := 78) dX10_taken_73 (by decide) ?_
                      refine x_ret (pc := 78) (v := some _) rfl trivial dX10_taken_78 (by decide) ?_
                      first | (rw [if_pos (decide_eq_true (by omega))] at h; exact h M high.rf hC) | (rw [if_neg (fun q => absurd (of_decide_eq_true q) (by omega))] at h; exact h M high.rf hC)
    · skip
      cases h19
  · skip
    cases h8
end P59
