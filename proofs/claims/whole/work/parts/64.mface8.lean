/-! the MODEL's calls: plan -/
section P64
variable {g : XG} {d : Nat} {M : XM} {K : Option Value → XS → XM → Prop} {s : XSt}
theorem MC9.plan {x n : Nat} (hC : MC9 M s) : MC9 (xput (xput (xput M 91 (qN s 8 0) (nI x)) 92 (qN s 8 0) (nI n)) 65 43 (nI (qN s 8 0 + 1))) (withN s (nPlan (qN s) x n)) := by
  have n1 : M.1 65 39 = nI (qN s 7 0) ∧ ∀ j, j < qN s 7 0 → M.1 88 j = nI (qN s 0 j) ∧ M.1 89 j = nI (qN s 1 j) ∧ M.1 90 j = nI (qN s 2 j) := hC.1.2.2.2.2.2.2.1
  have n2 : M.1 65 43 = nI (qN s 8 0) ∧ ∀ j, j < qN s 8 0 → M.1 91 j = nI (qN s 3 j) ∧ M.1 92 j = nI (qN s 4 j) := hC.1.2.2.2.2.2.2.2.1
  have n3 : M.1 65 44 = nI (qN s 9 0) ∧ ∀ j, j < qN s 9 0 → M.1 93 j = nI (qN s 5 j) ∧ M.1 94 j = nI (qN s 6 j) := hC.1.2.2.2.2.2.2.2.2
  refine hC.nt (.tr (.tr (.put rfl) (.put rfl)) (.put rfl)) (fun k _ q _ => ?_) (fun a q1 q2 => funext fun j => ?_) ?_ ⟨?_, fun j hj => ?_⟩ ?_
  · simp [xput, q]
  · simp [xput, show a ≠ 65 by omega, show a ≠ 91 by omega, show a ≠ 92 by omega]
  · simpa [xput, nPlan] using n1
  · simp [xput, nPlan]
  · rw [show nPlan (qN s) x n 8 0 = qN s 8 0 + 1 by simp [nPlan]] at hj
    by_cases z : j = qN s 8 0
    · subst z; simp [xput, nPlan]
    · have := n2.2 j (by omega); simp [xput, nPlan, z, this]
  · simpa [xput, nPlan] using n3
theorem fM_plan {x n : Int32} (hB : bdA s.1.1) (hN : bdN (qN s)) (hC : MC9 M s) (h : ∀ M', high M M' → MC9 M' (opPlan s x n).2 → K (some (.int (opPlan s x n).1)) xSF M') : Ex g (d + 2) yX10_plan mX10_plan [.ref 65, .int x, .int n] xSF M K := by
  unfold opPlan at h
  have h6 := hB.2.1
  have h10 : qN s 8 0 ≤ 10 := hN.2.2.2.2.1
  have n1 : M.1 65 39 = nI (qN s 7 0) ∧ ∀ j, j < qN s 7 0 → M.1 88 j = nI (qN s 0 j) ∧ M.1 89 j = nI (qN s 1 j) ∧ M.1 90 j = nI (qN s 2 j) := hC.1.2.2.2.2.2.2.1
  have n2 : M.1 65 43 = nI (qN s 8 0) ∧ ∀ j, j < qN s 8 0 → M.1 91 j = nI (qN s 3 j) ∧ M.1 92 j = nI (qN s 4 j) := hC.1.2.2.2.2.2.2.2.1
  have n3 : M.1 65 44 = nI (qN s 9 0) ∧ ∀ j, j < qN s 9 0 → M.1 93 j = nI (qN s 5 j) ∧ M.1 94 j = nI (qN s 6 j) := hC.1.2.2.2.2.2.2.2.2
  refine x_entry kX10_plan (Nat.le_of_ble_eq_true rfl) ?_
  show Wp g _ mX10_plan 0 [some (.ref 65), some (.int x), some (.int n)] [] _ _ _ _
  by_cases e0 : x = -1
  · subst e0
    rw [if_pos rfl] at h
    refine x_iload_n (pc := 0) dX10_plan_0 rfl ?_
    refine x_iconst (pc := 1) dX10_plan_1 ic_m1 ?_
    refine x_icmp_ne (pc := 2) (tgt := 12) dX10_plan_2 (by decide) (fun h2 => ?_) (fun h2 => ?_)
    · skip
      exact absurd rfl h2
    · skip
      refine x_aload_n (pc := 5) dX10_plan_5 rfl ?_
      refine x_iconstN (pc := 6) 0 dX10_plan_6 ic_0 ?_
      refine x_putI (pc := 7) dX10_plan_7 flX10_141 (by first | assumption | rfl) rfl rfl rfl ?_
      refine x_iconstN (pc := 10) 0 dX10_plan_10 ic_0 ?_
      refine x_ret (pc := 11) (v := some _) rfl trivial dX10_plan_11 (by decide) ?_
      refine h _ (high.put (by decide)) (hC.nt (.put rfl) (fun k _ q _ => if_neg (fun z => q z.2)) (fun a q1 q2 => funext fun j => if_neg (by omega)) n1 ⟨rfl, fun j hj => ?_⟩ n3)
      exact absurd hj (by show ¬ j < updA (qN s) 8 0 0 8 0; simp [updA])
  rw [if_neg e0] at h
  have hput : ∀ x' n' : Nat, high M (xput (xput (xput M 91 (qN s 8 0) (nI x')) 92 (qN s 8 0) (nI n')) 65 43 (nI (qN s 8 0 + 1))) := fun _ _ => .tr (.tr (.put (by decide)) (.put (by decide))) (.put (by decide))
  rcases isR_cases (x := x) (n := 4) (by decide) with e | ⟨a, ha, rfl, e⟩
  · simp only [e, Bool.false_eq_true, if_false, false_and] at h
    refine x_iload_n (pc := 0) dX10_plan_0 rfl ?_
    refine x_iconst (pc := 1) dX10_plan_1 ic_m1 ?_
    refine x_icmp_ne (pc := 2) (tgt := 12) dX10_plan_2 (by decide) (fun h2 => ?_) (fun h2 => ?_)
    · skip
      refine x_aload_n (pc := 12) dX10_plan_12 rfl ?_
      refine x_iload_n (pc := 13) dX10_plan_13 rfl ?_
      refine x_iconstN (pc := 14) 0 dX10_plan_14 ic_0 ?_
      refine x_iconstN (pc := 15) 3 dX10_plan_15 ic_3 ?_
      refine x_invV3 (pc := 16) dX10_plan_16 mlX10_253 imX10_in seX10_in kX10_in (by first | assumption | rfl) rfl (Nat.le_of_ble_eq_true rfl) (by decide) ?_
      refine sm_in ?_
      refine x_cv rfl rfl ?_
      rw [btw_isR (by decide), show isR x (nI (3 + 1)) = false from e]
      first | (guard_target =~ Wp _ _ _ _ _ (Value.int (nI _) :: _) _ _ _ _; with_reducible refine x_if_eqN (pc := 19) (tgt := 48) ?_ dX10_plan_19 ?_ (fun h19 => ?_) (fun h19 => ?_); (first | omega | exact b2n_32 _ | exact b2n_31 _); decide) | refine x_if_eq (pc := 19) (tgt := 48) dX10_plan_19 (by decide) (fun h19 => ?_) (fun h19 => ?_)
      · skip
        refine x_iconst (pc := 48) dX10_plan_48 ic_m1 ?_
        refine x_ret (pc := 49) (v := some _) rfl trivial dX10_plan_49 (by decide) ?_
        exact h M high.rf hC
      · skip
        exact absurd rfl h19
    · skip
      exact absurd h2 e0
  simp only [e, true_and] at h
  rw [toN_nI (by omega)] at h
  by_cases a1 : a = 1
  · subst a1
    rcases isR_cases (x := n) (n := s.1.1 8 0) (by omega) with e2 | ⟨b, hb, rfl, e2⟩
    · rw [if_neg (fun q => by rw [q.1 rfl] at e2; cases e2)] at h
      refine x_iload_n (pc := 0) dX10_plan_0 rfl ?_
      refine x_iconst (pc := 1) dX10_plan_1 ic_m1 ?_
      refine x_icmp_ne (pc := 2) (tgt := 12) dX10_plan_2 (by decide) (fun h2 => ?_) (fun h2 => ?_)
      · skip
        refine x_aload_n (pc := 12) dX10_plan_12 rfl ?_
        refine x_iload_n (pc := 13) dX10_plan_13 rfl ?_
        refine x_iconstN (pc := 14) 0 dX10_plan_14 ic_0 ?_
        refine x_iconstN (pc := 15) 3 dX10_plan_15 ic_3 ?_
        refine x_invV3 (pc := 16) dX10_plan_16 mlX10_253 imX10_in seX10_in kX10_in (by first | assumption | rfl) rfl (Nat.le_of_ble_eq_true rfl) (by decide) ?_
        refine sm_in ?_
        refine x_cv rfl rfl ?_
        rw [btw_isR (by decide), show isR (nI 1) (nI (3 + 1)) = true from e]
        first | (guard_target =~ Wp _ _ _ _ _ (Value.int (nI _) :: _) _ _ _ _; with_reducible refine x_if_eqN (pc := 19) (tgt := 48) ?_ dX10_plan_19 ?_ (fun h19 => ?_) (fun h19 => ?_); (first | omega | exact b2n_32 _ | exact b2n_31 _); decide) | refine x_if_eq (pc := 19) (tgt := 48) dX10_plan_19 (by decide) (fun h19 => ?_) (fun h19 => ?_)
        · skip
          cases h19
        · skip
          refine x_iload_n (pc := 22) dX10_plan_22 rfl ?_
          refine x_iconstN (pc := 23) 1 dX10_plan_23 ic_1 ?_
          first | (guard_target =~ Wp _ _ _ _ _ (Value.int (nI _) :: Value.int (nI _) :: _) _ _ _ _; with_reducible refine x_icmp_neN (pc := 24) (tgt := 35) ?_ ?_ dX10_plan_24 ?_ (fun h24 => ?_) (fun h24 => ?_); (first | omega | exact b2n_31 _); (first | omega | exact b2n_31 _); decide) | refine x_icmp_ne (pc := 24) (tgt := 35) dX10_plan_24 (by decide) (fun h24 => ?_) (fun h24 => ?_)
          · skip
            exact absurd rfl h24
          · skip
            refine x_aload_n (pc := 27) dX10_plan_27 rfl ?_
            refine x_iload_n (pc := 28) dX10_plan_28 rfl ?_
            refine x_invV1 (pc := 29) dX10_plan_29 mlX10_264 imX10_isGoer seX10_isGoer kX10_isGoer (by first | assumption | rfl) rfl (Nat.le_of_ble_eq_true rfl) (by decide) ?_
            refine sm_isGoer h6 hC.1.1 ?_
            refine x_cv rfl rfl ?_
            rw [e2]
            first | (guard_target =~ Wp _ _ _ _ _ (Value.int (nI _) :: _) _ _ _ _; with_reducible refine x_if_eqN (pc := 32) (tgt := 48) ?_ dX10_plan_32 ?_ (fun h32 => ?_) (fun h32 => ?_); (first | omega | exact b2n_32 _ | exact b2n_31 _); decide) | refine x_if_eq (pc := 32) (tgt := 48) dX10_plan_32 (by decide) (fun h32 => ?_) (fun h32 => ?_)
            · skip
              refine x_iconst (pc := 48) dX10_plan_48 ic_m1 ?_
              refine x_ret (pc := 49) (v := some _) rfl trivial dX10_plan_49 (by decide) ?_
              exact h M high.rf hC
            · skip
              exact absurd rfl h32
      · skip
        exact absurd h2 e0
    · rw [if_pos ⟨fun _ => e2, fun q => absurd q (by decide)⟩, if_neg (by decide : ¬ (1 : Nat) = 0), toN_nI (by omega)] at h
      refine x_iload_n (pc := 0) dX10_plan_0 rfl ?_
      refine x_iconst (pc := 1) dX10_plan_1 ic_m1 ?_
      refine x_icmp_ne (pc := 2) (tgt := 12) dX10_plan_2 (by decide) (fun h2 => ?_) (fun h2 => ?_)
      · skip
        refine x_aload_n (pc := 12) dX10_plan_12 rfl ?_
        refine x_iload_n (pc := 13) dX10_plan_13 rfl ?_
        refine x_iconstN (pc := 14) 0 dX10_plan_14 ic_0 ?_
        refine x_iconstN (pc := 15) 3 dX10_plan_15 ic_3 ?_
        refine x_invV3 (pc := 16) dX10_plan_16 mlX10_253 imX10_in seX10_in kX10_in (by first | assumption | rfl) rfl (Nat.le_of_ble_eq_true rfl) (by decide) ?_
        refine sm_in ?_
        refine x_cv rfl rfl ?_
        rw [btw_isR (by decide), show isR (nI 1) (nI (3 + 1)) = true from e]
        first | (guard_target =~ Wp _ _ _ _ _ (Value.int (nI _) :: _) _ _ _ _; with_reducible refine x_if_eqN (pc := 19) (tgt := 48) ?_ dX10_plan_19 ?_ (fun h19 => ?_) (fun h19 => ?_); (first | omega | exact b2n_32 _ | exact b2n_31 _); decide) | refine x_if_eq (pc := 19) (tgt := 48) dX10_plan_19 (by decide) (fun h19 => ?_) (fun h19 => ?_)
        · skip
          cases h19
        · skip
          refine x_iload_n (pc := 22) dX10_plan_22 rfl ?_
          refine x_iconstN (pc := 23) 1 dX10_plan_23 ic_1 ?_
          first | (guard_target =~ Wp _ _ _ _ _ (Value.int (nI _) :: Value.int (nI _) :: _) _ _ _ _; with_reducible refine x_icmp_neN (pc := 24) (tgt := 35) ?_ ?_ dX10_plan_24 ?_ (fun h24 => ?_) (fun h24 => ?_); (first | omega | exact b2n_31 _); (first | omega | exact b2n_31 _); decide) | refine x_icmp_ne (pc := 24) (tgt := 35) dX10_plan_24 (by decide) (fun h24 => ?_) (fun h24 => ?_)
          · skip
            exact absurd rfl h24
          · skip
            refine x_aload_n (pc := 27) dX10_plan_27 rfl ?_
            refine x_iload_n (pc := 28) dX10_plan_28 rfl ?_
            refine x_invV1 (pc := 29) dX10_plan_29 mlX10_264 imX10_isGoer seX10_isGoer kX10_isGoer (by first | assumption | rfl) rfl (Nat.le_of_ble_eq_true rfl) (by decide) ?_
            refine sm_isGoer h6 hC.1.1 ?_
            refine x_cv rfl rfl ?_
            rw [e2]
            first | (guard_target =~ Wp _ _ _ _ _ (Value.int (nI _) :: _) _ _ _ _; with_reducible refine x_if_eqN (pc := 32) (tgt := 48) ?_ dX10_plan_32 ?_ (fun h32 => ?_) (fun h32 => ?_); (first | omega | exact b2n_32 _ | exact b2n_31 _); decide) | refine x_if_eq (pc := 32) (tgt := 48) dX10_plan_32 (by decide) (fun h32 => ?_) (fun h32 => ?_)
            · skip
              cases h32
            · skip
              refine x_iload_n (pc := 35) dX10_plan_35 rfl ?_
              refine x_iconstN (pc := 36) 1 dX10_plan_36 ic_1 ?_
              first | (guard_target =~ Wp _ _ _ _ _ (Value.int (nI _) :: Value.int (nI _) :: _) _ _ _ _; with_reducible refine x_icmp_leN (pc := 37) (tgt := 50) ?_ ?_ dX10_plan_37 ?_ (fun h37 => ?_) (fun h37 => ?_); (first | omega | exact b2n_31 _); (first | omega | exact b2n_31 _); decide) | refine x_icmp_le (pc := 37) (tgt := 50) dX10_plan_37 (by decide) (fun h37 => ?_) (fun h37 => ?_)
              · skip
                refine x_aload_n (pc := 50) dX10_plan_50 rfl ?_
                refine x_getI (pc := 51) dX10_plan_51 flX10_141 (by first | assumption | rfl) rfl ?_
                rw [n2.1]
                refine x_bipushN (pc := 54) 10 dX10_plan_54 bp_10 ?_
                first | (guard_target =~ Wp _ _ _ _ _ (Value.int (nI _) :: Value.int (nI _) :: _) _ _ _ _; with_reducible refine x_icmp_neN (pc := 56) (tgt := 62) ?_ ?_ dX10_plan_56 ?_ (fun h56 => ?_) (fun h56 => ?_); (first | omega | exact b2n_31 _); (first | omega | exact b2n_31 _); decide) | refine x_icmp_ne (pc := 56) (tgt := 62) dX10_plan_56 (by decide) (fun h56 => ?_) (fun h56 => ?_)
                · skip
                  refine x_aload_n (pc := 62) dX10_plan_62 rfl ?_
                  refine x_getR (pc := 63) dX10_plan_63 flX10_147 (by first | assumption | rfl) rfl ?_
                  refine x_aload_n (pc := 66) dX10_plan_66 rfl ?_
                  refine x_getI (pc := 67) dX10_plan_67 flX10_141 (by first | assumption | rfl) rfl ?_
                  rw [n2.1]
                  refine x_iload_n (pc := 70) dX10_plan_70 rfl ?_
                  refine x_iastN (pc := 71) dX10_plan_71 (by first | assumption | rfl) (by first | with_reducible rfl | (simp only [xlit, nI_add, pk_mul]; with_reducible rfl)) (by omega) (by decide) ?_
                  refine x_aload_n (pc := 72) dX10_plan_72 rfl ?_
                  refine x_getR (pc := 73) dX10_plan_73 flX10_150 (by first | assumption | rfl) rfl ?_
                  refine x_aload_n (pc := 76) dX10_plan_76 rfl ?_
                  refine x_getI (pc := 77) dX10_plan_77 flX10_141 (by first | assumption | rfl) rfl ?_
                  rw [show (xput M 91 (qN s 8 0) (nI 1)).1 65 43 = nI (qN s 8 0) from n2.1]
                  refine x_iload_n (pc := 80) dX10_plan_80 rfl ?_
                  first | (guard_target =~ Wp _ _ _ _ _ (Value.int (nI _) :: _) _ _ _ _; with_reducible refine x_if_leN (pc := 81) (tgt := 88) ?_ dX10_plan_81 ?_ (fun h81 => ?_) (fun h81 => ?_); (first | omega | exact b2n_32 _ | exact b2n_31 _); decide) | refine x_if_le (pc := 81) (tgt := 88) dX10_plan_81 (by decide) (fun h81 => ?_) (fun h81 => ?_)
                  · skip
                    omega
                  · skip
                    refine x_iload_n (pc := 84) dX10_plan_84 rfl ?_
                    refine x_goto (pc := 85) (tgt := 89) dX10_plan_85 (by decide) ?_
                    refine x_iastN (pc := 89) dX10_plan_89 (by first | assumption | rfl) (by first | with_reducible rfl | (simp only [xlit, nI_add, pk_mul]; with_reducible rfl)) (by omega) (by decide) ?_
                    refine x_aload_n (pc := 90) dX10_plan_90 rfl ?_
                    refine x_dup (pc := 91) dX10_plan_91 rfl ?_
                    refine x_getI (pc := 92) dX10_plan_92 flX10_141 (by first | assumption | rfl) rfl ?_
                    rw [show (xput (xput M 91 (qN s 8 0) (nI 1)) 92 (qN s 8 0) (nI b)).1 65 43 = nI (qN s 8 0) from n2.1]
                    refine x_iconstN (pc := 95) 1 dX10_plan_95 ic_1 ?_
                    first | (guard_target =~ Wp _ _ _ _ _ (Value.int (nI _) :: Value.int (nI _) :: _) _ _ _ _; with_reducible refine x_iaddN (pc := 96) dX10_plan_96 ?_) | refine x_iadd (pc := 96) dX10_plan_96 ?_
                    refine x_putI (pc := 97) dX10_plan_97 flX10_141 (by first | assumption | rfl) rfl rfl rfl ?_
                    refine x_aload_n (pc := 100) dX10_plan_100 rfl ?_
                    refine x_getI (pc := 101) dX10_plan_101 flX10_141 (by first | assumption | rfl) rfl ?_
                    refine x_ret (pc := 104) (v := some _) rfl trivial dX10_plan_104 (by decide) ?_
                    rw [if_pos (by omega)] at h; exact h _ (hput _ _) hC.plan
                · skip
                  refine x_bipush (pc := 59) dX10_plan_59 bp_m4 ?_
                  refine x_ret (pc := 61) (v := some _) rfl trivial dX10_plan_61 (by decide) ?_
                  rw [if_neg (by omega)] at h; exact h M high.rf hC
              · skip
                omega
      · skip
        exact absurd h2 e0
  by_cases a0 : a = 0
  · subst a0
    rw [if_pos ⟨fun q => absurd q (by decide), fun q => absurd q (by decide)⟩, if_pos rfl] at h
    refine x_iload_n (pc := 0) dX10_plan_0 rfl ?_
    refine x_iconst (pc := 1) dX10_plan_1 ic_m1 ?_
    refine x_icmp_ne (pc := 2) (tgt := 12) dX10_plan_2 (by decide) (fun h2 => ?_) (fun h2 => ?_)
    · skip
      refine x_aload_n (pc := 12) dX10_plan_12 rfl ?_
      refine x_iload_n (pc := 13) dX10_plan_13 rfl ?_
      refine x_iconstN (pc := 14) 0 dX10_plan_14 ic_0 ?_
      refine x_iconstN (pc := 15) 3 dX10_plan_15 ic_3 ?_
      refine x_invV3 (pc := 16) dX10_plan_16 mlX10_253 imX10_in seX10_in kX10_in (by first | assumption | rfl) rfl (Nat.le_of_ble_eq_true rfl) (by decide) ?_
      refine sm_in ?_
      refine x_cv rfl rfl ?_
      rw [btw_isR (by decide), show isR (nI 0) (nI (3 + 1)) = true from e]
      first | (guard_target =~ Wp _ _ _ _ _ (Value.int (nI _) :: _) _ _ _ _; with_reducible refine x_if_eqN (pc := 19) (tgt := 48) ?_ dX10_plan_19 ?_ (fun h19 => ?_) (fun h19 => ?_); (first | omega | exact b2n_32 _ | exact b2n_31 _); decide) | refine x_if_eq (pc := 19) (tgt := 48) dX10_plan_19 (by decide) (fun h19 => ?_) (fun h19 => ?_)
      · skip
        cases h19
      · skip
        refine x_iload_n (pc := 22) dX10_plan_22 rfl ?_
        refine x_iconstN (pc := 23) 1 dX10_plan_23 ic_1 ?_
        first | (guard_target =~ Wp _ _ _ _ _ (Value.int (nI _) :: Value.int (nI _) :: _) _ _ _ _; with_reducible refine x_icmp_neN (pc := 24) (tgt := 35) ?_ ?_ dX10_plan_24 ?_ (fun h24 => ?_) (fun h24 => ?_); (first | omega | exact b2n_31 _); (first | omega | exact b2n_31 _); decide) | refine x_icmp_ne (pc := 24) (tgt := 35) dX10_plan_24 (by decide) (fun h24 => ?_) (fun h24 => ?_)
        · skip
          refine x_iload_n (pc := 35) dX10_plan_35 rfl ?_
          refine x_iconstN (pc := 36) 1 dX10_plan_36 ic_1 ?_
          first | (guard_target =~ Wp _ _ _ _ _ (Value.int (nI _) :: Value.int (nI _) :: _) _ _ _ _; with_reducible refine x_icmp_leN (pc := 37) (tgt := 50) ?_ ?_ dX10_plan_37 ?_ (fun h37 => ?_) (fun h37 => ?_); (first | omega | exact b2n_31 _); (first | omega | exact b2n_31 _); decide) | refine x_icmp_le (pc := 37) (tgt := 50) dX10_plan_37 (by decide) (fun h37 => ?_) (fun h37 => ?_)
          · skip
            refine x_aload_n (pc := 50) dX10_plan_50 rfl ?_
            refine x_getI (pc := 51) dX10_plan_51 flX10_141 (by first | assumption | rfl) rfl ?_
            rw [n2.1]
            refine x_bipushN (pc := 54) 10 dX10_plan_54 bp_10 ?_
            first | (guard_target =~ Wp _ _ _ _ _ (Value.int (nI _) :: Value.int (nI _) :: _) _ _ _ _; with_reducible refine x_icmp_neN (pc := 56) (tgt := 62) ?_ ?_ dX10_plan_56 ?_ (fun h56 => ?_) (fun h56 => ?_); (first | omega | exact b2n_31 _); (first | omega | exact b2n_31 _); decide) | refine x_icmp_ne (pc := 56) (tgt := 62) dX10_plan_56 (by decide) (fun h56 => ?_) (fun h56 => ?_)
            · skip
              refine x_aload_n (pc := 62) dX10_plan_62 rfl ?_
              refine x_getR (pc := 63) dX10_plan_63 flX10_147 (by first | assumption | rfl) rfl ?_
              refine x_aload_n (pc := 66) dX10_plan_66 rfl ?_
              refine x_getI (pc := 67) dX10_plan_67 flX10_141 (by first | assumption | rfl) rfl ?_
              rw [n2.1]
              refine x_iload_n (pc := 70) dX10_plan_70 rfl ?_
              refine x_iastN (pc := 71) dX10_plan_71 (by first | assumption | rfl) (by first | with_reducible rfl | (simp only [xlit, nI_add, pk_mul]; with_reducible rfl)) (by omega) (by decide) ?_
              refine x_aload_n (pc := 72) dX10_plan_72 rfl ?_
              refine x_getR (pc := 73) dX10_plan_73 flX10_150 (by first | assumption | rfl) rfl ?_
              refine x_aload_n (pc := 76) dX10_plan_76 rfl ?_
              refine x_getI (pc := 77) dX10_plan_77 flX10_141 (by first | assumption | rfl) rfl ?_
              rw [show (xput M 91 (qN s 8 0) (nI 0)).1 65 43 = nI (qN s 8 0) from n2.1]
              refine x_iload_n (pc := 80) dX10_plan_80 rfl ?_
              first | (guard_target =~ Wp _ _ _ _ _ (Value.int (nI _) :: _) _ _ _ _; with_reducible refine x_if_leN (pc := 81) (tgt := 88) ?_ dX10_plan_81 ?_ (fun h81 => ?_) (fun h81 => ?_); (first | omega | exact b2n_32 _ | exact b2n_31 _); decide) | refine x_if_le (pc := 81) (tgt := 88) dX10_plan_81 (by decide) (fun h81 => ?_) (fun h81 => ?_)
              · skip
                refine x_iconstN (pc := 88) 0 dX10_plan_88 ic_0 ?_
                refine x_iastN (pc := 89) dX10_plan_89 (by first | assumption | rfl) (by first | with_reducible rfl | (simp only [xlit, nI_add, pk_mul]; with_reducible rfl)) (by omega) (by decide) ?_
                refine x_aload_n (pc := 90) dX10_plan_90 rfl ?_
                refine x_dup (pc := 91) dX10_plan_91 rfl ?_
                refine x_getI (pc := 92) dX10_plan_92 flX10_141 (by first | assumption | rfl) rfl ?_
                rw [show (xput (xput M 91 (qN s 8 0) (nI 0)) 92 (qN s 8 0) (nI 0)).1 65 43 = nI (qN s 8 0) from n2.1]
                refine x_iconstN (pc := 95) 1 dX10_plan_95 ic_1 ?_
                first | (guard_target =~ Wp _ _ _ _ _ (Value.int (nI _) :: Value.int (nI _) :: _) _ _ _ _; with_reducible refine x_iaddN (pc := 96) dX10_plan_96 ?_) | refine x_iadd (pc := 96) dX10_plan_96 ?_
                refine x_putI (pc := 97) dX10_plan_97 flX10_141 (by first | assumption | rfl) rfl rfl rfl ?_
                refine x_aload_n (pc := 100) dX10_plan_100 rfl ?_
                refine x_getI (pc := 101) dX10_plan_101 flX10_141 (by first | assumption | rfl) rfl ?_
                refine x_ret (pc := 104) (v := some _) rfl trivial dX10_plan_104 (by decide) ?_
                rw [if_pos (by omega)] at h; exact h _ (hput _ _) hC.plan
              · skip
                omega
            · skip
              refine x_bipush (pc := 59) dX10_plan_59 bp_m4 ?_
              refine x_ret (pc := 61) (v := some _) rfl trivial dX10_plan_61 (by decide) ?_
              rw [if_neg (by omega)] at h; exact h M high.rf hC
          · skip
            omega
        · skip
          omega
    · skip
      exact absurd h2 e0
  rw [if_neg a0] at h
  rcases isR_cases (x := n) (n := 16) (by omega) with e2 | ⟨b, hb, rfl, e2⟩
  · rw [if_neg (fun q => by rw [q.2 (by omega)] at e2; cases e2)] at h
    refine x_iload_n (pc := 0) dX10_plan_0 rfl ?_
    refine x_iconst (pc := 1) dX10_plan_1 ic_m1 ?_
    refine x_icmp_ne (pc := 2) (tgt := 12) dX10_plan_2 (by decide) (fun h2 => ?_) (fun h2 => ?_)
    · skip
      refine x_aload_n (pc := 12) dX10_plan_12 rfl ?_
      refine x_iload_n (pc := 13) dX10_plan_13 rfl ?_
      refine x_iconstN (pc := 14) 0 dX10_plan_14 ic_0 ?_
      refine x_iconstN (pc := 15) 3 dX10_plan_15 ic_3 ?_
      refine x_invV3 (pc := 16) dX10_plan_16 mlX10_253 imX10_in seX10_in kX10_in (by first | assumption | rfl) rfl (Nat.le_of_ble_eq_true rfl) (by decide) ?_
      refine sm_in ?_
      refine x_cv rfl rfl ?_
      rw [btw_isR (by decide), show isR (nI a) (nI (3 + 1)) = true from e]
      first | (guard_target =~ Wp _ _ _ _ _ (Value.int (nI _) :: _) _ _ _ _; with_reducible refine x_if_eqN (pc := 19) (tgt := 48) ?_ dX10_plan_19 ?_ (fun h19 => ?_) (fun h19 => ?_); (first | omega | exact b2n_32 _ | exact b2n_31 _); decide) | refine x_if_eq (pc := 19) (tgt := 48) dX10_plan_19 (by decide) (fun h19 => ?_) (fun h19 => ?_)
      · skip
        cases h19
      · skip
        refine x_iload_n (pc := 22) dX10_plan_22 rfl ?_
        refine x_iconstN (pc := 23) 1 dX10_plan_23 ic_1 ?_
        first | (guard_target =~ Wp _ _ _ _ _ (Value.int (nI _) :: Value.int (nI _) :: _) _ _ _ _; with_reducible refine x_icmp_neN (pc := 24) (tgt := 35) ?_ ?_ dX10_plan_24 ?_ (fun h24 => ?_) (fun h24 => ?_); (first | omega | exact b2n_31 _); (first | omega | exact b2n_31 _); decide) | refine x_icmp_ne (pc := 24) (tgt := 35) dX10_plan_24 (by decide) (fun h24 => ?_) (fun h24 => ?_)
        · skip
          refine x_iload_n (pc := 35) dX10_plan_35 rfl ?_
          refine x_iconstN (pc := 36) 1 dX10_plan_36 ic_1 ?_
          first | (guard_target =~ Wp _ _ _ _ _ (Value.int (nI _) :: Value.int (nI _) :: _) _ _ _ _; with_reducible refine x_icmp_leN (pc := 37) (tgt := 50) ?_ ?_ dX10_plan_37 ?_ (fun h37 => ?_) (fun h37 => ?_); (first | omega | exact b2n_31 _); (first | omega | exact b2n_31 _); decide) | refine x_icmp_le (pc := 37) (tgt := 50) dX10_plan_37 (by decide) (fun h37 => ?_) (fun h37 => ?_)
          · skip
            omega
          · skip
            refine x_aload_n (pc := 40) dX10_plan_40 rfl ?_
            refine x_iload_n (pc := 41) dX10_plan_41 rfl ?_
            refine x_invV1 (pc := 42) dX10_plan_42 mlX10_257 imX10_isCell seX10_isCell kX10_isCell (by first | assumption | rfl) rfl (Nat.le_of_ble_eq_true rfl) (by decide) ?_
            refine sm_isCell ?_
            refine x_cv rfl rfl ?_
            rw [e2]
            first | (guard_target =~ Wp _ _ _ _ _ (Value.int (nI _) :: _) _ _ _ _; with_reducible refine x_if_neN (pc := 45) (tgt := 50) ?_ dX10_plan_45 ?_ (fun h45 => ?_) (fun h45 => ?_); (first | omega | exact b2n_32 _ | exact b2n_31 _); decide) | refine x_if_ne (pc := 45) (tgt := 50) dX10_plan_45 (by decide) (fun h45 => ?_) (fun h45 => ?_)
            · skip
              exact absurd rfl h45
            · skip
              refine x_iconst (pc := 48) dX10_plan_48 ic_m1 ?_
              refine x_ret (pc := 49) (v := some _) rfl trivial dX10_plan_49 (by decide) ?_
              exact h M high.rf hC
        · skip
          omega
    · skip
      exact absurd h2 e0
  · rw [if_pos ⟨fun q => absurd q a1, fun _ => e2⟩, toN_nI (by omega)] at h
    refine x_iload_n (pc := 0) dX10_plan_0 rfl ?_
    refine x_iconst (pc := 1) dX10_plan_1 ic_m1 ?_
    refine x_icmp_ne (pc := 2) (tgt := 12) dX10_plan_2 (by decide) (fun h2 => ?_) (fun h2 => ?_)
    · skip
      refine x_aload_n (pc := 12) dX10_plan_12 rfl ?_
      refine x_iload_n (pc := 13) dX10_plan_13 rfl ?_
      refine x_iconstN (pc := 14) 0 dX10_plan_14 ic_0 ?_
      refine x_iconstN (pc := 15) 3 dX10_plan_15 ic_3 ?_
      refine x_invV3 (pc := 16) dX10_plan_16 mlX10_253 imX10_in seX10_in kX10_in (by first | assumption | rfl) rfl (Nat.le_of_ble_eq_true rfl) (by decide) ?_
      refine sm_in ?_
      refine x_cv rfl rfl ?_
      rw [btw_isR (by decide), show isR (nI a) (nI (3 + 1)) = true from e]
      first | (guard_target =~ Wp _ _ _ _ _ (Value.int (nI _) :: _) _ _ _ _; with_reducible refine x_if_eqN (pc := 19) (tgt := 48) ?_ dX10_plan_19 ?_ (fun h19 => ?_) (fun h19 => ?_); (first | omega | exact b2n_32 _ | exact b2n_31 _); decide) | refine x_if_eq (pc := 19) (tgt := 48) dX10_plan_19 (by decide) (fun h19 => ?_) (fun h19 => ?_)
      · skip
        cases h19
      · skip
        refine x_iload_n (pc := 22) dX10_plan_22 rfl ?_
        refine x_iconstN (pc := 23) 1 dX10_plan_23 ic_1 ?_
        first | (guard_target =~ Wp _ _ _ _ _ (Value.int (nI _) :: Value.int (nI _) :: _) _ _ _ _; with_reducible refine x_icmp_neN (pc := 24) (tgt := 35) ?_ ?_ dX10_plan_24 ?_ (fun h24 => ?_) (fun h24 => ?_); (first | omega | exact b2n_31 _); (first | omega | exact b2n_31 _); decide) | refine x_icmp_ne (pc := 24) (tgt := 35) dX10_plan_24 (by decide) (fun h24 => ?_) (fun h24 => ?_)
        · skip
          refine x_iload_n (pc := 35) dX10_plan_35 rfl ?_
          refine x_iconstN (pc := 36) 1 dX10_plan_36 ic_1 ?_
          first | (guard_target =~ Wp _ _ _ _ _ (Value.int (nI _) :: Value.int (nI _) :: _) _ _ _ _; with_reducible refine x_icmp_leN (pc := 37) (tgt := 50) ?_ ?_ dX10_plan_37 ?_ (fun h37 => ?_) (fun h37 => ?_); (first | omega | exact b2n_31 _); (first | omega | exact b2n_31 _); decide) | refine x_icmp_le (pc := 37) (tgt := 50) dX10_plan_37 (by decide) (fun h37 => ?_) (fun h37 => ?_)
          · skip
            omega
          · skip
            refine x_aload_n (pc := 40) dX10_plan_40 rfl ?_
            refine x_iload_n (pc := 41) dX10_plan_41 rfl ?_
            refine x_invV1 (pc := 42) dX10_plan_42 mlX10_257 imX10_isCell seX10_isCell kX10_isCell (by first | assumption | rfl) rfl (Nat.le_of_ble_eq_true rfl) (by decide) ?_
            refine sm_isCell ?_
            refine x_cv rfl rfl ?_
            rw [e2]
            first | (guard_target =~ Wp _ _ _ _ _ (Value.int (nI _) :: _) _ _ _ _; with_reducible refine x_if_neN (pc := 45) (tgt := 50) ?_ dX10_plan_45 ?_ (fun h45 => ?_) (fun h45 => ?_); (first | omega | exact b2n_32 _ | exact b2n_31 _); decide) | refine x_if_ne (pc := 45) (tgt := 50) dX10_plan_45 (by decide) (fun h45 => ?_) (fun h45 => ?_)
            · skip
              refine x_aload_n (pc := 50) dX10_plan_50 rfl ?_
              refine x_getI (pc := 51) dX10_plan_51 flX10_141 (by first | assumption | rfl) rfl ?_
              rw [n2.1]
              refine x_bipushN (pc := 54) 10 dX10_plan_54 bp_10 ?_
              first | (guard_target =~ Wp _ _ _ _ _ (Value.int (nI _) :: Value.int (nI _) :: _) _ _ _ _; with_reducible refine x_icmp_neN (pc := 56) (tgt := 62) ?_ ?_ dX10_plan_56 ?_ (fun h56 => ?_) (fun h56 => ?_); (first | omega | exact b2n_31 _); (first | omega | exact b2n_31 _); decide) | refine x_icmp_ne (pc := 56) (tgt := 62) dX10_plan_56 (by decide) (fun h56 => ?_) (fun h56 => ?_)
              · skip
                refine x_aload_n (pc := 62) dX10_plan_62 rfl ?_
                refine x_getR (pc := 63) dX10_plan_63 flX10_147 (by first | assumption | rfl) rfl ?_
                refine x_aload_n (pc := 66) dX10_plan_66 rfl ?_
                refine x_getI (pc := 67) dX10_plan_67 flX10_141 (by first | assumption | rfl) rfl ?_
                rw [n2.1]
                refine x_iload_n (pc := 70) dX10_plan_70 rfl ?_
                refine x_iastN (pc := 71) dX10_plan_71 (by first | assumption | rfl) (by first | with_reducible rfl | (simp only [xlit, nI_add, pk_mul]; with_reducible rfl)) (by omega) (by decide) ?_
                refine x_aload_n (pc := 72) dX10_plan_72 rfl ?_
                refine x_getR (pc := 73) dX10_plan_73 flX10_150 (by first | assumption | rfl) rfl ?_
                refine x_aload_n (pc := 76) dX10_plan_76 rfl ?_
                refine x_getI (pc := 77) dX10_plan_77 flX10_141 (by first | assumption | rfl) rfl ?_
                rw [show (xput M 91 (qN s 8 0) (nI a)).1 65 43 = nI (qN s 8 0) from n2.1]
                refine x_iload_n (pc := 80) dX10_plan_80 rfl ?_
                first | (guard_target =~ Wp _ _ _ _ _ (Value.int (nI _) :: _) _ _ _ _; with_reducible refine x_if_leN (pc := 81) (tgt := 88) ?_ dX10_plan_81 ?_ (fun h81 => ?_) (fun h81 => ?_); (first | omega | exact b2n_32 _ | exact b2n_31 _); decide) | refine x_if_le (pc := 81) (tgt := 88) dX10_plan_81 (by decide) (fun h81 => ?_) (fun h81 => ?_)
                · skip
                  omega
                · skip
                  refine x_iload_n (pc := 84) dX10_plan_84 rfl ?_
                  refine x_goto (pc := 85) (tgt := 89) dX10_plan_85 (by decide) ?_
                  refine x_iastN (pc := 89) dX10_plan_89 (by first | assumption | rfl) (by first | with_reducible rfl | (simp only [xlit, nI_add, pk_mul]; with_reducible rfl)) (by omega) (by decide) ?_
                  refine x_aload_n (pc := 90) dX10_plan_90 rfl ?_
                  refine x_dup (pc := 91) dX10_plan_91 rfl ?_
                  refine x_getI (pc := 92) dX10_plan_92 flX10_141 (by first | assumption | rfl) rfl ?_
                  rw [show (xput (xput M 91 (qN s 8 0) (nI a)) 92 (qN s 8 0) (nI b)).1 65 43 = nI (qN s 8 0) from n2.1]
                  refine x_iconstN (pc := 95) 1 dX10_plan_95 ic_1 ?_
                  first | (guard_target =~ Wp _ _ _ _ _ (Value.int (nI _) :: Value.int (nI _) :: _) _ _ _ _; with_reducible refine x_iaddN (pc := 96) dX10_plan_96 ?_) | refine x_iadd (pc := 96) dX10_plan_96 ?_
                  refine x_putI (pc := 97) dX10_plan_97 flX10_141 (by first | assumption | rfl) rfl rfl rfl ?_
                  refine x_aload_n (pc := 100) dX10_plan_100 rfl ?_
                  refine x_getI (pc := 101) dX10_plan_101 flX10_141 (by first | assumption | rfl) rfl ?_
                  refine x_ret (pc := 104) (v := some _) rfl trivial dX10_plan_104 (by decide) ?_
                  rw [if_pos (by omega)] at h; exact h _ (hput _ _) hC.plan
              · skip
                refine x_bipush (pc := 59) dX10_plan_59 bp_m4 ?_
                refine x_ret (pc := 61) (v := some _) rfl trivial dX10_plan_61 (by decide) ?_
                rw [if_neg (by omega)] at h; exact h M high.rf hC
            · skip
              cases h45
        · skip
          omega
    · skip
      exact absurd h2 e0
end P64
