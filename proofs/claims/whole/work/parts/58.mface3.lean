/-! the MODEL's calls: trace, isTape, narrow, read -/
section P58
variable {g : XG} {d : Nat} {M : XM} {K : Option Value → XS → XM → Prop} {s : XSt}
theorem fM_trace {i : Int32} (hC : MC9 M s) (hl : (sTr s).length < 20000) (h : ∀ M', high M M' → MC9 M' s → K (some (.int (vTrace s i))) xSF M') : Ex g (d + 1) yX10_trace mX10_trace [.ref 65, .int i] xSF M K := by
  unfold vTrace at h
  have hT : M.1 65 71 = nI (sTr s).length ∧ ∀ j, j < 20 → j < (sTr s).length → M.1 108 j = nI ((sTr s).getD j 0) := hC.2.2.2.2.1
  refine x_entry kX10_trace (Nat.le_of_ble_eq_true rfl) ?_
  show Wp g _ mX10_trace 0 [some (.ref 65), some (.int i)] [] _ _ _ _
  rcases isR_cases (x := i) (n := 20) (by decide) with e | ⟨k, hk, rfl, e⟩
  · rw [if_neg (fun q => by rw [show isR i 20 = false from e] at q; cases q.1)] at h
    refine x_aload_n (pc := 0) dX10_trace_0 rfl ?_
    refine x_iload_n (pc := 1) dX10_trace_1 rfl ?_
    refine x_iconstN (pc := 2) 0 dX10_trace_2 ic_0 ?_
    refine x_bipushN (pc := 3) 19 dX10_trace_3 bp_19 ?_
    refine x_invV3 (pc := 5) dX10_trace_5 mlX10_253 imX10_in seX10_in kX10_in (by first | assumption | rfl) rfl (Nat.le_of_ble_eq_true rfl) (by decide) ?_
    refine sm_in ?_
    refine x_cv rfl rfl ?_
    rw [btw_isR (by decide), show isR i (nI (19 + 1)) = false from e]
    first | (guard_target =~ Wp _ _ _ _ _ (Value.int (nI _) :: _) _ _ _ _; with_reducible refine x_if_eqN (pc := 8) (tgt := 28) ?_ dX10_trace_8 ?_ (fun h8 => ?_) (fun h8 => ?_); (first | omega | exact b2n_32 _ | exact b2n_31 _); decide) | refine x_if_eq (pc := 8) (tgt := 28) dX10_trace_8 (by decide) (fun h8 => ?_) (fun h8 => ?_)
    · skip
      refine x_iconst (pc := 28) dX10_trace_28 ic_m1 ?_
      refine x_ret (pc := 29) (v := some _) rfl trivial dX10_trace_29 (by decide) ?_
      exact h M high.rf hC
    · skip
      exact absurd rfl h8
  · skip
    refine x_aload_n (pc := 0) dX10_trace_0 rfl ?_
    refine x_iload_n (pc := 1) dX10_trace_1 rfl ?_
    refine x_iconstN (pc := 2) 0 dX10_trace_2 ic_0 ?_
    refine x_bipushN (pc := 3) 19 dX10_trace_3 bp_19 ?_
    refine x_invV3 (pc := 5) dX10_trace_5 mlX10_253 imX10_in seX10_in kX10_in (by first | assumption | rfl) rfl (Nat.le_of_ble_eq_true rfl) (by decide) ?_
    refine sm_in ?_
    refine x_cv rfl rfl ?_
    rw [btw_isR (by decide), show isR (nI k) (nI (19 + 1)) = true from e]
    first | (guard_target =~ Wp _ _ _ _ _ (Value.int (nI _) :: _) _ _ _ _; with_reducible refine x_if_eqN (pc := 8) (tgt := 28) ?_ dX10_trace_8 ?_ (fun h8 => ?_) (fun h8 => ?_); (first | omega | exact b2n_32 _ | exact b2n_31 _); decide) | refine x_if_eq (pc := 8) (tgt := 28) dX10_trace_8 (by decide) (fun h8 => ?_) (fun h8 => ?_)
    · skip
      cases h8
    · skip
      refine x_iload_n (pc := 11) dX10_trace_11 rfl ?_
      refine x_aload_n (pc := 12) dX10_trace_12 rfl ?_
      refine x_getI (pc := 13) dX10_trace_13 flX10_226 (by first | assumption | rfl) rfl ?_
      rw [hT.1]
      first | (guard_target =~ Wp _ _ _ _ _ (Value.int (nI _) :: Value.int (nI _) :: _) _ _ _ _; with_reducible refine x_icmp_geN (pc := 16) (tgt := 28) ?_ ?_ dX10_trace_16 ?_ (fun h16 => ?_) (fun h16 => ?_); (first | omega | exact b2n_31 _); (first | omega | exact b2n_31 _); decide) | refine x_icmp_ge (pc := 16) (tgt := 28) dX10_trace_16 (by decide) (fun h16 => ?_) (fun h16 => ?_)
      · skip
        refine x_iconst (pc := 28) dX10_trace_28 ic_m1 ?_
        refine x_ret (pc := 29) (v := some _) rfl trivial dX10_trace_29 (by decide) ?_
        rw [if_neg (fun q => absurd ((nI_ltI (by omega) (by omega)).mp q.2) (by omega))] at h; exact h M high.rf hC
      · skip
        refine x_aload_n (pc := 19) dX10_trace_19 rfl ?_
        refine x_getR (pc := 20) dX10_trace_20 flX10_229 (by first | assumption | rfl) rfl ?_
        refine x_iload_n (pc := 23) dX10_trace_23 rfl ?_
        refine x_ialdN (pc := 24) dX10_trace_24 (by first | assumption | rfl) (by first | with_reducible rfl | (simp only [xlit, nI_add, pk_mul]; with_reducible rfl)) (by omega) (by decide) ?_
        rw [hT.2 k hk (by omega)]
        refine x_goto (pc := 25) (tgt := 29) dX10_trace_25 (by decide) ?_
        refine x_ret (pc := 29) (v := some _) rfl trivial dX10_trace_29 (by decide) ?_
        rw [if_pos ⟨e, nI_lt (by omega) (by omega)⟩, nI_clamp (by omega)] at h; exact h M high.rf hC
theorem sm_isTape {c : Int32} (h : K (some (.int (nI (b2n (isR c (nI 6)))))) xSF M) : Ex g (d + 1) yX10_isTape mX10_isTape [.ref 65, .int c] xSF M K := by
  refine x_entry kX10_isTape (Nat.le_of_ble_eq_true rfl) ?_
  show Wp g _ mX10_isTape 0 [some (.ref 65), some (.int c)] [] _ _ _ _
  refine x_aload_n (pc := 0) dX10_isTape_0 rfl ?_
  refine x_iload_n (pc := 1) dX10_isTape_1 rfl ?_
  refine x_iconstN (pc := 2) 0 dX10_isTape_2 ic_0 ?_
  refine x_iconstN (pc := 3) 5 dX10_isTape_3 ic_5 ?_
  refine x_invV3 (pc := 4) dX10_isTape_4 mlX10_253 imX10_in seX10_in kX10_in (by first | assumption | rfl) rfl (Nat.le_of_ble_eq_true rfl) (by decide) ?_
  refine sm_in ?_
  refine x_cv rfl rfl ?_
  rw [btw_isR (by decide)]
  refine x_ret (pc := 7) (v := some _) rfl (by first | rfl | decide | exact xrt_b) dX10_isTape_7 (by decide) ?_
  exact h
end P58
