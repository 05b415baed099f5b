/-! the MODEL: narrow -/
section P60
variable {g : XG} {d : Nat} {M : XM} {K : Option Value → XS → XM → Prop} {s : XSt}
theorem sm_narrow {k : Nat} {v : Int64} (hk : k ≤ 5) (h0 : k ≠ 0) (h : K (some (.long (nar k v))) xSF M) : Ex g d yX10_narrow mX10_narrow [.ref 65, .int (srt k), .long v] xSF M K := by
  have hh : k = 1 ∨ k = 2 ∨ k = 3 ∨ k = 4 ∨ k = 5 := by omega
  rcases hh with rfl | rfl | rfl | rfl | rfl
  · skip
    refine x_entry kX10_narrow (Nat.le_of_ble_eq_true rfl) ?_
    show Wp g _ mX10_narrow 0 [some (.ref 65), some (.int (srt 1)), some (.long v), none] [] _ _ _ _
    refine x_iload_n (pc := 0) dX10_narrow_0 rfl ?_
    refine x_if_ne (pc := 1) (tgt := 11) dX10_narrow_1 (by decide) (fun h1 => ?_) (fun h1 => ?_)
    · skip
      exact absurd rfl h1
    · skip
      refine x_lload_n (pc := 4) dX10_narrow_4 rfl ?_
      refine x_l2i (pc := 5) dX10_narrow_5 ?_
      refine x_i2b (pc := 6) dX10_narrow_6 ?_
      refine x_i2l (pc := 7) dX10_narrow_7 ?_
      refine x_goto (pc := 8) (tgt := 54) dX10_narrow_8 (by decide) ?_
      refine x_ret (pc := 54) (v := some _) rfl trivial dX10_narrow_54 (by decide) ?_
      exact h
  · skip
    refine x_entry kX10_narrow (Nat.le_of_ble_eq_true rfl) ?_
    show Wp g _ mX10_narrow 0 [some (.ref 65), some (.int (srt 2)), some (.long v), none] [] _ _ _ _
    refine x_iload_n (pc := 0) dX10_narrow_0 rfl ?_
    refine x_if_ne (pc := 1) (tgt := 11) dX10_narrow_1 (by decide) (fun h1 => ?_) (fun h1 => ?_)
    · skip
      refine x_iload_n (pc := 11) dX10_narrow_11 rfl ?_
      refine x_iconstN (pc := 12) 1 dX10_narrow_12 ic_1 ?_
      refine x_icmp_ne (pc := 13) (tgt := 23) dX10_narrow_13 (by decide) (fun h13 => ?_) (fun h13 => ?_)
      · skip
        exact absurd rfl h13
      · skip
        refine x_lload_n (pc := 16) dX10_narrow_16 rfl ?_
        refine x_l2i (pc := 17) dX10_narrow_17 ?_
        refine x_i2s (pc := 18) dX10_narrow_18 ?_
        refine x_i2l (pc := 19) dX10_narrow_19 ?_
        refine x_goto (pc := 20) (tgt := 54) dX10_narrow_20 (by decide) ?_
        refine x_ret (pc := 54) (v := some _) rfl trivial dX10_narrow_54 (by decide) ?_
        exact h
    · skip
      exact absurd h1 (by decide)
  · skip
    refine x_entry kX10_narrow (Nat.le_of_ble_eq_true rfl) ?_
    show Wp g _ mX10_narrow 0 [some (.ref 65), some (.int (srt 3)), some (.long v), none] [] _ _ _ _
    refine x_iload_n (pc := 0) dX10_narrow_0 rfl ?_
    refine x_if_ne (pc := 1) (tgt := 11) dX10_narrow_1 (by decide) (fun h1 => ?_) (fun h1 => ?_)
    · skip
      refine x_iload_n (pc := 11) dX10_narrow_11 rfl ?_
      refine x_iconstN (pc := 12) 1 dX10_narrow_12 ic_1 ?_
      refine x_icmp_ne (pc := 13) (tgt := 23) dX10_narrow_13 (by decide) (fun h13 => ?_) (fun h13 => ?_)
      · skip
        refine x_iload_n (pc := 23) dX10_narrow_23 rfl ?_
        refine x_iconstN (pc := 24) 2 dX10_narrow_24 ic_2 ?_
        refine x_icmp_ne (pc := 25) (tgt := 34) dX10_narrow_25 (by decide) (fun h25 => ?_) (fun h25 => ?_)
        · skip
          exact absurd rfl h25
        · skip
          refine x_lload_n (pc := 28) dX10_narrow_28 rfl ?_
          refine x_l2i (pc := 29) dX10_narrow_29 ?_
          refine x_i2l (pc := 30) dX10_narrow_30 ?_
          refine x_goto (pc := 31) (tgt := 54) dX10_narrow_31 (by decide) ?_
          refine x_ret (pc := 54) (v := some _) rfl trivial dX10_narrow_54 (by decide) ?_
          exact h
      · skip
        exact absurd h13 (by decide)
    · skip
      exact absurd h1 (by decide)
  · skip
    refine x_entry kX10_narrow (Nat.le_of_ble_eq_true rfl) ?_
    show Wp g _ mX10_narrow 0 [some (.ref 65), some (.int (srt 4)), some (.long v), none] [] _ _ _ _
    refine x_iload_n (pc := 0) dX10_narrow_0 rfl ?_
    refine x_if_ne (pc := 1) (tgt := 11) dX10_narrow_1 (by decide) (fun h1 => ?_) (fun h1 => ?_)
    · skip
      refine x_iload_n (pc := 11) dX10_narrow_11 rfl ?_
      refine x_iconstN (pc := 12) 1 dX10_narrow_12 ic_1 ?_
      refine x_icmp_ne (pc := 13) (tgt := 23) dX10_narrow_13 (by decide) (fun h13 => ?_) (fun h13 => ?_)
      · skip
        refine x_iload_n (pc := 23) dX10_narrow_23 rfl ?_
        refine x_iconstN (pc := 24) 2 dX10_narrow_24 ic_2 ?_
        refine x_icmp_ne (pc := 25) (tgt := 34) dX10_narrow_25 (by decide) (fun h25 => ?_) (fun h25 => ?_)
        · skip
          refine x_iload_n (pc := 34) dX10_narrow_34 rfl ?_
          refine x_iconstN (pc := 35) 4 dX10_narrow_35 ic_4 ?_
          refine x_icmp_ne (pc := 36) (tgt := 53) dX10_narrow_36 (by decide) (fun h36 => ?_) (fun h36 => ?_)
          · skip
            refine x_lload_n (pc := 53) dX10_narrow_53 rfl ?_
            refine x_ret (pc := 54) (v := some _) rfl trivial dX10_narrow_54 (by decide) ?_
            exact h
          · skip
            exact absurd h36 (by decide)
        · skip
          exact absurd h25 (by decide)
      · skip
        exact absurd h13 (by decide)
    · skip
      exact absurd h1 (by decide)
  · skip
    refine x_entry kX10_narrow (Nat.le_of_ble_eq_true rfl) ?_
    show Wp g _ mX10_narrow 0 [some (.ref 65), some (.int (srt 5)), some (.long v), none] [] _ _ _ _
    refine x_iload_n (pc := 0) dX10_narrow_0 rfl ?_
    refine x_if_ne (pc := 1) (tgt := 11) dX10_narrow_1 (by decide) (fun h1 => ?_) (fun h1 => ?_)
    · skip
      refine x_iload_n (pc := 11) dX10_narrow_11 rfl ?_
      refine x_iconstN (pc := 12) 1 dX10_narrow_12 ic_1 ?_
      refine x_icmp_ne (pc := 13) (tgt := 23) dX10_narrow_13 (by decide) (fun h13 => ?_) (fun h13 => ?_)
      · skip
        refine x_iload_n (pc := 23) dX10_narrow_23 rfl ?_
        refine x_iconstN (pc := 24) 2 dX10_narrow_24 ic_2 ?_
        refine x_icmp_ne (pc := 25) (tgt := 34) dX10_narrow_25 (by decide) (fun h25 => ?_) (fun h25 => ?_)
        · skip
          refine x_iload_n (pc := 34) dX10_narrow_34 rfl ?_
          refine x_iconstN (pc := 35) 4 dX10_narrow_35 ic_4 ?_
          refine x_icmp_ne (pc := 36) (tgt := 53) dX10_narrow_36 (by decide) (fun h36 => ?_) (fun h36 => ?_)
          · skip
            exact absurd rfl h36
          · skip
            refine x_lload_n (pc := 39) dX10_narrow_39 rfl ?_
            refine x_lconst (pc := 40) (v := 0) dX10_narrow_40 (by decide) ?_
            refine x_lcmp (pc := 41) dX10_narrow_41 ?_
            first | (guard_target =~ Wp _ _ _ _ _ (Value.int (nI _) :: _) _ _ _ _; with_reducible refine x_if_eqN (pc := 42) (tgt := 49) ?_ dX10_narrow_42 ?_ (fun h42 => ?_) (fun h42 => ?_); (first | omega | exact b2n_32 _ | exact b2n_31 _); decide) | refine x_if_eq (pc := 42) (tgt := 49) dX10_narrow_42 (by decide) (fun h42 => ?_) (fun h42 => ?_)
            · skip
              refine x_lconst (pc := 49) (v := 0) dX10_narrow_49 (by decide) ?_
              refine x_goto (pc := 50) (tgt := 54) dX10_narrow_50 (by decide) ?_
              refine x_ret (pc := 54) (v := some _) rfl trivial dX10_narrow_54 (by decide) ?_
              rw [show nar 5 v = 0 from if_pos ((lcmp0).mp h42)] at h; exact h
            · skip
              refine x_lconst (pc := 45) (v := 1) dX10_narrow_45 (by decide) ?_
              refine x_goto (pc := 46) (tgt := 54) dX10_narrow_46 (by decide) ?_
              refine x_ret (pc := 54) (v := some _) rfl trivial dX10_narrow_54 (by decide) ?_
              rw [show nar 5 v = 1 from if_neg (fun q => h42 ((lcmp0).mpr q))] at h; exact h
        · skip
          exact absurd h25 (by decide)
      · skip
        exact absurd h13 (by decide)
    · skip
      exact absurd h1 (by decide)
end P60
