/-! the MODEL's calls: meet, told; allWays -/
theorem trd_1 {A : XA} {w : Int32} {g c : Nat} : trd A w g c 1 = tbyW A w g c (A 11 0) := by rw [trd_succ, trd_0, Nat.zero_add, Nat.add_zero]
section P85
variable {g : XG} {d : Nat} {M M0 : XM} {K : Option Value → XS → XM → Prop} {s : XSt}
theorem fM_meet {x y : Int32} (hC : MC9 M s) (ok : okM s) (h : ∀ M', high M M' → MC9 M' s → K (some (.int (vMeet s x y))) xSF M') : Ex g (d + 5) yX10_meet mX10_meet [.ref 65, .int x, .int y] xSF M K := by
  unfold vMeet at h
  have hB := ok.bd
  have h6 := hB.2.1
  have hQ := hC.1.mq
  have hL2 := ok.cache
  refine x_entry kX10_meet (Nat.le_of_ble_eq_true rfl) ?_
  show Wp g _ mX10_meet 0 [some (.ref 65), some (.int x), some (.int y)] [] _ _ _ _
  rcases isR_cases (x := x) (n := s.1.1 8 0) (by omega) with e | ⟨i, hi, rfl, e⟩
  · simp only [e, Bool.false_eq_true, if_false, false_and] at h
    refine x_aload_n (pc := 0) dX10_meet_0 rfl ?_
    refine x_iload_n (pc := 1) dX10_meet_1 rfl ?_
    refine x_invV1 (pc := 2) dX10_meet_2 mlX10_264 imX10_isGoer seX10_isGoer kX10_isGoer (by first | assumption | rfl) rfl (Nat.le_of_ble_eq_true rfl) (by decide) ?_
    refine sm_isGoer h6 hC.1.1 ?_
    refine x_cv rfl rfl ?_
    rw [e]
    first | (guard_target =~ Wp _ _ _ _ _ (Value.int (nI _) :: _) _ _ _ _; with_reducible refine x_if_eqN (pc := 5) (tgt := 16) ?_ dX10_meet_5 ?_ (fun h5 => ?_) (fun h5 => ?_); (first | omega | exact b2n_32 _ | exact b2n_31 _); decide) | refine x_if_eq (pc := 5) (tgt := 16) dX10_meet_5 (by decide) (fun h5 => ?_) (fun h5 => ?_)
    · skip
      refine x_iconst (pc := 16) dX10_meet_16 ic_m1 ?_
      refine x_ret (pc := 17) (v := some _) rfl trivial dX10_meet_17 (by decide) ?_
      exact h M high.rf hC
    · skip
      exact absurd rfl h5
  rcases isR_cases (x := y) (n := s.1.1 8 0) (by omega) with e2 | ⟨j, hj, rfl, e2⟩
  · simp only [e2, Bool.false_eq_true, if_false, and_false] at h
    refine x_aload_n (pc := 0) dX10_meet_0 rfl ?_
    refine x_iload_n (pc := 1) dX10_meet_1 rfl ?_
    refine x_invV1 (pc := 2) dX10_meet_2 mlX10_264 imX10_isGoer seX10_isGoer kX10_isGoer (by first | assumption | rfl) rfl (Nat.le_of_ble_eq_true rfl) (by decide) ?_
    refine sm_isGoer h6 hC.1.1 ?_
    refine x_cv rfl rfl ?_
    rw [e]
    first | (guard_target =~ Wp _ _ _ _ _ (Value.int (nI _) :: _) _ _ _ _; with_reducible refine x_if_eqN (pc := 5) (tgt := 16) ?_ dX10_meet_5 ?_ (fun h5 => ?_) (fun h5 => ?_); (first | omega | exact b2n_32 _ | exact b2n_31 _); decide) | refine x_if_eq (pc := 5) (tgt := 16) dX10_meet_5 (by decide) (fun h5 => ?_) (fun h5 => ?_)
    · skip
      cases h5
    · skip
      refine x_aload_n (pc := 8) dX10_meet_8 rfl ?_
      refine x_iload_n (pc := 9) dX10_meet_9 rfl ?_
      refine x_invV1 (pc := 10) dX10_meet_10 mlX10_264 imX10_isGoer seX10_isGoer kX10_isGoer (by first | assumption | rfl) rfl (Nat.le_of_ble_eq_true rfl) (by decide) ?_
      refine sm_isGoer h6 hC.1.1 ?_
      refine x_cv rfl rfl ?_
      rw [e2]
      first | (guard_target =~ Wp _ _ _ _ _ (Value.int (nI _) :: _) _ _ _ _; with_reducible refine x_if_neN (pc := 13) (tgt := 18) ?_ dX10_meet_13 ?_ (fun h13 => ?_) (fun h13 => ?_); (first | omega | exact b2n_32 _ | exact b2n_31 _); decide) | refine x_if_ne (pc := 13) (tgt := 18) dX10_meet_13 (by decide) (fun h13 => ?_) (fun h13 => ?_)
      · skip
        exact absurd rfl h13
      · skip
        refine x_iconst (pc := 16) dX10_meet_16 ic_m1 ?_
        refine x_ret (pc := 17) (v := some _) rfl trivial dX10_meet_17 (by decide) ?_
        exact h M high.rf hC
  simp only [e, e2, and_self, if_true] at h
  rw [toN_nI (by omega), toN_nI (by omega)] at h
  have hwi := wb_lt hB (show i < 6 by omega)
  have hwj := wb_lt hB (show j < 6 by omega)
  refine x_aload_n (pc := 0) dX10_meet_0 rfl ?_
  refine x_iload_n (pc := 1) dX10_meet_1 rfl ?_
  refine x_invV1 (pc := 2) dX10_meet_2 mlX10_264 imX10_isGoer seX10_isGoer kX10_isGoer (by first | assumption | rfl) rfl (Nat.le_of_ble_eq_true rfl) (by decide) ?_
  refine sm_isGoer h6 hC.1.1 ?_
  refine x_cv rfl rfl ?_
  rw [e]
  first | (guard_target =~ Wp _ _ _ _ _ (Value.int (nI _) :: _) _ _ _ _; with_reducible refine x_if_eqN (pc := 5) (tgt := 16) ?_ dX10_meet_5 ?_ (fun h5 => ?_) (fun h5 => ?_); (first | omega | exact b2n_32 _ | exact b2n_31 _); decide) | refine x_if_eq (pc := 5) (tgt := 16) dX10_meet_5 (by decide) (fun h5 => ?_) (fun h5 => ?_)
  · skip
    cases h5
  · skip
    refine x_aload_n (pc := 8) dX10_meet_8 rfl ?_
    refine x_iload_n (pc := 9) dX10_meet_9 rfl ?_
    refine x_invV1 (pc := 10) dX10_meet_10 mlX10_264 imX10_isGoer seX10_isGoer kX10_isGoer (by first | assumption | rfl) rfl (Nat.le_of_ble_eq_true rfl) (by decide) ?_
    refine sm_isGoer h6 hC.1.1 ?_
    refine x_cv rfl rfl ?_
    rw [e2]
    first | (guard_target =~ Wp _ _ _ _ _ (Value.int (nI _) :: _) _ _ _ _; with_reducible refine x_if_neN (pc := 13) (tgt := 18) ?_ dX10_meet_13 ?_ (fun h13 => ?_) (fun h13 => ?_); (first | omega | exact b2n_32 _ | exact b2n_31 _); decide) | refine x_if_ne (pc := 13) (tgt := 18) dX10_meet_13 (by decide) (fun h13 => ?_) (fun h13 => ?_)
    · skip
      refine x_iload_n (pc := 18) dX10_meet_18 rfl ?_
      refine x_iload_n (pc := 19) dX10_meet_19 rfl ?_
      first | (guard_target =~ Wp _ _ _ _ _ (Value.int (nI _) :: Value.int (nI _) :: _) _ _ _ _; with_reducible refine x_icmp_neN (pc := 20) (tgt := 28) ?_ ?_ dX10_meet_20 ?_ (fun h20 => ?_) (fun h20 => ?_); (first | omega | exact b2n_31 _); (first | omega | exact b2n_31 _); decide) | refine x_icmp_ne (pc := 20) (tgt := 28) dX10_meet_20 (by decide) (fun h20 => ?_) (fun h20 => ?_)
      · skip
        refine x_aload_n (pc := 28) dX10_meet_28 rfl ?_
        refine x_iload_n (pc := 29) dX10_meet_29 rfl ?_
        refine x_invV1 (pc := 30) dX10_meet_30 mlX10_342 imX10_waySet seX10_waySet kX10_waySet (by first | assumption | rfl) rfl (Nat.le_of_ble_eq_true rfl) (by decide) ?_
        refine sm_waySet hB hQ (by omega) (fun M1 ho1 => ?_)
        refine x_cv rfl rfl ?_
        refine x_aload_n (pc := 33) dX10_meet_33 rfl ?_
        refine x_iload_n (pc := 34) dX10_meet_34 rfl ?_
        refine x_invV1 (pc := 35) dX10_meet_35 mlX10_342 imX10_waySet seX10_waySet kX10_waySet (by first | assumption | rfl) rfl (Nat.le_of_ble_eq_true rfl) (by decide) ?_
        refine sm_waySet hB (hQ.keep ho1 pW_Q) (by omega) (fun M2 ho2 => ?_)
        refine x_cv rfl rfl ?_
        first | (guard_target =~ Wp _ _ _ _ _ (Value.int (nI _) :: Value.int (nI _) :: _) _ _ _ _; with_reducible refine x_iandN (pc := 38) dX10_meet_38 ?_) | refine x_iand (pc := 38) dX10_meet_38 ?_
        refine x_ret (pc := 39) (v := some _) rfl trivial dX10_meet_39 (by decide) ?_
        rw [if_neg h20, hL2.1 i hi, hL2.1 j hj] at h
        have q := (((ho1.tr ho2).wide pZ_W).qsm)
        exact h M2 q.1.1 (hC.st q)
      · skip
        refine x_bipush (pc := 23) dX10_meet_23 bp_m2 ?_
        refine x_goto (pc := 25) (tgt := 39) dX10_meet_25 (by decide) ?_
        refine x_ret (pc := 39) (v := some _) rfl trivial dX10_meet_39 (by decide) ?_
        rw [if_pos h20] at h; exact h M high.rf hC
    · skip
      cases h13
theorem sm_allWays (hC : MC9 M s) (ok : okM s) (h : ∀ M', only pZ M M' → K (some (.int (nI (trodG s.1.1 (qw s) (s.1.1 8 0))))) xSF M') : Ex g (d + 5) yX10_allWays mX10_allWays [.ref 65] xSF M K := by
  have hB := ok.bd
  have h6 := hB.2.1
  have hQ := hC.1.mq
  have hL2 := ok.cache
  have h11 := ok.std.2
  refine x_entry kX10_allWays (Nat.le_of_ble_eq_true rfl) ?_
  show Wp g _ mX10_allWays 0 [some (.ref 65), none, none, none, none] [] _ _ _ _
  have gl : ∀ m gg M1 o3 o4, gg + m = s.1.1 8 0 → only pW M M1 → Wp g (d + 5) mX10_allWays 4 [some (.ref 65), some (.int (nI (trodG s.1.1 (qw s) gg))), some (.int (nI gg)), o3, o4] [] xSF (0, 0) M1 K := by
    intro m
    induction m with
    | zero =>
      intro gg M1 o3 o4 hm ho
      obtain rfl : gg = s.1.1 8 0 := by omega
      refine x_iload_n (pc := 4) dX10_allWays_4 rfl ?_
      refine x_aload_n (pc := 5) dX10_allWays_5 rfl ?_
      refine x_getI (pc := 6) dX10_allWays_6 flX10_7 (by first | assumption | rfl) rfl ?_
      rw [(hQ.keep ho pW_Q).1]
      first | (guard_target =~ Wp _ _ _ _ _ (Value.int (nI _) :: Value.int (nI _) :: _) _ _ _ _; with_reducible refine x_icmp_geN (pc := 9) (tgt := 81) ?_ ?_ dX10_allWays_9 ?_ (fun h9 => ?_) (fun h9 => ?_); (first | omega | exact b2n_31 _); (first | omega | exact b2n_31 _); decide) | refine x_icmp_ge (pc := 9) (tgt := 81) dX10_allWays_9 (by decide) (fun h9 => ?_) (fun h9 => ?_)
      · skip
        refine x_iload_n (pc := 81) dX10_allWays_81 rfl ?_
        refine x_ret (pc := 82) (v := some _) rfl trivial dX10_allWays_82 (by decide) ?_
        exact h M1 (ho.wide pZ_W)
      · skip
        omega
    | succ m ih =>
      intro gg M1 o3 o4 hm ho
      have hg : gg < 6 := by omega
      have hQ1 := hQ.keep ho pW_Q
      have hwb := wb_lt hB hg
      have etb : tb (qw s) gg = s.1.2.1.testBit gg := tb_nI (by omega)
      by_cases haw : s.1.2.1.testBit gg = true
      · have nx := ih (gg + 1) M1 o3 o4 (by omega) ho
        have hz : trodG s.1.1 (qw s) (gg + 1) = trodG s.1.1 (qw s) gg := by
          rw [trodG, show xset (fun c => decide (0 < trd s.1.1 (qw s) gg c 1)) 16 = 0 from ?_, Nat.or_zero]
          apply Nat.eq_of_testBit_eq
          intro i
          rw [xset_tb, trd_1, Nat.zero_testBit]
          unfold tbyW
          rw [etb, if_pos haw]
          simp
        rw [hz] at nx
        refine x_iload_n (pc := 4) dX10_allWays_4 rfl ?_
        refine x_aload_n (pc := 5) dX10_allWays_5 rfl ?_
        refine x_getI (pc := 6) dX10_allWays_6 flX10_7 (by first | assumption | rfl) rfl ?_
        rw [hQ1.1]
        first | (guard_target =~ Wp _ _ _ _ _ (Value.int (nI _) :: Value.int (nI _) :: _) _ _ _ _; with_reducible refine x_icmp_geN (pc := 9) (tgt := 81) ?_ ?_ dX10_allWays_9 ?_ (fun h9 => ?_) (fun h9 => ?_); (first | omega | exact b2n_31 _); (first | omega | exact b2n_31 _); decide) | refine x_icmp_ge (pc := 9) (tgt := 81) dX10_allWays_9 (by decide) (fun h9 => ?_) (fun h9 => ?_)
        · skip
          omega
        · skip
          refine x_aload_n (pc := 12) dX10_allWays_12 rfl ?_
          refine x_aload_n (pc := 13) dX10_allWays_13 rfl ?_
          refine x_getI (pc := 14) dX10_allWays_14 flX10_13 (by first | assumption | rfl) rfl ?_
          rw [hQ1.2.1]
          refine x_iload_n (pc := 17) dX10_allWays_17 rfl ?_
          refine x_invV2 (pc := 18) dX10_allWays_18 mlX10_245 imX10_has seX10_has kX10_has (by first | assumption | rfl) rfl (Nat.le_of_ble_eq_true rfl) (by decide) ?_
          refine sm_has (by omega) ?_
          refine x_cv rfl rfl ?_
          rw [tb_nI (by omega), haw]
          first | (guard_target =~ Wp _ _ _ _ _ (Value.int (nI _) :: _) _ _ _ _; with_reducible refine x_if_eqN (pc := 21) (tgt := 27) ?_ dX10_allWays_21 ?_ (fun h21 => ?_) (fun h21 => ?_); (first | omega | exact b2n_32 _ | exact b2n_31 _); decide) | refine x_if_eq (pc := 21) (tgt := 27) dX10_allWays_21 (by decide) (fun h21 => ?_) (fun h21 => ?_)
          · skip
            cases h21
          · skip
            refine x_goto (pc := 24) (tgt := 75) dX10_allWays_24 (by decide) ?_
            first | (guard_target =~ Wp _ _ _ _ (_ :: _ :: some (Value.int (nI _)) :: _) _ _ _ _ _; with_reducible refine x_iincN (pc := 75) 1 ic_1 dX10_allWays_75 ?_ xg_2 xs_2 ?_ ?_; decide; exact (x_hp rfl)) | refine x_iincC (pc := 75) ic_1 dX10_allWays_75 (by decide) rfl xs_2 (x_hp rfl) ?_
            refine x_goto (pc := 78) (tgt := 4) dX10_allWays_78 (by decide) ?_
            exact nx
      · have haw2 : s.1.2.1.testBit gg = false := by simpa using haw
        have ht : ∀ c, trd s.1.1 (qw s) gg c 1 = tby s.1.1 gg (wbits (wayL s.1.1 gg)) c (s.1.1 11 0) := by
          intro c
          rw [trd_1]; unfold tbyW
          rw [etb, if_neg haw, hL2.1 gg (by omega)]
        have cl : ∀ m c M2, c + m = 16 → only pW M M2 → Wp g (d + 5) mX10_allWays 36 [some (.ref 65), some (.int (nI (trodG s.1.1 (qw s) gg ||| xset (fun c => decide (0 < trd s.1.1 (qw s) gg c 1)) c))), some (.int (nI gg)), some (.int (nI (wbits (wayL s.1.1 gg)))), some (.int (nI c))] [] xSF (0, 0) M2 K := by
          intro m2
          induction m2 with
          | zero =>
            intro c M2 hc ho2
            obtain rfl : c = 16 := by omega
            refine x_iload (pc := 36) dX10_allWays_36 rfl ?_
            refine x_bipushN (pc := 38) 16 dX10_allWays_38 bp_16 ?_
            first | (guard_target =~ Wp _ _ _ _ _ (Value.int (nI _) :: Value.int (nI _) :: _) _ _ _ _; with_reducible refine x_icmp_geN (pc := 40) (tgt := 75) ?_ ?_ dX10_allWays_40 ?_ (fun h40 => ?_) (fun h40 => ?_); (first | omega | exact b2n_31 _); (first | omega | exact b2n_31 _); decide) | refine x_icmp_ge (pc := 40) (tgt := 75) dX10_allWays_40 (by decide) (fun h40 => ?_) (fun h40 => ?_)
            · skip
              first | (guard_target =~ Wp _ _ _ _ (_ :: _ :: some (Value.int (nI _)) :: _) _ _ _ _ _; with_reducible refine x_iincN (pc := 75) 1 ic_1 dX10_allWays_75 ?_ xg_2 xs_2 ?_ ?_; decide; exact (x_hp rfl)) | refine x_iincC (pc := 75) ic_1 dX10_allWays_75 (by decide) rfl xs_2 (x_hp rfl) ?_
              refine x_goto (pc := 78) (tgt := 4) dX10_allWays_78 (by decide) ?_
              exact ih (gg + 1) M2 _ _ (by omega) ho2
            · skip
              omega
          | succ m2 ih2 =>
            intro c M2 hc ho2
            have hc16 : c < 16 := by omega
            have htl := tby_le (set := wbits (wayL s.1.1 gg)) (c := c) (day := s.1.1 11 0) hB hg
            have nx := ih2 (c + 1) M2 (by omega) ho2
            rw [xset, ht c, ← Nat.or_assoc] at nx
            refine x_iload (pc := 36) dX10_allWays_36 rfl ?_
            refine x_bipushN (pc := 38) 16 dX10_allWays_38 bp_16 ?_
            first | (guard_target =~ Wp _ _ _ _ _ (Value.int (nI _) :: Value.int (nI _) :: _) _ _ _ _; with_reducible refine x_icmp_geN (pc := 40) (tgt := 75) ?_ ?_ dX10_allWays_40 ?_ (fun h40 => ?_) (fun h40 => ?_); (first | omega | exact b2n_31 _); (first | omega | exact b2n_31 _); decide) | refine x_icmp_ge (pc := 40) (tgt := 75) dX10_allWays_40 (by decide) (fun h40 => ?_) (fun h40 => ?_)
            · skip
              omega
            · skip
              refine x_iload_n (pc := 43) dX10_allWays_43 rfl ?_
              refine x_aload_n (pc := 44) dX10_allWays_44 rfl ?_
              refine x_iload_n (pc := 45) dX10_allWays_45 rfl ?_
              refine x_iload_n (pc := 46) dX10_allWays_46 rfl ?_
              refine x_iload (pc := 47) dX10_allWays_47 rfl ?_
              refine x_aload_n (pc := 49) dX10_allWays_49 rfl ?_
              refine x_getI (pc := 50) dX10_allWays_50 flX10_19 (by first | assumption | rfl) rfl ?_
              rw [(hQ.keep ho2 pW_Q).2.2.2.1]
              refine x_invV4 (pc := 53) dX10_allWays_53 mlX10_348 imX10_treadsBy seX10_treadsBy kX10_treadsBy (by first | assumption | rfl) rfl (Nat.le_of_ble_eq_true rfl) (by decide) ?_
              refine sm_treadsBy hB (hQ.keep ho2 pW_Q) hg hc16 hwb (by omega) ?_
              refine x_cv rfl rfl ?_
              first | (guard_target =~ Wp _ _ _ _ _ (Value.int (nI _) :: _) _ _ _ _; with_reducible refine x_if_leN (pc := 56) (tgt := 66) ?_ dX10_allWays_56 ?_ (fun h56 => ?_) (fun h56 => ?_); (first | omega | exact b2n_32 _ | exact b2n_31 _); decide) | refine x_if_le (pc := 56) (tgt := 66) dX10_allWays_56 (by decide) (fun h56 => ?_) (fun h56 => ?_)
              · skip
                refine x_iconstN (pc := 66) 0 dX10_allWays_66 ic_0 ?_
                try rw [Nat.one_mul]
                first | (guard_target =~ Wp _ _ _ _ _ (Value.int (nI _) :: Value.int (nI _) :: _) _ _ _ _; with_reducible refine x_iorN (pc := 67) dX10_allWays_67 ?_) | refine x_ior (pc := 67) dX10_allWays_67 ?_
                refine x_istore_n (pc := 68) dX10_allWays_68 (by decide) xs_1 (x_hp rfl) ?_
                first | (guard_target =~ Wp _ _ _ _ (_ :: _ :: _ :: _ :: some (Value.int (nI _)) :: _) _ _ _ _ _; with_reducible refine x_iincN (pc := 69) 1 ic_1 dX10_allWays_69 ?_ xg_4 xs_4 ?_ ?_; decide; exact (x_hp rfl)) | refine x_iincC (pc := 69) ic_1 dX10_allWays_69 (by decide) rfl xs_4 (x_hp rfl) ?_
                refine x_goto (pc := 72) (tgt := 36) dX10_allWays_72 (by decide) ?_
                rw [decide_eq_false (by omega)] at nx; exact nx
              · skip
                refine x_iconstN (pc := 59) 1 dX10_allWays_59 ic_1 ?_
                refine x_iload (pc := 60) dX10_allWays_60 rfl ?_
                first | (guard_target =~ Wp _ _ _ _ _ (Value.int (nI _) :: Value.int (nI _) :: _) _ _ _ _; with_reducible refine x_ishlN (pc := 62) ?_ dX10_allWays_62 ?_; omega) | refine x_ishl (pc := 62) dX10_allWays_62 ?_
                refine x_goto (pc := 63) (tgt := 67) dX10_allWays_63 (by decide) ?_
                try rw [Nat.one_mul]
                first | (guard_target =~ Wp _ _ _ _ _ (Value.int (nI _) :: Value.int (nI _) :: _) _ _ _ _; with_reducible refine x_iorN (pc := 67) dX10_allWays_67 ?_) | refine x_ior (pc := 67) dX10_allWays_67 ?_
                refine x_istore_n (pc := 68) dX10_allWays_68 (by decide) xs_1 (x_hp rfl) ?_
                first | (guard_target =~ Wp _ _ _ _ (_ :: _ :: _ :: _ :: some (Value.int (nI _)) :: _) _ _ _ _ _; with_reducible refine x_iincN (pc := 69) 1 ic_1 dX10_allWays_69 ?_ xg_4 xs_4 ?_ ?_; decide; exact (x_hp rfl)) | refine x_iincC (pc := 69) ic_1 dX10_allWays_69 (by decide) rfl xs_4 (x_hp rfl) ?_
                refine x_goto (pc := 72) (tgt := 36) dX10_allWays_72 (by decide) ?_
                rw [decide_eq_true (by omega)] at nx; exact nx
        refine x_iload_n (pc := 4) dX10_allWays_4 rfl ?_
        refine x_aload_n (pc := 5) dX10_allWays_5 rfl ?_
        refine x_getI (pc := 6) dX10_allWays_6 flX10_7 (by first | assumption | rfl) rfl ?_
        rw [hQ1.1]
        first | (guard_target =~ Wp _ _ _ _ _ (Value.int (nI _) :: Value.int (nI _) :: _) _ _ _ _; with_reducible refine x_icmp_geN (pc := 9) (tgt := 81) ?_ ?_ dX10_allWays_9 ?_ (fun h9 => ?_) (fun h9 => ?_); (first | omega | exact b2n_31 _); (first | omega | exact b2n_31 _); decide) | refine x_icmp_ge (pc := 9) (tgt := 81) dX10_allWays_9 (by decide) (fun h9 => ?_) (fun h9 => ?_)
        · skip
          omega
        · skip
          refine x_aload_n (pc := 12) dX10_allWays_12 rfl ?_
          refine x_aload_n (pc := 13) dX10_allWays_13 rfl ?_
          refine x_getI (pc := 14) dX10_allWays_14 flX10_13 (by first | assumption | rfl) rfl ?_
          rw [hQ1.2.1]
          refine x_iload_n (pc := 17) dX10_allWays_17 rfl ?_
          refine x_invV2 (pc := 18) dX10_allWays_18 mlX10_245 imX10_has seX10_has kX10_has (by first | assumption | rfl) rfl (Nat.le_of_ble_eq_true rfl) (by decide) ?_
          refine sm_has (by omega) ?_
          refine x_cv rfl rfl ?_
          rw [tb_nI (by omega), haw2]
          first | (guard_target =~ Wp _ _ _ _ _ (Value.int (nI _) :: _) _ _ _ _; with_reducible refine x_if_eqN (pc := 21) (tgt := 27) ?_ dX10_allWays_21 ?_ (fun h21 => ?_) (fun h21 => ?_); (first | omega | exact b2n_32 _ | exact b2n_31 _); decide) | refine x_if_eq (pc := 21) (tgt := 27) dX10_allWays_21 (by decide) (fun h21 => ?_) (fun h21 => ?_)
          · skip
            refine x_aload_n (pc := 27) dX10_allWays_27 rfl ?_
            refine x_iload_n (pc := 28) dX10_allWays_28 rfl ?_
            refine x_invV1 (pc := 29) dX10_allWays_29 mlX10_342 imX10_waySet seX10_waySet kX10_waySet (by first | assumption | rfl) rfl (Nat.le_of_ble_eq_true rfl) (by decide) ?_
            refine sm_waySet hB hQ1 hg (fun M2 ho2 => ?_)
            refine x_cv rfl rfl ?_
            refine x_istore_n (pc := 32) dX10_allWays_32 (by decide) xs_3 (x_hp rfl) ?_
            refine x_iconstN (pc := 33) 0 dX10_allWays_33 ic_0 ?_
            refine x_istore (pc := 34) dX10_allWays_34 (by decide) xs_4 (x_hp rfl) ?_
            have e := cl 16 0 M2 (by omega) (ho.tr ho2)
            rw [show xset (fun c => decide (0 < trd s.1.1 (qw s) gg c 1)) 0 = 0 from rfl, Nat.or_zero] at e; exact e
          · skip
            exact absurd rfl h21
  refine x_iconstN (pc := 0) 0 dX10_allWays_0 ic_0 ?_
  refine x_istore_n (pc := 1) dX10_allWays_1 (by decide) xs_1 (x_hp rfl) ?_
  refine x_iconstN (pc := 2) 0 dX10_allWays_2 ic_0 ?_
  refine x_istore_n (pc := 3) dX10_allWays_3 (by decide) xs_2 (x_hp rfl) ?_
  exact gl (s.1.1 8 0) 0 M _ _ (by omega) only.rf
theorem fM_told {x : Int32} (hC : MC9 M s) (ok : okM s) (h : ∀ M', high M M' → MC9 M' s → K (some (.int (vTold s x))) xSF M') : Ex g (d + 8) yX10_told mX10_told [.ref 65, .int x] xSF M K := by
  unfold vTold at h
  have hB := ok.bd
  obtain ⟨b0, hL⟩ := hC.ls ok
  have hQ := hC.1.mq
  have hL2 := ok.cache
  have hstd := ok.std
  have hx : ∀ c, c < 16 → M.1 66 c = nI (s.1.1 0 c) ∧ s.1.1 0 c < 67108864 := fun c hc => ⟨hQ.2.2.2.2 0 (by decide) c hc, by have := hstd.1 c hc; omega⟩
  refine x_entry kX10_told (Nat.le_of_ble_eq_true rfl) ?_
  show Wp g _ mX10_told 0 [some (.ref 65), some (.int x)] [] _ _ _ _
  rcases isR_cases (x := x) (n := 26) (by decide) with e | ⟨j, hj, rfl, e⟩
  · simp only [e, Bool.false_eq_true, if_false] at h
    refine x_aload_n (pc := 0) dX10_told_0 rfl ?_
    refine x_iload_n (pc := 1) dX10_told_1 rfl ?_
    refine x_bipushN (pc := 2) 10 dX10_told_2 bp_10 ?_
    refine x_bipushN (pc := 4) 25 dX10_told_4 bp_25 ?_
    refine x_invV3 (pc := 6) dX10_told_6 mlX10_253 imX10_in seX10_in kX10_in (by first | assumption | rfl) rfl (Nat.le_of_ble_eq_true rfl) (by decide) ?_
    refine sm_in ?_
    refine x_cv rfl rfl ?_
    rw [show btw x (nI 10) (nI 25) = false from btw_out (by decide) (by decide) (by decide) (by decide) e]
    first | (guard_target =~ Wp _ _ _ _ _ (Value.int (nI _) :: _) _ _ _ _; with_reducible refine x_if_eqN (pc := 9) (tgt := 22) ?_ dX10_told_9 ?_ (fun h9 => ?_) (fun h9 => ?_); (first | omega | exact b2n_32 _ | exact b2n_31 _); decide) | refine x_if_eq (pc := 9) (tgt := 22) dX10_told_9 (by decide) (fun h9 => ?_) (fun h9 => ?_)
    · skip
      refine x_iload_n (pc := 22) dX10_told_22 rfl ?_
      refine x_tableOut (pc := 23) (tgt := 99) dX10_told_23 (isR_out (n := 6) (by decide) (isR_sub e (by decide) (by decide))) (by decide) ?_
      refine x_iconst (pc := 99) dX10_told_99 ic_m1 ?_
      refine x_ret (pc := 100) (v := some _) rfl trivial dX10_told_100 (by decide) ?_
      exact h M high.rf hC
    · skip
      exact absurd rfl h9
  simp only [e, if_true] at h
  rw [toN_nI (by omega)] at h
  unfold toldN at h
  by_cases h10 : 10 ≤ j
  · rw [if_neg (by omega), if_neg (by omega), if_neg (by omega), if_neg (by omega), if_neg (by omega), if_neg (by omega), if_neg (by omega), if_pos h10] at h
    refine x_aload_n (pc := 0) dX10_told_0 rfl ?_
    refine x_iload_n (pc := 1) dX10_told_1 rfl ?_
    refine x_bipushN (pc := 2) 10 dX10_told_2 bp_10 ?_
    refine x_bipushN (pc := 4) 25 dX10_told_4 bp_25 ?_
    refine x_invV3 (pc := 6) dX10_told_6 mlX10_253 imX10_in seX10_in kX10_in (by first | assumption | rfl) rfl (Nat.le_of_ble_eq_true rfl) (by decide) ?_
    refine sm_in ?_
    refine x_cv rfl rfl ?_
    rw [btw_nI (by omega) (by decide) (by decide), decide_eq_true (by omega)]
    first | (guard_target =~ Wp _ _ _ _ _ (Value.int (nI _) :: _) _ _ _ _; with_reducible refine x_if_eqN (pc := 9) (tgt := 22) ?_ dX10_told_9 ?_ (fun h9 => ?_) (fun h9 => ?_); (first | omega | exact b2n_32 _ | exact b2n_31 _); decide) | refine x_if_eq (pc := 9) (tgt := 22) dX10_told_9 (by decide) (fun h9 => ?_) (fun h9 => ?_)
    · skip
      cases h9
    · skip
      refine x_aload_n (pc := 12) dX10_told_12 rfl ?_
      refine x_getR (pc := 13) dX10_told_13 flX10_22 (by first | assumption | rfl) rfl ?_
      refine x_iload_n (pc := 16) dX10_told_16 rfl ?_
      refine x_bipushN (pc := 17) 10 dX10_told_17 bp_10 ?_
      first | (guard_target =~ Wp _ _ _ _ _ (Value.int (nI _) :: Value.int (nI _) :: _) _ _ _ _; with_reducible refine x_isubN (pc := 19) ?_ dX10_told_19 ?_; omega) | refine x_isub (pc := 19) dX10_told_19 ?_
      refine x_ialdN (pc := 20) dX10_told_20 (by first | assumption | rfl) (by first | with_reducible rfl | (simp only [xlit, nI_add, pk_mul]; with_reducible rfl)) (by omega) (by decide) ?_
      rw [(hx (j - 10) (by omega)).1]
      refine x_ret (pc := 21) (v := some _) rfl trivial dX10_told_21 (by decide) ?_
      exact h M high.rf hC
  have hb : btw (nI j) (nI 10) (nI 25) = false := by rw [btw_nI (by omega) (by decide) (by decide), decide_eq_false (by omega)]
  by_cases h7 : 7 ≤ j
  · rw [if_neg (by omega), if_neg (by omega), if_neg (by omega), if_neg (by omega), if_neg (by omega), if_neg (by omega), if_neg (by omega), if_neg (by omega)] at h
    refine x_aload_n (pc := 0) dX10_told_0 rfl ?_
    refine x_iload_n (pc := 1) dX10_told_1 rfl ?_
    refine x_bipushN (pc := 2) 10 dX10_told_2 bp_10 ?_
    refine x_bipushN (pc := 4) 25 dX10_told_4 bp_25 ?_
    refine x_invV3 (pc := 6) dX10_told_6 mlX10_253 imX10_in seX10_in kX10_in (by first | assumption | rfl) rfl (Nat.le_of_ble_eq_true rfl) (by decide) ?_
    refine sm_in ?_
    refine x_cv rfl rfl ?_
    rw [hb]
    first | (guard_target =~ Wp _ _ _ _ _ (Value.int (nI _) :: _) _ _ _ _; with_reducible refine x_if_eqN (pc := 9) (tgt := 22) ?_ dX10_told_9 ?_ (fun h9 => ?_) (fun h9 => ?_); (first | omega | exact b2n_32 _ | exact b2n_31 _); decide) | refine x_if_eq (pc := 9) (tgt := 22) dX10_told_9 (by decide) (fun h9 => ?_) (fun h9 => ?_)
    · skip
      refine x_iload_n (pc := 22) dX10_told_22 rfl ?_
      refine x_tableOut (pc := 23) (tgt := 99) dX10_told_23 (by rw [nI_toInt (by omega)]; omega) (by decide) ?_
      refine x_iconst (pc := 99) dX10_told_99 ic_m1 ?_
      refine x_ret (pc := 100) (v := some _) rfl trivial dX10_told_100 (by decide) ?_
      exact h M high.rf hC
    · skip
      exact absurd rfl h9
  have hh : j = 0 ∨ j = 1 ∨ j = 2 ∨ j = 3 ∨ j = 4 ∨ j = 5 ∨ j = 6 := by omega
  rcases hh with rfl | rfl | rfl | rfl | rfl | rfl | rfl
  · skip
    refine x_aload_n (pc := 0) dX10_told_0 rfl ?_
    refine x_iload_n (pc := 1) dX10_told_1 rfl ?_
    refine x_bipushN (pc := 2) 10 dX10_told_2 bp_10 ?_
    refine x_bipushN (pc := 4) 25 dX10_told_4 bp_25 ?_
    refine x_invV3 (pc := 6) dX10_told_6 mlX10_253 imX10_in seX10_in kX10_in (by first | assumption | rfl) rfl (Nat.le_of_ble_eq_true rfl) (by decide) ?_
    refine sm_in ?_
    refine x_cv rfl rfl ?_
    rw [hb]
    first | (guard_target =~ Wp _ _ _ _ _ (Value.int (nI _) :: _) _ _ _ _; with_reducible refine x_if_eqN (pc := 9) (tgt := 22) ?_ dX10_told_9 ?_ (fun h9 => ?_) (fun h9 => ?_); (first | omega | exact b2n_32 _ | exact b2n_31 _); decide) | refine x_if_eq (pc := 9) (tgt := 22) dX10_told_9 (by decide) (fun h9 => ?_) (fun h9 => ?_)
    · skip
      refine x_iload_n (pc := 22) dX10_told_22 rfl ?_
      refine x_tableIn (pc := 23) (off := 41) (tgt := 64) dX10_told_23 (by decide) (by decide) (by decide) (by decide) ?_
      refine x_aload_n (pc := 64) dX10_told_64 rfl ?_
      refine x_getI (pc := 65) dX10_told_65 flX10_19 (by first | assumption | rfl) rfl ?_
      rw [hQ.2.2.2.1]
      refine x_ret (pc := 68) (v := some _) rfl trivial dX10_told_68 (by decide) ?_
      exact h M high.rf hC
    · skip
      exact absurd rfl h9
  · skip
    refine x_aload_n (pc := 0) dX10_told_0 rfl ?_
    refine x_iload_n (pc := 1) dX10_told_1 rfl ?_
    refine x_bipushN (pc := 2) 10 dX10_told_2 bp_10 ?_
    refine x_bipushN (pc := 4) 25 dX10_told_4 bp_25 ?_
    refine x_invV3 (pc := 6) dX10_told_6 mlX10_253 imX10_in seX10_in kX10_in (by first | assumption | rfl) rfl (Nat.le_of_ble_eq_true rfl) (by decide) ?_
    refine sm_in ?_
    refine x_cv rfl rfl ?_
    rw [hb]
    first | (guard_target =~ Wp _ _ _ _ _ (Value.int (nI _) :: _) _ _ _ _; with_reducible refine x_if_eqN (pc := 9) (tgt := 22) ?_ dX10_told_9 ?_ (fun h9 => ?_) (fun h9 => ?_); (first | omega | exact b2n_32 _ | exact b2n_31 _); decide) | refine x_if_eq (pc := 9) (tgt := 22) dX10_told_9 (by decide) (fun h9 => ?_) (fun h9 => ?_)
    · skip
      refine x_iload_n (pc := 22) dX10_told_22 rfl ?_
      refine x_tableIn (pc := 23) (off := 46) (tgt := 69) dX10_told_23 (by decide) (by decide) (by decide) (by decide) ?_
      refine x_aload_n (pc := 69) dX10_told_69 rfl ?_
      refine x_invV0 (pc := 70) dX10_told_70 mlX10_371 imX10_bald seX10_bald kX10_bald (by first | assumption | rfl) rfl (Nat.le_of_ble_eq_true rfl) (by decide) ?_
      refine sm_bald hL ?_
      refine x_cv rfl rfl ?_
      refine x_ret (pc := 73) (v := some _) rfl trivial dX10_told_73 (by decide) ?_
      rw [← hL2.2.2.1]; exact h M high.rf hC
    · skip
      exact absurd rfl h9
  · skip
    refine x_aload_n (pc := 0) dX10_told_0 rfl ?_
    refine x_iload_n (pc := 1) dX10_told_1 rfl ?_
    refine x_bipushN (pc := 2) 10 dX10_told_2 bp_10 ?_
    refine x_bipushN (pc := 4) 25 dX10_told_4 bp_25 ?_
    refine x_invV3 (pc := 6) dX10_told_6 mlX10_253 imX10_in seX10_in kX10_in (by first | assumption | rfl) rfl (Nat.le_of_ble_eq_true rfl) (by decide) ?_
    refine sm_in ?_
    refine x_cv rfl rfl ?_
    rw [hb]
    first | (guard_target =~ Wp _ _ _ _ _ (Value.int (nI _) :: _) _ _ _ _; with_reducible refine x_if_eqN (pc := 9) (tgt := 22) ?_ dX10_told_9 ?_ (fun h9 => ?_) (fun h9 => ?_); (first | omega | exact b2n_32 _ | exact b2n_31 _); decide) | refine x_if_eq (pc := 9) (tgt := 22) dX10_told_9 (by decide) (fun h9 => ?_) (fun h9 => ?_)
    · skip
      refine x_iload_n (pc := 22) dX10_told_22 rfl ?_
      refine x_tableIn (pc := 23) (off := 51) (tgt := 74) dX10_told_23 (by decide) (by decide) (by decide) (by decide) ?_
      refine x_aload_n (pc := 74) dX10_told_74 rfl ?_
      refine x_getI (pc := 75) dX10_told_75 flX10_16 (by first | assumption | rfl) rfl ?_
      rw [hQ.2.2.1]
      refine x_ret (pc := 78) (v := some _) rfl trivial dX10_told_78 (by decide) ?_
      exact h M high.rf hC
    · skip
      exact absurd rfl h9
  · skip
    refine x_aload_n (pc := 0) dX10_told_0 rfl ?_
    refine x_iload_n (pc := 1) dX10_told_1 rfl ?_
    refine x_bipushN (pc := 2) 10 dX10_told_2 bp_10 ?_
    refine x_bipushN (pc := 4) 25 dX10_told_4 bp_25 ?_
    refine x_invV3 (pc := 6) dX10_told_6 mlX10_253 imX10_in seX10_in kX10_in (by first | assumption | rfl) rfl (Nat.le_of_ble_eq_true rfl) (by decide) ?_
    refine sm_in ?_
    refine x_cv rfl rfl ?_
    rw [hb]
    first | (guard_target =~ Wp _ _ _ _ _ (Value.int (nI _) :: _) _ _ _ _; with_reducible refine x_if_eqN (pc := 9) (tgt := 22) ?_ dX10_told_9 ?_ (fun h9 => ?_) (fun h9 => ?_); (first | omega | exact b2n_32 _ | exact b2n_31 _); decide) | refine x_if_eq (pc := 9) (tgt := 22) dX10_told_9 (by decide) (fun h9 => ?_) (fun h9 => ?_)
    · skip
      refine x_iload_n (pc := 22) dX10_told_22 rfl ?_
      refine x_tableIn (pc := 23) (off := 56) (tgt := 79) dX10_told_23 (by decide) (by decide) (by decide) (by decide) ?_
      refine x_aload_n (pc := 79) dX10_told_79 rfl ?_
      refine x_invV0 (pc := 80) dX10_told_80 mlX10_384 imX10_baldSet seX10_baldSet kX10_baldSet (by first | assumption | rfl) rfl (Nat.le_of_ble_eq_true rfl) (by decide) ?_
      refine sm_baldSet hL hL2.2.2.1 hx ?_
      refine x_cv rfl rfl ?_
      refine x_ret (pc := 83) (v := some _) rfl trivial dX10_told_83 (by decide) ?_
      exact h M high.rf hC
    · skip
      exact absurd rfl h9
  · skip
    refine x_aload_n (pc := 0) dX10_told_0 rfl ?_
    refine x_iload_n (pc := 1) dX10_told_1 rfl ?_
    refine x_bipushN (pc := 2) 10 dX10_told_2 bp_10 ?_
    refine x_bipushN (pc := 4) 25 dX10_told_4 bp_25 ?_
    refine x_invV3 (pc := 6) dX10_told_6 mlX10_253 imX10_in seX10_in kX10_in (by first | assumption | rfl) rfl (Nat.le_of_ble_eq_true rfl) (by decide) ?_
    refine sm_in ?_
    refine x_cv rfl rfl ?_
    rw [hb]
    first | (guard_target =~ Wp _ _ _ _ _ (Value.int (nI _) :: _) _ _ _ _; with_reducible refine x_if_eqN (pc := 9) (tgt := 22) ?_ dX10_told_9 ?_ (fun h9 => ?_) (fun h9 => ?_); (first | omega | exact b2n_32 _ | exact b2n_31 _); decide) | refine x_if_eq (pc := 9) (tgt := 22) dX10_told_9 (by decide) (fun h9 => ?_) (fun h9 => ?_)
    · skip
      refine x_iload_n (pc := 22) dX10_told_22 rfl ?_
      refine x_tableIn (pc := 23) (off := 61) (tgt := 84) dX10_told_23 (by decide) (by decide) (by decide) (by decide) ?_
      refine x_aload_n (pc := 84) dX10_told_84 rfl ?_
      refine x_invV0 (pc := 85) dX10_told_85 mlX10_387 imX10_allWear seX10_allWear kX10_allWear (by first | assumption | rfl) rfl (Nat.le_of_ble_eq_true rfl) (by decide) ?_
      refine sm_allWear hx ?_
      refine x_cv rfl rfl ?_
      refine x_ret (pc := 88) (v := some _) rfl trivial dX10_told_88 (by decide) ?_
      exact h M high.rf hC
    · skip
      exact absurd rfl h9
  · skip
    refine x_aload_n (pc := 0) dX10_told_0 rfl ?_
    refine x_iload_n (pc := 1) dX10_told_1 rfl ?_
    refine x_bipushN (pc := 2) 10 dX10_told_2 bp_10 ?_
    refine x_bipushN (pc := 4) 25 dX10_told_4 bp_25 ?_
    refine x_invV3 (pc := 6) dX10_told_6 mlX10_253 imX10_in seX10_in kX10_in (by first | assumption | rfl) rfl (Nat.le_of_ble_eq_true rfl) (by decide) ?_
    refine sm_in ?_
    refine x_cv rfl rfl ?_
    rw [hb]
    first | (guard_target =~ Wp _ _ _ _ _ (Value.int (nI _) :: _) _ _ _ _; with_reducible refine x_if_eqN (pc := 9) (tgt := 22) ?_ dX10_told_9 ?_ (fun h9 => ?_) (fun h9 => ?_); (first | omega | exact b2n_32 _ | exact b2n_31 _); decide) | refine x_if_eq (pc := 9) (tgt := 22) dX10_told_9 (by decide) (fun h9 => ?_) (fun h9 => ?_)
    · skip
      refine x_iload_n (pc := 22) dX10_told_22 rfl ?_
      refine x_tableIn (pc := 23) (off := 66) (tgt := 89) dX10_told_23 (by decide) (by decide) (by decide) (by decide) ?_
      refine x_aload_n (pc := 89) dX10_told_89 rfl ?_
      refine x_invV0 (pc := 90) dX10_told_90 mlX10_390 imX10_allWays seX10_allWays kX10_allWays (by first | assumption | rfl) rfl (Nat.le_of_ble_eq_true rfl) (by decide) ?_
      refine sm_allWays hC ok (fun M2 ho2 => ?_)
      refine x_cv rfl rfl ?_
      refine x_ret (pc := 93) (v := some _) rfl trivial dX10_told_93 (by decide) ?_
      exact h M2 ho2.qsm.1.1 (hC.st ho2.qsm)
    · skip
      exact absurd rfl h9
  · skip
    refine x_aload_n (pc := 0) dX10_told_0 rfl ?_
    refine x_iload_n (pc := 1) dX10_told_1 rfl ?_
    refine x_bipushN (pc := 2) 10 dX10_told_2 bp_10 ?_
    refine x_bipushN (pc := 4) 25 dX10_told_4 bp_25 ?_
    refine x_invV3 (pc := 6) dX10_told_6 mlX10_253 imX10_in seX10_in kX10_in (by first | assumption | rfl) rfl (Nat.le_of_ble_eq_true rfl) (by decide) ?_
    refine sm_in ?_
    refine x_cv rfl rfl ?_
    rw [hb]
    first | (guard_target =~ Wp _ _ _ _ _ (Value.int (nI _) :: _) _ _ _ _; with_reducible refine x_if_eqN (pc := 9) (tgt := 22) ?_ dX10_told_9 ?_ (fun h9 => ?_) (fun h9 => ?_); (first | omega | exact b2n_32 _ | exact b2n_31 _); decide) | refine x_if_eq (pc := 9) (tgt := 22) dX10_told_9 (by decide) (fun h9 => ?_) (fun h9 => ?_)
    · skip
      refine x_iload_n (pc := 22) dX10_told_22 rfl ?_
      refine x_tableIn (pc := 23) (off := 71) (tgt := 94) dX10_told_23 (by decide) (by decide) (by decide) (by decide) ?_
      refine x_aload_n (pc := 94) dX10_told_94 rfl ?_
      refine x_invV0 (pc := 95) dX10_told_95 mlX10_393 imX10_firstOf seX10_firstOf kX10_firstOf (by first | assumption | rfl) rfl (Nat.le_of_ble_eq_true rfl) (by decide) ?_
      refine sm_firstOf hC ok (fun M2 ho2 => ?_)
      refine x_cv rfl rfl ?_
      refine x_ret (pc := 98) (v := some _) rfl trivial dX10_told_98 (by decide) ?_
      exact h M2 ho2.qsm.1.1 (hC.st ho2.qsm)
    · skip
      exact absurd rfl h9
end P85
