/-! the MODEL's calls: of -/
theorem wset_tb {l : List Nat} : ∀ n i, (wsetN l n).testBit i = true ↔ ∃ k, k < n ∧ l.getD k 0 = i := by
  intro n
  induction n with
  | zero => intro i; simp [wsetN]
  | succ n ih =>
    intro i
    rw [wsetN, Nat.testBit_or, Bool.or_eq_true, ih, two_tb, decide_eq_true_eq]
    constructor
    · rintro (⟨k, h1, h2⟩ | h)
      · exact ⟨k, by omega, h2⟩
      · exact ⟨n, by omega, h⟩
    · rintro ⟨k, h1, h2⟩
      by_cases hk : k = n
      · subst hk; exact Or.inr h2
      · exact Or.inl ⟨k, by omega, h2⟩
theorem xpop_wset {l : List Nat} (hi : ∀ j k, j < l.length → k < l.length → l.getD j 0 = l.getD k 0 → j = k) (hl : ∀ k, k < l.length → l.getD k 0 < 16) : ∀ n, n ≤ l.length → xpop (wsetN l n) = n := by
  intro n
  induction n with
  | zero => intro _; exact (by decide : xpop 0 = 0)
  | succ n ih =>
    intro hn
    show xpop (wsetN l n ||| 2 ^ l.getD n 0) = n + 1
    have h1 := ih (by omega)
    unfold xpop at h1 ⊢
    refine Eq.trans ?_ (congrArg (· + 1) h1)
    refine xsum_upd (j := l.getD n 0) (hl n (by omega)) (fun i _ hne => ?_) ?_
    · rw [Nat.testBit_or, two_tb, decide_eq_false (fun q => hne q.symm), Bool.or_false]
    · rw [Nat.testBit_or, two_tb, decide_eq_true rfl, Bool.or_true]
      cases hb : (wsetN l n).testBit (l.getD n 0) with
      | false => rfl
      | true =>
        obtain ⟨k, h2, h3⟩ := (wset_tb n _).mp hb
        have := hi k n (by omega) (by omega) h3
        omega
theorem way_pop {A : XA} {gg : Nat} (hf : A 3 gg < 16) (ht : A 4 gg < 16) : xpop (wbits (wayL A gg)) = (wayL A gg).length := by
  have key : ∀ l, l = wayL A gg → xpop (wbits l) = l.length := by
    intro l hl
    unfold wayL wy at hl
    split at hl
    · cases hD : Dd (fun c => (frB A gg).testBit c) (A 4 gg) (A 3 gg) with
      | none =>
        rw [hD] at hl
        have hl2 : l = [] := hl
        rw [hl2]; decide
      | some s =>
        rw [hD] at hl
        have hg := fun k hk => pth_get ht hf hD k hk
        have hlen : l.length = s + 1 := by rw [hl]; exact pth_len
        have e : ∀ k, l.getD k 0 = (pth (fun c => (frB A gg).testBit c) (A 4 gg) s (A 3 gg)).getD k 0 := fun k => by rw [hl]
        refine xpop_wset (fun j k hj hk hjk => ?_) (fun k hk => ?_) _ (Nat.le_refl _)
        · obtain ⟨-, j2, -⟩ := hg j (by omega)
          obtain ⟨-, k2, -⟩ := hg k (by omega)
          rw [e, e] at hjk
          rw [hjk, k2] at j2
          injection j2 with j2
          omega
        · rw [e]; exact (hg k (by omega)).1
    · subst hl; decide
  exact key _ rfl
section P86
variable {g : XG} {d : Nat} {M M0 : XM} {K : Option Value → XS → XM → Prop} {s : XSt}
theorem fM_of {x w : Int32} (hC : MC9 M s) (ok : okM s) (h : ∀ M', high M M' → MC9 M' s → K (some (.int (vOf s x w))) xSF M') : Ex g (d + 5) yX10_of mX10_of [.ref 65, .int x, .int w] xSF M K := by
  unfold vOf at h
  have hB := ok.bd
  have h6 := hB.2.1
  obtain ⟨b0, hL⟩ := hC.ls ok
  have hQ := hC.1.mq
  have hL2 := ok.cache
  have hstd := ok.std
  have h11 := hstd.2
  refine x_entry kX10_of (Nat.le_of_ble_eq_true rfl) ?_
  show Wp g _ mX10_of 0 [some (.ref 65), some (.int x), some (.int w)] [] _ _ _ _
  rcases isR_cases (x := x) (n := s.1.1 8 0) (by omega) with e | ⟨i, hi, rfl, e⟩
  · simp only [e, Bool.false_eq_true, if_false] at h
    refine x_aload_n (pc := 0) dX10_of_0 rfl ?_
    refine x_iload_n (pc := 1) dX10_of_1 rfl ?_
    refine x_invV1 (pc := 2) dX10_of_2 mlX10_264 imX10_isGoer seX10_isGoer kX10_isGoer (by first | assumption | rfl) rfl (Nat.le_of_ble_eq_true rfl) (by decide) ?_
    refine sm_isGoer h6 hC.1.1 ?_
    refine x_cv rfl rfl ?_
    rw [e]
    first | (guard_target =~ Wp _ _ _ _ _ (Value.int (nI _) :: _) _ _ _ _; with_reducible refine x_if_neN (pc := 5) (tgt := 10) ?_ dX10_of_5 ?_ (fun h5 => ?_) (fun h5 => ?_); (first | omega | exact b2n_32 _ | exact b2n_31 _); decide) | refine x_if_ne (pc := 5) (tgt := 10) dX10_of_5 (by decide) (fun h5 => ?_) (fun h5 => ?_)
    · skip
      exact absurd rfl h5
    · skip
      refine x_iconst (pc := 8) dX10_of_8 ic_m1 ?_
      refine x_ret (pc := 9) (v := some _) rfl trivial dX10_of_9 (by decide) ?_
      exact h M high.rf hC
  simp only [e, if_true] at h
  rw [toN_nI (by omega)] at h
  have hi6 : i < 6 := by omega
  have hwb := wb_lt hB hi6
  rcases isR_cases (x := w) (n := 66) (by decide) with e2 | ⟨j, hj, rfl, e2⟩
  · simp only [e2, Bool.false_eq_true, if_false] at h
    refine x_aload_n (pc := 0) dX10_of_0 rfl ?_
    refine x_iload_n (pc := 1) dX10_of_1 rfl ?_
    refine x_invV1 (pc := 2) dX10_of_2 mlX10_264 imX10_isGoer seX10_isGoer kX10_isGoer (by first | assumption | rfl) rfl (Nat.le_of_ble_eq_true rfl) (by decide) ?_
    refine sm_isGoer h6 hC.1.1 ?_
    refine x_cv rfl rfl ?_
    rw [e]
    first | (guard_target =~ Wp _ _ _ _ _ (Value.int (nI _) :: _) _ _ _ _; with_reducible refine x_if_neN (pc := 5) (tgt := 10) ?_ dX10_of_5 ?_ (fun h5 => ?_) (fun h5 => ?_); (first | omega | exact b2n_32 _ | exact b2n_31 _); decide) | refine x_if_ne (pc := 5) (tgt := 10) dX10_of_5 (by decide) (fun h5 => ?_) (fun h5 => ?_)
    · skip
      refine x_aload_n (pc := 10) dX10_of_10 rfl ?_
      refine x_iload_n (pc := 11) dX10_of_11 rfl ?_
      refine x_bipushN (pc := 12) 30 dX10_of_12 bp_30 ?_
      refine x_bipushN (pc := 14) 45 dX10_of_14 bp_45 ?_
      refine x_invV3 (pc := 16) dX10_of_16 mlX10_253 imX10_in seX10_in kX10_in (by first | assumption | rfl) rfl (Nat.le_of_ble_eq_true rfl) (by decide) ?_
      refine sm_in ?_
      refine x_cv rfl rfl ?_
      rw [show btw w (nI 30) (nI 45) = false from btw_out (by decide) (by decide) (by decide) (by decide) e2]
      first | (guard_target =~ Wp _ _ _ _ _ (Value.int (nI _) :: _) _ _ _ _; with_reducible refine x_if_eqN (pc := 19) (tgt := 57) ?_ dX10_of_19 ?_ (fun h19 => ?_) (fun h19 => ?_); (first | omega | exact b2n_32 _ | exact b2n_31 _); decide) | refine x_if_eq (pc := 19) (tgt := 57) dX10_of_19 (by decide) (fun h19 => ?_) (fun h19 => ?_)
      · skip
        refine x_aload_n (pc := 57) dX10_of_57 rfl ?_
        refine x_iload_n (pc := 58) dX10_of_58 rfl ?_
        refine x_bipushN (pc := 59) 50 dX10_of_59 bp_50 ?_
        refine x_bipushN (pc := 61) 65 dX10_of_61 bp_65 ?_
        refine x_invV3 (pc := 63) dX10_of_63 mlX10_253 imX10_in seX10_in kX10_in (by first | assumption | rfl) rfl (Nat.le_of_ble_eq_true rfl) (by decide) ?_
        refine sm_in ?_
        refine x_cv rfl rfl ?_
        rw [show btw w (nI 50) (nI 65) = false from btw_out (by decide) (by decide) (by decide) (by decide) e2]
        first | (guard_target =~ Wp _ _ _ _ _ (Value.int (nI _) :: _) _ _ _ _; with_reducible refine x_if_eqN (pc := 66) (tgt := 79) ?_ dX10_of_66 ?_ (fun h66 => ?_) (fun h66 => ?_); (first | omega | exact b2n_32 _ | exact b2n_31 _); decide) | refine x_if_eq (pc := 66) (tgt := 79) dX10_of_66 (by decide) (fun h66 => ?_) (fun h66 => ?_)
        · skip
          refine x_aload_n (pc := 79) dX10_of_79 rfl ?_
          refine x_iload_n (pc := 80) dX10_of_80 rfl ?_
          refine x_bipushN (pc := 81) 10 dX10_of_81 bp_10 ?_
          refine x_bipushN (pc := 83) 25 dX10_of_83 bp_25 ?_
          refine x_invV3 (pc := 85) dX10_of_85 mlX10_253 imX10_in seX10_in kX10_in (by first | assumption | rfl) rfl (Nat.le_of_ble_eq_true rfl) (by decide) ?_
          refine sm_in ?_
          refine x_cv rfl rfl ?_
          rw [show btw w (nI 10) (nI 25) = false from btw_out (by decide) (by decide) (by decide) (by decide) e2]
          first | (guard_target =~ Wp _ _ _ _ _ (Value.int (nI _) :: _) _ _ _ _; with_reducible refine x_if_eqN (pc := 88) (tgt := 122) ?_ dX10_of_88 ?_ (fun h88 => ?_) (fun h88 => ?_); (first | omega | exact b2n_32 _ | exact b2n_31 _); decide) | refine x_if_eq (pc := 88) (tgt := 122) dX10_of_88 (by decide) (fun h88 => ?_) (fun h88 => ?_)
          · skip
            refine x_iload_n (pc := 122) dX10_of_122 rfl ?_
            refine x_tableOut (pc := 123) (tgt := 216) dX10_of_123 (isR_out (n := 5) (by decide) (isR_sub e2 (by decide) (by decide))) (by decide) ?_
            refine x_iconst (pc := 216) dX10_of_216 ic_m1 ?_
            refine x_ret (pc := 217) (v := some _) rfl trivial dX10_of_217 (by decide) ?_
            exact h M high.rf hC
          · skip
            exact absurd rfl h88
        · skip
          exact absurd rfl h66
      · skip
        exact absurd rfl h19
    · skip
      cases h5
  simp only [e2, if_true] at h
  rw [toN_nI (by omega)] at h
  unfold ofN at h
  have b1 : btw (nI j) (nI 30) (nI 45) = decide (30 ≤ j ∧ j ≤ 45) := btw_nI (by omega) (by decide) (by decide)
  have b2 : btw (nI j) (nI 50) (nI 65) = decide (50 ≤ j ∧ j ≤ 65) := btw_nI (by omega) (by decide) (by decide)
  have b3 : btw (nI j) (nI 10) (nI 25) = decide (10 ≤ j ∧ j ≤ 25) := btw_nI (by omega) (by decide) (by decide)
  have etb : tb (qw s) i = s.1.2.1.testBit i := tb_nI (by omega)
  by_cases c1 : 30 ≤ j ∧ j < 46
  · rw [if_neg (by omega), if_pos c1, trd_1] at h
    unfold tbyW at h
    rw [etb] at h
    by_cases haw : s.1.2.1.testBit i = true
    · rw [if_pos haw] at h
      refine x_aload_n (pc := 0) dX10_of_0 rfl ?_
      refine x_iload_n (pc := 1) dX10_of_1 rfl ?_
      refine x_invV1 (pc := 2) dX10_of_2 mlX10_264 imX10_isGoer seX10_isGoer kX10_isGoer (by first | assumption | rfl) rfl (Nat.le_of_ble_eq_true rfl) (by decide) ?_
      refine sm_isGoer h6 hC.1.1 ?_
      refine x_cv rfl rfl ?_
      rw [e]
      first | (guard_target =~ Wp _ _ _ _ _ (Value.int (nI _) :: _) _ _ _ _; with_reducible refine x_if_neN (pc := 5) (tgt := 10) ?_ dX10_of_5 ?_ (fun h5 => ?_) (fun h5 => ?_); (first | omega | exact b2n_32 _ | exact b2n_31 _); decide) | refine x_if_ne (pc := 5) (tgt := 10) dX10_of_5 (by decide) (fun h5 => ?_) (fun h5 => ?_)
      · skip
        refine x_aload_n (pc := 10) dX10_of_10 rfl ?_
        refine x_iload_n (pc := 11) dX10_of_11 rfl ?_
        refine x_bipushN (pc := 12) 30 dX10_of_12 bp_30 ?_
        refine x_bipushN (pc := 14) 45 dX10_of_14 bp_45 ?_
        refine x_invV3 (pc := 16) dX10_of_16 mlX10_253 imX10_in seX10_in kX10_in (by first | assumption | rfl) rfl (Nat.le_of_ble_eq_true rfl) (by decide) ?_
        refine sm_in ?_
        refine x_cv rfl rfl ?_
        rw [b1, decide_eq_true (by omega)]
        first | (guard_target =~ Wp _ _ _ _ _ (Value.int (nI _) :: _) _ _ _ _; with_reducible refine x_if_eqN (pc := 19) (tgt := 57) ?_ dX10_of_19 ?_ (fun h19 => ?_) (fun h19 => ?_); (first | omega | exact b2n_32 _ | exact b2n_31 _); decide) | refine x_if_eq (pc := 19) (tgt := 57) dX10_of_19 (by decide) (fun h19 => ?_) (fun h19 => ?_)
        · skip
          cases h19
        · skip
          refine x_aload_n (pc := 22) dX10_of_22 rfl ?_
          refine x_aload_n (pc := 23) dX10_of_23 rfl ?_
          refine x_getI (pc := 24) dX10_of_24 flX10_13 (by first | assumption | rfl) rfl ?_
          rw [hQ.2.1]
          refine x_iload_n (pc := 27) dX10_of_27 rfl ?_
          refine x_invV2 (pc := 28) dX10_of_28 mlX10_245 imX10_has seX10_has kX10_has (by first | assumption | rfl) rfl (Nat.le_of_ble_eq_true rfl) (by decide) ?_
          refine sm_has (by omega) ?_
          refine x_cv rfl rfl ?_
          rw [tb_nI (by omega), haw]
          first | (guard_target =~ Wp _ _ _ _ _ (Value.int (nI _) :: _) _ _ _ _; with_reducible refine x_if_eqN (pc := 31) (tgt := 38) ?_ dX10_of_31 ?_ (fun h31 => ?_) (fun h31 => ?_); (first | omega | exact b2n_32 _ | exact b2n_31 _); decide) | refine x_if_eq (pc := 31) (tgt := 38) dX10_of_31 (by decide) (fun h31 => ?_) (fun h31 => ?_)
          · skip
            cases h31
          · skip
            refine x_iconstN (pc := 34) 0 dX10_of_34 ic_0 ?_
            refine x_goto (pc := 35) (tgt := 56) dX10_of_35 (by decide) ?_
            refine x_ret (pc := 56) (v := some _) rfl trivial dX10_of_56 (by decide) ?_
            exact h M high.rf hC
      · skip
        cases h5
    · have haw2 : s.1.2.1.testBit i = false := by simpa using haw
      rw [if_neg haw, hL2.1 i hi] at h
      refine x_aload_n (pc := 0) dX10_of_0 rfl ?_
      refine x_iload_n (pc := 1) dX10_of_1 rfl ?_
      refine x_invV1 (pc := 2) dX10_of_2 mlX10_264 imX10_isGoer seX10_isGoer kX10_isGoer (by first | assumption | rfl) rfl (Nat.le_of_ble_eq_true rfl) (by decide) ?_
      refine sm_isGoer h6 hC.1.1 ?_
      refine x_cv rfl rfl ?_
      rw [e]
      first | (guard_target =~ Wp _ _ _ _ _ (Value.int (nI _) :: _) _ _ _ _; with_reducible refine x_if_neN (pc := 5) (tgt := 10) ?_ dX10_of_5 ?_ (fun h5 => ?_) (fun h5 => ?_); (first | omega | exact b2n_32 _ | exact b2n_31 _); decide) | refine x_if_ne (pc := 5) (tgt := 10) dX10_of_5 (by decide) (fun h5 => ?_) (fun h5 => ?_)
      · skip
        refine x_aload_n (pc := 10) dX10_of_10 rfl ?_
        refine x_iload_n (pc := 11) dX10_of_11 rfl ?_
        refine x_bipushN (pc := 12) 30 dX10_of_12 bp_30 ?_
        refine x_bipushN (pc := 14) 45 dX10_of_14 bp_45 ?_
        refine x_invV3 (pc := 16) dX10_of_16 mlX10_253 imX10_in seX10_in kX10_in (by first | assumption | rfl) rfl (Nat.le_of_ble_eq_true rfl) (by decide) ?_
        refine sm_in ?_
        refine x_cv rfl rfl ?_
        rw [b1, decide_eq_true (by omega)]
        first | (guard_target =~ Wp _ _ _ _ _ (Value.int (nI _) :: _) _ _ _ _; with_reducible refine x_if_eqN (pc := 19) (tgt := 57) ?_ dX10_of_19 ?_ (fun h19 => ?_) (fun h19 => ?_); (first | omega | exact b2n_32 _ | exact b2n_31 _); decide) | refine x_if_eq (pc := 19) (tgt := 57) dX10_of_19 (by decide) (fun h19 => ?_) (fun h19 => ?_)
        · skip
          cases h19
        · skip
          refine x_aload_n (pc := 22) dX10_of_22 rfl ?_
          refine x_aload_n (pc := 23) dX10_of_23 rfl ?_
          refine x_getI (pc := 24) dX10_of_24 flX10_13 (by first | assumption | rfl) rfl ?_
          rw [hQ.2.1]
          refine x_iload_n (pc := 27) dX10_of_27 rfl ?_
          refine x_invV2 (pc := 28) dX10_of_28 mlX10_245 imX10_has seX10_has kX10_has (by first | assumption | rfl) rfl (Nat.le_of_ble_eq_true rfl) (by decide) ?_
          refine sm_has (by omega) ?_
          refine x_cv rfl rfl ?_
          rw [tb_nI (by omega), haw2]
          first | (guard_target =~ Wp _ _ _ _ _ (Value.int (nI _) :: _) _ _ _ _; with_reducible refine x_if_eqN (pc := 31) (tgt := 38) ?_ dX10_of_31 ?_ (fun h31 => ?_) (fun h31 => ?_); (first | omega | exact b2n_32 _ | exact b2n_31 _); decide) | refine x_if_eq (pc := 31) (tgt := 38) dX10_of_31 (by decide) (fun h31 => ?_) (fun h31 => ?_)
          · skip
            refine x_aload_n (pc := 38) dX10_of_38 rfl ?_
            refine x_iload_n (pc := 39) dX10_of_39 rfl ?_
            refine x_aload_n (pc := 40) dX10_of_40 rfl ?_
            refine x_iload_n (pc := 41) dX10_of_41 rfl ?_
            refine x_invV1 (pc := 42) dX10_of_42 mlX10_342 imX10_waySet seX10_waySet kX10_waySet (by first | assumption | rfl) rfl (Nat.le_of_ble_eq_true rfl) (by decide) ?_
            refine sm_waySet hB hQ hi6 (fun M1 ho1 => ?_)
            refine x_cv rfl rfl ?_
            refine x_iload_n (pc := 45) dX10_of_45 rfl ?_
            refine x_bipushN (pc := 46) 30 dX10_of_46 bp_30 ?_
            first | (guard_target =~ Wp _ _ _ _ _ (Value.int (nI _) :: Value.int (nI _) :: _) _ _ _ _; with_reducible refine x_isubN (pc := 48) ?_ dX10_of_48 ?_; omega) | refine x_isub (pc := 48) dX10_of_48 ?_
            refine x_aload_n (pc := 49) dX10_of_49 rfl ?_
            refine x_getI (pc := 50) dX10_of_50 flX10_19 (by first | assumption | rfl) rfl ?_
            rw [(hQ.keep ho1 pW_Q).2.2.2.1]
            refine x_invV4 (pc := 53) dX10_of_53 mlX10_348 imX10_treadsBy seX10_treadsBy kX10_treadsBy (by first | assumption | rfl) rfl (Nat.le_of_ble_eq_true rfl) (by decide) ?_
            refine sm_treadsBy hB (hQ.keep ho1 pW_Q) hi6 (by omega) hwb (by omega) ?_
            refine x_cv rfl rfl ?_
            refine x_ret (pc := 56) (v := some _) rfl trivial dX10_of_56 (by decide) ?_
            exact h M1 ((ho1.wide pZ_W).qsm.1.1) (hC.st (ho1.wide pZ_W).qsm)
          · skip
            exact absurd rfl h31
      · skip
        cases h5
  by_cases c2 : 50 ≤ j ∧ j < 66
  · rw [if_neg (by omega), if_neg c1, if_pos c2, hL2.2.1 i hi _ (by omega)] at h
    refine x_aload_n (pc := 0) dX10_of_0 rfl ?_
    refine x_iload_n (pc := 1) dX10_of_1 rfl ?_
    refine x_invV1 (pc := 2) dX10_of_2 mlX10_264 imX10_isGoer seX10_isGoer kX10_isGoer (by first | assumption | rfl) rfl (Nat.le_of_ble_eq_true rfl) (by decide) ?_
    refine sm_isGoer h6 hC.1.1 ?_
    refine x_cv rfl rfl ?_
    rw [e]
    first | (guard_target =~ Wp _ _ _ _ _ (Value.int (nI _) :: _) _ _ _ _; with_reducible refine x_if_neN (pc := 5) (tgt := 10) ?_ dX10_of_5 ?_ (fun h5 => ?_) (fun h5 => ?_); (first | omega | exact b2n_32 _ | exact b2n_31 _); decide) | refine x_if_ne (pc := 5) (tgt := 10) dX10_of_5 (by decide) (fun h5 => ?_) (fun h5 => ?_)
    · skip
      refine x_aload_n (pc := 10) dX10_of_10 rfl ?_
      refine x_iload_n (pc := 11) dX10_of_11 rfl ?_
      refine x_bipushN (pc := 12) 30 dX10_of_12 bp_30 ?_
      refine x_bipushN (pc := 14) 45 dX10_of_14 bp_45 ?_
      refine x_invV3 (pc := 16) dX10_of_16 mlX10_253 imX10_in seX10_in kX10_in (by first | assumption | rfl) rfl (Nat.le_of_ble_eq_true rfl) (by decide) ?_
      refine sm_in ?_
      refine x_cv rfl rfl ?_
      rw [b1, decide_eq_false (by omega)]
      first | (guard_target =~ Wp _ _ _ _ _ (Value.int (nI _) :: _) _ _ _ _; with_reducible refine x_if_eqN (pc := 19) (tgt := 57) ?_ dX10_of_19 ?_ (fun h19 => ?_) (fun h19 => ?_); (first | omega | exact b2n_32 _ | exact b2n_31 _); decide) | refine x_if_eq (pc := 19) (tgt := 57) dX10_of_19 (by decide) (fun h19 => ?_) (fun h19 => ?_)
      · skip
        refine x_aload_n (pc := 57) dX10_of_57 rfl ?_
        refine x_iload_n (pc := 58) dX10_of_58 rfl ?_
        refine x_bipushN (pc := 59) 50 dX10_of_59 bp_50 ?_
        refine x_bipushN (pc := 61) 65 dX10_of_61 bp_65 ?_
        refine x_invV3 (pc := 63) dX10_of_63 mlX10_253 imX10_in seX10_in kX10_in (by first | assumption | rfl) rfl (Nat.le_of_ble_eq_true rfl) (by decide) ?_
        refine sm_in ?_
        refine x_cv rfl rfl ?_
        rw [b2, decide_eq_true (by omega)]
        first | (guard_target =~ Wp _ _ _ _ _ (Value.int (nI _) :: _) _ _ _ _; with_reducible refine x_if_eqN (pc := 66) (tgt := 79) ?_ dX10_of_66 ?_ (fun h66 => ?_) (fun h66 => ?_); (first | omega | exact b2n_32 _ | exact b2n_31 _); decide) | refine x_if_eq (pc := 66) (tgt := 79) dX10_of_66 (by decide) (fun h66 => ?_) (fun h66 => ?_)
        · skip
          cases h66
        · skip
          refine x_aload_n (pc := 69) dX10_of_69 rfl ?_
          refine x_iload_n (pc := 70) dX10_of_70 rfl ?_
          refine x_bipushN (pc := 71) 50 dX10_of_71 bp_50 ?_
          first | (guard_target =~ Wp _ _ _ _ _ (Value.int (nI _) :: Value.int (nI _) :: _) _ _ _ _; with_reducible refine x_isubN (pc := 73) ?_ dX10_of_73 ?_; omega) | refine x_isub (pc := 73) dX10_of_73 ?_
          refine x_iload_n (pc := 74) dX10_of_74 rfl ?_
          refine x_invV2 (pc := 75) dX10_of_75 mlX10_345 imX10_yieldsOf seX10_yieldsOf kX10_yieldsOf (by first | assumption | rfl) rfl (Nat.le_of_ble_eq_true rfl) (by decide) ?_
          refine sm_yieldsOf hL hB hQ hi6 (by omega) (fun M1 ho1 => ?_)
          refine x_cv rfl rfl ?_
          refine x_ret (pc := 78) (v := some _) rfl trivial dX10_of_78 (by decide) ?_
          exact h M1 ((ho1.wide pZ_H).qsm.1.1) (hC.st (ho1.wide pZ_H).qsm)
      · skip
        exact absurd rfl h19
    · skip
      cases h5
  by_cases c3 : 10 ≤ j ∧ j < 26
  · rw [if_pos c3] at h
    refine x_aload_n (pc := 0) dX10_of_0 rfl ?_
    refine x_iload_n (pc := 1) dX10_of_1 rfl ?_
    refine x_invV1 (pc := 2) dX10_of_2 mlX10_264 imX10_isGoer seX10_isGoer kX10_isGoer (by first | assumption | rfl) rfl (Nat.le_of_ble_eq_true rfl) (by decide) ?_
    refine sm_isGoer h6 hC.1.1 ?_
    refine x_cv rfl rfl ?_
    rw [e]
    first | (guard_target =~ Wp _ _ _ _ _ (Value.int (nI _) :: _) _ _ _ _; with_reducible refine x_if_neN (pc := 5) (tgt := 10) ?_ dX10_of_5 ?_ (fun h5 => ?_) (fun h5 => ?_); (first | omega | exact b2n_32 _ | exact b2n_31 _); decide) | refine x_if_ne (pc := 5) (tgt := 10) dX10_of_5 (by decide) (fun h5 => ?_) (fun h5 => ?_)
    · skip
      refine x_aload_n (pc := 10) dX10_of_10 rfl ?_
      refine x_iload_n (pc := 11) dX10_of_11 rfl ?_
      refine x_bipushN (pc := 12) 30 dX10_of_12 bp_30 ?_
      refine x_bipushN (pc := 14) 45 dX10_of_14 bp_45 ?_
      refine x_invV3 (pc := 16) dX10_of_16 mlX10_253 imX10_in seX10_in kX10_in (by first | assumption | rfl) rfl (Nat.le_of_ble_eq_true rfl) (by decide) ?_
      refine sm_in ?_
      refine x_cv rfl rfl ?_
      rw [b1, decide_eq_false (by omega)]
      first | (guard_target =~ Wp _ _ _ _ _ (Value.int (nI _) :: _) _ _ _ _; with_reducible refine x_if_eqN (pc := 19) (tgt := 57) ?_ dX10_of_19 ?_ (fun h19 => ?_) (fun h19 => ?_); (first | omega | exact b2n_32 _ | exact b2n_31 _); decide) | refine x_if_eq (pc := 19) (tgt := 57) dX10_of_19 (by decide) (fun h19 => ?_) (fun h19 => ?_)
      · skip
        refine x_aload_n (pc := 57) dX10_of_57 rfl ?_
        refine x_iload_n (pc := 58) dX10_of_58 rfl ?_
        refine x_bipushN (pc := 59) 50 dX10_of_59 bp_50 ?_
        refine x_bipushN (pc := 61) 65 dX10_of_61 bp_65 ?_
        refine x_invV3 (pc := 63) dX10_of_63 mlX10_253 imX10_in seX10_in kX10_in (by first | assumption | rfl) rfl (Nat.le_of_ble_eq_true rfl) (by decide) ?_
        refine sm_in ?_
        refine x_cv rfl rfl ?_
        rw [b2, decide_eq_false (by omega)]
        first | (guard_target =~ Wp _ _ _ _ _ (Value.int (nI _) :: _) _ _ _ _; with_reducible refine x_if_eqN (pc := 66) (tgt := 79) ?_ dX10_of_66 ?_ (fun h66 => ?_) (fun h66 => ?_); (first | omega | exact b2n_32 _ | exact b2n_31 _); decide) | refine x_if_eq (pc := 66) (tgt := 79) dX10_of_66 (by decide) (fun h66 => ?_) (fun h66 => ?_)
        · skip
          refine x_aload_n (pc := 79) dX10_of_79 rfl ?_
          refine x_iload_n (pc := 80) dX10_of_80 rfl ?_
          refine x_bipushN (pc := 81) 10 dX10_of_81 bp_10 ?_
          refine x_bipushN (pc := 83) 25 dX10_of_83 bp_25 ?_
          refine x_invV3 (pc := 85) dX10_of_85 mlX10_253 imX10_in seX10_in kX10_in (by first | assumption | rfl) rfl (Nat.le_of_ble_eq_true rfl) (by decide) ?_
          refine sm_in ?_
          refine x_cv rfl rfl ?_
          rw [b3, decide_eq_true (by omega)]
          first | (guard_target =~ Wp _ _ _ _ _ (Value.int (nI _) :: _) _ _ _ _; with_reducible refine x_if_eqN (pc := 88) (tgt := 122) ?_ dX10_of_88 ?_ (fun h88 => ?_) (fun h88 => ?_); (first | omega | exact b2n_32 _ | exact b2n_31 _); decide) | refine x_if_eq (pc := 88) (tgt := 122) dX10_of_88 (by decide) (fun h88 => ?_) (fun h88 => ?_)
          · skip
            cases h88
          · skip
            refine x_aload_n (pc := 91) dX10_of_91 rfl ?_
            refine x_iload_n (pc := 92) dX10_of_92 rfl ?_
            have hlen : (wayL s.1.1 i).length ≤ 16 := wy_len
            refine x_invV1 (pc := 93) dX10_of_93 mlX10_339 imX10_layWay seX10_layWay kX10_layWay (by first | assumption | rfl) rfl (Nat.le_of_ble_eq_true rfl) (by decide) ?_
            refine sm_layWay hB hQ hi6 (fun M1 ho1 h31 hway => ?_)
            refine x_cn rfl rfl ?_
            refine x_iload_n (pc := 96) dX10_of_96 rfl ?_
            refine x_bipushN (pc := 97) 10 dX10_of_97 bp_10 ?_
            first | (guard_target =~ Wp _ _ _ _ _ (Value.int (nI _) :: Value.int (nI _) :: _) _ _ _ _; with_reducible refine x_isubN (pc := 99) ?_ dX10_of_99 ?_; omega) | refine x_isub (pc := 99) dX10_of_99 ?_
            refine x_aload_n (pc := 100) dX10_of_100 rfl ?_
            refine x_getI (pc := 101) dX10_of_101 flX10_105 (by first | assumption | rfl) rfl ?_
            rw [h31]
            first | (guard_target =~ Wp _ _ _ _ _ (Value.int (nI _) :: Value.int (nI _) :: _) _ _ _ _; with_reducible refine x_icmp_geN (pc := 104) (tgt := 119) ?_ ?_ dX10_of_104 ?_ (fun h104 => ?_) (fun h104 => ?_); (first | omega | exact b2n_31 _); (first | omega | exact b2n_31 _); decide) | refine x_icmp_ge (pc := 104) (tgt := 119) dX10_of_104 (by decide) (fun h104 => ?_) (fun h104 => ?_)
            · skip
              refine x_bipush (pc := 119) dX10_of_119 bp_m5 ?_
              refine x_ret (pc := 121) (v := some _) rfl trivial dX10_of_121 (by decide) ?_
              rw [if_neg (by omega)] at h; exact h M1 ((ho1.wide pZ_W).qsm.1.1) (hC.st (ho1.wide pZ_W).qsm)
            · skip
              refine x_aload_n (pc := 107) dX10_of_107 rfl ?_
              refine x_getR (pc := 108) dX10_of_108 flX10_102 (by first | assumption | rfl) rfl ?_
              refine x_iload_n (pc := 111) dX10_of_111 rfl ?_
              refine x_bipushN (pc := 112) 10 dX10_of_112 bp_10 ?_
              first | (guard_target =~ Wp _ _ _ _ _ (Value.int (nI _) :: Value.int (nI _) :: _) _ _ _ _; with_reducible refine x_isubN (pc := 114) ?_ dX10_of_114 ?_; omega) | refine x_isub (pc := 114) dX10_of_114 ?_
              refine x_ialdN (pc := 115) dX10_of_115 (by first | assumption | rfl) (by first | with_reducible rfl | (simp only [xlit, nI_add, pk_mul]; with_reducible rfl)) (by omega) (by decide) ?_
              rw [hway (j - 10) (by omega)]
              refine x_goto (pc := 116) (tgt := 121) dX10_of_116 (by decide) ?_
              refine x_ret (pc := 121) (v := some _) rfl trivial dX10_of_121 (by decide) ?_
              rw [if_pos (by omega)] at h; exact h M1 ((ho1.wide pZ_W).qsm.1.1) (hC.st (ho1.wide pZ_W).qsm)
        · skip
          exact absurd rfl h66
      · skip
        exact absurd rfl h19
    · skip
      cases h5
  rw [if_neg c3, if_neg c1, if_neg c2] at h
  by_cases h5j : 6 ≤ j
  · rw [if_neg (by omega), if_neg (by omega), if_neg (by omega), if_neg (by omega), if_neg (by omega), if_neg (by omega)] at h
    refine x_aload_n (pc := 0) dX10_of_0 rfl ?_
    refine x_iload_n (pc := 1) dX10_of_1 rfl ?_
    refine x_invV1 (pc := 2) dX10_of_2 mlX10_264 imX10_isGoer seX10_isGoer kX10_isGoer (by first | assumption | rfl) rfl (Nat.le_of_ble_eq_true rfl) (by decide) ?_
    refine sm_isGoer h6 hC.1.1 ?_
    refine x_cv rfl rfl ?_
    rw [e]
    first | (guard_target =~ Wp _ _ _ _ _ (Value.int (nI _) :: _) _ _ _ _; with_reducible refine x_if_neN (pc := 5) (tgt := 10) ?_ dX10_of_5 ?_ (fun h5 => ?_) (fun h5 => ?_); (first | omega | exact b2n_32 _ | exact b2n_31 _); decide) | refine x_if_ne (pc := 5) (tgt := 10) dX10_of_5 (by decide) (fun h5 => ?_) (fun h5 => ?_)
    · skip
      refine x_aload_n (pc := 10) dX10_of_10 rfl ?_
      refine x_iload_n (pc := 11) dX10_of_11 rfl ?_
      refine x_bipushN (pc := 12) 30 dX10_of_12 bp_30 ?_
      refine x_bipushN (pc := 14) 45 dX10_of_14 bp_45 ?_
      refine x_invV3 (pc := 16) dX10_of_16 mlX10_253 imX10_in seX10_in kX10_in (by first | assumption | rfl) rfl (Nat.le_of_ble_eq_true rfl) (by decide) ?_
      refine sm_in ?_
      refine x_cv rfl rfl ?_
      rw [b1, decide_eq_false (by omega)]
      first | (guard_target =~ Wp _ _ _ _ _ (Value.int (nI _) :: _) _ _ _ _; with_reducible refine x_if_eqN (pc := 19) (tgt := 57) ?_ dX10_of_19 ?_ (fun h19 => ?_) (fun h19 => ?_); (first | omega | exact b2n_32 _ | exact b2n_31 _); decide) | refine x_if_eq (pc := 19) (tgt := 57) dX10_of_19 (by decide) (fun h19 => ?_) (fun h19 => ?_)
      · skip
        refine x_aload_n (pc := 57) dX10_of_57 rfl ?_
        refine x_iload_n (pc := 58) dX10_of_58 rfl ?_
        refine x_bipushN (pc := 59) 50 dX10_of_59 bp_50 ?_
        refine x_bipushN (pc := 61) 65 dX10_of_61 bp_65 ?_
        refine x_invV3 (pc := 63) dX10_of_63 mlX10_253 imX10_in seX10_in kX10_in (by first | assumption | rfl) rfl (Nat.le_of_ble_eq_true rfl) (by decide) ?_
        refine sm_in ?_
        refine x_cv rfl rfl ?_
        rw [b2, decide_eq_false (by omega)]
        first | (guard_target =~ Wp _ _ _ _ _ (Value.int (nI _) :: _) _ _ _ _; with_reducible refine x_if_eqN (pc := 66) (tgt := 79) ?_ dX10_of_66 ?_ (fun h66 => ?_) (fun h66 => ?_); (first | omega | exact b2n_32 _ | exact b2n_31 _); decide) | refine x_if_eq (pc := 66) (tgt := 79) dX10_of_66 (by decide) (fun h66 => ?_) (fun h66 => ?_)
        · skip
          refine x_aload_n (pc := 79) dX10_of_79 rfl ?_
          refine x_iload_n (pc := 80) dX10_of_80 rfl ?_
          refine x_bipushN (pc := 81) 10 dX10_of_81 bp_10 ?_
          refine x_bipushN (pc := 83) 25 dX10_of_83 bp_25 ?_
          refine x_invV3 (pc := 85) dX10_of_85 mlX10_253 imX10_in seX10_in kX10_in (by first | assumption | rfl) rfl (Nat.le_of_ble_eq_true rfl) (by decide) ?_
          refine sm_in ?_
          refine x_cv rfl rfl ?_
          rw [b3, decide_eq_false (by omega)]
          first | (guard_target =~ Wp _ _ _ _ _ (Value.int (nI _) :: _) _ _ _ _; with_reducible refine x_if_eqN (pc := 88) (tgt := 122) ?_ dX10_of_88 ?_ (fun h88 => ?_) (fun h88 => ?_); (first | omega | exact b2n_32 _ | exact b2n_31 _); decide) | refine x_if_eq (pc := 88) (tgt := 122) dX10_of_88 (by decide) (fun h88 => ?_) (fun h88 => ?_)
          · skip
            refine x_iload_n (pc := 122) dX10_of_122 rfl ?_
            refine x_tableOut (pc := 123) (tgt := 216) dX10_of_123 (by rw [nI_toInt (by omega)]; omega) (by decide) ?_
            refine x_iconst (pc := 216) dX10_of_216 ic_m1 ?_
            refine x_ret (pc := 217) (v := some _) rfl trivial dX10_of_217 (by decide) ?_
            exact h M high.rf hC
          · skip
            exact absurd rfl h88
        · skip
          exact absurd rfl h66
      · skip
        exact absurd rfl h19
    · skip
      cases h5
  have hh : j = 0 ∨ j = 1 ∨ j = 2 ∨ j = 3 ∨ j = 4 ∨ j = 5 := by omega
  rcases hh with rfl | rfl | rfl | rfl | rfl | rfl
  · skip
    refine x_aload_n (pc := 0) dX10_of_0 rfl ?_
    refine x_iload_n (pc := 1) dX10_of_1 rfl ?_
    refine x_invV1 (pc := 2) dX10_of_2 mlX10_264 imX10_isGoer seX10_isGoer kX10_isGoer (by first | assumption | rfl) rfl (Nat.le_of_ble_eq_true rfl) (by decide) ?_
    refine sm_isGoer h6 hC.1.1 ?_
    refine x_cv rfl rfl ?_
    rw [e]
    first | (guard_target =~ Wp _ _ _ _ _ (Value.int (nI _) :: _) _ _ _ _; with_reducible refine x_if_neN (pc := 5) (tgt := 10) ?_ dX10_of_5 ?_ (fun h5 => ?_) (fun h5 => ?_); (first | omega | exact b2n_32 _ | exact b2n_31 _); decide) | refine x_if_ne (pc := 5) (tgt := 10) dX10_of_5 (by decide) (fun h5 => ?_) (fun h5 => ?_)
    · skip
      refine x_aload_n (pc := 10) dX10_of_10 rfl ?_
      refine x_iload_n (pc := 11) dX10_of_11 rfl ?_
      refine x_bipushN (pc := 12) 30 dX10_of_12 bp_30 ?_
      refine x_bipushN (pc := 14) 45 dX10_of_14 bp_45 ?_
      refine x_invV3 (pc := 16) dX10_of_16 mlX10_253 imX10_in seX10_in kX10_in (by first | assumption | rfl) rfl (Nat.le_of_ble_eq_true rfl) (by decide) ?_
      refine sm_in ?_
      refine x_cv rfl rfl ?_
      rw [b1, decide_eq_false (by omega)]
      first | (guard_target =~ Wp _ _ _ _ _ (Value.int (nI _) :: _) _ _ _ _; with_reducible refine x_if_eqN (pc := 19) (tgt := 57) ?_ dX10_of_19 ?_ (fun h19 => ?_) (fun h19 => ?_); (first | omega | exact b2n_32 _ | exact b2n_31 _); decide) | refine x_if_eq (pc := 19) (tgt := 57) dX10_of_19 (by decide) (fun h19 => ?_) (fun h19 => ?_)
      · skip
        refine x_aload_n (pc := 57) dX10_of_57 rfl ?_
        refine x_iload_n (pc := 58) dX10_of_58 rfl ?_
        refine x_bipushN (pc := 59) 50 dX10_of_59 bp_50 ?_
        refine x_bipushN (pc := 61) 65 dX10_of_61 bp_65 ?_
        refine x_invV3 (pc := 63) dX10_of_63 mlX10_253 imX10_in seX10_in kX10_in (by first | assumption | rfl) rfl (Nat.le_of_ble_eq_true rfl) (by decide) ?_
        refine sm_in ?_
        refine x_cv rfl rfl ?_
        rw [b2, decide_eq_false (by omega)]
        first | (guard_target =~ Wp _ _ _ _ _ (Value.int (nI _) :: _) _ _ _ _; with_reducible refine x_if_eqN (pc := 66) (tgt := 79) ?_ dX10_of_66 ?_ (fun h66 => ?_) (fun h66 => ?_); (first | omega | exact b2n_32 _ | exact b2n_31 _); decide) | refine x_if_eq (pc := 66) (tgt := 79) dX10_of_66 (by decide) (fun h66 => ?_) (fun h66 => ?_)
        · skip
          refine x_aload_n (pc := 79) dX10_of_79 rfl ?_
          refine x_iload_n (pc := 80) dX10_of_80 rfl ?_
          refine x_bipushN (pc := 81) 10 dX10_of_81 bp_10 ?_
          refine x_bipushN (pc := 83) 25 dX10_of_83 bp_25 ?_
          refine x_invV3 (pc := 85) dX10_of_85 mlX10_253 imX10_in seX10_in kX10_in (by first | assumption | rfl) rfl (Nat.le_of_ble_eq_true rfl) (by decide) ?_
          refine sm_in ?_
          refine x_cv rfl rfl ?_
          rw [b3, decide_eq_false (by omega)]
          first | (guard_target =~ Wp _ _ _ _ _ (Value.int (nI _) :: _) _ _ _ _; with_reducible refine x_if_eqN (pc := 88) (tgt := 122) ?_ dX10_of_88 ?_ (fun h88 => ?_) (fun h88 => ?_); (first | omega | exact b2n_32 _ | exact b2n_31 _); decide) | refine x_if_eq (pc := 88) (tgt := 122) dX10_of_88 (by decide) (fun h88 => ?_) (fun h88 => ?_)
          · skip
            refine x_iload_n (pc := 122) dX10_of_122 rfl ?_
            refine x_tableIn (pc := 123) (off := 37) (tgt := 160) dX10_of_123 (by decide) (by decide) (by decide) (by decide) ?_
            refine x_aload_n (pc := 160) dX10_of_160 rfl ?_
            refine x_getR (pc := 161) dX10_of_161 flX10_26 (by first | assumption | rfl) rfl ?_
            refine x_iload_n (pc := 164) dX10_of_164 rfl ?_
            refine x_ialdN (pc := 165) dX10_of_165 (by first | assumption | rfl) (by first | with_reducible rfl | (simp only [xlit, nI_add, pk_mul]; with_reducible rfl)) (by omega) (by decide) ?_
            rw [hQ.2.2.2.2 1 (by decide) i (show i < 6 by omega)]
            refine x_ret (pc := 166) (v := some _) rfl trivial dX10_of_166 (by decide) ?_
            exact h M high.rf hC
          · skip
            exact absurd rfl h88
        · skip
          exact absurd rfl h66
      · skip
        exact absurd rfl h19
    · skip
      cases h5
  · skip
    refine x_aload_n (pc := 0) dX10_of_0 rfl ?_
    refine x_iload_n (pc := 1) dX10_of_1 rfl ?_
    refine x_invV1 (pc := 2) dX10_of_2 mlX10_264 imX10_isGoer seX10_isGoer kX10_isGoer (by first | assumption | rfl) rfl (Nat.le_of_ble_eq_true rfl) (by decide) ?_
    refine sm_isGoer h6 hC.1.1 ?_
    refine x_cv rfl rfl ?_
    rw [e]
    first | (guard_target =~ Wp _ _ _ _ _ (Value.int (nI _) :: _) _ _ _ _; with_reducible refine x_if_neN (pc := 5) (tgt := 10) ?_ dX10_of_5 ?_ (fun h5 => ?_) (fun h5 => ?_); (first | omega | exact b2n_32 _ | exact b2n_31 _); decide) | refine x_if_ne (pc := 5) (tgt := 10) dX10_of_5 (by decide) (fun h5 => ?_) (fun h5 => ?_)
    · skip
      refine x_aload_n (pc := 10) dX10_of_10 rfl ?_
      refine x_iload_n (pc := 11) dX10_of_11 rfl ?_
      refine x_bipushN (pc := 12) 30 dX10_of_12 bp_30 ?_
      refine x_bipushN (pc := 14) 45 dX10_of_14 bp_45 ?_
      refine x_invV3 (pc := 16) dX10_of_16 mlX10_253 imX10_in seX10_in kX10_in (by first | assumption | rfl) rfl (Nat.le_of_ble_eq_true rfl) (by decide) ?_
      refine sm_in ?_
      refine x_cv rfl rfl ?_
      rw [b1, decide_eq_false (by omega)]
      first | (guard_target =~ Wp _ _ _ _ _ (Value.int (nI _) :: _) _ _ _ _; with_reducible refine x_if_eqN (pc := 19) (tgt := 57) ?_ dX10_of_19 ?_ (fun h19 => ?_) (fun h19 => ?_); (first | omega | exact b2n_32 _ | exact b2n_31 _); decide) | refine x_if_eq (pc := 19) (tgt := 57) dX10_of_19 (by decide) (fun h19 => ?_) (fun h19 => ?_)
      · skip
        refine x_aload_n (pc := 57) dX10_of_57 rfl ?_
        refine x_iload_n (pc := 58) dX10_of_58 rfl ?_
        refine x_bipushN (pc := 59) 50 dX10_of_59 bp_50 ?_
        refine x_bipushN (pc := 61) 65 dX10_of_61 bp_65 ?_
        refine x_invV3 (pc := 63) dX10_of_63 mlX10_253 imX10_in seX10_in kX10_in (by first | assumption | rfl) rfl (Nat.le_of_ble_eq_true rfl) (by decide) ?_
        refine sm_in ?_
        refine x_cv rfl rfl ?_
        rw [b2, decide_eq_false (by omega)]
        first | (guard_target =~ Wp _ _ _ _ _ (Value.int (nI _) :: _) _ _ _ _; with_reducible refine x_if_eqN (pc := 66) (tgt := 79) ?_ dX10_of_66 ?_ (fun h66 => ?_) (fun h66 => ?_); (first | omega | exact b2n_32 _ | exact b2n_31 _); decide) | refine x_if_eq (pc := 66) (tgt := 79) dX10_of_66 (by decide) (fun h66 => ?_) (fun h66 => ?_)
        · skip
          refine x_aload_n (pc := 79) dX10_of_79 rfl ?_
          refine x_iload_n (pc := 80) dX10_of_80 rfl ?_
          refine x_bipushN (pc := 81) 10 dX10_of_81 bp_10 ?_
          refine x_bipushN (pc := 83) 25 dX10_of_83 bp_25 ?_
          refine x_invV3 (pc := 85) dX10_of_85 mlX10_253 imX10_in seX10_in kX10_in (by first | assumption | rfl) rfl (Nat.le_of_ble_eq_true rfl) (by decide) ?_
          refine sm_in ?_
          refine x_cv rfl rfl ?_
          rw [b3, decide_eq_false (by omega)]
          first | (guard_target =~ Wp _ _ _ _ _ (Value.int (nI _) :: _) _ _ _ _; with_reducible refine x_if_eqN (pc := 88) (tgt := 122) ?_ dX10_of_88 ?_ (fun h88 => ?_) (fun h88 => ?_); (first | omega | exact b2n_32 _ | exact b2n_31 _); decide) | refine x_if_eq (pc := 88) (tgt := 122) dX10_of_88 (by decide) (fun h88 => ?_) (fun h88 => ?_)
          · skip
            refine x_iload_n (pc := 122) dX10_of_122 rfl ?_
            refine x_tableIn (pc := 123) (off := 44) (tgt := 167) dX10_of_123 (by decide) (by decide) (by decide) (by decide) ?_
            refine x_aload_n (pc := 167) dX10_of_167 rfl ?_
            refine x_getR (pc := 168) dX10_of_168 flX10_29 (by first | assumption | rfl) rfl ?_
            refine x_iload_n (pc := 171) dX10_of_171 rfl ?_
            refine x_ialdN (pc := 172) dX10_of_172 (by first | assumption | rfl) (by first | with_reducible rfl | (simp only [xlit, nI_add, pk_mul]; with_reducible rfl)) (by omega) (by decide) ?_
            rw [hQ.2.2.2.2 2 (by decide) i (show i < 6 by omega)]
            refine x_ret (pc := 173) (v := some _) rfl trivial dX10_of_173 (by decide) ?_
            exact h M high.rf hC
          · skip
            exact absurd rfl h88
        · skip
          exact absurd rfl h66
      · skip
        exact absurd rfl h19
    · skip
      cases h5
  · skip
    refine x_aload_n (pc := 0) dX10_of_0 rfl ?_
    refine x_iload_n (pc := 1) dX10_of_1 rfl ?_
    refine x_invV1 (pc := 2) dX10_of_2 mlX10_264 imX10_isGoer seX10_isGoer kX10_isGoer (by first | assumption | rfl) rfl (Nat.le_of_ble_eq_true rfl) (by decide) ?_
    refine sm_isGoer h6 hC.1.1 ?_
    refine x_cv rfl rfl ?_
    rw [e]
    first | (guard_target =~ Wp _ _ _ _ _ (Value.int (nI _) :: _) _ _ _ _; with_reducible refine x_if_neN (pc := 5) (tgt := 10) ?_ dX10_of_5 ?_ (fun h5 => ?_) (fun h5 => ?_); (first | omega | exact b2n_32 _ | exact b2n_31 _); decide) | refine x_if_ne (pc := 5) (tgt := 10) dX10_of_5 (by decide) (fun h5 => ?_) (fun h5 => ?_)
    · skip
      refine x_aload_n (pc := 10) dX10_of_10 rfl ?_
      refine x_iload_n (pc := 11) dX10_of_11 rfl ?_
      refine x_bipushN (pc := 12) 30 dX10_of_12 bp_30 ?_
      refine x_bipushN (pc := 14) 45 dX10_of_14 bp_45 ?_
      refine x_invV3 (pc := 16) dX10_of_16 mlX10_253 imX10_in seX10_in kX10_in (by first | assumption | rfl) rfl (Nat.le_of_ble_eq_true rfl) (by decide) ?_
      refine sm_in ?_
      refine x_cv rfl rfl ?_
      rw [b1, decide_eq_false (by omega)]
      first | (guard_target =~ Wp _ _ _ _ _ (Value.int (nI _) :: _) _ _ _ _; with_reducible refine x_if_eqN (pc := 19) (tgt := 57) ?_ dX10_of_19 ?_ (fun h19 => ?_) (fun h19 => ?_); (first | omega | exact b2n_32 _ | exact b2n_31 _); decide) | refine x_if_eq (pc := 19) (tgt := 57) dX10_of_19 (by decide) (fun h19 => ?_) (fun h19 => ?_)
      · skip
        refine x_aload_n (pc := 57) dX10_of_57 rfl ?_
        refine x_iload_n (pc := 58) dX10_of_58 rfl ?_
        refine x_bipushN (pc := 59) 50 dX10_of_59 bp_50 ?_
        refine x_bipushN (pc := 61) 65 dX10_of_61 bp_65 ?_
        refine x_invV3 (pc := 63) dX10_of_63 mlX10_253 imX10_in seX10_in kX10_in (by first | assumption | rfl) rfl (Nat.le_of_ble_eq_true rfl) (by decide) ?_
        refine sm_in ?_
        refine x_cv rfl rfl ?_
        rw [b2, decide_eq_false (by omega)]
        first | (guard_target =~ Wp _ _ _ _ _ (Value.int (nI _) :: _) _ _ _ _; with_reducible refine x_if_eqN (pc := 66) (tgt := 79) ?_ dX10_of_66 ?_ (fun h66 => ?_) (fun h66 => ?_); (first | omega | exact b2n_32 _ | exact b2n_31 _); decide) | refine x_if_eq (pc := 66) (tgt := 79) dX10_of_66 (by decide) (fun h66 => ?_) (fun h66 => ?_)
        · skip
          refine x_aload_n (pc := 79) dX10_of_79 rfl ?_
          refine x_iload_n (pc := 80) dX10_of_80 rfl ?_
          refine x_bipushN (pc := 81) 10 dX10_of_81 bp_10 ?_
          refine x_bipushN (pc := 83) 25 dX10_of_83 bp_25 ?_
          refine x_invV3 (pc := 85) dX10_of_85 mlX10_253 imX10_in seX10_in kX10_in (by first | assumption | rfl) rfl (Nat.le_of_ble_eq_true rfl) (by decide) ?_
          refine sm_in ?_
          refine x_cv rfl rfl ?_
          rw [b3, decide_eq_false (by omega)]
          first | (guard_target =~ Wp _ _ _ _ _ (Value.int (nI _) :: _) _ _ _ _; with_reducible refine x_if_eqN (pc := 88) (tgt := 122) ?_ dX10_of_88 ?_ (fun h88 => ?_) (fun h88 => ?_); (first | omega | exact b2n_32 _ | exact b2n_31 _); decide) | refine x_if_eq (pc := 88) (tgt := 122) dX10_of_88 (by decide) (fun h88 => ?_) (fun h88 => ?_)
          · skip
            refine x_iload_n (pc := 122) dX10_of_122 rfl ?_
            refine x_tableIn (pc := 123) (off := 51) (tgt := 174) dX10_of_123 (by decide) (by decide) (by decide) (by decide) ?_
            refine x_aload_n (pc := 174) dX10_of_174 rfl ?_
            refine x_getR (pc := 175) dX10_of_175 flX10_32 (by first | assumption | rfl) rfl ?_
            refine x_iload_n (pc := 178) dX10_of_178 rfl ?_
            refine x_ialdN (pc := 179) dX10_of_179 (by first | assumption | rfl) (by first | with_reducible rfl | (simp only [xlit, nI_add, pk_mul]; with_reducible rfl)) (by omega) (by decide) ?_
            rw [hQ.2.2.2.2 3 (by decide) i (show i < 6 by omega)]
            refine x_ret (pc := 180) (v := some _) rfl trivial dX10_of_180 (by decide) ?_
            exact h M high.rf hC
          · skip
            exact absurd rfl h88
        · skip
          exact absurd rfl h66
      · skip
        exact absurd rfl h19
    · skip
      cases h5
  · skip
    refine x_aload_n (pc := 0) dX10_of_0 rfl ?_
    refine x_iload_n (pc := 1) dX10_of_1 rfl ?_
    refine x_invV1 (pc := 2) dX10_of_2 mlX10_264 imX10_isGoer seX10_isGoer kX10_isGoer (by first | assumption | rfl) rfl (Nat.le_of_ble_eq_true rfl) (by decide) ?_
    refine sm_isGoer h6 hC.1.1 ?_
    refine x_cv rfl rfl ?_
    rw [e]
    first | (guard_target =~ Wp _ _ _ _ _ (Value.int (nI _) :: _) _ _ _ _; with_reducible refine x_if_neN (pc := 5) (tgt := 10) ?_ dX10_of_5 ?_ (fun h5 => ?_) (fun h5 => ?_); (first | omega | exact b2n_32 _ | exact b2n_31 _); decide) | refine x_if_ne (pc := 5) (tgt := 10) dX10_of_5 (by decide) (fun h5 => ?_) (fun h5 => ?_)
    · skip
      refine x_aload_n (pc := 10) dX10_of_10 rfl ?_
      refine x_iload_n (pc := 11) dX10_of_11 rfl ?_
      refine x_bipushN (pc := 12) 30 dX10_of_12 bp_30 ?_
      refine x_bipushN (pc := 14) 45 dX10_of_14 bp_45 ?_
      refine x_invV3 (pc := 16) dX10_of_16 mlX10_253 imX10_in seX10_in kX10_in (by first | assumption | rfl) rfl (Nat.le_of_ble_eq_true rfl) (by decide) ?_
      refine sm_in ?_
      refine x_cv rfl rfl ?_
      rw [b1, decide_eq_false (by omega)]
      first | (guard_target =~ Wp _ _ _ _ _ (Value.int (nI _) :: _) _ _ _ _; with_reducible refine x_if_eqN (pc := 19) (tgt := 57) ?_ dX10_of_19 ?_ (fun h19 => ?_) (fun h19 => ?_); (first | omega | exact b2n_32 _ | exact b2n_31 _); decide) | refine x_if_eq (pc := 19) (tgt := 57) dX10_of_19 (by decide) (fun h19 => ?_) (fun h19 => ?_)
      · skip
        refine x_aload_n (pc := 57) dX10_of_57 rfl ?_
        refine x_iload_n (pc := 58) dX10_of_58 rfl ?_
        refine x_bipushN (pc := 59) 50 dX10_of_59 bp_50 ?_
        refine x_bipushN (pc := 61) 65 dX10_of_61 bp_65 ?_
        refine x_invV3 (pc := 63) dX10_of_63 mlX10_253 imX10_in seX10_in kX10_in (by first | assumption | rfl) rfl (Nat.le_of_ble_eq_true rfl) (by decide) ?_
        refine sm_in ?_
        refine x_cv rfl rfl ?_
        rw [b2, decide_eq_false (by omega)]
        first | (guard_target =~ Wp _ _ _ _ _ (Value.int (nI _) :: _) _ _ _ _; with_reducible refine x_if_eqN (pc := 66) (tgt := 79) ?_ dX10_of_66 ?_ (fun h66 => ?_) (fun h66 => ?_); (first | omega | exact b2n_32 _ | exact b2n_31 _); decide) | refine x_if_eq (pc := 66) (tgt := 79) dX10_of_66 (by decide) (fun h66 => ?_) (fun h66 => ?_)
        · skip
          refine x_aload_n (pc := 79) dX10_of_79 rfl ?_
          refine x_iload_n (pc := 80) dX10_of_80 rfl ?_
          refine x_bipushN (pc := 81) 10 dX10_of_81 bp_10 ?_
          refine x_bipushN (pc := 83) 25 dX10_of_83 bp_25 ?_
          refine x_invV3 (pc := 85) dX10_of_85 mlX10_253 imX10_in seX10_in kX10_in (by first | assumption | rfl) rfl (Nat.le_of_ble_eq_true rfl) (by decide) ?_
          refine sm_in ?_
          refine x_cv rfl rfl ?_
          rw [b3, decide_eq_false (by omega)]
          first | (guard_target =~ Wp _ _ _ _ _ (Value.int (nI _) :: _) _ _ _ _; with_reducible refine x_if_eqN (pc := 88) (tgt := 122) ?_ dX10_of_88 ?_ (fun h88 => ?_) (fun h88 => ?_); (first | omega | exact b2n_32 _ | exact b2n_31 _); decide) | refine x_if_eq (pc := 88) (tgt := 122) dX10_of_88 (by decide) (fun h88 => ?_) (fun h88 => ?_)
          · skip
            refine x_iload_n (pc := 122) dX10_of_122 rfl ?_
            refine x_tableIn (pc := 123) (off := 58) (tgt := 181) dX10_of_123 (by decide) (by decide) (by decide) (by decide) ?_
            refine x_aload_n (pc := 181) dX10_of_181 rfl ?_
            refine x_getR (pc := 182) dX10_of_182 flX10_35 (by first | assumption | rfl) rfl ?_
            refine x_iload_n (pc := 185) dX10_of_185 rfl ?_
            refine x_ialdN (pc := 186) dX10_of_186 (by first | assumption | rfl) (by first | with_reducible rfl | (simp only [xlit, nI_add, pk_mul]; with_reducible rfl)) (by omega) (by decide) ?_
            rw [hQ.2.2.2.2 4 (by decide) i (show i < 6 by omega)]
            refine x_ret (pc := 187) (v := some _) rfl trivial dX10_of_187 (by decide) ?_
            exact h M high.rf hC
          · skip
            exact absurd rfl h88
        · skip
          exact absurd rfl h66
      · skip
        exact absurd rfl h19
    · skip
      cases h5
  · skip
    refine x_aload_n (pc := 0) dX10_of_0 rfl ?_
    refine x_iload_n (pc := 1) dX10_of_1 rfl ?_
    refine x_invV1 (pc := 2) dX10_of_2 mlX10_264 imX10_isGoer seX10_isGoer kX10_isGoer (by first | assumption | rfl) rfl (Nat.le_of_ble_eq_true rfl) (by decide) ?_
    refine sm_isGoer h6 hC.1.1 ?_
    refine x_cv rfl rfl ?_
    rw [e]
    first | (guard_target =~ Wp _ _ _ _ _ (Value.int (nI _) :: _) _ _ _ _; with_reducible refine x_if_neN (pc := 5) (tgt := 10) ?_ dX10_of_5 ?_ (fun h5 => ?_) (fun h5 => ?_); (first | omega | exact b2n_32 _ | exact b2n_31 _); decide) | refine x_if_ne (pc := 5) (tgt := 10) dX10_of_5 (by decide) (fun h5 => ?_) (fun h5 => ?_)
    · skip
      refine x_aload_n (pc := 10) dX10_of_10 rfl ?_
      refine x_iload_n (pc := 11) dX10_of_11 rfl ?_
      refine x_bipushN (pc := 12) 30 dX10_of_12 bp_30 ?_
      refine x_bipushN (pc := 14) 45 dX10_of_14 bp_45 ?_
      refine x_invV3 (pc := 16) dX10_of_16 mlX10_253 imX10_in seX10_in kX10_in (by first | assumption | rfl) rfl (Nat.le_of_ble_eq_true rfl) (by decide) ?_
      refine sm_in ?_
      refine x_cv rfl rfl ?_
      rw [b1, decide_eq_false (by omega)]
      first | (guard_target =~ Wp _ _ _ _ _ (Value.int (nI _) :: _) _ _ _ _; with_reducible refine x_if_eqN (pc := 19) (tgt := 57) ?_ dX10_of_19 ?_ (fun h19 => ?_) (fun h19 => ?_); (first | omega | exact b2n_32 _ | exact b2n_31 _); decide) | refine x_if_eq (pc := 19) (tgt := 57) dX10_of_19 (by decide) (fun h19 => ?_) (fun h19 => ?_)
      · skip
        refine x_aload_n (pc := 57) dX10_of_57 rfl ?_
        refine x_iload_n (pc := 58) dX10_of_58 rfl ?_
        refine x_bipushN (pc := 59) 50 dX10_of_59 bp_50 ?_
        refine x_bipushN (pc := 61) 65 dX10_of_61 bp_65 ?_
        refine x_invV3 (pc := 63) dX10_of_63 mlX10_253 imX10_in seX10_in kX10_in (by first | assumption | rfl) rfl (Nat.le_of_ble_eq_true rfl) (by decide) ?_
        refine sm_in ?_
        refine x_cv rfl rfl ?_
        rw [b2, decide_eq_false (by omega)]
        first | (guard_target =~ Wp _ _ _ _ _ (Value.int (nI _) :: _) _ _ _ _; with_reducible refine x_if_eqN (pc := 66) (tgt := 79) ?_ dX10_of_66 ?_ (fun h66 => ?_) (fun h66 => ?_); (first | omega | exact b2n_32 _ | exact b2n_31 _); decide) | refine x_if_eq (pc := 66) (tgt := 79) dX10_of_66 (by decide) (fun h66 => ?_) (fun h66 => ?_)
        · skip
          refine x_aload_n (pc := 79) dX10_of_79 rfl ?_
          refine x_iload_n (pc := 80) dX10_of_80 rfl ?_
          refine x_bipushN (pc := 81) 10 dX10_of_81 bp_10 ?_
          refine x_bipushN (pc := 83) 25 dX10_of_83 bp_25 ?_
          refine x_invV3 (pc := 85) dX10_of_85 mlX10_253 imX10_in seX10_in kX10_in (by first | assumption | rfl) rfl (Nat.le_of_ble_eq_true rfl) (by decide) ?_
          refine sm_in ?_
          refine x_cv rfl rfl ?_
          rw [b3, decide_eq_false (by omega)]
          first | (guard_target =~ Wp _ _ _ _ _ (Value.int (nI _) :: _) _ _ _ _; with_reducible refine x_if_eqN (pc := 88) (tgt := 122) ?_ dX10_of_88 ?_ (fun h88 => ?_) (fun h88 => ?_); (first | omega | exact b2n_32 _ | exact b2n_31 _); decide) | refine x_if_eq (pc := 88) (tgt := 122) dX10_of_88 (by decide) (fun h88 => ?_) (fun h88 => ?_)
          · skip
            refine x_iload_n (pc := 122) dX10_of_122 rfl ?_
            refine x_tableIn (pc := 123) (off := 65) (tgt := 188) dX10_of_123 (by decide) (by decide) (by decide) (by decide) ?_
            refine x_aload_n (pc := 188) dX10_of_188 rfl ?_
            refine x_aload_n (pc := 189) dX10_of_189 rfl ?_
            refine x_getI (pc := 190) dX10_of_190 flX10_13 (by first | assumption | rfl) rfl ?_
            rw [hQ.2.1]
            refine x_iload_n (pc := 193) dX10_of_193 rfl ?_
            refine x_invV2 (pc := 194) dX10_of_194 mlX10_245 imX10_has seX10_has kX10_has (by first | assumption | rfl) rfl (Nat.le_of_ble_eq_true rfl) (by decide) ?_
            refine sm_has (by omega) ?_
            refine x_cv rfl rfl ?_
            rw [tb_nI (by omega)]
            first | (guard_target =~ Wp _ _ _ _ _ (Value.int (nI _) :: _) _ _ _ _; with_reducible refine x_if_eqN (pc := 197) (tgt := 204) ?_ dX10_of_197 ?_ (fun h197 => ?_) (fun h197 => ?_); (first | omega | exact b2n_32 _ | exact b2n_31 _); decide) | refine x_if_eq (pc := 197) (tgt := 204) dX10_of_197 (by decide) (fun h197 => ?_) (fun h197 => ?_)
            · skip
              refine x_iconstN (pc := 204) 0 dX10_of_204 ic_0 ?_
              refine x_ret (pc := 205) (v := some _) rfl trivial dX10_of_205 (by decide) ?_
              rw [b2n_0 h197] at h; exact h M high.rf hC
            · skip
              refine x_iconstN (pc := 200) 1 dX10_of_200 ic_1 ?_
              refine x_goto (pc := 201) (tgt := 205) dX10_of_201 (by decide) ?_
              refine x_ret (pc := 205) (v := some _) rfl trivial dX10_of_205 (by decide) ?_
              rw [b2n_1 h197] at h; exact h M high.rf hC
          · skip
            exact absurd rfl h88
        · skip
          exact absurd rfl h66
      · skip
        exact absurd rfl h19
    · skip
      cases h5
  · skip
    refine x_aload_n (pc := 0) dX10_of_0 rfl ?_
    refine x_iload_n (pc := 1) dX10_of_1 rfl ?_
    refine x_invV1 (pc := 2) dX10_of_2 mlX10_264 imX10_isGoer seX10_isGoer kX10_isGoer (by first | assumption | rfl) rfl (Nat.le_of_ble_eq_true rfl) (by decide) ?_
    refine sm_isGoer h6 hC.1.1 ?_
    refine x_cv rfl rfl ?_
    rw [e]
    first | (guard_target =~ Wp _ _ _ _ _ (Value.int (nI _) :: _) _ _ _ _; with_reducible refine x_if_neN (pc := 5) (tgt := 10) ?_ dX10_of_5 ?_ (fun h5 => ?_) (fun h5 => ?_); (first | omega | exact b2n_32 _ | exact b2n_31 _); decide) | refine x_if_ne (pc := 5) (tgt := 10) dX10_of_5 (by decide) (fun h5 => ?_) (fun h5 => ?_)
    · skip
      refine x_aload_n (pc := 10) dX10_of_10 rfl ?_
      refine x_iload_n (pc := 11) dX10_of_11 rfl ?_
      refine x_bipushN (pc := 12) 30 dX10_of_12 bp_30 ?_
      refine x_bipushN (pc := 14) 45 dX10_of_14 bp_45 ?_
      refine x_invV3 (pc := 16) dX10_of_16 mlX10_253 imX10_in seX10_in kX10_in (by first | assumption | rfl) rfl (Nat.le_of_ble_eq_true rfl) (by decide) ?_
      refine sm_in ?_
      refine x_cv rfl rfl ?_
      rw [b1, decide_eq_false (by omega)]
      first | (guard_target =~ Wp _ _ _ _ _ (Value.int (nI _) :: _) _ _ _ _; with_reducible refine x_if_eqN (pc := 19) (tgt := 57) ?_ dX10_of_19 ?_ (fun h19 => ?_) (fun h19 => ?_); (first | omega | exact b2n_32 _ | exact b2n_31 _); decide) | refine x_if_eq (pc := 19) (tgt := 57) dX10_of_19 (by decide) (fun h19 => ?_) (fun h19 => ?_)
      · skip
        refine x_aload_n (pc := 57) dX10_of_57 rfl ?_
        refine x_iload_n (pc := 58) dX10_of_58 rfl ?_
        refine x_bipushN (pc := 59) 50 dX10_of_59 bp_50 ?_
        refine x_bipushN (pc := 61) 65 dX10_of_61 bp_65 ?_
        refine x_invV3 (pc := 63) dX10_of_63 mlX10_253 imX10_in seX10_in kX10_in (by first | assumption | rfl) rfl (Nat.le_of_ble_eq_true rfl) (by decide) ?_
        refine sm_in ?_
        refine x_cv rfl rfl ?_
        rw [b2, decide_eq_false (by omega)]
        first | (guard_target =~ Wp _ _ _ _ _ (Value.int (nI _) :: _) _ _ _ _; with_reducible refine x_if_eqN (pc := 66) (tgt := 79) ?_ dX10_of_66 ?_ (fun h66 => ?_) (fun h66 => ?_); (first | omega | exact b2n_32 _ | exact b2n_31 _); decide) | refine x_if_eq (pc := 66) (tgt := 79) dX10_of_66 (by decide) (fun h66 => ?_) (fun h66 => ?_)
        · skip
          refine x_aload_n (pc := 79) dX10_of_79 rfl ?_
          refine x_iload_n (pc := 80) dX10_of_80 rfl ?_
          refine x_bipushN (pc := 81) 10 dX10_of_81 bp_10 ?_
          refine x_bipushN (pc := 83) 25 dX10_of_83 bp_25 ?_
          refine x_invV3 (pc := 85) dX10_of_85 mlX10_253 imX10_in seX10_in kX10_in (by first | assumption | rfl) rfl (Nat.le_of_ble_eq_true rfl) (by decide) ?_
          refine sm_in ?_
          refine x_cv rfl rfl ?_
          rw [b3, decide_eq_false (by omega)]
          first | (guard_target =~ Wp _ _ _ _ _ (Value.int (nI _) :: _) _ _ _ _; with_reducible refine x_if_eqN (pc := 88) (tgt := 122) ?_ dX10_of_88 ?_ (fun h88 => ?_) (fun h88 => ?_); (first | omega | exact b2n_32 _ | exact b2n_31 _); decide) | refine x_if_eq (pc := 88) (tgt := 122) dX10_of_88 (by decide) (fun h88 => ?_) (fun h88 => ?_)
          · skip
            refine x_iload_n (pc := 122) dX10_of_122 rfl ?_
            refine x_tableIn (pc := 123) (off := 83) (tgt := 206) dX10_of_123 (by decide) (by decide) (by decide) (by decide) ?_
            refine x_aload_n (pc := 206) dX10_of_206 rfl ?_
            refine x_iload_n (pc := 207) dX10_of_207 rfl ?_
            refine x_invV1 (pc := 208) dX10_of_208 mlX10_339 imX10_layWay seX10_layWay kX10_layWay (by first | assumption | rfl) rfl (Nat.le_of_ble_eq_true rfl) (by decide) ?_
            refine sm_layWay hB hQ hi6 (fun M1 ho1 h31 hway => ?_)
            refine x_cn rfl rfl ?_
            refine x_aload_n (pc := 211) dX10_of_211 rfl ?_
            refine x_getI (pc := 212) dX10_of_212 flX10_105 (by first | assumption | rfl) rfl ?_
            rw [h31]
            refine x_ret (pc := 215) (v := some _) rfl trivial dX10_of_215 (by decide) ?_
            rw [if_neg (by decide), if_neg (by decide), if_neg (by decide), if_neg (by decide), if_neg (by decide), if_pos rfl, hL2.1 i hi, way_pop (hB.1 3 (by decide) i (show i < 6 by omega)) (hB.1 4 (by decide) i (show i < 6 by omega))] at h
            exact h M1 ((ho1.wide pZ_W).qsm.1.1) (hC.st (ho1.wide pZ_W).qsm)
          · skip
            exact absurd rfl h88
        · skip
          exact absurd rfl h66
      · skip
        exact absurd rfl h19
    · skip
      cases h5
end P86
