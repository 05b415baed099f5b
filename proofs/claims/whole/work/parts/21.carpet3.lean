/-! CARPET 3: treads, gain, days -/
section P21
variable {g : XG} {d : Nat} {M : XM} {K : Option Value → XS → XM → Prop} {a gg c days : Nat} {A : XA} {w r : Int32}
theorem nxt_has {t c : Nat} (ht : t < 16) (hc : c < 16) : (nxt (2 ^ t)).testBit c = adj t c := by
  rw [nxt_tb (two_lt ht) c hc, Bool.eq_iff_iff, anyN_iff]
  constructor
  · rintro ⟨b, hb, h2⟩
    rw [two_tb, Bool.and_eq_true, decide_eq_true_eq] at h2
    rw [h2.1]; exact h2.2
  · intro h2
    exact ⟨t, ht, by rw [two_tb, h2]; simp⟩
theorem treads_tail {o : Nat} (hg : gg < 6) (hcc : c < 16) (hdy : days ≤ 100) (hc : Car a) (hR : CR a M A w r) (h : K (some (.int (nI (o + exT A gg c days)))) xSF M) :
    Wp g (d + 1) mX2_treads 50 [some (.ref a), some (.int (nI gg)), some (.int (nI c)), some (.int (nI days)), some (.int (nI o))] [.int (nI (A 1 gg))] xSF (0, 0) M K := by
  have hc' := hc
  obtain ⟨c0, c1, c2, c3, c4, c5, c6, c7, c8, c9, c10, c11⟩ := hc
  have hk := hR.kindB hg
  have ht16 := hR.toB hg
  have hf16 := hR.fromB hg
  obtain ⟨kd, hkd⟩ : ∃ kd, kd = A 1 gg := ⟨_, rfl⟩
  rw [← hkd] at hk ⊢
  rcases (show kd = 0 ∨ kd = 1 ∨ kd = 2 ∨ kd = 3 ∨ kd = 4 ∨ kd = 5 ∨ kd = 6 by omega) with rfl | rfl | rfl | rfl | rfl | rfl | rfl
  · refine x_tableOut (pc := 50) (tgt := 153) dX2_treads_50 (by decide +kernel) (by decide) ?_
    have e : exT A gg c days = 0 := by unfold exT; rw [← hkd]; rfl
    rw [e, Nat.add_zero] at h
    refine x_iload (pc := 153) dX2_treads_153 rfl ?_
    refine x_ret (pc := 155) (v := some _) rfl trivial dX2_treads_155 (by decide) ?_
    exact h
  · refine x_tableOut (pc := 50) (tgt := 153) dX2_treads_50 (by decide +kernel) (by decide) ?_
    have e : exT A gg c days = 0 := by unfold exT; rw [← hkd]; rfl
    rw [e, Nat.add_zero] at h
    refine x_iload (pc := 153) dX2_treads_153 rfl ?_
    refine x_ret (pc := 155) (v := some _) rfl trivial dX2_treads_155 (by decide) ?_
    exact h
  · refine x_tableOut (pc := 50) (tgt := 153) dX2_treads_50 (by decide +kernel) (by decide) ?_
    have e : exT A gg c days = 0 := by unfold exT; rw [← hkd]; rfl
    rw [e, Nat.add_zero] at h
    refine x_iload (pc := 153) dX2_treads_153 rfl ?_
    refine x_ret (pc := 155) (v := some _) rfl trivial dX2_treads_155 (by decide) ?_
    exact h
  · refine x_tableOut (pc := 50) (tgt := 153) dX2_treads_50 (by decide +kernel) (by decide) ?_
    have e : exT A gg c days = 0 := by unfold exT; rw [← hkd]; rfl
    rw [e, Nat.add_zero] at h
    refine x_iload (pc := 153) dX2_treads_153 rfl ?_
    refine x_ret (pc := 155) (v := some _) rfl trivial dX2_treads_155 (by decide) ?_
    exact h
  · refine x_tableIn (pc := 50) (off := 26) (tgt := 76) dX2_treads_50 (by decide +kernel) (by decide +kernel) (by decide +kernel) (by decide) ?_
    have e : exT A gg c days = if c = A 4 gg then A 2 gg * days else 0 := by unfold exT; rw [← hkd]; rfl
    rw [e] at h
    refine x_iload (pc := 76) dX2_treads_76 rfl ?_
    refine x_iload_n (pc := 78) dX2_treads_78 rfl ?_
    refine x_aload_n (pc := 79) dX2_treads_79 rfl ?_
    refine x_getR (pc := 80) dX2_treads_80 flX2_24 (by first | assumption | rfl) rfl ?_
    refine x_iload_n (pc := 83) dX2_treads_83 rfl ?_
    refine x_ialdN (pc := 84) dX2_treads_84 (by first | assumption | rfl) (by first | with_reducible rfl | (simp only [xlit, nI_add, pk_mul]; with_reducible rfl)) (by omega) (by decide) ?_
    rw [hR.to hg]
    first | (guard_target =~ Wp _ _ _ _ _ (Value.int (nI _) :: Value.int (nI _) :: _) _ _ _ _; with_reducible refine x_icmp_neN (pc := 85) (tgt := 99) ?_ ?_ dX2_treads_85 ?_ (fun h85 => ?_) (fun h85 => ?_); (first | omega | exact b2n_31 _); (first | omega | exact b2n_31 _); decide) | refine x_icmp_ne (pc := 85) (tgt := 99) dX2_treads_85 (by decide) (fun h85 => ?_) (fun h85 => ?_)
    · skip
      refine x_iconstN (pc := 99) 0 dX2_treads_99 ic_0 ?_
      first | (guard_target =~ Wp _ _ _ _ _ (Value.int (nI _) :: Value.int (nI _) :: _) _ _ _ _; with_reducible refine x_iaddN (pc := 100) dX2_treads_100 ?_) | refine x_iadd (pc := 100) dX2_treads_100 ?_
      refine x_ret (pc := 101) (v := some _) rfl trivial dX2_treads_101 (by decide) ?_
      rw [if_neg h85] at h; exact h
    · skip
      refine x_aload_n (pc := 88) dX2_treads_88 rfl ?_
      refine x_getR (pc := 89) dX2_treads_89 flX2_18 (by first | assumption | rfl) rfl ?_
      refine x_iload_n (pc := 92) dX2_treads_92 rfl ?_
      refine x_ialdN (pc := 93) dX2_treads_93 (by first | assumption | rfl) (by first | with_reducible rfl | (simp only [xlit, nI_add, pk_mul]; with_reducible rfl)) (by omega) (by decide) ?_
      rw [hR.v hg]
      refine x_iload_n (pc := 94) dX2_treads_94 rfl ?_
      first | (guard_target =~ Wp _ _ _ _ _ (Value.int (nI _) :: Value.int (nI _) :: _) _ _ _ _; with_reducible refine x_imulN (pc := 95) dX2_treads_95 ?_) | refine x_imul (pc := 95) dX2_treads_95 ?_
      refine x_goto (pc := 96) (tgt := 100) dX2_treads_96 (by decide) ?_
      first | (guard_target =~ Wp _ _ _ _ _ (Value.int (nI _) :: Value.int (nI _) :: _) _ _ _ _; with_reducible refine x_iaddN (pc := 100) dX2_treads_100 ?_) | refine x_iadd (pc := 100) dX2_treads_100 ?_
      refine x_ret (pc := 101) (v := some _) rfl trivial dX2_treads_101 (by decide) ?_
      rw [if_pos h85] at h; exact h
  · refine x_tableIn (pc := 50) (off := 52) (tgt := 102) dX2_treads_50 (by decide +kernel) (by decide +kernel) (by decide +kernel) (by decide) ?_
    have e : exT A gg c days = if adj (A 4 gg) c then days else 0 := by unfold exT; rw [← hkd]; rfl
    rw [e] at h
    refine x_iload (pc := 102) dX2_treads_102 rfl ?_
    refine x_iconstN (pc := 104) 1 dX2_treads_104 ic_1 ?_
    refine x_aload_n (pc := 105) dX2_treads_105 rfl ?_
    refine x_getR (pc := 106) dX2_treads_106 flX2_24 (by first | assumption | rfl) rfl ?_
    refine x_iload_n (pc := 109) dX2_treads_109 rfl ?_
    refine x_ialdN (pc := 110) dX2_treads_110 (by first | assumption | rfl) (by first | with_reducible rfl | (simp only [xlit, nI_add, pk_mul]; with_reducible rfl)) (by omega) (by decide) ?_
    rw [hR.to hg]
    first | (guard_target =~ Wp _ _ _ _ _ (Value.int (nI _) :: Value.int (nI _) :: _) _ _ _ _; with_reducible refine x_ishlN (pc := 111) ?_ dX2_treads_111 ?_; omega) | refine x_ishl (pc := 111) dX2_treads_111 ?_
    rw [Nat.one_mul]
    refine x_invS1 (pc := 112) dX2_treads_112 mlX2_105 stX3_nextTo kX3_nextTo (Nat.le_of_ble_eq_true rfl) (by decide) ?_
    refine sp_X3_nextTo (two_lt ht16) ?_
    refine x_cv rfl rfl ?_
    refine x_iload_n (pc := 115) dX2_treads_115 rfl ?_
    refine x_invS2 (pc := 116) dX2_treads_116 mlX2_96 stX3_has kX3_has (Nat.le_of_ble_eq_true rfl) (by decide) ?_
    refine sp_X3_has (by omega) ?_
    refine x_cv rfl rfl ?_
    rw [tb_nI (by omega), nxt_has ht16 hcc]
    first | (guard_target =~ Wp _ _ _ _ _ (Value.int (nI _) :: _) _ _ _ _; with_reducible refine x_if_eqN (pc := 119) (tgt := 126) ?_ dX2_treads_119 ?_ (fun h119 => ?_) (fun h119 => ?_); (first | omega | exact b2n_32 _ | exact b2n_31 _); decide) | refine x_if_eq (pc := 119) (tgt := 126) dX2_treads_119 (by decide) (fun h119 => ?_) (fun h119 => ?_)
    · skip
      refine x_iconstN (pc := 126) 0 dX2_treads_126 ic_0 ?_
      first | (guard_target =~ Wp _ _ _ _ _ (Value.int (nI _) :: Value.int (nI _) :: _) _ _ _ _; with_reducible refine x_iaddN (pc := 127) dX2_treads_127 ?_) | refine x_iadd (pc := 127) dX2_treads_127 ?_
      refine x_ret (pc := 128) (v := some _) rfl trivial dX2_treads_128 (by decide) ?_
      rw [b2n_0 h119] at h; exact h
    · skip
      refine x_iload_n (pc := 122) dX2_treads_122 rfl ?_
      refine x_goto (pc := 123) (tgt := 127) dX2_treads_123 (by decide) ?_
      first | (guard_target =~ Wp _ _ _ _ _ (Value.int (nI _) :: Value.int (nI _) :: _) _ _ _ _; with_reducible refine x_iaddN (pc := 127) dX2_treads_127 ?_) | refine x_iadd (pc := 127) dX2_treads_127 ?_
      refine x_ret (pc := 128) (v := some _) rfl trivial dX2_treads_128 (by decide) ?_
      rw [b2n_1 h119] at h; exact h
  · refine x_tableIn (pc := 50) (off := 79) (tgt := 129) dX2_treads_50 (by decide +kernel) (by decide +kernel) (by decide +kernel) (by decide) ?_
    have e : exT A gg c days = if c = A 3 gg then trR A gg days else 0 := by unfold exT; rw [← hkd]; rfl
    rw [e] at h
    refine x_iload (pc := 129) dX2_treads_129 rfl ?_
    refine x_iload_n (pc := 131) dX2_treads_131 rfl ?_
    refine x_aload_n (pc := 132) dX2_treads_132 rfl ?_
    refine x_getR (pc := 133) dX2_treads_133 flX2_21 (by first | assumption | rfl) rfl ?_
    refine x_iload_n (pc := 136) dX2_treads_136 rfl ?_
    refine x_ialdN (pc := 137) dX2_treads_137 (by first | assumption | rfl) (by first | with_reducible rfl | (simp only [xlit, nI_add, pk_mul]; with_reducible rfl)) (by omega) (by decide) ?_
    rw [hR.from hg]
    first | (guard_target =~ Wp _ _ _ _ _ (Value.int (nI _) :: Value.int (nI _) :: _) _ _ _ _; with_reducible refine x_icmp_neN (pc := 138) (tgt := 150) ?_ ?_ dX2_treads_138 ?_ (fun h138 => ?_) (fun h138 => ?_); (first | omega | exact b2n_31 _); (first | omega | exact b2n_31 _); decide) | refine x_icmp_ne (pc := 138) (tgt := 150) dX2_treads_138 (by decide) (fun h138 => ?_) (fun h138 => ?_)
    · skip
      refine x_iconstN (pc := 150) 0 dX2_treads_150 ic_0 ?_
      first | (guard_target =~ Wp _ _ _ _ _ (Value.int (nI _) :: Value.int (nI _) :: _) _ _ _ _; with_reducible refine x_iaddN (pc := 151) dX2_treads_151 ?_) | refine x_iadd (pc := 151) dX2_treads_151 ?_
      refine x_ret (pc := 152) (v := some _) rfl trivial dX2_treads_152 (by decide) ?_
      rw [if_neg h138] at h; exact h
    · skip
      refine x_aload_n (pc := 141) dX2_treads_141 rfl ?_
      refine x_iload_n (pc := 142) dX2_treads_142 rfl ?_
      refine x_iload_n (pc := 143) dX2_treads_143 rfl ?_
      refine x_invV2 (pc := 144) dX2_treads_144 mlX2_108 imX2_treadsOfRow seX2_treadsOfRow kX2_treadsOfRow (by first | assumption | rfl) rfl (Nat.le_of_ble_eq_true rfl) (by decide) ?_
      refine sp_X2_treadsOfRow hg hdy hc' hR ?_
      refine x_cv rfl rfl ?_
      refine x_goto (pc := 147) (tgt := 151) dX2_treads_147 (by decide) ?_
      first | (guard_target =~ Wp _ _ _ _ _ (Value.int (nI _) :: Value.int (nI _) :: _) _ _ _ _; with_reducible refine x_iaddN (pc := 151) dX2_treads_151 ?_) | refine x_iadd (pc := 151) dX2_treads_151 ?_
      refine x_ret (pc := 152) (v := some _) rfl trivial dX2_treads_152 (by decide) ?_
      rw [if_pos h138] at h; exact h
theorem sp_X2_treads (hg : gg < 6) (hcc : c < 16) (hdy : days ≤ 100) (hc : Car a) (hR : CR a M A w r) (h : K (some (.int (nI (trd A w gg c days)))) xSF M) : Ex g (d + 1) yX2_treads mX2_treads [.ref a, .int (nI gg), .int (nI c), .int (nI days)] xSF M K := by
  have hc' := hc
  obtain ⟨c0, c1, c2, c3, c4, c5, c6, c7, c8, c9, c10, c11⟩ := hc
  refine x_entry kX2_treads (Nat.le_of_ble_eq_true rfl) ?_
  show Wp g _ mX2_treads 0 [some (.ref a), some (.int (nI gg)), some (.int (nI c)), some (.int (nI days)), none] [] _ _ _ _
  have hw16 := hR.waysB hg
  have hzero : (tb w gg = true ∨ A 6 gg = 0) → K (some (.int (nI 0))) xSF M := fun z => by
    rw [show trd A w gg c days = 0 by unfold trd; rw [if_pos z]] at h; exact h
  refine x_aload_n (pc := 0) dX2_treads_0 rfl ?_
  refine x_iload_n (pc := 1) dX2_treads_1 rfl ?_
  refine x_invV1 (pc := 2) dX2_treads_2 mlX2_92 imX2_isAway seX2_isAway kX2_isAway (by first | assumption | rfl) rfl (Nat.le_of_ble_eq_true rfl) (by decide) ?_
  refine sp_X2_isAway (by omega) hc' hR ?_
  refine x_cv rfl rfl ?_
  first | (guard_target =~ Wp _ _ _ _ _ (Value.int (nI _) :: _) _ _ _ _; with_reducible refine x_if_neN (pc := 5) (tgt := 17) ?_ dX2_treads_5 ?_ (fun h5 => ?_) (fun h5 => ?_); (first | omega | exact b2n_32 _ | exact b2n_31 _); decide) | refine x_if_ne (pc := 5) (tgt := 17) dX2_treads_5 (by decide) (fun h5 => ?_) (fun h5 => ?_)
  · skip
    refine x_iconstN (pc := 17) 0 dX2_treads_17 ic_0 ?_
    refine x_ret (pc := 18) (v := some _) rfl trivial dX2_treads_18 (by decide) ?_
    exact hzero (Or.inl (b2n_1 h5))
  · skip
    refine x_aload_n (pc := 8) dX2_treads_8 rfl ?_
    refine x_getR (pc := 9) dX2_treads_9 flX2_30 (by first | assumption | rfl) rfl ?_
    refine x_iload_n (pc := 12) dX2_treads_12 rfl ?_
    refine x_ialdN (pc := 13) dX2_treads_13 (by first | assumption | rfl) (by first | with_reducible rfl | (simp only [xlit, nI_add, pk_mul]; with_reducible rfl)) (by omega) (by decide) ?_
    rw [hR.ways hg]
    first | (guard_target =~ Wp _ _ _ _ _ (Value.int (nI _) :: _) _ _ _ _; with_reducible refine x_if_neN (pc := 14) (tgt := 19) ?_ dX2_treads_14 ?_ (fun h14 => ?_) (fun h14 => ?_); (first | omega | exact b2n_32 _ | exact b2n_31 _); decide) | refine x_if_ne (pc := 14) (tgt := 19) dX2_treads_14 (by decide) (fun h14 => ?_) (fun h14 => ?_)
    · skip
      refine x_aload_n (pc := 19) dX2_treads_19 rfl ?_
      refine x_getR (pc := 20) dX2_treads_20 flX2_30 (by first | assumption | rfl) rfl ?_
      refine x_iload_n (pc := 23) dX2_treads_23 rfl ?_
      refine x_ialdN (pc := 24) dX2_treads_24 (by first | assumption | rfl) (by first | with_reducible rfl | (simp only [xlit, nI_add, pk_mul]; with_reducible rfl)) (by omega) (by decide) ?_
      rw [hR.ways hg]
      refine x_iload_n (pc := 25) dX2_treads_25 rfl ?_
      refine x_invS2 (pc := 26) dX2_treads_26 mlX2_96 stX3_has kX3_has (Nat.le_of_ble_eq_true rfl) (by decide) ?_
      refine sp_X3_has (by omega) ?_
      refine x_cv rfl rfl ?_
      rw [tb_nI (by omega)]
      first | (guard_target =~ Wp _ _ _ _ _ (Value.int (nI _) :: _) _ _ _ _; with_reducible refine x_if_eqN (pc := 29) (tgt := 41) ?_ dX2_treads_29 ?_ (fun h29 => ?_) (fun h29 => ?_); (first | omega | exact b2n_32 _ | exact b2n_31 _); decide) | refine x_if_eq (pc := 29) (tgt := 41) dX2_treads_29 (by decide) (fun h29 => ?_) (fun h29 => ?_)
      · skip
        refine x_iconstN (pc := 41) 0 dX2_treads_41 ic_0 ?_
        refine x_istore (pc := 42) dX2_treads_42 (by decide) xs_4 (x_hp rfl) ?_
        refine x_aload_n (pc := 44) dX2_treads_44 rfl ?_
        refine x_getR (pc := 45) dX2_treads_45 flX2_15 (by first | assumption | rfl) rfl ?_
        refine x_iload_n (pc := 48) dX2_treads_48 rfl ?_
        refine x_ialdN (pc := 49) dX2_treads_49 (by first | assumption | rfl) (by first | with_reducible rfl | (simp only [xlit, nI_add, pk_mul]; with_reducible rfl)) (by omega) (by decide) ?_
        rw [hR.kind hg]
        refine treads_tail hg hcc hdy hc' hR ?_
        rw [show trd A w gg c days = 0 + exT A gg c days by unfold trd; rw [if_neg (by rw [b2n_0 h5]; simp [h14]), b2n_0 h29]; rfl] at h
        exact h
      · skip
        refine x_aload_n (pc := 32) dX2_treads_32 rfl ?_
        refine x_iload_n (pc := 33) dX2_treads_33 rfl ?_
        refine x_iload_n (pc := 34) dX2_treads_34 rfl ?_
        refine x_invV2 (pc := 35) dX2_treads_35 mlX2_102 imX2_treadsOnWay seX2_treadsOnWay kX2_treadsOnWay (by first | assumption | rfl) rfl (Nat.le_of_ble_eq_true rfl) (by decide) ?_
        refine sp_X2_treadsOnWay hg hdy hc' hR ?_
        refine x_cv rfl rfl ?_
        refine x_goto (pc := 38) (tgt := 42) dX2_treads_38 (by decide) ?_
        refine x_istore (pc := 42) dX2_treads_42 (by decide) xs_4 (x_hp rfl) ?_
        refine x_aload_n (pc := 44) dX2_treads_44 rfl ?_
        refine x_getR (pc := 45) dX2_treads_45 flX2_15 (by first | assumption | rfl) rfl ?_
        refine x_iload_n (pc := 48) dX2_treads_48 rfl ?_
        refine x_ialdN (pc := 49) dX2_treads_49 (by first | assumption | rfl) (by first | with_reducible rfl | (simp only [xlit, nI_add, pk_mul]; with_reducible rfl)) (by omega) (by decide) ?_
        rw [hR.kind hg]
        refine treads_tail hg hcc hdy hc' hR ?_
        rw [show trd A w gg c days = onT A gg days + exT A gg c days by unfold trd; rw [if_neg (by rw [b2n_0 h5]; simp [h14]), b2n_1 h29]; rfl] at h
        exact h
    · skip
      refine x_iconstN (pc := 17) 0 dX2_treads_17 ic_0 ?_
      refine x_ret (pc := 18) (v := some _) rfl trivial dX2_treads_18 (by decide) ?_
      exact hzero (Or.inr h14)
theorem sp_X2_gain (hcc : c < 16) (hdy : days ≤ 100) (hc : Car a) (hR : CR a M A w r) (h : K (some (.int (nI (gainA A w c days)))) xSF M) : Ex g (d + 2) yX2_gain mX2_gain [.ref a, .int (nI c), .int (nI days)] xSF M K := by
  have hc' := hc
  obtain ⟨c0, c1, c2, c3, c4, c5, c6, c7, c8, c9, c10, c11⟩ := hc
  refine x_entry kX2_gain (Nat.le_of_ble_eq_true rfl) ?_
  show Wp g _ mX2_gain 0 [some (.ref a), some (.int (nI c)), some (.int (nI days)), none, none] [] _ _ _ _
  have h6 := hR.goersB
  have loop : ∀ n k, k + n = A 8 0 → Wp g (d + 2) mX2_gain 5 [some (.ref a), some (.int (nI c)), some (.int (nI days)), some (.int (nI (xsum (fun g => trd A w g c days * A 7 (g * 16 + c)) k))), some (.int (nI k))] [] xSF (0, 0) M K := by
    intro n
    induction n with
    | zero =>
      intro k hk
      obtain rfl : k = A 8 0 := by omega
      refine x_iload (pc := 5) dX2_gain_5 rfl ?_
      refine x_aload_n (pc := 7) dX2_gain_7 rfl ?_
      refine x_getI (pc := 8) dX2_gain_8 flX2_58 (by first | assumption | rfl) rfl ?_
      rw [hR.goers]
      first | (guard_target =~ Wp _ _ _ _ _ (Value.int (nI _) :: Value.int (nI _) :: _) _ _ _ _; with_reducible refine x_icmp_geN (pc := 11) (tgt := 44) ?_ ?_ dX2_gain_11 ?_ (fun h11 => ?_) (fun h11 => ?_); (first | omega | exact b2n_31 _); (first | omega | exact b2n_31 _); decide) | refine x_icmp_ge (pc := 11) (tgt := 44) dX2_gain_11 (by decide) (fun h11 => ?_) (fun h11 => ?_)
      · skip
        refine x_iload_n (pc := 44) dX2_gain_44 rfl ?_
        refine x_ret (pc := 45) (v := some _) rfl trivial dX2_gain_45 (by decide) ?_
        exact h
      · skip
        omega
    | succ n ih =>
      intro k hk
      refine x_iload (pc := 5) dX2_gain_5 rfl ?_
      refine x_aload_n (pc := 7) dX2_gain_7 rfl ?_
      refine x_getI (pc := 8) dX2_gain_8 flX2_58 (by first | assumption | rfl) rfl ?_
      rw [hR.goers]
      first | (guard_target =~ Wp _ _ _ _ _ (Value.int (nI _) :: Value.int (nI _) :: _) _ _ _ _; with_reducible refine x_icmp_geN (pc := 11) (tgt := 44) ?_ ?_ dX2_gain_11 ?_ (fun h11 => ?_) (fun h11 => ?_); (first | omega | exact b2n_31 _); (first | omega | exact b2n_31 _); decide) | refine x_icmp_ge (pc := 11) (tgt := 44) dX2_gain_11 (by decide) (fun h11 => ?_) (fun h11 => ?_)
      · skip
        omega
      · skip
        refine x_iload_n (pc := 14) dX2_gain_14 rfl ?_
        refine x_aload_n (pc := 15) dX2_gain_15 rfl ?_
        refine x_iload (pc := 16) dX2_gain_16 rfl ?_
        refine x_iload_n (pc := 18) dX2_gain_18 rfl ?_
        refine x_iload_n (pc := 19) dX2_gain_19 rfl ?_
        refine x_invV3 (pc := 20) dX2_gain_20 mlX2_111 imX2_treads seX2_treads kX2_treads (by first | assumption | rfl) rfl (Nat.le_of_ble_eq_true rfl) (by decide) ?_
        refine sp_X2_treads (by omega) hcc hdy hc' hR ?_
        refine x_cv rfl rfl ?_
        refine x_aload_n (pc := 23) dX2_gain_23 rfl ?_
        refine x_getR (pc := 24) dX2_gain_24 flX2_33 (by first | assumption | rfl) rfl ?_
        refine x_iload (pc := 27) dX2_gain_27 rfl ?_
        refine x_bipushN (pc := 29) 16 dX2_gain_29 bp_16 ?_
        first | (guard_target =~ Wp _ _ _ _ _ (Value.int (nI _) :: Value.int (nI _) :: _) _ _ _ _; with_reducible refine x_imulN (pc := 31) dX2_gain_31 ?_) | refine x_imul (pc := 31) dX2_gain_31 ?_
        refine x_iload_n (pc := 32) dX2_gain_32 rfl ?_
        first | (guard_target =~ Wp _ _ _ _ _ (Value.int (nI _) :: Value.int (nI _) :: _) _ _ _ _; with_reducible refine x_iaddN (pc := 33) dX2_gain_33 ?_) | refine x_iadd (pc := 33) dX2_gain_33 ?_
        refine x_ialdN (pc := 34) dX2_gain_34 (by first | assumption | rfl) (by first | with_reducible rfl | (simp only [xlit, nI_add, pk_mul]; with_reducible rfl)) (by omega) (by decide) ?_
        rw [hR.yields (by omega)]
        first | (guard_target =~ Wp _ _ _ _ _ (Value.int (nI _) :: Value.int (nI _) :: _) _ _ _ _; with_reducible refine x_imulN (pc := 35) dX2_gain_35 ?_) | refine x_imul (pc := 35) dX2_gain_35 ?_
        first | (guard_target =~ Wp _ _ _ _ _ (Value.int (nI _) :: Value.int (nI _) :: _) _ _ _ _; with_reducible refine x_iaddN (pc := 36) dX2_gain_36 ?_) | refine x_iadd (pc := 36) dX2_gain_36 ?_
        refine x_istore_n (pc := 37) dX2_gain_37 (by decide) xs_3 (x_hp rfl) ?_
        first | (guard_target =~ Wp _ _ _ _ (_ :: _ :: _ :: _ :: some (Value.int (nI _)) :: _) _ _ _ _ _; with_reducible refine x_iincN (pc := 38) 1 ic_1 dX2_gain_38 ?_ xg_4 xs_4 ?_ ?_; decide; exact (x_hp rfl)) | refine x_iincC (pc := 38) ic_1 dX2_gain_38 (by decide) rfl xs_4 (x_hp rfl) ?_
        refine x_goto (pc := 41) (tgt := 5) dX2_gain_41 (by decide) ?_
        exact ih (k + 1) (by omega)
  refine x_iconstN (pc := 0) 0 dX2_gain_0 ic_0 ?_
  refine x_istore_n (pc := 1) dX2_gain_1 (by decide) xs_3 (x_hp rfl) ?_
  refine x_iconstN (pc := 2) 0 dX2_gain_2 ic_0 ?_
  refine x_istore (pc := 3) dX2_gain_3 (by decide) xs_4 (x_hp rfl) ?_
  exact loop (A 8 0) 0 (by omega)
/-- days gone -/
def spA (A : XA) (w : Int32) (days : Nat) : XA := fun k j => if k = 0 then A 0 j + gainA A w j days else if k = 11 ∧ j = 0 then A 11 0 + days else A k j
theorem gain_wear {n : Nat} : gainA (fun k j => if k = 0 ∧ j < n then A 0 j + gainA A w j days else A k j) w c days = gainA A w c days := rfl
theorem sp_X2_spend (hdy : days ≤ 100) (hc : Car a) (hR : CR a M A w r) (hw : ∀ j, j < 16 → A 0 j < 60000000) (hday : A 11 0 < 1000000)
    (h : ∀ M', xsame a (a + 12) M M' → CR a M' (spA A w days) w r → K none xSF M') : Ex g (d + 3) yX2_spend mX2_spend [.ref a, .int (nI days)] xSF M K := by
  have hc' := hc
  obtain ⟨c0, c1, c2, c3, c4, c5, c6, c7, c8, c9, c10, c11⟩ := hc
  refine x_entry kX2_spend (Nat.le_of_ble_eq_true rfl) ?_
  show Wp g _ mX2_spend 0 [some (.ref a), some (.int (nI days)), none] [] _ _ _ _
  have hgb : ∀ j, j < 16 → gainA A w j days ≤ 6 * (11 * days * 999) := fun j hj => gainA_le hR hj
  have hb2 : 6 * (11 * days * 999) ≤ 6593400 := by have := Nat.mul_le_mul_right 999 (Nat.mul_le_mul_left 11 hdy); omega
  have loop : ∀ n k M1, k + n = 16 → xsame a (a + 12) M M1 → CR a M1 (fun k' j => if k' = 0 ∧ j < k then A 0 j + gainA A w j days else A k' j) w r → Wp g (d + 3) mX2_spend 2 [some (.ref a), some (.int (nI days)), some (.int (nI k))] [] xSF (0, 0) M1 K := by
    intro n
    induction n with
    | zero =>
      intro k M1 hk hs hR1
      obtain rfl : k = 16 := by omega
      refine x_iload_n (pc := 2) dX2_spend_2 rfl ?_
      refine x_bipushN (pc := 3) 16 dX2_spend_3 bp_16 ?_
      first | (guard_target =~ Wp _ _ _ _ _ (Value.int (nI _) :: Value.int (nI _) :: _) _ _ _ _; with_reducible refine x_icmp_geN (pc := 5) (tgt := 29) ?_ ?_ dX2_spend_5 ?_ (fun h5 => ?_) (fun h5 => ?_); (first | omega | exact b2n_31 _); (first | omega | exact b2n_31 _); decide) | refine x_icmp_ge (pc := 5) (tgt := 29) dX2_spend_5 (by decide) (fun h5 => ?_) (fun h5 => ?_)
      · skip
        refine x_aload_n (pc := 29) dX2_spend_29 rfl ?_
        refine x_dup (pc := 30) dX2_spend_30 rfl ?_
        refine x_getI (pc := 31) dX2_spend_31 flX2_67 (by first | assumption | rfl) rfl ?_
        rw [hR1.day]
        refine x_iload_n (pc := 34) dX2_spend_34 rfl ?_
        first | (guard_target =~ Wp _ _ _ _ _ (Value.int (nI _) :: Value.int (nI _) :: _) _ _ _ _; with_reducible refine x_iaddN (pc := 35) dX2_spend_35 ?_) | refine x_iadd (pc := 35) dX2_spend_35 ?_
        refine x_putI (pc := 36) dX2_spend_36 flX2_67 (by first | assumption | rfl) rfl rfl rfl ?_
        refine x_ret (pc := 39) (v := none) rfl trivial dX2_spend_39 (by decide) ?_
        refine h _ (hs.tr (xsame.put (by omega) (by omega))) ?_
        refine CR.cong (hR1.putS 11 (by decide) (v := A 11 0 + days) ⟨fun z => by omega, fun z => by omega, fun _ => by omega, fun z => by omega⟩) (fun k' hk' j hj => ?_) (fun k' hk' => ?_)
        · have h11 : ¬ (k' = 11 ∧ j = 0) := by omega
          simp only [updA, spA, if_neg h11]
          by_cases h0 : k' = 0
          · subst h0
            have hj16 : j < 16 := hj
            simp [hj16]
          · simp [h0]
        · rcases hk' with rfl | rfl | rfl | rfl <;> simp [updA, spA]
      · skip
        omega
    | succ n ih =>
      intro k M1 hk hs hR1
      have e1 : (if 0 = 0 ∧ k < k then A 0 k + gainA A w k days else A 0 k) = A 0 k := by simp
      refine x_iload_n (pc := 2) dX2_spend_2 rfl ?_
      refine x_bipushN (pc := 3) 16 dX2_spend_3 bp_16 ?_
      first | (guard_target =~ Wp _ _ _ _ _ (Value.int (nI _) :: Value.int (nI _) :: _) _ _ _ _; with_reducible refine x_icmp_geN (pc := 5) (tgt := 29) ?_ ?_ dX2_spend_5 ?_ (fun h5 => ?_) (fun h5 => ?_); (first | omega | exact b2n_31 _); (first | omega | exact b2n_31 _); decide) | refine x_icmp_ge (pc := 5) (tgt := 29) dX2_spend_5 (by decide) (fun h5 => ?_) (fun h5 => ?_)
      · skip
        omega
      · skip
        refine x_aload_n (pc := 8) dX2_spend_8 rfl ?_
        refine x_getR (pc := 9) dX2_spend_9 flX2_9 (by first | assumption | rfl) rfl ?_
        refine x_iload_n (pc := 12) dX2_spend_12 rfl ?_
        refine x_dup2 (pc := 13) dX2_spend_13 rfl rfl ?_
        refine x_ialdN (pc := 14) dX2_spend_14 (by first | assumption | rfl) (by first | with_reducible rfl | (simp only [xlit, nI_add, pk_mul]; with_reducible rfl)) (by omega) (by decide) ?_
        rw [hR1.wear (by omega), e1]
        refine x_aload_n (pc := 15) dX2_spend_15 rfl ?_
        refine x_iload_n (pc := 16) dX2_spend_16 rfl ?_
        refine x_iload_n (pc := 17) dX2_spend_17 rfl ?_
        refine x_invV2 (pc := 18) dX2_spend_18 mlX2_114 imX2_gain seX2_gain kX2_gain (by first | assumption | rfl) rfl (Nat.le_of_ble_eq_true rfl) (by decide) ?_
        refine sp_X2_gain (by omega) hdy hc' hR1 ?_
        refine x_cv rfl rfl ?_
        rw [show gainA (fun k' j => if k' = 0 ∧ j < k then A 0 j + gainA A w j days else A k' j) w k days = gainA A w k days from rfl]
        first | (guard_target =~ Wp _ _ _ _ _ (Value.int (nI _) :: Value.int (nI _) :: _) _ _ _ _; with_reducible refine x_iaddN (pc := 21) dX2_spend_21 ?_) | refine x_iadd (pc := 21) dX2_spend_21 ?_
        refine x_iastN (pc := 22) dX2_spend_22 (by first | assumption | rfl) (by first | with_reducible rfl | (simp only [xlit, nI_add, pk_mul]; with_reducible rfl)) (by omega) (by decide) ?_
        first | (guard_target =~ Wp _ _ _ _ (_ :: _ :: some (Value.int (nI _)) :: _) _ _ _ _ _; with_reducible refine x_iincN (pc := 23) 1 ic_1 dX2_spend_23 ?_ xg_2 xs_2 ?_ ?_; decide; exact (x_hp rfl)) | refine x_iincC (pc := 23) ic_1 dX2_spend_23 (by decide) rfl xs_2 (x_hp rfl) ?_
        refine x_goto (pc := 26) (tgt := 2) dX2_spend_26 (by decide) ?_
        refine ih (k + 1) _ (by omega) (hs.tr (xsame.put (by omega) (by omega))) ?_
        have hgk := hgb k (by omega)
        have hwk := hw k (by omega)
        refine CR.cong (hR1.put 0 (by decide) k (v := A 0 k + gainA A w k days) (by show _ < 67108864; omega)) (fun k' hk' j hj => ?_) (fun k' hk' => ?_)
        · simp only [updA]
          by_cases h0 : k' = 0
          · subst h0
            by_cases hjk : j = k
            · subst hjk; simp
            · have e3 : (j < k + 1) = (j < k) := by apply propext; omega
              simp [hjk, e3]
          · simp [h0]
        · rcases hk' with rfl | rfl | rfl | rfl <;> simp [updA]
  refine x_iconstN (pc := 0) 0 dX2_spend_0 ic_0 ?_
  refine x_istore_n (pc := 1) dX2_spend_1 (by decide) xs_2 (x_hp rfl) ?_
  exact loop 16 0 M rfl xsame.rf (CR.cong hR (fun k' hk' j hj => by simp) (fun k' hk' => by simp))
end P21
