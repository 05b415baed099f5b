/-! the MODEL: wearIf, busy, standOf -/
theorem bdA_fur {A : XA} {f : Nat} (hB : bdA A) (hf : f < 65536) : bdA (furA A f) := by
  refine ⟨fun k hk j hj => ?_, by rw [show furA A f 8 0 = A 8 0 from rfl]; exact hB.2.1, by show f < 65536; exact hf⟩
  by_cases h6 : k = 6
  · subst h6
    show (if (6 : Nat) = 6 ∧ j < A 8 0 then wbits (wayL (updA A 10 0 f) j) else updA A 10 0 f 6 j) < cbd 6
    by_cases hj8 : j < A 8 0
    · rw [if_pos ⟨rfl, hj8⟩]
      have h6 := hB.2.1
      exact wsetN_lt (wy_lt (hB.1 3 (by decide) j (show j < 6 by omega)) (hB.1 4 (by decide) j (show j < 6 by omega))) (Nat.le_refl _)
    · rw [if_neg (fun q => hj8 q.2)]; exact hB.1 6 (by decide) j hj
  · rw [show furA A f k j = A k j from furA_e h6 (by omega)]; exact hB.1 k hk j hj
theorem wF_0 {A : XA} {L : List XCl} {w : Int32} (hA : cacheA A L) : wF A w 0 = sumA (spA A w 10) := by
  unfold wF sumA
  rw [Nat.or_zero]
  refine xsum_cong 16 (fun c _ => ?_)
  rw [spA_0, spA_0]
  show A 0 c + _ = A 0 c + _
  congr 1
  unfold gainA
  show xsum _ (A 8 0) = _
  refine xsum_cong _ (fun i hi => ?_)
  have h6 : furA A (A 10 0) 6 i = A 6 i := by
    show (if (6 : Nat) = 6 ∧ i < A 8 0 then wbits (wayL (updA A 10 0 (A 10 0)) i) else updA A 10 0 (A 10 0) 6 i) = _
    rw [if_pos ⟨rfl, hi⟩, hA.1 i hi]
    exact congrArg wbits (wayL_cong rfl rfl rfl (by simp [updA]))
  show trd (furA A (A 10 0)) w i c 10 * A 7 (i * 16 + c) = _
  congr 1
  unfold trd
  rw [h6]
  rfl
section P88
variable {g : XG} {d : Nat} {M M0 : XM} {K : Option Value → XS → XM → Prop} {s : XSt}
theorem wF_bd {L : List XCl} {A : XA} {W m : Nat} (hA : cacheA A L) (hL : okL L) (hB : bdA A) (hs : Std A) (hW : W < 64) (hm : m < 65536) : wF A (nI W) m ≤ 320000000 := by
  have h6 := hB.2.1
  have hf : A 10 0 ||| m < 65536 := Nat.or_lt_two_pow (n := 16) hB.2.2 hm
  have : wF A (nI W) m ≤ 16 * 20000000 := by
    refine xsum_bd (fun c hc => ?_)
    have h1 := hs.1 c hc
    have h2 := gain_bd (n := 10) (w := nI W) hc (furA_cache (f := A 10 0 ||| m) hA) hL (bdA_fur hB hf) _ (who_here hW h6)
    show A 0 c + gainA (furA A (A 10 0 ||| m)) (nI W) c 10 ≤ _
    omega
  omega
theorem sm_wearIf {m : Nat} (hC : MC9 M0 s) (ok : okM s) (hz : only pZ M0 M) (hm : m < 65536) (h : ∀ M', only pZ M0 M' → K (some (.int (nI (wF s.1.1 (qw s) m)))) xSF M') : Ex g (d + 6) yX10_wearIf mX10_wearIf [.ref 65, .int (nI m)] xSF M K := by
  have hB := ok.bd
  have h6 := hB.2.1
  obtain ⟨b0, hL⟩ := hC.ls ok
  have hL1 := hL.keep hz pZ_L
  have hQ := hC.1.mq.keep hz pZ_Q
  have hL2 := ok.cache
  have hstd := ok.std
  have h11 := hstd.2
  have hf : s.1.1 10 0 ||| m < 65536 := Nat.or_lt_two_pow (n := 16) hB.2.2 hm
  have hBf := bdA_fur hB hf
  have hcf := furA_cache (f := s.1.1 10 0 ||| m) hL2
  have pYp : ∀ k, (k = 1 ∨ k = 2 ∨ k = 3) → pY 65 k = true := by intro k hk; rcases hk with rfl | rfl | rfl <;> rfl
  refine x_entry kX10_wearIf (Nat.le_of_ble_eq_true rfl) ?_
  show Wp g _ mX10_wearIf 0 [some (.ref 65), some (.int (nI m)), none] [] _ _ _ _
  have mid : ∀ M2, only pS M M2 → kpt M M2 → M2.1 65 33 = nI 2000000000 → Wp g (d + 6) mX10_wearIf 14 [some (.ref 65), some (.int (nI m)), none] [] xSF (0, 0) (xput M2 65 2 (nI (s.1.1 10 0 ||| m))) K := by
    intro M2 ho2 hk2 h332
    have hQ2 : MNow (xput M2 65 2 (nI (s.1.1 10 0 ||| m))) (furA s.1.1 (s.1.1 10 0 ||| m)) s.1.2.1 := by
      have q := hQ.keep ho2 pS_Q
      refine ⟨q.1, q.2.1, rfl, q.2.2.2.1, fun k hk j hj => ?_⟩
      rw [show furA s.1.1 (s.1.1 10 0 ||| m) k j = s.1.1 k j from furA_e (by omega) (by omega)]
      exact (if_neg (by omega)).trans (q.2.2.2.2 k hk j hj)
    have hk3 : kpt M (xput M2 65 2 (nI (s.1.1 10 0 ||| m))) := hk2.keep (only.put (p := fun a k => a == 65 && k == 2) rfl) (by intro a k q; simp; omega)
    have ho3 : only pY M (xput M2 65 2 (nI (s.1.1 10 0 ||| m))) := (ho2.wide pY_S).tr (only.put rfl)
    have hL3 : MLs (xput M2 65 2 (nI (s.1.1 10 0 ||| m))) s.1.2.2.2.2 b0 := hL1.keep ho3 pY_L
    refine x_aload_n (pc := 14) dX10_wearIf_14 rfl ?_
    refine x_invV0 (pc := 15) dX10_wearIf_15 mlX10_361 imX10_layWorn seX10_layWorn kX10_layWorn (by first | assumption | rfl) rfl (Nat.le_of_ble_eq_true rfl) (by decide) ?_
    refine sm_layWorn hL3 hBf hQ2 (fun M3 ho4 h85 => ?_)
    refine x_cn rfl rfl ?_
    refine x_aload_n (pc := 18) dX10_wearIf_18 rfl ?_
    refine x_aload_n (pc := 19) dX10_wearIf_19 rfl ?_
    refine x_invV0 (pc := 20) dX10_wearIf_20 mlX10_364 imX10_here seX10_here kX10_here (by first | assumption | rfl) rfl (Nat.le_of_ble_eq_true rfl) (by decide) ?_
    refine sm_here ((hQ2.keep ho4 pN_Q).2.1) ?_
    refine x_cv rfl rfl ?_
    refine x_bipushN (pc := 23) 10 dX10_wearIf_23 bp_10 ?_
    refine x_invV2 (pc := 25) dX10_wearIf_25 mlX10_367 imX10_goDays seX10_goDays kX10_goDays (by first | assumption | rfl) rfl (Nat.le_of_ble_eq_true rfl) (by decide) ?_
    refine sm_try (w := qw s) (A := furA s.1.1 (s.1.1 10 0 ||| m)) (L := s.1.2.2.2.2) (hQ2.keep ho4 pN_Q).1 (hQ2.keep ho4 pN_Q).2.2.2.1 (fun c hc => ⟨(hQ2.keep ho4 pN_Q).2.2.2.2 0 (by decide) c hc, by have := hstd.1 c hc; show s.1.1 0 c < _; omega⟩) hcf hL.1 hBf ((ho4.1 65 33 rfl).trans h332) h85 (who_here ok.away h6) (by omega) (show s.1.1 11 0 < _ by omega) (fun M5 ho5 hx5 _ => ?_)
    refine x_cn rfl rfl ?_
    refine x_aload_n (pc := 28) dX10_wearIf_28 rfl ?_
    refine x_invV0 (pc := 29) dX10_wearIf_29 mlX10_387 imX10_allWear seX10_allWear kX10_allWear (by first | assumption | rfl) rfl (Nat.le_of_ble_eq_true rfl) (by decide) ?_
    refine sm_allWear hx5 ?_
    refine x_cv rfl rfl ?_
    refine x_istore_n (pc := 32) dX10_wearIf_32 (by decide) xs_2 (x_hp rfl) ?_
    refine x_aload_n (pc := 33) dX10_wearIf_33 rfl ?_
    refine x_invV0 (pc := 34) dX10_wearIf_34 mlX10_378 imX10_putBack seX10_putBack kX10_putBack (by first | assumption | rfl) rfl (Nat.le_of_ble_eq_true rfl) (by decide) ?_
    refine sm_putBack ((ho3.tr (ho4.wide pY_N)).tr (ho5.wide pY_D)) ((hk3.keep ho4 pN_K).keep ho5 pD_K) ((hz.1 65 33 rfl).trans hC.2.2.2.2.2.1) (fun M6 ho6 _ => ?_)
    refine x_cn rfl rfl ?_
    refine x_iload_n (pc := 37) dX10_wearIf_37 rfl ?_
    refine x_ret (pc := 38) (v := some _) rfl trivial dX10_wearIf_38 (by decide) ?_
    exact h M6 (hz.tr ho6)
  refine x_aload_n (pc := 0) dX10_wearIf_0 rfl ?_
  refine x_invV0 (pc := 1) dX10_wearIf_1 mlX10_375 imX10_save seX10_save kX10_save (by first | assumption | rfl) rfl (Nat.le_of_ble_eq_true rfl) (by decide) ?_
  refine sm_save (fun M2 ho2 hk2 h332 => ?_)
  refine x_cn rfl rfl ?_
  refine x_aload_n (pc := 4) dX10_wearIf_4 rfl ?_
  refine x_dup (pc := 5) dX10_wearIf_5 rfl ?_
  refine x_getI (pc := 6) dX10_wearIf_6 flX10_16 (by first | assumption | rfl) rfl ?_
  rw [show M2.1 65 2 = nI (s.1.1 10 0) from (ho2.1 65 2 rfl).trans hQ.2.2.1]
  refine x_iload_n (pc := 9) dX10_wearIf_9 rfl ?_
  first | (guard_target =~ Wp _ _ _ _ _ (Value.int (nI _) :: Value.int (nI _) :: _) _ _ _ _; with_reducible refine x_iorN (pc := 10) dX10_wearIf_10 ?_) | refine x_ior (pc := 10) dX10_wearIf_10 ?_
  refine x_putI (pc := 11) dX10_wearIf_11 flX10_16 (by first | assumption | rfl) rfl rfl rfl ?_
  exact mid M2 ho2 hk2 h332
theorem sm_busy (hC : MC9 M0 s) (ok : okM s) (hz : only pZ M0 M) (h : K (some (.int (nI (bsyF s.1.1 (s.1.1 8 0))))) xSF M) : Ex g d yX10_busy mX10_busy [.ref 65] xSF M K := by
  have hB := ok.bd
  have h6 := hB.2.1
  have hQ := hC.1.mq.keep hz pZ_Q
  refine x_entry kX10_busy (Nat.le_of_ble_eq_true rfl) ?_
  show Wp g _ mX10_busy 0 [some (.ref 65), none, none] [] _ _ _ _
  have loop : ∀ m k, k + m = s.1.1 8 0 → Wp g d mX10_busy 7 [some (.ref 65), some (.int (nI (bsyF s.1.1 k))), some (.int (nI k))] [] xSF (0, 0) M K := by
    intro m
    induction m with
    | zero =>
      intro k hk
      obtain rfl : k = s.1.1 8 0 := by omega
      refine x_iload_n (pc := 7) dX10_busy_7 rfl ?_
      refine x_aload_n (pc := 8) dX10_busy_8 rfl ?_
      refine x_getI (pc := 9) dX10_busy_9 flX10_7 (by first | assumption | rfl) rfl ?_
      rw [hQ.1]
      first | (guard_target =~ Wp _ _ _ _ _ (Value.int (nI _) :: Value.int (nI _) :: _) _ _ _ _; with_reducible refine x_icmp_geN (pc := 12) (tgt := 41) ?_ ?_ dX10_busy_12 ?_ (fun h12 => ?_) (fun h12 => ?_); (first | omega | exact b2n_31 _); (first | omega | exact b2n_31 _); decide) | refine x_icmp_ge (pc := 12) (tgt := 41) dX10_busy_12 (by decide) (fun h12 => ?_) (fun h12 => ?_)
      · skip
        refine x_iload_n (pc := 41) dX10_busy_41 rfl ?_
        refine x_ret (pc := 42) (v := some _) rfl trivial dX10_busy_42 (by decide) ?_
        exact h
      · skip
        omega
    | succ m ih =>
      intro k hk
      have h3 : s.1.1 3 k < 16 := hB.1 3 (by decide) k (show k < 6 by omega)
      have h4 : s.1.1 4 k < 16 := hB.1 4 (by decide) k (show k < 6 by omega)
      refine x_iload_n (pc := 7) dX10_busy_7 rfl ?_
      refine x_aload_n (pc := 8) dX10_busy_8 rfl ?_
      refine x_getI (pc := 9) dX10_busy_9 flX10_7 (by first | assumption | rfl) rfl ?_
      rw [hQ.1]
      first | (guard_target =~ Wp _ _ _ _ _ (Value.int (nI _) :: Value.int (nI _) :: _) _ _ _ _; with_reducible refine x_icmp_geN (pc := 12) (tgt := 41) ?_ ?_ dX10_busy_12 ?_ (fun h12 => ?_) (fun h12 => ?_); (first | omega | exact b2n_31 _); (first | omega | exact b2n_31 _); decide) | refine x_icmp_ge (pc := 12) (tgt := 41) dX10_busy_12 (by decide) (fun h12 => ?_) (fun h12 => ?_)
      · skip
        omega
      · skip
        refine x_iload_n (pc := 15) dX10_busy_15 rfl ?_
        refine x_iconstN (pc := 16) 1 dX10_busy_16 ic_1 ?_
        refine x_aload_n (pc := 17) dX10_busy_17 rfl ?_
        refine x_getR (pc := 18) dX10_busy_18 flX10_32 (by first | assumption | rfl) rfl ?_
        refine x_iload_n (pc := 21) dX10_busy_21 rfl ?_
        refine x_ialdN (pc := 22) dX10_busy_22 (by first | assumption | rfl) (by first | with_reducible rfl | (simp only [xlit, nI_add, pk_mul]; with_reducible rfl)) (by omega) (by decide) ?_
        rw [hQ.2.2.2.2 3 (by decide) k (show k < 6 by omega)]
        first | (guard_target =~ Wp _ _ _ _ _ (Value.int (nI _) :: Value.int (nI _) :: _) _ _ _ _; with_reducible refine x_ishlN (pc := 23) ?_ dX10_busy_23 ?_; omega) | refine x_ishl (pc := 23) dX10_busy_23 ?_
        refine x_iconstN (pc := 24) 1 dX10_busy_24 ic_1 ?_
        refine x_aload_n (pc := 25) dX10_busy_25 rfl ?_
        refine x_getR (pc := 26) dX10_busy_26 flX10_35 (by first | assumption | rfl) rfl ?_
        refine x_iload_n (pc := 29) dX10_busy_29 rfl ?_
        refine x_ialdN (pc := 30) dX10_busy_30 (by first | assumption | rfl) (by first | with_reducible rfl | (simp only [xlit, nI_add, pk_mul]; with_reducible rfl)) (by omega) (by decide) ?_
        rw [hQ.2.2.2.2 4 (by decide) k (show k < 6 by omega)]
        first | (guard_target =~ Wp _ _ _ _ _ (Value.int (nI _) :: Value.int (nI _) :: _) _ _ _ _; with_reducible refine x_ishlN (pc := 31) ?_ dX10_busy_31 ?_; omega) | refine x_ishl (pc := 31) dX10_busy_31 ?_
        rw [Nat.one_mul, Nat.one_mul]
        first | (guard_target =~ Wp _ _ _ _ _ (Value.int (nI _) :: Value.int (nI _) :: _) _ _ _ _; with_reducible refine x_iorN (pc := 32) dX10_busy_32 ?_) | refine x_ior (pc := 32) dX10_busy_32 ?_
        first | (guard_target =~ Wp _ _ _ _ _ (Value.int (nI _) :: Value.int (nI _) :: _) _ _ _ _; with_reducible refine x_iorN (pc := 33) dX10_busy_33 ?_) | refine x_ior (pc := 33) dX10_busy_33 ?_
        refine x_istore_n (pc := 34) dX10_busy_34 (by decide) xs_1 (x_hp rfl) ?_
        first | (guard_target =~ Wp _ _ _ _ (_ :: _ :: some (Value.int (nI _)) :: _) _ _ _ _ _; with_reducible refine x_iincN (pc := 35) 1 ic_1 dX10_busy_35 ?_ xg_2 xs_2 ?_ ?_; decide; exact (x_hp rfl)) | refine x_iincC (pc := 35) ic_1 dX10_busy_35 (by decide) rfl xs_2 (x_hp rfl) ?_
        refine x_goto (pc := 38) (tgt := 7) dX10_busy_38 (by decide) ?_
        exact ih (k + 1) (by omega)
  refine x_aload_n (pc := 0) dX10_busy_0 rfl ?_
  refine x_getI (pc := 1) dX10_busy_1 flX10_16 (by first | assumption | rfl) rfl ?_
  rw [hQ.2.2.1]
  refine x_istore_n (pc := 4) dX10_busy_4 (by decide) xs_1 (x_hp rfl) ?_
  refine x_iconstN (pc := 5) 0 dX10_busy_5 ic_0 ?_
  refine x_istore_n (pc := 6) dX10_busy_6 (by decide) xs_2 (x_hp rfl) ?_
  exact loop (s.1.1 8 0) 0 (by omega)
/-- the sets in the model's order -/
def sg (a bb : Nat) : Nat := 2 ^ a ||| (if bb = 0 then 0 else 2 ^ (bb - 1))
theorem sg_eq : ∀ a, a < 16 → ∀ bb, bb ≤ a → sg a bb = 2 ^ a + (if bb = 0 then 0 else 2 ^ (bb - 1)) := by decide +kernel
theorem sg_lt {a bb : Nat} (ha : a < 16) (hb : bb ≤ a) : sg a bb < 65536 := by
  refine Nat.or_lt_two_pow (n := 16) (two_lt ha) ?_
  split
  · decide
  · exact two_lt (by omega)
theorem sg_mono {a bb a' bb' : Nat} (ha : a < 16) (hb : bb ≤ a) (hb' : bb' ≤ a') (h : a' < a ∨ (a' = a ∧ bb' < bb)) : sg a' bb' < sg a bb := by
  rw [sg_eq a ha bb hb, sg_eq a' (by omega) bb' hb']
  rcases h with h | ⟨rfl, h⟩
  · have h1 : 2 ^ (a' + 1) ≤ 2 ^ a := Nat.pow_le_pow_right (by decide) h
    rw [Nat.pow_succ] at h1
    have h2 : (if bb' = 0 then 0 else 2 ^ (bb' - 1)) < 2 ^ a' := by
      split
      · exact Nat.two_pow_pos _
      · exact Nat.pow_lt_pow_right (by decide) (by omega)
    omega
  · have h2 : (if bb' = 0 then 0 else 2 ^ (bb' - 1)) < (if bb = 0 then 0 else 2 ^ (bb - 1)) := by
      rw [if_neg (show ¬ bb = 0 by omega)]
      split
      · exact Nat.two_pow_pos _
      · exact Nat.pow_lt_pow_right (by decide) (by omega)
    omega
def sgQ (a bb : Nat) (s : Nat) : Prop := ∃ a' bb', bb' ≤ a' ∧ a' < 16 ∧ (a' < a ∨ (a' = a ∧ bb' < bb)) ∧ s = sg a' bb'
theorem sgQ_succ {a bb t : Nat} (ha : a < 16) (hb : bb ≤ a) : sgQ a (bb + 1) t ↔ (sgQ a bb t ∨ t = sg a bb) := by
  constructor
  · rintro ⟨a', bb', h1, h2, h3, h4⟩
    by_cases z : a' = a ∧ bb' = bb
    · obtain ⟨rfl, rfl⟩ := z; exact Or.inr h4
    · exact Or.inl ⟨a', bb', h1, h2, by omega, h4⟩
  · rintro (⟨a', bb', h1, h2, h3, h4⟩ | h)
    · exact ⟨a', bb', h1, h2, by omega, h4⟩
    · exact ⟨a, bb, hb, ha, by omega, h⟩
theorem sgQ_next {a t : Nat} : sgQ (a + 1) 0 t ↔ sgQ a (a + 1) t := by
  constructor
  · rintro ⟨a', bb', h1, h2, h3, h4⟩; exact ⟨a', bb', h1, h2, by omega, h4⟩
  · rintro ⟨a', bb', h1, h2, h3, h4⟩; exact ⟨a', bb', h1, h2, by omega, h4⟩
theorem sgQ_end {t : Nat} : sgQ 16 0 t ↔ ∃ a b, a ≤ b ∧ b < 16 ∧ t = prS a b := by
  constructor
  · rintro ⟨a', bb', h1, h2, h3, h4⟩
    by_cases z : bb' = 0
    · refine ⟨a', a', Nat.le_refl _, h2, ?_⟩
      rw [h4]; unfold sg prS; rw [if_pos z, Nat.or_zero, Nat.or_self]
    · refine ⟨bb' - 1, a', by omega, h2, ?_⟩
      rw [h4]; unfold sg prS; rw [if_neg z, Nat.or_comm]
  · rintro ⟨a, b, h1, h2, h3⟩
    by_cases z : a = b
    · subst z
      refine ⟨a, 0, Nat.zero_le _, h2, Or.inl h2, ?_⟩
      rw [h3]; unfold sg prS; rw [if_pos rfl, Nat.or_zero, Nat.or_self]
    · refine ⟨b, a + 1, by omega, h2, Or.inl h2, ?_⟩
      rw [h3]; unfold sg prS; rw [if_neg (by omega), Nat.add_sub_cancel, Nat.or_comm]
theorem cand_bsy {A : XA} {t : Nat} (ht : t < 65536) : candS A t ↔ t &&& bsyF A (A 8 0) = 0 := by
  have m : ∀ c, c < 16 → Nat.testBit 65535 c = true := by decide +kernel
  unfold candS freA
  constructor
  · intro h
    apply Nat.eq_of_testBit_eq
    intro i
    have := congrArg (fun n => n.testBit i) h
    simp only [Nat.testBit_and, Nat.testBit_xor, xset_tb, Nat.zero_testBit] at this
    rw [Nat.testBit_and, Nat.zero_testBit]
    by_cases hi : i < 16
    · rw [neg_tb i hi, m i hi, decide_eq_true hi] at this
      cases h1 : t.testBit i
      · rfl
      · rw [h1] at this; simpa using this
    · rw [tbit_hi ht (by omega)]; rfl
  · intro h
    apply Nat.eq_of_testBit_eq
    intro i
    have := congrArg (fun n => n.testBit i) h
    simp only [Nat.testBit_and, Nat.zero_testBit] at this
    rw [Nat.testBit_and, Nat.testBit_xor, xset_tb, Nat.zero_testBit]
    by_cases hi : i < 16
    · rw [neg_tb i hi, m i hi, decide_eq_true hi]
      cases h1 : t.testBit i
      · rfl
      · rw [h1] at this; rw [show (bsyF A (A 8 0)).testBit i = false by simpa using this]; rfl
    · rw [tbit_hi ht (by omega)]; rfl
theorem bst_no {A : XA} {w : Int32} {Q : Nat → Prop} {o : Option Nat} {l t : Nat} (h : bstI A w Q o l) (hn : ¬ candS A t) : bstI A w (fun s => Q s ∨ s = t) o l :=
  bstI_cong h (fun s hs => ⟨Or.inl, fun q => q.elim id (fun z => absurd (z ▸ hs) hn)⟩)
theorem bst_keep {A : XA} {w : Int32} {Q : Nat → Prop} {o : Option Nat} {l t : Nat} (h : bstI A w Q o l) (hge : l ≤ wF A w t) (hlt : ∀ s, Q s → s < t) : bstI A w (fun s => Q s ∨ s = t) o l := by
  cases o with
  | none => exact ⟨h.1, fun s hs hc => hs.elim (fun q => h.2 s q hc) (fun z => by rw [z]; exact hge)⟩
  | some b =>
    obtain ⟨h1, h2, h3, h4, h5⟩ := h
    refine ⟨Or.inl h1, h2, h3, h4, fun s hs hc => hs.elim (fun q => h5 s q hc) (fun z => ?_)⟩
    subst z
    have := hlt b h1
    by_cases hq : l = wF A w s
    · exact Or.inr ⟨hq, by omega⟩
    · exact Or.inl (by omega)
theorem bst_new {A : XA} {w : Int32} {Q : Nat → Prop} {o : Option Nat} {l t : Nat} (h : bstI A w Q o l) (hc : candS A t) (hlt : wF A w t < l) : bstI A w (fun s => Q s ∨ s = t) (some t) (wF A w t) := by
  cases o with
  | none =>
    refine ⟨Or.inr rfl, hc, rfl, by rw [← h.1]; exact hlt, fun s hs hcs => hs.elim (fun q => Or.inl (Nat.lt_of_lt_of_le hlt (h.2 s q hcs))) (fun z => Or.inr ⟨by rw [z], by omega⟩)⟩
  | some b =>
    obtain ⟨h1, h2, h3, h4, h5⟩ := h
    refine ⟨Or.inr rfl, hc, rfl, by omega, fun s hs hcs => hs.elim (fun q => Or.inl ?_) (fun z => Or.inr ⟨by rw [z], by omega⟩)⟩
    rcases h5 s q hcs with z | ⟨z, -⟩ <;> omega
end P88
