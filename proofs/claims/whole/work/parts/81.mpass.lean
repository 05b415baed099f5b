/-! the MODEL's calls: pass, on, mean -/
theorem only.msm {p : Nat → Nat → Bool} {M M' : XM} (h : only p M M') (hp : ∀ a k, wM a k = true → p a k = false) : msm M M' := by
  have e : ∀ a k, wM a k = true → M'.1 a k = M.1 a k := fun a k q => h.1 a k (hp a k q)
  refine ⟨⟨fun a ha => funext fun k => e a k (by simp [wM, ha]), fun a _ => by rw [h.2]⟩, fun a k q => e a k ?_, fun a k q => e a k ?_, fun a k q => e a k ?_, fun a k q => e a k ?_, fun a k q => e a k ?_, h.2⟩ <;> simp [wM, q]
theorem pN_M : ∀ a k, wM a k = true → pN a k = false := by intro a k h; simp [wM, wI, wR, wT, wA, wC, pN, pW] at h ⊢; omega
theorem pD_M : ∀ a k, wM a k = true → pD a k = false := by intro a k h; simp [wM, wI, wR, wT, wA, wC, pD] at h ⊢; omega
theorem MPq.wear {p : Nat → Nat → Bool} {M M' : XM} {q : XQ} {B : XA} (h : MPq M q) (ho : only p M M') (hp : ∀ a k, wP a k = true → ¬ (a = 66 ∧ k < 16) → ¬ (a = 65 ∧ k = 3) → p a k = false) (hx : ∀ c, c < 16 → M'.1 66 c = nI (B 0 c)) (hd : M'.1 65 3 = nI (B 11 0)) (hB : ∀ k j, k ≠ 0 → k ≠ 11 → B k j = q.1 k j) : MPq M' (B, q.2) := by
  have e : ∀ a k, wP a k = true → ¬ (a = 66 ∧ k < 16) → ¬ (a = 65 ∧ k = 3) → M'.1 a k = M.1 a k := fun a k q1 q2 q3 => ho.1 a k (hp a k q1 q2 q3)
  have er : ∀ a, 88 ≤ a → a ≤ 94 → M'.1 a = M.1 a := fun a h1 h2 => funext fun k => e a k (by simp [wP]; omega) (by omega) (by omega)
  unfold MPq at h ⊢
  rw [e 65 0 rfl (by omega) (by omega), e 65 1 rfl (by omega) (by omega), e 65 2 rfl (by omega) (by omega), e 65 11 rfl (by omega) (by omega), e 65 39 rfl (by omega) (by omega), e 65 43 rfl (by omega) (by omega), e 65 44 rfl (by omega) (by omega), er 88 (by decide) (by decide), er 89 (by decide) (by decide), er 90 (by decide) (by decide), er 91 (by decide) (by decide), er 92 (by decide) (by decide), er 93 (by decide) (by decide), er 94 (by decide) (by decide)]
  refine ⟨h.1.trans (congrArg nI (hB 8 0 (by decide) (by decide)).symm), h.2.1, h.2.2.1.trans (congrArg nI (hB 10 0 (by decide) (by decide)).symm), hd, h.2.2.2.2.1, fun k hk j hj => ?_, h.2.2.2.2.2.2⟩
  by_cases hk0 : k = 0
  · subst hk0; exact hx j hj
  · rw [e (66 + k) j (by simp [wP]; omega) (by omega) (by omega)]
    exact (h.2.2.2.2.2.1 k hk j hj).trans (congrArg nI (hB k j hk0 (by omega)).symm)
/-- what is known beside the model's numbers -/
def okM (s : XSt) : Prop := okQ s.2.2.1 s.2.2.2.1 s.2.2.2.2.1 s.1 ∧ sMd s ≤ 6
theorem okM.bd {s : XSt} (h : okM s) : bdA s.1.1 := h.1.1
theorem okM.std {s : XSt} (h : okM s) : Std s.1.1 := h.1.2.2.1
theorem okM.cache {s : XSt} (h : okM s) : cacheA s.1.1 s.1.2.2.2.2 := h.1.2.2.2.2.1
theorem okM.away {s : XSt} (h : okM s) : s.1.2.1 < 64 := w64 h.1.2.2.2.1 h.1.1.2.1
theorem MC9.ls {M : XM} {s : XSt} (hC : MC9 M s) (h : okM s) : ∃ b0, MLs M s.1.2.2.2.2 b0 := hC.2.2.1.ls h.2 h.1.2.2.2.2.2.1 hC.1.2.2.2.2.1
section P81
variable {g : XG} {d : Nat} {M M0 : XM} {K : Option Value → XS → XM → Prop} {s : XSt} {A : XA} {L : List XCl} {W b0 : Nat}
theorem gain_bd {w : Int32} {c n : Nat} (hc : c < 16) (hA : cacheA A L) (hL : okL L) (hB : bdA A) (who : Nat) (hw : whoW w (A 8 0) who) : gainA A w c n ≤ n * 120000 := by
  rw [← gain_dy hc hA hw]
  refine xsum_bd (fun i _ => ?_)
  have := dyG_le (who := who) (day := A 11 0 + i) hB.2.1 hc (fun j q => wnF_le hL hB q) (A 8 0) (Nat.le_refl _)
  have h6 := hB.2.1
  unfold dyG
  omega
theorem sm_days {w : Int32} {who n mx : Nat} (h0 : M.1 65 0 = nI (A 8 0)) (h3 : M.1 65 3 = nI (A 11 0)) (hx : ∀ c, c < 16 → M.1 66 c = nI (A 0 c) ∧ A 0 c ≤ mx) (hA : cacheA A L) (hL : okL L) (hB : bdA A) (h33 : M.1 65 33 = nI mx) (hmx : mx ≤ 2000000000) (h85 : ∀ j, j < 64 * A 8 0 → M.1 85 j = nI (wnF A L j)) (hw : whoW w (A 8 0) who) (hn : n ≤ 100) (hday : A 11 0 < 20000) (h : ∀ M', only pD M M' → (∀ c, c < 16 → M'.1 66 c = nI (min (A 0 c + gainA A w c n) mx)) → M'.1 65 3 = nI (A 11 0 + n) → K none xSF M') : Ex g (d + 2) yX10_goDays mX10_goDays [.ref 65, .int (nI who), .int (nI n)] xSF M K := by
  refine sm_goDays (X := fun c => A 0 c) (Wn := wnF A L) hB.2.1 h0 h3 (by omega) (by omega) h33 hmx hx (fun j q => ⟨h85 j q, wnF_le hL hB q⟩) (fun M' ho hx hd => h M' ho (fun c hc => ?_) hd)
  rw [hx c hc]
  exact congrArg nI (by rw [gain_dy hc hA hw])
theorem fM_pass {n : Int32} (hC : MC9 M s) (ok : okM s) (h : ∀ M', high M M' → MC9 M' (opPass s n).2 → K (some (.int (opPass s n).1)) xSF M') : Ex g (d + 6) yX10_pass mX10_pass [.ref 65, .int n] xSF M K := by
  unfold opPass at h
  have hB := ok.bd
  obtain ⟨b0, hL⟩ := hC.ls ok
  have hstd := ok.std
  refine x_entry kX10_pass (Nat.le_of_ble_eq_true rfl) ?_
  show Wp g _ mX10_pass 0 [some (.ref 65), some (.int n)] [] _ _ _ _
  rcases isR_cases (x := n) (n := 61) (by decide) with e | ⟨j, hj, rfl, e⟩
  · simp only [e, Bool.false_eq_true, if_false] at h
    refine x_aload_n (pc := 0) dX10_pass_0 rfl ?_
    refine x_iload_n (pc := 1) dX10_pass_1 rfl ?_
    refine x_invV1 (pc := 2) dX10_pass_2 mlX10_358 imX10_isDays seX10_isDays kX10_isDays (by first | assumption | rfl) rfl (Nat.le_of_ble_eq_true rfl) (by decide) ?_
    refine sm_isDays ?_
    refine x_cv rfl rfl ?_
    rw [e]
    first | (guard_target =~ Wp _ _ _ _ _ (Value.int (nI _) :: _) _ _ _ _; with_reducible refine x_if_neN (pc := 5) (tgt := 11) ?_ dX10_pass_5 ?_ (fun h5 => ?_) (fun h5 => ?_); (first | omega | exact b2n_32 _ | exact b2n_31 _); decide) | refine x_if_ne (pc := 5) (tgt := 11) dX10_pass_5 (by decide) (fun h5 => ?_) (fun h5 => ?_)
    · skip
      exact absurd rfl h5
    · skip
      refine x_bipush (pc := 8) dX10_pass_8 bp_m2 ?_
      refine x_ret (pc := 10) (v := some _) rfl trivial dX10_pass_10 (by decide) ?_
      exact h M high.rf hC
  simp only [e, if_true] at h
  rw [toN_nI (by omega)] at h
  have h11 := hstd.2
  by_cases hs : s.1.1 11 0 + j ≤ 9999
  · rw [if_pos hs] at h
    refine x_aload_n (pc := 0) dX10_pass_0 rfl ?_
    refine x_iload_n (pc := 1) dX10_pass_1 rfl ?_
    refine x_invV1 (pc := 2) dX10_pass_2 mlX10_358 imX10_isDays seX10_isDays kX10_isDays (by first | assumption | rfl) rfl (Nat.le_of_ble_eq_true rfl) (by decide) ?_
    refine sm_isDays ?_
    refine x_cv rfl rfl ?_
    rw [e]
    first | (guard_target =~ Wp _ _ _ _ _ (Value.int (nI _) :: _) _ _ _ _; with_reducible refine x_if_neN (pc := 5) (tgt := 11) ?_ dX10_pass_5 ?_ (fun h5 => ?_) (fun h5 => ?_); (first | omega | exact b2n_32 _ | exact b2n_31 _); decide) | refine x_if_ne (pc := 5) (tgt := 11) dX10_pass_5 (by decide) (fun h5 => ?_) (fun h5 => ?_)
    · skip
      refine x_aload_n (pc := 11) dX10_pass_11 rfl ?_
      refine x_getI (pc := 12) dX10_pass_12 flX10_19 (by first | assumption | rfl) rfl ?_
      rw [hC.1.2.2.2.1]
      refine x_iload_n (pc := 15) dX10_pass_15 rfl ?_
      first | (guard_target =~ Wp _ _ _ _ _ (Value.int (nI _) :: Value.int (nI _) :: _) _ _ _ _; with_reducible refine x_iaddN (pc := 16) dX10_pass_16 ?_) | refine x_iadd (pc := 16) dX10_pass_16 ?_
      refine x_sipushN (pc := 17) 9999 dX10_pass_17 sp_9999 ?_
      first | (guard_target =~ Wp _ _ _ _ _ (Value.int (nI _) :: Value.int (nI _) :: _) _ _ _ _; with_reducible refine x_icmp_leN (pc := 20) (tgt := 26) ?_ ?_ dX10_pass_20 ?_ (fun h20 => ?_) (fun h20 => ?_); (first | omega | exact b2n_31 _); (first | omega | exact b2n_31 _); decide) | refine x_icmp_le (pc := 20) (tgt := 26) dX10_pass_20 (by decide) (fun h20 => ?_) (fun h20 => ?_)
      · skip
        refine x_aload_n (pc := 26) dX10_pass_26 rfl ?_
        refine x_invV0 (pc := 27) dX10_pass_27 mlX10_361 imX10_layWorn seX10_layWorn kX10_layWorn (by first | assumption | rfl) rfl (Nat.le_of_ble_eq_true rfl) (by decide) ?_
        refine sm_layWorn hL hB hC.1.mq (fun M1 ho1 h85 => ?_)
        refine x_cn rfl rfl ?_
        refine x_aload_n (pc := 30) dX10_pass_30 rfl ?_
        refine x_aload_n (pc := 31) dX10_pass_31 rfl ?_
        refine x_invV0 (pc := 32) dX10_pass_32 mlX10_364 imX10_here seX10_here kX10_here (by first | assumption | rfl) rfl (Nat.le_of_ble_eq_true rfl) (by decide) ?_
        refine sm_here ((hC.1.mq.keep ho1 pN_Q).2.1) ?_
        refine x_cv rfl rfl ?_
        refine x_iload_n (pc := 35) dX10_pass_35 rfl ?_
        refine x_invV2 (pc := 36) dX10_pass_36 mlX10_367 imX10_goDays seX10_goDays kX10_goDays (by first | assumption | rfl) rfl (Nat.le_of_ble_eq_true rfl) (by decide) ?_
        refine sm_days (w := qw s) (L := s.1.2.2.2.2) (mx := 9999) ((hC.1.mq.keep ho1 pN_Q).1) ((hC.1.mq.keep ho1 pN_Q).2.2.2.1) (fun c hc => ⟨(hC.1.mq.keep ho1 pN_Q).2.2.2.2 0 (by decide) c hc, by have := hstd.1 c hc; omega⟩) ok.cache hL.1 hB ((ho1.1 65 33 rfl).trans hC.2.2.2.2.2.1) (by decide) h85 (who_here ok.away hB.2.1) (by omega) (by omega) (fun M2 ho2 hx2 hd2 => ?_)
        refine x_cn rfl rfl ?_
        refine x_aload_n (pc := 39) dX10_pass_39 rfl ?_
        refine x_getI (pc := 40) dX10_pass_40 flX10_19 (by first | assumption | rfl) rfl ?_
        rw [hd2]
        refine x_ret (pc := 43) (v := some _) rfl trivial dX10_pass_43 (by decide) ?_
        have hm : msm M M2 := (ho1.msm pN_M).tr (ho2.msm pD_M)
        refine h M2 hm.1 (hC.up hm (MPq.wear (hC.1.cg ((ho1.wide pZ_N).qsm.2)) ho2 (fun a k q1 q2 q3 => ?_) (fun c hc => hx2 c hc) hd2 (fun k j q1 q2 => ?_)))
        · simp [wP, pD] at q1 q2 q3 ⊢; omega
        · show limA (spA s.1.1 (qw s) _) k j = _
          unfold limA spA
          rw [if_neg q1, if_neg q1, if_neg (fun z => q2 z.1)]
      · skip
        omega
    · skip
      cases h5
  · rw [if_neg hs] at h
    refine x_aload_n (pc := 0) dX10_pass_0 rfl ?_
    refine x_iload_n (pc := 1) dX10_pass_1 rfl ?_
    refine x_invV1 (pc := 2) dX10_pass_2 mlX10_358 imX10_isDays seX10_isDays kX10_isDays (by first | assumption | rfl) rfl (Nat.le_of_ble_eq_true rfl) (by decide) ?_
    refine sm_isDays ?_
    refine x_cv rfl rfl ?_
    rw [e]
    first | (guard_target =~ Wp _ _ _ _ _ (Value.int (nI _) :: _) _ _ _ _; with_reducible refine x_if_neN (pc := 5) (tgt := 11) ?_ dX10_pass_5 ?_ (fun h5 => ?_) (fun h5 => ?_); (first | omega | exact b2n_32 _ | exact b2n_31 _); decide) | refine x_if_ne (pc := 5) (tgt := 11) dX10_pass_5 (by decide) (fun h5 => ?_) (fun h5 => ?_)
    · skip
      refine x_aload_n (pc := 11) dX10_pass_11 rfl ?_
      refine x_getI (pc := 12) dX10_pass_12 flX10_19 (by first | assumption | rfl) rfl ?_
      rw [hC.1.2.2.2.1]
      refine x_iload_n (pc := 15) dX10_pass_15 rfl ?_
      first | (guard_target =~ Wp _ _ _ _ _ (Value.int (nI _) :: Value.int (nI _) :: _) _ _ _ _; with_reducible refine x_iaddN (pc := 16) dX10_pass_16 ?_) | refine x_iadd (pc := 16) dX10_pass_16 ?_
      refine x_sipushN (pc := 17) 9999 dX10_pass_17 sp_9999 ?_
      first | (guard_target =~ Wp _ _ _ _ _ (Value.int (nI _) :: Value.int (nI _) :: _) _ _ _ _; with_reducible refine x_icmp_leN (pc := 20) (tgt := 26) ?_ ?_ dX10_pass_20 ?_ (fun h20 => ?_) (fun h20 => ?_); (first | omega | exact b2n_31 _); (first | omega | exact b2n_31 _); decide) | refine x_icmp_le (pc := 20) (tgt := 26) dX10_pass_20 (by decide) (fun h20 => ?_) (fun h20 => ?_)
      · skip
        omega
      · skip
        refine x_bipush (pc := 23) dX10_pass_23 bp_m3 ?_
        refine x_ret (pc := 25) (v := some _) rfl trivial dX10_pass_25 (by decide) ?_
        exact h M high.rf hC
    · skip
      cases h5
end P81
