/-! ROOMS of the program: clause, readFor -/
theorem rM_out {M : XM} {p a k : Nat} {br : Bool} {x : Int32} (h : a ≠ 41 ∨ k = 11) : xput (rM M p br) a k x = rM (xput M a k x) p br := by
  refine Prod.ext (funext fun a' => funext fun k' => ?_) rfl
  show (if a' = a ∧ k' = k then x else if a' = 41 ∧ k' = 5 then nI p else if a' = 41 ∧ k' = 6 then nI (b2n br) else M.1 a' k') = (if a' = 41 ∧ k' = 5 then nI p else if a' = 41 ∧ k' = 6 then nI (b2n br) else if a' = a ∧ k' = k then x else M.1 a' k')
  by_cases h1 : a' = a ∧ k' = k
  · rw [if_pos h1, if_neg (by omega), if_neg (by omega), if_pos h1]
  · rw [if_neg h1, if_neg h1]
theorem rM_id {M : XM} {p : Nat} {br : Bool} (h1 : M.1 41 5 = nI p) (h2 : M.1 41 6 = nI (b2n br)) : rM M p br = M := by
  refine Prod.ext (funext fun a => funext fun k => ?_) rfl
  show (if a = 41 ∧ k = 5 then nI p else if a = 41 ∧ k = 6 then nI (b2n br) else M.1 a k) = M.1 a k
  by_cases h : a = 41 ∧ k = 5
  · rw [if_pos h, h.1, h.2, h1]
  · rw [if_neg h]
    by_cases h3 : a = 41 ∧ k = 6
    · rw [if_pos h3, h3.1, h3.2, h2]
    · rw [if_neg h3]
/-- only bald's number and the sums change -/
def rsame (M M' : XM) : Prop := (∀ a k, a ≠ 44 → ¬ (a = 41 ∧ k = 11) → M'.1 a k = M.1 a k) ∧ M'.2 = M.2
theorem rsame.rf {M : XM} : rsame M M := ⟨fun _ _ _ _ => rfl, rfl⟩
theorem rsame.tr {M M1 M2 : XM} (h : rsame M M1) (h2 : rsame M1 M2) : rsame M M2 := ⟨fun a k h1 h3 => (h2.1 a k h1 h3).trans (h.1 a k h1 h3), h2.2.trans h.2⟩
theorem rsame.p44 {M : XM} {k : Nat} {x : Int32} : rsame M (xput M 44 k x) := ⟨fun a k' h1 _ => if_neg (by omega), rfl⟩
theorem rsame.p11 {M : XM} {x : Int32} : rsame M (xput M 41 11 x) := ⟨fun a k' _ h1 => if_neg h1, rfl⟩
theorem RT.same {M M' : XM} {b n : Nat} {c f : Nat → Nat} (h : RT M b n c f) (hs : rsame M M') : RT M' b n c f := by
  obtain ⟨r1, r2, r3, r4, r5, r6, r7, r8⟩ := h
  have e := hs.1
  refine ⟨by rw [e _ _ (by decide) (by decide), r1], r2, by rw [e _ _ (by decide) (by decide), r3], r4, fun j hj => by rw [e _ _ (by decide) (by omega), r5 j hj], by rw [e _ _ (by decide) (by decide), r6], by rw [e _ _ (by decide) (by decide), r7], by rw [e _ _ (by decide) (by decide), r8]⟩
theorem oI_pos : ∀ v, v < 100 → nI 1 * nI v = Int32.ofInt (v : Int) := by decide +kernel
theorem oI_neg : ∀ v, v < 100 → (-1) * nI v = Int32.ofInt (-(v : Int)) := by decide +kernel
section P33
variable {g : XG} {d : Nat} {S : XS} {M : XM} {K : Option Value → XS → XM → Prop} {b n p : Nat} {c f : Nat → Nat}
theorem wrd3 {q : Nat} : wrdP c (wl 3) q = if c q = 33 then (true, q + 1) else (false, q) := rfl
theorem clsL {way nv cells : Int32} {q : Nat} {br : Bool} (h : ∀ M2, rsame M M2 → M2.1 41 11 = M.1 41 11 → (∀ i, i < 16 → M2.1 44 i = M.1 44 i + (if tb cells i = true then way * nv else 0)) → K none xSF (rM M2 q br)) :
    ∀ m i M1, i + m = 16 → rsame M M1 → M1.1 41 11 = M.1 41 11 → (∀ j, j < 16 → M1.1 44 j = M.1 44 j + (if tb cells j = true ∧ j < i then way * nv else 0)) → Wp g (d + 1) mX6_clause 74 [some (.ref 41), some (.int way), some (.int nv), some (.int cells), some (.int (nI i))] [] xSF (0, 0) (rM M1 q br) K := by
  intro m
  induction m with
  | zero =>
    intro i M1 hi hs hb hr
    obtain rfl : i = 16 := by omega
    refine x_iload (pc := 74) dX6_clause_74 rfl ?_
    refine x_bipushN (pc := 76) 16 dX6_clause_76 bp_16 ?_
    first | (guard_target =~ Wp _ _ _ _ _ (Value.int (nI _) :: Value.int (nI _) :: _) _ _ _ _; with_reducible refine x_icmp_geN (pc := 78) (tgt := 109) ?_ ?_ dX6_clause_78 ?_ (fun h78 => ?_) (fun h78 => ?_); (first | omega | exact b2n_31 _); (first | omega | exact b2n_31 _); decide) | refine x_icmp_ge (pc := 78) (tgt := 109) dX6_clause_78 (by decide) (fun h78 => ?_) (fun h78 => ?_)
    · skip
      refine x_ret (pc := 109) (v := none) rfl trivial dX6_clause_109 (by decide) ?_
      exact h M1 hs hb (fun j hj => by rw [hr j hj]; simp only [hj, and_true])
    · skip
      omega
  | succ m ih =>
    intro i M1 hi hs hb hr
    refine x_iload (pc := 74) dX6_clause_74 rfl ?_
    refine x_bipushN (pc := 76) 16 dX6_clause_76 bp_16 ?_
    first | (guard_target =~ Wp _ _ _ _ _ (Value.int (nI _) :: Value.int (nI _) :: _) _ _ _ _; with_reducible refine x_icmp_geN (pc := 78) (tgt := 109) ?_ ?_ dX6_clause_78 ?_ (fun h78 => ?_) (fun h78 => ?_); (first | omega | exact b2n_31 _); (first | omega | exact b2n_31 _); decide) | refine x_icmp_ge (pc := 78) (tgt := 109) dX6_clause_78 (by decide) (fun h78 => ?_) (fun h78 => ?_)
    · skip
      omega
    · skip
      refine x_iload_n (pc := 81) dX6_clause_81 rfl ?_
      refine x_iload (pc := 82) dX6_clause_82 rfl ?_
      refine x_invS2 (pc := 84) dX6_clause_84 mlX6_87 stX3_has kX3_has (Nat.le_of_ble_eq_true rfl) (by decide) ?_
      refine sp_X3_has (by omega) ?_
      refine x_cv rfl rfl ?_
      first | (guard_target =~ Wp _ _ _ _ _ (Value.int (nI _) :: _) _ _ _ _; with_reducible refine x_if_eqN (pc := 87) (tgt := 103) ?_ dX6_clause_87 ?_ (fun h87 => ?_) (fun h87 => ?_); (first | omega | exact b2n_32 _ | exact b2n_31 _); decide) | refine x_if_eq (pc := 87) (tgt := 103) dX6_clause_87 (by decide) (fun h87 => ?_) (fun h87 => ?_)
      · skip
        have n1 := b2n_0 h87
        first | (guard_target =~ Wp _ _ _ _ (_ :: _ :: _ :: _ :: some (Value.int (nI _)) :: _) _ _ _ _ _; with_reducible refine x_iincN (pc := 103) 1 ic_1 dX6_clause_103 ?_ xg_4 xs_4 ?_ ?_; decide; exact (x_hp rfl)) | refine x_iincC (pc := 103) ic_1 dX6_clause_103 (by decide) rfl xs_4 (x_hp rfl) ?_
        refine x_goto (pc := 106) (tgt := 74) dX6_clause_106 (by decide) ?_
        refine ih (i + 1) M1 (by omega) hs hb (fun j hj => ?_)
        rw [hr j hj]
        by_cases hji : j = i
        · subst hji; simp [n1]
        · have e : (j < i) ↔ (j < i + 1) := by omega
          simp only [e]
      · skip
        have n1 := b2n_1 h87
        refine x_aload_n (pc := 90) dX6_clause_90 rfl ?_
        refine x_getR (pc := 91) dX6_clause_91 flX6_19 (by first | assumption | rfl) rfl ?_
        refine x_iload (pc := 94) dX6_clause_94 rfl ?_
        refine x_dup2 (pc := 96) dX6_clause_96 rfl rfl ?_
        refine x_ialdN (pc := 97) dX6_clause_97 (by first | assumption | rfl) (by first | with_reducible rfl | (simp only [xlit, nI_add, pk_mul]; with_reducible rfl)) (by omega) (by decide) ?_
        refine x_iload_n (pc := 98) dX6_clause_98 rfl ?_
        refine x_iload_n (pc := 99) dX6_clause_99 rfl ?_
        refine x_imul (pc := 100) dX6_clause_100 ?_
        refine x_iadd (pc := 101) dX6_clause_101 ?_
        refine x_iastN (pc := 102) dX6_clause_102 (by first | assumption | rfl) (by first | with_reducible rfl | (simp only [xlit, nI_add, pk_mul]; with_reducible rfl)) (by omega) (by decide) ?_
        rw [rM_out (Or.inl (by decide))]
        first | (guard_target =~ Wp _ _ _ _ (_ :: _ :: _ :: _ :: some (Value.int (nI _)) :: _) _ _ _ _ _; with_reducible refine x_iincN (pc := 103) 1 ic_1 dX6_clause_103 ?_ xg_4 xs_4 ?_ ?_; decide; exact (x_hp rfl)) | refine x_iincC (pc := 103) ic_1 dX6_clause_103 (by decide) rfl xs_4 (x_hp rfl) ?_
        refine x_goto (pc := 106) (tgt := 74) dX6_clause_106 (by decide) ?_
        refine ih (i + 1) _ (by omega) (hs.tr rsame.p44) hb (fun j hj => ?_)
        by_cases hji : j = i
        · subst hji
          have z := hr j hj
          simp only [n1, true_and, Nat.lt_irrefl, if_false] at z
          simp only [n1, true_and, Nat.lt_succ_self, if_true]
          rw [xput_at]
          show M1.1 44 j + way * nv = _
          rw [z, Int32.add_zero]
        · have e : (j < i) ↔ (j < i + 1) := by omega
          rw [xput_ne (Or.inr hji), hr j hj]
          simp only [e]
theorem sp_X6_expressionB {x : Int32} (h : K (some (.int (nI 65535))) xSF (rM M p true)) : Ex g d yX6_expression mX6_expression [.ref 41, .int x] xSF (rM M p true) K := by
  refine x_entry kX6_expression (Nat.le_of_ble_eq_true rfl) ?_
  show Wp g _ mX6_expression 0 [some (.ref 41), some (.int x), none, none, none, none] [] _ _ _ _
  refine x_iconstN (pc := 0) 0 dX6_expression_0 ic_0 ?_
  refine x_istore_n (pc := 1) dX6_expression_1 (by decide) xs_2 (x_hp rfl) ?_
  refine x_ldc (pc := 2) (v := nI 65535) dX6_expression_2 ckX6_93 ?_
  refine x_istore_n (pc := 4) dX6_expression_4 (by decide) xs_3 (x_hp rfl) ?_
  refine x_iconstN (pc := 5) 0 dX6_expression_5 ic_0 ?_
  refine x_istore (pc := 6) dX6_expression_6 (by decide) xs_4 (x_hp rfl) ?_
  refine x_iload (pc := 8) dX6_expression_8 rfl ?_
  refine x_bipushN (pc := 10) 100 dX6_expression_10 bp_100 ?_
  first | (guard_target =~ Wp _ _ _ _ _ (Value.int (nI _) :: Value.int (nI _) :: _) _ _ _ _; with_reducible refine x_icmp_geN (pc := 12) (tgt := 90) ?_ ?_ dX6_expression_12 ?_ (fun h12 => ?_) (fun h12 => ?_); (first | omega | exact b2n_31 _); (first | omega | exact b2n_31 _); decide) | refine x_icmp_ge (pc := 12) (tgt := 90) dX6_expression_12 (by decide) (fun h12 => ?_) (fun h12 => ?_)
  · skip
    omega
  · skip
    refine x_aload_n (pc := 15) dX6_expression_15 rfl ?_
    refine x_getI (pc := 16) dX6_expression_16 flX6_30 (by first | assumption | rfl) rfl ?_
    rw [rM_br]
    first | (guard_target =~ Wp _ _ _ _ _ (Value.int (nI _) :: _) _ _ _ _; with_reducible refine x_if_neN (pc := 19) (tgt := 90) ?_ dX6_expression_19 ?_ (fun h19 => ?_) (fun h19 => ?_); (first | omega | exact b2n_32 _ | exact b2n_31 _); decide) | refine x_if_ne (pc := 19) (tgt := 90) dX6_expression_19 (by decide) (fun h19 => ?_) (fun h19 => ?_)
    · skip
      refine x_iload_n (pc := 90) dX6_expression_90 rfl ?_
      refine x_iload_n (pc := 91) dX6_expression_91 rfl ?_
      first | (guard_target =~ Wp _ _ _ _ _ (Value.int (nI _) :: Value.int (nI _) :: _) _ _ _ _; with_reducible refine x_iorN (pc := 92) dX6_expression_92 ?_) | refine x_ior (pc := 92) dX6_expression_92 ?_
      rw [Nat.zero_or]
      refine x_ret (pc := 93) (v := some _) rfl trivial dX6_expression_93 (by decide) ?_
      exact h
    · skip
      cases h19
theorem wP_b {i : Nat} {v : Nat} {q : Nat} {hh : Bool} {e : XP} (hi : i < 16) (hv : v < 100) : (if tb (nI (mkP f e)) i = true then (if hh then (-1 : Int32) else nI 1) * nI v else 0) = Int32.ofInt (wgtC (fctC f i) (if hh then 1 else 0, v, e)) := by
  rw [tb_nI (by omega), mkP, xset_tb, decide_eq_true hi, Bool.true_and]
  unfold wgtC
  by_cases he : e.2 (fctC f i) = true
  · cases hh
    · simp only [he, if_true, Bool.false_eq_true, if_false]
      exact oI_pos v hv
    · simp only [he, if_true]
      exact oI_neg v hv
  · simp only [he, if_false, false_and]
    rfl
theorem sp_X6_clause (hf : ∀ k, f k < 100) (hR : RT M b n c f) (hp : p ≤ n) (h0 : ∀ q, pC c p = (none, q) → ∀ M2, rsame M M2 → K none xSF (rM M2 q true))
    (h : ∀ x q, pC c p = (some x, q) → ∀ M2, rsame M M2 → M2.1 41 11 = (if x.1 = 2 then nI x.2.1 else M.1 41 11) → (∀ i, i < 16 → M2.1 44 i = M.1 44 i + Int32.ofInt (wgtC (fctC f i) x)) → K none xSF (rM M2 q false)) : Ex g (d + 16) yX6_clause mX6_clause [.ref 41] xSF (rM M p false) K := by
  have hX := hR.2.2.2.1
  have e98 := srt_nI (hX.2 p).2 (k := 98) (by decide)
  have e104 := srt_nI (hX.2 p).2 (k := 104) (by decide)
  refine x_entry kX6_clause (Nat.le_of_ble_eq_true rfl) ?_
  show Wp g _ mX6_clause 0 [some (.ref 41), none, none, none, none] [] _ _ _ _
  by_cases n1 : c p = 99
  · have hC : pC c p = ((match wrdP c wB p with
      | (false, q) => (none, q)
      | (true, q) => match numP c q with
        | none => (none, q)
        | some (v, r) => (some ((2, v, [], fun _ => false) : XCl), r)) : Option XCl × Nat) := if_pos n1
    obtain ⟨w1, w2, -⟩ := wrdP_ok hX wB (by decide) p hp
    rcases hw : wrdP c wB p with ⟨_ | _, q⟩
    · rw [hw] at hC
      have fin := h0 q hC
      refine x_aload_n (pc := 0) dX6_clause_0 rfl ?_
      refine x_invV0 (pc := 1) dX6_clause_1 mlX6_64 imX6_sign seX6_sign kX6_sign (by first | assumption | rfl) rfl (Nat.le_of_ble_eq_true rfl) (by decide) ?_
      refine sp_X6_sign hR hp ?_
      refine x_cv rfl rfl ?_
      refine x_bipush (pc := 4) dX6_clause_4 bp_98 ?_
      first | (guard_target =~ Wp _ _ _ _ _ (Value.int (nI _) :: Value.int (nI _) :: _) _ _ _ _; with_reducible refine x_icmp_neN (pc := 6) (tgt := 24) ?_ ?_ dX6_clause_6 ?_ (fun h6 => ?_) (fun h6 => ?_); (first | omega | exact b2n_31 _); (first | omega | exact b2n_31 _); decide) | refine x_icmp_ne (pc := 6) (tgt := 24) dX6_clause_6 (by decide) (fun h6 => ?_) (fun h6 => ?_)
      · skip
        exact absurd (e98.mpr n1) h6
      · skip
        refine x_aload_n (pc := 9) dX6_clause_9 rfl ?_
        refine x_ldcT (pc := 10) 0 (by decide) rfl dX6_clause_10 rfl ?_
        refine x_invV1 (pc := 12) dX6_clause_12 mlX6_70 imX6_word seX6_word kX6_word (by first | assumption | rfl) rfl (Nat.le_of_ble_eq_true rfl) (by decide) ?_
        refine sp_X6_word (i := 0) (by decide) hR hp (fun q' hq => ?_) (fun q' hq => absurd (hw.symm.trans hq) (by simp)); obtain rfl : q = q' := by (have z2 := hw.symm.trans hq; simp only [Prod.mk.injEq, true_and] at z2; exact z2)
        refine x_cn rfl rfl ?_
        refine x_aload_n (pc := 15) dX6_clause_15 rfl ?_
        refine x_aload_n (pc := 16) dX6_clause_16 rfl ?_
        refine x_invV0 (pc := 17) dX6_clause_17 mlX6_74 imX6_number seX6_number kX6_number (by first | assumption | rfl) rfl (Nat.le_of_ble_eq_true rfl) (by decide) ?_
        refine sp_X6_numberB ?_
        refine x_cv rfl rfl ?_
        refine x_putI (pc := 20) dX6_clause_20 flX6_37 (by first | assumption | rfl) rfl rfl rfl ?_
        rw [rM_out (Or.inr rfl)]
        refine x_ret (pc := 23) (v := none) rfl trivial dX6_clause_23 (by decide) ?_
        exact fin _ rsame.p11
    · rw [hw] at hC w1 w2
      rcases hn : numP c q with _ | ⟨v, r⟩
      · simp only [hn] at hC
        have fin := h0 q hC
        refine x_aload_n (pc := 0) dX6_clause_0 rfl ?_
        refine x_invV0 (pc := 1) dX6_clause_1 mlX6_64 imX6_sign seX6_sign kX6_sign (by first | assumption | rfl) rfl (Nat.le_of_ble_eq_true rfl) (by decide) ?_
        refine sp_X6_sign hR hp ?_
        refine x_cv rfl rfl ?_
        refine x_bipush (pc := 4) dX6_clause_4 bp_98 ?_
        first | (guard_target =~ Wp _ _ _ _ _ (Value.int (nI _) :: Value.int (nI _) :: _) _ _ _ _; with_reducible refine x_icmp_neN (pc := 6) (tgt := 24) ?_ ?_ dX6_clause_6 ?_ (fun h6 => ?_) (fun h6 => ?_); (first | omega | exact b2n_31 _); (first | omega | exact b2n_31 _); decide) | refine x_icmp_ne (pc := 6) (tgt := 24) dX6_clause_6 (by decide) (fun h6 => ?_) (fun h6 => ?_)
        · skip
          exact absurd (e98.mpr n1) h6
        · skip
          refine x_aload_n (pc := 9) dX6_clause_9 rfl ?_
          refine x_ldcT (pc := 10) 0 (by decide) rfl dX6_clause_10 rfl ?_
          refine x_invV1 (pc := 12) dX6_clause_12 mlX6_70 imX6_word seX6_word kX6_word (by first | assumption | rfl) rfl (Nat.le_of_ble_eq_true rfl) (by decide) ?_
          refine sp_X6_word (i := 0) (by decide) hR hp (fun q' hq => absurd (hw.symm.trans hq) (by simp)) (fun q' hq => ?_); obtain rfl : q = q' := by (have z2 := hw.symm.trans hq; simp only [Prod.mk.injEq, true_and] at z2; exact z2)
          refine x_cn rfl rfl ?_
          refine x_aload_n (pc := 15) dX6_clause_15 rfl ?_
          refine x_aload_n (pc := 16) dX6_clause_16 rfl ?_
          refine x_invV0 (pc := 17) dX6_clause_17 mlX6_74 imX6_number seX6_number kX6_number (by first | assumption | rfl) rfl (Nat.le_of_ble_eq_true rfl) (by decide) ?_
          refine sp_X6_number hR w2 (fun _ => ?_) (fun v q z => absurd (hn.symm.trans z) (by simp))
          refine x_cv rfl rfl ?_
          refine x_putI (pc := 20) dX6_clause_20 flX6_37 (by first | assumption | rfl) rfl rfl rfl ?_
          rw [rM_out (Or.inr rfl)]
          refine x_ret (pc := 23) (v := none) rfl trivial dX6_clause_23 (by decide) ?_
          exact fin _ rsame.p11
      · simp only [hn] at hC
        have fin := h _ r hC
        refine x_aload_n (pc := 0) dX6_clause_0 rfl ?_
        refine x_invV0 (pc := 1) dX6_clause_1 mlX6_64 imX6_sign seX6_sign kX6_sign (by first | assumption | rfl) rfl (Nat.le_of_ble_eq_true rfl) (by decide) ?_
        refine sp_X6_sign hR hp ?_
        refine x_cv rfl rfl ?_
        refine x_bipush (pc := 4) dX6_clause_4 bp_98 ?_
        first | (guard_target =~ Wp _ _ _ _ _ (Value.int (nI _) :: Value.int (nI _) :: _) _ _ _ _; with_reducible refine x_icmp_neN (pc := 6) (tgt := 24) ?_ ?_ dX6_clause_6 ?_ (fun h6 => ?_) (fun h6 => ?_); (first | omega | exact b2n_31 _); (first | omega | exact b2n_31 _); decide) | refine x_icmp_ne (pc := 6) (tgt := 24) dX6_clause_6 (by decide) (fun h6 => ?_) (fun h6 => ?_)
        · skip
          exact absurd (e98.mpr n1) h6
        · skip
          refine x_aload_n (pc := 9) dX6_clause_9 rfl ?_
          refine x_ldcT (pc := 10) 0 (by decide) rfl dX6_clause_10 rfl ?_
          refine x_invV1 (pc := 12) dX6_clause_12 mlX6_70 imX6_word seX6_word kX6_word (by first | assumption | rfl) rfl (Nat.le_of_ble_eq_true rfl) (by decide) ?_
          refine sp_X6_word (i := 0) (by decide) hR hp (fun q' hq => absurd (hw.symm.trans hq) (by simp)) (fun q' hq => ?_); obtain rfl : q = q' := by (have z2 := hw.symm.trans hq; simp only [Prod.mk.injEq, true_and] at z2; exact z2)
          refine x_cn rfl rfl ?_
          refine x_aload_n (pc := 15) dX6_clause_15 rfl ?_
          refine x_aload_n (pc := 16) dX6_clause_16 rfl ?_
          refine x_invV0 (pc := 17) dX6_clause_17 mlX6_74 imX6_number seX6_number kX6_number (by first | assumption | rfl) rfl (Nat.le_of_ble_eq_true rfl) (by decide) ?_
          refine sp_X6_number hR w2 (fun z => absurd (hn.symm.trans z) (by simp)) (fun v' q' z => ?_); obtain ⟨rfl, rfl⟩ : v = v' ∧ r = q' := by (have z2 := hn.symm.trans z; simp only [Option.some.injEq, Prod.mk.injEq] at z2; exact z2)
          refine x_cv rfl rfl ?_
          refine x_putI (pc := 20) dX6_clause_20 flX6_37 (by first | assumption | rfl) rfl rfl rfl ?_
          rw [rM_out (Or.inr rfl)]
          refine x_ret (pc := 23) (v := none) rfl trivial dX6_clause_23 (by decide) ?_
          exact fin _ rsame.p11 rfl (fun i hi => (Int32.add_zero _).symm)
  have hC : pC c p = ((match wrdP c (if c p = 105 then wH else wS) p with
    | (false, q) => (none, q)
    | (true, q) => match numP c q with
      | none => (none, q)
      | some (v, r) => if c r = 33 then (match pE c 4 (r + 1) with
        | (none, s) => (none, s)
        | (some e, s) => (some ((if c p = 105 then 1 else 0, v, e) : XCl), s)) else (none, r)) : Option XCl × Nat) := if_neg n1
  have body : ∀ (i : Nat) (hh : Bool) (way : Int32), i < 5 → (c p = 105 ↔ hh = true) → way = (if hh then (-1 : Int32) else nI 1) → wl i = (if c p = 105 then wH else wS) →
      Wp g (d + 16) mX6_clause 51 [some (.ref 41), some (.int way), none, none, none] [.ref (2000 + i), .ref 41] xSF (0, 0) (rM M p false) K := by
    intro i hh way hi hhh hway hwl
    rw [← hwl] at hC
    obtain ⟨w1, w2, -⟩ := wrdP_ok hX (wl i) (wl_in i hi) p hp
    rcases hw : wrdP c (wl i) p with ⟨_ | _, q⟩
    · rw [hw] at hC
      have fin := h0 q hC
      refine x_invV1 (pc := 51) dX6_clause_51 mlX6_70 imX6_word seX6_word kX6_word (by first | assumption | rfl) rfl (Nat.le_of_ble_eq_true rfl) (by decide) ?_
      refine sp_X6_word hi hR hp (fun q' hq => ?_) (fun q' hq => absurd (hw.symm.trans hq) (by simp)); obtain rfl : q = q' := by (have z2 := hw.symm.trans hq; simp only [Prod.mk.injEq, true_and] at z2; exact z2)
      refine x_cn rfl rfl ?_
      refine x_aload_n (pc := 54) dX6_clause_54 rfl ?_
      refine x_invV0 (pc := 55) dX6_clause_55 mlX6_74 imX6_number seX6_number kX6_number (by first | assumption | rfl) rfl (Nat.le_of_ble_eq_true rfl) (by decide) ?_
      refine sp_X6_numberB ?_
      refine x_cv rfl rfl ?_
      refine x_istore_n (pc := 58) dX6_clause_58 (by decide) xs_2 (x_hp rfl) ?_
      refine x_aload_n (pc := 59) dX6_clause_59 rfl ?_
      refine x_ldcT (pc := 60) 3 (by decide) rfl dX6_clause_60 rfl ?_
      refine x_invV1 (pc := 62) dX6_clause_62 mlX6_70 imX6_word seX6_word kX6_word (by first | assumption | rfl) rfl (Nat.le_of_ble_eq_true rfl) (by decide) ?_
      refine sp_X6_wordB (i := 3) (by decide) ?_
      refine x_cn rfl rfl ?_
      refine x_aload_n (pc := 65) dX6_clause_65 rfl ?_
      refine x_iconstN (pc := 66) 0 dX6_clause_66 ic_0 ?_
      refine x_invV1 (pc := 67) dX6_clause_67 mlX6_83 imX6_expression seX6_expression kX6_expression (by first | assumption | rfl) rfl (Nat.le_of_ble_eq_true rfl) (by decide) ?_
      refine sp_X6_expressionB ?_
      refine x_cv rfl rfl ?_
      refine x_istore_n (pc := 70) dX6_clause_70 (by decide) xs_3 (x_hp rfl) ?_
      refine x_iconstN (pc := 71) 0 dX6_clause_71 ic_0 ?_
      refine x_istore (pc := 72) dX6_clause_72 (by decide) xs_4 (x_hp rfl) ?_
      exact clsL (fun M2 hs _ _ => fin M2 hs) 16 0 M rfl rsame.rf rfl (fun j hj => by simp)
    · rw [hw] at hC w1 w2
      rcases hn : numP c q with _ | ⟨v, r⟩
      · simp only [hn] at hC
        have fin := h0 q hC
        refine x_invV1 (pc := 51) dX6_clause_51 mlX6_70 imX6_word seX6_word kX6_word (by first | assumption | rfl) rfl (Nat.le_of_ble_eq_true rfl) (by decide) ?_
        refine sp_X6_word hi hR hp (fun q' hq => absurd (hw.symm.trans hq) (by simp)) (fun q' hq => ?_); obtain rfl : q = q' := by (have z2 := hw.symm.trans hq; simp only [Prod.mk.injEq, true_and] at z2; exact z2)
        refine x_cn rfl rfl ?_
        refine x_aload_n (pc := 54) dX6_clause_54 rfl ?_
        refine x_invV0 (pc := 55) dX6_clause_55 mlX6_74 imX6_number seX6_number kX6_number (by first | assumption | rfl) rfl (Nat.le_of_ble_eq_true rfl) (by decide) ?_
        refine sp_X6_number hR w2 (fun _ => ?_) (fun v q z => absurd (hn.symm.trans z) (by simp))
        refine x_cv rfl rfl ?_
        refine x_istore_n (pc := 58) dX6_clause_58 (by decide) xs_2 (x_hp rfl) ?_
        refine x_aload_n (pc := 59) dX6_clause_59 rfl ?_
        refine x_ldcT (pc := 60) 3 (by decide) rfl dX6_clause_60 rfl ?_
        refine x_invV1 (pc := 62) dX6_clause_62 mlX6_70 imX6_word seX6_word kX6_word (by first | assumption | rfl) rfl (Nat.le_of_ble_eq_true rfl) (by decide) ?_
        refine sp_X6_wordB (i := 3) (by decide) ?_
        refine x_cn rfl rfl ?_
        refine x_aload_n (pc := 65) dX6_clause_65 rfl ?_
        refine x_iconstN (pc := 66) 0 dX6_clause_66 ic_0 ?_
        refine x_invV1 (pc := 67) dX6_clause_67 mlX6_83 imX6_expression seX6_expression kX6_expression (by first | assumption | rfl) rfl (Nat.le_of_ble_eq_true rfl) (by decide) ?_
        refine sp_X6_expressionB ?_
        refine x_cv rfl rfl ?_
        refine x_istore_n (pc := 70) dX6_clause_70 (by decide) xs_3 (x_hp rfl) ?_
        refine x_iconstN (pc := 71) 0 dX6_clause_71 ic_0 ?_
        refine x_istore (pc := 72) dX6_clause_72 (by decide) xs_4 (x_hp rfl) ?_
        exact clsL (fun M2 hs _ _ => fin M2 hs) 16 0 M rfl rsame.rf rfl (fun j hj => by simp)
      · simp only [hn] at hC
        obtain ⟨u1, u2, u3⟩ := numP_some hX hn
        by_cases n3 : c r = 33
        · rw [if_pos n3] at hC
          have n4 := hX.lt n3 (by decide)
          obtain ⟨y1, y2, -⟩ := pE_ok hX 4 (r + 1) (by omega)
          rcases hr : pE c 4 (r + 1) with ⟨_ | e, s⟩
          · rw [hr] at hC
            have fin := h0 s hC
            refine x_invV1 (pc := 51) dX6_clause_51 mlX6_70 imX6_word seX6_word kX6_word (by first | assumption | rfl) rfl (Nat.le_of_ble_eq_true rfl) (by decide) ?_
            refine sp_X6_word hi hR hp (fun q' hq => absurd (hw.symm.trans hq) (by simp)) (fun q' hq => ?_); obtain rfl : q = q' := by (have z2 := hw.symm.trans hq; simp only [Prod.mk.injEq, true_and] at z2; exact z2)
            refine x_cn rfl rfl ?_
            refine x_aload_n (pc := 54) dX6_clause_54 rfl ?_
            refine x_invV0 (pc := 55) dX6_clause_55 mlX6_74 imX6_number seX6_number kX6_number (by first | assumption | rfl) rfl (Nat.le_of_ble_eq_true rfl) (by decide) ?_
            refine sp_X6_number hR w2 (fun z => absurd (hn.symm.trans z) (by simp)) (fun v' q' z => ?_); obtain ⟨rfl, rfl⟩ : v = v' ∧ r = q' := by (have z2 := hn.symm.trans z; simp only [Option.some.injEq, Prod.mk.injEq] at z2; exact z2)
            refine x_cv rfl rfl ?_
            refine x_istore_n (pc := 58) dX6_clause_58 (by decide) xs_2 (x_hp rfl) ?_
            refine x_aload_n (pc := 59) dX6_clause_59 rfl ?_
            refine x_ldcT (pc := 60) 3 (by decide) rfl dX6_clause_60 rfl ?_
            refine x_invV1 (pc := 62) dX6_clause_62 mlX6_70 imX6_word seX6_word kX6_word (by first | assumption | rfl) rfl (Nat.le_of_ble_eq_true rfl) (by decide) ?_
            refine sp_X6_word (i := 3) (by decide) hR u2 (fun q' hq => absurd hq (by rw [wrd3, if_pos n3]; simp)) (fun q' hq => ?_); obtain rfl : r + 1 = q' := by (rw [wrd3, if_pos n3] at hq; simp only [Prod.mk.injEq, true_and] at hq; exact hq)
            refine x_cn rfl rfl ?_
            refine x_aload_n (pc := 65) dX6_clause_65 rfl ?_
            refine x_iconstN (pc := 66) 0 dX6_clause_66 ic_0 ?_
            refine x_invV1 (pc := 67) dX6_clause_67 mlX6_83 imX6_expression seX6_expression kX6_expression (by first | assumption | rfl) rfl (Nat.le_of_ble_eq_true rfl) (by decide) ?_
            refine expA hf hR 4 (by decide) (d + 15) (r + 1) _ (by omega) (by omega) (fun q' hq v => ?_) (fun e q' hq => absurd (hr.symm.trans hq) (by simp)); obtain rfl : s = q' := by (have z2 := hr.symm.trans hq; simp only [Prod.mk.injEq, true_and] at z2; exact z2)
            refine x_cv rfl rfl ?_
            refine x_istore_n (pc := 70) dX6_clause_70 (by decide) xs_3 (x_hp rfl) ?_
            refine x_iconstN (pc := 71) 0 dX6_clause_71 ic_0 ?_
            refine x_istore (pc := 72) dX6_clause_72 (by decide) xs_4 (x_hp rfl) ?_
            exact clsL (fun M2 hs _ _ => fin M2 hs) 16 0 M rfl rsame.rf rfl (fun j hj => by simp)
          · rw [hr] at hC
            have fin := h _ s hC
            refine x_invV1 (pc := 51) dX6_clause_51 mlX6_70 imX6_word seX6_word kX6_word (by first | assumption | rfl) rfl (Nat.le_of_ble_eq_true rfl) (by decide) ?_
            refine sp_X6_word hi hR hp (fun q' hq => absurd (hw.symm.trans hq) (by simp)) (fun q' hq => ?_); obtain rfl : q = q' := by (have z2 := hw.symm.trans hq; simp only [Prod.mk.injEq, true_and] at z2; exact z2)
            refine x_cn rfl rfl ?_
            refine x_aload_n (pc := 54) dX6_clause_54 rfl ?_
            refine x_invV0 (pc := 55) dX6_clause_55 mlX6_74 imX6_number seX6_number kX6_number (by first | assumption | rfl) rfl (Nat.le_of_ble_eq_true rfl) (by decide) ?_
            refine sp_X6_number hR w2 (fun z => absurd (hn.symm.trans z) (by simp)) (fun v' q' z => ?_); obtain ⟨rfl, rfl⟩ : v = v' ∧ r = q' := by (have z2 := hn.symm.trans z; simp only [Option.some.injEq, Prod.mk.injEq] at z2; exact z2)
            refine x_cv rfl rfl ?_
            refine x_istore_n (pc := 58) dX6_clause_58 (by decide) xs_2 (x_hp rfl) ?_
            refine x_aload_n (pc := 59) dX6_clause_59 rfl ?_
            refine x_ldcT (pc := 60) 3 (by decide) rfl dX6_clause_60 rfl ?_
            refine x_invV1 (pc := 62) dX6_clause_62 mlX6_70 imX6_word seX6_word kX6_word (by first | assumption | rfl) rfl (Nat.le_of_ble_eq_true rfl) (by decide) ?_
            refine sp_X6_word (i := 3) (by decide) hR u2 (fun q' hq => absurd hq (by rw [wrd3, if_pos n3]; simp)) (fun q' hq => ?_); obtain rfl : r + 1 = q' := by (rw [wrd3, if_pos n3] at hq; simp only [Prod.mk.injEq, true_and] at hq; exact hq)
            refine x_cn rfl rfl ?_
            refine x_aload_n (pc := 65) dX6_clause_65 rfl ?_
            refine x_iconstN (pc := 66) 0 dX6_clause_66 ic_0 ?_
            refine x_invV1 (pc := 67) dX6_clause_67 mlX6_83 imX6_expression seX6_expression kX6_expression (by first | assumption | rfl) rfl (Nat.le_of_ble_eq_true rfl) (by decide) ?_
            refine expA hf hR 4 (by decide) (d + 15) (r + 1) _ (by omega) (by omega) (fun q' hq => absurd (hr.symm.trans hq) (by simp)) (fun e' q' hq => ?_); obtain ⟨rfl, rfl⟩ : e = e' ∧ s = q' := by (have z2 := hr.symm.trans hq; simp only [Prod.mk.injEq, Option.some.injEq] at z2; exact z2)
            refine x_cv rfl rfl ?_
            refine x_istore_n (pc := 70) dX6_clause_70 (by decide) xs_3 (x_hp rfl) ?_
            refine x_iconstN (pc := 71) 0 dX6_clause_71 ic_0 ?_
            refine x_istore (pc := 72) dX6_clause_72 (by decide) xs_4 (x_hp rfl) ?_
            refine clsL (fun M2 hs hb hw => fin M2 hs ?_ (fun i hi => ?_)) 16 0 M rfl rsame.rf rfl (fun j hj => by simp)
            · rw [hb]; exact (if_neg (show ¬ (if c p = 105 then 1 else 0) = 2 by split <;> decide)).symm
            · have e105 : (if c p = 105 then 1 else 0) = (if hh = true then 1 else 0) := by simp only [hhh]
              rw [hw i hi, hway, wP_b (q := 0) hi u3, e105]
        · rw [if_neg n3] at hC
          have fin := h0 r hC
          refine x_invV1 (pc := 51) dX6_clause_51 mlX6_70 imX6_word seX6_word kX6_word (by first | assumption | rfl) rfl (Nat.le_of_ble_eq_true rfl) (by decide) ?_
          refine sp_X6_word hi hR hp (fun q' hq => absurd (hw.symm.trans hq) (by simp)) (fun q' hq => ?_); obtain rfl : q = q' := by (have z2 := hw.symm.trans hq; simp only [Prod.mk.injEq, true_and] at z2; exact z2)
          refine x_cn rfl rfl ?_
          refine x_aload_n (pc := 54) dX6_clause_54 rfl ?_
          refine x_invV0 (pc := 55) dX6_clause_55 mlX6_74 imX6_number seX6_number kX6_number (by first | assumption | rfl) rfl (Nat.le_of_ble_eq_true rfl) (by decide) ?_
          refine sp_X6_number hR w2 (fun z => absurd (hn.symm.trans z) (by simp)) (fun v' q' z => ?_); obtain ⟨rfl, rfl⟩ : v = v' ∧ r = q' := by (have z2 := hn.symm.trans z; simp only [Option.some.injEq, Prod.mk.injEq] at z2; exact z2)
          refine x_cv rfl rfl ?_
          refine x_istore_n (pc := 58) dX6_clause_58 (by decide) xs_2 (x_hp rfl) ?_
          refine x_aload_n (pc := 59) dX6_clause_59 rfl ?_
          refine x_ldcT (pc := 60) 3 (by decide) rfl dX6_clause_60 rfl ?_
          refine x_invV1 (pc := 62) dX6_clause_62 mlX6_70 imX6_word seX6_word kX6_word (by first | assumption | rfl) rfl (Nat.le_of_ble_eq_true rfl) (by decide) ?_
          refine sp_X6_word (i := 3) (by decide) hR u2 (fun q' hq => ?_) (fun q' hq => absurd hq (by rw [wrd3, if_neg n3]; simp)); obtain rfl : r = q' := by (rw [wrd3, if_neg n3] at hq; simp only [Prod.mk.injEq, true_and] at hq; exact hq)
          refine x_cn rfl rfl ?_
          refine x_aload_n (pc := 65) dX6_clause_65 rfl ?_
          refine x_iconstN (pc := 66) 0 dX6_clause_66 ic_0 ?_
          refine x_invV1 (pc := 67) dX6_clause_67 mlX6_83 imX6_expression seX6_expression kX6_expression (by first | assumption | rfl) rfl (Nat.le_of_ble_eq_true rfl) (by decide) ?_
          refine sp_X6_expressionB ?_
          refine x_cv rfl rfl ?_
          refine x_istore_n (pc := 70) dX6_clause_70 (by decide) xs_3 (x_hp rfl) ?_
          refine x_iconstN (pc := 71) 0 dX6_clause_71 ic_0 ?_
          refine x_istore (pc := 72) dX6_clause_72 (by decide) xs_4 (x_hp rfl) ?_
          exact clsL (fun M2 hs _ _ => fin M2 hs) 16 0 M rfl rsame.rf rfl (fun j hj => by simp)
  by_cases n2 : c p = 105
  · skip
    refine x_aload_n (pc := 0) dX6_clause_0 rfl ?_
    refine x_invV0 (pc := 1) dX6_clause_1 mlX6_64 imX6_sign seX6_sign kX6_sign (by first | assumption | rfl) rfl (Nat.le_of_ble_eq_true rfl) (by decide) ?_
    refine sp_X6_sign hR hp ?_
    refine x_cv rfl rfl ?_
    refine x_bipush (pc := 4) dX6_clause_4 bp_98 ?_
    first | (guard_target =~ Wp _ _ _ _ _ (Value.int (nI _) :: Value.int (nI _) :: _) _ _ _ _; with_reducible refine x_icmp_neN (pc := 6) (tgt := 24) ?_ ?_ dX6_clause_6 ?_ (fun h6 => ?_) (fun h6 => ?_); (first | omega | exact b2n_31 _); (first | omega | exact b2n_31 _); decide) | refine x_icmp_ne (pc := 6) (tgt := 24) dX6_clause_6 (by decide) (fun h6 => ?_) (fun h6 => ?_)
    · skip
      refine x_aload_n (pc := 24) dX6_clause_24 rfl ?_
      refine x_invV0 (pc := 25) dX6_clause_25 mlX6_64 imX6_sign seX6_sign kX6_sign (by first | assumption | rfl) rfl (Nat.le_of_ble_eq_true rfl) (by decide) ?_
      refine sp_X6_sign hR hp ?_
      refine x_cv rfl rfl ?_
      refine x_bipush (pc := 28) dX6_clause_28 bp_104 ?_
      first | (guard_target =~ Wp _ _ _ _ _ (Value.int (nI _) :: Value.int (nI _) :: _) _ _ _ _; with_reducible refine x_icmp_neN (pc := 30) (tgt := 37) ?_ ?_ dX6_clause_30 ?_ (fun h30 => ?_) (fun h30 => ?_); (first | omega | exact b2n_31 _); (first | omega | exact b2n_31 _); decide) | refine x_icmp_ne (pc := 30) (tgt := 37) dX6_clause_30 (by decide) (fun h30 => ?_) (fun h30 => ?_)
      · skip
        exact absurd (e104.mpr n2) h30
      · skip
        refine x_iconst (pc := 33) dX6_clause_33 ic_m1 ?_
        refine x_goto (pc := 34) (tgt := 38) dX6_clause_34 (by decide) ?_
        refine x_istore_n (pc := 38) dX6_clause_38 (by decide) xs_1 (x_hp rfl) ?_
        refine x_aload_n (pc := 39) dX6_clause_39 rfl ?_
        refine x_iload_n (pc := 40) dX6_clause_40 rfl ?_
        refine x_if_ge (pc := 41) (tgt := 49) dX6_clause_41 (by decide) (fun h41 => ?_) (fun h41 => ?_)
        · skip
          exact absurd h41 (by decide)
        · skip
          refine x_ldcT (pc := 44) 1 (by decide) rfl dX6_clause_44 rfl ?_
          refine x_goto (pc := 46) (tgt := 51) dX6_clause_46 (by decide) ?_
          exact body 1 true _ (by decide) (by simp [n2]) rfl (by rw [if_pos n2]; rfl)
    · skip
      exact absurd (e98.mp h6) n1
  · skip
    refine x_aload_n (pc := 0) dX6_clause_0 rfl ?_
    refine x_invV0 (pc := 1) dX6_clause_1 mlX6_64 imX6_sign seX6_sign kX6_sign (by first | assumption | rfl) rfl (Nat.le_of_ble_eq_true rfl) (by decide) ?_
    refine sp_X6_sign hR hp ?_
    refine x_cv rfl rfl ?_
    refine x_bipush (pc := 4) dX6_clause_4 bp_98 ?_
    first | (guard_target =~ Wp _ _ _ _ _ (Value.int (nI _) :: Value.int (nI _) :: _) _ _ _ _; with_reducible refine x_icmp_neN (pc := 6) (tgt := 24) ?_ ?_ dX6_clause_6 ?_ (fun h6 => ?_) (fun h6 => ?_); (first | omega | exact b2n_31 _); (first | omega | exact b2n_31 _); decide) | refine x_icmp_ne (pc := 6) (tgt := 24) dX6_clause_6 (by decide) (fun h6 => ?_) (fun h6 => ?_)
    · skip
      refine x_aload_n (pc := 24) dX6_clause_24 rfl ?_
      refine x_invV0 (pc := 25) dX6_clause_25 mlX6_64 imX6_sign seX6_sign kX6_sign (by first | assumption | rfl) rfl (Nat.le_of_ble_eq_true rfl) (by decide) ?_
      refine sp_X6_sign hR hp ?_
      refine x_cv rfl rfl ?_
      refine x_bipush (pc := 28) dX6_clause_28 bp_104 ?_
      first | (guard_target =~ Wp _ _ _ _ _ (Value.int (nI _) :: Value.int (nI _) :: _) _ _ _ _; with_reducible refine x_icmp_neN (pc := 30) (tgt := 37) ?_ ?_ dX6_clause_30 ?_ (fun h30 => ?_) (fun h30 => ?_); (first | omega | exact b2n_31 _); (first | omega | exact b2n_31 _); decide) | refine x_icmp_ne (pc := 30) (tgt := 37) dX6_clause_30 (by decide) (fun h30 => ?_) (fun h30 => ?_)
      · skip
        refine x_iconstN (pc := 37) 1 dX6_clause_37 ic_1 ?_
        refine x_istore_n (pc := 38) dX6_clause_38 (by decide) xs_1 (x_hp rfl) ?_
        refine x_aload_n (pc := 39) dX6_clause_39 rfl ?_
        refine x_iload_n (pc := 40) dX6_clause_40 rfl ?_
        refine x_if_ge (pc := 41) (tgt := 49) dX6_clause_41 (by decide) (fun h41 => ?_) (fun h41 => ?_)
        · skip
          refine x_ldcT (pc := 49) 2 (by decide) rfl dX6_clause_49 rfl ?_
          exact body 2 false _ (by decide) (by simp [n2]) rfl (by rw [if_neg n2]; rfl)
        · skip
          exact absurd (by decide) h41
      · skip
        exact absurd (e104.mp h30) n2
    · skip
      exact absurd (e98.mp h6) n1
end P33
