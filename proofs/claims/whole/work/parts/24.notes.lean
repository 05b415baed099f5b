/-! NOTES of the program: seen, plan, book -/
def Nots (b : Nat) : Prop := xSF[b]? = some (.inr (5, [some (.ref (b + 1)), some (.ref (b + 2)), some (.ref (b + 3)), some (.ref (b + 4)), some (.ref (b + 5)), some (.ref (b + 6)), some (.ref (b + 7)), none, none, none])) ∧ xSF[b + 1]? = some (.inl (0, 5)) ∧ xSF[b + 2]? = some (.inl (0, 5)) ∧ xSF[b + 3]? = some (.inl (0, 5)) ∧ xSF[b + 4]? = some (.inl (0, 10)) ∧ xSF[b + 5]? = some (.inl (0, 10)) ∧ xSF[b + 6]? = some (.inl (0, 8)) ∧ xSF[b + 7]? = some (.inl (0, 8))
theorem nots25 : Nots 25 := ⟨rfl, rfl, rfl, rfl, rfl, rfl, rfl, rfl⟩
theorem nots33 : Nots 33 := ⟨rfl, rfl, rfl, rfl, rfl, rfl, rfl, rfl⟩
/-- rows 0 cell, 1 more, 2 when of what is seen; 3 what, 4 number of the plan; 5 cell, 6 wear of the book; 7, 8, 9 how many -/
def NR (b : Nat) (M : XM) (N : XA) : Prop :=
  (∀ j, j < N 7 0 → M.1 (b + 1) j = nI (N 0 j) ∧ N 0 j < 16 ∧ M.1 (b + 2) j = nI (N 1 j) ∧ N 1 j < 10000 ∧ M.1 (b + 3) j = nI (N 2 j) ∧ N 2 j ≤ 20) ∧
  (∀ j, j < N 8 0 → M.1 (b + 4) j = nI (N 3 j) ∧ N 3 j < 4 ∧ (N 3 j ≠ 0 → M.1 (b + 5) j = nI (N 4 j) ∧ N 4 j < 16)) ∧
  (∀ j, j < N 9 0 → M.1 (b + 6) j = nI (N 5 j) ∧ N 5 j < 16 ∧ M.1 (b + 7) j = nI (N 6 j) ∧ N 6 j < 10000) ∧
  (M.1 b 7 = nI (N 7 0) ∧ N 7 0 ≤ 5) ∧ (M.1 b 8 = nI (N 8 0) ∧ N 8 0 ≤ 10) ∧ M.1 b 9 = nI (N 9 0) ∧ N 9 0 ≤ 8
theorem NR.same {b : Nat} {M M' : XM} {N : XA} (h : NR b M N) (hs : ∀ q, b ≤ q → q < b + 8 → M'.1 q = M.1 q) : NR b M' N := by
  unfold NR
  rw [hs b (by omega) (by omega), hs (b + 1) (by omega) (by omega), hs (b + 2) (by omega) (by omega), hs (b + 3) (by omega) (by omega), hs (b + 4) (by omega) (by omega), hs (b + 5) (by omega) (by omega), hs (b + 6) (by omega) (by omega), hs (b + 7) (by omega) (by omega)]
  exact h
theorem NR.out {b lo hi : Nat} {M M' : XM} {N : XA} (h : NR b M N) (hs : xsame lo hi M M') (hd : hi ≤ b ∨ b + 8 ≤ lo) : NR b M' N := h.same (fun q h1 h2 => hs.1 q (by omega))
def allN (p : Nat → Bool) : Nat → Bool
  | 0 => true
  | n + 1 => allN p n && p n
theorem allN_iff {p : Nat → Bool} : ∀ {n : Nat}, allN p n = true ↔ ∀ i, i < n → p i = true := by
  intro n
  induction n with
  | zero => simp [allN]
  | succ n ih =>
    rw [allN, Bool.and_eq_true, ih]
    constructor
    · rintro ⟨h1, h2⟩ i hi
      by_cases h : i = n
      · subst h; exact h2
      · exact h1 i (by omega)
    · intro h
      exact ⟨fun i hi => h i (by omega), h n (by omega)⟩
def seenOk (N A : XA) (w : Int32) : Bool := allN (fun k => decide (gainA A w (N 0 k) (N 2 k) = N 1 k)) (N 7 0)
def nSee (N : XA) (c m t : Nat) : XA := fun k j => if k = 7 ∧ j = 0 then N 7 0 + 1 else if j = N 7 0 ∧ k = 0 then c else if j = N 7 0 ∧ k = 1 then m else if j = N 7 0 ∧ k = 2 then t else N k j
def nPlan (N : XA) (x n : Nat) : XA := fun k j => if k = 8 ∧ j = 0 then N 8 0 + 1 else if j = N 8 0 ∧ k = 3 then x else if j = N 8 0 ∧ k = 4 then n else N k j
def nBook (N : XA) (c m : Nat) : XA := fun k j => if k = 9 ∧ j = 0 then N 9 0 + 1 else if j = N 9 0 ∧ k = 5 then c else if j = N 9 0 ∧ k = 6 then m else N k j
def fstO (N A : XA) : Nat → Nat → Int32
  | 0, _ => -5
  | n + 1, k => if A 0 (N 5 k) = N 6 k then fstO N A n (k + 1) else nI k
section P24
variable {g : XG} {d : Nat} {M : XM} {K : Option Value → XS → XM → Prop} {a b : Nat} {A N : XA} {w r : Int32}
theorem NR.put0 (h : NR b M N) (k : Nat) (hk : k = 7 ∨ k = 8 ∨ k = 9) : NR b (xput M b k (nI 0)) (updA N k 0 0) := by
  obtain ⟨h1, h2, h3, h4, h5, h6, h7⟩ := h
  have e1 : ∀ q i, b < q → (xput M b k (nI 0)).1 q i = M.1 q i := fun q i hq => xput_ne (Or.inl (by omega))
  refine ⟨fun j hj => ?_, fun j hj => ?_, fun j hj => ?_, ?_⟩
  · rw [e1 _ _ (by omega), e1 _ _ (by omega), e1 _ _ (by omega)]
    have f1 : ∀ i, i < 3 → updA N k 0 0 i j = N i j := fun i hi => by have : ¬ (i = k ∧ j = 0) := by omega
                                                                      simp [updA, this]
    rw [f1 0 (by decide), f1 1 (by decide), f1 2 (by decide)]
    refine h1 j ?_
    by_cases h : k = 7
    · subst h; simp [updA] at hj
    · have : ¬ 7 = k := by omega
      simpa [updA, this] using hj
  · rw [e1 _ _ (by omega), e1 _ _ (by omega)]
    have f1 : ∀ i, i < 7 → updA N k 0 0 i j = N i j := fun i hi => by have : ¬ (i = k ∧ j = 0) := by omega
                                                                      simp [updA, this]
    rw [f1 3 (by decide), f1 4 (by decide)]
    refine h2 j ?_
    by_cases h : k = 8
    · subst h; simp [updA] at hj
    · have : ¬ 8 = k := by omega
      simpa [updA, this] using hj
  · rw [e1 _ _ (by omega), e1 _ _ (by omega)]
    have f1 : ∀ i, i < 7 → updA N k 0 0 i j = N i j := fun i hi => by have : ¬ (i = k ∧ j = 0) := by omega
                                                                      simp [updA, this]
    rw [f1 5 (by decide), f1 6 (by decide)]
    refine h3 j ?_
    by_cases h : k = 9
    · subst h; simp [updA] at hj
    · have : ¬ 9 = k := by omega
      simpa [updA, this] using hj
  · rcases hk with rfl | rfl | rfl <;> simp [xput, updA, h4, h5, h6, h7]
theorem sp_X5_forgetSeen (hc : Nots b) (h : K (some (.int (nI 0))) xSF (xput M b 7 (nI 0))) : Ex g d yX5_forgetSeen mX5_forgetSeen [.ref b] xSF M K := by
  obtain ⟨c0, c1, c2, c3, c4, c5, c6, c7⟩ := hc
  refine x_entry kX5_forgetSeen (Nat.le_of_ble_eq_true rfl) ?_
  show Wp g _ mX5_forgetSeen 0 [some (.ref b)] [] _ _ _ _
  refine x_aload_n (pc := 0) dX5_forgetSeen_0 rfl ?_
  refine x_iconstN (pc := 1) 0 dX5_forgetSeen_1 ic_0 ?_
  refine x_putI (pc := 2) dX5_forgetSeen_2 flX5_39 (by first | assumption | rfl) rfl rfl rfl ?_
  refine x_aload_n (pc := 5) dX5_forgetSeen_5 rfl ?_
  refine x_getI (pc := 6) dX5_forgetSeen_6 flX5_39 (by first | assumption | rfl) rfl ?_
  rw [xput_at]
  refine x_ret (pc := 9) (v := some _) rfl trivial dX5_forgetSeen_9 (by decide) ?_
  exact h
theorem sp_X5_forgetPlan (hc : Nots b) (h : K (some (.int (nI 0))) xSF (xput M b 8 (nI 0))) : Ex g d yX5_forgetPlan mX5_forgetPlan [.ref b] xSF M K := by
  obtain ⟨c0, c1, c2, c3, c4, c5, c6, c7⟩ := hc
  refine x_entry kX5_forgetPlan (Nat.le_of_ble_eq_true rfl) ?_
  show Wp g _ mX5_forgetPlan 0 [some (.ref b)] [] _ _ _ _
  refine x_aload_n (pc := 0) dX5_forgetPlan_0 rfl ?_
  refine x_iconstN (pc := 1) 0 dX5_forgetPlan_1 ic_0 ?_
  refine x_putI (pc := 2) dX5_forgetPlan_2 flX5_43 (by first | assumption | rfl) rfl rfl rfl ?_
  refine x_aload_n (pc := 5) dX5_forgetPlan_5 rfl ?_
  refine x_getI (pc := 6) dX5_forgetPlan_6 flX5_43 (by first | assumption | rfl) rfl ?_
  rw [xput_at]
  refine x_ret (pc := 9) (v := some _) rfl trivial dX5_forgetPlan_9 (by decide) ?_
  exact h
theorem sp_X5_forgetBook (hc : Nots b) (h : K (some (.int (nI 0))) xSF (xput M b 9 (nI 0))) : Ex g d yX5_forgetBook mX5_forgetBook [.ref b] xSF M K := by
  obtain ⟨c0, c1, c2, c3, c4, c5, c6, c7⟩ := hc
  refine x_entry kX5_forgetBook (Nat.le_of_ble_eq_true rfl) ?_
  show Wp g _ mX5_forgetBook 0 [some (.ref b)] [] _ _ _ _
  refine x_aload_n (pc := 0) dX5_forgetBook_0 rfl ?_
  refine x_iconstN (pc := 1) 0 dX5_forgetBook_1 ic_0 ?_
  refine x_putI (pc := 2) dX5_forgetBook_2 flX5_46 (by first | assumption | rfl) rfl rfl rfl ?_
  refine x_aload_n (pc := 5) dX5_forgetBook_5 rfl ?_
  refine x_getI (pc := 6) dX5_forgetBook_6 flX5_46 (by first | assumption | rfl) rfl ?_
  rw [xput_at]
  refine x_ret (pc := 9) (v := some _) rfl trivial dX5_forgetBook_9 (by decide) ?_
  exact h
theorem sp_X5_addSeen {c m t : Nat} (hcc : c < 16) (hm : m < 10000) (ht : t ≤ 20) (hc : Nots b) (hR : NR b M N) (hno : ¬ N 7 0 < 5 → K (some (.int (nI 0))) xSF M)
    (h : N 7 0 < 5 → ∀ M', xsame b (b + 8) M M' → NR b M' (nSee N c m t) → K (some (.int (nI 1))) xSF M') : Ex g d yX5_addSeen mX5_addSeen [.ref b, .int (nI c), .int (nI m), .int (nI t)] xSF M K := by
  obtain ⟨c0, c1, c2, c3, c4, c5, c6, c7⟩ := hc
  obtain ⟨h1, h2, h3, ⟨h4, h5⟩, ⟨h6, h7⟩, h8, h9⟩ := hR
  refine x_entry kX5_addSeen (Nat.le_of_ble_eq_true rfl) ?_
  show Wp g _ mX5_addSeen 0 [some (.ref b), some (.int (nI c)), some (.int (nI m)), some (.int (nI t))] [] _ _ _ _
  refine x_aload_n (pc := 0) dX5_addSeen_0 rfl ?_
  refine x_getI (pc := 1) dX5_addSeen_1 flX5_39 (by first | assumption | rfl) rfl ?_
  first | rw [h4] | (rw [xput_ne (Or.inl (by omega)), h4]) | (rw [xput_ne (Or.inl (by omega)), xput_ne (Or.inl (by omega)), h4]) | (rw [xput_ne (Or.inl (by omega)), xput_ne (Or.inl (by omega)), xput_ne (Or.inl (by omega)), h4])
  refine x_iconstN (pc := 4) 5 dX5_addSeen_4 ic_5 ?_
  first | (guard_target =~ Wp _ _ _ _ _ (Value.int (nI _) :: Value.int (nI _) :: _) _ _ _ _; with_reducible refine x_icmp_ltN (pc := 5) (tgt := 10) ?_ ?_ dX5_addSeen_5 ?_ (fun h5 => ?_) (fun h5 => ?_); (first | omega | exact b2n_31 _); (first | omega | exact b2n_31 _); decide) | refine x_icmp_lt (pc := 5) (tgt := 10) dX5_addSeen_5 (by decide) (fun h5 => ?_) (fun h5 => ?_)
  · skip
    refine x_aload_n (pc := 10) dX5_addSeen_10 rfl ?_
    refine x_getR (pc := 11) dX5_addSeen_11 flX5_11 (by first | assumption | rfl) rfl ?_
    refine x_aload_n (pc := 14) dX5_addSeen_14 rfl ?_
    refine x_getI (pc := 15) dX5_addSeen_15 flX5_39 (by first | assumption | rfl) rfl ?_
    first | rw [h4] | (rw [xput_ne (Or.inl (by omega)), h4]) | (rw [xput_ne (Or.inl (by omega)), xput_ne (Or.inl (by omega)), h4]) | (rw [xput_ne (Or.inl (by omega)), xput_ne (Or.inl (by omega)), xput_ne (Or.inl (by omega)), h4])
    refine x_iload_n (pc := 18) dX5_addSeen_18 rfl ?_
    refine x_iastN (pc := 19) dX5_addSeen_19 (by first | assumption | rfl) (by first | with_reducible rfl | (simp only [xlit, nI_add, pk_mul]; with_reducible rfl)) (by omega) (by decide) ?_
    refine x_aload_n (pc := 20) dX5_addSeen_20 rfl ?_
    refine x_getR (pc := 21) dX5_addSeen_21 flX5_15 (by first | assumption | rfl) rfl ?_
    refine x_aload_n (pc := 24) dX5_addSeen_24 rfl ?_
    refine x_getI (pc := 25) dX5_addSeen_25 flX5_39 (by first | assumption | rfl) rfl ?_
    first | rw [h4] | (rw [xput_ne (Or.inl (by omega)), h4]) | (rw [xput_ne (Or.inl (by omega)), xput_ne (Or.inl (by omega)), h4]) | (rw [xput_ne (Or.inl (by omega)), xput_ne (Or.inl (by omega)), xput_ne (Or.inl (by omega)), h4])
    refine x_iload_n (pc := 28) dX5_addSeen_28 rfl ?_
    refine x_iastN (pc := 29) dX5_addSeen_29 (by first | assumption | rfl) (by first | with_reducible rfl | (simp only [xlit, nI_add, pk_mul]; with_reducible rfl)) (by omega) (by decide) ?_
    refine x_aload_n (pc := 30) dX5_addSeen_30 rfl ?_
    refine x_getR (pc := 31) dX5_addSeen_31 flX5_18 (by first | assumption | rfl) rfl ?_
    refine x_aload_n (pc := 34) dX5_addSeen_34 rfl ?_
    refine x_getI (pc := 35) dX5_addSeen_35 flX5_39 (by first | assumption | rfl) rfl ?_
    first | rw [h4] | (rw [xput_ne (Or.inl (by omega)), h4]) | (rw [xput_ne (Or.inl (by omega)), xput_ne (Or.inl (by omega)), h4]) | (rw [xput_ne (Or.inl (by omega)), xput_ne (Or.inl (by omega)), xput_ne (Or.inl (by omega)), h4])
    refine x_iload_n (pc := 38) dX5_addSeen_38 rfl ?_
    refine x_iastN (pc := 39) dX5_addSeen_39 (by first | assumption | rfl) (by first | with_reducible rfl | (simp only [xlit, nI_add, pk_mul]; with_reducible rfl)) (by omega) (by decide) ?_
    refine x_aload_n (pc := 40) dX5_addSeen_40 rfl ?_
    refine x_dup (pc := 41) dX5_addSeen_41 rfl ?_
    refine x_getI (pc := 42) dX5_addSeen_42 flX5_39 (by first | assumption | rfl) rfl ?_
    first | rw [h4] | (rw [xput_ne (Or.inl (by omega)), h4]) | (rw [xput_ne (Or.inl (by omega)), xput_ne (Or.inl (by omega)), h4]) | (rw [xput_ne (Or.inl (by omega)), xput_ne (Or.inl (by omega)), xput_ne (Or.inl (by omega)), h4])
    refine x_iconstN (pc := 45) 1 dX5_addSeen_45 ic_1 ?_
    first | (guard_target =~ Wp _ _ _ _ _ (Value.int (nI _) :: Value.int (nI _) :: _) _ _ _ _; with_reducible refine x_iaddN (pc := 46) dX5_addSeen_46 ?_) | refine x_iadd (pc := 46) dX5_addSeen_46 ?_
    refine x_putI (pc := 47) dX5_addSeen_47 flX5_39 (by first | assumption | rfl) rfl rfl rfl ?_
    refine x_iconstN (pc := 50) 1 dX5_addSeen_50 ic_1 ?_
    refine x_ret (pc := 51) (v := some _) rfl (by first | rfl | decide | exact xrt_b) dX5_addSeen_51 (by decide) ?_
    refine h (by omega) _ ((((xsame.put (by omega) (by omega)).tr (xsame.put (by omega) (by omega))).tr (xsame.put (by omega) (by omega))).tr (xsame.put (by omega) (by omega))) ⟨fun j hj => ?_, fun j hj => ?_, fun j hj => ?_, ?_⟩
    · have hj2 : j < N 7 0 + 1 := by simpa [nSee] using hj
      by_cases hjn : j = N 7 0
      · subst hjn
        simp [xput, nSee, hcc, hm, ht]
      · obtain ⟨q1, q2, q3, q4, q5, q6⟩ := h1 j (by omega)
        simp [xput, nSee, hjn, q1, q2, q3, q4, q5, q6]
    · obtain ⟨q1, q2, q3⟩ := h2 j (by simpa [nSee] using hj)
      simp only [xput, nSee]
      simp [q1, q2]
      exact fun z => q3 z
    · obtain ⟨q1, q2, q3, q4⟩ := h3 j (by simpa [nSee] using hj)
      simp [xput, nSee, q1, q2, q3, q4]
    · simp [xput, nSee, h6, h7, h8, h9]; omega
  · skip
    refine x_iconstN (pc := 8) 0 dX5_addSeen_8 ic_0 ?_
    refine x_ret (pc := 9) (v := some _) rfl (by first | rfl | decide | exact xrt_b) dX5_addSeen_9 (by decide) ?_
    exact hno (by omega)
end P24
