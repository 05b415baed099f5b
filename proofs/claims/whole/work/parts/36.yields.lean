/-! ROOMS of the program: copyYields; how much a cell can yield -/
def yvF (f : Nat → Nat) (l : List XCl) (i : Nat) : Nat := (sumF (fctC f i) 1 l).toNat
def yldA (A : XA) (gg : Nat) (y : Nat → Nat) : XA := fun k j => if k = 7 ∧ 16 * gg ≤ j ∧ j < 16 * gg + 16 then y (j - 16 * gg) else A k j
/-- a list of clauses as a room's -/
def okL (l : List XCl) : Prop := l.length ≤ 10 ∧ ∀ x, x ∈ l → x.2.1 < 100 ∧ x.1 < 3 ∧ ∀ y, y ∈ x.2.2.1 → y < 6000
theorem sumF_bd {f : Nat → Nat} : ∀ (l : List XCl) (s : Int), (∀ x, x ∈ l → x.2.1 < 100) → s - 99 * l.length ≤ sumF f s l ∧ sumF f s l ≤ s + 99 * l.length := by
  intro l
  induction l with
  | nil => intro s _; simp [sumF]
  | cons x l ih =>
    intro s h
    have h1 := h x (List.mem_cons_self ..)
    obtain ⟨i1, i2⟩ := ih (s + wgtC f x) (fun y hy => h y (List.mem_cons_of_mem _ hy))
    have e : sumF f s (x :: l) = sumF f (s + wgtC f x) l := rfl
    have hw : -99 ≤ wgtC f x ∧ wgtC f x ≤ 99 := by
      unfold wgtC
      split
      · split <;> omega
      · omega
    rw [e]
    simp only [List.length_cons]
    omega
theorem bldF_bd : ∀ (l : List XCl) (b : Nat), b < 100 → (∀ x, x ∈ l → x.2.1 < 100) → bldF b l < 100 := by
  intro l
  induction l with
  | nil => intro b hb _; exact hb
  | cons x l ih =>
    intro b hb h
    have h1 := h x (List.mem_cons_self ..)
    show bldF (if x.1 = 2 then x.2.1 else b) l < 100
    refine ih _ ?_ (fun y hy => h y (List.mem_cons_of_mem _ hy))
    split <;> assumption
theorem okL_nil : okL [] := ⟨by decide, fun x hx => by cases hx⟩
theorem yvF_lt {f : Nat → Nat} {l : List XCl} (h : okL l) (i : Nat) : yvF f l i < 1000 := by
  have := sumF_bd (f := fctC f i) l 1 (fun x hx => (h.2 x hx).1)
  have h1 := h.1
  unfold yvF
  omega
theorem pR_ok {c : Nat → Nat} {n : Nat} (h : TX c n) : ∀ k p l q, p ≤ n → pR c k p = (some l, q) → q = n ∧ l.length ≤ k + 1 ∧ ∀ x, x ∈ l → x.2.1 < 100 ∧ x.1 < 3 ∧ ∀ y, y ∈ x.2.2.1 → y < 6000 := by
  intro k
  induction k with
  | zero =>
    intro p l q hp hr
    rcases hc : pC c p with ⟨_ | x, s⟩
    · rw [pR_n hc] at hr; cases hr
    · rw [pR_s hc, rst] at hr
      obtain ⟨c1, c2, c3⟩ := pC_ok h hp hc
      have hs := (h.2 s).1
      by_cases h1 : c s = 0
      · simp only [h1, if_true, Option.map, Prod.mk.injEq, Option.some.injEq] at hr
        obtain ⟨rfl, rfl⟩ := hr
        refine ⟨by have := hs.mp h1; omega, by simp, fun y hy => ?_⟩
        rw [List.mem_singleton] at hy
        subst hy
        exact (c3 y rfl).2
      · simp only [h1, if_false, Option.map] at hr
        cases hr
  | succ k ih =>
    intro p l q hp hr
    rcases hc : pC c p with ⟨_ | x, s⟩
    · rw [pR_n hc] at hr; cases hr
    · rw [pR_s hc, rst] at hr
      obtain ⟨c1, c2, c3⟩ := pC_ok h hp hc
      have hs := (h.2 s).1
      by_cases h2 : c s = 60
      · have h3 := h.lt h2 (by decide)
        simp only [h2, if_true] at hr
        rcases hq : pR c k (s + 1) with ⟨_ | l', t⟩
        · rw [hq] at hr; cases hr
        · rw [hq] at hr
          simp only [Option.map, Prod.mk.injEq, Option.some.injEq] at hr
          obtain ⟨rfl, rfl⟩ := hr
          obtain ⟨i1, i2, i3⟩ := ih (s + 1) l' t (by omega) hq
          refine ⟨i1, by simp only [List.length_cons]; omega, fun y hy => ?_⟩
          rcases List.mem_cons.mp hy with rfl | hy
          · exact (c3 y rfl).2
          · exact i3 y hy
      · simp only [h2, if_false] at hr
        by_cases h1 : c s = 0
        · simp only [h1, if_true, Option.map, Prod.mk.injEq, Option.some.injEq] at hr
          obtain ⟨rfl, rfl⟩ := hr
          refine ⟨by have := hs.mp h1; omega, by simp, fun y hy => ?_⟩
          rw [List.mem_singleton] at hy
          subst hy
          exact (c3 y rfl).2
        · simp only [h1, if_false, Option.map] at hr
          cases hr
theorem oI_max {z : Int} (h1 : -100000 < z) (h2 : z < 100000) : (if nI 0 < Int32.ofInt z then Int32.ofInt z else nI 0) = nI z.toNat := by
  have hz : (Int32.ofInt z).toInt = z := by
    rw [Int32.toInt_ofInt_of_le (by omega) (by omega)]
  by_cases h : 0 < z
  · have h3 : nI 0 < Int32.ofInt z := by rw [Int32.lt_iff_toInt_lt, hz]; exact h
    rw [if_pos h3]
    have : z = ((z.toNat : Nat) : Int) := by omega
    rw [this]; rfl
  · have h3 : ¬ nI 0 < Int32.ofInt z := by rw [Int32.lt_iff_toInt_lt, hz]; exact h
    rw [if_neg h3, show z.toNat = 0 by omega]
section P36
variable {g : XG} {d : Nat} {S : XS} {M : XM} {K : Option Value → XS → XM → Prop} {a gg : Nat} {A : XA} {w r : Int32} {f : Nat → Nat} {l : List XCl}
theorem sp_X6_copyYields (hg : gg < 6) (ha : a + 12 ≤ 41 ∨ 45 ≤ a) (hl : okL l) (hO : rdO M f l) (hc : Car a) (hR : CR a M A w r) (h : ∀ M', xsame a (a + 12) M M' → CR a M' (yldA A gg (yvF f l)) w r → K none xSF M') : Ex g (d + 1) yX6_copyYields mX6_copyYields [.ref 41, .ref (a + 8), .int (nI gg)] xSF M K := by
  obtain ⟨c0, c1, c2, c3, c4, c5, c6, c7, c8, c9, c10, c11⟩ := id hc
  have loop : ∀ m i M1, i + m = 16 → xsame a (a + 12) M M1 → CR a M1 (fun k j => if k = 7 ∧ 16 * gg ≤ j ∧ j < 16 * gg + i then yvF f l (j - 16 * gg) else A k j) w r → Wp g (d + 1) mX6_copyYields 2 [some (.ref 41), some (.ref (a + 8)), some (.int (nI gg)), some (.int (nI i))] [] xSF (0, 0) M1 K := by
    intro m
    induction m with
    | zero =>
      intro i M1 hi hs hR1
      obtain rfl : i = 16 := by omega
      refine x_iload_n (pc := 2) dX6_copyYields_2 rfl ?_
      refine x_bipushN (pc := 3) 16 dX6_copyYields_3 bp_16 ?_
      first | (guard_target =~ Wp _ _ _ _ _ (Value.int (nI _) :: Value.int (nI _) :: _) _ _ _ _; with_reducible refine x_icmp_geN (pc := 5) (tgt := 32) ?_ ?_ dX6_copyYields_5 ?_ (fun h5 => ?_) (fun h5 => ?_); (first | omega | exact b2n_31 _); (first | omega | exact b2n_31 _); decide) | refine x_icmp_ge (pc := 5) (tgt := 32) dX6_copyYields_5 (by decide) (fun h5 => ?_) (fun h5 => ?_)
      · skip
        refine x_ret (pc := 32) (v := none) rfl trivial dX6_copyYields_32 (by decide) ?_
        exact h M1 hs hR1
      · skip
        omega
    | succ m ih =>
      intro i M1 hi hs hR1
      have hb := sumF_bd (f := fctC f i) l 1 (fun x hx => (hl.2 x hx).1)
      have hl1 := hl.1
      refine x_iload_n (pc := 2) dX6_copyYields_2 rfl ?_
      refine x_bipushN (pc := 3) 16 dX6_copyYields_3 bp_16 ?_
      first | (guard_target =~ Wp _ _ _ _ _ (Value.int (nI _) :: Value.int (nI _) :: _) _ _ _ _; with_reducible refine x_icmp_geN (pc := 5) (tgt := 32) ?_ ?_ dX6_copyYields_5 ?_ (fun h5 => ?_) (fun h5 => ?_); (first | omega | exact b2n_31 _); (first | omega | exact b2n_31 _); decide) | refine x_icmp_ge (pc := 5) (tgt := 32) dX6_copyYields_5 (by decide) (fun h5 => ?_) (fun h5 => ?_)
      · skip
        omega
      · skip
        refine x_aload_n (pc := 8) dX6_copyYields_8 rfl ?_
        refine x_iload_n (pc := 9) dX6_copyYields_9 rfl ?_
        refine x_bipushN (pc := 10) 16 dX6_copyYields_10 bp_16 ?_
        first | (guard_target =~ Wp _ _ _ _ _ (Value.int (nI _) :: Value.int (nI _) :: _) _ _ _ _; with_reducible refine x_imulN (pc := 12) dX6_copyYields_12 ?_) | refine x_imul (pc := 12) dX6_copyYields_12 ?_
        refine x_iload_n (pc := 13) dX6_copyYields_13 rfl ?_
        first | (guard_target =~ Wp _ _ _ _ _ (Value.int (nI _) :: Value.int (nI _) :: _) _ _ _ _; with_reducible refine x_iaddN (pc := 14) dX6_copyYields_14 ?_) | refine x_iadd (pc := 14) dX6_copyYields_14 ?_
        refine x_iconstN (pc := 15) 0 dX6_copyYields_15 ic_0 ?_
        refine x_aload_n (pc := 16) dX6_copyYields_16 rfl ?_
        refine x_getR (pc := 17) dX6_copyYields_17 flX6_19 (by first | assumption | rfl) rfl ?_
        refine x_iload_n (pc := 20) dX6_copyYields_20 rfl ?_
        refine x_ialdN (pc := 21) dX6_copyYields_21 (by first | assumption | rfl) (by first | with_reducible rfl | (simp only [xlit, nI_add, pk_mul]; with_reducible rfl)) (by omega) (by decide) ?_
        rw [hs.1 44 (by omega), hO.2.2 i (by omega)]
        refine x_mmax (pc := 22) dX6_copyYields_22 mlX6_40 stJ9_max_7cf53 iniMath coMmax (Nat.le_of_ble_eq_true rfl) (by decide) ?_
        rw [oI_max (by omega) (by omega)]
        refine x_iastN (pc := 25) dX6_copyYields_25 (by first | assumption | rfl) (by first | with_reducible rfl | (simp only [xlit, nI_add, pk_mul]; with_reducible rfl)) (by omega) (by decide) ?_
        first | (guard_target =~ Wp _ _ _ _ (_ :: _ :: _ :: some (Value.int (nI _)) :: _) _ _ _ _ _; with_reducible refine x_iincN (pc := 26) 1 ic_1 dX6_copyYields_26 ?_ xg_3 xs_3 ?_ ?_; decide; exact (x_hp rfl)) | refine x_iincC (pc := 26) ic_1 dX6_copyYields_26 (by decide) rfl xs_3 (x_hp rfl) ?_
        refine x_goto (pc := 29) (tgt := 2) dX6_copyYields_29 (by decide) ?_
        refine ih (i + 1) _ (by omega) (hs.tr (xsame.put (by omega) (by omega))) ?_
        refine CR.cong (hR1.put 7 (by decide) (gg * 16 + i) (v := yvF f l i) (by show _ < 1000; exact yvF_lt hl i)) (fun k' hk' j hj => ?_) (fun k' hk' => ?_)
        · simp only [updA]
          by_cases hk7 : k' = 7
          · subst hk7
            by_cases hjp : j = gg * 16 + i
            · subst hjp
              rw [if_pos (by omega), if_pos (by omega), show gg * 16 + i - 16 * gg = i by omega]
            · by_cases hin : 16 * gg ≤ j ∧ j < 16 * gg + i
              · rw [if_pos (show 7 = 7 ∧ 16 * gg ≤ j ∧ j < 16 * gg + (i + 1) by omega), if_neg (show ¬ (7 = 7 ∧ j = gg * 16 + i) by omega), if_pos (show 7 = 7 ∧ 16 * gg ≤ j ∧ j < 16 * gg + i by omega)]
              · rw [if_neg (show ¬ (7 = 7 ∧ 16 * gg ≤ j ∧ j < 16 * gg + (i + 1)) by omega), if_neg (show ¬ (7 = 7 ∧ j = gg * 16 + i) by omega), if_neg (show ¬ (7 = 7 ∧ 16 * gg ≤ j ∧ j < 16 * gg + i) by omega)]
          · simp [hk7]
        · have : ¬ k' = 7 := by omega
          simp [updA, this]
  refine x_entry kX6_copyYields (Nat.le_of_ble_eq_true rfl) ?_
  show Wp g _ mX6_copyYields 0 [some (.ref 41), some (.ref (a + 8)), some (.int (nI gg)), none] [] _ _ _ _
  refine x_iconstN (pc := 0) 0 dX6_copyYields_0 ic_0 ?_
  refine x_istore_n (pc := 1) dX6_copyYields_1 (by decide) xs_3 (x_hp rfl) ?_
  refine loop 16 0 M rfl xsame.rf (CR.cong hR (fun k' hk' j hj => ?_) (fun k' hk' => ?_))
  · rw [if_neg (by omega)]
  · rw [if_neg (by omega)]
end P36
