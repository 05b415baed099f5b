/-! MORE RULES: natural numbers behind ints; stores by place; Math.min and max -/
section XR5
variable {g : XG} {d : Nat} {m : XMe} {pc idx : Nat} {ls : XL} {st : List Value} {S : XS} {B : Nat × Nat} {M : XM} {K : Option Value → XS → XM → Prop}
theorem x_mmax {x y : Int32} (hd : decode m.2.1 pc = .ok (.invokestatic idx, 3)) (hl : .methodLink m.1 idx Lib.Math.max.name ∈ xG) (hst : .static Lib.Math.max.name ∈ xG) (hini : .initialized "java/lang/Math" ∈ xG) (hco : .code Lib.Math.max.name Lib.Math.max.code 2 (some .int) ∈ xG) (hw : (st.map fun v => v.category).sum ≤ 8) (hB : B.1 ≤ m.2.2.2.2.1 ∧ B.2 ≤ m.2.2.2.2.2)
    (kk : Wp g (d + 1) m (pc + 3) ls (.int (if x < y then y else x) :: st) S B M K) : Wp g (d + 1) m pc ls (.int y :: .int x :: st) S B M K := by
  intro p e R s mi args below meth c H locs la Q C hR hH hl0 hret
  have C' := id C
  obtain ⟨hx, hb, hml, hown, hts, hK, hO, -⟩ := C'
  have h8 := x_rest (g := g) hw
  have hr1 := hR.1
  have hr2 := hR.2.1
  exact va_mmax hx hb (by rw [hml]; exact hl0.1.symm) hown (hts _ hl) (hts _ hst) (hts _ hini) (hts _ hco) (by omega) (by omega) (Nat.le_trans hB.1 hR.2.2.1) (Nat.le_trans hB.2 hR.2.2.2) hd (kk p e R s mi args below meth c H locs la Q C hR hH hl0 hret)
theorem x_mmin {x y : Int32} (hd : decode m.2.1 pc = .ok (.invokestatic idx, 3)) (hl : .methodLink m.1 idx Lib.Math.min.name ∈ xG) (hst : .static Lib.Math.min.name ∈ xG) (hini : .initialized "java/lang/Math" ∈ xG) (hco : .code Lib.Math.min.name Lib.Math.min.code 2 (some .int) ∈ xG) (hw : (st.map fun v => v.category).sum ≤ 8) (hB : B.1 ≤ m.2.2.2.2.1 ∧ B.2 ≤ m.2.2.2.2.2)
    (kk : Wp g (d + 1) m (pc + 3) ls (.int (if y < x then y else x) :: st) S B M K) : Wp g (d + 1) m pc ls (.int y :: .int x :: st) S B M K := by
  intro p e R s mi args below meth c H locs la Q C hR hH hl0 hret
  have C' := id C
  obtain ⟨hx, hb, hml, hown, hts, hK, hO, -⟩ := C'
  have h8 := x_rest (g := g) hw
  have hr1 := hR.1
  have hr2 := hR.2.1
  exact va_mmin hx hb (by rw [hml]; exact hl0.1.symm) hown (hts _ hl) (hts _ hst) (hts _ hini) (hts _ hco) (by omega) (by omega) (Nat.le_trans hB.1 hR.2.2.1) (Nat.le_trans hB.2 hR.2.2.2) hd (kk p e R s mi args below meth c H locs la Q C hR hH hl0 hret)
def xnl : Option Value → Bool
  | some (.long _) => false
  | some (.double _) => false
  | _ => true
theorem x_hp {i : Nat} (h : xnl (ls.getD (i - 1) none) = true) : ∀ j w, j + 1 = i → ls[j]? = some (some w) → w.category ≠ 2 := by
  intro j w hj hw
  have hji : i - 1 = j := by omega
  rw [hji, List.getD_eq_getElem?_getD, hw] at h
  cases w <;> simp_all [xnl, Value.category]
theorem x_hp0 : ∀ j (w : Value), j + 1 = 0 → ls[j]? = some (some w) → w.category ≠ 2 := by
  intro j w hj; omega
/-- behind a call -/
theorem x_cv {v : Value} {n1 n2 : Nat} (h1 : n1 = 0) (h2 : n2 = 0) (k : Wp g d m pc ls (v :: st) S (0, 0) M K) : Wp g d m pc ls ((some v).toList ++ st) S (n1, n2) M K := by subst h1; subst h2; exact k
theorem x_cn {n1 n2 : Nat} (h1 : n1 = 0) (h2 : n2 = 0) (k : Wp g d m pc ls st S (0, 0) M K) : Wp g d m pc ls ((none : Option Value).toList ++ st) S (n1, n2) M K := by subst h1; subst h2; exact k
theorem x_cw {v : Option Value} {l' : List Value} (h : v.toList ++ st = l') (k : Wp g d m pc ls l' S B M K) : Wp g d m pc ls (v.toList ++ st) S B M K := by rw [h]; exact k
/-- a place of a row, by a natural number -/
theorem x_ialdN {a n j : Nat} {i : Int32} (hd : decode m.2.1 pc = .ok (.iaload, 1)) (ha : S[a]? = some (.inl (0, n))) (hi : i = nI j) (hj : j < n) (hn : n < 2 ^ 31) (kk : Wp g d m (pc + 1) ls (.int (M.1 a j) :: st) S B M K) : Wp g d m pc ls (.int i :: .ref a :: st) S B M K := by
  subst hi
  refine x_iald hd ha (vp_in_nI hj hn) ?_
  rw [nI_clamp (by omega)]; exact kk
theorem x_baldN {a n j : Nat} {i : Int32} (hd : decode m.2.1 pc = .ok (.baload, 1)) (ha : S[a]? = some (.inl (1, n))) (hi : i = nI j) (hj : j < n) (hn : n < 2 ^ 31) (kk : Wp g d m (pc + 1) ls (.int (M.1 a j) :: st) S B M K) : Wp g d m pc ls (.int i :: .ref a :: st) S B M K := by
  subst hi
  refine x_bald hd ha (vp_in_nI hj hn) ?_
  rw [nI_clamp (by omega)]; exact kk
theorem x_zaldN {a n j : Nat} {i : Int32} (hd : decode m.2.1 pc = .ok (.baload, 1)) (ha : S[a]? = some (.inl (2, n))) (hi : i = nI j) (hj : j < n) (hn : n < 2 ^ 31) (kk : Wp g d m (pc + 1) ls (.int (M.1 a j) :: st) S B M K) : Wp g d m pc ls (.int i :: .ref a :: st) S B M K := by
  subst hi
  refine x_zald hd ha (vp_in_nI hj hn) ?_
  rw [nI_clamp (by omega)]; exact kk
theorem x_laldN {a n j : Nat} {i : Int32} (hd : decode m.2.1 pc = .ok (.laload, 1)) (ha : S[a]? = some (.inl (3, n))) (hi : i = nI j) (hj : j < n) (hn : n < 2 ^ 31) (kk : Wp g d m (pc + 1) ls (.long (M.2 a j) :: st) S B M K) : Wp g d m pc ls (.int i :: .ref a :: st) S B M K := by
  subst hi
  refine x_lald hd ha (vp_in_nI hj hn) ?_
  rw [nI_clamp (by omega)]; exact kk
theorem x_tiN {k j : Nat} {i : Int32} (hk : k < 2) (hd : decode m.2.1 pc = .ok (.iaload, 1)) (hi : i = nI j) (hj : j < xtn k) (kk : Wp g d m (pc + 1) ls (.int (xtv k j) :: st) S B M K) : Wp g d m pc ls (.int i :: .ref (1000 + k) :: st) S B M K := by
  subst hi
  have h31 : xtn k < 2 ^ 31 := by unfold xtn; split <;> decide
  refine x_ti hk hd (vp_in_nI hj h31) (v := xtv k j) ?_ kk
  rw [nI_clamp (by omega)]
theorem x_iastN {a n j : Nat} {i x : Int32} (hd : decode m.2.1 pc = .ok (.iastore, 1)) (ha : S[a]? = some (.inl (0, n))) (hi : i = nI j) (hj : j < n) (hn : n < 2 ^ 31) (kk : Wp g d m (pc + 1) ls st S B (xput M a j x) K) : Wp g d m pc ls (.int x :: .int i :: .ref a :: st) S B M K := by
  subst hi
  refine x_iast hd ha (vp_in_nI hj hn) ?_
  rw [nI_clamp (by omega)]; exact kk
theorem x_bastN {a n j : Nat} {i x y : Int32} (hd : decode m.2.1 pc = .ok (.bastore, 1)) (ha : S[a]? = some (.inl (1, n))) (hi : i = nI j) (hj : j < n) (hn : n < 2 ^ 31) (hy : narrow .byte (.int x) = .int y) (kk : Wp g d m (pc + 1) ls st S B (xput M a j y) K) : Wp g d m pc ls (.int x :: .int i :: .ref a :: st) S B M K := by
  subst hi
  refine x_bast hd ha (vp_in_nI hj hn) hy ?_
  rw [nI_clamp (by omega)]; exact kk
theorem x_zastN {a n j : Nat} {i x y : Int32} (hd : decode m.2.1 pc = .ok (.bastore, 1)) (ha : S[a]? = some (.inl (2, n))) (hi : i = nI j) (hj : j < n) (hn : n < 2 ^ 31) (hy : narrow .boolean (.int x) = .int y) (kk : Wp g d m (pc + 1) ls st S B (xput M a j y) K) : Wp g d m pc ls (.int x :: .int i :: .ref a :: st) S B M K := by
  subst hi
  refine x_zast hd ha (vp_in_nI hj hn) hy ?_
  rw [nI_clamp (by omega)]; exact kk
theorem x_lastN {a n j : Nat} {i : Int32} {x : Int64} (hd : decode m.2.1 pc = .ok (.lastore, 1)) (ha : S[a]? = some (.inl (3, n))) (hi : i = nI j) (hj : j < n) (hn : n < 2 ^ 31) (kk : Wp g d m (pc + 1) ls st S B (xputL M a j x) K) : Wp g d m pc ls (.long x :: .int i :: .ref a :: st) S B M K := by
  subst hi
  refine x_last hd ha (vp_in_nI hj hn) ?_
  rw [nI_clamp (by omega)]; exact kk
end XR5
theorem xlit (n : Nat) : (no_index (OfNat.ofNat n) : Int32) = nI n := rfl
theorem xs_0 {l0 v : Option Value} {r : XL} : (v :: r) = (l0 :: r).set 0 v := rfl
theorem xs_1 {l0 l1 v : Option Value} {r : XL} : (l0 :: v :: r) = (l0 :: l1 :: r).set 1 v := rfl
theorem xs_2 {l0 l1 l2 v : Option Value} {r : XL} : (l0 :: l1 :: v :: r) = (l0 :: l1 :: l2 :: r).set 2 v := rfl
theorem xs_3 {l0 l1 l2 l3 v : Option Value} {r : XL} : (l0 :: l1 :: l2 :: v :: r) = (l0 :: l1 :: l2 :: l3 :: r).set 3 v := rfl
theorem xs_4 {l0 l1 l2 l3 l4 v : Option Value} {r : XL} : (l0 :: l1 :: l2 :: l3 :: v :: r) = (l0 :: l1 :: l2 :: l3 :: l4 :: r).set 4 v := rfl
theorem xs_5 {l0 l1 l2 l3 l4 l5 v : Option Value} {r : XL} : (l0 :: l1 :: l2 :: l3 :: l4 :: v :: r) = (l0 :: l1 :: l2 :: l3 :: l4 :: l5 :: r).set 5 v := rfl
theorem xs_6 {l0 l1 l2 l3 l4 l5 l6 v : Option Value} {r : XL} : (l0 :: l1 :: l2 :: l3 :: l4 :: l5 :: v :: r) = (l0 :: l1 :: l2 :: l3 :: l4 :: l5 :: l6 :: r).set 6 v := rfl
theorem xs_7 {l0 l1 l2 l3 l4 l5 l6 l7 v : Option Value} {r : XL} : (l0 :: l1 :: l2 :: l3 :: l4 :: l5 :: l6 :: v :: r) = (l0 :: l1 :: l2 :: l3 :: l4 :: l5 :: l6 :: l7 :: r).set 7 v := rfl
theorem xs_8 {l0 l1 l2 l3 l4 l5 l6 l7 l8 v : Option Value} {r : XL} : (l0 :: l1 :: l2 :: l3 :: l4 :: l5 :: l6 :: l7 :: v :: r) = (l0 :: l1 :: l2 :: l3 :: l4 :: l5 :: l6 :: l7 :: l8 :: r).set 8 v := rfl
theorem xs_9 {l0 l1 l2 l3 l4 l5 l6 l7 l8 l9 v : Option Value} {r : XL} : (l0 :: l1 :: l2 :: l3 :: l4 :: l5 :: l6 :: l7 :: l8 :: v :: r) = (l0 :: l1 :: l2 :: l3 :: l4 :: l5 :: l6 :: l7 :: l8 :: l9 :: r).set 9 v := rfl
theorem xs_10 {l0 l1 l2 l3 l4 l5 l6 l7 l8 l9 l10 v : Option Value} {r : XL} : (l0 :: l1 :: l2 :: l3 :: l4 :: l5 :: l6 :: l7 :: l8 :: l9 :: v :: r) = (l0 :: l1 :: l2 :: l3 :: l4 :: l5 :: l6 :: l7 :: l8 :: l9 :: l10 :: r).set 10 v := rfl
theorem xs_11 {l0 l1 l2 l3 l4 l5 l6 l7 l8 l9 l10 l11 v : Option Value} {r : XL} : (l0 :: l1 :: l2 :: l3 :: l4 :: l5 :: l6 :: l7 :: l8 :: l9 :: l10 :: v :: r) = (l0 :: l1 :: l2 :: l3 :: l4 :: l5 :: l6 :: l7 :: l8 :: l9 :: l10 :: l11 :: r).set 11 v := rfl
theorem xs_12 {l0 l1 l2 l3 l4 l5 l6 l7 l8 l9 l10 l11 l12 v : Option Value} {r : XL} : (l0 :: l1 :: l2 :: l3 :: l4 :: l5 :: l6 :: l7 :: l8 :: l9 :: l10 :: l11 :: v :: r) = (l0 :: l1 :: l2 :: l3 :: l4 :: l5 :: l6 :: l7 :: l8 :: l9 :: l10 :: l11 :: l12 :: r).set 12 v := rfl
theorem xs_13 {l0 l1 l2 l3 l4 l5 l6 l7 l8 l9 l10 l11 l12 l13 v : Option Value} {r : XL} : (l0 :: l1 :: l2 :: l3 :: l4 :: l5 :: l6 :: l7 :: l8 :: l9 :: l10 :: l11 :: l12 :: v :: r) = (l0 :: l1 :: l2 :: l3 :: l4 :: l5 :: l6 :: l7 :: l8 :: l9 :: l10 :: l11 :: l12 :: l13 :: r).set 13 v := rfl
