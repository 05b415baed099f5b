/-! the MODEL: what it holds of a state of calls -/
def tokI (k : Nat) : Int32 := match k with
  | 0 => -33
  | 1 => -38
  | 2 => -124
  | n + 3 => nI n
/-- present: the numbers and rows that calls show -/
def MPq (M : XM) (q : XQ) : Prop := M.1 65 0 = nI (q.1 8 0) ∧ M.1 65 1 = nI q.2.1 ∧ M.1 65 2 = nI (q.1 10 0) ∧ M.1 65 3 = nI (q.1 11 0) ∧ M.1 65 11 = q.2.2.1 ∧
  (∀ k, k < 6 → ∀ j, j < clen k → M.1 (66 + k) j = nI (q.1 k j)) ∧
  (M.1 65 39 = nI (q.2.2.2.1 7 0) ∧ ∀ j, j < q.2.2.2.1 7 0 → M.1 88 j = nI (q.2.2.2.1 0 j) ∧ M.1 89 j = nI (q.2.2.2.1 1 j) ∧ M.1 90 j = nI (q.2.2.2.1 2 j)) ∧
  (M.1 65 43 = nI (q.2.2.2.1 8 0) ∧ ∀ j, j < q.2.2.2.1 8 0 → M.1 91 j = nI (q.2.2.2.1 3 j) ∧ M.1 92 j = nI (q.2.2.2.1 4 j)) ∧
  (M.1 65 44 = nI (q.2.2.2.1 9 0) ∧ ∀ j, j < q.2.2.2.1 9 0 → M.1 93 j = nI (q.2.2.2.1 5 j) ∧ M.1 94 j = nI (q.2.2.2.1 6 j))
/-- the image -/
def MIq (M : XM) (q : XQ) : Prop := M.1 65 51 = nI (q.1 8 0) ∧ M.1 65 52 = nI q.2.1 ∧ M.1 65 53 = nI (q.1 10 0) ∧ M.1 65 54 = nI (q.1 11 0) ∧ M.1 65 50 = q.2.2.1 ∧
  (∀ k, k < 6 → ∀ j, j < clen k → M.1 (95 + k) j = nI (q.1 k j)) ∧
  (M.1 65 55 = nI (q.2.2.2.1 7 0) ∧ ∀ j, j < q.2.2.2.1 7 0 → M.1 101 j = nI (q.2.2.2.1 0 j) ∧ M.1 102 j = nI (q.2.2.2.1 1 j) ∧ M.1 103 j = nI (q.2.2.2.1 2 j)) ∧
  (M.1 65 56 = nI (q.2.2.2.1 8 0) ∧ ∀ j, j < q.2.2.2.1 8 0 → M.1 104 j = nI (q.2.2.2.1 3 j) ∧ M.1 105 j = nI (q.2.2.2.1 4 j)) ∧
  (M.1 65 57 = nI (q.2.2.2.1 9 0) ∧ ∀ j, j < q.2.2.2.1 9 0 → M.1 106 j = nI (q.2.2.2.1 5 j) ∧ M.1 107 j = nI (q.2.2.2.1 6 j))
def MIm (M : XM) (o : Option XQ) : Prop := match o with
  | none => M.1 65 49 = nI 0
  | some q => M.1 65 49 = nI 1 ∧ MIq M q
/-- one clause as kept in place i of the clauses, its signs in room b's hundred -/
def MCl (M : XM) (b i : Nat) (x : XCl) : Prop := M.1 74 i = nI x.1 ∧ M.1 75 i = nI x.2.1 ∧ (x.1 < 2 → ∃ f, 100 * b ≤ f ∧ f + x.2.2.1.length ≤ 100 * b + 100 ∧ M.1 76 i = nI f ∧ M.1 77 i = nI (f + x.2.2.1.length) ∧ ∀ k, k < x.2.2.1.length → M.1 78 (f + k) = tokI (x.2.2.1.getD k 0))
def MRm (M : XM) (tx : Nat → Nat → Nat) (ln : Nat → Nat) (made : Nat) : Prop :=
  M.1 65 10 = nI made ∧ M.1 65 12 = nI (ln made) ∧ (∀ j, j < ln made → M.1 72 j = nI (tx made j)) ∧
  ∀ b, b < made → ∀ L q, pR (chT (ln b) (tx b)) 9 0 = (some L, q) → M.1 73 b = nI L.length ∧ ∀ i, i < L.length → ∀ x, L[i]? = some x → MCl M b (10 * b + i) x
def MTr (M : XM) (l : List Nat) : Prop := M.1 65 71 = nI l.length ∧ ∀ j, j < 20 → j < l.length → M.1 108 j = nI (l.getD j 0)
def MLt (M : XM) : Prop := ∀ j, j < 12 → M.1 80 j = nI (([115, 111, 102, 116, 104, 97, 114, 100, 98, 97, 108, 100] : List Nat).getD j 0)
def MC9 (M : XM) (s : XSt) : Prop := MPq M s.1 ∧ MIm M s.2.1 ∧ MRm M s.2.2.1 s.2.2.2.1 s.2.2.2.2.1 ∧ TR 109 111 M s.2.2.2.2.2.1 s.2.2.2.2.2.2.1 ∧ MTr M s.2.2.2.2.2.2.2 ∧ M.1 65 33 = nI 9999 ∧ MLt M
/-- what is below stands -/
def high (M M' : XM) : Prop := (∀ a, a < 65 → M'.1 a = M.1 a) ∧ ∀ a, a < 65 → M'.2 a = M.2 a
theorem high.rf {M : XM} : high M M := ⟨fun _ _ => rfl, fun _ _ => rfl⟩
theorem high.tr {M M1 M2 : XM} (h : high M M1) (h2 : high M1 M2) : high M M2 := ⟨fun a k => (h2.1 a k).trans (h.1 a k), fun a k => (h2.2 a k).trans (h.2 a k)⟩
theorem high.put {M : XM} {a k : Nat} {x : Int32} (h : 65 ≤ a) : high M (xput M a k x) := ⟨fun b hb => funext fun j => if_neg (by omega), fun _ _ => rfl⟩
/-- a call of the program leaves the model alone, and the other way round -/
theorem MC9.low {M M' : XM} {s : XSt} (h : MC9 M s) (hs : low M M') : MC9 M' s := by
  have e : ∀ a, 65 ≤ a → M'.1 a = M.1 a := hs.1
  obtain ⟨h1, h2, h3, h4, h5, h6, h7⟩ := h
  refine ⟨?_, ?_, ?_, h4.eqs (e _ (by decide)) (e _ (by decide)) (hs.2 _ (by decide)), ?_, by rw [e 65 (by decide)]; exact h6, ?_⟩
  · unfold MPq at h1 ⊢
    rw [e 65 (by decide), e 88 (by decide), e 89 (by decide), e 90 (by decide), e 91 (by decide), e 92 (by decide), e 93 (by decide), e 94 (by decide)]
    refine ⟨h1.1, h1.2.1, h1.2.2.1, h1.2.2.2.1, h1.2.2.2.2.1, fun k hk j hj => ?_, h1.2.2.2.2.2.2⟩
    rw [e (66 + k) (by omega)]; exact h1.2.2.2.2.2.1 k hk j hj
  · revert h2
    cases s.2.1 with
    | none => exact fun h2 => (show M'.1 65 49 = nI 0 by rw [e 65 (by decide)]; exact h2)
    | some q =>
      intro h2
      refine ⟨by rw [e 65 (by decide)]; exact h2.1, ?_⟩
      have h1 := h2.2
      unfold MIq at h1 ⊢
      rw [e 65 (by decide), e 101 (by decide), e 102 (by decide), e 103 (by decide), e 104 (by decide), e 105 (by decide), e 106 (by decide), e 107 (by decide)]
      refine ⟨h1.1, h1.2.1, h1.2.2.1, h1.2.2.2.1, h1.2.2.2.2.1, fun k hk j hj => ?_, h1.2.2.2.2.2.2⟩
      rw [e (95 + k) (by omega)]; exact h1.2.2.2.2.2.1 k hk j hj
  · unfold MRm MCl at h3 ⊢
    rw [e 65 (by decide), e 72 (by decide), e 73 (by decide), e 74 (by decide), e 75 (by decide), e 76 (by decide), e 77 (by decide), e 78 (by decide)]
    exact h3
  · unfold MTr at h5 ⊢
    rw [e 65 (by decide), e 108 (by decide)]
    exact h5
  · unfold MLt at h7 ⊢
    rw [e 80 (by decide)]
    exact h7
