/-! what of the MODEL calls see, by place: the present (wP), all else (wO) -/
def wP (a k : Nat) : Bool := (a == 65 && (k == 0 || k == 1 || k == 2 || k == 3 || k == 11 || k == 39 || k == 43 || k == 44)) || (decide (66 ≤ a) && decide (a ≤ 71)) || (decide (88 ≤ a) && decide (a ≤ 94))
def wI (a k : Nat) : Bool := (a == 65 && (decide (49 ≤ k) && decide (k ≤ 57))) || (decide (95 ≤ a) && decide (a ≤ 107))
def wR (a k : Nat) : Bool := (a == 65 && (k == 10 || k == 12)) || (decide (72 ≤ a) && decide (a ≤ 78))
def wT (a k : Nat) : Bool := decide (109 ≤ a)
def wA (a k : Nat) : Bool := (a == 65 && k == 71) || a == 108
def wC (a k : Nat) : Bool := (a == 65 && k == 33) || a == 80
def ksm (w : Nat → Nat → Bool) (M M' : XM) : Prop := ∀ a k, w a k = true → M'.1 a k = M.1 a k
theorem ksm.rf {w : Nat → Nat → Bool} {M : XM} : ksm w M M := fun _ _ _ => rfl
theorem ksm.tr {w : Nat → Nat → Bool} {M M1 M2 : XM} (h : ksm w M M1) (h2 : ksm w M1 M2) : ksm w M M2 := fun a k q => (h2 a k q).trans (h a k q)
theorem ksm.put {w : Nat → Nat → Bool} {M : XM} {a k : Nat} {x : Int32} (h : w a k = false) : ksm w M (xput M a k x) := fun b j q => if_neg (fun z => by rw [z.1, z.2, h] at q; cases q)
/-- all stands that calls see but for the present / also the present -/
def msm (M M' : XM) : Prop := high M M' ∧ ksm wI M M' ∧ ksm wR M M' ∧ ksm wT M M' ∧ ksm wA M M' ∧ ksm wC M M' ∧ M'.2 = M.2
def qsm (M M' : XM) : Prop := msm M M' ∧ ksm wP M M'
theorem msm.rf {M : XM} : msm M M := ⟨.rf, .rf, .rf, .rf, .rf, .rf, rfl⟩
theorem msm.tr {M M1 M2 : XM} (h : msm M M1) (h2 : msm M1 M2) : msm M M2 := ⟨h.1.tr h2.1, h.2.1.tr h2.2.1, h.2.2.1.tr h2.2.2.1, h.2.2.2.1.tr h2.2.2.2.1, h.2.2.2.2.1.tr h2.2.2.2.2.1, h.2.2.2.2.2.1.tr h2.2.2.2.2.2.1, h2.2.2.2.2.2.2.trans h.2.2.2.2.2.2⟩
theorem qsm.rf {M : XM} : qsm M M := ⟨.rf, .rf⟩
theorem qsm.tr {M M1 M2 : XM} (h : qsm M M1) (h2 : qsm M1 M2) : qsm M M2 := ⟨h.1.tr h2.1, h.2.tr h2.2⟩
def wM (a k : Nat) : Bool := decide (a < 65) || wI a k || wR a k || wT a k || wA a k || wC a k
theorem wM_s {a k : Nat} (h : wM a k = false) : 65 ≤ a ∧ wI a k = false ∧ wR a k = false ∧ wT a k = false ∧ wA a k = false ∧ wC a k = false := by
  unfold wM at h
  simp only [Bool.or_eq_false_iff, decide_eq_false_iff_not] at h
  exact ⟨by omega, h.1.1.1.1.2, h.1.1.1.2, h.1.1.2, h.1.2, h.2⟩
theorem msm.put {M : XM} {a k : Nat} {x : Int32} (h : wM a k = false) : msm M (xput M a k x) := by
  obtain ⟨h0, h1, h2, h3, h4, h5⟩ := wM_s h
  exact ⟨.put h0, .put h1, .put h2, .put h3, .put h4, .put h5, rfl⟩
theorem qsm.put {M : XM} {a k : Nat} {x : Int32} (h : (wM a k || wP a k) = false) : qsm M (xput M a k x) := by
  simp only [Bool.or_eq_false_iff] at h
  exact ⟨.put h.1, .put h.2⟩
theorem ksm.row {M M' : XM} {w : Nat → Nat → Bool} {a : Nat} (h : ksm w M M') (hw : ∀ k, w a k = true) : M'.1 a = M.1 a := funext fun k => h a k (hw k)
theorem MPq.cg {M M' : XM} {q : XQ} (h1 : MPq M q) (h : ksm wP M M') : MPq M' q := by
  unfold MPq at h1 ⊢
  rw [h 65 0 rfl, h 65 1 rfl, h 65 2 rfl, h 65 3 rfl, h 65 11 rfl, h 65 39 rfl, h 65 43 rfl, h 65 44 rfl, h.row (a := 88) (fun _ => rfl), h.row (a := 89) (fun _ => rfl), h.row (a := 90) (fun _ => rfl), h.row (a := 91) (fun _ => rfl), h.row (a := 92) (fun _ => rfl), h.row (a := 93) (fun _ => rfl), h.row (a := 94) (fun _ => rfl)]
  refine ⟨h1.1, h1.2.1, h1.2.2.1, h1.2.2.2.1, h1.2.2.2.2.1, fun k hk j hj => ?_, h1.2.2.2.2.2.2⟩
  rw [h (66 + k) j (by simp [wP]; omega)]; exact h1.2.2.2.2.2.1 k hk j hj
theorem MIq.cg {M M' : XM} {q : XQ} (h1 : MIq M q) (h : ksm wI M M') : MIq M' q := by
  unfold MIq at h1 ⊢
  rw [h 65 51 rfl, h 65 52 rfl, h 65 53 rfl, h 65 54 rfl, h 65 50 rfl, h 65 55 rfl, h 65 56 rfl, h 65 57 rfl, h.row (a := 101) (fun _ => rfl), h.row (a := 102) (fun _ => rfl), h.row (a := 103) (fun _ => rfl), h.row (a := 104) (fun _ => rfl), h.row (a := 105) (fun _ => rfl), h.row (a := 106) (fun _ => rfl), h.row (a := 107) (fun _ => rfl)]
  refine ⟨h1.1, h1.2.1, h1.2.2.1, h1.2.2.2.1, h1.2.2.2.2.1, fun k hk j hj => ?_, h1.2.2.2.2.2.2⟩
  rw [h (95 + k) j (by simp [wI]; omega)]; exact h1.2.2.2.2.2.1 k hk j hj
theorem MIm.cg {M M' : XM} {o : Option XQ} (h1 : MIm M o) (h : ksm wI M M') : MIm M' o := by
  cases o with
  | none => exact (h 65 49 rfl).trans h1
  | some q => exact ⟨(h 65 49 rfl).trans h1.1, h1.2.cg h⟩
theorem MRm.cg {M M' : XM} {tx : Nat → Nat → Nat} {ln : Nat → Nat} {made : Nat} (h3 : MRm M tx ln made) (h : ksm wR M M') : MRm M' tx ln made := by
  unfold MRm MCl at h3 ⊢
  rw [h 65 10 rfl, h 65 12 rfl, h.row (a := 72) (fun _ => rfl), h.row (a := 73) (fun _ => rfl), h.row (a := 74) (fun _ => rfl), h.row (a := 75) (fun _ => rfl), h.row (a := 76) (fun _ => rfl), h.row (a := 77) (fun _ => rfl), h.row (a := 78) (fun _ => rfl)]
  exact h3
theorem MTr.cg {M M' : XM} {l : List Nat} (h3 : MTr M l) (h : ksm wA M M') : MTr M' l := by
  unfold MTr at h3 ⊢
  rw [h 65 71 rfl, h.row (a := 108) (fun _ => rfl)]
  exact h3
theorem MLt.cg {M M' : XM} (h3 : MLt M) (h : ksm wC M M') : MLt M' := by
  unfold MLt at h3 ⊢
  rw [h.row (a := 80) (fun _ => rfl)]
  exact h3
/-- the present part is new -/
theorem MC9.up {M M' : XM} {s : XSt} {q : XQ} (h : MC9 M s) (hs : msm M M') (hq : MPq M' q) : MC9 M' (q, s.2) := by
  obtain ⟨h1, h2, h3, h4, h5, h6, h7⟩ := h
  obtain ⟨s0, s1, s2, s3, s4, s5, s6⟩ := hs
  exact ⟨hq, h2.cg s1, h3.cg s2, h4.eqs (s3.row (fun _ => rfl)) (s3.row (fun _ => rfl)) (by rw [s6]), h5.cg s4, (s5 65 33 rfl).trans h6, h7.cg s5⟩
theorem MC9.st {M M' : XM} {s : XSt} (h : MC9 M s) (hs : qsm M M') : MC9 M' s := h.up hs.1 (h.1.cg hs.2)
/-! what the present holds after a change -/
theorem MPq.cgA {M : XM} {q : XQ} {B : XA} (h : MPq M q) (h8 : B 8 0 = q.1 8 0) (h10 : B 10 0 = q.1 10 0) (h11 : B 11 0 = q.1 11 0) (hk : ∀ k, k < 6 → ∀ j, j < clen k → B k j = q.1 k j) : MPq M (B, q.2) := by
  unfold MPq at h ⊢
  refine ⟨h.1.trans (congrArg nI h8.symm), h.2.1, h.2.2.1.trans (congrArg nI h10.symm), h.2.2.2.1.trans (congrArg nI h11.symm), h.2.2.2.2.1, fun k hk1 j hj => ?_, h.2.2.2.2.2.2⟩
  rw [show (B, q.2).1 k j = q.1 k j from hk k hk1 j hj]; exact h.2.2.2.2.2.1 k hk1 j hj
theorem MPq.row {M : XM} {q : XQ} (h : MPq M q) (k j v : Nat) (hk : k < 6) : MPq (xput M (66 + k) j (nI v)) (updA q.1 k j v, q.2) := by
  have e : ∀ a, a ≠ 66 + k → (xput M (66 + k) j (nI v)).1 a = M.1 a := fun a ha => funext fun i => if_neg (by omega)
  unfold MPq at h ⊢
  rw [e 65 (by omega), e 88 (by omega), e 89 (by omega), e 90 (by omega), e 91 (by omega), e 92 (by omega), e 93 (by omega), e 94 (by omega)]
  have eA : ∀ k', 6 ≤ k' → (updA q.1 k j v) k' 0 = q.1 k' 0 := fun k' hk' => if_neg (by omega)
  refine ⟨h.1.trans (congrArg nI (eA 8 (by decide)).symm), h.2.1, h.2.2.1.trans (congrArg nI (eA 10 (by decide)).symm), h.2.2.2.1.trans (congrArg nI (eA 11 (by decide)).symm), h.2.2.2.2.1, fun k' hk' j' hj' => ?_, h.2.2.2.2.2.2⟩
  have h0 := h.2.2.2.2.2.1 k' hk' j' hj'
  show (if 66 + k' = 66 + k ∧ j' = j then nI v else M.1 (66 + k') j') = nI (if k' = k ∧ j' = j then v else q.1 k' j')
  by_cases hc : k' = k ∧ j' = j
  · rw [if_pos (by omega), if_pos hc]
  · rw [if_neg (by omega), if_neg hc, h0]
/-- one number of the present changes -/
theorem MPq.num {M : XM} {q q' : XQ} (h : MPq M q) (i : Nat) (x : Int32) (hi : i < 64) (h0 : (xput M 65 i x).1 65 0 = nI (q'.1 8 0)) (h1 : (xput M 65 i x).1 65 1 = nI q'.2.1) (h2 : (xput M 65 i x).1 65 2 = nI (q'.1 10 0)) (h3 : (xput M 65 i x).1 65 3 = nI (q'.1 11 0)) (h4 : (xput M 65 i x).1 65 11 = q'.2.2.1)
    (hN : q'.2.2.2.1 = q.2.2.2.1) (hr : ∀ k, k < 6 → ∀ j, j < clen k → q'.1 k j = q.1 k j) (hn : i ≠ 39 ∧ i ≠ 43 ∧ i ≠ 44) : MPq (xput M 65 i x) q' := by
  have e : ∀ a, a ≠ 65 → (xput M 65 i x).1 a = M.1 a := fun a ha => funext fun j => if_neg (by omega)
  have e5 : ∀ j, j ≠ i → (xput M 65 i x).1 65 j = M.1 65 j := fun j hj => if_neg (by omega)
  unfold MPq at h ⊢
  rw [h0, h1, h2, h3, h4, hN, e5 39 (by omega), e5 43 (by omega), e5 44 (by omega), e 88 (by omega), e 89 (by omega), e 90 (by omega), e 91 (by omega), e 92 (by omega), e 93 (by omega), e 94 (by omega)]
  refine ⟨rfl, rfl, rfl, rfl, rfl, fun k hk j hj => ?_, h.2.2.2.2.2.2⟩
  rw [e (66 + k) (by omega), hr k hk j hj]; exact h.2.2.2.2.2.1 k hk j hj
/-- the rooms are new -/
theorem MC9.upR {M M' : XM} {s : XSt} {tx : Nat → Nat → Nat} {ln : Nat → Nat} {made : Nat} (h : MC9 M s) (s0 : ksm wP M M') (s1 : ksm wI M M') (s3 : ksm wT M M') (s4 : ksm wA M M') (s5 : ksm wC M M') (s6 : M'.2 = M.2) (hR : MRm M' tx ln made) : MC9 M' (s.1, s.2.1, tx, ln, made, s.2.2.2.2.2) := by
  obtain ⟨h1, h2, h3, h4, h5, h6, h7⟩ := h
  exact ⟨h1.cg s0, h2.cg s1, hR, h4.eqs (s3.row (fun _ => rfl)) (s3.row (fun _ => rfl)) (by rw [s6]), h5.cg s4, (s5 65 33 rfl).trans h6, h7.cg s5⟩
/-- the trace is new -/
theorem MC9.upA {M M' : XM} {s : XSt} {l : List Nat} (h : MC9 M s) (s0 : ksm wP M M') (s1 : ksm wI M M') (s2 : ksm wR M M') (s3 : ksm wT M M') (s5 : ksm wC M M') (s6 : M'.2 = M.2) (hR : MTr M' l) : MC9 M' (trSt s l) := by
  obtain ⟨h1, h2, h3, h4, h5, h6, h7⟩ := h
  exact ⟨h1.cg s0, h2.cg s1, h3.cg s2, h4.eqs (s3.row (fun _ => rfl)) (s3.row (fun _ => rfl)) (by rw [s6]), hR, (s5 65 33 rfl).trans h6, h7.cg s5⟩
/-- the tapes are new -/
theorem MC9.upT {M M' : XM} {s : XSt} {T : XA} {I : Nat → Int64} (h : MC9 M s) (s0 : ksm wP M M') (s1 : ksm wI M M') (s2 : ksm wR M M') (s3 : ksm wA M M') (s5 : ksm wC M M') (hR : TR 109 111 M' T I) : MC9 M' (tpSt s T I) := by
  obtain ⟨h1, h2, h3, h4, h5, h6, h7⟩ := h
  exact ⟨h1.cg s0, h2.cg s1, h3.cg s2, hR, h5.cg s3, (s5 65 33 rfl).trans h6, h7.cg s5⟩
/-- the image is new -/
theorem MC9.upI {M M' : XM} {s : XSt} {o : Option XQ} (h : MC9 M s) (s0 : ksm wP M M') (s1 : ksm wR M M') (s2 : ksm wT M M') (s3 : ksm wA M M') (s5 : ksm wC M M') (s6 : M'.2 = M.2) (hI : MIm M' o) : MC9 M' (s.1, o, s.2.2) := by
  obtain ⟨h1, h2, h3, h4, h5, h6, h7⟩ := h
  exact ⟨h1.cg s0, hI, h3.cg s1, h4.eqs (s2.row (fun _ => rfl)) (s2.row (fun _ => rfl)) (by rw [s6]), h5.cg s3, (s5 65 33 rfl).trans h6, h7.cg s5⟩
theorem MRm.feed {M : XM} {tx : Nat → Nat → Nat} {ln : Nat → Nat} {made : Nat} (h : MRm M tx ln made) (v : Nat) : MRm (xput (xput M 72 (ln made) (nI v)) 65 12 (nI (ln made + 1))) (up2 tx made (ln made) v) (up1 ln made (ln made + 1)) made := by
  obtain ⟨h1, h2, h3, h4⟩ := h
  have e : ∀ a, a ≠ 65 → a ≠ 72 → (xput (xput M 72 (ln made) (nI v)) 65 12 (nI (ln made + 1))).1 a = M.1 a := fun a q1 q2 => funext fun j => (if_neg (by omega)).trans (if_neg (by omega))
  refine ⟨h1, ?_, fun j hj => ?_, fun b hb => ?_⟩
  · show nI _ = nI (up1 ln made (ln made + 1) made)
    simp [up1]
  · have hj' : j < ln made + 1 := by simpa [up1] using hj
    show (if (72 : Nat) = 65 ∧ j = 12 then nI (ln made + 1) else if (72 : Nat) = 72 ∧ j = ln made then nI v else M.1 72 j) = nI (up2 tx made (ln made) v made j)
    rw [if_neg (by omega)]
    by_cases q : j = ln made
    · simp [up2, q]
    · rw [if_neg (by omega), h3 j (by omega)]; simp [up2, q]
  · have ne : b ≠ made := by omega
    rw [show up1 ln made (ln made + 1) b = ln b from if_neg ne, show up2 tx made (ln made) v b = tx b from funext fun k => if_neg (fun q => ne q.1)]
    unfold MCl
    rw [e 73 (by decide) (by decide), e 74 (by decide) (by decide), e 75 (by decide) (by decide), e 76 (by decide) (by decide), e 77 (by decide) (by decide), e 78 (by decide) (by decide)]
    exact h4 b hb
