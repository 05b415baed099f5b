/-! A TEXT: what is read of it, purely. c p: the sign at p plus one, 0 behind the end -/
abbrev XP : Type := List Nat × ((Nat → Nat) → Bool)
def isD (x : Nat) : Bool := decide (49 ≤ x ∧ x ≤ 58)
theorem isD_iff {x : Nat} : isD x = true ↔ 49 ≤ x ∧ x ≤ 58 := decide_eq_true_iff
def numP (c : Nat → Nat) (p : Nat) : Option (Nat × Nat) := if isD (c p) then (if isD (c (p + 1)) then some (10 * (c p - 49) + (c (p + 1) - 49), p + 2) else some (c p - 49, p + 1)) else none
def wrdP (c : Nat → Nat) : List Nat → Nat → Bool × Nat
  | [], p => (true, p)
  | x :: l, p => if c p = x then wrdP c l (p + 1) else (false, p)
def fldP (x : Nat) : Nat := if x = 100 then 0 else if x = 115 then 1 else if x = 121 then 2 else if x = 104 then 3 else if x = 108 then 4 else if x = 119 then 5 else 6
def tstP (a m v : Nat) : Bool := if m = 0 then decide (a < v) else if m = 1 then decide (a = v) else decide (v < a)
def pT (c : Nat → Nat) (p : Nat) : Option XP × Nat :=
  if fldP (c p) = 6 then (none, p) else if 61 ≤ c (p + 1) ∧ c (p + 1) ≤ 63 then (match numP c (p + 2) with
    | some (v, q) => (some ([1000 * fldP (c p) + 100 * (c (p + 1) - 61) + v + 3], fun f => tstP (f (fldP (c p))) (c (p + 1) - 61) v), q)
    | none => (none, p + 2)) else (none, p + 1)
def cA : Option XP → XP → XP
  | none, e => e
  | some a, e => (a.1 ++ (e.1 ++ [1]), fun f => a.2 f && e.2 f)
def cO : Option XP → XP → XP
  | none, e => e
  | some a, e => (a.1 ++ (e.1 ++ [2]), fun f => a.2 f || e.2 f)
def lE (c : Nat → Nat) (F : Nat → Option XP × Nat) : Nat → Option XP → Option XP → Nat → Option XP × Nat
  | 0, _, _, p => (none, p)
  | k + 1, any, both, p => match F p with
    | (none, q) => (none, q)
    | (some e, q) => if c q = 125 then lE c F k (some (cO any (cA both e))) none (q + 1) else if c q = 39 then lE c F k any (some (cA both e)) (q + 1) else (some (cO any (cA both e)), q)
def ngR : Option XP × Nat → Option XP × Nat
  | (none, q) => (none, q)
  | (some e, q) => (some (e.1 ++ [0], fun f => !e.2 f), q)
def clR (c : Nat → Nat) : Option XP × Nat → Option XP × Nat
  | (none, q) => (none, q)
  | (some e, q) => if c q = 42 then (some e, q + 1) else (none, q)
def pF (c : Nat → Nat) : Nat → Nat → Option XP × Nat
  | 0, p => pT c p
  | f + 1, p => if c p = 34 then ngR (pF c f (p + 1)) else if c p = 41 then clR c (lE c (pF c f) 100 none none (p + 1)) else pT c p
def pE (c : Nat → Nat) (f p : Nat) : Option XP × Nat := lE c (pF c f) 100 none none p
def wB : List Nat := [99, 98, 109, 101, 33]
def wH : List Nat := [105, 98, 115, 101, 33]
def wS : List Nat := [116, 112, 103, 117, 33]
/-- a clause: 0 soft, 1 hard, 2 bald; its number; its cells -/
abbrev XCl : Type := Nat × Nat × XP
def pC (c : Nat → Nat) (p : Nat) : Option XCl × Nat :=
  if c p = 99 then (match wrdP c wB p with
    | (false, q) => (none, q)
    | (true, q) => match numP c q with
      | none => (none, q)
      | some (v, r) => (some (2, v, [], fun _ => false), r))
  else (match wrdP c (if c p = 105 then wH else wS) p with
    | (false, q) => (none, q)
    | (true, q) => match numP c q with
      | none => (none, q)
      | some (v, r) => if c r = 33 then (match pE c 4 (r + 1) with
        | (none, s) => (none, s)
        | (some e, s) => (some (if c p = 105 then 1 else 0, v, e), s)) else (none, r))
def pR (c : Nat → Nat) : Nat → Nat → Option (List XCl) × Nat
  | k, p => match pC c p with
    | (none, q) => (none, q)
    | (some x, q) => match k with
      | 0 => if c q = 0 then (some [x], q) else (none, q)
      | k + 1 => if c q = 60 then (match pR c k (q + 1) with
        | (some l, r) => (some (x :: l), r)
        | (none, r) => (none, r)) else if c q = 0 then (some [x], q) else (none, q)
/-- BALD's number of clauses; what a cell yields -/
def bldC (l : List XCl) : Nat := l.foldl (fun b x => if x.1 = 2 then x.2.1 else b) 30
def wgtC (f : Nat → Nat) (x : XCl) : Int := if x.2.2.2 f = true ∧ x.1 < 2 then (if x.1 = 1 then -(x.2.1 : Int) else (x.2.1 : Int)) else 0
def sumC (f : Nat → Nat) (l : List XCl) : Int := l.foldl (fun s x => s + wgtC f x) 1
/-- a text t of n signs -/
def chT (n : Nat) (t : Nat → Nat) (p : Nat) : Nat := if p < n then t p + 1 else 0
def TX (c : Nat → Nat) (n : Nat) : Prop := n ≤ 100 ∧ ∀ p, (c p = 0 ↔ n ≤ p) ∧ c p < 129
theorem chT_TX {n : Nat} {t : Nat → Nat} (hn : n ≤ 100) (ht : ∀ p, p < n → t p < 128) : TX (chT n t) n := by
  refine ⟨hn, fun p => ?_⟩
  unfold chT
  by_cases h : p < n
  · have := ht p h
    rw [if_pos h]; omega
  · rw [if_neg h]; omega
section P27
variable {c : Nat → Nat} {n : Nat}
theorem TX.lt (h : TX c n) {p x : Nat} (e : c p = x) (hx : x ≠ 0) : p < n := by
  have := (h.2 p).1
  omega
theorem numP_some (h : TX c n) {p v q : Nat} (e : numP c p = some (v, q)) : p < q ∧ q ≤ n ∧ v < 100 := by
  unfold numP at e
  by_cases h1 : isD (c p) = true
  · have hp := h.lt rfl (by rw [isD_iff] at h1; omega : c p ≠ 0)
    rw [if_pos h1] at e
    by_cases h2 : isD (c (p + 1)) = true
    · have hp2 := h.lt rfl (by rw [isD_iff] at h2; omega : c (p + 1) ≠ 0)
      rw [if_pos h2] at e
      rw [isD_iff] at h1 h2
      injection e with e; injection e with e1 e2
      omega
    · rw [if_neg h2] at e
      rw [isD_iff] at h1
      injection e with e; injection e with e1 e2
      omega
  · rw [if_neg h1] at e; cases e
theorem fldP_lt {x : Nat} (h : fldP x ≠ 6) : fldP x < 6 := by
  have : fldP x ≤ 6 := by unfold fldP; (repeat' split) <;> decide
  omega
theorem fldP_ne0 {x : Nat} (h : fldP x ≠ 6) : x ≠ 0 := by
  rintro rfl
  exact h rfl
/-- what holds of a reading from p -/
def okR (n p : Nat) (r : Option XP × Nat) : Prop := p ≤ r.2 ∧ r.2 ≤ n ∧ ∀ e, r.1 = some e → p < r.2 ∧ ∀ x, x ∈ e.1 → x < 6000
theorem pT_ok (h : TX c n) {p : Nat} (hp : p ≤ n) : okR n p (pT c p) := by
  unfold pT
  by_cases h1 : fldP (c p) = 6
  · rw [if_pos h1]; exact ⟨Nat.le_refl _, hp, fun e he => by cases he⟩
  rw [if_neg h1]
  have q1 := h.lt rfl (fldP_ne0 h1)
  have q6 := fldP_lt h1
  by_cases h2 : 61 ≤ c (p + 1) ∧ c (p + 1) ≤ 63
  · rw [if_pos h2]
    have q2 := h.lt rfl (by omega : c (p + 1) ≠ 0)
    rcases hn : numP c (p + 2) with _ | ⟨v, q⟩
    · exact ⟨by simp, by simp; omega, fun e he => by cases he⟩
    · obtain ⟨a1, a2, a3⟩ := numP_some h hn
      refine ⟨by simp; omega, by simp; omega, fun e he => ?_⟩
      simp only [Option.some.injEq] at he
      subst he
      refine ⟨by simp; omega, fun x hx => ?_⟩
      simp only [List.mem_singleton] at hx
      omega
  · rw [if_neg h2]; exact ⟨by simp, by simp; omega, fun e he => by cases he⟩
theorem cA_in {a : Option XP} {e : XP} {x : Nat} (h : x ∈ (cA a e).1) : x = 1 ∨ x ∈ e.1 ∨ ∃ b, a = some b ∧ x ∈ b.1 := by
  cases a with
  | none => exact Or.inr (Or.inl h)
  | some b =>
    simp only [cA, List.mem_append, List.mem_singleton] at h
    rcases h with h | h | h
    · exact Or.inr (Or.inr ⟨b, rfl, h⟩)
    · exact Or.inr (Or.inl h)
    · exact Or.inl h
theorem cO_in {a : Option XP} {e : XP} {x : Nat} (h : x ∈ (cO a e).1) : x = 2 ∨ x ∈ e.1 ∨ ∃ b, a = some b ∧ x ∈ b.1 := by
  cases a with
  | none => exact Or.inr (Or.inl h)
  | some b =>
    simp only [cO, List.mem_append, List.mem_singleton] at h
    rcases h with h | h | h
    · exact Or.inr (Or.inr ⟨b, rfl, h⟩)
    · exact Or.inr (Or.inl h)
    · exact Or.inl h
theorem lE_ok (h : TX c n) {F : Nat → Option XP × Nat} (hF : ∀ p, p ≤ n → okR n p (F p)) : ∀ k any both p, p ≤ n → (∀ e, any = some e → ∀ x, x ∈ e.1 → x < 6000) → (∀ e, both = some e → ∀ x, x ∈ e.1 → x < 6000) → okR n p (lE c F k any both p) := by
  intro k
  induction k with
  | zero => exact fun any both p hp _ _ => ⟨Nat.le_refl _, hp, fun e he => by cases he⟩
  | succ k ih =>
    intro any both p hp ha hb
    obtain ⟨f1, f2, f3⟩ := hF p hp
    rw [lE]
    rcases hr : F p with ⟨_ | e, q⟩
    · rw [hr] at f1 f2
      exact ⟨f1, f2, fun e he => by cases he⟩
    · rw [hr] at f1 f2 f3
      simp only at f1 f2 f3
      obtain ⟨f4, f5⟩ := f3 e rfl
      have hA : ∀ x, x ∈ (cA both e).1 → x < 6000 := by
        intro x hx
        rcases cA_in hx with q | q | ⟨b, q, q2⟩
        · omega
        · exact f5 x q
        · exact hb b q x q2
      have hO : ∀ x, x ∈ (cO any (cA both e)).1 → x < 6000 := by
        intro x hx
        rcases cO_in hx with q | q | ⟨b, q, q2⟩
        · omega
        · exact hA x q
        · exact ha b q x q2
      simp only
      by_cases h1 : c q = 125
      · rw [if_pos h1]
        have q1 := h.lt h1 (by decide)
        obtain ⟨r1, r2, r3⟩ := ih (some (cO any (cA both e))) none (q + 1) (by omega) (fun e' he x hx => hO x (by cases he; exact hx)) (fun e he => by cases he)
        exact ⟨by omega, r2, fun e he => ⟨by omega, (r3 e he).2⟩⟩
      rw [if_neg h1]
      by_cases h2 : c q = 39
      · rw [if_pos h2]
        have q1 := h.lt h2 (by decide)
        obtain ⟨r1, r2, r3⟩ := ih any (some (cA both e)) (q + 1) (by omega) ha (fun e' he x hx => hA x (by cases he; exact hx))
        exact ⟨by omega, r2, fun e he => ⟨by omega, (r3 e he).2⟩⟩
      rw [if_neg h2]
      exact ⟨f1, f2, fun e' he => ⟨f4, fun x hx => hO x (by cases he; exact hx)⟩⟩
theorem pF_ok (h : TX c n) : ∀ f p, p ≤ n → okR n p (pF c f p) := by
  intro f
  induction f with
  | zero => exact fun p hp => pT_ok h hp
  | succ f ih =>
    intro p hp
    rw [pF]
    by_cases h1 : c p = 34
    · rw [if_pos h1]
      have q1 := h.lt h1 (by decide)
      obtain ⟨r1, r2, r3⟩ := ih (p + 1) (by omega)
      rcases hr : pF c f (p + 1) with ⟨_ | e, q⟩
      · rw [hr] at r1 r2
        exact ⟨by simp only [ngR]; omega, r2, fun e he => by cases he⟩
      · rw [hr] at r1 r2 r3
        refine ⟨by simp only [ngR]; omega, r2, fun e' he => ?_⟩
        simp only [ngR, Option.some.injEq] at he
        subst he
        refine ⟨by simp only [ngR]; omega, fun x hx => ?_⟩
        rcases List.mem_append.mp hx with hx | hx
        · exact (r3 e rfl).2 x hx
        · have := List.mem_singleton.mp hx; omega
    rw [if_neg h1]
    by_cases h2 : c p = 41
    · rw [if_pos h2]
      have q1 := h.lt h2 (by decide)
      obtain ⟨r1, r2, r3⟩ := lE_ok h ih 100 none none (p + 1) (by omega) (fun e he => by cases he) (fun e he => by cases he)
      rcases hr : lE c (pF c f) 100 none none (p + 1) with ⟨_ | e, q⟩
      · rw [hr] at r1 r2
        exact ⟨by simp only [clR]; omega, r2, fun e he => by cases he⟩
      · rw [hr] at r1 r2 r3
        simp only at r1 r2 r3
        simp only [clR]
        by_cases h3 : c q = 42
        · rw [if_pos h3]
          have q2 := h.lt h3 (by decide)
          exact ⟨by simp only; omega, by simp only; omega, fun e' he => ⟨by simp only; omega, fun x hx => (r3 e' he).2 x hx⟩⟩
        · rw [if_neg h3]
          exact ⟨by simp only; omega, r2, fun e he => by cases he⟩
    · rw [if_neg h2]; exact pT_ok h hp
theorem pE_ok (h : TX c n) (f p : Nat) (hp : p ≤ n) : okR n p (pE c f p) := lE_ok h (pF_ok h f) 100 none none p hp (fun e he => by cases he) (fun e he => by cases he)
theorem wrdP_ok (h : TX c n) : ∀ l, (∀ x, x ∈ l → x ≠ 0) → ∀ p, p ≤ n → p ≤ (wrdP c l p).2 ∧ (wrdP c l p).2 ≤ n ∧ ((wrdP c l p).1 = true → (wrdP c l p).2 = p + l.length) := by
  intro l
  induction l with
  | nil => exact fun _ p hp => ⟨Nat.le_refl _, hp, fun _ => rfl⟩
  | cons x l ih =>
    intro hl p hp
    rw [wrdP]
    by_cases h1 : c p = x
    · rw [if_pos h1]
      have q1 := h.lt h1 (hl x (List.mem_cons_self ..))
      obtain ⟨r1, r2, r3⟩ := ih (fun y hy => hl y (List.mem_cons_of_mem _ hy)) (p + 1) (by omega)
      exact ⟨by omega, r2, fun z => by have := r3 z; simp only [List.length_cons]; omega⟩
    · rw [if_neg h1]; exact ⟨Nat.le_refl _, hp, fun z => by cases z⟩
end P27
