/-! a text's code as a stack of truths runs it -/
def evO (f : Nat → Nat) : List Nat → List Bool → Option (List Bool)
  | [], s => some s
  | 0 :: l, b :: s => evO f l ((!b) :: s)
  | 1 :: l, b :: a :: s => evO f l ((a && b) :: s)
  | 2 :: l, b :: a :: s => evO f l ((a || b) :: s)
  | (n + 3) :: l, s => evO f l (tstP (f (n / 1000)) (n / 100 % 10) (n % 100) :: s)
  | _ :: _, _ => none
def WFe (e : XP) : Prop := ∀ f s l, evO f (e.1 ++ l) s = evO f l (e.2 f :: s)
theorem WFe_cA {a : Option XP} {e : XP} (ha : ∀ b, a = some b → WFe b) (he : WFe e) : WFe (cA a e) := by
  cases a with
  | none => exact he
  | some b =>
    intro f s l
    show evO f ((b.1 ++ (e.1 ++ [1])) ++ l) s = evO f l ((b.2 f && e.2 f) :: s)
    rw [List.append_assoc, ha b rfl, List.append_assoc, he]
    rfl
theorem WFe_cO {a : Option XP} {e : XP} (ha : ∀ b, a = some b → WFe b) (he : WFe e) : WFe (cO a e) := by
  cases a with
  | none => exact he
  | some b =>
    intro f s l
    show evO f ((b.1 ++ (e.1 ++ [2])) ++ l) s = evO f l ((b.2 f || e.2 f) :: s)
    rw [List.append_assoc, ha b rfl, List.append_assoc, he]
    rfl
def okW (r : Option XP × Nat) : Prop := ∀ e, r.1 = some e → WFe e
section P74
variable {c : Nat → Nat}
theorem pT_w (p : Nat) : okW (pT c p) := by
  intro e he
  unfold pT at he
  by_cases h1 : fldP (c p) = 6
  · rw [if_pos h1] at he; cases he
  rw [if_neg h1] at he
  have q6 := fldP_lt h1
  by_cases h2 : 61 ≤ c (p + 1) ∧ c (p + 1) ≤ 63
  · rw [if_pos h2] at he
    rcases hn : numP c (p + 2) with _ | ⟨v, q⟩
    · rw [hn] at he; cases he
    · rw [hn] at he
      have hv : v < 100 := by
        unfold numP at hn
        by_cases d1 : isD (c (p + 2)) = true
        · rw [if_pos d1] at hn
          rw [isD_iff] at d1
          by_cases d2 : isD (c (p + 2 + 1)) = true
          · rw [if_pos d2] at hn
            rw [isD_iff] at d2
            injection hn with hn; injection hn with e1 e2; omega
          · rw [if_neg d2] at hn
            injection hn with hn; injection hn with e1 e2; omega
        · rw [if_neg d1] at hn; cases hn
      simp only [Option.some.injEq] at he
      subst he
      intro f s l
      show evO f ((1000 * fldP (c p) + 100 * (c (p + 1) - 61) + v + 3) :: l) s = _
      rw [evO, show (1000 * fldP (c p) + 100 * (c (p + 1) - 61) + v) / 1000 = fldP (c p) by omega, show (1000 * fldP (c p) + 100 * (c (p + 1) - 61) + v) / 100 % 10 = c (p + 1) - 61 by omega, show (1000 * fldP (c p) + 100 * (c (p + 1) - 61) + v) % 100 = v by omega]
  · rw [if_neg h2] at he; cases he
theorem lE_w {F : Nat → Option XP × Nat} (hF : ∀ p, okW (F p)) : ∀ k any both p, (∀ e, any = some e → WFe e) → (∀ e, both = some e → WFe e) → okW (lE c F k any both p) := by
  intro k
  induction k with
  | zero => exact fun any both p _ _ e he => by cases he
  | succ k ih =>
    intro any both p ha hb
    have f3 := hF p
    rw [lE]
    rcases hr : F p with ⟨_ | e, q⟩
    · exact fun e he => by cases he
    · rw [hr] at f3
      have hA := WFe_cA hb (f3 e rfl)
      have hO := WFe_cO ha hA
      simp only
      by_cases h1 : c q = 125
      · rw [if_pos h1]
        exact ih _ none (q + 1) (fun e' he => by cases he; exact hO) (fun e he => by cases he)
      rw [if_neg h1]
      by_cases h2 : c q = 39
      · rw [if_pos h2]
        exact ih any _ (q + 1) ha (fun e' he => by cases he; exact hA)
      rw [if_neg h2]
      exact fun e' he => by cases he; exact hO
theorem pF_w : ∀ f p, okW (pF c f p) := by
  intro f
  induction f with
  | zero => exact fun p => pT_w p
  | succ f ih =>
    intro p
    rw [pF]
    by_cases h1 : c p = 34
    · rw [if_pos h1]
      have r3 := ih (p + 1)
      rcases hr : pF c f (p + 1) with ⟨_ | e, q⟩
      · exact fun e he => by cases he
      · rw [hr] at r3
        intro e' he
        simp only [ngR, Option.some.injEq] at he
        subst he
        intro f s l
        show evO f ((e.1 ++ [0]) ++ l) s = evO f l ((!e.2 f) :: s)
        rw [List.append_assoc, r3 e rfl]
        rfl
    rw [if_neg h1]
    by_cases h2 : c p = 41
    · rw [if_pos h2]
      have r3 := lE_w (c := c) ih 100 none none (p + 1) (fun e he => by cases he) (fun e he => by cases he)
      rcases hr : lE c (pF c f) 100 none none (p + 1) with ⟨_ | e, q⟩
      · exact fun e he => by cases he
      · rw [hr] at r3
        simp only [clR]
        by_cases h3 : c q = 42
        · rw [if_pos h3]; exact fun e' he => by cases he; exact r3 e rfl
        · rw [if_neg h3]; exact fun e he => by cases he
    · rw [if_neg h2]; exact pT_w p
theorem pE_w (f p : Nat) : okW (pE c f p) := lE_w (pF_w f) 100 none none p (fun e he => by cases he) (fun e he => by cases he)
theorem pC_w {p : Nat} {x : XCl} {q : Nat} (h : pC c p = (some x, q)) (hx : x.1 < 2) : WFe x.2.2 := by
  unfold pC at h
  by_cases h1 : c p = 99
  · rw [if_pos h1] at h
    rcases hw : wrdP c wB p with ⟨_ | _, q1⟩
    · rw [hw] at h; cases h
    · rw [hw] at h
      rcases hn : numP c q1 with _ | ⟨v, r⟩
      · simp only [hn] at h; cases h
      · simp only [hn, Prod.mk.injEq, Option.some.injEq] at h
        obtain ⟨rfl, -⟩ := h
        exact absurd (show (2 : Nat) < 2 from hx) (by decide)
  · rw [if_neg h1] at h
    rcases hw : wrdP c (if c p = 105 then wH else wS) p with ⟨_ | _, q1⟩
    · rw [hw] at h; cases h
    · rw [hw] at h
      rcases hn : numP c q1 with _ | ⟨v, r⟩
      · simp only [hn] at h; cases h
      · simp only [hn] at h
        by_cases h2 : c r = 33
        · rw [if_pos h2] at h
          have r3 := pE_w (c := c) 4 (r + 1)
          rcases he : pE c 4 (r + 1) with ⟨_ | e, s⟩
          · rw [he] at h; cases h
          · rw [he] at h r3
            simp only [Prod.mk.injEq, Option.some.injEq] at h
            obtain ⟨rfl, -⟩ := h
            exact r3 e rfl
        · rw [if_neg h2] at h; cases h
theorem pR_w : ∀ k p l q, pR c k p = (some l, q) → ∀ x, x ∈ l → x.1 < 2 → WFe x.2.2 := by
  intro k
  induction k with
  | zero =>
    intro p l q hr x hx h2
    rcases hc : pC c p with ⟨_ | y, s⟩
    · rw [pR_n hc] at hr; cases hr
    · rw [pR_s hc, rst] at hr
      by_cases h1 : c s = 0
      · simp only [h1, if_true, Option.map, Prod.mk.injEq, Option.some.injEq] at hr
        obtain ⟨rfl, rfl⟩ := hr
        rw [List.mem_singleton] at hx
        subst hx
        exact pC_w hc h2
      · simp only [h1, if_false, Option.map] at hr
        cases hr
  | succ k ih =>
    intro p l q hr x hx h2
    rcases hc : pC c p with ⟨_ | y, s⟩
    · rw [pR_n hc] at hr; cases hr
    · rw [pR_s hc, rst] at hr
      by_cases h3 : c s = 60
      · simp only [h3, if_true] at hr
        rcases hq : pR c k (s + 1) with ⟨_ | l', t⟩
        · rw [hq] at hr; cases hr
        · rw [hq] at hr
          simp only [Option.map, Prod.mk.injEq, Option.some.injEq] at hr
          obtain ⟨rfl, rfl⟩ := hr
          rcases List.mem_cons.mp hx with rfl | hx
          · exact pC_w hc h2
          · exact ih (s + 1) l' t hq x hx h2
      · simp only [h3, if_false] at hr
        by_cases h1 : c s = 0
        · simp only [h1, if_true, Option.map, Prod.mk.injEq, Option.some.injEq] at hr
          obtain ⟨rfl, rfl⟩ := hr
          rw [List.mem_singleton] at hx
          subst hx
          exact pC_w hc h2
        · simp only [h1, if_false, Option.map] at hr
          cases hr
end P74
