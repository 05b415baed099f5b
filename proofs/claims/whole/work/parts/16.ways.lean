/-! WAYS, without a machine: what is reached in so many steps, the shortest way that is first -/
def adj (a b : Nat) : Bool := (a / 4 == b / 4 && (a % 4 + 1 == b % 4 || b % 4 + 1 == a % 4)) || (a % 4 == b % 4 && (a / 4 + 1 == b / 4 || b / 4 + 1 == a / 4))
def anyN (p : Nat → Bool) : Nat → Bool
  | 0 => false
  | n + 1 => anyN p n || p n
theorem anyN_iff {p : Nat → Bool} : ∀ {n : Nat}, anyN p n = true ↔ ∃ i, i < n ∧ p i = true := by
  intro n
  induction n with
  | zero => simp [anyN]
  | succ n ih =>
    rw [anyN, Bool.or_eq_true, ih]
    constructor
    · rintro (⟨i, h1, h2⟩ | h)
      · exact ⟨i, by omega, h2⟩
      · exact ⟨n, by omega, h⟩
    · rintro ⟨i, h1, h2⟩
      by_cases hi : i = n
      · subst hi; exact Or.inr h2
      · exact Or.inl ⟨i, by omega, h2⟩
def lst (p : Nat → Bool) : Nat → Nat → Option Nat
  | 0, _ => none
  | n + 1, i => if p i then some i else lst p n (i + 1)
theorem lst_some {p : Nat → Bool} : ∀ {n i j : Nat}, lst p n i = some j → i ≤ j ∧ j < i + n ∧ p j = true ∧ ∀ k, i ≤ k → k < j → p k = false := by
  intro n
  induction n with
  | zero => intro i j h; cases h
  | succ n ih =>
    intro i j h
    rw [lst] at h
    by_cases hp : p i = true
    · rw [if_pos hp] at h
      cases h
      exact ⟨Nat.le_refl _, by omega, hp, fun k h1 h2 => by omega⟩
    · rw [if_neg hp] at h
      obtain ⟨h1, h2, h3, h4⟩ := ih h
      refine ⟨by omega, by omega, h3, fun k h5 h6 => ?_⟩
      by_cases hk : k = i
      · subst hk; simpa using hp
      · exact h4 k (by omega) h6
theorem lst_none {p : Nat → Bool} : ∀ {n i : Nat}, lst p n i = none → ∀ k, i ≤ k → k < i + n → p k = false := by
  intro n
  induction n with
  | zero => intro i h k h1 h2; omega
  | succ n ih =>
    intro i h k h1 h2
    rw [lst] at h
    by_cases hp : p i = true
    · rw [if_pos hp] at h; cases h
    · rw [if_neg hp] at h
      by_cases hk : k = i
      · subst hk; simpa using hp
      · exact ih h k (by omega) (by omega)
theorem lst_of {p : Nat → Bool} {n i j : Nat} (h1 : i ≤ j) (h2 : j < i + n) (h3 : p j = true) (h4 : ∀ k, i ≤ k → k < j → p k = false) : lst p n i = some j := by
  cases h : lst p n i with
  | none => rw [lst_none h j h1 h2] at h3; cases h3
  | some q =>
    obtain ⟨g1, g2, g3, g4⟩ := lst_some h
    by_cases hlt : q < j
    · rw [h4 q g1 hlt] at g3; cases g3
    · by_cases hgt : j < q
      · rw [g4 j h1 hgt] at h3; cases h3
      · rw [show q = j by omega]
theorem lst_congr {p q : Nat → Bool} : ∀ {n i : Nat}, (∀ k, i ≤ k → k < i + n → p k = q k) → lst p n i = lst q n i := by
  intro n
  induction n with
  | zero => intro i _; rfl
  | succ n ih =>
    intro i h
    rw [lst, lst, h i (Nat.le_refl _) (by omega), ih (fun k h1 h2 => h k (by omega) (by omega))]
def oI' (o : Option Nat) : Int32 := match o with
  | none => -5
  | some k => nI k
theorem fstF_lst {b : Nat} : ∀ {n i : Nat}, fstF b n i = oI' (lst (fun k => b.testBit k) n i) := by
  intro n
  induction n with
  | zero => intro i; rfl
  | succ n ih =>
    intro i
    rw [fstF, lst]
    by_cases h : b.testBit i = true
    · rw [if_pos h, if_pos h]; rfl
    · rw [if_neg h, if_neg h]; exact ih
/-- reached within s steps from t -/
def Rr (fr : Nat → Bool) (t : Nat) : Nat → Nat → Bool
  | 0, c => decide (c = t)
  | s + 1, c => Rr fr t s c || (fr c && anyN (fun a => Rr fr t s a && adj a c) 16)
def Dd (fr : Nat → Bool) (t c : Nat) : Option Nat := lst (fun s => Rr fr t s c) 16 0
def pnx (fr : Nat → Bool) (t s c : Nat) : Nat := (lst (fun b => adj c b && decide (Dd fr t b = some s)) 16 0).getD 0
def pth (fr : Nat → Bool) (t : Nat) : Nat → Nat → List Nat
  | 0, c => [c]
  | s + 1, c => c :: pth fr t s (pnx fr t s c)
def wy (fr : Nat → Bool) (f t : Nat) : List Nat := if fr f && fr t then (match Dd fr t f with
  | none => []
  | some s => pth fr t s f) else []
def wset (l : List Nat) : Nat := l.foldl (fun s c => s ||| 2 ^ c) 0
section WY
variable {fr : Nat → Bool} {t : Nat}
theorem Rr_mono1 {s c : Nat} (h : Rr fr t s c = true) : Rr fr t (s + 1) c = true := by rw [Rr, h]; rfl
theorem Rr_mono {s s' c : Nat} (hs : s ≤ s') (h : Rr fr t s c = true) : Rr fr t s' c = true := by
  induction s' with
  | zero => have : s = 0 := by omega
            subst this; exact h
  | succ n ih =>
    by_cases hn : s = n + 1
    · subst hn; exact h
    · exact Rr_mono1 (ih (by omega))
theorem Rr_step {s a c : Nat} (ha : a < 16) (h : Rr fr t s a = true) (hc : fr c = true) (hadj : adj a c = true) : Rr fr t (s + 1) c = true := by
  rw [Rr, Bool.or_eq_true, Bool.and_eq_true]
  exact Or.inr ⟨hc, anyN_iff.mpr ⟨a, ha, by rw [h, hadj]; rfl⟩⟩
theorem Rr_back {s c : Nat} (h : Rr fr t (s + 1) c = true) (hn : Rr fr t s c = false) : fr c = true ∧ ∃ a, a < 16 ∧ Rr fr t s a = true ∧ adj a c = true := by
  rw [Rr, Bool.or_eq_true, Bool.and_eq_true, hn] at h
  rcases h with h | ⟨h1, h2⟩
  · cases h
  · obtain ⟨a, ha, h3⟩ := anyN_iff.mp h2
    rw [Bool.and_eq_true] at h3
    exact ⟨h1, a, ha, h3.1, h3.2⟩
theorem Rr_stop {s : Nat} (h : ∀ c, c < 16 → Rr fr t (s + 1) c = Rr fr t s c) : ∀ k c, c < 16 → Rr fr t (s + k) c = Rr fr t s c := by
  intro k
  induction k with
  | zero => intro c _; rfl
  | succ k ih =>
    intro c hc
    rw [← h c hc]
    show (Rr fr t (s + k) c || (fr c && anyN (fun a => Rr fr t (s + k) a && adj a c) 16)) = (Rr fr t s c || (fr c && anyN (fun a => Rr fr t s a && adj a c) 16))
    rw [ih c hc]
    congr 2
    rw [Bool.eq_iff_iff, anyN_iff, anyN_iff]
    constructor
    · rintro ⟨a, ha, h2⟩; exact ⟨a, ha, by rw [ih a ha] at h2; exact h2⟩
    · rintro ⟨a, ha, h2⟩; exact ⟨a, ha, by rw [ih a ha]; exact h2⟩
def cntR (fr : Nat → Bool) (t s : Nat) : Nat := xsum (fun c => b2n (Rr fr t s c)) 16
theorem xsum_le {f h : Nat → Nat} : ∀ {n : Nat}, (∀ i, i < n → f i ≤ h i) → xsum f n ≤ xsum h n := by
  intro n
  induction n with
  | zero => intro _; exact Nat.le_refl _
  | succ n ih => intro hl; exact Nat.add_le_add (ih (fun i hi => hl i (by omega))) (hl n (by omega))
theorem xsum_lt {f h : Nat → Nat} : ∀ {n : Nat} {j : Nat}, (∀ i, i < n → f i ≤ h i) → j < n → f j < h j → xsum f n < xsum h n := by
  intro n
  induction n with
  | zero => intro j _ hj; omega
  | succ n ih =>
    intro j hl hj hlt
    by_cases hjn : j = n
    · subst hjn; exact Nat.add_lt_add_of_le_of_lt (xsum_le (fun i hi => hl i (by omega))) hlt
    · exact Nat.add_lt_add_of_lt_of_le (ih (fun i hi => hl i (by omega)) (by omega) hlt) (hl n (by omega))
theorem xsum_const {c : Nat} : ∀ {n : Nat}, xsum (fun _ => c) n = n * c := by
  intro n
  induction n with
  | zero => simp [xsum]
  | succ n ih => rw [xsum, ih, Nat.succ_mul]
theorem cntR_le (s : Nat) : cntR fr t s ≤ 16 := by
  have h : cntR fr t s ≤ xsum (fun _ => 1) 16 := xsum_le (fun i _ => by have := b2n_lt (Rr fr t s i); omega)
  rw [xsum_const] at h; exact h
theorem cntR_grow {s c : Nat} (hc : c < 16) (ht : t < 16) : (∀ j, j < s → Rr fr t j c = false) → Rr fr t s c = true → s + 1 ≤ cntR fr t s := by
  intro h1 h2
  have key : ∀ j, j ≤ s → j + 1 ≤ cntR fr t j := by
    intro j
    induction j with
    | zero =>
      intro _
      have h0 : xsum (fun _ => 0) 16 < cntR fr t 0 := xsum_lt (fun i _ => Nat.zero_le _) ht (by simp [Rr, b2n])
      omega
    | succ j ih =>
      intro hj
      have h3 := ih (by omega)
      have h4 : ∃ q, q < 16 ∧ Rr fr t (j + 1) q ≠ Rr fr t j q := by
        refine Classical.byContradiction (fun hn => ?_)
        have hs : ∀ q, q < 16 → Rr fr t (j + 1) q = Rr fr t j q := fun q hq => Classical.byContradiction (fun z => hn ⟨q, hq, z⟩)
        have h5 := Rr_stop hs (s - j) c hc
        rw [show j + (s - j) = s by omega, h2, h1 j (by omega)] at h5
        cases h5
      obtain ⟨q, hq, hne⟩ := h4
      have h5 : cntR fr t j < cntR fr t (j + 1) := by
        refine xsum_lt (j := q) (fun i _ => ?_) hq ?_
        · cases hi : Rr fr t j i with
          | false => exact Nat.zero_le _
          | true => rw [Rr_mono1 hi]; exact Nat.le_refl _
        · cases hi : Rr fr t j q with
          | false =>
            cases hi2 : Rr fr t (j + 1) q with
            | false => rw [hi, hi2] at hne; exact absurd rfl hne
            | true => decide
          | true => rw [hi, Rr_mono1 hi] at hne; exact absurd rfl hne
      omega
  exact key s (Nat.le_refl _)
/-- whoever is reached at all is reached within fifteen steps -/
theorem Dd_of {s c : Nat} (hc : c < 16) (ht : t < 16) (h : Rr fr t s c = true) : ∃ j, Dd fr t c = some j ∧ j ≤ s := by
  obtain ⟨j, hj, hmin⟩ := pk_least (fun k => Rr fr t k c = true) ⟨s, h⟩
  have hf : ∀ k, k < j → Rr fr t k c = false := fun k hk => by simpa using hmin k hk
  have h1 := cntR_grow hc ht hf hj
  have h2 := cntR_le (fr := fr) (t := t) j
  refine ⟨j, lst_of (Nat.zero_le _) (by omega) hj (fun k _ hk => hf k hk), ?_⟩
  exact Nat.le_of_not_lt (fun hlt => hmin s hlt h)
theorem Dd_iff {c j : Nat} (hc : c < 16) (ht : t < 16) : Dd fr t c = some j ↔ (Rr fr t j c = true ∧ ∀ k, k < j → Rr fr t k c = false) := by
  constructor
  · intro h
    obtain ⟨-, -, h3, h4⟩ := lst_some h
    exact ⟨h3, fun k hk => h4 k (Nat.zero_le _) hk⟩
  · rintro ⟨h1, h2⟩
    obtain ⟨q, hq, hle⟩ := Dd_of hc ht h1
    obtain ⟨-, -, h3, -⟩ := lst_some hq
    by_cases hlt : q < j
    · rw [h2 q hlt] at h3; cases h3
    · rw [hq, show q = j by omega]
theorem Dd_lt {c j : Nat} (h : Dd fr t c = some j) : j < 16 := by
  obtain ⟨-, h2, -⟩ := lst_some h
  omega
/-- a cell at s + 1 has a neighbour at s -/
theorem Dd_pred {c s : Nat} (hc : c < 16) (ht : t < 16) (h : Dd fr t c = some (s + 1)) : ∃ a, a < 16 ∧ adj a c = true ∧ Dd fr t a = some s := by
  obtain ⟨h1, h2⟩ := (Dd_iff hc ht).mp h
  obtain ⟨hfc, a, ha, h3, h4⟩ := Rr_back h1 (h2 s (by omega))
  refine ⟨a, ha, h4, (Dd_iff ha ht).mpr ⟨h3, fun k hk => ?_⟩⟩
  cases hq : Rr fr t k a with
  | false => rfl
  | true =>
    have := Rr_step ha hq hfc h4
    rw [h2 (k + 1) (by omega)] at this
    cases this
theorem adj_comm (a b : Nat) : adj a b = adj b a := by
  unfold adj
  rw [Bool.eq_iff_iff]
  simp only [Bool.or_eq_true, Bool.and_eq_true, beq_iff_eq]
  omega
theorem Dd_t (ht : t < 16) : Dd fr t t = some 0 := (Dd_iff ht ht).mpr ⟨by simp [Rr], fun k hk => absurd hk (Nat.not_lt_zero _)⟩
theorem Dd_0 {c : Nat} (hc : c < 16) (ht : t < 16) (h : Dd fr t c = some 0) : c = t := by
  have := ((Dd_iff hc ht).mp h).1
  simpa [Rr] using this
/-- a neighbour of a cell at i is at i + 1 at most -/
theorem Dd_nb {a b i : Nat} (ha : a < 16) (hb : b < 16) (ht : t < 16) (hf : fr b = true) (hadj : adj a b = true) (h : Dd fr t a = some i) : ∃ j, Dd fr t b = some j ∧ j ≤ i + 1 :=
  Dd_of hb ht (Rr_step ha ((Dd_iff ha ht).mp h).1 hf hadj)
theorem pnx_spec {c s : Nat} (hc : c < 16) (ht : t < 16) (h : Dd fr t c = some (s + 1)) : pnx fr t s c < 16 ∧ adj c (pnx fr t s c) = true ∧ Dd fr t (pnx fr t s c) = some s ∧ ∀ k, k < pnx fr t s c → (adj c k && decide (Dd fr t k = some s)) = false := by
  obtain ⟨a, ha, h1, h2⟩ := Dd_pred hc ht h
  unfold pnx
  cases hl : lst (fun b => adj c b && decide (Dd fr t b = some s)) 16 0 with
  | none =>
    have := lst_none hl a (Nat.zero_le _) (by omega)
    rw [adj_comm c a, h1, decide_eq_true h2] at this
    cases this
  | some q =>
    obtain ⟨-, g2, g3, g4⟩ := lst_some hl
    rw [Bool.and_eq_true, decide_eq_true_eq] at g3
    exact ⟨by show q < 16; omega, g3.1, g3.2, fun k hk => g4 k (Nat.zero_le _) hk⟩
theorem pth_len : ∀ {s c : Nat}, (pth fr t s c).length = s + 1 := by
  intro s
  induction s with
  | zero => intro c; rfl
  | succ s ih => intro c; rw [pth, List.length_cons, ih]
theorem pth_lt (ht : t < 16) : ∀ {s c : Nat}, c < 16 → Dd fr t c = some s → ∀ q ∈ pth fr t s c, q < 16 := by
  intro s
  induction s with
  | zero => intro c hc _ q hq; rw [pth, List.mem_singleton] at hq; rw [hq]; exact hc
  | succ s ih =>
    intro c hc hd q hq
    rw [pth, List.mem_cons] at hq
    obtain ⟨p1, p2, p3, -⟩ := pnx_spec hc ht hd
    rcases hq with rfl | hq
    · exact hc
    · exact ih p1 p3 q hq
theorem wy_len {f : Nat} : (wy fr f t).length ≤ 16 := by
  unfold wy
  split
  · cases h : Dd fr t f with
    | none => exact Nat.zero_le _
    | some s =>
      show (pth fr t s f).length ≤ 16
      rw [pth_len]
      have := Dd_lt h
      omega
  · exact Nat.zero_le _
theorem wy_lt {f : Nat} (hf : f < 16) (ht : t < 16) : ∀ q ∈ wy fr f t, q < 16 := by
  unfold wy
  split
  · cases h : Dd fr t f with
    | none => intro q hq; cases hq
    | some s => exact pth_lt ht hf h
  · intro q hq; cases hq
end WY
