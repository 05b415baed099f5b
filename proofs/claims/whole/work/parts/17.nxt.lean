/-! NEXT, as bits -/
theorem tbit_hi {b i : Nat} (hb : b < 65536) (hi : 16 ≤ i) : b.testBit i = false := Nat.testBit_lt_two_pow (Nat.lt_of_lt_of_le hb (show 2 ^ 16 ≤ 2 ^ i from Nat.pow_le_pow_right (by decide) hi))
theorem nxt_lt (b : Nat) : nxt b < 65536 := by
  unfold nxt
  exact Nat.lt_of_le_of_lt Nat.and_le_right (by decide)
theorem nxt_bit {b c : Nat} : (nxt b).testBit c = (((decide (4 ≤ c) && b.testBit (c - 4)) || b.testBit (c + 4) || ((decide (1 ≤ c) && (b.testBit (c - 1) && Nat.testBit 4294932343 (c - 1))) || (b.testBit (c + 1) && Nat.testBit 4294962926 (c + 1)))) && Nat.testBit 65535 c) := by
  unfold nxt
  simp only [Nat.testBit_and, Nat.testBit_or, Nat.testBit_mul_two_pow, Nat.testBit_div_two_pow]
theorem nxt_tb {b : Nat} (hb : b < 65536) : ∀ c, c < 16 → (nxt b).testBit c = anyN (fun a => b.testBit a && adj a c) 16 := by
  intro c hc
  have h16 := tbit_hi hb (i := 16) (by decide)
  have h17 := tbit_hi hb (i := 17) (by decide)
  have h18 := tbit_hi hb (i := 18) (by decide)
  have h19 := tbit_hi hb (i := 19) (by decide)
  rw [nxt_bit]
  have m1 : ∀ i, i < 20 → Nat.testBit 4294932343 i = decide (i % 4 ≠ 3 ∨ 16 ≤ i) := by decide +kernel
  have m2 : ∀ i, i < 20 → Nat.testBit 4294962926 i = decide (i % 4 ≠ 0 ∨ 16 ≤ i) := by decide +kernel
  have m3 : ∀ i, i < 16 → Nat.testBit 65535 i = true := by decide +kernel
  match c, hc with
  | 0, _ => simp [anyN, adj, m1, m2, m3, h16, h17, h18, h19]; try (simp only [Bool.or_assoc, Bool.or_comm, Bool.or_left_comm])
  | 1, _ => simp [anyN, adj, m1, m2, m3, h16, h17, h18, h19]; try (simp only [Bool.or_assoc, Bool.or_comm, Bool.or_left_comm])
  | 2, _ => simp [anyN, adj, m1, m2, m3, h16, h17, h18, h19]; try (simp only [Bool.or_assoc, Bool.or_comm, Bool.or_left_comm])
  | 3, _ => simp [anyN, adj, m1, m2, m3, h16, h17, h18, h19]; try (simp only [Bool.or_assoc, Bool.or_comm, Bool.or_left_comm])
  | 4, _ => simp [anyN, adj, m1, m2, m3, h16, h17, h18, h19]; try (simp only [Bool.or_assoc, Bool.or_comm, Bool.or_left_comm])
  | 5, _ => simp [anyN, adj, m1, m2, m3, h16, h17, h18, h19]; try (simp only [Bool.or_assoc, Bool.or_comm, Bool.or_left_comm])
  | 6, _ => simp [anyN, adj, m1, m2, m3, h16, h17, h18, h19]; try (simp only [Bool.or_assoc, Bool.or_comm, Bool.or_left_comm])
  | 7, _ => simp [anyN, adj, m1, m2, m3, h16, h17, h18, h19]; try (simp only [Bool.or_assoc, Bool.or_comm, Bool.or_left_comm])
  | 8, _ => simp [anyN, adj, m1, m2, m3, h16, h17, h18, h19]; try (simp only [Bool.or_assoc, Bool.or_comm, Bool.or_left_comm])
  | 9, _ => simp [anyN, adj, m1, m2, m3, h16, h17, h18, h19]; try (simp only [Bool.or_assoc, Bool.or_comm, Bool.or_left_comm])
  | 10, _ => simp [anyN, adj, m1, m2, m3, h16, h17, h18, h19]; try (simp only [Bool.or_assoc, Bool.or_comm, Bool.or_left_comm])
  | 11, _ => simp [anyN, adj, m1, m2, m3, h16, h17, h18, h19]; try (simp only [Bool.or_assoc, Bool.or_comm, Bool.or_left_comm])
  | 12, _ => simp [anyN, adj, m1, m2, m3, h16, h17, h18, h19]; try (simp only [Bool.or_assoc, Bool.or_comm, Bool.or_left_comm])
  | 13, _ => simp [anyN, adj, m1, m2, m3, h16, h17, h18, h19]; try (simp only [Bool.or_assoc, Bool.or_comm, Bool.or_left_comm])
  | 14, _ => simp [anyN, adj, m1, m2, m3, h16, h17, h18, h19]; try (simp only [Bool.or_assoc, Bool.or_comm, Bool.or_left_comm])
  | 15, _ => simp [anyN, adj, m1, m2, m3, h16, h17, h18, h19]; try (simp only [Bool.or_assoc, Bool.or_comm, Bool.or_left_comm])
  | c + 16, h => omega

theorem two_tb {t c : Nat} : (2 ^ t).testBit c = decide (t = c) := Nat.testBit_two_pow
theorem two_lt {t : Nat} (h : t < 16) : 2 ^ t < 65536 := Nat.pow_lt_pow_right (by decide) h
/-- the layers as the program lays them: the newest, all reached -/
def lyB (fr t : Nat) : Nat → Nat × Nat
  | 0 => (2 ^ t, 2 ^ t)
  | s + 1 => let m := nxt (lyB fr t s).1 &&& fr &&& ((lyB fr t s).2 ^^^ 4294967295)
    (m, (lyB fr t s).2 ||| m)
theorem lyB_lt {fr t : Nat} (hf : fr < 65536) (ht : t < 16) : ∀ s, (lyB fr t s).1 < 65536 ∧ (lyB fr t s).2 < 65536 := by
  intro s
  induction s with
  | zero => exact ⟨two_lt ht, two_lt ht⟩
  | succ s ih =>
    have h1 : nxt (lyB fr t s).1 &&& fr &&& ((lyB fr t s).2 ^^^ 4294967295) < 65536 := Nat.lt_of_le_of_lt (Nat.le_trans Nat.and_le_left Nat.and_le_left) (nxt_lt _)
    exact ⟨h1, Nat.or_lt_two_pow (n := 16) ih.2 h1⟩
theorem neg_tb : ∀ c, c < 16 → Nat.testBit 4294967295 c = true := by decide +kernel
theorem lyB_tb {fr t : Nat} (hf : fr < 65536) (ht : t < 16) : ∀ s c, c < 16 → (lyB fr t s).2.testBit c = Rr (fun q => fr.testBit q) t s c ∧ (lyB fr t s).1.testBit c = (Rr (fun q => fr.testBit q) t s c && (match s with
    | 0 => true
    | p + 1 => !Rr (fun q => fr.testBit q) t p c)) := by
  intro s
  induction s with
  | zero =>
    intro c hc
    show (2 ^ t).testBit c = _ ∧ (2 ^ t).testBit c = _
    rw [two_tb]
    simp [Rr, eq_comm]
  | succ s ih =>
    intro c hc
    have hl := (lyB_lt hf ht s).1
    have key : (nxt (lyB fr t s).1 &&& fr &&& ((lyB fr t s).2 ^^^ 4294967295)).testBit c = (Rr (fun q => fr.testBit q) t (s + 1) c && !Rr (fun q => fr.testBit q) t s c) := by
      rw [Nat.testBit_and, Nat.testBit_and, Nat.testBit_xor, neg_tb c hc, (ih c hc).1, nxt_tb hl c hc]
      cases hr : Rr (fun q => fr.testBit q) t s c with
      | true => simp
      | false =>
        rw [Rr, hr]
        simp only [Bool.false_or, Bool.false_xor, Bool.and_true, Bool.not_false]
        cases hfc : fr.testBit c with
        | false => simp
        | true =>
        simp only [Bool.and_true, Bool.true_and]
        rw [Bool.eq_iff_iff, anyN_iff, anyN_iff]
        constructor
        · rintro ⟨a, ha, h2⟩
          rw [Bool.and_eq_true] at h2
          refine ⟨a, ha, ?_⟩
          have h3 := h2.1
          rw [(ih a ha).2, Bool.and_eq_true] at h3
          rw [h3.1, h2.2]; rfl
        · rintro ⟨a, ha, h2⟩
          rw [Bool.and_eq_true] at h2
          refine ⟨a, ha, ?_⟩
          rw [h2.2, (ih a ha).2, h2.1]
          cases s with
          | zero => rfl
          | succ p =>
            cases hp : Rr (fun q => fr.testBit q) t p a with
            | false => simp [hp]
            | true => rw [Rr_step (fr := fun q => fr.testBit q) ha hp hfc h2.2] at hr; cases hr
    refine ⟨?_, key⟩
    show ((lyB fr t s).2 ||| _).testBit c = _
    rw [Nat.testBit_or, key, (ih c hc).1]
    cases hr : Rr (fun q => fr.testBit q) t s c with
    | true => rw [Rr_mono1 hr]; rfl
    | false => simp
