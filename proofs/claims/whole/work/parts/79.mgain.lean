/-! what goers wear off, day by day; the MODEL: save, putBack -/
theorem xsum_add {f h : Nat → Nat} : ∀ n, xsum (fun i => f i + h i) n = xsum f n + xsum h n := by
  intro n
  induction n with
  | zero => rfl
  | succ n ih => simp only [xsum, ih]; omega
theorem xsum_cong {f h : Nat → Nat} : ∀ n, (∀ i, i < n → f i = h i) → xsum f n = xsum h n := by
  intro n
  induction n with
  | zero => intro _; rfl
  | succ n ih => intro q; rw [xsum, xsum, ih (fun i hi => q i (by omega)), q n (by omega)]
def tbyW (A : XA) (w : Int32) (g c day : Nat) : Nat := if tb w g = true then 0 else tby A g (A 6 g) c day
theorem trd_0 {A : XA} {w : Int32} {g c : Nat} : trd A w g c 0 = 0 := by
  unfold trd
  by_cases h : tb w g = true ∨ A 6 g = 0
  · rw [if_pos h]
  · rw [if_neg h]
    have h1 : onT A g 0 = 0 := by unfold onT; split <;> omega
    have h2 : exT A g c 0 = 0 := by
      unfold exT; split
      · split <;> omega
      · split <;> rfl
      · split <;> rfl
      · rfl
    rw [h1, h2]; split <;> rfl
theorem trd_succ {A : XA} {w : Int32} {g c n : Nat} : trd A w g c (n + 1) = trd A w g c n + tbyW A w g c (A 11 0 + n) := by
  unfold trd tbyW
  by_cases h1 : tb w g = true
  · rw [if_pos (Or.inl h1), if_pos (Or.inl h1), if_pos h1]
  · by_cases h2 : A 6 g = 0
    · rw [if_pos (Or.inr h2), if_pos (Or.inr h2), if_neg h1]
      unfold tby; rw [if_pos h2]
    · have h3 : ¬ (tb w g = true ∨ A 6 g = 0) := fun q => q.elim h1 h2
      rw [if_neg h3, if_neg h3, if_neg h1]
      unfold tby; rw [if_neg h2]
      have ht : trR A g (n + 1) = trR A g n + A 5 (4 * g + (A 11 0 + n) % 4) := by
        unfold trR; rw [xsum, Nat.mul_comm g 4]
      unfold onT exT
      obtain ⟨k, hk⟩ : ∃ k, A 1 g = k := ⟨_, rfl⟩
      rw [hk]
      have hcs : k = 0 ∨ k = 1 ∨ k = 2 ∨ k = 3 ∨ k = 4 ∨ k = 5 ∨ k = 6 ∨ ∃ m, k = m + 7 := by
        by_cases h7 : k < 7
        · omega
        · exact Or.inr (Or.inr (Or.inr (Or.inr (Or.inr (Or.inr (Or.inr ⟨k - 7, by omega⟩))))))
      have hx := adj_comm c (A 4 g)
      rcases hcs with rfl | rfl | rfl | rfl | rfl | rfl | rfl | ⟨m, rfl⟩
      · simp only [b2n]; (repeat' split) <;> omega
      · simp only [b2n]; (repeat' split) <;> omega
      · simp only [b2n]; (repeat' split) <;> omega
      · simp only [b2n]; (repeat' split) <;> omega
      · simp only [b2n, Nat.mul_succ]; (repeat' split) <;> omega
      · simp only [b2n, hx]; (repeat' split) <;> omega
      · simp only [b2n, ht]; (repeat' split) <;> omega
      · simp only [b2n]; (repeat' split) <;> omega
theorem trd_sum {A : XA} {w : Int32} {g c n : Nat} : trd A w g c n = xsum (fun k => tbyW A w g c (A 11 0 + k)) n := by
  induction n with
  | zero => exact trd_0
  | succ n ih => rw [trd_succ, ih]; rfl
def gnA (A : XA) (w : Int32) (c day : Nat) : Nat := xsum (fun g => tbyW A w g c day * A 7 (g * 16 + c)) (A 8 0)
theorem gain_sum {A : XA} {w : Int32} {c n : Nat} : gainA A w c n = xsum (fun k => gnA A w c (A 11 0 + k)) n := by
  induction n with
  | zero =>
    unfold gainA
    rw [xsum_cong (h := fun _ => 0) (A 8 0) (fun i _ => by rw [trd_0, Nat.zero_mul]), xsum_const]; rfl
  | succ n ih =>
    rw [xsum, ← ih]
    unfold gainA gnA
    rw [← xsum_add]
    exact xsum_cong _ (fun i _ => by rw [trd_succ, Nat.add_mul])
theorem gain_1 {A : XA} {w : Int32} {c : Nat} : gainA A w c 1 = gnA A w c (A 11 0) := by rw [gain_sum]; simp [xsum]
theorem gnA_sp {A : XA} {w w' : Int32} {c n day : Nat} : gnA (spA A w n) w' c day = gnA A w' c day := rfl
theorem itS_sp {A : XA} {w : Int32} : ∀ n, itS A w n = spA A w n := by
  intro n
  induction n with
  | zero =>
    funext k j
    show A k j = if k = 0 then A 0 j + gainA A w j 0 else if k = 11 ∧ j = 0 then A 11 0 + 0 else A k j
    rw [gain_sum]
    by_cases h : k = 0
    · subst h; rfl
    · rw [if_neg h]
      by_cases h2 : k = 11 ∧ j = 0
      · rw [if_pos h2, h2.1, h2.2]; rfl
      · rw [if_neg h2]
  | succ n ih =>
    rw [itS, ih]
    funext k j
    show (if k = 0 then spA A w n 0 j + gainA (spA A w n) w j 1 else if k = 11 ∧ j = 0 then spA A w n 11 0 + 1 else spA A w n k j) = if k = 0 then A 0 j + gainA A w j (n + 1) else if k = 11 ∧ j = 0 then A 11 0 + (n + 1) else A k j
    by_cases h : k = 0
    · rw [if_pos h, if_pos h, gain_1, gnA_sp, gain_sum, xsum, ← gain_sum]
      show A 0 j + gainA A w j n + gnA A w j (A 11 0 + n) = _
      omega
    · rw [if_neg h, if_neg h]
      by_cases h2 : k = 11 ∧ j = 0
      · rw [if_pos h2, if_pos h2]; rfl
      · rw [if_neg h2, if_neg h2]
        show (if k = 0 then A 0 j + gainA A w j n else if k = 11 ∧ j = 0 then A 11 0 + n else A k j) = _
        rw [if_neg h, if_neg h2]
/-- who treads, as the model's set: those of the goers who are not away by w -/
def whoW (w : Int32) (n who : Nat) : Prop := ∀ g, g < n → who.testBit g = !tb w g
theorem gn_dy {A : XA} {L : List XCl} {w : Int32} {who c day : Nat} (hc : c < 16) (hA : cacheA A L) (hw : whoW w (A 8 0) who) : gnA A w c day = dyG (wnF A L) (A 8 0) who c day := by
  unfold gnA dyG
  refine xsum_cong _ (fun i hi => ?_)
  rw [hw i hi]
  unfold tbyW wnF wrn
  cases htb : tb w i with
  | true => simp
  | false =>
    simp only [Bool.false_eq_true, if_false, Bool.not_false, if_true]
    rw [show (64 * i + 4 * c + day % 4) / 64 = i by omega, show (64 * i + 4 * c + day % 4) / 4 % 16 = c by omega, show (64 * i + 4 * c + day % 4) % 4 = day % 4 by omega, hA.2.1 i hi c hc, ← hA.1 i hi, tby_mod, Nat.mul_comm]
theorem gain_dy {A : XA} {L : List XCl} {w : Int32} {who c n : Nat} (hc : c < 16) (hA : cacheA A L) (hw : whoW w (A 8 0) who) : xsum (fun k => dyG (wnF A L) (A 8 0) who c (A 11 0 + k)) n = gainA A w c n := by
  rw [gain_sum]
  exact xsum_cong _ (fun i _ => (gn_dy hc hA hw).symm)
theorem who_here {W n : Nat} (hW : W < 64) (hn : n ≤ 6) : whoW (nI W) n (63 &&& (W ^^^ 4294967295)) := by
  intro g hg
  have m : ∀ g, g < 6 → Nat.testBit 63 g = true := by decide +kernel
  rw [tb_nI (by omega), Nat.testBit_and, m g (by omega), Nat.testBit_xor, neg_tb g (by omega)]
  simp
theorem wnF_le {A : XA} {L : List XCl} (hL : okL L) (hB : bdA A) {j : Nat} (hj : j < 64 * A 8 0) : wnF A L j ≤ 20000 := by
  have h6 := hB.2.1
  have h1 := yvF_lt (f := fG (j / 64) (A 1 (j / 64)) (A 2 (j / 64))) hL (j / 4 % 16)
  have h2 := tby_le (set := wbits (wayL A (j / 64))) (c := j / 4 % 16) (day := j % 4) hB (show j / 64 < 6 by omega)
  unfold wnF wrn
  have := Nat.mul_le_mul (Nat.le_of_lt h1) h2
  omega
