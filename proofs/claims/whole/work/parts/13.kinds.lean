/-! SHAPES of all that is made; KINDS; ACTS of the program -/
def xSF : XS := [
  .inr (9, [some (.ref 1), some (.ref 13), some (.ref 25), some (.ref 33), none, some (.ref 41), some (.ref 45), some (.ref 59), some (.ref 61)]),
  .inr (2, [some (.ref 2), some (.ref 3), some (.ref 4), some (.ref 5), some (.ref 6), some (.ref 7), some (.ref 8), some (.ref 9), none, none, none, none, none, none, some (.ref 10)]),
  .inl (0, 16),
  .inl (0, 6),
  .inl (0, 6),
  .inl (0, 6),
  .inl (0, 6),
  .inl (0, 24),
  .inl (0, 6),
  .inl (0, 96),
  .inr (7, [some (.ref 11), some (.ref 12)]),
  .inl (0, 16),
  .inl (0, 16),
  .inr (2, [some (.ref 14), some (.ref 15), some (.ref 16), some (.ref 17), some (.ref 18), some (.ref 19), some (.ref 20), some (.ref 21), none, none, none, none, none, none, some (.ref 22)]),
  .inl (0, 16),
  .inl (0, 6),
  .inl (0, 6),
  .inl (0, 6),
  .inl (0, 6),
  .inl (0, 24),
  .inl (0, 6),
  .inl (0, 96),
  .inr (7, [some (.ref 23), some (.ref 24)]),
  .inl (0, 16),
  .inl (0, 16),
  .inr (5, [some (.ref 26), some (.ref 27), some (.ref 28), some (.ref 29), some (.ref 30), some (.ref 31), some (.ref 32), none, none, none]),
  .inl (0, 5),
  .inl (0, 5),
  .inl (0, 5),
  .inl (0, 10),
  .inl (0, 10),
  .inl (0, 8),
  .inl (0, 8),
  .inr (5, [some (.ref 34), some (.ref 35), some (.ref 36), some (.ref 37), some (.ref 38), some (.ref 39), some (.ref 40), none, none, none]),
  .inl (0, 5),
  .inl (0, 5),
  .inl (0, 5),
  .inl (0, 10),
  .inl (0, 10),
  .inl (0, 8),
  .inl (0, 8),
  .inr (6, [some (.ref 42), some (.ref 43), none, none, none, none, none, none, none, none, some (.ref 44), none]),
  .inl (1, 700),
  .inl (0, 7),
  .inl (0, 16),
  .inr (1, [some (.ref 1), some (.ref 25), some (.ref 41), some (.ref 46), some (.ref 58)]),
  .inr (2, [some (.ref 47), some (.ref 48), some (.ref 49), some (.ref 50), some (.ref 51), some (.ref 52), some (.ref 53), some (.ref 54), none, none, none, none, none, none, some (.ref 55)]),
  .inl (0, 16),
  .inl (0, 6),
  .inl (0, 6),
  .inl (0, 6),
  .inl (0, 6),
  .inl (0, 24),
  .inl (0, 6),
  .inl (0, 96),
  .inr (7, [some (.ref 56), some (.ref 57)]),
  .inl (0, 16),
  .inl (0, 16),
  .inl (0, 6),
  .inr (0, [some (.ref 60), none, none, none, none]),
  .inl (0, 20),
  .inr (8, [some (.ref 62), some (.ref 63), some (.ref 64)]),
  .inl (3, 360),
  .inl (0, 6),
  .inl (0, 6),
  .inr (10, [none, none, none, none, some (.ref 66), some (.ref 67), some (.ref 68), some (.ref 69), some (.ref 70), some (.ref 71), none, none, none, none, none, some (.ref 72), some (.ref 73), some (.ref 74), some (.ref 75), some (.ref 76), some (.ref 77), some (.ref 78), some (.ref 79), none, none, none, some (.ref 80), some (.ref 81), some (.ref 82), some (.ref 83), some (.ref 84), none, some (.ref 85), none, none, none, none, some (.ref 86), some (.ref 87), none, some (.ref 88), some (.ref 89), some (.ref 90), none, none, some (.ref 91), some (.ref 92), some (.ref 93), some (.ref 94), none, none, none, none, none, none, none, none, none, some (.ref 95), some (.ref 96), some (.ref 97), some (.ref 98), some (.ref 99), some (.ref 100), some (.ref 101), some (.ref 102), some (.ref 103), some (.ref 104), some (.ref 105), some (.ref 106), some (.ref 107), none, some (.ref 108), some (.ref 109), some (.ref 110), some (.ref 111), some (.ref 112)]),
  .inl (0, 16),
  .inl (0, 6),
  .inl (0, 6),
  .inl (0, 6),
  .inl (0, 6),
  .inl (0, 24),
  .inl (0, 100),
  .inl (0, 6),
  .inl (0, 60),
  .inl (0, 60),
  .inl (0, 60),
  .inl (0, 60),
  .inl (0, 600),
  .inl (0, 101),
  .inl (0, 12),
  .inl (2, 100),
  .inl (0, 16),
  .inl (0, 16),
  .inl (0, 16),
  .inl (0, 384),
  .inl (0, 16),
  .inl (0, 16),
  .inl (0, 5),
  .inl (0, 5),
  .inl (0, 5),
  .inl (0, 10),
  .inl (0, 10),
  .inl (0, 8),
  .inl (0, 8),
  .inl (0, 16),
  .inl (0, 6),
  .inl (0, 6),
  .inl (0, 6),
  .inl (0, 6),
  .inl (0, 24),
  .inl (0, 5),
  .inl (0, 5),
  .inl (0, 5),
  .inl (0, 10),
  .inl (0, 10),
  .inl (0, 8),
  .inl (0, 8),
  .inl (0, 20),
  .inl (0, 6),
  .inl (0, 6),
  .inl (3, 360),
  .inl (3, 60)]
theorem xSF_len : xSF.length = xN := by decide +kernel
/-- above: the kind above, none for the first -/
def kAb (k : Nat) : Option Nat := ([none, some 0, some 0, some 0, some 1, some 2, some 3] : List (Option Nat)).getD k none
def oI (o : Option Nat) : Int32 := match o with
  | none => -1
  | some k => nI k
def kBT (k act : Nat) : Nat := ([10, 11, 12, 0, 20, 0, 30, 0, 0, 0, 0, 40, 50, 51, 0, 0, 0, 60, 71, 70, 0] : List Nat).getD (k * 3 + act) 0
theorem kAb_tab : ∀ k, k < 7 → xtv 1 k = oI (kAb k) := by decide +kernel
theorem kAb_lt : ∀ k, k < 7 → ∀ q, kAb k = some q → q < 7 := by decide +kernel
theorem kBT_tab : ∀ k, k < 7 → ∀ a, a < 3 → xtv 0 (k * 3 + a) = nI (kBT k a) ∧ kBT k a < 100 := by decide +kernel
def isU : Nat → Option Nat → Nat → Bool
  | 0, _, _ => false
  | _ + 1, none, _ => false
  | n + 1, some k, o => if k = o then true else isU n (kAb k) o
def isU7 (k o : Nat) : Bool := isU 7 (some k) o
section P13
variable {g : XG} {d : Nat} {S : XS} {M : XM} {K : Option Value → XS → XM → Prop}
theorem sp_X4_isKind {c : Int32} (h : K (some (.int (nI (b2n (isR c 7))))) S M) : Ex g d yX4_isKind mX4_isKind [.int c] S M K := by
  refine x_entry kX4_isKind (Nat.le_of_ble_eq_true rfl) ?_
  show Wp g _ mX4_isKind 0 [some (.int c)] [] _ _ _ _
  refine x_iload_n (pc := 0) dX4_isKind_0 rfl ?_
  refine x_if_lt (pc := 1) (tgt := 14) dX4_isKind_1 (by decide) (fun h1 => ?_) (fun h1 => ?_)
  · skip
    refine x_iconstN (pc := 14) 0 dX4_isKind_14 ic_0 ?_
    refine x_ret (pc := 15) (v := some _) rfl (by first | rfl | decide | exact xrt_b) dX4_isKind_15 (by decide) ?_
    rw [show isR c 7 = false from decide_eq_false (fun q => absurd q.1 (Int32.not_le.mpr h1))] at h; exact h
  · skip
    refine x_iload_n (pc := 4) dX4_isKind_4 rfl ?_
    refine x_bipushN (pc := 5) 6 dX4_isKind_5 bp_6 ?_
    first | (guard_target =~ Wp _ _ _ _ _ (Value.int (nI _) :: Value.int (nI _) :: _) _ _ _ _; with_reducible refine x_icmp_gtN (pc := 7) (tgt := 14) ?_ ?_ dX4_isKind_7 ?_ (fun h7 => ?_) (fun h7 => ?_); (first | omega | exact b2n_31 _); (first | omega | exact b2n_31 _); decide) | refine x_icmp_gt (pc := 7) (tgt := 14) dX4_isKind_7 (by decide) (fun h7 => ?_) (fun h7 => ?_)
    · skip
      refine x_iconstN (pc := 14) 0 dX4_isKind_14 ic_0 ?_
      refine x_ret (pc := 15) (v := some _) rfl (by first | rfl | decide | exact xrt_b) dX4_isKind_15 (by decide) ?_
      rw [show isR c 7 = false from decide_eq_false (fun q => absurd (Int32.lt_iff_toInt_lt.mp q.2) (by have := Int32.lt_iff_toInt_lt.mp h7; rw [show (nI 6).toInt = 6 from rfl] at this; rw [show (7 : Int32).toInt = 7 from rfl]; omega))] at h; exact h
    · skip
      refine x_iconstN (pc := 10) 1 dX4_isKind_10 ic_1 ?_
      refine x_goto (pc := 11) (tgt := 15) dX4_isKind_11 (by decide) ?_
      refine x_ret (pc := 15) (v := some _) rfl (by first | rfl | decide | exact xrt_b) dX4_isKind_15 (by decide) ?_
      rw [show isR c 7 = true from decide_eq_true ⟨i0le h1, Int32.lt_iff_toInt_lt.mpr (by have := Int32.le_iff_toInt_le.mp (Int32.not_lt.mp h7); rw [show (nI 6).toInt = 6 from rfl] at this; rw [show (7 : Int32).toInt = 7 from rfl]; omega)⟩] at h; exact h
theorem isR_nI {k n : Nat} (hk : k < 2 ^ 31) (hn : n < 2 ^ 31) : isR (nI k) (nI n) = decide (k < n) := by
  unfold isR
  by_cases h : k < n
  · rw [decide_eq_true h, decide_eq_true ⟨nI_pos' hk, (nI_ltI hk hn).mpr h⟩]
  · rw [decide_eq_false h, decide_eq_false (fun q => h ((nI_ltI hk hn).mp q.2))]
theorem isR_m1 {n : Int32} : isR (-1) n = false := decide_eq_false (fun q => absurd q.1 (by decide))
theorem sp_X4_above {o : Option Nat} (ho : ∀ k, o = some k → k < 7) (h : K (some (.int (oI (o.bind kAb)))) S M) : Ex g (d + 1) yX4_above mX4_above [.int (oI o)] S M K := by
  refine x_entry kX4_above (Nat.le_of_ble_eq_true rfl) ?_
  show Wp g _ mX4_above 0 [some (.int (oI o))] [] _ _ _ _
  cases o with
  | none =>
    refine x_iload_n (pc := 0) dX4_above_0 rfl ?_
    refine x_invS1 (pc := 1) dX4_above_1 mlX4_9 stX4_isKind kX4_isKind (by decide) (by decide) ?_
    refine sp_X4_isKind (c := -1) ?_
    refine x_cv rfl rfl ?_
    rw [isR_m1]
    first | (guard_target =~ Wp _ _ _ _ _ (Value.int (nI _) :: _) _ _ _ _; with_reducible refine x_if_eqN (pc := 4) (tgt := 15) ?_ dX4_above_4 ?_ (fun h4 => ?_) (fun h4 => ?_); (first | omega | exact b2n_32 _ | exact b2n_31 _); decide) | refine x_if_eq (pc := 4) (tgt := 15) dX4_above_4 (by decide) (fun h4 => ?_) (fun h4 => ?_)
    · skip
      refine x_iconst (pc := 15) dX4_above_15 ic_m1 ?_
      refine x_ret (pc := 16) (v := some _) rfl trivial dX4_above_16 (by decide) ?_
      exact h
    · skip
      exact absurd rfl h4
  | some k =>
    have hk := ho k rfl
    show Wp g _ _ 0 [some (.int (nI k))] [] S (0, 0) M K
    have e : isR (nI k) 7 = true := by rw [show (7 : Int32) = nI 7 from rfl, isR_nI (by omega) (by decide)]; exact decide_eq_true hk
    refine x_iload_n (pc := 0) dX4_above_0 rfl ?_
    refine x_invS1 (pc := 1) dX4_above_1 mlX4_9 stX4_isKind kX4_isKind (by decide) (by decide) ?_
    refine sp_X4_isKind (c := nI k) ?_
    refine x_cv rfl rfl ?_
    rw [e]
    first | (guard_target =~ Wp _ _ _ _ _ (Value.int (nI _) :: _) _ _ _ _; with_reducible refine x_if_eqN (pc := 4) (tgt := 15) ?_ dX4_above_4 ?_ (fun h4 => ?_) (fun h4 => ?_); (first | omega | exact b2n_32 _ | exact b2n_31 _); decide) | refine x_if_eq (pc := 4) (tgt := 15) dX4_above_4 (by decide) (fun h4 => ?_) (fun h4 => ?_)
    · skip
      exact absurd h4 (by decide)
    · skip
      refine x_getsA (pc := 7) 1 (by decide) dX4_above_7 flX4_13 ?_
      refine x_iload_n (pc := 10) dX4_above_10 rfl ?_
      refine x_tiN (pc := 11) (by decide) dX4_above_11 (by first | with_reducible rfl | (simp only [xlit, nI_add, pk_mul]; with_reducible rfl)) (by show k < 7; exact hk) ?_
      refine x_goto (pc := 12) (tgt := 16) dX4_above_12 (by decide) ?_
      refine x_ret (pc := 16) (v := some _) rfl trivial dX4_above_16 (by decide) ?_
      have h2 : K (some (.int (oI (kAb k)))) S M := h; rw [← kAb_tab k hk] at h2; exact h2
end P13
