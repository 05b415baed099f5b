/-! TAPES of the program; bodyAt -/
def srt (k : Nat) : Int32 := match k with
  | 0 => -1
  | n + 1 => nI n
/-- what tapes hold: s the row of sorts (sizes behind it), q the items; T row 0: sort + 1, row 1: size -/
def TR (s q : Nat) (M : XM) (T : XA) (I : Nat → Int64) : Prop := (∀ t, t < 6 → M.1 s t = srt (T 0 t) ∧ T 0 t ≤ 5 ∧ M.1 (s + 1) t = nI (T 1 t) ∧ T 1 t ≤ 60) ∧ ∀ k, k < 360 → M.2 q k = I k
/-- only these numbers change -/
def tsame (s q : Nat) (M M' : XM) : Prop := (∀ a, a ≠ s → a ≠ s + 1 → M'.1 a = M.1 a) ∧ ∀ a, a ≠ q → M'.2 a = M.2 a
def nar (k : Nat) (v : Int64) : Int64 := match k with
  | 1 => v.toInt32.toInt8.toInt32.toInt64
  | 2 => v.toInt32.toInt16.toInt32.toInt64
  | 3 => v.toInt32.toInt64
  | 5 => if v = 0 then 0 else 1
  | _ => v
def iRen (I : Nat → Int64) (t : Nat) : Nat → Int64 := fun j => if 60 * t ≤ j ∧ j < 60 * t + 60 then 0 else I j
def iPut (I : Nat → Int64) (p : Nat) (v : Int64) : Nat → Int64 := fun j => if j = p then v else I j
def iCpy (I : Nat → Int64) (p o n : Nat) : Nat → Int64 := fun j => if o ≤ j ∧ j < o + n then I (p + (j - o)) else I j
theorem xputL_1 {M : XM} {a k : Nat} {x : Int64} : (xputL M a k x).1 = M.1 := rfl
theorem srt_m1 {k : Nat} (hk : k ≤ 5) : srt k = -1 ↔ k = 0 := by
  rcases k with _ | n
  · simp [srt]
  · simp only [srt, Nat.succ_ne_zero, iff_false]
    have : n = 0 ∨ n = 1 ∨ n = 2 ∨ n = 3 ∨ n = 4 := by omega
    rcases this with rfl | rfl | rfl | rfl | rfl <;> decide
theorem srt_neg {k : Nat} (hk : k ≤ 5) : srt k < 0 ↔ k = 0 := by
  rcases k with _ | n
  · simp [srt]
  · simp only [srt, Nat.succ_ne_zero, iff_false]
    have : n = 0 ∨ n = 1 ∨ n = 2 ∨ n = 3 ∨ n = 4 := by omega
    rcases this with rfl | rfl | rfl | rfl | rfl <;> decide
theorem srt_inj {a b : Nat} (ha : a ≤ 5) (hb : b ≤ 5) (h : srt a = srt b) : a = b := by
  have : ∀ a, a ≤ 5 → ∀ b, b ≤ 5 → srt a = srt b → a = b := by decide +kernel
  exact this a ha b hb h
theorem isR_neg {x n : Int32} (h : x < 0) : isR x n = false := decide_eq_false (fun q => absurd h (Int32.not_lt.mpr q.1))
theorem isR_big {x n : Int32} (h : n ≤ x) : isR x n = false := decide_eq_false (fun q => absurd q.2 (Int32.not_lt.mpr h))
theorem isR_iff {x : Int32} {n : Nat} (hn : n < 2 ^ 31) : isR x (nI n) = true ↔ ∃ j, j < n ∧ x = nI j := by
  constructor
  · intro h
    rcases pk_ix x hn with q | q | q
    · rw [isR_neg q] at h; cases h
    · rw [isR_big q] at h; cases h
    · exact q
  · rintro ⟨j, hj, rfl⟩
    rw [isR_nI (by omega) hn]; exact decide_eq_true hj
theorem lcmp0 {v : Int64} : lg_cmp v 0 = 0 ↔ v = 0 := by
  unfold lg_cmp
  constructor
  · intro h
    by_cases h1 : v > 0
    · rw [if_pos h1] at h; cases h
    · rw [if_neg h1] at h
      by_cases h2 : v = 0
      · exact h2
      · rw [if_neg h2] at h; cases h
  · rintro rfl
    decide
section P26
variable {g : XG} {d : Nat} {S : XS} {M : XM} {K : Option Value → XS → XM → Prop} {T : XA} {I : Nat → Int64}
theorem sp_X8_isTape {c : Int32} (h : K (some (.int (nI (b2n (isR c 6))))) S M) : Ex g d yX8_isTape mX8_isTape [.int c] S M K := by
  refine x_entry kX8_isTape (Nat.le_of_ble_eq_true rfl) ?_
  show Wp g _ mX8_isTape 0 [some (.int c)] [] _ _ _ _
  refine x_iload_n (pc := 0) dX8_isTape_0 rfl ?_
  refine x_if_lt (pc := 1) (tgt := 14) dX8_isTape_1 (by decide) (fun h1 => ?_) (fun h1 => ?_)
  · skip
    refine x_iconstN (pc := 14) 0 dX8_isTape_14 ic_0 ?_
    refine x_ret (pc := 15) (v := some _) rfl (by first | rfl | decide | exact xrt_b) dX8_isTape_15 (by decide) ?_
    rw [show isR c 6 = false from isR_neg h1] at h; exact h
  · skip
    refine x_iload_n (pc := 4) dX8_isTape_4 rfl ?_
    refine x_bipushN (pc := 5) 6 dX8_isTape_5 bp_6 ?_
    first | (guard_target =~ Wp _ _ _ _ _ (Value.int (nI _) :: Value.int (nI _) :: _) _ _ _ _; with_reducible refine x_icmp_geN (pc := 7) (tgt := 14) ?_ ?_ dX8_isTape_7 ?_ (fun h7 => ?_) (fun h7 => ?_); (first | omega | exact b2n_31 _); (first | omega | exact b2n_31 _); decide) | refine x_icmp_ge (pc := 7) (tgt := 14) dX8_isTape_7 (by decide) (fun h7 => ?_) (fun h7 => ?_)
    · skip
      refine x_iconstN (pc := 14) 0 dX8_isTape_14 ic_0 ?_
      refine x_ret (pc := 15) (v := some _) rfl (by first | rfl | decide | exact xrt_b) dX8_isTape_15 (by decide) ?_
      rw [show isR c 6 = false from isR_big h7] at h; exact h
    · skip
      refine x_iconstN (pc := 10) 1 dX8_isTape_10 ic_1 ?_
      refine x_goto (pc := 11) (tgt := 15) dX8_isTape_11 (by decide) ?_
      refine x_ret (pc := 15) (v := some _) rfl (by first | rfl | decide | exact xrt_b) dX8_isTape_15 (by decide) ?_
      rw [show isR c 6 = true from decide_eq_true ⟨i0le h1, Int32.not_le.mp h7⟩] at h; exact h
theorem sp_X8_isEmpty {t : Nat} (hR : TR 63 62 M T I) (ht : t < 6) (h : K (some (.int (nI (b2n (decide (T 0 t = 0)))))) xSF M) : Ex g d yX8_isEmpty mX8_isEmpty [.ref 61, .int (nI t)] xSF M K := by
  obtain ⟨e1, e2, e3, e4⟩ := hR.1 t ht
  refine x_entry kX8_isEmpty (Nat.le_of_ble_eq_true rfl) ?_
  show Wp g _ mX8_isEmpty 0 [some (.ref 61), some (.int (nI t))] [] _ _ _ _
  refine x_aload_n (pc := 0) dX8_isEmpty_0 rfl ?_
  refine x_getR (pc := 1) dX8_isEmpty_1 flX8_13 (by first | assumption | rfl) rfl ?_
  refine x_iload_n (pc := 4) dX8_isEmpty_4 rfl ?_
  refine x_ialdN (pc := 5) dX8_isEmpty_5 (by first | assumption | rfl) (by first | with_reducible rfl | (simp only [xlit, nI_add, pk_mul]; with_reducible rfl)) (by omega) (by decide) ?_
  rw [e1]
  refine x_iconst (pc := 6) dX8_isEmpty_6 ic_m1 ?_
  first | (guard_target =~ Wp _ _ _ _ _ (Value.int (nI _) :: Value.int (nI _) :: _) _ _ _ _; with_reducible refine x_icmp_neN (pc := 7) (tgt := 14) ?_ ?_ dX8_isEmpty_7 ?_ (fun h7 => ?_) (fun h7 => ?_); (first | omega | exact b2n_31 _); (first | omega | exact b2n_31 _); decide) | refine x_icmp_ne (pc := 7) (tgt := 14) dX8_isEmpty_7 (by decide) (fun h7 => ?_) (fun h7 => ?_)
  · skip
    refine x_iconstN (pc := 14) 0 dX8_isEmpty_14 ic_0 ?_
    refine x_ret (pc := 15) (v := some _) rfl (by first | rfl | decide | exact xrt_b) dX8_isEmpty_15 (by decide) ?_
    rw [decide_eq_false (fun q => h7 ((srt_m1 e2).mpr q))] at h; exact h
  · skip
    refine x_iconstN (pc := 10) 1 dX8_isEmpty_10 ic_1 ?_
    refine x_goto (pc := 11) (tgt := 15) dX8_isEmpty_11 (by decide) ?_
    refine x_ret (pc := 15) (v := some _) rfl (by first | rfl | decide | exact xrt_b) dX8_isEmpty_15 (by decide) ?_
    rw [decide_eq_true ((srt_m1 e2).mp h7)] at h; exact h
theorem sp_X8_sortOf {t : Nat} (hR : TR 63 62 M T I) (ht : t < 6) (h : K (some (.int (srt (T 0 t)))) xSF M) : Ex g d yX8_sortOf mX8_sortOf [.ref 61, .int (nI t)] xSF M K := by
  obtain ⟨e1, e2, e3, e4⟩ := hR.1 t ht
  refine x_entry kX8_sortOf (Nat.le_of_ble_eq_true rfl) ?_
  show Wp g _ mX8_sortOf 0 [some (.ref 61), some (.int (nI t))] [] _ _ _ _
  refine x_aload_n (pc := 0) dX8_sortOf_0 rfl ?_
  refine x_getR (pc := 1) dX8_sortOf_1 flX8_13 (by first | assumption | rfl) rfl ?_
  refine x_iload_n (pc := 4) dX8_sortOf_4 rfl ?_
  refine x_ialdN (pc := 5) dX8_sortOf_5 (by first | assumption | rfl) (by first | with_reducible rfl | (simp only [xlit, nI_add, pk_mul]; with_reducible rfl)) (by omega) (by decide) ?_
  rw [e1]
  refine x_ret (pc := 6) (v := some _) rfl trivial dX8_sortOf_6 (by decide) ?_
  exact h
theorem sp_X8_hasPlace {t : Nat} {i : Int32} (hR : TR 63 62 M T I) (ht : t < 6) (h : K (some (.int (nI (b2n (isR i (nI (T 1 t))))))) xSF M) : Ex g (d + 1) yX8_hasPlace mX8_hasPlace [.ref 61, .int (nI t), .int i] xSF M K := by
  obtain ⟨e1, e2, e3, e4⟩ := hR.1 t ht
  have e0 : isR (nI t) 6 = true := decide_eq_true ⟨nI_pos' (by omega), (nI_ltI (b := 6) (by omega) (by omega)).mpr (by omega)⟩
  refine x_entry kX8_hasPlace (Nat.le_of_ble_eq_true rfl) ?_
  show Wp g _ mX8_hasPlace 0 [some (.ref 61), some (.int (nI t)), some (.int i)] [] _ _ _ _
  refine x_iload_n (pc := 0) dX8_hasPlace_0 rfl ?_
  refine x_invS1 (pc := 1) dX8_hasPlace_1 mlX8_20 stX8_isTape kX8_isTape (Nat.le_of_ble_eq_true rfl) (by decide) ?_
  refine sp_X8_isTape ?_
  refine x_cv rfl rfl ?_
  rw [e0]
  first | (guard_target =~ Wp _ _ _ _ _ (Value.int (nI _) :: _) _ _ _ _; with_reducible refine x_if_eqN (pc := 4) (tgt := 25) ?_ dX8_hasPlace_4 ?_ (fun h4 => ?_) (fun h4 => ?_); (first | omega | exact b2n_32 _ | exact b2n_31 _); decide) | refine x_if_eq (pc := 4) (tgt := 25) dX8_hasPlace_4 (by decide) (fun h4 => ?_) (fun h4 => ?_)
  · skip
    cases h4
  · skip
    refine x_iload_n (pc := 7) dX8_hasPlace_7 rfl ?_
    refine x_if_lt (pc := 8) (tgt := 25) dX8_hasPlace_8 (by decide) (fun h8 => ?_) (fun h8 => ?_)
    · skip
      refine x_iconstN (pc := 25) 0 dX8_hasPlace_25 ic_0 ?_
      refine x_ret (pc := 26) (v := some _) rfl (by first | rfl | decide | exact xrt_b) dX8_hasPlace_26 (by decide) ?_
      rw [isR_neg h8] at h; exact h
    · skip
      refine x_iload_n (pc := 11) dX8_hasPlace_11 rfl ?_
      refine x_aload_n (pc := 12) dX8_hasPlace_12 rfl ?_
      refine x_getR (pc := 13) dX8_hasPlace_13 flX8_17 (by first | assumption | rfl) rfl ?_
      refine x_iload_n (pc := 16) dX8_hasPlace_16 rfl ?_
      refine x_ialdN (pc := 17) dX8_hasPlace_17 (by first | assumption | rfl) (by first | with_reducible rfl | (simp only [xlit, nI_add, pk_mul]; with_reducible rfl)) (by omega) (by decide) ?_
      rw [e3]
      first | (guard_target =~ Wp _ _ _ _ _ (Value.int (nI _) :: Value.int (nI _) :: _) _ _ _ _; with_reducible refine x_icmp_geN (pc := 18) (tgt := 25) ?_ ?_ dX8_hasPlace_18 ?_ (fun h18 => ?_) (fun h18 => ?_); (first | omega | exact b2n_31 _); (first | omega | exact b2n_31 _); decide) | refine x_icmp_ge (pc := 18) (tgt := 25) dX8_hasPlace_18 (by decide) (fun h18 => ?_) (fun h18 => ?_)
      · skip
        refine x_iconstN (pc := 25) 0 dX8_hasPlace_25 ic_0 ?_
        refine x_ret (pc := 26) (v := some _) rfl (by first | rfl | decide | exact xrt_b) dX8_hasPlace_26 (by decide) ?_
        rw [isR_big h18] at h; exact h
      · skip
        refine x_iconstN (pc := 21) 1 dX8_hasPlace_21 ic_1 ?_
        refine x_goto (pc := 22) (tgt := 26) dX8_hasPlace_22 (by decide) ?_
        refine x_ret (pc := 26) (v := some _) rfl (by first | rfl | decide | exact xrt_b) dX8_hasPlace_26 (by decide) ?_
        rw [show isR i (nI (T 1 t)) = true from decide_eq_true ⟨i0le h8, Int32.not_le.mp h18⟩] at h; exact h
theorem sp_X8_hasPlaceOut {x i : Int32} (hx : isR x 6 = false) (h : K (some (.int (nI 0))) xSF M) : Ex g (d + 1) yX8_hasPlace mX8_hasPlace [.ref 61, .int x, .int i] xSF M K := by
  refine x_entry kX8_hasPlace (Nat.le_of_ble_eq_true rfl) ?_
  show Wp g _ mX8_hasPlace 0 [some (.ref 61), some (.int x), some (.int i)] [] _ _ _ _
  refine x_iload_n (pc := 0) dX8_hasPlace_0 rfl ?_
  refine x_invS1 (pc := 1) dX8_hasPlace_1 mlX8_20 stX8_isTape kX8_isTape (Nat.le_of_ble_eq_true rfl) (by decide) ?_
  refine sp_X8_isTape ?_
  refine x_cv rfl rfl ?_
  rw [hx]
  first | (guard_target =~ Wp _ _ _ _ _ (Value.int (nI _) :: _) _ _ _ _; with_reducible refine x_if_eqN (pc := 4) (tgt := 25) ?_ dX8_hasPlace_4 ?_ (fun h4 => ?_) (fun h4 => ?_); (first | omega | exact b2n_32 _ | exact b2n_31 _); decide) | refine x_if_eq (pc := 4) (tgt := 25) dX8_hasPlace_4 (by decide) (fun h4 => ?_) (fun h4 => ?_)
  · skip
    refine x_iconstN (pc := 25) 0 dX8_hasPlace_25 ic_0 ?_
    refine x_ret (pc := 26) (v := some _) rfl (by first | rfl | decide | exact xrt_b) dX8_hasPlace_26 (by decide) ?_
    exact h
  · skip
    exact absurd rfl h4
/-- whether a stretch lies on a tape of z items -/
def isS (i n : Int32) (z : Nat) : Bool := decide (0 ≤ i ∧ 0 ≤ n ∧ i ≤ nI z ∧ n ≤ nI z - i)
theorem sp_X8_hasStretch {t : Nat} {i n : Int32} (hR : TR 63 62 M T I) (ht : t < 6) (h : K (some (.int (nI (b2n (isS i n (T 1 t)))))) xSF M) : Ex g d yX8_hasStretch mX8_hasStretch [.ref 61, .int (nI t), .int i, .int n] xSF M K := by
  obtain ⟨e1, e2, e3, e4⟩ := hR.1 t ht
  refine x_entry kX8_hasStretch (Nat.le_of_ble_eq_true rfl) ?_
  show Wp g _ mX8_hasStretch 0 [some (.ref 61), some (.int (nI t)), some (.int i), some (.int n)] [] _ _ _ _
  refine x_iload_n (pc := 0) dX8_hasStretch_0 rfl ?_
  refine x_if_lt (pc := 1) (tgt := 34) dX8_hasStretch_1 (by decide) (fun h1 => ?_) (fun h1 => ?_)
  · skip
    refine x_iconstN (pc := 34) 0 dX8_hasStretch_34 ic_0 ?_
    refine x_ret (pc := 35) (v := some _) rfl (by first | rfl | decide | exact xrt_b) dX8_hasStretch_35 (by decide) ?_
    rw [show isS i n (T 1 t) = false from decide_eq_false (fun q => absurd h1 (Int32.not_lt.mpr q.1))] at h; exact h
  · skip
    refine x_iload_n (pc := 4) dX8_hasStretch_4 rfl ?_
    refine x_if_lt (pc := 5) (tgt := 34) dX8_hasStretch_5 (by decide) (fun h5 => ?_) (fun h5 => ?_)
    · skip
      refine x_iconstN (pc := 34) 0 dX8_hasStretch_34 ic_0 ?_
      refine x_ret (pc := 35) (v := some _) rfl (by first | rfl | decide | exact xrt_b) dX8_hasStretch_35 (by decide) ?_
      rw [show isS i n (T 1 t) = false from decide_eq_false (fun q => absurd h5 (Int32.not_lt.mpr q.2.1))] at h; exact h
    · skip
      refine x_iload_n (pc := 8) dX8_hasStretch_8 rfl ?_
      refine x_aload_n (pc := 9) dX8_hasStretch_9 rfl ?_
      refine x_getR (pc := 10) dX8_hasStretch_10 flX8_17 (by first | assumption | rfl) rfl ?_
      refine x_iload_n (pc := 13) dX8_hasStretch_13 rfl ?_
      refine x_ialdN (pc := 14) dX8_hasStretch_14 (by first | assumption | rfl) (by first | with_reducible rfl | (simp only [xlit, nI_add, pk_mul]; with_reducible rfl)) (by omega) (by decide) ?_
      rw [e3]
      first | (guard_target =~ Wp _ _ _ _ _ (Value.int (nI _) :: Value.int (nI _) :: _) _ _ _ _; with_reducible refine x_icmp_gtN (pc := 15) (tgt := 34) ?_ ?_ dX8_hasStretch_15 ?_ (fun h15 => ?_) (fun h15 => ?_); (first | omega | exact b2n_31 _); (first | omega | exact b2n_31 _); decide) | refine x_icmp_gt (pc := 15) (tgt := 34) dX8_hasStretch_15 (by decide) (fun h15 => ?_) (fun h15 => ?_)
      · skip
        refine x_iconstN (pc := 34) 0 dX8_hasStretch_34 ic_0 ?_
        refine x_ret (pc := 35) (v := some _) rfl (by first | rfl | decide | exact xrt_b) dX8_hasStretch_35 (by decide) ?_
        rw [show isS i n (T 1 t) = false from decide_eq_false (fun q => absurd h15 (Int32.not_lt.mpr q.2.2.1))] at h; exact h
      · skip
        refine x_iload_n (pc := 18) dX8_hasStretch_18 rfl ?_
        refine x_aload_n (pc := 19) dX8_hasStretch_19 rfl ?_
        refine x_getR (pc := 20) dX8_hasStretch_20 flX8_17 (by first | assumption | rfl) rfl ?_
        refine x_iload_n (pc := 23) dX8_hasStretch_23 rfl ?_
        refine x_ialdN (pc := 24) dX8_hasStretch_24 (by first | assumption | rfl) (by first | with_reducible rfl | (simp only [xlit, nI_add, pk_mul]; with_reducible rfl)) (by omega) (by decide) ?_
        rw [e3]
        refine x_iload_n (pc := 25) dX8_hasStretch_25 rfl ?_
        first | (guard_target =~ Wp _ _ _ _ _ (Value.int (nI _) :: Value.int (nI _) :: _) _ _ _ _; with_reducible refine x_isubN (pc := 26) ?_ dX8_hasStretch_26 ?_; omega) | refine x_isub (pc := 26) dX8_hasStretch_26 ?_
        first | (guard_target =~ Wp _ _ _ _ _ (Value.int (nI _) :: Value.int (nI _) :: _) _ _ _ _; with_reducible refine x_icmp_gtN (pc := 27) (tgt := 34) ?_ ?_ dX8_hasStretch_27 ?_ (fun h27 => ?_) (fun h27 => ?_); (first | omega | exact b2n_31 _); (first | omega | exact b2n_31 _); decide) | refine x_icmp_gt (pc := 27) (tgt := 34) dX8_hasStretch_27 (by decide) (fun h27 => ?_) (fun h27 => ?_)
        · skip
          refine x_iconstN (pc := 34) 0 dX8_hasStretch_34 ic_0 ?_
          refine x_ret (pc := 35) (v := some _) rfl (by first | rfl | decide | exact xrt_b) dX8_hasStretch_35 (by decide) ?_
          rw [show isS i n (T 1 t) = false from decide_eq_false (fun q => absurd h27 (Int32.not_lt.mpr q.2.2.2))] at h; exact h
        · skip
          refine x_iconstN (pc := 30) 1 dX8_hasStretch_30 ic_1 ?_
          refine x_goto (pc := 31) (tgt := 35) dX8_hasStretch_31 (by decide) ?_
          refine x_ret (pc := 35) (v := some _) rfl (by first | rfl | decide | exact xrt_b) dX8_hasStretch_35 (by decide) ?_
          rw [show isS i n (T 1 t) = true from decide_eq_true ⟨i0le h1, i0le h5, Int32.not_lt.mp h15, Int32.not_lt.mp h27⟩] at h; exact h
theorem sp_X8_itemAt {t i : Nat} (hR : TR 63 62 M T I) (ht : t < 6) (hi : i < 60) (h : K (some (.long (I (60 * t + i)))) xSF M) : Ex g d yX8_itemAt mX8_itemAt [.ref 61, .int (nI t), .int (nI i)] xSF M K := by
  refine x_entry kX8_itemAt (Nat.le_of_ble_eq_true rfl) ?_
  show Wp g _ mX8_itemAt 0 [some (.ref 61), some (.int (nI t)), some (.int (nI i))] [] _ _ _ _
  refine x_aload_n (pc := 0) dX8_itemAt_0 rfl ?_
  refine x_getR (pc := 1) dX8_itemAt_1 flX8_9 (by first | assumption | rfl) rfl ?_
  refine x_iload_n (pc := 4) dX8_itemAt_4 rfl ?_
  refine x_bipushN (pc := 5) 60 dX8_itemAt_5 bp_60 ?_
  first | (guard_target =~ Wp _ _ _ _ _ (Value.int (nI _) :: Value.int (nI _) :: _) _ _ _ _; with_reducible refine x_imulN (pc := 7) dX8_itemAt_7 ?_) | refine x_imul (pc := 7) dX8_itemAt_7 ?_
  refine x_iload_n (pc := 8) dX8_itemAt_8 rfl ?_
  first | (guard_target =~ Wp _ _ _ _ _ (Value.int (nI _) :: Value.int (nI _) :: _) _ _ _ _; with_reducible refine x_iaddN (pc := 9) dX8_itemAt_9 ?_) | refine x_iadd (pc := 9) dX8_itemAt_9 ?_
  refine x_laldN (pc := 10) dX8_itemAt_10 (by first | assumption | rfl) (by first | with_reducible rfl | (simp only [xlit, nI_add, pk_mul]; with_reducible rfl)) (by omega) (by decide) ?_
  rw [hR.2 _ (by omega), Nat.mul_comm]
  refine x_ret (pc := 11) (v := some _) rfl trivial dX8_itemAt_11 (by decide) ?_
  exact h
theorem sp_X8_narrowed {k : Nat} {v : Int64} (hk : k ≤ 5) (h0 : k ≠ 0) (h : K (some (.long (nar k v))) S M) : Ex g d yX8_narrowed mX8_narrowed [.long v, .int (srt k)] S M K := by
  have hh : k = 1 ∨ k = 2 ∨ k = 3 ∨ k = 4 ∨ k = 5 := by omega
  rcases hh with rfl | rfl | rfl | rfl | rfl
  · skip
    refine x_entry kX8_narrowed (Nat.le_of_ble_eq_true rfl) ?_
    show Wp g _ mX8_narrowed 0 [some (.long v), none, some (.int (srt 1))] [] _ _ _ _
    refine x_iload_n (pc := 0) dX8_narrowed_0 rfl ?_
    refine x_tableIn (pc := 1) (off := 35) (tgt := 36) dX8_narrowed_1 (by decide) (by decide) (by decide) (by decide) ?_
    refine x_lload_n (pc := 36) dX8_narrowed_36 rfl ?_
    refine x_l2i (pc := 37) dX8_narrowed_37 ?_
    refine x_i2b (pc := 38) dX8_narrowed_38 ?_
    refine x_i2l (pc := 39) dX8_narrowed_39 ?_
    refine x_ret (pc := 40) (v := some _) rfl trivial dX8_narrowed_40 (by decide) ?_
    exact h
  · skip
    refine x_entry kX8_narrowed (Nat.le_of_ble_eq_true rfl) ?_
    show Wp g _ mX8_narrowed 0 [some (.long v), none, some (.int (srt 2))] [] _ _ _ _
    refine x_iload_n (pc := 0) dX8_narrowed_0 rfl ?_
    refine x_tableIn (pc := 1) (off := 40) (tgt := 41) dX8_narrowed_1 (by decide) (by decide) (by decide) (by decide) ?_
    refine x_lload_n (pc := 41) dX8_narrowed_41 rfl ?_
    refine x_l2i (pc := 42) dX8_narrowed_42 ?_
    refine x_i2s (pc := 43) dX8_narrowed_43 ?_
    refine x_i2l (pc := 44) dX8_narrowed_44 ?_
    refine x_ret (pc := 45) (v := some _) rfl trivial dX8_narrowed_45 (by decide) ?_
    exact h
  · skip
    refine x_entry kX8_narrowed (Nat.le_of_ble_eq_true rfl) ?_
    show Wp g _ mX8_narrowed 0 [some (.long v), none, some (.int (srt 3))] [] _ _ _ _
    refine x_iload_n (pc := 0) dX8_narrowed_0 rfl ?_
    refine x_tableIn (pc := 1) (off := 45) (tgt := 46) dX8_narrowed_1 (by decide) (by decide) (by decide) (by decide) ?_
    refine x_lload_n (pc := 46) dX8_narrowed_46 rfl ?_
    refine x_l2i (pc := 47) dX8_narrowed_47 ?_
    refine x_i2l (pc := 48) dX8_narrowed_48 ?_
    refine x_ret (pc := 49) (v := some _) rfl trivial dX8_narrowed_49 (by decide) ?_
    exact h
  · skip
    refine x_entry kX8_narrowed (Nat.le_of_ble_eq_true rfl) ?_
    show Wp g _ mX8_narrowed 0 [some (.long v), none, some (.int (srt 4))] [] _ _ _ _
    refine x_iload_n (pc := 0) dX8_narrowed_0 rfl ?_
    refine x_tableIn (pc := 1) (off := 61) (tgt := 62) dX8_narrowed_1 (by decide) (by decide) (by decide) (by decide) ?_
    refine x_lload_n (pc := 62) dX8_narrowed_62 rfl ?_
    refine x_ret (pc := 63) (v := some _) rfl trivial dX8_narrowed_63 (by decide) ?_
    exact h
  · skip
    refine x_entry kX8_narrowed (Nat.le_of_ble_eq_true rfl) ?_
    show Wp g _ mX8_narrowed 0 [some (.long v), none, some (.int (srt 5))] [] _ _ _ _
    refine x_iload_n (pc := 0) dX8_narrowed_0 rfl ?_
    refine x_tableIn (pc := 1) (off := 49) (tgt := 50) dX8_narrowed_1 (by decide) (by decide) (by decide) (by decide) ?_
    refine x_lload_n (pc := 50) dX8_narrowed_50 rfl ?_
    refine x_lconst (pc := 51) (v := 0) dX8_narrowed_51 (by decide) ?_
    refine x_lcmp (pc := 52) dX8_narrowed_52 ?_
    first | (guard_target =~ Wp _ _ _ _ _ (Value.int (nI _) :: _) _ _ _ _; with_reducible refine x_if_eqN (pc := 53) (tgt := 60) ?_ dX8_narrowed_53 ?_ (fun h53 => ?_) (fun h53 => ?_); (first | omega | exact b2n_32 _ | exact b2n_31 _); decide) | refine x_if_eq (pc := 53) (tgt := 60) dX8_narrowed_53 (by decide) (fun h53 => ?_) (fun h53 => ?_)
    · skip
      refine x_lconst (pc := 60) (v := 0) dX8_narrowed_60 (by decide) ?_
      refine x_ret (pc := 61) (v := some _) rfl trivial dX8_narrowed_61 (by decide) ?_
      rw [show nar 5 v = 0 from if_pos ((lcmp0).mp h53)] at h; exact h
    · skip
      refine x_lconst (pc := 56) (v := 1) dX8_narrowed_56 (by decide) ?_
      refine x_goto (pc := 57) (tgt := 61) dX8_narrowed_57 (by decide) ?_
      refine x_ret (pc := 61) (v := some _) rfl trivial dX8_narrowed_61 (by decide) ?_
      rw [show nar 5 v = 1 from if_neg (fun q => h53 ((lcmp0).mpr q))] at h; exact h
theorem sp_X8_put {t i : Nat} {v : Int64} (hR : TR 63 62 M T I) (ht : t < 6) (hi : i < 60) (hn : T 0 t ≠ 0) (h : ∀ M', tsame 63 62 M M' → TR 63 62 M' T (iPut I (60 * t + i) (nar (T 0 t) v)) → K none xSF M') : Ex g (d + 1) yX8_put mX8_put [.ref 61, .int (nI t), .int (nI i), .long v] xSF M K := by
  obtain ⟨e1, e2, e3, e4⟩ := hR.1 t ht
  refine x_entry kX8_put (Nat.le_of_ble_eq_true rfl) ?_
  show Wp g _ mX8_put 0 [some (.ref 61), some (.int (nI t)), some (.int (nI i)), some (.long v), none] [] _ _ _ _
  refine x_aload_n (pc := 0) dX8_put_0 rfl ?_
  refine x_getR (pc := 1) dX8_put_1 flX8_9 (by first | assumption | rfl) rfl ?_
  refine x_iload_n (pc := 4) dX8_put_4 rfl ?_
  refine x_bipushN (pc := 5) 60 dX8_put_5 bp_60 ?_
  first | (guard_target =~ Wp _ _ _ _ _ (Value.int (nI _) :: Value.int (nI _) :: _) _ _ _ _; with_reducible refine x_imulN (pc := 7) dX8_put_7 ?_) | refine x_imul (pc := 7) dX8_put_7 ?_
  refine x_iload_n (pc := 8) dX8_put_8 rfl ?_
  first | (guard_target =~ Wp _ _ _ _ _ (Value.int (nI _) :: Value.int (nI _) :: _) _ _ _ _; with_reducible refine x_iaddN (pc := 9) dX8_put_9 ?_) | refine x_iadd (pc := 9) dX8_put_9 ?_
  refine x_lload_n (pc := 10) dX8_put_10 rfl ?_
  refine x_aload_n (pc := 11) dX8_put_11 rfl ?_
  refine x_getR (pc := 12) dX8_put_12 flX8_13 (by first | assumption | rfl) rfl ?_
  refine x_iload_n (pc := 15) dX8_put_15 rfl ?_
  refine x_ialdN (pc := 16) dX8_put_16 (by first | assumption | rfl) (by first | with_reducible rfl | (simp only [xlit, nI_add, pk_mul]; with_reducible rfl)) (by omega) (by decide) ?_
  rw [e1]
  refine x_invS2 (pc := 17) dX8_put_17 mlX8_24 stX8_narrowed kX8_narrowed (Nat.le_of_ble_eq_true rfl) (by decide) ?_
  refine sp_X8_narrowed e2 hn ?_
  refine x_cv rfl rfl ?_
  refine x_lastN (pc := 20) dX8_put_20 (by first | assumption | rfl) (by first | with_reducible rfl | (simp only [xlit, nI_add, pk_mul]; with_reducible rfl)) (by omega) (by decide) ?_
  refine x_ret (pc := 21) (v := none) rfl trivial dX8_put_21 (by decide) ?_
  refine h _ ⟨fun a _ _ => rfl, fun a ha => ?_⟩ ⟨fun t ht => hR.1 t ht, fun k hk => ?_⟩
  · exact funext fun k => if_neg (fun q => ha q.1)
  · rw [Nat.mul_comm]
    show (if _ then _ else _) = (if _ then _ else _)
    simp only [true_and, hR.2 k hk]
theorem sp_X8_renew {t k z : Nat} {n : Int32} (hR : TR 63 62 M T I) (ht : t < 6) (hk : k ≤ 5) (hz : z ≤ 60) (h0 : k = 0 → z = 0) (h1 : k ≠ 0 → n = nI z) (h : ∀ M', tsame 63 62 M M' → TR 63 62 M' (updA (updA T 0 t k) 1 t z) (iRen I t) → K none xSF M') : Ex g d yX8_renew mX8_renew [.ref 61, .int (nI t), .int (srt k), .int n] xSF M K := by
  refine x_entry kX8_renew (Nat.le_of_ble_eq_true rfl) ?_
  show Wp g _ mX8_renew 0 [some (.ref 61), some (.int (nI t)), some (.int (srt k)), some (.int n), none] [] _ _ _ _
  have loop : ∀ m i M', i + m = 60 → M'.1 = (xput (xput M 63 t (srt k)) 64 t (nI z)).1 → (∀ a j, M'.2 a j = if a = 62 ∧ 60 * t ≤ j ∧ j < 60 * t + i then 0 else M.2 a j) → Wp g d mX8_renew 26 [some (.ref 61), some (.int (nI t)), some (.int (srt k)), some (.int n), some (.int (nI i))] [] xSF (0, 0) M' K := by
    intro m
    have fin : ∀ M', M'.1 = (xput (xput M 63 t (srt k)) 64 t (nI z)).1 → (∀ a j, M'.2 a j = if a = 62 ∧ 60 * t ≤ j ∧ j < 60 * t + 60 then 0 else M.2 a j) → K none xSF M' := by
      intro M' q1 q2
      refine h M' ⟨fun a n1 n2 => ?_, fun a n1 => ?_⟩ ⟨fun u hu => ?_, fun j hj => ?_⟩
      · rw [q1]
        funext j
        simp [xput, n1, n2]
      · funext j
        rw [q2, if_neg (by simp [n1])]
      · obtain ⟨f1, f2, f3, f4⟩ := hR.1 u hu
        rw [q1]
        by_cases hut : u = t
        · subst hut
          simp [xput, updA, hk, hz]
        · simp [xput, updA, hut, f1, f2, f3, f4]
      · rw [q2, hR.2 j hj]
        simp [iRen]
    induction m with
    | zero =>
      intro i M' hi q1 q2
      obtain rfl : i = 60 := by omega
      refine x_iload (pc := 26) dX8_renew_26 rfl ?_
      refine x_bipushN (pc := 28) 60 dX8_renew_28 bp_60 ?_
      first | (guard_target =~ Wp _ _ _ _ _ (Value.int (nI _) :: Value.int (nI _) :: _) _ _ _ _; with_reducible refine x_icmp_geN (pc := 30) (tgt := 52) ?_ ?_ dX8_renew_30 ?_ (fun h30 => ?_) (fun h30 => ?_); (first | omega | exact b2n_31 _); (first | omega | exact b2n_31 _); decide) | refine x_icmp_ge (pc := 30) (tgt := 52) dX8_renew_30 (by decide) (fun h30 => ?_) (fun h30 => ?_)
      · skip
        refine x_ret (pc := 52) (v := none) rfl trivial dX8_renew_52 (by decide) ?_
        exact fin M' q1 q2
      · skip
        omega
    | succ m ih =>
      intro i M' hi q1 q2
      refine x_iload (pc := 26) dX8_renew_26 rfl ?_
      refine x_bipushN (pc := 28) 60 dX8_renew_28 bp_60 ?_
      first | (guard_target =~ Wp _ _ _ _ _ (Value.int (nI _) :: Value.int (nI _) :: _) _ _ _ _; with_reducible refine x_icmp_geN (pc := 30) (tgt := 52) ?_ ?_ dX8_renew_30 ?_ (fun h30 => ?_) (fun h30 => ?_); (first | omega | exact b2n_31 _); (first | omega | exact b2n_31 _); decide) | refine x_icmp_ge (pc := 30) (tgt := 52) dX8_renew_30 (by decide) (fun h30 => ?_) (fun h30 => ?_)
      · skip
        omega
      · skip
        refine x_aload_n (pc := 33) dX8_renew_33 rfl ?_
        refine x_getR (pc := 34) dX8_renew_34 flX8_9 (by first | assumption | rfl) rfl ?_
        refine x_iload_n (pc := 37) dX8_renew_37 rfl ?_
        refine x_bipushN (pc := 38) 60 dX8_renew_38 bp_60 ?_
        first | (guard_target =~ Wp _ _ _ _ _ (Value.int (nI _) :: Value.int (nI _) :: _) _ _ _ _; with_reducible refine x_imulN (pc := 40) dX8_renew_40 ?_) | refine x_imul (pc := 40) dX8_renew_40 ?_
        refine x_iload (pc := 41) dX8_renew_41 rfl ?_
        first | (guard_target =~ Wp _ _ _ _ _ (Value.int (nI _) :: Value.int (nI _) :: _) _ _ _ _; with_reducible refine x_iaddN (pc := 43) dX8_renew_43 ?_) | refine x_iadd (pc := 43) dX8_renew_43 ?_
        refine x_lconst (pc := 44) (v := 0) dX8_renew_44 (by decide) ?_
        refine x_lastN (pc := 45) dX8_renew_45 (by first | assumption | rfl) (by first | with_reducible rfl | (simp only [xlit, nI_add, pk_mul]; with_reducible rfl)) (by omega) (by decide) ?_
        first | (guard_target =~ Wp _ _ _ _ (_ :: _ :: _ :: _ :: some (Value.int (nI _)) :: _) _ _ _ _ _; with_reducible refine x_iincN (pc := 46) 1 ic_1 dX8_renew_46 ?_ xg_4 xs_4 ?_ ?_; decide; exact (x_hp rfl)) | refine x_iincC (pc := 46) ic_1 dX8_renew_46 (by decide) rfl xs_4 (x_hp rfl) ?_
        refine x_goto (pc := 49) (tgt := 26) dX8_renew_49 (by decide) ?_
        refine ih (i + 1) _ (by omega) q1 (fun a j => ?_)
        rw [Nat.mul_comm t 60]
        show (if _ then _ else _) = _
        rw [q2]
        by_cases ha : a = 62
        · subst ha
          by_cases hj : j = 60 * t + i
          · subst hj; simp
          · simp only [hj, and_false, if_false, true_and]
            have e : (60 * t ≤ j ∧ j < 60 * t + i) ↔ (60 * t ≤ j ∧ j < 60 * t + (i + 1)) := by omega
            simp only [e]
        · simp [ha]
  refine x_aload_n (pc := 0) dX8_renew_0 rfl ?_
  refine x_getR (pc := 1) dX8_renew_1 flX8_13 (by first | assumption | rfl) rfl ?_
  refine x_iload_n (pc := 4) dX8_renew_4 rfl ?_
  refine x_iload_n (pc := 5) dX8_renew_5 rfl ?_
  refine x_iastN (pc := 6) dX8_renew_6 (by first | assumption | rfl) (by first | with_reducible rfl | (simp only [xlit, nI_add, pk_mul]; with_reducible rfl)) (by omega) (by decide) ?_
  refine x_aload_n (pc := 7) dX8_renew_7 rfl ?_
  refine x_getR (pc := 8) dX8_renew_8 flX8_17 (by first | assumption | rfl) rfl ?_
  refine x_iload_n (pc := 11) dX8_renew_11 rfl ?_
  refine x_iload_n (pc := 12) dX8_renew_12 rfl ?_
  refine x_iconst (pc := 13) dX8_renew_13 ic_m1 ?_
  first | (guard_target =~ Wp _ _ _ _ _ (Value.int (nI _) :: Value.int (nI _) :: _) _ _ _ _; with_reducible refine x_icmp_neN (pc := 14) (tgt := 21) ?_ ?_ dX8_renew_14 ?_ (fun h14 => ?_) (fun h14 => ?_); (first | omega | exact b2n_31 _); (first | omega | exact b2n_31 _); decide) | refine x_icmp_ne (pc := 14) (tgt := 21) dX8_renew_14 (by decide) (fun h14 => ?_) (fun h14 => ?_)
  · skip
    have hk0 : k ≠ 0 := fun q => h14 ((srt_m1 hk).mpr q)
    refine x_iload_n (pc := 21) dX8_renew_21 rfl ?_
    refine x_iastN (pc := 22) dX8_renew_22 (by first | assumption | rfl) (by first | with_reducible rfl | (simp only [xlit, nI_add, pk_mul]; with_reducible rfl)) (by omega) (by decide) ?_
    refine x_iconstN (pc := 23) 0 dX8_renew_23 ic_0 ?_
    refine x_istore (pc := 24) dX8_renew_24 (by decide) xs_4 (x_hp rfl) ?_
    obtain rfl := h1 hk0; exact loop 60 0 _ rfl rfl (fun a j => (if_neg (by omega)).symm)
  · skip
    have hk0 : k = 0 := (srt_m1 hk).mp h14
    refine x_iconstN (pc := 17) 0 dX8_renew_17 ic_0 ?_
    refine x_goto (pc := 18) (tgt := 22) dX8_renew_18 (by decide) ?_
    refine x_iastN (pc := 22) dX8_renew_22 (by first | assumption | rfl) (by first | with_reducible rfl | (simp only [xlit, nI_add, pk_mul]; with_reducible rfl)) (by omega) (by decide) ?_
    refine x_iconstN (pc := 23) 0 dX8_renew_23 ic_0 ?_
    refine x_istore (pc := 24) dX8_renew_24 (by decide) xs_4 (x_hp rfl) ?_
    have hz0 := h0 hk0; subst hz0; exact loop 60 0 _ rfl rfl (fun a j => (if_neg (by omega)).symm)
theorem sp_X8_copy {t o i j n : Nat} (hR : TR 63 62 M T I) (ht : t < 6) (ho : o < 6) (hi : i + n ≤ 60) (hj : j + n ≤ 60) (h : ∀ M', tsame 63 62 M M' → TR 63 62 M' T (iCpy I (60 * t + i) (60 * o + j) n) → K none xSF M') : Ex g (d + 1) yX8_copy mX8_copy [.ref 61, .int (nI t), .int (nI i), .int (nI o), .int (nI j), .int (nI n)] xSF M K := by
  refine x_entry kX8_copy (Nat.le_of_ble_eq_true rfl) ?_
  show Wp g _ mX8_copy 0 [some (.ref 61), some (.int (nI t)), some (.int (nI i)), some (.int (nI o)), some (.int (nI j)), some (.int (nI n))] [] _ _ _ _
  refine x_aload_n (pc := 0) dX8_copy_0 rfl ?_
  refine x_getR (pc := 1) dX8_copy_1 flX8_9 (by first | assumption | rfl) rfl ?_
  refine x_iload_n (pc := 4) dX8_copy_4 rfl ?_
  refine x_bipushN (pc := 5) 60 dX8_copy_5 bp_60 ?_
  first | (guard_target =~ Wp _ _ _ _ _ (Value.int (nI _) :: Value.int (nI _) :: _) _ _ _ _; with_reducible refine x_imulN (pc := 7) dX8_copy_7 ?_) | refine x_imul (pc := 7) dX8_copy_7 ?_
  refine x_iload_n (pc := 8) dX8_copy_8 rfl ?_
  first | (guard_target =~ Wp _ _ _ _ _ (Value.int (nI _) :: Value.int (nI _) :: _) _ _ _ _; with_reducible refine x_iaddN (pc := 9) dX8_copy_9 ?_) | refine x_iadd (pc := 9) dX8_copy_9 ?_
  refine x_aload_n (pc := 10) dX8_copy_10 rfl ?_
  refine x_getR (pc := 11) dX8_copy_11 flX8_9 (by first | assumption | rfl) rfl ?_
  refine x_iload_n (pc := 14) dX8_copy_14 rfl ?_
  refine x_bipushN (pc := 15) 60 dX8_copy_15 bp_60 ?_
  first | (guard_target =~ Wp _ _ _ _ _ (Value.int (nI _) :: Value.int (nI _) :: _) _ _ _ _; with_reducible refine x_imulN (pc := 17) dX8_copy_17 ?_) | refine x_imul (pc := 17) dX8_copy_17 ?_
  refine x_iload (pc := 18) dX8_copy_18 rfl ?_
  first | (guard_target =~ Wp _ _ _ _ _ (Value.int (nI _) :: Value.int (nI _) :: _) _ _ _ _; with_reducible refine x_iaddN (pc := 20) dX8_copy_20 ?_) | refine x_iadd (pc := 20) dX8_copy_20 ?_
  refine x_iload (pc := 21) dX8_copy_21 rfl ?_
  refine x_copyL (pc := 23) rfl dX8_copy_23 mlX8_28 natCpy stCpy iniSys (by first | assumption | rfl) (by first | assumption | rfl) (nI_pos (by omega)) (nI_pos (by omega)) (nI_pos (by omega)) (by rw [nI_clamp (by omega), nI_clamp (by omega)]; omega) (by rw [nI_clamp (by omega), nI_clamp (by omega)]; omega) (by decide) ?_
  rw [nI_clamp (by omega), nI_clamp (by omega), nI_clamp (by omega)]
  refine x_ret (pc := 26) (v := none) rfl trivial dX8_copy_26 (by decide) ?_
  refine h _ ⟨fun a _ _ => rfl, fun a ha => ?_⟩ ⟨fun t ht => hR.1 t ht, fun k hk => ?_⟩
  · exact if_neg ha
  · rw [Nat.mul_comm t, Nat.mul_comm o]
    show va_cpy _ _ _ _ _ k = _
    unfold iCpy
    by_cases hc : 60 * o + j ≤ k ∧ k < 60 * o + j + n
    · rw [if_pos hc, pk_cpy_in hc.1 hc.2, hR.2 _ (by omega)]
    · rw [if_neg hc, pk_cpy_out (by omega), hR.2 k hk]
theorem sp_X0_bodyAt {i : Int32} {l : List Nat} (hT : aTr M l) (h : K (some (.int (if isR i 20 = true ∧ i < nI l.length then nI (l.getD i.toNatClampNeg 0) else -1))) xSF M) : Ex g d yX0_bodyAt mX0_bodyAt [.ref 59, .int i] xSF M K := by
  obtain ⟨t1, t2, t3⟩ := hT
  refine x_entry kX0_bodyAt (Nat.le_of_ble_eq_true rfl) ?_
  show Wp g _ mX0_bodyAt 0 [some (.ref 59), some (.int i)] [] _ _ _ _
  refine x_iload_n (pc := 0) dX0_bodyAt_0 rfl ?_
  refine x_if_lt (pc := 1) (tgt := 27) dX0_bodyAt_1 (by decide) (fun h1 => ?_) (fun h1 => ?_)
  · skip
    refine x_iconst (pc := 27) dX0_bodyAt_27 ic_m1 ?_
    refine x_ret (pc := 28) (v := some _) rfl trivial dX0_bodyAt_28 (by decide) ?_
    rw [if_neg (fun q => by rw [isR_neg h1] at q; cases q.1)] at h; exact h
  · skip
    refine x_iload_n (pc := 4) dX0_bodyAt_4 rfl ?_
    refine x_aload_n (pc := 5) dX0_bodyAt_5 rfl ?_
    refine x_getI (pc := 6) dX0_bodyAt_6 flX0_15 (by first | assumption | rfl) rfl ?_
    rw [t1]
    first | (guard_target =~ Wp _ _ _ _ _ (Value.int (nI _) :: Value.int (nI _) :: _) _ _ _ _; with_reducible refine x_icmp_geN (pc := 9) (tgt := 27) ?_ ?_ dX0_bodyAt_9 ?_ (fun h9 => ?_) (fun h9 => ?_); (first | omega | exact b2n_31 _); (first | omega | exact b2n_31 _); decide) | refine x_icmp_ge (pc := 9) (tgt := 27) dX0_bodyAt_9 (by decide) (fun h9 => ?_) (fun h9 => ?_)
    · skip
      refine x_iconst (pc := 27) dX0_bodyAt_27 ic_m1 ?_
      refine x_ret (pc := 28) (v := some _) rfl trivial dX0_bodyAt_28 (by decide) ?_
      rw [if_neg (fun q => absurd q.2 (Int32.not_lt.mpr h9))] at h; exact h
    · skip
      refine x_iload_n (pc := 12) dX0_bodyAt_12 rfl ?_
      refine x_bipushN (pc := 13) 20 dX0_bodyAt_13 bp_20 ?_
      first | (guard_target =~ Wp _ _ _ _ _ (Value.int (nI _) :: Value.int (nI _) :: _) _ _ _ _; with_reducible refine x_icmp_geN (pc := 15) (tgt := 27) ?_ ?_ dX0_bodyAt_15 ?_ (fun h15 => ?_) (fun h15 => ?_); (first | omega | exact b2n_31 _); (first | omega | exact b2n_31 _); decide) | refine x_icmp_ge (pc := 15) (tgt := 27) dX0_bodyAt_15 (by decide) (fun h15 => ?_) (fun h15 => ?_)
      · skip
        refine x_iconst (pc := 27) dX0_bodyAt_27 ic_m1 ?_
        refine x_ret (pc := 28) (v := some _) rfl trivial dX0_bodyAt_28 (by decide) ?_
        rw [if_neg (fun q => by rw [show isR i 20 = false from isR_big h15] at q; cases q.1)] at h; exact h
      · skip
        obtain ⟨k, hk, rfl⟩ := (isR_iff (n := 20) (by decide)).mp (decide_eq_true ⟨i0le h1, Int32.not_le.mp h15⟩ : isR i (nI 20) = true)
        have hk2 : k < l.length := (nI_ltI (by omega) (by omega)).mp (Int32.not_le.mp h9)
        refine x_aload_n (pc := 18) dX0_bodyAt_18 rfl ?_
        refine x_getR (pc := 19) dX0_bodyAt_19 flX0_11 (by first | assumption | rfl) rfl ?_
        refine x_iload_n (pc := 22) dX0_bodyAt_22 rfl ?_
        refine x_ialdN (pc := 23) dX0_bodyAt_23 (by first | assumption | rfl) (by first | with_reducible rfl | (simp only [xlit, nI_add, pk_mul]; with_reducible rfl)) (by omega) (by decide) ?_
        rw [t3 k hk hk2]
        refine x_goto (pc := 24) (tgt := 28) dX0_bodyAt_24 (by decide) ?_
        refine x_ret (pc := 28) (v := some _) rfl trivial dX0_bodyAt_28 (by decide) ?_
        rw [if_pos ⟨(isR_iff (n := 20) (by decide)).mpr ⟨k, hk, rfl⟩, (nI_ltI (by omega) (by omega)).mpr hk2⟩, nI_clamp (by omega)] at h; exact h
end P26
