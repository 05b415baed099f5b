/-! the program's calls: set, away, stand, row, move, goer -/
def toN (x : Int32) : Nat := x.toNatClampNeg
theorem toN_nI {n : Nat} (h : n < 2 ^ 31) : toN (nI n) = n := nI_clamp h
def withA (s : XSt) (A : XA) : XSt := ((A, s.1.2), s.2)
def opSet (s : XSt) (c n : Int32) : Int32 × XSt := if isR c (nI 16) = true then (if isR n (nI 10000) = true then (nI (s.1.1 0 (toN c)), withA s (updA s.1.1 0 (toN c) (toN n))) else (-2, s)) else (-1, s)
def setN (W k : Nat) (b : Bool) : Nat := if b then W ||| 2 ^ k else W &&& (2 ^ k ^^^ 4294967295)
def opAway (s : XSt) (x : Int32) (b : Bool) : Int32 × XSt := if isR x (nI (s.1.1 8 0)) = true then (nI (b2n (s.1.2.1.testBit (toN x))), ((s.1.1, setN s.1.2.1 (toN x) b, s.1.2.2), s.2)) else (-1, s)
def opStand (s : XSt) (c : Int32) (b : Bool) : Int32 × XSt := if isR c (nI 16) = true then (nI (b2n ((s.1.1 10 0).testBit (toN c))), if (s.1.1 10 0).testBit (toN c) = b then s else withA s (furA s.1.1 (s.1.1 10 0 ^^^ 2 ^ toN c))) else (-1, s)
def opRow (s : XSt) (x p n : Int32) : Int32 × XSt := if isR x (nI (s.1.1 8 0)) = true ∧ isR p (nI 4) = true then (if isR n (nI 10) = true then (if s.1.1 1 (toN x) = 6 then (nI (s.1.1 5 (toN x * 4 + toN p)), withA s (updA s.1.1 5 (toN x * 4 + toN p) (toN n))) else (-3, s)) else (-2, s)) else (-1, s)
def movA (A : XA) (k gg c : Nat) : XA := let B := updA A k gg c
  updA B 6 gg (wbits (wayL B gg))
def opMove (s : XSt) (x what c : Int32) : Int32 × XSt := if isR x (nI (s.1.1 8 0)) = true ∧ isR what (nI 2) = true ∧ isR c (nI 16) = true then (nI (s.1.1 (3 + toN what) (toN x)), withA s (movA s.1.1 (3 + toN what) (toN x) (toN c))) else (-1, s)
section P42
variable {g : XG} {d : Nat} {M : XM} {K : Option Value → XS → XM → Prop} {s : XSt}
theorem isR_cases {x : Int32} {n : Nat} (hn : n < 2 ^ 31) : isR x (nI n) = false ∨ ∃ j, j < n ∧ x = nI j ∧ isR x (nI n) = true := by
  cases h : isR x (nI n) with
  | false => exact Or.inl rfl
  | true =>
    obtain ⟨j, h1, h2⟩ := (isR_iff hn).mp h
    exact Or.inr ⟨j, h1, h2, rfl⟩
/-- rows other than ways and yields stand: what is kept stays right -/
theorem cacheA.cong {A B : XA} {L : List XCl} (h : cacheA A L) (h8 : B 8 0 = A 8 0) (h10 : B 10 0 = A 10 0) (h13 : B 13 0 = A 13 0) (hg : ∀ g, g < A 8 0 → B 1 g = A 1 g ∧ B 2 g = A 2 g ∧ B 3 g = A 3 g ∧ B 4 g = A 4 g ∧ B 6 g = A 6 g ∧ ∀ i, i < 16 → B 7 (g * 16 + i) = A 7 (g * 16 + i)) (h5 : ∀ j, 4 * A 8 0 ≤ j → j < 24 → B 5 j = A 5 j) : cacheA B L := by
  obtain ⟨c1, c2, c3, c4⟩ := h
  refine ⟨fun g q => ?_, fun g q i hi => ?_, h13.trans c3, fun j q1 q2 => ?_⟩
  · rw [h8] at q
    obtain ⟨g1, g2, g3, g4, g6, g7⟩ := hg g q
    rw [g6, c1 g q, wayL_cong g1.symm g3.symm g4.symm h10.symm]
  · rw [h8] at q
    obtain ⟨g1, g2, g3, g4, g6, g7⟩ := hg g q
    rw [g7 i hi, c2 g q i hi, g1, g2]
  · rw [h8] at q1
    rw [h5 j q1 q2, c4 j q1 q2]
theorem okQ.newA {tx : Nat → Nat → Nat} {ln : Nat → Nat} {made : Nat} {q : XQ} {B : XA} (h : okQ tx ln made q) (hb : bdA B) (hs : Std B) (h8 : q.1 8 0 ≤ B 8 0) (hc : cacheA B q.2.2.2.2) : okQ tx ln made (B, q.2.1, q.2.2.1, q.2.2.2.1, q.2.2.2.2) := by
  obtain ⟨q1, q2, q3, q4, q5, q6, q7⟩ := h
  exact ⟨hb, q2, hs, Nat.lt_of_lt_of_le q4 (Nat.pow_le_pow_right (by decide) h8), hc, q6, fun k hk hk1 => Nat.lt_of_lt_of_le (q7 k hk hk1) h8⟩
theorem fX9_set {c n : Int32} (hC : XC9 M s) (h : ∀ M', low M M' → XC9 M' (opSet s c n).2 → K (some (.int (opSet s c n).1)) xSF M') : Ex g (d + 1) yX9_set mX9_set [.ref 0, .int c, .int n] xSF M K := by
  unfold opSet at h
  have hR := hC.1.1
  refine x_entry kX9_set (Nat.le_of_ble_eq_true rfl) ?_
  show Wp g _ mX9_set 0 [some (.ref 0), some (.int c), some (.int n), none] [] _ _ _ _
  rcases isR_cases (x := c) (n := 16) (by decide) with e | ⟨j, hj, rfl, e⟩
  · simp only [e, Bool.false_eq_true, if_false] at h
    refine x_iload_n (pc := 0) dX9_set_0 rfl ?_
    refine x_invS1 (pc := 1) dX9_set_1 mlX9_67 stX3_isCell kX3_isCell (Nat.le_of_ble_eq_true rfl) (by decide) ?_
    refine sp_X3_isCell ?_
    refine x_cv rfl rfl ?_
    rw [show isR c 16 = false from e]
    first | (guard_target =~ Wp _ _ _ _ _ (Value.int (nI _) :: _) _ _ _ _; with_reducible refine x_if_neN (pc := 4) (tgt := 9) ?_ dX9_set_4 ?_ (fun h4 => ?_) (fun h4 => ?_); (first | omega | exact b2n_32 _ | exact b2n_31 _); decide) | refine x_if_ne (pc := 4) (tgt := 9) dX9_set_4 (by decide) (fun h4 => ?_) (fun h4 => ?_)
    · skip
      exact absurd rfl h4
    · skip
      refine x_iconst (pc := 7) dX9_set_7 ic_m1 ?_
      refine x_ret (pc := 8) (v := some _) rfl trivial dX9_set_8 (by decide) ?_
      exact h M csame.rf.low hC
  · simp only [e, if_true] at h
    rcases isR_cases (x := n) (n := 10000) (by decide) with e2 | ⟨k, hk, rfl, e2⟩
    · simp only [e2, Bool.false_eq_true, if_false] at h
      refine x_iload_n (pc := 0) dX9_set_0 rfl ?_
      refine x_invS1 (pc := 1) dX9_set_1 mlX9_67 stX3_isCell kX3_isCell (Nat.le_of_ble_eq_true rfl) (by decide) ?_
      refine sp_X3_isCell ?_
      refine x_cv rfl rfl ?_
      rw [show isR (nI j) 16 = true from e]
      first | (guard_target =~ Wp _ _ _ _ _ (Value.int (nI _) :: _) _ _ _ _; with_reducible refine x_if_neN (pc := 4) (tgt := 9) ?_ dX9_set_4 ?_ (fun h4 => ?_) (fun h4 => ?_); (first | omega | exact b2n_32 _ | exact b2n_31 _); decide) | refine x_if_ne (pc := 4) (tgt := 9) dX9_set_4 (by decide) (fun h4 => ?_) (fun h4 => ?_)
      · skip
        refine x_iload_n (pc := 9) dX9_set_9 rfl ?_
        refine x_iconstN (pc := 10) 0 dX9_set_10 ic_0 ?_
        refine x_sipushN (pc := 11) 9999 dX9_set_11 sp_9999 ?_
        refine x_invS3 (pc := 14) dX9_set_14 mlX9_72 stX9_isBetween kX9_isBetween (Nat.le_of_ble_eq_true rfl) (by decide) ?_
        refine sp_X9_isBetween ?_
        refine x_cv rfl rfl ?_
        rw [btw_isR (by decide), show isR n (nI (9999 + 1)) = false from e2]
        first | (guard_target =~ Wp _ _ _ _ _ (Value.int (nI _) :: _) _ _ _ _; with_reducible refine x_if_neN (pc := 17) (tgt := 23) ?_ dX9_set_17 ?_ (fun h17 => ?_) (fun h17 => ?_); (first | omega | exact b2n_32 _ | exact b2n_31 _); decide) | refine x_if_ne (pc := 17) (tgt := 23) dX9_set_17 (by decide) (fun h17 => ?_) (fun h17 => ?_)
        · skip
          exact absurd rfl h17
        · skip
          refine x_bipush (pc := 20) dX9_set_20 bp_m2 ?_
          refine x_ret (pc := 22) (v := some _) rfl trivial dX9_set_22 (by decide) ?_
          exact h M csame.rf.low hC
      · skip
        cases h4
    · simp only [e2, if_true] at h
      rw [toN_nI (by omega), toN_nI (by omega)] at h
      refine x_iload_n (pc := 0) dX9_set_0 rfl ?_
      refine x_invS1 (pc := 1) dX9_set_1 mlX9_67 stX3_isCell kX3_isCell (Nat.le_of_ble_eq_true rfl) (by decide) ?_
      refine sp_X3_isCell ?_
      refine x_cv rfl rfl ?_
      rw [show isR (nI j) 16 = true from e]
      first | (guard_target =~ Wp _ _ _ _ _ (Value.int (nI _) :: _) _ _ _ _; with_reducible refine x_if_neN (pc := 4) (tgt := 9) ?_ dX9_set_4 ?_ (fun h4 => ?_) (fun h4 => ?_); (first | omega | exact b2n_32 _ | exact b2n_31 _); decide) | refine x_if_ne (pc := 4) (tgt := 9) dX9_set_4 (by decide) (fun h4 => ?_) (fun h4 => ?_)
      · skip
        refine x_iload_n (pc := 9) dX9_set_9 rfl ?_
        refine x_iconstN (pc := 10) 0 dX9_set_10 ic_0 ?_
        refine x_sipushN (pc := 11) 9999 dX9_set_11 sp_9999 ?_
        refine x_invS3 (pc := 14) dX9_set_14 mlX9_72 stX9_isBetween kX9_isBetween (Nat.le_of_ble_eq_true rfl) (by decide) ?_
        refine sp_X9_isBetween ?_
        refine x_cv rfl rfl ?_
        rw [btw_isR (by decide), show isR (nI k) (nI (9999 + 1)) = true from e2]
        first | (guard_target =~ Wp _ _ _ _ _ (Value.int (nI _) :: _) _ _ _ _; with_reducible refine x_if_neN (pc := 17) (tgt := 23) ?_ dX9_set_17 ?_ (fun h17 => ?_) (fun h17 => ?_); (first | omega | exact b2n_32 _ | exact b2n_31 _); decide) | refine x_if_ne (pc := 17) (tgt := 23) dX9_set_17 (by decide) (fun h17 => ?_) (fun h17 => ?_)
        · skip
          refine x_aload_n (pc := 23) dX9_set_23 rfl ?_
          refine x_getR (pc := 24) dX9_set_24 flX9_12 (by first | assumption | rfl) rfl ?_
          refine x_getR (pc := 27) dX9_set_27 flX9_133 (by first | assumption | rfl) rfl ?_
          refine x_iload_n (pc := 30) dX9_set_30 rfl ?_
          refine x_ialdN (pc := 31) dX9_set_31 (by first | assumption | rfl) (by first | with_reducible rfl | (simp only [xlit, nI_add, pk_mul]; with_reducible rfl)) (by omega) (by decide) ?_
          rw [hR.wear hj]
          refine x_istore_n (pc := 32) dX9_set_32 (by decide) xs_3 (x_hp rfl) ?_
          refine x_aload_n (pc := 33) dX9_set_33 rfl ?_
          refine x_getR (pc := 34) dX9_set_34 flX9_12 (by first | assumption | rfl) rfl ?_
          refine x_getR (pc := 37) dX9_set_37 flX9_133 (by first | assumption | rfl) rfl ?_
          refine x_iload_n (pc := 40) dX9_set_40 rfl ?_
          refine x_iload_n (pc := 41) dX9_set_41 rfl ?_
          refine x_iastN (pc := 42) dX9_set_42 (by first | assumption | rfl) (by first | with_reducible rfl | (simp only [xlit, nI_add, pk_mul]; with_reducible rfl)) (by omega) (by decide) ?_
          refine x_iload_n (pc := 43) dX9_set_43 rfl ?_
          refine x_ret (pc := 44) (v := some _) rfl trivial dX9_set_44 (by decide) ?_
          have hR2 := hR.put 0 (by decide) j (v := k) (by show k < 67108864; omega)
          have hs : csame M (xput M (1 + 1 + 0) j (nI k)) := csame.c1 (xsame.put (by decide) (by decide))
          refine h _ hs.low (hC.up hs hR2 (okQ.newA hC.2.1 hR2.bd ⟨fun i hi => ?_, hC.2.1.2.2.1.2⟩ (Nat.le_refl _) (hC.2.1.2.2.2.2.1.cong rfl rfl rfl (fun g _ => ⟨rfl, rfl, rfl, rfl, rfl, fun _ _ => rfl⟩) (fun _ _ _ => rfl))))
          have := hC.2.1.2.2.1.1 i hi
          unfold updA
          split <;> omega
        · skip
          cases h17
      · skip
        cases h4
theorem setB_N {W k : Nat} {b : Bool} (hW : W < 64) (hk : k < 6) : setB (nI W) k b = nI (setN W k b) := by
  cases b with
  | true => show nI W ||| nI (2 ^ k) = _; rw [nI_or]; rfl
  | false =>
    show nI W &&& (nI (2 ^ k) ^^^ -1) = nI (W &&& (2 ^ k ^^^ 4294967295))
    rw [show (-1 : Int32) = nI 4294967295 by decide +kernel, nI_xor, nI_and]
theorem setN_lt {W k n : Nat} {b : Bool} (hW : W < 2 ^ n) (hk : k < n) : setN W k b < 2 ^ n := by
  cases b with
  | true => exact Nat.or_lt_two_pow hW (Nat.pow_lt_pow_right (by decide) hk)
  | false => exact Nat.lt_of_le_of_lt Nat.and_le_left hW
theorem w64 {W n : Nat} (hW : W < 2 ^ n) (hn : n ≤ 6) : W < 64 := Nat.lt_of_lt_of_le hW (Nat.pow_le_pow_right (by decide) hn)
theorem fX9_away {x : Int32} {b : Bool} (hC : XC9 M s) (h : ∀ M', low M M' → XC9 M' (opAway s x b).2 → K (some (.int (opAway s x b).1)) xSF M') : Ex g (d + 1) yX9_away mX9_away [.ref 0, .int x, .int (nI (b2n b))] xSF M K := by
  unfold opAway at h
  have hR := hC.1.1
  have h6 := hR.goersB
  have hW := w64 hC.2.1.2.2.2.1 h6
  refine x_entry kX9_away (Nat.le_of_ble_eq_true rfl) ?_
  show Wp g _ mX9_away 0 [some (.ref 0), some (.int x), some (.int (nI (b2n b))), none] [] _ _ _ _
  rcases isR_cases (x := x) (n := s.1.1 8 0) (by omega) with e | ⟨j, hj, rfl, e⟩
  · simp only [e, Bool.false_eq_true, if_false] at h
    refine x_aload_n (pc := 0) dX9_away_0 rfl ?_
    refine x_getR (pc := 1) dX9_away_1 flX9_12 (by first | assumption | rfl) rfl ?_
    refine x_iload_n (pc := 4) dX9_away_4 rfl ?_
    refine x_invV1 (pc := 5) dX9_away_5 mlX9_88 imX2_hasGoer seX2_hasGoer kX2_hasGoer (by first | assumption | rfl) rfl (Nat.le_of_ble_eq_true rfl) (by decide) ?_
    refine sp_X2_hasGoer car1 hR ?_
    refine x_cv rfl rfl ?_
    rw [e]
    first | (guard_target =~ Wp _ _ _ _ _ (Value.int (nI _) :: _) _ _ _ _; with_reducible refine x_if_neN (pc := 8) (tgt := 13) ?_ dX9_away_8 ?_ (fun h8 => ?_) (fun h8 => ?_); (first | omega | exact b2n_32 _ | exact b2n_31 _); decide) | refine x_if_ne (pc := 8) (tgt := 13) dX9_away_8 (by decide) (fun h8 => ?_) (fun h8 => ?_)
    · skip
      exact absurd rfl h8
    · skip
      refine x_iconst (pc := 11) dX9_away_11 ic_m1 ?_
      refine x_ret (pc := 12) (v := some _) rfl trivial dX9_away_12 (by decide) ?_
      exact h M csame.rf.low hC
  · simp only [e, if_true] at h
    rw [toN_nI (by omega)] at h
    refine x_aload_n (pc := 0) dX9_away_0 rfl ?_
    refine x_getR (pc := 1) dX9_away_1 flX9_12 (by first | assumption | rfl) rfl ?_
    refine x_iload_n (pc := 4) dX9_away_4 rfl ?_
    refine x_invV1 (pc := 5) dX9_away_5 mlX9_88 imX2_hasGoer seX2_hasGoer kX2_hasGoer (by first | assumption | rfl) rfl (Nat.le_of_ble_eq_true rfl) (by decide) ?_
    refine sp_X2_hasGoer car1 hR ?_
    refine x_cv rfl rfl ?_
    rw [e]
    first | (guard_target =~ Wp _ _ _ _ _ (Value.int (nI _) :: _) _ _ _ _; with_reducible refine x_if_neN (pc := 8) (tgt := 13) ?_ dX9_away_8 ?_ (fun h8 => ?_) (fun h8 => ?_); (first | omega | exact b2n_32 _ | exact b2n_31 _); decide) | refine x_if_ne (pc := 8) (tgt := 13) dX9_away_8 (by decide) (fun h8 => ?_) (fun h8 => ?_)
    · skip
      refine x_aload_n (pc := 13) dX9_away_13 rfl ?_
      refine x_getR (pc := 14) dX9_away_14 flX9_12 (by first | assumption | rfl) rfl ?_
      refine x_iload_n (pc := 17) dX9_away_17 rfl ?_
      refine x_invV1 (pc := 18) dX9_away_18 mlX9_119 imX2_isAway seX2_isAway kX2_isAway (by first | assumption | rfl) rfl (Nat.le_of_ble_eq_true rfl) (by decide) ?_
      refine sp_X2_isAway (by omega) car1 hR ?_
      refine x_cv rfl rfl ?_
      refine x_invS1 (pc := 21) dX9_away_21 mlX9_122 stX9_oneIf kX9_oneIf (Nat.le_of_ble_eq_true rfl) (by decide) ?_
      refine sp_X9_oneIf ?_
      refine x_cv rfl rfl ?_
      rw [tb_nI (by omega)]
      refine x_istore_n (pc := 24) dX9_away_24 (by decide) xs_3 (x_hp rfl) ?_
      refine x_aload_n (pc := 25) dX9_away_25 rfl ?_
      refine x_getR (pc := 26) dX9_away_26 flX9_12 (by first | assumption | rfl) rfl ?_
      refine x_iload_n (pc := 29) dX9_away_29 rfl ?_
      refine x_iload_n (pc := 30) dX9_away_30 rfl ?_
      refine x_invV2 (pc := 31) dX9_away_31 mlX9_139 imX2_putAway seX2_putAway kX2_putAway (by first | assumption | rfl) rfl (Nat.le_of_ble_eq_true rfl) (by decide) ?_
      refine sp_X2_putAway (by omega) car1 hR ?_
      refine x_cn rfl rfl ?_
      refine x_iload_n (pc := 34) dX9_away_34 rfl ?_
      refine x_ret (pc := 35) (v := some _) rfl trivial dX9_away_35 (by decide) ?_
      have hs : csame M (xput M 1 9 (setB (nI s.1.2.1) j b)) := csame.c1 (xsame.put (by decide) (by decide))
      have hR2 : CR 1 (xput M 1 9 (setB (nI s.1.2.1) j b)) s.1.1 (nI (setN s.1.2.1 j b)) s.1.2.2.1 := by rw [← setB_N hW (by omega)]; exact hR.putW _
      obtain ⟨q1, q2, q3, q4, q5, q6, q7⟩ := hC.2.1
      exact h _ hs.low (hC.up hs hR2 ⟨q1, q2, q3, setN_lt q4 hj, q5, q6, q7⟩)
    · skip
      cases h8
theorem furA_e {A : XA} {f k j : Nat} (h : k ≠ 6) (h2 : k ≠ 10) : furA A f k j = A k j := by
  simp [furA, updA, h, h2]
theorem furA_cache {A : XA} {L : List XCl} {f : Nat} (h : cacheA A L) : cacheA (furA A f) L := by
  obtain ⟨c1, c2, c3, c4⟩ := h
  have e8 : furA A f 8 0 = A 8 0 := furA_e (by decide) (by decide)
  have ew : ∀ g, wayL (updA A 10 0 f) g = wayL (furA A f) g := fun g => wayL_cong (by rw [furA_e (by decide) (by decide)]; rfl) (by rw [furA_e (by decide) (by decide)]; rfl) (by rw [furA_e (by decide) (by decide)]; rfl) (by simp [furA, updA])
  refine ⟨fun g q => ?_, fun g q i hi => ?_, ?_, fun j q1 q2 => ?_⟩
  · rw [e8] at q
    show (if (6 : Nat) = 6 ∧ g < A 8 0 then wbits (wayL (updA A 10 0 f) g) else updA A 10 0 f 6 g) = _
    rw [if_pos ⟨rfl, q⟩, ew]
  · rw [e8] at q
    rw [furA_e (by decide) (by decide), furA_e (by decide) (by decide), furA_e (by decide) (by decide)]
    exact c2 g q i hi
  · rw [furA_e (by decide) (by decide)]; exact c3
  · rw [e8] at q1
    rw [furA_e (by decide) (by decide)]; exact c4 j q1 q2
theorem b2n_inj {a b : Bool} (h : b2n a = b2n b) : a = b := by cases a <;> cases b <;> simp_all [b2n]
theorem fX9_stand {c : Int32} {b : Bool} (hC : XC9 M s) (h : ∀ M', low M M' → XC9 M' (opStand s c b).2 → K (some (.int (opStand s c b).1)) xSF M') : Ex g (d + 5) yX9_stand mX9_stand [.ref 0, .int c, .int (nI (b2n b))] xSF M K := by
  unfold opStand at h
  have hR := hC.1.1
  have hf := hR.furnB
  refine x_entry kX9_stand (Nat.le_of_ble_eq_true rfl) ?_
  show Wp g _ mX9_stand 0 [some (.ref 0), some (.int c), some (.int (nI (b2n b))), none] [] _ _ _ _
  rcases isR_cases (x := c) (n := 16) (by decide) with e | ⟨j, hj, rfl, e⟩
  · simp only [e, Bool.false_eq_true, if_false] at h
    refine x_iload_n (pc := 0) dX9_stand_0 rfl ?_
    refine x_invS1 (pc := 1) dX9_stand_1 mlX9_67 stX3_isCell kX3_isCell (Nat.le_of_ble_eq_true rfl) (by decide) ?_
    refine sp_X3_isCell ?_
    refine x_cv rfl rfl ?_
    rw [show isR c 16 = false from e]
    first | (guard_target =~ Wp _ _ _ _ _ (Value.int (nI _) :: _) _ _ _ _; with_reducible refine x_if_neN (pc := 4) (tgt := 9) ?_ dX9_stand_4 ?_ (fun h4 => ?_) (fun h4 => ?_); (first | omega | exact b2n_32 _ | exact b2n_31 _); decide) | refine x_if_ne (pc := 4) (tgt := 9) dX9_stand_4 (by decide) (fun h4 => ?_) (fun h4 => ?_)
    · skip
      exact absurd rfl h4
    · skip
      refine x_iconst (pc := 7) dX9_stand_7 ic_m1 ?_
      refine x_ret (pc := 8) (v := some _) rfl trivial dX9_stand_8 (by decide) ?_
      exact h M csame.rf.low hC
  · simp only [e, if_true] at h
    rw [toN_nI (by omega)] at h
    have hxl : s.1.1 10 0 ^^^ 1 * 2 ^ j < 65536 := by rw [Nat.one_mul]; exact Nat.xor_lt_two_pow (n := 16) hf (Nat.pow_lt_pow_right (by decide) hj)
    by_cases hb : (s.1.1 10 0).testBit j = b
    · rw [if_pos hb] at h
      refine x_iload_n (pc := 0) dX9_stand_0 rfl ?_
      refine x_invS1 (pc := 1) dX9_stand_1 mlX9_67 stX3_isCell kX3_isCell (Nat.le_of_ble_eq_true rfl) (by decide) ?_
      refine sp_X3_isCell ?_
      refine x_cv rfl rfl ?_
      rw [show isR (nI j) 16 = true from e]
      first | (guard_target =~ Wp _ _ _ _ _ (Value.int (nI _) :: _) _ _ _ _; with_reducible refine x_if_neN (pc := 4) (tgt := 9) ?_ dX9_stand_4 ?_ (fun h4 => ?_) (fun h4 => ?_); (first | omega | exact b2n_32 _ | exact b2n_31 _); decide) | refine x_if_ne (pc := 4) (tgt := 9) dX9_stand_4 (by decide) (fun h4 => ?_) (fun h4 => ?_)
      · skip
        refine x_aload_n (pc := 9) dX9_stand_9 rfl ?_
        refine x_getR (pc := 10) dX9_stand_10 flX9_12 (by first | assumption | rfl) rfl ?_
        refine x_getI (pc := 13) dX9_stand_13 flX9_143 (by first | assumption | rfl) rfl ?_
        rw [hR.furn]
        refine x_iload_n (pc := 16) dX9_stand_16 rfl ?_
        refine x_invS2 (pc := 17) dX9_stand_17 mlX9_146 stX3_has kX3_has (Nat.le_of_ble_eq_true rfl) (by decide) ?_
        refine sp_X3_has (by omega) ?_
        refine x_cv rfl rfl ?_
        rw [tb_nI (by omega)]
        refine x_istore_n (pc := 20) dX9_stand_20 (by decide) xs_3 (x_hp rfl) ?_
        refine x_iload_n (pc := 21) dX9_stand_21 rfl ?_
        refine x_iload_n (pc := 22) dX9_stand_22 rfl ?_
        first | (guard_target =~ Wp _ _ _ _ _ (Value.int (nI _) :: Value.int (nI _) :: _) _ _ _ _; with_reducible refine x_icmp_eqN (pc := 23) (tgt := 44) ?_ ?_ dX9_stand_23 ?_ (fun h23 => ?_) (fun h23 => ?_); (first | omega | exact b2n_31 _); (first | omega | exact b2n_31 _); decide) | refine x_icmp_eq (pc := 23) (tgt := 44) dX9_stand_23 (by decide) (fun h23 => ?_) (fun h23 => ?_)
        · skip
          refine x_iload_n (pc := 44) dX9_stand_44 rfl ?_
          refine x_invS1 (pc := 45) dX9_stand_45 mlX9_122 stX9_oneIf kX9_oneIf (Nat.le_of_ble_eq_true rfl) (by decide) ?_
          refine sp_X9_oneIf ?_
          refine x_cv rfl rfl ?_
          refine x_ret (pc := 48) (v := some _) rfl trivial dX9_stand_48 (by decide) ?_
          exact h M csame.rf.low hC
        · skip
          exact absurd (by rw [hb]) h23
      · skip
        cases h4
    · rw [if_neg hb] at h
      refine x_iload_n (pc := 0) dX9_stand_0 rfl ?_
      refine x_invS1 (pc := 1) dX9_stand_1 mlX9_67 stX3_isCell kX3_isCell (Nat.le_of_ble_eq_true rfl) (by decide) ?_
      refine sp_X3_isCell ?_
      refine x_cv rfl rfl ?_
      rw [show isR (nI j) 16 = true from e]
      first | (guard_target =~ Wp _ _ _ _ _ (Value.int (nI _) :: _) _ _ _ _; with_reducible refine x_if_neN (pc := 4) (tgt := 9) ?_ dX9_stand_4 ?_ (fun h4 => ?_) (fun h4 => ?_); (first | omega | exact b2n_32 _ | exact b2n_31 _); decide) | refine x_if_ne (pc := 4) (tgt := 9) dX9_stand_4 (by decide) (fun h4 => ?_) (fun h4 => ?_)
      · skip
        refine x_aload_n (pc := 9) dX9_stand_9 rfl ?_
        refine x_getR (pc := 10) dX9_stand_10 flX9_12 (by first | assumption | rfl) rfl ?_
        refine x_getI (pc := 13) dX9_stand_13 flX9_143 (by first | assumption | rfl) rfl ?_
        rw [hR.furn]
        refine x_iload_n (pc := 16) dX9_stand_16 rfl ?_
        refine x_invS2 (pc := 17) dX9_stand_17 mlX9_146 stX3_has kX3_has (Nat.le_of_ble_eq_true rfl) (by decide) ?_
        refine sp_X3_has (by omega) ?_
        refine x_cv rfl rfl ?_
        rw [tb_nI (by omega)]
        refine x_istore_n (pc := 20) dX9_stand_20 (by decide) xs_3 (x_hp rfl) ?_
        refine x_iload_n (pc := 21) dX9_stand_21 rfl ?_
        refine x_iload_n (pc := 22) dX9_stand_22 rfl ?_
        first | (guard_target =~ Wp _ _ _ _ _ (Value.int (nI _) :: Value.int (nI _) :: _) _ _ _ _; with_reducible refine x_icmp_eqN (pc := 23) (tgt := 44) ?_ ?_ dX9_stand_23 ?_ (fun h23 => ?_) (fun h23 => ?_); (first | omega | exact b2n_31 _); (first | omega | exact b2n_31 _); decide) | refine x_icmp_eq (pc := 23) (tgt := 44) dX9_stand_23 (by decide) (fun h23 => ?_) (fun h23 => ?_)
        · skip
          exact absurd (b2n_inj h23) hb
        · skip
          refine x_aload_n (pc := 26) dX9_stand_26 rfl ?_
          refine x_getR (pc := 27) dX9_stand_27 flX9_12 (by first | assumption | rfl) rfl ?_
          refine x_aload_n (pc := 30) dX9_stand_30 rfl ?_
          refine x_getR (pc := 31) dX9_stand_31 flX9_12 (by first | assumption | rfl) rfl ?_
          refine x_getI (pc := 34) dX9_stand_34 flX9_143 (by first | assumption | rfl) rfl ?_
          rw [hR.furn]
          refine x_iconstN (pc := 37) 1 dX9_stand_37 ic_1 ?_
          refine x_iload_n (pc := 38) dX9_stand_38 rfl ?_
          first | (guard_target =~ Wp _ _ _ _ _ (Value.int (nI _) :: Value.int (nI _) :: _) _ _ _ _; with_reducible refine x_ishlN (pc := 39) ?_ dX9_stand_39 ?_; omega) | refine x_ishl (pc := 39) dX9_stand_39 ?_
          first | (guard_target =~ Wp _ _ _ _ _ (Value.int (nI _) :: Value.int (nI _) :: _) _ _ _ _; with_reducible refine x_ixorN (pc := 40) dX9_stand_40 ?_) | refine x_ixor (pc := 40) dX9_stand_40 ?_
          refine x_invV1 (pc := 41) dX9_stand_41 mlX9_149 imX2_furnish seX2_furnish kX2_furnish (by first | assumption | rfl) rfl (Nat.le_of_ble_eq_true rfl) (by decide) ?_
          refine sp_X2_furnish hxl car1 hR (fun M2 hs2 hR2 => ?_)
          refine x_cn rfl rfl ?_
          refine x_iload_n (pc := 44) dX9_stand_44 rfl ?_
          refine x_invS1 (pc := 45) dX9_stand_45 mlX9_122 stX9_oneIf kX9_oneIf (Nat.le_of_ble_eq_true rfl) (by decide) ?_
          refine sp_X9_oneIf ?_
          refine x_cv rfl rfl ?_
          refine x_ret (pc := 48) (v := some _) rfl trivial dX9_stand_48 (by decide) ?_
          rw [Nat.one_mul] at hR2
          exact h M2 (csame.c1 hs2).low (hC.up (csame.c1 hs2) hR2 (okQ.newA hC.2.1 hR2.bd ⟨fun i hi => by rw [furA_w]; exact hC.2.1.2.2.1.1 i hi, by rw [furA_d]; exact hC.2.1.2.2.1.2⟩ (Nat.le_of_eq (furA_e (by decide) (by decide)).symm) (furA_cache hC.2.1.2.2.2.2.1)))
      · skip
        cases h4
end P42
