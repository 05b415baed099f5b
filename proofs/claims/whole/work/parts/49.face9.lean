/-! the program's calls: act; the tapes -/
def sT (s : XSt) : XA := s.2.2.2.2.2.1
def sI (s : XSt) : Nat → Int64 := s.2.2.2.2.2.2.1
def tpSt (s : XSt) (T : XA) (I : Nat → Int64) : XSt := (s.1, s.2.1, s.2.2.1, s.2.2.2.1, s.2.2.2.2.1, T, I, s.2.2.2.2.2.2.2)
def opTape (s : XSt) (t x n : Int32) : Int32 × XSt := if isR t (nI 6) = true then (if btw x (-1) (nI 4) = true then (if x = -1 then (1, tpSt s (updA (updA (sT s) 0 (toN t) 0) 1 (toN t) 0) (iRen (sI s) (toN t))) else if nI 60 < n then (-2, s) else if n < 0 then (-14, s) else (1, tpSt s (updA (updA (sT s) 0 (toN t) (toN x + 1)) 1 (toN t) (toN n)) (iRen (sI s) (toN t)))) else (-2, s)) else (-1, s)
def opItem (s : XSt) (t i : Int32) (v : Int64) : Int32 × XSt := if isR t (nI 6) = true then (if sT s 0 (toN t) = 0 then (-11, s) else if isR i (nI (sT s 1 (toN t))) = true then (1, tpSt s (sT s) (iPut (sI s) (60 * toN t + toN i) (nar (sT s 0 (toN t)) v))) else (-13, s)) else (-1, s)
def vRead (s : XSt) (t i : Int32) : Int64 := if isR t (nI 6) = true ∧ isR i (nI (sT s 1 (toN t))) = true then sI s (60 * toN t + toN i) else -9223372036854775808
def opShift (s : XSt) (t i o j n : Int32) : Int32 × XSt := if isR t (nI 6) = true ∧ isR o (nI 6) = true then (if sT s 0 (toN t) = 0 ∨ sT s 0 (toN o) = 0 then (-11, s) else if sT s 0 (toN t) = sT s 0 (toN o) then (if isS i n (sT s 1 (toN t)) = true ∧ isS j n (sT s 1 (toN o)) = true then (n, tpSt s (sT s) (iCpy (sI s) (60 * toN t + toN i) (60 * toN o + toN j) (toN n))) else (-13, s)) else (-12, s)) else (-1, s)
def jdF (A : XA) (I : Nat → Int64) (t z : Nat) (i : Int32) : Nat → Nat → Int32
  | 0, _ => -5
  | n + 1, c => if isR (i + nI c) (nI z) = true then (if I (60 * t + toN (i + nI c)) = (nI (A 0 c)).toInt64 then jdF A I t z i n (c + 1) else nI c) else nI (100 + c)
def vJudge (s : XSt) (t i : Int32) : Int32 := if isR t (nI 6) = true then (if sT s 0 (toN t) = 0 then 100 else if sT s 0 (toN t) = 2 then jdF s.1.1 (sI s) (toN t) (sT s 1 (toN t)) i 16 0 else -12) else -1
theorem btw_srt {x : Int32} : btw x (-1) (nI 4) = false ∨ ∃ k, k ≤ 5 ∧ x = srt k ∧ btw x (-1) (nI 4) = true := by
  cases h : btw x (-1) (nI 4) with
  | false => exact Or.inl rfl
  | true =>
    refine Or.inr ?_
    obtain ⟨h1, h2⟩ := of_decide_eq_true h
    by_cases h0 : x < 0
    · refine ⟨0, by decide, ?_, rfl⟩
      have h3 : (-1 : Int32).toInt ≤ x.toInt := Int32.le_iff_toInt_le.mp h1
      have h4 : x.toInt < (0 : Int32).toInt := Int32.lt_iff_toInt_lt.mp h0
      have e1 : (-1 : Int32).toInt = -1 := by decide
      have e2 : (0 : Int32).toInt = 0 := by decide
      exact Int32.toInt_inj.mp (by show x.toInt = (-1 : Int32).toInt; omega)
    · obtain ⟨j, hj, rfl⟩ := nI_of h0
      have := (nI_leI hj (by decide)).mp h2
      exact ⟨j + 1, by omega, rfl, rfl⟩
theorem isS_iff {i n : Int32} {z : Nat} (hz : z ≤ 60) : isS i n z = true ↔ ∃ a b, i = nI a ∧ n = nI b ∧ a + b ≤ z := by
  constructor
  · intro h
    obtain ⟨h1, h2, h3, h4⟩ := of_decide_eq_true h
    obtain ⟨a, ha, rfl⟩ := nI_of (Int32.not_lt.mpr h1)
    obtain ⟨b, hb, rfl⟩ := nI_of (Int32.not_lt.mpr h2)
    have h5 := (nI_leI ha (by omega)).mp h3
    rw [pk_sub h5] at h4
    have h6 := (nI_leI hb (by omega)).mp h4
    exact ⟨a, b, rfl, rfl, by omega⟩
  · rintro ⟨a, b, rfl, rfl, h⟩
    refine decide_eq_true ⟨nI_pos' (by omega), nI_pos' (by omega), nI_le (by omega) (by omega), ?_⟩
    rw [pk_sub (by omega)]
    exact nI_le (by omega) (by omega)
section P49
variable {g : XG} {d : Nat} {M : XM} {K : Option Value → XS → XM → Prop} {s : XSt}
theorem fX9_act {x a z : Int32} (hC : XC9 M s) (h : ∀ M', low M M' → XC9 M' (opAct s x a z).2 → K (some (.int (opAct s x a z).1)) xSF M') : Ex g (d + 30) yX9_act mX9_act [.ref 0, .int x, .int a, .int z] xSF M K := by
  unfold opAct at h
  have hR := hC.1.1
  have h6 := hR.goersB
  have hs0 : aSame M (xput M 59 1 (nI 0)) := ⟨fun q h1 h2 => funext fun k => if_neg (by omega), rfl⟩
  have hl0 : aTr (xput M 59 1 (nI 0)) [] := ⟨xput_at, by decide, fun j _ hj => by cases hj⟩
  have hC0 := hC.upT hs0 hl0
  have hR0 := hC0.1.1
  refine x_entry kX9_act (Nat.le_of_ble_eq_true rfl) ?_
  show Wp g _ mX9_act 0 [some (.ref 0), some (.int x), some (.int a), some (.int z)] [] _ _ _ _
  rcases isR_cases (x := x) (n := s.1.1 8 0) (by omega) with e | ⟨j, hj, rfl, e⟩
  · simp only [e, Bool.false_eq_true, if_false, false_and] at h
    refine x_aload_n (pc := 0) dX9_act_0 rfl ?_
    refine x_getR (pc := 1) dX9_act_1 flX9_50 (by first | assumption | rfl) rfl ?_
    refine x_invV0 (pc := 4) dX9_act_4 mlX9_298 imX0_forgetTrace seX0_forgetTrace kX0_forgetTrace (by first | assumption | rfl) rfl (Nat.le_of_ble_eq_true rfl) (by decide) ?_
    refine sp_X0_forgetTrace ?_
    refine x_cn rfl rfl ?_
    refine x_aload_n (pc := 7) dX9_act_7 rfl ?_
    refine x_getR (pc := 8) dX9_act_8 flX9_12 (by first | assumption | rfl) rfl ?_
    refine x_iload_n (pc := 11) dX9_act_11 rfl ?_
    refine x_invV1 (pc := 12) dX9_act_12 mlX9_88 imX2_hasGoer seX2_hasGoer kX2_hasGoer (by first | assumption | rfl) rfl (Nat.le_of_ble_eq_true rfl) (by decide) ?_
    refine sp_X2_hasGoer car1 hR0 ?_
    refine x_cv rfl rfl ?_
    rw [show isR x (nI ((trSt s []).1.1 8 0)) = false from e]
    first | (guard_target =~ Wp _ _ _ _ _ (Value.int (nI _) :: _) _ _ _ _; with_reducible refine x_if_eqN (pc := 15) (tgt := 25) ?_ dX9_act_15 ?_ (fun h15 => ?_) (fun h15 => ?_); (first | omega | exact b2n_32 _ | exact b2n_31 _); decide) | refine x_if_eq (pc := 15) (tgt := 25) dX9_act_15 (by decide) (fun h15 => ?_) (fun h15 => ?_)
    · skip
      refine x_iconstN (pc := 25) 0 dX9_act_25 ic_0 ?_
      refine x_ret (pc := 26) (v := some _) rfl trivial dX9_act_26 (by decide) ?_
      exact h _ (lowT hs0) hC0
    · skip
      exact absurd rfl h15
  rcases isR_cases (x := a) (n := 3) (by omega) with e2 | ⟨a, ha, rfl, e2⟩
  · simp only [e2, Bool.false_eq_true, if_false, and_false] at h
    refine x_aload_n (pc := 0) dX9_act_0 rfl ?_
    refine x_getR (pc := 1) dX9_act_1 flX9_50 (by first | assumption | rfl) rfl ?_
    refine x_invV0 (pc := 4) dX9_act_4 mlX9_298 imX0_forgetTrace seX0_forgetTrace kX0_forgetTrace (by first | assumption | rfl) rfl (Nat.le_of_ble_eq_true rfl) (by decide) ?_
    refine sp_X0_forgetTrace ?_
    refine x_cn rfl rfl ?_
    refine x_aload_n (pc := 7) dX9_act_7 rfl ?_
    refine x_getR (pc := 8) dX9_act_8 flX9_12 (by first | assumption | rfl) rfl ?_
    refine x_iload_n (pc := 11) dX9_act_11 rfl ?_
    refine x_invV1 (pc := 12) dX9_act_12 mlX9_88 imX2_hasGoer seX2_hasGoer kX2_hasGoer (by first | assumption | rfl) rfl (Nat.le_of_ble_eq_true rfl) (by decide) ?_
    refine sp_X2_hasGoer car1 hR0 ?_
    refine x_cv rfl rfl ?_
    rw [show isR (nI j) (nI ((trSt s []).1.1 8 0)) = true from e]
    first | (guard_target =~ Wp _ _ _ _ _ (Value.int (nI _) :: _) _ _ _ _; with_reducible refine x_if_eqN (pc := 15) (tgt := 25) ?_ dX9_act_15 ?_ (fun h15 => ?_) (fun h15 => ?_); (first | omega | exact b2n_32 _ | exact b2n_31 _); decide) | refine x_if_eq (pc := 15) (tgt := 25) dX9_act_15 (by decide) (fun h15 => ?_) (fun h15 => ?_)
    · skip
      cases h15
    · skip
      refine x_iload_n (pc := 18) dX9_act_18 rfl ?_
      refine x_invS1 (pc := 19) dX9_act_19 mlX9_301 stX0_isAct kX0_isAct (Nat.le_of_ble_eq_true rfl) (by decide) ?_
      refine sp_X0_isAct ?_
      refine x_cv rfl rfl ?_
      rw [show isR a 3 = false from e2]
      first | (guard_target =~ Wp _ _ _ _ _ (Value.int (nI _) :: _) _ _ _ _; with_reducible refine x_if_neN (pc := 22) (tgt := 27) ?_ dX9_act_22 ?_ (fun h22 => ?_) (fun h22 => ?_); (first | omega | exact b2n_32 _ | exact b2n_31 _); decide) | refine x_if_ne (pc := 22) (tgt := 27) dX9_act_22 (by decide) (fun h22 => ?_) (fun h22 => ?_)
      · skip
        exact absurd rfl h22
      · skip
        refine x_iconstN (pc := 25) 0 dX9_act_25 ic_0 ?_
        refine x_ret (pc := 26) (v := some _) rfl trivial dX9_act_26 (by decide) ?_
        exact h _ (lowT hs0) hC0
  simp only [e, e2, and_self, if_true] at h
  rw [toN_nI (by omega), toN_nI (by omega)] at h
  have hkd := hR.kindB (show j < 6 by omega)
  refine x_aload_n (pc := 0) dX9_act_0 rfl ?_
  refine x_getR (pc := 1) dX9_act_1 flX9_50 (by first | assumption | rfl) rfl ?_
  refine x_invV0 (pc := 4) dX9_act_4 mlX9_298 imX0_forgetTrace seX0_forgetTrace kX0_forgetTrace (by first | assumption | rfl) rfl (Nat.le_of_ble_eq_true rfl) (by decide) ?_
  refine sp_X0_forgetTrace ?_
  refine x_cn rfl rfl ?_
  refine x_aload_n (pc := 7) dX9_act_7 rfl ?_
  refine x_getR (pc := 8) dX9_act_8 flX9_12 (by first | assumption | rfl) rfl ?_
  refine x_iload_n (pc := 11) dX9_act_11 rfl ?_
  refine x_invV1 (pc := 12) dX9_act_12 mlX9_88 imX2_hasGoer seX2_hasGoer kX2_hasGoer (by first | assumption | rfl) rfl (Nat.le_of_ble_eq_true rfl) (by decide) ?_
  refine sp_X2_hasGoer car1 hR0 ?_
  refine x_cv rfl rfl ?_
  rw [show isR (nI j) (nI ((trSt s []).1.1 8 0)) = true from e]
  first | (guard_target =~ Wp _ _ _ _ _ (Value.int (nI _) :: _) _ _ _ _; with_reducible refine x_if_eqN (pc := 15) (tgt := 25) ?_ dX9_act_15 ?_ (fun h15 => ?_) (fun h15 => ?_); (first | omega | exact b2n_32 _ | exact b2n_31 _); decide) | refine x_if_eq (pc := 15) (tgt := 25) dX9_act_15 (by decide) (fun h15 => ?_) (fun h15 => ?_)
  · skip
    cases h15
  · skip
    refine x_iload_n (pc := 18) dX9_act_18 rfl ?_
    refine x_invS1 (pc := 19) dX9_act_19 mlX9_301 stX0_isAct kX0_isAct (Nat.le_of_ble_eq_true rfl) (by decide) ?_
    refine sp_X0_isAct ?_
    refine x_cv rfl rfl ?_
    rw [show isR (nI a) 3 = true from e2]
    first | (guard_target =~ Wp _ _ _ _ _ (Value.int (nI _) :: _) _ _ _ _; with_reducible refine x_if_neN (pc := 22) (tgt := 27) ?_ dX9_act_22 ?_ (fun h22 => ?_) (fun h22 => ?_); (first | omega | exact b2n_32 _ | exact b2n_31 _); decide) | refine x_if_ne (pc := 22) (tgt := 27) dX9_act_22 (by decide) (fun h22 => ?_) (fun h22 => ?_)
    · skip
      refine x_aload_n (pc := 27) dX9_act_27 rfl ?_
      refine x_getR (pc := 28) dX9_act_28 flX9_50 (by first | assumption | rfl) rfl ?_
      refine x_iload_n (pc := 31) dX9_act_31 rfl ?_
      refine x_aload_n (pc := 32) dX9_act_32 rfl ?_
      refine x_getR (pc := 33) dX9_act_33 flX9_12 (by first | assumption | rfl) rfl ?_
      refine x_getR (pc := 36) dX9_act_36 flX9_107 (by first | assumption | rfl) rfl ?_
      refine x_iload_n (pc := 39) dX9_act_39 rfl ?_
      refine x_ialdN (pc := 40) dX9_act_40 (by first | assumption | rfl) (by first | with_reducible rfl | (simp only [xlit, nI_add, pk_mul]; with_reducible rfl)) (by omega) (by decide) ?_
      rw [show (xput M 59 1 (nI 0)).1 3 j = nI (s.1.1 1 j) from hR0.kind (by omega)]
      refine x_aload_n (pc := 41) dX9_act_41 rfl ?_
      refine x_getR (pc := 42) dX9_act_42 flX9_12 (by first | assumption | rfl) rfl ?_
      refine x_getR (pc := 45) dX9_act_45 flX9_110 (by first | assumption | rfl) rfl ?_
      refine x_iload_n (pc := 48) dX9_act_48 rfl ?_
      refine x_ialdN (pc := 49) dX9_act_49 (by first | assumption | rfl) (by first | with_reducible rfl | (simp only [xlit, nI_add, pk_mul]; with_reducible rfl)) (by omega) (by decide) ?_
      rw [show (xput M 59 1 (nI 0)).1 4 j = nI (s.1.1 2 j) from hR0.v (by omega)]
      refine x_iload_n (pc := 50) dX9_act_50 rfl ?_
      refine x_iload_n (pc := 51) dX9_act_51 rfl ?_
      refine x_invV5 (pc := 52) dX9_act_52 mlX9_304 imX0_actOf seX0_actOf kX0_actOf (by first | assumption | rfl) rfl (Nat.le_of_ble_eq_true rfl) (by decide) ?_
      show Ex g (dAct d 13 + 1) _ _ _ _ _ _; refine sp_X0_actOf hkd ha xput_at (fun M2 hl hs => ?_)
      refine x_cv rfl rfl ?_
      refine x_ret (pc := 55) (v := some _) rfl trivial dX9_act_55 (by decide) ?_
      exact h M2 (lowT ⟨fun q h1 h2 => (hs.1 q h1 h2).trans (hs0.1 q h1 h2), hs.2.trans hs0.2⟩) (hC.upT ⟨fun q h1 h2 => (hs.1 q h1 h2).trans (hs0.1 q h1 h2), hs.2.trans hs0.2⟩ hl)
    · skip
      cases h22
theorem XC9.upP {M M' : XM} {s : XSt} {T : XA} {I : Nat → Int64} (h : XC9 M s) (hs : tsame 63 62 M M') (hT : TR 63 62 M' T I) : XC9 M' (tpSt s T I) := by
  have e : ∀ a, a ≠ 63 → a ≠ 64 → M'.1 a = M.1 a := hs.1
  exact ⟨⟨h.1.1.eqs (fun q h1 h2 => e q (by omega) (by omega)), h.1.2.same (fun q h1 h2 => e q (by omega) (by omega))⟩, h.2.1, h.2.2.1.same (by rw [e 0 (by decide) (by decide)]) (fun a h1 h2 => e a (by omega) (by omega)), h.2.2.2.1.eqs (by rw [e 41 (by decide) (by decide)]) (e 42 (by decide) (by decide)) (e 43 (by decide) (by decide)), hT, h.2.2.2.2.2.eqs (e 59 (by decide) (by decide)) (e 60 (by decide) (by decide))⟩
theorem lowP {M M' : XM} (h : tsame 63 62 M M') : low M M' := ⟨fun a ha => h.1 a (by omega) (by omega), fun a ha => h.2 a (by omega)⟩
theorem fX9_tape {t x n : Int32} (hC : XC9 M s) (h : ∀ M', low M M' → XC9 M' (opTape s t x n).2 → K (some (.int (opTape s t x n).1)) xSF M') : Ex g (d + 1) yX9_tape mX9_tape [.ref 0, .int t, .int x, .int n] xSF M K := by
  unfold opTape at h
  have hT := hC.2.2.2.2.1
  refine x_entry kX9_tape (Nat.le_of_ble_eq_true rfl) ?_
  show Wp g _ mX9_tape 0 [some (.ref 0), some (.int t), some (.int x), some (.int n)] [] _ _ _ _
  rcases isR_cases (x := t) (n := 6) (by omega) with e | ⟨t, ht, rfl, e⟩
  · simp only [e, Bool.false_eq_true, if_false] at h
    refine x_iload_n (pc := 0) dX9_tape_0 rfl ?_
    refine x_invS1 (pc := 1) dX9_tape_1 mlX9_271 stX8_isTape kX8_isTape (Nat.le_of_ble_eq_true rfl) (by decide) ?_
    refine sp_X8_isTape ?_
    refine x_cv rfl rfl ?_
    rw [show isR t 6 = false from e]
    first | (guard_target =~ Wp _ _ _ _ _ (Value.int (nI _) :: _) _ _ _ _; with_reducible refine x_if_neN (pc := 4) (tgt := 9) ?_ dX9_tape_4 ?_ (fun h4 => ?_) (fun h4 => ?_); (first | omega | exact b2n_32 _ | exact b2n_31 _); decide) | refine x_if_ne (pc := 4) (tgt := 9) dX9_tape_4 (by decide) (fun h4 => ?_) (fun h4 => ?_)
    · skip
      exact absurd rfl h4
    · skip
      refine x_iconst (pc := 7) dX9_tape_7 ic_m1 ?_
      refine x_ret (pc := 8) (v := some _) rfl trivial dX9_tape_8 (by decide) ?_
      exact h M csame.rf.low hC
  simp only [e, if_true] at h
  rw [toN_nI (by omega)] at h
  rcases btw_srt (x := x) with e2 | ⟨k, hk, rfl, e2⟩
  · simp only [e2, Bool.false_eq_true, if_false] at h
    refine x_iload_n (pc := 0) dX9_tape_0 rfl ?_
    refine x_invS1 (pc := 1) dX9_tape_1 mlX9_271 stX8_isTape kX8_isTape (Nat.le_of_ble_eq_true rfl) (by decide) ?_
    refine sp_X8_isTape ?_
    refine x_cv rfl rfl ?_
    rw [show isR (nI t) 6 = true from e]
    first | (guard_target =~ Wp _ _ _ _ _ (Value.int (nI _) :: _) _ _ _ _; with_reducible refine x_if_neN (pc := 4) (tgt := 9) ?_ dX9_tape_4 ?_ (fun h4 => ?_) (fun h4 => ?_); (first | omega | exact b2n_32 _ | exact b2n_31 _); decide) | refine x_if_ne (pc := 4) (tgt := 9) dX9_tape_4 (by decide) (fun h4 => ?_) (fun h4 => ?_)
    · skip
      refine x_iload_n (pc := 9) dX9_tape_9 rfl ?_
      refine x_iconst (pc := 10) dX9_tape_10 ic_m1 ?_
      refine x_iconstN (pc := 11) 4 dX9_tape_11 ic_4 ?_
      refine x_invS3 (pc := 12) dX9_tape_12 mlX9_72 stX9_isBetween kX9_isBetween (Nat.le_of_ble_eq_true rfl) (by decide) ?_
      refine sp_X9_isBetween ?_
      refine x_cv rfl rfl ?_
      rw [e2]
      first | (guard_target =~ Wp _ _ _ _ _ (Value.int (nI _) :: _) _ _ _ _; with_reducible refine x_if_neN (pc := 15) (tgt := 21) ?_ dX9_tape_15 ?_ (fun h15 => ?_) (fun h15 => ?_); (first | omega | exact b2n_32 _ | exact b2n_31 _); decide) | refine x_if_ne (pc := 15) (tgt := 21) dX9_tape_15 (by decide) (fun h15 => ?_) (fun h15 => ?_)
      · skip
        exact absurd rfl h15
      · skip
        refine x_bipush (pc := 18) dX9_tape_18 bp_m2 ?_
        refine x_ret (pc := 20) (v := some _) rfl trivial dX9_tape_20 (by decide) ?_
        exact h M csame.rf.low hC
    · skip
      cases h4
  simp only [e2, if_true] at h
  by_cases h0 : k = 0
  · subst h0
    rw [if_pos (show srt 0 = -1 from rfl)] at h
    refine x_iload_n (pc := 0) dX9_tape_0 rfl ?_
    refine x_invS1 (pc := 1) dX9_tape_1 mlX9_271 stX8_isTape kX8_isTape (Nat.le_of_ble_eq_true rfl) (by decide) ?_
    refine sp_X8_isTape ?_
    refine x_cv rfl rfl ?_
    rw [show isR (nI t) 6 = true from e]
    first | (guard_target =~ Wp _ _ _ _ _ (Value.int (nI _) :: _) _ _ _ _; with_reducible refine x_if_neN (pc := 4) (tgt := 9) ?_ dX9_tape_4 ?_ (fun h4 => ?_) (fun h4 => ?_); (first | omega | exact b2n_32 _ | exact b2n_31 _); decide) | refine x_if_ne (pc := 4) (tgt := 9) dX9_tape_4 (by decide) (fun h4 => ?_) (fun h4 => ?_)
    · skip
      refine x_iload_n (pc := 9) dX9_tape_9 rfl ?_
      refine x_iconst (pc := 10) dX9_tape_10 ic_m1 ?_
      refine x_iconstN (pc := 11) 4 dX9_tape_11 ic_4 ?_
      refine x_invS3 (pc := 12) dX9_tape_12 mlX9_72 stX9_isBetween kX9_isBetween (Nat.le_of_ble_eq_true rfl) (by decide) ?_
      refine sp_X9_isBetween ?_
      refine x_cv rfl rfl ?_
      rw [e2]
      first | (guard_target =~ Wp _ _ _ _ _ (Value.int (nI _) :: _) _ _ _ _; with_reducible refine x_if_neN (pc := 15) (tgt := 21) ?_ dX9_tape_15 ?_ (fun h15 => ?_) (fun h15 => ?_); (first | omega | exact b2n_32 _ | exact b2n_31 _); decide) | refine x_if_ne (pc := 15) (tgt := 21) dX9_tape_15 (by decide) (fun h15 => ?_) (fun h15 => ?_)
      · skip
        refine x_iload_n (pc := 21) dX9_tape_21 rfl ?_
        refine x_iconst (pc := 22) dX9_tape_22 ic_m1 ?_
        refine x_icmp_eq (pc := 23) (tgt := 35) dX9_tape_23 (by decide) (fun h23 => ?_) (fun h23 => ?_)
        · skip
          refine x_iload_n (pc := 35) dX9_tape_35 rfl ?_
          refine x_iconst (pc := 36) dX9_tape_36 ic_m1 ?_
          refine x_icmp_eq (pc := 37) (tgt := 47) dX9_tape_37 (by decide) (fun h37 => ?_) (fun h37 => ?_)
          · skip
            refine x_aload_n (pc := 47) dX9_tape_47 rfl ?_
            refine x_getR (pc := 48) dX9_tape_48 flX9_57 (by first | assumption | rfl) rfl ?_
            refine x_iload_n (pc := 51) dX9_tape_51 rfl ?_
            refine x_iload_n (pc := 52) dX9_tape_52 rfl ?_
            refine x_iload_n (pc := 53) dX9_tape_53 rfl ?_
            refine x_invV3 (pc := 54) dX9_tape_54 mlX9_319 imX8_renew seX8_renew kX8_renew (by first | assumption | rfl) rfl (Nat.le_of_ble_eq_true rfl) (by decide) ?_
            refine sp_X8_renew (k := 0) (z := 0) hT ht (by decide) (by decide) (fun _ => rfl) (fun z => absurd rfl z) (fun M2 hs hT2 => ?_)
            refine x_cn rfl rfl ?_
            refine x_iconstN (pc := 57) 1 dX9_tape_57 ic_1 ?_
            refine x_ret (pc := 58) (v := some _) rfl trivial dX9_tape_58 (by decide) ?_
            exact h M2 (lowP hs) (hC.upP hs hT2)
          · skip
            exact absurd rfl h37
        · skip
          exact absurd rfl h23
      · skip
        cases h15
    · skip
      cases h4
  have hm1 : ¬ srt k = -1 := fun q => h0 ((srt_m1 hk).mp q)
  rw [if_neg hm1] at h
  by_cases hn : nI 60 < n
  · rw [if_pos hn] at h
    refine x_iload_n (pc := 0) dX9_tape_0 rfl ?_
    refine x_invS1 (pc := 1) dX9_tape_1 mlX9_271 stX8_isTape kX8_isTape (Nat.le_of_ble_eq_true rfl) (by decide) ?_
    refine sp_X8_isTape ?_
    refine x_cv rfl rfl ?_
    rw [show isR (nI t) 6 = true from e]
    first | (guard_target =~ Wp _ _ _ _ _ (Value.int (nI _) :: _) _ _ _ _; with_reducible refine x_if_neN (pc := 4) (tgt := 9) ?_ dX9_tape_4 ?_ (fun h4 => ?_) (fun h4 => ?_); (first | omega | exact b2n_32 _ | exact b2n_31 _); decide) | refine x_if_ne (pc := 4) (tgt := 9) dX9_tape_4 (by decide) (fun h4 => ?_) (fun h4 => ?_)
    · skip
      refine x_iload_n (pc := 9) dX9_tape_9 rfl ?_
      refine x_iconst (pc := 10) dX9_tape_10 ic_m1 ?_
      refine x_iconstN (pc := 11) 4 dX9_tape_11 ic_4 ?_
      refine x_invS3 (pc := 12) dX9_tape_12 mlX9_72 stX9_isBetween kX9_isBetween (Nat.le_of_ble_eq_true rfl) (by decide) ?_
      refine sp_X9_isBetween ?_
      refine x_cv rfl rfl ?_
      rw [e2]
      first | (guard_target =~ Wp _ _ _ _ _ (Value.int (nI _) :: _) _ _ _ _; with_reducible refine x_if_neN (pc := 15) (tgt := 21) ?_ dX9_tape_15 ?_ (fun h15 => ?_) (fun h15 => ?_); (first | omega | exact b2n_32 _ | exact b2n_31 _); decide) | refine x_if_ne (pc := 15) (tgt := 21) dX9_tape_15 (by decide) (fun h15 => ?_) (fun h15 => ?_)
      · skip
        refine x_iload_n (pc := 21) dX9_tape_21 rfl ?_
        refine x_iconst (pc := 22) dX9_tape_22 ic_m1 ?_
        refine x_icmp_eq (pc := 23) (tgt := 35) dX9_tape_23 (by decide) (fun h23 => ?_) (fun h23 => ?_)
        · skip
          exact absurd h23 hm1
        · skip
          refine x_iload_n (pc := 26) dX9_tape_26 rfl ?_
          refine x_bipushN (pc := 27) 60 dX9_tape_27 bp_60 ?_
          refine x_icmp_le (pc := 29) (tgt := 35) dX9_tape_29 (by decide) (fun h29 => ?_) (fun h29 => ?_)
          · skip
            exact absurd hn (Int32.not_lt.mpr h29)
          · skip
            refine x_bipush (pc := 32) dX9_tape_32 bp_m2 ?_
            refine x_ret (pc := 34) (v := some _) rfl trivial dX9_tape_34 (by decide) ?_
            exact h M csame.rf.low hC
      · skip
        cases h15
    · skip
      cases h4
  rw [if_neg hn] at h
  by_cases hn0 : n < 0
  · rw [if_pos hn0] at h
    refine x_iload_n (pc := 0) dX9_tape_0 rfl ?_
    refine x_invS1 (pc := 1) dX9_tape_1 mlX9_271 stX8_isTape kX8_isTape (Nat.le_of_ble_eq_true rfl) (by decide) ?_
    refine sp_X8_isTape ?_
    refine x_cv rfl rfl ?_
    rw [show isR (nI t) 6 = true from e]
    first | (guard_target =~ Wp _ _ _ _ _ (Value.int (nI _) :: _) _ _ _ _; with_reducible refine x_if_neN (pc := 4) (tgt := 9) ?_ dX9_tape_4 ?_ (fun h4 => ?_) (fun h4 => ?_); (first | omega | exact b2n_32 _ | exact b2n_31 _); decide) | refine x_if_ne (pc := 4) (tgt := 9) dX9_tape_4 (by decide) (fun h4 => ?_) (fun h4 => ?_)
    · skip
      refine x_iload_n (pc := 9) dX9_tape_9 rfl ?_
      refine x_iconst (pc := 10) dX9_tape_10 ic_m1 ?_
      refine x_iconstN (pc := 11) 4 dX9_tape_11 ic_4 ?_
      refine x_invS3 (pc := 12) dX9_tape_12 mlX9_72 stX9_isBetween kX9_isBetween (Nat.le_of_ble_eq_true rfl) (by decide) ?_
      refine sp_X9_isBetween ?_
      refine x_cv rfl rfl ?_
      rw [e2]
      first | (guard_target =~ Wp _ _ _ _ _ (Value.int (nI _) :: _) _ _ _ _; with_reducible refine x_if_neN (pc := 15) (tgt := 21) ?_ dX9_tape_15 ?_ (fun h15 => ?_) (fun h15 => ?_); (first | omega | exact b2n_32 _ | exact b2n_31 _); decide) | refine x_if_ne (pc := 15) (tgt := 21) dX9_tape_15 (by decide) (fun h15 => ?_) (fun h15 => ?_)
      · skip
        refine x_iload_n (pc := 21) dX9_tape_21 rfl ?_
        refine x_iconst (pc := 22) dX9_tape_22 ic_m1 ?_
        refine x_icmp_eq (pc := 23) (tgt := 35) dX9_tape_23 (by decide) (fun h23 => ?_) (fun h23 => ?_)
        · skip
          exact absurd h23 hm1
        · skip
          refine x_iload_n (pc := 26) dX9_tape_26 rfl ?_
          refine x_bipushN (pc := 27) 60 dX9_tape_27 bp_60 ?_
          refine x_icmp_le (pc := 29) (tgt := 35) dX9_tape_29 (by decide) (fun h29 => ?_) (fun h29 => ?_)
          · skip
            refine x_iload_n (pc := 35) dX9_tape_35 rfl ?_
            refine x_iconst (pc := 36) dX9_tape_36 ic_m1 ?_
            refine x_icmp_eq (pc := 37) (tgt := 47) dX9_tape_37 (by decide) (fun h37 => ?_) (fun h37 => ?_)
            · skip
              exact absurd h37 hm1
            · skip
              refine x_iload_n (pc := 40) dX9_tape_40 rfl ?_
              refine x_if_ge (pc := 41) (tgt := 47) dX9_tape_41 (by decide) (fun h41 => ?_) (fun h41 => ?_)
              · skip
                exact absurd hn0 (Int32.not_lt.mpr h41)
              · skip
                refine x_bipush (pc := 44) dX9_tape_44 bp_m14 ?_
                refine x_ret (pc := 46) (v := some _) rfl trivial dX9_tape_46 (by decide) ?_
                exact h M csame.rf.low hC
          · skip
            exact absurd (Int32.not_lt.mp hn) h29
      · skip
        cases h15
    · skip
      cases h4
  rw [if_neg hn0] at h
  obtain ⟨z, hz, rfl⟩ := nI_of hn0
  have hz60 : z ≤ 60 := (nI_leI hz (by decide)).mp (Int32.not_lt.mp hn)
  have hkk : toN (srt k) + 1 = k := by
    obtain ⟨k', rfl⟩ : ∃ k', k = k' + 1 := ⟨k - 1, by omega⟩
    show toN (nI k') + 1 = _
    rw [toN_nI (by omega)]
  rw [hkk, toN_nI (by omega)] at h
  refine x_iload_n (pc := 0) dX9_tape_0 rfl ?_
  refine x_invS1 (pc := 1) dX9_tape_1 mlX9_271 stX8_isTape kX8_isTape (Nat.le_of_ble_eq_true rfl) (by decide) ?_
  refine sp_X8_isTape ?_
  refine x_cv rfl rfl ?_
  rw [show isR (nI t) 6 = true from e]
  first | (guard_target =~ Wp _ _ _ _ _ (Value.int (nI _) :: _) _ _ _ _; with_reducible refine x_if_neN (pc := 4) (tgt := 9) ?_ dX9_tape_4 ?_ (fun h4 => ?_) (fun h4 => ?_); (first | omega | exact b2n_32 _ | exact b2n_31 _); decide) | refine x_if_ne (pc := 4) (tgt := 9) dX9_tape_4 (by decide) (fun h4 => ?_) (fun h4 => ?_)
  · skip
    refine x_iload_n (pc := 9) dX9_tape_9 rfl ?_
    refine x_iconst (pc := 10) dX9_tape_10 ic_m1 ?_
    refine x_iconstN (pc := 11) 4 dX9_tape_11 ic_4 ?_
    refine x_invS3 (pc := 12) dX9_tape_12 mlX9_72 stX9_isBetween kX9_isBetween (Nat.le_of_ble_eq_true rfl) (by decide) ?_
    refine sp_X9_isBetween ?_
    refine x_cv rfl rfl ?_
    rw [e2]
    first | (guard_target =~ Wp _ _ _ _ _ (Value.int (nI _) :: _) _ _ _ _; with_reducible refine x_if_neN (pc := 15) (tgt := 21) ?_ dX9_tape_15 ?_ (fun h15 => ?_) (fun h15 => ?_); (first | omega | exact b2n_32 _ | exact b2n_31 _); decide) | refine x_if_ne (pc := 15) (tgt := 21) dX9_tape_15 (by decide) (fun h15 => ?_) (fun h15 => ?_)
    · skip
      refine x_iload_n (pc := 21) dX9_tape_21 rfl ?_
      refine x_iconst (pc := 22) dX9_tape_22 ic_m1 ?_
      refine x_icmp_eq (pc := 23) (tgt := 35) dX9_tape_23 (by decide) (fun h23 => ?_) (fun h23 => ?_)
      · skip
        exact absurd h23 hm1
      · skip
        refine x_iload_n (pc := 26) dX9_tape_26 rfl ?_
        refine x_bipushN (pc := 27) 60 dX9_tape_27 bp_60 ?_
        refine x_icmp_le (pc := 29) (tgt := 35) dX9_tape_29 (by decide) (fun h29 => ?_) (fun h29 => ?_)
        · skip
          refine x_iload_n (pc := 35) dX9_tape_35 rfl ?_
          refine x_iconst (pc := 36) dX9_tape_36 ic_m1 ?_
          refine x_icmp_eq (pc := 37) (tgt := 47) dX9_tape_37 (by decide) (fun h37 => ?_) (fun h37 => ?_)
          · skip
            exact absurd h37 hm1
          · skip
            refine x_iload_n (pc := 40) dX9_tape_40 rfl ?_
            refine x_if_ge (pc := 41) (tgt := 47) dX9_tape_41 (by decide) (fun h41 => ?_) (fun h41 => ?_)
            · skip
              refine x_aload_n (pc := 47) dX9_tape_47 rfl ?_
              refine x_getR (pc := 48) dX9_tape_48 flX9_57 (by first | assumption | rfl) rfl ?_
              refine x_iload_n (pc := 51) dX9_tape_51 rfl ?_
              refine x_iload_n (pc := 52) dX9_tape_52 rfl ?_
              refine x_iload_n (pc := 53) dX9_tape_53 rfl ?_
              refine x_invV3 (pc := 54) dX9_tape_54 mlX9_319 imX8_renew seX8_renew kX8_renew (by first | assumption | rfl) rfl (Nat.le_of_ble_eq_true rfl) (by decide) ?_
              refine sp_X8_renew (k := k) (z := z) hT ht hk hz60 (fun q => absurd q h0) (fun _ => rfl) (fun M2 hs hT2 => ?_)
              refine x_cn rfl rfl ?_
              refine x_iconstN (pc := 57) 1 dX9_tape_57 ic_1 ?_
              refine x_ret (pc := 58) (v := some _) rfl trivial dX9_tape_58 (by decide) ?_
              exact h M2 (lowP hs) (hC.upP hs hT2)
            · skip
              exact absurd (Int32.not_lt.mp hn0) h41
        · skip
          exact absurd (Int32.not_lt.mp hn) h29
    · skip
      cases h15
  · skip
    cases h4
theorem fX9_item {t i : Int32} {v : Int64} (hC : XC9 M s) (h : ∀ M', low M M' → XC9 M' (opItem s t i v).2 → K (some (.int (opItem s t i v).1)) xSF M') : Ex g (d + 3) yX9_item mX9_item [.ref 0, .int t, .int i, .long v] xSF M K := by
  unfold opItem at h
  have hT := hC.2.2.2.2.1
  refine x_entry kX9_item (Nat.le_of_ble_eq_true rfl) ?_
  show Wp g _ mX9_item 0 [some (.ref 0), some (.int t), some (.int i), some (.long v), none] [] _ _ _ _
  rcases isR_cases (x := t) (n := 6) (by omega) with e | ⟨t, ht, rfl, e⟩
  · simp only [e, Bool.false_eq_true, if_false] at h
    refine x_iload_n (pc := 0) dX9_item_0 rfl ?_
    refine x_invS1 (pc := 1) dX9_item_1 mlX9_271 stX8_isTape kX8_isTape (Nat.le_of_ble_eq_true rfl) (by decide) ?_
    refine sp_X8_isTape ?_
    refine x_cv rfl rfl ?_
    rw [show isR t 6 = false from e]
    first | (guard_target =~ Wp _ _ _ _ _ (Value.int (nI _) :: _) _ _ _ _; with_reducible refine x_if_neN (pc := 4) (tgt := 9) ?_ dX9_item_4 ?_ (fun h4 => ?_) (fun h4 => ?_); (first | omega | exact b2n_32 _ | exact b2n_31 _); decide) | refine x_if_ne (pc := 4) (tgt := 9) dX9_item_4 (by decide) (fun h4 => ?_) (fun h4 => ?_)
    · skip
      exact absurd rfl h4
    · skip
      refine x_iconst (pc := 7) dX9_item_7 ic_m1 ?_
      refine x_ret (pc := 8) (v := some _) rfl trivial dX9_item_8 (by decide) ?_
      exact h M csame.rf.low hC
  simp only [e, if_true] at h
  rw [toN_nI (by omega)] at h
  have hz : sT s 1 t ≤ 60 := (hT.1 t ht).2.2.2
  by_cases h0 : sT s 0 t = 0
  · rw [if_pos h0] at h
    refine x_iload_n (pc := 0) dX9_item_0 rfl ?_
    refine x_invS1 (pc := 1) dX9_item_1 mlX9_271 stX8_isTape kX8_isTape (Nat.le_of_ble_eq_true rfl) (by decide) ?_
    refine sp_X8_isTape ?_
    refine x_cv rfl rfl ?_
    rw [show isR (nI t) 6 = true from e]
    first | (guard_target =~ Wp _ _ _ _ _ (Value.int (nI _) :: _) _ _ _ _; with_reducible refine x_if_neN (pc := 4) (tgt := 9) ?_ dX9_item_4 ?_ (fun h4 => ?_) (fun h4 => ?_); (first | omega | exact b2n_32 _ | exact b2n_31 _); decide) | refine x_if_ne (pc := 4) (tgt := 9) dX9_item_4 (by decide) (fun h4 => ?_) (fun h4 => ?_)
    · skip
      refine x_aload_n (pc := 9) dX9_item_9 rfl ?_
      refine x_getR (pc := 10) dX9_item_10 flX9_57 (by first | assumption | rfl) rfl ?_
      refine x_iload_n (pc := 13) dX9_item_13 rfl ?_
      refine x_invV1 (pc := 14) dX9_item_14 mlX9_274 imX8_isEmpty seX8_isEmpty kX8_isEmpty (by first | assumption | rfl) rfl (Nat.le_of_ble_eq_true rfl) (by decide) ?_
      refine sp_X8_isEmpty hT ht ?_
      refine x_cv rfl rfl ?_
      rw [decide_eq_true (show s.2.2.2.2.2.1 0 t = 0 from h0)]
      first | (guard_target =~ Wp _ _ _ _ _ (Value.int (nI _) :: _) _ _ _ _; with_reducible refine x_if_eqN (pc := 17) (tgt := 23) ?_ dX9_item_17 ?_ (fun h17 => ?_) (fun h17 => ?_); (first | omega | exact b2n_32 _ | exact b2n_31 _); decide) | refine x_if_eq (pc := 17) (tgt := 23) dX9_item_17 (by decide) (fun h17 => ?_) (fun h17 => ?_)
      · skip
        cases h17
      · skip
        refine x_bipush (pc := 20) dX9_item_20 bp_m11 ?_
        refine x_ret (pc := 22) (v := some _) rfl trivial dX9_item_22 (by decide) ?_
        exact h M csame.rf.low hC
    · skip
      cases h4
  rw [if_neg h0] at h
  rcases isR_cases (x := i) (n := sT s 1 t) (by omega) with e2 | ⟨i, hi, rfl, e2⟩
  · simp only [e2, Bool.false_eq_true, if_false] at h
    refine x_iload_n (pc := 0) dX9_item_0 rfl ?_
    refine x_invS1 (pc := 1) dX9_item_1 mlX9_271 stX8_isTape kX8_isTape (Nat.le_of_ble_eq_true rfl) (by decide) ?_
    refine sp_X8_isTape ?_
    refine x_cv rfl rfl ?_
    rw [show isR (nI t) 6 = true from e]
    first | (guard_target =~ Wp _ _ _ _ _ (Value.int (nI _) :: _) _ _ _ _; with_reducible refine x_if_neN (pc := 4) (tgt := 9) ?_ dX9_item_4 ?_ (fun h4 => ?_) (fun h4 => ?_); (first | omega | exact b2n_32 _ | exact b2n_31 _); decide) | refine x_if_ne (pc := 4) (tgt := 9) dX9_item_4 (by decide) (fun h4 => ?_) (fun h4 => ?_)
    · skip
      refine x_aload_n (pc := 9) dX9_item_9 rfl ?_
      refine x_getR (pc := 10) dX9_item_10 flX9_57 (by first | assumption | rfl) rfl ?_
      refine x_iload_n (pc := 13) dX9_item_13 rfl ?_
      refine x_invV1 (pc := 14) dX9_item_14 mlX9_274 imX8_isEmpty seX8_isEmpty kX8_isEmpty (by first | assumption | rfl) rfl (Nat.le_of_ble_eq_true rfl) (by decide) ?_
      refine sp_X8_isEmpty hT ht ?_
      refine x_cv rfl rfl ?_
      rw [decide_eq_false (show ¬ s.2.2.2.2.2.1 0 t = 0 from h0)]
      first | (guard_target =~ Wp _ _ _ _ _ (Value.int (nI _) :: _) _ _ _ _; with_reducible refine x_if_eqN (pc := 17) (tgt := 23) ?_ dX9_item_17 ?_ (fun h17 => ?_) (fun h17 => ?_); (first | omega | exact b2n_32 _ | exact b2n_31 _); decide) | refine x_if_eq (pc := 17) (tgt := 23) dX9_item_17 (by decide) (fun h17 => ?_) (fun h17 => ?_)
      · skip
        refine x_aload_n (pc := 23) dX9_item_23 rfl ?_
        refine x_getR (pc := 24) dX9_item_24 flX9_57 (by first | assumption | rfl) rfl ?_
        refine x_iload_n (pc := 27) dX9_item_27 rfl ?_
        refine x_iload_n (pc := 28) dX9_item_28 rfl ?_
        refine x_invV2 (pc := 29) dX9_item_29 mlX9_280 imX8_hasPlace seX8_hasPlace kX8_hasPlace (by first | assumption | rfl) rfl (Nat.le_of_ble_eq_true rfl) (by decide) ?_
        refine sp_X8_hasPlace hT ht ?_
        refine x_cv rfl rfl ?_
        rw [show isR i (nI (s.2.2.2.2.2.1 1 t)) = false from e2]
        first | (guard_target =~ Wp _ _ _ _ _ (Value.int (nI _) :: _) _ _ _ _; with_reducible refine x_if_neN (pc := 32) (tgt := 38) ?_ dX9_item_32 ?_ (fun h32 => ?_) (fun h32 => ?_); (first | omega | exact b2n_32 _ | exact b2n_31 _); decide) | refine x_if_ne (pc := 32) (tgt := 38) dX9_item_32 (by decide) (fun h32 => ?_) (fun h32 => ?_)
        · skip
          exact absurd rfl h32
        · skip
          refine x_bipush (pc := 35) dX9_item_35 bp_m13 ?_
          refine x_ret (pc := 37) (v := some _) rfl trivial dX9_item_37 (by decide) ?_
          exact h M csame.rf.low hC
      · skip
        exact absurd rfl h17
    · skip
      cases h4
  simp only [e2, if_true] at h
  rw [toN_nI (by omega)] at h
  refine x_iload_n (pc := 0) dX9_item_0 rfl ?_
  refine x_invS1 (pc := 1) dX9_item_1 mlX9_271 stX8_isTape kX8_isTape (Nat.le_of_ble_eq_true rfl) (by decide) ?_
  refine sp_X8_isTape ?_
  refine x_cv rfl rfl ?_
  rw [show isR (nI t) 6 = true from e]
  first | (guard_target =~ Wp _ _ _ _ _ (Value.int (nI _) :: _) _ _ _ _; with_reducible refine x_if_neN (pc := 4) (tgt := 9) ?_ dX9_item_4 ?_ (fun h4 => ?_) (fun h4 => ?_); (first | omega | exact b2n_32 _ | exact b2n_31 _); decide) | refine x_if_ne (pc := 4) (tgt := 9) dX9_item_4 (by decide) (fun h4 => ?_) (fun h4 => ?_)
  · skip
    refine x_aload_n (pc := 9) dX9_item_9 rfl ?_
    refine x_getR (pc := 10) dX9_item_10 flX9_57 (by first | assumption | rfl) rfl ?_
    refine x_iload_n (pc := 13) dX9_item_13 rfl ?_
    refine x_invV1 (pc := 14) dX9_item_14 mlX9_274 imX8_isEmpty seX8_isEmpty kX8_isEmpty (by first | assumption | rfl) rfl (Nat.le_of_ble_eq_true rfl) (by decide) ?_
    refine sp_X8_isEmpty hT ht ?_
    refine x_cv rfl rfl ?_
    rw [decide_eq_false (show ¬ s.2.2.2.2.2.1 0 t = 0 from h0)]
    first | (guard_target =~ Wp _ _ _ _ _ (Value.int (nI _) :: _) _ _ _ _; with_reducible refine x_if_eqN (pc := 17) (tgt := 23) ?_ dX9_item_17 ?_ (fun h17 => ?_) (fun h17 => ?_); (first | omega | exact b2n_32 _ | exact b2n_31 _); decide) | refine x_if_eq (pc := 17) (tgt := 23) dX9_item_17 (by decide) (fun h17 => ?_) (fun h17 => ?_)
    · skip
      refine x_aload_n (pc := 23) dX9_item_23 rfl ?_
      refine x_getR (pc := 24) dX9_item_24 flX9_57 (by first | assumption | rfl) rfl ?_
      refine x_iload_n (pc := 27) dX9_item_27 rfl ?_
      refine x_iload_n (pc := 28) dX9_item_28 rfl ?_
      refine x_invV2 (pc := 29) dX9_item_29 mlX9_280 imX8_hasPlace seX8_hasPlace kX8_hasPlace (by first | assumption | rfl) rfl (Nat.le_of_ble_eq_true rfl) (by decide) ?_
      refine sp_X8_hasPlace hT ht ?_
      refine x_cv rfl rfl ?_
      rw [show isR (nI i) (nI (s.2.2.2.2.2.1 1 t)) = true from e2]
      first | (guard_target =~ Wp _ _ _ _ _ (Value.int (nI _) :: _) _ _ _ _; with_reducible refine x_if_neN (pc := 32) (tgt := 38) ?_ dX9_item_32 ?_ (fun h32 => ?_) (fun h32 => ?_); (first | omega | exact b2n_32 _ | exact b2n_31 _); decide) | refine x_if_ne (pc := 32) (tgt := 38) dX9_item_32 (by decide) (fun h32 => ?_) (fun h32 => ?_)
      · skip
        refine x_aload_n (pc := 38) dX9_item_38 rfl ?_
        refine x_getR (pc := 39) dX9_item_39 flX9_57 (by first | assumption | rfl) rfl ?_
        refine x_iload_n (pc := 42) dX9_item_42 rfl ?_
        refine x_iload_n (pc := 43) dX9_item_43 rfl ?_
        refine x_lload_n (pc := 44) dX9_item_44 rfl ?_
        refine x_invV3 (pc := 45) dX9_item_45 mlX9_323 imX8_put seX8_put kX8_put (by first | assumption | rfl) rfl (Nat.le_of_ble_eq_true rfl) (by decide) ?_
        refine sp_X8_put hT ht (by omega) h0 (fun M2 hs hT2 => ?_)
        refine x_cn rfl rfl ?_
        refine x_iconstN (pc := 48) 1 dX9_item_48 ic_1 ?_
        refine x_ret (pc := 49) (v := some _) rfl trivial dX9_item_49 (by decide) ?_
        exact h M2 (lowP hs) (hC.upP hs hT2)
      · skip
        cases h32
    · skip
      exact absurd rfl h17
  · skip
    cases h4
end P49
