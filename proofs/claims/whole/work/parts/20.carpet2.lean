/-! CARPET 2: who is there, the ways found; treads, gain -/
def onT (A : XA) (g days : Nat) : Nat := match A 1 g with
  | 1 => 2 * days
  | 4 => 2 * days
  | 3 => (A 11 0 + days) / 2 - A 11 0 / 2
  | 6 => (A 11 0 + days) / 2 - A 11 0 / 2
  | _ => days
def trR (A : XA) (g days : Nat) : Nat := xsum (fun k => A 5 (g * 4 + (A 11 0 + k) % 4)) days
def exT (A : XA) (g c days : Nat) : Nat := match A 1 g with
  | 4 => if c = A 4 g then A 2 g * days else 0
  | 5 => if adj (A 4 g) c then days else 0
  | 6 => if c = A 3 g then trR A g days else 0
  | _ => 0
def trd (A : XA) (w : Int32) (g c days : Nat) : Nat := if tb w g = true ∨ A 6 g = 0 then 0 else (if (A 6 g).testBit c then onT A g days else 0) + exT A g c days
def gainA (A : XA) (w : Int32) (c days : Nat) : Nat := xsum (fun g => trd A w g c days * A 7 (g * 16 + c)) (A 8 0)
theorem onT_le {A : XA} {g days : Nat} : onT A g days ≤ 2 * days := by unfold onT; split <;> omega
theorem xsum_bd {f : Nat → Nat} {b : Nat} : ∀ {n : Nat}, (∀ i, i < n → f i ≤ b) → xsum f n ≤ n * b := by
  intro n h
  have := xsum_le h
  rw [xsum_const] at this
  exact this
section P20
variable {g : XG} {d : Nat} {M : XM} {K : Option Value → XS → XM → Prop} {a gg c days : Nat} {A : XA} {w r : Int32}
theorem trR_le (hR : CR a M A w r) (hg : gg < 6) : trR A gg days ≤ days * 9 := xsum_bd (fun i _ => by have := hR.rowsB (show gg * 4 + (A 11 0 + i) % 4 < 24 by omega); omega)
theorem exT_le (hR : CR a M A w r) (hg : gg < 6) : exT A gg c days ≤ 9 * days := by
  have h1 := hR.vB hg
  have h2 := trR_le (days := days) hR hg
  unfold exT
  split
  · split
    · exact Nat.mul_le_mul_right _ (by omega)
    · omega
  · split <;> omega
  · split <;> omega
  · omega
theorem trd_le (hR : CR a M A w r) (hg : gg < 6) : trd A w gg c days ≤ 11 * days := by
  have h1 := exT_le (c := c) (days := days) hR hg
  have h2 := onT_le (A := A) (g := gg) (days := days)
  unfold trd
  split
  · omega
  · split <;> omega
theorem gainA_le (hR : CR a M A w r) (hc : c < 16) : gainA A w c days ≤ 6 * (11 * days * 999) := by
  have h6 := hR.goersB
  refine Nat.le_trans (xsum_bd (b := 11 * days * 999) (fun i hi => ?_)) (Nat.mul_le_mul_right _ h6)
  have h1 := trd_le (c := c) (days := days) hR (show i < 6 by omega)
  have h2 := hR.yieldsB (show i * 16 + c < 96 by omega)
  exact Nat.mul_le_mul h1 (by omega)
theorem sp_X2_hasGoer {x : Int32} (hc : Car a) (hR : CR a M A w r) (h : K (some (.int (nI (b2n (isR x (nI (A 8 0))))))) xSF M) : Ex g d yX2_hasGoer mX2_hasGoer [.ref a, .int x] xSF M K := by
  obtain ⟨c0, c1, c2, c3, c4, c5, c6, c7, c8, c9, c10, c11⟩ := hc
  refine x_entry kX2_hasGoer (Nat.le_of_ble_eq_true rfl) ?_
  show Wp g _ mX2_hasGoer 0 [some (.ref a), some (.int x)] [] _ _ _ _
  refine x_iload_n (pc := 0) dX2_hasGoer_0 rfl ?_
  refine x_if_lt (pc := 1) (tgt := 16) dX2_hasGoer_1 (by decide) (fun h1 => ?_) (fun h1 => ?_)
  · skip
    refine x_iconstN (pc := 16) 0 dX2_hasGoer_16 ic_0 ?_
    refine x_ret (pc := 17) (v := some _) rfl (by first | rfl | decide | exact xrt_b) dX2_hasGoer_17 (by decide) ?_
    rw [show isR x (nI (A 8 0)) = false from decide_eq_false (fun q => absurd q.1 (Int32.not_le.mpr h1))] at h; exact h
  · skip
    refine x_iload_n (pc := 4) dX2_hasGoer_4 rfl ?_
    refine x_aload_n (pc := 5) dX2_hasGoer_5 rfl ?_
    refine x_getI (pc := 6) dX2_hasGoer_6 flX2_58 (by first | assumption | rfl) rfl ?_
    rw [hR.goers]
    refine x_icmp_ge (pc := 9) (tgt := 16) dX2_hasGoer_9 (by decide) (fun h9 => ?_) (fun h9 => ?_)
    · skip
      refine x_iconstN (pc := 16) 0 dX2_hasGoer_16 ic_0 ?_
      refine x_ret (pc := 17) (v := some _) rfl (by first | rfl | decide | exact xrt_b) dX2_hasGoer_17 (by decide) ?_
      rw [show isR x (nI (A 8 0)) = false from decide_eq_false (fun q => absurd q.2 (Int32.not_lt.mpr h9))] at h; exact h
    · skip
      refine x_iconstN (pc := 12) 1 dX2_hasGoer_12 ic_1 ?_
      refine x_goto (pc := 13) (tgt := 17) dX2_hasGoer_13 (by decide) ?_
      refine x_ret (pc := 17) (v := some _) rfl (by first | rfl | decide | exact xrt_b) dX2_hasGoer_17 (by decide) ?_
      rw [show isR x (nI (A 8 0)) = true from decide_eq_true ⟨i0le h1, Int32.not_le.mp h9⟩] at h; exact h
theorem sp_X2_isAway (hg : gg < 32) (hc : Car a) (hR : CR a M A w r) (h : K (some (.int (nI (b2n (tb w gg))))) xSF M) : Ex g d yX2_isAway mX2_isAway [.ref a, .int (nI gg)] xSF M K := by
  obtain ⟨c0, c1, c2, c3, c4, c5, c6, c7, c8, c9, c10, c11⟩ := hc
  refine x_entry kX2_isAway (Nat.le_of_ble_eq_true rfl) ?_
  show Wp g _ mX2_isAway 0 [some (.ref a), some (.int (nI gg))] [] _ _ _ _
  refine x_aload_n (pc := 0) dX2_isAway_0 rfl ?_
  refine x_getI (pc := 1) dX2_isAway_1 flX2_61 (by first | assumption | rfl) rfl ?_
  rw [hR.away]
  refine x_iload_n (pc := 4) dX2_isAway_4 rfl ?_
  refine x_ishr (pc := 5) dX2_isAway_5 ?_
  refine x_iconstN (pc := 6) 1 dX2_isAway_6 ic_1 ?_
  refine x_iand (pc := 7) dX2_isAway_7 ?_
  rw [tb_shr hg]
  first | (guard_target =~ Wp _ _ _ _ _ (Value.int (nI _) :: _) _ _ _ _; with_reducible refine x_if_eqN (pc := 8) (tgt := 15) ?_ dX2_isAway_8 ?_ (fun h8 => ?_) (fun h8 => ?_); (first | omega | exact b2n_32 _ | exact b2n_31 _); decide) | refine x_if_eq (pc := 8) (tgt := 15) dX2_isAway_8 (by decide) (fun h8 => ?_) (fun h8 => ?_)
  · skip
    refine x_iconstN (pc := 15) 0 dX2_isAway_15 ic_0 ?_
    refine x_ret (pc := 16) (v := some _) rfl (by first | rfl | decide | exact xrt_b) dX2_isAway_16 (by decide) ?_
    rw [h8] at h; exact h
  · skip
    refine x_iconstN (pc := 11) 1 dX2_isAway_11 ic_1 ?_
    refine x_goto (pc := 12) (tgt := 16) dX2_isAway_12 (by decide) ?_
    refine x_ret (pc := 16) (v := some _) rfl (by first | rfl | decide | exact xrt_b) dX2_isAway_16 (by decide) ?_
    rw [show b2n (tb w gg) = 1 by have := b2n_lt (tb w gg); omega] at h; exact h
/-- a bit set or cleared -/
def setB (w : Int32) (k : Nat) (b : Bool) : Int32 := if b then w ||| nI (2 ^ k) else w &&& (nI (2 ^ k) ^^^ -1)
theorem sp_X2_putAway {b : Bool} (hg : gg < 32) (hc : Car a) (hR : CR a M A w r) (h : K none xSF (xput M a 9 (setB w gg b))) : Ex g d yX2_putAway mX2_putAway [.ref a, .int (nI gg), .int (nI (b2n b))] xSF M K := by
  obtain ⟨c0, c1, c2, c3, c4, c5, c6, c7, c8, c9, c10, c11⟩ := hc
  refine x_entry kX2_putAway (Nat.le_of_ble_eq_true rfl) ?_
  show Wp g _ mX2_putAway 0 [some (.ref a), some (.int (nI gg)), some (.int (nI (b2n b)))] [] _ _ _ _
  refine x_aload_n (pc := 0) dX2_putAway_0 rfl ?_
  refine x_iload_n (pc := 1) dX2_putAway_1 rfl ?_
  first | (guard_target =~ Wp _ _ _ _ _ (Value.int (nI _) :: _) _ _ _ _; with_reducible refine x_if_eqN (pc := 2) (tgt := 16) ?_ dX2_putAway_2 ?_ (fun h2 => ?_) (fun h2 => ?_); (first | omega | exact b2n_32 _ | exact b2n_31 _); decide) | refine x_if_eq (pc := 2) (tgt := 16) dX2_putAway_2 (by decide) (fun h2 => ?_) (fun h2 => ?_)
  · skip
    refine x_aload_n (pc := 16) dX2_putAway_16 rfl ?_
    refine x_getI (pc := 17) dX2_putAway_17 flX2_61 (by first | assumption | rfl) rfl ?_
    rw [hR.away]
    refine x_iconstN (pc := 20) 1 dX2_putAway_20 ic_1 ?_
    refine x_iload_n (pc := 21) dX2_putAway_21 rfl ?_
    first | (guard_target =~ Wp _ _ _ _ _ (Value.int (nI _) :: Value.int (nI _) :: _) _ _ _ _; with_reducible refine x_ishlN (pc := 22) ?_ dX2_putAway_22 ?_; omega) | refine x_ishl (pc := 22) dX2_putAway_22 ?_
    rw [Nat.one_mul]
    refine x_iconst (pc := 23) dX2_putAway_23 ic_m1 ?_
    refine x_ixor (pc := 24) dX2_putAway_24 ?_
    refine x_iand (pc := 25) dX2_putAway_25 ?_
    refine x_putI (pc := 26) dX2_putAway_26 flX2_61 (by first | assumption | rfl) rfl rfl rfl ?_
    refine x_ret (pc := 29) (v := none) rfl trivial dX2_putAway_29 (by decide) ?_
    rw [b2n_0 h2] at h; exact h
  · skip
    refine x_aload_n (pc := 5) dX2_putAway_5 rfl ?_
    refine x_getI (pc := 6) dX2_putAway_6 flX2_61 (by first | assumption | rfl) rfl ?_
    rw [hR.away]
    refine x_iconstN (pc := 9) 1 dX2_putAway_9 ic_1 ?_
    refine x_iload_n (pc := 10) dX2_putAway_10 rfl ?_
    first | (guard_target =~ Wp _ _ _ _ _ (Value.int (nI _) :: Value.int (nI _) :: _) _ _ _ _; with_reducible refine x_ishlN (pc := 11) ?_ dX2_putAway_11 ?_; omega) | refine x_ishl (pc := 11) dX2_putAway_11 ?_
    rw [Nat.one_mul]
    refine x_ior (pc := 12) dX2_putAway_12 ?_
    refine x_goto (pc := 13) (tgt := 26) dX2_putAway_13 (by decide) ?_
    refine x_putI (pc := 26) dX2_putAway_26 flX2_61 (by first | assumption | rfl) rfl rfl rfl ?_
    refine x_ret (pc := 29) (v := none) rfl trivial dX2_putAway_29 (by decide) ?_
    rw [b2n_1 h2] at h; exact h
theorem sp_X2_findWay (hg : gg < 6) (hc : Car a) (hR : CR a M A w r)
    (h : ∀ M', xsame a (a + 12) M M' → CR a M' (updA A 6 gg (wbits (wayL A gg))) w r → K none xSF M') : Ex g (d + 3) yX2_findWay mX2_findWay [.ref a, .int (nI gg)] xSF M K := by
  have hc' := hc
  obtain ⟨c0, c1, c2, c3, c4, c5, c6, c7, c8, c9, c10, c11⟩ := hc
  refine x_entry kX2_findWay (Nat.le_of_ble_eq_true rfl) ?_
  show Wp g _ mX2_findWay 0 [some (.ref a), some (.int (nI gg))] [] _ _ _ _
  have hl := wayL_len A gg
  have hb := wayL_lt (A := A) (g := gg) (hR.fromB hg) (hR.toB hg)
  refine x_aload_n (pc := 0) dX2_findWay_0 rfl ?_
  refine x_getR (pc := 1) dX2_findWay_1 flX2_30 (by first | assumption | rfl) rfl ?_
  refine x_iload_n (pc := 4) dX2_findWay_4 rfl ?_
  refine x_aload_n (pc := 5) dX2_findWay_5 rfl ?_
  refine x_getR (pc := 6) dX2_findWay_6 flX2_48 (by first | assumption | rfl) rfl ?_
  refine x_aload_n (pc := 9) dX2_findWay_9 rfl ?_
  refine x_iload_n (pc := 10) dX2_findWay_10 rfl ?_
  refine x_invV1 (pc := 11) dX2_findWay_11 mlX2_74 imX2_walkTo seX2_walkTo kX2_walkTo (by first | assumption | rfl) rfl (Nat.le_of_ble_eq_true rfl) (by decide) ?_
  refine sp_X2_walkTo hg hc' hR (fun M1 hs hp => ?_)
  refine x_cv rfl rfl ?_
  refine x_invV1 (pc := 14) dX2_findWay_14 mlX2_78 imX7_cellsOf seX7_cellsOf kX7_cellsOf (by first | assumption | rfl) rfl (Nat.le_of_ble_eq_true rfl) (by decide) ?_
  refine sp_X7_cellsOf (l := wayL A gg) c9 c11 hl hb hp ?_
  refine x_cv rfl rfl ?_
  refine x_iastN (pc := 17) dX2_findWay_17 (by first | assumption | rfl) (by first | with_reducible rfl | (simp only [xlit, nI_add, pk_mul]; with_reducible rfl)) (by omega) (by decide) ?_
  refine x_ret (pc := 18) (v := none) rfl trivial dX2_findWay_18 (by decide) ?_
  refine h _ ((hs.wide (by omega) (by omega)).tr (xsame.put (by omega) (by omega))) ?_
  exact (hR.out hs (by omega)).put 6 (by decide) gg (by show wbits _ < 65536; exact wsetN_lt hb (Nat.le_refl _))
theorem sp_X2_cellOfWay {k : Nat} (hk : k < 16) (hg : gg < 6) (hc : Car a) (hR : CR a M A w r)
    (h : ∀ M', xsame (a + 10) (a + 12) M M' → K (some (.int (if k < (wayL A gg).length then nI ((wayL A gg).getD k 0) else -5))) xSF M') : Ex g (d + 3) yX2_cellOfWay mX2_cellOfWay [.ref a, .int (nI gg), .int (nI k)] xSF M K := by
  have hc' := hc
  obtain ⟨c0, c1, c2, c3, c4, c5, c6, c7, c8, c9, c10, c11⟩ := hc
  refine x_entry kX2_cellOfWay (Nat.le_of_ble_eq_true rfl) ?_
  show Wp g _ mX2_cellOfWay 0 [some (.ref a), some (.int (nI gg)), some (.int (nI k))] [] _ _ _ _
  have hl := wayL_len A gg
  refine x_aload_n (pc := 0) dX2_cellOfWay_0 rfl ?_
  refine x_getR (pc := 1) dX2_cellOfWay_1 flX2_48 (by first | assumption | rfl) rfl ?_
  refine x_iload_n (pc := 4) dX2_cellOfWay_4 rfl ?_
  refine x_aload_n (pc := 5) dX2_cellOfWay_5 rfl ?_
  refine x_iload_n (pc := 6) dX2_cellOfWay_6 rfl ?_
  refine x_invV1 (pc := 7) dX2_cellOfWay_7 mlX2_74 imX2_walkTo seX2_walkTo kX2_walkTo (by first | assumption | rfl) rfl (Nat.le_of_ble_eq_true rfl) (by decide) ?_
  refine sp_X2_walkTo hg hc' hR (fun M1 hs hp => ?_)
  refine x_cv rfl rfl ?_
  refine x_invV2 (pc := 10) dX2_cellOfWay_10 mlX2_81 imX7_cellAt seX7_cellAt kX7_cellAt (by first | assumption | rfl) rfl (Nat.le_of_ble_eq_true rfl) (by decide) ?_
  refine sp_X7_cellAt (l := wayL A gg) hk c9 c11 hl hp ?_
  refine x_cv rfl rfl ?_
  refine x_ret (pc := 13) (v := some _) rfl trivial dX2_cellOfWay_13 (by decide) ?_
  exact h M1 hs
theorem sp_X2_treadsOnWay (hg : gg < 6) (hdy : days ≤ 100) (hc : Car a) (hR : CR a M A w r) (h : K (some (.int (nI (onT A gg days)))) xSF M) : Ex g d yX2_treadsOnWay mX2_treadsOnWay [.ref a, .int (nI gg), .int (nI days)] xSF M K := by
  obtain ⟨c0, c1, c2, c3, c4, c5, c6, c7, c8, c9, c10, c11⟩ := hc
  refine x_entry kX2_treadsOnWay (Nat.le_of_ble_eq_true rfl) ?_
  show Wp g _ mX2_treadsOnWay 0 [some (.ref a), some (.int (nI gg)), some (.int (nI days))] [] _ _ _ _
  have hk := hR.kindB hg
  have hday := hR.dayB
  obtain ⟨kd, hkd⟩ : ∃ kd, kd = A 1 gg := ⟨_, rfl⟩
  have sw : Wp g d mX2_treadsOnWay 6 [some (.ref a), some (.int (nI gg)), some (.int (nI days))] [.int (nI (A 1 gg))] xSF (0, 0) M K := by
    rw [← hkd] at hk ⊢
    rcases (show kd = 0 ∨ kd = 1 ∨ kd = 2 ∨ kd = 3 ∨ kd = 4 ∨ kd = 5 ∨ kd = 6 by omega) with rfl | rfl | rfl | rfl | rfl | rfl | rfl
    · refine x_tableOut (pc := 6) (tgt := 64) dX2_treadsOnWay_6 (by decide +kernel) (by decide) ?_
      have e : onT A gg days = days := by unfold onT; rw [← hkd]; rfl
      rw [e] at h
      refine x_iload_n (pc := 64) dX2_treadsOnWay_64 rfl ?_
      refine x_ret (pc := 65) (v := some _) rfl trivial dX2_treadsOnWay_65 (by decide) ?_
      exact h
    · refine x_tableIn (pc := 6) (off := 38) (tgt := 44) dX2_treadsOnWay_6 (by decide +kernel) (by decide +kernel) (by decide +kernel) (by decide) ?_
      have e : onT A gg days = 2 * days := by unfold onT; rw [← hkd]; rfl
      rw [e] at h
      refine x_iconstN (pc := 44) 2 dX2_treadsOnWay_44 ic_2 ?_
      refine x_iload_n (pc := 45) dX2_treadsOnWay_45 rfl ?_
      first | (guard_target =~ Wp _ _ _ _ _ (Value.int (nI _) :: Value.int (nI _) :: _) _ _ _ _; with_reducible refine x_imulN (pc := 46) dX2_treadsOnWay_46 ?_) | refine x_imul (pc := 46) dX2_treadsOnWay_46 ?_
      refine x_ret (pc := 47) (v := some _) rfl trivial dX2_treadsOnWay_47 (by decide) ?_
      exact h
    · refine x_tableIn (pc := 6) (off := 58) (tgt := 64) dX2_treadsOnWay_6 (by decide +kernel) (by decide +kernel) (by decide +kernel) (by decide) ?_
      have e : onT A gg days = days := by unfold onT; rw [← hkd]; rfl
      rw [e] at h
      refine x_iload_n (pc := 64) dX2_treadsOnWay_64 rfl ?_
      refine x_ret (pc := 65) (v := some _) rfl trivial dX2_treadsOnWay_65 (by decide) ?_
      exact h
    · refine x_tableIn (pc := 6) (off := 42) (tgt := 48) dX2_treadsOnWay_6 (by decide +kernel) (by decide +kernel) (by decide +kernel) (by decide) ?_
      have e : onT A gg days = (A 11 0 + days) / 2 - A 11 0 / 2 := by unfold onT; rw [← hkd]; rfl
      rw [e] at h
      refine x_aload_n (pc := 48) dX2_treadsOnWay_48 rfl ?_
      refine x_getI (pc := 49) dX2_treadsOnWay_49 flX2_67 (by first | assumption | rfl) rfl ?_
      rw [hR.day]
      refine x_iload_n (pc := 52) dX2_treadsOnWay_52 rfl ?_
      first | (guard_target =~ Wp _ _ _ _ _ (Value.int (nI _) :: Value.int (nI _) :: _) _ _ _ _; with_reducible refine x_iaddN (pc := 53) dX2_treadsOnWay_53 ?_) | refine x_iadd (pc := 53) dX2_treadsOnWay_53 ?_
      refine x_iconstN (pc := 54) 2 dX2_treadsOnWay_54 ic_2 ?_
      first | (guard_target =~ Wp _ _ _ _ _ (Value.int (nI _) :: Value.int (nI _) :: _) _ _ _ _; with_reducible refine x_idivN (pc := 55) ?_ ?_ ?_ dX2_treadsOnWay_55 ?_; omega; omega; omega) | refine x_idiv (pc := 55) dX2_treadsOnWay_55 (by assumption) ?_
      refine x_aload_n (pc := 56) dX2_treadsOnWay_56 rfl ?_
      refine x_getI (pc := 57) dX2_treadsOnWay_57 flX2_67 (by first | assumption | rfl) rfl ?_
      rw [hR.day]
      refine x_iconstN (pc := 60) 2 dX2_treadsOnWay_60 ic_2 ?_
      first | (guard_target =~ Wp _ _ _ _ _ (Value.int (nI _) :: Value.int (nI _) :: _) _ _ _ _; with_reducible refine x_idivN (pc := 61) ?_ ?_ ?_ dX2_treadsOnWay_61 ?_; omega; omega; omega) | refine x_idiv (pc := 61) dX2_treadsOnWay_61 (by assumption) ?_
      first | (guard_target =~ Wp _ _ _ _ _ (Value.int (nI _) :: Value.int (nI _) :: _) _ _ _ _; with_reducible refine x_isubN (pc := 62) ?_ dX2_treadsOnWay_62 ?_; omega) | refine x_isub (pc := 62) dX2_treadsOnWay_62 ?_
      refine x_ret (pc := 63) (v := some _) rfl trivial dX2_treadsOnWay_63 (by decide) ?_
      exact h
    · refine x_tableIn (pc := 6) (off := 38) (tgt := 44) dX2_treadsOnWay_6 (by decide +kernel) (by decide +kernel) (by decide +kernel) (by decide) ?_
      have e : onT A gg days = 2 * days := by unfold onT; rw [← hkd]; rfl
      rw [e] at h
      refine x_iconstN (pc := 44) 2 dX2_treadsOnWay_44 ic_2 ?_
      refine x_iload_n (pc := 45) dX2_treadsOnWay_45 rfl ?_
      first | (guard_target =~ Wp _ _ _ _ _ (Value.int (nI _) :: Value.int (nI _) :: _) _ _ _ _; with_reducible refine x_imulN (pc := 46) dX2_treadsOnWay_46 ?_) | refine x_imul (pc := 46) dX2_treadsOnWay_46 ?_
      refine x_ret (pc := 47) (v := some _) rfl trivial dX2_treadsOnWay_47 (by decide) ?_
      exact h
    · refine x_tableIn (pc := 6) (off := 58) (tgt := 64) dX2_treadsOnWay_6 (by decide +kernel) (by decide +kernel) (by decide +kernel) (by decide) ?_
      have e : onT A gg days = days := by unfold onT; rw [← hkd]; rfl
      rw [e] at h
      refine x_iload_n (pc := 64) dX2_treadsOnWay_64 rfl ?_
      refine x_ret (pc := 65) (v := some _) rfl trivial dX2_treadsOnWay_65 (by decide) ?_
      exact h
    · refine x_tableIn (pc := 6) (off := 42) (tgt := 48) dX2_treadsOnWay_6 (by decide +kernel) (by decide +kernel) (by decide +kernel) (by decide) ?_
      have e : onT A gg days = (A 11 0 + days) / 2 - A 11 0 / 2 := by unfold onT; rw [← hkd]; rfl
      rw [e] at h
      refine x_aload_n (pc := 48) dX2_treadsOnWay_48 rfl ?_
      refine x_getI (pc := 49) dX2_treadsOnWay_49 flX2_67 (by first | assumption | rfl) rfl ?_
      rw [hR.day]
      refine x_iload_n (pc := 52) dX2_treadsOnWay_52 rfl ?_
      first | (guard_target =~ Wp _ _ _ _ _ (Value.int (nI _) :: Value.int (nI _) :: _) _ _ _ _; with_reducible refine x_iaddN (pc := 53) dX2_treadsOnWay_53 ?_) | refine x_iadd (pc := 53) dX2_treadsOnWay_53 ?_
      refine x_iconstN (pc := 54) 2 dX2_treadsOnWay_54 ic_2 ?_
      first | (guard_target =~ Wp _ _ _ _ _ (Value.int (nI _) :: Value.int (nI _) :: _) _ _ _ _; with_reducible refine x_idivN (pc := 55) ?_ ?_ ?_ dX2_treadsOnWay_55 ?_; omega; omega; omega) | refine x_idiv (pc := 55) dX2_treadsOnWay_55 (by assumption) ?_
      refine x_aload_n (pc := 56) dX2_treadsOnWay_56 rfl ?_
      refine x_getI (pc := 57) dX2_treadsOnWay_57 flX2_67 (by first | assumption | rfl) rfl ?_
      rw [hR.day]
      refine x_iconstN (pc := 60) 2 dX2_treadsOnWay_60 ic_2 ?_
      first | (guard_target =~ Wp _ _ _ _ _ (Value.int (nI _) :: Value.int (nI _) :: _) _ _ _ _; with_reducible refine x_idivN (pc := 61) ?_ ?_ ?_ dX2_treadsOnWay_61 ?_; omega; omega; omega) | refine x_idiv (pc := 61) dX2_treadsOnWay_61 (by assumption) ?_
      first | (guard_target =~ Wp _ _ _ _ _ (Value.int (nI _) :: Value.int (nI _) :: _) _ _ _ _; with_reducible refine x_isubN (pc := 62) ?_ dX2_treadsOnWay_62 ?_; omega) | refine x_isub (pc := 62) dX2_treadsOnWay_62 ?_
      refine x_ret (pc := 63) (v := some _) rfl trivial dX2_treadsOnWay_63 (by decide) ?_
      exact h
  refine x_aload_n (pc := 0) dX2_treadsOnWay_0 rfl ?_
  refine x_getR (pc := 1) dX2_treadsOnWay_1 flX2_15 (by first | assumption | rfl) rfl ?_
  refine x_iload_n (pc := 4) dX2_treadsOnWay_4 rfl ?_
  refine x_ialdN (pc := 5) dX2_treadsOnWay_5 (by first | assumption | rfl) (by first | with_reducible rfl | (simp only [xlit, nI_add, pk_mul]; with_reducible rfl)) (by omega) (by decide) ?_
  rw [hR.kind hg]
  exact sw
theorem sp_X2_treadsOfRow (hg : gg < 6) (hdy : days ≤ 100) (hc : Car a) (hR : CR a M A w r) (h : K (some (.int (nI (trR A gg days)))) xSF M) : Ex g d yX2_treadsOfRow mX2_treadsOfRow [.ref a, .int (nI gg), .int (nI days)] xSF M K := by
  obtain ⟨c0, c1, c2, c3, c4, c5, c6, c7, c8, c9, c10, c11⟩ := hc
  refine x_entry kX2_treadsOfRow (Nat.le_of_ble_eq_true rfl) ?_
  show Wp g _ mX2_treadsOfRow 0 [some (.ref a), some (.int (nI gg)), some (.int (nI days)), none, none] [] _ _ _ _
  have hday := hR.dayB
  have loop : ∀ n k, k + n = days → Wp g d mX2_treadsOfRow 5 [some (.ref a), some (.int (nI gg)), some (.int (nI days)), some (.int (nI (xsum (fun k => A 5 (gg * 4 + (A 11 0 + k) % 4)) k))), some (.int (nI k))] [] xSF (0, 0) M K := by
    intro n
    induction n with
    | zero =>
      intro k hk
      obtain rfl : k = days := by omega
      refine x_iload (pc := 5) dX2_treadsOfRow_5 rfl ?_
      refine x_iload_n (pc := 7) dX2_treadsOfRow_7 rfl ?_
      first | (guard_target =~ Wp _ _ _ _ _ (Value.int (nI _) :: Value.int (nI _) :: _) _ _ _ _; with_reducible refine x_icmp_geN (pc := 8) (tgt := 38) ?_ ?_ dX2_treadsOfRow_8 ?_ (fun h8 => ?_) (fun h8 => ?_); (first | omega | exact b2n_31 _); (first | omega | exact b2n_31 _); decide) | refine x_icmp_ge (pc := 8) (tgt := 38) dX2_treadsOfRow_8 (by decide) (fun h8 => ?_) (fun h8 => ?_)
      · skip
        refine x_iload_n (pc := 38) dX2_treadsOfRow_38 rfl ?_
        refine x_ret (pc := 39) (v := some _) rfl trivial dX2_treadsOfRow_39 (by decide) ?_
        exact h
      · skip
        omega
    | succ n ih =>
      intro k hk
      refine x_iload (pc := 5) dX2_treadsOfRow_5 rfl ?_
      refine x_iload_n (pc := 7) dX2_treadsOfRow_7 rfl ?_
      first | (guard_target =~ Wp _ _ _ _ _ (Value.int (nI _) :: Value.int (nI _) :: _) _ _ _ _; with_reducible refine x_icmp_geN (pc := 8) (tgt := 38) ?_ ?_ dX2_treadsOfRow_8 ?_ (fun h8 => ?_) (fun h8 => ?_); (first | omega | exact b2n_31 _); (first | omega | exact b2n_31 _); decide) | refine x_icmp_ge (pc := 8) (tgt := 38) dX2_treadsOfRow_8 (by decide) (fun h8 => ?_) (fun h8 => ?_)
      · skip
        omega
      · skip
        refine x_iload_n (pc := 11) dX2_treadsOfRow_11 rfl ?_
        refine x_aload_n (pc := 12) dX2_treadsOfRow_12 rfl ?_
        refine x_getR (pc := 13) dX2_treadsOfRow_13 flX2_27 (by first | assumption | rfl) rfl ?_
        refine x_iload_n (pc := 16) dX2_treadsOfRow_16 rfl ?_
        refine x_iconstN (pc := 17) 4 dX2_treadsOfRow_17 ic_4 ?_
        first | (guard_target =~ Wp _ _ _ _ _ (Value.int (nI _) :: Value.int (nI _) :: _) _ _ _ _; with_reducible refine x_imulN (pc := 18) dX2_treadsOfRow_18 ?_) | refine x_imul (pc := 18) dX2_treadsOfRow_18 ?_
        refine x_aload_n (pc := 19) dX2_treadsOfRow_19 rfl ?_
        refine x_getI (pc := 20) dX2_treadsOfRow_20 flX2_67 (by first | assumption | rfl) rfl ?_
        rw [hR.day]
        refine x_iload (pc := 23) dX2_treadsOfRow_23 rfl ?_
        first | (guard_target =~ Wp _ _ _ _ _ (Value.int (nI _) :: Value.int (nI _) :: _) _ _ _ _; with_reducible refine x_iaddN (pc := 25) dX2_treadsOfRow_25 ?_) | refine x_iadd (pc := 25) dX2_treadsOfRow_25 ?_
        refine x_iconstN (pc := 26) 4 dX2_treadsOfRow_26 ic_4 ?_
        first | (guard_target =~ Wp _ _ _ _ _ (Value.int (nI _) :: Value.int (nI _) :: _) _ _ _ _; with_reducible refine x_iremN (pc := 27) ?_ ?_ ?_ dX2_treadsOfRow_27 ?_; omega; omega; omega) | refine x_irem (pc := 27) dX2_treadsOfRow_27 (by assumption) ?_
        first | (guard_target =~ Wp _ _ _ _ _ (Value.int (nI _) :: Value.int (nI _) :: _) _ _ _ _; with_reducible refine x_iaddN (pc := 28) dX2_treadsOfRow_28 ?_) | refine x_iadd (pc := 28) dX2_treadsOfRow_28 ?_
        refine x_ialdN (pc := 29) dX2_treadsOfRow_29 (by first | assumption | rfl) (by first | with_reducible rfl | (simp only [xlit, nI_add, pk_mul]; with_reducible rfl)) (by omega) (by decide) ?_
        rw [hR.rows (by omega)]
        first | (guard_target =~ Wp _ _ _ _ _ (Value.int (nI _) :: Value.int (nI _) :: _) _ _ _ _; with_reducible refine x_iaddN (pc := 30) dX2_treadsOfRow_30 ?_) | refine x_iadd (pc := 30) dX2_treadsOfRow_30 ?_
        refine x_istore_n (pc := 31) dX2_treadsOfRow_31 (by decide) xs_3 (x_hp rfl) ?_
        first | (guard_target =~ Wp _ _ _ _ (_ :: _ :: _ :: _ :: some (Value.int (nI _)) :: _) _ _ _ _ _; with_reducible refine x_iincN (pc := 32) 1 ic_1 dX2_treadsOfRow_32 ?_ xg_4 xs_4 ?_ ?_; decide; exact (x_hp rfl)) | refine x_iincC (pc := 32) ic_1 dX2_treadsOfRow_32 (by decide) rfl xs_4 (x_hp rfl) ?_
        refine x_goto (pc := 35) (tgt := 5) dX2_treadsOfRow_35 (by decide) ?_
        exact ih (k + 1) (by omega)
  refine x_iconstN (pc := 0) 0 dX2_treadsOfRow_0 ic_0 ?_
  refine x_istore_n (pc := 1) dX2_treadsOfRow_1 (by decide) xs_3 (x_hp rfl) ?_
  refine x_iconstN (pc := 2) 0 dX2_treadsOfRow_2 ic_0 ?_
  refine x_istore (pc := 3) dX2_treadsOfRow_3 (by decide) xs_4 (x_hp rfl) ?_
  exact loop days 0 (by omega)
end P20
