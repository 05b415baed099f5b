/-! CARPET 4: sums and sets over it; furniture, a new goer -/
theorem iniMath : .initialized "java/lang/Math" ∈ xG := xG_tb 16 (by decide +kernel) rfl
theorem coMmin : .code Lib.Math.min.name Lib.Math.min.code 2 (some .int) ∈ xG := xG_tb 597 (by decide +kernel) rfl
theorem coMmax : .code Lib.Math.max.name Lib.Math.max.code 2 (some .int) ∈ xG := xG_tb 448 (by decide +kernel) rfl
theorem nI_min {x y : Nat} (hx : x < 2 ^ 31) (hy : y < 2 ^ 31) : (if nI y < nI x then nI y else nI x) = nI (min x y) := by
  by_cases h : y < x
  · rw [if_pos ((nI_ltI hy hx).mpr h), Nat.min_eq_right (by omega)]
  · rw [if_neg (fun q => h ((nI_ltI hy hx).mp q)), Nat.min_eq_left (by omega)]
theorem nI_max0 {x : Int32} : True := trivial
def sumA (A : XA) : Nat := xsum (fun c => A 0 c) 16
def baldA (A : XA) : Nat := xset (fun c => decide (A 13 0 ≤ A 0 c)) 16
def prtA (A : XA) (w : Int32) (g days : Nat) : Nat := xset (fun c => decide (0 < trd A w g c days * A 7 (g * 16 + c))) 16
def trodG (A : XA) (w : Int32) : Nat → Nat
  | 0 => 0
  | n + 1 => trodG A w n ||| xset (fun c => decide (0 < trd A w n c 1)) 16
theorem xset_lt {p : Nat → Bool} : ∀ {n : Nat}, xset p n < 2 ^ n := by
  intro n
  induction n with
  | zero => exact Nat.zero_lt_succ _
  | succ n ih =>
    rw [xset]
    refine Nat.or_lt_two_pow (Nat.lt_trans ih (Nat.pow_lt_pow_right (by decide) (by omega))) ?_
    split
    · exact Nat.pow_lt_pow_right (by decide) (by omega)
    · exact Nat.two_pow_pos _
theorem xset_tb {p : Nat → Bool} : ∀ {n i : Nat}, (xset p n).testBit i = (decide (i < n) && p i) := by
  intro n
  induction n with
  | zero => intro i; simp [xset]
  | succ n ih =>
    intro i
    rw [xset, Nat.testBit_or, ih]
    by_cases hp : p n = true
    · rw [if_pos hp, two_tb]
      by_cases hi : i = n
      · subst hi; simp [hp]
      · have h1 : (n = i) = False := eq_false (fun h => hi h.symm)
        have h2 : (i < n + 1) = (i < n) := by apply propext; omega
        simp [h1, h2]
    · rw [if_neg hp, Nat.zero_testBit]
      by_cases hi : i = n
      · subst hi; simp [hp]
      · have h2 : (i < n + 1) = (i < n) := by apply propext; omega
        simp [h2]
section P22
variable {g : XG} {d : Nat} {M : XM} {K : Option Value → XS → XM → Prop} {a gg c days : Nat} {A : XA} {w r : Int32}
theorem sumA_le (hR : CR a M A w r) (n : Nat) (hn : n ≤ 16) : xsum (fun c => A 0 c) n ≤ n * 67108863 := xsum_bd (fun i hi => by have := hR.wearB (show i < 16 by omega); omega)
theorem sp_X2_wearOfAll (hc : Car a) (hR : CR a M A w r) (h : K (some (.int (nI (sumA A)))) xSF M) : Ex g d yX2_wearOfAll mX2_wearOfAll [.ref a] xSF M K := by
  obtain ⟨c0, c1, c2, c3, c4, c5, c6, c7, c8, c9, c10, c11⟩ := hc
  refine x_entry kX2_wearOfAll (Nat.le_of_ble_eq_true rfl) ?_
  show Wp g _ mX2_wearOfAll 0 [some (.ref a), none, none] [] _ _ _ _
  have loop : ∀ n k, k + n = 16 → Wp g d mX2_wearOfAll 4 [some (.ref a), some (.int (nI (xsum (fun c => A 0 c) k))), some (.int (nI k))] [] xSF (0, 0) M K := by
    intro n
    induction n with
    | zero =>
      intro k hk
      obtain rfl : k = 16 := by omega
      refine x_iload_n (pc := 4) dX2_wearOfAll_4 rfl ?_
      refine x_bipushN (pc := 5) 16 dX2_wearOfAll_5 bp_16 ?_
      first | (guard_target =~ Wp _ _ _ _ _ (Value.int (nI _) :: Value.int (nI _) :: _) _ _ _ _; with_reducible refine x_icmp_geN (pc := 7) (tgt := 25) ?_ ?_ dX2_wearOfAll_7 ?_ (fun h7 => ?_) (fun h7 => ?_); (first | omega | exact b2n_31 _); (first | omega | exact b2n_31 _); decide) | refine x_icmp_ge (pc := 7) (tgt := 25) dX2_wearOfAll_7 (by decide) (fun h7 => ?_) (fun h7 => ?_)
      · skip
        refine x_iload_n (pc := 25) dX2_wearOfAll_25 rfl ?_
        refine x_ret (pc := 26) (v := some _) rfl trivial dX2_wearOfAll_26 (by decide) ?_
        exact h
      · skip
        omega
    | succ n ih =>
      intro k hk
      refine x_iload_n (pc := 4) dX2_wearOfAll_4 rfl ?_
      refine x_bipushN (pc := 5) 16 dX2_wearOfAll_5 bp_16 ?_
      first | (guard_target =~ Wp _ _ _ _ _ (Value.int (nI _) :: Value.int (nI _) :: _) _ _ _ _; with_reducible refine x_icmp_geN (pc := 7) (tgt := 25) ?_ ?_ dX2_wearOfAll_7 ?_ (fun h7 => ?_) (fun h7 => ?_); (first | omega | exact b2n_31 _); (first | omega | exact b2n_31 _); decide) | refine x_icmp_ge (pc := 7) (tgt := 25) dX2_wearOfAll_7 (by decide) (fun h7 => ?_) (fun h7 => ?_)
      · skip
        omega
      · skip
        refine x_iload_n (pc := 10) dX2_wearOfAll_10 rfl ?_
        refine x_aload_n (pc := 11) dX2_wearOfAll_11 rfl ?_
        refine x_getR (pc := 12) dX2_wearOfAll_12 flX2_9 (by first | assumption | rfl) rfl ?_
        refine x_iload_n (pc := 15) dX2_wearOfAll_15 rfl ?_
        refine x_ialdN (pc := 16) dX2_wearOfAll_16 (by first | assumption | rfl) (by first | with_reducible rfl | (simp only [xlit, nI_add, pk_mul]; with_reducible rfl)) (by omega) (by decide) ?_
        rw [hR.wear (by omega)]
        first | (guard_target =~ Wp _ _ _ _ _ (Value.int (nI _) :: Value.int (nI _) :: _) _ _ _ _; with_reducible refine x_iaddN (pc := 17) dX2_wearOfAll_17 ?_) | refine x_iadd (pc := 17) dX2_wearOfAll_17 ?_
        refine x_istore_n (pc := 18) dX2_wearOfAll_18 (by decide) xs_1 (x_hp rfl) ?_
        first | (guard_target =~ Wp _ _ _ _ (_ :: _ :: some (Value.int (nI _)) :: _) _ _ _ _ _; with_reducible refine x_iincN (pc := 19) 1 ic_1 dX2_wearOfAll_19 ?_ xg_2 xs_2 ?_ ?_; decide; exact (x_hp rfl)) | refine x_iincC (pc := 19) ic_1 dX2_wearOfAll_19 (by decide) rfl xs_2 (x_hp rfl) ?_
        refine x_goto (pc := 22) (tgt := 4) dX2_wearOfAll_22 (by decide) ?_
        exact ih (k + 1) (by omega)
  refine x_iconstN (pc := 0) 0 dX2_wearOfAll_0 ic_0 ?_
  refine x_istore_n (pc := 1) dX2_wearOfAll_1 (by decide) xs_1 (x_hp rfl) ?_
  refine x_iconstN (pc := 2) 0 dX2_wearOfAll_2 ic_0 ?_
  refine x_istore_n (pc := 3) dX2_wearOfAll_3 (by decide) xs_2 (x_hp rfl) ?_
  exact loop 16 0 rfl
theorem sp_X2_baldCells (hc : Car a) (hR : CR a M A w r) (h : K (some (.int (nI (baldA A)))) xSF M) : Ex g d yX2_baldCells mX2_baldCells [.ref a] xSF M K := by
  obtain ⟨c0, c1, c2, c3, c4, c5, c6, c7, c8, c9, c10, c11⟩ := hc
  refine x_entry kX2_baldCells (Nat.le_of_ble_eq_true rfl) ?_
  show Wp g _ mX2_baldCells 0 [some (.ref a), none, none] [] _ _ _ _
  have hb := hR.baldB
  have loop : ∀ n k, k + n = 16 → Wp g d mX2_baldCells 4 [some (.ref a), some (.int (nI (xset (fun c => decide (A 13 0 ≤ A 0 c)) k))), some (.int (nI k))] [] xSF (0, 0) M K := by
    intro n
    induction n with
    | zero =>
      intro k hk
      obtain rfl : k = 16 := by omega
      refine x_iload_n (pc := 4) dX2_baldCells_4 rfl ?_
      refine x_bipushN (pc := 5) 16 dX2_baldCells_5 bp_16 ?_
      first | (guard_target =~ Wp _ _ _ _ _ (Value.int (nI _) :: Value.int (nI _) :: _) _ _ _ _; with_reducible refine x_icmp_geN (pc := 7) (tgt := 35) ?_ ?_ dX2_baldCells_7 ?_ (fun h7 => ?_) (fun h7 => ?_); (first | omega | exact b2n_31 _); (first | omega | exact b2n_31 _); decide) | refine x_icmp_ge (pc := 7) (tgt := 35) dX2_baldCells_7 (by decide) (fun h7 => ?_) (fun h7 => ?_)
      · skip
        refine x_iload_n (pc := 35) dX2_baldCells_35 rfl ?_
        refine x_ret (pc := 36) (v := some _) rfl trivial dX2_baldCells_36 (by decide) ?_
        exact h
      · skip
        omega
    | succ n ih =>
      intro k hk
      have hwb := hR.wearB (show k < 16 by omega)
      have ih2 := ih (k + 1) (by omega)
      rw [xset] at ih2
      refine x_iload_n (pc := 4) dX2_baldCells_4 rfl ?_
      refine x_bipushN (pc := 5) 16 dX2_baldCells_5 bp_16 ?_
      first | (guard_target =~ Wp _ _ _ _ _ (Value.int (nI _) :: Value.int (nI _) :: _) _ _ _ _; with_reducible refine x_icmp_geN (pc := 7) (tgt := 35) ?_ ?_ dX2_baldCells_7 ?_ (fun h7 => ?_) (fun h7 => ?_); (first | omega | exact b2n_31 _); (first | omega | exact b2n_31 _); decide) | refine x_icmp_ge (pc := 7) (tgt := 35) dX2_baldCells_7 (by decide) (fun h7 => ?_) (fun h7 => ?_)
      · skip
        omega
      · skip
        refine x_aload_n (pc := 10) dX2_baldCells_10 rfl ?_
        refine x_getR (pc := 11) dX2_baldCells_11 flX2_9 (by first | assumption | rfl) rfl ?_
        refine x_iload_n (pc := 14) dX2_baldCells_14 rfl ?_
        refine x_ialdN (pc := 15) dX2_baldCells_15 (by first | assumption | rfl) (by first | with_reducible rfl | (simp only [xlit, nI_add, pk_mul]; with_reducible rfl)) (by omega) (by decide) ?_
        rw [hR.wear (by omega)]
        refine x_aload_n (pc := 16) dX2_baldCells_16 rfl ?_
        refine x_getI (pc := 17) dX2_baldCells_17 flX2_42 (by first | assumption | rfl) rfl ?_
        rw [hR.bald]
        first | (guard_target =~ Wp _ _ _ _ _ (Value.int (nI _) :: Value.int (nI _) :: _) _ _ _ _; with_reducible refine x_icmp_ltN (pc := 20) (tgt := 29) ?_ ?_ dX2_baldCells_20 ?_ (fun h20 => ?_) (fun h20 => ?_); (first | omega | exact b2n_31 _); (first | omega | exact b2n_31 _); decide) | refine x_icmp_lt (pc := 20) (tgt := 29) dX2_baldCells_20 (by decide) (fun h20 => ?_) (fun h20 => ?_)
        · skip
          first | (guard_target =~ Wp _ _ _ _ (_ :: _ :: some (Value.int (nI _)) :: _) _ _ _ _ _; with_reducible refine x_iincN (pc := 29) 1 ic_1 dX2_baldCells_29 ?_ xg_2 xs_2 ?_ ?_; decide; exact (x_hp rfl)) | refine x_iincC (pc := 29) ic_1 dX2_baldCells_29 (by decide) rfl xs_2 (x_hp rfl) ?_
          refine x_goto (pc := 32) (tgt := 4) dX2_baldCells_32 (by decide) ?_
          rw [decide_eq_false (by omega), if_neg (by decide), Nat.or_zero] at ih2; exact ih2
        · skip
          refine x_iload_n (pc := 23) dX2_baldCells_23 rfl ?_
          refine x_iconstN (pc := 24) 1 dX2_baldCells_24 ic_1 ?_
          refine x_iload_n (pc := 25) dX2_baldCells_25 rfl ?_
          first | (guard_target =~ Wp _ _ _ _ _ (Value.int (nI _) :: Value.int (nI _) :: _) _ _ _ _; with_reducible refine x_ishlN (pc := 26) ?_ dX2_baldCells_26 ?_; omega) | refine x_ishl (pc := 26) dX2_baldCells_26 ?_
          rw [Nat.one_mul]
          first | (guard_target =~ Wp _ _ _ _ _ (Value.int (nI _) :: Value.int (nI _) :: _) _ _ _ _; with_reducible refine x_iorN (pc := 27) dX2_baldCells_27 ?_) | refine x_ior (pc := 27) dX2_baldCells_27 ?_
          refine x_istore_n (pc := 28) dX2_baldCells_28 (by decide) xs_1 (x_hp rfl) ?_
          first | (guard_target =~ Wp _ _ _ _ (_ :: _ :: some (Value.int (nI _)) :: _) _ _ _ _ _; with_reducible refine x_iincN (pc := 29) 1 ic_1 dX2_baldCells_29 ?_ xg_2 xs_2 ?_ ?_; decide; exact (x_hp rfl)) | refine x_iincC (pc := 29) ic_1 dX2_baldCells_29 (by decide) rfl xs_2 (x_hp rfl) ?_
          refine x_goto (pc := 32) (tgt := 4) dX2_baldCells_32 (by decide) ?_
          rw [decide_eq_true (by omega), if_pos rfl] at ih2; exact ih2
  refine x_iconstN (pc := 0) 0 dX2_baldCells_0 ic_0 ?_
  refine x_istore_n (pc := 1) dX2_baldCells_1 (by decide) xs_1 (x_hp rfl) ?_
  refine x_iconstN (pc := 2) 0 dX2_baldCells_2 ic_0 ?_
  refine x_istore_n (pc := 3) dX2_baldCells_3 (by decide) xs_2 (x_hp rfl) ?_
  exact loop 16 0 rfl
theorem sp_X2_printOf (hg : gg < 6) (hdy : days ≤ 100) (hc : Car a) (hR : CR a M A w r) (h : K (some (.int (nI (prtA A w gg days)))) xSF M) : Ex g (d + 2) yX2_printOf mX2_printOf [.ref a, .int (nI gg), .int (nI days)] xSF M K := by
  have hc' := hc
  obtain ⟨c0, c1, c2, c3, c4, c5, c6, c7, c8, c9, c10, c11⟩ := hc
  refine x_entry kX2_printOf (Nat.le_of_ble_eq_true rfl) ?_
  show Wp g _ mX2_printOf 0 [some (.ref a), some (.int (nI gg)), some (.int (nI days)), none, none] [] _ _ _ _
  have loop : ∀ n k, k + n = 16 → Wp g (d + 2) mX2_printOf 5 [some (.ref a), some (.int (nI gg)), some (.int (nI days)), some (.int (nI (xset (fun c => decide (0 < trd A w gg c days * A 7 (gg * 16 + c))) k))), some (.int (nI k))] [] xSF (0, 0) M K := by
    intro n
    induction n with
    | zero =>
      intro k hk
      obtain rfl : k = 16 := by omega
      refine x_iload (pc := 5) dX2_printOf_5 rfl ?_
      refine x_bipushN (pc := 7) 16 dX2_printOf_7 bp_16 ?_
      first | (guard_target =~ Wp _ _ _ _ _ (Value.int (nI _) :: Value.int (nI _) :: _) _ _ _ _; with_reducible refine x_icmp_geN (pc := 9) (tgt := 49) ?_ ?_ dX2_printOf_9 ?_ (fun h9 => ?_) (fun h9 => ?_); (first | omega | exact b2n_31 _); (first | omega | exact b2n_31 _); decide) | refine x_icmp_ge (pc := 9) (tgt := 49) dX2_printOf_9 (by decide) (fun h9 => ?_) (fun h9 => ?_)
      · skip
        refine x_iload_n (pc := 49) dX2_printOf_49 rfl ?_
        refine x_ret (pc := 50) (v := some _) rfl trivial dX2_printOf_50 (by decide) ?_
        exact h
      · skip
        omega
    | succ n ih =>
      intro k hk
      have ih2 := ih (k + 1) (by omega)
      rw [xset] at ih2
      have hb1 := trd_le (c := k) (days := days) hR hg
      have hb2 := hR.yieldsB (show gg * 16 + k < 96 by omega)
      have hb3 : trd A w gg k days * A 7 (gg * 16 + k) ≤ 1100 * 999 := Nat.mul_le_mul (by omega) (by omega)
      refine x_iload (pc := 5) dX2_printOf_5 rfl ?_
      refine x_bipushN (pc := 7) 16 dX2_printOf_7 bp_16 ?_
      first | (guard_target =~ Wp _ _ _ _ _ (Value.int (nI _) :: Value.int (nI _) :: _) _ _ _ _; with_reducible refine x_icmp_geN (pc := 9) (tgt := 49) ?_ ?_ dX2_printOf_9 ?_ (fun h9 => ?_) (fun h9 => ?_); (first | omega | exact b2n_31 _); (first | omega | exact b2n_31 _); decide) | refine x_icmp_ge (pc := 9) (tgt := 49) dX2_printOf_9 (by decide) (fun h9 => ?_) (fun h9 => ?_)
      · skip
        omega
      · skip
        refine x_aload_n (pc := 12) dX2_printOf_12 rfl ?_
        refine x_iload_n (pc := 13) dX2_printOf_13 rfl ?_
        refine x_iload (pc := 14) dX2_printOf_14 rfl ?_
        refine x_iload_n (pc := 16) dX2_printOf_16 rfl ?_
        refine x_invV3 (pc := 17) dX2_printOf_17 mlX2_111 imX2_treads seX2_treads kX2_treads (by first | assumption | rfl) rfl (Nat.le_of_ble_eq_true rfl) (by decide) ?_
        refine sp_X2_treads hg (by omega) hdy hc' hR ?_
        refine x_cv rfl rfl ?_
        refine x_aload_n (pc := 20) dX2_printOf_20 rfl ?_
        refine x_getR (pc := 21) dX2_printOf_21 flX2_33 (by first | assumption | rfl) rfl ?_
        refine x_iload_n (pc := 24) dX2_printOf_24 rfl ?_
        refine x_bipushN (pc := 25) 16 dX2_printOf_25 bp_16 ?_
        first | (guard_target =~ Wp _ _ _ _ _ (Value.int (nI _) :: Value.int (nI _) :: _) _ _ _ _; with_reducible refine x_imulN (pc := 27) dX2_printOf_27 ?_) | refine x_imul (pc := 27) dX2_printOf_27 ?_
        refine x_iload (pc := 28) dX2_printOf_28 rfl ?_
        first | (guard_target =~ Wp _ _ _ _ _ (Value.int (nI _) :: Value.int (nI _) :: _) _ _ _ _; with_reducible refine x_iaddN (pc := 30) dX2_printOf_30 ?_) | refine x_iadd (pc := 30) dX2_printOf_30 ?_
        refine x_ialdN (pc := 31) dX2_printOf_31 (by first | assumption | rfl) (by first | with_reducible rfl | (simp only [xlit, nI_add, pk_mul]; with_reducible rfl)) (by omega) (by decide) ?_
        rw [hR.yields (by omega)]
        first | (guard_target =~ Wp _ _ _ _ _ (Value.int (nI _) :: Value.int (nI _) :: _) _ _ _ _; with_reducible refine x_imulN (pc := 32) dX2_printOf_32 ?_) | refine x_imul (pc := 32) dX2_printOf_32 ?_
        first | (guard_target =~ Wp _ _ _ _ _ (Value.int (nI _) :: _) _ _ _ _; with_reducible refine x_if_leN (pc := 33) (tgt := 43) ?_ dX2_printOf_33 ?_ (fun h33 => ?_) (fun h33 => ?_); (first | omega | exact b2n_32 _ | exact b2n_31 _); decide) | refine x_if_le (pc := 33) (tgt := 43) dX2_printOf_33 (by decide) (fun h33 => ?_) (fun h33 => ?_)
        · skip
          first | (guard_target =~ Wp _ _ _ _ (_ :: _ :: _ :: _ :: some (Value.int (nI _)) :: _) _ _ _ _ _; with_reducible refine x_iincN (pc := 43) 1 ic_1 dX2_printOf_43 ?_ xg_4 xs_4 ?_ ?_; decide; exact (x_hp rfl)) | refine x_iincC (pc := 43) ic_1 dX2_printOf_43 (by decide) rfl xs_4 (x_hp rfl) ?_
          refine x_goto (pc := 46) (tgt := 5) dX2_printOf_46 (by decide) ?_
          rw [decide_eq_false (by omega), if_neg (by decide), Nat.or_zero] at ih2; exact ih2
        · skip
          refine x_iload_n (pc := 36) dX2_printOf_36 rfl ?_
          refine x_iconstN (pc := 37) 1 dX2_printOf_37 ic_1 ?_
          refine x_iload (pc := 38) dX2_printOf_38 rfl ?_
          first | (guard_target =~ Wp _ _ _ _ _ (Value.int (nI _) :: Value.int (nI _) :: _) _ _ _ _; with_reducible refine x_ishlN (pc := 40) ?_ dX2_printOf_40 ?_; omega) | refine x_ishl (pc := 40) dX2_printOf_40 ?_
          rw [Nat.one_mul]
          first | (guard_target =~ Wp _ _ _ _ _ (Value.int (nI _) :: Value.int (nI _) :: _) _ _ _ _; with_reducible refine x_iorN (pc := 41) dX2_printOf_41 ?_) | refine x_ior (pc := 41) dX2_printOf_41 ?_
          refine x_istore_n (pc := 42) dX2_printOf_42 (by decide) xs_3 (x_hp rfl) ?_
          first | (guard_target =~ Wp _ _ _ _ (_ :: _ :: _ :: _ :: some (Value.int (nI _)) :: _) _ _ _ _ _; with_reducible refine x_iincN (pc := 43) 1 ic_1 dX2_printOf_43 ?_ xg_4 xs_4 ?_ ?_; decide; exact (x_hp rfl)) | refine x_iincC (pc := 43) ic_1 dX2_printOf_43 (by decide) rfl xs_4 (x_hp rfl) ?_
          refine x_goto (pc := 46) (tgt := 5) dX2_printOf_46 (by decide) ?_
          rw [decide_eq_true (by omega), if_pos rfl] at ih2; exact ih2
  refine x_iconstN (pc := 0) 0 dX2_printOf_0 ic_0 ?_
  refine x_istore_n (pc := 1) dX2_printOf_1 (by decide) xs_3 (x_hp rfl) ?_
  refine x_iconstN (pc := 2) 0 dX2_printOf_2 ic_0 ?_
  refine x_istore (pc := 3) dX2_printOf_3 (by decide) xs_4 (x_hp rfl) ?_
  exact loop 16 0 rfl
theorem sp_X2_troddenCells (hc : Car a) (hR : CR a M A w r) (h : K (some (.int (nI (trodG A w (A 8 0))))) xSF M) : Ex g (d + 2) yX2_troddenCells mX2_troddenCells [.ref a] xSF M K := by
  have hc' := hc
  obtain ⟨c0, c1, c2, c3, c4, c5, c6, c7, c8, c9, c10, c11⟩ := hc
  refine x_entry kX2_troddenCells (Nat.le_of_ble_eq_true rfl) ?_
  show Wp g _ mX2_troddenCells 0 [some (.ref a), none, none, none] [] _ _ _ _
  have h6 := hR.goersB
  have outer : ∀ n k o3, k + n = A 8 0 → Wp g (d + 2) mX2_troddenCells 4 [some (.ref a), some (.int (nI (trodG A w k))), some (.int (nI k)), o3] [] xSF (0, 0) M K := by
    intro n
    induction n with
    | zero =>
      intro k o3 hk
      obtain rfl : k = A 8 0 := by omega
      refine x_iload_n (pc := 4) dX2_troddenCells_4 rfl ?_
      refine x_aload_n (pc := 5) dX2_troddenCells_5 rfl ?_
      refine x_getI (pc := 6) dX2_troddenCells_6 flX2_58 (by first | assumption | rfl) rfl ?_
      rw [hR.goers]
      first | (guard_target =~ Wp _ _ _ _ _ (Value.int (nI _) :: Value.int (nI _) :: _) _ _ _ _; with_reducible refine x_icmp_geN (pc := 9) (tgt := 48) ?_ ?_ dX2_troddenCells_9 ?_ (fun h9 => ?_) (fun h9 => ?_); (first | omega | exact b2n_31 _); (first | omega | exact b2n_31 _); decide) | refine x_icmp_ge (pc := 9) (tgt := 48) dX2_troddenCells_9 (by decide) (fun h9 => ?_) (fun h9 => ?_)
      · skip
        refine x_iload_n (pc := 48) dX2_troddenCells_48 rfl ?_
        refine x_ret (pc := 49) (v := some _) rfl trivial dX2_troddenCells_49 (by decide) ?_
        exact h
      · skip
        omega
    | succ n ih =>
      intro k o3 hk
      have inner : ∀ n2 j, j + n2 = 16 → Wp g (d + 2) mX2_troddenCells 14 [some (.ref a), some (.int (nI (trodG A w k ||| xset (fun c => decide (0 < trd A w k c 1)) j))), some (.int (nI k)), some (.int (nI j))] [] xSF (0, 0) M K := by
        intro n2
        induction n2 with
        | zero =>
          intro j hj
          obtain rfl : j = 16 := by omega
          refine x_iload_n (pc := 14) dX2_troddenCells_14 rfl ?_
          refine x_bipushN (pc := 15) 16 dX2_troddenCells_15 bp_16 ?_
          first | (guard_target =~ Wp _ _ _ _ _ (Value.int (nI _) :: Value.int (nI _) :: _) _ _ _ _; with_reducible refine x_icmp_geN (pc := 17) (tgt := 42) ?_ ?_ dX2_troddenCells_17 ?_ (fun h17 => ?_) (fun h17 => ?_); (first | omega | exact b2n_31 _); (first | omega | exact b2n_31 _); decide) | refine x_icmp_ge (pc := 17) (tgt := 42) dX2_troddenCells_17 (by decide) (fun h17 => ?_) (fun h17 => ?_)
          · skip
            first | (guard_target =~ Wp _ _ _ _ (_ :: _ :: some (Value.int (nI _)) :: _) _ _ _ _ _; with_reducible refine x_iincN (pc := 42) 1 ic_1 dX2_troddenCells_42 ?_ xg_2 xs_2 ?_ ?_; decide; exact (x_hp rfl)) | refine x_iincC (pc := 42) ic_1 dX2_troddenCells_42 (by decide) rfl xs_2 (x_hp rfl) ?_
            refine x_goto (pc := 45) (tgt := 4) dX2_troddenCells_45 (by decide) ?_
            exact ih (k + 1) _ (by omega)
          · skip
            omega
        | succ n2 ih2 =>
          intro j hj
          have hi := ih2 (j + 1) (by omega)
          rw [xset] at hi
          have hb1 := trd_le (c := j) (days := 1) hR (show k < 6 by omega)
          refine x_iload_n (pc := 14) dX2_troddenCells_14 rfl ?_
          refine x_bipushN (pc := 15) 16 dX2_troddenCells_15 bp_16 ?_
          first | (guard_target =~ Wp _ _ _ _ _ (Value.int (nI _) :: Value.int (nI _) :: _) _ _ _ _; with_reducible refine x_icmp_geN (pc := 17) (tgt := 42) ?_ ?_ dX2_troddenCells_17 ?_ (fun h17 => ?_) (fun h17 => ?_); (first | omega | exact b2n_31 _); (first | omega | exact b2n_31 _); decide) | refine x_icmp_ge (pc := 17) (tgt := 42) dX2_troddenCells_17 (by decide) (fun h17 => ?_) (fun h17 => ?_)
          · skip
            omega
          · skip
            refine x_aload_n (pc := 20) dX2_troddenCells_20 rfl ?_
            refine x_iload_n (pc := 21) dX2_troddenCells_21 rfl ?_
            refine x_iload_n (pc := 22) dX2_troddenCells_22 rfl ?_
            refine x_iconstN (pc := 23) 1 dX2_troddenCells_23 ic_1 ?_
            refine x_invV3 (pc := 24) dX2_troddenCells_24 mlX2_111 imX2_treads seX2_treads kX2_treads (by first | assumption | rfl) rfl (Nat.le_of_ble_eq_true rfl) (by decide) ?_
            refine sp_X2_treads (by omega) (by omega) (by omega) hc' hR ?_
            refine x_cv rfl rfl ?_
            first | (guard_target =~ Wp _ _ _ _ _ (Value.int (nI _) :: _) _ _ _ _; with_reducible refine x_if_leN (pc := 27) (tgt := 36) ?_ dX2_troddenCells_27 ?_ (fun h27 => ?_) (fun h27 => ?_); (first | omega | exact b2n_32 _ | exact b2n_31 _); decide) | refine x_if_le (pc := 27) (tgt := 36) dX2_troddenCells_27 (by decide) (fun h27 => ?_) (fun h27 => ?_)
            · skip
              first | (guard_target =~ Wp _ _ _ _ (_ :: _ :: _ :: some (Value.int (nI _)) :: _) _ _ _ _ _; with_reducible refine x_iincN (pc := 36) 1 ic_1 dX2_troddenCells_36 ?_ xg_3 xs_3 ?_ ?_; decide; exact (x_hp rfl)) | refine x_iincC (pc := 36) ic_1 dX2_troddenCells_36 (by decide) rfl xs_3 (x_hp rfl) ?_
              refine x_goto (pc := 39) (tgt := 14) dX2_troddenCells_39 (by decide) ?_
              rw [decide_eq_false (by omega), if_neg (by decide), Nat.or_zero] at hi; exact hi
            · skip
              refine x_iload_n (pc := 30) dX2_troddenCells_30 rfl ?_
              refine x_iconstN (pc := 31) 1 dX2_troddenCells_31 ic_1 ?_
              refine x_iload_n (pc := 32) dX2_troddenCells_32 rfl ?_
              first | (guard_target =~ Wp _ _ _ _ _ (Value.int (nI _) :: Value.int (nI _) :: _) _ _ _ _; with_reducible refine x_ishlN (pc := 33) ?_ dX2_troddenCells_33 ?_; omega) | refine x_ishl (pc := 33) dX2_troddenCells_33 ?_
              rw [Nat.one_mul]
              first | (guard_target =~ Wp _ _ _ _ _ (Value.int (nI _) :: Value.int (nI _) :: _) _ _ _ _; with_reducible refine x_iorN (pc := 34) dX2_troddenCells_34 ?_) | refine x_ior (pc := 34) dX2_troddenCells_34 ?_
              refine x_istore_n (pc := 35) dX2_troddenCells_35 (by decide) xs_1 (x_hp rfl) ?_
              first | (guard_target =~ Wp _ _ _ _ (_ :: _ :: _ :: some (Value.int (nI _)) :: _) _ _ _ _ _; with_reducible refine x_iincN (pc := 36) 1 ic_1 dX2_troddenCells_36 ?_ xg_3 xs_3 ?_ ?_; decide; exact (x_hp rfl)) | refine x_iincC (pc := 36) ic_1 dX2_troddenCells_36 (by decide) rfl xs_3 (x_hp rfl) ?_
              refine x_goto (pc := 39) (tgt := 14) dX2_troddenCells_39 (by decide) ?_
              rw [decide_eq_true (by omega), if_pos rfl, ← Nat.or_assoc] at hi; exact hi
      refine x_iload_n (pc := 4) dX2_troddenCells_4 rfl ?_
      refine x_aload_n (pc := 5) dX2_troddenCells_5 rfl ?_
      refine x_getI (pc := 6) dX2_troddenCells_6 flX2_58 (by first | assumption | rfl) rfl ?_
      rw [hR.goers]
      first | (guard_target =~ Wp _ _ _ _ _ (Value.int (nI _) :: Value.int (nI _) :: _) _ _ _ _; with_reducible refine x_icmp_geN (pc := 9) (tgt := 48) ?_ ?_ dX2_troddenCells_9 ?_ (fun h9 => ?_) (fun h9 => ?_); (first | omega | exact b2n_31 _); (first | omega | exact b2n_31 _); decide) | refine x_icmp_ge (pc := 9) (tgt := 48) dX2_troddenCells_9 (by decide) (fun h9 => ?_) (fun h9 => ?_)
      · skip
        omega
      · skip
        refine x_iconstN (pc := 12) 0 dX2_troddenCells_12 ic_0 ?_
        refine x_istore_n (pc := 13) dX2_troddenCells_13 (by decide) xs_3 (x_hp rfl) ?_
        have h0 := inner 16 0 rfl
        rw [xset, Nat.or_zero] at h0; exact h0
  refine x_iconstN (pc := 0) 0 dX2_troddenCells_0 ic_0 ?_
  refine x_istore_n (pc := 1) dX2_troddenCells_1 (by decide) xs_1 (x_hp rfl) ?_
  refine x_iconstN (pc := 2) 0 dX2_troddenCells_2 ic_0 ?_
  refine x_istore_n (pc := 3) dX2_troddenCells_3 (by decide) xs_2 (x_hp rfl) ?_
  exact outer (A 8 0) 0 none (by omega)
def limA (A : XA) : XA := fun k j => if k = 0 then min (A 0 j) 9999 else A k j
theorem sp_X2_limitWear (hc : Car a) (hR : CR a M A w r) (h : ∀ M', xsame a (a + 12) M M' → CR a M' (limA A) w r → K none xSF M') : Ex g (d + 1) yX2_limitWear mX2_limitWear [.ref a] xSF M K := by
  obtain ⟨c0, c1, c2, c3, c4, c5, c6, c7, c8, c9, c10, c11⟩ := hc
  refine x_entry kX2_limitWear (Nat.le_of_ble_eq_true rfl) ?_
  show Wp g _ mX2_limitWear 0 [some (.ref a), none] [] _ _ _ _
  have loop : ∀ n k M1, k + n = 16 → xsame a (a + 12) M M1 → CR a M1 (fun k' j => if k' = 0 ∧ j < k then min (A 0 j) 9999 else A k' j) w r → Wp g (d + 1) mX2_limitWear 2 [some (.ref a), some (.int (nI k))] [] xSF (0, 0) M1 K := by
    intro n
    induction n with
    | zero =>
      intro k M1 hk hs hR1
      obtain rfl : k = 16 := by omega
      refine x_iload_n (pc := 2) dX2_limitWear_2 rfl ?_
      refine x_bipushN (pc := 3) 16 dX2_limitWear_3 bp_16 ?_
      first | (guard_target =~ Wp _ _ _ _ _ (Value.int (nI _) :: Value.int (nI _) :: _) _ _ _ _; with_reducible refine x_icmp_geN (pc := 5) (tgt := 32) ?_ ?_ dX2_limitWear_5 ?_ (fun h5 => ?_) (fun h5 => ?_); (first | omega | exact b2n_31 _); (first | omega | exact b2n_31 _); decide) | refine x_icmp_ge (pc := 5) (tgt := 32) dX2_limitWear_5 (by decide) (fun h5 => ?_) (fun h5 => ?_)
      · skip
        refine x_ret (pc := 32) (v := none) rfl trivial dX2_limitWear_32 (by decide) ?_
        refine h _ hs (hR1.cong (fun k' hk' j hj => ?_) (fun k' hk' => ?_))
        · by_cases h0 : k' = 0
          · subst h0
            have hj16 : j < 16 := hj
            simp [limA, hj16]
          · simp [limA, h0]
        · rcases hk' with rfl | rfl | rfl | rfl <;> simp [limA]
      · skip
        omega
    | succ n ih =>
      intro k M1 hk hs hR1
      have e1 : (if 0 = 0 ∧ k < k then min (A 0 k) 9999 else A 0 k) = A 0 k := by simp
      have hwb := hR.wearB (show k < 16 by omega)
      have hmn : min (A 0 k) 9999 ≤ 9999 := Nat.min_le_right _ _
      refine x_iload_n (pc := 2) dX2_limitWear_2 rfl ?_
      refine x_bipushN (pc := 3) 16 dX2_limitWear_3 bp_16 ?_
      first | (guard_target =~ Wp _ _ _ _ _ (Value.int (nI _) :: Value.int (nI _) :: _) _ _ _ _; with_reducible refine x_icmp_geN (pc := 5) (tgt := 32) ?_ ?_ dX2_limitWear_5 ?_ (fun h5 => ?_) (fun h5 => ?_); (first | omega | exact b2n_31 _); (first | omega | exact b2n_31 _); decide) | refine x_icmp_ge (pc := 5) (tgt := 32) dX2_limitWear_5 (by decide) (fun h5 => ?_) (fun h5 => ?_)
      · skip
        omega
      · skip
        refine x_aload_n (pc := 8) dX2_limitWear_8 rfl ?_
        refine x_getR (pc := 9) dX2_limitWear_9 flX2_9 (by first | assumption | rfl) rfl ?_
        refine x_iload_n (pc := 12) dX2_limitWear_12 rfl ?_
        refine x_aload_n (pc := 13) dX2_limitWear_13 rfl ?_
        refine x_getR (pc := 14) dX2_limitWear_14 flX2_9 (by first | assumption | rfl) rfl ?_
        refine x_iload_n (pc := 17) dX2_limitWear_17 rfl ?_
        refine x_ialdN (pc := 18) dX2_limitWear_18 (by first | assumption | rfl) (by first | with_reducible rfl | (simp only [xlit, nI_add, pk_mul]; with_reducible rfl)) (by omega) (by decide) ?_
        rw [hR1.wear (by omega), e1]
        refine x_sipushN (pc := 19) 9999 dX2_limitWear_19 sp_9999 ?_
        refine x_mmin (pc := 22) dX2_limitWear_22 mlX2_117 stJ9_min_7cf53 iniMath coMmin (Nat.le_of_ble_eq_true rfl) (by decide) ?_
        rw [nI_min (by omega) (by omega)]
        refine x_iastN (pc := 25) dX2_limitWear_25 (by first | assumption | rfl) (by first | with_reducible rfl | (simp only [xlit, nI_add, pk_mul]; with_reducible rfl)) (by omega) (by decide) ?_
        first | (guard_target =~ Wp _ _ _ _ (_ :: some (Value.int (nI _)) :: _) _ _ _ _ _; with_reducible refine x_iincN (pc := 26) 1 ic_1 dX2_limitWear_26 ?_ xg_1 xs_1 ?_ ?_; decide; exact (x_hp rfl)) | refine x_iincC (pc := 26) ic_1 dX2_limitWear_26 (by decide) rfl xs_1 (x_hp rfl) ?_
        refine x_goto (pc := 29) (tgt := 2) dX2_limitWear_29 (by decide) ?_
        refine ih (k + 1) _ (by omega) (hs.tr (xsame.put (by omega) (by omega))) ?_
        refine CR.cong (hR1.put 0 (by decide) k (v := min (A 0 k) 9999) (by show _ < 67108864; omega)) (fun k' hk' j hj => ?_) (fun k' hk' => ?_)
        · simp only [updA]
          by_cases h0 : k' = 0
          · subst h0
            by_cases hjk : j = k
            · subst hjk; simp
            · have e3 : (j < k + 1) = (j < k) := by apply propext; omega
              simp [hjk, e3]
          · simp [h0]
        · rcases hk' with rfl | rfl | rfl | rfl <;> simp [updA]
  refine x_iconstN (pc := 0) 0 dX2_limitWear_0 ic_0 ?_
  refine x_istore_n (pc := 1) dX2_limitWear_1 (by decide) xs_1 (x_hp rfl) ?_
  exact loop 16 0 M rfl xsame.rf (CR.cong hR (fun k' hk' j hj => by simp) (fun k' hk' => by simp))
/-- furniture laid: the ways found anew -/
def furA (A : XA) (f : Nat) : XA := let B := updA A 10 0 f
  fun k j => if k = 6 ∧ j < A 8 0 then wbits (wayL B j) else B k j
theorem wayL_cong {A B : XA} {gg : Nat} (h1 : A 1 gg = B 1 gg) (h3 : A 3 gg = B 3 gg) (h4 : A 4 gg = B 4 gg) (h10 : A 10 0 = B 10 0) : wayL A gg = wayL B gg := by
  unfold wayL frB
  rw [h1, h3, h4, h10]
theorem sp_X2_furnish {f : Nat} (hf : f < 65536) (hc : Car a) (hR : CR a M A w r) (h : ∀ M', xsame a (a + 12) M M' → CR a M' (furA A f) w r → K none xSF M') : Ex g (d + 4) yX2_furnish mX2_furnish [.ref a, .int (nI f)] xSF M K := by
  have hc' := hc
  obtain ⟨c0, c1, c2, c3, c4, c5, c6, c7, c8, c9, c10, c11⟩ := hc
  refine x_entry kX2_furnish (Nat.le_of_ble_eq_true rfl) ?_
  show Wp g _ mX2_furnish 0 [some (.ref a), some (.int (nI f)), none] [] _ _ _ _
  have h6 := hR.goersB
  have loop : ∀ n k M1, k + n = A 8 0 → xsame a (a + 12) M M1 → CR a M1 (fun k' j => if k' = 6 ∧ j < k then wbits (wayL (updA A 10 0 f) j) else updA A 10 0 f k' j) w r → Wp g (d + 4) mX2_furnish 7 [some (.ref a), some (.int (nI f)), some (.int (nI k))] [] xSF (0, 0) M1 K := by
    intro n
    induction n with
    | zero =>
      intro k M1 hk hs hR1
      obtain rfl : k = A 8 0 := by omega
      have eg : M1.1 a 8 = nI (A 8 0) := hR1.goers
      refine x_iload_n (pc := 7) dX2_furnish_7 rfl ?_
      refine x_aload_n (pc := 8) dX2_furnish_8 rfl ?_
      refine x_getI (pc := 9) dX2_furnish_9 flX2_58 (by first | assumption | rfl) rfl ?_
      rw [eg]
      first | (guard_target =~ Wp _ _ _ _ _ (Value.int (nI _) :: Value.int (nI _) :: _) _ _ _ _; with_reducible refine x_icmp_geN (pc := 12) (tgt := 26) ?_ ?_ dX2_furnish_12 ?_ (fun h12 => ?_) (fun h12 => ?_); (first | omega | exact b2n_31 _); (first | omega | exact b2n_31 _); decide) | refine x_icmp_ge (pc := 12) (tgt := 26) dX2_furnish_12 (by decide) (fun h12 => ?_) (fun h12 => ?_)
      · skip
        refine x_ret (pc := 26) (v := none) rfl trivial dX2_furnish_26 (by decide) ?_
        exact h _ hs hR1
      · skip
        omega
    | succ n ih =>
      intro k M1 hk hs hR1
      have eg : M1.1 a 8 = nI (A 8 0) := hR1.goers
      refine x_iload_n (pc := 7) dX2_furnish_7 rfl ?_
      refine x_aload_n (pc := 8) dX2_furnish_8 rfl ?_
      refine x_getI (pc := 9) dX2_furnish_9 flX2_58 (by first | assumption | rfl) rfl ?_
      rw [eg]
      first | (guard_target =~ Wp _ _ _ _ _ (Value.int (nI _) :: Value.int (nI _) :: _) _ _ _ _; with_reducible refine x_icmp_geN (pc := 12) (tgt := 26) ?_ ?_ dX2_furnish_12 ?_ (fun h12 => ?_) (fun h12 => ?_); (first | omega | exact b2n_31 _); (first | omega | exact b2n_31 _); decide) | refine x_icmp_ge (pc := 12) (tgt := 26) dX2_furnish_12 (by decide) (fun h12 => ?_) (fun h12 => ?_)
      · skip
        omega
      · skip
        refine x_aload_n (pc := 15) dX2_furnish_15 rfl ?_
        refine x_iload_n (pc := 16) dX2_furnish_16 rfl ?_
        refine x_invV1 (pc := 17) dX2_furnish_17 mlX2_70 imX2_findWay seX2_findWay kX2_findWay (by first | assumption | rfl) rfl (Nat.le_of_ble_eq_true rfl) (by decide) ?_
        refine sp_X2_findWay (by omega) hc' hR1 (fun M2 hs2 hR2 => ?_)
        refine x_cn rfl rfl ?_
        first | (guard_target =~ Wp _ _ _ _ (_ :: _ :: some (Value.int (nI _)) :: _) _ _ _ _ _; with_reducible refine x_iincN (pc := 20) 1 ic_1 dX2_furnish_20 ?_ xg_2 xs_2 ?_ ?_; decide; exact (x_hp rfl)) | refine x_iincC (pc := 20) ic_1 dX2_furnish_20 (by decide) rfl xs_2 (x_hp rfl) ?_
        refine x_goto (pc := 23) (tgt := 7) dX2_furnish_23 (by decide) ?_
        refine ih (k + 1) _ (by omega) (hs.tr hs2) (hR2.cong (fun k' hk' j hj => ?_) (fun k' hk' => ?_))
        · by_cases h6' : k' = 6
          · subst h6'
            by_cases hjk : j = k
            · subst hjk
              have e : wayL (fun k' i => if k' = 6 ∧ i < j then wbits (wayL (updA A 10 0 f) i) else updA A 10 0 f k' i) j = wayL (updA A 10 0 f) j := wayL_cong rfl rfl rfl rfl
              have e4 : ∀ (B : XA) v, updA B 6 j v 6 j = v := fun B v => by simp [updA]
              rw [e4, e]; simp
            · have e3 : (j < k + 1) = (j < k) := by apply propext; omega
              simp [updA, hjk, e3]
          · simp [updA, h6']
        · rcases hk' with rfl | rfl | rfl | rfl <;> simp [updA]
  refine x_aload_n (pc := 0) dX2_furnish_0 rfl ?_
  refine x_iload_n (pc := 1) dX2_furnish_1 rfl ?_
  refine x_putI (pc := 2) dX2_furnish_2 flX2_64 (by first | assumption | rfl) rfl rfl rfl ?_
  refine x_iconstN (pc := 5) 0 dX2_furnish_5 ic_0 ?_
  refine x_istore_n (pc := 6) dX2_furnish_6 (by decide) xs_2 (x_hp rfl) ?_
  refine loop (A 8 0) 0 _ (by omega) (xsame.put (by omega) (by omega)) ?_
  exact (hR.putS 10 (by decide) (v := f) ⟨fun z => by omega, fun _ => hf, fun z => by omega, fun z => by omega⟩).cong (fun k' hk' j hj => by simp) (fun k' hk' => by simp)
/-- a goer more -/
def newA (A : XA) (kd v f t : Nat) : XA := let n := A 8 0
  let B : XA := fun k j => if k = 8 ∧ j = 0 then n + 1 else if j = n ∧ k = 1 then kd else if j = n ∧ k = 2 then v else if j = n ∧ k = 3 then f else if j = n ∧ k = 4 then t else A k j
  updA B 6 n (wbits (wayL B n))
theorem sp_X2_addGoer {kd v f t : Nat} (hk : kd < 7) (hv : v < 10) (hf : f < 16) (ht : t < 16) (h6 : A 8 0 < 6) (hc : Car a) (hR : CR a M A w r) (h : ∀ M', xsame a (a + 12) M M' → CR a M' (newA A kd v f t) w r → K (some (.int (nI (A 8 0)))) xSF M') : Ex g (d + 4) yX2_addGoer mX2_addGoer [.ref a, .int (nI kd), .int (nI v), .int (nI f), .int (nI t)] xSF M K := by
  have hc' := hc
  obtain ⟨c0, c1, c2, c3, c4, c5, c6, c7, c8, c9, c10, c11⟩ := hc
  refine x_entry kX2_addGoer (Nat.le_of_ble_eq_true rfl) ?_
  show Wp g _ mX2_addGoer 0 [some (.ref a), some (.int (nI kd)), some (.int (nI v)), some (.int (nI f)), some (.int (nI t)), none] [] _ _ _ _
  have hR1 := ((((hR.putS 8 (by decide) (v := A 8 0 + 1) ⟨fun _ => by omega, fun z => by omega, fun z => by omega, fun z => by omega⟩).put 1 (by decide) (A 8 0) hk).put 2 (by decide) (A 8 0) hv).put 3 (by decide) (A 8 0) hf).put 4 (by decide) (A 8 0) ht
  have hR2 := hR1.cong (A' := fun k j => if k = 8 ∧ j = 0 then A 8 0 + 1 else if j = A 8 0 ∧ k = 1 then kd else if j = A 8 0 ∧ k = 2 then v else if j = A 8 0 ∧ k = 3 then f else if j = A 8 0 ∧ k = 4 then t else A k j) (fun k hk j hj => by
    by_cases hj0 : j = A 8 0
    · subst hj0
      have h8 : ¬ (k = 8 ∧ A 8 0 = 0) := by omega
      simp only [updA, if_neg h8]
      rcases (show k = 0 ∨ k = 1 ∨ k = 2 ∨ k = 3 ∨ k = 4 ∨ k = 5 ∨ k = 6 ∨ k = 7 by omega) with rfl | rfl | rfl | rfl | rfl | rfl | rfl | rfl <;> simp
    · have h8 : ¬ (k = 8 ∧ j = 0) := by omega
      simp [updA, hj0, h8]) (fun k hk => by rcases hk with rfl | rfl | rfl | rfl <;> simp [updA])
  refine x_aload_n (pc := 0) dX2_addGoer_0 rfl ?_
  refine x_getI (pc := 1) dX2_addGoer_1 flX2_58 (by first | assumption | rfl) rfl ?_
  rw [hR.goers]
  refine x_istore (pc := 4) dX2_addGoer_4 (by decide) xs_5 (x_hp rfl) ?_
  refine x_aload_n (pc := 6) dX2_addGoer_6 rfl ?_
  refine x_dup (pc := 7) dX2_addGoer_7 rfl ?_
  refine x_getI (pc := 8) dX2_addGoer_8 flX2_58 (by first | assumption | rfl) rfl ?_
  rw [hR.goers]
  refine x_iconstN (pc := 11) 1 dX2_addGoer_11 ic_1 ?_
  first | (guard_target =~ Wp _ _ _ _ _ (Value.int (nI _) :: Value.int (nI _) :: _) _ _ _ _; with_reducible refine x_iaddN (pc := 12) dX2_addGoer_12 ?_) | refine x_iadd (pc := 12) dX2_addGoer_12 ?_
  refine x_putI (pc := 13) dX2_addGoer_13 flX2_58 (by first | assumption | rfl) rfl rfl rfl ?_
  refine x_aload_n (pc := 16) dX2_addGoer_16 rfl ?_
  refine x_getR (pc := 17) dX2_addGoer_17 flX2_15 (by first | assumption | rfl) rfl ?_
  refine x_iload (pc := 20) dX2_addGoer_20 rfl ?_
  refine x_iload_n (pc := 22) dX2_addGoer_22 rfl ?_
  refine x_iastN (pc := 23) dX2_addGoer_23 (by first | assumption | rfl) (by first | with_reducible rfl | (simp only [xlit, nI_add, pk_mul]; with_reducible rfl)) (by omega) (by decide) ?_
  refine x_aload_n (pc := 24) dX2_addGoer_24 rfl ?_
  refine x_getR (pc := 25) dX2_addGoer_25 flX2_18 (by first | assumption | rfl) rfl ?_
  refine x_iload (pc := 28) dX2_addGoer_28 rfl ?_
  refine x_iload_n (pc := 30) dX2_addGoer_30 rfl ?_
  refine x_iastN (pc := 31) dX2_addGoer_31 (by first | assumption | rfl) (by first | with_reducible rfl | (simp only [xlit, nI_add, pk_mul]; with_reducible rfl)) (by omega) (by decide) ?_
  refine x_aload_n (pc := 32) dX2_addGoer_32 rfl ?_
  refine x_getR (pc := 33) dX2_addGoer_33 flX2_21 (by first | assumption | rfl) rfl ?_
  refine x_iload (pc := 36) dX2_addGoer_36 rfl ?_
  refine x_iload_n (pc := 38) dX2_addGoer_38 rfl ?_
  refine x_iastN (pc := 39) dX2_addGoer_39 (by first | assumption | rfl) (by first | with_reducible rfl | (simp only [xlit, nI_add, pk_mul]; with_reducible rfl)) (by omega) (by decide) ?_
  refine x_aload_n (pc := 40) dX2_addGoer_40 rfl ?_
  refine x_getR (pc := 41) dX2_addGoer_41 flX2_24 (by first | assumption | rfl) rfl ?_
  refine x_iload (pc := 44) dX2_addGoer_44 rfl ?_
  refine x_iload (pc := 46) dX2_addGoer_46 rfl ?_
  refine x_iastN (pc := 48) dX2_addGoer_48 (by first | assumption | rfl) (by first | with_reducible rfl | (simp only [xlit, nI_add, pk_mul]; with_reducible rfl)) (by omega) (by decide) ?_
  refine x_aload_n (pc := 49) dX2_addGoer_49 rfl ?_
  refine x_iload (pc := 50) dX2_addGoer_50 rfl ?_
  refine x_invV1 (pc := 52) dX2_addGoer_52 mlX2_70 imX2_findWay seX2_findWay kX2_findWay (by first | assumption | rfl) rfl (Nat.le_of_ble_eq_true rfl) (by decide) ?_
  refine sp_X2_findWay (by omega) hc' hR2 (fun M2 hs2 hR3 => ?_)
  refine x_cn rfl rfl ?_
  refine x_iload (pc := 55) dX2_addGoer_55 rfl ?_
  refine x_ret (pc := 57) (v := some _) rfl trivial dX2_addGoer_57 (by decide) ?_
  refine h M2 (xsame.tr ?_ hs2) hR3
  exact ((((xsame.put (by omega) (by omega)).tr (xsame.put (by omega) (by omega))).tr (xsame.put (by omega) (by omega))).tr (xsame.put (by omega) (by omega))).tr (xsame.put (by omega) (by omega))
end P22
