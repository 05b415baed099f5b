/-! KINDS: isUnder; ACTS of the program: bodies that call one another -/
def aBO (act : Nat) : Nat → Nat → Option Nat → Nat
  | 0, b, _ => b
  | n + 1, b, o => if b = 0 then (match o with
    | none => b
    | some k => aBO act n (kBT k act) (kAb k)) else b
/-- the first body from a kind upwards -/
def aBody (k act : Nat) : Nat := aBO act 3 0 (some k)
/-- one body, the calls in it by P; i the goer's number, v its v, kd its kind -/
def aStep (i v : Int32) (kd : Nat) (P : Nat → Nat → Int32 → Int32 × List Nat) (b : Nat) (x : Int32) : Int32 × List Nat :=
  match b with
  | 10 => (x + i, [])
  | 11 => ((P kd 0 x).1 - v, (P kd 0 x).2)
  | 12 => ((P kd 1 x).1 * nI 2, (P kd 1 x).2)
  | 20 => ((P 0 1 x).1 ^^^ nI 6, (P 0 1 x).2)
  | 30 => P 0 0 (x * nI 3)
  | 40 => ((P 0 2 x).1 + (P kd 1 (nI 1)).1, (P 0 2 x).2 ++ (P kd 1 (nI 1)).2)
  | 50 => (-(P 1 0 x).1, (P 1 0 x).2)
  | 51 => P 1 1 (x + nI 1)
  | 60 => P 2 2 (x - i)
  | 70 => ((P 3 1 x).1 + (P 3 0 (nI 2)).1, (P 3 1 x).2 ++ (P 3 0 (nI 2)).2)
  | 71 => ((P 3 0 x).1 ^^^ v, (P 3 0 x).2)
  | _ => (0, [])
/-- an act: what it answers, which bodies run -/
def aRun (i v : Int32) (kd : Nat) : Nat → Nat → Nat → Int32 → Int32 × List Nat
  | 0, _, _, _ => (0, [])
  | n + 1, from_, act, x => ((aStep i v kd (aRun i v kd n) (aBody from_ act) x).1, aBody from_ act :: (aStep i v kd (aRun i v kd n) (aBody from_ act) x).2)
theorem aBody_in : ∀ k, k < 7 → ∀ a, a < 3 → aBody k a ∈ [10, 11, 12, 20, 30, 40, 50, 51, 60, 70, 71] := by decide +kernel
/-- only what the acts hold changes -/
def aSame (M M' : XM) : Prop := (∀ q, q ≠ 59 → q ≠ 60 → M'.1 q = M.1 q) ∧ M'.2 = M.2
theorem aSame.rf {M : XM} : aSame M M := ⟨fun _ _ _ => rfl, rfl⟩
theorem aSame.tr {M M1 M2 : XM} (h : aSame M M1) (h2 : aSame M1 M2) : aSame M M2 := ⟨fun q a b => (h2.1 q a b).trans (h.1 q a b), h2.2.trans h.2⟩
/-- the trace: the bodies that ran, the first twenty kept; whose act it is -/
def aTr (M : XM) (l : List Nat) : Prop := M.1 59 1 = nI l.length ∧ l.length < 20000 ∧ ∀ j, j < 20 → j < l.length → M.1 60 j = nI (l.getD j 0)
def aWho (M : XM) (i v : Int32) (kd : Nat) : Prop := M.1 59 2 = i ∧ M.1 59 3 = nI kd ∧ M.1 59 4 = v
section P14
variable {g : XG} {d : Nat} {M : XM} {K : Option Value → XS → XM → Prop}
theorem sp_X4_isUnder {k o : Nat} (hk : k < 7) (ho : o < 7) {S : XS} (h : K (some (.int (nI (b2n (isU7 k o))))) S M) : Ex g d yX4_isUnder mX4_isUnder [.int (nI k), .int (nI o)] S M K := by
  refine x_entry kX4_isUnder (Nat.le_of_ble_eq_true rfl) ?_
  show Wp g _ mX4_isUnder 0 [some (.int (nI k)), some (.int (nI o)), none, none] [] _ _ _ _
  have loop : ∀ n j (q : Option Nat), j + n = 7 → (∀ k, q = some k → k < 7) → isU n q o = isU7 k o → Wp g d mX4_isUnder 4 [some (.int (nI k)), some (.int (nI o)), some (.int (oI q)), some (.int (nI j))] [] S (0, 0) M K := by
    intro n
    induction n with
    | zero =>
      intro j q hj hq he
      refine x_iload_n (pc := 4) dX4_isUnder_4 rfl ?_
      refine x_getsA (pc := 5) 1 (by decide) dX4_isUnder_5 flX4_13 ?_
      refine x_tlen (pc := 8) (v := nI 7) (k := 1) (by decide) dX4_isUnder_8 rfl ?_
      first | (guard_target =~ Wp _ _ _ _ _ (Value.int (nI _) :: Value.int (nI _) :: _) _ _ _ _; with_reducible refine x_icmp_geN (pc := 9) (tgt := 43) ?_ ?_ dX4_isUnder_9 ?_ (fun h9 => ?_) (fun h9 => ?_); (first | omega | exact b2n_31 _); (first | omega | exact b2n_31 _); decide) | refine x_icmp_ge (pc := 9) (tgt := 43) dX4_isUnder_9 (by decide) (fun h9 => ?_) (fun h9 => ?_)
      · skip
        refine x_iconstN (pc := 43) 0 dX4_isUnder_43 ic_0 ?_
        refine x_ret (pc := 44) (v := some _) rfl (by first | rfl | decide | exact xrt_b) dX4_isUnder_44 (by decide) ?_
        rw [← he] at h; exact h
      · skip
        omega
    | succ n ih =>
      intro j q hj hq he
      cases q with
      | none =>
        rw [isU] at he
        refine x_iload_n (pc := 4) dX4_isUnder_4 rfl ?_
        refine x_getsA (pc := 5) 1 (by decide) dX4_isUnder_5 flX4_13 ?_
        refine x_tlen (pc := 8) (v := nI 7) (k := 1) (by decide) dX4_isUnder_8 rfl ?_
        first | (guard_target =~ Wp _ _ _ _ _ (Value.int (nI _) :: Value.int (nI _) :: _) _ _ _ _; with_reducible refine x_icmp_geN (pc := 9) (tgt := 43) ?_ ?_ dX4_isUnder_9 ?_ (fun h9 => ?_) (fun h9 => ?_); (first | omega | exact b2n_31 _); (first | omega | exact b2n_31 _); decide) | refine x_icmp_ge (pc := 9) (tgt := 43) dX4_isUnder_9 (by decide) (fun h9 => ?_) (fun h9 => ?_)
        · skip
          omega
        · skip
          refine x_iload_n (pc := 12) dX4_isUnder_12 rfl ?_
          refine x_if_lt (pc := 13) (tgt := 43) dX4_isUnder_13 (by decide) (fun h13 => ?_) (fun h13 => ?_)
          · skip
            refine x_iconstN (pc := 43) 0 dX4_isUnder_43 ic_0 ?_
            refine x_ret (pc := 44) (v := some _) rfl (by first | rfl | decide | exact xrt_b) dX4_isUnder_44 (by decide) ?_
            rw [← he] at h; exact h
          · skip
            exact absurd (show (-1 : Int32) < 0 by decide) h13
      | some q =>
        have hq7 := hq q rfl
        rw [isU] at he
        show Wp g _ _ 4 [some (.int (nI k)), some (.int (nI o)), some (.int (nI q)), some (.int (nI j))] [] S (0, 0) M K
        refine x_iload_n (pc := 4) dX4_isUnder_4 rfl ?_
        refine x_getsA (pc := 5) 1 (by decide) dX4_isUnder_5 flX4_13 ?_
        refine x_tlen (pc := 8) (v := nI 7) (k := 1) (by decide) dX4_isUnder_8 rfl ?_
        first | (guard_target =~ Wp _ _ _ _ _ (Value.int (nI _) :: Value.int (nI _) :: _) _ _ _ _; with_reducible refine x_icmp_geN (pc := 9) (tgt := 43) ?_ ?_ dX4_isUnder_9 ?_ (fun h9 => ?_) (fun h9 => ?_); (first | omega | exact b2n_31 _); (first | omega | exact b2n_31 _); decide) | refine x_icmp_ge (pc := 9) (tgt := 43) dX4_isUnder_9 (by decide) (fun h9 => ?_) (fun h9 => ?_)
        · skip
          omega
        · skip
          refine x_iload_n (pc := 12) dX4_isUnder_12 rfl ?_
          refine x_if_ltN (pc := 13) (by omega) (tgt := 43) dX4_isUnder_13 (by decide) ?_
          refine x_iload_n (pc := 16) dX4_isUnder_16 rfl ?_
          refine x_getsA (pc := 17) 1 (by decide) dX4_isUnder_17 flX4_13 ?_
          refine x_tlen (pc := 20) (v := nI 7) (k := 1) (by decide) dX4_isUnder_20 rfl ?_
          first | (guard_target =~ Wp _ _ _ _ _ (Value.int (nI _) :: Value.int (nI _) :: _) _ _ _ _; with_reducible refine x_icmp_geN (pc := 21) (tgt := 43) ?_ ?_ dX4_isUnder_21 ?_ (fun h21 => ?_) (fun h21 => ?_); (first | omega | exact b2n_31 _); (first | omega | exact b2n_31 _); decide) | refine x_icmp_ge (pc := 21) (tgt := 43) dX4_isUnder_21 (by decide) (fun h21 => ?_) (fun h21 => ?_)
          · skip
            omega
          · skip
            refine x_iload_n (pc := 24) dX4_isUnder_24 rfl ?_
            refine x_iload_n (pc := 25) dX4_isUnder_25 rfl ?_
            first | (guard_target =~ Wp _ _ _ _ _ (Value.int (nI _) :: Value.int (nI _) :: _) _ _ _ _; with_reducible refine x_icmp_neN (pc := 26) (tgt := 31) ?_ ?_ dX4_isUnder_26 ?_ (fun h26 => ?_) (fun h26 => ?_); (first | omega | exact b2n_31 _); (first | omega | exact b2n_31 _); decide) | refine x_icmp_ne (pc := 26) (tgt := 31) dX4_isUnder_26 (by decide) (fun h26 => ?_) (fun h26 => ?_)
            · skip
              refine x_getsA (pc := 31) 1 (by decide) dX4_isUnder_31 flX4_13 ?_
              refine x_iload_n (pc := 34) dX4_isUnder_34 rfl ?_
              refine x_tiN (pc := 35) (by decide) dX4_isUnder_35 (by first | with_reducible rfl | (simp only [xlit, nI_add, pk_mul]; with_reducible rfl)) (by show q < 7; exact hq7) ?_
              rw [kAb_tab q hq7]
              refine x_istore_n (pc := 36) dX4_isUnder_36 (by decide) xs_2 (x_hp rfl) ?_
              first | (guard_target =~ Wp _ _ _ _ (_ :: _ :: _ :: some (Value.int (nI _)) :: _) _ _ _ _ _; with_reducible refine x_iincN (pc := 37) 1 ic_1 dX4_isUnder_37 ?_ xg_3 xs_3 ?_ ?_; decide; exact (x_hp rfl)) | refine x_iincC (pc := 37) ic_1 dX4_isUnder_37 (by decide) rfl xs_3 (x_hp rfl) ?_
              refine x_goto (pc := 40) (tgt := 4) dX4_isUnder_40 (by decide) ?_
              exact ih (j + 1) (kAb q) (by omega) (kAb_lt q hq7) (by rw [if_neg h26] at he; exact he)
            · skip
              refine x_iconstN (pc := 29) 1 dX4_isUnder_29 ic_1 ?_
              refine x_ret (pc := 30) (v := some _) rfl (by first | rfl | decide | exact xrt_b) dX4_isUnder_30 (by decide) ?_
              rw [if_pos h26] at he; rw [← he] at h; exact h
  refine x_iload_n (pc := 0) dX4_isUnder_0 rfl ?_
  refine x_istore_n (pc := 1) dX4_isUnder_1 (by decide) xs_2 (x_hp rfl) ?_
  refine x_iconstN (pc := 2) 0 dX4_isUnder_2 ic_0 ?_
  refine x_istore_n (pc := 3) dX4_isUnder_3 (by decide) xs_3 (x_hp rfl) ?_
  exact loop 7 0 (some k) rfl (fun q hq => by cases hq; exact hk) rfl
theorem sp_X0_isAct {c : Int32} {S : XS} (h : K (some (.int (nI (b2n (isR c 3))))) S M) : Ex g d yX0_isAct mX0_isAct [.int c] S M K := by
  refine x_entry kX0_isAct (Nat.le_of_ble_eq_true rfl) ?_
  show Wp g _ mX0_isAct 0 [some (.int c)] [] _ _ _ _
  refine x_iload_n (pc := 0) dX0_isAct_0 rfl ?_
  refine x_if_lt (pc := 1) (tgt := 13) dX0_isAct_1 (by decide) (fun h1 => ?_) (fun h1 => ?_)
  · skip
    refine x_iconstN (pc := 13) 0 dX0_isAct_13 ic_0 ?_
    refine x_ret (pc := 14) (v := some _) rfl (by first | rfl | decide | exact xrt_b) dX0_isAct_14 (by decide) ?_
    rw [show isR c 3 = false from decide_eq_false (fun q => absurd q.1 (Int32.not_le.mpr h1))] at h; exact h
  · skip
    refine x_iload_n (pc := 4) dX0_isAct_4 rfl ?_
    refine x_iconstN (pc := 5) 2 dX0_isAct_5 ic_2 ?_
    first | (guard_target =~ Wp _ _ _ _ _ (Value.int (nI _) :: Value.int (nI _) :: _) _ _ _ _; with_reducible refine x_icmp_gtN (pc := 6) (tgt := 13) ?_ ?_ dX0_isAct_6 ?_ (fun h6 => ?_) (fun h6 => ?_); (first | omega | exact b2n_31 _); (first | omega | exact b2n_31 _); decide) | refine x_icmp_gt (pc := 6) (tgt := 13) dX0_isAct_6 (by decide) (fun h6 => ?_) (fun h6 => ?_)
    · skip
      refine x_iconstN (pc := 13) 0 dX0_isAct_13 ic_0 ?_
      refine x_ret (pc := 14) (v := some _) rfl (by first | rfl | decide | exact xrt_b) dX0_isAct_14 (by decide) ?_
      rw [show isR c 3 = false from decide_eq_false (fun q => absurd (Int32.lt_iff_toInt_lt.mp q.2) (by have := Int32.lt_iff_toInt_lt.mp h6; rw [show (nI 2).toInt = 2 from rfl] at this; rw [show (3 : Int32).toInt = 3 from rfl]; omega))] at h; exact h
    · skip
      refine x_iconstN (pc := 9) 1 dX0_isAct_9 ic_1 ?_
      refine x_goto (pc := 10) (tgt := 14) dX0_isAct_10 (by decide) ?_
      refine x_ret (pc := 14) (v := some _) rfl (by first | rfl | decide | exact xrt_b) dX0_isAct_14 (by decide) ?_
      rw [show isR c 3 = true from decide_eq_true ⟨i0le h1, Int32.lt_iff_toInt_lt.mpr (by have := Int32.le_iff_toInt_le.mp (Int32.not_lt.mp h6); rw [show (nI 2).toInt = 2 from rfl] at this; rw [show (3 : Int32).toInt = 3 from rfl]; omega)⟩] at h; exact h
theorem isR3 {a : Nat} (ha : a < 3) : isR (nI a) 3 = true := by rw [show (3 : Int32) = nI 3 from rfl, isR_nI (by omega) (by decide)]; exact decide_eq_true ha
theorem isR7 {a : Nat} (ha : a < 7) : isR (nI a) 7 = true := by rw [show (7 : Int32) = nI 7 from rfl, isR_nI (by omega) (by decide)]; exact decide_eq_true ha
/-- perform: what is known at n more levels -/
def aMet (g : XG) (d : Nat) (i v : Int32) (kd n : Nat) : Prop := ∀ (from_ act : Nat) (x : Int32) (M : XM) (l : List Nat) (K : Option Value → XS → XM → Prop), from_ < 7 → act < 3 → n ≤ 13 → aTr M l → aWho M i v kd → l.length + 2 ^ n < 20000 →
  (∀ M', aTr M' (l ++ (aRun i v kd n from_ act x).2) → aWho M' i v kd → aSame M M' → K (some (.int (aRun i v kd n from_ act x).1)) xSF M') →
  Ex g d yX0_perform mX0_perform [.ref 59, .int (nI from_), .int (nI act), .int x, .int (nI (13 - n))] xSF M K
end P14
