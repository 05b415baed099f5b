/-! CELLS, KINDS: what never changes -/
/-- bit k of an int -/
def tb (x : Int32) (k : Nat) : Bool := x.toBitVec.getLsbD k
def b2n (b : Bool) : Nat := if b then 1 else 0
theorem tb_nI {a k : Nat} (hk : k < 32) : tb (nI a) k = a.testBit k := by
  show (BitVec.ofNat 32 a).getLsbD k = _
  rw [BitVec.getLsbD_ofNat]
  simp [hk]
theorem tb_shr {x : Int32} {k : Nat} (hk : k < 32) : (x >>> (nI k &&& 31)) &&& nI 1 = nI (b2n (tb x k)) := by
  apply Int32.toBitVec_inj.mp
  apply BitVec.eq_of_getLsbD_eq
  intro i hi
  have e1 : (x >>> (nI k &&& 31)).toBitVec = x.toBitVec.sshiftRight k := by
    show x.toBitVec.sshiftRight' ((nI k &&& 31).toBitVec.smod 32) = _
    unfold BitVec.sshiftRight'
    rw [nI_sm k hk]
  show ((x >>> (nI k &&& 31)).toBitVec &&& BitVec.ofNat 32 1).getLsbD i = (BitVec.ofNat 32 (b2n (tb x k))).getLsbD i
  rw [e1, BitVec.getLsbD_and, BitVec.getLsbD_ofNat, BitVec.getLsbD_ofNat, BitVec.getLsbD_sshiftRight]
  by_cases h0 : i = 0
  · subst h0
    cases hb : tb x k with
    | true => simp [b2n, tb] at hb ⊢; simp [hb, hk]
    | false =>
      have hb2 : x.toBitVec.getLsbD k = false := hb
      rw [BitVec.getLsbD_eq_getElem hk] at hb2
      simp [b2n, hk, hb2]
  · have h1 : Nat.testBit 1 i = false := by
      exact Bool.eq_false_iff.mpr (fun q => h0 (Nat.testBit_one_eq_true_iff_self_eq_zero.mp q))
    have h2 : (b2n (tb x k)).testBit i = false := by
      cases tb x k <;> simp [b2n, h1]
    simp [h1, h2]

theorem b2n_lt (b : Bool) : b2n b < 2 := by cases b <;> decide
theorem b2n_31 (b : Bool) : b2n b < 2 ^ 31 := by cases b <;> decide
theorem b2n_32 (b : Bool) : b2n b < 2 ^ 32 := by cases b <;> decide
theorem b2n_0 {b : Bool} (h : b2n b = 0) : b = false := by cases b <;> simp_all [b2n]
theorem b2n_1 {b : Bool} (h : ¬ b2n b = 0) : b = true := by cases b <;> simp_all [b2n]
/-- sums, counts, sets by a loop -/
def xsum (f : Nat → Nat) : Nat → Nat
  | 0 => 0
  | n + 1 => xsum f n + f n
def xset (p : Nat → Bool) : Nat → Nat
  | 0 => 0
  | n + 1 => xset p n ||| (if p n then 2 ^ n else 0)
def fstF (b : Nat) : Nat → Nat → Int32
  | 0, _ => -5
  | n + 1, i => if b.testBit i then nI i else fstF b n (i + 1)
def xfst (b : Nat) : Int32 := fstF b 16 0
def xpop (b : Nat) : Nat := xsum (fun i => b2n (b.testBit i)) 16
def nxt (b : Nat) : Nat := ((b * 2 ^ 4 ||| b / 2 ^ 4) ||| ((b &&& 4294932343) * 2 ^ 1 ||| (b &&& 4294962926) / 2 ^ 1)) &&& 65535
def isR (x : Int32) (n : Int32) : Bool := decide (0 ≤ x ∧ x < n)
section P12
variable {g : XG} {d : Nat} {S : XS} {M : XM} {K : Option Value → XS → XM → Prop}
theorem i0le {x : Int32} (h : ¬ x < 0) : 0 ≤ x := Int32.not_lt.mp h
theorem sp_X3_isCell {c : Int32} (h : K (some (.int (nI (b2n (isR c 16))))) S M) : Ex g d yX3_isCell mX3_isCell [.int c] S M K := by
  refine x_entry kX3_isCell (Nat.le_of_ble_eq_true rfl) ?_
  show Wp g _ mX3_isCell 0 [some (.int c)] [] _ _ _ _
  refine x_iload_n (pc := 0) dX3_isCell_0 rfl ?_
  refine x_if_lt (pc := 1) (tgt := 14) dX3_isCell_1 (by decide) (fun h1 => ?_) (fun h1 => ?_)
  · skip
    refine x_iconstN (pc := 14) 0 dX3_isCell_14 ic_0 ?_
    refine x_ret (pc := 15) (v := some _) rfl (by first | rfl | decide | exact xrt_b) dX3_isCell_15 (by decide) ?_
    rw [show isR c 16 = false from decide_eq_false (fun q => absurd q.1 (Int32.not_le.mpr h1))] at h; exact h
  · skip
    refine x_iload_n (pc := 4) dX3_isCell_4 rfl ?_
    refine x_bipushN (pc := 5) 16 dX3_isCell_5 bp_16 ?_
    first | (guard_target =~ Wp _ _ _ _ _ (Value.int (nI _) :: Value.int (nI _) :: _) _ _ _ _; with_reducible refine x_icmp_geN (pc := 7) (tgt := 14) ?_ ?_ dX3_isCell_7 ?_ (fun h7 => ?_) (fun h7 => ?_); (first | omega | exact b2n_31 _); (first | omega | exact b2n_31 _); decide) | refine x_icmp_ge (pc := 7) (tgt := 14) dX3_isCell_7 (by decide) (fun h7 => ?_) (fun h7 => ?_)
    · skip
      refine x_iconstN (pc := 14) 0 dX3_isCell_14 ic_0 ?_
      refine x_ret (pc := 15) (v := some _) rfl (by first | rfl | decide | exact xrt_b) dX3_isCell_15 (by decide) ?_
      rw [show isR c 16 = false from decide_eq_false (fun q => absurd q.2 (Int32.not_lt.mpr h7))] at h; exact h
    · skip
      refine x_iconstN (pc := 10) 1 dX3_isCell_10 ic_1 ?_
      refine x_goto (pc := 11) (tgt := 15) dX3_isCell_11 (by decide) ?_
      refine x_ret (pc := 15) (v := some _) rfl (by first | rfl | decide | exact xrt_b) dX3_isCell_15 (by decide) ?_
      rw [show isR c 16 = true from decide_eq_true ⟨i0le h1, Int32.not_le.mp h7⟩] at h; exact h
theorem sp_X3_has {x : Int32} {k : Nat} (hk : k < 32) (h : K (some (.int (nI (b2n (tb x k))))) S M) : Ex g d yX3_has mX3_has [.int x, .int (nI k)] S M K := by
  refine x_entry kX3_has (Nat.le_of_ble_eq_true rfl) ?_
  show Wp g _ mX3_has 0 [some (.int x), some (.int (nI k))] [] _ _ _ _
  refine x_iload_n (pc := 0) dX3_has_0 rfl ?_
  refine x_iload_n (pc := 1) dX3_has_1 rfl ?_
  refine x_ishr (pc := 2) dX3_has_2 ?_
  refine x_iconstN (pc := 3) 1 dX3_has_3 ic_1 ?_
  refine x_iand (pc := 4) dX3_has_4 ?_
  rw [tb_shr hk]
  first | (guard_target =~ Wp _ _ _ _ _ (Value.int (nI _) :: _) _ _ _ _; with_reducible refine x_if_eqN (pc := 5) (tgt := 12) ?_ dX3_has_5 ?_ (fun h5 => ?_) (fun h5 => ?_); (first | omega | exact b2n_32 _ | exact b2n_31 _); decide) | refine x_if_eq (pc := 5) (tgt := 12) dX3_has_5 (by decide) (fun h5 => ?_) (fun h5 => ?_)
  · skip
    refine x_iconstN (pc := 12) 0 dX3_has_12 ic_0 ?_
    refine x_ret (pc := 13) (v := some _) rfl (by first | rfl | decide | exact xrt_b) dX3_has_13 (by decide) ?_
    rw [h5] at h; exact h
  · skip
    refine x_iconstN (pc := 8) 1 dX3_has_8 ic_1 ?_
    refine x_goto (pc := 9) (tgt := 13) dX3_has_9 (by decide) ?_
    refine x_ret (pc := 13) (v := some _) rfl (by first | rfl | decide | exact xrt_b) dX3_has_13 (by decide) ?_
    rw [show b2n (tb x k) = 1 by have := b2n_lt (tb x k); omega] at h; exact h
theorem sp_X3_nextTo {b : Nat} (hb : b < 65536) (h : K (some (.int (nI (nxt b)))) S M) : Ex g d yX3_nextTo mX3_nextTo [.int (nI b)] S M K := by
  refine x_entry kX3_nextTo (Nat.le_of_ble_eq_true rfl) ?_
  show Wp g _ mX3_nextTo 0 [some (.int (nI b)), none, none] [] _ _ _ _
  refine x_iload_n (pc := 0) dX3_nextTo_0 rfl ?_
  refine x_iconstN (pc := 1) 4 dX3_nextTo_1 ic_4 ?_
  first | (guard_target =~ Wp _ _ _ _ _ (Value.int (nI _) :: Value.int (nI _) :: _) _ _ _ _; with_reducible refine x_ishlN (pc := 2) ?_ dX3_nextTo_2 ?_; omega) | refine x_ishl (pc := 2) dX3_nextTo_2 ?_
  refine x_iload_n (pc := 3) dX3_nextTo_3 rfl ?_
  refine x_iconstN (pc := 4) 4 dX3_nextTo_4 ic_4 ?_
  first | (guard_target =~ Wp _ _ _ _ _ (Value.int (nI _) :: Value.int (nI _) :: _) _ _ _ _; with_reducible refine x_ishrN (pc := 5) ?_ ?_ dX3_nextTo_5 ?_; omega; omega) | refine x_ishr (pc := 5) dX3_nextTo_5 ?_
  first | (guard_target =~ Wp _ _ _ _ _ (Value.int (nI _) :: Value.int (nI _) :: _) _ _ _ _; with_reducible refine x_iorN (pc := 6) dX3_nextTo_6 ?_) | refine x_ior (pc := 6) dX3_nextTo_6 ?_
  refine x_istore_n (pc := 7) dX3_nextTo_7 (by decide) xs_1 (x_hp rfl) ?_
  refine x_iload_n (pc := 8) dX3_nextTo_8 rfl ?_
  refine x_ldc (pc := 9) (v := nI 4294932343) dX3_nextTo_9 ckX3_11 ?_
  first | (guard_target =~ Wp _ _ _ _ _ (Value.int (nI _) :: Value.int (nI _) :: _) _ _ _ _; with_reducible refine x_iandN (pc := 11) dX3_nextTo_11 ?_) | refine x_iand (pc := 11) dX3_nextTo_11 ?_
  refine x_iconstN (pc := 12) 1 dX3_nextTo_12 ic_1 ?_
  first | (guard_target =~ Wp _ _ _ _ _ (Value.int (nI _) :: Value.int (nI _) :: _) _ _ _ _; with_reducible refine x_ishlN (pc := 13) ?_ dX3_nextTo_13 ?_; omega) | refine x_ishl (pc := 13) dX3_nextTo_13 ?_
  refine x_iload_n (pc := 14) dX3_nextTo_14 rfl ?_
  refine x_sipush (pc := 15) (v := nI 4294962926) dX3_nextTo_15 (by decide +kernel) ?_
  first | (guard_target =~ Wp _ _ _ _ _ (Value.int (nI _) :: Value.int (nI _) :: _) _ _ _ _; with_reducible refine x_iandN (pc := 18) dX3_nextTo_18 ?_) | refine x_iand (pc := 18) dX3_nextTo_18 ?_
  refine x_iconstN (pc := 19) 1 dX3_nextTo_19 ic_1 ?_
  have h20 : b &&& 4294962926 ≤ b := Nat.and_le_left
  first | (guard_target =~ Wp _ _ _ _ _ (Value.int (nI _) :: Value.int (nI _) :: _) _ _ _ _; with_reducible refine x_ishrN (pc := 20) ?_ ?_ dX3_nextTo_20 ?_; omega; omega) | refine x_ishr (pc := 20) dX3_nextTo_20 ?_
  first | (guard_target =~ Wp _ _ _ _ _ (Value.int (nI _) :: Value.int (nI _) :: _) _ _ _ _; with_reducible refine x_iorN (pc := 21) dX3_nextTo_21 ?_) | refine x_ior (pc := 21) dX3_nextTo_21 ?_
  refine x_istore_n (pc := 22) dX3_nextTo_22 (by decide) xs_2 (x_hp rfl) ?_
  refine x_iload_n (pc := 23) dX3_nextTo_23 rfl ?_
  refine x_iload_n (pc := 24) dX3_nextTo_24 rfl ?_
  first | (guard_target =~ Wp _ _ _ _ _ (Value.int (nI _) :: Value.int (nI _) :: _) _ _ _ _; with_reducible refine x_iorN (pc := 25) dX3_nextTo_25 ?_) | refine x_ior (pc := 25) dX3_nextTo_25 ?_
  refine x_ldc (pc := 26) (v := nI 65535) dX3_nextTo_26 ckX3_12 ?_
  first | (guard_target =~ Wp _ _ _ _ _ (Value.int (nI _) :: Value.int (nI _) :: _) _ _ _ _; with_reducible refine x_iandN (pc := 28) dX3_nextTo_28 ?_) | refine x_iand (pc := 28) dX3_nextTo_28 ?_
  refine x_ret (pc := 29) (v := some _) rfl trivial dX3_nextTo_29 (by decide) ?_
  exact h
theorem sp_X3_first {b : Nat} (hb : b < 2 ^ 31) (h : K (some (.int (xfst b))) S M) : Ex g d yX3_first mX3_first [.int (nI b)] S M K := by
  refine x_entry kX3_first (Nat.le_of_ble_eq_true rfl) ?_
  show Wp g _ mX3_first 0 [some (.int (nI b)), none] [] _ _ _ _
  have loop : ∀ n i, i + n = 16 → fstF b n i = xfst b → Wp g d mX3_first 2 [some (.int (nI b)), some (.int (nI i))] [] S (0, 0) M K := by
    intro n
    induction n with
    | zero =>
      intro i hi he
      refine x_iload_n (pc := 2) dX3_first_2 rfl ?_
      refine x_bipushN (pc := 3) 16 dX3_first_3 bp_16 ?_
      first | (guard_target =~ Wp _ _ _ _ _ (Value.int (nI _) :: Value.int (nI _) :: _) _ _ _ _; with_reducible refine x_icmp_geN (pc := 5) (tgt := 24) ?_ ?_ dX3_first_5 ?_ (fun h5 => ?_) (fun h5 => ?_); (first | omega | exact b2n_31 _); (first | omega | exact b2n_31 _); decide) | refine x_icmp_ge (pc := 5) (tgt := 24) dX3_first_5 (by decide) (fun h5 => ?_) (fun h5 => ?_)
      · skip
        refine x_bipush (pc := 24) dX3_first_24 bp_m5 ?_
        refine x_ret (pc := 26) (v := some _) rfl trivial dX3_first_26 (by decide) ?_
        rw [← he] at h; exact h
      · skip
        omega
    | succ n ih =>
      intro i hi he
      rw [fstF] at he
      refine x_iload_n (pc := 2) dX3_first_2 rfl ?_
      refine x_bipushN (pc := 3) 16 dX3_first_3 bp_16 ?_
      first | (guard_target =~ Wp _ _ _ _ _ (Value.int (nI _) :: Value.int (nI _) :: _) _ _ _ _; with_reducible refine x_icmp_geN (pc := 5) (tgt := 24) ?_ ?_ dX3_first_5 ?_ (fun h5 => ?_) (fun h5 => ?_); (first | omega | exact b2n_31 _); (first | omega | exact b2n_31 _); decide) | refine x_icmp_ge (pc := 5) (tgt := 24) dX3_first_5 (by decide) (fun h5 => ?_) (fun h5 => ?_)
      · skip
        omega
      · skip
        refine x_iload_n (pc := 8) dX3_first_8 rfl ?_
        refine x_iload_n (pc := 9) dX3_first_9 rfl ?_
        refine x_ishr (pc := 10) dX3_first_10 ?_
        refine x_iconstN (pc := 11) 1 dX3_first_11 ic_1 ?_
        refine x_iand (pc := 12) dX3_first_12 ?_
        rw [tb_shr (by omega), tb_nI (by omega)]
        first | (guard_target =~ Wp _ _ _ _ _ (Value.int (nI _) :: _) _ _ _ _; with_reducible refine x_if_eqN (pc := 13) (tgt := 18) ?_ dX3_first_13 ?_ (fun h13 => ?_) (fun h13 => ?_); (first | omega | exact b2n_32 _ | exact b2n_31 _); decide) | refine x_if_eq (pc := 13) (tgt := 18) dX3_first_13 (by decide) (fun h13 => ?_) (fun h13 => ?_)
        · skip
          first | (guard_target =~ Wp _ _ _ _ (_ :: some (Value.int (nI _)) :: _) _ _ _ _ _; with_reducible refine x_iincN (pc := 18) 1 ic_1 dX3_first_18 ?_ xg_1 xs_1 ?_ ?_; decide; exact (x_hp rfl)) | refine x_iincC (pc := 18) ic_1 dX3_first_18 (by decide) rfl xs_1 (x_hp rfl) ?_
          refine x_goto (pc := 21) (tgt := 2) dX3_first_21 (by decide) ?_
          exact ih (i + 1) (by omega) (by rw [b2n_0 h13] at he; exact he)
        · skip
          refine x_iload_n (pc := 16) dX3_first_16 rfl ?_
          refine x_ret (pc := 17) (v := some _) rfl trivial dX3_first_17 (by decide) ?_
          rw [b2n_1 h13, if_pos rfl] at he; rw [← he] at h; exact h
  refine x_iconstN (pc := 0) 0 dX3_first_0 ic_0 ?_
  refine x_istore_n (pc := 1) dX3_first_1 (by decide) xs_1 (x_hp rfl) ?_
  exact loop 16 0 rfl rfl
theorem sp_X3_howMany {b : Nat} (hb : b < 2 ^ 31) (h : K (some (.int (nI (xpop b)))) S M) : Ex g d yX3_howMany mX3_howMany [.int (nI b)] S M K := by
  refine x_entry kX3_howMany (Nat.le_of_ble_eq_true rfl) ?_
  show Wp g _ mX3_howMany 0 [some (.int (nI b)), none, none] [] _ _ _ _
  have loop : ∀ n i, i + n = 16 → Wp g d mX3_howMany 4 [some (.int (nI b)), some (.int (nI (xsum (fun i => b2n (b.testBit i)) i))), some (.int (nI i))] [] S (0, 0) M K := by
    intro n
    induction n with
    | zero =>
      intro i hi
      obtain rfl : i = 16 := by omega
      refine x_iload_n (pc := 4) dX3_howMany_4 rfl ?_
      refine x_bipushN (pc := 5) 16 dX3_howMany_5 bp_16 ?_
      first | (guard_target =~ Wp _ _ _ _ _ (Value.int (nI _) :: Value.int (nI _) :: _) _ _ _ _; with_reducible refine x_icmp_geN (pc := 7) (tgt := 24) ?_ ?_ dX3_howMany_7 ?_ (fun h7 => ?_) (fun h7 => ?_); (first | omega | exact b2n_31 _); (first | omega | exact b2n_31 _); decide) | refine x_icmp_ge (pc := 7) (tgt := 24) dX3_howMany_7 (by decide) (fun h7 => ?_) (fun h7 => ?_)
      · skip
        refine x_iload_n (pc := 24) dX3_howMany_24 rfl ?_
        refine x_ret (pc := 25) (v := some _) rfl trivial dX3_howMany_25 (by decide) ?_
        exact h
      · skip
        omega
    | succ n ih =>
      intro i hi
      refine x_iload_n (pc := 4) dX3_howMany_4 rfl ?_
      refine x_bipushN (pc := 5) 16 dX3_howMany_5 bp_16 ?_
      first | (guard_target =~ Wp _ _ _ _ _ (Value.int (nI _) :: Value.int (nI _) :: _) _ _ _ _; with_reducible refine x_icmp_geN (pc := 7) (tgt := 24) ?_ ?_ dX3_howMany_7 ?_ (fun h7 => ?_) (fun h7 => ?_); (first | omega | exact b2n_31 _); (first | omega | exact b2n_31 _); decide) | refine x_icmp_ge (pc := 7) (tgt := 24) dX3_howMany_7 (by decide) (fun h7 => ?_) (fun h7 => ?_)
      · skip
        omega
      · skip
        refine x_iload_n (pc := 10) dX3_howMany_10 rfl ?_
        refine x_iload_n (pc := 11) dX3_howMany_11 rfl ?_
        refine x_iload_n (pc := 12) dX3_howMany_12 rfl ?_
        refine x_ishr (pc := 13) dX3_howMany_13 ?_
        refine x_iconstN (pc := 14) 1 dX3_howMany_14 ic_1 ?_
        refine x_iand (pc := 15) dX3_howMany_15 ?_
        rw [tb_shr (by omega), tb_nI (by omega)]
        first | (guard_target =~ Wp _ _ _ _ _ (Value.int (nI _) :: Value.int (nI _) :: _) _ _ _ _; with_reducible refine x_iaddN (pc := 16) dX3_howMany_16 ?_) | refine x_iadd (pc := 16) dX3_howMany_16 ?_
        refine x_istore_n (pc := 17) dX3_howMany_17 (by decide) xs_1 (x_hp rfl) ?_
        first | (guard_target =~ Wp _ _ _ _ (_ :: _ :: some (Value.int (nI _)) :: _) _ _ _ _ _; with_reducible refine x_iincN (pc := 18) 1 ic_1 dX3_howMany_18 ?_ xg_2 xs_2 ?_ ?_; decide; exact (x_hp rfl)) | refine x_iincC (pc := 18) ic_1 dX3_howMany_18 (by decide) rfl xs_2 (x_hp rfl) ?_
        refine x_goto (pc := 21) (tgt := 4) dX3_howMany_21 (by decide) ?_
        exact ih (i + 1) (by omega)
  refine x_iconstN (pc := 0) 0 dX3_howMany_0 ic_0 ?_
  refine x_istore_n (pc := 1) dX3_howMany_1 (by decide) xs_1 (x_hp rfl) ?_
  refine x_iconstN (pc := 2) 0 dX3_howMany_2 ic_0 ?_
  refine x_istore_n (pc := 3) dX3_howMany_3 (by decide) xs_2 (x_hp rfl) ?_
  exact loop 16 0 rfl
end P12
