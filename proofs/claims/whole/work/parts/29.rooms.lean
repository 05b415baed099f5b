/-! ROOMS of the program: reading a text -/
/-- the reading's place and whether it is broken -/
def rM (M : XM) (p : Nat) (br : Bool) : XM := (fun a k => if a = 41 ∧ k = 5 then nI p else if a = 41 ∧ k = 6 then nI (b2n br) else M.1 a k, M.2)
/-- room b is read: n signs with c; f: the facts of the goer -/
def RT (M : XM) (b n : Nat) (c : Nat → Nat) (f : Nat → Nat) : Prop :=
  M.1 41 3 = nI (100 * b) ∧ b ≤ 6 ∧ M.1 41 4 = nI n ∧ TX c n ∧ (∀ j, j < n → M.1 42 (100 * b + j) = srt (c j)) ∧ M.1 41 7 = nI (f 3) ∧ M.1 41 8 = nI (f 4) ∧ M.1 41 9 = nI (f 5)
theorem rM_at {M : XM} {p : Nat} {br : Bool} : (rM M p br).1 41 5 = nI p := rfl
theorem rM_br {M : XM} {p : Nat} {br : Bool} : (rM M p br).1 41 6 = nI (b2n br) := rfl
theorem rM_put {M : XM} {p q : Nat} {br : Bool} : xput (rM M p br) 41 5 (nI q) = rM M q br := by
  refine Prod.ext (funext fun a => funext fun k => ?_) rfl
  show (if a = 41 ∧ k = 5 then nI q else if a = 41 ∧ k = 5 then nI p else _) = (if a = 41 ∧ k = 5 then nI q else _)
  by_cases h : a = 41 ∧ k = 5
  · rw [if_pos h, if_pos h]
  · rw [if_neg h, if_neg h, if_neg h]
theorem rM_fail {M : XM} {p : Nat} {br : Bool} : xput (rM M p br) 41 6 (nI 1) = rM M p true := by
  refine Prod.ext (funext fun a => funext fun k => ?_) rfl
  show (if a = 41 ∧ k = 6 then nI 1 else if a = 41 ∧ k = 5 then nI p else _) = (if a = 41 ∧ k = 5 then nI p else if a = 41 ∧ k = 6 then nI (b2n true) else _)
  by_cases h : a = 41 ∧ k = 6
  · have h2 : ¬ (a = 41 ∧ k = 5) := by omega
    rw [if_pos h, if_neg h2, if_pos h]; rfl
  · rw [if_neg h]
    by_cases h2 : a = 41 ∧ k = 5
    · rw [if_pos h2, if_pos h2]
    · rw [if_neg h2, if_neg h2, if_neg h, if_neg h]
theorem RT.rM {M : XM} {b n p : Nat} {c f : Nat → Nat} {br : Bool} (h : RT M b n c f) : RT (rM M p br) b n c f := h
theorem RT.c0 {M : XM} {b n p : Nat} {c f : Nat → Nat} (h : RT M b n c f) (hp : p < n) : c p ≠ 0 := by
  have := (h.2.2.2.1.2 p).1
  omega
theorem RT.c1 {M : XM} {b n p : Nat} {c f : Nat → Nat} (h : RT M b n c f) (hp : ¬ p < n) : c p = 0 := by
  have := (h.2.2.2.1.2 p).1
  omega
theorem srt_nI {x k : Nat} (hx : x < 129) (hk : k < 2 ^ 31) : srt x = nI k ↔ x = k + 1 := by
  cases x with
  | zero =>
    constructor
    · intro h
      have h2 : (-1 : Int32) < 0 := by decide
      rw [show (-1 : Int32) = nI k from h] at h2
      exact absurd h2 (nI_pos hk)
    · intro h; omega
  | succ x =>
    show nI x = nI k ↔ _
    rw [nI_eq (by omega) hk]; omega
section P29
variable {g : XG} {d : Nat} {S : XS} {M : XM} {K : Option Value → XS → XM → Prop} {b n p : Nat} {c f : Nat → Nat}
theorem sp_X6_sign (hR : RT M b n c f) (hp : p ≤ n) (h : K (some (.int (srt (c p)))) xSF (rM M p false)) : Ex g d yX6_sign mX6_sign [.ref 41] xSF (rM M p false) K := by
  obtain ⟨r1, r2, r3, ⟨r4, r4b⟩, r5, -⟩ := id hR
  refine x_entry kX6_sign (Nat.le_of_ble_eq_true rfl) ?_
  show Wp g _ mX6_sign 0 [some (.ref 41), none] [] _ _ _ _
  refine x_aload_n (pc := 0) dX6_sign_0 rfl ?_
  refine x_getI (pc := 1) dX6_sign_1 flX6_55 (by first | assumption | rfl) rfl ?_
  rw [show (rM M p false).1 41 3 = nI (100 * b) from r1]
  refine x_aload_n (pc := 4) dX6_sign_4 rfl ?_
  refine x_getI (pc := 5) dX6_sign_5 flX6_34 (by first | assumption | rfl) rfl ?_
  rw [rM_at]
  first | (guard_target =~ Wp _ _ _ _ _ (Value.int (nI _) :: Value.int (nI _) :: _) _ _ _ _; with_reducible refine x_iaddN (pc := 8) dX6_sign_8 ?_) | refine x_iadd (pc := 8) dX6_sign_8 ?_
  refine x_istore_n (pc := 9) dX6_sign_9 (by decide) xs_1 (x_hp rfl) ?_
  refine x_aload_n (pc := 10) dX6_sign_10 rfl ?_
  refine x_getI (pc := 11) dX6_sign_11 flX6_30 (by first | assumption | rfl) rfl ?_
  rw [rM_br]
  first | (guard_target =~ Wp _ _ _ _ _ (Value.int (nI _) :: _) _ _ _ _; with_reducible refine x_if_neN (pc := 14) (tgt := 50) ?_ dX6_sign_14 ?_ (fun h14 => ?_) (fun h14 => ?_); (first | omega | exact b2n_32 _ | exact b2n_31 _); decide) | refine x_if_ne (pc := 14) (tgt := 50) dX6_sign_14 (by decide) (fun h14 => ?_) (fun h14 => ?_)
  · skip
    exact absurd rfl h14
  · skip
    refine x_aload_n (pc := 17) dX6_sign_17 rfl ?_
    refine x_getI (pc := 18) dX6_sign_18 flX6_34 (by first | assumption | rfl) rfl ?_
    rw [rM_at]
    refine x_aload_n (pc := 21) dX6_sign_21 rfl ?_
    refine x_getI (pc := 22) dX6_sign_22 flX6_58 (by first | assumption | rfl) rfl ?_
    rw [show (rM M p false).1 41 4 = nI n from r3]
    first | (guard_target =~ Wp _ _ _ _ _ (Value.int (nI _) :: Value.int (nI _) :: _) _ _ _ _; with_reducible refine x_icmp_geN (pc := 25) (tgt := 50) ?_ ?_ dX6_sign_25 ?_ (fun h25 => ?_) (fun h25 => ?_); (first | omega | exact b2n_31 _); (first | omega | exact b2n_31 _); decide) | refine x_icmp_ge (pc := 25) (tgt := 50) dX6_sign_25 (by decide) (fun h25 => ?_) (fun h25 => ?_)
    · skip
      refine x_iconst (pc := 50) dX6_sign_50 ic_m1 ?_
      refine x_ret (pc := 51) (v := some _) rfl trivial dX6_sign_51 (by decide) ?_
      rw [hR.c1 (by omega)] at h; exact h
    · skip
      have h25' : p < n := by omega
      refine x_iload_n (pc := 28) dX6_sign_28 rfl ?_
      refine x_if_ltN (pc := 29) (by omega) (tgt := 50) dX6_sign_29 (by decide) ?_
      refine x_iload_n (pc := 32) dX6_sign_32 rfl ?_
      refine x_aload_n (pc := 33) dX6_sign_33 rfl ?_
      refine x_getR (pc := 34) dX6_sign_34 flX6_11 (by first | assumption | rfl) rfl ?_
      refine x_alen (pc := 37) (t := 1) (n := 700) (v := nI 700) dX6_sign_37 (by decide) rfl rfl ?_
      first | (guard_target =~ Wp _ _ _ _ _ (Value.int (nI _) :: Value.int (nI _) :: _) _ _ _ _; with_reducible refine x_icmp_geN (pc := 38) (tgt := 50) ?_ ?_ dX6_sign_38 ?_ (fun h38 => ?_) (fun h38 => ?_); (first | omega | exact b2n_31 _); (first | omega | exact b2n_31 _); decide) | refine x_icmp_ge (pc := 38) (tgt := 50) dX6_sign_38 (by decide) (fun h38 => ?_) (fun h38 => ?_)
      · skip
        omega
      · skip
        refine x_aload_n (pc := 41) dX6_sign_41 rfl ?_
        refine x_getR (pc := 42) dX6_sign_42 flX6_11 (by first | assumption | rfl) rfl ?_
        refine x_iload_n (pc := 45) dX6_sign_45 rfl ?_
        refine x_baldN (pc := 46) dX6_sign_46 (by first | assumption | rfl) (by first | with_reducible rfl | (simp only [xlit, nI_add, pk_mul]; with_reducible rfl)) (by omega) (by decide) ?_
        rw [show (rM M p false).1 42 (100 * b + p) = srt (c p) from r5 p h25']
        refine x_goto (pc := 47) (tgt := 51) dX6_sign_47 (by decide) ?_
        refine x_ret (pc := 51) (v := some _) rfl trivial dX6_sign_51 (by decide) ?_
        exact h
theorem sp_X6_signB (h : K (some (.int (-1))) xSF (rM M p true)) (hR : RT M b n c f) (hp : p ≤ n) : Ex g d yX6_sign mX6_sign [.ref 41] xSF (rM M p true) K := by
  obtain ⟨r1, r2, r3, ⟨r4, r4b⟩, r5, -⟩ := id hR
  refine x_entry kX6_sign (Nat.le_of_ble_eq_true rfl) ?_
  show Wp g _ mX6_sign 0 [some (.ref 41), none] [] _ _ _ _
  refine x_aload_n (pc := 0) dX6_sign_0 rfl ?_
  refine x_getI (pc := 1) dX6_sign_1 flX6_55 (by first | assumption | rfl) rfl ?_
  rw [show (rM M p true).1 41 3 = nI (100 * b) from r1]
  refine x_aload_n (pc := 4) dX6_sign_4 rfl ?_
  refine x_getI (pc := 5) dX6_sign_5 flX6_34 (by first | assumption | rfl) rfl ?_
  rw [rM_at]
  first | (guard_target =~ Wp _ _ _ _ _ (Value.int (nI _) :: Value.int (nI _) :: _) _ _ _ _; with_reducible refine x_iaddN (pc := 8) dX6_sign_8 ?_) | refine x_iadd (pc := 8) dX6_sign_8 ?_
  refine x_istore_n (pc := 9) dX6_sign_9 (by decide) xs_1 (x_hp rfl) ?_
  refine x_aload_n (pc := 10) dX6_sign_10 rfl ?_
  refine x_getI (pc := 11) dX6_sign_11 flX6_30 (by first | assumption | rfl) rfl ?_
  rw [rM_br]
  first | (guard_target =~ Wp _ _ _ _ _ (Value.int (nI _) :: _) _ _ _ _; with_reducible refine x_if_neN (pc := 14) (tgt := 50) ?_ dX6_sign_14 ?_ (fun h14 => ?_) (fun h14 => ?_); (first | omega | exact b2n_32 _ | exact b2n_31 _); decide) | refine x_if_ne (pc := 14) (tgt := 50) dX6_sign_14 (by decide) (fun h14 => ?_) (fun h14 => ?_)
  · skip
    refine x_iconst (pc := 50) dX6_sign_50 ic_m1 ?_
    refine x_ret (pc := 51) (v := some _) rfl trivial dX6_sign_51 (by decide) ?_
    exact h
  · skip
    cases h14
theorem sp_X6_fail {br : Bool} (h : K (some (.int (nI 0))) xSF (rM M p true)) : Ex g d yX6_fail mX6_fail [.ref 41] xSF (rM M p br) K := by
  refine x_entry kX6_fail (Nat.le_of_ble_eq_true rfl) ?_
  show Wp g _ mX6_fail 0 [some (.ref 41)] [] _ _ _ _
  refine x_aload_n (pc := 0) dX6_fail_0 rfl ?_
  refine x_iconstN (pc := 1) 1 dX6_fail_1 ic_1 ?_
  refine x_putI (pc := 2) dX6_fail_2 flX6_30 (by first | assumption | rfl) rfl (by first | rfl | decide) (by first | rfl | decide) ?_
  rw [rM_fail]
  refine x_iconstN (pc := 5) 0 dX6_fail_5 ic_0 ?_
  refine x_ret (pc := 6) (v := some _) rfl trivial dX6_fail_6 (by decide) ?_
  exact h
theorem sp_X6_isLetter {x : Nat} (hx : x < 129) (h : K (some (.int (nI (b2n (decide (fldP x ≠ 6)))))) S M) : Ex g d yX6_isLetter mX6_isLetter [.int (srt x)] S M K := by
  have e : ∀ k : Nat, k < 128 → (srt x = nI k ↔ x = k + 1) := fun k hk => srt_nI hx (by omega)
  have e1 := e 99 (by decide)
  have e2 := e 114 (by decide)
  have e3 := e 120 (by decide)
  have e4 := e 103 (by decide)
  have e5 := e 107 (by decide)
  have e6 := e 118 (by decide)
  refine x_entry kX6_isLetter (Nat.le_of_ble_eq_true rfl) ?_
  show Wp g _ mX6_isLetter 0 [some (.int (srt x))] [] _ _ _ _
  refine x_iload_n (pc := 0) dX6_isLetter_0 rfl ?_
  refine x_bipushN (pc := 1) 99 dX6_isLetter_1 bp_99 ?_
  first | (guard_target =~ Wp _ _ _ _ _ (Value.int (nI _) :: Value.int (nI _) :: _) _ _ _ _; with_reducible refine x_icmp_eqN (pc := 3) (tgt := 36) ?_ ?_ dX6_isLetter_3 ?_ (fun h3 => ?_) (fun h3 => ?_); (first | omega | exact b2n_31 _); (first | omega | exact b2n_31 _); decide) | refine x_icmp_eq (pc := 3) (tgt := 36) dX6_isLetter_3 (by decide) (fun h3 => ?_) (fun h3 => ?_)
  · skip
    refine x_iconstN (pc := 36) 1 dX6_isLetter_36 ic_1 ?_
    refine x_goto (pc := 37) (tgt := 41) dX6_isLetter_37 (by decide) ?_
    refine x_ret (pc := 41) (v := some _) rfl (by first | rfl | decide | exact xrt_b) dX6_isLetter_41 (by decide) ?_
    rw [e1.mp h3] at h; exact h
  · skip
    refine x_iload_n (pc := 6) dX6_isLetter_6 rfl ?_
    refine x_bipushN (pc := 7) 114 dX6_isLetter_7 bp_114 ?_
    first | (guard_target =~ Wp _ _ _ _ _ (Value.int (nI _) :: Value.int (nI _) :: _) _ _ _ _; with_reducible refine x_icmp_eqN (pc := 9) (tgt := 36) ?_ ?_ dX6_isLetter_9 ?_ (fun h9 => ?_) (fun h9 => ?_); (first | omega | exact b2n_31 _); (first | omega | exact b2n_31 _); decide) | refine x_icmp_eq (pc := 9) (tgt := 36) dX6_isLetter_9 (by decide) (fun h9 => ?_) (fun h9 => ?_)
    · skip
      refine x_iconstN (pc := 36) 1 dX6_isLetter_36 ic_1 ?_
      refine x_goto (pc := 37) (tgt := 41) dX6_isLetter_37 (by decide) ?_
      refine x_ret (pc := 41) (v := some _) rfl (by first | rfl | decide | exact xrt_b) dX6_isLetter_41 (by decide) ?_
      rw [e2.mp h9] at h; exact h
    · skip
      refine x_iload_n (pc := 12) dX6_isLetter_12 rfl ?_
      refine x_bipushN (pc := 13) 120 dX6_isLetter_13 bp_120 ?_
      first | (guard_target =~ Wp _ _ _ _ _ (Value.int (nI _) :: Value.int (nI _) :: _) _ _ _ _; with_reducible refine x_icmp_eqN (pc := 15) (tgt := 36) ?_ ?_ dX6_isLetter_15 ?_ (fun h15 => ?_) (fun h15 => ?_); (first | omega | exact b2n_31 _); (first | omega | exact b2n_31 _); decide) | refine x_icmp_eq (pc := 15) (tgt := 36) dX6_isLetter_15 (by decide) (fun h15 => ?_) (fun h15 => ?_)
      · skip
        refine x_iconstN (pc := 36) 1 dX6_isLetter_36 ic_1 ?_
        refine x_goto (pc := 37) (tgt := 41) dX6_isLetter_37 (by decide) ?_
        refine x_ret (pc := 41) (v := some _) rfl (by first | rfl | decide | exact xrt_b) dX6_isLetter_41 (by decide) ?_
        rw [e3.mp h15] at h; exact h
      · skip
        refine x_iload_n (pc := 18) dX6_isLetter_18 rfl ?_
        refine x_bipushN (pc := 19) 103 dX6_isLetter_19 bp_103 ?_
        first | (guard_target =~ Wp _ _ _ _ _ (Value.int (nI _) :: Value.int (nI _) :: _) _ _ _ _; with_reducible refine x_icmp_eqN (pc := 21) (tgt := 36) ?_ ?_ dX6_isLetter_21 ?_ (fun h21 => ?_) (fun h21 => ?_); (first | omega | exact b2n_31 _); (first | omega | exact b2n_31 _); decide) | refine x_icmp_eq (pc := 21) (tgt := 36) dX6_isLetter_21 (by decide) (fun h21 => ?_) (fun h21 => ?_)
        · skip
          refine x_iconstN (pc := 36) 1 dX6_isLetter_36 ic_1 ?_
          refine x_goto (pc := 37) (tgt := 41) dX6_isLetter_37 (by decide) ?_
          refine x_ret (pc := 41) (v := some _) rfl (by first | rfl | decide | exact xrt_b) dX6_isLetter_41 (by decide) ?_
          rw [e4.mp h21] at h; exact h
        · skip
          refine x_iload_n (pc := 24) dX6_isLetter_24 rfl ?_
          refine x_bipushN (pc := 25) 107 dX6_isLetter_25 bp_107 ?_
          first | (guard_target =~ Wp _ _ _ _ _ (Value.int (nI _) :: Value.int (nI _) :: _) _ _ _ _; with_reducible refine x_icmp_eqN (pc := 27) (tgt := 36) ?_ ?_ dX6_isLetter_27 ?_ (fun h27 => ?_) (fun h27 => ?_); (first | omega | exact b2n_31 _); (first | omega | exact b2n_31 _); decide) | refine x_icmp_eq (pc := 27) (tgt := 36) dX6_isLetter_27 (by decide) (fun h27 => ?_) (fun h27 => ?_)
          · skip
            refine x_iconstN (pc := 36) 1 dX6_isLetter_36 ic_1 ?_
            refine x_goto (pc := 37) (tgt := 41) dX6_isLetter_37 (by decide) ?_
            refine x_ret (pc := 41) (v := some _) rfl (by first | rfl | decide | exact xrt_b) dX6_isLetter_41 (by decide) ?_
            rw [e5.mp h27] at h; exact h
          · skip
            refine x_iload_n (pc := 30) dX6_isLetter_30 rfl ?_
            refine x_bipushN (pc := 31) 118 dX6_isLetter_31 bp_118 ?_
            first | (guard_target =~ Wp _ _ _ _ _ (Value.int (nI _) :: Value.int (nI _) :: _) _ _ _ _; with_reducible refine x_icmp_neN (pc := 33) (tgt := 40) ?_ ?_ dX6_isLetter_33 ?_ (fun h33 => ?_) (fun h33 => ?_); (first | omega | exact b2n_31 _); (first | omega | exact b2n_31 _); decide) | refine x_icmp_ne (pc := 33) (tgt := 40) dX6_isLetter_33 (by decide) (fun h33 => ?_) (fun h33 => ?_)
            · skip
              refine x_iconstN (pc := 40) 0 dX6_isLetter_40 ic_0 ?_
              refine x_ret (pc := 41) (v := some _) rfl (by first | rfl | decide | exact xrt_b) dX6_isLetter_41 (by decide) ?_
              rw [show fldP x = 6 by unfold fldP; rw [if_neg (fun q => h3 (e1.mpr q)), if_neg (fun q => h9 (e2.mpr q)), if_neg (fun q => h15 (e3.mpr q)), if_neg (fun q => h21 (e4.mpr q)), if_neg (fun q => h27 (e5.mpr q)), if_neg (fun q => h33 (e6.mpr q))]] at h; exact h
            · skip
              refine x_iconstN (pc := 36) 1 dX6_isLetter_36 ic_1 ?_
              refine x_goto (pc := 37) (tgt := 41) dX6_isLetter_37 (by decide) ?_
              refine x_ret (pc := 41) (v := some _) rfl (by first | rfl | decide | exact xrt_b) dX6_isLetter_41 (by decide) ?_
              rw [e6.mp h33] at h; exact h
/-- the facts of cell i -/
def fctC (f : Nat → Nat) (i k : Nat) : Nat := if k = 0 then i else if k = 1 then i / 4 else if k = 2 then i % 4 else f k
theorem sp_X6_valueOf {x i : Nat} {br : Bool} (hx : fldP x ≠ 6) (hi : i < 16) (hR : RT M b n c f) (h : K (some (.int (nI (fctC f i (fldP x))))) xSF (rM M p br)) : Ex g d yX6_valueOf mX6_valueOf [.ref 41, .int (srt x), .int (nI i)] xSF (rM M p br) K := by
  obtain ⟨-, -, -, -, -, r6, r7, r8⟩ := hR
  have hh : x = 100 ∨ x = 115 ∨ x = 121 ∨ x = 104 ∨ x = 108 ∨ x = 119 := by
    unfold fldP at hx
    (repeat' split at hx) <;> first | omega | exact absurd rfl hx
  rcases hh with rfl | rfl | rfl | rfl | rfl | rfl
  · skip
    refine x_entry kX6_valueOf (Nat.le_of_ble_eq_true rfl) ?_
    show Wp g _ mX6_valueOf 0 [some (.ref 41), some (.int (srt 100)), some (.int (nI i))] [] _ _ _ _
    refine x_iload_n (pc := 0) dX6_valueOf_0 rfl ?_
    refine x_lookup (pc := 1) (off := 51) (tgt := 52) dX6_valueOf_1 (by decide +kernel) (by decide +kernel) (by decide) ?_
    refine x_iload_n (pc := 52) dX6_valueOf_52 rfl ?_
    refine x_ret (pc := 53) (v := some _) rfl trivial dX6_valueOf_53 (by decide) ?_
    exact h
  · skip
    refine x_entry kX6_valueOf (Nat.le_of_ble_eq_true rfl) ?_
    show Wp g _ mX6_valueOf 0 [some (.ref 41), some (.int (srt 115)), some (.int (nI i))] [] _ _ _ _
    refine x_iload_n (pc := 0) dX6_valueOf_0 rfl ?_
    refine x_lookup (pc := 1) (off := 53) (tgt := 54) dX6_valueOf_1 (by decide +kernel) (by decide +kernel) (by decide) ?_
    refine x_iload_n (pc := 54) dX6_valueOf_54 rfl ?_
    refine x_iconstN (pc := 55) 4 dX6_valueOf_55 ic_4 ?_
    first | (guard_target =~ Wp _ _ _ _ _ (Value.int (nI _) :: Value.int (nI _) :: _) _ _ _ _; with_reducible refine x_idivN (pc := 56) ?_ ?_ ?_ dX6_valueOf_56 ?_; omega; omega; omega) | refine x_idiv (pc := 56) dX6_valueOf_56 (by assumption) ?_
    refine x_ret (pc := 57) (v := some _) rfl trivial dX6_valueOf_57 (by decide) ?_
    exact h
  · skip
    refine x_entry kX6_valueOf (Nat.le_of_ble_eq_true rfl) ?_
    show Wp g _ mX6_valueOf 0 [some (.ref 41), some (.int (srt 121)), some (.int (nI i))] [] _ _ _ _
    refine x_iload_n (pc := 0) dX6_valueOf_0 rfl ?_
    refine x_lookup (pc := 1) (off := 57) (tgt := 58) dX6_valueOf_1 (by decide +kernel) (by decide +kernel) (by decide) ?_
    refine x_iload_n (pc := 58) dX6_valueOf_58 rfl ?_
    refine x_iconstN (pc := 59) 4 dX6_valueOf_59 ic_4 ?_
    first | (guard_target =~ Wp _ _ _ _ _ (Value.int (nI _) :: Value.int (nI _) :: _) _ _ _ _; with_reducible refine x_iremN (pc := 60) ?_ ?_ ?_ dX6_valueOf_60 ?_; omega; omega; omega) | refine x_irem (pc := 60) dX6_valueOf_60 (by assumption) ?_
    refine x_ret (pc := 61) (v := some _) rfl trivial dX6_valueOf_61 (by decide) ?_
    exact h
  · skip
    refine x_entry kX6_valueOf (Nat.le_of_ble_eq_true rfl) ?_
    show Wp g _ mX6_valueOf 0 [some (.ref 41), some (.int (srt 104)), some (.int (nI i))] [] _ _ _ _
    refine x_iload_n (pc := 0) dX6_valueOf_0 rfl ?_
    refine x_lookup (pc := 1) (off := 61) (tgt := 62) dX6_valueOf_1 (by decide +kernel) (by decide +kernel) (by decide) ?_
    refine x_aload_n (pc := 62) dX6_valueOf_62 rfl ?_
    refine x_getI (pc := 63) dX6_valueOf_63 flX6_46 (by first | assumption | rfl) rfl ?_
    rw [show (rM M p br).1 41 7 = nI (f 3) from r6]
    refine x_ret (pc := 66) (v := some _) rfl trivial dX6_valueOf_66 (by decide) ?_
    exact h
  · skip
    refine x_entry kX6_valueOf (Nat.le_of_ble_eq_true rfl) ?_
    show Wp g _ mX6_valueOf 0 [some (.ref 41), some (.int (srt 108)), some (.int (nI i))] [] _ _ _ _
    refine x_iload_n (pc := 0) dX6_valueOf_0 rfl ?_
    refine x_lookup (pc := 1) (off := 66) (tgt := 67) dX6_valueOf_1 (by decide +kernel) (by decide +kernel) (by decide) ?_
    refine x_aload_n (pc := 67) dX6_valueOf_67 rfl ?_
    refine x_getI (pc := 68) dX6_valueOf_68 flX6_49 (by first | assumption | rfl) rfl ?_
    rw [show (rM M p br).1 41 8 = nI (f 4) from r7]
    refine x_ret (pc := 71) (v := some _) rfl trivial dX6_valueOf_71 (by decide) ?_
    exact h
  · skip
    refine x_entry kX6_valueOf (Nat.le_of_ble_eq_true rfl) ?_
    show Wp g _ mX6_valueOf 0 [some (.ref 41), some (.int (srt 119)), some (.int (nI i))] [] _ _ _ _
    refine x_iload_n (pc := 0) dX6_valueOf_0 rfl ?_
    refine x_lookup (pc := 1) (off := 71) (tgt := 72) dX6_valueOf_1 (by decide +kernel) (by decide +kernel) (by decide) ?_
    refine x_aload_n (pc := 72) dX6_valueOf_72 rfl ?_
    refine x_getI (pc := 73) dX6_valueOf_73 flX6_52 (by first | assumption | rfl) rfl ?_
    rw [show (rM M p br).1 41 9 = nI (f 5) from r8]
    refine x_ret (pc := 76) (v := some _) rfl trivial dX6_valueOf_76 (by decide) ?_
    exact h
end P29
