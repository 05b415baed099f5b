/-! CONSTRUCTORS: the tapes, what is asked, the program -/
/-- what is there when all of the program is made -/
def cF (b k : Nat) : Int32 := if (b = 1 ∨ b = 13 ∨ b = 46) ∧ k = 12 then -1 else if (b = 1 ∨ b = 13 ∨ b = 46) ∧ k = 13 then nI 30 else if b = 63 ∧ k < 6 then -1 else 0
def good (M : XM) (n : Nat) : Prop := ∀ b, b < n → (∀ k, M.1 b k = cF b k) ∧ ∀ k, M.2 b k = 0
theorem good.nw {M M' : XM} {n hi : Nat} (h : good M n) (hz : nwz M M' n hi) (hc : ∀ b, n ≤ b → b < hi → b ≠ 1 ∧ b ≠ 13 ∧ b ≠ 46 ∧ b ≠ 63) : good M' hi := by
  intro b hb
  by_cases z : b < n
  · rw [(hz.1 b z).1, (hz.1 b z).2]; exact h b z
  · obtain ⟨z1, z2, z3, z4⟩ := hc b (by omega) hb
    obtain ⟨y1, y2⟩ := hz.2 b (by omega) hb
    refine ⟨fun k => ?_, y2⟩
    rw [y1 k]; unfold cF
    rw [if_neg (by omega), if_neg (by omega), if_neg (by omega)]
theorem good.z1 {M : XM} {n : Nat} (h : good M n) (hc : n ≠ 1 ∧ n ≠ 13 ∧ n ≠ 46 ∧ n ≠ 63) : good (xzero M n) (n + 1) := h.nw (nwz.rf.zero (Nat.le_refl _)) (fun b h1 h2 => by
  have : b = n := by omega
  subst this; exact hc)
theorem good.x2 {M M' : XM} {n : Nat} (h : good M n) (hn : n = 1 ∨ n = 13 ∨ n = 46) (hz : nwz (xput (xput (xzero M n) n 12 (-1)) n 13 (nI 30)) M' (n + 1) (n + 12)) : good M' (n + 12) := by
  have h1 : good (xput (xput (xzero M n) n 12 (-1)) n 13 (nI 30)) (n + 1) := by
    intro b hb
    by_cases z : b = n
    · subst z
      refine ⟨fun k => ?_, fun k => ?_⟩
      · unfold cF
        by_cases k12 : k = 12
        · subst k12; simp [xput, xzero, hn]
        · by_cases k13 : k = 13
          · subst k13; simp [xput, xzero, hn]
          · rw [if_neg (by omega), if_neg (by omega), if_neg (by omega)]; simp [xput, xzero, k12, k13]
      · simp [xput, xzero]
    · obtain ⟨y1, y2⟩ := h b (by omega)
      exact ⟨fun k => (if_neg (by omega)).trans ((if_neg (by omega)).trans ((if_neg z).trans (y1 k))), fun k => (if_neg z).trans (y2 k)⟩
  exact h1.nw hz (fun b q1 q2 => by omega)
theorem xsh_at {P T : XS} {h : (Nat × Nat) ⊕ (Nat × List (Option Value))} {a n : Nat} (j : Nat) (hP : P.length = a) (hn : n = a + 1 + j) : (xsh P h T)[n]? = T[j]? := by
  subst hP; subst hn; unfold xsh
  rw [List.getElem?_append_right (by omega), show P.length + 1 + j - P.length = j + 1 by omega]; rfl
theorem shX2_len {a : Nat} : (shX2 a).length = 12 := rfl
section P9D
variable {g : XG} {d : Nat} {P : XS} {a : Nat} {M : XM} {K : Option Value → XS → XM → Prop}
def shX8 (a : Nat) : XS := [.inr (8, [some (.ref (a + 1)), some (.ref (a + 2)), some (.ref (a + 3))]), .inl (3, 360), .inl (0, 6), .inl (0, 6)]
theorem ct_X8 (hP : P.length = a) (ha : a = 61) (hg : good M 62) (hK : ∀ M', good M' 65 → K none (P ++ shX8 a) M') : Ex g (d + 1) yX8_init mX8_init [.ref a] (xsh P (.inr (8, zs tyX8 3)) []) M K := by
  refine x_entry kX8_init (Nat.le_of_ble_eq_true rfl) ?_
  show Wp g _ mX8_init 0 [some (.ref a)] [] _ _ _ _
  refine x_aload_n (pc := 0) dX8_init_0 rfl ?_
  refine x_objH (pc := 1) hP dX8_init_1 mlX8_1 (Nat.le_of_ble_eq_true rfl) ?_
  refine x_aload_n (pc := 4) dX8_init_4 rfl ?_
  refine x_sipushN (pc := 5) 360 dX8_init_5 sp_360 ?_
  refine x_newaH (pc := 8) (t := 3) (k := 360) (n := a + 1) (by simp [hP]; try omega) dX8_init_8 rfl (by decide) ac_long rfl (by decide) (by omega) (by decide) ?_
  refine x_putRH (pc := 10) hP dX8_init_10 flX8_9 (by decide) rfl rfl (by omega) rfl rfl rfl ?_
  refine x_aload_n (pc := 13) dX8_init_13 rfl ?_
  refine x_bipushN (pc := 14) 6 dX8_init_14 bp_6 ?_
  refine x_newaH (pc := 16) (t := 0) (k := 6) (n := a + 2) (by simp [hP]; try omega) dX8_init_16 rfl (by decide) ac_int rfl (by decide) (by omega) (by decide) ?_
  refine x_dup (pc := 18) dX8_init_18 rfl ?_
  refine x_iconstN (pc := 19) 0 dX8_init_19 ic_0 ?_
  refine x_iconst (pc := 20) dX8_init_20 ic_m1 ?_
  refine x_iastN (pc := 21) (n := 6) (j := 0) dX8_init_21 ((xsh_at 1 hP (by omega)).trans rfl) rfl (by decide) (by decide) ?_
  refine x_dup (pc := 22) dX8_init_22 rfl ?_
  refine x_iconstN (pc := 23) 1 dX8_init_23 ic_1 ?_
  refine x_iconst (pc := 24) dX8_init_24 ic_m1 ?_
  refine x_iastN (pc := 25) (n := 6) (j := 1) dX8_init_25 ((xsh_at 1 hP (by omega)).trans rfl) rfl (by decide) (by decide) ?_
  refine x_dup (pc := 26) dX8_init_26 rfl ?_
  refine x_iconstN (pc := 27) 2 dX8_init_27 ic_2 ?_
  refine x_iconst (pc := 28) dX8_init_28 ic_m1 ?_
  refine x_iastN (pc := 29) (n := 6) (j := 2) dX8_init_29 ((xsh_at 1 hP (by omega)).trans rfl) rfl (by decide) (by decide) ?_
  refine x_dup (pc := 30) dX8_init_30 rfl ?_
  refine x_iconstN (pc := 31) 3 dX8_init_31 ic_3 ?_
  refine x_iconst (pc := 32) dX8_init_32 ic_m1 ?_
  refine x_iastN (pc := 33) (n := 6) (j := 3) dX8_init_33 ((xsh_at 1 hP (by omega)).trans rfl) rfl (by decide) (by decide) ?_
  refine x_dup (pc := 34) dX8_init_34 rfl ?_
  refine x_iconstN (pc := 35) 4 dX8_init_35 ic_4 ?_
  refine x_iconst (pc := 36) dX8_init_36 ic_m1 ?_
  refine x_iastN (pc := 37) (n := 6) (j := 4) dX8_init_37 ((xsh_at 1 hP (by omega)).trans rfl) rfl (by decide) (by decide) ?_
  refine x_dup (pc := 38) dX8_init_38 rfl ?_
  refine x_iconstN (pc := 39) 5 dX8_init_39 ic_5 ?_
  refine x_iconst (pc := 40) dX8_init_40 ic_m1 ?_
  refine x_iastN (pc := 41) (n := 6) (j := 5) dX8_init_41 ((xsh_at 1 hP (by omega)).trans rfl) rfl (by decide) (by decide) ?_
  refine x_putRH (pc := 42) hP dX8_init_42 flX8_13 (by decide) rfl rfl (by omega) rfl rfl rfl ?_
  refine x_aload_n (pc := 45) dX8_init_45 rfl ?_
  refine x_bipushN (pc := 46) 6 dX8_init_46 bp_6 ?_
  refine x_newaH (pc := 48) (t := 0) (k := 6) (n := a + 3) (by simp [hP]; try omega) dX8_init_48 rfl (by decide) ac_int rfl (by decide) (by omega) (by decide) ?_
  refine x_putRH (pc := 50) hP dX8_init_50 flX8_17 (by decide) rfl rfl (by omega) rfl rfl rfl ?_
  refine x_ret (pc := 53) (v := none) rfl trivial dX8_init_53 (by decide) ?_
  refine hK _ ?_
  subst ha
  intro b hb
  by_cases z : b < 62
  · obtain ⟨y1, y2⟩ := hg b z
    refine ⟨fun k => ?_, fun k => ?_⟩
    · rw [← y1 k]; simp [xzero, xput, show ¬ b = 62 by omega, show ¬ b = 63 by omega, show ¬ b = 64 by omega]
    · rw [← y2 k]; simp [xzero, xput, show ¬ b = 62 by omega, show ¬ b = 63 by omega, show ¬ b = 64 by omega]
  · have hh : b = 62 ∨ b = 63 ∨ b = 64 := by omega
    rcases hh with rfl | rfl | rfl
    · exact ⟨fun k => by simp [xzero, xput, cF], fun k => by simp [xzero, xput]⟩
    · refine ⟨fun k => ?_, fun k => by simp [xzero, xput]⟩
      have hk : k = 0 ∨ k = 1 ∨ k = 2 ∨ k = 3 ∨ k = 4 ∨ k = 5 ∨ 6 ≤ k := by omega
      rcases hk with rfl | rfl | rfl | rfl | rfl | rfl | hk
      · simp [xzero, xput, cF]
      · simp [xzero, xput, cF]
      · simp [xzero, xput, cF]
      · simp [xzero, xput, cF]
      · simp [xzero, xput, cF]
      · simp [xzero, xput, cF]
      · simp [xzero, xput, cF, show ¬ k = 0 by omega, show ¬ k = 1 by omega, show ¬ k = 2 by omega, show ¬ k = 3 by omega, show ¬ k = 4 by omega, show ¬ k = 5 by omega, show ¬ k < 6 by omega]
    · exact ⟨fun k => by simp [xzero, xput, cF], fun k => by simp [xzero, xput]⟩
def shX1 (a : Nat) : XS := [.inr (1, [some (.ref 1), some (.ref 25), some (.ref 41), some (.ref (a + 1)), some (.ref (a + 13))])] ++ shX2 (a + 1) ++ [.inl (0, 6)]
theorem ct_X1 (hP : P.length = a) (ha : a = 45) (hg : good M 46) (hK : ∀ M', good M' 59 → K none (P ++ shX1 a) M') : Ex g (d + 3) yX1_init mX1_init [.ref a, .ref 1, .ref 25, .ref 41] (xsh P (.inr (1, zs tyX1 5)) []) M K := by
  refine x_entry kX1_init (Nat.le_of_ble_eq_true rfl) ?_
  show Wp g _ mX1_init 0 [some (.ref a), some (.ref 1), some (.ref 25), some (.ref 41)] [] _ _ _ _
  refine x_aload_n (pc := 0) dX1_init_0 rfl ?_
  refine x_objH (pc := 1) hP dX1_init_1 mlX1_3 (Nat.le_of_ble_eq_true rfl) ?_
  refine x_aload_n (pc := 4) dX1_init_4 rfl ?_
  refine x_newH (ci := 2) (pc := 5) tyX2 (a + 1) (by simp [hP, shX2_len]; try omega) dX1_init_5 clX1_9 insX2 iniX2 rfl xinX2 tyX2_ok (by decide +kernel) (by omega) (by decide) ?_
  refine x_dup (pc := 8) dX1_init_8 rfl ?_
  rw [xsh_new]
  refine x_invIN (As := []) (pc := 9) dX1_init_9 mlX1_11 imX2_init kX2_init rfl rfl (by omega) rfl (Nat.le_of_ble_eq_true rfl) (by decide) ?_
  refine ct_X2 (d := d) (a := a + 1) (by simp [hP, shX2_len]; try omega) (by omega) (fun M1 hz1 => ?_)
  rw [xsh_sub]
  refine x_cnB (b1 := _) (b2 := _) rfl rfl ?_
  refine x_putRH (pc := 12) hP dX1_init_12 flX1_12 (by decide) rfl rfl (by omega) rfl rfl rfl ?_
  refine x_aload_n (pc := 15) dX1_init_15 rfl ?_
  refine x_bipushN (pc := 16) 6 dX1_init_16 bp_6 ?_
  refine x_newaH (pc := 18) (t := 0) (k := 6) (n := a + 13) (by simp [hP, shX2_len]; try omega) dX1_init_18 rfl (by decide) ac_int rfl (by decide) (by omega) (by decide) ?_
  refine x_putRH (pc := 20) hP dX1_init_20 flX1_18 (by decide) rfl rfl (by omega) rfl rfl rfl ?_
  refine x_aload_n (pc := 23) dX1_init_23 rfl ?_
  refine x_aload_n (pc := 24) dX1_init_24 rfl ?_
  refine x_putRH (pc := 25) hP dX1_init_25 flX1_22 (by decide) rfl rfl (by omega) rfl rfl rfl ?_
  refine x_aload_n (pc := 28) dX1_init_28 rfl ?_
  refine x_aload_n (pc := 29) dX1_init_29 rfl ?_
  refine x_putRH (pc := 30) hP dX1_init_30 flX1_25 (by decide) rfl rfl (by omega) rfl rfl rfl ?_
  refine x_aload_n (pc := 33) dX1_init_33 rfl ?_
  refine x_aload_n (pc := 34) dX1_init_34 rfl ?_
  refine x_putRH (pc := 35) hP dX1_init_35 flX1_29 (by decide) rfl rfl (by omega) rfl rfl rfl ?_
  refine x_ret (pc := 38) (v := none) rfl trivial dX1_init_38 (by decide) ?_
  refine hK _ ?_
  subst ha
  exact (hg.x2 (Or.inr (Or.inr rfl)) hz1).nw (nwz.rf.zero (Nat.le_refl _)) (fun b h1 h2 => by omega)
end P9D
