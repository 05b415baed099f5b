/-! THE START: what holds when all is made -/
def s0A : XA := fun k _ => if k = 13 then 30 else 0
def s0 : XSt := ((s0A, 0, -1, fun _ _ => 0, []), none, fun _ _ => 0, fun _ => 0, 0, fun _ _ => 0, fun _ => 0, [])
theorem cF_0 {b k : Nat} (h : b ≠ 1 ∧ b ≠ 13 ∧ b ≠ 46 ∧ b ≠ 63) : cF b k = 0 := by unfold cF; rw [if_neg (by omega), if_neg (by omega), if_neg (by omega)]
theorem okT_0 : okT s0 := ⟨fun _ _ _ => rfl, fun _ _ => rfl⟩
theorem bdA_0 : bdA s0A := by
  refine ⟨fun k hk j _ => ?_, by decide, by decide⟩
  have hh : ∀ k, k < 8 → s0A k 0 < cbd k := by decide
  exact hh k hk
theorem bdN_0 : bdN (fun _ _ => 0) := ⟨fun j hj => absurd hj (Nat.not_lt_zero j), fun j hj => absurd hj (Nat.not_lt_zero j), fun j hj => absurd hj (Nat.not_lt_zero j), Nat.zero_le _, Nat.zero_le _, Nat.zero_le _⟩
theorem okQ_0 : okQ s0.2.2.1 s0.2.2.2.1 s0.2.2.2.2.1 s0.1 := by
  refine ⟨bdA_0, bdN_0, ⟨fun j _ => (show s0A 0 0 < 10000 by decide), by decide⟩, by decide, ⟨fun g hg => absurd hg (Nat.not_lt_zero g), fun g hg => absurd hg (Nat.not_lt_zero g), rfl, fun j _ _ => rfl⟩, ⟨okL_nil, Or.inl ⟨rfl, rfl⟩⟩, fun k hk => absurd hk (Nat.not_lt_zero k)⟩
theorem CR_0 {M : XM} (h : good M 65) : CR 1 M s0A (nI 0) (-1) := by
  refine ⟨fun k hk j hj => ⟨?_, bdA_0.1 k hk j hj⟩, ?_, by decide, ?_, ?_, by decide, ?_, by decide, ?_, ?_, by decide⟩
  · rw [(h (1 + 1 + k) (by omega)).1 j, cF_0 (by omega)]
    have hh : ∀ k, k < 8 → (0 : Int32) = nI (s0A k 0) := by decide
    exact hh k hk
  · rw [(h 1 (by decide)).1 8]; decide
  · rw [(h 1 (by decide)).1 9]; decide
  · rw [(h 1 (by decide)).1 10]; decide
  · rw [(h 1 (by decide)).1 11]; decide
  · rw [(h 1 (by decide)).1 12]; decide
  · rw [(h 1 (by decide)).1 13]; decide
theorem NR_0 {M : XM} (h : good M 65) : NR 25 M (fun _ _ => 0) := by
  refine ⟨fun j hj => absurd hj (Nat.not_lt_zero j), fun j hj => absurd hj (Nat.not_lt_zero j), fun j hj => absurd hj (Nat.not_lt_zero j), ⟨?_, Nat.zero_le _⟩, ⟨?_, Nat.zero_le _⟩, ⟨?_, Nat.zero_le _⟩⟩
  · rw [(h 25 (by decide)).1]; decide
  · rw [(h 25 (by decide)).1]; decide
  · rw [(h 25 (by decide)).1]; decide
theorem XC9_0 {M : XM} (h : good M 65) : XC9 M s0 := by
  refine ⟨⟨CR_0 h, NR_0 h⟩, okQ_0, ?_, ⟨?_, by decide, fun r hr => ⟨?_, Nat.zero_le _, fun p hp => absurd hp (Nat.not_lt_zero p)⟩⟩, ⟨fun t ht => ⟨?_, Nat.zero_le _, ?_, Nat.zero_le _⟩, fun k _ => ?_⟩, ⟨?_, by decide, fun j _ hj => by cases hj⟩⟩
  · show M.1 0 4 = nI 0
    rw [(h 0 (by decide)).1]; decide
  · rw [(h 41 (by decide)).1]; decide
  · rw [(h 43 (by decide)).1, cF_0 (by decide)]; rfl
  · show M.1 63 t = srt 0
    rw [(h 63 (by decide)).1]
    have hh : ∀ t, t < 6 → cF 63 t = srt 0 := by decide
    exact hh t ht
  · rw [(h 64 (by decide)).1, cF_0 (by decide)]; rfl
  · rw [(h 62 (by decide)).2]; rfl
  · rw [(h 59 (by decide)).1]; decide
theorem any_in {b : Nat} : ∀ l : List XOp, l.any (fun o => o.1 == b && o.2.isNone) = true → (b, none) ∈ l := by
  intro l h
  obtain ⟨o, h1, h2⟩ := List.any_eq_true.mp h
  rw [Bool.and_eq_true, beq_iff_eq] at h2
  obtain ⟨a, _ | x⟩ := o
  · have : a = b := h2.1
    subst this; exact h1
  · cases h2.2
theorem ops_out {M : XM} {b : Nat} (hb : b < 65) : (runO opsM M).1 b = M.1 b := by
  funext k
  rw [run_ev]
  have hh : ∀ b, b < 65 → opsM.all (fun o => decide (o.1 ≠ b)) = true := by decide +kernel
  exact ev_out opsM (hh b hb)
theorem ops_2 {M : XM} (h : good M 65) (h65 : ∀ k, M.2 65 k = 0) {b k : Nat} (hb : b < 113) : (runO opsM M).2 b k = 0 := by
  apply run_2
  by_cases z : b < 65
  · exact Or.inr ((h b z).2 k)
  · by_cases z2 : b = 65
    · subst z2; exact Or.inr (h65 k)
    · have hh : ∀ b, b < 113 → 66 ≤ b → opsM.any (fun o => o.1 == b && o.2.isNone) = true := by decide +kernel
      exact Or.inl ⟨_, any_in _ (hh b hb (by omega)), rfl⟩
theorem ops_zero {M : XM} {b k : Nat} (h1 : 66 ≤ b) (h2 : b < 113) (h3 : b ≠ 80) (h4 : b ≠ 109) : (runO opsM M).1 b k = 0 := by
  rw [run_ev]
  have hh : ∀ b, b < 113 → 66 ≤ b → b ≠ 80 → b ≠ 109 → opsM.all (fun o => decide (o.1 ≠ b) || o.2.isNone) = true ∧ opsM.any (fun o => o.1 == b && o.2.isNone) = true := by decide +kernel
  obtain ⟨a1, a2⟩ := hh b h2 h1 h3 h4
  exact ev_zero opsM _ a1 (Or.inr (any_in _ a2))
theorem ops_65 {M : XM} (h65 : ∀ k, M.1 65 k = 0) (k : Nat) (v : Int32) (hv : evL opsM 65 k 0 = v) : (runO opsM M).1 65 k = v := by
  rw [run_ev, h65, hv]
theorem ops_80 {M : XM} {k : Nat} (hk : k < 12) : (runO opsM M).1 80 k = nI (([115, 111, 102, 116, 104, 97, 114, 100, 98, 97, 108, 100] : List Nat).getD k 0) := by
  rw [run_ev, ev_any opsM _ 0 (any_in _ (by decide +kernel))]
  have hh : ∀ k, k < 12 → evL opsM 80 k 0 = nI (([115, 111, 102, 116, 104, 97, 114, 100, 98, 97, 108, 100] : List Nat).getD k 0) := by decide +kernel
  exact hh k hk
theorem ops_109 {M : XM} {k : Nat} (hk : k < 6) : (runO opsM M).1 109 k = srt 0 := by
  rw [run_ev, ev_any opsM _ 0 (any_in _ (by decide +kernel))]
  have hh : ∀ k, k < 6 → evL opsM 109 k 0 = srt 0 := by decide +kernel
  exact hh k hk
theorem MC9_0 {M : XM} (h : good M 65) (h65 : ∀ k, M.1 65 k = 0) (h652 : ∀ k, M.2 65 k = 0) : MC9 (runO opsM M) s0 := by
  have f := ops_65 h65
  refine ⟨⟨f 0 _ (by decide +kernel), f 1 _ (by decide +kernel), f 2 _ (by decide +kernel), f 3 _ (by decide +kernel), f 11 _ (by decide +kernel), fun k hk j _ => ?_, ⟨f 39 _ (by decide +kernel), fun j hj => absurd hj (Nat.not_lt_zero j)⟩, ⟨f 43 _ (by decide +kernel), fun j hj => absurd hj (Nat.not_lt_zero j)⟩, ⟨f 44 _ (by decide +kernel), fun j hj => absurd hj (Nat.not_lt_zero j)⟩⟩, f 49 _ (by decide +kernel), ⟨f 10 _ (by decide +kernel), f 12 _ (by decide +kernel), fun j hj => absurd hj (Nat.not_lt_zero j), fun b hb => absurd hb (Nat.not_lt_zero b)⟩, ⟨fun t ht => ⟨ops_109 ht, Nat.zero_le _, ?_, Nat.zero_le _⟩, fun k _ => ops_2 h h652 (by decide)⟩, ⟨f 71 _ (by decide +kernel), fun j _ hj => by cases hj⟩, f 33 _ (by decide +kernel), fun j hj => ops_80 hj⟩
  · rw [ops_zero (by omega) (by omega) (by omega) (by omega)]
    have hh : ∀ k, k < 6 → (0 : Int32) = nI (s0A k 0) := by decide
    exact hh k hk
  · rw [ops_zero (by decide) (by decide) (by decide) (by decide)]; rfl
section P9G
variable {g : XG} {d : Nat} {M : XM}
theorem law_start (hn : (xscr g).2.1 ≤ 3072) : Wp g (d + 31) mL_law 0 [some (.ref 5000), none, none, none] [] [] (0, 0) M (fun v _ _ => v = some (.int (nI 1))) := by
  refine x_new (ci := 9) (pc := 0) tyX9 dL_law_0 clL_7 insX9 iniX9 rfl xinX9 tyX9_ok (fun j hj => ⟨zs_at hj, okTy_or ((by decide +kernel : ∀ k, k < 9 → okTy (tyX9 k) = true) j hj)⟩) (by decide) (by decide) ?_
  rw [show ([] : XS).length = 0 from rfl]
  refine x_dup (pc := 3) dL_law_3 rfl ?_
  have hg : good (xzero M 0) 1 := fun b hb => by
    obtain rfl : b = 0 := by omega
    exact ⟨fun k => by rw [cF_0 (by decide)]; simp [xzero], fun k => by simp [xzero]⟩
  refine x_invI (As := []) (pc := 4) dL_law_4 mlL_9 imX9_init kX9_init rfl rfl (by decide) rfl (Nat.le_of_ble_eq_true rfl) (by decide) ?_
  refine ct_X9 hg (fun M1 hg1 => ?_)
  refine x_cnB (b1 := 65) (b2 := 1922) rfl rfl ?_
  refine x_astore_n (pc := 7) (by omega) dL_law_7 (by decide) xs_1 (x_hp rfl) ?_
  refine x_new (ci := 10) (pc := 8) tyX10 dL_law_8 clL_10 insX10 iniX10 rfl xinX10 tyX10_ok (fun j hj => ⟨zs_at hj, okTy_or ((by decide +kernel : ∀ k, k < 77 → okTy (tyX10 k) = true) j hj)⟩) (by decide) (by decide) ?_
  refine x_dup (pc := 11) dL_law_11 rfl ?_
  have hl : (xSF.take 65).length = 65 := by decide
  rw [hl]
  have hz : ∀ k, (xzero M1 65).1 65 k = 0 := fun k => by simp [xzero]
  have hz2 : ∀ k, (xzero M1 65).2 65 k = 0 := fun k => by simp [xzero]
  have hg2 : good (xzero M1 65) 65 := fun b hb => ⟨fun k => (if_neg (by omega)).trans ((hg1 b hb).1 k), fun k => (if_neg (by omega)).trans ((hg1 b hb).2 k)⟩
  refine x_invI (As := []) (pc := 12) dL_law_12 mlL_12 imX10_init kX10_init rfl rfl (by decide) rfl (Nat.le_of_ble_eq_true rfl) (by decide) ?_
  refine ct_X10 (P := xSF.take 65) hl ?_
  rw [List.take_append_drop]
  refine x_cnB (b1 := 113) (b2 := 4999) rfl rfl ?_
  refine x_astore_n (pc := 15) (by omega) dL_law_15 (by decide) xs_2 (x_hp rfl) ?_
  refine x_iconstN (pc := 16) 0 dL_law_16 ic_0 ?_
  refine x_istore_n (pc := 17) dL_law_17 (by decide) xs_3 (x_hp rfl) ?_
  have hgF : good (runO opsM (xzero M1 65)) 65 := fun b hb => by
    rw [ops_out hb]
    exact ⟨(hg2 b hb).1, fun k => ops_2 hg2 hz2 (by omega)⟩
  exact law_loop hn _ 0 _ s0 (by omega : (xscr g).2.1 ≤ 0 + (xscr g).2.1) (by omega) (XC9_0 hgF) (MC9_0 hg2 hz hz2) okT_0
end P9G
