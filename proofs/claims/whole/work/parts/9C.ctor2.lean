/-! CONSTRUCTORS of the program's parts -/
section P9C
variable {g : XG} {d : Nat} {P : XS} {a : Nat} {M : XM} {K : Option Value → XS → XM → Prop}
theorem x_cnB {m : XMe} {pc : Nat} {ls : XL} {st : List Value} {S : XS} {n1 n2 b1 b2 : Nat} (h1 : n1 = b1) (h2 : n2 = b2) (k : Wp g d m pc ls st S (b1, b2) M K) : Wp g d m pc ls ((none : Option Value).toList ++ st) S (n1, n2) M K := by subst h1; subst h2; exact k
theorem nwz.put {M M' : XM} {lo hi b k : Nat} {x : Int32} (h : nwz M M' lo hi) (hb : b < lo) : nwz (xput M b k x) (xput M' b k x) lo hi := by
  refine ⟨fun c hc => ⟨funext fun j => ?_, (h.1 c hc).2⟩, fun c h1 h2 => ⟨fun j => (if_neg (by omega)).trans ((h.2 c h1 h2).1 j), (h.2 c h1 h2).2⟩⟩
  show (if c = b ∧ j = k then x else M'.1 c j) = if c = b ∧ j = k then x else M.1 c j
  rw [(h.1 c hc).1]
def shX7 (a : Nat) : XS := [.inr (7, [some (.ref (a + 1)), some (.ref (a + 2))]), .inl (0, 16), .inl (0, 16)]
theorem ct_X7 (hP : P.length = a) (ha : a + 3 ≤ 113) (hK : ∀ M', nwz M M' (a + 1) (a + 3) → K none (P ++ shX7 a) M') : Ex g (d + 1) yX7_init mX7_init [.ref a] (xsh P (.inr (7, zs tyX7 2)) []) M K := by
  refine x_entry kX7_init (Nat.le_of_ble_eq_true rfl) ?_
  show Wp g _ mX7_init 0 [some (.ref a)] [] _ _ _ _
  refine x_aload_n (pc := 0) dX7_init_0 rfl ?_
  refine x_objH (pc := 1) hP dX7_init_1 mlX7_3 (Nat.le_of_ble_eq_true rfl) ?_
  refine x_aload_n (pc := 4) dX7_init_4 rfl ?_
  refine x_bipushN (pc := 5) 16 dX7_init_5 bp_16 ?_
  refine x_newaH (pc := 7) (t := 0) (k := 16) (n := a + 1) (by simp [hP]; try omega) dX7_init_7 rfl (by decide) ac_int rfl (by decide) (by omega) (by decide) ?_
  refine x_putRH (pc := 9) hP dX7_init_9 flX7_9 (by decide) rfl rfl (by omega) rfl rfl rfl ?_
  refine x_aload_n (pc := 12) dX7_init_12 rfl ?_
  refine x_bipushN (pc := 13) 16 dX7_init_13 bp_16 ?_
  refine x_newaH (pc := 15) (t := 0) (k := 16) (n := a + 2) (by simp [hP]; try omega) dX7_init_15 rfl (by decide) ac_int rfl (by decide) (by omega) (by decide) ?_
  refine x_putRH (pc := 17) hP dX7_init_17 flX7_15 (by decide) rfl rfl (by omega) rfl rfl rfl ?_
  refine x_ret (pc := 20) (v := none) rfl trivial dX7_init_20 (by decide) ?_
  exact hK _ ((nwz.rf.zero (by omega)).zero (by omega))
def shX2 (a : Nat) : XS := [.inr (2, [some (.ref (a + 1)), some (.ref (a + 2)), some (.ref (a + 3)), some (.ref (a + 4)), some (.ref (a + 5)), some (.ref (a + 6)), some (.ref (a + 7)), some (.ref (a + 8)), none, none, none, none, none, none, some (.ref (a + 9))]), .inl (0, 16), .inl (0, 6), .inl (0, 6), .inl (0, 6), .inl (0, 6), .inl (0, 24), .inl (0, 6), .inl (0, 96)] ++ shX7 (a + 9)
theorem ct_X2 (hP : P.length = a) (ha : a + 12 ≤ 113) (hK : ∀ M', nwz (xput (xput M a 12 (-1)) a 13 (nI 30)) M' (a + 1) (a + 12) → K none (P ++ shX2 a) M') : Ex g (d + 2) yX2_init mX2_init [.ref a] (xsh P (.inr (2, zs tyX2 15)) []) M K := by
  refine x_entry kX2_init (Nat.le_of_ble_eq_true rfl) ?_
  show Wp g _ mX2_init 0 [some (.ref a)] [] _ _ _ _
  refine x_aload_n (pc := 0) dX2_init_0 rfl ?_
  refine x_objH (pc := 1) hP dX2_init_1 mlX2_3 (Nat.le_of_ble_eq_true rfl) ?_
  refine x_aload_n (pc := 4) dX2_init_4 rfl ?_
  refine x_bipushN (pc := 5) 16 dX2_init_5 bp_16 ?_
  refine x_newaH (pc := 7) (t := 0) (k := 16) (n := a + 1) (by simp [hP]; try omega) dX2_init_7 rfl (by decide) ac_int rfl (by decide) (by omega) (by decide) ?_
  refine x_putRH (pc := 9) hP dX2_init_9 flX2_9 (by decide) rfl rfl (by omega) rfl rfl rfl ?_
  refine x_aload_n (pc := 12) dX2_init_12 rfl ?_
  refine x_bipushN (pc := 13) 6 dX2_init_13 bp_6 ?_
  refine x_newaH (pc := 15) (t := 0) (k := 6) (n := a + 2) (by simp [hP]; try omega) dX2_init_15 rfl (by decide) ac_int rfl (by decide) (by omega) (by decide) ?_
  refine x_putRH (pc := 17) hP dX2_init_17 flX2_15 (by decide) rfl rfl (by omega) rfl rfl rfl ?_
  refine x_aload_n (pc := 20) dX2_init_20 rfl ?_
  refine x_bipushN (pc := 21) 6 dX2_init_21 bp_6 ?_
  refine x_newaH (pc := 23) (t := 0) (k := 6) (n := a + 3) (by simp [hP]; try omega) dX2_init_23 rfl (by decide) ac_int rfl (by decide) (by omega) (by decide) ?_
  refine x_putRH (pc := 25) hP dX2_init_25 flX2_18 (by decide) rfl rfl (by omega) rfl rfl rfl ?_
  refine x_aload_n (pc := 28) dX2_init_28 rfl ?_
  refine x_bipushN (pc := 29) 6 dX2_init_29 bp_6 ?_
  refine x_newaH (pc := 31) (t := 0) (k := 6) (n := a + 4) (by simp [hP]; try omega) dX2_init_31 rfl (by decide) ac_int rfl (by decide) (by omega) (by decide) ?_
  refine x_putRH (pc := 33) hP dX2_init_33 flX2_21 (by decide) rfl rfl (by omega) rfl rfl rfl ?_
  refine x_aload_n (pc := 36) dX2_init_36 rfl ?_
  refine x_bipushN (pc := 37) 6 dX2_init_37 bp_6 ?_
  refine x_newaH (pc := 39) (t := 0) (k := 6) (n := a + 5) (by simp [hP]; try omega) dX2_init_39 rfl (by decide) ac_int rfl (by decide) (by omega) (by decide) ?_
  refine x_putRH (pc := 41) hP dX2_init_41 flX2_24 (by decide) rfl rfl (by omega) rfl rfl rfl ?_
  refine x_aload_n (pc := 44) dX2_init_44 rfl ?_
  refine x_bipushN (pc := 45) 24 dX2_init_45 bp_24 ?_
  refine x_newaH (pc := 47) (t := 0) (k := 24) (n := a + 6) (by simp [hP]; try omega) dX2_init_47 rfl (by decide) ac_int rfl (by decide) (by omega) (by decide) ?_
  refine x_putRH (pc := 49) hP dX2_init_49 flX2_27 (by decide) rfl rfl (by omega) rfl rfl rfl ?_
  refine x_aload_n (pc := 52) dX2_init_52 rfl ?_
  refine x_bipushN (pc := 53) 6 dX2_init_53 bp_6 ?_
  refine x_newaH (pc := 55) (t := 0) (k := 6) (n := a + 7) (by simp [hP]; try omega) dX2_init_55 rfl (by decide) ac_int rfl (by decide) (by omega) (by decide) ?_
  refine x_putRH (pc := 57) hP dX2_init_57 flX2_30 (by decide) rfl rfl (by omega) rfl rfl rfl ?_
  refine x_aload_n (pc := 60) dX2_init_60 rfl ?_
  refine x_bipushN (pc := 61) 96 dX2_init_61 bp_96 ?_
  refine x_newaH (pc := 63) (t := 0) (k := 96) (n := a + 8) (by simp [hP]; try omega) dX2_init_63 rfl (by decide) ac_int rfl (by decide) (by omega) (by decide) ?_
  refine x_putRH (pc := 65) hP dX2_init_65 flX2_33 (by decide) rfl rfl (by omega) rfl rfl rfl ?_
  refine x_aload_n (pc := 68) dX2_init_68 rfl ?_
  refine x_iconst (pc := 69) dX2_init_69 ic_m1 ?_
  refine x_putIH (pc := 70) hP dX2_init_70 flX2_36 rfl rfl rfl ?_
  refine x_aload_n (pc := 73) dX2_init_73 rfl ?_
  refine x_bipushN (pc := 74) 30 dX2_init_74 bp_30 ?_
  refine x_putIH (pc := 76) hP dX2_init_76 flX2_42 rfl rfl rfl ?_
  refine x_aload_n (pc := 79) dX2_init_79 rfl ?_
  refine x_newH (ci := 7) (pc := 80) tyX7 (a + 9) (by simp [hP]; try omega) dX2_init_80 clX2_45 insX7 iniX7 rfl xinX7 tyX7_ok (by decide +kernel) (by omega) (by decide) ?_
  refine x_dup (pc := 83) dX2_init_83 rfl ?_
  rw [xsh_new]
  refine x_invIN (As := []) (pc := 84) dX2_init_84 mlX2_47 imX7_init kX7_init rfl rfl (by omega) rfl (Nat.le_of_ble_eq_true rfl) (by decide) ?_
  refine ct_X7 (a := a + 9) (by simp [hP]; try omega) (by omega) (fun M1 hz1 => ?_)
  rw [xsh_sub]
  refine x_cnB (b1 := _) (b2 := _) rfl rfl ?_
  refine x_putRH (pc := 87) hP dX2_init_87 flX2_48 (by decide) rfl rfl (by omega) rfl rfl rfl ?_
  refine x_ret (pc := 90) (v := none) rfl trivial dX2_init_90 (by decide) ?_
  exact hK _ ((((nwz.put (nwz.put ((((((((nwz.rf.zero (by omega)).zero (by omega)).zero (by omega)).zero (by omega)).zero (by omega)).zero (by omega)).zero (by omega)).zero (by omega)) (by omega)) (by omega)).zero (by omega))).tr hz1 (by omega))
def shX5 (a : Nat) : XS := [.inr (5, [some (.ref (a + 1)), some (.ref (a + 2)), some (.ref (a + 3)), some (.ref (a + 4)), some (.ref (a + 5)), some (.ref (a + 6)), some (.ref (a + 7)), none, none, none]), .inl (0, 5), .inl (0, 5), .inl (0, 5), .inl (0, 10), .inl (0, 10), .inl (0, 8), .inl (0, 8)]
theorem ct_X5 (hP : P.length = a) (ha : a + 8 ≤ 113) (hK : ∀ M', nwz M M' (a + 1) (a + 8) → K none (P ++ shX5 a) M') : Ex g (d + 1) yX5_init mX5_init [.ref a] (xsh P (.inr (5, zs tyX5 10)) []) M K := by
  refine x_entry kX5_init (Nat.le_of_ble_eq_true rfl) ?_
  show Wp g _ mX5_init 0 [some (.ref a)] [] _ _ _ _
  refine x_aload_n (pc := 0) dX5_init_0 rfl ?_
  refine x_objH (pc := 1) hP dX5_init_1 mlX5_3 (Nat.le_of_ble_eq_true rfl) ?_
  refine x_aload_n (pc := 4) dX5_init_4 rfl ?_
  refine x_iconstN (pc := 5) 5 dX5_init_5 ic_5 ?_
  refine x_newaH (pc := 6) (t := 0) (k := 5) (n := a + 1) (by simp [hP]; try omega) dX5_init_6 rfl (by decide) ac_int rfl (by decide) (by omega) (by decide) ?_
  refine x_putRH (pc := 8) hP dX5_init_8 flX5_11 (by decide) rfl rfl (by omega) rfl rfl rfl ?_
  refine x_aload_n (pc := 11) dX5_init_11 rfl ?_
  refine x_iconstN (pc := 12) 5 dX5_init_12 ic_5 ?_
  refine x_newaH (pc := 13) (t := 0) (k := 5) (n := a + 2) (by simp [hP]; try omega) dX5_init_13 rfl (by decide) ac_int rfl (by decide) (by omega) (by decide) ?_
  refine x_putRH (pc := 15) hP dX5_init_15 flX5_15 (by decide) rfl rfl (by omega) rfl rfl rfl ?_
  refine x_aload_n (pc := 18) dX5_init_18 rfl ?_
  refine x_iconstN (pc := 19) 5 dX5_init_19 ic_5 ?_
  refine x_newaH (pc := 20) (t := 0) (k := 5) (n := a + 3) (by simp [hP]; try omega) dX5_init_20 rfl (by decide) ac_int rfl (by decide) (by omega) (by decide) ?_
  refine x_putRH (pc := 22) hP dX5_init_22 flX5_18 (by decide) rfl rfl (by omega) rfl rfl rfl ?_
  refine x_aload_n (pc := 25) dX5_init_25 rfl ?_
  refine x_bipushN (pc := 26) 10 dX5_init_26 bp_10 ?_
  refine x_newaH (pc := 28) (t := 0) (k := 10) (n := a + 4) (by simp [hP]; try omega) dX5_init_28 rfl (by decide) ac_int rfl (by decide) (by omega) (by decide) ?_
  refine x_putRH (pc := 30) hP dX5_init_30 flX5_21 (by decide) rfl rfl (by omega) rfl rfl rfl ?_
  refine x_aload_n (pc := 33) dX5_init_33 rfl ?_
  refine x_bipushN (pc := 34) 10 dX5_init_34 bp_10 ?_
  refine x_newaH (pc := 36) (t := 0) (k := 10) (n := a + 5) (by simp [hP]; try omega) dX5_init_36 rfl (by decide) ac_int rfl (by decide) (by omega) (by decide) ?_
  refine x_putRH (pc := 38) hP dX5_init_38 flX5_24 (by decide) rfl rfl (by omega) rfl rfl rfl ?_
  refine x_aload_n (pc := 41) dX5_init_41 rfl ?_
  refine x_bipushN (pc := 42) 8 dX5_init_42 bp_8 ?_
  refine x_newaH (pc := 44) (t := 0) (k := 8) (n := a + 6) (by simp [hP]; try omega) dX5_init_44 rfl (by decide) ac_int rfl (by decide) (by omega) (by decide) ?_
  refine x_putRH (pc := 46) hP dX5_init_46 flX5_27 (by decide) rfl rfl (by omega) rfl rfl rfl ?_
  refine x_aload_n (pc := 49) dX5_init_49 rfl ?_
  refine x_bipushN (pc := 50) 8 dX5_init_50 bp_8 ?_
  refine x_newaH (pc := 52) (t := 0) (k := 8) (n := a + 7) (by simp [hP]; try omega) dX5_init_52 rfl (by decide) ac_int rfl (by decide) (by omega) (by decide) ?_
  refine x_putRH (pc := 54) hP dX5_init_54 flX5_30 (by decide) rfl rfl (by omega) rfl rfl rfl ?_
  refine x_ret (pc := 57) (v := none) rfl trivial dX5_init_57 (by decide) ?_
  exact hK _ (((((((nwz.rf.zero (by omega)).zero (by omega)).zero (by omega)).zero (by omega)).zero (by omega)).zero (by omega)).zero (by omega))
def shX6 (a : Nat) : XS := [.inr (6, [some (.ref (a + 1)), some (.ref (a + 2)), none, none, none, none, none, none, none, none, some (.ref (a + 3)), none]), .inl (1, 700), .inl (0, 7), .inl (0, 16)]
theorem ct_X6 (hP : P.length = a) (ha : a + 4 ≤ 113) (hK : ∀ M', nwz M M' (a + 1) (a + 4) → K none (P ++ shX6 a) M') : Ex g (d + 1) yX6_init mX6_init [.ref a] (xsh P (.inr (6, zs tyX6 12)) []) M K := by
  refine x_entry kX6_init (Nat.le_of_ble_eq_true rfl) ?_
  show Wp g _ mX6_init 0 [some (.ref a)] [] _ _ _ _
  refine x_aload_n (pc := 0) dX6_init_0 rfl ?_
  refine x_objH (pc := 1) hP dX6_init_1 mlX6_3 (Nat.le_of_ble_eq_true rfl) ?_
  refine x_aload_n (pc := 4) dX6_init_4 rfl ?_
  refine x_sipushN (pc := 5) 700 dX6_init_5 sp_700 ?_
  refine x_newaH (pc := 8) (t := 1) (k := 700) (n := a + 1) (by simp [hP]; try omega) dX6_init_8 rfl (by decide) ac_byte rfl (by decide) (by omega) (by decide) ?_
  refine x_putRH (pc := 10) hP dX6_init_10 flX6_11 (by decide) rfl rfl (by omega) rfl rfl rfl ?_
  refine x_aload_n (pc := 13) dX6_init_13 rfl ?_
  refine x_bipushN (pc := 14) 7 dX6_init_14 bp_7 ?_
  refine x_newaH (pc := 16) (t := 0) (k := 7) (n := a + 2) (by simp [hP]; try omega) dX6_init_16 rfl (by decide) ac_int rfl (by decide) (by omega) (by decide) ?_
  refine x_putRH (pc := 18) hP dX6_init_18 flX6_15 (by decide) rfl rfl (by omega) rfl rfl rfl ?_
  refine x_aload_n (pc := 21) dX6_init_21 rfl ?_
  refine x_bipushN (pc := 22) 16 dX6_init_22 bp_16 ?_
  refine x_newaH (pc := 24) (t := 0) (k := 16) (n := a + 3) (by simp [hP]; try omega) dX6_init_24 rfl (by decide) ac_int rfl (by decide) (by omega) (by decide) ?_
  refine x_putRH (pc := 26) hP dX6_init_26 flX6_19 (by decide) rfl rfl (by omega) rfl rfl rfl ?_
  refine x_ret (pc := 29) (v := none) rfl trivial dX6_init_29 (by decide) ?_
  exact hK _ (((nwz.rf.zero (by omega)).zero (by omega)).zero (by omega))
def shX0 (a : Nat) : XS := [.inr (0, [some (.ref (a + 1)), none, none, none, none]), .inl (0, 20)]
theorem ct_X0 (hP : P.length = a) (ha : a + 2 ≤ 113) (hK : ∀ M', nwz M M' (a + 1) (a + 2) → K none (P ++ shX0 a) M') : Ex g (d + 1) yX0_init mX0_init [.ref a] (xsh P (.inr (0, zs tyX0 5)) []) M K := by
  refine x_entry kX0_init (Nat.le_of_ble_eq_true rfl) ?_
  show Wp g _ mX0_init 0 [some (.ref a)] [] _ _ _ _
  refine x_aload_n (pc := 0) dX0_init_0 rfl ?_
  refine x_objH (pc := 1) hP dX0_init_1 mlX0_3 (Nat.le_of_ble_eq_true rfl) ?_
  refine x_aload_n (pc := 4) dX0_init_4 rfl ?_
  refine x_bipushN (pc := 5) 20 dX0_init_5 bp_20 ?_
  refine x_newaH (pc := 7) (t := 0) (k := 20) (n := a + 1) (by simp [hP]; try omega) dX0_init_7 rfl (by decide) ac_int rfl (by decide) (by omega) (by decide) ?_
  refine x_putRH (pc := 9) hP dX0_init_9 flX0_11 (by decide) rfl rfl (by omega) rfl rfl rfl ?_
  refine x_ret (pc := 12) (v := none) rfl trivial dX0_init_12 (by decide) ?_
  exact hK _ (nwz.rf.zero (by omega))
end P9C
