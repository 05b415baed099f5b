/-! CONSTRUCTORS: the model -/
abbrev XOp : Type := Nat × Option (Nat × Int32)
def run1 (M : XM) (o : XOp) : XM := match o with
  | (a, none) => xzero M a
  | (a, some (k, x)) => xput M a k x
def runO (l : List XOp) (M : XM) : XM := l.foldl run1 M
def ev1 (b k : Nat) (v : Int32) (o : XOp) : Int32 := match o with
  | (a, none) => if b = a then 0 else v
  | (a, some (j, x)) => if b = a ∧ k = j then x else v
def evL (l : List XOp) (b k : Nat) (v : Int32) : Int32 := l.foldl (ev1 b k) v
theorem run_ev {b k : Nat} : ∀ (l : List XOp) (M : XM), (runO l M).1 b k = evL l b k (M.1 b k) := by
  intro l
  induction l with
  | nil => intro M; rfl
  | cons o l ih =>
    intro M
    show (runO l (run1 M o)).1 b k = evL l b k (ev1 b k (M.1 b k) o)
    rw [ih]
    congr 1
    obtain ⟨a, _ | ⟨j, x⟩⟩ := o <;> rfl
theorem run_2 {b k : Nat} : ∀ (l : List XOp) (M : XM), ((∃ o, o ∈ l ∧ o = (b, none)) ∨ M.2 b k = 0) → (runO l M).2 b k = 0 := by
  intro l
  induction l with
  | nil => intro M h; exact h.elim (fun q => by obtain ⟨o, h1, -⟩ := q; cases h1) id
  | cons o l ih =>
    intro M h
    show (runO l (run1 M o)).2 b k = 0
    apply ih
    rcases h with ⟨q, h1, rfl⟩ | h
    · rcases List.mem_cons.mp h1 with rfl | h1
      · exact Or.inr (if_pos rfl)
      · exact Or.inl ⟨_, h1, rfl⟩
    · right
      obtain ⟨a, _ | ⟨j, x⟩⟩ := o
      · show (if b = a then 0 else M.2 b k) = 0
        split
        · rfl
        · exact h
      · exact h
/-- a row not named stands -/
theorem ev_out {b k : Nat} {v : Int32} : ∀ l : List XOp, l.all (fun o => decide (o.1 ≠ b)) = true → evL l b k v = v := by
  intro l
  induction l generalizing v with
  | nil => intro _; rfl
  | cons o l ih =>
    intro h
    rw [List.all_cons, Bool.and_eq_true, decide_eq_true_eq] at h
    show evL l b k (ev1 b k v o) = v
    rw [ih h.2]
    obtain ⟨a, _ | ⟨j, x⟩⟩ := o
    · exact if_neg (fun q => h.1 q.symm)
    · exact if_neg (fun q => h.1 q.1.symm)
/-- a row that is made and never put into is zero -/
theorem ev_zero {b k : Nat} : ∀ (l : List XOp) (v : Int32), l.all (fun o => decide (o.1 ≠ b) || o.2.isNone) = true → (v = 0 ∨ (b, none) ∈ l) → evL l b k v = 0 := by
  intro l
  induction l with
  | nil => intro v _ h; exact h.elim id (fun q => by cases q)
  | cons o l ih =>
    intro v h hv
    rw [List.all_cons, Bool.and_eq_true] at h
    show evL l b k (ev1 b k v o) = 0
    apply ih _ h.2
    obtain ⟨a, _ | ⟨j, x⟩⟩ := o
    · by_cases z : b = a
      · left; exact if_pos z
      · rcases hv with hv | hv
        · left; exact (if_neg z).trans hv
        · rcases List.mem_cons.mp hv with hv | hv
          · exact absurd (congrArg Prod.fst hv) z
          · exact Or.inr hv
    · have h1 : a ≠ b := by simpa using h.1
      rcases hv with hv | hv
      · left; exact (if_neg (fun q => h1 q.1.symm)).trans hv
      · rcases List.mem_cons.mp hv with hv | hv
        · cases hv
        · exact Or.inr hv
/-- zero at its making: what was there before does not matter -/
theorem ev_any {b k : Nat} : ∀ (l : List XOp) (v w : Int32), (b, none) ∈ l → evL l b k v = evL l b k w := by
  intro l
  induction l with
  | nil => intro v w h; cases h
  | cons o l ih =>
    intro v w h
    show evL l b k (ev1 b k v o) = evL l b k (ev1 b k w o)
    rcases List.mem_cons.mp h with rfl | h
    · congr 1
      show (if b = b then (0 : Int32) else v) = if b = b then 0 else w
      rw [if_pos rfl, if_pos rfl]
    · exact ih _ _ h
def opsM : List XOp := [(65, some (0, nI 0)), (65, some (1, nI 0)), (65, some (2, nI 0)), (65, some (3, nI 0)), (66, none), (67, none), (68, none), (69, none), (70, none), (71, none), (65, some (10, nI 0)), (65, some (11, -1)), (65, some (12, nI 0)), (65, some (13, nI 0)), (65, some (14, nI 0)), (72, none), (73, none), (74, none), (75, none), (76, none), (77, none), (78, none), (79, none), (65, some (23, nI 0)), (65, some (24, nI 0)), (65, some (25, nI 0)), (80, none), (80, some (0, nI 115)), (80, some (1, nI 111)), (80, some (2, nI 102)), (80, some (3, nI 116)), (80, some (4, nI 104)), (80, some (5, nI 97)), (80, some (6, nI 114)), (80, some (7, nI 100)), (80, some (8, nI 98)), (80, some (9, nI 97)), (80, some (10, nI 108)), (80, some (11, nI 100)), (81, none), (82, none), (83, none), (84, none), (65, some (31, nI 0)), (85, none), (65, some (33, nI 9999)), (65, some (34, nI 0)), (65, some (35, nI 0)), (65, some (36, nI 0)), (86, none), (87, none), (65, some (39, nI 0)), (88, none), (89, none), (90, none), (65, some (43, nI 0)), (65, some (44, nI 0)), (91, none), (92, none), (93, none), (94, none), (65, some (49, nI 0)), (65, some (50, -1)), (65, some (51, nI 0)), (65, some (52, nI 0)), (65, some (53, nI 0)), (65, some (54, nI 0)), (65, some (55, nI 0)), (65, some (56, nI 0)), (65, some (57, nI 0)), (95, none), (96, none), (97, none), (98, none), (99, none), (100, none), (101, none), (102, none), (103, none), (104, none), (105, none), (106, none), (107, none), (65, some (71, nI 0)), (108, none), (109, none), (109, some (0, -1)), (109, some (1, -1)), (109, some (2, -1)), (109, some (3, -1)), (109, some (4, -1)), (109, some (5, -1)), (110, none), (111, none), (112, none)]
def shT : XS := [.inl (0, 16), .inl (0, 6), .inl (0, 6), .inl (0, 6), .inl (0, 6), .inl (0, 24), .inl (0, 100), .inl (0, 6), .inl (0, 60), .inl (0, 60), .inl (0, 60), .inl (0, 60), .inl (0, 600), .inl (0, 101), .inl (0, 12), .inl (2, 100), .inl (0, 16), .inl (0, 16), .inl (0, 16), .inl (0, 384), .inl (0, 16), .inl (0, 16), .inl (0, 5), .inl (0, 5), .inl (0, 5), .inl (0, 10), .inl (0, 10), .inl (0, 8), .inl (0, 8), .inl (0, 16), .inl (0, 6), .inl (0, 6), .inl (0, 6), .inl (0, 6), .inl (0, 24), .inl (0, 5), .inl (0, 5), .inl (0, 5), .inl (0, 10), .inl (0, 10), .inl (0, 8), .inl (0, 8), .inl (0, 20), .inl (0, 6), .inl (0, 6), .inl (3, 360), .inl (3, 60)]
section P9F
variable {g : XG} {d : Nat} {P : XS} {M : XM} {K : Option Value → XS → XM → Prop}
theorem ct_X10 (hP : P.length = 65) (hK : K none (P ++ xSF.drop 65) (runO opsM M)) : Ex g (d + 1) yX10_init mX10_init [.ref 65] (xsh P (.inr (10, zs tyX10 77)) []) M K := by
  refine x_entry kX10_init (Nat.le_of_ble_eq_true rfl) ?_
  show Wp g _ mX10_init 0 [some (.ref 65)] [] _ _ _ _
  refine x_aload_n (pc := 0) dX10_init_0 rfl ?_
  refine x_objH (pc := 1) hP dX10_init_1 mlX10_1 (Nat.le_of_ble_eq_true rfl) ?_
  refine x_aload_n (pc := 4) dX10_init_4 rfl ?_
  refine x_iconstN (pc := 5) 0 dX10_init_5 ic_0 ?_
  refine x_putIH (pc := 6) hP dX10_init_6 flX10_7 rfl rfl rfl ?_
  refine x_aload_n (pc := 9) dX10_init_9 rfl ?_
  refine x_iconstN (pc := 10) 0 dX10_init_10 ic_0 ?_
  refine x_putIH (pc := 11) hP dX10_init_11 flX10_13 rfl rfl rfl ?_
  refine x_aload_n (pc := 14) dX10_init_14 rfl ?_
  refine x_iconstN (pc := 15) 0 dX10_init_15 ic_0 ?_
  refine x_putIH (pc := 16) hP dX10_init_16 flX10_16 rfl rfl rfl ?_
  refine x_aload_n (pc := 19) dX10_init_19 rfl ?_
  refine x_iconstN (pc := 20) 0 dX10_init_20 ic_0 ?_
  refine x_putIH (pc := 21) hP dX10_init_21 flX10_19 rfl rfl rfl ?_
  refine x_aload_n (pc := 24) dX10_init_24 rfl ?_
  refine x_bipushN (pc := 25) 16 dX10_init_25 bp_16 ?_
  refine x_newaH (pc := 27) (t := 0) (k := 16) (n := 66) (by simp [hP]) dX10_init_27 rfl (by decide) ac_int rfl (by decide) (by decide) (by decide) ?_
  refine x_putRH (pc := 29) hP dX10_init_29 flX10_22 (by decide) rfl rfl (by decide) rfl rfl rfl ?_
  refine x_aload_n (pc := 32) dX10_init_32 rfl ?_
  refine x_bipushN (pc := 33) 6 dX10_init_33 bp_6 ?_
  refine x_newaH (pc := 35) (t := 0) (k := 6) (n := 67) (by simp [hP]) dX10_init_35 rfl (by decide) ac_int rfl (by decide) (by decide) (by decide) ?_
  refine x_putRH (pc := 37) hP dX10_init_37 flX10_26 (by decide) rfl rfl (by decide) rfl rfl rfl ?_
  refine x_aload_n (pc := 40) dX10_init_40 rfl ?_
  refine x_bipushN (pc := 41) 6 dX10_init_41 bp_6 ?_
  refine x_newaH (pc := 43) (t := 0) (k := 6) (n := 68) (by simp [hP]) dX10_init_43 rfl (by decide) ac_int rfl (by decide) (by decide) (by decide) ?_
  refine x_putRH (pc := 45) hP dX10_init_45 flX10_29 (by decide) rfl rfl (by decide) rfl rfl rfl ?_
  refine x_aload_n (pc := 48) dX10_init_48 rfl ?_
  refine x_bipushN (pc := 49) 6 dX10_init_49 bp_6 ?_
  refine x_newaH (pc := 51) (t := 0) (k := 6) (n := 69) (by simp [hP]) dX10_init_51 rfl (by decide) ac_int rfl (by decide) (by decide) (by decide) ?_
  refine x_putRH (pc := 53) hP dX10_init_53 flX10_32 (by decide) rfl rfl (by decide) rfl rfl rfl ?_
  refine x_aload_n (pc := 56) dX10_init_56 rfl ?_
  refine x_bipushN (pc := 57) 6 dX10_init_57 bp_6 ?_
  refine x_newaH (pc := 59) (t := 0) (k := 6) (n := 70) (by simp [hP]) dX10_init_59 rfl (by decide) ac_int rfl (by decide) (by decide) (by decide) ?_
  refine x_putRH (pc := 61) hP dX10_init_61 flX10_35 (by decide) rfl rfl (by decide) rfl rfl rfl ?_
  refine x_aload_n (pc := 64) dX10_init_64 rfl ?_
  refine x_bipushN (pc := 65) 24 dX10_init_65 bp_24 ?_
  refine x_newaH (pc := 67) (t := 0) (k := 24) (n := 71) (by simp [hP]) dX10_init_67 rfl (by decide) ac_int rfl (by decide) (by decide) (by decide) ?_
  refine x_putRH (pc := 69) hP dX10_init_69 flX10_38 (by decide) rfl rfl (by decide) rfl rfl rfl ?_
  refine x_aload_n (pc := 72) dX10_init_72 rfl ?_
  refine x_iconstN (pc := 73) 0 dX10_init_73 ic_0 ?_
  refine x_putIH (pc := 74) hP dX10_init_74 flX10_41 rfl rfl rfl ?_
  refine x_aload_n (pc := 77) dX10_init_77 rfl ?_
  refine x_iconst (pc := 78) dX10_init_78 ic_m1 ?_
  refine x_putIH (pc := 79) hP dX10_init_79 flX10_44 rfl rfl rfl ?_
  refine x_aload_n (pc := 82) dX10_init_82 rfl ?_
  refine x_iconstN (pc := 83) 0 dX10_init_83 ic_0 ?_
  refine x_putIH (pc := 84) hP dX10_init_84 flX10_47 rfl rfl rfl ?_
  refine x_aload_n (pc := 87) dX10_init_87 rfl ?_
  refine x_iconstN (pc := 88) 0 dX10_init_88 ic_0 ?_
  refine x_putIH (pc := 89) hP dX10_init_89 flX10_50 rfl rfl rfl ?_
  refine x_aload_n (pc := 92) dX10_init_92 rfl ?_
  refine x_iconstN (pc := 93) 0 dX10_init_93 ic_0 ?_
  refine x_putIH (pc := 94) hP dX10_init_94 flX10_53 rfl rfl rfl ?_
  refine x_aload_n (pc := 97) dX10_init_97 rfl ?_
  refine x_bipushN (pc := 98) 100 dX10_init_98 bp_100 ?_
  refine x_newaH (pc := 100) (t := 0) (k := 100) (n := 72) (by simp [hP]) dX10_init_100 rfl (by decide) ac_int rfl (by decide) (by decide) (by decide) ?_
  refine x_putRH (pc := 102) hP dX10_init_102 flX10_56 (by decide) rfl rfl (by decide) rfl rfl rfl ?_
  refine x_aload_n (pc := 105) dX10_init_105 rfl ?_
  refine x_bipushN (pc := 106) 6 dX10_init_106 bp_6 ?_
  refine x_newaH (pc := 108) (t := 0) (k := 6) (n := 73) (by simp [hP]) dX10_init_108 rfl (by decide) ac_int rfl (by decide) (by decide) (by decide) ?_
  refine x_putRH (pc := 110) hP dX10_init_110 flX10_59 (by decide) rfl rfl (by decide) rfl rfl rfl ?_
  refine x_aload_n (pc := 113) dX10_init_113 rfl ?_
  refine x_bipushN (pc := 114) 60 dX10_init_114 bp_60 ?_
  refine x_newaH (pc := 116) (t := 0) (k := 60) (n := 74) (by simp [hP]) dX10_init_116 rfl (by decide) ac_int rfl (by decide) (by decide) (by decide) ?_
  refine x_putRH (pc := 118) hP dX10_init_118 flX10_62 (by decide) rfl rfl (by decide) rfl rfl rfl ?_
  refine x_aload_n (pc := 121) dX10_init_121 rfl ?_
  refine x_bipushN (pc := 122) 60 dX10_init_122 bp_60 ?_
  refine x_newaH (pc := 124) (t := 0) (k := 60) (n := 75) (by simp [hP]) dX10_init_124 rfl (by decide) ac_int rfl (by decide) (by decide) (by decide) ?_
  refine x_putRH (pc := 126) hP dX10_init_126 flX10_65 (by decide) rfl rfl (by decide) rfl rfl rfl ?_
  refine x_aload_n (pc := 129) dX10_init_129 rfl ?_
  refine x_bipushN (pc := 130) 60 dX10_init_130 bp_60 ?_
  refine x_newaH (pc := 132) (t := 0) (k := 60) (n := 76) (by simp [hP]) dX10_init_132 rfl (by decide) ac_int rfl (by decide) (by decide) (by decide) ?_
  refine x_putRH (pc := 134) hP dX10_init_134 flX10_68 (by decide) rfl rfl (by decide) rfl rfl rfl ?_
  refine x_aload_n (pc := 137) dX10_init_137 rfl ?_
  refine x_bipushN (pc := 138) 60 dX10_init_138 bp_60 ?_
  refine x_newaH (pc := 140) (t := 0) (k := 60) (n := 77) (by simp [hP]) dX10_init_140 rfl (by decide) ac_int rfl (by decide) (by decide) (by decide) ?_
  refine x_putRH (pc := 142) hP dX10_init_142 flX10_71 (by decide) rfl rfl (by decide) rfl rfl rfl ?_
  refine x_aload_n (pc := 145) dX10_init_145 rfl ?_
  refine x_sipushN (pc := 146) 600 dX10_init_146 sp_600 ?_
  refine x_newaH (pc := 149) (t := 0) (k := 600) (n := 78) (by simp [hP]) dX10_init_149 rfl (by decide) ac_int rfl (by decide) (by decide) (by decide) ?_
  refine x_putRH (pc := 151) hP dX10_init_151 flX10_74 (by decide) rfl rfl (by decide) rfl rfl rfl ?_
  refine x_aload_n (pc := 154) dX10_init_154 rfl ?_
  refine x_bipushN (pc := 155) 101 dX10_init_155 bp_101 ?_
  refine x_newaH (pc := 157) (t := 0) (k := 101) (n := 79) (by simp [hP]) dX10_init_157 rfl (by decide) ac_int rfl (by decide) (by decide) (by decide) ?_
  refine x_putRH (pc := 159) hP dX10_init_159 flX10_77 (by decide) rfl rfl (by decide) rfl rfl rfl ?_
  refine x_aload_n (pc := 162) dX10_init_162 rfl ?_
  refine x_iconstN (pc := 163) 0 dX10_init_163 ic_0 ?_
  refine x_putIH (pc := 164) hP dX10_init_164 flX10_80 rfl rfl rfl ?_
  refine x_aload_n (pc := 167) dX10_init_167 rfl ?_
  refine x_iconstN (pc := 168) 0 dX10_init_168 ic_0 ?_
  refine x_putIH (pc := 169) hP dX10_init_169 flX10_83 rfl rfl rfl ?_
  refine x_aload_n (pc := 172) dX10_init_172 rfl ?_
  refine x_iconstN (pc := 173) 0 dX10_init_173 ic_0 ?_
  refine x_putIH (pc := 174) hP dX10_init_174 flX10_86 rfl rfl rfl ?_
  refine x_aload_n (pc := 177) dX10_init_177 rfl ?_
  refine x_bipushN (pc := 178) 12 dX10_init_178 bp_12 ?_
  refine x_newaH (pc := 180) (t := 0) (k := 12) (n := 80) (by simp [hP]) dX10_init_180 rfl (by decide) ac_int rfl (by decide) (by decide) (by decide) ?_
  refine x_dup (pc := 182) dX10_init_182 rfl ?_
  refine x_iconstN (pc := 183) 0 dX10_init_183 ic_0 ?_
  refine x_bipushN (pc := 184) 115 dX10_init_184 bp_115 ?_
  refine x_iastN (pc := 186) (n := 12) (j := 0) dX10_init_186 ((xsh_at 14 hP rfl).trans rfl) rfl (by decide) (by decide) ?_
  refine x_dup (pc := 187) dX10_init_187 rfl ?_
  refine x_iconstN (pc := 188) 1 dX10_init_188 ic_1 ?_
  refine x_bipushN (pc := 189) 111 dX10_init_189 bp_111 ?_
  refine x_iastN (pc := 191) (n := 12) (j := 1) dX10_init_191 ((xsh_at 14 hP rfl).trans rfl) rfl (by decide) (by decide) ?_
  refine x_dup (pc := 192) dX10_init_192 rfl ?_
  refine x_iconstN (pc := 193) 2 dX10_init_193 ic_2 ?_
  refine x_bipushN (pc := 194) 102 dX10_init_194 bp_102 ?_
  refine x_iastN (pc := 196) (n := 12) (j := 2) dX10_init_196 ((xsh_at 14 hP rfl).trans rfl) rfl (by decide) (by decide) ?_
  refine x_dup (pc := 197) dX10_init_197 rfl ?_
  refine x_iconstN (pc := 198) 3 dX10_init_198 ic_3 ?_
  refine x_bipushN (pc := 199) 116 dX10_init_199 bp_116 ?_
  refine x_iastN (pc := 201) (n := 12) (j := 3) dX10_init_201 ((xsh_at 14 hP rfl).trans rfl) rfl (by decide) (by decide) ?_
  refine x_dup (pc := 202) dX10_init_202 rfl ?_
  refine x_iconstN (pc := 203) 4 dX10_init_203 ic_4 ?_
  refine x_bipushN (pc := 204) 104 dX10_init_204 bp_104 ?_
  refine x_iastN (pc := 206) (n := 12) (j := 4) dX10_init_206 ((xsh_at 14 hP rfl).trans rfl) rfl (by decide) (by decide) ?_
  refine x_dup (pc := 207) dX10_init_207 rfl ?_
  refine x_iconstN (pc := 208) 5 dX10_init_208 ic_5 ?_
  refine x_bipushN (pc := 209) 97 dX10_init_209 bp_97 ?_
  refine x_iastN (pc := 211) (n := 12) (j := 5) dX10_init_211 ((xsh_at 14 hP rfl).trans rfl) rfl (by decide) (by decide) ?_
  refine x_dup (pc := 212) dX10_init_212 rfl ?_
  refine x_bipushN (pc := 213) 6 dX10_init_213 bp_6 ?_
  refine x_bipushN (pc := 215) 114 dX10_init_215 bp_114 ?_
  refine x_iastN (pc := 217) (n := 12) (j := 6) dX10_init_217 ((xsh_at 14 hP rfl).trans rfl) rfl (by decide) (by decide) ?_
  refine x_dup (pc := 218) dX10_init_218 rfl ?_
  refine x_bipushN (pc := 219) 7 dX10_init_219 bp_7 ?_
  refine x_bipushN (pc := 221) 100 dX10_init_221 bp_100 ?_
  refine x_iastN (pc := 223) (n := 12) (j := 7) dX10_init_223 ((xsh_at 14 hP rfl).trans rfl) rfl (by decide) (by decide) ?_
  refine x_dup (pc := 224) dX10_init_224 rfl ?_
  refine x_bipushN (pc := 225) 8 dX10_init_225 bp_8 ?_
  refine x_bipushN (pc := 227) 98 dX10_init_227 bp_98 ?_
  refine x_iastN (pc := 229) (n := 12) (j := 8) dX10_init_229 ((xsh_at 14 hP rfl).trans rfl) rfl (by decide) (by decide) ?_
  refine x_dup (pc := 230) dX10_init_230 rfl ?_
  refine x_bipushN (pc := 231) 9 dX10_init_231 bp_9 ?_
  refine x_bipushN (pc := 233) 97 dX10_init_233 bp_97 ?_
  refine x_iastN (pc := 235) (n := 12) (j := 9) dX10_init_235 ((xsh_at 14 hP rfl).trans rfl) rfl (by decide) (by decide) ?_
  refine x_dup (pc := 236) dX10_init_236 rfl ?_
  refine x_bipushN (pc := 237) 10 dX10_init_237 bp_10 ?_
  refine x_bipushN (pc := 239) 108 dX10_init_239 bp_108 ?_
  refine x_iastN (pc := 241) (n := 12) (j := 10) dX10_init_241 ((xsh_at 14 hP rfl).trans rfl) rfl (by decide) (by decide) ?_
  refine x_dup (pc := 242) dX10_init_242 rfl ?_
  refine x_bipushN (pc := 243) 11 dX10_init_243 bp_11 ?_
  refine x_bipushN (pc := 245) 100 dX10_init_245 bp_100 ?_
  refine x_iastN (pc := 247) (n := 12) (j := 11) dX10_init_247 ((xsh_at 14 hP rfl).trans rfl) rfl (by decide) (by decide) ?_
  refine x_putRH (pc := 248) hP dX10_init_248 flX10_89 (by decide) rfl rfl (by decide) rfl rfl rfl ?_
  refine x_aload_n (pc := 251) dX10_init_251 rfl ?_
  refine x_bipushN (pc := 252) 100 dX10_init_252 bp_100 ?_
  refine x_newaH (pc := 254) (t := 2) (k := 100) (n := 81) (by simp [hP]) dX10_init_254 rfl (by decide) ac_boolean rfl (by decide) (by decide) (by decide) ?_
  refine x_putRH (pc := 256) hP dX10_init_256 flX10_92 (by decide) rfl rfl (by decide) rfl rfl rfl ?_
  refine x_aload_n (pc := 259) dX10_init_259 rfl ?_
  refine x_bipushN (pc := 260) 16 dX10_init_260 bp_16 ?_
  refine x_newaH (pc := 262) (t := 0) (k := 16) (n := 82) (by simp [hP]) dX10_init_262 rfl (by decide) ac_int rfl (by decide) (by decide) (by decide) ?_
  refine x_putRH (pc := 264) hP dX10_init_264 flX10_96 (by decide) rfl rfl (by decide) rfl rfl rfl ?_
  refine x_aload_n (pc := 267) dX10_init_267 rfl ?_
  refine x_bipushN (pc := 268) 16 dX10_init_268 bp_16 ?_
  refine x_newaH (pc := 270) (t := 0) (k := 16) (n := 83) (by simp [hP]) dX10_init_270 rfl (by decide) ac_int rfl (by decide) (by decide) (by decide) ?_
  refine x_putRH (pc := 272) hP dX10_init_272 flX10_99 (by decide) rfl rfl (by decide) rfl rfl rfl ?_
  refine x_aload_n (pc := 275) dX10_init_275 rfl ?_
  refine x_bipushN (pc := 276) 16 dX10_init_276 bp_16 ?_
  refine x_newaH (pc := 278) (t := 0) (k := 16) (n := 84) (by simp [hP]) dX10_init_278 rfl (by decide) ac_int rfl (by decide) (by decide) (by decide) ?_
  refine x_putRH (pc := 280) hP dX10_init_280 flX10_102 (by decide) rfl rfl (by decide) rfl rfl rfl ?_
  refine x_aload_n (pc := 283) dX10_init_283 rfl ?_
  refine x_iconstN (pc := 284) 0 dX10_init_284 ic_0 ?_
  refine x_putIH (pc := 285) hP dX10_init_285 flX10_105 rfl rfl rfl ?_
  refine x_aload_n (pc := 288) dX10_init_288 rfl ?_
  refine x_sipushN (pc := 289) 384 dX10_init_289 sp_384 ?_
  refine x_newaH (pc := 292) (t := 0) (k := 384) (n := 85) (by simp [hP]) dX10_init_292 rfl (by decide) ac_int rfl (by decide) (by decide) (by decide) ?_
  refine x_putRH (pc := 294) hP dX10_init_294 flX10_108 (by decide) rfl rfl (by decide) rfl rfl rfl ?_
  refine x_aload_n (pc := 297) dX10_init_297 rfl ?_
  refine x_sipushN (pc := 298) 9999 dX10_init_298 sp_9999 ?_
  refine x_putIH (pc := 301) hP dX10_init_301 flX10_111 rfl rfl rfl ?_
  refine x_aload_n (pc := 304) dX10_init_304 rfl ?_
  refine x_iconstN (pc := 305) 0 dX10_init_305 ic_0 ?_
  refine x_putIH (pc := 306) hP dX10_init_306 flX10_114 rfl rfl rfl ?_
  refine x_aload_n (pc := 309) dX10_init_309 rfl ?_
  refine x_iconstN (pc := 310) 0 dX10_init_310 ic_0 ?_
  refine x_putIH (pc := 311) hP dX10_init_311 flX10_117 rfl rfl rfl ?_
  refine x_aload_n (pc := 314) dX10_init_314 rfl ?_
  refine x_iconstN (pc := 315) 0 dX10_init_315 ic_0 ?_
  refine x_putIH (pc := 316) hP dX10_init_316 flX10_120 rfl rfl rfl ?_
  refine x_aload_n (pc := 319) dX10_init_319 rfl ?_
  refine x_bipushN (pc := 320) 16 dX10_init_320 bp_16 ?_
  refine x_newaH (pc := 322) (t := 0) (k := 16) (n := 86) (by simp [hP]) dX10_init_322 rfl (by decide) ac_int rfl (by decide) (by decide) (by decide) ?_
  refine x_putRH (pc := 324) hP dX10_init_324 flX10_123 (by decide) rfl rfl (by decide) rfl rfl rfl ?_
  refine x_aload_n (pc := 327) dX10_init_327 rfl ?_
  refine x_bipushN (pc := 328) 16 dX10_init_328 bp_16 ?_
  refine x_newaH (pc := 330) (t := 0) (k := 16) (n := 87) (by simp [hP]) dX10_init_330 rfl (by decide) ac_int rfl (by decide) (by decide) (by decide) ?_
  refine x_putRH (pc := 332) hP dX10_init_332 flX10_126 (by decide) rfl rfl (by decide) rfl rfl rfl ?_
  refine x_aload_n (pc := 335) dX10_init_335 rfl ?_
  refine x_iconstN (pc := 336) 0 dX10_init_336 ic_0 ?_
  refine x_putIH (pc := 337) hP dX10_init_337 flX10_129 rfl rfl rfl ?_
  refine x_aload_n (pc := 340) dX10_init_340 rfl ?_
  refine x_iconstN (pc := 341) 5 dX10_init_341 ic_5 ?_
  refine x_newaH (pc := 342) (t := 0) (k := 5) (n := 88) (by simp [hP]) dX10_init_342 rfl (by decide) ac_int rfl (by decide) (by decide) (by decide) ?_
  refine x_putRH (pc := 344) hP dX10_init_344 flX10_132 (by decide) rfl rfl (by decide) rfl rfl rfl ?_
  refine x_aload_n (pc := 347) dX10_init_347 rfl ?_
  refine x_iconstN (pc := 348) 5 dX10_init_348 ic_5 ?_
  refine x_newaH (pc := 349) (t := 0) (k := 5) (n := 89) (by simp [hP]) dX10_init_349 rfl (by decide) ac_int rfl (by decide) (by decide) (by decide) ?_
  refine x_putRH (pc := 351) hP dX10_init_351 flX10_135 (by decide) rfl rfl (by decide) rfl rfl rfl ?_
  refine x_aload_n (pc := 354) dX10_init_354 rfl ?_
  refine x_iconstN (pc := 355) 5 dX10_init_355 ic_5 ?_
  refine x_newaH (pc := 356) (t := 0) (k := 5) (n := 90) (by simp [hP]) dX10_init_356 rfl (by decide) ac_int rfl (by decide) (by decide) (by decide) ?_
  refine x_putRH (pc := 358) hP dX10_init_358 flX10_138 (by decide) rfl rfl (by decide) rfl rfl rfl ?_
  refine x_aload_n (pc := 361) dX10_init_361 rfl ?_
  refine x_iconstN (pc := 362) 0 dX10_init_362 ic_0 ?_
  refine x_putIH (pc := 363) hP dX10_init_363 flX10_141 rfl rfl rfl ?_
  refine x_aload_n (pc := 366) dX10_init_366 rfl ?_
  refine x_iconstN (pc := 367) 0 dX10_init_367 ic_0 ?_
  refine x_putIH (pc := 368) hP dX10_init_368 flX10_144 rfl rfl rfl ?_
  refine x_aload_n (pc := 371) dX10_init_371 rfl ?_
  refine x_bipushN (pc := 372) 10 dX10_init_372 bp_10 ?_
  refine x_newaH (pc := 374) (t := 0) (k := 10) (n := 91) (by simp [hP]) dX10_init_374 rfl (by decide) ac_int rfl (by decide) (by decide) (by decide) ?_
  refine x_putRH (pc := 376) hP dX10_init_376 flX10_147 (by decide) rfl rfl (by decide) rfl rfl rfl ?_
  refine x_aload_n (pc := 379) dX10_init_379 rfl ?_
  refine x_bipushN (pc := 380) 10 dX10_init_380 bp_10 ?_
  refine x_newaH (pc := 382) (t := 0) (k := 10) (n := 92) (by simp [hP]) dX10_init_382 rfl (by decide) ac_int rfl (by decide) (by decide) (by decide) ?_
  refine x_putRH (pc := 384) hP dX10_init_384 flX10_150 (by decide) rfl rfl (by decide) rfl rfl rfl ?_
  refine x_aload_n (pc := 387) dX10_init_387 rfl ?_
  refine x_bipushN (pc := 388) 8 dX10_init_388 bp_8 ?_
  refine x_newaH (pc := 390) (t := 0) (k := 8) (n := 93) (by simp [hP]) dX10_init_390 rfl (by decide) ac_int rfl (by decide) (by decide) (by decide) ?_
  refine x_putRH (pc := 392) hP dX10_init_392 flX10_153 (by decide) rfl rfl (by decide) rfl rfl rfl ?_
  refine x_aload_n (pc := 395) dX10_init_395 rfl ?_
  refine x_bipushN (pc := 396) 8 dX10_init_396 bp_8 ?_
  refine x_newaH (pc := 398) (t := 0) (k := 8) (n := 94) (by simp [hP]) dX10_init_398 rfl (by decide) ac_int rfl (by decide) (by decide) (by decide) ?_
  refine x_putRH (pc := 400) hP dX10_init_400 flX10_156 (by decide) rfl rfl (by decide) rfl rfl rfl ?_
  refine x_aload_n (pc := 403) dX10_init_403 rfl ?_
  refine x_iconstN (pc := 404) 0 dX10_init_404 ic_0 ?_
  refine x_putIH (pc := 405) hP dX10_init_405 flX10_159 rfl (by first | rfl | decide) (by first | rfl | decide) ?_
  refine x_aload_n (pc := 408) dX10_init_408 rfl ?_
  refine x_iconst (pc := 409) dX10_init_409 ic_m1 ?_
  refine x_putIH (pc := 410) hP dX10_init_410 flX10_163 rfl rfl rfl ?_
  refine x_aload_n (pc := 413) dX10_init_413 rfl ?_
  refine x_iconstN (pc := 414) 0 dX10_init_414 ic_0 ?_
  refine x_putIH (pc := 415) hP dX10_init_415 flX10_166 rfl rfl rfl ?_
  refine x_aload_n (pc := 418) dX10_init_418 rfl ?_
  refine x_iconstN (pc := 419) 0 dX10_init_419 ic_0 ?_
  refine x_putIH (pc := 420) hP dX10_init_420 flX10_169 rfl rfl rfl ?_
  refine x_aload_n (pc := 423) dX10_init_423 rfl ?_
  refine x_iconstN (pc := 424) 0 dX10_init_424 ic_0 ?_
  refine x_putIH (pc := 425) hP dX10_init_425 flX10_172 rfl rfl rfl ?_
  refine x_aload_n (pc := 428) dX10_init_428 rfl ?_
  refine x_iconstN (pc := 429) 0 dX10_init_429 ic_0 ?_
  refine x_putIH (pc := 430) hP dX10_init_430 flX10_175 rfl rfl rfl ?_
  refine x_aload_n (pc := 433) dX10_init_433 rfl ?_
  refine x_iconstN (pc := 434) 0 dX10_init_434 ic_0 ?_
  refine x_putIH (pc := 435) hP dX10_init_435 flX10_178 rfl rfl rfl ?_
  refine x_aload_n (pc := 438) dX10_init_438 rfl ?_
  refine x_iconstN (pc := 439) 0 dX10_init_439 ic_0 ?_
  refine x_putIH (pc := 440) hP dX10_init_440 flX10_181 rfl rfl rfl ?_
  refine x_aload_n (pc := 443) dX10_init_443 rfl ?_
  refine x_iconstN (pc := 444) 0 dX10_init_444 ic_0 ?_
  refine x_putIH (pc := 445) hP dX10_init_445 flX10_184 rfl rfl rfl ?_
  refine x_aload_n (pc := 448) dX10_init_448 rfl ?_
  refine x_bipushN (pc := 449) 16 dX10_init_449 bp_16 ?_
  refine x_newaH (pc := 451) (t := 0) (k := 16) (n := 95) (by simp [hP]) dX10_init_451 rfl (by decide) ac_int rfl (by decide) (by decide) (by decide) ?_
  refine x_putRH (pc := 453) hP dX10_init_453 flX10_187 (by decide) rfl rfl (by decide) rfl rfl rfl ?_
  refine x_aload_n (pc := 456) dX10_init_456 rfl ?_
  refine x_bipushN (pc := 457) 6 dX10_init_457 bp_6 ?_
  refine x_newaH (pc := 459) (t := 0) (k := 6) (n := 96) (by simp [hP]) dX10_init_459 rfl (by decide) ac_int rfl (by decide) (by decide) (by decide) ?_
  refine x_putRH (pc := 461) hP dX10_init_461 flX10_190 (by decide) rfl rfl (by decide) rfl rfl rfl ?_
  refine x_aload_n (pc := 464) dX10_init_464 rfl ?_
  refine x_bipushN (pc := 465) 6 dX10_init_465 bp_6 ?_
  refine x_newaH (pc := 467) (t := 0) (k := 6) (n := 97) (by simp [hP]) dX10_init_467 rfl (by decide) ac_int rfl (by decide) (by decide) (by decide) ?_
  refine x_putRH (pc := 469) hP dX10_init_469 flX10_193 (by decide) rfl rfl (by decide) rfl rfl rfl ?_
  refine x_aload_n (pc := 472) dX10_init_472 rfl ?_
  refine x_bipushN (pc := 473) 6 dX10_init_473 bp_6 ?_
  refine x_newaH (pc := 475) (t := 0) (k := 6) (n := 98) (by simp [hP]) dX10_init_475 rfl (by decide) ac_int rfl (by decide) (by decide) (by decide) ?_
  refine x_putRH (pc := 477) hP dX10_init_477 flX10_196 (by decide) rfl rfl (by decide) rfl rfl rfl ?_
  refine x_aload_n (pc := 480) dX10_init_480 rfl ?_
  refine x_bipushN (pc := 481) 6 dX10_init_481 bp_6 ?_
  refine x_newaH (pc := 483) (t := 0) (k := 6) (n := 99) (by simp [hP]) dX10_init_483 rfl (by decide) ac_int rfl (by decide) (by decide) (by decide) ?_
  refine x_putRH (pc := 485) hP dX10_init_485 flX10_199 (by decide) rfl rfl (by decide) rfl rfl rfl ?_
  refine x_aload_n (pc := 488) dX10_init_488 rfl ?_
  refine x_bipushN (pc := 489) 24 dX10_init_489 bp_24 ?_
  refine x_newaH (pc := 491) (t := 0) (k := 24) (n := 100) (by simp [hP]) dX10_init_491 rfl (by decide) ac_int rfl (by decide) (by decide) (by decide) ?_
  refine x_putRH (pc := 493) hP dX10_init_493 flX10_202 (by decide) rfl rfl (by decide) rfl rfl rfl ?_
  refine x_aload_n (pc := 496) dX10_init_496 rfl ?_
  refine x_iconstN (pc := 497) 5 dX10_init_497 ic_5 ?_
  refine x_newaH (pc := 498) (t := 0) (k := 5) (n := 101) (by simp [hP]) dX10_init_498 rfl (by decide) ac_int rfl (by decide) (by decide) (by decide) ?_
  refine x_putRH (pc := 500) hP dX10_init_500 flX10_205 (by decide) rfl rfl (by decide) rfl rfl rfl ?_
  refine x_aload_n (pc := 503) dX10_init_503 rfl ?_
  refine x_iconstN (pc := 504) 5 dX10_init_504 ic_5 ?_
  refine x_newaH (pc := 505) (t := 0) (k := 5) (n := 102) (by simp [hP]) dX10_init_505 rfl (by decide) ac_int rfl (by decide) (by decide) (by decide) ?_
  refine x_putRH (pc := 507) hP dX10_init_507 flX10_208 (by decide) rfl rfl (by decide) rfl rfl rfl ?_
  refine x_aload_n (pc := 510) dX10_init_510 rfl ?_
  refine x_iconstN (pc := 511) 5 dX10_init_511 ic_5 ?_
  refine x_newaH (pc := 512) (t := 0) (k := 5) (n := 103) (by simp [hP]) dX10_init_512 rfl (by decide) ac_int rfl (by decide) (by decide) (by decide) ?_
  refine x_putRH (pc := 514) hP dX10_init_514 flX10_211 (by decide) rfl rfl (by decide) rfl rfl rfl ?_
  refine x_aload_n (pc := 517) dX10_init_517 rfl ?_
  refine x_bipushN (pc := 518) 10 dX10_init_518 bp_10 ?_
  refine x_newaH (pc := 520) (t := 0) (k := 10) (n := 104) (by simp [hP]) dX10_init_520 rfl (by decide) ac_int rfl (by decide) (by decide) (by decide) ?_
  refine x_putRH (pc := 522) hP dX10_init_522 flX10_214 (by decide) rfl rfl (by decide) rfl rfl rfl ?_
  refine x_aload_n (pc := 525) dX10_init_525 rfl ?_
  refine x_bipushN (pc := 526) 10 dX10_init_526 bp_10 ?_
  refine x_newaH (pc := 528) (t := 0) (k := 10) (n := 105) (by simp [hP]) dX10_init_528 rfl (by decide) ac_int rfl (by decide) (by decide) (by decide) ?_
  refine x_putRH (pc := 530) hP dX10_init_530 flX10_217 (by decide) rfl rfl (by decide) rfl rfl rfl ?_
  refine x_aload_n (pc := 533) dX10_init_533 rfl ?_
  refine x_bipushN (pc := 534) 8 dX10_init_534 bp_8 ?_
  refine x_newaH (pc := 536) (t := 0) (k := 8) (n := 106) (by simp [hP]) dX10_init_536 rfl (by decide) ac_int rfl (by decide) (by decide) (by decide) ?_
  refine x_putRH (pc := 538) hP dX10_init_538 flX10_220 (by decide) rfl rfl (by decide) rfl rfl rfl ?_
  refine x_aload_n (pc := 541) dX10_init_541 rfl ?_
  refine x_bipushN (pc := 542) 8 dX10_init_542 bp_8 ?_
  refine x_newaH (pc := 544) (t := 0) (k := 8) (n := 107) (by simp [hP]) dX10_init_544 rfl (by decide) ac_int rfl (by decide) (by decide) (by decide) ?_
  refine x_putRH (pc := 546) hP dX10_init_546 flX10_223 (by decide) rfl rfl (by decide) rfl rfl rfl ?_
  refine x_aload_n (pc := 549) dX10_init_549 rfl ?_
  refine x_iconstN (pc := 550) 0 dX10_init_550 ic_0 ?_
  refine x_putIH (pc := 551) hP dX10_init_551 flX10_226 rfl rfl rfl ?_
  refine x_aload_n (pc := 554) dX10_init_554 rfl ?_
  refine x_bipushN (pc := 555) 20 dX10_init_555 bp_20 ?_
  refine x_newaH (pc := 557) (t := 0) (k := 20) (n := 108) (by simp [hP]) dX10_init_557 rfl (by decide) ac_int rfl (by decide) (by decide) (by decide) ?_
  refine x_putRH (pc := 559) hP dX10_init_559 flX10_229 (by decide) rfl rfl (by decide) rfl rfl rfl ?_
  refine x_aload_n (pc := 562) dX10_init_562 rfl ?_
  refine x_bipushN (pc := 563) 6 dX10_init_563 bp_6 ?_
  refine x_newaH (pc := 565) (t := 0) (k := 6) (n := 109) (by simp [hP]) dX10_init_565 rfl (by decide) ac_int rfl (by decide) (by decide) (by decide) ?_
  refine x_dup (pc := 567) dX10_init_567 rfl ?_
  refine x_iconstN (pc := 568) 0 dX10_init_568 ic_0 ?_
  refine x_iconst (pc := 569) dX10_init_569 ic_m1 ?_
  refine x_iastN (pc := 570) (n := 6) (j := 0) dX10_init_570 ((xsh_at 43 hP rfl).trans rfl) rfl (by decide) (by decide) ?_
  refine x_dup (pc := 571) dX10_init_571 rfl ?_
  refine x_iconstN (pc := 572) 1 dX10_init_572 ic_1 ?_
  refine x_iconst (pc := 573) dX10_init_573 ic_m1 ?_
  refine x_iastN (pc := 574) (n := 6) (j := 1) dX10_init_574 ((xsh_at 43 hP rfl).trans rfl) rfl (by decide) (by decide) ?_
  refine x_dup (pc := 575) dX10_init_575 rfl ?_
  refine x_iconstN (pc := 576) 2 dX10_init_576 ic_2 ?_
  refine x_iconst (pc := 577) dX10_init_577 ic_m1 ?_
  refine x_iastN (pc := 578) (n := 6) (j := 2) dX10_init_578 ((xsh_at 43 hP rfl).trans rfl) rfl (by decide) (by decide) ?_
  refine x_dup (pc := 579) dX10_init_579 rfl ?_
  refine x_iconstN (pc := 580) 3 dX10_init_580 ic_3 ?_
  refine x_iconst (pc := 581) dX10_init_581 ic_m1 ?_
  refine x_iastN (pc := 582) (n := 6) (j := 3) dX10_init_582 ((xsh_at 43 hP rfl).trans rfl) rfl (by decide) (by decide) ?_
  refine x_dup (pc := 583) dX10_init_583 rfl ?_
  refine x_iconstN (pc := 584) 4 dX10_init_584 ic_4 ?_
  refine x_iconst (pc := 585) dX10_init_585 ic_m1 ?_
  refine x_iastN (pc := 586) (n := 6) (j := 4) dX10_init_586 ((xsh_at 43 hP rfl).trans rfl) rfl (by decide) (by decide) ?_
  refine x_dup (pc := 587) dX10_init_587 rfl ?_
  refine x_iconstN (pc := 588) 5 dX10_init_588 ic_5 ?_
  refine x_iconst (pc := 589) dX10_init_589 ic_m1 ?_
  refine x_iastN (pc := 590) (n := 6) (j := 5) dX10_init_590 ((xsh_at 43 hP rfl).trans rfl) rfl (by decide) (by decide) ?_
  refine x_putRH (pc := 591) hP dX10_init_591 flX10_232 (by decide) rfl rfl (by decide) rfl rfl rfl ?_
  refine x_aload_n (pc := 594) dX10_init_594 rfl ?_
  refine x_bipushN (pc := 595) 6 dX10_init_595 bp_6 ?_
  refine x_newaH (pc := 597) (t := 0) (k := 6) (n := 110) (by simp [hP]) dX10_init_597 rfl (by decide) ac_int rfl (by decide) (by decide) (by decide) ?_
  refine x_putRH (pc := 599) hP dX10_init_599 flX10_235 (by decide) rfl rfl (by decide) rfl rfl rfl ?_
  refine x_aload_n (pc := 602) dX10_init_602 rfl ?_
  refine x_sipushN (pc := 603) 360 dX10_init_603 sp_360 ?_
  refine x_newaH (pc := 606) (t := 3) (k := 360) (n := 111) (by simp [hP]) dX10_init_606 rfl (by decide) ac_long rfl (by decide) (by decide) (by decide) ?_
  refine x_putRH (pc := 608) hP dX10_init_608 flX10_238 (by decide) rfl rfl (by decide) rfl rfl rfl ?_
  refine x_aload_n (pc := 611) dX10_init_611 rfl ?_
  refine x_bipushN (pc := 612) 60 dX10_init_612 bp_60 ?_
  refine x_newaH (pc := 614) (t := 3) (k := 60) (n := 112) (by simp [hP]) dX10_init_614 rfl (by decide) ac_long rfl (by decide) (by decide) (by decide) ?_
  refine x_putRH (pc := 616) hP dX10_init_616 flX10_242 (by decide) rfl rfl (by decide) rfl rfl rfl ?_
  refine x_ret (pc := 619) (v := none) rfl trivial dX10_init_619 (by decide) ?_
  exact hK
end P9F
