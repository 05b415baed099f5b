/-! the MODEL's image: rows copied -/
def cpL (L : List (Nat × Nat)) (n : Nat) (M : XM) : XM := (fun a j => if j < n then (match L.lookup a with | some s => M.1 s j | none => M.1 a j) else M.1 a j, M.2)
theorem wp_mem {g : XG} {d : Nat} {m : XMe} {pc : Nat} {ls : XL} {st : List Value} {S : XS} {B : Nat × Nat} {M1 M2 : XM} {K : Option Value → XS → XM → Prop} (e : M1 = M2) (h : Wp g d m pc ls st S B M1 K) : Wp g d m pc ls st S B M2 K := e ▸ h
theorem cpL_0 {L : List (Nat × Nat)} {M : XM} : cpL L 0 M = M := by
  refine Prod.ext (funext fun a => funext fun j => ?_) rfl
  simp [cpL]
theorem cpL_src {L : List (Nat × Nat)} {k a : Nat} {M : XM} : (cpL L k M).1 a k = M.1 a k := if_neg (Nat.lt_irrefl k)
theorem cpL_no {L : List (Nat × Nat)} {n a : Nat} {M : XM} (h : L.lookup a = none) : (cpL L n M).1 a = M.1 a := by
  funext j
  show (if j < n then (match L.lookup a with | some s => M.1 s j | none => M.1 a j) else M.1 a j) = _
  rw [h]; simp
theorem cpL_in {L : List (Nat × Nat)} {n a s j : Nat} {M : XM} (h : L.lookup a = some s) (hj : j < n) : (cpL L n M).1 a j = M.1 s j := by
  show (if j < n then (match L.lookup a with | some s => M.1 s j | none => M.1 a j) else M.1 a j) = _
  rw [h, if_pos hj]
section P67
variable {g : XG} {d : Nat} {M : XM} {K : Option Value → XS → XM → Prop} {s : XSt}
theorem cp_X10_image_0 (h : Wp g d mX10_image 95 [some (.ref 65), some (.int (nI 16))] [] xSF (0, 0) (cpL [(95, 66)] 16 M) K) : ∀ m k, k + m = 16 → Wp g d mX10_image 71 [some (.ref 65), some (.int (nI k))] [] xSF (0, 0) (cpL [(95, 66)] k M) K := by
  intro m
  induction m with
  | zero =>
    intro k hk
    obtain rfl : k = 16 := by omega
    refine x_iload_n (pc := 71) dX10_image_71 rfl ?_
    refine x_bipushN (pc := 72) 16 dX10_image_72 bp_16 ?_
    first | (guard_target =~ Wp _ _ _ _ _ (Value.int (nI _) :: Value.int (nI _) :: _) _ _ _ _; with_reducible refine x_icmp_geN (pc := 74) (tgt := 95) ?_ ?_ dX10_image_74 ?_ (fun h74 => ?_) (fun h74 => ?_); (first | omega | exact b2n_31 _); (first | omega | exact b2n_31 _); decide) | refine x_icmp_ge (pc := 74) (tgt := 95) dX10_image_74 (by decide) (fun h74 => ?_) (fun h74 => ?_)
    · skip
      exact h
    · skip
      omega
  | succ m ih =>
    intro k hk
    refine x_iload_n (pc := 71) dX10_image_71 rfl ?_
    refine x_bipushN (pc := 72) 16 dX10_image_72 bp_16 ?_
    first | (guard_target =~ Wp _ _ _ _ _ (Value.int (nI _) :: Value.int (nI _) :: _) _ _ _ _; with_reducible refine x_icmp_geN (pc := 74) (tgt := 95) ?_ ?_ dX10_image_74 ?_ (fun h74 => ?_) (fun h74 => ?_); (first | omega | exact b2n_31 _); (first | omega | exact b2n_31 _); decide) | refine x_icmp_ge (pc := 74) (tgt := 95) dX10_image_74 (by decide) (fun h74 => ?_) (fun h74 => ?_)
    · skip
      omega
    · skip
      refine x_aload_n (pc := 77) dX10_image_77 rfl ?_
      refine x_getR (pc := 78) dX10_image_78 flX10_187 (by first | assumption | rfl) rfl ?_
      refine x_iload_n (pc := 81) dX10_image_81 rfl ?_
      refine x_aload_n (pc := 82) dX10_image_82 rfl ?_
      refine x_getR (pc := 83) dX10_image_83 flX10_22 (by first | assumption | rfl) rfl ?_
      refine x_iload_n (pc := 86) dX10_image_86 rfl ?_
      refine x_ialdN (pc := 87) dX10_image_87 (by first | assumption | rfl) (by first | with_reducible rfl | (simp only [xlit, nI_add, pk_mul]; with_reducible rfl)) (by omega) (by decide) ?_
      refine x_iastN (pc := 88) dX10_image_88 (by first | assumption | rfl) (by first | with_reducible rfl | (simp only [xlit, nI_add, pk_mul]; with_reducible rfl)) (by omega) (by decide) ?_
      first | (guard_target =~ Wp _ _ _ _ (_ :: some (Value.int (nI _)) :: _) _ _ _ _ _; with_reducible refine x_iincN (pc := 89) 1 ic_1 dX10_image_89 ?_ xg_1 xs_1 ?_ ?_; decide; exact (x_hp rfl)) | refine x_iincC (pc := 89) ic_1 dX10_image_89 (by decide) rfl xs_1 (x_hp rfl) ?_
      refine x_goto (pc := 92) (tgt := 71) dX10_image_92 (by decide) ?_
      refine wp_mem ?_ (ih (k + 1) (by omega))
      refine Prod.ext (funext fun a => funext fun j => ?_) rfl
      by_cases hj : j = k
      · subst hj
        by_cases a0 : a = 95
        · subst a0; simp [cpL, xput, List.lookup]
        simp [cpL, xput, List.lookup, a0, show (a == 95) = false from beq_false_of_ne a0]
      · have e : (j < k + 1) ↔ (j < k) := by omega
        simp [cpL, xput, hj, e]
theorem cp_X10_image_1 (h : Wp g d mX10_image 157 [some (.ref 65), some (.int (nI 6))] [] xSF (0, 0) (cpL [(96, 67), (97, 68), (98, 69), (99, 70)] 6 M) K) : ∀ m k, k + m = 6 → Wp g d mX10_image 97 [some (.ref 65), some (.int (nI k))] [] xSF (0, 0) (cpL [(96, 67), (97, 68), (98, 69), (99, 70)] k M) K := by
  intro m
  induction m with
  | zero =>
    intro k hk
    obtain rfl : k = 6 := by omega
    refine x_iload_n (pc := 97) dX10_image_97 rfl ?_
    refine x_bipushN (pc := 98) 6 dX10_image_98 bp_6 ?_
    first | (guard_target =~ Wp _ _ _ _ _ (Value.int (nI _) :: Value.int (nI _) :: _) _ _ _ _; with_reducible refine x_icmp_geN (pc := 100) (tgt := 157) ?_ ?_ dX10_image_100 ?_ (fun h100 => ?_) (fun h100 => ?_); (first | omega | exact b2n_31 _); (first | omega | exact b2n_31 _); decide) | refine x_icmp_ge (pc := 100) (tgt := 157) dX10_image_100 (by decide) (fun h100 => ?_) (fun h100 => ?_)
    · skip
      exact h
    · skip
      omega
  | succ m ih =>
    intro k hk
    refine x_iload_n (pc := 97) dX10_image_97 rfl ?_
    refine x_bipushN (pc := 98) 6 dX10_image_98 bp_6 ?_
    first | (guard_target =~ Wp _ _ _ _ _ (Value.int (nI _) :: Value.int (nI _) :: _) _ _ _ _; with_reducible refine x_icmp_geN (pc := 100) (tgt := 157) ?_ ?_ dX10_image_100 ?_ (fun h100 => ?_) (fun h100 => ?_); (first | omega | exact b2n_31 _); (first | omega | exact b2n_31 _); decide) | refine x_icmp_ge (pc := 100) (tgt := 157) dX10_image_100 (by decide) (fun h100 => ?_) (fun h100 => ?_)
    · skip
      omega
    · skip
      refine x_aload_n (pc := 103) dX10_image_103 rfl ?_
      refine x_getR (pc := 104) dX10_image_104 flX10_190 (by first | assumption | rfl) rfl ?_
      refine x_iload_n (pc := 107) dX10_image_107 rfl ?_
      refine x_aload_n (pc := 108) dX10_image_108 rfl ?_
      refine x_getR (pc := 109) dX10_image_109 flX10_26 (by first | assumption | rfl) rfl ?_
      refine x_iload_n (pc := 112) dX10_image_112 rfl ?_
      refine x_ialdN (pc := 113) dX10_image_113 (by first | assumption | rfl) (by first | with_reducible rfl | (simp only [xlit, nI_add, pk_mul]; with_reducible rfl)) (by omega) (by decide) ?_
      refine x_iastN (pc := 114) dX10_image_114 (by first | assumption | rfl) (by first | with_reducible rfl | (simp only [xlit, nI_add, pk_mul]; with_reducible rfl)) (by omega) (by decide) ?_
      refine x_aload_n (pc := 115) dX10_image_115 rfl ?_
      refine x_getR (pc := 116) dX10_image_116 flX10_193 (by first | assumption | rfl) rfl ?_
      refine x_iload_n (pc := 119) dX10_image_119 rfl ?_
      refine x_aload_n (pc := 120) dX10_image_120 rfl ?_
      refine x_getR (pc := 121) dX10_image_121 flX10_29 (by first | assumption | rfl) rfl ?_
      refine x_iload_n (pc := 124) dX10_image_124 rfl ?_
      refine x_ialdN (pc := 125) dX10_image_125 (by first | assumption | rfl) (by first | with_reducible rfl | (simp only [xlit, nI_add, pk_mul]; with_reducible rfl)) (by omega) (by decide) ?_
      refine x_iastN (pc := 126) dX10_image_126 (by first | assumption | rfl) (by first | with_reducible rfl | (simp only [xlit, nI_add, pk_mul]; with_reducible rfl)) (by omega) (by decide) ?_
      refine x_aload_n (pc := 127) dX10_image_127 rfl ?_
      refine x_getR (pc := 128) dX10_image_128 flX10_196 (by first | assumption | rfl) rfl ?_
      refine x_iload_n (pc := 131) dX10_image_131 rfl ?_
      refine x_aload_n (pc := 132) dX10_image_132 rfl ?_
      refine x_getR (pc := 133) dX10_image_133 flX10_32 (by first | assumption | rfl) rfl ?_
      refine x_iload_n (pc := 136) dX10_image_136 rfl ?_
      refine x_ialdN (pc := 137) dX10_image_137 (by first | assumption | rfl) (by first | with_reducible rfl | (simp only [xlit, nI_add, pk_mul]; with_reducible rfl)) (by omega) (by decide) ?_
      refine x_iastN (pc := 138) dX10_image_138 (by first | assumption | rfl) (by first | with_reducible rfl | (simp only [xlit, nI_add, pk_mul]; with_reducible rfl)) (by omega) (by decide) ?_
      refine x_aload_n (pc := 139) dX10_image_139 rfl ?_
      refine x_getR (pc := 140) dX10_image_140 flX10_199 (by first | assumption | rfl) rfl ?_
      refine x_iload_n (pc := 143) dX10_image_143 rfl ?_
      refine x_aload_n (pc := 144) dX10_image_144 rfl ?_
      refine x_getR (pc := 145) dX10_image_145 flX10_35 (by first | assumption | rfl) rfl ?_
      refine x_iload_n (pc := 148) dX10_image_148 rfl ?_
      refine x_ialdN (pc := 149) dX10_image_149 (by first | assumption | rfl) (by first | with_reducible rfl | (simp only [xlit, nI_add, pk_mul]; with_reducible rfl)) (by omega) (by decide) ?_
      refine x_iastN (pc := 150) dX10_image_150 (by first | assumption | rfl) (by first | with_reducible rfl | (simp only [xlit, nI_add, pk_mul]; with_reducible rfl)) (by omega) (by decide) ?_
      first | (guard_target =~ Wp _ _ _ _ (_ :: some (Value.int (nI _)) :: _) _ _ _ _ _; with_reducible refine x_iincN (pc := 151) 1 ic_1 dX10_image_151 ?_ xg_1 xs_1 ?_ ?_; decide; exact (x_hp rfl)) | refine x_iincC (pc := 151) ic_1 dX10_image_151 (by decide) rfl xs_1 (x_hp rfl) ?_
      refine x_goto (pc := 154) (tgt := 97) dX10_image_154 (by decide) ?_
      refine wp_mem ?_ (ih (k + 1) (by omega))
      refine Prod.ext (funext fun a => funext fun j => ?_) rfl
      by_cases hj : j = k
      · subst hj
        by_cases a0 : a = 96
        · subst a0; simp [cpL, xput, List.lookup]
        by_cases a1 : a = 97
        · subst a1; simp [cpL, xput, List.lookup]
        by_cases a2 : a = 98
        · subst a2; simp [cpL, xput, List.lookup]
        by_cases a3 : a = 99
        · subst a3; simp [cpL, xput, List.lookup]
        simp [cpL, xput, List.lookup, a0, show (a == 96) = false from beq_false_of_ne a0, a1, show (a == 97) = false from beq_false_of_ne a1, a2, show (a == 98) = false from beq_false_of_ne a2, a3, show (a == 99) = false from beq_false_of_ne a3]
      · have e : (j < k + 1) ↔ (j < k) := by omega
        simp [cpL, xput, hj, e]
theorem cp_X10_image_2 (h : Wp g d mX10_image 183 [some (.ref 65), some (.int (nI 24))] [] xSF (0, 0) (cpL [(100, 71)] 24 M) K) : ∀ m k, k + m = 24 → Wp g d mX10_image 159 [some (.ref 65), some (.int (nI k))] [] xSF (0, 0) (cpL [(100, 71)] k M) K := by
  intro m
  induction m with
  | zero =>
    intro k hk
    obtain rfl : k = 24 := by omega
    refine x_iload_n (pc := 159) dX10_image_159 rfl ?_
    refine x_bipushN (pc := 160) 24 dX10_image_160 bp_24 ?_
    first | (guard_target =~ Wp _ _ _ _ _ (Value.int (nI _) :: Value.int (nI _) :: _) _ _ _ _; with_reducible refine x_icmp_geN (pc := 162) (tgt := 183) ?_ ?_ dX10_image_162 ?_ (fun h162 => ?_) (fun h162 => ?_); (first | omega | exact b2n_31 _); (first | omega | exact b2n_31 _); decide) | refine x_icmp_ge (pc := 162) (tgt := 183) dX10_image_162 (by decide) (fun h162 => ?_) (fun h162 => ?_)
    · skip
      exact h
    · skip
      omega
  | succ m ih =>
    intro k hk
    refine x_iload_n (pc := 159) dX10_image_159 rfl ?_
    refine x_bipushN (pc := 160) 24 dX10_image_160 bp_24 ?_
    first | (guard_target =~ Wp _ _ _ _ _ (Value.int (nI _) :: Value.int (nI _) :: _) _ _ _ _; with_reducible refine x_icmp_geN (pc := 162) (tgt := 183) ?_ ?_ dX10_image_162 ?_ (fun h162 => ?_) (fun h162 => ?_); (first | omega | exact b2n_31 _); (first | omega | exact b2n_31 _); decide) | refine x_icmp_ge (pc := 162) (tgt := 183) dX10_image_162 (by decide) (fun h162 => ?_) (fun h162 => ?_)
    · skip
      omega
    · skip
      refine x_aload_n (pc := 165) dX10_image_165 rfl ?_
      refine x_getR (pc := 166) dX10_image_166 flX10_202 (by first | assumption | rfl) rfl ?_
      refine x_iload_n (pc := 169) dX10_image_169 rfl ?_
      refine x_aload_n (pc := 170) dX10_image_170 rfl ?_
      refine x_getR (pc := 171) dX10_image_171 flX10_38 (by first | assumption | rfl) rfl ?_
      refine x_iload_n (pc := 174) dX10_image_174 rfl ?_
      refine x_ialdN (pc := 175) dX10_image_175 (by first | assumption | rfl) (by first | with_reducible rfl | (simp only [xlit, nI_add, pk_mul]; with_reducible rfl)) (by omega) (by decide) ?_
      refine x_iastN (pc := 176) dX10_image_176 (by first | assumption | rfl) (by first | with_reducible rfl | (simp only [xlit, nI_add, pk_mul]; with_reducible rfl)) (by omega) (by decide) ?_
      first | (guard_target =~ Wp _ _ _ _ (_ :: some (Value.int (nI _)) :: _) _ _ _ _ _; with_reducible refine x_iincN (pc := 177) 1 ic_1 dX10_image_177 ?_ xg_1 xs_1 ?_ ?_; decide; exact (x_hp rfl)) | refine x_iincC (pc := 177) ic_1 dX10_image_177 (by decide) rfl xs_1 (x_hp rfl) ?_
      refine x_goto (pc := 180) (tgt := 159) dX10_image_180 (by decide) ?_
      refine wp_mem ?_ (ih (k + 1) (by omega))
      refine Prod.ext (funext fun a => funext fun j => ?_) rfl
      by_cases hj : j = k
      · subst hj
        by_cases a0 : a = 100
        · subst a0; simp [cpL, xput, List.lookup]
        simp [cpL, xput, List.lookup, a0, show (a == 100) = false from beq_false_of_ne a0]
      · have e : (j < k + 1) ↔ (j < k) := by omega
        simp [cpL, xput, hj, e]
theorem cp_X10_image_3 (h : Wp g d mX10_image 232 [some (.ref 65), some (.int (nI 5))] [] xSF (0, 0) (cpL [(101, 88), (102, 89), (103, 90)] 5 M) K) : ∀ m k, k + m = 5 → Wp g d mX10_image 185 [some (.ref 65), some (.int (nI k))] [] xSF (0, 0) (cpL [(101, 88), (102, 89), (103, 90)] k M) K := by
  intro m
  induction m with
  | zero =>
    intro k hk
    obtain rfl : k = 5 := by omega
    refine x_iload_n (pc := 185) dX10_image_185 rfl ?_
    refine x_iconstN (pc := 186) 5 dX10_image_186 ic_5 ?_
    first | (guard_target =~ Wp _ _ _ _ _ (Value.int (nI _) :: Value.int (nI _) :: _) _ _ _ _; with_reducible refine x_icmp_geN (pc := 187) (tgt := 232) ?_ ?_ dX10_image_187 ?_ (fun h187 => ?_) (fun h187 => ?_); (first | omega | exact b2n_31 _); (first | omega | exact b2n_31 _); decide) | refine x_icmp_ge (pc := 187) (tgt := 232) dX10_image_187 (by decide) (fun h187 => ?_) (fun h187 => ?_)
    · skip
      exact h
    · skip
      omega
  | succ m ih =>
    intro k hk
    refine x_iload_n (pc := 185) dX10_image_185 rfl ?_
    refine x_iconstN (pc := 186) 5 dX10_image_186 ic_5 ?_
    first | (guard_target =~ Wp _ _ _ _ _ (Value.int (nI _) :: Value.int (nI _) :: _) _ _ _ _; with_reducible refine x_icmp_geN (pc := 187) (tgt := 232) ?_ ?_ dX10_image_187 ?_ (fun h187 => ?_) (fun h187 => ?_); (first | omega | exact b2n_31 _); (first | omega | exact b2n_31 _); decide) | refine x_icmp_ge (pc := 187) (tgt := 232) dX10_image_187 (by decide) (fun h187 => ?_) (fun h187 => ?_)
    · skip
      omega
    · skip
      refine x_aload_n (pc := 190) dX10_image_190 rfl ?_
      refine x_getR (pc := 191) dX10_image_191 flX10_205 (by first | assumption | rfl) rfl ?_
      refine x_iload_n (pc := 194) dX10_image_194 rfl ?_
      refine x_aload_n (pc := 195) dX10_image_195 rfl ?_
      refine x_getR (pc := 196) dX10_image_196 flX10_132 (by first | assumption | rfl) rfl ?_
      refine x_iload_n (pc := 199) dX10_image_199 rfl ?_
      refine x_ialdN (pc := 200) dX10_image_200 (by first | assumption | rfl) (by first | with_reducible rfl | (simp only [xlit, nI_add, pk_mul]; with_reducible rfl)) (by omega) (by decide) ?_
      refine x_iastN (pc := 201) dX10_image_201 (by first | assumption | rfl) (by first | with_reducible rfl | (simp only [xlit, nI_add, pk_mul]; with_reducible rfl)) (by omega) (by decide) ?_
      refine x_aload_n (pc := 202) dX10_image_202 rfl ?_
      refine x_getR (pc := 203) dX10_image_203 flX10_208 (by first | assumption | rfl) rfl ?_
      refine x_iload_n (pc := 206) dX10_image_206 rfl ?_
      refine x_aload_n (pc := 207) dX10_image_207 rfl ?_
      refine x_getR (pc := 208) dX10_image_208 flX10_135 (by first | assumption | rfl) rfl ?_
      refine x_iload_n (pc := 211) dX10_image_211 rfl ?_
      refine x_ialdN (pc := 212) dX10_image_212 (by first | assumption | rfl) (by first | with_reducible rfl | (simp only [xlit, nI_add, pk_mul]; with_reducible rfl)) (by omega) (by decide) ?_
      refine x_iastN (pc := 213) dX10_image_213 (by first | assumption | rfl) (by first | with_reducible rfl | (simp only [xlit, nI_add, pk_mul]; with_reducible rfl)) (by omega) (by decide) ?_
      refine x_aload_n (pc := 214) dX10_image_214 rfl ?_
      refine x_getR (pc := 215) dX10_image_215 flX10_211 (by first | assumption | rfl) rfl ?_
      refine x_iload_n (pc := 218) dX10_image_218 rfl ?_
      refine x_aload_n (pc := 219) dX10_image_219 rfl ?_
      refine x_getR (pc := 220) dX10_image_220 flX10_138 (by first | assumption | rfl) rfl ?_
      refine x_iload_n (pc := 223) dX10_image_223 rfl ?_
      refine x_ialdN (pc := 224) dX10_image_224 (by first | assumption | rfl) (by first | with_reducible rfl | (simp only [xlit, nI_add, pk_mul]; with_reducible rfl)) (by omega) (by decide) ?_
      refine x_iastN (pc := 225) dX10_image_225 (by first | assumption | rfl) (by first | with_reducible rfl | (simp only [xlit, nI_add, pk_mul]; with_reducible rfl)) (by omega) (by decide) ?_
      first | (guard_target =~ Wp _ _ _ _ (_ :: some (Value.int (nI _)) :: _) _ _ _ _ _; with_reducible refine x_iincN (pc := 226) 1 ic_1 dX10_image_226 ?_ xg_1 xs_1 ?_ ?_; decide; exact (x_hp rfl)) | refine x_iincC (pc := 226) ic_1 dX10_image_226 (by decide) rfl xs_1 (x_hp rfl) ?_
      refine x_goto (pc := 229) (tgt := 185) dX10_image_229 (by decide) ?_
      refine wp_mem ?_ (ih (k + 1) (by omega))
      refine Prod.ext (funext fun a => funext fun j => ?_) rfl
      by_cases hj : j = k
      · subst hj
        by_cases a0 : a = 101
        · subst a0; simp [cpL, xput, List.lookup]
        by_cases a1 : a = 102
        · subst a1; simp [cpL, xput, List.lookup]
        by_cases a2 : a = 103
        · subst a2; simp [cpL, xput, List.lookup]
        simp [cpL, xput, List.lookup, a0, show (a == 101) = false from beq_false_of_ne a0, a1, show (a == 102) = false from beq_false_of_ne a1, a2, show (a == 103) = false from beq_false_of_ne a2]
      · have e : (j < k + 1) ↔ (j < k) := by omega
        simp [cpL, xput, hj, e]
theorem cp_X10_image_4 (h : Wp g d mX10_image 270 [some (.ref 65), some (.int (nI 10))] [] xSF (0, 0) (cpL [(104, 91), (105, 92)] 10 M) K) : ∀ m k, k + m = 10 → Wp g d mX10_image 234 [some (.ref 65), some (.int (nI k))] [] xSF (0, 0) (cpL [(104, 91), (105, 92)] k M) K := by
  intro m
  induction m with
  | zero =>
    intro k hk
    obtain rfl : k = 10 := by omega
    refine x_iload_n (pc := 234) dX10_image_234 rfl ?_
    refine x_bipushN (pc := 235) 10 dX10_image_235 bp_10 ?_
    first | (guard_target =~ Wp _ _ _ _ _ (Value.int (nI _) :: Value.int (nI _) :: _) _ _ _ _; with_reducible refine x_icmp_geN (pc := 237) (tgt := 270) ?_ ?_ dX10_image_237 ?_ (fun h237 => ?_) (fun h237 => ?_); (first | omega | exact b2n_31 _); (first | omega | exact b2n_31 _); decide) | refine x_icmp_ge (pc := 237) (tgt := 270) dX10_image_237 (by decide) (fun h237 => ?_) (fun h237 => ?_)
    · skip
      exact h
    · skip
      omega
  | succ m ih =>
    intro k hk
    refine x_iload_n (pc := 234) dX10_image_234 rfl ?_
    refine x_bipushN (pc := 235) 10 dX10_image_235 bp_10 ?_
    first | (guard_target =~ Wp _ _ _ _ _ (Value.int (nI _) :: Value.int (nI _) :: _) _ _ _ _; with_reducible refine x_icmp_geN (pc := 237) (tgt := 270) ?_ ?_ dX10_image_237 ?_ (fun h237 => ?_) (fun h237 => ?_); (first | omega | exact b2n_31 _); (first | omega | exact b2n_31 _); decide) | refine x_icmp_ge (pc := 237) (tgt := 270) dX10_image_237 (by decide) (fun h237 => ?_) (fun h237 => ?_)
    · skip
      omega
    · skip
      refine x_aload_n (pc := 240) dX10_image_240 rfl ?_
      refine x_getR (pc := 241) dX10_image_241 flX10_214 (by first | assumption | rfl) rfl ?_
      refine x_iload_n (pc := 244) dX10_image_244 rfl ?_
      refine x_aload_n (pc := 245) dX10_image_245 rfl ?_
      refine x_getR (pc := 246) dX10_image_246 flX10_147 (by first | assumption | rfl) rfl ?_
      refine x_iload_n (pc := 249) dX10_image_249 rfl ?_
      refine x_ialdN (pc := 250) dX10_image_250 (by first | assumption | rfl) (by first | with_reducible rfl | (simp only [xlit, nI_add, pk_mul]; with_reducible rfl)) (by omega) (by decide) ?_
      refine x_iastN (pc := 251) dX10_image_251 (by first | assumption | rfl) (by first | with_reducible rfl | (simp only [xlit, nI_add, pk_mul]; with_reducible rfl)) (by omega) (by decide) ?_
      refine x_aload_n (pc := 252) dX10_image_252 rfl ?_
      refine x_getR (pc := 253) dX10_image_253 flX10_217 (by first | assumption | rfl) rfl ?_
      refine x_iload_n (pc := 256) dX10_image_256 rfl ?_
      refine x_aload_n (pc := 257) dX10_image_257 rfl ?_
      refine x_getR (pc := 258) dX10_image_258 flX10_150 (by first | assumption | rfl) rfl ?_
      refine x_iload_n (pc := 261) dX10_image_261 rfl ?_
      refine x_ialdN (pc := 262) dX10_image_262 (by first | assumption | rfl) (by first | with_reducible rfl | (simp only [xlit, nI_add, pk_mul]; with_reducible rfl)) (by omega) (by decide) ?_
      refine x_iastN (pc := 263) dX10_image_263 (by first | assumption | rfl) (by first | with_reducible rfl | (simp only [xlit, nI_add, pk_mul]; with_reducible rfl)) (by omega) (by decide) ?_
      first | (guard_target =~ Wp _ _ _ _ (_ :: some (Value.int (nI _)) :: _) _ _ _ _ _; with_reducible refine x_iincN (pc := 264) 1 ic_1 dX10_image_264 ?_ xg_1 xs_1 ?_ ?_; decide; exact (x_hp rfl)) | refine x_iincC (pc := 264) ic_1 dX10_image_264 (by decide) rfl xs_1 (x_hp rfl) ?_
      refine x_goto (pc := 267) (tgt := 234) dX10_image_267 (by decide) ?_
      refine wp_mem ?_ (ih (k + 1) (by omega))
      refine Prod.ext (funext fun a => funext fun j => ?_) rfl
      by_cases hj : j = k
      · subst hj
        by_cases a0 : a = 104
        · subst a0; simp [cpL, xput, List.lookup]
        by_cases a1 : a = 105
        · subst a1; simp [cpL, xput, List.lookup]
        simp [cpL, xput, List.lookup, a0, show (a == 104) = false from beq_false_of_ne a0, a1, show (a == 105) = false from beq_false_of_ne a1]
      · have e : (j < k + 1) ↔ (j < k) := by omega
        simp [cpL, xput, hj, e]
theorem cp_X10_image_5 (h : Wp g d mX10_image 308 [some (.ref 65), some (.int (nI 8))] [] xSF (0, 0) (cpL [(106, 93), (107, 94)] 8 M) K) : ∀ m k, k + m = 8 → Wp g d mX10_image 272 [some (.ref 65), some (.int (nI k))] [] xSF (0, 0) (cpL [(106, 93), (107, 94)] k M) K := by
  intro m
  induction m with
  | zero =>
    intro k hk
    obtain rfl : k = 8 := by omega
    refine x_iload_n (pc := 272) dX10_image_272 rfl ?_
    refine x_bipushN (pc := 273) 8 dX10_image_273 bp_8 ?_
    first | (guard_target =~ Wp _ _ _ _ _ (Value.int (nI _) :: Value.int (nI _) :: _) _ _ _ _; with_reducible refine x_icmp_geN (pc := 275) (tgt := 308) ?_ ?_ dX10_image_275 ?_ (fun h275 => ?_) (fun h275 => ?_); (first | omega | exact b2n_31 _); (first | omega | exact b2n_31 _); decide) | refine x_icmp_ge (pc := 275) (tgt := 308) dX10_image_275 (by decide) (fun h275 => ?_) (fun h275 => ?_)
    · skip
      exact h
    · skip
      omega
  | succ m ih =>
    intro k hk
    refine x_iload_n (pc := 272) dX10_image_272 rfl ?_
    refine x_bipushN (pc := 273) 8 dX10_image_273 bp_8 ?_
    first | (guard_target =~ Wp _ _ _ _ _ (Value.int (nI _) :: Value.int (nI _) :: _) _ _ _ _; with_reducible refine x_icmp_geN (pc := 275) (tgt := 308) ?_ ?_ dX10_image_275 ?_ (fun h275 => ?_) (fun h275 => ?_); (first | omega | exact b2n_31 _); (first | omega | exact b2n_31 _); decide) | refine x_icmp_ge (pc := 275) (tgt := 308) dX10_image_275 (by decide) (fun h275 => ?_) (fun h275 => ?_)
    · skip
      omega
    · skip
      refine x_aload_n (pc := 278) dX10_image_278 rfl ?_
      refine x_getR (pc := 279) dX10_image_279 flX10_220 (by first | assumption | rfl) rfl ?_
      refine x_iload_n (pc := 282) dX10_image_282 rfl ?_
      refine x_aload_n (pc := 283) dX10_image_283 rfl ?_
      refine x_getR (pc := 284) dX10_image_284 flX10_153 (by first | assumption | rfl) rfl ?_
      refine x_iload_n (pc := 287) dX10_image_287 rfl ?_
      refine x_ialdN (pc := 288) dX10_image_288 (by first | assumption | rfl) (by first | with_reducible rfl | (simp only [xlit, nI_add, pk_mul]; with_reducible rfl)) (by omega) (by decide) ?_
      refine x_iastN (pc := 289) dX10_image_289 (by first | assumption | rfl) (by first | with_reducible rfl | (simp only [xlit, nI_add, pk_mul]; with_reducible rfl)) (by omega) (by decide) ?_
      refine x_aload_n (pc := 290) dX10_image_290 rfl ?_
      refine x_getR (pc := 291) dX10_image_291 flX10_223 (by first | assumption | rfl) rfl ?_
      refine x_iload_n (pc := 294) dX10_image_294 rfl ?_
      refine x_aload_n (pc := 295) dX10_image_295 rfl ?_
      refine x_getR (pc := 296) dX10_image_296 flX10_156 (by first | assumption | rfl) rfl ?_
      refine x_iload_n (pc := 299) dX10_image_299 rfl ?_
      refine x_ialdN (pc := 300) dX10_image_300 (by first | assumption | rfl) (by first | with_reducible rfl | (simp only [xlit, nI_add, pk_mul]; with_reducible rfl)) (by omega) (by decide) ?_
      refine x_iastN (pc := 301) dX10_image_301 (by first | assumption | rfl) (by first | with_reducible rfl | (simp only [xlit, nI_add, pk_mul]; with_reducible rfl)) (by omega) (by decide) ?_
      first | (guard_target =~ Wp _ _ _ _ (_ :: some (Value.int (nI _)) :: _) _ _ _ _ _; with_reducible refine x_iincN (pc := 302) 1 ic_1 dX10_image_302 ?_ xg_1 xs_1 ?_ ?_; decide; exact (x_hp rfl)) | refine x_iincC (pc := 302) ic_1 dX10_image_302 (by decide) rfl xs_1 (x_hp rfl) ?_
      refine x_goto (pc := 305) (tgt := 272) dX10_image_305 (by decide) ?_
      refine wp_mem ?_ (ih (k + 1) (by omega))
      refine Prod.ext (funext fun a => funext fun j => ?_) rfl
      by_cases hj : j = k
      · subst hj
        by_cases a0 : a = 106
        · subst a0; simp [cpL, xput, List.lookup]
        by_cases a1 : a = 107
        · subst a1; simp [cpL, xput, List.lookup]
        simp [cpL, xput, List.lookup, a0, show (a == 106) = false from beq_false_of_ne a0, a1, show (a == 107) = false from beq_false_of_ne a1]
      · have e : (j < k + 1) ↔ (j < k) := by omega
        simp [cpL, xput, hj, e]
theorem cp_X10_undo_0 (h : Wp g d mX10_undo 100 [some (.ref 65), some (.int (nI 16))] [] xSF (0, 0) (cpL [(66, 95)] 16 M) K) : ∀ m k, k + m = 16 → Wp g d mX10_undo 76 [some (.ref 65), some (.int (nI k))] [] xSF (0, 0) (cpL [(66, 95)] k M) K := by
  intro m
  induction m with
  | zero =>
    intro k hk
    obtain rfl : k = 16 := by omega
    refine x_iload_n (pc := 76) dX10_undo_76 rfl ?_
    refine x_bipushN (pc := 77) 16 dX10_undo_77 bp_16 ?_
    first | (guard_target =~ Wp _ _ _ _ _ (Value.int (nI _) :: Value.int (nI _) :: _) _ _ _ _; with_reducible refine x_icmp_geN (pc := 79) (tgt := 100) ?_ ?_ dX10_undo_79 ?_ (fun h79 => ?_) (fun h79 => ?_); (first | omega | exact b2n_31 _); (first | omega | exact b2n_31 _); decide) | refine x_icmp_ge (pc := 79) (tgt := 100) dX10_undo_79 (by decide) (fun h79 => ?_) (fun h79 => ?_)
    · skip
      exact h
    · skip
      omega
  | succ m ih =>
    intro k hk
    refine x_iload_n (pc := 76) dX10_undo_76 rfl ?_
    refine x_bipushN (pc := 77) 16 dX10_undo_77 bp_16 ?_
    first | (guard_target =~ Wp _ _ _ _ _ (Value.int (nI _) :: Value.int (nI _) :: _) _ _ _ _; with_reducible refine x_icmp_geN (pc := 79) (tgt := 100) ?_ ?_ dX10_undo_79 ?_ (fun h79 => ?_) (fun h79 => ?_); (first | omega | exact b2n_31 _); (first | omega | exact b2n_31 _); decide) | refine x_icmp_ge (pc := 79) (tgt := 100) dX10_undo_79 (by decide) (fun h79 => ?_) (fun h79 => ?_)
    · skip
      omega
    · skip
      refine x_aload_n (pc := 82) dX10_undo_82 rfl ?_
      refine x_getR (pc := 83) dX10_undo_83 flX10_22 (by first | assumption | rfl) rfl ?_
      refine x_iload_n (pc := 86) dX10_undo_86 rfl ?_
      refine x_aload_n (pc := 87) dX10_undo_87 rfl ?_
      refine x_getR (pc := 88) dX10_undo_88 flX10_187 (by first | assumption | rfl) rfl ?_
      refine x_iload_n (pc := 91) dX10_undo_91 rfl ?_
      refine x_ialdN (pc := 92) dX10_undo_92 (by first | assumption | rfl) (by first | with_reducible rfl | (simp only [xlit, nI_add, pk_mul]; with_reducible rfl)) (by omega) (by decide) ?_
      refine x_iastN (pc := 93) dX10_undo_93 (by first | assumption | rfl) (by first | with_reducible rfl | (simp only [xlit, nI_add, pk_mul]; with_reducible rfl)) (by omega) (by decide) ?_
      first | (guard_target =~ Wp _ _ _ _ (_ :: some (Value.int (nI _)) :: _) _ _ _ _ _; with_reducible refine x_iincN (pc := 94) 1 ic_1 dX10_undo_94 ?_ xg_1 xs_1 ?_ ?_; decide; exact (x_hp rfl)) | refine x_iincC (pc := 94) ic_1 dX10_undo_94 (by decide) rfl xs_1 (x_hp rfl) ?_
      refine x_goto (pc := 97) (tgt := 76) dX10_undo_97 (by decide) ?_
      refine wp_mem ?_ (ih (k + 1) (by omega))
      refine Prod.ext (funext fun a => funext fun j => ?_) rfl
      by_cases hj : j = k
      · subst hj
        by_cases a0 : a = 66
        · subst a0; simp [cpL, xput, List.lookup]
        simp [cpL, xput, List.lookup, a0, show (a == 66) = false from beq_false_of_ne a0]
      · have e : (j < k + 1) ↔ (j < k) := by omega
        simp [cpL, xput, hj, e]
theorem cp_X10_undo_1 (h : Wp g d mX10_undo 162 [some (.ref 65), some (.int (nI 6))] [] xSF (0, 0) (cpL [(67, 96), (68, 97), (69, 98), (70, 99)] 6 M) K) : ∀ m k, k + m = 6 → Wp g d mX10_undo 102 [some (.ref 65), some (.int (nI k))] [] xSF (0, 0) (cpL [(67, 96), (68, 97), (69, 98), (70, 99)] k M) K := by
  intro m
  induction m with
  | zero =>
    intro k hk
    obtain rfl : k = 6 := by omega
    refine x_iload_n (pc := 102) dX10_undo_102 rfl ?_
    refine x_bipushN (pc := 103) 6 dX10_undo_103 bp_6 ?_
    first | (guard_target =~ Wp _ _ _ _ _ (Value.int (nI _) :: Value.int (nI _) :: _) _ _ _ _; with_reducible refine x_icmp_geN (pc := 105) (tgt := 162) ?_ ?_ dX10_undo_105 ?_ (fun h105 => ?_) (fun h105 => ?_); (first | omega | exact b2n_31 _); (first | omega | exact b2n_31 _); decide) | refine x_icmp_ge (pc := 105) (tgt := 162) dX10_undo_105 (by decide) (fun h105 => ?_) (fun h105 => ?_)
    · skip
      exact h
    · skip
      omega
  | succ m ih =>
    intro k hk
    refine x_iload_n (pc := 102) dX10_undo_102 rfl ?_
    refine x_bipushN (pc := 103) 6 dX10_undo_103 bp_6 ?_
    first | (guard_target =~ Wp _ _ _ _ _ (Value.int (nI _) :: Value.int (nI _) :: _) _ _ _ _; with_reducible refine x_icmp_geN (pc := 105) (tgt := 162) ?_ ?_ dX10_undo_105 ?_ (fun h105 => ?_) (fun h105 => ?_); (first | omega | exact b2n_31 _); (first | omega | exact b2n_31 _); decide) | refine x_icmp_ge (pc := 105) (tgt := 162) dX10_undo_105 (by decide) (fun h105 => ?_) (fun h105 => ?_)
    · skip
      omega
    · skip
      refine x_aload_n (pc := 108) dX10_undo_108 rfl ?_
      refine x_getR (pc := 109) dX10_undo_109 flX10_26 (by first | assumption | rfl) rfl ?_
      refine x_iload_n (pc := 112) dX10_undo_112 rfl ?_
      refine x_aload_n (pc := 113) dX10_undo_113 rfl ?_
      refine x_getR (pc := 114) dX10_undo_114 flX10_190 (by first | assumption | rfl) rfl ?_
      refine x_iload_n (pc := 117) dX10_undo_117 rfl ?_
      refine x_ialdN (pc := 118) dX10_undo_118 (by first | assumption | rfl) (by first | with_reducible rfl | (simp only [xlit, nI_add, pk_mul]; with_reducible rfl)) (by omega) (by decide) ?_
      refine x_iastN (pc := 119) dX10_undo_119 (by first | assumption | rfl) (by first | with_reducible rfl | (simp only [xlit, nI_add, pk_mul]; with_reducible rfl)) (by omega) (by decide) ?_
      refine x_aload_n (pc := 120) dX10_undo_120 rfl ?_
      refine x_getR (pc := 121) dX10_undo_121 flX10_29 (by first | assumption | rfl) rfl ?_
      refine x_iload_n (pc := 124) dX10_undo_124 rfl ?_
      refine x_aload_n (pc := 125) dX10_undo_125 rfl ?_
      refine x_getR (pc := 126) dX10_undo_126 flX10_193 (by first | assumption | rfl) rfl ?_
      refine x_iload_n (pc := 129) dX10_undo_129 rfl ?_
      refine x_ialdN (pc := 130) dX10_undo_130 (by first | assumption | rfl) (by first | with_reducible rfl | (simp only [xlit, nI_add, pk_mul]; with_reducible rfl)) (by omega) (by decide) ?_
      refine x_iastN (pc := 131) dX10_undo_131 (by first | assumption | rfl) (by first | with_reducible rfl | (simp only [xlit, nI_add, pk_mul]; with_reducible rfl)) (by omega) (by decide) ?_
      refine x_aload_n (pc := 132) dX10_undo_132 rfl ?_
      refine x_getR (pc := 133) dX10_undo_133 flX10_32 (by first | assumption | rfl) rfl ?_
      refine x_iload_n (pc := 136) dX10_undo_136 rfl ?_
      refine x_aload_n (pc := 137) dX10_undo_137 rfl ?_
      refine x_getR (pc := 138) dX10_undo_138 flX10_196 (by first | assumption | rfl) rfl ?_
      refine x_iload_n (pc := 141) dX10_undo_141 rfl ?_
      refine x_ialdN (pc := 142) dX10_undo_142 (by first | assumption | rfl) (by first | with_reducible rfl | (simp only [xlit, nI_add, pk_mul]; with_reducible rfl)) (by omega) (by decide) ?_
      refine x_iastN (pc := 143) dX10_undo_143 (by first | assumption | rfl) (by first | with_reducible rfl | (simp only [xlit, nI_add, pk_mul]; with_reducible rfl)) (by omega) (by decide) ?_
      refine x_aload_n (pc := 144) dX10_undo_144 rfl ?_
      refine x_getR (pc := 145) dX10_undo_145 flX10_35 (by first | assumption | rfl) rfl ?_
      refine x_iload_n (pc := 148) dX10_undo_148 rfl ?_
      refine x_aload_n (pc := 149) dX10_undo_149 rfl ?_
      refine x_getR (pc := 150) dX10_undo_150 flX10_199 (by first | assumption | rfl) rfl ?_
      refine x_iload_n (pc := 153) dX10_undo_153 rfl ?_
      refine x_ialdN (pc := 154) dX10_undo_154 (by first | assumption | rfl) (by first | with_reducible rfl | (simp only [xlit, nI_add, pk_mul]; with_reducible rfl)) (by omega) (by decide) ?_
      refine x_iastN (pc := 155) dX10_undo_155 (by first | assumption | rfl) (by first | with_reducible rfl | (simp only [xlit, nI_add, pk_mul]; with_reducible rfl)) (by omega) (by decide) ?_
      first | (guard_target =~ Wp _ _ _ _ (_ :: some (Value.int (nI _)) :: _) _ _ _ _ _; with_reducible refine x_iincN (pc := 156) 1 ic_1 dX10_undo_156 ?_ xg_1 xs_1 ?_ ?_; decide; exact (x_hp rfl)) | refine x_iincC (pc := 156) ic_1 dX10_undo_156 (by decide) rfl xs_1 (x_hp rfl) ?_
      refine x_goto (pc := 159) (tgt := 102) dX10_undo_159 (by decide) ?_
      refine wp_mem ?_ (ih (k + 1) (by omega))
      refine Prod.ext (funext fun a => funext fun j => ?_) rfl
      by_cases hj : j = k
      · subst hj
        by_cases a0 : a = 67
        · subst a0; simp [cpL, xput, List.lookup]
        by_cases a1 : a = 68
        · subst a1; simp [cpL, xput, List.lookup]
        by_cases a2 : a = 69
        · subst a2; simp [cpL, xput, List.lookup]
        by_cases a3 : a = 70
        · subst a3; simp [cpL, xput, List.lookup]
        simp [cpL, xput, List.lookup, a0, show (a == 67) = false from beq_false_of_ne a0, a1, show (a == 68) = false from beq_false_of_ne a1, a2, show (a == 69) = false from beq_false_of_ne a2, a3, show (a == 70) = false from beq_false_of_ne a3]
      · have e : (j < k + 1) ↔ (j < k) := by omega
        simp [cpL, xput, hj, e]
theorem cp_X10_undo_2 (h : Wp g d mX10_undo 188 [some (.ref 65), some (.int (nI 24))] [] xSF (0, 0) (cpL [(71, 100)] 24 M) K) : ∀ m k, k + m = 24 → Wp g d mX10_undo 164 [some (.ref 65), some (.int (nI k))] [] xSF (0, 0) (cpL [(71, 100)] k M) K := by
  intro m
  induction m with
  | zero =>
    intro k hk
    obtain rfl : k = 24 := by omega
    refine x_iload_n (pc := 164) dX10_undo_164 rfl ?_
    refine x_bipushN (pc := 165) 24 dX10_undo_165 bp_24 ?_
    first | (guard_target =~ Wp _ _ _ _ _ (Value.int (nI _) :: Value.int (nI _) :: _) _ _ _ _; with_reducible refine x_icmp_geN (pc := 167) (tgt := 188) ?_ ?_ dX10_undo_167 ?_ (fun h167 => ?_) (fun h167 => ?_); (first | omega | exact b2n_31 _); (first | omega | exact b2n_31 _); decide) | refine x_icmp_ge (pc := 167) (tgt := 188) dX10_undo_167 (by decide) (fun h167 => ?_) (fun h167 => ?_)
    · skip
      exact h
    · skip
      omega
  | succ m ih =>
    intro k hk
    refine x_iload_n (pc := 164) dX10_undo_164 rfl ?_
    refine x_bipushN (pc := 165) 24 dX10_undo_165 bp_24 ?_
    first | (guard_target =~ Wp _ _ _ _ _ (Value.int (nI _) :: Value.int (nI _) :: _) _ _ _ _; with_reducible refine x_icmp_geN (pc := 167) (tgt := 188) ?_ ?_ dX10_undo_167 ?_ (fun h167 => ?_) (fun h167 => ?_); (first | omega | exact b2n_31 _); (first | omega | exact b2n_31 _); decide) | refine x_icmp_ge (pc := 167) (tgt := 188) dX10_undo_167 (by decide) (fun h167 => ?_) (fun h167 => ?_)
    · skip
      omega
    · skip
      refine x_aload_n (pc := 170) dX10_undo_170 rfl ?_
      refine x_getR (pc := 171) dX10_undo_171 flX10_38 (by first | assumption | rfl) rfl ?_
      refine x_iload_n (pc := 174) dX10_undo_174 rfl ?_
      refine x_aload_n (pc := 175) dX10_undo_175 rfl ?_
      refine x_getR (pc := 176) dX10_undo_176 flX10_202 (by first | assumption | rfl) rfl ?_
      refine x_iload_n (pc := 179) dX10_undo_179 rfl ?_
      refine x_ialdN (pc := 180) dX10_undo_180 (by first | assumption | rfl) (by first | with_reducible rfl | (simp only [xlit, nI_add, pk_mul]; with_reducible rfl)) (by omega) (by decide) ?_
      refine x_iastN (pc := 181) dX10_undo_181 (by first | assumption | rfl) (by first | with_reducible rfl | (simp only [xlit, nI_add, pk_mul]; with_reducible rfl)) (by omega) (by decide) ?_
      first | (guard_target =~ Wp _ _ _ _ (_ :: some (Value.int (nI _)) :: _) _ _ _ _ _; with_reducible refine x_iincN (pc := 182) 1 ic_1 dX10_undo_182 ?_ xg_1 xs_1 ?_ ?_; decide; exact (x_hp rfl)) | refine x_iincC (pc := 182) ic_1 dX10_undo_182 (by decide) rfl xs_1 (x_hp rfl) ?_
      refine x_goto (pc := 185) (tgt := 164) dX10_undo_185 (by decide) ?_
      refine wp_mem ?_ (ih (k + 1) (by omega))
      refine Prod.ext (funext fun a => funext fun j => ?_) rfl
      by_cases hj : j = k
      · subst hj
        by_cases a0 : a = 71
        · subst a0; simp [cpL, xput, List.lookup]
        simp [cpL, xput, List.lookup, a0, show (a == 71) = false from beq_false_of_ne a0]
      · have e : (j < k + 1) ↔ (j < k) := by omega
        simp [cpL, xput, hj, e]
theorem cp_X10_undo_3 (h : Wp g d mX10_undo 237 [some (.ref 65), some (.int (nI 5))] [] xSF (0, 0) (cpL [(88, 101), (89, 102), (90, 103)] 5 M) K) : ∀ m k, k + m = 5 → Wp g d mX10_undo 190 [some (.ref 65), some (.int (nI k))] [] xSF (0, 0) (cpL [(88, 101), (89, 102), (90, 103)] k M) K := by
  intro m
  induction m with
  | zero =>
    intro k hk
    obtain rfl : k = 5 := by omega
    refine x_iload_n (pc := 190) dX10_undo_190 rfl ?_
    refine x_iconstN (pc := 191) 5 dX10_undo_191 ic_5 ?_
    first | (guard_target =~ Wp _ _ _ _ _ (Value.int (nI _) :: Value.int (nI _) :: _) _ _ _ _; with_reducible refine x_icmp_geN (pc := 192) (tgt := 237) ?_ ?_ dX10_undo_192 ?_ (fun h192 => ?_) (fun h192 => ?_); (first | omega | exact b2n_31 _); (first | omega | exact b2n_31 _); decide) | refine x_icmp_ge (pc := 192) (tgt := 237) dX10_undo_192 (by decide) (fun h192 => ?_) (fun h192 => ?_)
    · skip
      exact h
    · skip
      omega
  | succ m ih =>
    intro k hk
    refine x_iload_n (pc := 190) dX10_undo_190 rfl ?_
    refine x_iconstN (pc := 191) 5 dX10_undo_191 ic_5 ?_
    first | (guard_target =~ Wp _ _ _ _ _ (Value.int (nI _) :: Value.int (nI _) :: _) _ _ _ _; with_reducible refine x_icmp_geN (pc := 192) (tgt := 237) ?_ ?_ dX10_undo_192 ?_ (fun h192 => ?_) (fun h192 => ?_); (first | omega | exact b2n_31 _); (first | omega | exact b2n_31 _); decide) | refine x_icmp_ge (pc := 192) (tgt := 237) dX10_undo_192 (by decide) (fun h192 => ?_) (fun h192 => ?_)
    · skip
      omega
    · skip
      refine x_aload_n (pc := 195) dX10_undo_195 rfl ?_
      refine x_getR (pc := 196) dX10_undo_196 flX10_132 (by first | assumption | rfl) rfl ?_
      refine x_iload_n (pc := 199) dX10_undo_199 rfl ?_
      refine x_aload_n (pc := 200) dX10_undo_200 rfl ?_
      refine x_getR (pc := 201) dX10_undo_201 flX10_205 (by first | assumption | rfl) rfl ?_
      refine x_iload_n (pc := 204) dX10_undo_204 rfl ?_
      refine x_ialdN (pc := 205) dX10_undo_205 (by first | assumption | rfl) (by first | with_reducible rfl | (simp only [xlit, nI_add, pk_mul]; with_reducible rfl)) (by omega) (by decide) ?_
      refine x_iastN (pc := 206) dX10_undo_206 (by first | assumption | rfl) (by first | with_reducible rfl | (simp only [xlit, nI_add, pk_mul]; with_reducible rfl)) (by omega) (by decide) ?_
      refine x_aload_n (pc := 207) dX10_undo_207 rfl ?_
      refine x_getR (pc := 208) dX10_undo_208 flX10_135 (by first | assumption | rfl) rfl ?_
      refine x_iload_n (pc := 211) dX10_undo_211 rfl ?_
      refine x_aload_n (pc := 212) dX10_undo_212 rfl ?_
      refine x_getR (pc := 213) dX10_undo_213 flX10_208 (by first | assumption | rfl) rfl ?_
      refine x_iload_n (pc := 216) dX10_undo_216 rfl ?_
      refine x_ialdN (pc := 217) dX10_undo_217 (by first | assumption | rfl) (by first | with_reducible rfl | (simp only [xlit, nI_add, pk_mul]; with_reducible rfl)) (by omega) (by decide) ?_
      refine x_iastN (pc := 218) dX10_undo_218 (by first | assumption | rfl) (by first | with_reducible rfl | (simp only [xlit, nI_add, pk_mul]; with_reducible rfl)) (by omega) (by decide) ?_
      refine x_aload_n (pc := 219) dX10_undo_219 rfl ?_
      refine x_getR (pc := 220) dX10_undo_220 flX10_138 (by first | assumption | rfl) rfl ?_
      refine x_iload_n (pc := 223) dX10_undo_223 rfl ?_
      refine x_aload_n (pc := 224) dX10_undo_224 rfl ?_
      refine x_getR (pc := 225) dX10_undo_225 flX10_211 (by first | assumption | rfl) rfl ?_
      refine x_iload_n (pc := 228) dX10_undo_228 rfl ?_
      refine x_ialdN (pc := 229) dX10_undo_229 (by first | assumption | rfl) (by first | with_reducible rfl | (simp only [xlit, nI_add, pk_mul]; with_reducible rfl)) (by omega) (by decide) ?_
      refine x_iastN (pc := 230) dX10_undo_230 (by first | assumption | rfl) (by first | with_reducible rfl | (simp only [xlit, nI_add, pk_mul]; with_reducible rfl)) (by omega) (by decide) ?_
      first | (guard_target =~ Wp _ _ _ _ (_ :: some (Value.int (nI _)) :: _) _ _ _ _ _; with_reducible refine x_iincN (pc := 231) 1 ic_1 dX10_undo_231 ?_ xg_1 xs_1 ?_ ?_; decide; exact (x_hp rfl)) | refine x_iincC (pc := 231) ic_1 dX10_undo_231 (by decide) rfl xs_1 (x_hp rfl) ?_
      refine x_goto (pc := 234) (tgt := 190) dX10_undo_234 (by decide) ?_
      refine wp_mem ?_ (ih (k + 1) (by omega))
      refine Prod.ext (funext fun a => funext fun j => ?_) rfl
      by_cases hj : j = k
      · subst hj
        by_cases a0 : a = 88
        · subst a0; simp [cpL, xput, List.lookup]
        by_cases a1 : a = 89
        · subst a1; simp [cpL, xput, List.lookup]
        by_cases a2 : a = 90
        · subst a2; simp [cpL, xput, List.lookup]
        simp [cpL, xput, List.lookup, a0, show (a == 88) = false from beq_false_of_ne a0, a1, show (a == 89) = false from beq_false_of_ne a1, a2, show (a == 90) = false from beq_false_of_ne a2]
      · have e : (j < k + 1) ↔ (j < k) := by omega
        simp [cpL, xput, hj, e]
theorem cp_X10_undo_4 (h : Wp g d mX10_undo 275 [some (.ref 65), some (.int (nI 10))] [] xSF (0, 0) (cpL [(91, 104), (92, 105)] 10 M) K) : ∀ m k, k + m = 10 → Wp g d mX10_undo 239 [some (.ref 65), some (.int (nI k))] [] xSF (0, 0) (cpL [(91, 104), (92, 105)] k M) K := by
  intro m
  induction m with
  | zero =>
    intro k hk
    obtain rfl : k = 10 := by omega
    refine x_iload_n (pc := 239) dX10_undo_239 rfl ?_
    refine x_bipushN (pc := 240) 10 dX10_undo_240 bp_10 ?_
    first | (guard_target =~ Wp _ _ _ _ _ (Value.int (nI _) :: Value.int (nI _) :: _) _ _ _ _; with_reducible refine x_icmp_geN (pc := 242) (tgt := 275) ?_ ?_ dX10_undo_242 ?_ (fun h242 => ?_) (fun h242 => ?_); (first | omega | exact b2n_31 _); (first | omega | exact b2n_31 _); decide) | refine x_icmp_ge (pc := 242) (tgt := 275) dX10_undo_242 (by decide) (fun h242 => ?_) (fun h242 => ?_)
    · skip
      exact h
    · skip
      omega
  | succ m ih =>
    intro k hk
    refine x_iload_n (pc := 239) dX10_undo_239 rfl ?_
    refine x_bipushN (pc := 240) 10 dX10_undo_240 bp_10 ?_
    first | (guard_target =~ Wp _ _ _ _ _ (Value.int (nI _) :: Value.int (nI _) :: _) _ _ _ _; with_reducible refine x_icmp_geN (pc := 242) (tgt := 275) ?_ ?_ dX10_undo_242 ?_ (fun h242 => ?_) (fun h242 => ?_); (first | omega | exact b2n_31 _); (first | omega | exact b2n_31 _); decide) | refine x_icmp_ge (pc := 242) (tgt := 275) dX10_undo_242 (by decide) (fun h242 => ?_) (fun h242 => ?_)
    · skip
      omega
    · skip
      refine x_aload_n (pc := 245) dX10_undo_245 rfl ?_
      refine x_getR (pc := 246) dX10_undo_246 flX10_147 (by first | assumption | rfl) rfl ?_
      refine x_iload_n (pc := 249) dX10_undo_249 rfl ?_
      refine x_aload_n (pc := 250) dX10_undo_250 rfl ?_
      refine x_getR (pc := 251) dX10_undo_251 flX10_214 (by first | assumption | rfl) rfl ?_
      refine x_iload_n (pc := 254) dX10_undo_254 rfl ?_
      refine x_ialdN (pc := 255) dX10_undo_255 (by first | assumption | rfl) (by first | with_reducible rfl | (simp only [xlit, nI_add, pk_mul]; with_reducible rfl)) (by omega) (by decide) ?_
      refine x_iastN (pc := 256) dX10_undo_256 (by first | assumption | rfl) (by first | with_reducible rfl | (simp only [xlit, nI_add, pk_mul]; with_reducible rfl)) (by omega) (by decide) ?_
      refine x_aload_n (pc := 257) dX10_undo_257 rfl ?_
      refine x_getR (pc := 258) dX10_undo_258 flX10_150 (by first | assumption | rfl) rfl ?_
      refine x_iload_n (pc := 261) dX10_undo_261 rfl ?_
      refine x_aload_n (pc := 262) dX10_undo_262 rfl ?_
      refine x_getR (pc := 263) dX10_undo_263 flX10_217 (by first | assumption | rfl) rfl ?_
      refine x_iload_n (pc := 266) dX10_undo_266 rfl ?_
      refine x_ialdN (pc := 267) dX10_undo_267 (by first | assumption | rfl) (by first | with_reducible rfl | (simp only [xlit, nI_add, pk_mul]; with_reducible rfl)) (by omega) (by decide) ?_
      refine x_iastN (pc := 268) dX10_undo_268 (by first | assumption | rfl) (by first | with_reducible rfl | (simp only [xlit, nI_add, pk_mul]; with_reducible rfl)) (by omega) (by decide) ?_
      first | (guard_target =~ Wp _ _ _ _ (_ :: some (Value.int (nI _)) :: _) _ _ _ _ _; with_reducible refine x_iincN (pc := 269) 1 ic_1 dX10_undo_269 ?_ xg_1 xs_1 ?_ ?_; decide; exact (x_hp rfl)) | refine x_iincC (pc := 269) ic_1 dX10_undo_269 (by decide) rfl xs_1 (x_hp rfl) ?_
      refine x_goto (pc := 272) (tgt := 239) dX10_undo_272 (by decide) ?_
      refine wp_mem ?_ (ih (k + 1) (by omega))
      refine Prod.ext (funext fun a => funext fun j => ?_) rfl
      by_cases hj : j = k
      · subst hj
        by_cases a0 : a = 91
        · subst a0; simp [cpL, xput, List.lookup]
        by_cases a1 : a = 92
        · subst a1; simp [cpL, xput, List.lookup]
        simp [cpL, xput, List.lookup, a0, show (a == 91) = false from beq_false_of_ne a0, a1, show (a == 92) = false from beq_false_of_ne a1]
      · have e : (j < k + 1) ↔ (j < k) := by omega
        simp [cpL, xput, hj, e]
theorem cp_X10_undo_5 (h : Wp g d mX10_undo 313 [some (.ref 65), some (.int (nI 8))] [] xSF (0, 0) (cpL [(93, 106), (94, 107)] 8 M) K) : ∀ m k, k + m = 8 → Wp g d mX10_undo 277 [some (.ref 65), some (.int (nI k))] [] xSF (0, 0) (cpL [(93, 106), (94, 107)] k M) K := by
  intro m
  induction m with
  | zero =>
    intro k hk
    obtain rfl : k = 8 := by omega
    refine x_iload_n (pc := 277) dX10_undo_277 rfl ?_
    refine x_bipushN (pc := 278) 8 dX10_undo_278 bp_8 ?_
    first | (guard_target =~ Wp _ _ _ _ _ (Value.int (nI _) :: Value.int (nI _) :: _) _ _ _ _; with_reducible refine x_icmp_geN (pc := 280) (tgt := 313) ?_ ?_ dX10_undo_280 ?_ (fun h280 => ?_) (fun h280 => ?_); (first | omega | exact b2n_31 _); (first | omega | exact b2n_31 _); decide) | refine x_icmp_ge (pc := 280) (tgt := 313) dX10_undo_280 (by decide) (fun h280 => ?_) (fun h280 => ?_)
    · skip
      exact h
    · skip
      omega
  | succ m ih =>
    intro k hk
    refine x_iload_n (pc := 277) dX10_undo_277 rfl ?_
    refine x_bipushN (pc := 278) 8 dX10_undo_278 bp_8 ?_
    first | (guard_target =~ Wp _ _ _ _ _ (Value.int (nI _) :: Value.int (nI _) :: _) _ _ _ _; with_reducible refine x_icmp_geN (pc := 280) (tgt := 313) ?_ ?_ dX10_undo_280 ?_ (fun h280 => ?_) (fun h280 => ?_); (first | omega | exact b2n_31 _); (first | omega | exact b2n_31 _); decide) | refine x_icmp_ge (pc := 280) (tgt := 313) dX10_undo_280 (by decide) (fun h280 => ?_) (fun h280 => ?_)
    · skip
      omega
    · skip
      refine x_aload_n (pc := 283) dX10_undo_283 rfl ?_
      refine x_getR (pc := 284) dX10_undo_284 flX10_153 (by first | assumption | rfl) rfl ?_
      refine x_iload_n (pc := 287) dX10_undo_287 rfl ?_
      refine x_aload_n (pc := 288) dX10_undo_288 rfl ?_
      refine x_getR (pc := 289) dX10_undo_289 flX10_220 (by first | assumption | rfl) rfl ?_
      refine x_iload_n (pc := 292) dX10_undo_292 rfl ?_
      refine x_ialdN (pc := 293) dX10_undo_293 (by first | assumption | rfl) (by first | with_reducible rfl | (simp only [xlit, nI_add, pk_mul]; with_reducible rfl)) (by omega) (by decide) ?_
      refine x_iastN (pc := 294) dX10_undo_294 (by first | assumption | rfl) (by first | with_reducible rfl | (simp only [xlit, nI_add, pk_mul]; with_reducible rfl)) (by omega) (by decide) ?_
      refine x_aload_n (pc := 295) dX10_undo_295 rfl ?_
      refine x_getR (pc := 296) dX10_undo_296 flX10_156 (by first | assumption | rfl) rfl ?_
      refine x_iload_n (pc := 299) dX10_undo_299 rfl ?_
      refine x_aload_n (pc := 300) dX10_undo_300 rfl ?_
      refine x_getR (pc := 301) dX10_undo_301 flX10_223 (by first | assumption | rfl) rfl ?_
      refine x_iload_n (pc := 304) dX10_undo_304 rfl ?_
      refine x_ialdN (pc := 305) dX10_undo_305 (by first | assumption | rfl) (by first | with_reducible rfl | (simp only [xlit, nI_add, pk_mul]; with_reducible rfl)) (by omega) (by decide) ?_
      refine x_iastN (pc := 306) dX10_undo_306 (by first | assumption | rfl) (by first | with_reducible rfl | (simp only [xlit, nI_add, pk_mul]; with_reducible rfl)) (by omega) (by decide) ?_
      first | (guard_target =~ Wp _ _ _ _ (_ :: some (Value.int (nI _)) :: _) _ _ _ _ _; with_reducible refine x_iincN (pc := 307) 1 ic_1 dX10_undo_307 ?_ xg_1 xs_1 ?_ ?_; decide; exact (x_hp rfl)) | refine x_iincC (pc := 307) ic_1 dX10_undo_307 (by decide) rfl xs_1 (x_hp rfl) ?_
      refine x_goto (pc := 310) (tgt := 277) dX10_undo_310 (by decide) ?_
      refine wp_mem ?_ (ih (k + 1) (by omega))
      refine Prod.ext (funext fun a => funext fun j => ?_) rfl
      by_cases hj : j = k
      · subst hj
        by_cases a0 : a = 93
        · subst a0; simp [cpL, xput, List.lookup]
        by_cases a1 : a = 94
        · subst a1; simp [cpL, xput, List.lookup]
        simp [cpL, xput, List.lookup, a0, show (a == 93) = false from beq_false_of_ne a0, a1, show (a == 94) = false from beq_false_of_ne a1]
      · have e : (j < k + 1) ↔ (j < k) := by omega
        simp [cpL, xput, hj, e]
end P67
