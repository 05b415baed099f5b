/-! ACTS of the program: run, perform, actOf, the trace -/
/-- no more bodies than the levels bear -/
theorem aRun_len (i v : Int32) (kd : Nat) : ∀ n f a x, (aRun i v kd n f a x).2.length + 1 ≤ 2 ^ n := by
  intro n
  induction n with
  | zero => intro f a x; exact Nat.le_refl 1
  | succ n ih =>
    intro f a x
    have h1 : 0 < 2 ^ n := Nat.two_pow_pos n
    have e : 2 ^ (n + 1) = 2 ^ n + 2 ^ n := by rw [Nat.pow_succ]; omega
    show (aStep i v kd (aRun i v kd n) (aBody f a) x).2.length + 1 + 1 ≤ 2 ^ (n + 1)
    have key : (aStep i v kd (aRun i v kd n) (aBody f a) x).2.length + 2 ≤ 2 ^ n + 2 ^ n := by
      unfold aStep
      split <;> (try simp only [List.length_append, List.length_nil])
      all_goals first
        | omega
        | (have := ih kd 0 x; omega)
        | (have := ih kd 1 x; omega)
        | (have := ih 0 1 x; omega)
        | (have := ih 0 0 (x * nI 3); omega)
        | (have := ih 0 2 x; have := ih kd 1 (nI 1); omega)
        | (have := ih 1 0 x; omega)
        | (have := ih 1 1 (x + nI 1); omega)
        | (have := ih 2 2 (x - i); omega)
        | (have := ih 3 1 x; have := ih 3 0 (nI 2); omega)
        | (have := ih 3 0 x; omega)
    omega
section P15
variable {g : XG} {d : Nat} {M : XM} {K : Option Value → XS → XM → Prop} {i v : Int32} {kd n : Nat}
theorem sp_X0_run (hm : aMet g d i v kd n) {b : Nat} {x : Int32} {l : List Nat} (hn : n ≤ 13) (hkd : kd < 7) (hb : b ∈ [10, 11, 12, 20, 30, 40, 50, 51, 60, 70, 71]) (ht : aTr M l) (hw : aWho M i v kd) (hl : l.length + 2 ^ (n + 1) < 20001)
    (h : ∀ M', aTr M' (l ++ (aStep i v kd (aRun i v kd n) b x).2) → aWho M' i v kd → aSame M M' → K (some (.int (aStep i v kd (aRun i v kd n) b x).1)) xSF M') :
    Ex g (d + 1) yX0_run mX0_run [.ref 59, .int (nI b), .int x, .int (nI (13 - n))] xSF M K := by
  refine x_entry kX0_run (Nat.le_of_ble_eq_true rfl) ?_
  show Wp g _ mX0_run 0 [some (.ref 59), some (.int (nI b)), some (.int x), some (.int (nI (13 - n)))] [] _ _ _ _
  have hp2 : 2 ^ (n + 1) = 2 ^ n + 2 ^ n := by rw [Nat.pow_succ]; omega
  have h02 : 0 < 2 ^ n := Nat.two_pow_pos n
  have hl1 : l.length + 2 ^ n < 20000 := by omega
  refine x_iload_n (pc := 0) dX0_run_0 rfl ?_
  simp only [List.mem_cons, List.not_mem_nil, or_false] at hb
  rcases hb with rfl | rfl | rfl | rfl | rfl | rfl | rfl | rfl | rfl | rfl | rfl
  · refine x_lookup (pc := 1) (off := 99) (tgt := 100) dX0_run_1 (by decide +kernel) (by decide +kernel) (by decide) ?_
    refine x_iload_n (pc := 100) dX0_run_100 rfl ?_
    refine x_aload_n (pc := 101) dX0_run_101 rfl ?_
    refine x_getI (pc := 102) dX0_run_102 flX0_19 (by first | assumption | rfl) rfl ?_
    rw [hw.1]
    first | (guard_target =~ Wp _ _ _ _ _ (Value.int (nI _) :: Value.int (nI _) :: _) _ _ _ _; with_reducible refine x_iaddN (pc := 105) dX0_run_105 ?_) | refine x_iadd (pc := 105) dX0_run_105 ?_
    refine x_ret (pc := 106) (v := some _) rfl trivial dX0_run_106 (by decide) ?_
    refine h M ?_ hw aSame.rf
    show aTr M (l ++ [])
    rw [List.append_nil]; exact ht
  · refine x_lookup (pc := 1) (off := 106) (tgt := 107) dX0_run_1 (by decide +kernel) (by decide +kernel) (by decide) ?_
    refine x_aload_n (pc := 107) dX0_run_107 rfl ?_
    refine x_aload_n (pc := 108) dX0_run_108 rfl ?_
    refine x_getI (pc := 109) dX0_run_109 flX0_22 (by first | assumption | rfl) rfl ?_
    rw [hw.2.1]
    refine x_iconstN (pc := 112) 0 dX0_run_112 ic_0 ?_
    refine x_iload_n (pc := 113) dX0_run_113 rfl ?_
    refine x_iload_n (pc := 114) dX0_run_114 rfl ?_
    refine x_invV4 (pc := 115) dX0_run_115 mlX0_28 imX0_perform seX0_perform kX0_perform (by first | assumption | rfl) rfl (Nat.le_of_ble_eq_true rfl) (by decide) ?_
    refine hm kd 0 x M l _ (by omega) (by decide) hn ht hw hl1 (fun M1 t1 w1 s1 => ?_)
    refine x_cv rfl rfl ?_
    refine x_aload_n (pc := 118) dX0_run_118 rfl ?_
    refine x_getI (pc := 119) dX0_run_119 flX0_25 (by first | assumption | rfl) rfl ?_
    rw [w1.2.2]
    first | (guard_target =~ Wp _ _ _ _ _ (Value.int (nI _) :: Value.int (nI _) :: _) _ _ _ _; with_reducible refine x_isubN (pc := 122) ?_ dX0_run_122 ?_; omega) | refine x_isub (pc := 122) dX0_run_122 ?_
    refine x_ret (pc := 123) (v := some _) rfl trivial dX0_run_123 (by decide) ?_
    exact h M1 t1 w1 s1
  · refine x_lookup (pc := 1) (off := 123) (tgt := 124) dX0_run_1 (by decide +kernel) (by decide +kernel) (by decide) ?_
    refine x_aload_n (pc := 124) dX0_run_124 rfl ?_
    refine x_aload_n (pc := 125) dX0_run_125 rfl ?_
    refine x_getI (pc := 126) dX0_run_126 flX0_22 (by first | assumption | rfl) rfl ?_
    rw [hw.2.1]
    refine x_iconstN (pc := 129) 1 dX0_run_129 ic_1 ?_
    refine x_iload_n (pc := 130) dX0_run_130 rfl ?_
    refine x_iload_n (pc := 131) dX0_run_131 rfl ?_
    refine x_invV4 (pc := 132) dX0_run_132 mlX0_28 imX0_perform seX0_perform kX0_perform (by first | assumption | rfl) rfl (Nat.le_of_ble_eq_true rfl) (by decide) ?_
    refine hm kd 1 x M l _ (by omega) (by decide) hn ht hw hl1 (fun M1 t1 w1 s1 => ?_)
    refine x_cv rfl rfl ?_
    refine x_iconstN (pc := 135) 2 dX0_run_135 ic_2 ?_
    first | (guard_target =~ Wp _ _ _ _ _ (Value.int (nI _) :: Value.int (nI _) :: _) _ _ _ _; with_reducible refine x_imulN (pc := 136) dX0_run_136 ?_) | refine x_imul (pc := 136) dX0_run_136 ?_
    refine x_ret (pc := 137) (v := some _) rfl trivial dX0_run_137 (by decide) ?_
    exact h M1 t1 w1 s1
  · refine x_lookup (pc := 1) (off := 137) (tgt := 138) dX0_run_1 (by decide +kernel) (by decide +kernel) (by decide) ?_
    refine x_aload_n (pc := 138) dX0_run_138 rfl ?_
    refine x_iconstN (pc := 139) 0 dX0_run_139 ic_0 ?_
    refine x_iconstN (pc := 140) 1 dX0_run_140 ic_1 ?_
    refine x_iload_n (pc := 141) dX0_run_141 rfl ?_
    refine x_iload_n (pc := 142) dX0_run_142 rfl ?_
    refine x_invV4 (pc := 143) dX0_run_143 mlX0_28 imX0_perform seX0_perform kX0_perform (by first | assumption | rfl) rfl (Nat.le_of_ble_eq_true rfl) (by decide) ?_
    refine hm 0 1 x M l _ (by omega) (by decide) hn ht hw hl1 (fun M1 t1 w1 s1 => ?_)
    refine x_cv rfl rfl ?_
    refine x_bipushN (pc := 146) 6 dX0_run_146 bp_6 ?_
    first | (guard_target =~ Wp _ _ _ _ _ (Value.int (nI _) :: Value.int (nI _) :: _) _ _ _ _; with_reducible refine x_ixorN (pc := 148) dX0_run_148 ?_) | refine x_ixor (pc := 148) dX0_run_148 ?_
    refine x_ret (pc := 149) (v := some _) rfl trivial dX0_run_149 (by decide) ?_
    exact h M1 t1 w1 s1
  · refine x_lookup (pc := 1) (off := 149) (tgt := 150) dX0_run_1 (by decide +kernel) (by decide +kernel) (by decide) ?_
    refine x_aload_n (pc := 150) dX0_run_150 rfl ?_
    refine x_iconstN (pc := 151) 0 dX0_run_151 ic_0 ?_
    refine x_iconstN (pc := 152) 0 dX0_run_152 ic_0 ?_
    refine x_iload_n (pc := 153) dX0_run_153 rfl ?_
    refine x_iconstN (pc := 154) 3 dX0_run_154 ic_3 ?_
    first | (guard_target =~ Wp _ _ _ _ _ (Value.int (nI _) :: Value.int (nI _) :: _) _ _ _ _; with_reducible refine x_imulN (pc := 155) dX0_run_155 ?_) | refine x_imul (pc := 155) dX0_run_155 ?_
    refine x_iload_n (pc := 156) dX0_run_156 rfl ?_
    refine x_invV4 (pc := 157) dX0_run_157 mlX0_28 imX0_perform seX0_perform kX0_perform (by first | assumption | rfl) rfl (Nat.le_of_ble_eq_true rfl) (by decide) ?_
    refine hm 0 0 (x * nI 3) M l _ (by omega) (by decide) hn ht hw hl1 (fun M1 t1 w1 s1 => ?_)
    refine x_cv rfl rfl ?_
    refine x_ret (pc := 160) (v := some _) rfl trivial dX0_run_160 (by decide) ?_
    exact h M1 t1 w1 s1
  · refine x_lookup (pc := 1) (off := 160) (tgt := 161) dX0_run_1 (by decide +kernel) (by decide +kernel) (by decide) ?_
    refine x_aload_n (pc := 161) dX0_run_161 rfl ?_
    refine x_iconstN (pc := 162) 0 dX0_run_162 ic_0 ?_
    refine x_iconstN (pc := 163) 2 dX0_run_163 ic_2 ?_
    refine x_iload_n (pc := 164) dX0_run_164 rfl ?_
    refine x_iload_n (pc := 165) dX0_run_165 rfl ?_
    refine x_invV4 (pc := 166) dX0_run_166 mlX0_28 imX0_perform seX0_perform kX0_perform (by first | assumption | rfl) rfl (Nat.le_of_ble_eq_true rfl) (by decide) ?_
    refine hm 0 2 x M l _ (by omega) (by decide) hn ht hw hl1 (fun M1 t1 w1 s1 => ?_)
    refine x_cv rfl rfl ?_
    refine x_aload_n (pc := 169) dX0_run_169 rfl ?_
    refine x_aload_n (pc := 170) dX0_run_170 rfl ?_
    refine x_getI (pc := 171) dX0_run_171 flX0_22 (by first | assumption | rfl) rfl ?_
    rw [w1.2.1]
    refine x_iconstN (pc := 174) 1 dX0_run_174 ic_1 ?_
    refine x_iconstN (pc := 175) 1 dX0_run_175 ic_1 ?_
    refine x_iload_n (pc := 176) dX0_run_176 rfl ?_
    refine x_invV4 (pc := 177) dX0_run_177 mlX0_28 imX0_perform seX0_perform kX0_perform (by first | assumption | rfl) rfl (Nat.le_of_ble_eq_true rfl) (by decide) ?_
    have hl2 := aRun_len i v kd n 0 2 x
    refine hm kd 1 (nI 1) M1 _ _ (by omega) (by decide) hn t1 w1 (by rw [List.length_append]; omega) (fun M2 t2 w2 s2 => ?_)
    refine x_cv rfl rfl ?_
    first | (guard_target =~ Wp _ _ _ _ _ (Value.int (nI _) :: Value.int (nI _) :: _) _ _ _ _; with_reducible refine x_iaddN (pc := 180) dX0_run_180 ?_) | refine x_iadd (pc := 180) dX0_run_180 ?_
    refine x_ret (pc := 181) (v := some _) rfl trivial dX0_run_181 (by decide) ?_
    refine h M2 ?_ w2 (s1.tr s2)
    show aTr M2 (l ++ (_ ++ _))
    rw [← List.append_assoc]; exact t2
  · refine x_lookup (pc := 1) (off := 181) (tgt := 182) dX0_run_1 (by decide +kernel) (by decide +kernel) (by decide) ?_
    refine x_aload_n (pc := 182) dX0_run_182 rfl ?_
    refine x_iconstN (pc := 183) 1 dX0_run_183 ic_1 ?_
    refine x_iconstN (pc := 184) 0 dX0_run_184 ic_0 ?_
    refine x_iload_n (pc := 185) dX0_run_185 rfl ?_
    refine x_iload_n (pc := 186) dX0_run_186 rfl ?_
    refine x_invV4 (pc := 187) dX0_run_187 mlX0_28 imX0_perform seX0_perform kX0_perform (by first | assumption | rfl) rfl (Nat.le_of_ble_eq_true rfl) (by decide) ?_
    refine hm 1 0 x M l _ (by omega) (by decide) hn ht hw hl1 (fun M1 t1 w1 s1 => ?_)
    refine x_cv rfl rfl ?_
    refine x_ineg (pc := 190) dX0_run_190 ?_
    refine x_ret (pc := 191) (v := some _) rfl trivial dX0_run_191 (by decide) ?_
    exact h M1 t1 w1 s1
  · refine x_lookup (pc := 1) (off := 191) (tgt := 192) dX0_run_1 (by decide +kernel) (by decide +kernel) (by decide) ?_
    refine x_aload_n (pc := 192) dX0_run_192 rfl ?_
    refine x_iconstN (pc := 193) 1 dX0_run_193 ic_1 ?_
    refine x_iconstN (pc := 194) 1 dX0_run_194 ic_1 ?_
    refine x_iload_n (pc := 195) dX0_run_195 rfl ?_
    refine x_iconstN (pc := 196) 1 dX0_run_196 ic_1 ?_
    first | (guard_target =~ Wp _ _ _ _ _ (Value.int (nI _) :: Value.int (nI _) :: _) _ _ _ _; with_reducible refine x_iaddN (pc := 197) dX0_run_197 ?_) | refine x_iadd (pc := 197) dX0_run_197 ?_
    refine x_iload_n (pc := 198) dX0_run_198 rfl ?_
    refine x_invV4 (pc := 199) dX0_run_199 mlX0_28 imX0_perform seX0_perform kX0_perform (by first | assumption | rfl) rfl (Nat.le_of_ble_eq_true rfl) (by decide) ?_
    refine hm 1 1 (x + nI 1) M l _ (by omega) (by decide) hn ht hw hl1 (fun M1 t1 w1 s1 => ?_)
    refine x_cv rfl rfl ?_
    refine x_ret (pc := 202) (v := some _) rfl trivial dX0_run_202 (by decide) ?_
    exact h M1 t1 w1 s1
  · refine x_lookup (pc := 1) (off := 202) (tgt := 203) dX0_run_1 (by decide +kernel) (by decide +kernel) (by decide) ?_
    refine x_aload_n (pc := 203) dX0_run_203 rfl ?_
    refine x_iconstN (pc := 204) 2 dX0_run_204 ic_2 ?_
    refine x_iconstN (pc := 205) 2 dX0_run_205 ic_2 ?_
    refine x_iload_n (pc := 206) dX0_run_206 rfl ?_
    refine x_aload_n (pc := 207) dX0_run_207 rfl ?_
    refine x_getI (pc := 208) dX0_run_208 flX0_19 (by first | assumption | rfl) rfl ?_
    rw [hw.1]
    first | (guard_target =~ Wp _ _ _ _ _ (Value.int (nI _) :: Value.int (nI _) :: _) _ _ _ _; with_reducible refine x_isubN (pc := 211) ?_ dX0_run_211 ?_; omega) | refine x_isub (pc := 211) dX0_run_211 ?_
    refine x_iload_n (pc := 212) dX0_run_212 rfl ?_
    refine x_invV4 (pc := 213) dX0_run_213 mlX0_28 imX0_perform seX0_perform kX0_perform (by first | assumption | rfl) rfl (Nat.le_of_ble_eq_true rfl) (by decide) ?_
    refine hm 2 2 (x - i) M l _ (by omega) (by decide) hn ht hw hl1 (fun M1 t1 w1 s1 => ?_)
    refine x_cv rfl rfl ?_
    refine x_ret (pc := 216) (v := some _) rfl trivial dX0_run_216 (by decide) ?_
    exact h M1 t1 w1 s1
  · refine x_lookup (pc := 1) (off := 216) (tgt := 217) dX0_run_1 (by decide +kernel) (by decide +kernel) (by decide) ?_
    refine x_aload_n (pc := 217) dX0_run_217 rfl ?_
    refine x_iconstN (pc := 218) 3 dX0_run_218 ic_3 ?_
    refine x_iconstN (pc := 219) 1 dX0_run_219 ic_1 ?_
    refine x_iload_n (pc := 220) dX0_run_220 rfl ?_
    refine x_iload_n (pc := 221) dX0_run_221 rfl ?_
    refine x_invV4 (pc := 222) dX0_run_222 mlX0_28 imX0_perform seX0_perform kX0_perform (by first | assumption | rfl) rfl (Nat.le_of_ble_eq_true rfl) (by decide) ?_
    refine hm 3 1 x M l _ (by omega) (by decide) hn ht hw hl1 (fun M1 t1 w1 s1 => ?_)
    refine x_cv rfl rfl ?_
    refine x_aload_n (pc := 225) dX0_run_225 rfl ?_
    refine x_iconstN (pc := 226) 3 dX0_run_226 ic_3 ?_
    refine x_iconstN (pc := 227) 0 dX0_run_227 ic_0 ?_
    refine x_iconstN (pc := 228) 2 dX0_run_228 ic_2 ?_
    refine x_iload_n (pc := 229) dX0_run_229 rfl ?_
    refine x_invV4 (pc := 230) dX0_run_230 mlX0_28 imX0_perform seX0_perform kX0_perform (by first | assumption | rfl) rfl (Nat.le_of_ble_eq_true rfl) (by decide) ?_
    have hl2 := aRun_len i v kd n 3 1 x
    refine hm 3 0 (nI 2) M1 _ _ (by omega) (by decide) hn t1 w1 (by rw [List.length_append]; omega) (fun M2 t2 w2 s2 => ?_)
    refine x_cv rfl rfl ?_
    first | (guard_target =~ Wp _ _ _ _ _ (Value.int (nI _) :: Value.int (nI _) :: _) _ _ _ _; with_reducible refine x_iaddN (pc := 233) dX0_run_233 ?_) | refine x_iadd (pc := 233) dX0_run_233 ?_
    refine x_ret (pc := 234) (v := some _) rfl trivial dX0_run_234 (by decide) ?_
    refine h M2 ?_ w2 (s1.tr s2)
    show aTr M2 (l ++ (_ ++ _))
    rw [← List.append_assoc]; exact t2
  · refine x_lookup (pc := 1) (off := 234) (tgt := 235) dX0_run_1 (by decide +kernel) (by decide +kernel) (by decide) ?_
    refine x_aload_n (pc := 235) dX0_run_235 rfl ?_
    refine x_iconstN (pc := 236) 3 dX0_run_236 ic_3 ?_
    refine x_iconstN (pc := 237) 0 dX0_run_237 ic_0 ?_
    refine x_iload_n (pc := 238) dX0_run_238 rfl ?_
    refine x_iload_n (pc := 239) dX0_run_239 rfl ?_
    refine x_invV4 (pc := 240) dX0_run_240 mlX0_28 imX0_perform seX0_perform kX0_perform (by first | assumption | rfl) rfl (Nat.le_of_ble_eq_true rfl) (by decide) ?_
    refine hm 3 0 x M l _ (by omega) (by decide) hn ht hw hl1 (fun M1 t1 w1 s1 => ?_)
    refine x_cv rfl rfl ?_
    refine x_aload_n (pc := 243) dX0_run_243 rfl ?_
    refine x_getI (pc := 244) dX0_run_244 flX0_25 (by first | assumption | rfl) rfl ?_
    rw [w1.2.2]
    first | (guard_target =~ Wp _ _ _ _ _ (Value.int (nI _) :: Value.int (nI _) :: _) _ _ _ _; with_reducible refine x_ixorN (pc := 247) dX0_run_247 ?_) | refine x_ixor (pc := 247) dX0_run_247 ?_
    refine x_ret (pc := 248) (v := some _) rfl trivial dX0_run_248 (by decide) ?_
    exact h M1 t1 w1 s1
/-- one level: the loop that looks for the body, then the body -/
theorem aBO_done {act : Nat} {b : Nat} (hb : ¬ b = 0) : ∀ n o, aBO act n b o = b := by
  intro n o
  cases n with
  | zero => rfl
  | succ n => simp [aBO, hb]
theorem aTr_push {M : XM} {l : List Nat} {b : Nat} (ht : aTr M l) (hl : l.length + 1 < 20000) :
    aTr (if l.length < 20 then xput (xput M 60 l.length (nI b)) 59 1 (nI (l.length + 1)) else xput M 59 1 (nI (l.length + 1))) (l ++ [b]) := by
  obtain ⟨t1, t2, t3⟩ := ht
  refine ⟨?_, by rw [List.length_append]; exact hl, fun j hj hjl => ?_⟩
  · rw [List.length_append]
    split <;> simp [xput]
  · rw [List.length_append] at hjl
    have hjl2 : j < l.length + 1 := hjl
    rw [List.getD_eq_getElem?_getD]
    by_cases h1 : j < l.length
    · rw [List.getElem?_append_left h1, ← List.getD_eq_getElem?_getD, ← t3 j hj h1]
      have hne : ¬ j = l.length := by omega
      split <;> simp [xput, hne]
    · have h2 : j = l.length := by omega
      subst h2
      rw [List.getElem?_append_right (Nat.le_refl _), Nat.sub_self, if_pos hj]
      simp [xput]
theorem aWho_push {M : XM} {l : List Nat} {b : Nat} (hw : aWho M i v kd) : aWho (if l.length < 20 then xput (xput M 60 l.length (nI b)) 59 1 (nI (l.length + 1)) else xput M 59 1 (nI (l.length + 1))) i v kd := by
  obtain ⟨w1, w2, w3⟩ := hw
  split <;> exact ⟨by simp [xput, w1], by simp [xput, w2], by simp [xput, w3]⟩
theorem aSame_push {M : XM} {l : List Nat} {b : Nat} : aSame M (if l.length < 20 then xput (xput M 60 l.length (nI b)) 59 1 (nI (l.length + 1)) else xput M 59 1 (nI (l.length + 1))) := by
  split
  · exact ⟨fun q h1 h2 => by funext k; simp [xput, h1, h2], rfl⟩
  · exact ⟨fun q h1 h2 => by funext k; simp [xput, h1], rfl⟩
theorem aBody_pos {k a : Nat} (hk : k < 7) (ha : a < 3) : ¬ aBody k a = 0 ∧ aBody k a < 100 := by
  have h : ∀ k, k < 7 → ∀ a, a < 3 → (¬ aBody k a = 0 ∧ aBody k a < 100) := by decide +kernel
  exact h k hk a ha
theorem perform_loop {f act dep : Nat} {x : Int32} (hf : f < 7) (ha : act < 3)
    (h : Wp g (d + 2) mX0_perform 60 [some (.ref 59), some (.int (nI f)), some (.int (nI act)), some (.int x), some (.int (nI dep)), some (.int (nI (aBody f act))), none, none] [] xSF (0, 0) M K)
    (hweak : ∀ o7 o8 : Option Value, Wp g (d + 2) mX0_perform 60 [some (.ref 59), some (.int (nI f)), some (.int (nI act)), some (.int x), some (.int (nI dep)), some (.int (nI (aBody f act))), o7, o8] [] xSF (0, 0) M K) :
    Wp g (d + 2) mX0_perform 9 [some (.ref 59), some (.int (nI f)), some (.int (nI act)), some (.int x), some (.int (nI dep)), some (.int (nI 0)), some (.int (nI f)), some (.int (nI 0))] [] xSF (0, 0) M K := by
  have loop : ∀ m j b (o : Option Nat), j + m = 3 → (∀ k, o = some k → k < 7) → b < 100 → aBO act m b o = aBody f act → Wp g (d + 2) mX0_perform 9 [some (.ref 59), some (.int (nI f)), some (.int (nI act)), some (.int x), some (.int (nI dep)), some (.int (nI b)), some (.int (oI o)), some (.int (nI j))] [] xSF (0, 0) M K := by
    intro m
    induction m with
    | zero =>
      intro j b o hj ho hb he
      refine x_iload (pc := 9) dX0_perform_9 rfl ?_
      refine x_iconstN (pc := 11) 3 dX0_perform_11 ic_3 ?_
      first | (guard_target =~ Wp _ _ _ _ _ (Value.int (nI _) :: Value.int (nI _) :: _) _ _ _ _; with_reducible refine x_icmp_geN (pc := 12) (tgt := 60) ?_ ?_ dX0_perform_12 ?_ (fun h12 => ?_) (fun h12 => ?_); (first | omega | exact b2n_31 _); (first | omega | exact b2n_31 _); decide) | refine x_icmp_ge (pc := 12) (tgt := 60) dX0_perform_12 (by decide) (fun h12 => ?_) (fun h12 => ?_)
      · skip
        rw [show b = aBody f act from he]; exact hweak _ _
      · skip
        omega
    | succ m ih =>
      intro j b o hj ho hb he
      by_cases hb0 : b = 0
      · subst hb0
        simp only [aBO, if_true] at he
        cases o with
        | none =>
          exact absurd he.symm (aBody_pos hf ha).1
        | some k =>
          have hk := ho k rfl
          obtain ⟨e1, e2⟩ := kBT_tab k hk act ha
          show Wp g _ _ 9 [some (.ref 59), some (.int (nI f)), some (.int (nI act)), some (.int x), some (.int (nI dep)), some (.int (nI 0)), some (.int (nI k)), some (.int (nI j))] [] xSF (0, 0) M K
          refine x_iload (pc := 9) dX0_perform_9 rfl ?_
          refine x_iconstN (pc := 11) 3 dX0_perform_11 ic_3 ?_
          first | (guard_target =~ Wp _ _ _ _ _ (Value.int (nI _) :: Value.int (nI _) :: _) _ _ _ _; with_reducible refine x_icmp_geN (pc := 12) (tgt := 60) ?_ ?_ dX0_perform_12 ?_ (fun h12 => ?_) (fun h12 => ?_); (first | omega | exact b2n_31 _); (first | omega | exact b2n_31 _); decide) | refine x_icmp_ge (pc := 12) (tgt := 60) dX0_perform_12 (by decide) (fun h12 => ?_) (fun h12 => ?_)
          · skip
            omega
          · skip
            refine x_iload (pc := 15) dX0_perform_15 rfl ?_
            first | (guard_target =~ Wp _ _ _ _ _ (Value.int (nI _) :: _) _ _ _ _; with_reducible refine x_if_neN (pc := 17) (tgt := 60) ?_ dX0_perform_17 ?_ (fun h17 => ?_) (fun h17 => ?_); (first | omega | exact b2n_32 _ | exact b2n_31 _); decide) | refine x_if_ne (pc := 17) (tgt := 60) dX0_perform_17 (by decide) (fun h17 => ?_) (fun h17 => ?_)
            · skip
              exact absurd rfl h17
            · skip
              refine x_iload (pc := 20) dX0_perform_20 rfl ?_
              refine x_invS1 (pc := 22) dX0_perform_22 mlX0_32 stX4_isKind kX4_isKind (Nat.le_of_ble_eq_true rfl) (by decide) ?_
              refine sp_X4_isKind (c := nI k) ?_
              refine x_cv rfl rfl ?_
              rw [isR7 hk]
              first | (guard_target =~ Wp _ _ _ _ _ (Value.int (nI _) :: _) _ _ _ _; with_reducible refine x_if_eqN (pc := 25) (tgt := 60) ?_ dX0_perform_25 ?_ (fun h25 => ?_) (fun h25 => ?_); (first | omega | exact b2n_32 _ | exact b2n_31 _); decide) | refine x_if_eq (pc := 25) (tgt := 60) dX0_perform_25 (by decide) (fun h25 => ?_) (fun h25 => ?_)
              · skip
                exact absurd h25 (by decide)
              · skip
                refine x_iload_n (pc := 28) dX0_perform_28 rfl ?_
                refine x_invS1 (pc := 29) dX0_perform_29 mlX0_38 stX0_isAct kX0_isAct (Nat.le_of_ble_eq_true rfl) (by decide) ?_
                refine sp_X0_isAct (c := nI act) ?_
                refine x_cv rfl rfl ?_
                rw [isR3 ha]
                first | (guard_target =~ Wp _ _ _ _ _ (Value.int (nI _) :: _) _ _ _ _; with_reducible refine x_if_eqN (pc := 32) (tgt := 60) ?_ dX0_perform_32 ?_ (fun h32 => ?_) (fun h32 => ?_); (first | omega | exact b2n_32 _ | exact b2n_31 _); decide) | refine x_if_eq (pc := 32) (tgt := 60) dX0_perform_32 (by decide) (fun h32 => ?_) (fun h32 => ?_)
                · skip
                  exact absurd h32 (by decide)
                · skip
                  refine x_getsA (pc := 35) 0 (by decide) dX0_perform_35 flX0_41 ?_
                  refine x_iload (pc := 38) dX0_perform_38 rfl ?_
                  refine x_iconstN (pc := 40) 3 dX0_perform_40 ic_3 ?_
                  first | (guard_target =~ Wp _ _ _ _ _ (Value.int (nI _) :: Value.int (nI _) :: _) _ _ _ _; with_reducible refine x_imulN (pc := 41) dX0_perform_41 ?_) | refine x_imul (pc := 41) dX0_perform_41 ?_
                  refine x_iload_n (pc := 42) dX0_perform_42 rfl ?_
                  first | (guard_target =~ Wp _ _ _ _ _ (Value.int (nI _) :: Value.int (nI _) :: _) _ _ _ _; with_reducible refine x_iaddN (pc := 43) dX0_perform_43 ?_) | refine x_iadd (pc := 43) dX0_perform_43 ?_
                  refine x_tiN (pc := 44) (by decide) dX0_perform_44 (by first | with_reducible rfl | (simp only [xlit, nI_add, pk_mul]; with_reducible rfl)) (by show k * 3 + act < 21; omega) ?_
                  rw [e1]
                  refine x_istore (pc := 45) dX0_perform_45 (by decide) xs_5 (x_hp rfl) ?_
                  refine x_iload (pc := 47) dX0_perform_47 rfl ?_
                  refine x_invS1 (pc := 49) dX0_perform_49 mlX0_44 stX4_above kX4_above (Nat.le_of_ble_eq_true rfl) (by decide) ?_
                  refine sp_X4_above (o := some k) (fun q hq => by cases hq; exact hk) ?_
                  refine x_cv rfl rfl ?_
                  refine x_istore (pc := 52) dX0_perform_52 (by decide) xs_6 (x_hp rfl) ?_
                  first | (guard_target =~ Wp _ _ _ _ (_ :: _ :: _ :: _ :: _ :: _ :: _ :: some (Value.int (nI _)) :: _) _ _ _ _ _; with_reducible refine x_iincN (pc := 54) 1 ic_1 dX0_perform_54 ?_ xg_7 xs_7 ?_ ?_; decide; exact (x_hp rfl)) | refine x_iincC (pc := 54) ic_1 dX0_perform_54 (by decide) rfl xs_7 (x_hp rfl) ?_
                  refine x_goto (pc := 57) (tgt := 9) dX0_perform_57 (by decide) ?_
                  exact ih (j + 1) (kBT k act) (kAb k) (by omega) (kAb_lt k hk) e2 he
      · rw [aBO_done hb0] at he
        refine x_iload (pc := 9) dX0_perform_9 rfl ?_
        refine x_iconstN (pc := 11) 3 dX0_perform_11 ic_3 ?_
        first | (guard_target =~ Wp _ _ _ _ _ (Value.int (nI _) :: Value.int (nI _) :: _) _ _ _ _; with_reducible refine x_icmp_geN (pc := 12) (tgt := 60) ?_ ?_ dX0_perform_12 ?_ (fun h12 => ?_) (fun h12 => ?_); (first | omega | exact b2n_31 _); (first | omega | exact b2n_31 _); decide) | refine x_icmp_ge (pc := 12) (tgt := 60) dX0_perform_12 (by decide) (fun h12 => ?_) (fun h12 => ?_)
        · skip
          omega
        · skip
          refine x_iload (pc := 15) dX0_perform_15 rfl ?_
          first | (guard_target =~ Wp _ _ _ _ _ (Value.int (nI _) :: _) _ _ _ _; with_reducible refine x_if_neN (pc := 17) (tgt := 60) ?_ dX0_perform_17 ?_ (fun h17 => ?_) (fun h17 => ?_); (first | omega | exact b2n_32 _ | exact b2n_31 _); decide) | refine x_if_ne (pc := 17) (tgt := 60) dX0_perform_17 (by decide) (fun h17 => ?_) (fun h17 => ?_)
          · skip
            rw [he]; exact hweak _ _
          · skip
            exact absurd h17 hb0
  exact loop 3 0 0 (some f) rfl (fun q hq => by cases hq; exact hf) (by decide) rfl
theorem aMet_0 : aMet g (d + 2) i v kd 0 := by
  intro f act x M l K hf ha hn ht hw hl h
  refine x_entry kX0_perform (Nat.le_of_ble_eq_true rfl) ?_
  show Wp g _ mX0_perform 0 [some (.ref 59), some (.int (nI f)), some (.int (nI act)), some (.int x), some (.int (nI 13)), none, none, none] [] _ _ _ _
  obtain ⟨hb0, hb1⟩ := aBody_pos hf ha
  have key : ∀ o7 o8 : Option Value, Wp g (d + 2) mX0_perform 60 [some (.ref 59), some (.int (nI f)), some (.int (nI act)), some (.int x), some (.int (nI 13)), some (.int (nI (aBody f act))), o7, o8] [] xSF (0, 0) M K := by
    intro o7 o8
    refine x_iload (pc := 60) dX0_perform_60 rfl ?_
    first | (guard_target =~ Wp _ _ _ _ _ (Value.int (nI _) :: _) _ _ _ _; with_reducible refine x_if_eqN (pc := 62) (tgt := 72) ?_ dX0_perform_62 ?_ (fun h62 => ?_) (fun h62 => ?_); (first | omega | exact b2n_32 _ | exact b2n_31 _); decide) | refine x_if_eq (pc := 62) (tgt := 72) dX0_perform_62 (by decide) (fun h62 => ?_) (fun h62 => ?_)
    · skip
      exact absurd h62 hb0
    · skip
      refine x_iload (pc := 65) dX0_perform_65 rfl ?_
      refine x_bipushN (pc := 67) 12 dX0_perform_67 bp_12 ?_
      first | (guard_target =~ Wp _ _ _ _ _ (Value.int (nI _) :: Value.int (nI _) :: _) _ _ _ _; with_reducible refine x_icmp_leN (pc := 69) (tgt := 74) ?_ ?_ dX0_perform_69 ?_ (fun h69 => ?_) (fun h69 => ?_); (first | omega | exact b2n_31 _); (first | omega | exact b2n_31 _); decide) | refine x_icmp_le (pc := 69) (tgt := 74) dX0_perform_69 (by decide) (fun h69 => ?_) (fun h69 => ?_)
      · skip
        omega
      · skip
        refine x_iconstN (pc := 72) 0 dX0_perform_72 ic_0 ?_
        refine x_ret (pc := 73) (v := some _) rfl trivial dX0_perform_73 (by decide) ?_
        exact h M (by show aTr M (l ++ []); rw [List.append_nil]; exact ht) hw aSame.rf
  refine x_iconstN (pc := 0) 0 dX0_perform_0 ic_0 ?_
  refine x_istore (pc := 1) dX0_perform_1 (by decide) xs_5 (x_hp rfl) ?_
  refine x_iload_n (pc := 3) dX0_perform_3 rfl ?_
  refine x_istore (pc := 4) dX0_perform_4 (by decide) xs_6 (x_hp rfl) ?_
  refine x_iconstN (pc := 6) 0 dX0_perform_6 ic_0 ?_
  refine x_istore (pc := 7) dX0_perform_7 (by decide) xs_7 (x_hp rfl) ?_
  exact perform_loop hf ha (key none none) key
theorem aMet_s (hm : aMet g d i v kd n) (hkd : kd < 7) : aMet g (d + 2) i v kd (n + 1) := by
  intro f act x M l K hf ha hn ht hw hl h
  refine x_entry kX0_perform (Nat.le_of_ble_eq_true rfl) ?_
  show Wp g _ mX0_perform 0 [some (.ref 59), some (.int (nI f)), some (.int (nI act)), some (.int x), some (.int (nI (13 - (n + 1)))), none, none, none] [] _ _ _ _
  obtain ⟨hb0, hb1⟩ := aBody_pos hf ha
  have h02 : 0 < 2 ^ n := Nat.two_pow_pos n
  have hp2 : 2 ^ (n + 1) = 2 ^ n + 2 ^ n := by rw [Nat.pow_succ]; omega
  have e1 := ht.1
  have key : ∀ o7 o8 : Option Value, Wp g (d + 2) mX0_perform 60 [some (.ref 59), some (.int (nI f)), some (.int (nI act)), some (.int x), some (.int (nI (13 - (n + 1)))), some (.int (nI (aBody f act))), o7, o8] [] xSF (0, 0) M K := by
    intro o7 o8
    have hrun : ∀ M', M' = (if l.length < 20 then xput (xput M 60 l.length (nI (aBody f act))) 59 1 (nI (l.length + 1)) else xput M 59 1 (nI (l.length + 1))) → Wp g (d + 2) mX0_perform 104 [some (.ref 59), some (.int (nI f)), some (.int (nI act)), some (.int x), some (.int (nI (13 - (n + 1)))), some (.int (nI (aBody f act))), o7, o8] [] xSF (0, 0) M' K := by
      intro M' hM
      subst hM
      have e2 : 13 - (n + 1) + 1 = 13 - n := by omega
      refine x_aload_n (pc := 104) dX0_perform_104 rfl ?_
      refine x_iload (pc := 105) dX0_perform_105 rfl ?_
      refine x_iload_n (pc := 107) dX0_perform_107 rfl ?_
      refine x_iload (pc := 108) dX0_perform_108 rfl ?_
      refine x_iconstN (pc := 110) 1 dX0_perform_110 ic_1 ?_
      first | (guard_target =~ Wp _ _ _ _ _ (Value.int (nI _) :: Value.int (nI _) :: _) _ _ _ _; with_reducible refine x_iaddN (pc := 111) dX0_perform_111 ?_) | refine x_iadd (pc := 111) dX0_perform_111 ?_
      rw [e2]
      refine x_invV3 (pc := 112) dX0_perform_112 mlX0_48 imX0_run seX0_run kX0_run (by first | assumption | rfl) rfl (Nat.le_of_ble_eq_true rfl) (by decide) ?_
      refine sp_X0_run hm (l := l ++ [aBody f act]) (by omega) hkd (aBody_in f hf act ha) (aTr_push ht (by omega)) (aWho_push hw) (by rw [List.length_append]; show l.length + 1 + _ < _; omega) (fun M2 t2 w2 s2 => ?_)
      refine x_cv rfl rfl ?_
      refine x_ret (pc := 115) (v := some _) rfl trivial dX0_perform_115 (by decide) ?_
      refine h M2 ?_ w2 (aSame_push.tr s2)
      rw [List.append_assoc] at t2
      exact t2
    refine x_iload (pc := 60) dX0_perform_60 rfl ?_
    first | (guard_target =~ Wp _ _ _ _ _ (Value.int (nI _) :: _) _ _ _ _; with_reducible refine x_if_eqN (pc := 62) (tgt := 72) ?_ dX0_perform_62 ?_ (fun h62 => ?_) (fun h62 => ?_); (first | omega | exact b2n_32 _ | exact b2n_31 _); decide) | refine x_if_eq (pc := 62) (tgt := 72) dX0_perform_62 (by decide) (fun h62 => ?_) (fun h62 => ?_)
    · skip
      exact absurd h62 hb0
    · skip
      refine x_iload (pc := 65) dX0_perform_65 rfl ?_
      refine x_bipushN (pc := 67) 12 dX0_perform_67 bp_12 ?_
      first | (guard_target =~ Wp _ _ _ _ _ (Value.int (nI _) :: Value.int (nI _) :: _) _ _ _ _; with_reducible refine x_icmp_leN (pc := 69) (tgt := 74) ?_ ?_ dX0_perform_69 ?_ (fun h69 => ?_) (fun h69 => ?_); (first | omega | exact b2n_31 _); (first | omega | exact b2n_31 _); decide) | refine x_icmp_le (pc := 69) (tgt := 74) dX0_perform_69 (by decide) (fun h69 => ?_) (fun h69 => ?_)
      · skip
        refine x_aload_n (pc := 74) dX0_perform_74 rfl ?_
        refine x_getI (pc := 75) dX0_perform_75 flX0_15 (by first | assumption | rfl) rfl ?_
        rw [e1]
        refine x_bipushN (pc := 78) 20 dX0_perform_78 bp_20 ?_
        first | (guard_target =~ Wp _ _ _ _ _ (Value.int (nI _) :: Value.int (nI _) :: _) _ _ _ _; with_reducible refine x_icmp_geN (pc := 80) (tgt := 94) ?_ ?_ dX0_perform_80 ?_ (fun h80 => ?_) (fun h80 => ?_); (first | omega | exact b2n_31 _); (first | omega | exact b2n_31 _); decide) | refine x_icmp_ge (pc := 80) (tgt := 94) dX0_perform_80 (by decide) (fun h80 => ?_) (fun h80 => ?_)
        · skip
          refine x_aload_n (pc := 94) dX0_perform_94 rfl ?_
          refine x_dup (pc := 95) dX0_perform_95 rfl ?_
          refine x_getI (pc := 96) dX0_perform_96 flX0_15 (by first | assumption | rfl) rfl ?_
          first | rw [e1] | rw [show (xput M 60 l.length (nI (aBody f act))).1 59 1 = nI l.length by simp [xput, e1]]
          refine x_iconstN (pc := 99) 1 dX0_perform_99 ic_1 ?_
          try rw [show (xput M 60 l.length (nI (aBody f act))).1 59 1 = nI l.length by simp [xput, e1]]
          first | (guard_target =~ Wp _ _ _ _ _ (Value.int (nI _) :: Value.int (nI _) :: _) _ _ _ _; with_reducible refine x_iaddN (pc := 100) dX0_perform_100 ?_) | refine x_iadd (pc := 100) dX0_perform_100 ?_
          refine x_putI (pc := 101) dX0_perform_101 flX0_15 (by first | assumption | rfl) rfl rfl rfl ?_
          exact hrun _ (by rw [if_neg (by omega)])
        · skip
          refine x_aload_n (pc := 83) dX0_perform_83 rfl ?_
          refine x_getR (pc := 84) dX0_perform_84 flX0_11 (by first | assumption | rfl) rfl ?_
          refine x_aload_n (pc := 87) dX0_perform_87 rfl ?_
          refine x_getI (pc := 88) dX0_perform_88 flX0_15 (by first | assumption | rfl) rfl ?_
          rw [e1]
          refine x_iload (pc := 91) dX0_perform_91 rfl ?_
          refine x_iastN (pc := 93) dX0_perform_93 (by first | assumption | rfl) (by first | with_reducible rfl | (simp only [xlit, nI_add, pk_mul]; with_reducible rfl)) (by omega) (by decide) ?_
          refine x_aload_n (pc := 94) dX0_perform_94 rfl ?_
          refine x_dup (pc := 95) dX0_perform_95 rfl ?_
          refine x_getI (pc := 96) dX0_perform_96 flX0_15 (by first | assumption | rfl) rfl ?_
          first | rw [e1] | rw [show (xput M 60 l.length (nI (aBody f act))).1 59 1 = nI l.length by simp [xput, e1]]
          refine x_iconstN (pc := 99) 1 dX0_perform_99 ic_1 ?_
          try rw [show (xput M 60 l.length (nI (aBody f act))).1 59 1 = nI l.length by simp [xput, e1]]
          first | (guard_target =~ Wp _ _ _ _ _ (Value.int (nI _) :: Value.int (nI _) :: _) _ _ _ _; with_reducible refine x_iaddN (pc := 100) dX0_perform_100 ?_) | refine x_iadd (pc := 100) dX0_perform_100 ?_
          refine x_putI (pc := 101) dX0_perform_101 flX0_15 (by first | assumption | rfl) rfl rfl rfl ?_
          exact hrun _ (by rw [if_pos (by omega)])
      · skip
        omega
  refine x_iconstN (pc := 0) 0 dX0_perform_0 ic_0 ?_
  refine x_istore (pc := 1) dX0_perform_1 (by decide) xs_5 (x_hp rfl) ?_
  refine x_iload_n (pc := 3) dX0_perform_3 rfl ?_
  refine x_istore (pc := 4) dX0_perform_4 (by decide) xs_6 (x_hp rfl) ?_
  refine x_iconstN (pc := 6) 0 dX0_perform_6 ic_0 ?_
  refine x_istore (pc := 7) dX0_perform_7 (by decide) xs_7 (x_hp rfl) ?_
  exact perform_loop hf ha (key none none) key
def dAct (d : Nat) : Nat → Nat
  | 0 => d + 2
  | n + 1 => dAct d n + 2
theorem aMet_all (hkd : kd < 7) : aMet g (dAct d n) i v kd n := by
  induction n with
  | zero => exact aMet_0
  | succ n ih => exact aMet_s ih hkd
/-- actOf: the whole of an act -/
theorem sp_X0_actOf {a : Nat} {x : Int32} (hkd : kd < 7) (ha : a < 3) (hran : M.1 59 1 = 0)
    (h : ∀ M', aTr M' (aRun i v kd 13 kd a x).2 → aSame M M' → K (some (.int (aRun i v kd 13 kd a x).1)) xSF M') : Ex g (dAct d 13 + 1) yX0_actOf mX0_actOf [.ref 59, .int i, .int (nI kd), .int v, .int (nI a), .int x] xSF M K := by
  refine x_entry kX0_actOf (Nat.le_of_ble_eq_true rfl) ?_
  show Wp g _ mX0_actOf 0 [some (.ref 59), some (.int i), some (.int (nI kd)), some (.int v), some (.int (nI a)), some (.int x)] [] _ _ _ _
  refine x_aload_n (pc := 0) dX0_actOf_0 rfl ?_
  refine x_iload_n (pc := 1) dX0_actOf_1 rfl ?_
  refine x_putI (pc := 2) dX0_actOf_2 flX0_19 (by first | assumption | rfl) rfl rfl rfl ?_
  refine x_aload_n (pc := 5) dX0_actOf_5 rfl ?_
  refine x_iload_n (pc := 6) dX0_actOf_6 rfl ?_
  refine x_putI (pc := 7) dX0_actOf_7 flX0_22 (by first | assumption | rfl) rfl rfl rfl ?_
  refine x_aload_n (pc := 10) dX0_actOf_10 rfl ?_
  refine x_iload_n (pc := 11) dX0_actOf_11 rfl ?_
  refine x_putI (pc := 12) dX0_actOf_12 flX0_25 (by first | assumption | rfl) rfl rfl rfl ?_
  refine x_aload_n (pc := 15) dX0_actOf_15 rfl ?_
  refine x_aload_n (pc := 16) dX0_actOf_16 rfl ?_
  refine x_getI (pc := 17) dX0_actOf_17 flX0_22 (by first | assumption | rfl) rfl ?_
  rw [show (xput (xput (xput M 59 2 i) 59 3 (nI kd)) 59 4 v).1 59 3 = nI kd by simp [xput]]
  refine x_iload (pc := 20) dX0_actOf_20 rfl ?_
  refine x_iload (pc := 22) dX0_actOf_22 rfl ?_
  refine x_iconstN (pc := 24) 0 dX0_actOf_24 ic_0 ?_
  refine x_invV4 (pc := 25) dX0_actOf_25 mlX0_28 imX0_perform seX0_perform kX0_perform (by first | assumption | rfl) rfl (Nat.le_of_ble_eq_true rfl) (by decide) ?_
  refine (aMet_all (i := i) (v := v) (n := 13) (d := d) hkd) kd a x _ [] _ hkd ha (by decide) ⟨by show _ = nI 0; simp [xput, hran]; rfl, by decide, fun j _ hj => absurd hj (Nat.not_lt_zero _)⟩ ⟨by simp [xput], by simp [xput], by simp [xput]⟩ (by decide) (fun M' t w s => ?_)
  refine x_cv rfl rfl ?_
  refine x_ret (pc := 28) (v := some _) rfl trivial dX0_actOf_28 (by decide) ?_
  refine h M' (by simpa using t) ⟨fun q h1 h2 => (s.1 q h1 h2).trans ?_, s.2.trans rfl⟩
  funext k; simp [xput, h1]
theorem sp_X0_forgetTrace (h : K none xSF (xput M 59 1 (nI 0))) : Ex g d yX0_forgetTrace mX0_forgetTrace [.ref 59] xSF M K := by
  refine x_entry kX0_forgetTrace (Nat.le_of_ble_eq_true rfl) ?_
  show Wp g _ mX0_forgetTrace 0 [some (.ref 59)] [] _ _ _ _
  refine x_aload_n (pc := 0) dX0_forgetTrace_0 rfl ?_
  refine x_iconstN (pc := 1) 0 dX0_forgetTrace_1 ic_0 ?_
  refine x_putI (pc := 2) dX0_forgetTrace_2 flX0_15 (by first | assumption | rfl) rfl rfl rfl ?_
  refine x_ret (pc := 5) (v := none) rfl trivial dX0_forgetTrace_5 (by decide) ?_
  exact h
theorem sp_X0_howManyRan (h : K (some (.int (M.1 59 1))) xSF M) : Ex g d yX0_howManyRan mX0_howManyRan [.ref 59] xSF M K := by
  refine x_entry kX0_howManyRan (Nat.le_of_ble_eq_true rfl) ?_
  show Wp g _ mX0_howManyRan 0 [some (.ref 59)] [] _ _ _ _
  refine x_aload_n (pc := 0) dX0_howManyRan_0 rfl ?_
  refine x_getI (pc := 1) dX0_howManyRan_1 flX0_15 (by first | assumption | rfl) rfl ?_
  refine x_ret (pc := 4) (v := some _) rfl trivial dX0_howManyRan_4 (by decide) ?_
  exact h
end P15
