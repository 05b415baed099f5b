/-! CARPET 5: becoming another -/
def BI (a b : Nat) (M : XM) (k : Nat) (M1 : XM) : Prop := xsame a (a + 12) M M1 ∧ ∀ k', k' < k → ∀ j, j < clen k' → M1.1 (a + 1 + k') j = M.1 (b + 1 + k') j
theorem bc_step {g : XG} {d : Nat} {m : XMe} {pc : Nat} {ls : XL} {st : List Value} {B : Nat × Nat} {K : Option Value → XS → XM → Prop} {a b k n : Nat} {M M0 : XM} (hab : a + 12 ≤ b ∨ b + 12 ≤ a) (hI : BI a b M k M0) (hk : k < 8) (hn : clen k = n)
    (kk : ∀ M1, BI a b M (k + 1) M1 → Wp g d m pc ls st xSF B M1 K) : Wp g d m pc ls st xSF B (xcpy M0 (b + 1 + k) (a + 1 + k) (nI 0).toNatClampNeg (nI 0).toNatClampNeg (nI n).toNatClampNeg) K := by
  have h31 : n < 2 ^ 31 := by
    have h : ∀ k, k < 8 → clen k < 2 ^ 31 := by decide +kernel
    rw [← hn]; exact h k hk
  have e0 : (nI 0).toNatClampNeg = 0 := by decide
  have en : (nI n).toNatClampNeg = n := nI_clamp h31
  obtain ⟨h1, h2⟩ := hI
  refine kk _ ⟨h1.tr ⟨fun q hq => ?_, rfl⟩, fun k' hk' j hj => ?_⟩
  · have : ¬ q = a + 1 + k := by omega
    funext i; simp [xcpy, xrow, this]
  · rw [e0, en]
    by_cases hkk : k' = k
    · subst hkk
      have e : M0.1 (b + 1 + k') = M.1 (b + 1 + k') := h1.1 _ (by omega)
      have hjn : j < n := by omega
      simp [xcpy, xrow, va_cpy, hjn, e]
    · have : ¬ a + 1 + k' = a + 1 + k := by omega
      simp only [xcpy, xrow, if_neg this]
      exact h2 k' (by omega) j hj
theorem sp_X2_become {g : XG} {d : Nat} {M : XM} {K : Option Value → XS → XM → Prop} {a b : Nat} {A : XA} {w r : Int32} (hab : a + 12 ≤ b ∨ b + 12 ≤ a) (hc : Car a) (hcb : Car b) (hR : CR b M A w r)
    (h : ∀ M', xsame a (a + 12) M M' → CR a M' A w r → K none xSF M') : Ex g (d + 1) yX2_become mX2_become [.ref a, .ref b] xSF M K := by
  obtain ⟨c0, c1, c2, c3, c4, c5, c6, c7, c8, c9, c10, c11⟩ := hc
  obtain ⟨b0, b1, b2, b3, b4, b5, b6, b7, b8, b9, b10, b11⟩ := hcb
  refine x_entry kX2_become (Nat.le_of_ble_eq_true rfl) ?_
  show Wp g _ mX2_become 0 [some (.ref a), some (.ref b)] [] _ _ _ _
  have hI0 : BI a b M 0 M := ⟨xsame.rf, fun k' hk' => by omega⟩
  refine x_aload_n (pc := 0) dX2_become_0 rfl ?_
  refine x_getR (pc := 1) dX2_become_1 flX2_9 (by first | assumption | rfl) rfl ?_
  refine x_iconstN (pc := 4) 0 dX2_become_4 ic_0 ?_
  refine x_aload_n (pc := 5) dX2_become_5 rfl ?_
  refine x_getR (pc := 6) dX2_become_6 flX2_9 (by first | assumption | rfl) rfl ?_
  refine x_iconstN (pc := 9) 0 dX2_become_9 ic_0 ?_
  refine x_bipushN (pc := 10) 16 dX2_become_10 bp_16 ?_
  refine x_copyI (pc := 12) rfl dX2_become_12 mlX2_52 natCpy stCpy iniSys (by first | assumption | rfl) (by first | assumption | rfl) (by decide) (by decide) (by decide) (by decide) (by decide) (by decide) ?_
  refine bc_step (k := 0) hab hI0 (by decide) rfl (fun M1 hI1 => ?_)
  refine x_aload_n (pc := 15) dX2_become_15 rfl ?_
  refine x_getR (pc := 16) dX2_become_16 flX2_15 (by first | assumption | rfl) rfl ?_
  refine x_iconstN (pc := 19) 0 dX2_become_19 ic_0 ?_
  refine x_aload_n (pc := 20) dX2_become_20 rfl ?_
  refine x_getR (pc := 21) dX2_become_21 flX2_15 (by first | assumption | rfl) rfl ?_
  refine x_iconstN (pc := 24) 0 dX2_become_24 ic_0 ?_
  refine x_bipushN (pc := 25) 6 dX2_become_25 bp_6 ?_
  refine x_copyI (pc := 27) rfl dX2_become_27 mlX2_52 natCpy stCpy iniSys (by first | assumption | rfl) (by first | assumption | rfl) (by decide) (by decide) (by decide) (by decide) (by decide) (by decide) ?_
  refine bc_step (k := 1) hab hI1 (by decide) rfl (fun M2 hI2 => ?_)
  refine x_aload_n (pc := 30) dX2_become_30 rfl ?_
  refine x_getR (pc := 31) dX2_become_31 flX2_18 (by first | assumption | rfl) rfl ?_
  refine x_iconstN (pc := 34) 0 dX2_become_34 ic_0 ?_
  refine x_aload_n (pc := 35) dX2_become_35 rfl ?_
  refine x_getR (pc := 36) dX2_become_36 flX2_18 (by first | assumption | rfl) rfl ?_
  refine x_iconstN (pc := 39) 0 dX2_become_39 ic_0 ?_
  refine x_bipushN (pc := 40) 6 dX2_become_40 bp_6 ?_
  refine x_copyI (pc := 42) rfl dX2_become_42 mlX2_52 natCpy stCpy iniSys (by first | assumption | rfl) (by first | assumption | rfl) (by decide) (by decide) (by decide) (by decide) (by decide) (by decide) ?_
  refine bc_step (k := 2) hab hI2 (by decide) rfl (fun M3 hI3 => ?_)
  refine x_aload_n (pc := 45) dX2_become_45 rfl ?_
  refine x_getR (pc := 46) dX2_become_46 flX2_21 (by first | assumption | rfl) rfl ?_
  refine x_iconstN (pc := 49) 0 dX2_become_49 ic_0 ?_
  refine x_aload_n (pc := 50) dX2_become_50 rfl ?_
  refine x_getR (pc := 51) dX2_become_51 flX2_21 (by first | assumption | rfl) rfl ?_
  refine x_iconstN (pc := 54) 0 dX2_become_54 ic_0 ?_
  refine x_bipushN (pc := 55) 6 dX2_become_55 bp_6 ?_
  refine x_copyI (pc := 57) rfl dX2_become_57 mlX2_52 natCpy stCpy iniSys (by first | assumption | rfl) (by first | assumption | rfl) (by decide) (by decide) (by decide) (by decide) (by decide) (by decide) ?_
  refine bc_step (k := 3) hab hI3 (by decide) rfl (fun M4 hI4 => ?_)
  refine x_aload_n (pc := 60) dX2_become_60 rfl ?_
  refine x_getR (pc := 61) dX2_become_61 flX2_24 (by first | assumption | rfl) rfl ?_
  refine x_iconstN (pc := 64) 0 dX2_become_64 ic_0 ?_
  refine x_aload_n (pc := 65) dX2_become_65 rfl ?_
  refine x_getR (pc := 66) dX2_become_66 flX2_24 (by first | assumption | rfl) rfl ?_
  refine x_iconstN (pc := 69) 0 dX2_become_69 ic_0 ?_
  refine x_bipushN (pc := 70) 6 dX2_become_70 bp_6 ?_
  refine x_copyI (pc := 72) rfl dX2_become_72 mlX2_52 natCpy stCpy iniSys (by first | assumption | rfl) (by first | assumption | rfl) (by decide) (by decide) (by decide) (by decide) (by decide) (by decide) ?_
  refine bc_step (k := 4) hab hI4 (by decide) rfl (fun M5 hI5 => ?_)
  refine x_aload_n (pc := 75) dX2_become_75 rfl ?_
  refine x_getR (pc := 76) dX2_become_76 flX2_27 (by first | assumption | rfl) rfl ?_
  refine x_iconstN (pc := 79) 0 dX2_become_79 ic_0 ?_
  refine x_aload_n (pc := 80) dX2_become_80 rfl ?_
  refine x_getR (pc := 81) dX2_become_81 flX2_27 (by first | assumption | rfl) rfl ?_
  refine x_iconstN (pc := 84) 0 dX2_become_84 ic_0 ?_
  refine x_bipushN (pc := 85) 24 dX2_become_85 bp_24 ?_
  refine x_copyI (pc := 87) rfl dX2_become_87 mlX2_52 natCpy stCpy iniSys (by first | assumption | rfl) (by first | assumption | rfl) (by decide) (by decide) (by decide) (by decide) (by decide) (by decide) ?_
  refine bc_step (k := 5) hab hI5 (by decide) rfl (fun M6 hI6 => ?_)
  refine x_aload_n (pc := 90) dX2_become_90 rfl ?_
  refine x_getR (pc := 91) dX2_become_91 flX2_30 (by first | assumption | rfl) rfl ?_
  refine x_iconstN (pc := 94) 0 dX2_become_94 ic_0 ?_
  refine x_aload_n (pc := 95) dX2_become_95 rfl ?_
  refine x_getR (pc := 96) dX2_become_96 flX2_30 (by first | assumption | rfl) rfl ?_
  refine x_iconstN (pc := 99) 0 dX2_become_99 ic_0 ?_
  refine x_bipushN (pc := 100) 6 dX2_become_100 bp_6 ?_
  refine x_copyI (pc := 102) rfl dX2_become_102 mlX2_52 natCpy stCpy iniSys (by first | assumption | rfl) (by first | assumption | rfl) (by decide) (by decide) (by decide) (by decide) (by decide) (by decide) ?_
  refine bc_step (k := 6) hab hI6 (by decide) rfl (fun M7 hI7 => ?_)
  refine x_aload_n (pc := 105) dX2_become_105 rfl ?_
  refine x_getR (pc := 106) dX2_become_106 flX2_33 (by first | assumption | rfl) rfl ?_
  refine x_iconstN (pc := 109) 0 dX2_become_109 ic_0 ?_
  refine x_aload_n (pc := 110) dX2_become_110 rfl ?_
  refine x_getR (pc := 111) dX2_become_111 flX2_33 (by first | assumption | rfl) rfl ?_
  refine x_iconstN (pc := 114) 0 dX2_become_114 ic_0 ?_
  refine x_bipushN (pc := 115) 96 dX2_become_115 bp_96 ?_
  refine x_copyI (pc := 117) rfl dX2_become_117 mlX2_52 natCpy stCpy iniSys (by first | assumption | rfl) (by first | assumption | rfl) (by decide) (by decide) (by decide) (by decide) (by decide) (by decide) ?_
  refine bc_step (k := 7) hab hI7 (by decide) rfl (fun M8 hI8 => ?_)
  refine x_aload_n (pc := 120) dX2_become_120 rfl ?_
  refine x_aload_n (pc := 121) dX2_become_121 rfl ?_
  refine x_getI (pc := 122) dX2_become_122 flX2_58 (by first | assumption | rfl) rfl ?_
  refine x_putI (pc := 125) dX2_become_125 flX2_58 (by first | assumption | rfl) rfl rfl rfl ?_
  refine x_aload_n (pc := 128) dX2_become_128 rfl ?_
  refine x_aload_n (pc := 129) dX2_become_129 rfl ?_
  refine x_getI (pc := 130) dX2_become_130 flX2_61 (by first | assumption | rfl) rfl ?_
  refine x_putI (pc := 133) dX2_become_133 flX2_61 (by first | assumption | rfl) rfl rfl rfl ?_
  refine x_aload_n (pc := 136) dX2_become_136 rfl ?_
  refine x_aload_n (pc := 137) dX2_become_137 rfl ?_
  refine x_getI (pc := 138) dX2_become_138 flX2_64 (by first | assumption | rfl) rfl ?_
  refine x_putI (pc := 141) dX2_become_141 flX2_64 (by first | assumption | rfl) rfl rfl rfl ?_
  refine x_aload_n (pc := 144) dX2_become_144 rfl ?_
  refine x_aload_n (pc := 145) dX2_become_145 rfl ?_
  refine x_getI (pc := 146) dX2_become_146 flX2_67 (by first | assumption | rfl) rfl ?_
  refine x_putI (pc := 149) dX2_become_149 flX2_67 (by first | assumption | rfl) rfl rfl rfl ?_
  refine x_aload_n (pc := 152) dX2_become_152 rfl ?_
  refine x_aload_n (pc := 153) dX2_become_153 rfl ?_
  refine x_getI (pc := 154) dX2_become_154 flX2_36 (by first | assumption | rfl) rfl ?_
  refine x_putI (pc := 157) dX2_become_157 flX2_36 (by first | assumption | rfl) rfl rfl rfl ?_
  refine x_aload_n (pc := 160) dX2_become_160 rfl ?_
  refine x_aload_n (pc := 161) dX2_become_161 rfl ?_
  refine x_getI (pc := 162) dX2_become_162 flX2_42 (by first | assumption | rfl) rfl ?_
  refine x_putI (pc := 165) dX2_become_165 flX2_42 (by first | assumption | rfl) rfl rfl rfl ?_
  refine x_ret (pc := 168) (v := none) rfl trivial dX2_become_168 (by decide) ?_
  refine h _ ((((((hI8.1.tr (xsame.put (by omega) (by omega))).tr (xsame.put (by omega) (by omega))).tr (xsame.put (by omega) (by omega))).tr (xsame.put (by omega) (by omega))).tr (xsame.put (by omega) (by omega))).tr (xsame.put (by omega) (by omega))) ?_
  have eb : M8.1 b = M.1 b := hI8.1.1 b (by omega)
  have hba : ¬ b = a := by omega
  obtain ⟨h1, h2, h3, h4, h5, h6, h7, h8, h9, h10, h11⟩ := hR
  refine ⟨fun k hk j hj => ?_, ?_⟩
  · have hak : ¬ a + 1 + k = a := by omega
    rw [← (h1 k hk j hj).1, ← hI8.2 k hk j hj]
    exact ⟨by simp [xput, hak], (h1 k hk j hj).2⟩
  · simp [xput, hba, eb, h2, h3, h4, h5, h6, h7, h8, h9, h10, h11]
