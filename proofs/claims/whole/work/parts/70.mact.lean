/-! the MODEL's acts -/
def zG (i x : Int32) : Int32 × List Nat := (x + i, [10])
def zS (i v : Int32) (kd : Nat) (x : Int32) : Int32 × List Nat := if kd = 2 ∨ kd = 5 then (x * nI 3 + i, [30, 10]) else if kd = 4 then (-(x + i), [50, 10]) else if kd = 6 then ((x + i) ^^^ v, [71, 10]) else (x + i, [10])
def zGT (i v : Int32) (kd : Nat) (x : Int32) : Int32 × List Nat := ((zS i v kd x).1 - v, 11 :: (zS i v kd x).2)
def zPT (i v : Int32) (kd : Nat) (x : Int32) : Int32 × List Nat := ((zGT i v kd x).1 ^^^ nI 6, 20 :: (zGT i v kd x).2)
def zT (i v : Int32) (kd : Nat) (x : Int32) : Int32 × List Nat := if kd = 1 then zPT i v kd x else if kd = 4 then ((zPT i v kd (x + nI 1)).1, 51 :: (zPT i v kd (x + nI 1)).2) else if kd = 6 then ((zGT i v kd x).1 + (nI 2 + i), 70 :: ((zGT i v kd x).2 ++ [10])) else zGT i v kd x
def zGL (i v : Int32) (kd : Nat) (x : Int32) : Int32 × List Nat := ((zT i v kd x).1 * nI 2, 12 :: (zT i v kd x).2)
def zL (i v : Int32) (kd : Nat) (x : Int32) : Int32 × List Nat := if kd = 3 ∨ kd = 6 then ((zGL i v kd x).1 + (zT i v kd (nI 1)).1, 40 :: ((zGL i v kd x).2 ++ (zT i v kd (nI 1)).2)) else if kd = 5 then ((zGL i v kd (x - i)).1, 60 :: (zGL i v kd (x - i)).2) else zGL i v kd x
theorem z_run {i v x : Int32} {kd a : Nat} (hk : kd < 7) (ha : a < 3) : (if a = 0 then zS i v kd x else if a = 1 then zT i v kd x else zL i v kd x) = aRun i v kd 13 kd a x := by
  have h1 : kd = 0 ∨ kd = 1 ∨ kd = 2 ∨ kd = 3 ∨ kd = 4 ∨ kd = 5 ∨ kd = 6 := by omega
  have h2 : a = 0 ∨ a = 1 ∨ a = 2 := by omega
  rcases h1 with rfl | rfl | rfl | rfl | rfl | rfl | rfl <;> rcases h2 with rfl | rfl | rfl <;> rfl
def asm (M M' : XM) : Prop := (∀ a k, ¬ (a = 65 ∧ k = 71) → a ≠ 108 → M'.1 a k = M.1 a k) ∧ M'.2 = M.2
theorem asm.rf {M : XM} : asm M M := ⟨fun _ _ _ _ => rfl, rfl⟩
theorem asm.tr {M M1 M2 : XM} (h : asm M M1) (h2 : asm M1 M2) : asm M M2 := ⟨fun a k x y => (h2.1 a k x y).trans (h.1 a k x y), h2.2.trans h.2⟩
section P70
variable {g : XG} {d : Nat} {M : XM} {K : Option Value → XS → XM → Prop} {s : XSt} {l : List Nat} {j kd v : Nat} {x : Int32}
theorem sm_body {b : Nat} (hT : MTr M l) (hl : l.length < 10000) (h : ∀ M', asm M M' → MTr M' (l ++ [b]) → K none xSF M') : Ex g d yX10_body mX10_body [.ref 65, .int (nI b)] xSF M K := by
  obtain ⟨t1, t2⟩ := hT
  have e1 : (l ++ [b]).length = l.length + 1 := by simp
  refine x_entry kX10_body (Nat.le_of_ble_eq_true rfl) ?_
  show Wp g _ mX10_body 0 [some (.ref 65), some (.int (nI b))] [] _ _ _ _
  refine x_aload_n (pc := 0) dX10_body_0 rfl ?_
  refine x_getI (pc := 1) dX10_body_1 flX10_226 (by first | assumption | rfl) rfl ?_
  rw [t1]
  refine x_bipushN (pc := 4) 20 dX10_body_4 bp_20 ?_
  first | (guard_target =~ Wp _ _ _ _ _ (Value.int (nI _) :: Value.int (nI _) :: _) _ _ _ _; with_reducible refine x_icmp_geN (pc := 6) (tgt := 19) ?_ ?_ dX10_body_6 ?_ (fun h6 => ?_) (fun h6 => ?_); (first | omega | exact b2n_31 _); (first | omega | exact b2n_31 _); decide) | refine x_icmp_ge (pc := 6) (tgt := 19) dX10_body_6 (by decide) (fun h6 => ?_) (fun h6 => ?_)
  · skip
    refine x_aload_n (pc := 19) dX10_body_19 rfl ?_
    refine x_dup (pc := 20) dX10_body_20 rfl ?_
    refine x_getI (pc := 21) dX10_body_21 flX10_226 (by first | assumption | rfl) rfl ?_
    first | rw [t1] | rw [show (xput M 108 l.length (nI b)).1 65 71 = nI l.length from t1]
    refine x_iconstN (pc := 24) 1 dX10_body_24 ic_1 ?_
    first | (guard_target =~ Wp _ _ _ _ _ (Value.int (nI _) :: Value.int (nI _) :: _) _ _ _ _; with_reducible refine x_iaddN (pc := 25) dX10_body_25 ?_) | refine x_iadd (pc := 25) dX10_body_25 ?_
    refine x_putI (pc := 26) dX10_body_26 flX10_226 (by first | assumption | rfl) rfl rfl rfl ?_
    refine x_ret (pc := 29) (v := none) rfl trivial dX10_body_29 (by decide) ?_
    refine h _ ⟨fun a k n1 n2 => if_neg n1, rfl⟩ ⟨by rw [e1]; rfl, fun i hi hi2 => ?_⟩
    have hi3 : i < l.length := by omega
    rw [show (l ++ [b]).getD i 0 = l.getD i 0 by simp [List.getD, List.getElem?_append_left hi3]]
    exact t2 i hi hi3
  · skip
    refine x_aload_n (pc := 9) dX10_body_9 rfl ?_
    refine x_getR (pc := 10) dX10_body_10 flX10_229 (by first | assumption | rfl) rfl ?_
    refine x_aload_n (pc := 13) dX10_body_13 rfl ?_
    refine x_getI (pc := 14) dX10_body_14 flX10_226 (by first | assumption | rfl) rfl ?_
    rw [t1]
    refine x_iload_n (pc := 17) dX10_body_17 rfl ?_
    refine x_iastN (pc := 18) dX10_body_18 (by first | assumption | rfl) (by first | with_reducible rfl | (simp only [xlit, nI_add, pk_mul]; with_reducible rfl)) (by omega) (by decide) ?_
    refine x_aload_n (pc := 19) dX10_body_19 rfl ?_
    refine x_dup (pc := 20) dX10_body_20 rfl ?_
    refine x_getI (pc := 21) dX10_body_21 flX10_226 (by first | assumption | rfl) rfl ?_
    first | rw [t1] | rw [show (xput M 108 l.length (nI b)).1 65 71 = nI l.length from t1]
    refine x_iconstN (pc := 24) 1 dX10_body_24 ic_1 ?_
    first | (guard_target =~ Wp _ _ _ _ _ (Value.int (nI _) :: Value.int (nI _) :: _) _ _ _ _; with_reducible refine x_iaddN (pc := 25) dX10_body_25 ?_) | refine x_iadd (pc := 25) dX10_body_25 ?_
    refine x_putI (pc := 26) dX10_body_26 flX10_226 (by first | assumption | rfl) rfl rfl rfl ?_
    refine x_ret (pc := 29) (v := none) rfl trivial dX10_body_29 (by decide) ?_
    refine h _ ⟨fun a k n1 n2 => (if_neg n1).trans (if_neg (fun q => n2 q.1)), rfl⟩ ⟨by rw [e1]; rfl, fun i hi hi2 => ?_⟩
    by_cases hi3 : i = l.length
    · subst hi3
      simp [xput, List.getD]
    · rw [e1] at hi2
      have hi4 : i < l.length := by omega
      rw [show (l ++ [b]).getD i 0 = l.getD i 0 by simp [List.getD, List.getElem?_append_left hi4]]
      refine Eq.trans ?_ (t2 i hi hi4)
      simp [xput, hi3]
theorem sm_gSteps {i : Int32} (hT : MTr M l) (hl : l.length < 9000) (h : ∀ M', asm M M' → MTr M' (l ++ (zG i x).2) → K (some (.int (zG i x).1)) xSF M') : Ex g (d + 1) yX10_goerSteps mX10_goerSteps [.ref 65, .int i, .int x] xSF M K := by
  refine x_entry kX10_goerSteps (Nat.le_of_ble_eq_true rfl) ?_
  show Wp g _ mX10_goerSteps 0 [some (.ref 65), some (.int i), some (.int x)] [] _ _ _ _
  refine x_aload_n (pc := 0) dX10_goerSteps_0 rfl ?_
  refine x_bipushN (pc := 1) 10 dX10_goerSteps_1 bp_10 ?_
  refine x_invV1 (pc := 3) dX10_goerSteps_3 mlX10_439 imX10_body seX10_body kX10_body (by first | assumption | rfl) rfl (Nat.le_of_ble_eq_true rfl) (by decide) ?_
  refine sm_body hT (by omega) (fun M1 hs1 hT1 => ?_)
  refine x_cn rfl rfl ?_
  refine x_iload_n (pc := 6) dX10_goerSteps_6 rfl ?_
  refine x_iload_n (pc := 7) dX10_goerSteps_7 rfl ?_
  refine x_iadd (pc := 8) dX10_goerSteps_8 ?_
  refine x_ret (pc := 9) (v := some _) rfl trivial dX10_goerSteps_9 (by decide) ?_
  exact h M1 hs1 hT1
def MAw (M : XM) (j kd v : Nat) : Prop := M.1 67 j = nI kd ∧ M.1 68 j = nI v
theorem MAw.tr {M' : XM} (h : MAw M j kd v) (hs : asm M M') : MAw M' j kd v := ⟨(hs.1 67 j (by omega) (by decide)).trans h.1, (hs.1 68 j (by omega) (by decide)).trans h.2⟩
theorem sm_stepsAct (hj : j < 6) (hk : kd < 7) (hw : MAw M j kd v) (hT : MTr M l) (hl : l.length < 8000) (h : ∀ M', asm M M' → MTr M' (l ++ (zS (nI j) (nI v) kd x).2) → K (some (.int (zS (nI j) (nI v) kd x).1)) xSF M') : Ex g (d + 2) yX10_stepsAct mX10_stepsAct [.ref 65, .int (nI j), .int x] xSF M K := by
  refine x_entry kX10_stepsAct (Nat.le_of_ble_eq_true rfl) ?_
  show Wp g _ mX10_stepsAct 0 [some (.ref 65), some (.int (nI j)), some (.int x)] [] _ _ _ _
  have h1 : kd = 0 ∨ kd = 1 ∨ kd = 2 ∨ kd = 3 ∨ kd = 4 ∨ kd = 5 ∨ kd = 6 := by omega
  rcases h1 with rfl | rfl | rfl | rfl | rfl | rfl | rfl
  · skip
    refine x_aload_n (pc := 0) dX10_stepsAct_0 rfl ?_
    refine x_getR (pc := 1) dX10_stepsAct_1 flX10_26 (by first | assumption | rfl) rfl ?_
    refine x_iload_n (pc := 4) dX10_stepsAct_4 rfl ?_
    refine x_ialdN (pc := 5) dX10_stepsAct_5 (by first | assumption | rfl) (by first | with_reducible rfl | (simp only [xlit, nI_add, pk_mul]; with_reducible rfl)) (by omega) (by decide) ?_
    rw [hw.1]
    refine x_tableOut (pc := 6) (tgt := 89) dX10_stepsAct_6 (by decide) (by decide) ?_
    refine x_aload_n (pc := 89) dX10_stepsAct_89 rfl ?_
    refine x_iload_n (pc := 90) dX10_stepsAct_90 rfl ?_
    refine x_iload_n (pc := 91) dX10_stepsAct_91 rfl ?_
    refine x_invV2 (pc := 92) dX10_stepsAct_92 mlX10_442 imX10_goerSteps seX10_goerSteps kX10_goerSteps (by first | assumption | rfl) rfl (Nat.le_of_ble_eq_true rfl) (by decide) ?_
    refine sm_gSteps hT (by omega) (fun M1 hs1 hT1 => ?_)
    refine x_cv rfl rfl ?_
    refine x_ret (pc := 95) (v := some _) rfl trivial dX10_stepsAct_95 (by decide) ?_
    exact h M1 hs1 hT1
  · skip
    refine x_aload_n (pc := 0) dX10_stepsAct_0 rfl ?_
    refine x_getR (pc := 1) dX10_stepsAct_1 flX10_26 (by first | assumption | rfl) rfl ?_
    refine x_iload_n (pc := 4) dX10_stepsAct_4 rfl ?_
    refine x_ialdN (pc := 5) dX10_stepsAct_5 (by first | assumption | rfl) (by first | with_reducible rfl | (simp only [xlit, nI_add, pk_mul]; with_reducible rfl)) (by omega) (by decide) ?_
    rw [hw.1]
    refine x_tableOut (pc := 6) (tgt := 89) dX10_stepsAct_6 (by decide) (by decide) ?_
    refine x_aload_n (pc := 89) dX10_stepsAct_89 rfl ?_
    refine x_iload_n (pc := 90) dX10_stepsAct_90 rfl ?_
    refine x_iload_n (pc := 91) dX10_stepsAct_91 rfl ?_
    refine x_invV2 (pc := 92) dX10_stepsAct_92 mlX10_442 imX10_goerSteps seX10_goerSteps kX10_goerSteps (by first | assumption | rfl) rfl (Nat.le_of_ble_eq_true rfl) (by decide) ?_
    refine sm_gSteps hT (by omega) (fun M1 hs1 hT1 => ?_)
    refine x_cv rfl rfl ?_
    refine x_ret (pc := 95) (v := some _) rfl trivial dX10_stepsAct_95 (by decide) ?_
    exact h M1 hs1 hT1
  · skip
    refine x_aload_n (pc := 0) dX10_stepsAct_0 rfl ?_
    refine x_getR (pc := 1) dX10_stepsAct_1 flX10_26 (by first | assumption | rfl) rfl ?_
    refine x_iload_n (pc := 4) dX10_stepsAct_4 rfl ?_
    refine x_ialdN (pc := 5) dX10_stepsAct_5 (by first | assumption | rfl) (by first | with_reducible rfl | (simp only [xlit, nI_add, pk_mul]; with_reducible rfl)) (by omega) (by decide) ?_
    rw [hw.1]
    refine x_tableIn (pc := 6) (off := 34) (tgt := 40) dX10_stepsAct_6 (by decide) (by decide) (by decide) (by decide) ?_
    refine x_aload_n (pc := 40) dX10_stepsAct_40 rfl ?_
    refine x_bipushN (pc := 41) 30 dX10_stepsAct_41 bp_30 ?_
    refine x_invV1 (pc := 43) dX10_stepsAct_43 mlX10_439 imX10_body seX10_body kX10_body (by first | assumption | rfl) rfl (Nat.le_of_ble_eq_true rfl) (by decide) ?_
    refine sm_body hT (by omega) (fun M1 hs1 hT1 => ?_)
    refine x_cn rfl rfl ?_
    refine x_aload_n (pc := 46) dX10_stepsAct_46 rfl ?_
    refine x_iload_n (pc := 47) dX10_stepsAct_47 rfl ?_
    refine x_iload_n (pc := 48) dX10_stepsAct_48 rfl ?_
    refine x_iconstN (pc := 49) 3 dX10_stepsAct_49 ic_3 ?_
    refine x_imul (pc := 50) dX10_stepsAct_50 ?_
    refine x_invV2 (pc := 51) dX10_stepsAct_51 mlX10_442 imX10_goerSteps seX10_goerSteps kX10_goerSteps (by first | assumption | rfl) rfl (Nat.le_of_ble_eq_true rfl) (by decide) ?_
    refine sm_gSteps hT1 (by simp; omega) (fun M2 hs2 hT2 => ?_)
    refine x_cv rfl rfl ?_
    refine x_ret (pc := 54) (v := some _) rfl trivial dX10_stepsAct_54 (by decide) ?_
    exact h M2 (hs1.tr hs2) (by rw [List.append_assoc] at hT2; exact hT2)
  · skip
    refine x_aload_n (pc := 0) dX10_stepsAct_0 rfl ?_
    refine x_getR (pc := 1) dX10_stepsAct_1 flX10_26 (by first | assumption | rfl) rfl ?_
    refine x_iload_n (pc := 4) dX10_stepsAct_4 rfl ?_
    refine x_ialdN (pc := 5) dX10_stepsAct_5 (by first | assumption | rfl) (by first | with_reducible rfl | (simp only [xlit, nI_add, pk_mul]; with_reducible rfl)) (by omega) (by decide) ?_
    rw [hw.1]
    refine x_tableIn (pc := 6) (off := 83) (tgt := 89) dX10_stepsAct_6 (by decide) (by decide) (by decide) (by decide) ?_
    refine x_aload_n (pc := 89) dX10_stepsAct_89 rfl ?_
    refine x_iload_n (pc := 90) dX10_stepsAct_90 rfl ?_
    refine x_iload_n (pc := 91) dX10_stepsAct_91 rfl ?_
    refine x_invV2 (pc := 92) dX10_stepsAct_92 mlX10_442 imX10_goerSteps seX10_goerSteps kX10_goerSteps (by first | assumption | rfl) rfl (Nat.le_of_ble_eq_true rfl) (by decide) ?_
    refine sm_gSteps hT (by omega) (fun M1 hs1 hT1 => ?_)
    refine x_cv rfl rfl ?_
    refine x_ret (pc := 95) (v := some _) rfl trivial dX10_stepsAct_95 (by decide) ?_
    exact h M1 hs1 hT1
  · skip
    refine x_aload_n (pc := 0) dX10_stepsAct_0 rfl ?_
    refine x_getR (pc := 1) dX10_stepsAct_1 flX10_26 (by first | assumption | rfl) rfl ?_
    refine x_iload_n (pc := 4) dX10_stepsAct_4 rfl ?_
    refine x_ialdN (pc := 5) dX10_stepsAct_5 (by first | assumption | rfl) (by first | with_reducible rfl | (simp only [xlit, nI_add, pk_mul]; with_reducible rfl)) (by omega) (by decide) ?_
    rw [hw.1]
    refine x_tableIn (pc := 6) (off := 49) (tgt := 55) dX10_stepsAct_6 (by decide) (by decide) (by decide) (by decide) ?_
    refine x_aload_n (pc := 55) dX10_stepsAct_55 rfl ?_
    refine x_bipushN (pc := 56) 50 dX10_stepsAct_56 bp_50 ?_
    refine x_invV1 (pc := 58) dX10_stepsAct_58 mlX10_439 imX10_body seX10_body kX10_body (by first | assumption | rfl) rfl (Nat.le_of_ble_eq_true rfl) (by decide) ?_
    refine sm_body hT (by omega) (fun M1 hs1 hT1 => ?_)
    refine x_cn rfl rfl ?_
    refine x_aload_n (pc := 61) dX10_stepsAct_61 rfl ?_
    refine x_iload_n (pc := 62) dX10_stepsAct_62 rfl ?_
    refine x_iload_n (pc := 63) dX10_stepsAct_63 rfl ?_
    refine x_invV2 (pc := 64) dX10_stepsAct_64 mlX10_442 imX10_goerSteps seX10_goerSteps kX10_goerSteps (by first | assumption | rfl) rfl (Nat.le_of_ble_eq_true rfl) (by decide) ?_
    refine sm_gSteps hT1 (by simp; omega) (fun M2 hs2 hT2 => ?_)
    refine x_cv rfl rfl ?_
    refine x_ineg (pc := 67) dX10_stepsAct_67 ?_
    refine x_ret (pc := 68) (v := some _) rfl trivial dX10_stepsAct_68 (by decide) ?_
    exact h M2 (hs1.tr hs2) (by rw [List.append_assoc] at hT2; exact hT2)
  · skip
    refine x_aload_n (pc := 0) dX10_stepsAct_0 rfl ?_
    refine x_getR (pc := 1) dX10_stepsAct_1 flX10_26 (by first | assumption | rfl) rfl ?_
    refine x_iload_n (pc := 4) dX10_stepsAct_4 rfl ?_
    refine x_ialdN (pc := 5) dX10_stepsAct_5 (by first | assumption | rfl) (by first | with_reducible rfl | (simp only [xlit, nI_add, pk_mul]; with_reducible rfl)) (by omega) (by decide) ?_
    rw [hw.1]
    refine x_tableIn (pc := 6) (off := 34) (tgt := 40) dX10_stepsAct_6 (by decide) (by decide) (by decide) (by decide) ?_
    refine x_aload_n (pc := 40) dX10_stepsAct_40 rfl ?_
    refine x_bipushN (pc := 41) 30 dX10_stepsAct_41 bp_30 ?_
    refine x_invV1 (pc := 43) dX10_stepsAct_43 mlX10_439 imX10_body seX10_body kX10_body (by first | assumption | rfl) rfl (Nat.le_of_ble_eq_true rfl) (by decide) ?_
    refine sm_body hT (by omega) (fun M1 hs1 hT1 => ?_)
    refine x_cn rfl rfl ?_
    refine x_aload_n (pc := 46) dX10_stepsAct_46 rfl ?_
    refine x_iload_n (pc := 47) dX10_stepsAct_47 rfl ?_
    refine x_iload_n (pc := 48) dX10_stepsAct_48 rfl ?_
    refine x_iconstN (pc := 49) 3 dX10_stepsAct_49 ic_3 ?_
    refine x_imul (pc := 50) dX10_stepsAct_50 ?_
    refine x_invV2 (pc := 51) dX10_stepsAct_51 mlX10_442 imX10_goerSteps seX10_goerSteps kX10_goerSteps (by first | assumption | rfl) rfl (Nat.le_of_ble_eq_true rfl) (by decide) ?_
    refine sm_gSteps hT1 (by simp; omega) (fun M2 hs2 hT2 => ?_)
    refine x_cv rfl rfl ?_
    refine x_ret (pc := 54) (v := some _) rfl trivial dX10_stepsAct_54 (by decide) ?_
    exact h M2 (hs1.tr hs2) (by rw [List.append_assoc] at hT2; exact hT2)
  · skip
    refine x_aload_n (pc := 0) dX10_stepsAct_0 rfl ?_
    refine x_getR (pc := 1) dX10_stepsAct_1 flX10_26 (by first | assumption | rfl) rfl ?_
    refine x_iload_n (pc := 4) dX10_stepsAct_4 rfl ?_
    refine x_ialdN (pc := 5) dX10_stepsAct_5 (by first | assumption | rfl) (by first | with_reducible rfl | (simp only [xlit, nI_add, pk_mul]; with_reducible rfl)) (by omega) (by decide) ?_
    rw [hw.1]
    refine x_tableIn (pc := 6) (off := 63) (tgt := 69) dX10_stepsAct_6 (by decide) (by decide) (by decide) (by decide) ?_
    refine x_aload_n (pc := 69) dX10_stepsAct_69 rfl ?_
    refine x_bipushN (pc := 70) 71 dX10_stepsAct_70 bp_71 ?_
    refine x_invV1 (pc := 72) dX10_stepsAct_72 mlX10_439 imX10_body seX10_body kX10_body (by first | assumption | rfl) rfl (Nat.le_of_ble_eq_true rfl) (by decide) ?_
    refine sm_body hT (by omega) (fun M1 hs1 hT1 => ?_)
    refine x_cn rfl rfl ?_
    refine x_aload_n (pc := 75) dX10_stepsAct_75 rfl ?_
    refine x_iload_n (pc := 76) dX10_stepsAct_76 rfl ?_
    refine x_iload_n (pc := 77) dX10_stepsAct_77 rfl ?_
    refine x_invV2 (pc := 78) dX10_stepsAct_78 mlX10_442 imX10_goerSteps seX10_goerSteps kX10_goerSteps (by first | assumption | rfl) rfl (Nat.le_of_ble_eq_true rfl) (by decide) ?_
    refine sm_gSteps hT1 (by simp; omega) (fun M2 hs2 hT2 => ?_)
    refine x_cv rfl rfl ?_
    refine x_aload_n (pc := 81) dX10_stepsAct_81 rfl ?_
    refine x_getR (pc := 82) dX10_stepsAct_82 flX10_29 (by first | assumption | rfl) rfl ?_
    refine x_iload_n (pc := 85) dX10_stepsAct_85 rfl ?_
    refine x_ialdN (pc := 86) dX10_stepsAct_86 (by first | assumption | rfl) (by first | with_reducible rfl | (simp only [xlit, nI_add, pk_mul]; with_reducible rfl)) (by omega) (by decide) ?_
    rw [(hw.tr (hs1.tr hs2)).2]
    refine x_ixor (pc := 87) dX10_stepsAct_87 ?_
    refine x_ret (pc := 88) (v := some _) rfl trivial dX10_stepsAct_88 (by decide) ?_
    exact h M2 (hs1.tr hs2) (by rw [List.append_assoc] at hT2; exact hT2)
theorem zS_len {i v : Int32} : (zS i v kd x).2.length ≤ 2 := by unfold zS; split; simp; split; simp; split <;> simp
theorem zT_len {i v : Int32} : (zT i v kd x).2.length ≤ 5 := by
  have h1 := fun x => zS_len (kd := kd) (x := x) (i := i) (v := v)
  have a := h1 x; have b := h1 (x + nI 1)
  unfold zT zPT zGT; split; simp; omega; split; simp; omega; split <;> simp <;> omega
theorem sm_gTurns (hj : j < 6) (hk : kd < 7) (hw : MAw M j kd v) (hT : MTr M l) (hl : l.length < 7000) (h : ∀ M', asm M M' → MTr M' (l ++ (zGT (nI j) (nI v) kd x).2) → K (some (.int (zGT (nI j) (nI v) kd x).1)) xSF M') : Ex g (d + 3) yX10_goerTurns mX10_goerTurns [.ref 65, .int (nI j), .int x] xSF M K := by
  refine x_entry kX10_goerTurns (Nat.le_of_ble_eq_true rfl) ?_
  show Wp g _ mX10_goerTurns 0 [some (.ref 65), some (.int (nI j)), some (.int x)] [] _ _ _ _
  refine x_aload_n (pc := 0) dX10_goerTurns_0 rfl ?_
  refine x_bipushN (pc := 1) 11 dX10_goerTurns_1 bp_11 ?_
  refine x_invV1 (pc := 3) dX10_goerTurns_3 mlX10_439 imX10_body seX10_body kX10_body (by first | assumption | rfl) rfl (Nat.le_of_ble_eq_true rfl) (by decide) ?_
  refine sm_body hT (by omega) (fun M1 hs1 hT1 => ?_)
  refine x_cn rfl rfl ?_
  refine x_aload_n (pc := 6) dX10_goerTurns_6 rfl ?_
  refine x_iload_n (pc := 7) dX10_goerTurns_7 rfl ?_
  refine x_iload_n (pc := 8) dX10_goerTurns_8 rfl ?_
  refine x_invV2 (pc := 9) dX10_goerTurns_9 mlX10_445 imX10_stepsAct seX10_stepsAct kX10_stepsAct (by first | assumption | rfl) rfl (Nat.le_of_ble_eq_true rfl) (by decide) ?_
  refine sm_stepsAct hj hk (hw.tr hs1) hT1 (by simp; omega) (fun M2 hs2 hT2 => ?_)
  refine x_cv rfl rfl ?_
  refine x_aload_n (pc := 12) dX10_goerTurns_12 rfl ?_
  refine x_getR (pc := 13) dX10_goerTurns_13 flX10_29 (by first | assumption | rfl) rfl ?_
  refine x_iload_n (pc := 16) dX10_goerTurns_16 rfl ?_
  refine x_ialdN (pc := 17) dX10_goerTurns_17 (by first | assumption | rfl) (by first | with_reducible rfl | (simp only [xlit, nI_add, pk_mul]; with_reducible rfl)) (by omega) (by decide) ?_
  rw [(hw.tr (hs1.tr hs2)).2]
  refine x_isub (pc := 18) dX10_goerTurns_18 ?_
  refine x_ret (pc := 19) (v := some _) rfl trivial dX10_goerTurns_19 (by decide) ?_
  exact h M2 (hs1.tr hs2) (by rw [List.append_assoc] at hT2; exact hT2)
theorem sm_pTurns (hj : j < 6) (hk : kd < 7) (hw : MAw M j kd v) (hT : MTr M l) (hl : l.length < 6000) (h : ∀ M', asm M M' → MTr M' (l ++ (zPT (nI j) (nI v) kd x).2) → K (some (.int (zPT (nI j) (nI v) kd x).1)) xSF M') : Ex g (d + 4) yX10_pacerTurns mX10_pacerTurns [.ref 65, .int (nI j), .int x] xSF M K := by
  refine x_entry kX10_pacerTurns (Nat.le_of_ble_eq_true rfl) ?_
  show Wp g _ mX10_pacerTurns 0 [some (.ref 65), some (.int (nI j)), some (.int x)] [] _ _ _ _
  refine x_aload_n (pc := 0) dX10_pacerTurns_0 rfl ?_
  refine x_bipushN (pc := 1) 20 dX10_pacerTurns_1 bp_20 ?_
  refine x_invV1 (pc := 3) dX10_pacerTurns_3 mlX10_439 imX10_body seX10_body kX10_body (by first | assumption | rfl) rfl (Nat.le_of_ble_eq_true rfl) (by decide) ?_
  refine sm_body hT (by omega) (fun M1 hs1 hT1 => ?_)
  refine x_cn rfl rfl ?_
  refine x_aload_n (pc := 6) dX10_pacerTurns_6 rfl ?_
  refine x_iload_n (pc := 7) dX10_pacerTurns_7 rfl ?_
  refine x_iload_n (pc := 8) dX10_pacerTurns_8 rfl ?_
  refine x_invV2 (pc := 9) dX10_pacerTurns_9 mlX10_448 imX10_goerTurns seX10_goerTurns kX10_goerTurns (by first | assumption | rfl) rfl (Nat.le_of_ble_eq_true rfl) (by decide) ?_
  refine sm_gTurns hj hk (hw.tr hs1) hT1 (by simp; omega) (fun M2 hs2 hT2 => ?_)
  refine x_cv rfl rfl ?_
  refine x_bipushN (pc := 12) 6 dX10_pacerTurns_12 bp_6 ?_
  refine x_ixor (pc := 14) dX10_pacerTurns_14 ?_
  refine x_ret (pc := 15) (v := some _) rfl trivial dX10_pacerTurns_15 (by decide) ?_
  exact h M2 (hs1.tr hs2) (by rw [List.append_assoc] at hT2; exact hT2)
theorem sm_turnsAct (hj : j < 6) (hk : kd < 7) (hw : MAw M j kd v) (hT : MTr M l) (hl : l.length < 5000) (h : ∀ M', asm M M' → MTr M' (l ++ (zT (nI j) (nI v) kd x).2) → K (some (.int (zT (nI j) (nI v) kd x).1)) xSF M') : Ex g (d + 5) yX10_turnsAct mX10_turnsAct [.ref 65, .int (nI j), .int x] xSF M K := by
  refine x_entry kX10_turnsAct (Nat.le_of_ble_eq_true rfl) ?_
  show Wp g _ mX10_turnsAct 0 [some (.ref 65), some (.int (nI j)), some (.int x), none] [] _ _ _ _
  by_cases k1 : kd = 1
  · subst k1
    refine x_aload_n (pc := 0) dX10_turnsAct_0 rfl ?_
    refine x_getR (pc := 1) dX10_turnsAct_1 flX10_26 (by first | assumption | rfl) rfl ?_
    refine x_iload_n (pc := 4) dX10_turnsAct_4 rfl ?_
    refine x_ialdN (pc := 5) dX10_turnsAct_5 (by first | assumption | rfl) (by first | with_reducible rfl | (simp only [xlit, nI_add, pk_mul]; with_reducible rfl)) (by omega) (by decide) ?_
    rw [hw.1]
    refine x_lookup (pc := 6) (off := 34) (tgt := 40) dX10_turnsAct_6 (by decide) (by decide) (by decide) ?_
    refine x_aload_n (pc := 40) dX10_turnsAct_40 rfl ?_
    refine x_iload_n (pc := 41) dX10_turnsAct_41 rfl ?_
    refine x_iload_n (pc := 42) dX10_turnsAct_42 rfl ?_
    refine x_invV2 (pc := 43) dX10_turnsAct_43 mlX10_451 imX10_pacerTurns seX10_pacerTurns kX10_pacerTurns (by first | assumption | rfl) rfl (Nat.le_of_ble_eq_true rfl) (by decide) ?_
    refine sm_pTurns hj hk hw hT (by omega) (fun M1 hs1 hT1 => ?_)
    refine x_cv rfl rfl ?_
    refine x_ret (pc := 46) (v := some _) rfl trivial dX10_turnsAct_46 (by decide) ?_
    exact h M1 hs1 hT1
  by_cases k4 : kd = 4
  · subst k4
    refine x_aload_n (pc := 0) dX10_turnsAct_0 rfl ?_
    refine x_getR (pc := 1) dX10_turnsAct_1 flX10_26 (by first | assumption | rfl) rfl ?_
    refine x_iload_n (pc := 4) dX10_turnsAct_4 rfl ?_
    refine x_ialdN (pc := 5) dX10_turnsAct_5 (by first | assumption | rfl) (by first | with_reducible rfl | (simp only [xlit, nI_add, pk_mul]; with_reducible rfl)) (by omega) (by decide) ?_
    rw [hw.1]
    refine x_lookup (pc := 6) (off := 41) (tgt := 47) dX10_turnsAct_6 (by decide) (by decide) (by decide) ?_
    refine x_aload_n (pc := 47) dX10_turnsAct_47 rfl ?_
    refine x_bipushN (pc := 48) 51 dX10_turnsAct_48 bp_51 ?_
    refine x_invV1 (pc := 50) dX10_turnsAct_50 mlX10_439 imX10_body seX10_body kX10_body (by first | assumption | rfl) rfl (Nat.le_of_ble_eq_true rfl) (by decide) ?_
    refine sm_body hT (by omega) (fun M1 hs1 hT1 => ?_)
    refine x_cn rfl rfl ?_
    refine x_aload_n (pc := 53) dX10_turnsAct_53 rfl ?_
    refine x_iload_n (pc := 54) dX10_turnsAct_54 rfl ?_
    refine x_iload_n (pc := 55) dX10_turnsAct_55 rfl ?_
    refine x_iconstN (pc := 56) 1 dX10_turnsAct_56 ic_1 ?_
    refine x_iadd (pc := 57) dX10_turnsAct_57 ?_
    refine x_invV2 (pc := 58) dX10_turnsAct_58 mlX10_451 imX10_pacerTurns seX10_pacerTurns kX10_pacerTurns (by first | assumption | rfl) rfl (Nat.le_of_ble_eq_true rfl) (by decide) ?_
    refine sm_pTurns hj hk (hw.tr hs1) hT1 (by simp; omega) (fun M2 hs2 hT2 => ?_)
    refine x_cv rfl rfl ?_
    refine x_ret (pc := 61) (v := some _) rfl trivial dX10_turnsAct_61 (by decide) ?_
    exact h M2 (hs1.tr hs2) (by rw [List.append_assoc] at hT2; exact hT2)
  by_cases k6 : kd = 6
  · subst k6
    have hz := zS_len (kd := 6) (x := x) (i := nI j) (v := nI v)
    refine x_aload_n (pc := 0) dX10_turnsAct_0 rfl ?_
    refine x_getR (pc := 1) dX10_turnsAct_1 flX10_26 (by first | assumption | rfl) rfl ?_
    refine x_iload_n (pc := 4) dX10_turnsAct_4 rfl ?_
    refine x_ialdN (pc := 5) dX10_turnsAct_5 (by first | assumption | rfl) (by first | with_reducible rfl | (simp only [xlit, nI_add, pk_mul]; with_reducible rfl)) (by omega) (by decide) ?_
    rw [hw.1]
    refine x_lookup (pc := 6) (off := 56) (tgt := 62) dX10_turnsAct_6 (by decide) (by decide) (by decide) ?_
    refine x_aload_n (pc := 62) dX10_turnsAct_62 rfl ?_
    refine x_bipushN (pc := 63) 70 dX10_turnsAct_63 bp_70 ?_
    refine x_invV1 (pc := 65) dX10_turnsAct_65 mlX10_439 imX10_body seX10_body kX10_body (by first | assumption | rfl) rfl (Nat.le_of_ble_eq_true rfl) (by decide) ?_
    refine sm_body hT (by omega) (fun M1 hs1 hT1 => ?_)
    refine x_cn rfl rfl ?_
    refine x_aload_n (pc := 68) dX10_turnsAct_68 rfl ?_
    refine x_iload_n (pc := 69) dX10_turnsAct_69 rfl ?_
    refine x_iload_n (pc := 70) dX10_turnsAct_70 rfl ?_
    refine x_invV2 (pc := 71) dX10_turnsAct_71 mlX10_448 imX10_goerTurns seX10_goerTurns kX10_goerTurns (by first | assumption | rfl) rfl (Nat.le_of_ble_eq_true rfl) (by decide) ?_
    refine sm_gTurns hj hk (hw.tr hs1) hT1 (by simp; omega) (fun M2 hs2 hT2 => ?_)
    refine x_cv rfl rfl ?_
    refine x_istore_n (pc := 74) dX10_turnsAct_74 (by decide) xs_3 (x_hp rfl) ?_
    refine x_iload_n (pc := 75) dX10_turnsAct_75 rfl ?_
    refine x_aload_n (pc := 76) dX10_turnsAct_76 rfl ?_
    refine x_iload_n (pc := 77) dX10_turnsAct_77 rfl ?_
    refine x_iconstN (pc := 78) 2 dX10_turnsAct_78 ic_2 ?_
    refine x_invV2 (pc := 79) dX10_turnsAct_79 mlX10_442 imX10_goerSteps seX10_goerSteps kX10_goerSteps (by first | assumption | rfl) rfl (Nat.le_of_ble_eq_true rfl) (by decide) ?_
    refine sm_gSteps hT2 (by simp [zGT]; omega) (fun M3 hs3 hT3 => ?_)
    refine x_cv rfl rfl ?_
    refine x_iadd (pc := 82) dX10_turnsAct_82 ?_
    refine x_ret (pc := 83) (v := some _) rfl trivial dX10_turnsAct_83 (by decide) ?_
    exact h M3 ((hs1.tr hs2).tr hs3) (by rw [List.append_assoc, List.append_assoc] at hT3; exact hT3)
  · have hz : zT (nI j) (nI v) kd x = zGT (nI j) (nI v) kd x := by rw [zT, if_neg k1, if_neg k4, if_neg k6]
    rw [hz] at h
    have hsw : ∀ kd, kd < 7 → kd ≠ 1 → kd ≠ 4 → kd ≠ 6 → Op.lookupswitch.offset [(1, 34), (4, 41), (6, 56)] 78 (nI kd).toInt = 78 := by decide +kernel
    refine x_aload_n (pc := 0) dX10_turnsAct_0 rfl ?_
    refine x_getR (pc := 1) dX10_turnsAct_1 flX10_26 (by first | assumption | rfl) rfl ?_
    refine x_iload_n (pc := 4) dX10_turnsAct_4 rfl ?_
    refine x_ialdN (pc := 5) dX10_turnsAct_5 (by first | assumption | rfl) (by first | with_reducible rfl | (simp only [xlit, nI_add, pk_mul]; with_reducible rfl)) (by omega) (by decide) ?_
    rw [hw.1]
    refine x_lookup (pc := 6) (off := 78) (tgt := 84) dX10_turnsAct_6 (by decide) (hsw kd hk k1 k4 k6) (by decide) ?_
    refine x_aload_n (pc := 84) dX10_turnsAct_84 rfl ?_
    refine x_iload_n (pc := 85) dX10_turnsAct_85 rfl ?_
    refine x_iload_n (pc := 86) dX10_turnsAct_86 rfl ?_
    refine x_invV2 (pc := 87) dX10_turnsAct_87 mlX10_448 imX10_goerTurns seX10_goerTurns kX10_goerTurns (by first | assumption | rfl) rfl (Nat.le_of_ble_eq_true rfl) (by decide) ?_
    refine sm_gTurns hj hk hw hT (by omega) (fun M1 hs1 hT1 => ?_)
    refine x_cv rfl rfl ?_
    refine x_ret (pc := 90) (v := some _) rfl trivial dX10_turnsAct_90 (by decide) ?_
    exact h M1 hs1 hT1
theorem sm_gTells (hj : j < 6) (hk : kd < 7) (hw : MAw M j kd v) (hT : MTr M l) (hl : l.length < 4000) (h : ∀ M', asm M M' → MTr M' (l ++ (zGL (nI j) (nI v) kd x).2) → K (some (.int (zGL (nI j) (nI v) kd x).1)) xSF M') : Ex g (d + 6) yX10_goerTells mX10_goerTells [.ref 65, .int (nI j), .int x] xSF M K := by
  refine x_entry kX10_goerTells (Nat.le_of_ble_eq_true rfl) ?_
  show Wp g _ mX10_goerTells 0 [some (.ref 65), some (.int (nI j)), some (.int x)] [] _ _ _ _
  refine x_aload_n (pc := 0) dX10_goerTells_0 rfl ?_
  refine x_bipushN (pc := 1) 12 dX10_goerTells_1 bp_12 ?_
  refine x_invV1 (pc := 3) dX10_goerTells_3 mlX10_439 imX10_body seX10_body kX10_body (by first | assumption | rfl) rfl (Nat.le_of_ble_eq_true rfl) (by decide) ?_
  refine sm_body hT (by omega) (fun M1 hs1 hT1 => ?_)
  refine x_cn rfl rfl ?_
  refine x_aload_n (pc := 6) dX10_goerTells_6 rfl ?_
  refine x_iload_n (pc := 7) dX10_goerTells_7 rfl ?_
  refine x_iload_n (pc := 8) dX10_goerTells_8 rfl ?_
  refine x_invV2 (pc := 9) dX10_goerTells_9 mlX10_454 imX10_turnsAct seX10_turnsAct kX10_turnsAct (by first | assumption | rfl) rfl (Nat.le_of_ble_eq_true rfl) (by decide) ?_
  refine sm_turnsAct hj hk (hw.tr hs1) hT1 (by simp; omega) (fun M2 hs2 hT2 => ?_)
  refine x_cv rfl rfl ?_
  refine x_iconstN (pc := 12) 2 dX10_goerTells_12 ic_2 ?_
  refine x_imul (pc := 13) dX10_goerTells_13 ?_
  refine x_ret (pc := 14) (v := some _) rfl trivial dX10_goerTells_14 (by decide) ?_
  exact h M2 (hs1.tr hs2) (by rw [List.append_assoc] at hT2; exact hT2)
theorem sm_tellsAct (hj : j < 6) (hk : kd < 7) (hw : MAw M j kd v) (hT : MTr M l) (hl : l.length < 3000) (h : ∀ M', asm M M' → MTr M' (l ++ (zL (nI j) (nI v) kd x).2) → K (some (.int (zL (nI j) (nI v) kd x).1)) xSF M') : Ex g (d + 7) yX10_tellsAct mX10_tellsAct [.ref 65, .int (nI j), .int x] xSF M K := by
  have hz := zT_len (kd := kd) (x := x) (i := nI j) (v := nI v)
  refine x_entry kX10_tellsAct (Nat.le_of_ble_eq_true rfl) ?_
  show Wp g _ mX10_tellsAct 0 [some (.ref 65), some (.int (nI j)), some (.int x), none] [] _ _ _ _
  by_cases k3 : kd = 3
  · subst k3
    refine x_aload_n (pc := 0) dX10_tellsAct_0 rfl ?_
    refine x_getR (pc := 1) dX10_tellsAct_1 flX10_26 (by first | assumption | rfl) rfl ?_
    refine x_iload_n (pc := 4) dX10_tellsAct_4 rfl ?_
    refine x_ialdN (pc := 5) dX10_tellsAct_5 (by first | assumption | rfl) (by first | with_reducible rfl | (simp only [xlit, nI_add, pk_mul]; with_reducible rfl)) (by omega) (by decide) ?_
    rw [hw.1]
    refine x_tableIn (pc := 6) (off := 30) (tgt := 36) dX10_tellsAct_6 (by decide) (by decide) (by decide) (by decide) ?_
    refine x_aload_n (pc := 36) dX10_tellsAct_36 rfl ?_
    refine x_bipushN (pc := 37) 40 dX10_tellsAct_37 bp_40 ?_
    refine x_invV1 (pc := 39) dX10_tellsAct_39 mlX10_439 imX10_body seX10_body kX10_body (by first | assumption | rfl) rfl (Nat.le_of_ble_eq_true rfl) (by decide) ?_
    refine sm_body hT (by omega) (fun M1 hs1 hT1 => ?_)
    refine x_cn rfl rfl ?_
    refine x_aload_n (pc := 42) dX10_tellsAct_42 rfl ?_
    refine x_iload_n (pc := 43) dX10_tellsAct_43 rfl ?_
    refine x_iload_n (pc := 44) dX10_tellsAct_44 rfl ?_
    refine x_invV2 (pc := 45) dX10_tellsAct_45 mlX10_457 imX10_goerTells seX10_goerTells kX10_goerTells (by first | assumption | rfl) rfl (Nat.le_of_ble_eq_true rfl) (by decide) ?_
    refine sm_gTells hj hk (hw.tr hs1) hT1 (by simp; omega) (fun M2 hs2 hT2 => ?_)
    refine x_cv rfl rfl ?_
    refine x_istore_n (pc := 48) dX10_tellsAct_48 (by decide) xs_3 (x_hp rfl) ?_
    refine x_iload_n (pc := 49) dX10_tellsAct_49 rfl ?_
    refine x_aload_n (pc := 50) dX10_tellsAct_50 rfl ?_
    refine x_iload_n (pc := 51) dX10_tellsAct_51 rfl ?_
    refine x_iconstN (pc := 52) 1 dX10_tellsAct_52 ic_1 ?_
    refine x_invV2 (pc := 53) dX10_tellsAct_53 mlX10_454 imX10_turnsAct seX10_turnsAct kX10_turnsAct (by first | assumption | rfl) rfl (Nat.le_of_ble_eq_true rfl) (by decide) ?_
    refine sm_turnsAct hj hk (hw.tr (hs1.tr hs2)) hT2 (by simp [zGL]; omega) (fun M3 hs3 hT3 => ?_)
    refine x_cv rfl rfl ?_
    refine x_iadd (pc := 56) dX10_tellsAct_56 ?_
    refine x_ret (pc := 57) (v := some _) rfl trivial dX10_tellsAct_57 (by decide) ?_
    exact h M3 ((hs1.tr hs2).tr hs3) (by rw [List.append_assoc, List.append_assoc] at hT3; exact hT3)
  by_cases k6 : kd = 6
  · subst k6
    refine x_aload_n (pc := 0) dX10_tellsAct_0 rfl ?_
    refine x_getR (pc := 1) dX10_tellsAct_1 flX10_26 (by first | assumption | rfl) rfl ?_
    refine x_iload_n (pc := 4) dX10_tellsAct_4 rfl ?_
    refine x_ialdN (pc := 5) dX10_tellsAct_5 (by first | assumption | rfl) (by first | with_reducible rfl | (simp only [xlit, nI_add, pk_mul]; with_reducible rfl)) (by omega) (by decide) ?_
    rw [hw.1]
    refine x_tableIn (pc := 6) (off := 30) (tgt := 36) dX10_tellsAct_6 (by decide) (by decide) (by decide) (by decide) ?_
    refine x_aload_n (pc := 36) dX10_tellsAct_36 rfl ?_
    refine x_bipushN (pc := 37) 40 dX10_tellsAct_37 bp_40 ?_
    refine x_invV1 (pc := 39) dX10_tellsAct_39 mlX10_439 imX10_body seX10_body kX10_body (by first | assumption | rfl) rfl (Nat.le_of_ble_eq_true rfl) (by decide) ?_
    refine sm_body hT (by omega) (fun M1 hs1 hT1 => ?_)
    refine x_cn rfl rfl ?_
    refine x_aload_n (pc := 42) dX10_tellsAct_42 rfl ?_
    refine x_iload_n (pc := 43) dX10_tellsAct_43 rfl ?_
    refine x_iload_n (pc := 44) dX10_tellsAct_44 rfl ?_
    refine x_invV2 (pc := 45) dX10_tellsAct_45 mlX10_457 imX10_goerTells seX10_goerTells kX10_goerTells (by first | assumption | rfl) rfl (Nat.le_of_ble_eq_true rfl) (by decide) ?_
    refine sm_gTells hj hk (hw.tr hs1) hT1 (by simp; omega) (fun M2 hs2 hT2 => ?_)
    refine x_cv rfl rfl ?_
    refine x_istore_n (pc := 48) dX10_tellsAct_48 (by decide) xs_3 (x_hp rfl) ?_
    refine x_iload_n (pc := 49) dX10_tellsAct_49 rfl ?_
    refine x_aload_n (pc := 50) dX10_tellsAct_50 rfl ?_
    refine x_iload_n (pc := 51) dX10_tellsAct_51 rfl ?_
    refine x_iconstN (pc := 52) 1 dX10_tellsAct_52 ic_1 ?_
    refine x_invV2 (pc := 53) dX10_tellsAct_53 mlX10_454 imX10_turnsAct seX10_turnsAct kX10_turnsAct (by first | assumption | rfl) rfl (Nat.le_of_ble_eq_true rfl) (by decide) ?_
    refine sm_turnsAct hj hk (hw.tr (hs1.tr hs2)) hT2 (by simp [zGL]; omega) (fun M3 hs3 hT3 => ?_)
    refine x_cv rfl rfl ?_
    refine x_iadd (pc := 56) dX10_tellsAct_56 ?_
    refine x_ret (pc := 57) (v := some _) rfl trivial dX10_tellsAct_57 (by decide) ?_
    exact h M3 ((hs1.tr hs2).tr hs3) (by rw [List.append_assoc, List.append_assoc] at hT3; exact hT3)
  by_cases k5 : kd = 5
  · subst k5
    refine x_aload_n (pc := 0) dX10_tellsAct_0 rfl ?_
    refine x_getR (pc := 1) dX10_tellsAct_1 flX10_26 (by first | assumption | rfl) rfl ?_
    refine x_iload_n (pc := 4) dX10_tellsAct_4 rfl ?_
    refine x_ialdN (pc := 5) dX10_tellsAct_5 (by first | assumption | rfl) (by first | with_reducible rfl | (simp only [xlit, nI_add, pk_mul]; with_reducible rfl)) (by omega) (by decide) ?_
    rw [hw.1]
    refine x_tableIn (pc := 6) (off := 52) (tgt := 58) dX10_tellsAct_6 (by decide) (by decide) (by decide) (by decide) ?_
    refine x_aload_n (pc := 58) dX10_tellsAct_58 rfl ?_
    refine x_bipushN (pc := 59) 60 dX10_tellsAct_59 bp_60 ?_
    refine x_invV1 (pc := 61) dX10_tellsAct_61 mlX10_439 imX10_body seX10_body kX10_body (by first | assumption | rfl) rfl (Nat.le_of_ble_eq_true rfl) (by decide) ?_
    refine sm_body hT (by omega) (fun M1 hs1 hT1 => ?_)
    refine x_cn rfl rfl ?_
    refine x_aload_n (pc := 64) dX10_tellsAct_64 rfl ?_
    refine x_iload_n (pc := 65) dX10_tellsAct_65 rfl ?_
    refine x_iload_n (pc := 66) dX10_tellsAct_66 rfl ?_
    refine x_iload_n (pc := 67) dX10_tellsAct_67 rfl ?_
    refine x_isub (pc := 68) dX10_tellsAct_68 ?_
    refine x_invV2 (pc := 69) dX10_tellsAct_69 mlX10_457 imX10_goerTells seX10_goerTells kX10_goerTells (by first | assumption | rfl) rfl (Nat.le_of_ble_eq_true rfl) (by decide) ?_
    refine sm_gTells hj hk (hw.tr hs1) hT1 (by simp; omega) (fun M2 hs2 hT2 => ?_)
    refine x_cv rfl rfl ?_
    refine x_ret (pc := 72) (v := some _) rfl trivial dX10_tellsAct_72 (by decide) ?_
    exact h M2 (hs1.tr hs2) (by rw [List.append_assoc] at hT2; exact hT2)
  have hzz : zL (nI j) (nI v) kd x = zGL (nI j) (nI v) kd x := by rw [zL, if_neg (by omega), if_neg k5]
  rw [hzz] at h
  by_cases k4 : kd = 4
  · subst k4
    refine x_aload_n (pc := 0) dX10_tellsAct_0 rfl ?_
    refine x_getR (pc := 1) dX10_tellsAct_1 flX10_26 (by first | assumption | rfl) rfl ?_
    refine x_iload_n (pc := 4) dX10_tellsAct_4 rfl ?_
    refine x_ialdN (pc := 5) dX10_tellsAct_5 (by first | assumption | rfl) (by first | with_reducible rfl | (simp only [xlit, nI_add, pk_mul]; with_reducible rfl)) (by omega) (by decide) ?_
    rw [hw.1]
    refine x_tableIn (pc := 6) (off := 67) (tgt := 73) dX10_tellsAct_6 (by decide) (by decide) (by decide) (by decide) ?_
    refine x_aload_n (pc := 73) dX10_tellsAct_73 rfl ?_
    refine x_iload_n (pc := 74) dX10_tellsAct_74 rfl ?_
    refine x_iload_n (pc := 75) dX10_tellsAct_75 rfl ?_
    refine x_invV2 (pc := 76) dX10_tellsAct_76 mlX10_457 imX10_goerTells seX10_goerTells kX10_goerTells (by first | assumption | rfl) rfl (Nat.le_of_ble_eq_true rfl) (by decide) ?_
    refine sm_gTells hj hk hw hT (by omega) (fun M1 hs1 hT1 => ?_)
    refine x_cv rfl rfl ?_
    refine x_ret (pc := 79) (v := some _) rfl trivial dX10_tellsAct_79 (by decide) ?_
    exact h M1 hs1 hT1
  · have h3 : (nI kd).toInt < 3 := by rw [nI_toInt (by omega)]; omega
    refine x_aload_n (pc := 0) dX10_tellsAct_0 rfl ?_
    refine x_getR (pc := 1) dX10_tellsAct_1 flX10_26 (by first | assumption | rfl) rfl ?_
    refine x_iload_n (pc := 4) dX10_tellsAct_4 rfl ?_
    refine x_ialdN (pc := 5) dX10_tellsAct_5 (by first | assumption | rfl) (by first | with_reducible rfl | (simp only [xlit, nI_add, pk_mul]; with_reducible rfl)) (by omega) (by decide) ?_
    rw [hw.1]
    refine x_tableOut (pc := 6) (tgt := 73) dX10_tellsAct_6 (Or.inl h3) (by decide) ?_
    refine x_aload_n (pc := 73) dX10_tellsAct_73 rfl ?_
    refine x_iload_n (pc := 74) dX10_tellsAct_74 rfl ?_
    refine x_iload_n (pc := 75) dX10_tellsAct_75 rfl ?_
    refine x_invV2 (pc := 76) dX10_tellsAct_76 mlX10_457 imX10_goerTells seX10_goerTells kX10_goerTells (by first | assumption | rfl) rfl (Nat.le_of_ble_eq_true rfl) (by decide) ?_
    refine sm_gTells hj hk hw hT (by omega) (fun M1 hs1 hT1 => ?_)
    refine x_cv rfl rfl ?_
    refine x_ret (pc := 79) (v := some _) rfl trivial dX10_tellsAct_79 (by decide) ?_
    exact h M1 hs1 hT1
theorem fM_act {y a x : Int32} (hB : bdA s.1.1) (hC : MC9 M s) (h : ∀ M', high M M' → MC9 M' (opAct s y a x).2 → K (some (.int (opAct s y a x).1)) xSF M') : Ex g (d + 8) yX10_act mX10_act [.ref 65, .int y, .int a, .int x] xSF M K := by
  unfold opAct at h
  have hP := hC.1.2.2.2.2.2.1
  have h6 := hB.2.1
  have up : ∀ (M' : XM) (l : List Nat), asm M M' → MTr M' l → high M M' ∧ MC9 M' (trSt s l) := by
    intro M' l hs hl
    refine ⟨⟨fun b hb => funext fun k => hs.1 b k (by omega) (by omega), fun b _ => by rw [hs.2]⟩, hC.upA ?_ ?_ ?_ ?_ ?_ hs.2 hl⟩ <;> intro b k q <;> refine hs.1 b k (fun z => ?_) (fun z => ?_)
    all_goals (first | (obtain ⟨z1, z2⟩ := z; subst z1; subst z2; revert q; decide) | (subst z; simp [wP, wI, wR, wT, wC] at q))
  have hT0 : MTr (xput M 65 71 (nI 0)) [] := ⟨rfl, fun i _ hi => by cases hi⟩
  have hs0 : asm M (xput M 65 71 (nI 0)) := ⟨fun b k n1 _ => if_neg n1, rfl⟩
  refine x_entry kX10_act (Nat.le_of_ble_eq_true rfl) ?_
  show Wp g _ mX10_act 0 [some (.ref 65), some (.int y), some (.int a), some (.int x)] [] _ _ _ _
  rcases isR_cases (x := y) (n := s.1.1 8 0) (by omega) with e | ⟨j, hj, rfl, e⟩
  · simp only [e, Bool.false_eq_true, if_false, false_and] at h
    refine x_aload_n (pc := 0) dX10_act_0 rfl ?_
    refine x_iconstN (pc := 1) 0 dX10_act_1 ic_0 ?_
    refine x_putI (pc := 2) dX10_act_2 flX10_226 (by first | assumption | rfl) rfl rfl rfl ?_
    refine x_aload_n (pc := 5) dX10_act_5 rfl ?_
    refine x_iload_n (pc := 6) dX10_act_6 rfl ?_
    refine x_invV1 (pc := 7) dX10_act_7 mlX10_264 imX10_isGoer seX10_isGoer kX10_isGoer (by first | assumption | rfl) rfl (Nat.le_of_ble_eq_true rfl) (by decide) ?_
    refine sm_isGoer h6 hC.1.1 ?_
    refine x_cv rfl rfl ?_
    rw [e]
    first | (guard_target =~ Wp _ _ _ _ _ (Value.int (nI _) :: _) _ _ _ _; with_reducible refine x_if_eqN (pc := 10) (tgt := 23) ?_ dX10_act_10 ?_ (fun h10 => ?_) (fun h10 => ?_); (first | omega | exact b2n_32 _ | exact b2n_31 _); decide) | refine x_if_eq (pc := 10) (tgt := 23) dX10_act_10 (by decide) (fun h10 => ?_) (fun h10 => ?_)
    · skip
      refine x_iconstN (pc := 23) 0 dX10_act_23 ic_0 ?_
      refine x_ret (pc := 24) (v := some _) rfl trivial dX10_act_24 (by decide) ?_
      exact h _ (up _ _ hs0 hT0).1 (up _ _ hs0 hT0).2
    · skip
      exact absurd rfl h10
  rcases isR_cases (x := a) (n := 3) (by omega) with e2 | ⟨a, ha, rfl, e2⟩
  · simp only [e2, Bool.false_eq_true, if_false, and_false] at h
    refine x_aload_n (pc := 0) dX10_act_0 rfl ?_
    refine x_iconstN (pc := 1) 0 dX10_act_1 ic_0 ?_
    refine x_putI (pc := 2) dX10_act_2 flX10_226 (by first | assumption | rfl) rfl rfl rfl ?_
    refine x_aload_n (pc := 5) dX10_act_5 rfl ?_
    refine x_iload_n (pc := 6) dX10_act_6 rfl ?_
    refine x_invV1 (pc := 7) dX10_act_7 mlX10_264 imX10_isGoer seX10_isGoer kX10_isGoer (by first | assumption | rfl) rfl (Nat.le_of_ble_eq_true rfl) (by decide) ?_
    refine sm_isGoer h6 hC.1.1 ?_
    refine x_cv rfl rfl ?_
    rw [e]
    first | (guard_target =~ Wp _ _ _ _ _ (Value.int (nI _) :: _) _ _ _ _; with_reducible refine x_if_eqN (pc := 10) (tgt := 23) ?_ dX10_act_10 ?_ (fun h10 => ?_) (fun h10 => ?_); (first | omega | exact b2n_32 _ | exact b2n_31 _); decide) | refine x_if_eq (pc := 10) (tgt := 23) dX10_act_10 (by decide) (fun h10 => ?_) (fun h10 => ?_)
    · skip
      cases h10
    · skip
      refine x_aload_n (pc := 13) dX10_act_13 rfl ?_
      refine x_iload_n (pc := 14) dX10_act_14 rfl ?_
      refine x_iconstN (pc := 15) 0 dX10_act_15 ic_0 ?_
      refine x_iconstN (pc := 16) 2 dX10_act_16 ic_2 ?_
      refine x_invV3 (pc := 17) dX10_act_17 mlX10_253 imX10_in seX10_in kX10_in (by first | assumption | rfl) rfl (Nat.le_of_ble_eq_true rfl) (by decide) ?_
      refine sm_in ?_
      refine x_cv rfl rfl ?_
      rw [btw_isR (by decide), show isR a (nI (2 + 1)) = false from e2]
      first | (guard_target =~ Wp _ _ _ _ _ (Value.int (nI _) :: _) _ _ _ _; with_reducible refine x_if_neN (pc := 20) (tgt := 25) ?_ dX10_act_20 ?_ (fun h20 => ?_) (fun h20 => ?_); (first | omega | exact b2n_32 _ | exact b2n_31 _); decide) | refine x_if_ne (pc := 20) (tgt := 25) dX10_act_20 (by decide) (fun h20 => ?_) (fun h20 => ?_)
      · skip
        exact absurd rfl h20
      · skip
        refine x_iconstN (pc := 23) 0 dX10_act_23 ic_0 ?_
        refine x_ret (pc := 24) (v := some _) rfl trivial dX10_act_24 (by decide) ?_
        exact h _ (up _ _ hs0 hT0).1 (up _ _ hs0 hT0).2
  simp only [e, e2, and_self, if_true] at h
  rw [toN_nI (by omega), toN_nI (by omega)] at h
  have hkd : s.1.1 1 j < 7 := hB.1 1 (by decide) j (show j < 6 by omega)
  have hw : MAw (xput M 65 71 (nI 0)) j (s.1.1 1 j) (s.1.1 2 j) := ⟨hP 1 (by decide) j (show j < 6 by omega), hP 2 (by decide) j (show j < 6 by omega)⟩
  have hz := z_run (i := nI j) (v := nI (s.1.1 2 j)) (x := x) hkd ha
  refine x_aload_n (pc := 0) dX10_act_0 rfl ?_
  refine x_iconstN (pc := 1) 0 dX10_act_1 ic_0 ?_
  refine x_putI (pc := 2) dX10_act_2 flX10_226 (by first | assumption | rfl) rfl rfl rfl ?_
  refine x_aload_n (pc := 5) dX10_act_5 rfl ?_
  refine x_iload_n (pc := 6) dX10_act_6 rfl ?_
  refine x_invV1 (pc := 7) dX10_act_7 mlX10_264 imX10_isGoer seX10_isGoer kX10_isGoer (by first | assumption | rfl) rfl (Nat.le_of_ble_eq_true rfl) (by decide) ?_
  refine sm_isGoer h6 hC.1.1 ?_
  refine x_cv rfl rfl ?_
  rw [e]
  first | (guard_target =~ Wp _ _ _ _ _ (Value.int (nI _) :: _) _ _ _ _; with_reducible refine x_if_eqN (pc := 10) (tgt := 23) ?_ dX10_act_10 ?_ (fun h10 => ?_) (fun h10 => ?_); (first | omega | exact b2n_32 _ | exact b2n_31 _); decide) | refine x_if_eq (pc := 10) (tgt := 23) dX10_act_10 (by decide) (fun h10 => ?_) (fun h10 => ?_)
  · skip
    cases h10
  · skip
    refine x_aload_n (pc := 13) dX10_act_13 rfl ?_
    refine x_iload_n (pc := 14) dX10_act_14 rfl ?_
    refine x_iconstN (pc := 15) 0 dX10_act_15 ic_0 ?_
    refine x_iconstN (pc := 16) 2 dX10_act_16 ic_2 ?_
    refine x_invV3 (pc := 17) dX10_act_17 mlX10_253 imX10_in seX10_in kX10_in (by first | assumption | rfl) rfl (Nat.le_of_ble_eq_true rfl) (by decide) ?_
    refine sm_in ?_
    refine x_cv rfl rfl ?_
    rw [btw_isR (by decide), show isR (nI a) (nI (2 + 1)) = true from e2]
    first | (guard_target =~ Wp _ _ _ _ _ (Value.int (nI _) :: _) _ _ _ _; with_reducible refine x_if_neN (pc := 20) (tgt := 25) ?_ dX10_act_20 ?_ (fun h20 => ?_) (fun h20 => ?_); (first | omega | exact b2n_32 _ | exact b2n_31 _); decide) | refine x_if_ne (pc := 20) (tgt := 25) dX10_act_20 (by decide) (fun h20 => ?_) (fun h20 => ?_)
    · skip
      refine x_iload_n (pc := 25) dX10_act_25 rfl ?_
      first | (guard_target =~ Wp _ _ _ _ _ (Value.int (nI _) :: _) _ _ _ _; with_reducible refine x_if_neN (pc := 26) (tgt := 38) ?_ dX10_act_26 ?_ (fun h26 => ?_) (fun h26 => ?_); (first | omega | exact b2n_32 _ | exact b2n_31 _); decide) | refine x_if_ne (pc := 26) (tgt := 38) dX10_act_26 (by decide) (fun h26 => ?_) (fun h26 => ?_)
      · skip
        refine x_iload_n (pc := 38) dX10_act_38 rfl ?_
        refine x_iconstN (pc := 39) 1 dX10_act_39 ic_1 ?_
        first | (guard_target =~ Wp _ _ _ _ _ (Value.int (nI _) :: Value.int (nI _) :: _) _ _ _ _; with_reducible refine x_icmp_neN (pc := 40) (tgt := 52) ?_ ?_ dX10_act_40 ?_ (fun h40 => ?_) (fun h40 => ?_); (first | omega | exact b2n_31 _); (first | omega | exact b2n_31 _); decide) | refine x_icmp_ne (pc := 40) (tgt := 52) dX10_act_40 (by decide) (fun h40 => ?_) (fun h40 => ?_)
        · skip
          refine x_aload_n (pc := 52) dX10_act_52 rfl ?_
          refine x_iload_n (pc := 53) dX10_act_53 rfl ?_
          refine x_iload_n (pc := 54) dX10_act_54 rfl ?_
          refine x_invV2 (pc := 55) dX10_act_55 mlX10_460 imX10_tellsAct seX10_tellsAct kX10_tellsAct (by first | assumption | rfl) rfl (Nat.le_of_ble_eq_true rfl) (by decide) ?_
          refine sm_tellsAct (by omega) hkd hw hT0 (by decide) (fun M2 hs2 hT2 => ?_)
          refine x_cv rfl rfl ?_
          refine x_ret (pc := 58) (v := some _) rfl trivial dX10_act_58 (by decide) ?_
          rw [if_neg h26, if_neg h40] at hz; unfold actA at h; rw [← hz] at h; exact h _ (up _ _ (hs0.tr hs2) hT2).1 (up _ _ (hs0.tr hs2) hT2).2
        · skip
          refine x_aload_n (pc := 43) dX10_act_43 rfl ?_
          refine x_iload_n (pc := 44) dX10_act_44 rfl ?_
          refine x_iload_n (pc := 45) dX10_act_45 rfl ?_
          refine x_invV2 (pc := 46) dX10_act_46 mlX10_454 imX10_turnsAct seX10_turnsAct kX10_turnsAct (by first | assumption | rfl) rfl (Nat.le_of_ble_eq_true rfl) (by decide) ?_
          refine sm_turnsAct (by omega) hkd hw hT0 (by decide) (fun M2 hs2 hT2 => ?_)
          refine x_cv rfl rfl ?_
          refine x_goto (pc := 49) (tgt := 58) dX10_act_49 (by decide) ?_
          refine x_ret (pc := 58) (v := some _) rfl trivial dX10_act_58 (by decide) ?_
          rw [if_neg h26, if_pos h40] at hz; unfold actA at h; rw [← hz] at h; exact h _ (up _ _ (hs0.tr hs2) hT2).1 (up _ _ (hs0.tr hs2) hT2).2
      · skip
        refine x_aload_n (pc := 29) dX10_act_29 rfl ?_
        refine x_iload_n (pc := 30) dX10_act_30 rfl ?_
        refine x_iload_n (pc := 31) dX10_act_31 rfl ?_
        refine x_invV2 (pc := 32) dX10_act_32 mlX10_445 imX10_stepsAct seX10_stepsAct kX10_stepsAct (by first | assumption | rfl) rfl (Nat.le_of_ble_eq_true rfl) (by decide) ?_
        refine sm_stepsAct (by omega) hkd hw hT0 (by decide) (fun M2 hs2 hT2 => ?_)
        refine x_cv rfl rfl ?_
        refine x_goto (pc := 35) (tgt := 58) dX10_act_35 (by decide) ?_
        refine x_ret (pc := 58) (v := some _) rfl trivial dX10_act_58 (by decide) ?_
        rw [if_pos h26] at hz; unfold actA at h; rw [← hz] at h; exact h _ (up _ _ (hs0.tr hs2) hT2).1 (up _ _ (hs0.tr hs2) hT2).2
    · skip
      cases h20
end P70
