/-! the MODEL: treadsBy, layWorn -/
/-- how a goer whose way is the set treads on a cell on a day -/
def tby (A : XA) (gg set c day : Nat) : Nat := if set = 0 then 0 else match A 1 gg with
  | 1 => 2 * b2n (set.testBit c)
  | 3 => if day % 2 = 1 then b2n (set.testBit c) else 0
  | 4 => 2 * b2n (set.testBit c) + (if c = A 4 gg then A 2 gg else 0)
  | 5 => b2n (set.testBit c) + b2n (adj c (A 4 gg))
  | 6 => (if day % 2 = 1 then b2n (set.testBit c) else 0) + (if c = A 3 gg then A 5 (4 * gg + day % 4) else 0)
  | _ => b2n (set.testBit c)
def wrn (A : XA) (L : List XCl) (gg c r : Nat) : Nat := yvF (fG gg (A 1 gg) (A 2 gg)) L c * tby A gg (wbits (wayL A gg)) c r
def wnF (A : XA) (L : List XCl) (j : Nat) : Nat := wrn A L (j / 64) (j / 4 % 16) (j % 4)
theorem tby_le {A : XA} {gg set c day : Nat} (hB : bdA A) (hg : gg < 6) : tby A gg set c day ≤ 11 := by
  have h2 : A 2 gg < 10 := hB.1 2 (by decide) gg (show gg < 6 by omega)
  have h5 : A 5 (4 * gg + day % 4) < 10 := hB.1 5 (by decide) _ (show 4 * gg + day % 4 < 24 by omega)
  have hb := b2n_lt (set.testBit c)
  have hb2 := b2n_lt (adj c (A 4 gg))
  unfold tby
  (repeat' split) <;> omega
theorem tby_mod {A : XA} {gg set c day : Nat} : tby A gg set c (day % 4) = tby A gg set c day := by
  unfold tby
  rw [show day % 4 % 2 = day % 2 by omega, show day % 4 % 4 = day % 4 by omega]
section P77
variable {g : XG} {d : Nat} {M : XM} {K : Option Value → XS → XM → Prop} {A : XA} {W gg b0 : Nat} {L : List XCl}
theorem sm_treadsBy {set c day : Nat} (hB : bdA A) (hQ : MNow M A W) (hg : gg < 6) (hc : c < 16) (hs : set < 65536) (hd : day < 1048576) (h : K (some (.int (nI (tby A gg set c day)))) xSF M) : Ex g (d + 2) yX10_treadsBy mX10_treadsBy [.ref 65, .int (nI gg), .int (nI set), .int (nI c), .int (nI day)] xSF M K := by
  have hk : A 1 gg < 7 := hB.1 1 (by decide) gg (show gg < 6 by omega)
  have hv : A 2 gg < 10 := hB.1 2 (by decide) gg (show gg < 6 by omega)
  have ht : A 4 gg < 16 := hB.1 4 (by decide) gg (show gg < 6 by omega)
  have hf : A 3 gg < 16 := hB.1 3 (by decide) gg (show gg < 6 by omega)
  have hr : A 5 (4 * gg + day % 4) < 10 := hB.1 5 (by decide) _ (show 4 * gg + day % 4 < 24 by omega)
  have q1 : M.1 67 gg = nI (A 1 gg) := hQ.2.2.2.2 1 (by decide) gg (show gg < 6 by omega)
  have q2 : M.1 68 gg = nI (A 2 gg) := hQ.2.2.2.2 2 (by decide) gg (show gg < 6 by omega)
  have q3 : M.1 69 gg = nI (A 3 gg) := hQ.2.2.2.2 3 (by decide) gg (show gg < 6 by omega)
  have q4 : M.1 70 gg = nI (A 4 gg) := hQ.2.2.2.2 4 (by decide) gg (show gg < 6 by omega)
  have q5 : M.1 71 (4 * gg + day % 4) = nI (A 5 (4 * gg + day % 4)) := hQ.2.2.2.2 5 (by decide) _ (show 4 * gg + day % 4 < 24 by omega)
  refine x_entry kX10_treadsBy (Nat.le_of_ble_eq_true rfl) ?_
  show Wp g _ mX10_treadsBy 0 [some (.ref 65), some (.int (nI gg)), some (.int (nI set)), some (.int (nI c)), some (.int (nI day)), none] [] _ _ _ _
  by_cases h0 : set = 0
  · subst h0
    refine x_iload_n (pc := 0) dX10_treadsBy_0 rfl ?_
    first | (guard_target =~ Wp _ _ _ _ _ (Value.int (nI _) :: _) _ _ _ _; with_reducible refine x_if_neN (pc := 1) (tgt := 6) ?_ dX10_treadsBy_1 ?_ (fun h1 => ?_) (fun h1 => ?_); (first | omega | exact b2n_32 _ | exact b2n_31 _); decide) | refine x_if_ne (pc := 1) (tgt := 6) dX10_treadsBy_1 (by decide) (fun h1 => ?_) (fun h1 => ?_)
    · skip
      omega
    · skip
      refine x_iconstN (pc := 4) 0 dX10_treadsBy_4 ic_0 ?_
      refine x_ret (pc := 5) (v := some _) rfl trivial dX10_treadsBy_5 (by decide) ?_
      exact h
  unfold tby at h
  rw [if_neg h0] at h
  obtain ⟨k, hkk⟩ : ∃ k, A 1 gg = k := ⟨_, rfl⟩
  rw [hkk] at h q1 hk
  have hon : ∀ b : Bool, (b2n b = 0 → nI 0 = nI (b2n b)) ∧ (¬ b2n b = 0 → nI 1 = nI (b2n b)) := fun b => ⟨fun q => by rw [q], fun q => by rw [b2n_1 q]; rfl⟩
  have hcs : k = 1 ∨ k = 3 ∨ k = 4 ∨ k = 5 ∨ k = 6 ∨ k = 0 ∨ k = 2 := by omega
  rcases hcs with rfl | rfl | rfl | rfl | rfl | rfl | rfl
  · skip
    refine x_iload_n (pc := 0) dX10_treadsBy_0 rfl ?_
    first | (guard_target =~ Wp _ _ _ _ _ (Value.int (nI _) :: _) _ _ _ _; with_reducible refine x_if_neN (pc := 1) (tgt := 6) ?_ dX10_treadsBy_1 ?_ (fun h1 => ?_) (fun h1 => ?_); (first | omega | exact b2n_32 _ | exact b2n_31 _); decide) | refine x_if_ne (pc := 1) (tgt := 6) dX10_treadsBy_1 (by decide) (fun h1 => ?_) (fun h1 => ?_)
    · skip
      refine x_aload_n (pc := 6) dX10_treadsBy_6 rfl ?_
      refine x_iload_n (pc := 7) dX10_treadsBy_7 rfl ?_
      refine x_iload_n (pc := 8) dX10_treadsBy_8 rfl ?_
      refine x_invV2 (pc := 9) dX10_treadsBy_9 mlX10_245 imX10_has seX10_has kX10_has (by first | assumption | rfl) rfl (Nat.le_of_ble_eq_true rfl) (by decide) ?_
      refine sm_has (by omega) ?_
      refine x_cv rfl rfl ?_
      rw [tb_nI (by omega)]
      first | (guard_target =~ Wp _ _ _ _ _ (Value.int (nI _) :: _) _ _ _ _; with_reducible refine x_if_eqN (pc := 12) (tgt := 19) ?_ dX10_treadsBy_12 ?_ (fun h12 => ?_) (fun h12 => ?_); (first | omega | exact b2n_32 _ | exact b2n_31 _); decide) | refine x_if_eq (pc := 12) (tgt := 19) dX10_treadsBy_12 (by decide) (fun h12 => ?_) (fun h12 => ?_)
      · skip
        refine x_iconstN (pc := 19) 0 dX10_treadsBy_19 ic_0 ?_
        first | rw [(hon _).1 h12] | rw [(hon _).2 h12]
        refine x_istore (pc := 20) dX10_treadsBy_20 (by decide) xs_5 (x_hp rfl) ?_
        refine x_aload_n (pc := 22) dX10_treadsBy_22 rfl ?_
        refine x_getR (pc := 23) dX10_treadsBy_23 flX10_26 (by first | assumption | rfl) rfl ?_
        refine x_iload_n (pc := 26) dX10_treadsBy_26 rfl ?_
        refine x_ialdN (pc := 27) dX10_treadsBy_27 (by first | assumption | rfl) (by first | with_reducible rfl | (simp only [xlit, nI_add, pk_mul]; with_reducible rfl)) (by omega) (by decide) ?_
        rw [q1]
        refine x_tableIn (pc := 28) (off := 40) (tgt := 68) dX10_treadsBy_28 (by decide) (by decide) (by decide) (by decide) ?_
        refine x_iconstN (pc := 68) 2 dX10_treadsBy_68 ic_2 ?_
        refine x_iload (pc := 69) dX10_treadsBy_69 rfl ?_
        first | (guard_target =~ Wp _ _ _ _ _ (Value.int (nI _) :: Value.int (nI _) :: _) _ _ _ _; with_reducible refine x_imulN (pc := 71) dX10_treadsBy_71 ?_) | refine x_imul (pc := 71) dX10_treadsBy_71 ?_
        refine x_ret (pc := 72) (v := some _) rfl trivial dX10_treadsBy_72 (by decide) ?_
        exact h
      · skip
        refine x_iconstN (pc := 15) 1 dX10_treadsBy_15 ic_1 ?_
        refine x_goto (pc := 16) (tgt := 20) dX10_treadsBy_16 (by decide) ?_
        first | rw [(hon _).1 h12] | rw [(hon _).2 h12]
        refine x_istore (pc := 20) dX10_treadsBy_20 (by decide) xs_5 (x_hp rfl) ?_
        refine x_aload_n (pc := 22) dX10_treadsBy_22 rfl ?_
        refine x_getR (pc := 23) dX10_treadsBy_23 flX10_26 (by first | assumption | rfl) rfl ?_
        refine x_iload_n (pc := 26) dX10_treadsBy_26 rfl ?_
        refine x_ialdN (pc := 27) dX10_treadsBy_27 (by first | assumption | rfl) (by first | with_reducible rfl | (simp only [xlit, nI_add, pk_mul]; with_reducible rfl)) (by omega) (by decide) ?_
        rw [q1]
        refine x_tableIn (pc := 28) (off := 40) (tgt := 68) dX10_treadsBy_28 (by decide) (by decide) (by decide) (by decide) ?_
        refine x_iconstN (pc := 68) 2 dX10_treadsBy_68 ic_2 ?_
        refine x_iload (pc := 69) dX10_treadsBy_69 rfl ?_
        first | (guard_target =~ Wp _ _ _ _ _ (Value.int (nI _) :: Value.int (nI _) :: _) _ _ _ _; with_reducible refine x_imulN (pc := 71) dX10_treadsBy_71 ?_) | refine x_imul (pc := 71) dX10_treadsBy_71 ?_
        refine x_ret (pc := 72) (v := some _) rfl trivial dX10_treadsBy_72 (by decide) ?_
        exact h
    · skip
      omega
  · skip
    refine x_iload_n (pc := 0) dX10_treadsBy_0 rfl ?_
    first | (guard_target =~ Wp _ _ _ _ _ (Value.int (nI _) :: _) _ _ _ _; with_reducible refine x_if_neN (pc := 1) (tgt := 6) ?_ dX10_treadsBy_1 ?_ (fun h1 => ?_) (fun h1 => ?_); (first | omega | exact b2n_32 _ | exact b2n_31 _); decide) | refine x_if_ne (pc := 1) (tgt := 6) dX10_treadsBy_1 (by decide) (fun h1 => ?_) (fun h1 => ?_)
    · skip
      refine x_aload_n (pc := 6) dX10_treadsBy_6 rfl ?_
      refine x_iload_n (pc := 7) dX10_treadsBy_7 rfl ?_
      refine x_iload_n (pc := 8) dX10_treadsBy_8 rfl ?_
      refine x_invV2 (pc := 9) dX10_treadsBy_9 mlX10_245 imX10_has seX10_has kX10_has (by first | assumption | rfl) rfl (Nat.le_of_ble_eq_true rfl) (by decide) ?_
      refine sm_has (by omega) ?_
      refine x_cv rfl rfl ?_
      rw [tb_nI (by omega)]
      first | (guard_target =~ Wp _ _ _ _ _ (Value.int (nI _) :: _) _ _ _ _; with_reducible refine x_if_eqN (pc := 12) (tgt := 19) ?_ dX10_treadsBy_12 ?_ (fun h12 => ?_) (fun h12 => ?_); (first | omega | exact b2n_32 _ | exact b2n_31 _); decide) | refine x_if_eq (pc := 12) (tgt := 19) dX10_treadsBy_12 (by decide) (fun h12 => ?_) (fun h12 => ?_)
      · skip
        refine x_iconstN (pc := 19) 0 dX10_treadsBy_19 ic_0 ?_
        first | rw [(hon _).1 h12] | rw [(hon _).2 h12]
        refine x_istore (pc := 20) dX10_treadsBy_20 (by decide) xs_5 (x_hp rfl) ?_
        refine x_aload_n (pc := 22) dX10_treadsBy_22 rfl ?_
        refine x_getR (pc := 23) dX10_treadsBy_23 flX10_26 (by first | assumption | rfl) rfl ?_
        refine x_iload_n (pc := 26) dX10_treadsBy_26 rfl ?_
        refine x_ialdN (pc := 27) dX10_treadsBy_27 (by first | assumption | rfl) (by first | with_reducible rfl | (simp only [xlit, nI_add, pk_mul]; with_reducible rfl)) (by omega) (by decide) ?_
        rw [q1]
        refine x_tableIn (pc := 28) (off := 45) (tgt := 73) dX10_treadsBy_28 (by decide) (by decide) (by decide) (by decide) ?_
        refine x_iload (pc := 73) dX10_treadsBy_73 rfl ?_
        refine x_iconstN (pc := 75) 2 dX10_treadsBy_75 ic_2 ?_
        first | (guard_target =~ Wp _ _ _ _ _ (Value.int (nI _) :: Value.int (nI _) :: _) _ _ _ _; with_reducible refine x_iremN (pc := 76) ?_ ?_ ?_ dX10_treadsBy_76 ?_; omega; omega; omega) | refine x_irem (pc := 76) dX10_treadsBy_76 (by assumption) ?_
        refine x_iconstN (pc := 77) 1 dX10_treadsBy_77 ic_1 ?_
        first | (guard_target =~ Wp _ _ _ _ _ (Value.int (nI _) :: Value.int (nI _) :: _) _ _ _ _; with_reducible refine x_icmp_neN (pc := 78) (tgt := 86) ?_ ?_ dX10_treadsBy_78 ?_ (fun h78 => ?_) (fun h78 => ?_); (first | omega | exact b2n_31 _); (first | omega | exact b2n_31 _); decide) | refine x_icmp_ne (pc := 78) (tgt := 86) dX10_treadsBy_78 (by decide) (fun h78 => ?_) (fun h78 => ?_)
        · skip
          refine x_iconstN (pc := 86) 0 dX10_treadsBy_86 ic_0 ?_
          refine x_ret (pc := 87) (v := some _) rfl trivial dX10_treadsBy_87 (by decide) ?_
          rw [if_neg h78] at h; exact h
        · skip
          refine x_iload (pc := 81) dX10_treadsBy_81 rfl ?_
          refine x_goto (pc := 83) (tgt := 87) dX10_treadsBy_83 (by decide) ?_
          refine x_ret (pc := 87) (v := some _) rfl trivial dX10_treadsBy_87 (by decide) ?_
          rw [if_pos h78] at h; exact h
      · skip
        refine x_iconstN (pc := 15) 1 dX10_treadsBy_15 ic_1 ?_
        refine x_goto (pc := 16) (tgt := 20) dX10_treadsBy_16 (by decide) ?_
        first | rw [(hon _).1 h12] | rw [(hon _).2 h12]
        refine x_istore (pc := 20) dX10_treadsBy_20 (by decide) xs_5 (x_hp rfl) ?_
        refine x_aload_n (pc := 22) dX10_treadsBy_22 rfl ?_
        refine x_getR (pc := 23) dX10_treadsBy_23 flX10_26 (by first | assumption | rfl) rfl ?_
        refine x_iload_n (pc := 26) dX10_treadsBy_26 rfl ?_
        refine x_ialdN (pc := 27) dX10_treadsBy_27 (by first | assumption | rfl) (by first | with_reducible rfl | (simp only [xlit, nI_add, pk_mul]; with_reducible rfl)) (by omega) (by decide) ?_
        rw [q1]
        refine x_tableIn (pc := 28) (off := 45) (tgt := 73) dX10_treadsBy_28 (by decide) (by decide) (by decide) (by decide) ?_
        refine x_iload (pc := 73) dX10_treadsBy_73 rfl ?_
        refine x_iconstN (pc := 75) 2 dX10_treadsBy_75 ic_2 ?_
        first | (guard_target =~ Wp _ _ _ _ _ (Value.int (nI _) :: Value.int (nI _) :: _) _ _ _ _; with_reducible refine x_iremN (pc := 76) ?_ ?_ ?_ dX10_treadsBy_76 ?_; omega; omega; omega) | refine x_irem (pc := 76) dX10_treadsBy_76 (by assumption) ?_
        refine x_iconstN (pc := 77) 1 dX10_treadsBy_77 ic_1 ?_
        first | (guard_target =~ Wp _ _ _ _ _ (Value.int (nI _) :: Value.int (nI _) :: _) _ _ _ _; with_reducible refine x_icmp_neN (pc := 78) (tgt := 86) ?_ ?_ dX10_treadsBy_78 ?_ (fun h78 => ?_) (fun h78 => ?_); (first | omega | exact b2n_31 _); (first | omega | exact b2n_31 _); decide) | refine x_icmp_ne (pc := 78) (tgt := 86) dX10_treadsBy_78 (by decide) (fun h78 => ?_) (fun h78 => ?_)
        · skip
          refine x_iconstN (pc := 86) 0 dX10_treadsBy_86 ic_0 ?_
          refine x_ret (pc := 87) (v := some _) rfl trivial dX10_treadsBy_87 (by decide) ?_
          rw [if_neg h78] at h; exact h
        · skip
          refine x_iload (pc := 81) dX10_treadsBy_81 rfl ?_
          refine x_goto (pc := 83) (tgt := 87) dX10_treadsBy_83 (by decide) ?_
          refine x_ret (pc := 87) (v := some _) rfl trivial dX10_treadsBy_87 (by decide) ?_
          rw [if_pos h78] at h; exact h
    · skip
      omega
  · skip
    refine x_iload_n (pc := 0) dX10_treadsBy_0 rfl ?_
    first | (guard_target =~ Wp _ _ _ _ _ (Value.int (nI _) :: _) _ _ _ _; with_reducible refine x_if_neN (pc := 1) (tgt := 6) ?_ dX10_treadsBy_1 ?_ (fun h1 => ?_) (fun h1 => ?_); (first | omega | exact b2n_32 _ | exact b2n_31 _); decide) | refine x_if_ne (pc := 1) (tgt := 6) dX10_treadsBy_1 (by decide) (fun h1 => ?_) (fun h1 => ?_)
    · skip
      refine x_aload_n (pc := 6) dX10_treadsBy_6 rfl ?_
      refine x_iload_n (pc := 7) dX10_treadsBy_7 rfl ?_
      refine x_iload_n (pc := 8) dX10_treadsBy_8 rfl ?_
      refine x_invV2 (pc := 9) dX10_treadsBy_9 mlX10_245 imX10_has seX10_has kX10_has (by first | assumption | rfl) rfl (Nat.le_of_ble_eq_true rfl) (by decide) ?_
      refine sm_has (by omega) ?_
      refine x_cv rfl rfl ?_
      rw [tb_nI (by omega)]
      first | (guard_target =~ Wp _ _ _ _ _ (Value.int (nI _) :: _) _ _ _ _; with_reducible refine x_if_eqN (pc := 12) (tgt := 19) ?_ dX10_treadsBy_12 ?_ (fun h12 => ?_) (fun h12 => ?_); (first | omega | exact b2n_32 _ | exact b2n_31 _); decide) | refine x_if_eq (pc := 12) (tgt := 19) dX10_treadsBy_12 (by decide) (fun h12 => ?_) (fun h12 => ?_)
      · skip
        refine x_iconstN (pc := 19) 0 dX10_treadsBy_19 ic_0 ?_
        first | rw [(hon _).1 h12] | rw [(hon _).2 h12]
        refine x_istore (pc := 20) dX10_treadsBy_20 (by decide) xs_5 (x_hp rfl) ?_
        refine x_aload_n (pc := 22) dX10_treadsBy_22 rfl ?_
        refine x_getR (pc := 23) dX10_treadsBy_23 flX10_26 (by first | assumption | rfl) rfl ?_
        refine x_iload_n (pc := 26) dX10_treadsBy_26 rfl ?_
        refine x_ialdN (pc := 27) dX10_treadsBy_27 (by first | assumption | rfl) (by first | with_reducible rfl | (simp only [xlit, nI_add, pk_mul]; with_reducible rfl)) (by omega) (by decide) ?_
        rw [q1]
        refine x_tableIn (pc := 28) (off := 60) (tgt := 88) dX10_treadsBy_28 (by decide) (by decide) (by decide) (by decide) ?_
        refine x_iconstN (pc := 88) 2 dX10_treadsBy_88 ic_2 ?_
        refine x_iload (pc := 89) dX10_treadsBy_89 rfl ?_
        first | (guard_target =~ Wp _ _ _ _ _ (Value.int (nI _) :: Value.int (nI _) :: _) _ _ _ _; with_reducible refine x_imulN (pc := 91) dX10_treadsBy_91 ?_) | refine x_imul (pc := 91) dX10_treadsBy_91 ?_
        refine x_iload_n (pc := 92) dX10_treadsBy_92 rfl ?_
        refine x_aload_n (pc := 93) dX10_treadsBy_93 rfl ?_
        refine x_getR (pc := 94) dX10_treadsBy_94 flX10_35 (by first | assumption | rfl) rfl ?_
        refine x_iload_n (pc := 97) dX10_treadsBy_97 rfl ?_
        refine x_ialdN (pc := 98) dX10_treadsBy_98 (by first | assumption | rfl) (by first | with_reducible rfl | (simp only [xlit, nI_add, pk_mul]; with_reducible rfl)) (by omega) (by decide) ?_
        rw [q4]
        first | (guard_target =~ Wp _ _ _ _ _ (Value.int (nI _) :: Value.int (nI _) :: _) _ _ _ _; with_reducible refine x_icmp_neN (pc := 99) (tgt := 111) ?_ ?_ dX10_treadsBy_99 ?_ (fun h99 => ?_) (fun h99 => ?_); (first | omega | exact b2n_31 _); (first | omega | exact b2n_31 _); decide) | refine x_icmp_ne (pc := 99) (tgt := 111) dX10_treadsBy_99 (by decide) (fun h99 => ?_) (fun h99 => ?_)
        · skip
          refine x_iconstN (pc := 111) 0 dX10_treadsBy_111 ic_0 ?_
          first | (guard_target =~ Wp _ _ _ _ _ (Value.int (nI _) :: Value.int (nI _) :: _) _ _ _ _; with_reducible refine x_iaddN (pc := 112) dX10_treadsBy_112 ?_) | refine x_iadd (pc := 112) dX10_treadsBy_112 ?_
          refine x_ret (pc := 113) (v := some _) rfl trivial dX10_treadsBy_113 (by decide) ?_
          rw [if_neg h99] at h; exact h
        · skip
          refine x_aload_n (pc := 102) dX10_treadsBy_102 rfl ?_
          refine x_getR (pc := 103) dX10_treadsBy_103 flX10_29 (by first | assumption | rfl) rfl ?_
          refine x_iload_n (pc := 106) dX10_treadsBy_106 rfl ?_
          refine x_ialdN (pc := 107) dX10_treadsBy_107 (by first | assumption | rfl) (by first | with_reducible rfl | (simp only [xlit, nI_add, pk_mul]; with_reducible rfl)) (by omega) (by decide) ?_
          rw [q2]
          refine x_goto (pc := 108) (tgt := 112) dX10_treadsBy_108 (by decide) ?_
          first | (guard_target =~ Wp _ _ _ _ _ (Value.int (nI _) :: Value.int (nI _) :: _) _ _ _ _; with_reducible refine x_iaddN (pc := 112) dX10_treadsBy_112 ?_) | refine x_iadd (pc := 112) dX10_treadsBy_112 ?_
          refine x_ret (pc := 113) (v := some _) rfl trivial dX10_treadsBy_113 (by decide) ?_
          rw [if_pos h99] at h; exact h
      · skip
        refine x_iconstN (pc := 15) 1 dX10_treadsBy_15 ic_1 ?_
        refine x_goto (pc := 16) (tgt := 20) dX10_treadsBy_16 (by decide) ?_
        first | rw [(hon _).1 h12] | rw [(hon _).2 h12]
        refine x_istore (pc := 20) dX10_treadsBy_20 (by decide) xs_5 (x_hp rfl) ?_
        refine x_aload_n (pc := 22) dX10_treadsBy_22 rfl ?_
        refine x_getR (pc := 23) dX10_treadsBy_23 flX10_26 (by first | assumption | rfl) rfl ?_
        refine x_iload_n (pc := 26) dX10_treadsBy_26 rfl ?_
        refine x_ialdN (pc := 27) dX10_treadsBy_27 (by first | assumption | rfl) (by first | with_reducible rfl | (simp only [xlit, nI_add, pk_mul]; with_reducible rfl)) (by omega) (by decide) ?_
        rw [q1]
        refine x_tableIn (pc := 28) (off := 60) (tgt := 88) dX10_treadsBy_28 (by decide) (by decide) (by decide) (by decide) ?_
        refine x_iconstN (pc := 88) 2 dX10_treadsBy_88 ic_2 ?_
        refine x_iload (pc := 89) dX10_treadsBy_89 rfl ?_
        first | (guard_target =~ Wp _ _ _ _ _ (Value.int (nI _) :: Value.int (nI _) :: _) _ _ _ _; with_reducible refine x_imulN (pc := 91) dX10_treadsBy_91 ?_) | refine x_imul (pc := 91) dX10_treadsBy_91 ?_
        refine x_iload_n (pc := 92) dX10_treadsBy_92 rfl ?_
        refine x_aload_n (pc := 93) dX10_treadsBy_93 rfl ?_
        refine x_getR (pc := 94) dX10_treadsBy_94 flX10_35 (by first | assumption | rfl) rfl ?_
        refine x_iload_n (pc := 97) dX10_treadsBy_97 rfl ?_
        refine x_ialdN (pc := 98) dX10_treadsBy_98 (by first | assumption | rfl) (by first | with_reducible rfl | (simp only [xlit, nI_add, pk_mul]; with_reducible rfl)) (by omega) (by decide) ?_
        rw [q4]
        first | (guard_target =~ Wp _ _ _ _ _ (Value.int (nI _) :: Value.int (nI _) :: _) _ _ _ _; with_reducible refine x_icmp_neN (pc := 99) (tgt := 111) ?_ ?_ dX10_treadsBy_99 ?_ (fun h99 => ?_) (fun h99 => ?_); (first | omega | exact b2n_31 _); (first | omega | exact b2n_31 _); decide) | refine x_icmp_ne (pc := 99) (tgt := 111) dX10_treadsBy_99 (by decide) (fun h99 => ?_) (fun h99 => ?_)
        · skip
          refine x_iconstN (pc := 111) 0 dX10_treadsBy_111 ic_0 ?_
          first | (guard_target =~ Wp _ _ _ _ _ (Value.int (nI _) :: Value.int (nI _) :: _) _ _ _ _; with_reducible refine x_iaddN (pc := 112) dX10_treadsBy_112 ?_) | refine x_iadd (pc := 112) dX10_treadsBy_112 ?_
          refine x_ret (pc := 113) (v := some _) rfl trivial dX10_treadsBy_113 (by decide) ?_
          rw [if_neg h99] at h; exact h
        · skip
          refine x_aload_n (pc := 102) dX10_treadsBy_102 rfl ?_
          refine x_getR (pc := 103) dX10_treadsBy_103 flX10_29 (by first | assumption | rfl) rfl ?_
          refine x_iload_n (pc := 106) dX10_treadsBy_106 rfl ?_
          refine x_ialdN (pc := 107) dX10_treadsBy_107 (by first | assumption | rfl) (by first | with_reducible rfl | (simp only [xlit, nI_add, pk_mul]; with_reducible rfl)) (by omega) (by decide) ?_
          rw [q2]
          refine x_goto (pc := 108) (tgt := 112) dX10_treadsBy_108 (by decide) ?_
          first | (guard_target =~ Wp _ _ _ _ _ (Value.int (nI _) :: Value.int (nI _) :: _) _ _ _ _; with_reducible refine x_iaddN (pc := 112) dX10_treadsBy_112 ?_) | refine x_iadd (pc := 112) dX10_treadsBy_112 ?_
          refine x_ret (pc := 113) (v := some _) rfl trivial dX10_treadsBy_113 (by decide) ?_
          rw [if_pos h99] at h; exact h
    · skip
      omega
  · skip
    refine x_iload_n (pc := 0) dX10_treadsBy_0 rfl ?_
    first | (guard_target =~ Wp _ _ _ _ _ (Value.int (nI _) :: _) _ _ _ _; with_reducible refine x_if_neN (pc := 1) (tgt := 6) ?_ dX10_treadsBy_1 ?_ (fun h1 => ?_) (fun h1 => ?_); (first | omega | exact b2n_32 _ | exact b2n_31 _); decide) | refine x_if_ne (pc := 1) (tgt := 6) dX10_treadsBy_1 (by decide) (fun h1 => ?_) (fun h1 => ?_)
    · skip
      refine x_aload_n (pc := 6) dX10_treadsBy_6 rfl ?_
      refine x_iload_n (pc := 7) dX10_treadsBy_7 rfl ?_
      refine x_iload_n (pc := 8) dX10_treadsBy_8 rfl ?_
      refine x_invV2 (pc := 9) dX10_treadsBy_9 mlX10_245 imX10_has seX10_has kX10_has (by first | assumption | rfl) rfl (Nat.le_of_ble_eq_true rfl) (by decide) ?_
      refine sm_has (by omega) ?_
      refine x_cv rfl rfl ?_
      rw [tb_nI (by omega)]
      first | (guard_target =~ Wp _ _ _ _ _ (Value.int (nI _) :: _) _ _ _ _; with_reducible refine x_if_eqN (pc := 12) (tgt := 19) ?_ dX10_treadsBy_12 ?_ (fun h12 => ?_) (fun h12 => ?_); (first | omega | exact b2n_32 _ | exact b2n_31 _); decide) | refine x_if_eq (pc := 12) (tgt := 19) dX10_treadsBy_12 (by decide) (fun h12 => ?_) (fun h12 => ?_)
      · skip
        refine x_iconstN (pc := 19) 0 dX10_treadsBy_19 ic_0 ?_
        first | rw [(hon _).1 h12] | rw [(hon _).2 h12]
        refine x_istore (pc := 20) dX10_treadsBy_20 (by decide) xs_5 (x_hp rfl) ?_
        refine x_aload_n (pc := 22) dX10_treadsBy_22 rfl ?_
        refine x_getR (pc := 23) dX10_treadsBy_23 flX10_26 (by first | assumption | rfl) rfl ?_
        refine x_iload_n (pc := 26) dX10_treadsBy_26 rfl ?_
        refine x_ialdN (pc := 27) dX10_treadsBy_27 (by first | assumption | rfl) (by first | with_reducible rfl | (simp only [xlit, nI_add, pk_mul]; with_reducible rfl)) (by omega) (by decide) ?_
        rw [q1]
        refine x_tableIn (pc := 28) (off := 86) (tgt := 114) dX10_treadsBy_28 (by decide) (by decide) (by decide) (by decide) ?_
        refine x_iload (pc := 114) dX10_treadsBy_114 rfl ?_
        refine x_aload_n (pc := 116) dX10_treadsBy_116 rfl ?_
        refine x_iload_n (pc := 117) dX10_treadsBy_117 rfl ?_
        refine x_aload_n (pc := 118) dX10_treadsBy_118 rfl ?_
        refine x_getR (pc := 119) dX10_treadsBy_119 flX10_35 (by first | assumption | rfl) rfl ?_
        refine x_iload_n (pc := 122) dX10_treadsBy_122 rfl ?_
        refine x_ialdN (pc := 123) dX10_treadsBy_123 (by first | assumption | rfl) (by first | with_reducible rfl | (simp only [xlit, nI_add, pk_mul]; with_reducible rfl)) (by omega) (by decide) ?_
        rw [q4]
        refine x_invV2 (pc := 124) dX10_treadsBy_124 mlX10_333 imX10_isNext seX10_isNext kX10_isNext (by first | assumption | rfl) rfl (Nat.le_of_ble_eq_true rfl) (by decide) ?_
        refine sm_isNext hc ht ?_
        refine x_cv rfl rfl ?_
        first | (guard_target =~ Wp _ _ _ _ _ (Value.int (nI _) :: _) _ _ _ _; with_reducible refine x_if_eqN (pc := 127) (tgt := 134) ?_ dX10_treadsBy_127 ?_ (fun h127 => ?_) (fun h127 => ?_); (first | omega | exact b2n_32 _ | exact b2n_31 _); decide) | refine x_if_eq (pc := 127) (tgt := 134) dX10_treadsBy_127 (by decide) (fun h127 => ?_) (fun h127 => ?_)
        · skip
          refine x_iconstN (pc := 134) 0 dX10_treadsBy_134 ic_0 ?_
          first | (guard_target =~ Wp _ _ _ _ _ (Value.int (nI _) :: Value.int (nI _) :: _) _ _ _ _; with_reducible refine x_iaddN (pc := 135) dX10_treadsBy_135 ?_) | refine x_iadd (pc := 135) dX10_treadsBy_135 ?_
          refine x_ret (pc := 136) (v := some _) rfl trivial dX10_treadsBy_136 (by decide) ?_
          rw [h127] at h; exact h
        · skip
          refine x_iconstN (pc := 130) 1 dX10_treadsBy_130 ic_1 ?_
          refine x_goto (pc := 131) (tgt := 135) dX10_treadsBy_131 (by decide) ?_
          first | (guard_target =~ Wp _ _ _ _ _ (Value.int (nI _) :: Value.int (nI _) :: _) _ _ _ _; with_reducible refine x_iaddN (pc := 135) dX10_treadsBy_135 ?_) | refine x_iadd (pc := 135) dX10_treadsBy_135 ?_
          refine x_ret (pc := 136) (v := some _) rfl trivial dX10_treadsBy_136 (by decide) ?_
          rw [show b2n (adj c (A 4 gg)) = 1 by rw [b2n_1 h127]; rfl] at h; exact h
      · skip
        refine x_iconstN (pc := 15) 1 dX10_treadsBy_15 ic_1 ?_
        refine x_goto (pc := 16) (tgt := 20) dX10_treadsBy_16 (by decide) ?_
        first | rw [(hon _).1 h12] | rw [(hon _).2 h12]
        refine x_istore (pc := 20) dX10_treadsBy_20 (by decide) xs_5 (x_hp rfl) ?_
        refine x_aload_n (pc := 22) dX10_treadsBy_22 rfl ?_
        refine x_getR (pc := 23) dX10_treadsBy_23 flX10_26 (by first | assumption | rfl) rfl ?_
        refine x_iload_n (pc := 26) dX10_treadsBy_26 rfl ?_
        refine x_ialdN (pc := 27) dX10_treadsBy_27 (by first | assumption | rfl) (by first | with_reducible rfl | (simp only [xlit, nI_add, pk_mul]; with_reducible rfl)) (by omega) (by decide) ?_
        rw [q1]
        refine x_tableIn (pc := 28) (off := 86) (tgt := 114) dX10_treadsBy_28 (by decide) (by decide) (by decide) (by decide) ?_
        refine x_iload (pc := 114) dX10_treadsBy_114 rfl ?_
        refine x_aload_n (pc := 116) dX10_treadsBy_116 rfl ?_
        refine x_iload_n (pc := 117) dX10_treadsBy_117 rfl ?_
        refine x_aload_n (pc := 118) dX10_treadsBy_118 rfl ?_
        refine x_getR (pc := 119) dX10_treadsBy_119 flX10_35 (by first | assumption | rfl) rfl ?_
        refine x_iload_n (pc := 122) dX10_treadsBy_122 rfl ?_
        refine x_ialdN (pc := 123) dX10_treadsBy_123 (by first | assumption | rfl) (by first | with_reducible rfl | (simp only [xlit, nI_add, pk_mul]; with_reducible rfl)) (by omega) (by decide) ?_
        rw [q4]
        refine x_invV2 (pc := 124) dX10_treadsBy_124 mlX10_333 imX10_isNext seX10_isNext kX10_isNext (by first | assumption | rfl) rfl (Nat.le_of_ble_eq_true rfl) (by decide) ?_
        refine sm_isNext hc ht ?_
        refine x_cv rfl rfl ?_
        first | (guard_target =~ Wp _ _ _ _ _ (Value.int (nI _) :: _) _ _ _ _; with_reducible refine x_if_eqN (pc := 127) (tgt := 134) ?_ dX10_treadsBy_127 ?_ (fun h127 => ?_) (fun h127 => ?_); (first | omega | exact b2n_32 _ | exact b2n_31 _); decide) | refine x_if_eq (pc := 127) (tgt := 134) dX10_treadsBy_127 (by decide) (fun h127 => ?_) (fun h127 => ?_)
        · skip
          refine x_iconstN (pc := 134) 0 dX10_treadsBy_134 ic_0 ?_
          first | (guard_target =~ Wp _ _ _ _ _ (Value.int (nI _) :: Value.int (nI _) :: _) _ _ _ _; with_reducible refine x_iaddN (pc := 135) dX10_treadsBy_135 ?_) | refine x_iadd (pc := 135) dX10_treadsBy_135 ?_
          refine x_ret (pc := 136) (v := some _) rfl trivial dX10_treadsBy_136 (by decide) ?_
          rw [h127] at h; exact h
        · skip
          refine x_iconstN (pc := 130) 1 dX10_treadsBy_130 ic_1 ?_
          refine x_goto (pc := 131) (tgt := 135) dX10_treadsBy_131 (by decide) ?_
          first | (guard_target =~ Wp _ _ _ _ _ (Value.int (nI _) :: Value.int (nI _) :: _) _ _ _ _; with_reducible refine x_iaddN (pc := 135) dX10_treadsBy_135 ?_) | refine x_iadd (pc := 135) dX10_treadsBy_135 ?_
          refine x_ret (pc := 136) (v := some _) rfl trivial dX10_treadsBy_136 (by decide) ?_
          rw [show b2n (adj c (A 4 gg)) = 1 by rw [b2n_1 h127]; rfl] at h; exact h
    · skip
      omega
  · skip
    refine x_iload_n (pc := 0) dX10_treadsBy_0 rfl ?_
    first | (guard_target =~ Wp _ _ _ _ _ (Value.int (nI _) :: _) _ _ _ _; with_reducible refine x_if_neN (pc := 1) (tgt := 6) ?_ dX10_treadsBy_1 ?_ (fun h1 => ?_) (fun h1 => ?_); (first | omega | exact b2n_32 _ | exact b2n_31 _); decide) | refine x_if_ne (pc := 1) (tgt := 6) dX10_treadsBy_1 (by decide) (fun h1 => ?_) (fun h1 => ?_)
    · skip
      refine x_aload_n (pc := 6) dX10_treadsBy_6 rfl ?_
      refine x_iload_n (pc := 7) dX10_treadsBy_7 rfl ?_
      refine x_iload_n (pc := 8) dX10_treadsBy_8 rfl ?_
      refine x_invV2 (pc := 9) dX10_treadsBy_9 mlX10_245 imX10_has seX10_has kX10_has (by first | assumption | rfl) rfl (Nat.le_of_ble_eq_true rfl) (by decide) ?_
      refine sm_has (by omega) ?_
      refine x_cv rfl rfl ?_
      rw [tb_nI (by omega)]
      first | (guard_target =~ Wp _ _ _ _ _ (Value.int (nI _) :: _) _ _ _ _; with_reducible refine x_if_eqN (pc := 12) (tgt := 19) ?_ dX10_treadsBy_12 ?_ (fun h12 => ?_) (fun h12 => ?_); (first | omega | exact b2n_32 _ | exact b2n_31 _); decide) | refine x_if_eq (pc := 12) (tgt := 19) dX10_treadsBy_12 (by decide) (fun h12 => ?_) (fun h12 => ?_)
      · skip
        refine x_iconstN (pc := 19) 0 dX10_treadsBy_19 ic_0 ?_
        first | rw [(hon _).1 h12] | rw [(hon _).2 h12]
        refine x_istore (pc := 20) dX10_treadsBy_20 (by decide) xs_5 (x_hp rfl) ?_
        refine x_aload_n (pc := 22) dX10_treadsBy_22 rfl ?_
        refine x_getR (pc := 23) dX10_treadsBy_23 flX10_26 (by first | assumption | rfl) rfl ?_
        refine x_iload_n (pc := 26) dX10_treadsBy_26 rfl ?_
        refine x_ialdN (pc := 27) dX10_treadsBy_27 (by first | assumption | rfl) (by first | with_reducible rfl | (simp only [xlit, nI_add, pk_mul]; with_reducible rfl)) (by omega) (by decide) ?_
        rw [q1]
        refine x_tableIn (pc := 28) (off := 109) (tgt := 137) dX10_treadsBy_28 (by decide) (by decide) (by decide) (by decide) ?_
        refine x_iload (pc := 137) dX10_treadsBy_137 rfl ?_
        refine x_iconstN (pc := 139) 2 dX10_treadsBy_139 ic_2 ?_
        first | (guard_target =~ Wp _ _ _ _ _ (Value.int (nI _) :: Value.int (nI _) :: _) _ _ _ _; with_reducible refine x_iremN (pc := 140) ?_ ?_ ?_ dX10_treadsBy_140 ?_; omega; omega; omega) | refine x_irem (pc := 140) dX10_treadsBy_140 (by assumption) ?_
        refine x_iconstN (pc := 141) 1 dX10_treadsBy_141 ic_1 ?_
        first | (guard_target =~ Wp _ _ _ _ _ (Value.int (nI _) :: Value.int (nI _) :: _) _ _ _ _; with_reducible refine x_icmp_neN (pc := 142) (tgt := 150) ?_ ?_ dX10_treadsBy_142 ?_ (fun h142 => ?_) (fun h142 => ?_); (first | omega | exact b2n_31 _); (first | omega | exact b2n_31 _); decide) | refine x_icmp_ne (pc := 142) (tgt := 150) dX10_treadsBy_142 (by decide) (fun h142 => ?_) (fun h142 => ?_)
        · skip
          refine x_iconstN (pc := 150) 0 dX10_treadsBy_150 ic_0 ?_
          refine x_iload_n (pc := 151) dX10_treadsBy_151 rfl ?_
          refine x_aload_n (pc := 152) dX10_treadsBy_152 rfl ?_
          refine x_getR (pc := 153) dX10_treadsBy_153 flX10_32 (by first | assumption | rfl) rfl ?_
          refine x_iload_n (pc := 156) dX10_treadsBy_156 rfl ?_
          refine x_ialdN (pc := 157) dX10_treadsBy_157 (by first | assumption | rfl) (by first | with_reducible rfl | (simp only [xlit, nI_add, pk_mul]; with_reducible rfl)) (by omega) (by decide) ?_
          rw [q3]
          first | (guard_target =~ Wp _ _ _ _ _ (Value.int (nI _) :: Value.int (nI _) :: _) _ _ _ _; with_reducible refine x_icmp_neN (pc := 158) (tgt := 177) ?_ ?_ dX10_treadsBy_158 ?_ (fun h158 => ?_) (fun h158 => ?_); (first | omega | exact b2n_31 _); (first | omega | exact b2n_31 _); decide) | refine x_icmp_ne (pc := 158) (tgt := 177) dX10_treadsBy_158 (by decide) (fun h158 => ?_) (fun h158 => ?_)
          · skip
            refine x_iconstN (pc := 177) 0 dX10_treadsBy_177 ic_0 ?_
            first | (guard_target =~ Wp _ _ _ _ _ (Value.int (nI _) :: Value.int (nI _) :: _) _ _ _ _; with_reducible refine x_iaddN (pc := 178) dX10_treadsBy_178 ?_) | refine x_iadd (pc := 178) dX10_treadsBy_178 ?_
            refine x_ret (pc := 179) (v := some _) rfl trivial dX10_treadsBy_179 (by decide) ?_
            rw [if_neg h142, if_neg h158] at h; exact h
          · skip
            refine x_aload_n (pc := 161) dX10_treadsBy_161 rfl ?_
            refine x_getR (pc := 162) dX10_treadsBy_162 flX10_38 (by first | assumption | rfl) rfl ?_
            refine x_iconstN (pc := 165) 4 dX10_treadsBy_165 ic_4 ?_
            refine x_iload_n (pc := 166) dX10_treadsBy_166 rfl ?_
            first | (guard_target =~ Wp _ _ _ _ _ (Value.int (nI _) :: Value.int (nI _) :: _) _ _ _ _; with_reducible refine x_imulN (pc := 167) dX10_treadsBy_167 ?_) | refine x_imul (pc := 167) dX10_treadsBy_167 ?_
            refine x_iload (pc := 168) dX10_treadsBy_168 rfl ?_
            refine x_iconstN (pc := 170) 4 dX10_treadsBy_170 ic_4 ?_
            first | (guard_target =~ Wp _ _ _ _ _ (Value.int (nI _) :: Value.int (nI _) :: _) _ _ _ _; with_reducible refine x_iremN (pc := 171) ?_ ?_ ?_ dX10_treadsBy_171 ?_; omega; omega; omega) | refine x_irem (pc := 171) dX10_treadsBy_171 (by assumption) ?_
            first | (guard_target =~ Wp _ _ _ _ _ (Value.int (nI _) :: Value.int (nI _) :: _) _ _ _ _; with_reducible refine x_iaddN (pc := 172) dX10_treadsBy_172 ?_) | refine x_iadd (pc := 172) dX10_treadsBy_172 ?_
            refine x_ialdN (pc := 173) dX10_treadsBy_173 (by first | assumption | rfl) (by first | with_reducible rfl | (simp only [xlit, nI_add, pk_mul]; with_reducible rfl)) (by omega) (by decide) ?_
            rw [q5]
            refine x_goto (pc := 174) (tgt := 178) dX10_treadsBy_174 (by decide) ?_
            first | (guard_target =~ Wp _ _ _ _ _ (Value.int (nI _) :: Value.int (nI _) :: _) _ _ _ _; with_reducible refine x_iaddN (pc := 178) dX10_treadsBy_178 ?_) | refine x_iadd (pc := 178) dX10_treadsBy_178 ?_
            refine x_ret (pc := 179) (v := some _) rfl trivial dX10_treadsBy_179 (by decide) ?_
            rw [if_neg h142, if_pos h158] at h; exact h
        · skip
          refine x_iload (pc := 145) dX10_treadsBy_145 rfl ?_
          refine x_goto (pc := 147) (tgt := 151) dX10_treadsBy_147 (by decide) ?_
          refine x_iload_n (pc := 151) dX10_treadsBy_151 rfl ?_
          refine x_aload_n (pc := 152) dX10_treadsBy_152 rfl ?_
          refine x_getR (pc := 153) dX10_treadsBy_153 flX10_32 (by first | assumption | rfl) rfl ?_
          refine x_iload_n (pc := 156) dX10_treadsBy_156 rfl ?_
          refine x_ialdN (pc := 157) dX10_treadsBy_157 (by first | assumption | rfl) (by first | with_reducible rfl | (simp only [xlit, nI_add, pk_mul]; with_reducible rfl)) (by omega) (by decide) ?_
          rw [q3]
          first | (guard_target =~ Wp _ _ _ _ _ (Value.int (nI _) :: Value.int (nI _) :: _) _ _ _ _; with_reducible refine x_icmp_neN (pc := 158) (tgt := 177) ?_ ?_ dX10_treadsBy_158 ?_ (fun h158 => ?_) (fun h158 => ?_); (first | omega | exact b2n_31 _); (first | omega | exact b2n_31 _); decide) | refine x_icmp_ne (pc := 158) (tgt := 177) dX10_treadsBy_158 (by decide) (fun h158 => ?_) (fun h158 => ?_)
          · skip
            refine x_iconstN (pc := 177) 0 dX10_treadsBy_177 ic_0 ?_
            first | (guard_target =~ Wp _ _ _ _ _ (Value.int (nI _) :: Value.int (nI _) :: _) _ _ _ _; with_reducible refine x_iaddN (pc := 178) dX10_treadsBy_178 ?_) | refine x_iadd (pc := 178) dX10_treadsBy_178 ?_
            refine x_ret (pc := 179) (v := some _) rfl trivial dX10_treadsBy_179 (by decide) ?_
            rw [if_pos h142, if_neg h158] at h; exact h
          · skip
            refine x_aload_n (pc := 161) dX10_treadsBy_161 rfl ?_
            refine x_getR (pc := 162) dX10_treadsBy_162 flX10_38 (by first | assumption | rfl) rfl ?_
            refine x_iconstN (pc := 165) 4 dX10_treadsBy_165 ic_4 ?_
            refine x_iload_n (pc := 166) dX10_treadsBy_166 rfl ?_
            first | (guard_target =~ Wp _ _ _ _ _ (Value.int (nI _) :: Value.int (nI _) :: _) _ _ _ _; with_reducible refine x_imulN (pc := 167) dX10_treadsBy_167 ?_) | refine x_imul (pc := 167) dX10_treadsBy_167 ?_
            refine x_iload (pc := 168) dX10_treadsBy_168 rfl ?_
            refine x_iconstN (pc := 170) 4 dX10_treadsBy_170 ic_4 ?_
            first | (guard_target =~ Wp _ _ _ _ _ (Value.int (nI _) :: Value.int (nI _) :: _) _ _ _ _; with_reducible refine x_iremN (pc := 171) ?_ ?_ ?_ dX10_treadsBy_171 ?_; omega; omega; omega) | refine x_irem (pc := 171) dX10_treadsBy_171 (by assumption) ?_
            first | (guard_target =~ Wp _ _ _ _ _ (Value.int (nI _) :: Value.int (nI _) :: _) _ _ _ _; with_reducible refine x_iaddN (pc := 172) dX10_treadsBy_172 ?_) | refine x_iadd (pc := 172) dX10_treadsBy_172 ?_
            refine x_ialdN (pc := 173) dX10_treadsBy_173 (by first | assumption | rfl) (by first | with_reducible rfl | (simp only [xlit, nI_add, pk_mul]; with_reducible rfl)) (by omega) (by decide) ?_
            rw [q5]
            refine x_goto (pc := 174) (tgt := 178) dX10_treadsBy_174 (by decide) ?_
            first | (guard_target =~ Wp _ _ _ _ _ (Value.int (nI _) :: Value.int (nI _) :: _) _ _ _ _; with_reducible refine x_iaddN (pc := 178) dX10_treadsBy_178 ?_) | refine x_iadd (pc := 178) dX10_treadsBy_178 ?_
            refine x_ret (pc := 179) (v := some _) rfl trivial dX10_treadsBy_179 (by decide) ?_
            rw [if_pos h142, if_pos h158] at h; exact h
      · skip
        refine x_iconstN (pc := 15) 1 dX10_treadsBy_15 ic_1 ?_
        refine x_goto (pc := 16) (tgt := 20) dX10_treadsBy_16 (by decide) ?_
        first | rw [(hon _).1 h12] | rw [(hon _).2 h12]
        refine x_istore (pc := 20) dX10_treadsBy_20 (by decide) xs_5 (x_hp rfl) ?_
        refine x_aload_n (pc := 22) dX10_treadsBy_22 rfl ?_
        refine x_getR (pc := 23) dX10_treadsBy_23 flX10_26 (by first | assumption | rfl) rfl ?_
        refine x_iload_n (pc := 26) dX10_treadsBy_26 rfl ?_
        refine x_ialdN (pc := 27) dX10_treadsBy_27 (by first | assumption | rfl) (by first | with_reducible rfl | (simp only [xlit, nI_add, pk_mul]; with_reducible rfl)) (by omega) (by decide) ?_
        rw [q1]
        refine x_tableIn (pc := 28) (off := 109) (tgt := 137) dX10_treadsBy_28 (by decide) (by decide) (by decide) (by decide) ?_
        refine x_iload (pc := 137) dX10_treadsBy_137 rfl ?_
        refine x_iconstN (pc := 139) 2 dX10_treadsBy_139 ic_2 ?_
        first | (guard_target =~ Wp _ _ _ _ _ (Value.int (nI _) :: Value.int (nI _) :: _) _ _ _ _; with_reducible refine x_iremN (pc := 140) ?_ ?_ ?_ dX10_treadsBy_140 ?_; omega; omega; omega) | refine x_irem (pc := 140) dX10_treadsBy_140 (by assumption) ?_
        refine x_iconstN (pc := 141) 1 dX10_treadsBy_141 ic_1 ?_
        first | (guard_target =~ Wp _ _ _ _ _ (Value.int (nI _) :: Value.int (nI _) :: _) _ _ _ _; with_reducible refine x_icmp_neN (pc := 142) (tgt := 150) ?_ ?_ dX10_treadsBy_142 ?_ (fun h142 => ?_) (fun h142 => ?_); (first | omega | exact b2n_31 _); (first | omega | exact b2n_31 _); decide) | refine x_icmp_ne (pc := 142) (tgt := 150) dX10_treadsBy_142 (by decide) (fun h142 => ?_) (fun h142 => ?_)
        · skip
          refine x_iconstN (pc := 150) 0 dX10_treadsBy_150 ic_0 ?_
          refine x_iload_n (pc := 151) dX10_treadsBy_151 rfl ?_
          refine x_aload_n (pc := 152) dX10_treadsBy_152 rfl ?_
          refine x_getR (pc := 153) dX10_treadsBy_153 flX10_32 (by first | assumption | rfl) rfl ?_
          refine x_iload_n (pc := 156) dX10_treadsBy_156 rfl ?_
          refine x_ialdN (pc := 157) dX10_treadsBy_157 (by first | assumption | rfl) (by first | with_reducible rfl | (simp only [xlit, nI_add, pk_mul]; with_reducible rfl)) (by omega) (by decide) ?_
          rw [q3]
          first | (guard_target =~ Wp _ _ _ _ _ (Value.int (nI _) :: Value.int (nI _) :: _) _ _ _ _; with_reducible refine x_icmp_neN (pc := 158) (tgt := 177) ?_ ?_ dX10_treadsBy_158 ?_ (fun h158 => ?_) (fun h158 => ?_); (first | omega | exact b2n_31 _); (first | omega | exact b2n_31 _); decide) | refine x_icmp_ne (pc := 158) (tgt := 177) dX10_treadsBy_158 (by decide) (fun h158 => ?_) (fun h158 => ?_)
          · skip
            refine x_iconstN (pc := 177) 0 dX10_treadsBy_177 ic_0 ?_
            first | (guard_target =~ Wp _ _ _ _ _ (Value.int (nI _) :: Value.int (nI _) :: _) _ _ _ _; with_reducible refine x_iaddN (pc := 178) dX10_treadsBy_178 ?_) | refine x_iadd (pc := 178) dX10_treadsBy_178 ?_
            refine x_ret (pc := 179) (v := some _) rfl trivial dX10_treadsBy_179 (by decide) ?_
            rw [if_neg h142, if_neg h158] at h; exact h
          · skip
            refine x_aload_n (pc := 161) dX10_treadsBy_161 rfl ?_
            refine x_getR (pc := 162) dX10_treadsBy_162 flX10_38 (by first | assumption | rfl) rfl ?_
            refine x_iconstN (pc := 165) 4 dX10_treadsBy_165 ic_4 ?_
            refine x_iload_n (pc := 166) dX10_treadsBy_166 rfl ?_
            first | (guard_target =~ Wp _ _ _ _ _ (Value.int (nI _) :: Value.int (nI _) :: _) _ _ _ _; with_reducible refine x_imulN (pc := 167) dX10_treadsBy_167 ?_) | refine x_imul (pc := 167) dX10_treadsBy_167 ?_
            refine x_iload (pc := 168) dX10_treadsBy_168 rfl ?_
            refine x_iconstN (pc := 170) 4 dX10_treadsBy_170 ic_4 ?_
            first | (guard_target =~ Wp _ _ _ _ _ (Value.int (nI _) :: Value.int (nI _) :: _) _ _ _ _; with_reducible refine x_iremN (pc := 171) ?_ ?_ ?_ dX10_treadsBy_171 ?_; omega; omega; omega) | refine x_irem (pc := 171) dX10_treadsBy_171 (by assumption) ?_
            first | (guard_target =~ Wp _ _ _ _ _ (Value.int (nI _) :: Value.int (nI _) :: _) _ _ _ _; with_reducible refine x_iaddN (pc := 172) dX10_treadsBy_172 ?_) | refine x_iadd (pc := 172) dX10_treadsBy_172 ?_
            refine x_ialdN (pc := 173) dX10_treadsBy_173 (by first | assumption | rfl) (by first | with_reducible rfl | (simp only [xlit, nI_add, pk_mul]; with_reducible rfl)) (by omega) (by decide) ?_
            rw [q5]
            refine x_goto (pc := 174) (tgt := 178) dX10_treadsBy_174 (by decide) ?_
            first | (guard_target =~ Wp _ _ _ _ _ (Value.int (nI _) :: Value.int (nI _) :: _) _ _ _ _; with_reducible refine x_iaddN (pc := 178) dX10_treadsBy_178 ?_) | refine x_iadd (pc := 178) dX10_treadsBy_178 ?_
            refine x_ret (pc := 179) (v := some _) rfl trivial dX10_treadsBy_179 (by decide) ?_
            rw [if_neg h142, if_pos h158] at h; exact h
        · skip
          refine x_iload (pc := 145) dX10_treadsBy_145 rfl ?_
          refine x_goto (pc := 147) (tgt := 151) dX10_treadsBy_147 (by decide) ?_
          refine x_iload_n (pc := 151) dX10_treadsBy_151 rfl ?_
          refine x_aload_n (pc := 152) dX10_treadsBy_152 rfl ?_
          refine x_getR (pc := 153) dX10_treadsBy_153 flX10_32 (by first | assumption | rfl) rfl ?_
          refine x_iload_n (pc := 156) dX10_treadsBy_156 rfl ?_
          refine x_ialdN (pc := 157) dX10_treadsBy_157 (by first | assumption | rfl) (by first | with_reducible rfl | (simp only [xlit, nI_add, pk_mul]; with_reducible rfl)) (by omega) (by decide) ?_
          rw [q3]
          first | (guard_target =~ Wp _ _ _ _ _ (Value.int (nI _) :: Value.int (nI _) :: _) _ _ _ _; with_reducible refine x_icmp_neN (pc := 158) (tgt := 177) ?_ ?_ dX10_treadsBy_158 ?_ (fun h158 => ?_) (fun h158 => ?_); (first | omega | exact b2n_31 _); (first | omega | exact b2n_31 _); decide) | refine x_icmp_ne (pc := 158) (tgt := 177) dX10_treadsBy_158 (by decide) (fun h158 => ?_) (fun h158 => ?_)
          · skip
            refine x_iconstN (pc := 177) 0 dX10_treadsBy_177 ic_0 ?_
            first | (guard_target =~ Wp _ _ _ _ _ (Value.int (nI _) :: Value.int (nI _) :: _) _ _ _ _; with_reducible refine x_iaddN (pc := 178) dX10_treadsBy_178 ?_) | refine x_iadd (pc := 178) dX10_treadsBy_178 ?_
            refine x_ret (pc := 179) (v := some _) rfl trivial dX10_treadsBy_179 (by decide) ?_
            rw [if_pos h142, if_neg h158] at h; exact h
          · skip
            refine x_aload_n (pc := 161) dX10_treadsBy_161 rfl ?_
            refine x_getR (pc := 162) dX10_treadsBy_162 flX10_38 (by first | assumption | rfl) rfl ?_
            refine x_iconstN (pc := 165) 4 dX10_treadsBy_165 ic_4 ?_
            refine x_iload_n (pc := 166) dX10_treadsBy_166 rfl ?_
            first | (guard_target =~ Wp _ _ _ _ _ (Value.int (nI _) :: Value.int (nI _) :: _) _ _ _ _; with_reducible refine x_imulN (pc := 167) dX10_treadsBy_167 ?_) | refine x_imul (pc := 167) dX10_treadsBy_167 ?_
            refine x_iload (pc := 168) dX10_treadsBy_168 rfl ?_
            refine x_iconstN (pc := 170) 4 dX10_treadsBy_170 ic_4 ?_
            first | (guard_target =~ Wp _ _ _ _ _ (Value.int (nI _) :: Value.int (nI _) :: _) _ _ _ _; with_reducible refine x_iremN (pc := 171) ?_ ?_ ?_ dX10_treadsBy_171 ?_; omega; omega; omega) | refine x_irem (pc := 171) dX10_treadsBy_171 (by assumption) ?_
            first | (guard_target =~ Wp _ _ _ _ _ (Value.int (nI _) :: Value.int (nI _) :: _) _ _ _ _; with_reducible refine x_iaddN (pc := 172) dX10_treadsBy_172 ?_) | refine x_iadd (pc := 172) dX10_treadsBy_172 ?_
            refine x_ialdN (pc := 173) dX10_treadsBy_173 (by first | assumption | rfl) (by first | with_reducible rfl | (simp only [xlit, nI_add, pk_mul]; with_reducible rfl)) (by omega) (by decide) ?_
            rw [q5]
            refine x_goto (pc := 174) (tgt := 178) dX10_treadsBy_174 (by decide) ?_
            first | (guard_target =~ Wp _ _ _ _ _ (Value.int (nI _) :: Value.int (nI _) :: _) _ _ _ _; with_reducible refine x_iaddN (pc := 178) dX10_treadsBy_178 ?_) | refine x_iadd (pc := 178) dX10_treadsBy_178 ?_
            refine x_ret (pc := 179) (v := some _) rfl trivial dX10_treadsBy_179 (by decide) ?_
            rw [if_pos h142, if_pos h158] at h; exact h
    · skip
      omega
  · skip
    refine x_iload_n (pc := 0) dX10_treadsBy_0 rfl ?_
    first | (guard_target =~ Wp _ _ _ _ _ (Value.int (nI _) :: _) _ _ _ _; with_reducible refine x_if_neN (pc := 1) (tgt := 6) ?_ dX10_treadsBy_1 ?_ (fun h1 => ?_) (fun h1 => ?_); (first | omega | exact b2n_32 _ | exact b2n_31 _); decide) | refine x_if_ne (pc := 1) (tgt := 6) dX10_treadsBy_1 (by decide) (fun h1 => ?_) (fun h1 => ?_)
    · skip
      refine x_aload_n (pc := 6) dX10_treadsBy_6 rfl ?_
      refine x_iload_n (pc := 7) dX10_treadsBy_7 rfl ?_
      refine x_iload_n (pc := 8) dX10_treadsBy_8 rfl ?_
      refine x_invV2 (pc := 9) dX10_treadsBy_9 mlX10_245 imX10_has seX10_has kX10_has (by first | assumption | rfl) rfl (Nat.le_of_ble_eq_true rfl) (by decide) ?_
      refine sm_has (by omega) ?_
      refine x_cv rfl rfl ?_
      rw [tb_nI (by omega)]
      first | (guard_target =~ Wp _ _ _ _ _ (Value.int (nI _) :: _) _ _ _ _; with_reducible refine x_if_eqN (pc := 12) (tgt := 19) ?_ dX10_treadsBy_12 ?_ (fun h12 => ?_) (fun h12 => ?_); (first | omega | exact b2n_32 _ | exact b2n_31 _); decide) | refine x_if_eq (pc := 12) (tgt := 19) dX10_treadsBy_12 (by decide) (fun h12 => ?_) (fun h12 => ?_)
      · skip
        refine x_iconstN (pc := 19) 0 dX10_treadsBy_19 ic_0 ?_
        first | rw [(hon _).1 h12] | rw [(hon _).2 h12]
        refine x_istore (pc := 20) dX10_treadsBy_20 (by decide) xs_5 (x_hp rfl) ?_
        refine x_aload_n (pc := 22) dX10_treadsBy_22 rfl ?_
        refine x_getR (pc := 23) dX10_treadsBy_23 flX10_26 (by first | assumption | rfl) rfl ?_
        refine x_iload_n (pc := 26) dX10_treadsBy_26 rfl ?_
        refine x_ialdN (pc := 27) dX10_treadsBy_27 (by first | assumption | rfl) (by first | with_reducible rfl | (simp only [xlit, nI_add, pk_mul]; with_reducible rfl)) (by omega) (by decide) ?_
        rw [q1]
        refine x_tableOut (pc := 28) (tgt := 180) dX10_treadsBy_28 (by decide) (by decide) ?_
        refine x_iload (pc := 180) dX10_treadsBy_180 rfl ?_
        refine x_ret (pc := 182) (v := some _) rfl trivial dX10_treadsBy_182 (by decide) ?_
        exact h
      · skip
        refine x_iconstN (pc := 15) 1 dX10_treadsBy_15 ic_1 ?_
        refine x_goto (pc := 16) (tgt := 20) dX10_treadsBy_16 (by decide) ?_
        first | rw [(hon _).1 h12] | rw [(hon _).2 h12]
        refine x_istore (pc := 20) dX10_treadsBy_20 (by decide) xs_5 (x_hp rfl) ?_
        refine x_aload_n (pc := 22) dX10_treadsBy_22 rfl ?_
        refine x_getR (pc := 23) dX10_treadsBy_23 flX10_26 (by first | assumption | rfl) rfl ?_
        refine x_iload_n (pc := 26) dX10_treadsBy_26 rfl ?_
        refine x_ialdN (pc := 27) dX10_treadsBy_27 (by first | assumption | rfl) (by first | with_reducible rfl | (simp only [xlit, nI_add, pk_mul]; with_reducible rfl)) (by omega) (by decide) ?_
        rw [q1]
        refine x_tableOut (pc := 28) (tgt := 180) dX10_treadsBy_28 (by decide) (by decide) ?_
        refine x_iload (pc := 180) dX10_treadsBy_180 rfl ?_
        refine x_ret (pc := 182) (v := some _) rfl trivial dX10_treadsBy_182 (by decide) ?_
        exact h
    · skip
      omega
  · skip
    refine x_iload_n (pc := 0) dX10_treadsBy_0 rfl ?_
    first | (guard_target =~ Wp _ _ _ _ _ (Value.int (nI _) :: _) _ _ _ _; with_reducible refine x_if_neN (pc := 1) (tgt := 6) ?_ dX10_treadsBy_1 ?_ (fun h1 => ?_) (fun h1 => ?_); (first | omega | exact b2n_32 _ | exact b2n_31 _); decide) | refine x_if_ne (pc := 1) (tgt := 6) dX10_treadsBy_1 (by decide) (fun h1 => ?_) (fun h1 => ?_)
    · skip
      refine x_aload_n (pc := 6) dX10_treadsBy_6 rfl ?_
      refine x_iload_n (pc := 7) dX10_treadsBy_7 rfl ?_
      refine x_iload_n (pc := 8) dX10_treadsBy_8 rfl ?_
      refine x_invV2 (pc := 9) dX10_treadsBy_9 mlX10_245 imX10_has seX10_has kX10_has (by first | assumption | rfl) rfl (Nat.le_of_ble_eq_true rfl) (by decide) ?_
      refine sm_has (by omega) ?_
      refine x_cv rfl rfl ?_
      rw [tb_nI (by omega)]
      first | (guard_target =~ Wp _ _ _ _ _ (Value.int (nI _) :: _) _ _ _ _; with_reducible refine x_if_eqN (pc := 12) (tgt := 19) ?_ dX10_treadsBy_12 ?_ (fun h12 => ?_) (fun h12 => ?_); (first | omega | exact b2n_32 _ | exact b2n_31 _); decide) | refine x_if_eq (pc := 12) (tgt := 19) dX10_treadsBy_12 (by decide) (fun h12 => ?_) (fun h12 => ?_)
      · skip
        refine x_iconstN (pc := 19) 0 dX10_treadsBy_19 ic_0 ?_
        first | rw [(hon _).1 h12] | rw [(hon _).2 h12]
        refine x_istore (pc := 20) dX10_treadsBy_20 (by decide) xs_5 (x_hp rfl) ?_
        refine x_aload_n (pc := 22) dX10_treadsBy_22 rfl ?_
        refine x_getR (pc := 23) dX10_treadsBy_23 flX10_26 (by first | assumption | rfl) rfl ?_
        refine x_iload_n (pc := 26) dX10_treadsBy_26 rfl ?_
        refine x_ialdN (pc := 27) dX10_treadsBy_27 (by first | assumption | rfl) (by first | with_reducible rfl | (simp only [xlit, nI_add, pk_mul]; with_reducible rfl)) (by omega) (by decide) ?_
        rw [q1]
        refine x_tableIn (pc := 28) (off := 152) (tgt := 180) dX10_treadsBy_28 (by decide) (by decide) (by decide) (by decide) ?_
        refine x_iload (pc := 180) dX10_treadsBy_180 rfl ?_
        refine x_ret (pc := 182) (v := some _) rfl trivial dX10_treadsBy_182 (by decide) ?_
        exact h
      · skip
        refine x_iconstN (pc := 15) 1 dX10_treadsBy_15 ic_1 ?_
        refine x_goto (pc := 16) (tgt := 20) dX10_treadsBy_16 (by decide) ?_
        first | rw [(hon _).1 h12] | rw [(hon _).2 h12]
        refine x_istore (pc := 20) dX10_treadsBy_20 (by decide) xs_5 (x_hp rfl) ?_
        refine x_aload_n (pc := 22) dX10_treadsBy_22 rfl ?_
        refine x_getR (pc := 23) dX10_treadsBy_23 flX10_26 (by first | assumption | rfl) rfl ?_
        refine x_iload_n (pc := 26) dX10_treadsBy_26 rfl ?_
        refine x_ialdN (pc := 27) dX10_treadsBy_27 (by first | assumption | rfl) (by first | with_reducible rfl | (simp only [xlit, nI_add, pk_mul]; with_reducible rfl)) (by omega) (by decide) ?_
        rw [q1]
        refine x_tableIn (pc := 28) (off := 152) (tgt := 180) dX10_treadsBy_28 (by decide) (by decide) (by decide) (by decide) ?_
        refine x_iload (pc := 180) dX10_treadsBy_180 rfl ?_
        refine x_ret (pc := 182) (v := some _) rfl trivial dX10_treadsBy_182 (by decide) ?_
        exact h
    · skip
      omega
def pN (a k : Nat) : Bool := pW a k || a == 81 || a == 85
theorem pN_Q : ∀ a k, wQ a k = true → pN a k = false := by intro a k h; simp [wQ, pN, pW] at h ⊢; omega
theorem pN_L : ∀ a k, wL a k = true → pN a k = false := by intro a k h; simp [wL, pN, pW] at h ⊢; omega
theorem pN_W : ∀ a k, pW a k = true → pN a k = true := by intro a k h; unfold pN; rw [h]; rfl
theorem pN_H : ∀ a k, pH a k = true → pN a k = true := by intro a k h; unfold pN; rw [show (a == 81) = true from h]; simp
theorem wb_lt (hB : bdA A) (hg : gg < 6) : wbits (wayL A gg) < 65536 := wsetN_lt (wy_lt (hB.1 3 (by decide) gg (show gg < 6 by omega)) (hB.1 4 (by decide) gg (show gg < 6 by omega))) (Nat.le_refl _)
theorem sm_layWorn (hL : MLs M L b0) (hB : bdA A) (hQ : MNow M A W) (h : ∀ M', only pN M M' → (∀ j, j < 64 * A 8 0 → M'.1 85 j = nI (wnF A L j)) → K none xSF M') : Ex g (d + 5) yX10_layWorn mX10_layWorn [.ref 65] xSF M K := by
  have h6 := hB.2.1
  refine x_entry kX10_layWorn (Nat.le_of_ble_eq_true rfl) ?_
  show Wp g _ mX10_layWorn 0 [some (.ref 65), none, none, none, none, none] [] _ _ _ _
  have gl : ∀ m gg M1 o2 o3 o4 o5, gg + m = A 8 0 → only pN M M1 → (∀ j, j < 64 * gg → M1.1 85 j = nI (wnF A L j)) → Wp g (d + 5) mX10_layWorn 2 [some (.ref 65), some (.int (nI gg)), o2, o3, o4, o5] [] xSF (0, 0) M1 K := by
    intro m
    induction m with
    | zero =>
      intro gg M1 o2 o3 o4 o5 hm ho hj
      obtain rfl : gg = A 8 0 := by omega
      refine x_iload_n (pc := 2) dX10_layWorn_2 rfl ?_
      refine x_aload_n (pc := 3) dX10_layWorn_3 rfl ?_
      refine x_getI (pc := 4) dX10_layWorn_4 flX10_7 (by first | assumption | rfl) rfl ?_
      rw [(hQ.keep ho pN_Q).1]
      first | (guard_target =~ Wp _ _ _ _ _ (Value.int (nI _) :: Value.int (nI _) :: _) _ _ _ _; with_reducible refine x_icmp_geN (pc := 7) (tgt := 87) ?_ ?_ dX10_layWorn_7 ?_ (fun h7 => ?_) (fun h7 => ?_); (first | omega | exact b2n_31 _); (first | omega | exact b2n_31 _); decide) | refine x_icmp_ge (pc := 7) (tgt := 87) dX10_layWorn_7 (by decide) (fun h7 => ?_) (fun h7 => ?_)
      · skip
        refine x_ret (pc := 87) (v := none) rfl trivial dX10_layWorn_87 (by decide) ?_
        exact h M1 ho hj
      · skip
        omega
    | succ m ihg =>
      intro gg M1 o2 o3 o4 o5 hm ho hj
      have hg : gg < 6 := by omega
      have hwb := wb_lt hB hg
      have cl : ∀ m c M1 o4 o5, c + m = 16 → only pN M M1 → (∀ j, j < 64 * gg + 4 * c → M1.1 85 j = nI (wnF A L j)) → Wp g (d + 5) mX10_layWorn 18 [some (.ref 65), some (.int (nI gg)), some (.int (nI (wbits (wayL A gg)))), some (.int (nI c)), o4, o5] [] xSF (0, 0) M1 K := by
        intro m2
        induction m2 with
        | zero =>
          intro c M1 o4 o5 hm2 ho hj
          obtain rfl : c = 16 := by omega
          refine x_iload_n (pc := 18) dX10_layWorn_18 rfl ?_
          refine x_bipushN (pc := 19) 16 dX10_layWorn_19 bp_16 ?_
          first | (guard_target =~ Wp _ _ _ _ _ (Value.int (nI _) :: Value.int (nI _) :: _) _ _ _ _; with_reducible refine x_icmp_geN (pc := 21) (tgt := 81) ?_ ?_ dX10_layWorn_21 ?_ (fun h21 => ?_) (fun h21 => ?_); (first | omega | exact b2n_31 _); (first | omega | exact b2n_31 _); decide) | refine x_icmp_ge (pc := 21) (tgt := 81) dX10_layWorn_21 (by decide) (fun h21 => ?_) (fun h21 => ?_)
          · skip
            first | (guard_target =~ Wp _ _ _ _ (_ :: some (Value.int (nI _)) :: _) _ _ _ _ _; with_reducible refine x_iincN (pc := 81) 1 ic_1 dX10_layWorn_81 ?_ xg_1 xs_1 ?_ ?_; decide; exact (x_hp rfl)) | refine x_iincC (pc := 81) ic_1 dX10_layWorn_81 (by decide) rfl xs_1 (x_hp rfl) ?_
            refine x_goto (pc := 84) (tgt := 2) dX10_layWorn_84 (by decide) ?_
            exact ihg (gg + 1) M1 _ _ _ _ (by omega) ho (fun j hj2 => hj j (by omega))
          · skip
            omega
        | succ m2 ihc =>
          intro c M1 o4 o5 hm2 ho hj
          have hc : c < 16 := by omega
          have hyl := yvF_lt (f := fG gg (A 1 gg) (A 2 gg)) hL.1 c
          have rl : ∀ m r M1, r + m = 4 → only pN M M1 → (∀ j, j < 64 * gg + 4 * c + r → M1.1 85 j = nI (wnF A L j)) → Wp g (d + 5) mX10_layWorn 35 [some (.ref 65), some (.int (nI gg)), some (.int (nI (wbits (wayL A gg)))), some (.int (nI c)), some (.int (nI (yvF (fG gg (A 1 gg) (A 2 gg)) L c))), some (.int (nI r))] [] xSF (0, 0) M1 K := by
            intro m3
            induction m3 with
            | zero =>
              intro r M1 hm3 ho hj
              obtain rfl : r = 4 := by omega
              refine x_iload (pc := 35) dX10_layWorn_35 rfl ?_
              refine x_iconstN (pc := 37) 4 dX10_layWorn_37 ic_4 ?_
              first | (guard_target =~ Wp _ _ _ _ _ (Value.int (nI _) :: Value.int (nI _) :: _) _ _ _ _; with_reducible refine x_icmp_geN (pc := 38) (tgt := 75) ?_ ?_ dX10_layWorn_38 ?_ (fun h38 => ?_) (fun h38 => ?_); (first | omega | exact b2n_31 _); (first | omega | exact b2n_31 _); decide) | refine x_icmp_ge (pc := 38) (tgt := 75) dX10_layWorn_38 (by decide) (fun h38 => ?_) (fun h38 => ?_)
              · skip
                first | (guard_target =~ Wp _ _ _ _ (_ :: _ :: _ :: some (Value.int (nI _)) :: _) _ _ _ _ _; with_reducible refine x_iincN (pc := 75) 1 ic_1 dX10_layWorn_75 ?_ xg_3 xs_3 ?_ ?_; decide; exact (x_hp rfl)) | refine x_iincC (pc := 75) ic_1 dX10_layWorn_75 (by decide) rfl xs_3 (x_hp rfl) ?_
                refine x_goto (pc := 78) (tgt := 18) dX10_layWorn_78 (by decide) ?_
                exact ihc (c + 1) M1 _ _ (by omega) ho (fun j hj2 => hj j (by omega))
              · skip
                omega
            | succ m3 ihr =>
              intro r M1 hm3 ho hj
              refine x_iload (pc := 35) dX10_layWorn_35 rfl ?_
              refine x_iconstN (pc := 37) 4 dX10_layWorn_37 ic_4 ?_
              first | (guard_target =~ Wp _ _ _ _ _ (Value.int (nI _) :: Value.int (nI _) :: _) _ _ _ _; with_reducible refine x_icmp_geN (pc := 38) (tgt := 75) ?_ ?_ dX10_layWorn_38 ?_ (fun h38 => ?_) (fun h38 => ?_); (first | omega | exact b2n_31 _); (first | omega | exact b2n_31 _); decide) | refine x_icmp_ge (pc := 38) (tgt := 75) dX10_layWorn_38 (by decide) (fun h38 => ?_) (fun h38 => ?_)
              · skip
                omega
              · skip
                refine x_aload_n (pc := 41) dX10_layWorn_41 rfl ?_
                refine x_getR (pc := 42) dX10_layWorn_42 flX10_108 (by first | assumption | rfl) rfl ?_
                refine x_bipushN (pc := 45) 64 dX10_layWorn_45 bp_64 ?_
                refine x_iload_n (pc := 47) dX10_layWorn_47 rfl ?_
                first | (guard_target =~ Wp _ _ _ _ _ (Value.int (nI _) :: Value.int (nI _) :: _) _ _ _ _; with_reducible refine x_imulN (pc := 48) dX10_layWorn_48 ?_) | refine x_imul (pc := 48) dX10_layWorn_48 ?_
                refine x_iconstN (pc := 49) 4 dX10_layWorn_49 ic_4 ?_
                refine x_iload_n (pc := 50) dX10_layWorn_50 rfl ?_
                first | (guard_target =~ Wp _ _ _ _ _ (Value.int (nI _) :: Value.int (nI _) :: _) _ _ _ _; with_reducible refine x_imulN (pc := 51) dX10_layWorn_51 ?_) | refine x_imul (pc := 51) dX10_layWorn_51 ?_
                first | (guard_target =~ Wp _ _ _ _ _ (Value.int (nI _) :: Value.int (nI _) :: _) _ _ _ _; with_reducible refine x_iaddN (pc := 52) dX10_layWorn_52 ?_) | refine x_iadd (pc := 52) dX10_layWorn_52 ?_
                refine x_iload (pc := 53) dX10_layWorn_53 rfl ?_
                first | (guard_target =~ Wp _ _ _ _ _ (Value.int (nI _) :: Value.int (nI _) :: _) _ _ _ _; with_reducible refine x_iaddN (pc := 55) dX10_layWorn_55 ?_) | refine x_iadd (pc := 55) dX10_layWorn_55 ?_
                refine x_iload (pc := 56) dX10_layWorn_56 rfl ?_
                refine x_aload_n (pc := 58) dX10_layWorn_58 rfl ?_
                refine x_iload_n (pc := 59) dX10_layWorn_59 rfl ?_
                refine x_iload_n (pc := 60) dX10_layWorn_60 rfl ?_
                refine x_iload_n (pc := 61) dX10_layWorn_61 rfl ?_
                refine x_iload (pc := 62) dX10_layWorn_62 rfl ?_
                refine x_invV4 (pc := 64) dX10_layWorn_64 mlX10_348 imX10_treadsBy seX10_treadsBy kX10_treadsBy (by first | assumption | rfl) rfl (Nat.le_of_ble_eq_true rfl) (by decide) ?_
                refine sm_treadsBy hB (hQ.keep ho pN_Q) hg hc hwb (by omega) ?_
                refine x_cv rfl rfl ?_
                first | (guard_target =~ Wp _ _ _ _ _ (Value.int (nI _) :: Value.int (nI _) :: _) _ _ _ _; with_reducible refine x_imulN (pc := 67) dX10_layWorn_67 ?_) | refine x_imul (pc := 67) dX10_layWorn_67 ?_
                refine x_iastN (pc := 68) dX10_layWorn_68 (by first | assumption | rfl) (by first | with_reducible rfl | (simp only [xlit, nI_add, pk_mul]; with_reducible rfl)) (by omega) (by decide) ?_
                first | (guard_target =~ Wp _ _ _ _ (_ :: _ :: _ :: _ :: _ :: some (Value.int (nI _)) :: _) _ _ _ _ _; with_reducible refine x_iincN (pc := 69) 1 ic_1 dX10_layWorn_69 ?_ xg_5 xs_5 ?_ ?_; decide; exact (x_hp rfl)) | refine x_iincC (pc := 69) ic_1 dX10_layWorn_69 (by decide) rfl xs_5 (x_hp rfl) ?_
                refine x_goto (pc := 72) (tgt := 35) dX10_layWorn_72 (by decide) ?_
                refine ihr (r + 1) _ (by omega) (ho.tr (only.put (by rfl))) (fun j hj2 => ?_)
                by_cases z : j = 64 * gg + 4 * c + r
                · rw [z]
                  refine (if_pos ⟨rfl, rfl⟩).trans ?_
                  unfold wnF wrn
                  rw [show (64 * gg + 4 * c + r) / 64 = gg by omega, show (64 * gg + 4 * c + r) / 4 % 16 = c by omega, show (64 * gg + 4 * c + r) % 4 = r by omega]
                · exact (if_neg (fun q => z q.2)).trans (hj j (by omega))
          refine x_iload_n (pc := 18) dX10_layWorn_18 rfl ?_
          refine x_bipushN (pc := 19) 16 dX10_layWorn_19 bp_16 ?_
          first | (guard_target =~ Wp _ _ _ _ _ (Value.int (nI _) :: Value.int (nI _) :: _) _ _ _ _; with_reducible refine x_icmp_geN (pc := 21) (tgt := 81) ?_ ?_ dX10_layWorn_21 ?_ (fun h21 => ?_) (fun h21 => ?_); (first | omega | exact b2n_31 _); (first | omega | exact b2n_31 _); decide) | refine x_icmp_ge (pc := 21) (tgt := 81) dX10_layWorn_21 (by decide) (fun h21 => ?_) (fun h21 => ?_)
          · skip
            omega
          · skip
            refine x_aload_n (pc := 24) dX10_layWorn_24 rfl ?_
            refine x_iload_n (pc := 25) dX10_layWorn_25 rfl ?_
            refine x_iload_n (pc := 26) dX10_layWorn_26 rfl ?_
            refine x_invV2 (pc := 27) dX10_layWorn_27 mlX10_345 imX10_yieldsOf seX10_yieldsOf kX10_yieldsOf (by first | assumption | rfl) rfl (Nat.le_of_ble_eq_true rfl) (by decide) ?_
            refine sm_yieldsOf (hL.keep ho pN_L) hB (hQ.keep ho pN_Q) hg hc (fun M2 ho2 => ?_)
            refine x_cv rfl rfl ?_
            refine x_istore (pc := 30) dX10_layWorn_30 (by decide) xs_4 (x_hp rfl) ?_
            refine x_iconstN (pc := 32) 0 dX10_layWorn_32 ic_0 ?_
            refine x_istore (pc := 33) dX10_layWorn_33 (by decide) xs_5 (x_hp rfl) ?_
            exact rl 4 0 M2 (by omega) (ho.tr (ho2.wide pN_H)) (fun j hj2 => (ho2.1 85 j rfl).trans (hj j (by omega)))
      refine x_iload_n (pc := 2) dX10_layWorn_2 rfl ?_
      refine x_aload_n (pc := 3) dX10_layWorn_3 rfl ?_
      refine x_getI (pc := 4) dX10_layWorn_4 flX10_7 (by first | assumption | rfl) rfl ?_
      rw [(hQ.keep ho pN_Q).1]
      first | (guard_target =~ Wp _ _ _ _ _ (Value.int (nI _) :: Value.int (nI _) :: _) _ _ _ _; with_reducible refine x_icmp_geN (pc := 7) (tgt := 87) ?_ ?_ dX10_layWorn_7 ?_ (fun h7 => ?_) (fun h7 => ?_); (first | omega | exact b2n_31 _); (first | omega | exact b2n_31 _); decide) | refine x_icmp_ge (pc := 7) (tgt := 87) dX10_layWorn_7 (by decide) (fun h7 => ?_) (fun h7 => ?_)
      · skip
        omega
      · skip
        refine x_aload_n (pc := 10) dX10_layWorn_10 rfl ?_
        refine x_iload_n (pc := 11) dX10_layWorn_11 rfl ?_
        refine x_invV1 (pc := 12) dX10_layWorn_12 mlX10_342 imX10_waySet seX10_waySet kX10_waySet (by first | assumption | rfl) rfl (Nat.le_of_ble_eq_true rfl) (by decide) ?_
        refine sm_waySet hB (hQ.keep ho pN_Q) hg (fun M2 ho2 => ?_)
        refine x_cv rfl rfl ?_
        refine x_istore_n (pc := 15) dX10_layWorn_15 (by decide) xs_2 (x_hp rfl) ?_
        refine x_iconstN (pc := 16) 0 dX10_layWorn_16 ic_0 ?_
        refine x_istore_n (pc := 17) dX10_layWorn_17 (by decide) xs_3 (x_hp rfl) ?_
        exact cl 16 0 M2 _ _ (by omega) (ho.tr (ho2.wide pN_W)) (fun j hj2 => (ho2.1 85 j rfl).trans (hj j (by omega)))
  refine x_iconstN (pc := 0) 0 dX10_layWorn_0 ic_0 ?_
  refine x_istore_n (pc := 1) dX10_layWorn_1 (by decide) xs_1 (x_hp rfl) ?_
  exact gl (A 8 0) 0 M _ _ _ _ (by omega) only.rf (fun j hj => by omega)
end P77
