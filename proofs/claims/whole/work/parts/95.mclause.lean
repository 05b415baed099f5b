/-! the MODEL's reader: a clause -/
def CS (M : XM) (sg p : Nat) (C : List Nat) : Prop := M.1 65 13 = nI p ∧ M.1 65 23 = nI (sg + C.length) ∧ (∀ k, k < C.length → M.1 78 (sg + k) = tokI (C.getD k 0)) ∧ C.length ≤ p
def pE2 (sg ci : Nat) (a k : Nat) : Bool := pK sg ci a k || (a == 76 && k == ci)
def pCl (sg ci : Nat) (a k : Nat) : Bool := pE2 sg ci a k || ((a == 74 || a == 75) && k == ci)
def eR (M M' : XM) (sg ci : Nat) (C : List Nat) (r : Option XP × Nat) : Prop := match r with
  | (none, q) => only (pE2 sg ci) M M' ∧ M'.1 65 13 = nI q
  | (some e, q) => only (pE2 sg ci) M M' ∧ CS M' sg q (C ++ e.1) ∧ M'.1 76 ci = nI (sg + C.length) ∧ M'.1 77 ci = nI (sg + (C ++ e.1).length)
def cR (M M' : XM) (sg ci : Nat) (C : List Nat) (r : Option XCl × Nat) : Prop := match r with
  | (none, q) => only (pCl sg ci) M M' ∧ M'.1 65 13 = nI q
  | (some x, q) => only (pCl sg ci) M M' ∧ CS M' sg q (C ++ x.2.2.1) ∧ M'.1 74 ci = nI x.1 ∧ M'.1 75 ci = nI x.2.1 ∧ (x.1 < 2 → M'.1 76 ci = nI (sg + C.length) ∧ M'.1 77 ci = nI (sg + (C ++ x.2.2.1).length))
theorem pE2_K {sg ci : Nat} : ∀ a k, pK sg ci a k = true → pE2 sg ci a k = true := by intro a k h; simp [pE2, h]
theorem pCl_E {sg ci : Nat} : ∀ a k, pE2 sg ci a k = true → pCl sg ci a k = true := by intro a k h; simp [pCl, h]
theorem pCl_13 {sg ci : Nat} : ∀ a k, p13 a k = true → pCl sg ci a k = true := fun a k h => pCl_E a k (pE2_K a k (p13_K a k h))
theorem CT.keep {p : Nat → Nat → Bool} {M M' : XM} {n : Nat} {t : Nat → Nat} (h : CT M n t) (hs : only p M M') (hp : p 65 12 = false ∧ (∀ k, p 72 k = false) ∧ ∀ k, p 80 k = false) : CT M' n t :=
  ⟨(hs.1 65 12 hp.1).trans h.1, h.2.1, fun j hj => ⟨(hs.1 72 j (hp.2.1 j)).trans (h.2.2.1 j hj).1, (h.2.2.1 j hj).2⟩, fun j hj => (hs.1 80 j (hp.2.2 j)).trans (h.2.2.2 j hj)⟩
section P95
variable {g : XG} {d : Nat} {M M0 : XM} {K : Option Value → XS → XM → Prop} {n sg ci p o : Nat} {t : Nat → Nat} {C V U : List Nat} {j : Nat}
theorem sm_takesE (hT : CT M n t) (hsg : sg + 100 ≤ 600) (hci : ci < 60) (hC : CS M sg p C) (hp1 : 1 ≤ p) (hpn : p ≤ n) (hK : ∀ M', eR M M' sg ci C (pE (chT n t) 4 p) → K (some (.int (nI (b2n (pE (chT n t) 4 p).1.isSome)))) xSF M') : Ex g (d + 4) yX10_takesE mX10_takesE [.ref 65, .int (nI ci)] xSF M K := by
  have hn := hT.2.1
  obtain ⟨c1, c2, c3, c4⟩ := hC
  have hM1 : only (pE2 sg ci) M (xput (xput (xput M 65 24 (nI 0)) 65 25 (nI 0)) 76 ci (nI (sg + C.length))) := ((only.put (by simp [pE2, pK])).tr (only.put (by simp [pE2, pK]))).tr (only.put (by simp [pE2]))
  have hT1 : CT (xput (xput (xput M 65 24 (nI 0)) 65 25 (nI 0)) 76 ci (nI (sg + C.length))) n t := hT.keep hM1 ⟨by simp [pE2, pK], fun _ => by simp [pE2, pK], fun _ => by simp [pE2, pK]⟩
  have hfac : facW g d K (xput (xput (xput M 65 24 (nI 0)) 65 25 (nI 0)) 76 ci (nI (sg + C.length))) n sg ci t 4 := facW_all hT1 hsg hci 4
  refine x_entry kX10_takesE (Nat.le_of_ble_eq_true rfl) ?_
  show Wp g _ mX10_takesE 0 [some (.ref 65), some (.int (nI ci)), none, none] [] _ _ _ _
  have main : AtE g d ci K 1 (xput (xput (xput M 65 24 (nI 0)) 65 25 (nI 0)) 76 ci (nI (sg + C.length))) := by
    refine expW hT1 hsg hci hfac 100 none none p C [] 0 _ hpn (by omega) rfl (fun u W' z => by cases z) (fun u hu => by cases hu) ⟨only.rf, c1, ?_, rfl, rfl, fun k hk => ?_, trivial, ?_⟩ (fun q M' e1 hN => ?_) (fun e q M' e1 hqn h2 h77 => ?_)
    · rw [show C ++ (cd none ++ cd none) = C from List.append_nil C]; exact c2
    · rw [show C ++ (cd none ++ cd none) = C from List.append_nil C] at hk ⊢; exact c3 k hk
    · rw [show C ++ (cd none ++ cd none) = C from List.append_nil C]; exact c4
    · have e2 : pE (chT n t) 4 p = (none, q) := e1
      rw [e2] at hK
      exact hK M' ⟨hM1.tr (hN.1.wide pE2_K), hN.2⟩
    · have e2 : pE (chT n t) 4 p = (some e, q) := e1
      rw [e2] at hK
      obtain ⟨g1, g2, g3, g4, g5, g6, g7, g8⟩ := h2
      have hfin : eR M M' sg ci C (some e, q) := ⟨hM1.tr (g1.wide pE2_K), ⟨g2, g3, g6, by simpa using g8⟩, (g1.1 76 ci (by simp [pK])).trans (if_pos ⟨rfl, rfl⟩), h77⟩
      have h24 : M'.1 65 24 = nI 0 := g4
      refine x_aload_n (pc := 178) dX10_takesE_178 rfl ?_
      refine x_getI (pc := 179) dX10_takesE_179 flX10_83 (by first | assumption | rfl) rfl ?_
      rw [h24]
      first | (guard_target =~ Wp _ _ _ _ _ (Value.int (nI _) :: _) _ _ _ _; with_reducible refine x_if_neN (pc := 182) (tgt := 187) ?_ dX10_takesE_182 ?_ (fun h182 => ?_) (fun h182 => ?_); (first | omega | exact b2n_32 _ | exact b2n_31 _); decide) | refine x_if_ne (pc := 182) (tgt := 187) dX10_takesE_182 (by decide) (fun h182 => ?_) (fun h182 => ?_)
      · skip
        omega
      · skip
        refine x_iconstN (pc := 185) 1 dX10_takesE_185 ic_1 ?_
        refine x_ret (pc := 186) (v := some _) rfl (by first | rfl | decide | exact xrt_b) dX10_takesE_186 (by decide) ?_
        exact hK M' hfin
  refine x_aload_n (pc := 0) dX10_takesE_0 rfl ?_
  refine x_iconstN (pc := 1) 0 dX10_takesE_1 ic_0 ?_
  refine x_putI (pc := 2) dX10_takesE_2 flX10_83 (by first | assumption | rfl) rfl rfl rfl ?_
  refine x_aload_n (pc := 5) dX10_takesE_5 rfl ?_
  refine x_iconstN (pc := 6) 0 dX10_takesE_6 ic_0 ?_
  refine x_putI (pc := 7) dX10_takesE_7 flX10_86 (by first | assumption | rfl) rfl rfl rfl ?_
  refine x_aload_n (pc := 10) dX10_takesE_10 rfl ?_
  refine x_getR (pc := 11) dX10_takesE_11 flX10_68 (by first | assumption | rfl) rfl ?_
  refine x_iload_n (pc := 14) dX10_takesE_14 rfl ?_
  refine x_aload_n (pc := 15) dX10_takesE_15 rfl ?_
  refine x_getI (pc := 16) dX10_takesE_16 flX10_80 (by first | assumption | rfl) rfl ?_
  rw [show (xput (xput M 65 24 (nI 0)) 65 25 (nI 0)).1 65 23 = nI (sg + C.length) from c2]
  refine x_iastN (pc := 19) dX10_takesE_19 (by first | assumption | rfl) (by first | with_reducible rfl | (simp only [xlit, nI_add, pk_mul]; with_reducible rfl)) (by omega) (by decide) ?_
  refine x_iconstN (pc := 20) 1 dX10_takesE_20 ic_1 ?_
  refine x_istore_n (pc := 21) dX10_takesE_21 (by decide) xs_2 (x_hp rfl) ?_
  exact main _
/-- the head of a clause: its kind, whether its word is there -/
def hdR (c : Nat → Nat) (p : Nat) : Nat × Bool × Nat := if c p = 116 then (0, wrdP c wS p) else if c p = 105 then (1, wrdP c wH p) else (2, wrdP c wB p)
theorem sm_takesHead (hT : CT M n t) (hci : ci < 60) (h13 : M.1 65 13 = nI p) (hpn : p ≤ n) (hK : ∀ M', only (fun a k => p13 a k || (a == 74 && k == ci)) M M' → M'.1 65 13 = nI (hdR (chT n t) p).2.2 → M'.1 74 ci = nI (hdR (chT n t) p).1 → K (some (.int (nI (b2n (hdR (chT n t) p).2.1)))) xSF M') : Ex g (d + 3) yX10_takesHead mX10_takesHead [.ref 65, .int (nI ci)] xSF M K := by
  have hn := hT.2.1
  have hcp := (hT.tx.2 p).2
  have step : ∀ w, CT (xput M 74 ci (nI w)) n t := fun w => hT.keep (only.put (p := fun a k => a == 74) rfl) ⟨rfl, fun _ => rfl, fun _ => rfl⟩
  have fin : ∀ w M', only p13 (xput M 74 ci (nI w)) M' → only (fun a k => p13 a k || (a == 74 && k == ci)) M M' ∧ M'.1 74 ci = nI w := fun w M' ho => ⟨(only.put (by simp)).tr (ho.wide (by intro a k q; simp [q])), (ho.1 74 ci rfl).trans (if_pos ⟨rfl, rfl⟩)⟩
  unfold hdR at hK
  refine x_entry kX10_takesHead (Nat.le_of_ble_eq_true rfl) ?_
  show Wp g _ mX10_takesHead 0 [some (.ref 65), some (.int (nI ci))] [] _ _ _ _
  by_cases c116 : chT n t p = 116
  · simp only [c116, if_true] at hK
    refine x_aload_n (pc := 0) dX10_takesHead_0 rfl ?_
    refine x_invV0 (pc := 1) dX10_takesHead_1 mlX10_271 imX10_next seX10_next kX10_next (by first | assumption | rfl) rfl (Nat.le_of_ble_eq_true rfl) (by decide) ?_
    refine sm_next (sg := 0) (ci := 0) hT only.rf h13 (by omega) ?_
    refine x_cv rfl rfl ?_
    rw [c116]
    refine x_lookup (pc := 4) (off := 28) (tgt := 32) dX10_takesHead_4 (by decide +kernel) (by decide +kernel) (by decide) ?_
    refine x_aload_n (pc := 32) dX10_takesHead_32 rfl ?_
    refine x_getR (pc := 33) dX10_takesHead_33 flX10_62 (by first | assumption | rfl) rfl ?_
    refine x_iload_n (pc := 36) dX10_takesHead_36 rfl ?_
    refine x_iconstN (pc := 37) 0 dX10_takesHead_37 ic_0 ?_
    refine x_iastN (pc := 38) dX10_takesHead_38 (by first | assumption | rfl) (by first | with_reducible rfl | (simp only [xlit, nI_add, pk_mul]; with_reducible rfl)) (by omega) (by decide) ?_
    refine x_aload_n (pc := 39) dX10_takesHead_39 rfl ?_
    refine x_iconstN (pc := 40) 0 dX10_takesHead_40 ic_0 ?_
    refine x_iconstN (pc := 41) 4 dX10_takesHead_41 ic_4 ?_
    refine x_invV2 (pc := 42) dX10_takesHead_42 mlX10_302 imX10_takesWord seX10_takesWord kX10_takesWord (by first | assumption | rfl) rfl (Nat.le_of_ble_eq_true rfl) (by decide) ?_
    refine sm_takesWord (w := [116, 112, 103, 117]) (sg := 0) (ci := 0) (step 0) ⟨only.rf, h13⟩ hpn rfl (by decide) (by decide) (fun M2 ho2 h2 => ?_)
    refine x_cv rfl rfl ?_
    refine x_ret (pc := 45) (v := some _) rfl (by first | rfl | decide | exact xrt_b) dX10_takesHead_45 (by decide) ?_
    exact hK M2 (fin 0 M2 ho2).1 h2 (fin 0 M2 ho2).2
  by_cases c105 : chT n t p = 105
  · simp only [c105, if_true, show ¬ (105 : Nat) = 116 by decide, if_false] at hK
    refine x_aload_n (pc := 0) dX10_takesHead_0 rfl ?_
    refine x_invV0 (pc := 1) dX10_takesHead_1 mlX10_271 imX10_next seX10_next kX10_next (by first | assumption | rfl) rfl (Nat.le_of_ble_eq_true rfl) (by decide) ?_
    refine sm_next (sg := 0) (ci := 0) hT only.rf h13 (by omega) ?_
    refine x_cv rfl rfl ?_
    rw [c105]
    refine x_lookup (pc := 4) (off := 42) (tgt := 46) dX10_takesHead_4 (by decide +kernel) (by decide +kernel) (by decide) ?_
    refine x_aload_n (pc := 46) dX10_takesHead_46 rfl ?_
    refine x_getR (pc := 47) dX10_takesHead_47 flX10_62 (by first | assumption | rfl) rfl ?_
    refine x_iload_n (pc := 50) dX10_takesHead_50 rfl ?_
    refine x_iconstN (pc := 51) 1 dX10_takesHead_51 ic_1 ?_
    refine x_iastN (pc := 52) dX10_takesHead_52 (by first | assumption | rfl) (by first | with_reducible rfl | (simp only [xlit, nI_add, pk_mul]; with_reducible rfl)) (by omega) (by decide) ?_
    refine x_aload_n (pc := 53) dX10_takesHead_53 rfl ?_
    refine x_iconstN (pc := 54) 4 dX10_takesHead_54 ic_4 ?_
    refine x_iconstN (pc := 55) 4 dX10_takesHead_55 ic_4 ?_
    refine x_invV2 (pc := 56) dX10_takesHead_56 mlX10_302 imX10_takesWord seX10_takesWord kX10_takesWord (by first | assumption | rfl) rfl (Nat.le_of_ble_eq_true rfl) (by decide) ?_
    refine sm_takesWord (w := [105, 98, 115, 101]) (sg := 0) (ci := 0) (step 1) ⟨only.rf, h13⟩ hpn rfl (by decide) (by decide) (fun M2 ho2 h2 => ?_)
    refine x_cv rfl rfl ?_
    refine x_ret (pc := 59) (v := some _) rfl (by first | rfl | decide | exact xrt_b) dX10_takesHead_59 (by decide) ?_
    exact hK M2 (fin 1 M2 ho2).1 h2 (fin 1 M2 ho2).2
  · simp only [c116, c105, if_false] at hK
    have hsw : ∀ x, x < 129 → x ≠ 116 → x ≠ 105 → Op.lookupswitch.offset [(104, 42), (115, 28)] 56 (srt x).toInt = 56 := by decide +kernel
    refine x_aload_n (pc := 0) dX10_takesHead_0 rfl ?_
    refine x_invV0 (pc := 1) dX10_takesHead_1 mlX10_271 imX10_next seX10_next kX10_next (by first | assumption | rfl) rfl (Nat.le_of_ble_eq_true rfl) (by decide) ?_
    refine sm_next (sg := 0) (ci := 0) hT only.rf h13 (by omega) ?_
    refine x_cv rfl rfl ?_
    refine x_lookup (pc := 4) (off := 56) (tgt := 60) dX10_takesHead_4 (by decide +kernel) (hsw _ hcp c116 c105) (by decide) ?_
    refine x_aload_n (pc := 60) dX10_takesHead_60 rfl ?_
    refine x_getR (pc := 61) dX10_takesHead_61 flX10_62 (by first | assumption | rfl) rfl ?_
    refine x_iload_n (pc := 64) dX10_takesHead_64 rfl ?_
    refine x_iconstN (pc := 65) 2 dX10_takesHead_65 ic_2 ?_
    refine x_iastN (pc := 66) dX10_takesHead_66 (by first | assumption | rfl) (by first | with_reducible rfl | (simp only [xlit, nI_add, pk_mul]; with_reducible rfl)) (by omega) (by decide) ?_
    refine x_aload_n (pc := 67) dX10_takesHead_67 rfl ?_
    refine x_bipushN (pc := 68) 8 dX10_takesHead_68 bp_8 ?_
    refine x_iconstN (pc := 70) 4 dX10_takesHead_70 ic_4 ?_
    refine x_invV2 (pc := 71) dX10_takesHead_71 mlX10_302 imX10_takesWord seX10_takesWord kX10_takesWord (by first | assumption | rfl) rfl (Nat.le_of_ble_eq_true rfl) (by decide) ?_
    refine sm_takesWord (w := [99, 98, 109, 101]) (sg := 0) (ci := 0) (step 2) ⟨only.rf, h13⟩ hpn rfl (by decide) (by decide) (fun M2 ho2 h2 => ?_)
    refine x_cv rfl rfl ?_
    refine x_ret (pc := 74) (v := some _) rfl (by first | rfl | decide | exact xrt_b) dX10_takesHead_74 (by decide) ?_
    exact hK M2 (fin 2 M2 ho2).1 h2 (fin 2 M2 ho2).2
/-- a clause, by its head -/
theorem pC_hd (c : Nat → Nat) (p : Nat) : pC c p = (match hdR c p with
    | (_, false, q) => (none, q)
    | (w, true, q) => match numP c q with
      | none => (none, q)
      | some (v, r) => if w = 2 then (some (2, v, [], fun _ => false), r) else if c r = 33 then (match pE c 4 (r + 1) with
        | (none, s) => (none, s)
        | (some e, s) => (some (w, v, e), s)) else (none, r)) := by
  unfold pC hdR
  by_cases h99 : c p = 99
  · rw [if_pos h99, if_neg (by omega), if_neg (by omega)]
    rcases wrdP c wB p with ⟨_ | _, q⟩
    · rfl
    · simp only
      rcases numP c q with _ | ⟨v, r⟩
      · rfl
      · simp
  · rw [if_neg h99]
    by_cases h105 : c p = 105
    · simp only [if_pos h105, if_neg (show ¬ c p = 116 by omega)]
      rcases wrdP c wH p with ⟨_ | _, q⟩
      · rfl
      · simp only
        rcases numP c q with _ | ⟨v, r⟩
        · rfl
        · simp only
          rw [if_neg (show ¬ (1 : Nat) = 2 by decide)]
          try rfl
    · rw [if_neg h105, if_neg h105, if_neg h105]
      by_cases h116 : c p = 116
      · rw [if_pos h116]
        rcases wrdP c wS p with ⟨_ | _, q⟩
        · rfl
        · simp only
          rcases numP c q with _ | ⟨v, r⟩
          · rfl
          · simp only
            rw [if_neg (show ¬ (0 : Nat) = 2 by decide)]
            try rfl
      · have e1 : wrdP c wS p = (false, p) := by unfold wS; rw [wrdP, if_neg h116]
        have e2 : wrdP c wB p = (false, p) := by unfold wB; rw [wrdP, if_neg h99]
        rw [if_neg h116, e1, e2]
theorem eq_none_or {α : Type} (o : Option α) : o = none ∨ ∃ x, o = some x := by cases o <;> simp
theorem sm_takesClause (hT : CT M n t) (hsg : sg + 100 ≤ 600) (hci : ci < 60) (hC : CS M sg p C) (hpn : p ≤ n) (hK : ∀ M', cR M M' sg ci C (pC (chT n t) p) → K (some (.int (nI (b2n (pC (chT n t) p).1.isSome)))) xSF M') : Ex g (d + 5) yX10_takesClause mX10_takesClause [.ref 65, .int (nI ci)] xSF M K := by
  have hn := hT.2.1
  have hTX := hT.tx
  obtain ⟨c1, c2, c3, c4⟩ := hC
  rw [pC_hd] at hK
  have hdq : ∀ w b q, hdR (chT n t) p = (w, b, q) → p ≤ q ∧ q ≤ n ∧ w < 3 ∧ (b = true → q = p + 5) := by
    intro w b q e
    have hw : ∀ l, (∀ x, x ∈ l → x ≠ 0) → l.length = 5 → p ≤ (wrdP (chT n t) l p).2 ∧ (wrdP (chT n t) l p).2 ≤ n ∧ ((wrdP (chT n t) l p).1 = true → (wrdP (chT n t) l p).2 = p + 5) := fun l hl h5 => by
      have := wrdP_ok hTX l hl p hpn
      rw [h5] at this; exact this
    unfold hdR at e
    split at e
    · have := hw wS (by decide) rfl
      have e1 := (Prod.mk.inj e).1; have e2 := (Prod.mk.inj e).2; rw [e2] at this; exact ⟨this.1, this.2.1, by rw [← e1]; decide, this.2.2⟩
    · split at e
      · have := hw wH (by decide) rfl
        have e1 := (Prod.mk.inj e).1; have e2 := (Prod.mk.inj e).2; rw [e2] at this; exact ⟨this.1, this.2.1, by rw [← e1]; decide, this.2.2⟩
      · have := hw wB (by decide) rfl
        have e1 := (Prod.mk.inj e).1; have e2 := (Prod.mk.inj e).2; rw [e2] at this; exact ⟨this.1, this.2.1, by rw [← e1]; decide, this.2.2⟩
  rcases hh : hdR (chT n t) p with ⟨w, _ | _, q⟩
  · obtain ⟨q1, q2, q3, -⟩ := hdq w false q hh
    rw [hh] at hK
    refine x_entry kX10_takesClause (Nat.le_of_ble_eq_true rfl) ?_
    show Wp g _ mX10_takesClause 0 [some (.ref 65), some (.int (nI ci))] [] _ _ _ _
    refine x_aload_n (pc := 0) dX10_takesClause_0 rfl ?_
    refine x_iload_n (pc := 1) dX10_takesClause_1 rfl ?_
    refine x_invV1 (pc := 2) dX10_takesClause_2 mlX10_305 imX10_takesHead seX10_takesHead kX10_takesHead (by first | assumption | rfl) rfl (Nat.le_of_ble_eq_true rfl) (by decide) ?_
    refine sm_takesHead hT hci c1 hpn (fun M2 ho2 h132 h742 => ?_)
    refine x_cv rfl rfl ?_
    rw [hh] at h132 h742 ⊢
    first | (guard_target =~ Wp _ _ _ _ _ (Value.int (nI _) :: _) _ _ _ _; with_reducible refine x_if_eqN (pc := 5) (tgt := 15) ?_ dX10_takesClause_5 ?_ (fun h5 => ?_) (fun h5 => ?_); (first | omega | exact b2n_32 _ | exact b2n_31 _); decide) | refine x_if_eq (pc := 5) (tgt := 15) dX10_takesClause_5 (by decide) (fun h5 => ?_) (fun h5 => ?_)
    · skip
      refine x_iconstN (pc := 15) 0 dX10_takesClause_15 ic_0 ?_
      refine x_ret (pc := 16) (v := some _) rfl (by first | rfl | decide | exact xrt_b) dX10_takesClause_16 (by decide) ?_
      exact hK M2 ⟨ho2.wide (by intro a k z; simp [pCl, pE2, pK, p13] at z ⊢; omega), h132⟩
    · skip
      exact absurd rfl h5
  · obtain ⟨q1, q2, q3, q4⟩ := hdq w true q hh
    have q5 := q4 rfl
    rw [hh] at hK
    dsimp only at hK
    have w1 : ∀ M2, only (fun a k => p13 a k || (a == 74 && k == ci)) M M2 → only (pCl sg ci) M M2 := fun M2 h => h.wide (by intro a k z; simp [pCl, pE2, pK, p13] at z ⊢; omega)
    have kT : ∀ M2, only (pCl sg ci) M M2 → CT M2 n t := fun M2 h => hT.keep h ⟨by simp [pCl, pE2, pK], fun _ => by simp [pCl, pE2, pK], fun _ => by simp [pCl, pE2, pK]⟩
    refine x_entry kX10_takesClause (Nat.le_of_ble_eq_true rfl) ?_
    show Wp g _ mX10_takesClause 0 [some (.ref 65), some (.int (nI ci))] [] _ _ _ _
    rcases eq_none_or (numP (chT n t) q) with hnum | ⟨⟨v, r⟩, hnum⟩
    · rw [hnum] at hK
      refine x_aload_n (pc := 0) dX10_takesClause_0 rfl ?_
      refine x_iload_n (pc := 1) dX10_takesClause_1 rfl ?_
      refine x_invV1 (pc := 2) dX10_takesClause_2 mlX10_305 imX10_takesHead seX10_takesHead kX10_takesHead (by first | assumption | rfl) rfl (Nat.le_of_ble_eq_true rfl) (by decide) ?_
      refine sm_takesHead hT hci c1 hpn (fun M2 ho2 h132 h742 => ?_)
      refine x_cv rfl rfl ?_
      rw [hh] at h132 h742 ⊢
      first | (guard_target =~ Wp _ _ _ _ _ (Value.int (nI _) :: _) _ _ _ _; with_reducible refine x_if_eqN (pc := 5) (tgt := 15) ?_ dX10_takesClause_5 ?_ (fun h5 => ?_) (fun h5 => ?_); (first | omega | exact b2n_32 _ | exact b2n_31 _); decide) | refine x_if_eq (pc := 5) (tgt := 15) dX10_takesClause_5 (by decide) (fun h5 => ?_) (fun h5 => ?_)
      · skip
        cases h5
      · skip
        refine x_aload_n (pc := 8) dX10_takesClause_8 rfl ?_
        refine x_invV0 (pc := 9) dX10_takesClause_9 mlX10_290 imX10_takesNumber seX10_takesNumber kX10_takesNumber (by first | assumption | rfl) rfl (Nat.le_of_ble_eq_true rfl) (by decide) ?_
        refine sm_takesNumber (sg := 0) (ci := 0) (kT M2 (w1 M2 ho2)) ⟨only.rf, h132⟩ q2 (fun M3 ho3 h133 _ => ?_)
        refine x_cv rfl rfl ?_
        rw [hnum] at h133 ⊢
        first | (guard_target =~ Wp _ _ _ _ _ (Value.int (nI _) :: _) _ _ _ _; with_reducible refine x_if_neN (pc := 12) (tgt := 17) ?_ dX10_takesClause_12 ?_ (fun h12 => ?_) (fun h12 => ?_); (first | omega | exact b2n_32 _ | exact b2n_31 _); decide) | refine x_if_ne (pc := 12) (tgt := 17) dX10_takesClause_12 (by decide) (fun h12 => ?_) (fun h12 => ?_)
        · skip
          exact absurd rfl h12
        · skip
          refine x_iconstN (pc := 15) 0 dX10_takesClause_15 ic_0 ?_
          refine x_ret (pc := 16) (v := some _) rfl (by first | rfl | decide | exact xrt_b) dX10_takesClause_16 (by decide) ?_
          exact hK M3 ⟨(w1 M2 ho2).tr (ho3.wide pCl_13), h133⟩
    obtain ⟨z1, z2, z3⟩ := numP_some hTX hnum
    rw [hnum] at hK
    dsimp only at hK
    have rest : ∀ M3, only (pCl sg ci) M M3 → M3.1 65 13 = nI r → M3.1 74 ci = nI w → M3.1 75 ci = nI v → CS M3 sg r C → Wp g (d + 5) mX10_takesClause 27 [some (.ref 65), some (.int (nI ci))] [] xSF (0, 0) M3 K := by
      intro M3 ho3 h133 h743 h753 hCS
      have hT3 := kT M3 ho3
      by_cases w2 : w = 2
      · subst w2
        simp only [if_true] at hK
        refine x_aload_n (pc := 27) dX10_takesClause_27 rfl ?_
        refine x_getR (pc := 28) dX10_takesClause_28 flX10_62 (by first | assumption | rfl) rfl ?_
        refine x_iload_n (pc := 31) dX10_takesClause_31 rfl ?_
        refine x_ialdN (pc := 32) dX10_takesClause_32 (by first | assumption | rfl) (by first | with_reducible rfl | (simp only [xlit, nI_add, pk_mul]; with_reducible rfl)) (by omega) (by decide) ?_
        rw [h743]
        refine x_iconstN (pc := 33) 2 dX10_takesClause_33 ic_2 ?_
        first | (guard_target =~ Wp _ _ _ _ _ (Value.int (nI _) :: Value.int (nI _) :: _) _ _ _ _; with_reducible refine x_icmp_eqN (pc := 34) (tgt := 54) ?_ ?_ dX10_takesClause_34 ?_ (fun h34 => ?_) (fun h34 => ?_); (first | omega | exact b2n_31 _); (first | omega | exact b2n_31 _); decide) | refine x_icmp_eq (pc := 34) (tgt := 54) dX10_takesClause_34 (by decide) (fun h34 => ?_) (fun h34 => ?_)
        · skip
          refine x_iconstN (pc := 54) 1 dX10_takesClause_54 ic_1 ?_
          refine x_goto (pc := 55) (tgt := 59) dX10_takesClause_55 (by decide) ?_
          refine x_ret (pc := 59) (v := some _) rfl (by first | rfl | decide | exact xrt_b) dX10_takesClause_59 (by decide) ?_
          exact hK M3 ⟨ho3, by rw [show C ++ ([] : List Nat) = C from List.append_nil C]; exact hCS, h743, h753, fun z => absurd (show (2 : Nat) < 2 from z) (by decide)⟩
        · skip
          exact absurd rfl h34
      simp only [w2, if_false] at hK
      by_cases c33 : chT n t r = 33
      · have hr1 : r < n := hTX.lt c33 (by decide)
        simp only [c33, if_true] at hK
        rcases hE : pE (chT n t) 4 (r + 1) with ⟨_ | e, s⟩
        · simp only [hE] at hK
          refine x_aload_n (pc := 27) dX10_takesClause_27 rfl ?_
          refine x_getR (pc := 28) dX10_takesClause_28 flX10_62 (by first | assumption | rfl) rfl ?_
          refine x_iload_n (pc := 31) dX10_takesClause_31 rfl ?_
          refine x_ialdN (pc := 32) dX10_takesClause_32 (by first | assumption | rfl) (by first | with_reducible rfl | (simp only [xlit, nI_add, pk_mul]; with_reducible rfl)) (by omega) (by decide) ?_
          rw [h743]
          refine x_iconstN (pc := 33) 2 dX10_takesClause_33 ic_2 ?_
          first | (guard_target =~ Wp _ _ _ _ _ (Value.int (nI _) :: Value.int (nI _) :: _) _ _ _ _; with_reducible refine x_icmp_eqN (pc := 34) (tgt := 54) ?_ ?_ dX10_takesClause_34 ?_ (fun h34 => ?_) (fun h34 => ?_); (first | omega | exact b2n_31 _); (first | omega | exact b2n_31 _); decide) | refine x_icmp_eq (pc := 34) (tgt := 54) dX10_takesClause_34 (by decide) (fun h34 => ?_) (fun h34 => ?_)
          · skip
            exact absurd h34 w2
          · skip
            refine x_aload_n (pc := 37) dX10_takesClause_37 rfl ?_
            refine x_bipushN (pc := 38) 32 dX10_takesClause_38 bp_32 ?_
            refine x_invV1 (pc := 40) dX10_takesClause_40 mlX10_275 imX10_takes seX10_takes kX10_takes (by first | assumption | rfl) rfl (Nat.le_of_ble_eq_true rfl) (by decide) ?_
            refine sm_takes (M0 := M3) (sg := 0) (ci := 0) hT3 ⟨only.rf, h133⟩ (by omega) (by decide) (fun M4 ho4 h134 => ?_)
            refine x_cv rfl rfl ?_
            rw [if_pos (show chT n t r = 32 + 1 from c33)] at h134
            rw [decide_eq_true (show chT n t r = 32 + 1 from c33)]
            have ho4' : only (pCl sg ci) M3 M4 := ho4.wide (by intro a k z; simp at z; simp [pCl, pE2, pK]; omega)
            first | (guard_target =~ Wp _ _ _ _ _ (Value.int (nI _) :: _) _ _ _ _; with_reducible refine x_if_eqN (pc := 43) (tgt := 58) ?_ dX10_takesClause_43 ?_ (fun h43 => ?_) (fun h43 => ?_); (first | omega | exact b2n_32 _ | exact b2n_31 _); decide) | refine x_if_eq (pc := 43) (tgt := 58) dX10_takesClause_43 (by decide) (fun h43 => ?_) (fun h43 => ?_)
            · skip
              cases h43
            · skip
              refine x_aload_n (pc := 46) dX10_takesClause_46 rfl ?_
              refine x_iload_n (pc := 47) dX10_takesClause_47 rfl ?_
              refine x_invV1 (pc := 48) dX10_takesClause_48 mlX10_308 imX10_takesE seX10_takesE kX10_takesE (by first | assumption | rfl) rfl (Nat.le_of_ble_eq_true rfl) (by decide) ?_
              refine sm_takesE (kT M4 (ho3.tr ho4')) hsg hci (C := C) ⟨h134, (ho4.1 65 23 rfl).trans hCS.2.1, fun k hk => (ho4.1 78 _ rfl).trans (hCS.2.2.1 k hk), by have := hCS.2.2.2; omega⟩ (by omega) (by omega) (fun M5 h5 => ?_)
              refine x_cv rfl rfl ?_
              rw [hE] at h5 ⊢
              first | (guard_target =~ Wp _ _ _ _ _ (Value.int (nI _) :: _) _ _ _ _; with_reducible refine x_if_eqN (pc := 51) (tgt := 58) ?_ dX10_takesClause_51 ?_ (fun h51 => ?_) (fun h51 => ?_); (first | omega | exact b2n_32 _ | exact b2n_31 _); decide) | refine x_if_eq (pc := 51) (tgt := 58) dX10_takesClause_51 (by decide) (fun h51 => ?_) (fun h51 => ?_)
              · skip
                refine x_iconstN (pc := 58) 0 dX10_takesClause_58 ic_0 ?_
                refine x_ret (pc := 59) (v := some _) rfl (by first | rfl | decide | exact xrt_b) dX10_takesClause_59 (by decide) ?_
                exact hK M5 ⟨(ho3.tr ho4').tr (h5.1.wide pCl_E), h5.2⟩
              · skip
                exact absurd rfl h51
        · simp only [hE] at hK
          refine x_aload_n (pc := 27) dX10_takesClause_27 rfl ?_
          refine x_getR (pc := 28) dX10_takesClause_28 flX10_62 (by first | assumption | rfl) rfl ?_
          refine x_iload_n (pc := 31) dX10_takesClause_31 rfl ?_
          refine x_ialdN (pc := 32) dX10_takesClause_32 (by first | assumption | rfl) (by first | with_reducible rfl | (simp only [xlit, nI_add, pk_mul]; with_reducible rfl)) (by omega) (by decide) ?_
          rw [h743]
          refine x_iconstN (pc := 33) 2 dX10_takesClause_33 ic_2 ?_
          first | (guard_target =~ Wp _ _ _ _ _ (Value.int (nI _) :: Value.int (nI _) :: _) _ _ _ _; with_reducible refine x_icmp_eqN (pc := 34) (tgt := 54) ?_ ?_ dX10_takesClause_34 ?_ (fun h34 => ?_) (fun h34 => ?_); (first | omega | exact b2n_31 _); (first | omega | exact b2n_31 _); decide) | refine x_icmp_eq (pc := 34) (tgt := 54) dX10_takesClause_34 (by decide) (fun h34 => ?_) (fun h34 => ?_)
          · skip
            exact absurd h34 w2
          · skip
            refine x_aload_n (pc := 37) dX10_takesClause_37 rfl ?_
            refine x_bipushN (pc := 38) 32 dX10_takesClause_38 bp_32 ?_
            refine x_invV1 (pc := 40) dX10_takesClause_40 mlX10_275 imX10_takes seX10_takes kX10_takes (by first | assumption | rfl) rfl (Nat.le_of_ble_eq_true rfl) (by decide) ?_
            refine sm_takes (M0 := M3) (sg := 0) (ci := 0) hT3 ⟨only.rf, h133⟩ (by omega) (by decide) (fun M4 ho4 h134 => ?_)
            refine x_cv rfl rfl ?_
            rw [if_pos (show chT n t r = 32 + 1 from c33)] at h134
            rw [decide_eq_true (show chT n t r = 32 + 1 from c33)]
            have ho4' : only (pCl sg ci) M3 M4 := ho4.wide (by intro a k z; simp at z; simp [pCl, pE2, pK]; omega)
            first | (guard_target =~ Wp _ _ _ _ _ (Value.int (nI _) :: _) _ _ _ _; with_reducible refine x_if_eqN (pc := 43) (tgt := 58) ?_ dX10_takesClause_43 ?_ (fun h43 => ?_) (fun h43 => ?_); (first | omega | exact b2n_32 _ | exact b2n_31 _); decide) | refine x_if_eq (pc := 43) (tgt := 58) dX10_takesClause_43 (by decide) (fun h43 => ?_) (fun h43 => ?_)
            · skip
              cases h43
            · skip
              refine x_aload_n (pc := 46) dX10_takesClause_46 rfl ?_
              refine x_iload_n (pc := 47) dX10_takesClause_47 rfl ?_
              refine x_invV1 (pc := 48) dX10_takesClause_48 mlX10_308 imX10_takesE seX10_takesE kX10_takesE (by first | assumption | rfl) rfl (Nat.le_of_ble_eq_true rfl) (by decide) ?_
              refine sm_takesE (kT M4 (ho3.tr ho4')) hsg hci (C := C) ⟨h134, (ho4.1 65 23 rfl).trans hCS.2.1, fun k hk => (ho4.1 78 _ rfl).trans (hCS.2.2.1 k hk), by have := hCS.2.2.2; omega⟩ (by omega) (by omega) (fun M5 h5 => ?_)
              refine x_cv rfl rfl ?_
              rw [hE] at h5 ⊢
              first | (guard_target =~ Wp _ _ _ _ _ (Value.int (nI _) :: _) _ _ _ _; with_reducible refine x_if_eqN (pc := 51) (tgt := 58) ?_ dX10_takesClause_51 ?_ (fun h51 => ?_) (fun h51 => ?_); (first | omega | exact b2n_32 _ | exact b2n_31 _); decide) | refine x_if_eq (pc := 51) (tgt := 58) dX10_takesClause_51 (by decide) (fun h51 => ?_) (fun h51 => ?_)
              · skip
                cases h51
              · skip
                refine x_iconstN (pc := 54) 1 dX10_takesClause_54 ic_1 ?_
                refine x_goto (pc := 55) (tgt := 59) dX10_takesClause_55 (by decide) ?_
                refine x_ret (pc := 59) (v := some _) rfl (by first | rfl | decide | exact xrt_b) dX10_takesClause_59 (by decide) ?_
                obtain ⟨y1, y2, y3, y4⟩ := h5
                exact hK M5 ⟨(ho3.tr ho4').tr (y1.wide pCl_E), y2, (y1.1 74 ci (by simp [pE2, pK])).trans ((ho4.1 74 ci rfl).trans h743), (y1.1 75 ci (by simp [pE2, pK])).trans ((ho4.1 75 ci rfl).trans h753), fun _ => ⟨y3, y4⟩⟩
      · simp only [c33, if_false] at hK
        refine x_aload_n (pc := 27) dX10_takesClause_27 rfl ?_
        refine x_getR (pc := 28) dX10_takesClause_28 flX10_62 (by first | assumption | rfl) rfl ?_
        refine x_iload_n (pc := 31) dX10_takesClause_31 rfl ?_
        refine x_ialdN (pc := 32) dX10_takesClause_32 (by first | assumption | rfl) (by first | with_reducible rfl | (simp only [xlit, nI_add, pk_mul]; with_reducible rfl)) (by omega) (by decide) ?_
        rw [h743]
        refine x_iconstN (pc := 33) 2 dX10_takesClause_33 ic_2 ?_
        first | (guard_target =~ Wp _ _ _ _ _ (Value.int (nI _) :: Value.int (nI _) :: _) _ _ _ _; with_reducible refine x_icmp_eqN (pc := 34) (tgt := 54) ?_ ?_ dX10_takesClause_34 ?_ (fun h34 => ?_) (fun h34 => ?_); (first | omega | exact b2n_31 _); (first | omega | exact b2n_31 _); decide) | refine x_icmp_eq (pc := 34) (tgt := 54) dX10_takesClause_34 (by decide) (fun h34 => ?_) (fun h34 => ?_)
        · skip
          exact absurd h34 w2
        · skip
          refine x_aload_n (pc := 37) dX10_takesClause_37 rfl ?_
          refine x_bipushN (pc := 38) 32 dX10_takesClause_38 bp_32 ?_
          refine x_invV1 (pc := 40) dX10_takesClause_40 mlX10_275 imX10_takes seX10_takes kX10_takes (by first | assumption | rfl) rfl (Nat.le_of_ble_eq_true rfl) (by decide) ?_
          refine sm_takes (M0 := M3) (sg := 0) (ci := 0) hT3 ⟨only.rf, h133⟩ (by omega) (by decide) (fun M4 ho4 h134 => ?_)
          refine x_cv rfl rfl ?_
          rw [if_neg (show ¬ chT n t r = 32 + 1 from c33)] at h134
          rw [decide_eq_false (show ¬ chT n t r = 32 + 1 from c33)]
          have ho4' : only (pCl sg ci) M3 M4 := ho4.wide (by intro a k z; simp at z; simp [pCl, pE2, pK]; omega)
          first | (guard_target =~ Wp _ _ _ _ _ (Value.int (nI _) :: _) _ _ _ _; with_reducible refine x_if_eqN (pc := 43) (tgt := 58) ?_ dX10_takesClause_43 ?_ (fun h43 => ?_) (fun h43 => ?_); (first | omega | exact b2n_32 _ | exact b2n_31 _); decide) | refine x_if_eq (pc := 43) (tgt := 58) dX10_takesClause_43 (by decide) (fun h43 => ?_) (fun h43 => ?_)
          · skip
            refine x_iconstN (pc := 58) 0 dX10_takesClause_58 ic_0 ?_
            refine x_ret (pc := 59) (v := some _) rfl (by first | rfl | decide | exact xrt_b) dX10_takesClause_59 (by decide) ?_
            exact hK M4 ⟨ho3.tr ho4', h134⟩
          · skip
            exact absurd rfl h43
    refine x_aload_n (pc := 0) dX10_takesClause_0 rfl ?_
    refine x_iload_n (pc := 1) dX10_takesClause_1 rfl ?_
    refine x_invV1 (pc := 2) dX10_takesClause_2 mlX10_305 imX10_takesHead seX10_takesHead kX10_takesHead (by first | assumption | rfl) rfl (Nat.le_of_ble_eq_true rfl) (by decide) ?_
    refine sm_takesHead hT hci c1 hpn (fun M2 ho2 h132 h742 => ?_)
    refine x_cv rfl rfl ?_
    rw [hh] at h132 h742 ⊢
    first | (guard_target =~ Wp _ _ _ _ _ (Value.int (nI _) :: _) _ _ _ _; with_reducible refine x_if_eqN (pc := 5) (tgt := 15) ?_ dX10_takesClause_5 ?_ (fun h5 => ?_) (fun h5 => ?_); (first | omega | exact b2n_32 _ | exact b2n_31 _); decide) | refine x_if_eq (pc := 5) (tgt := 15) dX10_takesClause_5 (by decide) (fun h5 => ?_) (fun h5 => ?_)
    · skip
      cases h5
    · skip
      refine x_aload_n (pc := 8) dX10_takesClause_8 rfl ?_
      refine x_invV0 (pc := 9) dX10_takesClause_9 mlX10_290 imX10_takesNumber seX10_takesNumber kX10_takesNumber (by first | assumption | rfl) rfl (Nat.le_of_ble_eq_true rfl) (by decide) ?_
      refine sm_takesNumber (sg := 0) (ci := 0) (kT M2 (w1 M2 ho2)) ⟨only.rf, h132⟩ q2 (fun M3 ho3 h133 h143 => ?_)
      refine x_cv rfl rfl ?_
      rw [hnum] at h133 h143 ⊢
      have h143' : M3.1 65 14 = nI v := h143 _ rfl
      have h133' : M3.1 65 13 = nI r := h133
      first | (guard_target =~ Wp _ _ _ _ _ (Value.int (nI _) :: _) _ _ _ _; with_reducible refine x_if_neN (pc := 12) (tgt := 17) ?_ dX10_takesClause_12 ?_ (fun h12 => ?_) (fun h12 => ?_); (first | omega | exact b2n_32 _ | exact b2n_31 _); decide) | refine x_if_ne (pc := 12) (tgt := 17) dX10_takesClause_12 (by decide) (fun h12 => ?_) (fun h12 => ?_)
      · skip
        refine x_aload_n (pc := 17) dX10_takesClause_17 rfl ?_
        refine x_getR (pc := 18) dX10_takesClause_18 flX10_65 (by first | assumption | rfl) rfl ?_
        refine x_iload_n (pc := 21) dX10_takesClause_21 rfl ?_
        refine x_aload_n (pc := 22) dX10_takesClause_22 rfl ?_
        refine x_getI (pc := 23) dX10_takesClause_23 flX10_53 (by first | assumption | rfl) rfl ?_
        rw [h143']
        refine x_iastN (pc := 26) dX10_takesClause_26 (by first | assumption | rfl) (by first | with_reducible rfl | (simp only [xlit, nI_add, pk_mul]; with_reducible rfl)) (by omega) (by decide) ?_
        refine rest _ ((w1 M2 ho2).tr ((ho3.wide pCl_13).tr (only.put (by simp [pCl])))) h133' ((ho3.1 74 ci rfl).trans h742) (if_pos ⟨rfl, rfl⟩) ⟨h133', (ho3.1 65 23 rfl).trans ((ho2.1 65 23 rfl).trans c2), fun k hk => (ho3.1 78 _ rfl).trans ((ho2.1 78 _ rfl).trans (c3 k hk)), by omega⟩
      · skip
        cases h12
end P95
