/-! the MODEL's calls: room -/
def pG (f : Nat) (a k : Nat) : Bool := (a == 65 && (k == 13 || k == 14 || k == 23 || k == 24 || k == 25)) || (a == 78 && decide (100 * f ≤ k) && decide (k < 100 * f + 100)) || a == 79 || (decide (74 ≤ a) && decide (a ≤ 77) && decide (10 * f ≤ k) && decide (k < 10 * f + 10)) || (a == 73 && k == f)
theorem pG_C {f i : Nat} (hi : i < 10) : ∀ a k, pCl (100 * f) (10 * f + i) a k = true → pG f a k = true := by intro a k h; simp [pCl, pE2, pK] at h; simp [pG]; omega
def GL (M : XM) (f : Nat) (Lp : List XCl) (C : List Nat) : Prop := ∀ k x, Lp[k]? = some x → M.1 74 (10 * f + k) = nI x.1 ∧ M.1 75 (10 * f + k) = nI x.2.1 ∧ (x.1 < 2 → ∃ off, off + x.2.2.1.length ≤ C.length ∧ M.1 76 (10 * f + k) = nI (100 * f + off) ∧ M.1 77 (10 * f + k) = nI (100 * f + off + x.2.2.1.length) ∧ ∀ i, i < x.2.2.1.length → C.getD (off + i) 0 = x.2.2.1.getD i 0)
def gR (M M' : XM) (f : Nat) (r : Option (List XCl) × Nat) : Prop := match r with
  | (none, q) => only (pG f) M M' ∧ M'.1 65 13 = nI q
  | (some L, _) => only (pG f) M M' ∧ M'.1 73 f = nI L.length ∧ ∃ C, GL M' f L C ∧ (∀ k, k < C.length → M'.1 78 (100 * f + k) = tokI (C.getD k 0)) ∧ C.length ≤ 100
theorem getD_app_l {C D : List Nat} {i : Nat} (h : i < C.length) : (C ++ D).getD i 0 = C.getD i 0 := by simp [List.getD, List.getElem?_append_left h]
theorem getD_app_r {C D : List Nat} {i : Nat} : (C ++ D).getD (C.length + i) 0 = D.getD i 0 := by simp [List.getD, List.getElem?_append_right]
theorem pR_len {c : Nat → Nat} : ∀ k p l q, pR c k p = (some l, q) → l.length ≤ k + 1 := by
  intro k
  induction k with
  | zero =>
    intro p l q hr
    rcases hc : pC c p with ⟨_ | x, s⟩
    · rw [pR_n hc] at hr; cases hr
    · rw [pR_s hc, rst] at hr
      by_cases h1 : c s = 0
      · simp only [h1, if_true, Option.map, Prod.mk.injEq, Option.some.injEq] at hr
        obtain ⟨rfl, -⟩ := hr
        simp
      · simp only [h1, if_false, Option.map] at hr
        cases hr
  | succ k ih =>
    intro p l q hr
    rcases hc : pC c p with ⟨_ | x, s⟩
    · rw [pR_n hc] at hr; cases hr
    · rw [pR_s hc, rst] at hr
      by_cases h2 : c s = 60
      · simp only [h2, if_true] at hr
        rcases hq : pR c k (s + 1) with ⟨_ | l', t⟩
        · rw [hq] at hr; cases hr
        · rw [hq] at hr
          simp only [Option.map, Prod.mk.injEq, Option.some.injEq] at hr
          obtain ⟨rfl, -⟩ := hr
          have := ih (s + 1) l' t hq
          simp only [List.length_cons]; omega
      · simp only [h2, if_false] at hr
        by_cases h1 : c s = 0
        · simp only [h1, if_true, Option.map, Prod.mk.injEq, Option.some.injEq] at hr
          obtain ⟨rfl, -⟩ := hr
          simp
        · simp only [h1, if_false, Option.map] at hr
          cases hr
section P96
variable {g : XG} {d : Nat} {M M0 : XM} {K : Option Value → XS → XM → Prop} {n f : Nat} {t : Nat → Nat} {s : XSt}
theorem GL.app {M1 M2 : XM} {Lp : List XCl} {C : List Nat} {x : XCl} {q r : Nat} (h : GL M1 f Lp C) (hl : Lp.length < 10) (hc : cR M1 M2 (100 * f) (10 * f + Lp.length) C (some x, r)) : GL M2 f (Lp ++ [x]) (C ++ x.2.2.1) := by
  obtain ⟨c1, c2, c3, c4, c5⟩ := hc
  intro k y hy
  by_cases hk : k < Lp.length
  · rw [List.getElem?_append_left hk] at hy
    obtain ⟨a1, a2, a3⟩ := h k y hy
    have e : ∀ a, M2.1 a (10 * f + k) = M1.1 a (10 * f + k) ∨ a = 65 ∨ a = 78 ∨ a = 79 := fun a => by
      by_cases z : a = 65 ∨ a = 78 ∨ a = 79
      · exact Or.inr z
      · exact Or.inl (c1.1 a _ (by simp [pCl, pE2, pK]; omega))
    have e' : ∀ a, a ≠ 65 → a ≠ 78 → a ≠ 79 → M2.1 a (10 * f + k) = M1.1 a (10 * f + k) := fun a z1 z2 z3 => by rcases e a with q | q | q | q; exact q; exact absurd q z1; exact absurd q z2; exact absurd q z3
    refine ⟨(e' 74 (by decide) (by decide) (by decide)).trans a1, (e' 75 (by decide) (by decide) (by decide)).trans a2, fun h2 => ?_⟩
    obtain ⟨off, b1, b2, b3, b4⟩ := a3 h2
    refine ⟨off, by simp; omega, (e' 76 (by decide) (by decide) (by decide)).trans b2, (e' 77 (by decide) (by decide) (by decide)).trans b3, fun i hi => ?_⟩
    rw [getD_app_l (by omega)]; exact b4 i hi
  · have hk2 : k = Lp.length := by
      have := (List.getElem?_eq_some_iff.mp hy).1
      simp at this; omega
    subst hk2
    have hyx : y = x := by simpa using hy.symm
    subst hyx
    refine ⟨c3, c4, fun h2 => ?_⟩
    obtain ⟨d1, d2⟩ := c5 h2
    refine ⟨C.length, by simp, d1, ?_, fun i _ => getD_app_r⟩
    rw [d2]; exact congrArg nI (by simp; omega)
theorem sm_goesText (hT : CT M n t) (hf : f < 6) (hK : ∀ M', gR M M' f (pR (chT n t) 9 0) → K (some (.int (nI (b2n (pR (chT n t) 9 0).1.isSome)))) xSF M') : Ex g (d + 6) yX10_goesText mX10_goesText [.ref 65, .int (nI f)] xSF M K := by
  have hn := hT.2.1
  have hTX := hT.tx
  have kT : ∀ M2, only (pG f) M M2 → CT M2 n t := fun M2 h => hT.keep h ⟨by simp [pG], fun _ => by simp [pG], fun _ => by simp [pG]⟩
  refine x_entry kX10_goesText (Nat.le_of_ble_eq_true rfl) ?_
  show Wp g _ mX10_goesText 0 [some (.ref 65), some (.int (nI f)), none] [] _ _ _ _
  have loop : ∀ j i Lp C q M1, i + j = 9 → Lp.length = i → CS M1 (100 * f) q C → GL M1 f Lp C → q ≤ n → only (pG f) M M1 → pR (chT n t) 9 0 = ((pR (chT n t) j q).1.map (Lp ++ ·), (pR (chT n t) j q).2) → Wp g (d + 6) mX10_goesText 15 [some (.ref 65), some (.int (nI f)), some (.int (nI i))] [] xSF (0, 0) M1 K := by
    intro j
    induction j with
    | zero =>
      intro i Lp C q M1 hij hLp hC hG hq ho hrel
      rcases hpc : pC (chT n t) q with ⟨_ | x, r⟩
      · rw [pR_n hpc] at hrel
        rw [hrel] at hK
        refine x_aload_n (pc := 15) dX10_goesText_15 rfl ?_
        refine x_bipushN (pc := 16) 10 dX10_goesText_16 bp_10 ?_
        refine x_iload_n (pc := 18) dX10_goesText_18 rfl ?_
        first | (guard_target =~ Wp _ _ _ _ _ (Value.int (nI _) :: Value.int (nI _) :: _) _ _ _ _; with_reducible refine x_imulN (pc := 19) dX10_goesText_19 ?_) | refine x_imul (pc := 19) dX10_goesText_19 ?_
        refine x_iload_n (pc := 20) dX10_goesText_20 rfl ?_
        first | (guard_target =~ Wp _ _ _ _ _ (Value.int (nI _) :: Value.int (nI _) :: _) _ _ _ _; with_reducible refine x_iaddN (pc := 21) dX10_goesText_21 ?_) | refine x_iadd (pc := 21) dX10_goesText_21 ?_
        refine x_invV1 (pc := 22) dX10_goesText_22 mlX10_311 imX10_takesClause seX10_takesClause kX10_takesClause (by first | assumption | rfl) rfl (Nat.le_of_ble_eq_true rfl) (by decide) ?_
        refine sm_takesClause (kT M1 ho) (by omega) (by omega) hC hq (fun M2 h2 => ?_)
        refine x_cv rfl rfl ?_
        rw [hpc] at h2 ⊢
        first | (guard_target =~ Wp _ _ _ _ _ (Value.int (nI _) :: _) _ _ _ _; with_reducible refine x_if_neN (pc := 25) (tgt := 30) ?_ dX10_goesText_25 ?_ (fun h25 => ?_) (fun h25 => ?_); (first | omega | exact b2n_32 _ | exact b2n_31 _); decide) | refine x_if_ne (pc := 25) (tgt := 30) dX10_goesText_25 (by decide) (fun h25 => ?_) (fun h25 => ?_)
        · skip
          exact absurd rfl h25
        · skip
          refine x_iconstN (pc := 28) 0 dX10_goesText_28 ic_0 ?_
          refine x_ret (pc := 29) (v := some _) rfl (by first | rfl | decide | exact xrt_b) dX10_goesText_29 (by decide) ?_
          exact hK M2 ⟨ho.tr (h2.1.wide (pG_C (by omega))), h2.2⟩
      · obtain ⟨k1, k2, k3⟩ := pC_ok hTX hq hpc
        rw [pR_s hpc, rst] at hrel
        by_cases c0 : chT n t r = 0
        · have hr : r = n := by have := (hTX.2 r).1.mp c0; omega
          simp only [c0, if_true, Option.map] at hrel
          rw [hrel] at hK
          refine x_aload_n (pc := 15) dX10_goesText_15 rfl ?_
          refine x_bipushN (pc := 16) 10 dX10_goesText_16 bp_10 ?_
          refine x_iload_n (pc := 18) dX10_goesText_18 rfl ?_
          first | (guard_target =~ Wp _ _ _ _ _ (Value.int (nI _) :: Value.int (nI _) :: _) _ _ _ _; with_reducible refine x_imulN (pc := 19) dX10_goesText_19 ?_) | refine x_imul (pc := 19) dX10_goesText_19 ?_
          refine x_iload_n (pc := 20) dX10_goesText_20 rfl ?_
          first | (guard_target =~ Wp _ _ _ _ _ (Value.int (nI _) :: Value.int (nI _) :: _) _ _ _ _; with_reducible refine x_iaddN (pc := 21) dX10_goesText_21 ?_) | refine x_iadd (pc := 21) dX10_goesText_21 ?_
          refine x_invV1 (pc := 22) dX10_goesText_22 mlX10_311 imX10_takesClause seX10_takesClause kX10_takesClause (by first | assumption | rfl) rfl (Nat.le_of_ble_eq_true rfl) (by decide) ?_
          refine sm_takesClause (kT M1 ho) (by omega) (by omega) hC hq (fun M2 h2 => ?_)
          refine x_cv rfl rfl ?_
          rw [hpc] at h2 ⊢
          first | (guard_target =~ Wp _ _ _ _ _ (Value.int (nI _) :: _) _ _ _ _; with_reducible refine x_if_neN (pc := 25) (tgt := 30) ?_ dX10_goesText_25 ?_ (fun h25 => ?_) (fun h25 => ?_); (first | omega | exact b2n_32 _ | exact b2n_31 _); decide) | refine x_if_ne (pc := 25) (tgt := 30) dX10_goesText_25 (by decide) (fun h25 => ?_) (fun h25 => ?_)
          · skip
            first | (guard_target =~ Wp _ _ _ _ (_ :: _ :: some (Value.int (nI _)) :: _) _ _ _ _ _; with_reducible refine x_iincN (pc := 30) 1 ic_1 dX10_goesText_30 ?_ xg_2 xs_2 ?_ ?_; decide; exact (x_hp rfl)) | refine x_iincC (pc := 30) ic_1 dX10_goesText_30 (by decide) rfl xs_2 (x_hp rfl) ?_
            refine x_aload_n (pc := 33) dX10_goesText_33 rfl ?_
            refine x_getR (pc := 34) dX10_goesText_34 flX10_59 (by first | assumption | rfl) rfl ?_
            refine x_iload_n (pc := 37) dX10_goesText_37 rfl ?_
            refine x_iload_n (pc := 38) dX10_goesText_38 rfl ?_
            refine x_iastN (pc := 39) dX10_goesText_39 (by first | assumption | rfl) (by first | with_reducible rfl | (simp only [xlit, nI_add, pk_mul]; with_reducible rfl)) (by omega) (by decide) ?_
            refine x_aload_n (pc := 40) dX10_goesText_40 rfl ?_
            refine x_getI (pc := 41) dX10_goesText_41 flX10_50 (by first | assumption | rfl) rfl ?_
            rw [show (xput M2 73 f (nI (i + 1))).1 65 13 = nI r from h2.2.1.1]
            refine x_aload_n (pc := 44) dX10_goesText_44 rfl ?_
            refine x_getI (pc := 45) dX10_goesText_45 flX10_47 (by first | assumption | rfl) rfl ?_
            rw [show (xput M2 73 f (nI (i + 1))).1 65 12 = nI n from (kT M2 (ho.tr (h2.1.wide (pG_C (by omega))))).1]
            first | (guard_target =~ Wp _ _ _ _ _ (Value.int (nI _) :: Value.int (nI _) :: _) _ _ _ _; with_reducible refine x_icmp_neN (pc := 48) (tgt := 53) ?_ ?_ dX10_goesText_48 ?_ (fun h48 => ?_) (fun h48 => ?_); (first | omega | exact b2n_31 _); (first | omega | exact b2n_31 _); decide) | refine x_icmp_ne (pc := 48) (tgt := 53) dX10_goesText_48 (by decide) (fun h48 => ?_) (fun h48 => ?_)
            · skip
              exact absurd hr h48
            · skip
              refine x_iconstN (pc := 51) 1 dX10_goesText_51 ic_1 ?_
              refine x_ret (pc := 52) (v := some _) rfl (by first | rfl | decide | exact xrt_b) dX10_goesText_52 (by decide) ?_
              obtain ⟨y1, y2, y3, y4⟩ := h2.2.1
              refine hK _ ⟨(ho.tr (h2.1.wide (pG_C (by omega)))).tr (only.put (by simp [pG])), (if_pos ⟨rfl, rfl⟩).trans (congrArg nI (by simp [hLp])), C ++ x.2.2.1, ?_, y3, by omega⟩
              subst hLp
              exact fun k y hy => GL.app (q := q) (r := r) hG (by omega) h2 k y hy
          · skip
            cases h25
        · simp only [c0, if_false, Option.map] at hrel
          rw [hrel] at hK
          have hr : r ≠ n := fun z => c0 ((hTX.2 r).1.mpr (by omega))
          refine x_aload_n (pc := 15) dX10_goesText_15 rfl ?_
          refine x_bipushN (pc := 16) 10 dX10_goesText_16 bp_10 ?_
          refine x_iload_n (pc := 18) dX10_goesText_18 rfl ?_
          first | (guard_target =~ Wp _ _ _ _ _ (Value.int (nI _) :: Value.int (nI _) :: _) _ _ _ _; with_reducible refine x_imulN (pc := 19) dX10_goesText_19 ?_) | refine x_imul (pc := 19) dX10_goesText_19 ?_
          refine x_iload_n (pc := 20) dX10_goesText_20 rfl ?_
          first | (guard_target =~ Wp _ _ _ _ _ (Value.int (nI _) :: Value.int (nI _) :: _) _ _ _ _; with_reducible refine x_iaddN (pc := 21) dX10_goesText_21 ?_) | refine x_iadd (pc := 21) dX10_goesText_21 ?_
          refine x_invV1 (pc := 22) dX10_goesText_22 mlX10_311 imX10_takesClause seX10_takesClause kX10_takesClause (by first | assumption | rfl) rfl (Nat.le_of_ble_eq_true rfl) (by decide) ?_
          refine sm_takesClause (kT M1 ho) (by omega) (by omega) hC hq (fun M2 h2 => ?_)
          refine x_cv rfl rfl ?_
          rw [hpc] at h2 ⊢
          first | (guard_target =~ Wp _ _ _ _ _ (Value.int (nI _) :: _) _ _ _ _; with_reducible refine x_if_neN (pc := 25) (tgt := 30) ?_ dX10_goesText_25 ?_ (fun h25 => ?_) (fun h25 => ?_); (first | omega | exact b2n_32 _ | exact b2n_31 _); decide) | refine x_if_ne (pc := 25) (tgt := 30) dX10_goesText_25 (by decide) (fun h25 => ?_) (fun h25 => ?_)
          · skip
            first | (guard_target =~ Wp _ _ _ _ (_ :: _ :: some (Value.int (nI _)) :: _) _ _ _ _ _; with_reducible refine x_iincN (pc := 30) 1 ic_1 dX10_goesText_30 ?_ xg_2 xs_2 ?_ ?_; decide; exact (x_hp rfl)) | refine x_iincC (pc := 30) ic_1 dX10_goesText_30 (by decide) rfl xs_2 (x_hp rfl) ?_
            refine x_aload_n (pc := 33) dX10_goesText_33 rfl ?_
            refine x_getR (pc := 34) dX10_goesText_34 flX10_59 (by first | assumption | rfl) rfl ?_
            refine x_iload_n (pc := 37) dX10_goesText_37 rfl ?_
            refine x_iload_n (pc := 38) dX10_goesText_38 rfl ?_
            refine x_iastN (pc := 39) dX10_goesText_39 (by first | assumption | rfl) (by first | with_reducible rfl | (simp only [xlit, nI_add, pk_mul]; with_reducible rfl)) (by omega) (by decide) ?_
            refine x_aload_n (pc := 40) dX10_goesText_40 rfl ?_
            refine x_getI (pc := 41) dX10_goesText_41 flX10_50 (by first | assumption | rfl) rfl ?_
            rw [show (xput M2 73 f (nI (i + 1))).1 65 13 = nI r from h2.2.1.1]
            refine x_aload_n (pc := 44) dX10_goesText_44 rfl ?_
            refine x_getI (pc := 45) dX10_goesText_45 flX10_47 (by first | assumption | rfl) rfl ?_
            rw [show (xput M2 73 f (nI (i + 1))).1 65 12 = nI n from (kT M2 (ho.tr (h2.1.wide (pG_C (by omega))))).1]
            first | (guard_target =~ Wp _ _ _ _ _ (Value.int (nI _) :: Value.int (nI _) :: _) _ _ _ _; with_reducible refine x_icmp_neN (pc := 48) (tgt := 53) ?_ ?_ dX10_goesText_48 ?_ (fun h48 => ?_) (fun h48 => ?_); (first | omega | exact b2n_31 _); (first | omega | exact b2n_31 _); decide) | refine x_icmp_ne (pc := 48) (tgt := 53) dX10_goesText_48 (by decide) (fun h48 => ?_) (fun h48 => ?_)
            · skip
              refine x_iload_n (pc := 53) dX10_goesText_53 rfl ?_
              refine x_bipushN (pc := 54) 10 dX10_goesText_54 bp_10 ?_
              first | (guard_target =~ Wp _ _ _ _ _ (Value.int (nI _) :: Value.int (nI _) :: _) _ _ _ _; with_reducible refine x_icmp_eqN (pc := 56) (tgt := 68) ?_ ?_ dX10_goesText_56 ?_ (fun h56 => ?_) (fun h56 => ?_); (first | omega | exact b2n_31 _); (first | omega | exact b2n_31 _); decide) | refine x_icmp_eq (pc := 56) (tgt := 68) dX10_goesText_56 (by decide) (fun h56 => ?_) (fun h56 => ?_)
              · skip
                refine x_iconstN (pc := 68) 0 dX10_goesText_68 ic_0 ?_
                refine x_ret (pc := 69) (v := some _) rfl (by first | rfl | decide | exact xrt_b) dX10_goesText_69 (by decide) ?_
                exact hK _ ⟨(ho.tr (h2.1.wide (pG_C (by omega)))).tr (only.put (by simp [pG])), h2.2.1.1⟩
              · skip
                omega
            · skip
              exact absurd h48 hr
          · skip
            cases h25
    | succ j ih =>
      intro i Lp C q M1 hij hLp hC hG hq ho hrel
      rcases hpc : pC (chT n t) q with ⟨_ | x, r⟩
      · rw [pR_n hpc] at hrel
        rw [hrel] at hK
        refine x_aload_n (pc := 15) dX10_goesText_15 rfl ?_
        refine x_bipushN (pc := 16) 10 dX10_goesText_16 bp_10 ?_
        refine x_iload_n (pc := 18) dX10_goesText_18 rfl ?_
        first | (guard_target =~ Wp _ _ _ _ _ (Value.int (nI _) :: Value.int (nI _) :: _) _ _ _ _; with_reducible refine x_imulN (pc := 19) dX10_goesText_19 ?_) | refine x_imul (pc := 19) dX10_goesText_19 ?_
        refine x_iload_n (pc := 20) dX10_goesText_20 rfl ?_
        first | (guard_target =~ Wp _ _ _ _ _ (Value.int (nI _) :: Value.int (nI _) :: _) _ _ _ _; with_reducible refine x_iaddN (pc := 21) dX10_goesText_21 ?_) | refine x_iadd (pc := 21) dX10_goesText_21 ?_
        refine x_invV1 (pc := 22) dX10_goesText_22 mlX10_311 imX10_takesClause seX10_takesClause kX10_takesClause (by first | assumption | rfl) rfl (Nat.le_of_ble_eq_true rfl) (by decide) ?_
        refine sm_takesClause (kT M1 ho) (by omega) (by omega) hC hq (fun M2 h2 => ?_)
        refine x_cv rfl rfl ?_
        rw [hpc] at h2 ⊢
        first | (guard_target =~ Wp _ _ _ _ _ (Value.int (nI _) :: _) _ _ _ _; with_reducible refine x_if_neN (pc := 25) (tgt := 30) ?_ dX10_goesText_25 ?_ (fun h25 => ?_) (fun h25 => ?_); (first | omega | exact b2n_32 _ | exact b2n_31 _); decide) | refine x_if_ne (pc := 25) (tgt := 30) dX10_goesText_25 (by decide) (fun h25 => ?_) (fun h25 => ?_)
        · skip
          exact absurd rfl h25
        · skip
          refine x_iconstN (pc := 28) 0 dX10_goesText_28 ic_0 ?_
          refine x_ret (pc := 29) (v := some _) rfl (by first | rfl | decide | exact xrt_b) dX10_goesText_29 (by decide) ?_
          exact hK M2 ⟨ho.tr (h2.1.wide (pG_C (by omega))), h2.2⟩
      · obtain ⟨k1, k2, k3⟩ := pC_ok hTX hq hpc
        rw [pR_s hpc, rst] at hrel
        by_cases c0 : chT n t r = 0
        · have hr : r = n := by have := (hTX.2 r).1.mp c0; omega
          have c60 : ¬ chT n t r = 60 := by omega
          simp only [c0, show ¬ (0 : Nat) = 60 by decide, if_false, if_true, Option.map] at hrel
          rw [hrel] at hK
          refine x_aload_n (pc := 15) dX10_goesText_15 rfl ?_
          refine x_bipushN (pc := 16) 10 dX10_goesText_16 bp_10 ?_
          refine x_iload_n (pc := 18) dX10_goesText_18 rfl ?_
          first | (guard_target =~ Wp _ _ _ _ _ (Value.int (nI _) :: Value.int (nI _) :: _) _ _ _ _; with_reducible refine x_imulN (pc := 19) dX10_goesText_19 ?_) | refine x_imul (pc := 19) dX10_goesText_19 ?_
          refine x_iload_n (pc := 20) dX10_goesText_20 rfl ?_
          first | (guard_target =~ Wp _ _ _ _ _ (Value.int (nI _) :: Value.int (nI _) :: _) _ _ _ _; with_reducible refine x_iaddN (pc := 21) dX10_goesText_21 ?_) | refine x_iadd (pc := 21) dX10_goesText_21 ?_
          refine x_invV1 (pc := 22) dX10_goesText_22 mlX10_311 imX10_takesClause seX10_takesClause kX10_takesClause (by first | assumption | rfl) rfl (Nat.le_of_ble_eq_true rfl) (by decide) ?_
          refine sm_takesClause (kT M1 ho) (by omega) (by omega) hC hq (fun M2 h2 => ?_)
          refine x_cv rfl rfl ?_
          rw [hpc] at h2 ⊢
          first | (guard_target =~ Wp _ _ _ _ _ (Value.int (nI _) :: _) _ _ _ _; with_reducible refine x_if_neN (pc := 25) (tgt := 30) ?_ dX10_goesText_25 ?_ (fun h25 => ?_) (fun h25 => ?_); (first | omega | exact b2n_32 _ | exact b2n_31 _); decide) | refine x_if_ne (pc := 25) (tgt := 30) dX10_goesText_25 (by decide) (fun h25 => ?_) (fun h25 => ?_)
          · skip
            first | (guard_target =~ Wp _ _ _ _ (_ :: _ :: some (Value.int (nI _)) :: _) _ _ _ _ _; with_reducible refine x_iincN (pc := 30) 1 ic_1 dX10_goesText_30 ?_ xg_2 xs_2 ?_ ?_; decide; exact (x_hp rfl)) | refine x_iincC (pc := 30) ic_1 dX10_goesText_30 (by decide) rfl xs_2 (x_hp rfl) ?_
            refine x_aload_n (pc := 33) dX10_goesText_33 rfl ?_
            refine x_getR (pc := 34) dX10_goesText_34 flX10_59 (by first | assumption | rfl) rfl ?_
            refine x_iload_n (pc := 37) dX10_goesText_37 rfl ?_
            refine x_iload_n (pc := 38) dX10_goesText_38 rfl ?_
            refine x_iastN (pc := 39) dX10_goesText_39 (by first | assumption | rfl) (by first | with_reducible rfl | (simp only [xlit, nI_add, pk_mul]; with_reducible rfl)) (by omega) (by decide) ?_
            refine x_aload_n (pc := 40) dX10_goesText_40 rfl ?_
            refine x_getI (pc := 41) dX10_goesText_41 flX10_50 (by first | assumption | rfl) rfl ?_
            rw [show (xput M2 73 f (nI (i + 1))).1 65 13 = nI r from h2.2.1.1]
            refine x_aload_n (pc := 44) dX10_goesText_44 rfl ?_
            refine x_getI (pc := 45) dX10_goesText_45 flX10_47 (by first | assumption | rfl) rfl ?_
            rw [show (xput M2 73 f (nI (i + 1))).1 65 12 = nI n from (kT M2 (ho.tr (h2.1.wide (pG_C (by omega))))).1]
            first | (guard_target =~ Wp _ _ _ _ _ (Value.int (nI _) :: Value.int (nI _) :: _) _ _ _ _; with_reducible refine x_icmp_neN (pc := 48) (tgt := 53) ?_ ?_ dX10_goesText_48 ?_ (fun h48 => ?_) (fun h48 => ?_); (first | omega | exact b2n_31 _); (first | omega | exact b2n_31 _); decide) | refine x_icmp_ne (pc := 48) (tgt := 53) dX10_goesText_48 (by decide) (fun h48 => ?_) (fun h48 => ?_)
            · skip
              exact absurd hr h48
            · skip
              refine x_iconstN (pc := 51) 1 dX10_goesText_51 ic_1 ?_
              refine x_ret (pc := 52) (v := some _) rfl (by first | rfl | decide | exact xrt_b) dX10_goesText_52 (by decide) ?_
              obtain ⟨y1, y2, y3, y4⟩ := h2.2.1
              refine hK _ ⟨(ho.tr (h2.1.wide (pG_C (by omega)))).tr (only.put (by simp [pG])), (if_pos ⟨rfl, rfl⟩).trans (congrArg nI (by simp [hLp])), C ++ x.2.2.1, ?_, y3, by omega⟩
              subst hLp
              exact fun k y hy => GL.app (q := q) (r := r) hG (by omega) h2 k y hy
          · skip
            cases h25
        have hr : r ≠ n := fun z => c0 ((hTX.2 r).1.mpr (by omega))
        have cs : ∀ M2 M3, cR M1 M2 (100 * f) (10 * f + i) C (some x, r) → M3 = xput M2 73 f (nI (i + 1)) → only (pG f) M M3 ∧ M3.1 65 13 = nI r := fun M2 M3 h2 h3 => by
          subst h3
          exact ⟨(ho.tr (h2.1.wide (pG_C (by omega)))).tr (only.put (by simp [pG])), h2.2.1.1⟩
        by_cases c60 : chT n t r = 60
        · have hrn : r < n := hTX.lt c60 (by decide)
          simp only [c60, if_true] at hrel
          have hrel2 : pR (chT n t) 9 0 = ((pR (chT n t) j (r + 1)).1.map ((Lp ++ [x]) ++ ·), (pR (chT n t) j (r + 1)).2) := by
            rw [hrel]
            rcases pR (chT n t) j (r + 1) with ⟨_ | l, z⟩
            · rfl
            · simp
          refine x_aload_n (pc := 15) dX10_goesText_15 rfl ?_
          refine x_bipushN (pc := 16) 10 dX10_goesText_16 bp_10 ?_
          refine x_iload_n (pc := 18) dX10_goesText_18 rfl ?_
          first | (guard_target =~ Wp _ _ _ _ _ (Value.int (nI _) :: Value.int (nI _) :: _) _ _ _ _; with_reducible refine x_imulN (pc := 19) dX10_goesText_19 ?_) | refine x_imul (pc := 19) dX10_goesText_19 ?_
          refine x_iload_n (pc := 20) dX10_goesText_20 rfl ?_
          first | (guard_target =~ Wp _ _ _ _ _ (Value.int (nI _) :: Value.int (nI _) :: _) _ _ _ _; with_reducible refine x_iaddN (pc := 21) dX10_goesText_21 ?_) | refine x_iadd (pc := 21) dX10_goesText_21 ?_
          refine x_invV1 (pc := 22) dX10_goesText_22 mlX10_311 imX10_takesClause seX10_takesClause kX10_takesClause (by first | assumption | rfl) rfl (Nat.le_of_ble_eq_true rfl) (by decide) ?_
          refine sm_takesClause (kT M1 ho) (by omega) (by omega) hC hq (fun M2 h2 => ?_)
          refine x_cv rfl rfl ?_
          rw [hpc] at h2 ⊢
          first | (guard_target =~ Wp _ _ _ _ _ (Value.int (nI _) :: _) _ _ _ _; with_reducible refine x_if_neN (pc := 25) (tgt := 30) ?_ dX10_goesText_25 ?_ (fun h25 => ?_) (fun h25 => ?_); (first | omega | exact b2n_32 _ | exact b2n_31 _); decide) | refine x_if_ne (pc := 25) (tgt := 30) dX10_goesText_25 (by decide) (fun h25 => ?_) (fun h25 => ?_)
          · skip
            first | (guard_target =~ Wp _ _ _ _ (_ :: _ :: some (Value.int (nI _)) :: _) _ _ _ _ _; with_reducible refine x_iincN (pc := 30) 1 ic_1 dX10_goesText_30 ?_ xg_2 xs_2 ?_ ?_; decide; exact (x_hp rfl)) | refine x_iincC (pc := 30) ic_1 dX10_goesText_30 (by decide) rfl xs_2 (x_hp rfl) ?_
            refine x_aload_n (pc := 33) dX10_goesText_33 rfl ?_
            refine x_getR (pc := 34) dX10_goesText_34 flX10_59 (by first | assumption | rfl) rfl ?_
            refine x_iload_n (pc := 37) dX10_goesText_37 rfl ?_
            refine x_iload_n (pc := 38) dX10_goesText_38 rfl ?_
            refine x_iastN (pc := 39) dX10_goesText_39 (by first | assumption | rfl) (by first | with_reducible rfl | (simp only [xlit, nI_add, pk_mul]; with_reducible rfl)) (by omega) (by decide) ?_
            refine x_aload_n (pc := 40) dX10_goesText_40 rfl ?_
            refine x_getI (pc := 41) dX10_goesText_41 flX10_50 (by first | assumption | rfl) rfl ?_
            rw [show (xput M2 73 f (nI (i + 1))).1 65 13 = nI r from h2.2.1.1]
            refine x_aload_n (pc := 44) dX10_goesText_44 rfl ?_
            refine x_getI (pc := 45) dX10_goesText_45 flX10_47 (by first | assumption | rfl) rfl ?_
            rw [show (xput M2 73 f (nI (i + 1))).1 65 12 = nI n from (kT M2 (ho.tr (h2.1.wide (pG_C (by omega))))).1]
            first | (guard_target =~ Wp _ _ _ _ _ (Value.int (nI _) :: Value.int (nI _) :: _) _ _ _ _; with_reducible refine x_icmp_neN (pc := 48) (tgt := 53) ?_ ?_ dX10_goesText_48 ?_ (fun h48 => ?_) (fun h48 => ?_); (first | omega | exact b2n_31 _); (first | omega | exact b2n_31 _); decide) | refine x_icmp_ne (pc := 48) (tgt := 53) dX10_goesText_48 (by decide) (fun h48 => ?_) (fun h48 => ?_)
            · skip
              refine x_iload_n (pc := 53) dX10_goesText_53 rfl ?_
              refine x_bipushN (pc := 54) 10 dX10_goesText_54 bp_10 ?_
              first | (guard_target =~ Wp _ _ _ _ _ (Value.int (nI _) :: Value.int (nI _) :: _) _ _ _ _; with_reducible refine x_icmp_eqN (pc := 56) (tgt := 68) ?_ ?_ dX10_goesText_56 ?_ (fun h56 => ?_) (fun h56 => ?_); (first | omega | exact b2n_31 _); (first | omega | exact b2n_31 _); decide) | refine x_icmp_eq (pc := 56) (tgt := 68) dX10_goesText_56 (by decide) (fun h56 => ?_) (fun h56 => ?_)
              · skip
                omega
              · skip
                refine x_aload_n (pc := 59) dX10_goesText_59 rfl ?_
                refine x_bipushN (pc := 60) 59 dX10_goesText_60 bp_59 ?_
                refine x_invV1 (pc := 62) dX10_goesText_62 mlX10_275 imX10_takes seX10_takes kX10_takes (by first | assumption | rfl) rfl (Nat.le_of_ble_eq_true rfl) (by decide) ?_
                refine sm_takes (M0 := xput M2 73 f (nI (i + 1))) (sg := 0) (ci := 0) (kT _ (cs M2 _ h2 rfl).1) ⟨only.rf, (cs M2 _ h2 rfl).2⟩ (by omega) (by decide) (fun M4 ho4 h134 => ?_)
                refine x_cv rfl rfl ?_
                rw [if_pos (show chT n t r = 59 + 1 from c60)] at h134
                rw [decide_eq_true (show chT n t r = 59 + 1 from c60)]
                first | (guard_target =~ Wp _ _ _ _ _ (Value.int (nI _) :: _) _ _ _ _; with_reducible refine x_if_neN (pc := 65) (tgt := 15) ?_ dX10_goesText_65 ?_ (fun h65 => ?_) (fun h65 => ?_); (first | omega | exact b2n_32 _ | exact b2n_31 _); decide) | refine x_if_ne (pc := 65) (tgt := 15) dX10_goesText_65 (by decide) (fun h65 => ?_) (fun h65 => ?_)
                · skip
                  obtain ⟨y1, y2, y3, y4⟩ := h2.2.1
                  refine ih (i + 1) (Lp ++ [x]) (C ++ x.2.2.1) (r + 1) M4 (by omega) (by simp [hLp]) ⟨h134, (ho4.1 65 23 rfl).trans y2, fun k hk => (ho4.1 78 _ rfl).trans (y3 k hk), by omega⟩ ?_ (by omega) ((cs M2 _ h2 rfl).1.tr (ho4.wide (by intro a k z; simp at z; simp [pG]; omega))) hrel2
                  subst hLp
                  have hg2 := GL.app (q := q) (r := r) hG (by omega) h2
                  intro k y hy
                  have e : ∀ a, 74 ≤ a → a ≤ 77 → M4.1 a (10 * f + k) = M2.1 a (10 * f + k) := fun a z1 z2 => (ho4.1 a _ (by simp; omega)).trans (if_neg (by omega))
                  obtain ⟨a1, a2, a3⟩ := hg2 k y hy
                  refine ⟨(e 74 (by decide) (by decide)).trans a1, (e 75 (by decide) (by decide)).trans a2, fun h3 => ?_⟩
                  obtain ⟨off, b1, b2, b3, b4⟩ := a3 h3
                  exact ⟨off, b1, (e 76 (by decide) (by decide)).trans b2, (e 77 (by decide) (by decide)).trans b3, b4⟩
                · skip
                  cases h65
            · skip
              exact absurd h48 hr
          · skip
            cases h25
        · simp only [c60, c0, if_false, Option.map] at hrel
          rw [hrel] at hK
          refine x_aload_n (pc := 15) dX10_goesText_15 rfl ?_
          refine x_bipushN (pc := 16) 10 dX10_goesText_16 bp_10 ?_
          refine x_iload_n (pc := 18) dX10_goesText_18 rfl ?_
          first | (guard_target =~ Wp _ _ _ _ _ (Value.int (nI _) :: Value.int (nI _) :: _) _ _ _ _; with_reducible refine x_imulN (pc := 19) dX10_goesText_19 ?_) | refine x_imul (pc := 19) dX10_goesText_19 ?_
          refine x_iload_n (pc := 20) dX10_goesText_20 rfl ?_
          first | (guard_target =~ Wp _ _ _ _ _ (Value.int (nI _) :: Value.int (nI _) :: _) _ _ _ _; with_reducible refine x_iaddN (pc := 21) dX10_goesText_21 ?_) | refine x_iadd (pc := 21) dX10_goesText_21 ?_
          refine x_invV1 (pc := 22) dX10_goesText_22 mlX10_311 imX10_takesClause seX10_takesClause kX10_takesClause (by first | assumption | rfl) rfl (Nat.le_of_ble_eq_true rfl) (by decide) ?_
          refine sm_takesClause (kT M1 ho) (by omega) (by omega) hC hq (fun M2 h2 => ?_)
          refine x_cv rfl rfl ?_
          rw [hpc] at h2 ⊢
          first | (guard_target =~ Wp _ _ _ _ _ (Value.int (nI _) :: _) _ _ _ _; with_reducible refine x_if_neN (pc := 25) (tgt := 30) ?_ dX10_goesText_25 ?_ (fun h25 => ?_) (fun h25 => ?_); (first | omega | exact b2n_32 _ | exact b2n_31 _); decide) | refine x_if_ne (pc := 25) (tgt := 30) dX10_goesText_25 (by decide) (fun h25 => ?_) (fun h25 => ?_)
          · skip
            first | (guard_target =~ Wp _ _ _ _ (_ :: _ :: some (Value.int (nI _)) :: _) _ _ _ _ _; with_reducible refine x_iincN (pc := 30) 1 ic_1 dX10_goesText_30 ?_ xg_2 xs_2 ?_ ?_; decide; exact (x_hp rfl)) | refine x_iincC (pc := 30) ic_1 dX10_goesText_30 (by decide) rfl xs_2 (x_hp rfl) ?_
            refine x_aload_n (pc := 33) dX10_goesText_33 rfl ?_
            refine x_getR (pc := 34) dX10_goesText_34 flX10_59 (by first | assumption | rfl) rfl ?_
            refine x_iload_n (pc := 37) dX10_goesText_37 rfl ?_
            refine x_iload_n (pc := 38) dX10_goesText_38 rfl ?_
            refine x_iastN (pc := 39) dX10_goesText_39 (by first | assumption | rfl) (by first | with_reducible rfl | (simp only [xlit, nI_add, pk_mul]; with_reducible rfl)) (by omega) (by decide) ?_
            refine x_aload_n (pc := 40) dX10_goesText_40 rfl ?_
            refine x_getI (pc := 41) dX10_goesText_41 flX10_50 (by first | assumption | rfl) rfl ?_
            rw [show (xput M2 73 f (nI (i + 1))).1 65 13 = nI r from h2.2.1.1]
            refine x_aload_n (pc := 44) dX10_goesText_44 rfl ?_
            refine x_getI (pc := 45) dX10_goesText_45 flX10_47 (by first | assumption | rfl) rfl ?_
            rw [show (xput M2 73 f (nI (i + 1))).1 65 12 = nI n from (kT M2 (ho.tr (h2.1.wide (pG_C (by omega))))).1]
            first | (guard_target =~ Wp _ _ _ _ _ (Value.int (nI _) :: Value.int (nI _) :: _) _ _ _ _; with_reducible refine x_icmp_neN (pc := 48) (tgt := 53) ?_ ?_ dX10_goesText_48 ?_ (fun h48 => ?_) (fun h48 => ?_); (first | omega | exact b2n_31 _); (first | omega | exact b2n_31 _); decide) | refine x_icmp_ne (pc := 48) (tgt := 53) dX10_goesText_48 (by decide) (fun h48 => ?_) (fun h48 => ?_)
            · skip
              refine x_iload_n (pc := 53) dX10_goesText_53 rfl ?_
              refine x_bipushN (pc := 54) 10 dX10_goesText_54 bp_10 ?_
              first | (guard_target =~ Wp _ _ _ _ _ (Value.int (nI _) :: Value.int (nI _) :: _) _ _ _ _; with_reducible refine x_icmp_eqN (pc := 56) (tgt := 68) ?_ ?_ dX10_goesText_56 ?_ (fun h56 => ?_) (fun h56 => ?_); (first | omega | exact b2n_31 _); (first | omega | exact b2n_31 _); decide) | refine x_icmp_eq (pc := 56) (tgt := 68) dX10_goesText_56 (by decide) (fun h56 => ?_) (fun h56 => ?_)
              · skip
                omega
              · skip
                refine x_aload_n (pc := 59) dX10_goesText_59 rfl ?_
                refine x_bipushN (pc := 60) 59 dX10_goesText_60 bp_59 ?_
                refine x_invV1 (pc := 62) dX10_goesText_62 mlX10_275 imX10_takes seX10_takes kX10_takes (by first | assumption | rfl) rfl (Nat.le_of_ble_eq_true rfl) (by decide) ?_
                refine sm_takes (M0 := xput M2 73 f (nI (i + 1))) (sg := 0) (ci := 0) (kT _ (cs M2 _ h2 rfl).1) ⟨only.rf, (cs M2 _ h2 rfl).2⟩ (by omega) (by decide) (fun M4 ho4 h134 => ?_)
                refine x_cv rfl rfl ?_
                rw [if_neg (show ¬ chT n t r = 59 + 1 from c60)] at h134
                rw [decide_eq_false (show ¬ chT n t r = 59 + 1 from c60)]
                first | (guard_target =~ Wp _ _ _ _ _ (Value.int (nI _) :: _) _ _ _ _; with_reducible refine x_if_neN (pc := 65) (tgt := 15) ?_ dX10_goesText_65 ?_ (fun h65 => ?_) (fun h65 => ?_); (first | omega | exact b2n_32 _ | exact b2n_31 _); decide) | refine x_if_ne (pc := 65) (tgt := 15) dX10_goesText_65 (by decide) (fun h65 => ?_) (fun h65 => ?_)
                · skip
                  exact absurd rfl h65
                · skip
                  refine x_iconstN (pc := 68) 0 dX10_goesText_68 ic_0 ?_
                  refine x_ret (pc := 69) (v := some _) rfl (by first | rfl | decide | exact xrt_b) dX10_goesText_69 (by decide) ?_
                  exact hK M4 ⟨(cs M2 _ h2 rfl).1.tr (ho4.wide (by intro a k z; simp at z; simp [pG]; omega)), h134⟩
            · skip
              exact absurd h48 hr
          · skip
            cases h25
  refine x_aload_n (pc := 0) dX10_goesText_0 rfl ?_
  refine x_iconstN (pc := 1) 0 dX10_goesText_1 ic_0 ?_
  refine x_putI (pc := 2) dX10_goesText_2 flX10_50 (by first | assumption | rfl) rfl rfl rfl ?_
  refine x_aload_n (pc := 5) dX10_goesText_5 rfl ?_
  refine x_bipushN (pc := 6) 100 dX10_goesText_6 bp_100 ?_
  refine x_iload_n (pc := 8) dX10_goesText_8 rfl ?_
  first | (guard_target =~ Wp _ _ _ _ _ (Value.int (nI _) :: Value.int (nI _) :: _) _ _ _ _; with_reducible refine x_imulN (pc := 9) dX10_goesText_9 ?_) | refine x_imul (pc := 9) dX10_goesText_9 ?_
  refine x_putI (pc := 10) dX10_goesText_10 flX10_80 (by first | assumption | rfl) rfl rfl rfl ?_
  refine x_iconstN (pc := 13) 0 dX10_goesText_13 ic_0 ?_
  refine x_istore_n (pc := 14) dX10_goesText_14 (by decide) xs_2 (x_hp rfl) ?_
  refine loop 9 0 [] [] 0 _ rfl rfl ⟨rfl, rfl, fun k hk => (by cases hk), Nat.le_refl _⟩ (fun k x hx => by simp at hx) (Nat.zero_le _) ((only.put (by simp [pG])).tr (only.put (by simp [pG]))) ?_
  rcases pR (chT n t) 9 0 with ⟨_ | l, z⟩
  · rfl
  · simp
theorem MRm.make {M' : XM} {tx : Nat → Nat → Nat} {ln : Nat → Nat} {made : Nat} {L : List XCl} {r : Nat} (h : MRm M tx ln made) (hm : made < 6) (hr : pR (chT (ln made) (tx made)) 9 0 = (some L, r)) (hg : gR M M0 made (some L, r)) (h10 : M'.1 65 10 = nI (made + 1)) (h12 : M'.1 65 12 = nI 0) (hl : ln (made + 1) = 0) (he : ∀ a, 73 ≤ a → a ≤ 78 → M'.1 a = M0.1 a) (hL : okL L) : MRm M' tx ln (made + 1) := by
  obtain ⟨h1, h2, h3, h4⟩ := h
  obtain ⟨g1, g2, C, g3, g4, g5⟩ := hg
  refine ⟨h10, by rw [hl]; exact h12, fun j hj => by rw [hl] at hj; omega, fun b hb L' q hp => ?_⟩
  unfold MCl
  rw [he 73 (by decide) (by decide), he 74 (by decide) (by decide), he 75 (by decide) (by decide), he 76 (by decide) (by decide), he 77 (by decide) (by decide), he 78 (by decide) (by decide)]
  by_cases hbm : b = made
  · subst hbm
    rw [hr] at hp
    cases hp
    refine ⟨g2, fun i hi x hx => ?_⟩
    obtain ⟨a1, a2, a3⟩ := g3 i x hx
    refine ⟨a1, a2, fun h5 => ?_⟩
    obtain ⟨off, b1, b2, b3, b4⟩ := a3 h5
    exact ⟨100 * b + off, by omega, by omega, b2, b3, fun k hk => by rw [← b4 k hk, Nat.add_assoc]; exact g4 (off + k) (by omega)⟩
  · have hb2 : b < made := by omega
    obtain ⟨a1, a2⟩ := h4 b hb2 L' q hp
    refine ⟨(g1.1 73 b (by simp [pG]; omega)).trans a1, fun i hi x hx => ?_⟩
    obtain ⟨c1, c2, c3⟩ := a2 i hi x hx
    have hi10 : i < 10 := by
      have := pR_len 9 0 L' q hp
      omega
    have e : ∀ a, 74 ≤ a → a ≤ 77 → M0.1 a (10 * b + i) = M.1 a (10 * b + i) := fun a z1 z2 => g1.1 a _ (by simp [pG]; omega)
    refine ⟨(e 74 (by decide) (by decide)).trans c1, (e 75 (by decide) (by decide)).trans c2, fun h5 => ?_⟩
    obtain ⟨f0, d1, d2, d3, d4, d5⟩ := c3 h5
    exact ⟨f0, d1, d2, (e 76 (by decide) (by decide)).trans d3, (e 77 (by decide) (by decide)).trans d4, fun k hk => (g1.1 78 _ (by simp [pG]; omega)).trans (d5 k hk)⟩
theorem fM_room (hC : MC9 M s) (hm : sMd s ≤ 6) (hln : sLn s (sMd s) ≤ 100) (htx : ∀ p, p < sLn s (sMd s) → sTx s (sMd s) p < 128) (hl0 : sLn s (sMd s + 1) = 0) (h : ∀ M', high M M' → MC9 M' (opRoom s).2 → K (some (.int (opRoom s).1)) xSF M') : Ex g (d + 7) yX10_room mX10_room [.ref 65] xSF M K := by
  unfold opRoom at h
  have hR : MRm M (sTx s) (sLn s) (sMd s) := hC.2.2.1
  have h10 : M.1 65 10 = nI (sMd s) := hR.1
  refine x_entry kX10_room (Nat.le_of_ble_eq_true rfl) ?_
  show Wp g _ mX10_room 0 [some (.ref 65), none] [] _ _ _ _
  by_cases hq6 : sMd s = 6
  · rw [if_pos hq6] at h
    refine x_aload_n (pc := 0) dX10_room_0 rfl ?_
    refine x_getI (pc := 1) dX10_room_1 flX10_41 (by first | assumption | rfl) rfl ?_
    rw [h10]
    refine x_bipushN (pc := 4) 6 dX10_room_4 bp_6 ?_
    first | (guard_target =~ Wp _ _ _ _ _ (Value.int (nI _) :: Value.int (nI _) :: _) _ _ _ _; with_reducible refine x_icmp_neN (pc := 6) (tgt := 12) ?_ ?_ dX10_room_6 ?_ (fun h6 => ?_) (fun h6 => ?_); (first | omega | exact b2n_31 _); (first | omega | exact b2n_31 _); decide) | refine x_icmp_ne (pc := 6) (tgt := 12) dX10_room_6 (by decide) (fun h6 => ?_) (fun h6 => ?_)
    · skip
      exact absurd hq6 h6
    · skip
      refine x_bipush (pc := 9) dX10_room_9 bp_m4 ?_
      refine x_ret (pc := 11) (v := some _) rfl trivial dX10_room_11 (by decide) ?_
      exact h M high.rf hC
  rw [if_neg hq6] at h
  have hT : CT M (sLn s (sMd s)) (sTx s (sMd s)) := ⟨hR.2.1, hln, fun j hj => ⟨hR.2.2.1 j hj, htx j hj⟩, hC.2.2.2.2.2.2⟩
  have ks : ∀ M2, only (pG (sMd s)) M M2 → ∀ w : Nat → Nat → Bool, (∀ a k, w a k = true → pG (sMd s) a k = false) → ksm w M M2 := fun M2 ho w hw a k q => ho.1 a k (hw a k q)
  have kP : ∀ a k, wP a k = true → pG (sMd s) a k = false := by intro a k q; simp [wP] at q; simp [pG]; omega
  have kI : ∀ a k, wI a k = true → pG (sMd s) a k = false := by intro a k q; simp [wI] at q; simp [pG]; omega
  have kT : ∀ a k, wT a k = true → pG (sMd s) a k = false := by intro a k q; simp [wT] at q; simp [pG]; omega
  have kA : ∀ a k, wA a k = true → pG (sMd s) a k = false := by intro a k q; simp [wA] at q; simp [pG]; omega
  have kC : ∀ a k, wC a k = true → pG (sMd s) a k = false := by intro a k q; simp [wC] at q; simp [pG]; omega
  have hh : ∀ M2, only (pG (sMd s)) M M2 → high M M2 := fun M2 ho => ⟨fun a ha => funext fun k => ho.1 a k (by simp [pG]; omega), fun a _ => by rw [ho.2]⟩
  rcases hr : rdS s with ⟨_ | l, q⟩
  · have hr' : pR (chT (sLn s (sMd s)) (sTx s (sMd s))) 9 0 = (none, q) := hr
    rw [hr] at h
    dsimp only at h
    refine x_aload_n (pc := 0) dX10_room_0 rfl ?_
    refine x_getI (pc := 1) dX10_room_1 flX10_41 (by first | assumption | rfl) rfl ?_
    rw [h10]
    refine x_bipushN (pc := 4) 6 dX10_room_4 bp_6 ?_
    first | (guard_target =~ Wp _ _ _ _ _ (Value.int (nI _) :: Value.int (nI _) :: _) _ _ _ _; with_reducible refine x_icmp_neN (pc := 6) (tgt := 12) ?_ ?_ dX10_room_6 ?_ (fun h6 => ?_) (fun h6 => ?_); (first | omega | exact b2n_31 _); (first | omega | exact b2n_31 _); decide) | refine x_icmp_ne (pc := 6) (tgt := 12) dX10_room_6 (by decide) (fun h6 => ?_) (fun h6 => ?_)
    · skip
      refine x_aload_n (pc := 12) dX10_room_12 rfl ?_
      refine x_aload_n (pc := 13) dX10_room_13 rfl ?_
      refine x_getI (pc := 14) dX10_room_14 flX10_41 (by first | assumption | rfl) rfl ?_
      rw [h10]
      refine x_invV1 (pc := 17) dX10_room_17 mlX10_314 imX10_goesText seX10_goesText kX10_goesText (by first | assumption | rfl) rfl (Nat.le_of_ble_eq_true rfl) (by decide) ?_
      refine sm_goesText hT (by omega) (fun M2 h2 => ?_)
      refine x_cv rfl rfl ?_
      rw [hr'] at h2 ⊢
      refine x_istore_n (pc := 20) dX10_room_20 (by decide) xs_1 (x_hp rfl) ?_
      refine x_aload_n (pc := 21) dX10_room_21 rfl ?_
      refine x_iconstN (pc := 22) 0 dX10_room_22 ic_0 ?_
      refine x_putI (pc := 23) dX10_room_23 flX10_47 (by first | assumption | rfl) rfl rfl rfl ?_
      refine x_iload_n (pc := 26) dX10_room_26 rfl ?_
      first | (guard_target =~ Wp _ _ _ _ _ (Value.int (nI _) :: _) _ _ _ _; with_reducible refine x_if_neN (pc := 27) (tgt := 38) ?_ dX10_room_27 ?_ (fun h27 => ?_) (fun h27 => ?_); (first | omega | exact b2n_32 _ | exact b2n_31 _); decide) | refine x_if_ne (pc := 27) (tgt := 38) dX10_room_27 (by decide) (fun h27 => ?_) (fun h27 => ?_)
      · skip
        exact absurd rfl h27
      · skip
        refine x_bipush (pc := 30) dX10_room_30 bp_m10 ?_
        refine x_aload_n (pc := 32) dX10_room_32 rfl ?_
        refine x_getI (pc := 33) dX10_room_33 flX10_50 (by first | assumption | rfl) rfl ?_
        rw [show (xput M2 65 12 (nI 0)).1 65 13 = nI q from h2.2]
        refine x_isub (pc := 36) dX10_room_36 ?_
        refine x_ret (pc := 37) (v := some _) rfl trivial dX10_room_37 (by decide) ?_
        obtain ⟨ho, hq⟩ := h2
        have hb : ∀ b, b < sMd s → up1 (sLn s) (sMd s) 0 b = sLn s b := fun b hb => if_neg (by omega)
        refine h _ ((hh M2 ho).tr (high.put (by decide))) (hC.upR ((ks M2 ho _ kP).tr (.put rfl)) ((ks M2 ho _ kI).tr (.put rfl)) ((ks M2 ho _ kT).tr (.put rfl)) ((ks M2 ho _ kA).tr (.put rfl)) ((ks M2 ho _ kC).tr (.put rfl)) ho.2 ⟨(ho.1 65 10 rfl).trans h10, (show nI 0 = nI (up1 (sLn s) (sMd s) 0 (sMd s)) by simp [up1]), fun j hj => ?_, fun b hb1 L q' hp => ?_⟩)
        · have hz : up1 (sLn s) (sMd s) 0 (sMd s) = 0 := by simp [up1]
          exact absurd (show j < up1 (sLn s) (sMd s) 0 (sMd s) from hj) (by rw [hz]; omega)
        · have hb2 : b < sMd s := hb1
          rw [hb b hb2] at hp
          obtain ⟨a1, a2⟩ := hR.2.2.2 b hb2 L q' hp
          refine ⟨(ho.1 73 b (by simp [pG]; omega)).trans a1, fun i hi x hx => ?_⟩
          have hi10 := pR_len 9 0 L q' hp
          obtain ⟨c1, c2, c3⟩ := a2 i hi x hx
          have e : ∀ a, 74 ≤ a → a ≤ 77 → (xput M2 65 12 (nI 0)).1 a (10 * b + i) = M.1 a (10 * b + i) := fun a z1 z2 => (if_neg (by omega)).trans (ho.1 a _ (by simp [pG]; omega))
          refine ⟨(e 74 (by decide) (by decide)).trans c1, (e 75 (by decide) (by decide)).trans c2, fun h5 => ?_⟩
          obtain ⟨f0, d1, d2, d3, d4, d5⟩ := c3 h5
          exact ⟨f0, d1, d2, (e 76 (by decide) (by decide)).trans d3, (e 77 (by decide) (by decide)).trans d4, fun k hk => (ho.1 78 _ (by simp [pG]; omega)).trans (d5 k hk)⟩
    · skip
      exact absurd h6 hq6
  · have hr' : pR (chT (sLn s (sMd s)) (sTx s (sMd s))) 9 0 = (some l, q) := hr
    have hTX := hT.tx
    have hok := pR_ok hTX 9 0 l q (Nat.zero_le _) hr'
    rw [hr] at h
    dsimp only at h
    refine x_aload_n (pc := 0) dX10_room_0 rfl ?_
    refine x_getI (pc := 1) dX10_room_1 flX10_41 (by first | assumption | rfl) rfl ?_
    rw [h10]
    refine x_bipushN (pc := 4) 6 dX10_room_4 bp_6 ?_
    first | (guard_target =~ Wp _ _ _ _ _ (Value.int (nI _) :: Value.int (nI _) :: _) _ _ _ _; with_reducible refine x_icmp_neN (pc := 6) (tgt := 12) ?_ ?_ dX10_room_6 ?_ (fun h6 => ?_) (fun h6 => ?_); (first | omega | exact b2n_31 _); (first | omega | exact b2n_31 _); decide) | refine x_icmp_ne (pc := 6) (tgt := 12) dX10_room_6 (by decide) (fun h6 => ?_) (fun h6 => ?_)
    · skip
      refine x_aload_n (pc := 12) dX10_room_12 rfl ?_
      refine x_aload_n (pc := 13) dX10_room_13 rfl ?_
      refine x_getI (pc := 14) dX10_room_14 flX10_41 (by first | assumption | rfl) rfl ?_
      rw [h10]
      refine x_invV1 (pc := 17) dX10_room_17 mlX10_314 imX10_goesText seX10_goesText kX10_goesText (by first | assumption | rfl) rfl (Nat.le_of_ble_eq_true rfl) (by decide) ?_
      refine sm_goesText hT (by omega) (fun M2 h2 => ?_)
      refine x_cv rfl rfl ?_
      rw [hr'] at h2 ⊢
      have ho : only (pG (sMd s)) M M2 := h2.1
      have h102 : M2.1 65 10 = nI (sMd s) := (ho.1 65 10 rfl).trans h10
      refine x_istore_n (pc := 20) dX10_room_20 (by decide) xs_1 (x_hp rfl) ?_
      refine x_aload_n (pc := 21) dX10_room_21 rfl ?_
      refine x_iconstN (pc := 22) 0 dX10_room_22 ic_0 ?_
      refine x_putI (pc := 23) dX10_room_23 flX10_47 (by first | assumption | rfl) rfl rfl rfl ?_
      refine x_iload_n (pc := 26) dX10_room_26 rfl ?_
      first | (guard_target =~ Wp _ _ _ _ _ (Value.int (nI _) :: _) _ _ _ _; with_reducible refine x_if_neN (pc := 27) (tgt := 38) ?_ dX10_room_27 ?_ (fun h27 => ?_) (fun h27 => ?_); (first | omega | exact b2n_32 _ | exact b2n_31 _); decide) | refine x_if_ne (pc := 27) (tgt := 38) dX10_room_27 (by decide) (fun h27 => ?_) (fun h27 => ?_)
      · skip
        refine x_aload_n (pc := 38) dX10_room_38 rfl ?_
        refine x_aload_n (pc := 39) dX10_room_39 rfl ?_
        refine x_getI (pc := 40) dX10_room_40 flX10_41 (by first | assumption | rfl) rfl ?_
        rw [show (xput M2 65 12 (nI 0)).1 65 10 = nI (sMd s) from h102]
        refine x_putI (pc := 43) dX10_room_43 flX10_44 (by first | assumption | rfl) rfl rfl rfl ?_
        refine x_aload_n (pc := 46) dX10_room_46 rfl ?_
        refine x_dup (pc := 47) dX10_room_47 rfl ?_
        refine x_getI (pc := 48) dX10_room_48 flX10_41 (by first | assumption | rfl) rfl ?_
        rw [show (xput (xput M2 65 12 (nI 0)) 65 11 (nI (sMd s))).1 65 10 = nI (sMd s) from h102]
        refine x_iconstN (pc := 51) 1 dX10_room_51 ic_1 ?_
        first | (guard_target =~ Wp _ _ _ _ _ (Value.int (nI _) :: Value.int (nI _) :: _) _ _ _ _; with_reducible refine x_iaddN (pc := 52) dX10_room_52 ?_) | refine x_iadd (pc := 52) dX10_room_52 ?_
        refine x_putI (pc := 53) dX10_room_53 flX10_41 (by first | assumption | rfl) rfl rfl rfl ?_
        refine x_aload_n (pc := 56) dX10_room_56 rfl ?_
        refine x_getI (pc := 57) dX10_room_57 flX10_44 (by first | assumption | rfl) rfl ?_
        refine x_ret (pc := 60) (v := some _) rfl trivial dX10_room_60 (by decide) ?_
        have hC1 : MC9 (xput (xput (xput M2 65 12 (nI 0)) 65 11 (nI (sMd s))) 65 10 (nI (sMd s + 1))) (((roomA s.1.1 l (s.1.1 8 0), s.1.2.1, nI (sMd s), qN s, l) : XQ), s.2.1, sTx s, sLn s, sMd s + 1, s.2.2.2.2.2) := ?_
        · exact h _ ((((hh M2 ho).tr (high.put (by decide))).tr (high.put (by decide))).tr (high.put (by decide))) hC1
        obtain ⟨q1, q2, q3, q4, q5, q6, q7⟩ := hC
        have P2 : MPq M2 s.1 := q1.cg (ks M2 ho _ kP)
        have kt : ksm wT M (xput (xput (xput M2 65 12 (nI 0)) 65 11 (nI (sMd s))) 65 10 (nI (sMd s + 1))) := ((((ks M2 ho _ kT).tr (.put rfl)).tr (.put rfl)).tr (.put rfl))
        refine ⟨?_, q2.cg ((((ks M2 ho _ kI).tr (.put rfl)).tr (.put rfl)).tr (.put rfl)), q3.make (show sMd s < 6 by omega) hr' h2 rfl rfl hl0 (fun a z1 z2 => funext fun k => (if_neg (by omega)).trans ((if_neg (by omega)).trans (if_neg (by omega)))) ⟨hok.2.1, hok.2.2⟩, q4.eqs (kt.row (a := 109) (fun _ => rfl)) (kt.row (a := 110) (fun _ => rfl)) (by show M2.2 111 = M.2 111; rw [ho.2]), q5.cg ((((ks M2 ho _ kA).tr (.put rfl)).tr (.put rfl)).tr (.put rfl)), ?_, q7.cg ((((ks M2 ho _ kC).tr (.put rfl)).tr (.put rfl)).tr (.put rfl))⟩
        · have P3 : MPq (xput (xput (xput M2 65 12 (nI 0)) 65 11 (nI (sMd s))) 65 10 (nI (sMd s + 1))) (s.1.1, s.1.2.1, nI (sMd s), qN s, l) := ⟨P2.1, P2.2.1, P2.2.2.1, P2.2.2.2.1, rfl, fun k hk j hj => (if_neg (by omega)).trans ((if_neg (by omega)).trans ((if_neg (by omega)).trans (P2.2.2.2.2.2.1 k hk j hj))), P2.2.2.2.2.2.2⟩
          refine P3.cgA ?_ ?_ ?_ (fun k hk j hj => ?_)
          · rfl
          · rfl
          · rfl
          · show (if k = 7 ∧ j < 16 * s.1.1 8 0 then _ else if k = 13 ∧ j = 0 then _ else s.1.1 k j) = s.1.1 k j
            rw [if_neg (by omega), if_neg (by omega)]
        · exact (ho.1 65 33 rfl).trans q6
      · skip
        cases h27
    · skip
      exact absurd h6 hq6
end P96
