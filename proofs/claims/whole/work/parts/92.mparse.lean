/-! the MODEL's reader: signs, numbers, words, what waits -/
/-- the text being read, at a room's number f -/
def CT (M0 : XM) (n : Nat) (t : Nat → Nat) : Prop := M0.1 65 12 = nI n ∧ n ≤ 100 ∧ (∀ j, j < n → M0.1 72 j = nI (t j) ∧ t j < 128) ∧ MLt M0
/-- what a reader changes: sg the room's first sign, ci the clause -/
def pK (sg ci : Nat) (a k : Nat) : Bool := (a == 65 && (k == 13 || k == 14 || k == 23 || k == 24 || k == 25)) || (a == 78 && decide (sg ≤ k) && decide (k < sg + 100)) || a == 79 || (a == 77 && k == ci)
theorem pK_f {sg ci k : Nat} (h : (k == 13 || k == 14 || k == 23 || k == 24 || k == 25) = false) : pK sg ci 65 k = false := by simp [pK] at h ⊢; omega
theorem pK_t {sg ci k : Nat} (h : (k == 13 || k == 14 || k == 23 || k == 24 || k == 25) = true) : pK sg ci 65 k = true := by simp [pK] at h ⊢; omega
theorem CT.tx {M0 : XM} {n : Nat} {t : Nat → Nat} (h : CT M0 n t) : TX (chT n t) n := chT_TX h.2.1 (fun p hp => (h.2.2.1 p hp).2)
theorem srt_eq : ∀ x, x < 129 → ∀ k, k < 128 → (srt x = nI k ↔ x = k + 1) := by decide +kernel
theorem srt_0 {x : Nat} : x = 0 → srt x = -1 := by rintro rfl; rfl
def stkW (M : XM) : List Nat → Prop
  | [] => True
  | v :: V => M.1 79 V.length = nI v ∧ stkW M V
theorem stkW_eq {M M' : XM} : ∀ {V : List Nat}, stkW M V → (∀ k, k < V.length → M'.1 79 k = M.1 79 k) → stkW M' V := by
  intro V
  induction V with
  | nil => exact fun _ _ => trivial
  | cons v V ih => exact fun h e => ⟨(e _ (by simp)).trans h.1, ih h.2 (fun k hk => e k (by simp only [List.length_cons]; omega))⟩
/-- a reader's state: at p, the codes C since the room's start, V waiting, o unclosed -/
def PS (M0 M : XM) (sg ci p : Nat) (C V : List Nat) (o : Nat) : Prop := only (pK sg ci) M0 M ∧ M.1 65 13 = nI p ∧ M.1 65 23 = nI (sg + C.length) ∧ M.1 65 24 = nI V.length ∧ M.1 65 25 = nI o ∧ (∀ k, k < C.length → M.1 78 (sg + k) = tokI (C.getD k 0)) ∧ stkW M V ∧ C.length + V.length ≤ p
/-- read in vain, up to q -/
def PN (M0 M : XM) (sg ci q : Nat) : Prop := only (pK sg ci) M0 M ∧ M.1 65 13 = nI q
theorem PS.pn {M0 M : XM} {sg ci p o : Nat} {C V : List Nat} (h : PS M0 M sg ci p C V o) : PN M0 M sg ci p := ⟨h.1, h.2.1⟩
section P92
variable {g : XG} {d : Nat} {M M0 : XM} {K : Option Value → XS → XM → Prop} {n sg ci p o : Nat} {t : Nat → Nat} {C V : List Nat}
theorem sm_next (hT : CT M0 n t) (ho : only (pK sg ci) M0 M) (hp : M.1 65 13 = nI p) (hp100 : p ≤ 100) (h : K (some (.int (srt (chT n t p)))) xSF M) : Ex g d yX10_next mX10_next [.ref 65] xSF M K := by
  have h12 : M.1 65 12 = nI n := (ho.1 65 12 (pK_f rfl)).trans hT.1
  have hn := hT.2.1
  unfold chT at h
  refine x_entry kX10_next (Nat.le_of_ble_eq_true rfl) ?_
  show Wp g _ mX10_next 0 [some (.ref 65)] [] _ _ _ _
  by_cases hlt : p < n
  · rw [if_pos hlt] at h
    have h72 : M.1 72 p = nI (t p) := (ho.1 72 p rfl).trans (hT.2.2.1 p hlt).1
    refine x_aload_n (pc := 0) dX10_next_0 rfl ?_
    refine x_getI (pc := 1) dX10_next_1 flX10_50 (by first | assumption | rfl) rfl ?_
    rw [hp]
    refine x_aload_n (pc := 4) dX10_next_4 rfl ?_
    refine x_getI (pc := 5) dX10_next_5 flX10_47 (by first | assumption | rfl) rfl ?_
    rw [h12]
    first | (guard_target =~ Wp _ _ _ _ _ (Value.int (nI _) :: Value.int (nI _) :: _) _ _ _ _; with_reducible refine x_icmp_geN (pc := 8) (tgt := 23) ?_ ?_ dX10_next_8 ?_ (fun h8 => ?_) (fun h8 => ?_); (first | omega | exact b2n_31 _); (first | omega | exact b2n_31 _); decide) | refine x_icmp_ge (pc := 8) (tgt := 23) dX10_next_8 (by decide) (fun h8 => ?_) (fun h8 => ?_)
    · skip
      omega
    · skip
      refine x_aload_n (pc := 11) dX10_next_11 rfl ?_
      refine x_getR (pc := 12) dX10_next_12 flX10_56 (by first | assumption | rfl) rfl ?_
      refine x_aload_n (pc := 15) dX10_next_15 rfl ?_
      refine x_getI (pc := 16) dX10_next_16 flX10_50 (by first | assumption | rfl) rfl ?_
      rw [hp]
      refine x_ialdN (pc := 19) dX10_next_19 (by first | assumption | rfl) (by first | with_reducible rfl | (simp only [xlit, nI_add, pk_mul]; with_reducible rfl)) (by omega) (by decide) ?_
      rw [h72]
      refine x_goto (pc := 20) (tgt := 24) dX10_next_20 (by decide) ?_
      refine x_ret (pc := 24) (v := some _) rfl trivial dX10_next_24 (by decide) ?_
      exact h
  · rw [if_neg hlt] at h
    refine x_aload_n (pc := 0) dX10_next_0 rfl ?_
    refine x_getI (pc := 1) dX10_next_1 flX10_50 (by first | assumption | rfl) rfl ?_
    rw [hp]
    refine x_aload_n (pc := 4) dX10_next_4 rfl ?_
    refine x_getI (pc := 5) dX10_next_5 flX10_47 (by first | assumption | rfl) rfl ?_
    rw [h12]
    first | (guard_target =~ Wp _ _ _ _ _ (Value.int (nI _) :: Value.int (nI _) :: _) _ _ _ _; with_reducible refine x_icmp_geN (pc := 8) (tgt := 23) ?_ ?_ dX10_next_8 ?_ (fun h8 => ?_) (fun h8 => ?_); (first | omega | exact b2n_31 _); (first | omega | exact b2n_31 _); decide) | refine x_icmp_ge (pc := 8) (tgt := 23) dX10_next_8 (by decide) (fun h8 => ?_) (fun h8 => ?_)
    · skip
      refine x_iconst (pc := 23) dX10_next_23 ic_m1 ?_
      refine x_ret (pc := 24) (v := some _) rfl trivial dX10_next_24 (by decide) ?_
      exact h
    · skip
      omega
theorem sm_takes {k : Nat} (hT : CT M0 n t) (hN : PN M0 M sg ci p) (hp100 : p ≤ 100) (hk : k < 128) (h : ∀ M', only (fun a k => a == 65 && k == 13) M M' → M'.1 65 13 = nI (if chT n t p = k + 1 then p + 1 else p) → K (some (.int (nI (b2n (decide (chT n t p = k + 1)))))) xSF M') : Ex g (d + 1) yX10_takes mX10_takes [.ref 65, .int (nI k)] xSF M K := by
  have hc := (hT.tx.2 p).2
  refine x_entry kX10_takes (Nat.le_of_ble_eq_true rfl) ?_
  show Wp g _ mX10_takes 0 [some (.ref 65), some (.int (nI k))] [] _ _ _ _
  refine x_aload_n (pc := 0) dX10_takes_0 rfl ?_
  refine x_invV0 (pc := 1) dX10_takes_1 mlX10_271 imX10_next seX10_next kX10_next (by first | assumption | rfl) rfl (Nat.le_of_ble_eq_true rfl) (by decide) ?_
  refine sm_next hT hN.1 hN.2 hp100 ?_
  refine x_cv rfl rfl ?_
  refine x_iload_n (pc := 4) dX10_takes_4 rfl ?_
  refine x_icmp_eq (pc := 5) (tgt := 10) dX10_takes_5 (by decide) (fun h5 => ?_) (fun h5 => ?_)
  · skip
    refine x_aload_n (pc := 10) dX10_takes_10 rfl ?_
    refine x_dup (pc := 11) dX10_takes_11 rfl ?_
    refine x_getI (pc := 12) dX10_takes_12 flX10_50 (by first | assumption | rfl) rfl ?_
    rw [hN.2]
    refine x_iconstN (pc := 15) 1 dX10_takes_15 ic_1 ?_
    first | (guard_target =~ Wp _ _ _ _ _ (Value.int (nI _) :: Value.int (nI _) :: _) _ _ _ _; with_reducible refine x_iaddN (pc := 16) dX10_takes_16 ?_) | refine x_iadd (pc := 16) dX10_takes_16 ?_
    refine x_putI (pc := 17) dX10_takes_17 flX10_50 (by first | assumption | rfl) rfl rfl rfl ?_
    refine x_iconstN (pc := 20) 1 dX10_takes_20 ic_1 ?_
    refine x_ret (pc := 21) (v := some _) rfl (by first | rfl | decide | exact xrt_b) dX10_takes_21 (by decide) ?_
    have e := (srt_eq _ hc k hk).mp h5
    rw [if_pos e, decide_eq_true e] at h; exact h _ (only.put rfl) rfl
  · skip
    refine x_iconstN (pc := 8) 0 dX10_takes_8 ic_0 ?_
    refine x_ret (pc := 9) (v := some _) rfl (by first | rfl | decide | exact xrt_b) dX10_takes_9 (by decide) ?_
    have e : ¬ chT n t p = k + 1 := fun q => h5 ((srt_eq _ hc k hk).mpr q)
    rw [if_neg e, decide_eq_false e] at h; exact h M only.rf hN.2
theorem sm_emits {s : Int32} {m : Nat} (hm : m < 600) (h23 : M.1 65 23 = nI m) (h : K none xSF (xput (xput M 78 m s) 65 23 (nI (m + 1)))) : Ex g d yX10_emits mX10_emits [.ref 65, .int s] xSF M K := by
  refine x_entry kX10_emits (Nat.le_of_ble_eq_true rfl) ?_
  show Wp g _ mX10_emits 0 [some (.ref 65), some (.int s)] [] _ _ _ _
  refine x_aload_n (pc := 0) dX10_emits_0 rfl ?_
  refine x_getR (pc := 1) dX10_emits_1 flX10_74 (by first | assumption | rfl) rfl ?_
  refine x_aload_n (pc := 4) dX10_emits_4 rfl ?_
  refine x_getI (pc := 5) dX10_emits_5 flX10_80 (by first | assumption | rfl) rfl ?_
  rw [h23]
  refine x_iload_n (pc := 8) dX10_emits_8 rfl ?_
  refine x_iastN (pc := 9) dX10_emits_9 (by first | assumption | rfl) (by first | with_reducible rfl | (simp only [xlit, nI_add, pk_mul]; with_reducible rfl)) (by omega) (by decide) ?_
  refine x_aload_n (pc := 10) dX10_emits_10 rfl ?_
  refine x_dup (pc := 11) dX10_emits_11 rfl ?_
  refine x_getI (pc := 12) dX10_emits_12 flX10_80 (by first | assumption | rfl) rfl ?_
  rw [show (xput M 78 m s).1 65 23 = nI m from h23]
  refine x_iconstN (pc := 15) 1 dX10_emits_15 ic_1 ?_
  first | (guard_target =~ Wp _ _ _ _ _ (Value.int (nI _) :: Value.int (nI _) :: _) _ _ _ _; with_reducible refine x_iaddN (pc := 16) dX10_emits_16 ?_) | refine x_iadd (pc := 16) dX10_emits_16 ?_
  refine x_putI (pc := 17) dX10_emits_17 flX10_80 (by first | assumption | rfl) rfl rfl rfl ?_
  refine x_ret (pc := 20) (v := none) rfl trivial dX10_emits_20 (by decide) ?_
  exact h
/-- one code more -/
theorem PS.emit {x : Nat} {s : Int32} (h : PS M0 M sg ci p C V o) (hs : s = tokI x) (hc : C.length + V.length + 1 ≤ p) (hp : p ≤ 100) : PS M0 (xput (xput M 78 (sg + C.length) s) 65 23 (nI (sg + C.length + 1))) sg ci p (C ++ [x]) V o := by
  obtain ⟨h1, h2, h3, h4, h5, h6, h7, h8⟩ := h
  refine ⟨(h1.tr (only.put (by simp [pK]; omega))).tr (only.put (pK_t rfl)), h2, ?_, h4, h5, fun k hk => ?_, stkW_eq h7 (fun _ _ => rfl), by simp; omega⟩
  · rw [show (C ++ [x]).length = C.length + 1 by simp, ← Nat.add_assoc]; rfl
  · rw [show (C ++ [x]).length = C.length + 1 by simp] at hk
    by_cases z : k = C.length
    · subst z
      rw [show (C ++ [x]).getD C.length 0 = x by simp [List.getD]]
      refine Eq.trans ?_ hs
      simp [xput]
    · have hk2 : k < C.length := by omega
      rw [show (C ++ [x]).getD k 0 = C.getD k 0 by simp [List.getD, List.getElem?_append_left hk2], ← h6 k hk2]
      simp [xput, z]
/-- one fewer waits -/
theorem PS.pop {v : Nat} (h : PS M0 M sg ci p C (v :: V) o) : PS M0 (xput M 65 24 (nI V.length)) sg ci p C V o := by
  obtain ⟨h1, h2, h3, h4, h5, h6, h7, h8⟩ := h
  exact ⟨h1.tr (only.put (pK_t rfl)), h2, h3, rfl, h5, h6, stkW_eq h7.2 (fun _ _ => rfl), by simp only [List.length_cons] at h8; omega⟩
theorem PS.opn {o' : Nat} (h : PS M0 M sg ci p C V o) : PS M0 (xput M 65 25 (nI o')) sg ci p C V o' := by
  obtain ⟨h1, h2, h3, h4, h5, h6, h7, h8⟩ := h
  exact ⟨h1.tr (only.put (pK_t rfl)), h2, h3, h4, rfl, h6, stkW_eq h7 (fun _ _ => rfl), h8⟩
theorem PS.at {q : Nat} (h : PS M0 M sg ci p C V o) (hq : p ≤ q) : PS M0 (xput M 65 13 (nI q)) sg ci q C V o := by
  obtain ⟨h1, h2, h3, h4, h5, h6, h7, h8⟩ := h
  exact ⟨h1.tr (only.put (pK_t rfl)), rfl, h3, h4, h5, h6, stkW_eq h7 (fun _ _ => rfl), by omega⟩
/-- one more waits, one sign on -/
theorem PS.push {v : Nat} (h : PS M0 M sg ci p C V o) : PS M0 (xput (xput (xput M 79 V.length (nI v)) 65 24 (nI (V.length + 1))) 65 13 (nI (p + 1))) sg ci (p + 1) C (v :: V) o := by
  obtain ⟨h1, h2, h3, h4, h5, h6, h7, h8⟩ := h
  refine ⟨((h1.tr (only.put (by simp [pK]))).tr (only.put (pK_t rfl))).tr (only.put (pK_t rfl)), rfl, h3, rfl, h5, h6, ⟨?_, stkW_eq h7 (fun k hk => ?_)⟩, by simp only [List.length_cons]; omega⟩
  · simp [xput]
  · simp [xput]; omega
theorem sm_whole {U : List Nat} (hsg : sg + 100 ≤ 600) (hp : p ≤ 100) (hU : ∀ u U', U = u :: U' → u ≠ 33 ∧ u < 200) : ∀ j M C o, j ≤ o → o ≤ 4 → PS M0 M sg ci p C (List.replicate j 33 ++ U) o → (∀ M', PS M0 M' sg ci p (C ++ List.replicate j 0) U (o - j) → K none xSF M') → Ex g (d + 1) yX10_whole mX10_whole [.ref 65] xSF M K := by
  intro j M C o hj ho h hK
  refine x_entry kX10_whole (Nat.le_of_ble_eq_true rfl) ?_
  show Wp g _ mX10_whole 0 [some (.ref 65)] [] _ _ _ _
  have loop : ∀ j M C o, j ≤ o → o ≤ 4 → PS M0 M sg ci p C (List.replicate j 33 ++ U) o → (∀ M', PS M0 M' sg ci p (C ++ List.replicate j 0) U (o - j) → K none xSF M') → Wp g (d + 1) mX10_whole 0 [some (.ref 65)] [] xSF (0, 0) M K := by
    intro j
    induction j with
    | zero =>
      intro M C o hj ho h hK
      have hK0 : K none xSF M := hK M (by rw [List.replicate_zero, List.append_nil]; exact h)
      cases U with
      | nil =>
        have h24 : M.1 65 24 = nI 0 := h.2.2.2.1
        refine x_aload_n (pc := 0) dX10_whole_0 rfl ?_
        refine x_getI (pc := 1) dX10_whole_1 flX10_83 (by first | assumption | rfl) rfl ?_
        rw [h24]
        first | (guard_target =~ Wp _ _ _ _ _ (Value.int (nI _) :: _) _ _ _ _; with_reducible refine x_if_leN (pc := 4) (tgt := 52) ?_ dX10_whole_4 ?_ (fun h4 => ?_) (fun h4 => ?_); (first | omega | exact b2n_32 _ | exact b2n_31 _); decide) | refine x_if_le (pc := 4) (tgt := 52) dX10_whole_4 (by decide) (fun h4 => ?_) (fun h4 => ?_)
        · skip
          refine x_ret (pc := 52) (v := none) rfl trivial dX10_whole_52 (by decide) ?_
          exact hK0
        · skip
          omega
      | cons u U' =>
        obtain ⟨hu1, hu2⟩ := hU u U' rfl
        have hl := h.2.2.2.2.2.2.2
        have h24 : M.1 65 24 = nI (U'.length + 1) := h.2.2.2.1
        have h79 : M.1 79 U'.length = nI u := h.2.2.2.2.2.2.1.1
        have hl2 : C.length + (U'.length + 1) ≤ p := hl
        refine x_aload_n (pc := 0) dX10_whole_0 rfl ?_
        refine x_getI (pc := 1) dX10_whole_1 flX10_83 (by first | assumption | rfl) rfl ?_
        rw [h24]
        first | (guard_target =~ Wp _ _ _ _ _ (Value.int (nI _) :: _) _ _ _ _; with_reducible refine x_if_leN (pc := 4) (tgt := 52) ?_ dX10_whole_4 ?_ (fun h4 => ?_) (fun h4 => ?_); (first | omega | exact b2n_32 _ | exact b2n_31 _); decide) | refine x_if_le (pc := 4) (tgt := 52) dX10_whole_4 (by decide) (fun h4 => ?_) (fun h4 => ?_)
        · skip
          omega
        · skip
          refine x_aload_n (pc := 7) dX10_whole_7 rfl ?_
          refine x_getR (pc := 8) dX10_whole_8 flX10_77 (by first | assumption | rfl) rfl ?_
          refine x_aload_n (pc := 11) dX10_whole_11 rfl ?_
          refine x_getI (pc := 12) dX10_whole_12 flX10_83 (by first | assumption | rfl) rfl ?_
          rw [h24]
          refine x_iconstN (pc := 15) 1 dX10_whole_15 ic_1 ?_
          first | (guard_target =~ Wp _ _ _ _ _ (Value.int (nI _) :: Value.int (nI _) :: _) _ _ _ _; with_reducible refine x_isubN (pc := 16) ?_ dX10_whole_16 ?_; omega) | refine x_isub (pc := 16) dX10_whole_16 ?_
          refine x_ialdN (pc := 17) dX10_whole_17 (by first | assumption | rfl) (by first | with_reducible rfl | (simp only [xlit, nI_add, pk_mul]; with_reducible rfl)) (by omega) (by decide) ?_
          rw [show M.1 79 (U'.length + 1 - 1) = nI u from h79]
          refine x_bipushN (pc := 18) 33 dX10_whole_18 bp_33 ?_
          first | (guard_target =~ Wp _ _ _ _ _ (Value.int (nI _) :: Value.int (nI _) :: _) _ _ _ _; with_reducible refine x_icmp_neN (pc := 20) (tgt := 52) ?_ ?_ dX10_whole_20 ?_ (fun h20 => ?_) (fun h20 => ?_); (first | omega | exact b2n_31 _); (first | omega | exact b2n_31 _); decide) | refine x_icmp_ne (pc := 20) (tgt := 52) dX10_whole_20 (by decide) (fun h20 => ?_) (fun h20 => ?_)
          · skip
            refine x_ret (pc := 52) (v := none) rfl trivial dX10_whole_52 (by decide) ?_
            exact hK0
          · skip
            exact absurd h20 hu1
    | succ j ih =>
      intro M C o hj ho h hK
      have hl := h.2.2.2.2.2.2.2
      obtain ⟨T, hTe⟩ : ∃ T : List Nat, T = List.replicate j 33 ++ U := ⟨_, rfl⟩
      have e1 : (List.replicate (j + 1) 33 ++ U) = 33 :: T := by rw [hTe]; rfl
      rw [e1] at h hl
      simp only [List.length_cons] at hl
      have h24 : M.1 65 24 = nI (T.length + 1) := h.2.2.2.1
      have h79 : M.1 79 T.length = nI 33 := h.2.2.2.2.2.2.1.1
      have h23 := h.2.2.1
      have h25 := h.2.2.2.2.1
      have hfin : PS M0 (xput (xput (xput (xput M 78 (sg + C.length) (-33)) 65 23 (nI (sg + C.length + 1))) 65 24 (nI T.length)) 65 25 (nI (o - 1))) sg ci p (C ++ [0]) T (o - 1) := by
        obtain ⟨g1, g2, g3, g4, g5, g6, g7, g8⟩ := h
        have hpp : PS M0 (xput M 65 24 (nI T.length)) sg ci p C T o := PS.pop ⟨g1, g2, g3, g4, g5, g6, g7, g8⟩
        have he := (hpp.emit (x := 0) (s := -33) rfl (by omega) hp).opn (o' := o - 1)
        obtain ⟨f1, f2, f3, f4, f5, f6, f7, f8⟩ := he
        refine ⟨?_, f2, f3, rfl, rfl, f6, stkW_eq f7 (fun _ _ => rfl), f8⟩
        exact (((g1.tr (only.put (by simp [pK]; omega))).tr (only.put (pK_t rfl))).tr (only.put (pK_t rfl))).tr (only.put (pK_t rfl))
      refine x_aload_n (pc := 0) dX10_whole_0 rfl ?_
      refine x_getI (pc := 1) dX10_whole_1 flX10_83 (by first | assumption | rfl) rfl ?_
      rw [h24]
      first | (guard_target =~ Wp _ _ _ _ _ (Value.int (nI _) :: _) _ _ _ _; with_reducible refine x_if_leN (pc := 4) (tgt := 52) ?_ dX10_whole_4 ?_ (fun h4 => ?_) (fun h4 => ?_); (first | omega | exact b2n_32 _ | exact b2n_31 _); decide) | refine x_if_le (pc := 4) (tgt := 52) dX10_whole_4 (by decide) (fun h4 => ?_) (fun h4 => ?_)
      · skip
        omega
      · skip
        refine x_aload_n (pc := 7) dX10_whole_7 rfl ?_
        refine x_getR (pc := 8) dX10_whole_8 flX10_77 (by first | assumption | rfl) rfl ?_
        refine x_aload_n (pc := 11) dX10_whole_11 rfl ?_
        refine x_getI (pc := 12) dX10_whole_12 flX10_83 (by first | assumption | rfl) rfl ?_
        rw [h24]
        refine x_iconstN (pc := 15) 1 dX10_whole_15 ic_1 ?_
        first | (guard_target =~ Wp _ _ _ _ _ (Value.int (nI _) :: Value.int (nI _) :: _) _ _ _ _; with_reducible refine x_isubN (pc := 16) ?_ dX10_whole_16 ?_; omega) | refine x_isub (pc := 16) dX10_whole_16 ?_
        refine x_ialdN (pc := 17) dX10_whole_17 (by first | assumption | rfl) (by first | with_reducible rfl | (simp only [xlit, nI_add, pk_mul]; with_reducible rfl)) (by omega) (by decide) ?_
        rw [show M.1 79 (T.length + 1 - 1) = nI 33 from h79]
        refine x_bipushN (pc := 18) 33 dX10_whole_18 bp_33 ?_
        first | (guard_target =~ Wp _ _ _ _ _ (Value.int (nI _) :: Value.int (nI _) :: _) _ _ _ _; with_reducible refine x_icmp_neN (pc := 20) (tgt := 52) ?_ ?_ dX10_whole_20 ?_ (fun h20 => ?_) (fun h20 => ?_); (first | omega | exact b2n_31 _); (first | omega | exact b2n_31 _); decide) | refine x_icmp_ne (pc := 20) (tgt := 52) dX10_whole_20 (by decide) (fun h20 => ?_) (fun h20 => ?_)
        · skip
          exact absurd rfl h20
        · skip
          refine x_aload_n (pc := 23) dX10_whole_23 rfl ?_
          refine x_bipush (pc := 24) dX10_whole_24 bp_m33 ?_
          refine x_invV1 (pc := 26) dX10_whole_26 mlX10_282 imX10_emits seX10_emits kX10_emits (by first | assumption | rfl) rfl (Nat.le_of_ble_eq_true rfl) (by decide) ?_
          refine sm_emits (by omega) h23 ?_
          refine x_cn rfl rfl ?_
          refine x_aload_n (pc := 29) dX10_whole_29 rfl ?_
          refine x_dup (pc := 30) dX10_whole_30 rfl ?_
          refine x_getI (pc := 31) dX10_whole_31 flX10_83 (by first | assumption | rfl) rfl ?_
          rw [show (xput (xput M 78 (sg + C.length) (-33)) 65 23 (nI (sg + C.length + 1))).1 65 24 = nI (T.length + 1) from h24]
          refine x_iconstN (pc := 34) 1 dX10_whole_34 ic_1 ?_
          first | (guard_target =~ Wp _ _ _ _ _ (Value.int (nI _) :: Value.int (nI _) :: _) _ _ _ _; with_reducible refine x_isubN (pc := 35) ?_ dX10_whole_35 ?_; omega) | refine x_isub (pc := 35) dX10_whole_35 ?_
          refine x_putI (pc := 36) dX10_whole_36 flX10_83 (by first | assumption | rfl) rfl rfl rfl ?_
          refine x_aload_n (pc := 39) dX10_whole_39 rfl ?_
          refine x_dup (pc := 40) dX10_whole_40 rfl ?_
          refine x_getI (pc := 41) dX10_whole_41 flX10_86 (by first | assumption | rfl) rfl ?_
          rw [show (xput (xput (xput M 78 (sg + C.length) (-33)) 65 23 (nI (sg + C.length + 1))) 65 24 (nI (T.length + 1 - 1))).1 65 25 = nI o from h25]
          refine x_iconstN (pc := 44) 1 dX10_whole_44 ic_1 ?_
          first | (guard_target =~ Wp _ _ _ _ _ (Value.int (nI _) :: Value.int (nI _) :: _) _ _ _ _; with_reducible refine x_isubN (pc := 45) ?_ dX10_whole_45 ?_; omega) | refine x_isub (pc := 45) dX10_whole_45 ?_
          refine x_putI (pc := 46) dX10_whole_46 flX10_86 (by first | assumption | rfl) rfl rfl rfl ?_
          refine x_goto (pc := 49) (tgt := 0) dX10_whole_49 (by decide) ?_
          refine ih _ (C ++ [0]) (o - 1) (by omega) (by omega) (by rw [← hTe]; exact hfin) (fun M' h' => hK M' ?_)
          rw [show o - 1 - j = o - (j + 1) by omega] at h'
          rw [List.append_assoc] at h'; exact h'
  exact loop j M C o hj ho h hK
def stl (s : Nat) : List Nat → List Nat × List Nat
  | [] => ([], [])
  | v :: V => if v = 38 then (1 :: (stl s V).1, (stl s V).2) else if v = 124 ∧ s ≠ 38 then (2 :: (stl s V).1, (stl s V).2) else ([], v :: V)
theorem sm_settle {s : Nat} (hsg : sg + 100 ≤ 600) (hp : p ≤ 100) (hs : s < 200) : ∀ V M C, (∀ v, v ∈ V → v < 200) → PS M0 M sg ci p C V o → (∀ M', PS M0 M' sg ci p (C ++ (stl s V).1) (stl s V).2 o → K none xSF M') → Ex g (d + 1) yX10_settle mX10_settle [.ref 65, .int (nI s)] xSF M K := by
  intro V M C hV h hK
  refine x_entry kX10_settle (Nat.le_of_ble_eq_true rfl) ?_
  show Wp g _ mX10_settle 0 [some (.ref 65), some (.int (nI s))] [] _ _ _ _
  have loop : ∀ V M C, (∀ v, v ∈ V → v < 200) → PS M0 M sg ci p C V o → (∀ M', PS M0 M' sg ci p (C ++ (stl s V).1) (stl s V).2 o → K none xSF M') → Wp g (d + 1) mX10_settle 0 [some (.ref 65), some (.int (nI s))] [] xSF (0, 0) M K := by
    intro V
    induction V with
    | nil =>
      intro M C hV h hK
      have hK0 : K none xSF M := hK M (by rw [stl, List.append_nil]; exact h)
      refine x_aload_n (pc := 0) dX10_settle_0 rfl ?_
      refine x_getI (pc := 1) dX10_settle_1 flX10_83 (by first | assumption | rfl) rfl ?_
      rw [h.2.2.2.1, show ([] : List Nat).length = 0 from rfl]
      first | (guard_target =~ Wp _ _ _ _ _ (Value.int (nI _) :: _) _ _ _ _; with_reducible refine x_if_leN (pc := 4) (tgt := 72) ?_ dX10_settle_4 ?_ (fun h4 => ?_) (fun h4 => ?_); (first | omega | exact b2n_32 _ | exact b2n_31 _); decide) | refine x_if_le (pc := 4) (tgt := 72) dX10_settle_4 (by decide) (fun h4 => ?_) (fun h4 => ?_)
      · skip
        refine x_ret (pc := 72) (v := none) rfl trivial dX10_settle_72 (by decide) ?_
        exact hK0
      · skip
        omega
    | cons v V ih =>
      intro M C hV h hK
      have hv := hV v (List.mem_cons_self ..)
      have hl := h.2.2.2.2.2.2.2
      simp only [List.length_cons] at hl
      have h24 : M.1 65 24 = nI (V.length + 1) := h.2.2.2.1
      have h79 : M.1 79 V.length = nI v := h.2.2.2.2.2.2.1.1
      have h23 := h.2.2.1
      have go : ∀ x, -nI v = tokI x → (stl s (v :: V)).1 = x :: (stl s V).1 → (stl s (v :: V)).2 = (stl s V).2 → Wp g (d + 1) mX10_settle 0 [some (.ref 65), some (.int (nI s))] [] xSF (0, 0) (xput (xput (xput M 65 24 (nI V.length)) 78 (sg + C.length) (-nI v)) 65 23 (nI (sg + C.length + 1))) K := by
        intro x hx e1 e2
        refine ih _ (C ++ [x]) (fun w hw => hV w (List.mem_cons_of_mem _ hw)) (h.pop.emit hx (by omega) hp) (fun M' h' => hK M' ?_)
        rw [e1, e2]
        rw [List.append_assoc] at h'; exact h'
      by_cases v38 : v = 38
      · have gg := go 1 (by rw [v38]; decide) (by rw [stl, if_pos v38]) (by rw [stl, if_pos v38])
        refine x_aload_n (pc := 0) dX10_settle_0 rfl ?_
        refine x_getI (pc := 1) dX10_settle_1 flX10_83 (by first | assumption | rfl) rfl ?_
        rw [h24]
        first | (guard_target =~ Wp _ _ _ _ _ (Value.int (nI _) :: _) _ _ _ _; with_reducible refine x_if_leN (pc := 4) (tgt := 72) ?_ dX10_settle_4 ?_ (fun h4 => ?_) (fun h4 => ?_); (first | omega | exact b2n_32 _ | exact b2n_31 _); decide) | refine x_if_le (pc := 4) (tgt := 72) dX10_settle_4 (by decide) (fun h4 => ?_) (fun h4 => ?_)
        · skip
          omega
        · skip
          refine x_aload_n (pc := 7) dX10_settle_7 rfl ?_
          refine x_getR (pc := 8) dX10_settle_8 flX10_77 (by first | assumption | rfl) rfl ?_
          refine x_aload_n (pc := 11) dX10_settle_11 rfl ?_
          refine x_getI (pc := 12) dX10_settle_12 flX10_83 (by first | assumption | rfl) rfl ?_
          rw [h24]
          refine x_iconstN (pc := 15) 1 dX10_settle_15 ic_1 ?_
          first | (guard_target =~ Wp _ _ _ _ _ (Value.int (nI _) :: Value.int (nI _) :: _) _ _ _ _; with_reducible refine x_isubN (pc := 16) ?_ dX10_settle_16 ?_; omega) | refine x_isub (pc := 16) dX10_settle_16 ?_
          refine x_ialdN (pc := 17) dX10_settle_17 (by first | assumption | rfl) (by first | with_reducible rfl | (simp only [xlit, nI_add, pk_mul]; with_reducible rfl)) (by omega) (by decide) ?_
          rw [show M.1 79 (V.length + 1 - 1) = nI v from h79]
          refine x_bipushN (pc := 18) 38 dX10_settle_18 bp_38 ?_
          first | (guard_target =~ Wp _ _ _ _ _ (Value.int (nI _) :: Value.int (nI _) :: _) _ _ _ _; with_reducible refine x_icmp_eqN (pc := 20) (tgt := 45) ?_ ?_ dX10_settle_20 ?_ (fun h20 => ?_) (fun h20 => ?_); (first | omega | exact b2n_31 _); (first | omega | exact b2n_31 _); decide) | refine x_icmp_eq (pc := 20) (tgt := 45) dX10_settle_20 (by decide) (fun h20 => ?_) (fun h20 => ?_)
          · skip
            refine x_aload_n (pc := 45) dX10_settle_45 rfl ?_
            refine x_dup (pc := 46) dX10_settle_46 rfl ?_
            refine x_getI (pc := 47) dX10_settle_47 flX10_83 (by first | assumption | rfl) rfl ?_
            rw [h24]
            refine x_iconstN (pc := 50) 1 dX10_settle_50 ic_1 ?_
            first | (guard_target =~ Wp _ _ _ _ _ (Value.int (nI _) :: Value.int (nI _) :: _) _ _ _ _; with_reducible refine x_isubN (pc := 51) ?_ dX10_settle_51 ?_; omega) | refine x_isub (pc := 51) dX10_settle_51 ?_
            refine x_putI (pc := 52) dX10_settle_52 flX10_83 (by first | assumption | rfl) rfl rfl rfl ?_
            refine x_aload_n (pc := 55) dX10_settle_55 rfl ?_
            refine x_aload_n (pc := 56) dX10_settle_56 rfl ?_
            refine x_getR (pc := 57) dX10_settle_57 flX10_77 (by first | assumption | rfl) rfl ?_
            refine x_aload_n (pc := 60) dX10_settle_60 rfl ?_
            refine x_getI (pc := 61) dX10_settle_61 flX10_83 (by first | assumption | rfl) rfl ?_
            rw [show (xput M 65 24 (nI (V.length + 1 - 1))).1 65 24 = nI V.length from rfl]
            refine x_ialdN (pc := 64) dX10_settle_64 (by first | assumption | rfl) (by first | with_reducible rfl | (simp only [xlit, nI_add, pk_mul]; with_reducible rfl)) (by omega) (by decide) ?_
            rw [show (xput M 65 24 (nI (V.length + 1 - 1))).1 79 V.length = nI v from h79]
            refine x_ineg (pc := 65) dX10_settle_65 ?_
            refine x_invV1 (pc := 66) dX10_settle_66 mlX10_282 imX10_emits seX10_emits kX10_emits (by first | assumption | rfl) rfl (Nat.le_of_ble_eq_true rfl) (by decide) ?_
            refine sm_emits (by omega) h23 ?_
            refine x_cn rfl rfl ?_
            refine x_goto (pc := 69) (tgt := 0) dX10_settle_69 (by decide) ?_
            exact gg
          · skip
            exact absurd v38 h20
      by_cases v124 : v = 124 ∧ s ≠ 38
      · have gg := go 2 (by rw [v124.1]; decide) (by rw [stl, if_neg v38, if_pos v124]) (by rw [stl, if_neg v38, if_pos v124])
        refine x_aload_n (pc := 0) dX10_settle_0 rfl ?_
        refine x_getI (pc := 1) dX10_settle_1 flX10_83 (by first | assumption | rfl) rfl ?_
        rw [h24]
        first | (guard_target =~ Wp _ _ _ _ _ (Value.int (nI _) :: _) _ _ _ _; with_reducible refine x_if_leN (pc := 4) (tgt := 72) ?_ dX10_settle_4 ?_ (fun h4 => ?_) (fun h4 => ?_); (first | omega | exact b2n_32 _ | exact b2n_31 _); decide) | refine x_if_le (pc := 4) (tgt := 72) dX10_settle_4 (by decide) (fun h4 => ?_) (fun h4 => ?_)
        · skip
          omega
        · skip
          refine x_aload_n (pc := 7) dX10_settle_7 rfl ?_
          refine x_getR (pc := 8) dX10_settle_8 flX10_77 (by first | assumption | rfl) rfl ?_
          refine x_aload_n (pc := 11) dX10_settle_11 rfl ?_
          refine x_getI (pc := 12) dX10_settle_12 flX10_83 (by first | assumption | rfl) rfl ?_
          rw [h24]
          refine x_iconstN (pc := 15) 1 dX10_settle_15 ic_1 ?_
          first | (guard_target =~ Wp _ _ _ _ _ (Value.int (nI _) :: Value.int (nI _) :: _) _ _ _ _; with_reducible refine x_isubN (pc := 16) ?_ dX10_settle_16 ?_; omega) | refine x_isub (pc := 16) dX10_settle_16 ?_
          refine x_ialdN (pc := 17) dX10_settle_17 (by first | assumption | rfl) (by first | with_reducible rfl | (simp only [xlit, nI_add, pk_mul]; with_reducible rfl)) (by omega) (by decide) ?_
          rw [show M.1 79 (V.length + 1 - 1) = nI v from h79]
          refine x_bipushN (pc := 18) 38 dX10_settle_18 bp_38 ?_
          first | (guard_target =~ Wp _ _ _ _ _ (Value.int (nI _) :: Value.int (nI _) :: _) _ _ _ _; with_reducible refine x_icmp_eqN (pc := 20) (tgt := 45) ?_ ?_ dX10_settle_20 ?_ (fun h20 => ?_) (fun h20 => ?_); (first | omega | exact b2n_31 _); (first | omega | exact b2n_31 _); decide) | refine x_icmp_eq (pc := 20) (tgt := 45) dX10_settle_20 (by decide) (fun h20 => ?_) (fun h20 => ?_)
          · skip
            exact absurd h20 v38
          · skip
            refine x_aload_n (pc := 23) dX10_settle_23 rfl ?_
            refine x_getR (pc := 24) dX10_settle_24 flX10_77 (by first | assumption | rfl) rfl ?_
            refine x_aload_n (pc := 27) dX10_settle_27 rfl ?_
            refine x_getI (pc := 28) dX10_settle_28 flX10_83 (by first | assumption | rfl) rfl ?_
            rw [h24]
            refine x_iconstN (pc := 31) 1 dX10_settle_31 ic_1 ?_
            first | (guard_target =~ Wp _ _ _ _ _ (Value.int (nI _) :: Value.int (nI _) :: _) _ _ _ _; with_reducible refine x_isubN (pc := 32) ?_ dX10_settle_32 ?_; omega) | refine x_isub (pc := 32) dX10_settle_32 ?_
            refine x_ialdN (pc := 33) dX10_settle_33 (by first | assumption | rfl) (by first | with_reducible rfl | (simp only [xlit, nI_add, pk_mul]; with_reducible rfl)) (by omega) (by decide) ?_
            rw [show M.1 79 (V.length + 1 - 1) = nI v from h79]
            refine x_bipushN (pc := 34) 124 dX10_settle_34 bp_124 ?_
            first | (guard_target =~ Wp _ _ _ _ _ (Value.int (nI _) :: Value.int (nI _) :: _) _ _ _ _; with_reducible refine x_icmp_neN (pc := 36) (tgt := 72) ?_ ?_ dX10_settle_36 ?_ (fun h36 => ?_) (fun h36 => ?_); (first | omega | exact b2n_31 _); (first | omega | exact b2n_31 _); decide) | refine x_icmp_ne (pc := 36) (tgt := 72) dX10_settle_36 (by decide) (fun h36 => ?_) (fun h36 => ?_)
            · skip
              exact absurd v124.1 h36
            · skip
              refine x_iload_n (pc := 39) dX10_settle_39 rfl ?_
              refine x_bipushN (pc := 40) 38 dX10_settle_40 bp_38 ?_
              first | (guard_target =~ Wp _ _ _ _ _ (Value.int (nI _) :: Value.int (nI _) :: _) _ _ _ _; with_reducible refine x_icmp_eqN (pc := 42) (tgt := 72) ?_ ?_ dX10_settle_42 ?_ (fun h42 => ?_) (fun h42 => ?_); (first | omega | exact b2n_31 _); (first | omega | exact b2n_31 _); decide) | refine x_icmp_eq (pc := 42) (tgt := 72) dX10_settle_42 (by decide) (fun h42 => ?_) (fun h42 => ?_)
              · skip
                exact absurd h42 v124.2
              · skip
                refine x_aload_n (pc := 45) dX10_settle_45 rfl ?_
                refine x_dup (pc := 46) dX10_settle_46 rfl ?_
                refine x_getI (pc := 47) dX10_settle_47 flX10_83 (by first | assumption | rfl) rfl ?_
                rw [h24]
                refine x_iconstN (pc := 50) 1 dX10_settle_50 ic_1 ?_
                first | (guard_target =~ Wp _ _ _ _ _ (Value.int (nI _) :: Value.int (nI _) :: _) _ _ _ _; with_reducible refine x_isubN (pc := 51) ?_ dX10_settle_51 ?_; omega) | refine x_isub (pc := 51) dX10_settle_51 ?_
                refine x_putI (pc := 52) dX10_settle_52 flX10_83 (by first | assumption | rfl) rfl rfl rfl ?_
                refine x_aload_n (pc := 55) dX10_settle_55 rfl ?_
                refine x_aload_n (pc := 56) dX10_settle_56 rfl ?_
                refine x_getR (pc := 57) dX10_settle_57 flX10_77 (by first | assumption | rfl) rfl ?_
                refine x_aload_n (pc := 60) dX10_settle_60 rfl ?_
                refine x_getI (pc := 61) dX10_settle_61 flX10_83 (by first | assumption | rfl) rfl ?_
                rw [show (xput M 65 24 (nI (V.length + 1 - 1))).1 65 24 = nI V.length from rfl]
                refine x_ialdN (pc := 64) dX10_settle_64 (by first | assumption | rfl) (by first | with_reducible rfl | (simp only [xlit, nI_add, pk_mul]; with_reducible rfl)) (by omega) (by decide) ?_
                rw [show (xput M 65 24 (nI (V.length + 1 - 1))).1 79 V.length = nI v from h79]
                refine x_ineg (pc := 65) dX10_settle_65 ?_
                refine x_invV1 (pc := 66) dX10_settle_66 mlX10_282 imX10_emits seX10_emits kX10_emits (by first | assumption | rfl) rfl (Nat.le_of_ble_eq_true rfl) (by decide) ?_
                refine sm_emits (by omega) h23 ?_
                refine x_cn rfl rfl ?_
                refine x_goto (pc := 69) (tgt := 0) dX10_settle_69 (by decide) ?_
                exact gg
      · have hK0 : K none xSF M := hK M (by rw [stl, if_neg v38, if_neg v124, List.append_nil]; exact h)
        refine x_aload_n (pc := 0) dX10_settle_0 rfl ?_
        refine x_getI (pc := 1) dX10_settle_1 flX10_83 (by first | assumption | rfl) rfl ?_
        rw [h24]
        first | (guard_target =~ Wp _ _ _ _ _ (Value.int (nI _) :: _) _ _ _ _; with_reducible refine x_if_leN (pc := 4) (tgt := 72) ?_ dX10_settle_4 ?_ (fun h4 => ?_) (fun h4 => ?_); (first | omega | exact b2n_32 _ | exact b2n_31 _); decide) | refine x_if_le (pc := 4) (tgt := 72) dX10_settle_4 (by decide) (fun h4 => ?_) (fun h4 => ?_)
        · skip
          omega
        · skip
          refine x_aload_n (pc := 7) dX10_settle_7 rfl ?_
          refine x_getR (pc := 8) dX10_settle_8 flX10_77 (by first | assumption | rfl) rfl ?_
          refine x_aload_n (pc := 11) dX10_settle_11 rfl ?_
          refine x_getI (pc := 12) dX10_settle_12 flX10_83 (by first | assumption | rfl) rfl ?_
          rw [h24]
          refine x_iconstN (pc := 15) 1 dX10_settle_15 ic_1 ?_
          first | (guard_target =~ Wp _ _ _ _ _ (Value.int (nI _) :: Value.int (nI _) :: _) _ _ _ _; with_reducible refine x_isubN (pc := 16) ?_ dX10_settle_16 ?_; omega) | refine x_isub (pc := 16) dX10_settle_16 ?_
          refine x_ialdN (pc := 17) dX10_settle_17 (by first | assumption | rfl) (by first | with_reducible rfl | (simp only [xlit, nI_add, pk_mul]; with_reducible rfl)) (by omega) (by decide) ?_
          rw [show M.1 79 (V.length + 1 - 1) = nI v from h79]
          refine x_bipushN (pc := 18) 38 dX10_settle_18 bp_38 ?_
          first | (guard_target =~ Wp _ _ _ _ _ (Value.int (nI _) :: Value.int (nI _) :: _) _ _ _ _; with_reducible refine x_icmp_eqN (pc := 20) (tgt := 45) ?_ ?_ dX10_settle_20 ?_ (fun h20 => ?_) (fun h20 => ?_); (first | omega | exact b2n_31 _); (first | omega | exact b2n_31 _); decide) | refine x_icmp_eq (pc := 20) (tgt := 45) dX10_settle_20 (by decide) (fun h20 => ?_) (fun h20 => ?_)
          · skip
            exact absurd h20 v38
          · skip
            refine x_aload_n (pc := 23) dX10_settle_23 rfl ?_
            refine x_getR (pc := 24) dX10_settle_24 flX10_77 (by first | assumption | rfl) rfl ?_
            refine x_aload_n (pc := 27) dX10_settle_27 rfl ?_
            refine x_getI (pc := 28) dX10_settle_28 flX10_83 (by first | assumption | rfl) rfl ?_
            rw [h24]
            refine x_iconstN (pc := 31) 1 dX10_settle_31 ic_1 ?_
            first | (guard_target =~ Wp _ _ _ _ _ (Value.int (nI _) :: Value.int (nI _) :: _) _ _ _ _; with_reducible refine x_isubN (pc := 32) ?_ dX10_settle_32 ?_; omega) | refine x_isub (pc := 32) dX10_settle_32 ?_
            refine x_ialdN (pc := 33) dX10_settle_33 (by first | assumption | rfl) (by first | with_reducible rfl | (simp only [xlit, nI_add, pk_mul]; with_reducible rfl)) (by omega) (by decide) ?_
            rw [show M.1 79 (V.length + 1 - 1) = nI v from h79]
            refine x_bipushN (pc := 34) 124 dX10_settle_34 bp_124 ?_
            first | (guard_target =~ Wp _ _ _ _ _ (Value.int (nI _) :: Value.int (nI _) :: _) _ _ _ _; with_reducible refine x_icmp_neN (pc := 36) (tgt := 72) ?_ ?_ dX10_settle_36 ?_ (fun h36 => ?_) (fun h36 => ?_); (first | omega | exact b2n_31 _); (first | omega | exact b2n_31 _); decide) | refine x_icmp_ne (pc := 36) (tgt := 72) dX10_settle_36 (by decide) (fun h36 => ?_) (fun h36 => ?_)
            · skip
              refine x_ret (pc := 72) (v := none) rfl trivial dX10_settle_72 (by decide) ?_
              exact hK0
            · skip
              refine x_iload_n (pc := 39) dX10_settle_39 rfl ?_
              refine x_bipushN (pc := 40) 38 dX10_settle_40 bp_38 ?_
              first | (guard_target =~ Wp _ _ _ _ _ (Value.int (nI _) :: Value.int (nI _) :: _) _ _ _ _; with_reducible refine x_icmp_eqN (pc := 42) (tgt := 72) ?_ ?_ dX10_settle_42 ?_ (fun h42 => ?_) (fun h42 => ?_); (first | omega | exact b2n_31 _); (first | omega | exact b2n_31 _); decide) | refine x_icmp_eq (pc := 42) (tgt := 72) dX10_settle_42 (by decide) (fun h42 => ?_) (fun h42 => ?_)
              · skip
                refine x_ret (pc := 72) (v := none) rfl trivial dX10_settle_72 (by decide) ?_
                exact hK0
              · skip
                exact absurd ⟨h36, h42⟩ v124
  exact loop V M C hV h hK
theorem sm_isDigit (hT : CT M0 n t) (hN : PN M0 M sg ci p) (hp100 : p ≤ 100) (h : K (some (.int (nI (b2n (isD (chT n t p)))))) xSF M) : Ex g (d + 1) yX10_isDigit mX10_isDigit [.ref 65] xSF M K := by
  have hc := (hT.tx.2 p).2
  have hd : ∀ x, x < 129 → btw (srt x) (nI 48) (nI 57) = isD x := by decide +kernel
  refine x_entry kX10_isDigit (Nat.le_of_ble_eq_true rfl) ?_
  show Wp g _ mX10_isDigit 0 [some (.ref 65)] [] _ _ _ _
  refine x_aload_n (pc := 0) dX10_isDigit_0 rfl ?_
  refine x_aload_n (pc := 1) dX10_isDigit_1 rfl ?_
  refine x_invV0 (pc := 2) dX10_isDigit_2 mlX10_271 imX10_next seX10_next kX10_next (by first | assumption | rfl) rfl (Nat.le_of_ble_eq_true rfl) (by decide) ?_
  refine sm_next hT hN.1 hN.2 hp100 ?_
  refine x_cv rfl rfl ?_
  refine x_bipushN (pc := 5) 48 dX10_isDigit_5 bp_48 ?_
  refine x_bipushN (pc := 7) 57 dX10_isDigit_7 bp_57 ?_
  refine x_invV3 (pc := 9) dX10_isDigit_9 mlX10_253 imX10_in seX10_in kX10_in (by first | assumption | rfl) rfl (Nat.le_of_ble_eq_true rfl) (by decide) ?_
  refine sm_in ?_
  refine x_cv rfl rfl ?_
  rw [hd _ hc]
  refine x_ret (pc := 12) (v := some _) rfl (by first | rfl | decide | exact xrt_b) dX10_isDigit_12 (by decide) ?_
  exact h
end P92
