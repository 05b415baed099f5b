/-! what goes beside the two: the pure invariant; the script's cells -/
def okT (s : XSt) : Prop := (∀ t, t < 6 → sT s 0 t = 0 → sT s 1 t = 0) ∧ ∀ r, sMd s < r → sLn s r = 0
theorem okT_set {s : XSt} {c n : Int32} (h : okT s) : okT (opSet s c n).2 := by unfold opSet; (repeat' split) <;> exact h
theorem okT_goer {s : XSt} {a b c n : Int32} (h : okT s) : okT (opGoer s a b c n).2 := by unfold opGoer; (repeat' split) <;> exact h
theorem okT_move {s : XSt} {a b c : Int32} (h : okT s) : okT (opMove s a b c).2 := by unfold opMove; (repeat' split) <;> exact h
theorem okT_away {s : XSt} {a : Int32} {b : Bool} (h : okT s) : okT (opAway s a b).2 := by unfold opAway; (repeat' split) <;> exact h
theorem okT_stand {s : XSt} {a : Int32} {b : Bool} (h : okT s) : okT (opStand s a b).2 := by unfold opStand; (repeat' split) <;> exact h
theorem okT_row {s : XSt} {a b c : Int32} (h : okT s) : okT (opRow s a b c).2 := by unfold opRow; (repeat' split) <;> exact h
theorem okT_pass {s : XSt} {a : Int32} (h : okT s) : okT (opPass s a).2 := by unfold opPass; (repeat' split) <;> exact h
theorem okT_see {s : XSt} {a b c : Int32} (h : okT s) : okT (opSee s a b c).2 := by unfold opSee; (repeat' split) <;> exact h
theorem okT_plan {s : XSt} {a b : Int32} (h : okT s) : okT (opPlan s a b).2 := by unfold opPlan; (repeat' split) <;> exact h
theorem okT_book {s : XSt} {a b : Int32} (h : okT s) : okT (opBook s a b).2 := by unfold opBook; (repeat' split) <;> exact h
theorem okT_image {s : XSt} (h : okT s) : okT (opImage s).2 := h
theorem okT_undo {s : XSt} (h : okT s) : okT (opUndo s).2 := by unfold opUndo; (repeat' split) <;> exact h
theorem okT_act {s : XSt} {a b c : Int32} (h : okT s) : okT (opAct s a b c).2 := by unfold opAct; (repeat' split) <;> exact h
theorem okT_item {s : XSt} {a b : Int32} {v : Int64} (h : okT s) : okT (opItem s a b v).2 := by unfold opItem; (repeat' split) <;> exact h
theorem okT_shift {s : XSt} {a b c e f : Int32} (h : okT s) : okT (opShift s a b c e f).2 := by unfold opShift; (repeat' split) <;> exact h
theorem okT_feed {s : XSt} {a : Int32} (h : okT s) : okT (opFeed s a).2 := by
  unfold opFeed
  split
  · split
    · refine ⟨h.1, fun r hr => ?_⟩
      have hr' : sMd s < r := hr
      show up1 (sLn s) (sMd s) _ r = 0
      unfold up1; rw [if_neg (by omega)]; exact h.2 r hr'
    · exact h
  · exact h
theorem okT_room {s : XSt} (h : okT s) : okT (opRoom s).2 := by
  unfold opRoom
  split
  · exact h
  · split
    · refine ⟨h.1, fun r hr => ?_⟩
      have hr' : sMd s < r := hr
      show up1 (sLn s) (sMd s) _ r = 0
      unfold up1; rw [if_neg (by omega)]; exact h.2 r hr'
    · refine ⟨h.1, fun r hr => ?_⟩
      have hr' : sMd s + 1 < r := hr
      exact h.2 r (by omega)
theorem okT_tape {s : XSt} {a b c : Int32} (h : okT s) : okT (opTape s a b c).2 := by
  unfold opTape
  have up : ∀ k z I, (k = 0 → z = 0) → okT (tpSt s (updA (updA (sT s) 0 (toN a) k) 1 (toN a) z) I) := by
    intro k z I hz
    refine ⟨fun t ht h0 => ?_, h.2⟩
    have h0' : updA (updA (sT s) 0 (toN a) k) 1 (toN a) z 0 t = 0 := h0
    show updA (updA (sT s) 0 (toN a) k) 1 (toN a) z 1 t = 0
    unfold updA at h0' ⊢
    by_cases z2 : t = toN a
    · subst z2; simp at h0' ⊢; exact hz h0'
    · simp [z2] at h0' ⊢; exact h.1 t ht h0'
  split
  · split
    · split
      · exact up 0 0 _ (fun _ => rfl)
      · split
        · exact h
        · split
          · exact h
          · exact up _ _ _ (fun q => by omega)
    · exact h
  · exact h
theorem XC9.pre {M : XM} {s : XSt} (hC : XC9 M s) : bdA s.1.1 ∧ bdN (qN s) ∧ s.1.2.1 < 2 ^ s.1.1 8 0 ∧ (∀ j, 4 * s.1.1 8 0 ≤ j → j < 24 → s.1.1 5 j = 0) ∧ sMd s ≤ 6 ∧ sLn s (sMd s) ≤ 100 ∧ (∀ p, p < sLn s (sMd s) → sTx s (sMd s) p < 128) ∧ okM s ∧ (sTr s).length < 20000 ∧ (∀ q, s.2.1 = some q → bdN q.2.2.2.1) ∧ ∀ j, j < 16 → s.1.1 0 j < 10000 := by
  have hq := hC.2.1
  have hm := hC.2.2.2.1
  have hm6 : sMd s ≤ 6 := hm.2.1
  refine ⟨hq.1, hq.2.1, hq.2.2.2.1, hq.2.2.2.2.1.2.2.2, hm6, (hm.2.2 (sMd s) hm6).2.1, fun p hp => ((hm.2.2 (sMd s) hm6).2.2 p hp).2, ⟨hq, hm6⟩, hC.2.2.2.2.2.2.1, fun q hs => ?_, hq.2.2.1.1⟩
  have hI := hC.2.2.1
  rw [hs] at hI
  exact hI.2.2.2.1
theorem vBest_uniq {s : XSt} {w v v' : Int32} (h : vBest s w v) (h' : vBest s w v') : v = v' := by
  unfold vBest at h h'
  by_cases h0 : w = 0
  · rw [if_pos h0] at h h'
    obtain ⟨o, l, h1, rfl⟩ := h
    obtain ⟨o', l', h1', rfl⟩ := h'
    rw [bstI_uniq h1 h1']
  · rw [if_neg h0] at h h'
    by_cases h1 : w = 1
    · rw [if_pos h1] at h h'; rw [h, h']
    · rw [if_neg h1] at h h'; rw [h, h']
section P98
variable {g : XG} {d : Nat} {m : XMe} {pc : Nat} {ls : XL} {st : List Value} {S : XS} {B : Nat × Nat} {M : XM} {K : Option Value → XS → XM → Prop}
theorem x_cvB {v : Value} {n1 n2 b1 b2 : Nat} (h1 : n1 = b1) (h2 : n2 = b2) (k : Wp g d m pc ls (v :: st) S (b1, b2) M K) : Wp g d m pc ls ((some v).toList ++ st) S (n1, n2) M K := by subst h1; subst h2; exact k
theorem x_scrN {j : Nat} (hd : decode m.2.1 pc = .ok (.iaload, 1)) (hj : j < (xscr g).2.1 ∧ (xscr g).2.1 ≤ 3072) (k : Wp g d m (pc + 1) ls (.int ((xscr g).2.2 j) :: st) S B M K) : Wp g d m pc ls (.int (nI j) :: .ref 5000 :: st) S B M K := by
  refine x_scrI hd (vp_in_nI hj.1 (by omega)) ?_
  rw [nI_clamp (by omega)]; exact k
end P98
