/-! SEARCH of the program: the layers, the way -/
/-- outside lo .. hi-1 nothing changes, longs neither -/
def xsame (lo hi : Nat) (M M' : XM) : Prop := (∀ q, (q < lo ∨ hi ≤ q) → M'.1 q = M.1 q) ∧ M'.2 = M.2
theorem xsame.rf {lo hi : Nat} {M : XM} : xsame lo hi M M := ⟨fun _ _ => rfl, rfl⟩
theorem xsame.tr {lo hi : Nat} {M M1 M2 : XM} (h : xsame lo hi M M1) (h2 : xsame lo hi M1 M2) : xsame lo hi M M2 := ⟨fun q a => (h2.1 q a).trans (h.1 q a), h2.2.trans h.2⟩
theorem xsame.wide {lo hi lo' hi' : Nat} {M M' : XM} (h : xsame lo hi M M') (h1 : lo' ≤ lo) (h2 : hi ≤ hi') : xsame lo' hi' M M' := ⟨fun q a => h.1 q (by omega), h.2⟩
theorem xsame.put {lo hi a k : Nat} {x : Int32} {M : XM} (h1 : lo ≤ a) (h2 : a < hi) : xsame lo hi M (xput M a k x) := by
  refine ⟨fun q hq => ?_, rfl⟩
  have h3 : ¬ q = a := by omega
  funext j
  simp [xput, h3]
theorem xput_at {M : XM} {a k : Nat} {x : Int32} : (xput M a k x).1 a k = x := by simp [xput]
theorem xput_ne {M : XM} {a k b j : Nat} {x : Int32} (h : b ≠ a ∨ j ≠ k) : (xput M a k x).1 b j = M.1 b j := by
  have : ¬ (b = a ∧ j = k) := by omega
  simp [xput, this]
section PTH
variable {fr : Nat → Bool} {t : Nat}
theorem pth_0 {s c : Nat} : (pth fr t s c).getD 0 0 = c := by cases s <;> rfl
theorem pth_get (ht : t < 16) : ∀ {s c : Nat}, c < 16 → Dd fr t c = some s → ∀ k, k ≤ s → (pth fr t s c).getD k 0 < 16 ∧ Dd fr t ((pth fr t s c).getD k 0) = some (s - k) ∧ ∀ j, k = j + 1 → (pth fr t s c).getD k 0 = pnx fr t (s - k) ((pth fr t s c).getD j 0) := by
  intro s
  induction s with
  | zero =>
    intro c hc hd k hk
    obtain rfl : k = 0 := by omega
    exact ⟨hc, hd, fun j hj => by omega⟩
  | succ s ih =>
    intro c hc hd k hk
    obtain ⟨p1, p2, p3, -⟩ := pnx_spec hc ht hd
    cases k with
    | zero => exact ⟨hc, hd, fun j hj => by omega⟩
    | succ k =>
      obtain ⟨q1, q2, q3⟩ := ih p1 p3 k (by omega)
      have e : (pth fr t (s + 1) c).getD (k + 1) 0 = (pth fr t s (pnx fr t s c)).getD k 0 := by rw [pth, List.getD_cons_succ]
      rw [e, show s + 1 - (k + 1) = s - k by omega]
      refine ⟨q1, q2, fun j hj => ?_⟩
      obtain rfl : j = k := by omega
      cases j with
      | zero => rw [pth_0, show (pth fr t (s + 1) c).getD 0 0 = c from pth_0]; rfl
      | succ j =>
        rw [q3 j rfl]
        congr 1
/-- what the program takes is the next cell of the way -/
theorem fst_next {F p s : Nat} (hF : F < 65536) (ht : t < 16) (hp : p < 16) (hd : Dd (fun q => F.testBit q) t p = some (s + 1)) :
    xfst (nxt (2 ^ p) &&& (lyB F t s).1) = nI (pnx (fun q => F.testBit q) t s p) := by
  obtain ⟨p1, p2, p3, p4⟩ := pnx_spec hp ht hd
  unfold xfst
  rw [fstF_lst]
  have e : lst (fun k => (nxt (2 ^ p) &&& (lyB F t s).1).testBit k) 16 0 = some (pnx (fun q => F.testBit q) t s p) := by
    have hb : ∀ b, b < 16 → (nxt (2 ^ p) &&& (lyB F t s).1).testBit b = (adj p b && decide (Dd (fun q => F.testBit q) t b = some s)) := by
      intro b hb
      have h1 : (nxt (2 ^ p)).testBit b = adj p b := by
        rw [nxt_tb (two_lt hp) b hb, Bool.eq_iff_iff, anyN_iff]
        constructor
        · rintro ⟨a, ha, h2⟩
          rw [two_tb, Bool.and_eq_true, decide_eq_true_eq] at h2
          rw [h2.1]; exact h2.2
        · intro h2
          exact ⟨p, hp, by rw [two_tb, h2]; simp⟩
      have h2 : (lyB F t s).1.testBit b = decide (Dd (fun q => F.testBit q) t b = some s) := by
        rw [(lyB_tb hF ht s b hb).2, Bool.eq_iff_iff, decide_eq_true_eq, Dd_iff hb ht, Bool.and_eq_true]
        constructor
        · rintro ⟨g1, g2⟩
          refine ⟨g1, fun k hk => ?_⟩
          cases s with
          | zero => omega
          | succ q =>
            have g3 : Rr (fun q => F.testBit q) t q b = false := by simpa using g2
            cases hq : Rr (fun q => F.testBit q) t k b with
            | false => rfl
            | true => rw [Rr_mono (show k ≤ q by omega) hq] at g3; cases g3
        · rintro ⟨g1, g2⟩
          refine ⟨g1, ?_⟩
          cases s with
          | zero => rfl
          | succ q => simp [g2 q (by omega)]
      rw [Nat.testBit_and, h1, h2]
    refine lst_of (Nat.zero_le _) (by omega) ?_ (fun k _ hk => ?_)
    · rw [hb _ p1, p2, decide_eq_true p3]; rfl
    · rw [hb k (by omega)]; exact p4 k hk
  rw [e]
  rfl
end PTH
section P18
variable {g : XG} {d : Nat} {M : XM} {K : Option Value → XS → XM → Prop} {q : Nat}
theorem walk_path {F f t s : Nat} (hF : F < 65536) (hf : f < 16) (ht : t < 16)
    (hq0 : xSF[q]? = some (.inr (7, [some (.ref (q + 1)), some (.ref (q + 2))]))) (hq1 : xSF[q + 1]? = some (.inl (0, 16))) (hq2 : xSF[q + 2]? = some (.inl (0, 16)))
    (hd : Dd (fun c => F.testBit c) t f = some s) (hL : ∀ j, j ≤ s → M.1 (q + 1) j = nI (lyB F t j).1) (r5 : Int32) (o6 : Option Value)
    (h : ∀ M', xsame (q + 1) (q + 3) M M' → (∀ j, j ≤ s → M'.1 (q + 2) j = nI ((pth (fun c => F.testBit c) t s f).getD j 0)) → K (some (.int (nI (s + 1)))) xSF M') :
    Wp g (d + 1) mX7_walk 102 [some (.ref q), some (.int (nI f)), some (.int (nI t)), some (.int (nI F)), some (.int (nI s)), some (.int r5), o6] [] xSF (0, 0) M K := by
  have hs16 := Dd_lt hd
  have hP := fun k hk => pth_get ht hf hd k hk
  have loop : ∀ n k M1, k + n = s + 1 → 1 ≤ k → xsame (q + 1) (q + 3) M M1 → (∀ j, M1.1 (q + 1) j = M.1 (q + 1) j) → (∀ j, j < k → M1.1 (q + 2) j = nI ((pth (fun c => F.testBit c) t s f).getD j 0)) → Wp g (d + 1) mX7_walk 112 [some (.ref q), some (.int (nI f)), some (.int (nI t)), some (.int (nI F)), some (.int (nI s)), some (.int r5), some (.int (nI k))] [] xSF (0, 0) M1 K := by
    intro n
    induction n with
    | zero =>
      intro k M1 hk h1 hs hl hp
      refine x_iload (pc := 112) dX7_walk_112 rfl ?_
      refine x_iload (pc := 114) dX7_walk_114 rfl ?_
      first | (guard_target =~ Wp _ _ _ _ _ (Value.int (nI _) :: Value.int (nI _) :: _) _ _ _ _; with_reducible refine x_icmp_gtN (pc := 116) (tgt := 160) ?_ ?_ dX7_walk_116 ?_ (fun h116 => ?_) (fun h116 => ?_); (first | omega | exact b2n_31 _); (first | omega | exact b2n_31 _); decide) | refine x_icmp_gt (pc := 116) (tgt := 160) dX7_walk_116 (by decide) (fun h116 => ?_) (fun h116 => ?_)
      · skip
        refine x_iload (pc := 160) dX7_walk_160 rfl ?_
        refine x_iconstN (pc := 162) 1 dX7_walk_162 ic_1 ?_
        first | (guard_target =~ Wp _ _ _ _ _ (Value.int (nI _) :: Value.int (nI _) :: _) _ _ _ _; with_reducible refine x_iaddN (pc := 163) dX7_walk_163 ?_) | refine x_iadd (pc := 163) dX7_walk_163 ?_
        refine x_ret (pc := 164) (v := some _) rfl trivial dX7_walk_164 (by decide) ?_
        exact h M1 hs (fun j hj => hp j (by omega))
      · skip
        omega
    | succ n ih =>
      intro k M1 hk h1 hs hl hp
      obtain ⟨k', rfl⟩ : ∃ k', k = k' + 1 := ⟨k - 1, by omega⟩
      obtain ⟨g1, g2, -⟩ := hP k' (by omega)
      obtain ⟨g3, g4, g5⟩ := hP (k' + 1) (by omega)
      have e1 : k' + 1 - 1 = k' := by omega
      have hp16 := two_lt g1
      have ea : nxt (2 ^ ((pth (fun c => F.testBit c) t s f).getD k' 0)) &&& (lyB F t (s - (k' + 1))).1 < 65536 := Nat.lt_of_le_of_lt Nat.and_le_left (nxt_lt _)
      have ef := fst_next hF ht g1 (s := s - (k' + 1)) (by rw [g2]; congr 1; omega)
      refine x_iload (pc := 112) dX7_walk_112 rfl ?_
      refine x_iload (pc := 114) dX7_walk_114 rfl ?_
      first | (guard_target =~ Wp _ _ _ _ _ (Value.int (nI _) :: Value.int (nI _) :: _) _ _ _ _; with_reducible refine x_icmp_gtN (pc := 116) (tgt := 160) ?_ ?_ dX7_walk_116 ?_ (fun h116 => ?_) (fun h116 => ?_); (first | omega | exact b2n_31 _); (first | omega | exact b2n_31 _); decide) | refine x_icmp_gt (pc := 116) (tgt := 160) dX7_walk_116 (by decide) (fun h116 => ?_) (fun h116 => ?_)
      · skip
        omega
      · skip
        refine x_aload_n (pc := 119) dX7_walk_119 rfl ?_
        refine x_getR (pc := 120) dX7_walk_120 flX7_15 (by first | assumption | rfl) rfl ?_
        refine x_iload (pc := 123) dX7_walk_123 rfl ?_
        refine x_iconstN (pc := 125) 1 dX7_walk_125 ic_1 ?_
        refine x_aload_n (pc := 126) dX7_walk_126 rfl ?_
        refine x_getR (pc := 127) dX7_walk_127 flX7_15 (by first | assumption | rfl) rfl ?_
        refine x_iload (pc := 130) dX7_walk_130 rfl ?_
        refine x_iconstN (pc := 132) 1 dX7_walk_132 ic_1 ?_
        first | (guard_target =~ Wp _ _ _ _ _ (Value.int (nI _) :: Value.int (nI _) :: _) _ _ _ _; with_reducible refine x_isubN (pc := 133) ?_ dX7_walk_133 ?_; omega) | refine x_isub (pc := 133) dX7_walk_133 ?_
        rw [e1]
        refine x_ialdN (pc := 134) dX7_walk_134 (by first | assumption | rfl) (by first | with_reducible rfl | (simp only [xlit, nI_add, pk_mul]; with_reducible rfl)) (by omega) (by decide) ?_
        rw [hp k' (by omega)]
        first | (guard_target =~ Wp _ _ _ _ _ (Value.int (nI _) :: Value.int (nI _) :: _) _ _ _ _; with_reducible refine x_ishlN (pc := 135) ?_ dX7_walk_135 ?_; omega) | refine x_ishl (pc := 135) dX7_walk_135 ?_
        rw [Nat.one_mul]
        refine x_invS1 (pc := 136) dX7_walk_136 mlX7_24 stX3_nextTo kX3_nextTo (Nat.le_of_ble_eq_true rfl) (by decide) ?_
        refine sp_X3_nextTo hp16 ?_
        refine x_cv rfl rfl ?_
        refine x_aload_n (pc := 139) dX7_walk_139 rfl ?_
        refine x_getR (pc := 140) dX7_walk_140 flX7_9 (by first | assumption | rfl) rfl ?_
        refine x_iload (pc := 143) dX7_walk_143 rfl ?_
        refine x_iload (pc := 145) dX7_walk_145 rfl ?_
        first | (guard_target =~ Wp _ _ _ _ _ (Value.int (nI _) :: Value.int (nI _) :: _) _ _ _ _; with_reducible refine x_isubN (pc := 147) ?_ dX7_walk_147 ?_; omega) | refine x_isub (pc := 147) dX7_walk_147 ?_
        refine x_ialdN (pc := 148) dX7_walk_148 (by first | assumption | rfl) (by first | with_reducible rfl | (simp only [xlit, nI_add, pk_mul]; with_reducible rfl)) (by omega) (by decide) ?_
        rw [hl, hL _ (by omega)]
        first | (guard_target =~ Wp _ _ _ _ _ (Value.int (nI _) :: Value.int (nI _) :: _) _ _ _ _; with_reducible refine x_iandN (pc := 149) dX7_walk_149 ?_) | refine x_iand (pc := 149) dX7_walk_149 ?_
        refine x_invS1 (pc := 150) dX7_walk_150 mlX7_28 stX3_first kX3_first (Nat.le_of_ble_eq_true rfl) (by decide) ?_
        refine sp_X3_first (by omega) ?_
        refine x_cv rfl rfl ?_
        rw [ef, ← g5 k' rfl]
        refine x_iastN (pc := 153) dX7_walk_153 (by first | assumption | rfl) (by first | with_reducible rfl | (simp only [xlit, nI_add, pk_mul]; with_reducible rfl)) (by omega) (by decide) ?_
        first | (guard_target =~ Wp _ _ _ _ (_ :: _ :: _ :: _ :: _ :: _ :: some (Value.int (nI _)) :: _) _ _ _ _ _; with_reducible refine x_iincN (pc := 154) 1 ic_1 dX7_walk_154 ?_ xg_6 xs_6 ?_ ?_; decide; exact (x_hp rfl)) | refine x_iincC (pc := 154) ic_1 dX7_walk_154 (by decide) rfl xs_6 (x_hp rfl) ?_
        refine x_goto (pc := 157) (tgt := 112) dX7_walk_157 (by decide) ?_
        refine ih (k' + 1 + 1) _ (by omega) (by omega) (hs.tr (xsame.put (by omega) (by omega))) (fun j => ?_) (fun j hj => ?_)
        · rw [xput_ne (Or.inl (by omega))]; exact hl j
        · by_cases hjk : j = k' + 1
          · subst hjk; rw [xput_at]
          · rw [xput_ne (Or.inr hjk)]; exact hp j (by omega)
  refine x_aload_n (pc := 102) dX7_walk_102 rfl ?_
  refine x_getR (pc := 103) dX7_walk_103 flX7_15 (by first | assumption | rfl) rfl ?_
  refine x_iconstN (pc := 106) 0 dX7_walk_106 ic_0 ?_
  refine x_iload_n (pc := 107) dX7_walk_107 rfl ?_
  refine x_iastN (pc := 108) dX7_walk_108 (by first | assumption | rfl) (by first | with_reducible rfl | (simp only [xlit, nI_add, pk_mul]; with_reducible rfl)) (by omega) (by decide) ?_
  refine x_iconstN (pc := 109) 1 dX7_walk_109 ic_1 ?_
  refine x_istore (pc := 110) dX7_walk_110 (by decide) xs_6 (x_hp rfl) ?_
  refine loop s 1 _ (by omega) (by omega) (xsame.put (by omega) (by omega)) (fun j => xput_ne (Or.inl (by omega))) (fun j hj => ?_)
  obtain rfl : j = 0 := by omega
  rw [xput_at, pth_0]
theorem sp_X7_walk {F f t : Nat} (hF : F < 65536) (hf : f < 16) (ht : t < 16)
    (hq0 : xSF[q]? = some (.inr (7, [some (.ref (q + 1)), some (.ref (q + 2))]))) (hq1 : xSF[q + 1]? = some (.inl (0, 16))) (hq2 : xSF[q + 2]? = some (.inl (0, 16)))
    (h : ∀ M', xsame (q + 1) (q + 3) M M' → (∀ j, j < (wy (fun c => F.testBit c) f t).length → M'.1 (q + 2) j = nI ((wy (fun c => F.testBit c) f t).getD j 0)) → K (some (.int (nI (wy (fun c => F.testBit c) f t).length))) xSF M') :
    Ex g (d + 1) yX7_walk mX7_walk [.ref q, .int (nI f), .int (nI t), .int (nI F)] xSF M K := by
  refine x_entry kX7_walk (Nat.le_of_ble_eq_true rfl) ?_
  show Wp g _ mX7_walk 0 [some (.ref q), some (.int (nI f)), some (.int (nI t)), some (.int (nI F)), none, none, none] [] _ _ _ _
  have tbF : ∀ c, c < 16 → tb (nI F) c = F.testBit c := fun c hc => tb_nI (by omega)
  have hnone : (F.testBit f && F.testBit t) = false → wy (fun c => F.testBit c) f t = [] := fun h0 => by unfold wy; rw [if_neg (by show ¬ (F.testBit f && F.testBit t) = true; rw [h0]; decide)]
  have hno : wy (fun c => F.testBit c) f t = [] → K (some (.int (nI 0))) xSF M := fun e => by
    have h2 := h M xsame.rf (fun j hj => by rw [e] at hj; cases hj)
    rw [e] at h2; exact h2
  by_cases hft : (F.testBit f && F.testBit t) = true
  · rw [Bool.and_eq_true] at hft
    obtain ⟨h1f, h1t⟩ := hft
    have hwy : wy (fun c => F.testBit c) f t = (match Dd (fun c => F.testBit c) t f with
      | none => []
      | some s => pth (fun c => F.testBit c) t s f) := by unfold wy; rw [if_pos (by show (F.testBit f && F.testBit t) = true; rw [h1f, h1t]; rfl)]; cases Dd (fun c => F.testBit c) t f <;> rfl
    have h2t := two_lt ht
    have exit : ∀ s M1 o6, s ≤ 15 → xsame (q + 1) (q + 3) M M1 → (∀ j, j ≤ s → M1.1 (q + 1) j = nI (lyB F t j).1) → (∀ k, k < s → Rr (fun c => F.testBit c) t k f = false) → (s = 15 ∨ Rr (fun c => F.testBit c) t s f = true) →
        Wp g (d + 1) mX7_walk 91 [some (.ref q), some (.int (nI f)), some (.int (nI t)), some (.int (nI F)), some (.int (nI s)), some (.int (nI (lyB F t s).2)), o6] [] xSF (0, 0) M1 K := by
      intro s M1 o6 hs hsm hL hprev hor
      have hr := (lyB_lt hF ht s).2
      have etb : tb (nI (lyB F t s).2) f = Rr (fun c => F.testBit c) t s f := by rw [tb_nI (by omega)]; exact (lyB_tb hF ht s f hf).1
      refine x_iload (pc := 91) dX7_walk_91 rfl ?_
      refine x_iload_n (pc := 93) dX7_walk_93 rfl ?_
      refine x_invS2 (pc := 94) dX7_walk_94 mlX7_18 stX3_has kX3_has (Nat.le_of_ble_eq_true rfl) (by decide) ?_
      refine sp_X3_has (by omega) ?_
      refine x_cv rfl rfl ?_
      rw [etb]
      first | (guard_target =~ Wp _ _ _ _ _ (Value.int (nI _) :: _) _ _ _ _; with_reducible refine x_if_neN (pc := 97) (tgt := 102) ?_ dX7_walk_97 ?_ (fun h97 => ?_) (fun h97 => ?_); (first | omega | exact b2n_32 _ | exact b2n_31 _); decide) | refine x_if_ne (pc := 97) (tgt := 102) dX7_walk_97 (by decide) (fun h97 => ?_) (fun h97 => ?_)
      · skip
        have hrf := b2n_1 h97
        have hds : Dd (fun c => F.testBit c) t f = some s := (Dd_iff hf ht).mpr ⟨hrf, hprev⟩
        rw [hds] at hwy
        have hwy2 : wy (fun c => F.testBit c) f t = pth (fun c => F.testBit c) t s f := hwy
        exact walk_path hF hf ht hq0 hq1 hq2 hds hL _ _ (fun M' hs' hp => by
          have h2 := h M' (hsm.tr hs') (fun j hj => by rw [hwy2, pth_len] at hj; rw [hwy2]; exact hp j (by omega))
          rw [hwy2, pth_len] at h2; exact h2)
      · skip
        refine x_iconstN (pc := 100) 0 dX7_walk_100 ic_0 ?_
        refine x_ret (pc := 101) (v := some _) rfl trivial dX7_walk_101 (by decide) ?_
        have hrf := b2n_0 h97
        have hdn : Dd (fun c => F.testBit c) t f = none := by
          cases hdd : Dd (fun c => F.testBit c) t f with
          | none => rfl
          | some j =>
            have g1 := ((Dd_iff hf ht).mp hdd).1
            have g2 := Dd_lt hdd
            rcases hor with h15 | h15
            · rw [Rr_mono (show j ≤ s by omega) g1] at hrf; cases hrf
            · rw [h15] at hrf; cases hrf
        rw [hdn] at hwy
        have h2 := h M1 hsm (fun j hj => by rw [hwy] at hj; cases hj)
        rw [hwy] at h2; exact h2
    have loop : ∀ n s M1 o6, s + n = 15 → xsame (q + 1) (q + 3) M M1 → (∀ j, j ≤ s → M1.1 (q + 1) j = nI (lyB F t j).1) → (∀ k, k < s → Rr (fun c => F.testBit c) t k f = false) →
        Wp g (d + 1) mX7_walk 34 [some (.ref q), some (.int (nI f)), some (.int (nI t)), some (.int (nI F)), some (.int (nI s)), some (.int (nI (lyB F t s).2)), o6] [] xSF (0, 0) M1 K := by
      intro n
      induction n with
      | zero =>
        intro s M1 o6 hs hsm hL hprev
        refine x_iload (pc := 34) dX7_walk_34 rfl ?_
        refine x_bipushN (pc := 36) 15 dX7_walk_36 bp_15 ?_
        first | (guard_target =~ Wp _ _ _ _ _ (Value.int (nI _) :: Value.int (nI _) :: _) _ _ _ _; with_reducible refine x_icmp_geN (pc := 38) (tgt := 91) ?_ ?_ dX7_walk_38 ?_ (fun h38 => ?_) (fun h38 => ?_); (first | omega | exact b2n_31 _); (first | omega | exact b2n_31 _); decide) | refine x_icmp_ge (pc := 38) (tgt := 91) dX7_walk_38 (by decide) (fun h38 => ?_) (fun h38 => ?_)
        · skip
          exact exit s M1 o6 (by omega) hsm hL hprev (Or.inl (by omega))
        · skip
          omega
      | succ n ih =>
        intro s M1 o6 hs hsm hL hprev
        have hr := (lyB_lt hF ht s).2
        have hr1 := (lyB_lt hF ht s).1
        have etb : tb (nI (lyB F t s).2) f = Rr (fun c => F.testBit c) t s f := by rw [tb_nI (by omega)]; exact (lyB_tb hF ht s f hf).1
        refine x_iload (pc := 34) dX7_walk_34 rfl ?_
        refine x_bipushN (pc := 36) 15 dX7_walk_36 bp_15 ?_
        first | (guard_target =~ Wp _ _ _ _ _ (Value.int (nI _) :: Value.int (nI _) :: _) _ _ _ _; with_reducible refine x_icmp_geN (pc := 38) (tgt := 91) ?_ ?_ dX7_walk_38 ?_ (fun h38 => ?_) (fun h38 => ?_); (first | omega | exact b2n_31 _); (first | omega | exact b2n_31 _); decide) | refine x_icmp_ge (pc := 38) (tgt := 91) dX7_walk_38 (by decide) (fun h38 => ?_) (fun h38 => ?_)
        · skip
          omega
        · skip
          refine x_iload (pc := 41) dX7_walk_41 rfl ?_
          refine x_iload_n (pc := 43) dX7_walk_43 rfl ?_
          refine x_invS2 (pc := 44) dX7_walk_44 mlX7_18 stX3_has kX3_has (Nat.le_of_ble_eq_true rfl) (by decide) ?_
          refine sp_X3_has (by omega) ?_
          refine x_cv rfl rfl ?_
          rw [etb]
          first | (guard_target =~ Wp _ _ _ _ _ (Value.int (nI _) :: _) _ _ _ _; with_reducible refine x_if_neN (pc := 47) (tgt := 91) ?_ dX7_walk_47 ?_ (fun h47 => ?_) (fun h47 => ?_); (first | omega | exact b2n_32 _ | exact b2n_31 _); decide) | refine x_if_ne (pc := 47) (tgt := 91) dX7_walk_47 (by decide) (fun h47 => ?_) (fun h47 => ?_)
          · skip
            exact exit s M1 o6 (by omega) hsm hL hprev (Or.inr (b2n_1 h47))
          · skip
            refine x_aload_n (pc := 50) dX7_walk_50 rfl ?_
            refine x_getR (pc := 51) dX7_walk_51 flX7_9 (by first | assumption | rfl) rfl ?_
            refine x_iload (pc := 54) dX7_walk_54 rfl ?_
            refine x_ialdN (pc := 56) dX7_walk_56 (by first | assumption | rfl) (by first | with_reducible rfl | (simp only [xlit, nI_add, pk_mul]; with_reducible rfl)) (by omega) (by decide) ?_
            rw [hL s (Nat.le_refl s)]
            refine x_invS1 (pc := 57) dX7_walk_57 mlX7_24 stX3_nextTo kX3_nextTo (Nat.le_of_ble_eq_true rfl) (by decide) ?_
            refine sp_X3_nextTo hr1 ?_
            refine x_cv rfl rfl ?_
            refine x_iload_n (pc := 60) dX7_walk_60 rfl ?_
            first | (guard_target =~ Wp _ _ _ _ _ (Value.int (nI _) :: Value.int (nI _) :: _) _ _ _ _; with_reducible refine x_iandN (pc := 61) dX7_walk_61 ?_) | refine x_iand (pc := 61) dX7_walk_61 ?_
            refine x_iload (pc := 62) dX7_walk_62 rfl ?_
            refine x_iconst (pc := 64) (v := nI 4294967295) dX7_walk_64 (by decide +kernel) ?_
            first | (guard_target =~ Wp _ _ _ _ _ (Value.int (nI _) :: Value.int (nI _) :: _) _ _ _ _; with_reducible refine x_ixorN (pc := 65) dX7_walk_65 ?_) | refine x_ixor (pc := 65) dX7_walk_65 ?_
            first | (guard_target =~ Wp _ _ _ _ _ (Value.int (nI _) :: Value.int (nI _) :: _) _ _ _ _; with_reducible refine x_iandN (pc := 66) dX7_walk_66 ?_) | refine x_iand (pc := 66) dX7_walk_66 ?_
            refine x_istore (pc := 67) dX7_walk_67 (by decide) xs_6 (x_hp rfl) ?_
            first | (guard_target =~ Wp _ _ _ _ (_ :: _ :: _ :: _ :: some (Value.int (nI _)) :: _) _ _ _ _ _; with_reducible refine x_iincN (pc := 69) 1 ic_1 dX7_walk_69 ?_ xg_4 xs_4 ?_ ?_; decide; exact (x_hp rfl)) | refine x_iincC (pc := 69) ic_1 dX7_walk_69 (by decide) rfl xs_4 (x_hp rfl) ?_
            refine x_aload_n (pc := 72) dX7_walk_72 rfl ?_
            refine x_getR (pc := 73) dX7_walk_73 flX7_9 (by first | assumption | rfl) rfl ?_
            refine x_iload (pc := 76) dX7_walk_76 rfl ?_
            refine x_iload (pc := 78) dX7_walk_78 rfl ?_
            refine x_iastN (pc := 80) dX7_walk_80 (by first | assumption | rfl) (by first | with_reducible rfl | (simp only [xlit, nI_add, pk_mul]; with_reducible rfl)) (by omega) (by decide) ?_
            refine x_iload (pc := 81) dX7_walk_81 rfl ?_
            refine x_iload (pc := 83) dX7_walk_83 rfl ?_
            first | (guard_target =~ Wp _ _ _ _ _ (Value.int (nI _) :: Value.int (nI _) :: _) _ _ _ _; with_reducible refine x_iorN (pc := 85) dX7_walk_85 ?_) | refine x_ior (pc := 85) dX7_walk_85 ?_
            refine x_istore (pc := 86) dX7_walk_86 (by decide) xs_5 (x_hp rfl) ?_
            refine x_goto (pc := 88) (tgt := 34) dX7_walk_88 (by decide) ?_
            refine ih (s + 1) _ _ (by omega) (hsm.tr (xsame.put (by omega) (by omega))) (fun j hj => ?_) (fun k hk => ?_)
            · by_cases hjs : j = s + 1
              · subst hjs; rw [xput_at]; rfl
              · rw [xput_ne (Or.inr hjs)]; exact hL j (by omega)
            · by_cases hks : k = s
              · subst hks; exact b2n_0 h47
              · exact hprev k (by omega)
    refine x_iload_n (pc := 0) dX7_walk_0 rfl ?_
    refine x_iload_n (pc := 1) dX7_walk_1 rfl ?_
    refine x_invS2 (pc := 2) dX7_walk_2 mlX7_18 stX3_has kX3_has (Nat.le_of_ble_eq_true rfl) (by decide) ?_
    refine sp_X3_has (by omega) ?_
    refine x_cv rfl rfl ?_
    rw [tbF f hf, h1f]
    first | (guard_target =~ Wp _ _ _ _ _ (Value.int (nI _) :: _) _ _ _ _; with_reducible refine x_if_eqN (pc := 5) (tgt := 16) ?_ dX7_walk_5 ?_ (fun h5 => ?_) (fun h5 => ?_); (first | omega | exact b2n_32 _ | exact b2n_31 _); decide) | refine x_if_eq (pc := 5) (tgt := 16) dX7_walk_5 (by decide) (fun h5 => ?_) (fun h5 => ?_)
    · skip
      exact absurd h5 (by decide)
    · skip
      refine x_iload_n (pc := 8) dX7_walk_8 rfl ?_
      refine x_iload_n (pc := 9) dX7_walk_9 rfl ?_
      refine x_invS2 (pc := 10) dX7_walk_10 mlX7_18 stX3_has kX3_has (Nat.le_of_ble_eq_true rfl) (by decide) ?_
      refine sp_X3_has (by omega) ?_
      refine x_cv rfl rfl ?_
      rw [tbF t ht, h1t]
      first | (guard_target =~ Wp _ _ _ _ _ (Value.int (nI _) :: _) _ _ _ _; with_reducible refine x_if_neN (pc := 13) (tgt := 18) ?_ dX7_walk_13 ?_ (fun h13 => ?_) (fun h13 => ?_); (first | omega | exact b2n_32 _ | exact b2n_31 _); decide) | refine x_if_ne (pc := 13) (tgt := 18) dX7_walk_13 (by decide) (fun h13 => ?_) (fun h13 => ?_)
      · skip
        refine x_iconstN (pc := 18) 0 dX7_walk_18 ic_0 ?_
        refine x_istore (pc := 19) dX7_walk_19 (by decide) xs_4 (x_hp rfl) ?_
        refine x_iconstN (pc := 21) 1 dX7_walk_21 ic_1 ?_
        refine x_iload_n (pc := 22) dX7_walk_22 rfl ?_
        first | (guard_target =~ Wp _ _ _ _ _ (Value.int (nI _) :: Value.int (nI _) :: _) _ _ _ _; with_reducible refine x_ishlN (pc := 23) ?_ dX7_walk_23 ?_; omega) | refine x_ishl (pc := 23) dX7_walk_23 ?_
        rw [Nat.one_mul]
        refine x_istore (pc := 24) dX7_walk_24 (by decide) xs_5 (x_hp rfl) ?_
        refine x_aload_n (pc := 26) dX7_walk_26 rfl ?_
        refine x_getR (pc := 27) dX7_walk_27 flX7_9 (by first | assumption | rfl) rfl ?_
        refine x_iconstN (pc := 30) 0 dX7_walk_30 ic_0 ?_
        refine x_iload (pc := 31) dX7_walk_31 rfl ?_
        refine x_iastN (pc := 33) dX7_walk_33 (by first | assumption | rfl) (by first | with_reducible rfl | (simp only [xlit, nI_add, pk_mul]; with_reducible rfl)) (by omega) (by decide) ?_
        refine loop 15 0 _ none (by omega) (xsame.put (by omega) (by omega)) (fun j hj => ?_) (fun k hk => by omega)
        obtain rfl : j = 0 := by omega
        rw [xput_at]; rfl
      · skip
        exact absurd h13 (by decide)
  · have hft2 : (F.testBit f && F.testBit t) = false := by simpa using hft
    have hK := hno (hnone hft2)
    refine x_iload_n (pc := 0) dX7_walk_0 rfl ?_
    refine x_iload_n (pc := 1) dX7_walk_1 rfl ?_
    refine x_invS2 (pc := 2) dX7_walk_2 mlX7_18 stX3_has kX3_has (Nat.le_of_ble_eq_true rfl) (by decide) ?_
    refine sp_X3_has (by omega) ?_
    refine x_cv rfl rfl ?_
    rw [tbF f hf]
    first | (guard_target =~ Wp _ _ _ _ _ (Value.int (nI _) :: _) _ _ _ _; with_reducible refine x_if_eqN (pc := 5) (tgt := 16) ?_ dX7_walk_5 ?_ (fun h5 => ?_) (fun h5 => ?_); (first | omega | exact b2n_32 _ | exact b2n_31 _); decide) | refine x_if_eq (pc := 5) (tgt := 16) dX7_walk_5 (by decide) (fun h5 => ?_) (fun h5 => ?_)
    · skip
      refine x_iconstN (pc := 16) 0 dX7_walk_16 ic_0 ?_
      refine x_ret (pc := 17) (v := some _) rfl trivial dX7_walk_17 (by decide) ?_
      exact hK
    · skip
      refine x_iload_n (pc := 8) dX7_walk_8 rfl ?_
      refine x_iload_n (pc := 9) dX7_walk_9 rfl ?_
      refine x_invS2 (pc := 10) dX7_walk_10 mlX7_18 stX3_has kX3_has (Nat.le_of_ble_eq_true rfl) (by decide) ?_
      refine sp_X3_has (by omega) ?_
      refine x_cv rfl rfl ?_
      rw [tbF t ht]
      first | (guard_target =~ Wp _ _ _ _ _ (Value.int (nI _) :: _) _ _ _ _; with_reducible refine x_if_neN (pc := 13) (tgt := 18) ?_ dX7_walk_13 ?_ (fun h13 => ?_) (fun h13 => ?_); (first | omega | exact b2n_32 _ | exact b2n_31 _); decide) | refine x_if_ne (pc := 13) (tgt := 18) dX7_walk_13 (by decide) (fun h13 => ?_) (fun h13 => ?_)
      · skip
        rw [b2n_1 h5, b2n_1 h13] at hft2; cases hft2
      · skip
        refine x_iconstN (pc := 16) 0 dX7_walk_16 ic_0 ?_
        refine x_ret (pc := 17) (v := some _) rfl trivial dX7_walk_17 (by decide) ?_
        exact hK
end P18
