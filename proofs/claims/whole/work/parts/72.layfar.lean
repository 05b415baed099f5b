/-! the MODEL: what is free, how far each cell is -/
/-- the present as methods inside a call see it -/
def MNow (M : XM) (A : XA) (W : Nat) : Prop := M.1 65 0 = nI (A 8 0) ∧ M.1 65 1 = nI W ∧ M.1 65 2 = nI (A 10 0) ∧ M.1 65 3 = nI (A 11 0) ∧ ∀ k, k < 6 → ∀ j, j < clen k → M.1 (66 + k) j = nI (A k j)
theorem MPq.mq {M : XM} {q : XQ} (h : MPq M q) : MNow M q.1 q.2.1 := ⟨h.1, h.2.1, h.2.2.1, h.2.2.2.1, h.2.2.2.2.2.1⟩
/-- only the places p change -/
def only (p : Nat → Nat → Bool) (M M' : XM) : Prop := (∀ a k, p a k = false → M'.1 a k = M.1 a k) ∧ M'.2 = M.2
theorem only.rf {p : Nat → Nat → Bool} {M : XM} : only p M M := ⟨fun _ _ _ => rfl, rfl⟩
theorem only.tr {p : Nat → Nat → Bool} {M M1 M2 : XM} (h : only p M M1) (h2 : only p M1 M2) : only p M M2 := ⟨fun a k q => (h2.1 a k q).trans (h.1 a k q), h2.2.trans h.2⟩
theorem only.put {p : Nat → Nat → Bool} {M : XM} {a k : Nat} {x : Int32} (h : p a k = true) : only p M (xput M a k x) := ⟨fun b j q => if_neg (fun z => by rw [z.1, z.2, h] at q; cases q), rfl⟩
theorem only.wide {p p' : Nat → Nat → Bool} {M M' : XM} (h : only p M M') (hp : ∀ a k, p a k = true → p' a k = true) : only p' M M' := ⟨fun a k q => h.1 a k (by cases z : p a k; rfl; rw [hp a k z] at q; cases q), h.2⟩
theorem only.row {p : Nat → Nat → Bool} {M M' : XM} {a : Nat} (h : only p M M') (ha : ∀ k, p a k = false) : M'.1 a = M.1 a := funext fun k => h.1 a k (ha k)
def wQ (a k : Nat) : Bool := (a == 65 && (k == 0 || k == 1 || k == 2 || k == 3)) || (decide (66 ≤ a) && decide (a ≤ 71))
theorem MNow.keep {p : Nat → Nat → Bool} {M M' : XM} {A : XA} {W : Nat} (h : MNow M A W) (hs : only p M M') (hp : ∀ a k, wQ a k = true → p a k = false) : MNow M' A W := by
  have e : ∀ a k, wQ a k = true → M'.1 a k = M.1 a k := fun a k q => hs.1 a k (hp a k q)
  refine ⟨(e 65 0 rfl).trans h.1, (e 65 1 rfl).trans h.2.1, (e 65 2 rfl).trans h.2.2.1, (e 65 3 rfl).trans h.2.2.2.1, fun k hk j hj => ?_⟩
  rw [e (66 + k) j (by simp [wQ]; omega)]; exact h.2.2.2.2 k hk j hj
/-- the places of the ways; -/
def pW (a k : Nat) : Bool := a == 82 || a == 83 || a == 84 || (a == 65 && k == 31)
theorem pW_Q : ∀ a k, wQ a k = true → pW a k = false := by intro a k h; simp [wQ, pW] at h ⊢; omega
def frQ (A : XA) (gg : Nat) : Nat → Bool := fun c => (frB A gg).testBit c
theorem frQ_eq {A : XA} {gg c : Nat} (hc : c < 16) : frQ A gg c = (decide (A 1 gg = 2) || decide (A 1 gg = 5) || !(A 10 0).testBit c) := by
  have m : ∀ c, c < 16 → Nat.testBit 65535 c = true := by decide +kernel
  unfold frQ frB
  by_cases h : A 1 gg = 2 ∨ A 1 gg = 5
  · rw [if_pos h, m c hc]; rcases h with h | h <;> simp [h]
  · rw [if_neg h, Nat.testBit_and, m c hc, Nat.testBit_xor, neg_tb c hc]
    have h1 : ¬ A 1 gg = 2 := fun q => h (Or.inl q)
    have h2 : ¬ A 1 gg = 5 := fun q => h (Or.inr q)
    simp [h1, h2]
section P72
variable {g : XG} {d : Nat} {M : XM} {K : Option Value → XS → XM → Prop} {A : XA} {W gg : Nat}
theorem sm_isFree {c : Nat} (hB : bdA A) (hQ : MNow M A W) (hg : gg < 6) (hc : c < 16) (h : K (some (.int (nI (b2n (frQ A gg c))))) xSF M) : Ex g (d + 1) yX10_isFree mX10_isFree [.ref 65, .int (nI gg), .int (nI c)] xSF M K := by
  rw [frQ_eq hc] at h
  have hk : A 1 gg < 7 := hB.1 1 (by decide) gg (show gg < 6 by omega)
  have hk1 : M.1 67 gg = nI (A 1 gg) := hQ.2.2.2.2 1 (by decide) gg (show gg < 6 by omega)
  have hF := hB.2.2
  refine x_entry kX10_isFree (Nat.le_of_ble_eq_true rfl) ?_
  show Wp g _ mX10_isFree 0 [some (.ref 65), some (.int (nI gg)), some (.int (nI c))] [] _ _ _ _
  refine x_aload_n (pc := 0) dX10_isFree_0 rfl ?_
  refine x_getR (pc := 1) dX10_isFree_1 flX10_26 (by first | assumption | rfl) rfl ?_
  refine x_iload_n (pc := 4) dX10_isFree_4 rfl ?_
  refine x_ialdN (pc := 5) dX10_isFree_5 (by first | assumption | rfl) (by first | with_reducible rfl | (simp only [xlit, nI_add, pk_mul]; with_reducible rfl)) (by omega) (by decide) ?_
  rw [hk1]
  refine x_iconstN (pc := 6) 2 dX10_isFree_6 ic_2 ?_
  first | (guard_target =~ Wp _ _ _ _ _ (Value.int (nI _) :: Value.int (nI _) :: _) _ _ _ _; with_reducible refine x_icmp_eqN (pc := 7) (tgt := 32) ?_ ?_ dX10_isFree_7 ?_ (fun h7 => ?_) (fun h7 => ?_); (first | omega | exact b2n_31 _); (first | omega | exact b2n_31 _); decide) | refine x_icmp_eq (pc := 7) (tgt := 32) dX10_isFree_7 (by decide) (fun h7 => ?_) (fun h7 => ?_)
  · skip
    refine x_iconstN (pc := 32) 1 dX10_isFree_32 ic_1 ?_
    refine x_goto (pc := 33) (tgt := 37) dX10_isFree_33 (by decide) ?_
    refine x_ret (pc := 37) (v := some _) rfl (by first | rfl | decide | exact xrt_b) dX10_isFree_37 (by decide) ?_
    rw [decide_eq_true h7] at h; simp only [Bool.true_or, Bool.or_true] at h; exact h
  · skip
    refine x_aload_n (pc := 10) dX10_isFree_10 rfl ?_
    refine x_getR (pc := 11) dX10_isFree_11 flX10_26 (by first | assumption | rfl) rfl ?_
    refine x_iload_n (pc := 14) dX10_isFree_14 rfl ?_
    refine x_ialdN (pc := 15) dX10_isFree_15 (by first | assumption | rfl) (by first | with_reducible rfl | (simp only [xlit, nI_add, pk_mul]; with_reducible rfl)) (by omega) (by decide) ?_
    rw [hk1]
    refine x_iconstN (pc := 16) 5 dX10_isFree_16 ic_5 ?_
    first | (guard_target =~ Wp _ _ _ _ _ (Value.int (nI _) :: Value.int (nI _) :: _) _ _ _ _; with_reducible refine x_icmp_eqN (pc := 17) (tgt := 32) ?_ ?_ dX10_isFree_17 ?_ (fun h17 => ?_) (fun h17 => ?_); (first | omega | exact b2n_31 _); (first | omega | exact b2n_31 _); decide) | refine x_icmp_eq (pc := 17) (tgt := 32) dX10_isFree_17 (by decide) (fun h17 => ?_) (fun h17 => ?_)
    · skip
      refine x_iconstN (pc := 32) 1 dX10_isFree_32 ic_1 ?_
      refine x_goto (pc := 33) (tgt := 37) dX10_isFree_33 (by decide) ?_
      refine x_ret (pc := 37) (v := some _) rfl (by first | rfl | decide | exact xrt_b) dX10_isFree_37 (by decide) ?_
      rw [decide_eq_true h17] at h; simp only [Bool.true_or, Bool.or_true] at h; exact h
    · skip
      refine x_aload_n (pc := 20) dX10_isFree_20 rfl ?_
      refine x_aload_n (pc := 21) dX10_isFree_21 rfl ?_
      refine x_getI (pc := 22) dX10_isFree_22 flX10_16 (by first | assumption | rfl) rfl ?_
      rw [hQ.2.2.1]
      refine x_iload_n (pc := 25) dX10_isFree_25 rfl ?_
      refine x_invV2 (pc := 26) dX10_isFree_26 mlX10_245 imX10_has seX10_has kX10_has (by first | assumption | rfl) rfl (Nat.le_of_ble_eq_true rfl) (by decide) ?_
      refine sm_has (by omega) ?_
      refine x_cv rfl rfl ?_
      rw [tb_nI (by omega)]
      first | (guard_target =~ Wp _ _ _ _ _ (Value.int (nI _) :: _) _ _ _ _; with_reducible refine x_if_neN (pc := 29) (tgt := 36) ?_ dX10_isFree_29 ?_ (fun h29 => ?_) (fun h29 => ?_); (first | omega | exact b2n_32 _ | exact b2n_31 _); decide) | refine x_if_ne (pc := 29) (tgt := 36) dX10_isFree_29 (by decide) (fun h29 => ?_) (fun h29 => ?_)
      · skip
        refine x_iconstN (pc := 36) 0 dX10_isFree_36 ic_0 ?_
        refine x_ret (pc := 37) (v := some _) rfl (by first | rfl | decide | exact xrt_b) dX10_isFree_37 (by decide) ?_
        rw [decide_eq_false h7, decide_eq_false h17, b2n_1 h29] at h; exact h
      · skip
        refine x_iconstN (pc := 32) 1 dX10_isFree_32 ic_1 ?_
        refine x_goto (pc := 33) (tgt := 37) dX10_isFree_33 (by decide) ?_
        refine x_ret (pc := 37) (v := some _) rfl (by first | rfl | decide | exact xrt_b) dX10_isFree_37 (by decide) ?_
        rw [decide_eq_false h7, decide_eq_false h17, b2n_0 h29] at h; exact h
theorem sm_layFar (hB : bdA A) (hQ : MNow M A W) (hg : gg < 6) (h : ∀ M', only pW M M' → M'.1 65 31 = M.1 65 31 → (∀ c, c < 16 → M'.1 82 c = oI' (if frQ A gg (A 4 gg) = true then Dd (frQ A gg) (A 4 gg) c else none)) → K none xSF M') : Ex g (d + 2) yX10_layFar mX10_layFar [.ref 65, .int (nI gg)] xSF M K := by
  have ht : A 4 gg < 16 := hB.1 4 (by decide) gg (show gg < 6 by omega)
  have q4 : ∀ M', only pW M M' → M'.1 70 gg = nI (A 4 gg) := fun M' hs => (hQ.keep hs pW_Q).2.2.2.2 4 (by decide) gg (show gg < 6 by omega)
  refine x_entry kX10_layFar (Nat.le_of_ble_eq_true rfl) ?_
  show Wp g _ mX10_layFar 0 [some (.ref 65), some (.int (nI gg)), none, none, none, none] [] _ _ _ _
  have fin : ∀ M1 r2 r3 o4 o5, only pW M M1 → M1.1 65 31 = M.1 65 31 → (∀ c, c < 16 → M1.1 82 c = oI' (if frQ A gg (A 4 gg) = true then Dd (frQ A gg) (A 4 gg) c else none)) → Wp g (d + 2) mX10_layFar 162 [some (.ref 65), some (.int (nI gg)), some (.int r2), some (.int r3), o4, o5] [] xSF (0, 0) M1 K := by
    intro M1 r2 r3 o4 o5 hs h31 hd
    refine x_ret (pc := 162) (v := none) rfl trivial dX10_layFar_162 (by decide) ?_
    exact h M1 hs h31 hd
  have outer : frQ A gg (A 4 gg) = true → ∀ m k D w n M1 o4 o5, k + m = 16 → k ≤ n → BF (frQ A gg) (A 4 gg) D w n k 0 → only pW M M1 → M1.1 65 31 = M.1 65 31 → (∀ c, c < 16 → M1.1 82 c = oI' (D c)) → (∀ i, i < n → M1.1 83 i = nI (w i)) → Wp g (d + 2) mX10_layFar 66 [some (.ref 65), some (.int (nI gg)), some (.int (nI n)), some (.int (nI k)), o4, o5] [] xSF (0, 0) M1 K := by
    intro hft m
    have stop : ∀ D w n M1 o4 o5, n ≤ 16 → BF (frQ A gg) (A 4 gg) D w n n 0 → only pW M M1 → M1.1 65 31 = M.1 65 31 → (∀ c, c < 16 → M1.1 82 c = oI' (D c)) → Wp g (d + 2) mX10_layFar 66 [some (.ref 65), some (.int (nI gg)), some (.int (nI n)), some (.int (nI n)), o4, o5] [] xSF (0, 0) M1 K := by
      intro D w n M1 o4 o5 hn hbf hs h31 hd
      refine x_iload_n (pc := 66) dX10_layFar_66 rfl ?_
      refine x_iload_n (pc := 67) dX10_layFar_67 rfl ?_
      first | (guard_target =~ Wp _ _ _ _ _ (Value.int (nI _) :: Value.int (nI _) :: _) _ _ _ _; with_reducible refine x_icmp_geN (pc := 68) (tgt := 162) ?_ ?_ dX10_layFar_68 ?_ (fun h68 => ?_) (fun h68 => ?_); (first | omega | exact b2n_31 _); (first | omega | exact b2n_31 _); decide) | refine x_icmp_ge (pc := 68) (tgt := 162) dX10_layFar_68 (by decide) (fun h68 => ?_) (fun h68 => ?_)
      · skip
        exact fin M1 _ _ o4 o5 hs h31 (fun c hc => by rw [if_pos hft, hd c hc, hbf.fin ht c hc])
      · skip
        omega
    have le16 : ∀ D w n k b, BF (frQ A gg) (A 4 gg) D w n k b → n ≤ 16 := by
      intro D w n k b hbf
      rw [← hbf.cnt]
      have h1 : xsum (fun c => b2n (D c).isSome) 16 ≤ xsum (fun _ => 1) 16 := xsum_le (fun i _ => by have := b2n_lt (D i).isSome; omega)
      rw [xsum_const] at h1; exact h1
    induction m with
    | zero =>
      intro k D w n M1 o4 o5 hk hkn hbf hs h31 hd hw
      have := le16 _ _ _ _ _ hbf
      obtain rfl : k = n := by omega
      exact stop D w k M1 o4 o5 this hbf hs h31 hd
    | succ m ih =>
      intro k D w n M1 o4 o5 hk hkn hbf hs h31 hd hw
      by_cases hlt : k = n
      · subst hlt
        exact stop D w k M1 o4 o5 (le16 _ _ _ _ _ hbf) hbf hs h31 hd
      have inner : ∀ m2 b D w n M1, b + m2 = 16 → k < n → BF (frQ A gg) (A 4 gg) D w n k b → only pW M M1 → M1.1 65 31 = M.1 65 31 → (∀ c, c < 16 → M1.1 82 c = oI' (D c)) → (∀ i, i < n → M1.1 83 i = nI (w i)) → Wp g (d + 2) mX10_layFar 82 [some (.ref 65), some (.int (nI gg)), some (.int (nI n)), some (.int (nI k)), some (.int (nI (w k))), some (.int (nI b))] [] xSF (0, 0) M1 K := by
        intro m2
        induction m2 with
        | zero =>
          intro b D w n M1 hb hkn hbf hs h31 hd hw
          obtain rfl : b = 16 := by omega
          refine x_iload (pc := 82) dX10_layFar_82 rfl ?_
          refine x_bipushN (pc := 84) 16 dX10_layFar_84 bp_16 ?_
          first | (guard_target =~ Wp _ _ _ _ _ (Value.int (nI _) :: Value.int (nI _) :: _) _ _ _ _; with_reducible refine x_icmp_geN (pc := 86) (tgt := 156) ?_ ?_ dX10_layFar_86 ?_ (fun h86 => ?_) (fun h86 => ?_); (first | omega | exact b2n_31 _); (first | omega | exact b2n_31 _); decide) | refine x_icmp_ge (pc := 86) (tgt := 156) dX10_layFar_86 (by decide) (fun h86 => ?_) (fun h86 => ?_)
          · skip
            first | (guard_target =~ Wp _ _ _ _ (_ :: _ :: _ :: some (Value.int (nI _)) :: _) _ _ _ _ _; with_reducible refine x_iincN (pc := 156) 1 ic_1 dX10_layFar_156 ?_ xg_3 xs_3 ?_ ?_; decide; exact (x_hp rfl)) | refine x_iincC (pc := 156) ic_1 dX10_layFar_156 (by decide) rfl xs_3 (x_hp rfl) ?_
            refine x_goto (pc := 159) (tgt := 66) dX10_layFar_159 (by decide) ?_
            exact ih (k + 1) D w n M1 _ _ (by omega) (by omega) (hbf.next hkn) hs h31 hd hw
          · skip
            omega
        | succ m2 ih2 =>
          intro b D w n M1 hb hkn hbf hs h31 hd hw
          have hb16 : b < 16 := by omega
          have hwk := hbf.lt k hkn
          by_cases hadj : adj (w k) b = true
          · cases hDb : D b with
            | some s =>
              have hs16 : s < 16 := by
                have := hbf.ok b hb16 (by rw [hDb]; exact Option.some_ne_none s)
                rw [hDb] at this
                exact Dd_lt this.symm
              refine x_iload (pc := 82) dX10_layFar_82 rfl ?_
              refine x_bipushN (pc := 84) 16 dX10_layFar_84 bp_16 ?_
              first | (guard_target =~ Wp _ _ _ _ _ (Value.int (nI _) :: Value.int (nI _) :: _) _ _ _ _; with_reducible refine x_icmp_geN (pc := 86) (tgt := 156) ?_ ?_ dX10_layFar_86 ?_ (fun h86 => ?_) (fun h86 => ?_); (first | omega | exact b2n_31 _); (first | omega | exact b2n_31 _); decide) | refine x_icmp_ge (pc := 86) (tgt := 156) dX10_layFar_86 (by decide) (fun h86 => ?_) (fun h86 => ?_)
              · skip
                omega
              · skip
                refine x_aload_n (pc := 89) dX10_layFar_89 rfl ?_
                refine x_iload (pc := 90) dX10_layFar_90 rfl ?_
                refine x_iload (pc := 92) dX10_layFar_92 rfl ?_
                refine x_invV2 (pc := 94) dX10_layFar_94 mlX10_333 imX10_isNext seX10_isNext kX10_isNext (by first | assumption | rfl) rfl (Nat.le_of_ble_eq_true rfl) (by decide) ?_
                refine sm_isNext hwk hb16 ?_
                refine x_cv rfl rfl ?_
                rw [hadj]
                first | (guard_target =~ Wp _ _ _ _ _ (Value.int (nI _) :: _) _ _ _ _; with_reducible refine x_if_eqN (pc := 97) (tgt := 150) ?_ dX10_layFar_97 ?_ (fun h97 => ?_) (fun h97 => ?_); (first | omega | exact b2n_32 _ | exact b2n_31 _); decide) | refine x_if_eq (pc := 97) (tgt := 150) dX10_layFar_97 (by decide) (fun h97 => ?_) (fun h97 => ?_)
                · skip
                  cases h97
                · skip
                  refine x_aload_n (pc := 100) dX10_layFar_100 rfl ?_
                  refine x_getR (pc := 101) dX10_layFar_101 flX10_96 (by first | assumption | rfl) rfl ?_
                  refine x_iload (pc := 104) dX10_layFar_104 rfl ?_
                  refine x_ialdN (pc := 106) dX10_layFar_106 (by first | assumption | rfl) (by first | with_reducible rfl | (simp only [xlit, nI_add, pk_mul]; with_reducible rfl)) (by omega) (by decide) ?_
                  rw [hd b hb16, hDb, show oI' (some s) = nI s from rfl]
                  refine x_if_ge (pc := 107) (tgt := 150) dX10_layFar_107 (by decide) (fun h107 => ?_) (fun h107 => ?_)
                  · skip
                    first | (guard_target =~ Wp _ _ _ _ (_ :: _ :: _ :: _ :: _ :: some (Value.int (nI _)) :: _) _ _ _ _ _; with_reducible refine x_iincN (pc := 150) 1 ic_1 dX10_layFar_150 ?_ xg_5 xs_5 ?_ ?_; decide; exact (x_hp rfl)) | refine x_iincC (pc := 150) ic_1 dX10_layFar_150 (by decide) rfl xs_5 (x_hp rfl) ?_
                    refine x_goto (pc := 153) (tgt := 82) dX10_layFar_153 (by decide) ?_
                    exact ih2 (b + 1) D w n M1 (by omega) hkn (hbf.skip (fun _ _ => by rw [hDb]; exact Option.some_ne_none s)) hs h31 hd hw
                  · skip
                    exact absurd (nI_pos' (by omega)) h107
            | none =>
              by_cases hf : frQ A gg b = true
              · have hn16 := hbf.room hb16 hDb
                have hsm := hbf.some hkn
                have hdd := Dd_lt hsm.2
                refine x_iload (pc := 82) dX10_layFar_82 rfl ?_
                refine x_bipushN (pc := 84) 16 dX10_layFar_84 bp_16 ?_
                first | (guard_target =~ Wp _ _ _ _ _ (Value.int (nI _) :: Value.int (nI _) :: _) _ _ _ _; with_reducible refine x_icmp_geN (pc := 86) (tgt := 156) ?_ ?_ dX10_layFar_86 ?_ (fun h86 => ?_) (fun h86 => ?_); (first | omega | exact b2n_31 _); (first | omega | exact b2n_31 _); decide) | refine x_icmp_ge (pc := 86) (tgt := 156) dX10_layFar_86 (by decide) (fun h86 => ?_) (fun h86 => ?_)
                · skip
                  omega
                · skip
                  refine x_aload_n (pc := 89) dX10_layFar_89 rfl ?_
                  refine x_iload (pc := 90) dX10_layFar_90 rfl ?_
                  refine x_iload (pc := 92) dX10_layFar_92 rfl ?_
                  refine x_invV2 (pc := 94) dX10_layFar_94 mlX10_333 imX10_isNext seX10_isNext kX10_isNext (by first | assumption | rfl) rfl (Nat.le_of_ble_eq_true rfl) (by decide) ?_
                  refine sm_isNext hwk hb16 ?_
                  refine x_cv rfl rfl ?_
                  rw [hadj]
                  first | (guard_target =~ Wp _ _ _ _ _ (Value.int (nI _) :: _) _ _ _ _; with_reducible refine x_if_eqN (pc := 97) (tgt := 150) ?_ dX10_layFar_97 ?_ (fun h97 => ?_) (fun h97 => ?_); (first | omega | exact b2n_32 _ | exact b2n_31 _); decide) | refine x_if_eq (pc := 97) (tgt := 150) dX10_layFar_97 (by decide) (fun h97 => ?_) (fun h97 => ?_)
                  · skip
                    cases h97
                  · skip
                    refine x_aload_n (pc := 100) dX10_layFar_100 rfl ?_
                    refine x_getR (pc := 101) dX10_layFar_101 flX10_96 (by first | assumption | rfl) rfl ?_
                    refine x_iload (pc := 104) dX10_layFar_104 rfl ?_
                    refine x_ialdN (pc := 106) dX10_layFar_106 (by first | assumption | rfl) (by first | with_reducible rfl | (simp only [xlit, nI_add, pk_mul]; with_reducible rfl)) (by omega) (by decide) ?_
                    rw [hd b hb16, hDb]
                    refine x_if_ge (pc := 107) (tgt := 150) dX10_layFar_107 (by decide) (fun h107 => ?_) (fun h107 => ?_)
                    · skip
                      exact absurd h107 (by decide)
                    · skip
                      refine x_aload_n (pc := 110) dX10_layFar_110 rfl ?_
                      refine x_iload_n (pc := 111) dX10_layFar_111 rfl ?_
                      refine x_iload (pc := 112) dX10_layFar_112 rfl ?_
                      refine x_invV2 (pc := 114) dX10_layFar_114 mlX10_330 imX10_isFree seX10_isFree kX10_isFree (by first | assumption | rfl) rfl (Nat.le_of_ble_eq_true rfl) (by decide) ?_
                      refine sm_isFree hB (hQ.keep hs pW_Q) hg hb16 ?_
                      refine x_cv rfl rfl ?_
                      rw [hf]
                      first | (guard_target =~ Wp _ _ _ _ _ (Value.int (nI _) :: _) _ _ _ _; with_reducible refine x_if_neN (pc := 117) (tgt := 123) ?_ dX10_layFar_117 ?_ (fun h117 => ?_) (fun h117 => ?_); (first | omega | exact b2n_32 _ | exact b2n_31 _); decide) | refine x_if_ne (pc := 117) (tgt := 123) dX10_layFar_117 (by decide) (fun h117 => ?_) (fun h117 => ?_)
                      · skip
                        refine x_aload_n (pc := 123) dX10_layFar_123 rfl ?_
                        refine x_getR (pc := 124) dX10_layFar_124 flX10_96 (by first | assumption | rfl) rfl ?_
                        refine x_iload (pc := 127) dX10_layFar_127 rfl ?_
                        refine x_aload_n (pc := 129) dX10_layFar_129 rfl ?_
                        refine x_getR (pc := 130) dX10_layFar_130 flX10_96 (by first | assumption | rfl) rfl ?_
                        refine x_iload (pc := 133) dX10_layFar_133 rfl ?_
                        refine x_ialdN (pc := 135) dX10_layFar_135 (by first | assumption | rfl) (by first | with_reducible rfl | (simp only [xlit, nI_add, pk_mul]; with_reducible rfl)) (by omega) (by decide) ?_
                        rw [hd _ hwk, hsm.1, show oI' (some (ddN (frQ A gg) (A 4 gg) (w k))) = nI (ddN (frQ A gg) (A 4 gg) (w k)) from rfl]
                        refine x_iconstN (pc := 136) 1 dX10_layFar_136 ic_1 ?_
                        first | (guard_target =~ Wp _ _ _ _ _ (Value.int (nI _) :: Value.int (nI _) :: _) _ _ _ _; with_reducible refine x_iaddN (pc := 137) dX10_layFar_137 ?_) | refine x_iadd (pc := 137) dX10_layFar_137 ?_
                        refine x_iastN (pc := 138) dX10_layFar_138 (by first | assumption | rfl) (by first | with_reducible rfl | (simp only [xlit, nI_add, pk_mul]; with_reducible rfl)) (by omega) (by decide) ?_
                        refine x_aload_n (pc := 139) dX10_layFar_139 rfl ?_
                        refine x_getR (pc := 140) dX10_layFar_140 flX10_99 (by first | assumption | rfl) rfl ?_
                        refine x_iload_n (pc := 143) dX10_layFar_143 rfl ?_
                        refine x_iload (pc := 144) dX10_layFar_144 rfl ?_
                        refine x_iastN (pc := 146) dX10_layFar_146 (by first | assumption | rfl) (by first | with_reducible rfl | (simp only [xlit, nI_add, pk_mul]; with_reducible rfl)) (by omega) (by decide) ?_
                        first | (guard_target =~ Wp _ _ _ _ (_ :: _ :: some (Value.int (nI _)) :: _) _ _ _ _ _; with_reducible refine x_iincN (pc := 147) 1 ic_1 dX10_layFar_147 ?_ xg_2 xs_2 ?_ ?_; decide; exact (x_hp rfl)) | refine x_iincC (pc := 147) ic_1 dX10_layFar_147 (by decide) rfl xs_2 (x_hp rfl) ?_
                        first | (guard_target =~ Wp _ _ _ _ (_ :: _ :: _ :: _ :: _ :: some (Value.int (nI _)) :: _) _ _ _ _ _; with_reducible refine x_iincN (pc := 150) 1 ic_1 dX10_layFar_150 ?_ xg_5 xs_5 ?_ ?_; decide; exact (x_hp rfl)) | refine x_iincC (pc := 150) ic_1 dX10_layFar_150 (by decide) rfl xs_5 (x_hp rfl) ?_
                        refine x_goto (pc := 153) (tgt := 82) dX10_layFar_153 (by decide) ?_
                        have hbf2 := hbf.visit ht hkn hb16 hf hadj hDb
                        have e := ih2 (b + 1) _ _ (n + 1) (xput (xput M1 82 b (nI (ddN (frQ A gg) (A 4 gg) (w k) + 1))) 83 n (nI b)) (by omega) (by omega) hbf2 ((hs.tr (only.put rfl)).tr (only.put rfl)) h31 (fun c hc => ?_) (fun i hi => ?_)
                        rw [updF_ne (show k ≠ n by omega)] at e; exact e
                        · by_cases z : c = b
                          · rw [z, updF_at]; simp [xput]; rfl
                          · rw [updF_ne z, ← hd c hc]; simp [xput, z]
                        · by_cases z : i = n
                          · rw [z, updF_at]; simp [xput]
                          · rw [updF_ne z, ← hw i (by omega)]; simp [xput, z]
                      · skip
                        cases h117
              · have hf2 : frQ A gg b = false := by simpa using hf
                refine x_iload (pc := 82) dX10_layFar_82 rfl ?_
                refine x_bipushN (pc := 84) 16 dX10_layFar_84 bp_16 ?_
                first | (guard_target =~ Wp _ _ _ _ _ (Value.int (nI _) :: Value.int (nI _) :: _) _ _ _ _; with_reducible refine x_icmp_geN (pc := 86) (tgt := 156) ?_ ?_ dX10_layFar_86 ?_ (fun h86 => ?_) (fun h86 => ?_); (first | omega | exact b2n_31 _); (first | omega | exact b2n_31 _); decide) | refine x_icmp_ge (pc := 86) (tgt := 156) dX10_layFar_86 (by decide) (fun h86 => ?_) (fun h86 => ?_)
                · skip
                  omega
                · skip
                  refine x_aload_n (pc := 89) dX10_layFar_89 rfl ?_
                  refine x_iload (pc := 90) dX10_layFar_90 rfl ?_
                  refine x_iload (pc := 92) dX10_layFar_92 rfl ?_
                  refine x_invV2 (pc := 94) dX10_layFar_94 mlX10_333 imX10_isNext seX10_isNext kX10_isNext (by first | assumption | rfl) rfl (Nat.le_of_ble_eq_true rfl) (by decide) ?_
                  refine sm_isNext hwk hb16 ?_
                  refine x_cv rfl rfl ?_
                  rw [hadj]
                  first | (guard_target =~ Wp _ _ _ _ _ (Value.int (nI _) :: _) _ _ _ _; with_reducible refine x_if_eqN (pc := 97) (tgt := 150) ?_ dX10_layFar_97 ?_ (fun h97 => ?_) (fun h97 => ?_); (first | omega | exact b2n_32 _ | exact b2n_31 _); decide) | refine x_if_eq (pc := 97) (tgt := 150) dX10_layFar_97 (by decide) (fun h97 => ?_) (fun h97 => ?_)
                  · skip
                    cases h97
                  · skip
                    refine x_aload_n (pc := 100) dX10_layFar_100 rfl ?_
                    refine x_getR (pc := 101) dX10_layFar_101 flX10_96 (by first | assumption | rfl) rfl ?_
                    refine x_iload (pc := 104) dX10_layFar_104 rfl ?_
                    refine x_ialdN (pc := 106) dX10_layFar_106 (by first | assumption | rfl) (by first | with_reducible rfl | (simp only [xlit, nI_add, pk_mul]; with_reducible rfl)) (by omega) (by decide) ?_
                    rw [hd b hb16, hDb]
                    refine x_if_ge (pc := 107) (tgt := 150) dX10_layFar_107 (by decide) (fun h107 => ?_) (fun h107 => ?_)
                    · skip
                      exact absurd h107 (by decide)
                    · skip
                      refine x_aload_n (pc := 110) dX10_layFar_110 rfl ?_
                      refine x_iload_n (pc := 111) dX10_layFar_111 rfl ?_
                      refine x_iload (pc := 112) dX10_layFar_112 rfl ?_
                      refine x_invV2 (pc := 114) dX10_layFar_114 mlX10_330 imX10_isFree seX10_isFree kX10_isFree (by first | assumption | rfl) rfl (Nat.le_of_ble_eq_true rfl) (by decide) ?_
                      refine sm_isFree hB (hQ.keep hs pW_Q) hg hb16 ?_
                      refine x_cv rfl rfl ?_
                      rw [hf2]
                      first | (guard_target =~ Wp _ _ _ _ _ (Value.int (nI _) :: _) _ _ _ _; with_reducible refine x_if_neN (pc := 117) (tgt := 123) ?_ dX10_layFar_117 ?_ (fun h117 => ?_) (fun h117 => ?_); (first | omega | exact b2n_32 _ | exact b2n_31 _); decide) | refine x_if_ne (pc := 117) (tgt := 123) dX10_layFar_117 (by decide) (fun h117 => ?_) (fun h117 => ?_)
                      · skip
                        exact absurd rfl h117
                      · skip
                        refine x_goto (pc := 120) (tgt := 150) dX10_layFar_120 (by decide) ?_
                        first | (guard_target =~ Wp _ _ _ _ (_ :: _ :: _ :: _ :: _ :: some (Value.int (nI _)) :: _) _ _ _ _ _; with_reducible refine x_iincN (pc := 150) 1 ic_1 dX10_layFar_150 ?_ xg_5 xs_5 ?_ ?_; decide; exact (x_hp rfl)) | refine x_iincC (pc := 150) ic_1 dX10_layFar_150 (by decide) rfl xs_5 (x_hp rfl) ?_
                        refine x_goto (pc := 153) (tgt := 82) dX10_layFar_153 (by decide) ?_
                        exact ih2 (b + 1) D w n M1 (by omega) hkn (hbf.skip (fun _ z => absurd z hf)) hs h31 hd hw
          · have ha2 : adj (w k) b = false := by simpa using hadj
            refine x_iload (pc := 82) dX10_layFar_82 rfl ?_
            refine x_bipushN (pc := 84) 16 dX10_layFar_84 bp_16 ?_
            first | (guard_target =~ Wp _ _ _ _ _ (Value.int (nI _) :: Value.int (nI _) :: _) _ _ _ _; with_reducible refine x_icmp_geN (pc := 86) (tgt := 156) ?_ ?_ dX10_layFar_86 ?_ (fun h86 => ?_) (fun h86 => ?_); (first | omega | exact b2n_31 _); (first | omega | exact b2n_31 _); decide) | refine x_icmp_ge (pc := 86) (tgt := 156) dX10_layFar_86 (by decide) (fun h86 => ?_) (fun h86 => ?_)
            · skip
              omega
            · skip
              refine x_aload_n (pc := 89) dX10_layFar_89 rfl ?_
              refine x_iload (pc := 90) dX10_layFar_90 rfl ?_
              refine x_iload (pc := 92) dX10_layFar_92 rfl ?_
              refine x_invV2 (pc := 94) dX10_layFar_94 mlX10_333 imX10_isNext seX10_isNext kX10_isNext (by first | assumption | rfl) rfl (Nat.le_of_ble_eq_true rfl) (by decide) ?_
              refine sm_isNext hwk hb16 ?_
              refine x_cv rfl rfl ?_
              rw [ha2]
              first | (guard_target =~ Wp _ _ _ _ _ (Value.int (nI _) :: _) _ _ _ _; with_reducible refine x_if_eqN (pc := 97) (tgt := 150) ?_ dX10_layFar_97 ?_ (fun h97 => ?_) (fun h97 => ?_); (first | omega | exact b2n_32 _ | exact b2n_31 _); decide) | refine x_if_eq (pc := 97) (tgt := 150) dX10_layFar_97 (by decide) (fun h97 => ?_) (fun h97 => ?_)
              · skip
                first | (guard_target =~ Wp _ _ _ _ (_ :: _ :: _ :: _ :: _ :: some (Value.int (nI _)) :: _) _ _ _ _ _; with_reducible refine x_iincN (pc := 150) 1 ic_1 dX10_layFar_150 ?_ xg_5 xs_5 ?_ ?_; decide; exact (x_hp rfl)) | refine x_iincC (pc := 150) ic_1 dX10_layFar_150 (by decide) rfl xs_5 (x_hp rfl) ?_
                refine x_goto (pc := 153) (tgt := 82) dX10_layFar_153 (by decide) ?_
                exact ih2 (b + 1) D w n M1 (by omega) hkn (hbf.skip (fun z => absurd z hadj)) hs h31 hd hw
              · skip
                exact absurd rfl h97
      have hk3 : k < n := by omega
      have hn16 := le16 _ _ _ _ _ hbf
      refine x_iload_n (pc := 66) dX10_layFar_66 rfl ?_
      refine x_iload_n (pc := 67) dX10_layFar_67 rfl ?_
      first | (guard_target =~ Wp _ _ _ _ _ (Value.int (nI _) :: Value.int (nI _) :: _) _ _ _ _; with_reducible refine x_icmp_geN (pc := 68) (tgt := 162) ?_ ?_ dX10_layFar_68 ?_ (fun h68 => ?_) (fun h68 => ?_); (first | omega | exact b2n_31 _); (first | omega | exact b2n_31 _); decide) | refine x_icmp_ge (pc := 68) (tgt := 162) dX10_layFar_68 (by decide) (fun h68 => ?_) (fun h68 => ?_)
      · skip
        omega
      · skip
        refine x_aload_n (pc := 71) dX10_layFar_71 rfl ?_
        refine x_getR (pc := 72) dX10_layFar_72 flX10_99 (by first | assumption | rfl) rfl ?_
        refine x_iload_n (pc := 75) dX10_layFar_75 rfl ?_
        refine x_ialdN (pc := 76) dX10_layFar_76 (by first | assumption | rfl) (by first | with_reducible rfl | (simp only [xlit, nI_add, pk_mul]; with_reducible rfl)) (by omega) (by decide) ?_
        rw [hw k hk3]
        refine x_istore (pc := 77) dX10_layFar_77 (by decide) xs_4 (x_hp rfl) ?_
        refine x_iconstN (pc := 79) 0 dX10_layFar_79 ic_0 ?_
        refine x_istore (pc := 80) dX10_layFar_80 (by decide) xs_5 (x_hp rfl) ?_
        exact inner 16 0 D w n M1 (by omega) hk3 hbf hs h31 hd hw
  have init : ∀ m c M1 o3 o4 o5, c + m = 16 → only pW M M1 → M1.1 65 31 = M.1 65 31 → (∀ j, j < c → M1.1 82 j = -5) → Wp g (d + 2) mX10_layFar 2 [some (.ref 65), some (.int (nI gg)), some (.int (nI c)), o3, o4, o5] [] xSF (0, 0) M1 K := by
    intro m
    induction m with
    | zero =>
      intro c M1 o3 o4 o5 hc hs h31 hd
      obtain rfl : c = 16 := by omega
      by_cases hft : frQ A gg (A 4 gg) = true
      · skip
        refine x_iload_n (pc := 2) dX10_layFar_2 rfl ?_
        refine x_bipushN (pc := 3) 16 dX10_layFar_3 bp_16 ?_
        first | (guard_target =~ Wp _ _ _ _ _ (Value.int (nI _) :: Value.int (nI _) :: _) _ _ _ _; with_reducible refine x_icmp_geN (pc := 5) (tgt := 22) ?_ ?_ dX10_layFar_5 ?_ (fun h5 => ?_) (fun h5 => ?_); (first | omega | exact b2n_31 _); (first | omega | exact b2n_31 _); decide) | refine x_icmp_ge (pc := 5) (tgt := 22) dX10_layFar_5 (by decide) (fun h5 => ?_) (fun h5 => ?_)
        · skip
          refine x_iconstN (pc := 22) 0 dX10_layFar_22 ic_0 ?_
          refine x_istore_n (pc := 23) dX10_layFar_23 (by decide) xs_2 (x_hp rfl) ?_
          refine x_aload_n (pc := 24) dX10_layFar_24 rfl ?_
          refine x_iload_n (pc := 25) dX10_layFar_25 rfl ?_
          refine x_aload_n (pc := 26) dX10_layFar_26 rfl ?_
          refine x_getR (pc := 27) dX10_layFar_27 flX10_35 (by first | assumption | rfl) rfl ?_
          refine x_iload_n (pc := 30) dX10_layFar_30 rfl ?_
          refine x_ialdN (pc := 31) dX10_layFar_31 (by first | assumption | rfl) (by first | with_reducible rfl | (simp only [xlit, nI_add, pk_mul]; with_reducible rfl)) (by omega) (by decide) ?_
          rw [q4 M1 hs]
          refine x_invV2 (pc := 32) dX10_layFar_32 mlX10_330 imX10_isFree seX10_isFree kX10_isFree (by first | assumption | rfl) rfl (Nat.le_of_ble_eq_true rfl) (by decide) ?_
          refine sm_isFree hB (hQ.keep hs pW_Q) hg ht ?_
          refine x_cv rfl rfl ?_
          rw [hft]
          first | (guard_target =~ Wp _ _ _ _ _ (Value.int (nI _) :: _) _ _ _ _; with_reducible refine x_if_eqN (pc := 35) (tgt := 64) ?_ dX10_layFar_35 ?_ (fun h35 => ?_) (fun h35 => ?_); (first | omega | exact b2n_32 _ | exact b2n_31 _); decide) | refine x_if_eq (pc := 35) (tgt := 64) dX10_layFar_35 (by decide) (fun h35 => ?_) (fun h35 => ?_)
          · skip
            cases h35
          · skip
            refine x_aload_n (pc := 38) dX10_layFar_38 rfl ?_
            refine x_getR (pc := 39) dX10_layFar_39 flX10_96 (by first | assumption | rfl) rfl ?_
            refine x_aload_n (pc := 42) dX10_layFar_42 rfl ?_
            refine x_getR (pc := 43) dX10_layFar_43 flX10_35 (by first | assumption | rfl) rfl ?_
            refine x_iload_n (pc := 46) dX10_layFar_46 rfl ?_
            refine x_ialdN (pc := 47) dX10_layFar_47 (by first | assumption | rfl) (by first | with_reducible rfl | (simp only [xlit, nI_add, pk_mul]; with_reducible rfl)) (by omega) (by decide) ?_
            rw [q4 M1 hs]
            refine x_iconstN (pc := 48) 0 dX10_layFar_48 ic_0 ?_
            refine x_iastN (pc := 49) dX10_layFar_49 (by first | assumption | rfl) (by first | with_reducible rfl | (simp only [xlit, nI_add, pk_mul]; with_reducible rfl)) (by omega) (by decide) ?_
            refine x_aload_n (pc := 50) dX10_layFar_50 rfl ?_
            refine x_getR (pc := 51) dX10_layFar_51 flX10_99 (by first | assumption | rfl) rfl ?_
            refine x_iconstN (pc := 54) 0 dX10_layFar_54 ic_0 ?_
            refine x_aload_n (pc := 55) dX10_layFar_55 rfl ?_
            refine x_getR (pc := 56) dX10_layFar_56 flX10_35 (by first | assumption | rfl) rfl ?_
            refine x_iload_n (pc := 59) dX10_layFar_59 rfl ?_
            refine x_ialdN (pc := 60) dX10_layFar_60 (by first | assumption | rfl) (by first | with_reducible rfl | (simp only [xlit, nI_add, pk_mul]; with_reducible rfl)) (by omega) (by decide) ?_
            rw [show (xput M1 82 (A 4 gg) (nI 0)).1 70 gg = nI (A 4 gg) from q4 M1 hs]
            refine x_iastN (pc := 61) dX10_layFar_61 (by first | assumption | rfl) (by first | with_reducible rfl | (simp only [xlit, nI_add, pk_mul]; with_reducible rfl)) (by omega) (by decide) ?_
            refine x_iconstN (pc := 62) 1 dX10_layFar_62 ic_1 ?_
            refine x_istore_n (pc := 63) dX10_layFar_63 (by decide) xs_2 (x_hp rfl) ?_
            refine x_iconstN (pc := 64) 0 dX10_layFar_64 ic_0 ?_
            refine x_istore_n (pc := 65) dX10_layFar_65 (by decide) xs_3 (x_hp rfl) ?_
            refine outer hft 16 0 _ _ 1 _ _ _ (by omega) (by omega) (BF.start ht) ((hs.tr (only.put rfl)).tr (only.put rfl)) h31 (fun c hc => ?_) (fun i hi => ?_)
            · by_cases z : c = A 4 gg
              · rw [z, updF_at]; simp [xput]; rfl
              · rw [updF_ne z]; exact (show _ = M1.1 82 c by simp [xput, z]).trans (hd c hc)
            · obtain rfl : i = 0 := by omega
              simp [xput]
        · skip
          omega
      · have hf2 : frQ A gg (A 4 gg) = false := by simpa using hft
        refine x_iload_n (pc := 2) dX10_layFar_2 rfl ?_
        refine x_bipushN (pc := 3) 16 dX10_layFar_3 bp_16 ?_
        first | (guard_target =~ Wp _ _ _ _ _ (Value.int (nI _) :: Value.int (nI _) :: _) _ _ _ _; with_reducible refine x_icmp_geN (pc := 5) (tgt := 22) ?_ ?_ dX10_layFar_5 ?_ (fun h5 => ?_) (fun h5 => ?_); (first | omega | exact b2n_31 _); (first | omega | exact b2n_31 _); decide) | refine x_icmp_ge (pc := 5) (tgt := 22) dX10_layFar_5 (by decide) (fun h5 => ?_) (fun h5 => ?_)
        · skip
          refine x_iconstN (pc := 22) 0 dX10_layFar_22 ic_0 ?_
          refine x_istore_n (pc := 23) dX10_layFar_23 (by decide) xs_2 (x_hp rfl) ?_
          refine x_aload_n (pc := 24) dX10_layFar_24 rfl ?_
          refine x_iload_n (pc := 25) dX10_layFar_25 rfl ?_
          refine x_aload_n (pc := 26) dX10_layFar_26 rfl ?_
          refine x_getR (pc := 27) dX10_layFar_27 flX10_35 (by first | assumption | rfl) rfl ?_
          refine x_iload_n (pc := 30) dX10_layFar_30 rfl ?_
          refine x_ialdN (pc := 31) dX10_layFar_31 (by first | assumption | rfl) (by first | with_reducible rfl | (simp only [xlit, nI_add, pk_mul]; with_reducible rfl)) (by omega) (by decide) ?_
          rw [q4 M1 hs]
          refine x_invV2 (pc := 32) dX10_layFar_32 mlX10_330 imX10_isFree seX10_isFree kX10_isFree (by first | assumption | rfl) rfl (Nat.le_of_ble_eq_true rfl) (by decide) ?_
          refine sm_isFree hB (hQ.keep hs pW_Q) hg ht ?_
          refine x_cv rfl rfl ?_
          rw [hf2]
          first | (guard_target =~ Wp _ _ _ _ _ (Value.int (nI _) :: _) _ _ _ _; with_reducible refine x_if_eqN (pc := 35) (tgt := 64) ?_ dX10_layFar_35 ?_ (fun h35 => ?_) (fun h35 => ?_); (first | omega | exact b2n_32 _ | exact b2n_31 _); decide) | refine x_if_eq (pc := 35) (tgt := 64) dX10_layFar_35 (by decide) (fun h35 => ?_) (fun h35 => ?_)
          · skip
            refine x_iconstN (pc := 64) 0 dX10_layFar_64 ic_0 ?_
            refine x_istore_n (pc := 65) dX10_layFar_65 (by decide) xs_3 (x_hp rfl) ?_
            refine x_iload_n (pc := 66) dX10_layFar_66 rfl ?_
            refine x_iload_n (pc := 67) dX10_layFar_67 rfl ?_
            first | (guard_target =~ Wp _ _ _ _ _ (Value.int (nI _) :: Value.int (nI _) :: _) _ _ _ _; with_reducible refine x_icmp_geN (pc := 68) (tgt := 162) ?_ ?_ dX10_layFar_68 ?_ (fun h68 => ?_) (fun h68 => ?_); (first | omega | exact b2n_31 _); (first | omega | exact b2n_31 _); decide) | refine x_icmp_ge (pc := 68) (tgt := 162) dX10_layFar_68 (by decide) (fun h68 => ?_) (fun h68 => ?_)
            · skip
              exact fin M1 _ _ _ _ hs h31 (fun c hc => by rw [if_neg hft]; exact hd c hc)
            · skip
              omega
          · skip
            exact absurd rfl h35
        · skip
          omega
    | succ m ih =>
      intro c M1 o3 o4 o5 hc hs h31 hd
      refine x_iload_n (pc := 2) dX10_layFar_2 rfl ?_
      refine x_bipushN (pc := 3) 16 dX10_layFar_3 bp_16 ?_
      first | (guard_target =~ Wp _ _ _ _ _ (Value.int (nI _) :: Value.int (nI _) :: _) _ _ _ _; with_reducible refine x_icmp_geN (pc := 5) (tgt := 22) ?_ ?_ dX10_layFar_5 ?_ (fun h5 => ?_) (fun h5 => ?_); (first | omega | exact b2n_31 _); (first | omega | exact b2n_31 _); decide) | refine x_icmp_ge (pc := 5) (tgt := 22) dX10_layFar_5 (by decide) (fun h5 => ?_) (fun h5 => ?_)
      · skip
        omega
      · skip
        refine x_aload_n (pc := 8) dX10_layFar_8 rfl ?_
        refine x_getR (pc := 9) dX10_layFar_9 flX10_96 (by first | assumption | rfl) rfl ?_
        refine x_iload_n (pc := 12) dX10_layFar_12 rfl ?_
        refine x_bipush (pc := 13) dX10_layFar_13 bp_m5 ?_
        refine x_iastN (pc := 15) dX10_layFar_15 (by first | assumption | rfl) (by first | with_reducible rfl | (simp only [xlit, nI_add, pk_mul]; with_reducible rfl)) (by omega) (by decide) ?_
        first | (guard_target =~ Wp _ _ _ _ (_ :: _ :: some (Value.int (nI _)) :: _) _ _ _ _ _; with_reducible refine x_iincN (pc := 16) 1 ic_1 dX10_layFar_16 ?_ xg_2 xs_2 ?_ ?_; decide; exact (x_hp rfl)) | refine x_iincC (pc := 16) ic_1 dX10_layFar_16 (by decide) rfl xs_2 (x_hp rfl) ?_
        refine x_goto (pc := 19) (tgt := 2) dX10_layFar_19 (by decide) ?_
        refine ih (c + 1) _ _ _ _ (by omega) (hs.tr (only.put rfl)) h31 (fun j hj => ?_)
        by_cases z : j = c
        · rw [z]; simp [xput]
        · exact (show _ = M1.1 82 j by simp [xput, z]).trans (hd j (by omega))
  refine x_iconstN (pc := 0) 0 dX10_layFar_0 ic_0 ?_
  refine x_istore_n (pc := 1) dX10_layFar_1 (by decide) xs_2 (x_hp rfl) ?_
  exact init 16 0 M _ _ _ (by omega) only.rf rfl (fun j hj => by omega)
end P72
