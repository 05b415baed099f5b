/-! the program as calls see it: what it holds, and the small methods all share -/
abbrev XQ : Type := XA × Nat × Int32 × XA × List XCl
abbrev XSt : Type := XQ × Option XQ × (Nat → Nat → Nat) × (Nat → Nat) × Nat × XA × (Nat → Int64) × List Nat
def bdA (A : XA) : Prop := (∀ k, k < 8 → ∀ j, j < clen k → A k j < cbd k) ∧ A 8 0 ≤ 6 ∧ A 10 0 < 65536
def bdN (N : XA) : Prop := (∀ j, j < N 7 0 → N 0 j < 16 ∧ N 1 j < 10000 ∧ N 2 j ≤ 20) ∧ (∀ j, j < N 8 0 → N 3 j < 4 ∧ (N 3 j ≠ 0 → N 4 j < 16)) ∧ (∀ j, j < N 9 0 → N 5 j < 16 ∧ N 6 j < 10000) ∧ N 7 0 ≤ 5 ∧ N 8 0 ≤ 10 ∧ N 9 0 ≤ 8
/-- what is kept of the ways and the yields is right -/
def cacheA (A : XA) (L : List XCl) : Prop := (∀ g, g < A 8 0 → A 6 g = wbits (wayL A g)) ∧ (∀ g, g < A 8 0 → ∀ i, i < 16 → A 7 (g * 16 + i) = yvF (fG g (A 1 g) (A 2 g)) L i) ∧ A 13 0 = bldF 30 L ∧ ∀ j, 4 * A 8 0 ≤ j → j < 24 → A 5 j = 0
def okQ (tx : Nat → Nat → Nat) (ln : Nat → Nat) (made : Nat) (q : XQ) : Prop :=
  bdA q.1 ∧ bdN q.2.2.2.1 ∧ Std q.1 ∧ q.2.1 < 2 ^ q.1 8 0 ∧ cacheA q.1 q.2.2.2.2 ∧ RmL tx ln made q.2.2.1 q.2.2.2.2 ∧ ∀ k, k < q.2.2.2.1 8 0 → q.2.2.2.1 3 k = 1 → q.2.2.2.1 4 k < q.1 8 0
def XPQ (a b : Nat) (M : XM) (q : XQ) : Prop := CR a M q.1 (nI q.2.1) q.2.2.1 ∧ NR b M q.2.2.2.1
def XIm (M : XM) (tx : Nat → Nat → Nat) (ln : Nat → Nat) (made : Nat) (o : Option XQ) : Prop := match o with
  | none => M.1 0 4 = nI 0
  | some q => M.1 0 4 = nI 1 ∧ XPQ 13 33 M q ∧ okQ tx ln made q
def XC9 (M : XM) (s : XSt) : Prop := XPQ 1 25 M s.1 ∧ okQ s.2.2.1 s.2.2.2.1 s.2.2.2.2.1 s.1 ∧ XIm M s.2.2.1 s.2.2.2.1 s.2.2.2.2.1 s.2.1 ∧ RmS M s.2.2.1 s.2.2.2.1 s.2.2.2.2.1 ∧ TR 63 62 M s.2.2.2.2.2.1 s.2.2.2.2.2.2.1 ∧ aTr M s.2.2.2.2.2.2.2
def low (M M' : XM) : Prop := (∀ a, 65 ≤ a → M'.1 a = M.1 a) ∧ ∀ a, 65 ≤ a → M'.2 a = M.2 a
/-- the carpet, the trial and the readings may change -/
def csame (M M' : XM) : Prop := (∀ a, (a = 0 ∨ (13 ≤ a ∧ a < 41) ∨ a = 42 ∨ a = 43 ∨ 59 ≤ a) → M'.1 a = M.1 a) ∧ M'.1 41 2 = M.1 41 2 ∧ M'.2 = M.2
theorem csame.rf {M : XM} : csame M M := ⟨fun _ _ => rfl, rfl, rfl⟩
theorem csame.tr {M M1 M2 : XM} (h : csame M M1) (h2 : csame M1 M2) : csame M M2 := ⟨fun a k => (h2.1 a k).trans (h.1 a k), h2.2.1.trans h.2.1, h2.2.2.trans h.2.2⟩
theorem csame.low {M M' : XM} (h : csame M M') : low M M' := ⟨fun a ha => h.1 a (by omega), fun a _ => by rw [h.2.2]⟩
theorem csame.c1 {M M' : XM} (h : xsame 1 13 M M') : csame M M' := ⟨fun a k => h.1 a (by omega), by rw [h.1 41 (by decide)], h.2⟩
theorem csame.t {M M' : XM} (h : xsame 46 58 M M') : csame M M' := ⟨fun a k => h.1 a (by omega), by rw [h.1 41 (by decide)], h.2⟩
theorem csame.p {M M' : XM} (h : xsame 58 59 M M') : csame M M' := ⟨fun a k => h.1 a (by omega), by rw [h.1 41 (by decide)], h.2⟩
theorem csame.a {M M' : XM} (h : asame M M') : csame M M' := ⟨fun a k => h.1 a (by omega), h.2.1, h.2.2⟩
theorem csame.r {M M' : XM} (h : rsm M M') : csame M M' := ⟨fun a k => h.1 a (by omega) (by omega), h.2.1, h.2.2⟩
theorem CR.eqs {a : Nat} {M M' : XM} {A : XA} {w r : Int32} (h : CR a M A w r) (hs : ∀ q, a ≤ q → q < a + 12 → M'.1 q = M.1 q) : CR a M' A w r := by
  obtain ⟨h1, h2⟩ := h
  refine ⟨fun k hk j hj => ?_, ?_⟩
  · rw [hs (a + 1 + k) (by omega) (by omega)]; exact h1 k hk j hj
  · rw [hs a (by omega) (by omega)]; exact h2
theorem XPQ.im {M M' : XM} {q : XQ} (h : XPQ 13 33 M q) (hs : ∀ a, 13 ≤ a → a < 41 → M'.1 a = M.1 a) : XPQ 13 33 M' q := ⟨h.1.eqs (fun q h1 h2 => hs q h1 (by omega)), h.2.same (fun q h1 h2 => hs q (by omega) (by omega))⟩
theorem XIm.same {M M' : XM} {tx : Nat → Nat → Nat} {ln : Nat → Nat} {made : Nat} {o : Option XQ} (h : XIm M tx ln made o) (h0 : M'.1 0 4 = M.1 0 4) (hs : ∀ a, 13 ≤ a → a < 41 → M'.1 a = M.1 a) : XIm M' tx ln made o := by
  cases o with
  | none => exact h0.trans h
  | some q => exact ⟨h0.trans h.1, h.2.1.im hs, h.2.2⟩
theorem RmS.eqs {M M' : XM} {tx : Nat → Nat → Nat} {ln : Nat → Nat} {made : Nat} (h : RmS M tx ln made) (h0 : M'.1 41 2 = M.1 41 2) (h1 : M'.1 42 = M.1 42) (h2 : M'.1 43 = M.1 43) : RmS M' tx ln made := by
  obtain ⟨a1, a2, a3⟩ := h
  exact ⟨h0.trans a1, a2, fun r hr => by rw [h2, h1]; exact a3 r hr⟩
theorem TR.eqs {s q : Nat} {M M' : XM} {T : XA} {I : Nat → Int64} (h : TR s q M T I) (h0 : M'.1 s = M.1 s) (h1 : M'.1 (s + 1) = M.1 (s + 1)) (h2 : M'.2 q = M.2 q) : TR s q M' T I := by
  unfold TR
  rw [h0, h1, h2]
  exact h
theorem aTr.eqs {M M' : XM} {l : List Nat} (h : aTr M l) (h0 : M'.1 59 = M.1 59) (h1 : M'.1 60 = M.1 60) : aTr M' l := by
  unfold aTr
  rw [h0, h1]
  exact h
/-- the present part is new, all else stands -/
theorem XC9.up {M M' : XM} {s : XSt} {A : XA} {W : Nat} {r : Int32} {L : List XCl} (h : XC9 M s) (hs : csame M M') (hR : CR 1 M' A (nI W) r) (hq : okQ s.2.2.1 s.2.2.2.1 s.2.2.2.2.1 (A, W, r, s.1.2.2.2.1, L)) : XC9 M' ((A, W, r, s.1.2.2.2.1, L), s.2) :=
  ⟨⟨hR, h.1.2.same (fun q h1 h2 => hs.1 q (by omega))⟩, hq, h.2.2.1.same (by rw [hs.1 0 (by omega)]) (fun a h1 h2 => hs.1 a (by omega)), h.2.2.2.1.eqs hs.2.1 (hs.1 42 (by omega)) (hs.1 43 (by omega)), h.2.2.2.2.1.eqs (hs.1 63 (by omega)) (hs.1 64 (by omega)) (by rw [hs.2.2]), h.2.2.2.2.2.eqs (hs.1 59 (by omega)) (hs.1 60 (by omega))⟩
/-- nothing that calls see changes -/
theorem XC9.st {M M' : XM} {s : XSt} (h : XC9 M s) (hs : csame M M') (hR : CR 1 M' s.1.1 (nI s.1.2.1) s.1.2.2.1) : XC9 M' s := h.up hs hR h.2.1
theorem CR.bd {a : Nat} {M : XM} {A : XA} {w r : Int32} (h : CR a M A w r) : bdA A := ⟨fun k hk j hj => (h.1 k hk j hj).2, h.goersB, h.furnB⟩
theorem NR.bd {b : Nat} {M : XM} {N : XA} (h : NR b M N) : bdN N := ⟨fun j hj => ⟨(h.1 j hj).2.1, (h.1 j hj).2.2.2.1, (h.1 j hj).2.2.2.2.2⟩, fun j hj => ⟨(h.2.1 j hj).2.1, fun q => ((h.2.1 j hj).2.2 q).2⟩, fun j hj => ⟨(h.2.2.1 j hj).2.1, (h.2.2.1 j hj).2.2.2⟩, h.2.2.2.1.2, h.2.2.2.2.1.2, h.2.2.2.2.2.2⟩
def btw (n lo hi : Int32) : Bool := decide (lo ≤ n ∧ n ≤ hi)
theorem btw_isR {x : Int32} {h : Nat} (hh : h + 1 < 2 ^ 31) : btw x (nI 0) (nI h) = isR x (nI (h + 1)) := by
  rcases pk_ix x hh with q | q | ⟨j, hj, rfl⟩
  · rw [isR_neg q]; exact decide_eq_false (fun z => absurd z.1 (Int32.not_le.mpr q))
  · rw [isR_big q]; exact decide_eq_false (fun z => absurd (Int32.le_trans q z.2) (nI_ge (by omega) (by omega)))
  · rw [isR_nI (by omega) (by omega), decide_eq_true hj]
    exact decide_eq_true ⟨nI_pos' (by omega), nI_le (by omega) (by omega)⟩
section P41
variable {g : XG} {d : Nat} {S : XS} {M : XM} {K : Option Value → XS → XM → Prop} {A N : XA} {w r : Int32} {gg : Nat} {tx : Nat → Nat → Nat} {ln : Nat → Nat} {made : Nat} {L : List XCl}
theorem sp_X9_isBetween {n lo hi : Int32} (h : K (some (.int (nI (b2n (btw n lo hi))))) S M) : Ex g d yX9_isBetween mX9_isBetween [.int n, .int lo, .int hi] S M K := by
  refine x_entry kX9_isBetween (Nat.le_of_ble_eq_true rfl) ?_
  show Wp g _ mX9_isBetween 0 [some (.int n), some (.int lo), some (.int hi)] [] _ _ _ _
  refine x_iload_n (pc := 0) dX9_isBetween_0 rfl ?_
  refine x_iload_n (pc := 1) dX9_isBetween_1 rfl ?_
  refine x_icmp_lt (pc := 2) (tgt := 14) dX9_isBetween_2 (by decide) (fun h2 => ?_) (fun h2 => ?_)
  · skip
    refine x_iconstN (pc := 14) 0 dX9_isBetween_14 ic_0 ?_
    refine x_ret (pc := 15) (v := some _) rfl (by first | rfl | decide | exact xrt_b) dX9_isBetween_15 (by decide) ?_
    rw [show btw n lo hi = false from decide_eq_false (fun q => absurd q.1 (Int32.not_le.mpr h2))] at h; exact h
  · skip
    refine x_iload_n (pc := 5) dX9_isBetween_5 rfl ?_
    refine x_iload_n (pc := 6) dX9_isBetween_6 rfl ?_
    refine x_icmp_gt (pc := 7) (tgt := 14) dX9_isBetween_7 (by decide) (fun h7 => ?_) (fun h7 => ?_)
    · skip
      refine x_iconstN (pc := 14) 0 dX9_isBetween_14 ic_0 ?_
      refine x_ret (pc := 15) (v := some _) rfl (by first | rfl | decide | exact xrt_b) dX9_isBetween_15 (by decide) ?_
      rw [show btw n lo hi = false from decide_eq_false (fun q => absurd q.2 (Int32.not_le.mpr h7))] at h; exact h
    · skip
      refine x_iconstN (pc := 10) 1 dX9_isBetween_10 ic_1 ?_
      refine x_goto (pc := 11) (tgt := 15) dX9_isBetween_11 (by decide) ?_
      refine x_ret (pc := 15) (v := some _) rfl (by first | rfl | decide | exact xrt_b) dX9_isBetween_15 (by decide) ?_
      rw [show btw n lo hi = true from decide_eq_true ⟨Int32.not_lt.mp h2, Int32.not_lt.mp h7⟩] at h; exact h
theorem sp_X9_isCellAsked {n lo : Int32} (h : K (some (.int (nI (b2n (decide (lo ≤ n ∧ n < lo + nI 16)))))) S M) : Ex g d yX9_isCellAsked mX9_isCellAsked [.int n, .int lo] S M K := by
  refine x_entry kX9_isCellAsked (Nat.le_of_ble_eq_true rfl) ?_
  show Wp g _ mX9_isCellAsked 0 [some (.int n), some (.int lo)] [] _ _ _ _
  refine x_iload_n (pc := 0) dX9_isCellAsked_0 rfl ?_
  refine x_iload_n (pc := 1) dX9_isCellAsked_1 rfl ?_
  refine x_icmp_lt (pc := 2) (tgt := 17) dX9_isCellAsked_2 (by decide) (fun h2 => ?_) (fun h2 => ?_)
  · skip
    refine x_iconstN (pc := 17) 0 dX9_isCellAsked_17 ic_0 ?_
    refine x_ret (pc := 18) (v := some _) rfl (by first | rfl | decide | exact xrt_b) dX9_isCellAsked_18 (by decide) ?_
    rw [decide_eq_false (fun q => absurd q.1 (Int32.not_le.mpr h2))] at h; exact h
  · skip
    refine x_iload_n (pc := 5) dX9_isCellAsked_5 rfl ?_
    refine x_iload_n (pc := 6) dX9_isCellAsked_6 rfl ?_
    refine x_bipushN (pc := 7) 16 dX9_isCellAsked_7 bp_16 ?_
    refine x_iadd (pc := 9) dX9_isCellAsked_9 ?_
    refine x_icmp_ge (pc := 10) (tgt := 17) dX9_isCellAsked_10 (by decide) (fun h10 => ?_) (fun h10 => ?_)
    · skip
      refine x_iconstN (pc := 17) 0 dX9_isCellAsked_17 ic_0 ?_
      refine x_ret (pc := 18) (v := some _) rfl (by first | rfl | decide | exact xrt_b) dX9_isCellAsked_18 (by decide) ?_
      rw [decide_eq_false (fun q => absurd q.2 (Int32.not_lt.mpr h10))] at h; exact h
    · skip
      refine x_iconstN (pc := 13) 1 dX9_isCellAsked_13 ic_1 ?_
      refine x_goto (pc := 14) (tgt := 18) dX9_isCellAsked_14 (by decide) ?_
      refine x_ret (pc := 18) (v := some _) rfl (by first | rfl | decide | exact xrt_b) dX9_isCellAsked_18 (by decide) ?_
      rw [decide_eq_true ⟨Int32.not_lt.mp h2, Int32.not_le.mp h10⟩] at h; exact h
theorem sp_X9_oneIf {b : Bool} (h : K (some (.int (nI (b2n b)))) S M) : Ex g d yX9_oneIf mX9_oneIf [.int (nI (b2n b))] S M K := by
  refine x_entry kX9_oneIf (Nat.le_of_ble_eq_true rfl) ?_
  show Wp g _ mX9_oneIf 0 [some (.int (nI (b2n b)))] [] _ _ _ _
  refine x_iload_n (pc := 0) dX9_oneIf_0 rfl ?_
  first | (guard_target =~ Wp _ _ _ _ _ (Value.int (nI _) :: _) _ _ _ _; with_reducible refine x_if_eqN (pc := 1) (tgt := 8) ?_ dX9_oneIf_1 ?_ (fun h1 => ?_) (fun h1 => ?_); (first | omega | exact b2n_32 _ | exact b2n_31 _); decide) | refine x_if_eq (pc := 1) (tgt := 8) dX9_oneIf_1 (by decide) (fun h1 => ?_) (fun h1 => ?_)
  · skip
    refine x_iconstN (pc := 8) 0 dX9_oneIf_8 ic_0 ?_
    refine x_ret (pc := 9) (v := some _) rfl trivial dX9_oneIf_9 (by decide) ?_
    rw [h1] at h; exact h
  · skip
    refine x_iconstN (pc := 4) 1 dX9_oneIf_4 ic_1 ?_
    refine x_goto (pc := 5) (tgt := 9) dX9_oneIf_5 (by decide) ?_
    refine x_ret (pc := 9) (v := some _) rfl trivial dX9_oneIf_9 (by decide) ?_
    rw [show b2n b = 1 by have := b2n_lt b; omega] at h; exact h
theorem sp_X9_learnYields (hg : gg < 6) (hR : CR 1 M A w r) (hm : RmS M tx ln made) (hL : RmL tx ln made r L) (h : ∀ M', csame M M' → CR 1 M' (yldA A gg (yvF (fG gg (A 1 gg) (A 2 gg)) L)) w r → K none xSF M') : Ex g (d + 18) yX9_learnYields mX9_learnYields [.ref 0, .int (nI gg)] xSF M K := by
  have hk := hR.kindB hg
  have hv := hR.vB hg
  refine x_entry kX9_learnYields (Nat.le_of_ble_eq_true rfl) ?_
  show Wp g _ mX9_learnYields 0 [some (.ref 0), some (.int (nI gg))] [] _ _ _ _
  refine x_aload_n (pc := 0) dX9_learnYields_0 rfl ?_
  refine x_getR (pc := 1) dX9_learnYields_1 flX9_34 (by first | assumption | rfl) rfl ?_
  refine x_aload_n (pc := 4) dX9_learnYields_4 rfl ?_
  refine x_getR (pc := 5) dX9_learnYields_5 flX9_12 (by first | assumption | rfl) rfl ?_
  refine x_getI (pc := 8) dX9_learnYields_8 flX9_166 (by first | assumption | rfl) rfl ?_
  rw [hR.room]
  refine x_iload_n (pc := 11) dX9_learnYields_11 rfl ?_
  refine x_aload_n (pc := 12) dX9_learnYields_12 rfl ?_
  refine x_getR (pc := 13) dX9_learnYields_13 flX9_12 (by first | assumption | rfl) rfl ?_
  refine x_getR (pc := 16) dX9_learnYields_16 flX9_107 (by first | assumption | rfl) rfl ?_
  refine x_iload_n (pc := 19) dX9_learnYields_19 rfl ?_
  refine x_ialdN (pc := 20) dX9_learnYields_20 (by first | assumption | rfl) (by first | with_reducible rfl | (simp only [xlit, nI_add, pk_mul]; with_reducible rfl)) (by omega) (by decide) ?_
  rw [hR.kind hg]
  refine x_aload_n (pc := 21) dX9_learnYields_21 rfl ?_
  refine x_getR (pc := 22) dX9_learnYields_22 flX9_12 (by first | assumption | rfl) rfl ?_
  refine x_getR (pc := 25) dX9_learnYields_25 flX9_110 (by first | assumption | rfl) rfl ?_
  refine x_iload_n (pc := 28) dX9_learnYields_28 rfl ?_
  refine x_ialdN (pc := 29) dX9_learnYields_29 (by first | assumption | rfl) (by first | with_reducible rfl | (simp only [xlit, nI_add, pk_mul]; with_reducible rfl)) (by omega) (by decide) ?_
  rw [hR.v hg]
  refine x_invV4 (pc := 30) dX9_learnYields_30 mlX9_334 imX6_readFor seX6_readFor kX6_readFor (by first | assumption | rfl) rfl (Nat.le_of_ble_eq_true rfl) (by decide) ?_
  refine sp_X6_readForR (by omega) (by omega) (by omega) hm hL (fun M1 hs hO => ?_)
  refine x_cn rfl rfl ?_
  refine x_aload_n (pc := 33) dX9_learnYields_33 rfl ?_
  refine x_getR (pc := 34) dX9_learnYields_34 flX9_34 (by first | assumption | rfl) rfl ?_
  refine x_aload_n (pc := 37) dX9_learnYields_37 rfl ?_
  refine x_getR (pc := 38) dX9_learnYields_38 flX9_12 (by first | assumption | rfl) rfl ?_
  refine x_getR (pc := 41) dX9_learnYields_41 flX9_103 (by first | assumption | rfl) rfl ?_
  refine x_iload_n (pc := 44) dX9_learnYields_44 rfl ?_
  refine x_invV2 (pc := 45) dX9_learnYields_45 mlX9_338 imX6_copyYields seX6_copyYields kX6_copyYields (by first | assumption | rfl) rfl (Nat.le_of_ble_eq_true rfl) (by decide) ?_
  refine sp_X6_copyYields hg (Or.inl (by decide)) hL.1 hO car1 (hR.out hs.x (by decide)) (fun M2 hs2 hR2 => ?_)
  refine x_cn rfl rfl ?_
  refine x_ret (pc := 48) (v := none) rfl trivial dX9_learnYields_48 (by decide) ?_
  exact h M2 ((csame.r hs).tr (csame.c1 hs2)) hR2
end P41
