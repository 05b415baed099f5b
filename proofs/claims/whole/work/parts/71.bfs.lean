/-! breadth first with a queue, without a machine -/
def ddN (fr : Nat → Bool) (t c : Nat) : Nat := (Dd fr t c).getD 0
abbrev BF (fr : Nat → Bool) (t : Nat) (D : Nat → Option Nat) (w : Nat → Nat) (n k b : Nat) : Prop := (∀ i, i < n → w i < 16) ∧ (∀ i, i < n → D (w i) ≠ none) ∧ (∀ c, c < 16 → D c ≠ none → ∃ i, i < n ∧ w i = c) ∧ (∀ c, c < 16 → D c ≠ none → D c = Dd fr t c) ∧ (∀ i j, i ≤ j → j < n → ddN fr t (w i) ≤ ddN fr t (w j)) ∧ (k < n → ∀ i, i < n → ddN fr t (w i) ≤ ddN fr t (w k) + 1) ∧ (∀ i c, (i < k ∨ (i = k ∧ c < b)) → i < n → c < 16 → fr c = true → adj (w i) c = true → D c ≠ none) ∧ (0 < n) ∧ (w 0 = t) ∧ (xsum (fun c => b2n (D c).isSome) 16 = n)
theorem BF.lt {fr : Nat → Bool} {t : Nat} {D : Nat → Option Nat} {w : Nat → Nat} {n k b : Nat} (h : BF fr t D w n k b) : ∀ i, i < n → w i < 16 := h.1
theorem BF.vis {fr : Nat → Bool} {t : Nat} {D : Nat → Option Nat} {w : Nat → Nat} {n k b : Nat} (h : BF fr t D w n k b) : ∀ i, i < n → D (w i) ≠ none := h.2.1
theorem BF.inw {fr : Nat → Bool} {t : Nat} {D : Nat → Option Nat} {w : Nat → Nat} {n k b : Nat} (h : BF fr t D w n k b) : ∀ c, c < 16 → D c ≠ none → ∃ i, i < n ∧ w i = c := h.2.2.1
theorem BF.ok {fr : Nat → Bool} {t : Nat} {D : Nat → Option Nat} {w : Nat → Nat} {n k b : Nat} (h : BF fr t D w n k b) : ∀ c, c < 16 → D c ≠ none → D c = Dd fr t c := h.2.2.2.1
theorem BF.mono {fr : Nat → Bool} {t : Nat} {D : Nat → Option Nat} {w : Nat → Nat} {n k b : Nat} (h : BF fr t D w n k b) : ∀ i j, i ≤ j → j < n → ddN fr t (w i) ≤ ddN fr t (w j) := h.2.2.2.2.1
theorem BF.top {fr : Nat → Bool} {t : Nat} {D : Nat → Option Nat} {w : Nat → Nat} {n k b : Nat} (h : BF fr t D w n k b) : k < n → ∀ i, i < n → ddN fr t (w i) ≤ ddN fr t (w k) + 1 := h.2.2.2.2.2.1
theorem BF.nb {fr : Nat → Bool} {t : Nat} {D : Nat → Option Nat} {w : Nat → Nat} {n k b : Nat} (h : BF fr t D w n k b) : ∀ i c, (i < k ∨ (i = k ∧ c < b)) → i < n → c < 16 → fr c = true → adj (w i) c = true → D c ≠ none := h.2.2.2.2.2.2.1
theorem BF.pos {fr : Nat → Bool} {t : Nat} {D : Nat → Option Nat} {w : Nat → Nat} {n k b : Nat} (h : BF fr t D w n k b) : 0 < n := h.2.2.2.2.2.2.2.1
theorem BF.w0 {fr : Nat → Bool} {t : Nat} {D : Nat → Option Nat} {w : Nat → Nat} {n k b : Nat} (h : BF fr t D w n k b) : w 0 = t := h.2.2.2.2.2.2.2.2.1
theorem BF.cnt {fr : Nat → Bool} {t : Nat} {D : Nat → Option Nat} {w : Nat → Nat} {n k b : Nat} (h : BF fr t D w n k b) : xsum (fun c => b2n (D c).isSome) 16 = n := h.2.2.2.2.2.2.2.2.2
theorem xsum_upd {f h : Nat → Nat} {j v : Nat} : ∀ {n : Nat}, j < n → (∀ i, i < n → i ≠ j → h i = f i) → h j = f j + v → xsum h n = xsum f n + v := by
  intro n
  induction n with
  | zero => intro hj; omega
  | succ n ih =>
    intro hj h1 h2
    rw [xsum, xsum]
    by_cases hjn : j = n
    · subst hjn
      have : xsum h j = xsum f j := by
        have hc : ∀ m, m ≤ j → xsum h m = xsum f m := by
          intro m
          induction m with
          | zero => intro _; rfl
          | succ m ih2 => intro hm; rw [xsum, xsum, ih2 (by omega), h1 m (by omega) (by omega)]
        exact hc j (Nat.le_refl _)
      omega
    · rw [ih (by omega) (fun i hi hne => h1 i (by omega) hne) h2, h1 n (by omega) (fun z => hjn z.symm)]; omega
section BFS
variable {fr : Nat → Bool} {t : Nat} {D : Nat → Option Nat} {w : Nat → Nat} {n k b : Nat}
theorem ddN_of {c s : Nat} (h : Dd fr t c = some s) : ddN fr t c = s := by unfold ddN; rw [h]; rfl
theorem BF.some (h : BF fr t D w n k b) {i : Nat} (hi : i < n) : D (w i) = some (ddN fr t (w i)) ∧ Dd fr t (w i) = some (ddN fr t (w i)) := by
  have h1 := h.ok _ (h.lt i hi) (h.vis i hi)
  have h2 := h.vis i hi
  cases hd : D (w i) with
  | none => exact absurd hd h2
  | some s =>
    rw [hd] at h1
    have h3 := h1.symm
    rw [ddN_of h3]; exact ⟨rfl, h3⟩
theorem BF.skip (h : BF fr t D w n k b) (hs : adj (w k) b = true → fr b = true → D b ≠ none) : BF fr t D w n k (b + 1) := by
  refine ⟨h.lt, h.vis, h.inw, h.ok, h.mono, h.top, fun i c hic hi hc hf ha => ?_, h.pos, h.w0, h.cnt⟩
  rcases hic with hic | ⟨hik, hcb⟩
  · exact h.nb i c (Or.inl hic) hi hc hf ha
  · by_cases hcb2 : c = b
    · subst hcb2; subst hik; exact hs ha hf
    · exact h.nb i c (Or.inr ⟨hik, by omega⟩) hi hc hf ha
/-- all that is nearer than the one looked at is reached -/
theorem BF.near (h : BF fr t D w n k b) (ht : t < 16) (hk : k < n) : ∀ s, s ≤ ddN fr t (w k) → ∀ c, c < 16 → Dd fr t c = Option.some s → D c ≠ none := by
  intro s
  induction s with
  | zero =>
    intro _ c hc hd
    have := Dd_0 hc ht hd
    subst this
    rw [← h.w0]
    exact h.vis 0 h.pos
  | succ s ih =>
    intro hs c hc hd
    obtain ⟨a, ha, hadj, hda⟩ := Dd_pred hc ht hd
    have hva := ih (by omega) a ha hda
    obtain ⟨i, hi, hw⟩ := h.inw a ha hva
    have hik : i < k := by
      refine Nat.lt_of_not_le (fun hki => ?_)
      have := h.mono k i hki hi
      rw [hw, ddN_of hda] at this
      omega
    have hfc : fr c = true := by
      obtain ⟨h1, h2⟩ := (Dd_iff hc ht).mp hd
      exact (Rr_back h1 (h2 s (by omega))).1
    exact h.nb i c (Or.inl hik) hi hc hfc (by rw [hw]; exact hadj)
theorem BF.new (h : BF fr t D w n k b) (ht : t < 16) (hk : k < n) (hb : b < 16) (hf : fr b = true) (ha : adj (w k) b = true) (hd : D b = none) : Dd fr t b = Option.some (ddN fr t (w k) + 1) := by
  obtain ⟨h1, h2⟩ := h.some hk
  obtain ⟨j, hj, hle⟩ := Dd_nb (h.lt k hk) hb ht hf ha h2
  by_cases hjl : j ≤ ddN fr t (w k)
  · exact absurd hd (h.near ht hk j hjl b hb hj)
  · rw [hj, show j = ddN fr t (w k) + 1 by omega]
theorem BF.room (h : BF fr t D w n k b) (hb : b < 16) (hd : D b = none) : n < 16 := by
  rw [← h.cnt]
  have h1 : xsum (fun c => b2n (D c).isSome) 16 < xsum (fun _ => 1) 16 := xsum_lt (j := b) (fun i _ => by have := b2n_lt (D i).isSome; omega) hb (by show b2n (D b).isSome < 1; rw [hd]; decide)
  rw [xsum_const] at h1; exact h1
def updF {α : Type} (f : Nat → α) (b : Nat) (v : α) : Nat → α := fun c => if c = b then v else f c
theorem updF_at {α : Type} {f : Nat → α} {b : Nat} {v : α} : updF f b v b = v := if_pos rfl
theorem updF_ne {α : Type} {f : Nat → α} {b c : Nat} {v : α} (h : c ≠ b) : updF f b v c = f c := if_neg h
theorem BF.visit (h : BF fr t D w n k b) (ht : t < 16) (hk : k < n) (hb : b < 16) (hf : fr b = true) (ha : adj (w k) b = true) (hd : D b = none) : BF fr t (updF D b (Option.some (ddN fr t (w k) + 1))) (updF w n b) (n + 1) k (b + 1) := by
  have hnew := h.new ht hk hb hf ha hd
  have hkn : k ≠ n := by omega
  refine ⟨fun i hi => ?_, fun i hi => ?_, fun c hc hv => ?_, fun c hc hv => ?_, fun i j hij hj => ?_, fun _ i hi => ?_, fun i c hic hi hc hfc hadj => ?_, by omega, ?_, ?_⟩
  · by_cases z : i = n
    · rw [z, updF_at]; exact hb
    · rw [updF_ne z]; exact h.lt i (by omega)
  · by_cases z : i = n
    · rw [z, updF_at, updF_at]; exact fun q => by cases q
    · rw [updF_ne z]
      have := h.vis i (by omega)
      by_cases z2 : w i = b
      · rw [z2, updF_at]; exact fun q => by cases q
      · rw [updF_ne z2]; exact this
  · by_cases z : c = b
    · exact ⟨n, by omega, by rw [updF_at, z]⟩
    · rw [updF_ne z] at hv
      obtain ⟨i, hi, hw⟩ := h.inw c hc hv
      exact ⟨i, by omega, by rw [updF_ne (by omega)]; exact hw⟩
  · by_cases z : c = b
    · rw [z, updF_at]; exact hnew.symm
    · rw [updF_ne z] at hv ⊢; exact h.ok c hc hv
  · by_cases zj : j = n
    · by_cases zi : i = n
      · rw [zj, zi]; exact Nat.le_refl _
      · rw [zj, updF_at, updF_ne zi, ddN_of hnew]; exact h.top hk i (by omega)
    · rw [updF_ne zj, updF_ne (by omega)]; exact h.mono i j hij (by omega)
  · rw [updF_ne hkn]
    by_cases zi : i = n
    · rw [zi, updF_at, ddN_of hnew]; exact Nat.le_refl _
    · rw [updF_ne zi]; exact h.top hk i (by omega)
  · have hin : i ≠ n := by omega
    rw [updF_ne hin] at hadj
    by_cases z : c = b
    · rw [z, updF_at]; exact fun q => by cases q
    · rw [updF_ne z]
      refine h.nb i c ?_ (by omega) hc hfc hadj
      rcases hic with q | ⟨q1, q2⟩
      · exact Or.inl q
      · exact Or.inr ⟨q1, by omega⟩
  · rw [updF_ne (by have := h.pos; omega)]; exact h.w0
  · rw [show xsum (fun c => b2n (updF D b (Option.some (ddN fr t (w k) + 1)) c).isSome) 16 = xsum (fun c => b2n (D c).isSome) 16 + 1 from xsum_upd (j := b) hb (fun i _ hne => by rw [updF_ne hne]) (by rw [updF_at, hd]; rfl), h.cnt]
theorem BF.next (h : BF fr t D w n k 16) (hk : k < n) : BF fr t D w n (k + 1) 0 := by
  refine ⟨h.lt, h.vis, h.inw, h.ok, h.mono, fun hk1 i hi => ?_, fun i c hic hi hc hf ha => ?_, h.pos, h.w0, h.cnt⟩
  · have h1 := h.top hk i hi
    have h2 := h.mono k (k + 1) (by omega) hk1
    omega
  · rcases hic with q | ⟨q1, q2⟩
    · by_cases z : i = k
      · exact h.nb i c (Or.inr ⟨z, hc⟩) hi hc hf ha
      · exact h.nb i c (Or.inl (by omega)) hi hc hf ha
    · omega
theorem BF.fin (h : BF fr t D w n n 0) (ht : t < 16) : ∀ c, c < 16 → D c = Dd fr t c := by
  have key : ∀ s c, c < 16 → Dd fr t c = Option.some s → D c ≠ none := by
    intro s
    induction s with
    | zero =>
      intro c hc hd
      have := Dd_0 hc ht hd
      subst this
      rw [← h.w0]
      exact h.vis 0 h.pos
    | succ s ih =>
      intro c hc hd
      obtain ⟨a, ha, hadj, hda⟩ := Dd_pred hc ht hd
      obtain ⟨i, hi, hw⟩ := h.inw a ha (ih a ha hda)
      obtain ⟨h1, h2⟩ := (Dd_iff hc ht).mp hd
      exact h.nb i c (Or.inl hi) hi hc (Rr_back h1 (h2 s (by omega))).1 (by rw [hw]; exact hadj)
  intro c hc
  by_cases hv : D c = none
  · cases hd : Dd fr t c with
    | none => exact hv
    | some s => exact absurd hv (key s c hc hd)
  · exact h.ok c hc hv
theorem BF.start (ht : t < 16) : BF fr t (updF (fun _ => none) t (Option.some 0)) (fun _ => t) 1 0 0 := by
  refine ⟨fun _ _ => ht, fun _ _ => (by rw [updF_at]; exact Option.some_ne_none 0), fun c _ hv => ⟨0, by decide, ?_⟩, fun c _ hv => ?_, fun _ _ _ _ => Nat.le_refl _, fun _ _ _ => Nat.le_succ _, fun i c hic => by omega, by decide, rfl, ?_⟩
  · by_cases z : c = t
    · exact z.symm
    · rw [updF_ne z] at hv; exact absurd rfl hv
  · by_cases z : c = t
    · rw [z, updF_at]; exact (Dd_t ht).symm
    · rw [updF_ne z] at hv; exact absurd rfl hv
  · rw [show xsum (fun c => b2n (updF (fun _ => none) t (Option.some 0) c).isSome) 16 = xsum (fun _ => 0) 16 + 1 from xsum_upd (j := t) ht (fun i _ hne => by rw [updF_ne hne]; rfl) (by rw [updF_at]; rfl), xsum_const]
theorem Dd_fr {c s : Nat} (hc : c < 16) (ht : t < 16) (hf : fr t = true) (h : Dd fr t c = Option.some s) : fr c = true := by
  cases s with
  | zero => rw [Dd_0 hc ht h]; exact hf
  | succ s =>
    obtain ⟨h1, h2⟩ := (Dd_iff hc ht).mp h
    exact (Rr_back h1 (h2 s (by omega))).1
end BFS
