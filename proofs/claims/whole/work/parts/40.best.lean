/-! ASKED of the program: the best furniture -/
def candS (A : XA) (s : Nat) : Prop := s &&& (freA A ^^^ 4294967295) = 0
def prS (a b : Nat) : Nat := 2 ^ a ||| 2 ^ b
def wF (A : XA) (w : Int32) (s : Nat) : Nat := sumA (spA (furA A (A 10 0 ||| s)) w 10)
/-- best and its wear, of the sets s with Q s -/
def bstI (A : XA) (w : Int32) (Q : Nat → Prop) (o : Option Nat) (l : Nat) : Prop := match o with
  | none => l = sumA (spA A w 10) ∧ ∀ s, Q s → candS A s → l ≤ wF A w s
  | some b => Q b ∧ candS A b ∧ l = wF A w b ∧ l < sumA (spA A w 10) ∧ ∀ s, Q s → candS A s → l < wF A w s ∨ (l = wF A w s ∧ b ≤ s)
theorem bstI_cong {A : XA} {w : Int32} {Q Q' : Nat → Prop} {o : Option Nat} {l : Nat} (h : bstI A w Q o l) (hq : ∀ s, candS A s → (Q s ↔ Q' s)) : bstI A w Q' o l := by
  cases o with
  | none => exact ⟨h.1, fun s h1 h2 => h.2 s ((hq s h2).mpr h1) h2⟩
  | some b => exact ⟨(hq b h.2.1).mp h.1, h.2.1, h.2.2.1, h.2.2.2.1, fun s h1 h2 => h.2.2.2.2 s ((hq s h2).mpr h1) h2⟩
theorem bstI_uniq {A : XA} {w : Int32} {Q : Nat → Prop} {o o' : Option Nat} {l l' : Nat} (h : bstI A w Q o l) (h' : bstI A w Q o' l') : o = o' := by
  cases o with
  | none =>
    cases o' with
    | none => rfl
    | some b =>
      have h1 := h.1
      have h2 := h.2 b h'.1 h'.2.1
      have h3 := h'.2.2.1
      have h4 := h'.2.2.2.1
      omega
  | some b =>
    cases o' with
    | none =>
      have h1 := h'.1
      have h2 := h'.2 b h.1 h.2.1
      have h3 := h.2.2.1
      have h4 := h.2.2.2.1
      omega
    | some b' =>
      have h1 := h.2.2.2.2 b' h'.1 h'.2.1
      have h2 := h'.2.2.2.2 b h.1 h.2.1
      have h3 := h.2.2.1
      have h4 := h'.2.2.1
      have : b = b' := by omega
      rw [this]
/-- pairs already tried -/
def pairQ (one oth : Nat) (s : Nat) : Prop := ∃ a b, a ≤ b ∧ b < 16 ∧ (a < one ∨ (a = one ∧ b < oth)) ∧ s = prS a b
section P40
variable {g : XG} {d : Nat} {M : XM} {K : Option Value → XS → XM → Prop} {A N : XA} {w r : Int32}
theorem sumA_leB {A : XA} {b : Nat} (h : ∀ j, j < 16 → A 0 j ≤ b) : sumA A ≤ 16 * b := xsum_bd h
theorem freA_lt : freA A < 65536 := xset_lt (n := 16)
theorem prS_lt : ∀ a, a < 16 → ∀ b, b < 16 → 2 ^ a ||| 2 ^ b < 65536 := by decide +kernel
theorem furA_w {f : Nat} {j : Nat} : furA A f 0 j = A 0 j := by
  simp [furA, updA]
theorem furA_d {f : Nat} : furA A f 11 0 = A 11 0 := by
  simp [furA, updA]
/-- one pair -/
theorem bstI_step {o : Option Nat} {l one oth : Nat} (h1 : one ≤ oth) (h2 : oth < 16) (h : bstI A w (pairQ one oth) o l) (o' : Option Nat) (l' : Nat)
    (hn : ¬ candS A (prS one oth) → o' = o ∧ l' = l)
    (hy : candS A (prS one oth) → (if wF A w (prS one oth) < l ∨ (wF A w (prS one oth) = l ∧ ∃ b, o = some b ∧ prS one oth < b) then o' = some (prS one oth) ∧ l' = wF A w (prS one oth) else o' = o ∧ l' = l)) : bstI A w (pairQ one (oth + 1)) o' l' := by
  have hq : ∀ s, pairQ one (oth + 1) s ↔ pairQ one oth s ∨ s = prS one oth := by
    intro s
    constructor
    · rintro ⟨a, b, q1, q2, q3, q4⟩
      by_cases hab : a = one ∧ b = oth
      · exact Or.inr (by rw [q4, hab.1, hab.2])
      · exact Or.inl ⟨a, b, q1, q2, by omega, q4⟩
    · rintro (⟨a, b, q1, q2, q3, q4⟩ | rfl)
      · exact ⟨a, b, q1, q2, by omega, q4⟩
      · exact ⟨one, oth, h1, h2, by omega, rfl⟩
  by_cases hc : candS A (prS one oth)
  · have hy := hy hc
    by_cases hu : wF A w (prS one oth) < l ∨ (wF A w (prS one oth) = l ∧ ∃ b, o = some b ∧ prS one oth < b)
    · rw [if_pos hu] at hy
      obtain ⟨rfl, rfl⟩ := hy
      cases o with
      | none =>
        have hu : wF A w (prS one oth) < l := by
          rcases hu with q | ⟨-, b, q, -⟩
          · exact q
          · cases q
        obtain ⟨e1, e2⟩ := h
        refine ⟨(hq _).mpr (Or.inr rfl), hc, rfl, by omega, fun s q1 q2 => ?_⟩
        rcases (hq s).mp q1 with q | rfl
        · exact Or.inl (by have := e2 s q q2; omega)
        · exact Or.inr ⟨rfl, Nat.le_refl _⟩
      | some b =>
        obtain ⟨e1, e2, e3, e4, e5⟩ := h
        have hu : wF A w (prS one oth) < l ∨ (wF A w (prS one oth) = l ∧ prS one oth < b) := by
          rcases hu with q | ⟨q, b', q1, q2⟩
          · exact Or.inl q
          · cases q1; exact Or.inr ⟨q, q2⟩
        refine ⟨(hq _).mpr (Or.inr rfl), hc, rfl, by omega, fun s q1 q2 => ?_⟩
        rcases (hq s).mp q1 with q | rfl
        · have := e5 s q q2; omega
        · exact Or.inr ⟨rfl, Nat.le_refl _⟩
    · rw [if_neg hu] at hy
      obtain ⟨rfl, rfl⟩ := hy
      cases o' with
      | none =>
        obtain ⟨e1, e2⟩ := h
        refine ⟨e1, fun s q1 q2 => ?_⟩
        rcases (hq s).mp q1 with q | rfl
        · exact e2 s q q2
        · omega
      | some b =>
        obtain ⟨e1, e2, e3, e4, e5⟩ := h
        refine ⟨(hq b).mpr (Or.inl e1), e2, e3, e4, fun s q1 q2 => ?_⟩
        rcases (hq s).mp q1 with q | rfl
        · exact e5 s q q2
        · have hu2 : ¬ (wF A w (prS one oth) = l' ∧ prS one oth < b) := fun q => hu (Or.inr ⟨q.1, b, rfl, q.2⟩)
          omega
  · obtain ⟨rfl, rfl⟩ := hn hc
    refine bstI_cong h (fun s hs => ⟨fun q => (hq s).mpr (Or.inl q), fun q => ?_⟩)
    rcases (hq s).mp q with q | rfl
    · exact q
    · exact absurd hs hc
theorem sp_X1_bestFurniture (hs : Std A) (hR : CR 1 M A w r) (h : ∀ M' o l, xsame 46 58 M M' → bstI A w (fun s => ∃ a b, a ≤ b ∧ b < 16 ∧ s = prS a b) o l → K (some (.int (oI' o))) xSF M') : Ex g (d + 5) yX1_bestFurniture mX1_bestFurniture [.ref 45] xSF M K := by
  have hfr := freA_lt (A := A)
  have hfb := hR.furnB
  have tl : ∀ (o : Option Nat) (l a b : Nat), bstI A w (pairQ a b) o l → l < 2 ^ 30 ∧ ∀ z, o = some z → z < 65536 := by
    intro o l a b hb
    have h0 : sumA (spA A w 10) ≤ 16 * (9999 + 65934 * 10) := sumA_leB (fun j hj => spA_bd hR (fun j hj => by have := hs.1 j hj; omega) j hj)
    cases o with
    | none => exact ⟨by have := hb.1; omega, fun z hz => by cases hz⟩
    | some x =>
      refine ⟨by have := hb.2.2.2.1; omega, fun z hz => ?_⟩
      cases hz
      obtain ⟨a', b', q1, q2, q3, q4⟩ := hb.1
      rw [q4]
      exact prS_lt a' (by omega) b' q2
  have inner : ∀ m oth one M1 o l o6 o7, one ≤ oth → oth + m = 16 → xsame 46 58 M M1 → bstI A w (pairQ one oth) o l →
      (∀ M2 o l o5 o6 o7, xsame 46 58 M M2 → bstI A w (pairQ one 16) o l → Wp g (d + 5) mX1_bestFurniture 142 [some (.ref 45), some (.int (nI (freA A))), some (.int (nI l)), some (.int (oI' o)), some (.int (nI one)), o5, o6, o7] [] xSF (0, 0) M2 K) →
      Wp g (d + 5) mX1_bestFurniture 32 [some (.ref 45), some (.int (nI (freA A))), some (.int (nI l)), some (.int (oI' o)), some (.int (nI one)), some (.int (nI oth)), o6, o7] [] xSF (0, 0) M1 K := by
    intro m
    induction m with
    | zero =>
      intro oth one M1 o l o6 o7 h1 h2 hs1 hb fin
      obtain rfl : oth = 16 := by omega
      refine x_iload (pc := 32) dX1_bestFurniture_32 rfl ?_
      refine x_bipushN (pc := 34) 16 dX1_bestFurniture_34 bp_16 ?_
      first | (guard_target =~ Wp _ _ _ _ _ (Value.int (nI _) :: Value.int (nI _) :: _) _ _ _ _; with_reducible refine x_icmp_geN (pc := 36) (tgt := 142) ?_ ?_ dX1_bestFurniture_36 ?_ (fun h36 => ?_) (fun h36 => ?_); (first | omega | exact b2n_31 _); (first | omega | exact b2n_31 _); decide) | refine x_icmp_ge (pc := 36) (tgt := 142) dX1_bestFurniture_36 (by decide) (fun h36 => ?_) (fun h36 => ?_)
      · skip
        exact fin M1 o l _ _ _ hs1 hb
      · skip
        omega
    | succ m ih =>
      intro oth one M1 o l o6 o7 h1 h2 hs1 hb fin
      have hR1 := hR.out hs1 (by decide)
      have hpl := prS_lt one (by omega) oth (by omega)
      obtain ⟨hl30, hz⟩ := tl o l one oth hb
      have hand : (2 ^ one ||| 2 ^ oth) &&& (freA A ^^^ 4294967295) ≤ 2 ^ one ||| 2 ^ oth := Nat.and_le_left
      by_cases hc : candS A (prS one oth)
      · have step := bstI_step (by omega) (by omega) hb
        have hfu : A 10 0 ||| (2 ^ one ||| 2 ^ oth) < 65536 := Nat.or_lt_two_pow (n := 16) hfb hpl
        have nx : ∀ M2 o' l' o6 o7, xsame 46 58 M M2 → (if wF A w (prS one oth) < l ∨ (wF A w (prS one oth) = l ∧ ∃ b, o = some b ∧ prS one oth < b) then o' = some (prS one oth) ∧ l' = wF A w (prS one oth) else o' = o ∧ l' = l) →
            Wp g (d + 5) mX1_bestFurniture 136 [some (.ref 45), some (.int (nI (freA A))), some (.int (nI l')), some (.int (oI' o')), some (.int (nI one)), some (.int (nI oth)), o6, o7] [] xSF (0, 0) M2 K := by
          intro M2 o' l' o6 o7 hs2 hst
          first | (guard_target =~ Wp _ _ _ _ (_ :: _ :: _ :: _ :: _ :: some (Value.int (nI _)) :: _) _ _ _ _ _; with_reducible refine x_iincN (pc := 136) 1 ic_1 dX1_bestFurniture_136 ?_ xg_5 xs_5 ?_ ?_; decide; exact (x_hp rfl)) | refine x_iincC (pc := 136) ic_1 dX1_bestFurniture_136 (by decide) rfl xs_5 (x_hp rfl) ?_
          refine x_goto (pc := 139) (tgt := 32) dX1_bestFurniture_139 (by decide) ?_
          exact ih (oth + 1) one M2 o' l' _ _ (by omega) (by omega) hs2 (step o' l' (fun q => absurd hc q) (fun _ => hst)) fin
        have cmp : ∀ M2, xsame 46 58 M M2 → wF A w (prS one oth) < 2 ^ 30 → Wp g (d + 5) mX1_bestFurniture 108 [some (.ref 45), some (.int (nI (freA A))), some (.int (nI l)), some (.int (oI' o)), some (.int (nI one)), some (.int (nI oth)), some (.int (nI (2 ^ one ||| 2 ^ oth))), some (.int (nI (wF A w (prS one oth))))] [] xSF (0, 0) M2 K := by
          intro M2 hs2 hwb
          by_cases hlt : wF A w (prS one oth) < l
          · skip
            refine x_iload (pc := 108) dX1_bestFurniture_108 rfl ?_
            refine x_iload_n (pc := 110) dX1_bestFurniture_110 rfl ?_
            first | (guard_target =~ Wp _ _ _ _ _ (Value.int (nI _) :: Value.int (nI _) :: _) _ _ _ _; with_reducible refine x_icmp_ltN (pc := 111) (tgt := 130) ?_ ?_ dX1_bestFurniture_111 ?_ (fun h111 => ?_) (fun h111 => ?_); (first | omega | exact b2n_31 _); (first | omega | exact b2n_31 _); decide) | refine x_icmp_lt (pc := 111) (tgt := 130) dX1_bestFurniture_111 (by decide) (fun h111 => ?_) (fun h111 => ?_)
            · skip
              refine x_iload (pc := 130) dX1_bestFurniture_130 rfl ?_
              refine x_istore_n (pc := 132) dX1_bestFurniture_132 (by decide) xs_2 (x_hp rfl) ?_
              refine x_iload (pc := 133) dX1_bestFurniture_133 rfl ?_
              refine x_istore_n (pc := 135) dX1_bestFurniture_135 (by decide) xs_3 (x_hp rfl) ?_
              exact nx M2 (some (prS one oth)) _ _ _ hs2 (by rw [if_pos (Or.inl hlt)]; exact ⟨rfl, rfl⟩)
            · skip
              omega
          · by_cases heq : wF A w (prS one oth) = l
            · rcases o with _ | b
              · skip
                refine x_iload (pc := 108) dX1_bestFurniture_108 rfl ?_
                refine x_iload_n (pc := 110) dX1_bestFurniture_110 rfl ?_
                first | (guard_target =~ Wp _ _ _ _ _ (Value.int (nI _) :: Value.int (nI _) :: _) _ _ _ _; with_reducible refine x_icmp_ltN (pc := 111) (tgt := 130) ?_ ?_ dX1_bestFurniture_111 ?_ (fun h111 => ?_) (fun h111 => ?_); (first | omega | exact b2n_31 _); (first | omega | exact b2n_31 _); decide) | refine x_icmp_lt (pc := 111) (tgt := 130) dX1_bestFurniture_111 (by decide) (fun h111 => ?_) (fun h111 => ?_)
                · skip
                  omega
                · skip
                  refine x_iload (pc := 114) dX1_bestFurniture_114 rfl ?_
                  refine x_iload_n (pc := 116) dX1_bestFurniture_116 rfl ?_
                  first | (guard_target =~ Wp _ _ _ _ _ (Value.int (nI _) :: Value.int (nI _) :: _) _ _ _ _; with_reducible refine x_icmp_neN (pc := 117) (tgt := 136) ?_ ?_ dX1_bestFurniture_117 ?_ (fun h117 => ?_) (fun h117 => ?_); (first | omega | exact b2n_31 _); (first | omega | exact b2n_31 _); decide) | refine x_icmp_ne (pc := 117) (tgt := 136) dX1_bestFurniture_117 (by decide) (fun h117 => ?_) (fun h117 => ?_)
                  · skip
                    omega
                  · skip
                    refine x_iload_n (pc := 120) dX1_bestFurniture_120 rfl ?_
                    refine x_if_lt (pc := 121) (tgt := 136) dX1_bestFurniture_121 (by decide) (fun h121 => ?_) (fun h121 => ?_)
                    · skip
                      exact nx M2 none l _ _ hs2 (by rw [if_neg (fun q => by rcases q with q | ⟨-, b, q, -⟩; exact hlt q; cases q)]; exact ⟨rfl, rfl⟩)
                    · skip
                      exact absurd (by decide) h121
              · have hzb := hz b rfl
                refine x_iload (pc := 108) dX1_bestFurniture_108 rfl ?_
                refine x_iload_n (pc := 110) dX1_bestFurniture_110 rfl ?_
                first | (guard_target =~ Wp _ _ _ _ _ (Value.int (nI _) :: Value.int (nI _) :: _) _ _ _ _; with_reducible refine x_icmp_ltN (pc := 111) (tgt := 130) ?_ ?_ dX1_bestFurniture_111 ?_ (fun h111 => ?_) (fun h111 => ?_); (first | omega | exact b2n_31 _); (first | omega | exact b2n_31 _); decide) | refine x_icmp_lt (pc := 111) (tgt := 130) dX1_bestFurniture_111 (by decide) (fun h111 => ?_) (fun h111 => ?_)
                · skip
                  omega
                · skip
                  refine x_iload (pc := 114) dX1_bestFurniture_114 rfl ?_
                  refine x_iload_n (pc := 116) dX1_bestFurniture_116 rfl ?_
                  first | (guard_target =~ Wp _ _ _ _ _ (Value.int (nI _) :: Value.int (nI _) :: _) _ _ _ _; with_reducible refine x_icmp_neN (pc := 117) (tgt := 136) ?_ ?_ dX1_bestFurniture_117 ?_ (fun h117 => ?_) (fun h117 => ?_); (first | omega | exact b2n_31 _); (first | omega | exact b2n_31 _); decide) | refine x_icmp_ne (pc := 117) (tgt := 136) dX1_bestFurniture_117 (by decide) (fun h117 => ?_) (fun h117 => ?_)
                  · skip
                    omega
                  · skip
                    refine x_iload_n (pc := 120) dX1_bestFurniture_120 rfl ?_
                    refine x_if_lt (pc := 121) (tgt := 136) dX1_bestFurniture_121 (by decide) (fun h121 => ?_) (fun h121 => ?_)
                    · skip
                      exact absurd h121 (nI_pos (by omega))
                    · skip
                      refine x_iload (pc := 124) dX1_bestFurniture_124 rfl ?_
                      refine x_iload_n (pc := 126) dX1_bestFurniture_126 rfl ?_
                      rw [show oI' (some b) = nI b from rfl]
                      first | (guard_target =~ Wp _ _ _ _ _ (Value.int (nI _) :: Value.int (nI _) :: _) _ _ _ _; with_reducible refine x_icmp_geN (pc := 127) (tgt := 136) ?_ ?_ dX1_bestFurniture_127 ?_ (fun h127 => ?_) (fun h127 => ?_); (first | omega | exact b2n_31 _); (first | omega | exact b2n_31 _); decide) | refine x_icmp_ge (pc := 127) (tgt := 136) dX1_bestFurniture_127 (by decide) (fun h127 => ?_) (fun h127 => ?_)
                      · skip
                        exact nx M2 (some b) l _ _ hs2 (by rw [if_neg (fun q => by rcases q with q | ⟨-, b', q, q2⟩; exact hlt q; cases q; exact absurd q2 (Nat.not_lt.mpr h127))]; exact ⟨rfl, rfl⟩)
                      · skip
                        refine x_iload (pc := 130) dX1_bestFurniture_130 rfl ?_
                        refine x_istore_n (pc := 132) dX1_bestFurniture_132 (by decide) xs_2 (x_hp rfl) ?_
                        refine x_iload (pc := 133) dX1_bestFurniture_133 rfl ?_
                        refine x_istore_n (pc := 135) dX1_bestFurniture_135 (by decide) xs_3 (x_hp rfl) ?_
                        exact nx M2 (some (prS one oth)) _ _ _ hs2 (by rw [if_pos (Or.inr ⟨heq, b, rfl, Nat.not_le.mp h127⟩)]; exact ⟨rfl, rfl⟩)
            · skip
              refine x_iload (pc := 108) dX1_bestFurniture_108 rfl ?_
              refine x_iload_n (pc := 110) dX1_bestFurniture_110 rfl ?_
              first | (guard_target =~ Wp _ _ _ _ _ (Value.int (nI _) :: Value.int (nI _) :: _) _ _ _ _; with_reducible refine x_icmp_ltN (pc := 111) (tgt := 130) ?_ ?_ dX1_bestFurniture_111 ?_ (fun h111 => ?_) (fun h111 => ?_); (first | omega | exact b2n_31 _); (first | omega | exact b2n_31 _); decide) | refine x_icmp_lt (pc := 111) (tgt := 130) dX1_bestFurniture_111 (by decide) (fun h111 => ?_) (fun h111 => ?_)
              · skip
                omega
              · skip
                refine x_iload (pc := 114) dX1_bestFurniture_114 rfl ?_
                refine x_iload_n (pc := 116) dX1_bestFurniture_116 rfl ?_
                first | (guard_target =~ Wp _ _ _ _ _ (Value.int (nI _) :: Value.int (nI _) :: _) _ _ _ _; with_reducible refine x_icmp_neN (pc := 117) (tgt := 136) ?_ ?_ dX1_bestFurniture_117 ?_ (fun h117 => ?_) (fun h117 => ?_); (first | omega | exact b2n_31 _); (first | omega | exact b2n_31 _); decide) | refine x_icmp_ne (pc := 117) (tgt := 136) dX1_bestFurniture_117 (by decide) (fun h117 => ?_) (fun h117 => ?_)
                · skip
                  exact nx M2 o l _ _ hs2 (by rw [if_neg (fun q => by rcases q with q | ⟨q, -⟩; exact hlt q; exact heq q)]; exact ⟨rfl, rfl⟩)
                · skip
                  omega
        refine x_iload (pc := 32) dX1_bestFurniture_32 rfl ?_
        refine x_bipushN (pc := 34) 16 dX1_bestFurniture_34 bp_16 ?_
        first | (guard_target =~ Wp _ _ _ _ _ (Value.int (nI _) :: Value.int (nI _) :: _) _ _ _ _; with_reducible refine x_icmp_geN (pc := 36) (tgt := 142) ?_ ?_ dX1_bestFurniture_36 ?_ (fun h36 => ?_) (fun h36 => ?_); (first | omega | exact b2n_31 _); (first | omega | exact b2n_31 _); decide) | refine x_icmp_ge (pc := 36) (tgt := 142) dX1_bestFurniture_36 (by decide) (fun h36 => ?_) (fun h36 => ?_)
        · skip
          omega
        · skip
          refine x_iconstN (pc := 39) 1 dX1_bestFurniture_39 ic_1 ?_
          refine x_iload (pc := 40) dX1_bestFurniture_40 rfl ?_
          first | (guard_target =~ Wp _ _ _ _ _ (Value.int (nI _) :: Value.int (nI _) :: _) _ _ _ _; with_reducible refine x_ishlN (pc := 42) ?_ dX1_bestFurniture_42 ?_; omega) | refine x_ishl (pc := 42) dX1_bestFurniture_42 ?_
          refine x_iconstN (pc := 43) 1 dX1_bestFurniture_43 ic_1 ?_
          refine x_iload (pc := 44) dX1_bestFurniture_44 rfl ?_
          first | (guard_target =~ Wp _ _ _ _ _ (Value.int (nI _) :: Value.int (nI _) :: _) _ _ _ _; with_reducible refine x_ishlN (pc := 46) ?_ dX1_bestFurniture_46 ?_; omega) | refine x_ishl (pc := 46) dX1_bestFurniture_46 ?_
          first | (guard_target =~ Wp _ _ _ _ _ (Value.int (nI _) :: Value.int (nI _) :: _) _ _ _ _; with_reducible refine x_iorN (pc := 47) dX1_bestFurniture_47 ?_) | refine x_ior (pc := 47) dX1_bestFurniture_47 ?_
          rw [Nat.one_mul, Nat.one_mul]
          refine x_istore (pc := 48) dX1_bestFurniture_48 (by decide) xs_6 (x_hp rfl) ?_
          refine x_iload (pc := 50) dX1_bestFurniture_50 rfl ?_
          refine x_iload_n (pc := 52) dX1_bestFurniture_52 rfl ?_
          refine x_iconst (pc := 53) (v := nI 4294967295) dX1_bestFurniture_53 (by decide +kernel) ?_
          first | (guard_target =~ Wp _ _ _ _ _ (Value.int (nI _) :: Value.int (nI _) :: _) _ _ _ _; with_reducible refine x_ixorN (pc := 54) dX1_bestFurniture_54 ?_) | refine x_ixor (pc := 54) dX1_bestFurniture_54 ?_
          first | (guard_target =~ Wp _ _ _ _ _ (Value.int (nI _) :: Value.int (nI _) :: _) _ _ _ _; with_reducible refine x_iandN (pc := 55) dX1_bestFurniture_55 ?_) | refine x_iand (pc := 55) dX1_bestFurniture_55 ?_
          first | (guard_target =~ Wp _ _ _ _ _ (Value.int (nI _) :: _) _ _ _ _; with_reducible refine x_if_eqN (pc := 56) (tgt := 62) ?_ dX1_bestFurniture_56 ?_ (fun h56 => ?_) (fun h56 => ?_); (first | omega | exact b2n_32 _ | exact b2n_31 _); decide) | refine x_if_eq (pc := 56) (tgt := 62) dX1_bestFurniture_56 (by decide) (fun h56 => ?_) (fun h56 => ?_)
          · skip
            refine x_aload_n (pc := 62) dX1_bestFurniture_62 rfl ?_
            refine x_getR (pc := 63) dX1_bestFurniture_63 flX1_12 (by first | assumption | rfl) rfl ?_
            refine x_aload_n (pc := 66) dX1_bestFurniture_66 rfl ?_
            refine x_getR (pc := 67) dX1_bestFurniture_67 flX1_22 (by first | assumption | rfl) rfl ?_
            refine x_invV1 (pc := 70) dX1_bestFurniture_70 mlX1_33 imX2_become seX2_become kX2_become (by first | assumption | rfl) rfl (Nat.le_of_ble_eq_true rfl) (by decide) ?_
            refine sp_X2_become (by decide) car46 car1 hR1 (fun M2 hs2 hR2 => ?_)
            refine x_cn rfl rfl ?_
            refine x_aload_n (pc := 73) dX1_bestFurniture_73 rfl ?_
            refine x_getR (pc := 74) dX1_bestFurniture_74 flX1_12 (by first | assumption | rfl) rfl ?_
            refine x_aload_n (pc := 77) dX1_bestFurniture_77 rfl ?_
            refine x_getR (pc := 78) dX1_bestFurniture_78 flX1_22 (by first | assumption | rfl) rfl ?_
            refine x_getI (pc := 81) dX1_bestFurniture_81 flX1_60 (by first | assumption | rfl) rfl ?_
            rw [(hR1.out hs2 (by decide)).furn]
            refine x_iload (pc := 84) dX1_bestFurniture_84 rfl ?_
            first | (guard_target =~ Wp _ _ _ _ _ (Value.int (nI _) :: Value.int (nI _) :: _) _ _ _ _; with_reducible refine x_iorN (pc := 86) dX1_bestFurniture_86 ?_) | refine x_ior (pc := 86) dX1_bestFurniture_86 ?_
            refine x_invV1 (pc := 87) dX1_bestFurniture_87 mlX1_63 imX2_furnish seX2_furnish kX2_furnish (by first | assumption | rfl) rfl (Nat.le_of_ble_eq_true rfl) (by decide) ?_
            refine sp_X2_furnish hfu car46 hR2 (fun M3 hs3 hR3 => ?_)
            refine x_cn rfl rfl ?_
            refine x_aload_n (pc := 90) dX1_bestFurniture_90 rfl ?_
            refine x_getR (pc := 91) dX1_bestFurniture_91 flX1_12 (by first | assumption | rfl) rfl ?_
            refine x_bipushN (pc := 94) 10 dX1_bestFurniture_94 bp_10 ?_
            refine x_invV1 (pc := 96) dX1_bestFurniture_96 mlX1_37 imX2_spend seX2_spend kX2_spend (by first | assumption | rfl) rfl (Nat.le_of_ble_eq_true rfl) (by decide) ?_
            refine sp_X2_spend (by decide) car46 hR3 (fun j hj => by rw [furA_w]; have := hs.1 j hj; omega) (by rw [furA_d]; have := hs.2; omega) (fun M4 hs4 hR4 => ?_)
            refine x_cn rfl rfl ?_
            refine x_aload_n (pc := 99) dX1_bestFurniture_99 rfl ?_
            refine x_getR (pc := 100) dX1_bestFurniture_100 flX1_12 (by first | assumption | rfl) rfl ?_
            refine x_invV0 (pc := 103) dX1_bestFurniture_103 mlX1_109 imX2_wearOfAll seX2_wearOfAll kX2_wearOfAll (by first | assumption | rfl) rfl (Nat.le_of_ble_eq_true rfl) (by decide) ?_
            refine sp_X2_wearOfAll car46 hR4 ?_
            refine x_cv rfl rfl ?_
            refine x_istore (pc := 106) dX1_bestFurniture_106 (by decide) xs_7 (x_hp rfl) ?_
            refine cmp M4 (((hs1.tr hs2).tr hs3).tr hs4) ?_
            have hb := sumA_leB (fun j hj => spA_bd (n := 10) hR3 (b := 9999) (fun j hj => by rw [furA_w]; have := hs.1 j hj; omega) j hj)
            refine Nat.lt_of_le_of_lt hb (by decide)
          · skip
            exact absurd hc h56
      · have step := bstI_step (by omega) (by omega) hb o l (fun _ => ⟨rfl, rfl⟩) (fun q => absurd q hc)
        refine x_iload (pc := 32) dX1_bestFurniture_32 rfl ?_
        refine x_bipushN (pc := 34) 16 dX1_bestFurniture_34 bp_16 ?_
        first | (guard_target =~ Wp _ _ _ _ _ (Value.int (nI _) :: Value.int (nI _) :: _) _ _ _ _; with_reducible refine x_icmp_geN (pc := 36) (tgt := 142) ?_ ?_ dX1_bestFurniture_36 ?_ (fun h36 => ?_) (fun h36 => ?_); (first | omega | exact b2n_31 _); (first | omega | exact b2n_31 _); decide) | refine x_icmp_ge (pc := 36) (tgt := 142) dX1_bestFurniture_36 (by decide) (fun h36 => ?_) (fun h36 => ?_)
        · skip
          omega
        · skip
          refine x_iconstN (pc := 39) 1 dX1_bestFurniture_39 ic_1 ?_
          refine x_iload (pc := 40) dX1_bestFurniture_40 rfl ?_
          first | (guard_target =~ Wp _ _ _ _ _ (Value.int (nI _) :: Value.int (nI _) :: _) _ _ _ _; with_reducible refine x_ishlN (pc := 42) ?_ dX1_bestFurniture_42 ?_; omega) | refine x_ishl (pc := 42) dX1_bestFurniture_42 ?_
          refine x_iconstN (pc := 43) 1 dX1_bestFurniture_43 ic_1 ?_
          refine x_iload (pc := 44) dX1_bestFurniture_44 rfl ?_
          first | (guard_target =~ Wp _ _ _ _ _ (Value.int (nI _) :: Value.int (nI _) :: _) _ _ _ _; with_reducible refine x_ishlN (pc := 46) ?_ dX1_bestFurniture_46 ?_; omega) | refine x_ishl (pc := 46) dX1_bestFurniture_46 ?_
          first | (guard_target =~ Wp _ _ _ _ _ (Value.int (nI _) :: Value.int (nI _) :: _) _ _ _ _; with_reducible refine x_iorN (pc := 47) dX1_bestFurniture_47 ?_) | refine x_ior (pc := 47) dX1_bestFurniture_47 ?_
          rw [Nat.one_mul, Nat.one_mul]
          refine x_istore (pc := 48) dX1_bestFurniture_48 (by decide) xs_6 (x_hp rfl) ?_
          refine x_iload (pc := 50) dX1_bestFurniture_50 rfl ?_
          refine x_iload_n (pc := 52) dX1_bestFurniture_52 rfl ?_
          refine x_iconst (pc := 53) (v := nI 4294967295) dX1_bestFurniture_53 (by decide +kernel) ?_
          first | (guard_target =~ Wp _ _ _ _ _ (Value.int (nI _) :: Value.int (nI _) :: _) _ _ _ _; with_reducible refine x_ixorN (pc := 54) dX1_bestFurniture_54 ?_) | refine x_ixor (pc := 54) dX1_bestFurniture_54 ?_
          first | (guard_target =~ Wp _ _ _ _ _ (Value.int (nI _) :: Value.int (nI _) :: _) _ _ _ _; with_reducible refine x_iandN (pc := 55) dX1_bestFurniture_55 ?_) | refine x_iand (pc := 55) dX1_bestFurniture_55 ?_
          first | (guard_target =~ Wp _ _ _ _ _ (Value.int (nI _) :: _) _ _ _ _; with_reducible refine x_if_eqN (pc := 56) (tgt := 62) ?_ dX1_bestFurniture_56 ?_ (fun h56 => ?_) (fun h56 => ?_); (first | omega | exact b2n_32 _ | exact b2n_31 _); decide) | refine x_if_eq (pc := 56) (tgt := 62) dX1_bestFurniture_56 (by decide) (fun h56 => ?_) (fun h56 => ?_)
          · skip
            exact absurd h56 hc
          · skip
            refine x_goto (pc := 59) (tgt := 136) dX1_bestFurniture_59 (by decide) ?_
            first | (guard_target =~ Wp _ _ _ _ (_ :: _ :: _ :: _ :: _ :: some (Value.int (nI _)) :: _) _ _ _ _ _; with_reducible refine x_iincN (pc := 136) 1 ic_1 dX1_bestFurniture_136 ?_ xg_5 xs_5 ?_ ?_; decide; exact (x_hp rfl)) | refine x_iincC (pc := 136) ic_1 dX1_bestFurniture_136 (by decide) rfl xs_5 (x_hp rfl) ?_
            refine x_goto (pc := 139) (tgt := 32) dX1_bestFurniture_139 (by decide) ?_
            exact ih (oth + 1) one M1 o l _ _ (by omega) (by omega) hs1 step fin
  have outer : ∀ m one M1 o l o5 o6 o7, one + m = 16 → xsame 46 58 M M1 → bstI A w (pairQ one one) o l → Wp g (d + 5) mX1_bestFurniture 21 [some (.ref 45), some (.int (nI (freA A))), some (.int (nI l)), some (.int (oI' o)), some (.int (nI one)), o5, o6, o7] [] xSF (0, 0) M1 K := by
    intro m
    induction m with
    | zero =>
      intro one M1 o l o5 o6 o7 h1 hs1 hb
      obtain rfl : one = 16 := by omega
      refine x_iload (pc := 21) dX1_bestFurniture_21 rfl ?_
      refine x_bipushN (pc := 23) 16 dX1_bestFurniture_23 bp_16 ?_
      first | (guard_target =~ Wp _ _ _ _ _ (Value.int (nI _) :: Value.int (nI _) :: _) _ _ _ _; with_reducible refine x_icmp_geN (pc := 25) (tgt := 148) ?_ ?_ dX1_bestFurniture_25 ?_ (fun h25 => ?_) (fun h25 => ?_); (first | omega | exact b2n_31 _); (first | omega | exact b2n_31 _); decide) | refine x_icmp_ge (pc := 25) (tgt := 148) dX1_bestFurniture_25 (by decide) (fun h25 => ?_) (fun h25 => ?_)
      · skip
        refine x_iload_n (pc := 148) dX1_bestFurniture_148 rfl ?_
        refine x_ret (pc := 149) (v := some _) rfl trivial dX1_bestFurniture_149 (by decide) ?_
        refine h M1 o l hs1 (bstI_cong hb (fun s _ => ⟨?_, ?_⟩))
        · rintro ⟨a, b, q1, q2, q3, q4⟩; exact ⟨a, b, q1, q2, q4⟩
        · rintro ⟨a, b, q1, q2, q4⟩; exact ⟨a, b, q1, q2, by omega, q4⟩
      · skip
        omega
    | succ m ih =>
      intro one M1 o l o5 o6 o7 h1 hs1 hb
      refine x_iload (pc := 21) dX1_bestFurniture_21 rfl ?_
      refine x_bipushN (pc := 23) 16 dX1_bestFurniture_23 bp_16 ?_
      first | (guard_target =~ Wp _ _ _ _ _ (Value.int (nI _) :: Value.int (nI _) :: _) _ _ _ _; with_reducible refine x_icmp_geN (pc := 25) (tgt := 148) ?_ ?_ dX1_bestFurniture_25 ?_ (fun h25 => ?_) (fun h25 => ?_); (first | omega | exact b2n_31 _); (first | omega | exact b2n_31 _); decide) | refine x_icmp_ge (pc := 25) (tgt := 148) dX1_bestFurniture_25 (by decide) (fun h25 => ?_) (fun h25 => ?_)
      · skip
        omega
      · skip
        refine x_iload (pc := 28) dX1_bestFurniture_28 rfl ?_
        refine x_istore (pc := 30) dX1_bestFurniture_30 (by decide) xs_5 (x_hp rfl) ?_
        refine inner m.succ one one M1 o l _ _ (Nat.le_refl _) (by omega) hs1 hb (fun M2 o l o5 o6 o7 hs2 hb2 => ?_)
        have hb3 : bstI A w (pairQ (one + 1) (one + 1)) o l := bstI_cong hb2 (fun s _ => ⟨fun ⟨a, b, q1, q2, q3, q4⟩ => ⟨a, b, q1, q2, by omega, q4⟩, fun ⟨a, b, q1, q2, q3, q4⟩ => ⟨a, b, q1, q2, by omega, q4⟩⟩)
        have z := ih (one + 1) M2 o l o5 o6 o7 (by omega) hs2 hb3
        refine x_iincN (pc := 142) 1 ic_1 dX1_bestFurniture_142 (by decide) xg_4 xs_4 (x_hp rfl) ?_
        refine x_goto (pc := 145) (tgt := 21) dX1_bestFurniture_145 (by decide) ?_
        exact z
  refine x_entry kX1_bestFurniture (Nat.le_of_ble_eq_true rfl) ?_
  show Wp g _ mX1_bestFurniture 0 [some (.ref 45), none, none, none, none, none, none, none] [] _ _ _ _
  refine x_aload_n (pc := 0) dX1_bestFurniture_0 rfl ?_
  refine x_invV0 (pc := 1) dX1_bestFurniture_1 mlX1_102 imX1_freeCells seX1_freeCells kX1_freeCells (by first | assumption | rfl) rfl (Nat.le_of_ble_eq_true rfl) (by decide) ?_
  refine sp_X1_freeCells hR ?_
  refine x_cv rfl rfl ?_
  refine x_istore_n (pc := 4) dX1_bestFurniture_4 (by decide) xs_1 (x_hp rfl) ?_
  refine x_aload_n (pc := 5) dX1_bestFurniture_5 rfl ?_
  refine x_bipushN (pc := 6) 10 dX1_bestFurniture_6 bp_10 ?_
  refine x_invV1 (pc := 8) dX1_bestFurniture_8 mlX1_105 imX1_behind seX1_behind kX1_behind (by first | assumption | rfl) rfl (Nat.le_of_ble_eq_true rfl) (by decide) ?_
  refine sp_X1_behind (by decide) hs hR (fun M1 hs1 hR1 => ?_)
  refine x_cv rfl rfl ?_
  refine x_invV0 (pc := 11) dX1_bestFurniture_11 mlX1_109 imX2_wearOfAll seX2_wearOfAll kX2_wearOfAll (by first | assumption | rfl) rfl (Nat.le_of_ble_eq_true rfl) (by decide) ?_
  refine sp_X2_wearOfAll car46 hR1 ?_
  refine x_cv rfl rfl ?_
  refine x_istore_n (pc := 14) dX1_bestFurniture_14 (by decide) xs_2 (x_hp rfl) ?_
  refine x_bipush (pc := 15) dX1_bestFurniture_15 bp_m5 ?_
  refine x_istore_n (pc := 17) dX1_bestFurniture_17 (by decide) xs_3 (x_hp rfl) ?_
  refine x_iconstN (pc := 18) 0 dX1_bestFurniture_18 ic_0 ?_
  refine x_istore (pc := 19) dX1_bestFurniture_19 (by decide) xs_4 (x_hp rfl) ?_
  refine outer 16 0 M1 none _ _ _ _ rfl hs1 ⟨rfl, fun s hs => ?_⟩
  obtain ⟨a, b, q1, q2, q3, q4⟩ := hs
  omega
end P40
