/-! the MODEL: laySoon; its calls worn, told's first -/
def P84 (A : XA) (w : Int32) (c k : Nat) : Bool := decide (A 13 0 ≤ A 0 c + gainA A w c k)
theorem dubF_lst {A : XA} {w : Int32} {c : Nat} : ∀ n k, dubF A w c n k = lst (P84 A w c) n k := by
  intro n
  induction n with
  | zero => intro k; rfl
  | succ n ih =>
    intro k
    rw [dubF, lst, ih]
    unfold P84
    by_cases h : A 13 0 ≤ A 0 c + gainA A w c k
    · rw [if_pos h, if_pos (decide_eq_true h)]
    · rw [if_neg h, if_neg (by rw [decide_eq_false h]; decide)]
theorem lst_snoc {p : Nat → Bool} : ∀ n i, lst p (n + 1) i = match lst p n i with
    | some j => some j
    | none => if p (i + n) then some (i + n) else none := by
  intro n
  induction n with
  | zero => intro i; rw [lst, lst]; rfl
  | succ n ih =>
    intro i
    rw [lst]
    by_cases h : p i = true
    · rw [if_pos h]; rw [lst, if_pos h]
    · rw [if_neg h, ih (i + 1), lst, if_neg h, show i + 1 + n = i + (n + 1) by omega]
theorem P84_mono {A : XA} {w : Int32} {c k j : Nat} (h : P84 A w c k = true) (hj : k ≤ j) : P84 A w c j = true := by
  have h1 := of_decide_eq_true h
  refine decide_eq_true (Nat.le_trans h1 (Nat.add_le_add_left ?_ _))
  rw [gain_sum, gain_sum]
  induction j with
  | zero => obtain rfl : k = 0 := by omega
            exact Nat.le_refl _
  | succ j ih =>
    by_cases hk : k = j + 1
    · subst hk; exact Nat.le_refl _
    · exact Nat.le_trans (ih (by omega)) (Nat.le_add_right _ _)
theorem fwn_none {A : XA} {w : Int32} : ∀ n i, (∀ k, i ≤ k → k < i + n → frsA A w k = 0) → fwnF A w n i = -5 := by
  intro n
  induction n with
  | zero => intro i _; rfl
  | succ n ih => intro i h; rw [fwnF, if_pos (h i (Nat.le_refl _) (by omega))]; exact ih (i + 1) (fun k h1 h2 => h k (by omega) (by omega))
theorem fwn_some {A : XA} {w : Int32} {j : Nat} : ∀ n i, i ≤ j → j < i + n → (∀ k, i ≤ k → k < j → frsA A w k = 0) → frsA A w j ≠ 0 → fwnF A w n i = xfst (frsA A w j) := by
  intro n
  induction n with
  | zero => intro i h1 h2; omega
  | succ n ih =>
    intro i h1 h2 h3 h4
    rw [fwnF]
    by_cases hi : i = j
    · subst hi; rw [if_neg h4]
    · rw [if_pos (h3 i (Nat.le_refl _) (by omega))]; exact ih (i + 1) (by omega) (by omega) (fun k q1 q2 => h3 k (by omega) q2) h4
theorem gain_0 {A : XA} {w : Int32} {c : Nat} : gainA A w c 0 = 0 := by rw [gain_sum]; rfl
theorem frs_tb {A : XA} {w : Int32} {k c : Nat} (hc : c < 16) : (frsA A w k).testBit c = (P84 A w c k && !P84 A w c 0) := by
  unfold frsA baldA
  rw [itS_sp, xset_tb, xset_tb, xset_tb, decide_eq_true hc, Bool.true_and, Bool.true_and, Bool.true_and]
  unfold P84
  rw [gain_0]
  rfl
theorem frs_0 {A : XA} {w : Int32} {k : Nat} (h : ∀ c, c < 16 → (P84 A w c k && !P84 A w c 0) = false) : frsA A w k = 0 := by
  apply Nat.eq_of_testBit_eq
  intro i
  rw [Nat.zero_testBit]
  by_cases hi : i < 16
  · rw [frs_tb hi]; exact h i hi
  · unfold frsA; rw [xset_tb, decide_eq_false hi]; rfl
/-- first of all: what the loop over cells has found -/
def foI (D : Nat → Option Nat) (n : Nat) (o : Option Nat) : Prop := match o with
  | none => ∀ c, c < n → ∀ j, D c = some j → j = 0
  | some f => f < n ∧ ∃ j, D f = some j ∧ 0 < j ∧ ∀ c, c < n → ∀ i, D c = some i → 0 < i → j < i ∨ (j = i ∧ f ≤ c)
theorem foI_end {A : XA} {w : Int32} {o : Option Nat} (h : foI (fun c => lst (P84 A w c) 61 0) 16 o) : fwnF A w 60 1 = oI' o := by
  have pos : ∀ c k, (P84 A w c k && !P84 A w c 0) = true → k ≤ 60 → ∃ j, lst (P84 A w c) 61 0 = some j ∧ 0 < j ∧ j ≤ k := by
    intro c k hq hk
    rw [Bool.and_eq_true, Bool.not_eq_true'] at hq
    cases hl : lst (P84 A w c) 61 0 with
    | none => rw [lst_none hl k (Nat.zero_le _) (by omega)] at hq; cases hq.1
    | some j =>
      obtain ⟨-, g2, g3, g4⟩ := lst_some hl
      refine ⟨j, rfl, ?_, ?_⟩
      · refine Nat.pos_of_ne_zero (fun z => ?_)
        subst z; rw [g3] at hq; cases hq.2
      · refine Nat.le_of_not_lt (fun z => ?_)
        rw [g4 k (Nat.zero_le _) z] at hq; cases hq.1
  cases o with
  | none =>
    refine fwn_none 60 1 (fun k h1 h2 => frs_0 (fun c hc => ?_))
    cases hq : (P84 A w c k && !P84 A w c 0) with
    | false => rfl
    | true =>
      obtain ⟨j, h3, h4, h5⟩ := pos c k hq (by omega)
      have := h c hc j h3
      omega
  | some f =>
    obtain ⟨hf, j, hj, hj0, hmin⟩ := h
    obtain ⟨-, g2, g3, g4⟩ := lst_some hj
    have hf0 : P84 A w f 0 = false := g4 0 (Nat.le_refl _) hj0
    have htb : (frsA A w j).testBit f = true := by rw [frs_tb hf, g3, hf0]; rfl
    have hne : frsA A w j ≠ 0 := fun z => by rw [z, Nat.zero_testBit] at htb; cases htb
    rw [fwn_some 60 1 (by omega) (by omega) (fun k h1 h2 => frs_0 (fun c hc => ?_)) hne]
    · unfold xfst
      rw [fstF_lst, lst_of (j := f) (Nat.zero_le _) (by omega) htb (fun k _ hk => ?_)]
      cases hq : (frsA A w j).testBit k with
      | false => rfl
      | true =>
        rw [frs_tb (by omega)] at hq
        obtain ⟨i, h3, h4, h5⟩ := pos k j hq (by omega)
        rcases hmin k (by omega) i h3 h4 with z | ⟨z1, z2⟩ <;> omega
    · cases hq : (P84 A w c k && !P84 A w c 0) with
      | false => rfl
      | true =>
        obtain ⟨i, h3, h4, h5⟩ := pos c k hq (by omega)
        rcases hmin c hc i h3 h4 with z | ⟨z1, z2⟩ <;> omega
section P84
variable {g : XG} {d : Nat} {M M0 : XM} {K : Option Value → XS → XM → Prop} {s : XSt}
theorem sm_laySoon (hC : MC9 M s) (ok : okM s) (h : ∀ M', only pZ M M' → (∀ c, c < 16 → M'.1 87 c = oI' (lst (P84 s.1.1 (qw s) c) 61 0)) → K none xSF M') : Ex g (d + 6) yX10_laySoon mX10_laySoon [.ref 65] xSF M K := by
  have hB := ok.bd
  obtain ⟨b0, hL⟩ := hC.ls ok
  have hstd := ok.std
  have h11 := hstd.2
  have hQ := hC.1.mq
  have hL2 := ok.cache
  have h6 := hB.2.1
  have hw : whoW (qw s) (s.1.1 8 0) (63 &&& (s.1.2.1 ^^^ 4294967295)) := who_here ok.away h6
  have hbl : bldF 30 s.1.2.2.2.2 < 100 := bldF_bd _ 30 (by decide) (fun x q => (hL.1.2 x q).1)
  have hlt : ∀ K' c, K' ≤ 61 → ∀ j, lst (P84 s.1.1 (qw s) c) K' 0 = some j → j < 61 := fun K' c hk j hj => by
    obtain ⟨-, g2, -, -⟩ := lst_some hj; omega
  refine x_entry kX10_laySoon (Nat.le_of_ble_eq_true rfl) ?_
  show Wp g _ mX10_laySoon 0 [some (.ref 65), none, none] [] _ _ _ _
  have outer : ∀ m k M1 o2, k + m = 61 → only pY M M1 → kpt M M1 → M1.1 65 0 = M.1 65 0 → M1.1 65 1 = M.1 65 1 → M1.1 65 33 = nI 2000000000 → M1.1 65 3 = nI (s.1.1 11 0 + k) → (∀ c, c < 16 → M1.1 66 c = nI (s.1.1 0 c + gainA s.1.1 (qw s) c k)) → (∀ j, j < 64 * s.1.1 8 0 → M1.1 85 j = nI (wnF s.1.1 s.1.2.2.2.2 j)) → (∀ c, c < 16 → M1.1 87 c = oI' (lst (P84 s.1.1 (qw s) c) k 0)) → Wp g (d + 6) mX10_laySoon 32 [some (.ref 65), some (.int (nI k)), o2] [] xSF (0, 0) M1 K := by
    intro m
    induction m with
    | zero =>
      intro k M1 o2 hk ho hkp e0 e1 h33 hdy hx h85 h87
      obtain rfl : k = 61 := by omega
      refine x_iload_n (pc := 32) dX10_laySoon_32 rfl ?_
      refine x_bipushN (pc := 33) 61 dX10_laySoon_33 bp_61 ?_
      first | (guard_target =~ Wp _ _ _ _ _ (Value.int (nI _) :: Value.int (nI _) :: _) _ _ _ _; with_reducible refine x_icmp_geN (pc := 35) (tgt := 104) ?_ ?_ dX10_laySoon_35 ?_ (fun h35 => ?_) (fun h35 => ?_); (first | omega | exact b2n_31 _); (first | omega | exact b2n_31 _); decide) | refine x_icmp_ge (pc := 35) (tgt := 104) dX10_laySoon_35 (by decide) (fun h35 => ?_) (fun h35 => ?_)
      · skip
        refine x_aload_n (pc := 104) dX10_laySoon_104 rfl ?_
        refine x_invV0 (pc := 105) dX10_laySoon_105 mlX10_378 imX10_putBack seX10_putBack kX10_putBack (by first | assumption | rfl) rfl (Nat.le_of_ble_eq_true rfl) (by decide) ?_
        refine sm_putBack ho hkp hC.2.2.2.2.2.1 (fun M5 ho5 hb5 => ?_)
        refine x_cn rfl rfl ?_
        refine x_ret (pc := 108) (v := none) rfl trivial dX10_laySoon_108 (by decide) ?_
        exact h M5 ho5 (fun c hc => (hb5.1 87 c rfl).trans (h87 c hc))
      · skip
        omega
    | succ m ih =>
      intro k M1 o2 hk ho hkp e0 e1 h33 hdy hx h85 h87
      have cl : ∀ m2 c M2, c + m2 = 16 → only (fun a j => a == 87 && decide (j < 16)) M1 M2 → (∀ j, j < c → M2.1 87 j = oI' (lst (P84 s.1.1 (qw s) j) (k + 1) 0)) → (∀ j, c ≤ j → j < 16 → M2.1 87 j = oI' (lst (P84 s.1.1 (qw s) j) k 0)) → Wp g (d + 6) mX10_laySoon 40 [some (.ref 65), some (.int (nI k)), some (.int (nI c))] [] xSF (0, 0) M2 K := by
        intro m2
        induction m2 with
        | zero =>
          intro c M2 hc ho2 hj hj2
          obtain rfl : c = 16 := by omega
          have keep : only pY M M2 := ho.tr (ho2.wide (fun a j q => by simp at q; simp [pY, pZ, q.1]))
          refine x_iload_n (pc := 40) dX10_laySoon_40 rfl ?_
          refine x_bipushN (pc := 41) 16 dX10_laySoon_41 bp_16 ?_
          first | (guard_target =~ Wp _ _ _ _ _ (Value.int (nI _) :: Value.int (nI _) :: _) _ _ _ _; with_reducible refine x_icmp_geN (pc := 43) (tgt := 90) ?_ ?_ dX10_laySoon_43 ?_ (fun h43 => ?_) (fun h43 => ?_); (first | omega | exact b2n_31 _); (first | omega | exact b2n_31 _); decide) | refine x_icmp_ge (pc := 43) (tgt := 90) dX10_laySoon_43 (by decide) (fun h43 => ?_) (fun h43 => ?_)
          · skip
            refine x_aload_n (pc := 90) dX10_laySoon_90 rfl ?_
            refine x_aload_n (pc := 91) dX10_laySoon_91 rfl ?_
            refine x_invV0 (pc := 92) dX10_laySoon_92 mlX10_364 imX10_here seX10_here kX10_here (by first | assumption | rfl) rfl (Nat.le_of_ble_eq_true rfl) (by decide) ?_
            refine sm_here (W := s.1.2.1) (((ho2.1 65 1 rfl).trans e1).trans hQ.2.1) ?_
            refine x_cv rfl rfl ?_
            refine x_invV1 (pc := 95) dX10_laySoon_95 mlX10_355 imX10_goDay seX10_goDay kX10_goDay (by first | assumption | rfl) rfl (Nat.le_of_ble_eq_true rfl) (by decide) ?_
            refine sm_goDay (n := s.1.1 8 0) (dd := s.1.1 11 0 + k) (mx := 2000000000) (X := fun c => s.1.1 0 c + gainA s.1.1 (qw s) c k) (Wn := wnF s.1.1 s.1.2.2.2.2) h6 (((ho2.1 65 0 rfl).trans e0).trans hQ.1) ((ho2.1 65 3 rfl).trans hdy) (by omega) ((ho2.1 65 33 rfl).trans h33) (by decide) (fun c hc => ⟨(ho2.1 66 c rfl).trans (hx c hc), by have h1 := hstd.1 c hc; have h2 := gain_bd (n := k) hc hL2 hL.1 hB _ hw; show _ + gainA s.1.1 (qw s) c k ≤ _; omega⟩) (fun j q => ⟨(ho2.1 85 j rfl).trans (h85 j q), wnF_le hL.1 hB q⟩) (fun M4 ho4 hx4 hd4 => ?_)
            refine x_cn rfl rfl ?_
            first | (guard_target =~ Wp _ _ _ _ (_ :: some (Value.int (nI _)) :: _) _ _ _ _ _; with_reducible refine x_iincN (pc := 98) 1 ic_1 dX10_laySoon_98 ?_ xg_1 xs_1 ?_ ?_; decide; exact (x_hp rfl)) | refine x_iincC (pc := 98) ic_1 dX10_laySoon_98 (by decide) rfl xs_1 (x_hp rfl) ?_
            refine x_goto (pc := 101) (tgt := 32) dX10_laySoon_101 (by decide) ?_
            refine ih (k + 1) M4 _ (by omega) (keep.tr (ho4.wide pY_D)) (kpt.keep (⟨fun c hc => (ho2.1 86 c rfl).trans (hkp.1 c hc), (ho2.1 65 34 rfl).trans hkp.2.1, (ho2.1 65 35 rfl).trans hkp.2.2.1, (ho2.1 65 36 rfl).trans hkp.2.2.2⟩ : kpt M M2) ho4 pD_K) ?_ ?_ ?_ hd4 (fun c hc => ?_) (fun j q => ?_) (fun c hc => ?_)
            · exact (ho4.1 65 0 rfl).trans ((ho2.1 65 0 rfl).trans e0)
            · exact (ho4.1 65 1 rfl).trans ((ho2.1 65 1 rfl).trans e1)
            · exact (ho4.1 65 33 rfl).trans ((ho2.1 65 33 rfl).trans h33)
            · have h1 := hstd.1 c hc
              have h2 := gain_bd (n := k + 1) hc hL2 hL.1 hB _ hw
              have h3 : gainA s.1.1 (qw s) c (k + 1) = gainA s.1.1 (qw s) c k + dyG (wnF s.1.1 s.1.2.2.2.2) (s.1.1 8 0) (63 &&& (s.1.2.1 ^^^ 4294967295)) c (s.1.1 11 0 + k) := by rw [gain_sum, xsum, ← gain_sum, gn_dy hc hL2 hw]
              rw [hx4 c hc]
              refine congrArg nI ?_
              have h4 : gainA s.1.1 (qw s) c (k + 1) ≤ (k + 1) * 120000 := h2
              show min (s.1.1 0 c + gainA s.1.1 (qw s) c k + _) _ = _
              omega
            · exact (ho4.1 85 j rfl).trans ((ho2.1 85 j rfl).trans (h85 j q))
            · exact (ho4.1 87 c rfl).trans (hj c hc)
          · skip
            omega
        | succ m2 ih2 =>
          intro c M2 hc ho2 hj hj2
          have hc16 : c < 16 := by omega
          have h87c := hj2 c (Nat.le_refl c) hc16
          have hxc : M2.1 66 c = nI (s.1.1 0 c + gainA s.1.1 (qw s) c k) := (ho2.1 66 c rfl).trans (hx c hc16)
          have h1 := hstd.1 c hc16
          have h2 : gainA s.1.1 (qw s) c k ≤ k * 120000 := gain_bd (n := k) hc16 hL2 hL.1 hB _ hw
          have keep : only pY M M2 := ho.tr (ho2.wide (fun a j q => by simp at q; simp [pY, pZ, q.1]))
          have nx : ∀ v, v = oI' (lst (P84 s.1.1 (qw s) c) (k + 1) 0) → Wp g (d + 6) mX10_laySoon 40 [some (.ref 65), some (.int (nI k)), some (.int (nI (c + 1)))] [] xSF (0, 0) (xput M2 87 c v) K := by
            intro v hv
            refine ih2 (c + 1) _ (by omega) (ho2.tr (only.put (by simp; omega))) (fun j q => ?_) (fun j q1 q2 => ?_)
            · by_cases z : j = c
              · subst z; exact (if_pos ⟨rfl, rfl⟩).trans hv
              · exact (if_neg (fun q => z q.2)).trans (hj j (by omega))
            · exact (if_neg (fun q => by omega)).trans (hj2 j (by omega) q2)
          cases hl : lst (P84 s.1.1 (qw s) c) k 0 with
          | some j =>
            have hjl := hlt k c (by omega) j hl
            have hs : lst (P84 s.1.1 (qw s) c) (k + 1) 0 = some j := by rw [lst_snoc, hl]
            rw [hl] at h87c
            refine x_iload_n (pc := 40) dX10_laySoon_40 rfl ?_
            refine x_bipushN (pc := 41) 16 dX10_laySoon_41 bp_16 ?_
            first | (guard_target =~ Wp _ _ _ _ _ (Value.int (nI _) :: Value.int (nI _) :: _) _ _ _ _; with_reducible refine x_icmp_geN (pc := 43) (tgt := 90) ?_ ?_ dX10_laySoon_43 ?_ (fun h43 => ?_) (fun h43 => ?_); (first | omega | exact b2n_31 _); (first | omega | exact b2n_31 _); decide) | refine x_icmp_ge (pc := 43) (tgt := 90) dX10_laySoon_43 (by decide) (fun h43 => ?_) (fun h43 => ?_)
            · skip
              omega
            · skip
              refine x_aload_n (pc := 46) dX10_laySoon_46 rfl ?_
              refine x_getR (pc := 47) dX10_laySoon_47 flX10_126 (by first | assumption | rfl) rfl ?_
              refine x_iload_n (pc := 50) dX10_laySoon_50 rfl ?_
              refine x_aload_n (pc := 51) dX10_laySoon_51 rfl ?_
              refine x_getR (pc := 52) dX10_laySoon_52 flX10_126 (by first | assumption | rfl) rfl ?_
              refine x_iload_n (pc := 55) dX10_laySoon_55 rfl ?_
              refine x_ialdN (pc := 56) dX10_laySoon_56 (by first | assumption | rfl) (by first | with_reducible rfl | (simp only [xlit, nI_add, pk_mul]; with_reducible rfl)) (by omega) (by decide) ?_
              rw [h87c, show oI' (some j) = nI j from rfl]
              refine x_if_ge (pc := 57) (tgt := 77) dX10_laySoon_57 (by decide) (fun h57 => ?_) (fun h57 => ?_)
              · skip
                refine x_aload_n (pc := 77) dX10_laySoon_77 rfl ?_
                refine x_getR (pc := 78) dX10_laySoon_78 flX10_126 (by first | assumption | rfl) rfl ?_
                refine x_iload_n (pc := 81) dX10_laySoon_81 rfl ?_
                refine x_ialdN (pc := 82) dX10_laySoon_82 (by first | assumption | rfl) (by first | with_reducible rfl | (simp only [xlit, nI_add, pk_mul]; with_reducible rfl)) (by omega) (by decide) ?_
                rw [h87c]
                refine x_iastN (pc := 83) dX10_laySoon_83 (by first | assumption | rfl) (by first | with_reducible rfl | (simp only [xlit, nI_add, pk_mul]; with_reducible rfl)) (by omega) (by decide) ?_
                first | (guard_target =~ Wp _ _ _ _ (_ :: _ :: some (Value.int (nI _)) :: _) _ _ _ _ _; with_reducible refine x_iincN (pc := 84) 1 ic_1 dX10_laySoon_84 ?_ xg_2 xs_2 ?_ ?_; decide; exact (x_hp rfl)) | refine x_iincC (pc := 84) ic_1 dX10_laySoon_84 (by decide) rfl xs_2 (x_hp rfl) ?_
                refine x_goto (pc := 87) (tgt := 40) dX10_laySoon_87 (by decide) ?_
                exact nx _ (by rw [hs])
              · skip
                exact absurd (nI_pos' (by omega)) h57
          | none =>
            rw [hl] at h87c
            have hs : lst (P84 s.1.1 (qw s) c) (k + 1) 0 = if P84 s.1.1 (qw s) c k = true then some k else none := by rw [lst_snoc, hl, Nat.zero_add]
            refine x_iload_n (pc := 40) dX10_laySoon_40 rfl ?_
            refine x_bipushN (pc := 41) 16 dX10_laySoon_41 bp_16 ?_
            first | (guard_target =~ Wp _ _ _ _ _ (Value.int (nI _) :: Value.int (nI _) :: _) _ _ _ _; with_reducible refine x_icmp_geN (pc := 43) (tgt := 90) ?_ ?_ dX10_laySoon_43 ?_ (fun h43 => ?_) (fun h43 => ?_); (first | omega | exact b2n_31 _); (first | omega | exact b2n_31 _); decide) | refine x_icmp_ge (pc := 43) (tgt := 90) dX10_laySoon_43 (by decide) (fun h43 => ?_) (fun h43 => ?_)
            · skip
              omega
            · skip
              refine x_aload_n (pc := 46) dX10_laySoon_46 rfl ?_
              refine x_getR (pc := 47) dX10_laySoon_47 flX10_126 (by first | assumption | rfl) rfl ?_
              refine x_iload_n (pc := 50) dX10_laySoon_50 rfl ?_
              refine x_aload_n (pc := 51) dX10_laySoon_51 rfl ?_
              refine x_getR (pc := 52) dX10_laySoon_52 flX10_126 (by first | assumption | rfl) rfl ?_
              refine x_iload_n (pc := 55) dX10_laySoon_55 rfl ?_
              refine x_ialdN (pc := 56) dX10_laySoon_56 (by first | assumption | rfl) (by first | with_reducible rfl | (simp only [xlit, nI_add, pk_mul]; with_reducible rfl)) (by omega) (by decide) ?_
              rw [h87c]
              refine x_if_ge (pc := 57) (tgt := 77) dX10_laySoon_57 (by decide) (fun h57 => ?_) (fun h57 => ?_)
              · skip
                exact absurd h57 (by decide)
              · skip
                refine x_aload_n (pc := 60) dX10_laySoon_60 rfl ?_
                refine x_getR (pc := 61) dX10_laySoon_61 flX10_22 (by first | assumption | rfl) rfl ?_
                refine x_iload_n (pc := 64) dX10_laySoon_64 rfl ?_
                refine x_ialdN (pc := 65) dX10_laySoon_65 (by first | assumption | rfl) (by first | with_reducible rfl | (simp only [xlit, nI_add, pk_mul]; with_reducible rfl)) (by omega) (by decide) ?_
                rw [hxc]
                refine x_aload_n (pc := 66) dX10_laySoon_66 rfl ?_
                refine x_invV0 (pc := 67) dX10_laySoon_67 mlX10_371 imX10_bald seX10_bald kX10_bald (by first | assumption | rfl) rfl (Nat.le_of_ble_eq_true rfl) (by decide) ?_
                refine sm_bald (hL.keep keep pY_L) ?_
                refine x_cv rfl rfl ?_
                first | (guard_target =~ Wp _ _ _ _ _ (Value.int (nI _) :: Value.int (nI _) :: _) _ _ _ _; with_reducible refine x_icmp_ltN (pc := 70) (tgt := 77) ?_ ?_ dX10_laySoon_70 ?_ (fun h70 => ?_) (fun h70 => ?_); (first | omega | exact b2n_31 _); (first | omega | exact b2n_31 _); decide) | refine x_icmp_lt (pc := 70) (tgt := 77) dX10_laySoon_70 (by decide) (fun h70 => ?_) (fun h70 => ?_)
                · skip
                  refine x_aload_n (pc := 77) dX10_laySoon_77 rfl ?_
                  refine x_getR (pc := 78) dX10_laySoon_78 flX10_126 (by first | assumption | rfl) rfl ?_
                  refine x_iload_n (pc := 81) dX10_laySoon_81 rfl ?_
                  refine x_ialdN (pc := 82) dX10_laySoon_82 (by first | assumption | rfl) (by first | with_reducible rfl | (simp only [xlit, nI_add, pk_mul]; with_reducible rfl)) (by omega) (by decide) ?_
                  rw [h87c]
                  refine x_iastN (pc := 83) dX10_laySoon_83 (by first | assumption | rfl) (by first | with_reducible rfl | (simp only [xlit, nI_add, pk_mul]; with_reducible rfl)) (by omega) (by decide) ?_
                  first | (guard_target =~ Wp _ _ _ _ (_ :: _ :: some (Value.int (nI _)) :: _) _ _ _ _ _; with_reducible refine x_iincN (pc := 84) 1 ic_1 dX10_laySoon_84 ?_ xg_2 xs_2 ?_ ?_; decide; exact (x_hp rfl)) | refine x_iincC (pc := 84) ic_1 dX10_laySoon_84 (by decide) rfl xs_2 (x_hp rfl) ?_
                  refine x_goto (pc := 87) (tgt := 40) dX10_laySoon_87 (by decide) ?_
                  exact nx _ (by rw [hs, if_neg (by unfold P84; rw [hL2.2.2.1, decide_eq_false (by omega)]; decide)])
                · skip
                  refine x_iload_n (pc := 73) dX10_laySoon_73 rfl ?_
                  refine x_goto (pc := 74) (tgt := 83) dX10_laySoon_74 (by decide) ?_
                  refine x_iastN (pc := 83) dX10_laySoon_83 (by first | assumption | rfl) (by first | with_reducible rfl | (simp only [xlit, nI_add, pk_mul]; with_reducible rfl)) (by omega) (by decide) ?_
                  first | (guard_target =~ Wp _ _ _ _ (_ :: _ :: some (Value.int (nI _)) :: _) _ _ _ _ _; with_reducible refine x_iincN (pc := 84) 1 ic_1 dX10_laySoon_84 ?_ xg_2 xs_2 ?_ ?_; decide; exact (x_hp rfl)) | refine x_iincC (pc := 84) ic_1 dX10_laySoon_84 (by decide) rfl xs_2 (x_hp rfl) ?_
                  refine x_goto (pc := 87) (tgt := 40) dX10_laySoon_87 (by decide) ?_
                  exact nx _ (by rw [hs, if_pos (by unfold P84; rw [hL2.2.2.1]; exact decide_eq_true (by omega))]; rfl)
      refine x_iload_n (pc := 32) dX10_laySoon_32 rfl ?_
      refine x_bipushN (pc := 33) 61 dX10_laySoon_33 bp_61 ?_
      first | (guard_target =~ Wp _ _ _ _ _ (Value.int (nI _) :: Value.int (nI _) :: _) _ _ _ _; with_reducible refine x_icmp_geN (pc := 35) (tgt := 104) ?_ ?_ dX10_laySoon_35 ?_ (fun h35 => ?_) (fun h35 => ?_); (first | omega | exact b2n_31 _); (first | omega | exact b2n_31 _); decide) | refine x_icmp_ge (pc := 35) (tgt := 104) dX10_laySoon_35 (by decide) (fun h35 => ?_) (fun h35 => ?_)
      · skip
        omega
      · skip
        refine x_iconstN (pc := 38) 0 dX10_laySoon_38 ic_0 ?_
        refine x_istore_n (pc := 39) dX10_laySoon_39 (by decide) xs_2 (x_hp rfl) ?_
        exact cl 16 0 M1 (by omega) only.rf (fun j q => by omega) (fun j _ q => h87 j q)
  have init : ∀ M3, Laid M M3 s.1.1 s.1.2.2.2.2 → ∀ m c M4 o2, c + m = 16 → only (fun a j => a == 87 && decide (j < 16)) M3 M4 → (∀ j, j < c → M4.1 87 j = -5) → Wp g (d + 6) mX10_laySoon 10 [some (.ref 65), some (.int (nI c)), o2] [] xSF (0, 0) M4 K := by
    intro M3 hl m
    obtain ⟨l1, l2, l3, l4⟩ := hl
    induction m with
    | zero =>
      intro c M4 o2 hc ho2 hj
      obtain rfl : c = 16 := by omega
      refine x_iload_n (pc := 10) dX10_laySoon_10 rfl ?_
      refine x_bipushN (pc := 11) 16 dX10_laySoon_11 bp_16 ?_
      first | (guard_target =~ Wp _ _ _ _ _ (Value.int (nI _) :: Value.int (nI _) :: _) _ _ _ _; with_reducible refine x_icmp_geN (pc := 13) (tgt := 30) ?_ ?_ dX10_laySoon_13 ?_ (fun h13 => ?_) (fun h13 => ?_); (first | omega | exact b2n_31 _); (first | omega | exact b2n_31 _); decide) | refine x_icmp_ge (pc := 13) (tgt := 30) dX10_laySoon_13 (by decide) (fun h13 => ?_) (fun h13 => ?_)
      · skip
        refine x_iconstN (pc := 30) 0 dX10_laySoon_30 ic_0 ?_
        refine x_istore_n (pc := 31) dX10_laySoon_31 (by decide) xs_1 (x_hp rfl) ?_
        refine outer 61 0 M4 _ (by omega) ((l1.wide pV_Y).tr (ho2.wide (fun a j q => by simp at q; simp [pY, pZ, q.1]))) ⟨fun c hc => (ho2.1 86 c rfl).trans (l2.1 c hc), (ho2.1 65 34 rfl).trans l2.2.1, (ho2.1 65 35 rfl).trans l2.2.2.1, (ho2.1 65 36 rfl).trans l2.2.2.2⟩ ((ho2.1 65 0 rfl).trans (l1.1 65 0 rfl)) ((ho2.1 65 1 rfl).trans (l1.1 65 1 rfl)) ((ho2.1 65 33 rfl).trans l3) ((ho2.1 65 3 rfl).trans ((l1.1 65 3 rfl).trans hQ.2.2.2.1)) (fun c hc => ?_) (fun j q => (ho2.1 85 j rfl).trans (l4 j q)) (fun c hc => hj c hc)
        rw [gain_0]
        exact (ho2.1 66 c rfl).trans ((l1.1 66 c rfl).trans (hQ.2.2.2.2 0 (by decide) c hc))
      · skip
        omega
    | succ m ih =>
      intro c M4 o2 hc ho2 hj
      refine x_iload_n (pc := 10) dX10_laySoon_10 rfl ?_
      refine x_bipushN (pc := 11) 16 dX10_laySoon_11 bp_16 ?_
      first | (guard_target =~ Wp _ _ _ _ _ (Value.int (nI _) :: Value.int (nI _) :: _) _ _ _ _; with_reducible refine x_icmp_geN (pc := 13) (tgt := 30) ?_ ?_ dX10_laySoon_13 ?_ (fun h13 => ?_) (fun h13 => ?_); (first | omega | exact b2n_31 _); (first | omega | exact b2n_31 _); decide) | refine x_icmp_ge (pc := 13) (tgt := 30) dX10_laySoon_13 (by decide) (fun h13 => ?_) (fun h13 => ?_)
      · skip
        omega
      · skip
        refine x_aload_n (pc := 16) dX10_laySoon_16 rfl ?_
        refine x_getR (pc := 17) dX10_laySoon_17 flX10_126 (by first | assumption | rfl) rfl ?_
        refine x_iload_n (pc := 20) dX10_laySoon_20 rfl ?_
        refine x_bipush (pc := 21) dX10_laySoon_21 bp_m5 ?_
        refine x_iastN (pc := 23) dX10_laySoon_23 (by first | assumption | rfl) (by first | with_reducible rfl | (simp only [xlit, nI_add, pk_mul]; with_reducible rfl)) (by omega) (by decide) ?_
        first | (guard_target =~ Wp _ _ _ _ (_ :: some (Value.int (nI _)) :: _) _ _ _ _ _; with_reducible refine x_iincN (pc := 24) 1 ic_1 dX10_laySoon_24 ?_ xg_1 xs_1 ?_ ?_; decide; exact (x_hp rfl)) | refine x_iincC (pc := 24) ic_1 dX10_laySoon_24 (by decide) rfl xs_1 (x_hp rfl) ?_
        refine x_goto (pc := 27) (tgt := 10) dX10_laySoon_27 (by decide) ?_
        refine ih (c + 1) _ _ (by omega) (ho2.tr (only.put (by simp; omega))) (fun j q => ?_)
        by_cases z : j = c
        · subst z; exact if_pos ⟨rfl, rfl⟩
        · exact (if_neg (fun q => z q.2)).trans (hj j (by omega))
  refine x_aload_n (pc := 0) dX10_laySoon_0 rfl ?_
  refine x_invV0 (pc := 1) dX10_laySoon_1 mlX10_361 imX10_layWorn seX10_layWorn kX10_layWorn (by first | assumption | rfl) rfl (Nat.le_of_ble_eq_true rfl) (by decide) ?_
  refine sm_layWorn hL hB hQ (fun M1 ho1 h85 => ?_)
  refine x_cn rfl rfl ?_
  refine x_aload_n (pc := 4) dX10_laySoon_4 rfl ?_
  refine x_invV0 (pc := 5) dX10_laySoon_5 mlX10_375 imX10_save seX10_save kX10_save (by first | assumption | rfl) rfl (Nat.le_of_ble_eq_true rfl) (by decide) ?_
  refine sm_save (fun M2 ho2 hk2 h332 => ?_)
  refine x_cn rfl rfl ?_
  refine x_iconstN (pc := 8) 0 dX10_laySoon_8 ic_0 ?_
  refine x_istore_n (pc := 9) dX10_laySoon_9 (by decide) xs_1 (x_hp rfl) ?_
  exact init M2 (Laid.of ho1 h85 ho2 hk2 h332) 16 0 M2 _ (by omega) only.rf (fun j q => by omega)
theorem fM_worn {c : Int32} (hC : MC9 M s) (ok : okM s) (h : ∀ M', high M M' → MC9 M' s → K (some (.int (vWorn s c))) xSF M') : Ex g (d + 7) yX10_worn mX10_worn [.ref 65, .int c] xSF M K := by
  unfold vWorn at h
  refine x_entry kX10_worn (Nat.le_of_ble_eq_true rfl) ?_
  show Wp g _ mX10_worn 0 [some (.ref 65), some (.int c)] [] _ _ _ _
  rcases isR_cases (x := c) (n := 16) (by decide) with e | ⟨j, hj, rfl, e⟩
  · simp only [e, Bool.false_eq_true, if_false] at h
    refine x_aload_n (pc := 0) dX10_worn_0 rfl ?_
    refine x_iload_n (pc := 1) dX10_worn_1 rfl ?_
    refine x_invV1 (pc := 2) dX10_worn_2 mlX10_257 imX10_isCell seX10_isCell kX10_isCell (by first | assumption | rfl) rfl (Nat.le_of_ble_eq_true rfl) (by decide) ?_
    refine sm_isCell ?_
    refine x_cv rfl rfl ?_
    rw [e]
    first | (guard_target =~ Wp _ _ _ _ _ (Value.int (nI _) :: _) _ _ _ _; with_reducible refine x_if_neN (pc := 5) (tgt := 10) ?_ dX10_worn_5 ?_ (fun h5 => ?_) (fun h5 => ?_); (first | omega | exact b2n_32 _ | exact b2n_31 _); decide) | refine x_if_ne (pc := 5) (tgt := 10) dX10_worn_5 (by decide) (fun h5 => ?_) (fun h5 => ?_)
    · skip
      exact absurd rfl h5
    · skip
      refine x_iconst (pc := 8) dX10_worn_8 ic_m1 ?_
      refine x_ret (pc := 9) (v := some _) rfl trivial dX10_worn_9 (by decide) ?_
      exact h M high.rf hC
  · simp only [e, if_true] at h
    rw [toN_nI (by omega), dubF_lst] at h
    refine x_aload_n (pc := 0) dX10_worn_0 rfl ?_
    refine x_iload_n (pc := 1) dX10_worn_1 rfl ?_
    refine x_invV1 (pc := 2) dX10_worn_2 mlX10_257 imX10_isCell seX10_isCell kX10_isCell (by first | assumption | rfl) rfl (Nat.le_of_ble_eq_true rfl) (by decide) ?_
    refine sm_isCell ?_
    refine x_cv rfl rfl ?_
    rw [e]
    first | (guard_target =~ Wp _ _ _ _ _ (Value.int (nI _) :: _) _ _ _ _; with_reducible refine x_if_neN (pc := 5) (tgt := 10) ?_ dX10_worn_5 ?_ (fun h5 => ?_) (fun h5 => ?_); (first | omega | exact b2n_32 _ | exact b2n_31 _); decide) | refine x_if_ne (pc := 5) (tgt := 10) dX10_worn_5 (by decide) (fun h5 => ?_) (fun h5 => ?_)
    · skip
      refine x_aload_n (pc := 10) dX10_worn_10 rfl ?_
      refine x_invV0 (pc := 11) dX10_worn_11 mlX10_381 imX10_laySoon seX10_laySoon kX10_laySoon (by first | assumption | rfl) rfl (Nat.le_of_ble_eq_true rfl) (by decide) ?_
      refine sm_laySoon hC ok (fun M2 ho2 h87 => ?_)
      refine x_cn rfl rfl ?_
      refine x_aload_n (pc := 14) dX10_worn_14 rfl ?_
      refine x_getR (pc := 15) dX10_worn_15 flX10_126 (by first | assumption | rfl) rfl ?_
      refine x_iload_n (pc := 18) dX10_worn_18 rfl ?_
      refine x_ialdN (pc := 19) dX10_worn_19 (by first | assumption | rfl) (by first | with_reducible rfl | (simp only [xlit, nI_add, pk_mul]; with_reducible rfl)) (by omega) (by decide) ?_
      rw [h87 j hj]
      refine x_ret (pc := 20) (v := some _) rfl trivial dX10_worn_20 (by decide) ?_
      exact h M2 ho2.qsm.1.1 (hC.st ho2.qsm)
    · skip
      cases h5
theorem sm_firstOf (hC : MC9 M s) (ok : okM s) (h : ∀ M', only pZ M M' → K (some (.int (fwnF s.1.1 (qw s) 60 1))) xSF M') : Ex g (d + 7) yX10_firstOf mX10_firstOf [.ref 65] xSF M K := by
  refine x_entry kX10_firstOf (Nat.le_of_ble_eq_true rfl) ?_
  show Wp g _ mX10_firstOf 0 [some (.ref 65), none, none] [] _ _ _ _
  have loop : ∀ M1, only pZ M M1 → (∀ c, c < 16 → M1.1 87 c = oI' (lst (P84 s.1.1 (qw s) c) 61 0)) → ∀ m c o, c + m = 16 → foI (fun c => lst (P84 s.1.1 (qw s) c) 61 0) c o → Wp g (d + 7) mX10_firstOf 9 [some (.ref 65), some (.int (oI' o)), some (.int (nI c))] [] xSF (0, 0) M1 K := by
    intro M1 ho h87 m
    induction m with
    | zero =>
      intro c o hc hf
      obtain rfl : c = 16 := by omega
      rw [foI_end hf] at h
      refine x_iload_n (pc := 9) dX10_firstOf_9 rfl ?_
      refine x_bipushN (pc := 10) 16 dX10_firstOf_10 bp_16 ?_
      first | (guard_target =~ Wp _ _ _ _ _ (Value.int (nI _) :: Value.int (nI _) :: _) _ _ _ _; with_reducible refine x_icmp_geN (pc := 12) (tgt := 51) ?_ ?_ dX10_firstOf_12 ?_ (fun h12 => ?_) (fun h12 => ?_); (first | omega | exact b2n_31 _); (first | omega | exact b2n_31 _); decide) | refine x_icmp_ge (pc := 12) (tgt := 51) dX10_firstOf_12 (by decide) (fun h12 => ?_) (fun h12 => ?_)
      · skip
        refine x_iload_n (pc := 51) dX10_firstOf_51 rfl ?_
        refine x_ret (pc := 52) (v := some _) rfl trivial dX10_firstOf_52 (by decide) ?_
        exact h M1 ho
      · skip
        omega
    | succ m ih =>
      intro c o hc hf
      have hc16 : c < 16 := by omega
      have h87c := h87 c hc16
      have skip : (∀ j, lst (P84 s.1.1 (qw s) c) 61 0 = some j → 0 < j → ∃ f i, o = some f ∧ lst (P84 s.1.1 (qw s) f) 61 0 = some i ∧ i ≤ j) → foI (fun c => lst (P84 s.1.1 (qw s) c) 61 0) (c + 1) o := by
        intro hq
        cases o with
        | none =>
          intro c' hc' j hj
          by_cases z : c' = c
          · subst z
            by_cases j0 : j = 0
            · exact j0
            · obtain ⟨f, i, h1, -⟩ := hq j hj (by omega); cases h1
          · exact hf c' (by omega) j hj
        | some f =>
          obtain ⟨f1, j, f2, f3, f4⟩ := hf
          refine ⟨by omega, j, f2, f3, fun c' hc' i hi hi0 => ?_⟩
          by_cases z : c' = c
          · subst z
            obtain ⟨f', i', h1, h2, h3⟩ := hq i hi hi0
            cases h1
            have f2' : lst (P84 s.1.1 (qw s) f) 61 0 = some j := f2
            rw [h2] at f2'; cases f2'
            omega
          · exact f4 c' (by omega) i hi hi0
      have take : ∀ j, lst (P84 s.1.1 (qw s) c) 61 0 = some j → 0 < j → (∀ f i, o = some f → lst (P84 s.1.1 (qw s) f) 61 0 = some i → j < i) → foI (fun c => lst (P84 s.1.1 (qw s) c) 61 0) (c + 1) (some c) := by
        intro j hj hj0 hq
        refine ⟨by omega, j, hj, hj0, fun c' hc' i hi hi0 => ?_⟩
        by_cases z : c' = c
        · subst z
          have hi' : lst (P84 s.1.1 (qw s) c') 61 0 = some i := hi
          rw [hj] at hi'; cases hi'; exact Or.inr ⟨rfl, Nat.le_refl _⟩
        · cases o with
          | none => have := hf c' (by omega) i hi; omega
          | some f =>
            obtain ⟨f1, j', f2, f3, f4⟩ := hf
            have h1 := hq f j' rfl f2
            rcases f4 c' (by omega) i hi hi0 with q | ⟨q1, q2⟩ <;> exact Or.inl (by omega)
      cases hl : lst (P84 s.1.1 (qw s) c) 61 0 with
      | none =>
        rw [hl] at h87c
        refine x_iload_n (pc := 9) dX10_firstOf_9 rfl ?_
        refine x_bipushN (pc := 10) 16 dX10_firstOf_10 bp_16 ?_
        first | (guard_target =~ Wp _ _ _ _ _ (Value.int (nI _) :: Value.int (nI _) :: _) _ _ _ _; with_reducible refine x_icmp_geN (pc := 12) (tgt := 51) ?_ ?_ dX10_firstOf_12 ?_ (fun h12 => ?_) (fun h12 => ?_); (first | omega | exact b2n_31 _); (first | omega | exact b2n_31 _); decide) | refine x_icmp_ge (pc := 12) (tgt := 51) dX10_firstOf_12 (by decide) (fun h12 => ?_) (fun h12 => ?_)
        · skip
          omega
        · skip
          refine x_aload_n (pc := 15) dX10_firstOf_15 rfl ?_
          refine x_getR (pc := 16) dX10_firstOf_16 flX10_126 (by first | assumption | rfl) rfl ?_
          refine x_iload_n (pc := 19) dX10_firstOf_19 rfl ?_
          refine x_ialdN (pc := 20) dX10_firstOf_20 (by first | assumption | rfl) (by first | with_reducible rfl | (simp only [xlit, nI_add, pk_mul]; with_reducible rfl)) (by omega) (by decide) ?_
          rw [h87c]
          refine x_if_le (pc := 21) (tgt := 45) dX10_firstOf_21 (by decide) (fun h21 => ?_) (fun h21 => ?_)
          · skip
            first | (guard_target =~ Wp _ _ _ _ (_ :: _ :: some (Value.int (nI _)) :: _) _ _ _ _ _; with_reducible refine x_iincN (pc := 45) 1 ic_1 dX10_firstOf_45 ?_ xg_2 xs_2 ?_ ?_; decide; exact (x_hp rfl)) | refine x_iincC (pc := 45) ic_1 dX10_firstOf_45 (by decide) rfl xs_2 (x_hp rfl) ?_
            refine x_goto (pc := 48) (tgt := 9) dX10_firstOf_48 (by decide) ?_
            exact ih (c + 1) o (by omega) (skip (fun j hj => by rw [hl] at hj; cases hj))
          · skip
            exact absurd (by decide) h21
      | some j =>
        obtain ⟨-, hj61, -, -⟩ := lst_some hl
        rw [hl] at h87c
        by_cases j0 : j = 0
        · subst j0
          refine x_iload_n (pc := 9) dX10_firstOf_9 rfl ?_
          refine x_bipushN (pc := 10) 16 dX10_firstOf_10 bp_16 ?_
          first | (guard_target =~ Wp _ _ _ _ _ (Value.int (nI _) :: Value.int (nI _) :: _) _ _ _ _; with_reducible refine x_icmp_geN (pc := 12) (tgt := 51) ?_ ?_ dX10_firstOf_12 ?_ (fun h12 => ?_) (fun h12 => ?_); (first | omega | exact b2n_31 _); (first | omega | exact b2n_31 _); decide) | refine x_icmp_ge (pc := 12) (tgt := 51) dX10_firstOf_12 (by decide) (fun h12 => ?_) (fun h12 => ?_)
          · skip
            omega
          · skip
            refine x_aload_n (pc := 15) dX10_firstOf_15 rfl ?_
            refine x_getR (pc := 16) dX10_firstOf_16 flX10_126 (by first | assumption | rfl) rfl ?_
            refine x_iload_n (pc := 19) dX10_firstOf_19 rfl ?_
            refine x_ialdN (pc := 20) dX10_firstOf_20 (by first | assumption | rfl) (by first | with_reducible rfl | (simp only [xlit, nI_add, pk_mul]; with_reducible rfl)) (by omega) (by decide) ?_
            rw [h87c]
            refine x_if_le (pc := 21) (tgt := 45) dX10_firstOf_21 (by decide) (fun h21 => ?_) (fun h21 => ?_)
            · skip
              first | (guard_target =~ Wp _ _ _ _ (_ :: _ :: some (Value.int (nI _)) :: _) _ _ _ _ _; with_reducible refine x_iincN (pc := 45) 1 ic_1 dX10_firstOf_45 ?_ xg_2 xs_2 ?_ ?_; decide; exact (x_hp rfl)) | refine x_iincC (pc := 45) ic_1 dX10_firstOf_45 (by decide) rfl xs_2 (x_hp rfl) ?_
              refine x_goto (pc := 48) (tgt := 9) dX10_firstOf_48 (by decide) ?_
              exact ih (c + 1) o (by omega) (skip (fun j hj => by rw [hl] at hj; cases hj; omega))
            · skip
              exact absurd (by decide) h21
        · cases o with
          | none =>
            refine x_iload_n (pc := 9) dX10_firstOf_9 rfl ?_
            refine x_bipushN (pc := 10) 16 dX10_firstOf_10 bp_16 ?_
            first | (guard_target =~ Wp _ _ _ _ _ (Value.int (nI _) :: Value.int (nI _) :: _) _ _ _ _; with_reducible refine x_icmp_geN (pc := 12) (tgt := 51) ?_ ?_ dX10_firstOf_12 ?_ (fun h12 => ?_) (fun h12 => ?_); (first | omega | exact b2n_31 _); (first | omega | exact b2n_31 _); decide) | refine x_icmp_ge (pc := 12) (tgt := 51) dX10_firstOf_12 (by decide) (fun h12 => ?_) (fun h12 => ?_)
            · skip
              omega
            · skip
              refine x_aload_n (pc := 15) dX10_firstOf_15 rfl ?_
              refine x_getR (pc := 16) dX10_firstOf_16 flX10_126 (by first | assumption | rfl) rfl ?_
              refine x_iload_n (pc := 19) dX10_firstOf_19 rfl ?_
              refine x_ialdN (pc := 20) dX10_firstOf_20 (by first | assumption | rfl) (by first | with_reducible rfl | (simp only [xlit, nI_add, pk_mul]; with_reducible rfl)) (by omega) (by decide) ?_
              rw [h87c, show oI' (some j) = nI j from rfl]
              first | (guard_target =~ Wp _ _ _ _ _ (Value.int (nI _) :: _) _ _ _ _; with_reducible refine x_if_leN (pc := 21) (tgt := 45) ?_ dX10_firstOf_21 ?_ (fun h21 => ?_) (fun h21 => ?_); (first | omega | exact b2n_32 _ | exact b2n_31 _); decide) | refine x_if_le (pc := 21) (tgt := 45) dX10_firstOf_21 (by decide) (fun h21 => ?_) (fun h21 => ?_)
              · skip
                omega
              · skip
                refine x_iload_n (pc := 24) dX10_firstOf_24 rfl ?_
                refine x_if_lt (pc := 25) (tgt := 43) dX10_firstOf_25 (by decide) (fun h25 => ?_) (fun h25 => ?_)
                · skip
                  refine x_iload_n (pc := 43) dX10_firstOf_43 rfl ?_
                  refine x_istore_n (pc := 44) dX10_firstOf_44 (by decide) xs_1 (x_hp rfl) ?_
                  first | (guard_target =~ Wp _ _ _ _ (_ :: _ :: some (Value.int (nI _)) :: _) _ _ _ _ _; with_reducible refine x_iincN (pc := 45) 1 ic_1 dX10_firstOf_45 ?_ xg_2 xs_2 ?_ ?_; decide; exact (x_hp rfl)) | refine x_iincC (pc := 45) ic_1 dX10_firstOf_45 (by decide) rfl xs_2 (x_hp rfl) ?_
                  refine x_goto (pc := 48) (tgt := 9) dX10_firstOf_48 (by decide) ?_
                  exact ih (c + 1) (some c) (by omega) (take j hl (by omega) (fun f i h1 => by cases h1))
                · skip
                  exact absurd (by decide) h25
          | some f =>
            obtain ⟨f1, j', f2, f3, f4⟩ := id hf
            have f2' : lst (P84 s.1.1 (qw s) f) 61 0 = some j' := f2
            obtain ⟨-, hj62, -, -⟩ := lst_some f2'
            have h87f : M1.1 87 f = nI j' := by rw [h87 f (by omega), f2']; rfl
            show Wp g _ _ 9 [some (.ref 65), some (.int (nI f)), some (.int (nI c))] [] xSF (0, 0) M1 K
            refine x_iload_n (pc := 9) dX10_firstOf_9 rfl ?_
            refine x_bipushN (pc := 10) 16 dX10_firstOf_10 bp_16 ?_
            first | (guard_target =~ Wp _ _ _ _ _ (Value.int (nI _) :: Value.int (nI _) :: _) _ _ _ _; with_reducible refine x_icmp_geN (pc := 12) (tgt := 51) ?_ ?_ dX10_firstOf_12 ?_ (fun h12 => ?_) (fun h12 => ?_); (first | omega | exact b2n_31 _); (first | omega | exact b2n_31 _); decide) | refine x_icmp_ge (pc := 12) (tgt := 51) dX10_firstOf_12 (by decide) (fun h12 => ?_) (fun h12 => ?_)
            · skip
              omega
            · skip
              refine x_aload_n (pc := 15) dX10_firstOf_15 rfl ?_
              refine x_getR (pc := 16) dX10_firstOf_16 flX10_126 (by first | assumption | rfl) rfl ?_
              refine x_iload_n (pc := 19) dX10_firstOf_19 rfl ?_
              refine x_ialdN (pc := 20) dX10_firstOf_20 (by first | assumption | rfl) (by first | with_reducible rfl | (simp only [xlit, nI_add, pk_mul]; with_reducible rfl)) (by omega) (by decide) ?_
              rw [h87c, show oI' (some j) = nI j from rfl]
              first | (guard_target =~ Wp _ _ _ _ _ (Value.int (nI _) :: _) _ _ _ _; with_reducible refine x_if_leN (pc := 21) (tgt := 45) ?_ dX10_firstOf_21 ?_ (fun h21 => ?_) (fun h21 => ?_); (first | omega | exact b2n_32 _ | exact b2n_31 _); decide) | refine x_if_le (pc := 21) (tgt := 45) dX10_firstOf_21 (by decide) (fun h21 => ?_) (fun h21 => ?_)
              · skip
                omega
              · skip
                refine x_iload_n (pc := 24) dX10_firstOf_24 rfl ?_
                refine x_if_lt (pc := 25) (tgt := 43) dX10_firstOf_25 (by decide) (fun h25 => ?_) (fun h25 => ?_)
                · skip
                  exact absurd h25 (Int32.not_lt.mpr (nI_pos' (by omega)))
                · skip
                  refine x_aload_n (pc := 28) dX10_firstOf_28 rfl ?_
                  refine x_getR (pc := 29) dX10_firstOf_29 flX10_126 (by first | assumption | rfl) rfl ?_
                  refine x_iload_n (pc := 32) dX10_firstOf_32 rfl ?_
                  refine x_ialdN (pc := 33) dX10_firstOf_33 (by first | assumption | rfl) (by first | with_reducible rfl | (simp only [xlit, nI_add, pk_mul]; with_reducible rfl)) (by omega) (by decide) ?_
                  rw [h87c, show oI' (some j) = nI j from rfl]
                  refine x_aload_n (pc := 34) dX10_firstOf_34 rfl ?_
                  refine x_getR (pc := 35) dX10_firstOf_35 flX10_126 (by first | assumption | rfl) rfl ?_
                  refine x_iload_n (pc := 38) dX10_firstOf_38 rfl ?_
                  refine x_ialdN (pc := 39) dX10_firstOf_39 (by first | assumption | rfl) (by first | with_reducible rfl | (simp only [xlit, nI_add, pk_mul]; with_reducible rfl)) (by omega) (by decide) ?_
                  rw [h87f]
                  first | (guard_target =~ Wp _ _ _ _ _ (Value.int (nI _) :: Value.int (nI _) :: _) _ _ _ _; with_reducible refine x_icmp_geN (pc := 40) (tgt := 45) ?_ ?_ dX10_firstOf_40 ?_ (fun h40 => ?_) (fun h40 => ?_); (first | omega | exact b2n_31 _); (first | omega | exact b2n_31 _); decide) | refine x_icmp_ge (pc := 40) (tgt := 45) dX10_firstOf_40 (by decide) (fun h40 => ?_) (fun h40 => ?_)
                  · skip
                    first | (guard_target =~ Wp _ _ _ _ (_ :: _ :: some (Value.int (nI _)) :: _) _ _ _ _ _; with_reducible refine x_iincN (pc := 45) 1 ic_1 dX10_firstOf_45 ?_ xg_2 xs_2 ?_ ?_; decide; exact (x_hp rfl)) | refine x_iincC (pc := 45) ic_1 dX10_firstOf_45 (by decide) rfl xs_2 (x_hp rfl) ?_
                    refine x_goto (pc := 48) (tgt := 9) dX10_firstOf_48 (by decide) ?_
                    exact ih (c + 1) (some f) (by omega) (skip (fun i hi hi0 => by rw [hl] at hi; cases hi; exact ⟨f, j', rfl, f2', by omega⟩))
                  · skip
                    refine x_iload_n (pc := 43) dX10_firstOf_43 rfl ?_
                    refine x_istore_n (pc := 44) dX10_firstOf_44 (by decide) xs_1 (x_hp rfl) ?_
                    first | (guard_target =~ Wp _ _ _ _ (_ :: _ :: some (Value.int (nI _)) :: _) _ _ _ _ _; with_reducible refine x_iincN (pc := 45) 1 ic_1 dX10_firstOf_45 ?_ xg_2 xs_2 ?_ ?_; decide; exact (x_hp rfl)) | refine x_iincC (pc := 45) ic_1 dX10_firstOf_45 (by decide) rfl xs_2 (x_hp rfl) ?_
                    refine x_goto (pc := 48) (tgt := 9) dX10_firstOf_48 (by decide) ?_
                    exact ih (c + 1) (some c) (by omega) (take j hl (by omega) (fun f' i h1 h2 => by cases h1; rw [f2'] at h2; cases h2; omega))
  refine x_aload_n (pc := 0) dX10_firstOf_0 rfl ?_
  refine x_invV0 (pc := 1) dX10_firstOf_1 mlX10_381 imX10_laySoon seX10_laySoon kX10_laySoon (by first | assumption | rfl) rfl (Nat.le_of_ble_eq_true rfl) (by decide) ?_
  refine sm_laySoon hC ok (fun M2 ho2 h87 => ?_)
  refine x_cn rfl rfl ?_
  refine x_bipush (pc := 4) dX10_firstOf_4 bp_m5 ?_
  refine x_istore_n (pc := 6) dX10_firstOf_6 (by decide) xs_1 (x_hp rfl) ?_
  refine x_iconstN (pc := 7) 0 dX10_firstOf_7 ic_0 ?_
  refine x_istore_n (pc := 8) dX10_firstOf_8 (by decide) xs_2 (x_hp rfl) ?_
  exact loop M2 ho2 h87 16 0 none (by omega) (fun c hc => by omega)
end P84
