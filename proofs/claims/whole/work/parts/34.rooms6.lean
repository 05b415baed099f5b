/-! ROOMS of the program: readFor and the rest -/
def bldF (b : Nat) (l : List XCl) : Nat := l.foldl (fun b x => if x.1 = 2 then x.2.1 else b) b
def sumF (f : Nat → Nat) (s : Int) (l : List XCl) : Int := l.foldl (fun s x => s + wgtC f x) s
/-- behind a clause, j more may come -/
def rst (c : Nat → Nat) (j q : Nat) : Option (List XCl) × Nat := match j with
  | 0 => if c q = 0 then (some [], q) else (none, q)
  | j + 1 => if c q = 60 then pR c j (q + 1) else if c q = 0 then (some [], q) else (none, q)
theorem pR_n {c : Nat → Nat} {j p q : Nat} (h : pC c p = (none, q)) : pR c j p = (none, q) := by
  cases j with
  | zero => rw [pR, h]
  | succ j => rw [pR, h]
theorem pR_s {c : Nat → Nat} {j p q : Nat} {x : XCl} (h : pC c p = (some x, q)) : pR c j p = ((rst c j q).1.map (x :: ·), (rst c j q).2) := by
  cases j with
  | zero =>
    rw [pR, h, rst]
    by_cases h1 : c q = 0
    · simp only [if_pos h1, Option.map]
    · simp only [if_neg h1, Option.map]
  | succ j =>
    rw [pR, h, rst]
    by_cases h1 : c q = 60
    · simp only [if_pos h1]
      rcases pR c j (q + 1) with ⟨_ | l, r⟩
      · rfl
      · rfl
    · simp only [if_neg h1]
      by_cases h2 : c q = 0
      · simp only [if_pos h2, Option.map]
      · simp only [if_neg h2, Option.map]
theorem pC_ok {c : Nat → Nat} {n p q : Nat} {o : Option XCl} (h : TX c n) (hp : p ≤ n) (e : pC c p = (o, q)) : p ≤ q ∧ q ≤ n ∧ ∀ x, o = some x → p < q ∧ x.2.1 < 100 ∧ x.1 < 3 ∧ ∀ y, y ∈ x.2.2.1 → y < 6000 := by
  unfold pC at e
  by_cases h1 : c p = 99
  · rw [if_pos h1] at e
    obtain ⟨w1, w2, w3⟩ := wrdP_ok h wB (by decide) p hp
    rcases hw : wrdP c wB p with ⟨_ | _, r⟩
    · simp only [hw, Prod.mk.injEq] at e w1 w2
      obtain ⟨rfl, rfl⟩ := e
      exact ⟨w1, w2, fun x hx => by cases hx⟩
    · simp only [hw] at e w1 w2
      rcases hn : numP c r with _ | ⟨v, s⟩
      · simp only [hn, Prod.mk.injEq] at e
        obtain ⟨rfl, rfl⟩ := e
        exact ⟨w1, w2, fun x hx => by cases hx⟩
      · simp only [hn, Prod.mk.injEq] at e
        obtain ⟨rfl, rfl⟩ := e
        obtain ⟨u1, u2, u3⟩ := numP_some h hn
        exact ⟨by omega, u2, fun x hx => by cases hx; exact ⟨by omega, u3, (show 2 < 3 by decide), fun y hy => by cases hy⟩⟩
  · rw [if_neg h1] at e
    obtain ⟨w1, w2, w3⟩ := wrdP_ok h (if c p = 105 then wH else wS) (by split <;> decide) p hp
    rcases hw : wrdP c (if c p = 105 then wH else wS) p with ⟨_ | _, r⟩
    · simp only [hw, Prod.mk.injEq] at e w1 w2
      obtain ⟨rfl, rfl⟩ := e
      exact ⟨w1, w2, fun x hx => by cases hx⟩
    · simp only [hw] at e w1 w2
      rcases hn : numP c r with _ | ⟨v, s⟩
      · simp only [hn, Prod.mk.injEq] at e
        obtain ⟨rfl, rfl⟩ := e
        exact ⟨w1, w2, fun x hx => by cases hx⟩
      · simp only [hn] at e
        obtain ⟨u1, u2, u3⟩ := numP_some h hn
        by_cases h3 : c s = 33
        · have n4 := h.lt h3 (by decide)
          obtain ⟨y1, y2, y3⟩ := pE_ok h 4 (s + 1) (by omega)
          rcases hr : pE c 4 (s + 1) with ⟨_ | z, t⟩
          · simp only [h3, if_true, hr, Prod.mk.injEq] at e y1 y2
            obtain ⟨rfl, rfl⟩ := e
            exact ⟨by omega, y2, fun x hx => by cases hx⟩
          · simp only [h3, if_true, hr, Prod.mk.injEq] at e y1 y2 y3
            obtain ⟨rfl, rfl⟩ := e
            obtain ⟨y4, y5⟩ := y3 z rfl
            exact ⟨by omega, y2, fun x hx => by cases hx; exact ⟨by omega, u3, by show (if c p = 105 then 1 else 0) < 3; split <;> decide, y5⟩⟩
        · simp only [h3, if_false, Prod.mk.injEq] at e
          obtain ⟨rfl, rfl⟩ := e
          exact ⟨by omega, by omega, fun x hx => by cases hx⟩
theorem oI_add (a b : Int) : Int32.ofInt a + Int32.ofInt b = Int32.ofInt (a + b) := (Int32.ofInt_add ..).symm
/-- the facts of a goer -/
def fG (gg kk vv k : Nat) : Nat := if k = 3 then gg else if k = 4 then kk else vv
section P34
variable {g : XG} {d : Nat} {S : XS} {M : XM} {K : Option Value → XS → XM → Prop} {b n p : Nat} {c f : Nat → Nat}
theorem rdB {k q : Nat} {o2 o3 o4 : Int32} (hk : k < 12) (hR : RT M b n c f) (hq : q ≤ n) (fin : K none xSF (rM M q true)) : Wp g (d + 17) mX6_readFor 92 [some (.ref 41), some (.int (nI b)), some (.int o2), some (.int o3), some (.int o4), some (.int (nI k))] [] xSF (0, 0) (rM M q true) K := by
  have hn := hR.2.2.2.1.1
  refine x_iload (pc := 92) dX6_readFor_92 rfl ?_
  refine x_bipushN (pc := 94) 10 dX6_readFor_94 bp_10 ?_
  first | (guard_target =~ Wp _ _ _ _ _ (Value.int (nI _) :: Value.int (nI _) :: _) _ _ _ _; with_reducible refine x_icmp_geN (pc := 96) (tgt := 135) ?_ ?_ dX6_readFor_96 ?_ (fun h96 => ?_) (fun h96 => ?_); (first | omega | exact b2n_31 _); (first | omega | exact b2n_31 _); decide) | refine x_icmp_ge (pc := 96) (tgt := 135) dX6_readFor_96 (by decide) (fun h96 => ?_) (fun h96 => ?_)
  · skip
    refine x_aload_n (pc := 135) dX6_readFor_135 rfl ?_
    refine x_getI (pc := 136) dX6_readFor_136 flX6_34 (by first | assumption | rfl) rfl ?_
    rw [rM_at]
    refine x_aload_n (pc := 139) dX6_readFor_139 rfl ?_
    refine x_getI (pc := 140) dX6_readFor_140 flX6_58 (by first | assumption | rfl) rfl ?_
    rw [show (rM M q true).1 41 4 = nI n from hR.2.2.1]
    first | (guard_target =~ Wp _ _ _ _ _ (Value.int (nI _) :: Value.int (nI _) :: _) _ _ _ _; with_reducible refine x_icmp_geN (pc := 143) (tgt := 151) ?_ ?_ dX6_readFor_143 ?_ (fun h143 => ?_) (fun h143 => ?_); (first | omega | exact b2n_31 _); (first | omega | exact b2n_31 _); decide) | refine x_icmp_ge (pc := 143) (tgt := 151) dX6_readFor_143 (by decide) (fun h143 => ?_) (fun h143 => ?_)
    · skip
      refine x_ret (pc := 151) (v := none) rfl trivial dX6_readFor_151 (by decide) ?_
      exact fin
    · skip
      refine x_aload_n (pc := 146) dX6_readFor_146 rfl ?_
      refine x_iconstN (pc := 147) 1 dX6_readFor_147 ic_1 ?_
      refine x_putI (pc := 148) dX6_readFor_148 flX6_30 (by first | assumption | rfl) rfl (by first | rfl | decide) (by first | rfl | decide) ?_
      rw [rM_fail]
      refine x_ret (pc := 151) (v := none) rfl trivial dX6_readFor_151 (by decide) ?_
      exact fin
  · skip
    refine x_aload_n (pc := 99) dX6_readFor_99 rfl ?_
    refine x_getI (pc := 100) dX6_readFor_100 flX6_30 (by first | assumption | rfl) rfl ?_
    rw [rM_br]
    first | (guard_target =~ Wp _ _ _ _ _ (Value.int (nI _) :: _) _ _ _ _; with_reducible refine x_if_neN (pc := 103) (tgt := 135) ?_ dX6_readFor_103 ?_ (fun h103 => ?_) (fun h103 => ?_); (first | omega | exact b2n_32 _ | exact b2n_31 _); decide) | refine x_if_ne (pc := 103) (tgt := 135) dX6_readFor_103 (by decide) (fun h103 => ?_) (fun h103 => ?_)
    · skip
      refine x_aload_n (pc := 135) dX6_readFor_135 rfl ?_
      refine x_getI (pc := 136) dX6_readFor_136 flX6_34 (by first | assumption | rfl) rfl ?_
      rw [rM_at]
      refine x_aload_n (pc := 139) dX6_readFor_139 rfl ?_
      refine x_getI (pc := 140) dX6_readFor_140 flX6_58 (by first | assumption | rfl) rfl ?_
      rw [show (rM M q true).1 41 4 = nI n from hR.2.2.1]
      first | (guard_target =~ Wp _ _ _ _ _ (Value.int (nI _) :: Value.int (nI _) :: _) _ _ _ _; with_reducible refine x_icmp_geN (pc := 143) (tgt := 151) ?_ ?_ dX6_readFor_143 ?_ (fun h143 => ?_) (fun h143 => ?_); (first | omega | exact b2n_31 _); (first | omega | exact b2n_31 _); decide) | refine x_icmp_ge (pc := 143) (tgt := 151) dX6_readFor_143 (by decide) (fun h143 => ?_) (fun h143 => ?_)
      · skip
        refine x_ret (pc := 151) (v := none) rfl trivial dX6_readFor_151 (by decide) ?_
        exact fin
      · skip
        refine x_aload_n (pc := 146) dX6_readFor_146 rfl ?_
        refine x_iconstN (pc := 147) 1 dX6_readFor_147 ic_1 ?_
        refine x_putI (pc := 148) dX6_readFor_148 flX6_30 (by first | assumption | rfl) rfl (by first | rfl | decide) (by first | rfl | decide) ?_
        rw [rM_fail]
        refine x_ret (pc := 151) (v := none) rfl trivial dX6_readFor_151 (by decide) ?_
        exact fin
    · skip
      cases h103
theorem rdL (hf : ∀ k, f k < 100) {M0 : XM} :
    ∀ j k q M b0 (s0 : Nat → Int) (o2 o3 o4 : Int32), k + j = 10 → 1 ≤ k → q ≤ n → rsame M0 M → RT M b n c f → M.1 41 11 = nI b0 → (∀ i, i < 16 → M.1 44 i = Int32.ofInt (s0 i)) →
    (∀ r, rst c j q = (none, r) → ∀ M2, rsame M0 M2 → K none xSF (rM M2 r true)) →
    (∀ l r, rst c j q = (some l, r) → ∀ M2, rsame M0 M2 → M2.1 41 11 = nI (bldF b0 l) → (∀ i, i < 16 → M2.1 44 i = Int32.ofInt (sumF (fctC f i) (s0 i) l)) → K none xSF (rM M2 r false)) →
    Wp g (d + 17) mX6_readFor 92 [some (.ref 41), some (.int (nI b)), some (.int o2), some (.int o3), some (.int o4), some (.int (nI k))] [] xSF (0, 0) (rM M q false) K := by
  intro j
  induction j with
  | zero =>
    intro k q M b0 s0 o2 o3 o4 hk h1 hq hs hR hb hz g0 g1
    have hX := hR.2.2.2.1
    have hn := hX.1
    have hc0 := (hX.2 q).1
    refine x_iload (pc := 92) dX6_readFor_92 rfl ?_
    refine x_bipushN (pc := 94) 10 dX6_readFor_94 bp_10 ?_
    first | (guard_target =~ Wp _ _ _ _ _ (Value.int (nI _) :: Value.int (nI _) :: _) _ _ _ _; with_reducible refine x_icmp_geN (pc := 96) (tgt := 135) ?_ ?_ dX6_readFor_96 ?_ (fun h96 => ?_) (fun h96 => ?_); (first | omega | exact b2n_31 _); (first | omega | exact b2n_31 _); decide) | refine x_icmp_ge (pc := 96) (tgt := 135) dX6_readFor_96 (by decide) (fun h96 => ?_) (fun h96 => ?_)
    · skip
      refine x_aload_n (pc := 135) dX6_readFor_135 rfl ?_
      refine x_getI (pc := 136) dX6_readFor_136 flX6_34 (by first | assumption | rfl) rfl ?_
      rw [rM_at]
      refine x_aload_n (pc := 139) dX6_readFor_139 rfl ?_
      refine x_getI (pc := 140) dX6_readFor_140 flX6_58 (by first | assumption | rfl) rfl ?_
      rw [show (rM M q false).1 41 4 = nI n from hR.2.2.1]
      first | (guard_target =~ Wp _ _ _ _ _ (Value.int (nI _) :: Value.int (nI _) :: _) _ _ _ _; with_reducible refine x_icmp_geN (pc := 143) (tgt := 151) ?_ ?_ dX6_readFor_143 ?_ (fun h143 => ?_) (fun h143 => ?_); (first | omega | exact b2n_31 _); (first | omega | exact b2n_31 _); decide) | refine x_icmp_ge (pc := 143) (tgt := 151) dX6_readFor_143 (by decide) (fun h143 => ?_) (fun h143 => ?_)
      · skip
        refine x_ret (pc := 151) (v := none) rfl trivial dX6_readFor_151 (by decide) ?_
        exact g1 [] q (by rw [rst, if_pos (hc0.mpr (by omega))]) M hs hb hz
      · skip
        refine x_aload_n (pc := 146) dX6_readFor_146 rfl ?_
        refine x_iconstN (pc := 147) 1 dX6_readFor_147 ic_1 ?_
        refine x_putI (pc := 148) dX6_readFor_148 flX6_30 (by first | assumption | rfl) rfl (by first | rfl | decide) (by first | rfl | decide) ?_
        rw [rM_fail]
        refine x_ret (pc := 151) (v := none) rfl trivial dX6_readFor_151 (by decide) ?_
        exact g0 q (by rw [rst, if_neg (fun z => by have := hc0.mp z; omega)]) M hs
    · skip
      omega
  | succ j ih =>
    intro k q M b0 s0 o2 o3 o4 hk h1 hq hs hR hb hz g0 g1
    have hX := hR.2.2.2.1
    have hn := hX.1
    have hc0 := (hX.2 q).1
    have e59 := srt_nI (hX.2 q).2 (k := 59) (by decide)
    by_cases n1 : c q = 60
    · have n2 := hX.lt n1 (by decide)
      rw [rst, if_pos n1] at g0 g1
      refine x_iload (pc := 92) dX6_readFor_92 rfl ?_
      refine x_bipushN (pc := 94) 10 dX6_readFor_94 bp_10 ?_
      first | (guard_target =~ Wp _ _ _ _ _ (Value.int (nI _) :: Value.int (nI _) :: _) _ _ _ _; with_reducible refine x_icmp_geN (pc := 96) (tgt := 135) ?_ ?_ dX6_readFor_96 ?_ (fun h96 => ?_) (fun h96 => ?_); (first | omega | exact b2n_31 _); (first | omega | exact b2n_31 _); decide) | refine x_icmp_ge (pc := 96) (tgt := 135) dX6_readFor_96 (by decide) (fun h96 => ?_) (fun h96 => ?_)
      · skip
        omega
      · skip
        refine x_aload_n (pc := 99) dX6_readFor_99 rfl ?_
        refine x_getI (pc := 100) dX6_readFor_100 flX6_30 (by first | assumption | rfl) rfl ?_
        rw [rM_br]
        first | (guard_target =~ Wp _ _ _ _ _ (Value.int (nI _) :: _) _ _ _ _; with_reducible refine x_if_neN (pc := 103) (tgt := 135) ?_ dX6_readFor_103 ?_ (fun h103 => ?_) (fun h103 => ?_); (first | omega | exact b2n_32 _ | exact b2n_31 _); decide) | refine x_if_ne (pc := 103) (tgt := 135) dX6_readFor_103 (by decide) (fun h103 => ?_) (fun h103 => ?_)
        · skip
          exact absurd rfl h103
        · skip
          refine x_aload_n (pc := 106) dX6_readFor_106 rfl ?_
          refine x_invV0 (pc := 107) dX6_readFor_107 mlX6_64 imX6_sign seX6_sign kX6_sign (by first | assumption | rfl) rfl (Nat.le_of_ble_eq_true rfl) (by decide) ?_
          refine sp_X6_sign hR hq ?_
          refine x_cv rfl rfl ?_
          refine x_bipush (pc := 110) dX6_readFor_110 bp_59 ?_
          first | (guard_target =~ Wp _ _ _ _ _ (Value.int (nI _) :: Value.int (nI _) :: _) _ _ _ _; with_reducible refine x_icmp_neN (pc := 112) (tgt := 135) ?_ ?_ dX6_readFor_112 ?_ (fun h112 => ?_) (fun h112 => ?_); (first | omega | exact b2n_31 _); (first | omega | exact b2n_31 _); decide) | refine x_icmp_ne (pc := 112) (tgt := 135) dX6_readFor_112 (by decide) (fun h112 => ?_) (fun h112 => ?_)
          · skip
            exact absurd (e59.mpr n1) h112
          · skip
            refine x_aload_n (pc := 115) dX6_readFor_115 rfl ?_
            refine x_dup (pc := 116) dX6_readFor_116 rfl ?_
            refine x_getI (pc := 117) dX6_readFor_117 flX6_34 (by first | assumption | rfl) rfl ?_
            rw [rM_at]
            refine x_iconstN (pc := 120) 1 dX6_readFor_120 ic_1 ?_
            first | (guard_target =~ Wp _ _ _ _ _ (Value.int (nI _) :: Value.int (nI _) :: _) _ _ _ _; with_reducible refine x_iaddN (pc := 121) dX6_readFor_121 ?_) | refine x_iadd (pc := 121) dX6_readFor_121 ?_
            refine x_putI (pc := 122) dX6_readFor_122 flX6_34 (by first | assumption | rfl) rfl rfl rfl ?_
            rw [rM_put]
            refine x_aload_n (pc := 125) dX6_readFor_125 rfl ?_
            refine x_invV0 (pc := 126) dX6_readFor_126 mlX6_61 imX6_clause seX6_clause kX6_clause (by first | assumption | rfl) rfl (Nat.le_of_ble_eq_true rfl) (by decide) ?_
            refine sp_X6_clause hf hR (by omega) (fun r hr M2 hs2 => ?_) (fun x r hr M2 hs2 hb2 hz2 => ?_)
            · refine x_cn rfl rfl ?_
              refine x_iincN (pc := 129) 1 ic_1 dX6_readFor_129 (by decide) xg_5 xs_5 (x_hp rfl) ?_
              refine x_goto (pc := 132) (tgt := 92) dX6_readFor_132 (by decide) ?_
              exact rdB (by omega) (hR.same hs2) (pC_ok hX (by omega) hr).2.1 (g0 r (pR_n hr) M2 (hs.tr hs2))
            refine x_cn rfl rfl ?_
            first | (guard_target =~ Wp _ _ _ _ (_ :: _ :: _ :: _ :: _ :: some (Value.int (nI _)) :: _) _ _ _ _ _; with_reducible refine x_iincN (pc := 129) 1 ic_1 dX6_readFor_129 ?_ xg_5 xs_5 ?_ ?_; decide; exact (x_hp rfl)) | refine x_iincC (pc := 129) ic_1 dX6_readFor_129 (by decide) rfl xs_5 (x_hp rfl) ?_
            refine x_goto (pc := 132) (tgt := 92) dX6_readFor_132 (by decide) ?_
            have hro := pC_ok hX (by omega) hr
            refine ih (k + 1) r M2 (if x.1 = 2 then x.2.1 else b0) (fun i => s0 i + wgtC (fctC f i) x) o2 o3 o4 (by omega) (by omega) hro.2.1 (hs.tr hs2) (hR.same hs2) (by rw [hb2, hb]; split <;> rfl) (fun i hi => by rw [hz2 i hi, hz i hi, oI_add]) (fun r' hr' M3 h3 => g0 r' (by rw [pR_s hr, hr']; rfl) M3 h3) (fun l r' hr' M3 h3 hb3 hz3 => g1 (x :: l) r' (by rw [pR_s hr, hr']; rfl) M3 h3 hb3 hz3)
    · rw [rst, if_neg n1] at g0 g1
      refine x_iload (pc := 92) dX6_readFor_92 rfl ?_
      refine x_bipushN (pc := 94) 10 dX6_readFor_94 bp_10 ?_
      first | (guard_target =~ Wp _ _ _ _ _ (Value.int (nI _) :: Value.int (nI _) :: _) _ _ _ _; with_reducible refine x_icmp_geN (pc := 96) (tgt := 135) ?_ ?_ dX6_readFor_96 ?_ (fun h96 => ?_) (fun h96 => ?_); (first | omega | exact b2n_31 _); (first | omega | exact b2n_31 _); decide) | refine x_icmp_ge (pc := 96) (tgt := 135) dX6_readFor_96 (by decide) (fun h96 => ?_) (fun h96 => ?_)
      · skip
        omega
      · skip
        refine x_aload_n (pc := 99) dX6_readFor_99 rfl ?_
        refine x_getI (pc := 100) dX6_readFor_100 flX6_30 (by first | assumption | rfl) rfl ?_
        rw [rM_br]
        first | (guard_target =~ Wp _ _ _ _ _ (Value.int (nI _) :: _) _ _ _ _; with_reducible refine x_if_neN (pc := 103) (tgt := 135) ?_ dX6_readFor_103 ?_ (fun h103 => ?_) (fun h103 => ?_); (first | omega | exact b2n_32 _ | exact b2n_31 _); decide) | refine x_if_ne (pc := 103) (tgt := 135) dX6_readFor_103 (by decide) (fun h103 => ?_) (fun h103 => ?_)
        · skip
          exact absurd rfl h103
        · skip
          refine x_aload_n (pc := 106) dX6_readFor_106 rfl ?_
          refine x_invV0 (pc := 107) dX6_readFor_107 mlX6_64 imX6_sign seX6_sign kX6_sign (by first | assumption | rfl) rfl (Nat.le_of_ble_eq_true rfl) (by decide) ?_
          refine sp_X6_sign hR hq ?_
          refine x_cv rfl rfl ?_
          refine x_bipush (pc := 110) dX6_readFor_110 bp_59 ?_
          first | (guard_target =~ Wp _ _ _ _ _ (Value.int (nI _) :: Value.int (nI _) :: _) _ _ _ _; with_reducible refine x_icmp_neN (pc := 112) (tgt := 135) ?_ ?_ dX6_readFor_112 ?_ (fun h112 => ?_) (fun h112 => ?_); (first | omega | exact b2n_31 _); (first | omega | exact b2n_31 _); decide) | refine x_icmp_ne (pc := 112) (tgt := 135) dX6_readFor_112 (by decide) (fun h112 => ?_) (fun h112 => ?_)
          · skip
            refine x_aload_n (pc := 135) dX6_readFor_135 rfl ?_
            refine x_getI (pc := 136) dX6_readFor_136 flX6_34 (by first | assumption | rfl) rfl ?_
            rw [rM_at]
            refine x_aload_n (pc := 139) dX6_readFor_139 rfl ?_
            refine x_getI (pc := 140) dX6_readFor_140 flX6_58 (by first | assumption | rfl) rfl ?_
            rw [show (rM M q false).1 41 4 = nI n from hR.2.2.1]
            first | (guard_target =~ Wp _ _ _ _ _ (Value.int (nI _) :: Value.int (nI _) :: _) _ _ _ _; with_reducible refine x_icmp_geN (pc := 143) (tgt := 151) ?_ ?_ dX6_readFor_143 ?_ (fun h143 => ?_) (fun h143 => ?_); (first | omega | exact b2n_31 _); (first | omega | exact b2n_31 _); decide) | refine x_icmp_ge (pc := 143) (tgt := 151) dX6_readFor_143 (by decide) (fun h143 => ?_) (fun h143 => ?_)
            · skip
              refine x_ret (pc := 151) (v := none) rfl trivial dX6_readFor_151 (by decide) ?_
              exact g1 [] q (by rw [if_pos (hc0.mpr (by omega))]) M hs hb hz
            · skip
              refine x_aload_n (pc := 146) dX6_readFor_146 rfl ?_
              refine x_iconstN (pc := 147) 1 dX6_readFor_147 ic_1 ?_
              refine x_putI (pc := 148) dX6_readFor_148 flX6_30 (by first | assumption | rfl) rfl (by first | rfl | decide) (by first | rfl | decide) ?_
              rw [rM_fail]
              refine x_ret (pc := 151) (v := none) rfl trivial dX6_readFor_151 (by decide) ?_
              exact g0 q (by rw [if_neg (fun z => by have := hc0.mp z; omega)]) M hs
          · skip
            exact absurd (e59.mp h112) n1
end P34
