/-! ASKED of the program: starts, numbers that fit, sole goers, without whom, furniture -/
def soleW (k : Nat) : Int32 := nI (2 ^ k) ^^^ (-1)
def stA (A : XA) (gg c : Nat) : XA := let B := updA A 3 gg c
  updA B 6 gg (wbits (wayL B gg))
/-- what room r holds -/
def RmL (tx : Nat → Nat → Nat) (ln : Nat → Nat) (made : Nat) (r : Int32) (L : List XCl) : Prop := okL L ∧ ((r = -1 ∧ L = []) ∨ ∃ b q, b < made ∧ r = nI b ∧ pR (chT (ln b) (tx b)) 9 0 = (some L, q))
def fitA (A : XA) (L : List XCl) (gg v : Nat) : XA := yldA (updA A 2 gg v) gg (yvF (fG gg (A 1 gg) v) L)
theorem updA_upd {A : XA} {k j v v' : Nat} : updA (updA A k j v) k j v' = updA A k j v' := by
  funext k' j'
  unfold updA
  by_cases h : k' = k ∧ j' = j
  · rw [if_pos h, if_pos h]
  · rw [if_neg h, if_neg h, if_neg h]
section P39
variable {g : XG} {d : Nat} {M : XM} {K : Option Value → XS → XM → Prop} {A N : XA} {w r : Int32} {W n p gg : Nat} {tx : Nat → Nat → Nat} {ln : Nat → Nat} {made : Nat} {L : List XCl}
theorem rsm.x {M M' : XM} (h : rsm M M') : xsame 41 45 M M' := ⟨fun q hq => h.1 q (by omega) (by omega), h.2.2⟩
theorem sp_X6_readForR {k0 kk vv : Nat} (hg : k0 < 100) (hk : kk < 100) (hv : vv < 100) (hR : RmS M tx ln made) (hL : RmL tx ln made r L)
    (h : ∀ M', rsm M M' → rdO M' (fG k0 kk vv) L → K none xSF M') : Ex g (d + 17) yX6_readFor mX6_readFor [.ref 41, .int r, .int (nI k0), .int (nI kk), .int (nI vv)] xSF M K := by
  obtain ⟨-, ⟨rfl, rfl⟩ | ⟨b, q, hb, rfl, hp⟩⟩ := hL
  · exact sp_X6_readFor0 h
  · refine sp_X6_readFor hg hk hv hR (by have := hR.2.1; omega) (fun q' hq => absurd (hp.symm.trans hq) (by simp)) (fun l q' hq M' hs ho => ?_)
    obtain ⟨rfl, rfl⟩ : L = l ∧ q = q' := by
      have z2 := hp.symm.trans hq
      simp only [Prod.mk.injEq, Option.some.injEq] at z2
      exact z2
    exact h M' hs ho
theorem sp_X1_soleGoers (hR : CR 1 M A w r) (hN : NR 25 M N) (h : ∀ M', xsame 46 58 M M' → K (some (.int (nI (xset (fun k => seenOk N A (soleW k)) (A 8 0))))) xSF M') : Ex g (d + 4) yX1_soleGoers mX1_soleGoers [.ref 45] xSF M K := by
  have hg6 := hR.goersB
  have loop : ∀ m k M1 w1, k + m = A 8 0 → xsame 46 58 M M1 → CR 46 M1 A w1 r → Wp g (d + 4) mX1_soleGoers 15 [some (.ref 45), some (.int (nI (xset (fun k => seenOk N A (soleW k)) k))), some (.int (nI k))] [] xSF (0, 0) M1 K := by
    intro m
    induction m with
    | zero =>
      intro k M1 w1 hk hs hC
      have hR1 := hR.out hs (by decide)
      obtain rfl : k = A 8 0 := by omega
      refine x_iload_n (pc := 15) dX1_soleGoers_15 rfl ?_
      refine x_aload_n (pc := 16) dX1_soleGoers_16 rfl ?_
      refine x_getR (pc := 17) dX1_soleGoers_17 flX1_22 (by first | assumption | rfl) rfl ?_
      refine x_getI (pc := 20) dX1_soleGoers_20 flX1_86 (by first | assumption | rfl) rfl ?_
      rw [hR1.goers]
      first | (guard_target =~ Wp _ _ _ _ _ (Value.int (nI _) :: Value.int (nI _) :: _) _ _ _ _; with_reducible refine x_icmp_geN (pc := 23) (tgt := 64) ?_ ?_ dX1_soleGoers_23 ?_ (fun h23 => ?_) (fun h23 => ?_); (first | omega | exact b2n_31 _); (first | omega | exact b2n_31 _); decide) | refine x_icmp_ge (pc := 23) (tgt := 64) dX1_soleGoers_23 (by decide) (fun h23 => ?_) (fun h23 => ?_)
      · skip
        refine x_iload_n (pc := 64) dX1_soleGoers_64 rfl ?_
        refine x_ret (pc := 65) (v := some _) rfl trivial dX1_soleGoers_65 (by decide) ?_
        exact h M1 hs
      · skip
        omega
    | succ m ih =>
      intro k M1 w1 hk hs hC
      have hR1 := hR.out hs (by decide)
      have hN1 := hN.out hs (by decide)
      refine x_iload_n (pc := 15) dX1_soleGoers_15 rfl ?_
      refine x_aload_n (pc := 16) dX1_soleGoers_16 rfl ?_
      refine x_getR (pc := 17) dX1_soleGoers_17 flX1_22 (by first | assumption | rfl) rfl ?_
      refine x_getI (pc := 20) dX1_soleGoers_20 flX1_86 (by first | assumption | rfl) rfl ?_
      rw [hR1.goers]
      first | (guard_target =~ Wp _ _ _ _ _ (Value.int (nI _) :: Value.int (nI _) :: _) _ _ _ _; with_reducible refine x_icmp_geN (pc := 23) (tgt := 64) ?_ ?_ dX1_soleGoers_23 ?_ (fun h23 => ?_) (fun h23 => ?_); (first | omega | exact b2n_31 _); (first | omega | exact b2n_31 _); decide) | refine x_icmp_ge (pc := 23) (tgt := 64) dX1_soleGoers_23 (by decide) (fun h23 => ?_) (fun h23 => ?_)
      · skip
        omega
      · skip
        refine x_aload_n (pc := 26) dX1_soleGoers_26 rfl ?_
        refine x_getR (pc := 27) dX1_soleGoers_27 flX1_12 (by first | assumption | rfl) rfl ?_
        refine x_iconstN (pc := 30) 1 dX1_soleGoers_30 ic_1 ?_
        refine x_iload_n (pc := 31) dX1_soleGoers_31 rfl ?_
        first | (guard_target =~ Wp _ _ _ _ _ (Value.int (nI _) :: Value.int (nI _) :: _) _ _ _ _; with_reducible refine x_ishlN (pc := 32) ?_ dX1_soleGoers_32 ?_; omega) | refine x_ishl (pc := 32) dX1_soleGoers_32 ?_
        refine x_iconst (pc := 33) dX1_soleGoers_33 ic_m1 ?_
        refine x_ixor (pc := 34) dX1_soleGoers_34 ?_
        rw [Nat.one_mul]
        refine x_putI (pc := 35) dX1_soleGoers_35 flX1_99 (by first | assumption | rfl) rfl rfl rfl ?_
        have hC2 := hC.putW (nI (2 ^ k) ^^^ (-1))
        have hN2 : NR 25 (xput M1 46 9 (nI (2 ^ k) ^^^ (-1))) N := hN1.out (lo := 46) (hi := 58) (xsame.put (by decide) (by decide)) (by decide)
        refine x_aload_n (pc := 38) dX1_soleGoers_38 rfl ?_
        refine x_getR (pc := 39) dX1_soleGoers_39 flX1_25 (by first | assumption | rfl) rfl ?_
        refine x_aload_n (pc := 42) dX1_soleGoers_42 rfl ?_
        refine x_getR (pc := 43) dX1_soleGoers_43 flX1_12 (by first | assumption | rfl) rfl ?_
        refine x_invV1 (pc := 46) dX1_soleGoers_46 mlX1_125 imX5_isAllSeenSo seX5_isAllSeenSo kX5_isAllSeenSo (by first | assumption | rfl) rfl (Nat.le_of_ble_eq_true rfl) (by decide) ?_
        refine sp_X5_isAllSeenSo nots25 hN2 car46 hC2 ?_
        refine x_cv rfl rfl ?_
        first | (guard_target =~ Wp _ _ _ _ _ (Value.int (nI _) :: _) _ _ _ _; with_reducible refine x_if_eqN (pc := 49) (tgt := 58) ?_ dX1_soleGoers_49 ?_ (fun h49 => ?_) (fun h49 => ?_); (first | omega | exact b2n_32 _ | exact b2n_31 _); decide) | refine x_if_eq (pc := 49) (tgt := 58) dX1_soleGoers_49 (by decide) (fun h49 => ?_) (fun h49 => ?_)
        · skip
          first | (guard_target =~ Wp _ _ _ _ (_ :: _ :: some (Value.int (nI _)) :: _) _ _ _ _ _; with_reducible refine x_iincN (pc := 58) 1 ic_1 dX1_soleGoers_58 ?_ xg_2 xs_2 ?_ ?_; decide; exact (x_hp rfl)) | refine x_iincC (pc := 58) ic_1 dX1_soleGoers_58 (by decide) rfl xs_2 (x_hp rfl) ?_
          refine x_goto (pc := 61) (tgt := 15) dX1_soleGoers_61 (by decide) ?_
          have z := ih (k + 1) _ _ (by omega) (hs.tr (xsame.put (by decide) (by decide))) hC2; rw [xset, if_neg (by rw [show seenOk N A (soleW k) = false from b2n_0 h49]; decide), Nat.or_zero] at z; exact z
        · skip
          refine x_iload_n (pc := 52) dX1_soleGoers_52 rfl ?_
          refine x_iconstN (pc := 53) 1 dX1_soleGoers_53 ic_1 ?_
          refine x_iload_n (pc := 54) dX1_soleGoers_54 rfl ?_
          first | (guard_target =~ Wp _ _ _ _ _ (Value.int (nI _) :: Value.int (nI _) :: _) _ _ _ _; with_reducible refine x_ishlN (pc := 55) ?_ dX1_soleGoers_55 ?_; omega) | refine x_ishl (pc := 55) dX1_soleGoers_55 ?_
          first | (guard_target =~ Wp _ _ _ _ _ (Value.int (nI _) :: Value.int (nI _) :: _) _ _ _ _; with_reducible refine x_iorN (pc := 56) dX1_soleGoers_56 ?_) | refine x_ior (pc := 56) dX1_soleGoers_56 ?_
          refine x_istore_n (pc := 57) dX1_soleGoers_57 (by decide) xs_1 (x_hp rfl) ?_
          first | (guard_target =~ Wp _ _ _ _ (_ :: _ :: some (Value.int (nI _)) :: _) _ _ _ _ _; with_reducible refine x_iincN (pc := 58) 1 ic_1 dX1_soleGoers_58 ?_ xg_2 xs_2 ?_ ?_; decide; exact (x_hp rfl)) | refine x_iincC (pc := 58) ic_1 dX1_soleGoers_58 (by decide) rfl xs_2 (x_hp rfl) ?_
          refine x_goto (pc := 61) (tgt := 15) dX1_soleGoers_61 (by decide) ?_
          have z := ih (k + 1) _ _ (by omega) (hs.tr (xsame.put (by decide) (by decide))) hC2; rw [xset, if_pos (show seenOk N A (soleW k) = true from b2n_1 h49)] at z; rw [Nat.one_mul]; exact z
  refine x_entry kX1_soleGoers (Nat.le_of_ble_eq_true rfl) ?_
  show Wp g _ mX1_soleGoers 0 [some (.ref 45), none, none] [] _ _ _ _
  refine x_iconstN (pc := 0) 0 dX1_soleGoers_0 ic_0 ?_
  refine x_istore_n (pc := 1) dX1_soleGoers_1 (by decide) xs_1 (x_hp rfl) ?_
  refine x_aload_n (pc := 2) dX1_soleGoers_2 rfl ?_
  refine x_getR (pc := 3) dX1_soleGoers_3 flX1_12 (by first | assumption | rfl) rfl ?_
  refine x_aload_n (pc := 6) dX1_soleGoers_6 rfl ?_
  refine x_getR (pc := 7) dX1_soleGoers_7 flX1_22 (by first | assumption | rfl) rfl ?_
  refine x_invV1 (pc := 10) dX1_soleGoers_10 mlX1_33 imX2_become seX2_become kX2_become (by first | assumption | rfl) rfl (Nat.le_of_ble_eq_true rfl) (by decide) ?_
  refine sp_X2_become (by decide) car46 car1 hR (fun M1 hs1 hR1 => ?_)
  refine x_cn rfl rfl ?_
  refine x_iconstN (pc := 13) 0 dX1_soleGoers_13 ic_0 ?_
  refine x_istore_n (pc := 14) dX1_soleGoers_14 (by decide) xs_2 (x_hp rfl) ?_
  exact loop (A 8 0) 0 M1 w (by omega) hs1 hR1
def outW (A : XA) (w : Int32) (c n : Nat) (k : Nat) : Bool := decide (A 13 0 ≤ A 0 c + gainA A (w ||| nI (2 ^ k)) c n)
theorem sp_X1_goersWithoutWhomBald {c : Nat} (hc : c < 16) (hn : n ≤ 60) (hs : Std A) (hR : CR 1 M A w r) (h : ∀ M', xsame 46 58 M M' → K (some (.int (nI (xsum (fun k => b2n (outW A w c n k)) (A 8 0))))) xSF M') : Ex g (d + 4) yX1_goersWithoutWhomBald mX1_goersWithoutWhomBald [.ref 45, .int (nI c), .int (nI n)] xSF M K := by
  have hg6 := hR.goersB
  have hbb := hR.baldB
  have hw := hs.1 c hc
  have loop : ∀ m k M1 w1, k + m = A 8 0 → xsame 46 58 M M1 → CR 46 M1 A w1 r → Wp g (d + 4) mX1_goersWithoutWhomBald 16 [some (.ref 45), some (.int (nI c)), some (.int (nI n)), some (.int (nI (xsum (fun k => b2n (outW A w c n k)) k))), some (.int (nI k))] [] xSF (0, 0) M1 K := by
    intro m
    induction m with
    | zero =>
      intro k M1 w1 hk hs hC
      have hR1 := hR.out hs (by decide)
      obtain rfl : k = A 8 0 := by omega
      refine x_iload (pc := 16) dX1_goersWithoutWhomBald_16 rfl ?_
      refine x_aload_n (pc := 18) dX1_goersWithoutWhomBald_18 rfl ?_
      refine x_getR (pc := 19) dX1_goersWithoutWhomBald_19 flX1_22 (by first | assumption | rfl) rfl ?_
      refine x_getI (pc := 22) dX1_goersWithoutWhomBald_22 flX1_86 (by first | assumption | rfl) rfl ?_
      rw [hR1.goers]
      first | (guard_target =~ Wp _ _ _ _ _ (Value.int (nI _) :: Value.int (nI _) :: _) _ _ _ _; with_reducible refine x_icmp_geN (pc := 25) (tgt := 85) ?_ ?_ dX1_goersWithoutWhomBald_25 ?_ (fun h25 => ?_) (fun h25 => ?_); (first | omega | exact b2n_31 _); (first | omega | exact b2n_31 _); decide) | refine x_icmp_ge (pc := 25) (tgt := 85) dX1_goersWithoutWhomBald_25 (by decide) (fun h25 => ?_) (fun h25 => ?_)
      · skip
        refine x_iload_n (pc := 85) dX1_goersWithoutWhomBald_85 rfl ?_
        refine x_ret (pc := 86) (v := some _) rfl trivial dX1_goersWithoutWhomBald_86 (by decide) ?_
        exact h M1 hs
      · skip
        omega
    | succ m ih =>
      intro k M1 w1 hk hs hC
      have hR1 := hR.out hs (by decide)
      have hC2 := hC.putW (w ||| nI (2 ^ k))
      have hgb := gainA_le (days := n) hC2 hc
      refine x_iload (pc := 16) dX1_goersWithoutWhomBald_16 rfl ?_
      refine x_aload_n (pc := 18) dX1_goersWithoutWhomBald_18 rfl ?_
      refine x_getR (pc := 19) dX1_goersWithoutWhomBald_19 flX1_22 (by first | assumption | rfl) rfl ?_
      refine x_getI (pc := 22) dX1_goersWithoutWhomBald_22 flX1_86 (by first | assumption | rfl) rfl ?_
      rw [hR1.goers]
      first | (guard_target =~ Wp _ _ _ _ _ (Value.int (nI _) :: Value.int (nI _) :: _) _ _ _ _; with_reducible refine x_icmp_geN (pc := 25) (tgt := 85) ?_ ?_ dX1_goersWithoutWhomBald_25 ?_ (fun h25 => ?_) (fun h25 => ?_); (first | omega | exact b2n_31 _); (first | omega | exact b2n_31 _); decide) | refine x_icmp_ge (pc := 25) (tgt := 85) dX1_goersWithoutWhomBald_25 (by decide) (fun h25 => ?_) (fun h25 => ?_)
      · skip
        omega
      · skip
        refine x_aload_n (pc := 28) dX1_goersWithoutWhomBald_28 rfl ?_
        refine x_getR (pc := 29) dX1_goersWithoutWhomBald_29 flX1_12 (by first | assumption | rfl) rfl ?_
        refine x_aload_n (pc := 32) dX1_goersWithoutWhomBald_32 rfl ?_
        refine x_getR (pc := 33) dX1_goersWithoutWhomBald_33 flX1_22 (by first | assumption | rfl) rfl ?_
        refine x_getI (pc := 36) dX1_goersWithoutWhomBald_36 flX1_99 (by first | assumption | rfl) rfl ?_
        rw [hR1.away]
        refine x_iconstN (pc := 39) 1 dX1_goersWithoutWhomBald_39 ic_1 ?_
        refine x_iload (pc := 40) dX1_goersWithoutWhomBald_40 rfl ?_
        first | (guard_target =~ Wp _ _ _ _ _ (Value.int (nI _) :: Value.int (nI _) :: _) _ _ _ _; with_reducible refine x_ishlN (pc := 42) ?_ dX1_goersWithoutWhomBald_42 ?_; omega) | refine x_ishl (pc := 42) dX1_goersWithoutWhomBald_42 ?_
        rw [Nat.one_mul]
        refine x_ior (pc := 43) dX1_goersWithoutWhomBald_43 ?_
        refine x_putI (pc := 44) dX1_goersWithoutWhomBald_44 flX1_99 (by first | assumption | rfl) rfl rfl rfl ?_
        refine x_aload_n (pc := 47) dX1_goersWithoutWhomBald_47 rfl ?_
        refine x_getR (pc := 48) dX1_goersWithoutWhomBald_48 flX1_12 (by first | assumption | rfl) rfl ?_
        refine x_getR (pc := 51) dX1_goersWithoutWhomBald_51 flX1_57 (by first | assumption | rfl) rfl ?_
        refine x_iload_n (pc := 54) dX1_goersWithoutWhomBald_54 rfl ?_
        refine x_ialdN (pc := 55) dX1_goersWithoutWhomBald_55 (by first | assumption | rfl) (by first | with_reducible rfl | (simp only [xlit, nI_add, pk_mul]; with_reducible rfl)) (by omega) (by decide) ?_
        rw [hC2.wear hc]
        refine x_aload_n (pc := 56) dX1_goersWithoutWhomBald_56 rfl ?_
        refine x_getR (pc := 57) dX1_goersWithoutWhomBald_57 flX1_12 (by first | assumption | rfl) rfl ?_
        refine x_iload_n (pc := 60) dX1_goersWithoutWhomBald_60 rfl ?_
        refine x_iload_n (pc := 61) dX1_goersWithoutWhomBald_61 rfl ?_
        refine x_invV2 (pc := 62) dX1_goersWithoutWhomBald_62 mlX1_66 imX2_gain seX2_gain kX2_gain (by first | assumption | rfl) rfl (Nat.le_of_ble_eq_true rfl) (by decide) ?_
        refine sp_X2_gain hc (by omega) car46 hC2 ?_
        refine x_cv rfl rfl ?_
        first | (guard_target =~ Wp _ _ _ _ _ (Value.int (nI _) :: Value.int (nI _) :: _) _ _ _ _; with_reducible refine x_iaddN (pc := 65) dX1_goersWithoutWhomBald_65 ?_) | refine x_iadd (pc := 65) dX1_goersWithoutWhomBald_65 ?_
        refine x_aload_n (pc := 66) dX1_goersWithoutWhomBald_66 rfl ?_
        refine x_getR (pc := 67) dX1_goersWithoutWhomBald_67 flX1_22 (by first | assumption | rfl) rfl ?_
        refine x_getI (pc := 70) dX1_goersWithoutWhomBald_70 flX1_70 (by first | assumption | rfl) rfl ?_
        rw [(hR.out (hs.tr (xsame.put (by decide) (by decide))) (by decide)).bald]
        first | (guard_target =~ Wp _ _ _ _ _ (Value.int (nI _) :: Value.int (nI _) :: _) _ _ _ _; with_reducible refine x_icmp_ltN (pc := 73) (tgt := 79) ?_ ?_ dX1_goersWithoutWhomBald_73 ?_ (fun h73 => ?_) (fun h73 => ?_); (first | omega | exact b2n_31 _); (first | omega | exact b2n_31 _); decide) | refine x_icmp_lt (pc := 73) (tgt := 79) dX1_goersWithoutWhomBald_73 (by decide) (fun h73 => ?_) (fun h73 => ?_)
        · skip
          first | (guard_target =~ Wp _ _ _ _ (_ :: _ :: _ :: _ :: some (Value.int (nI _)) :: _) _ _ _ _ _; with_reducible refine x_iincN (pc := 79) 1 ic_1 dX1_goersWithoutWhomBald_79 ?_ xg_4 xs_4 ?_ ?_; decide; exact (x_hp rfl)) | refine x_iincC (pc := 79) ic_1 dX1_goersWithoutWhomBald_79 (by decide) rfl xs_4 (x_hp rfl) ?_
          refine x_goto (pc := 82) (tgt := 16) dX1_goersWithoutWhomBald_82 (by decide) ?_
          have z := ih (k + 1) _ _ (by omega) (hs.tr (xsame.put (by decide) (by decide))) hC2; rw [xsum, show outW A w c n k = false from decide_eq_false (by omega)] at z; exact z
        · skip
          first | (guard_target =~ Wp _ _ _ _ (_ :: _ :: _ :: some (Value.int (nI _)) :: _) _ _ _ _ _; with_reducible refine x_iincN (pc := 76) 1 ic_1 dX1_goersWithoutWhomBald_76 ?_ xg_3 xs_3 ?_ ?_; decide; exact (x_hp rfl)) | refine x_iincC (pc := 76) ic_1 dX1_goersWithoutWhomBald_76 (by decide) rfl xs_3 (x_hp rfl) ?_
          first | (guard_target =~ Wp _ _ _ _ (_ :: _ :: _ :: _ :: some (Value.int (nI _)) :: _) _ _ _ _ _; with_reducible refine x_iincN (pc := 79) 1 ic_1 dX1_goersWithoutWhomBald_79 ?_ xg_4 xs_4 ?_ ?_; decide; exact (x_hp rfl)) | refine x_iincC (pc := 79) ic_1 dX1_goersWithoutWhomBald_79 (by decide) rfl xs_4 (x_hp rfl) ?_
          refine x_goto (pc := 82) (tgt := 16) dX1_goersWithoutWhomBald_82 (by decide) ?_
          have z := ih (k + 1) _ _ (by omega) (hs.tr (xsame.put (by decide) (by decide))) hC2; rw [xsum, show outW A w c n k = true from decide_eq_true (by omega)] at z; exact z
  refine x_entry kX1_goersWithoutWhomBald (Nat.le_of_ble_eq_true rfl) ?_
  show Wp g _ mX1_goersWithoutWhomBald 0 [some (.ref 45), some (.int (nI c)), some (.int (nI n)), none, none] [] _ _ _ _
  refine x_iconstN (pc := 0) 0 dX1_goersWithoutWhomBald_0 ic_0 ?_
  refine x_istore_n (pc := 1) dX1_goersWithoutWhomBald_1 (by decide) xs_3 (x_hp rfl) ?_
  refine x_aload_n (pc := 2) dX1_goersWithoutWhomBald_2 rfl ?_
  refine x_getR (pc := 3) dX1_goersWithoutWhomBald_3 flX1_12 (by first | assumption | rfl) rfl ?_
  refine x_aload_n (pc := 6) dX1_goersWithoutWhomBald_6 rfl ?_
  refine x_getR (pc := 7) dX1_goersWithoutWhomBald_7 flX1_22 (by first | assumption | rfl) rfl ?_
  refine x_invV1 (pc := 10) dX1_goersWithoutWhomBald_10 mlX1_33 imX2_become seX2_become kX2_become (by first | assumption | rfl) rfl (Nat.le_of_ble_eq_true rfl) (by decide) ?_
  refine sp_X2_become (by decide) car46 car1 hR (fun M1 hs1 hR1 => ?_)
  refine x_cn rfl rfl ?_
  refine x_iconstN (pc := 13) 0 dX1_goersWithoutWhomBald_13 ic_0 ?_
  refine x_istore (pc := 14) dX1_goersWithoutWhomBald_14 (by decide) xs_4 (x_hp rfl) ?_
  exact loop (A 8 0) 0 M1 w (by omega) hs1 hR1
theorem sp_X1_startsOf (hg : gg < 6) (hR : CR 1 M A w r) (hN : NR 25 M N) (h : ∀ M', xsame 46 58 M M' → K (some (.int (nI (xset (fun c => seenOk N (stA A gg c) w) 16)))) xSF M') : Ex g (d + 5) yX1_startsOf mX1_startsOf [.ref 45, .int (nI gg)] xSF M K := by
  have loop : ∀ m k M1 B, k + m = 16 → xsame 46 58 M M1 → CR 46 M1 B w r → (∀ c, stA B gg c = stA A gg c) → Wp g (d + 5) mX1_startsOf 15 [some (.ref 45), some (.int (nI gg)), some (.int (nI (xset (fun c => seenOk N (stA A gg c) w) k))), some (.int (nI k))] [] xSF (0, 0) M1 K := by
    intro m
    induction m with
    | zero =>
      intro k M1 B hk hs hC hB
      obtain rfl : k = 16 := by omega
      refine x_iload_n (pc := 15) dX1_startsOf_15 rfl ?_
      refine x_bipushN (pc := 16) 16 dX1_startsOf_16 bp_16 ?_
      first | (guard_target =~ Wp _ _ _ _ _ (Value.int (nI _) :: Value.int (nI _) :: _) _ _ _ _; with_reducible refine x_icmp_geN (pc := 18) (tgt := 65) ?_ ?_ dX1_startsOf_18 ?_ (fun h18 => ?_) (fun h18 => ?_); (first | omega | exact b2n_31 _); (first | omega | exact b2n_31 _); decide) | refine x_icmp_ge (pc := 18) (tgt := 65) dX1_startsOf_18 (by decide) (fun h18 => ?_) (fun h18 => ?_)
      · skip
        refine x_iload_n (pc := 65) dX1_startsOf_65 rfl ?_
        refine x_ret (pc := 66) (v := some _) rfl trivial dX1_startsOf_66 (by decide) ?_
        exact h M1 hs
      · skip
        omega
    | succ m ih =>
      intro k M1 B hk hs hC hB
      have hN1 := hN.out hs (by decide)
      have hC2 := hC.put 3 (by decide) gg (v := k) (by show k < 16; omega)
      have hst : ∀ c, stA (stA A gg k) gg c = stA A gg c := by
        intro c
        have e1 : wayL (updA (stA A gg k) 3 gg c) gg = wayL (updA A 3 gg c) gg := wayL_cong (by simp [stA, updA]) (by simp [updA]) (by simp [stA, updA]) (by simp [stA, updA])
        funext k' j'
        unfold stA at e1 ⊢
        simp only at e1 ⊢
        simp only [e1]
        simp only [updA]
        by_cases h6 : k' = 6 ∧ j' = gg
        · rw [if_pos h6, if_pos h6]
        · rw [if_neg h6, if_neg h6]
          by_cases h3 : k' = 3 ∧ j' = gg
          · rw [if_pos h3, if_neg h6, if_pos h3]
          · rw [if_neg h3, if_neg h6, if_neg h3, if_neg h3]
      refine x_iload_n (pc := 15) dX1_startsOf_15 rfl ?_
      refine x_bipushN (pc := 16) 16 dX1_startsOf_16 bp_16 ?_
      first | (guard_target =~ Wp _ _ _ _ _ (Value.int (nI _) :: Value.int (nI _) :: _) _ _ _ _; with_reducible refine x_icmp_geN (pc := 18) (tgt := 65) ?_ ?_ dX1_startsOf_18 ?_ (fun h18 => ?_) (fun h18 => ?_); (first | omega | exact b2n_31 _); (first | omega | exact b2n_31 _); decide) | refine x_icmp_ge (pc := 18) (tgt := 65) dX1_startsOf_18 (by decide) (fun h18 => ?_) (fun h18 => ?_)
      · skip
        omega
      · skip
        refine x_aload_n (pc := 21) dX1_startsOf_21 rfl ?_
        refine x_getR (pc := 22) dX1_startsOf_22 flX1_12 (by first | assumption | rfl) rfl ?_
        refine x_getR (pc := 25) dX1_startsOf_25 flX1_112 (by first | assumption | rfl) rfl ?_
        refine x_iload_n (pc := 28) dX1_startsOf_28 rfl ?_
        refine x_iload_n (pc := 29) dX1_startsOf_29 rfl ?_
        refine x_iastN (pc := 30) dX1_startsOf_30 (by first | assumption | rfl) (by first | with_reducible rfl | (simp only [xlit, nI_add, pk_mul]; with_reducible rfl)) (by omega) (by decide) ?_
        refine x_aload_n (pc := 31) dX1_startsOf_31 rfl ?_
        refine x_getR (pc := 32) dX1_startsOf_32 flX1_12 (by first | assumption | rfl) rfl ?_
        refine x_iload_n (pc := 35) dX1_startsOf_35 rfl ?_
        refine x_invV1 (pc := 36) dX1_startsOf_36 mlX1_122 imX2_findWay seX2_findWay kX2_findWay (by first | assumption | rfl) rfl (Nat.le_of_ble_eq_true rfl) (by decide) ?_
        refine sp_X2_findWay hg car46 hC2 (fun M2 hs2 hC3 => ?_)
        refine x_cn rfl rfl ?_
        have hs3 := (hs.tr (xsame.put (M := M1) (a := 46 + 1 + 3) (k := gg) (x := nI k) (by decide) (by decide))).tr hs2
        rw [show updA (updA B 3 gg k) 6 gg (wbits (wayL (updA B 3 gg k) gg)) = stA A gg k from hB k] at hC3
        refine x_aload_n (pc := 39) dX1_startsOf_39 rfl ?_
        refine x_getR (pc := 40) dX1_startsOf_40 flX1_25 (by first | assumption | rfl) rfl ?_
        refine x_aload_n (pc := 43) dX1_startsOf_43 rfl ?_
        refine x_getR (pc := 44) dX1_startsOf_44 flX1_12 (by first | assumption | rfl) rfl ?_
        refine x_invV1 (pc := 47) dX1_startsOf_47 mlX1_125 imX5_isAllSeenSo seX5_isAllSeenSo kX5_isAllSeenSo (by first | assumption | rfl) rfl (Nat.le_of_ble_eq_true rfl) (by decide) ?_
        refine sp_X5_isAllSeenSo nots25 (hN.out hs3 (by decide)) car46 hC3 ?_
        refine x_cv rfl rfl ?_
        first | (guard_target =~ Wp _ _ _ _ _ (Value.int (nI _) :: _) _ _ _ _; with_reducible refine x_if_eqN (pc := 50) (tgt := 59) ?_ dX1_startsOf_50 ?_ (fun h50 => ?_) (fun h50 => ?_); (first | omega | exact b2n_32 _ | exact b2n_31 _); decide) | refine x_if_eq (pc := 50) (tgt := 59) dX1_startsOf_50 (by decide) (fun h50 => ?_) (fun h50 => ?_)
        · skip
          first | (guard_target =~ Wp _ _ _ _ (_ :: _ :: _ :: some (Value.int (nI _)) :: _) _ _ _ _ _; with_reducible refine x_iincN (pc := 59) 1 ic_1 dX1_startsOf_59 ?_ xg_3 xs_3 ?_ ?_; decide; exact (x_hp rfl)) | refine x_iincC (pc := 59) ic_1 dX1_startsOf_59 (by decide) rfl xs_3 (x_hp rfl) ?_
          refine x_goto (pc := 62) (tgt := 15) dX1_startsOf_62 (by decide) ?_
          have z := ih (k + 1) _ _ (by omega) hs3 hC3 hst; rw [xset, if_neg (by rw [b2n_0 h50]; decide), Nat.or_zero] at z; exact z
        · skip
          refine x_iload_n (pc := 53) dX1_startsOf_53 rfl ?_
          refine x_iconstN (pc := 54) 1 dX1_startsOf_54 ic_1 ?_
          refine x_iload_n (pc := 55) dX1_startsOf_55 rfl ?_
          first | (guard_target =~ Wp _ _ _ _ _ (Value.int (nI _) :: Value.int (nI _) :: _) _ _ _ _; with_reducible refine x_ishlN (pc := 56) ?_ dX1_startsOf_56 ?_; omega) | refine x_ishl (pc := 56) dX1_startsOf_56 ?_
          first | (guard_target =~ Wp _ _ _ _ _ (Value.int (nI _) :: Value.int (nI _) :: _) _ _ _ _; with_reducible refine x_iorN (pc := 57) dX1_startsOf_57 ?_) | refine x_ior (pc := 57) dX1_startsOf_57 ?_
          refine x_istore_n (pc := 58) dX1_startsOf_58 (by decide) xs_2 (x_hp rfl) ?_
          first | (guard_target =~ Wp _ _ _ _ (_ :: _ :: _ :: some (Value.int (nI _)) :: _) _ _ _ _ _; with_reducible refine x_iincN (pc := 59) 1 ic_1 dX1_startsOf_59 ?_ xg_3 xs_3 ?_ ?_; decide; exact (x_hp rfl)) | refine x_iincC (pc := 59) ic_1 dX1_startsOf_59 (by decide) rfl xs_3 (x_hp rfl) ?_
          refine x_goto (pc := 62) (tgt := 15) dX1_startsOf_62 (by decide) ?_
          have z := ih (k + 1) _ _ (by omega) hs3 hC3 hst; rw [xset, if_pos (b2n_1 h50)] at z; rw [Nat.one_mul]; exact z
  refine x_entry kX1_startsOf (Nat.le_of_ble_eq_true rfl) ?_
  show Wp g _ mX1_startsOf 0 [some (.ref 45), some (.int (nI gg)), none, none] [] _ _ _ _
  refine x_iconstN (pc := 0) 0 dX1_startsOf_0 ic_0 ?_
  refine x_istore_n (pc := 1) dX1_startsOf_1 (by decide) xs_2 (x_hp rfl) ?_
  refine x_aload_n (pc := 2) dX1_startsOf_2 rfl ?_
  refine x_getR (pc := 3) dX1_startsOf_3 flX1_12 (by first | assumption | rfl) rfl ?_
  refine x_aload_n (pc := 6) dX1_startsOf_6 rfl ?_
  refine x_getR (pc := 7) dX1_startsOf_7 flX1_22 (by first | assumption | rfl) rfl ?_
  refine x_invV1 (pc := 10) dX1_startsOf_10 mlX1_33 imX2_become seX2_become kX2_become (by first | assumption | rfl) rfl (Nat.le_of_ble_eq_true rfl) (by decide) ?_
  refine sp_X2_become (by decide) car46 car1 hR (fun M1 hs1 hR1 => ?_)
  refine x_cn rfl rfl ?_
  refine x_iconstN (pc := 13) 0 dX1_startsOf_13 ic_0 ?_
  refine x_istore_n (pc := 14) dX1_startsOf_14 (by decide) xs_3 (x_hp rfl) ?_
  exact loop 16 0 M1 A rfl hs1 hR1 (fun c => rfl)
/-- what the asking changes: the trial carpet and what a reading lays -/
def asame (M M' : XM) : Prop := (∀ a, (a < 41 ∨ 58 ≤ a ∨ a = 42 ∨ a = 43 ∨ a = 45) → M'.1 a = M.1 a) ∧ M'.1 41 2 = M.1 41 2 ∧ M'.2 = M.2
theorem asame.tr {M M1 M2 : XM} (h : asame M M1) (h2 : asame M1 M2) : asame M M2 := ⟨fun a k => (h2.1 a k).trans (h.1 a k), h2.2.1.trans h.2.1, h2.2.2.trans h.2.2⟩
theorem asame.of {M M' : XM} (h : xsame 46 58 M M') : asame M M' := ⟨fun a k => h.1 a (by omega), by rw [h.1 41 (by decide)], h.2⟩
theorem asame.rd {M M' : XM} (h : rsm M M') : asame M M' := ⟨fun a k => h.1 a (by omega) (by omega), h.2.1, h.2.2⟩
theorem CR.asm {M M' : XM} {A : XA} {w r : Int32} (h : CR 1 M A w r) (hs : asame M M') : CR 1 M' A w r := h.out (lo := 41) (hi := 58) ⟨fun q hq => hs.1 q (by omega), hs.2.2⟩ (by decide)
theorem NR.asm {M M' : XM} {N : XA} (h : NR 25 M N) (hs : asame M M') : NR 25 M' N := h.out (lo := 41) (hi := 58) ⟨fun q hq => hs.1 q (by omega), hs.2.2⟩ (by decide)
theorem RmS.asm {M M' : XM} (h : RmS M tx ln made) (hs : asame M M') : RmS M' tx ln made := by
  obtain ⟨h1, h2, h3⟩ := h
  exact ⟨hs.2.1.trans h1, h2, fun r hr => by rw [hs.1 43 (by omega), hs.1 42 (by omega)]; exact h3 r hr⟩
theorem fitA_fit {B : XA} {v c : Nat} (hB : ∀ c, fitA B L gg c = fitA A L gg c) (h1 : B 1 gg = A 1 gg) : fitA (fitA B L gg v) L gg c = fitA A L gg c := by
  rw [← hB c]
  funext k j
  unfold fitA yldA updA
  by_cases h7 : k = 7 ∧ 16 * gg ≤ j ∧ j < 16 * gg + 16
  · rw [if_pos h7, if_pos h7]
    simp
  · rw [if_neg h7, if_neg h7]
    by_cases h2 : k = 2 ∧ j = gg
    · rw [if_pos h2, if_pos h2]
    · rw [if_neg h2, if_neg h2]
      show (if k = 7 ∧ 16 * gg ≤ j ∧ j < 16 * gg + 16 then _ else if k = 2 ∧ j = gg then v else B k j) = B k j
      rw [if_neg h7, if_neg h2]
theorem sp_X1_fittingNumbers (hg : gg < 6) (hR : CR 1 M A w r) (hN : NR 25 M N) (hm : RmS M tx ln made) (hL : RmL tx ln made r L) (h : ∀ M', asame M M' → K (some (.int (nI (xset (fun v => seenOk N (fitA A L gg v) w) 10)))) xSF M') : Ex g (d + 18) yX1_fittingNumbers mX1_fittingNumbers [.ref 45, .int (nI gg)] xSF M K := by
  have hkd := hR.kindB hg
  have loop : ∀ m k M1 B, k + m = 10 → asame M M1 → CR 46 M1 B w r → (∀ c, fitA B L gg c = fitA A L gg c) → B 1 gg = A 1 gg → Wp g (d + 18) mX1_fittingNumbers 15 [some (.ref 45), some (.int (nI gg)), some (.int (nI (xset (fun v => seenOk N (fitA A L gg v) w) k))), some (.int (nI k))] [] xSF (0, 0) M1 K := by
    intro m
    induction m with
    | zero =>
      intro k M1 B hk hs hC hB hB1
      obtain rfl : k = 10 := by omega
      refine x_iload_n (pc := 15) dX1_fittingNumbers_15 rfl ?_
      refine x_bipushN (pc := 16) 9 dX1_fittingNumbers_16 bp_9 ?_
      first | (guard_target =~ Wp _ _ _ _ _ (Value.int (nI _) :: Value.int (nI _) :: _) _ _ _ _; with_reducible refine x_icmp_gtN (pc := 18) (tgt := 97) ?_ ?_ dX1_fittingNumbers_18 ?_ (fun h18 => ?_) (fun h18 => ?_); (first | omega | exact b2n_31 _); (first | omega | exact b2n_31 _); decide) | refine x_icmp_gt (pc := 18) (tgt := 97) dX1_fittingNumbers_18 (by decide) (fun h18 => ?_) (fun h18 => ?_)
      · skip
        refine x_iload_n (pc := 97) dX1_fittingNumbers_97 rfl ?_
        refine x_ret (pc := 98) (v := some _) rfl trivial dX1_fittingNumbers_98 (by decide) ?_
        exact h M1 hs
      · skip
        omega
    | succ m ih =>
      intro k M1 B hk hs hC hB hB1
      have hR1 := hR.asm hs
      have hC2 := hC.put 2 (by decide) gg (v := k) (by show k < 10; omega)
      have hs1 : asame M (xput M1 (46 + 1 + 2) gg (nI k)) := hs.tr (asame.of (xsame.put (by decide) (by decide)))
      have hR2 := hR.asm hs1
      have hm2 := hm.asm hs1
      have hxs := xset_lt (p := fun v => seenOk N (fitA A L gg v) w) (n := k)
      refine x_iload_n (pc := 15) dX1_fittingNumbers_15 rfl ?_
      refine x_bipushN (pc := 16) 9 dX1_fittingNumbers_16 bp_9 ?_
      first | (guard_target =~ Wp _ _ _ _ _ (Value.int (nI _) :: Value.int (nI _) :: _) _ _ _ _; with_reducible refine x_icmp_gtN (pc := 18) (tgt := 97) ?_ ?_ dX1_fittingNumbers_18 ?_ (fun h18 => ?_) (fun h18 => ?_); (first | omega | exact b2n_31 _); (first | omega | exact b2n_31 _); decide) | refine x_icmp_gt (pc := 18) (tgt := 97) dX1_fittingNumbers_18 (by decide) (fun h18 => ?_) (fun h18 => ?_)
      · skip
        omega
      · skip
        refine x_aload_n (pc := 21) dX1_fittingNumbers_21 rfl ?_
        refine x_getR (pc := 22) dX1_fittingNumbers_22 flX1_12 (by first | assumption | rfl) rfl ?_
        refine x_getR (pc := 25) dX1_fittingNumbers_25 flX1_129 (by first | assumption | rfl) rfl ?_
        refine x_iload_n (pc := 28) dX1_fittingNumbers_28 rfl ?_
        refine x_iload_n (pc := 29) dX1_fittingNumbers_29 rfl ?_
        refine x_iastN (pc := 30) dX1_fittingNumbers_30 (by first | assumption | rfl) (by first | with_reducible rfl | (simp only [xlit, nI_add, pk_mul]; with_reducible rfl)) (by omega) (by decide) ?_
        refine x_aload_n (pc := 31) dX1_fittingNumbers_31 rfl ?_
        refine x_getR (pc := 32) dX1_fittingNumbers_32 flX1_29 (by first | assumption | rfl) rfl ?_
        refine x_aload_n (pc := 35) dX1_fittingNumbers_35 rfl ?_
        refine x_getR (pc := 36) dX1_fittingNumbers_36 flX1_22 (by first | assumption | rfl) rfl ?_
        refine x_getI (pc := 39) dX1_fittingNumbers_39 flX1_132 (by first | assumption | rfl) rfl ?_
        rw [show (xput M1 49 gg (nI k)).1 1 12 = r from hR2.room]
        refine x_iload_n (pc := 42) dX1_fittingNumbers_42 rfl ?_
        refine x_aload_n (pc := 43) dX1_fittingNumbers_43 rfl ?_
        refine x_getR (pc := 44) dX1_fittingNumbers_44 flX1_22 (by first | assumption | rfl) rfl ?_
        refine x_getR (pc := 47) dX1_fittingNumbers_47 flX1_135 (by first | assumption | rfl) rfl ?_
        refine x_iload_n (pc := 50) dX1_fittingNumbers_50 rfl ?_
        refine x_ialdN (pc := 51) dX1_fittingNumbers_51 (by first | assumption | rfl) (by first | with_reducible rfl | (simp only [xlit, nI_add, pk_mul]; with_reducible rfl)) (by omega) (by decide) ?_
        rw [show (xput M1 49 gg (nI k)).1 3 gg = nI (A 1 gg) from hR2.kind hg]
        refine x_iload_n (pc := 52) dX1_fittingNumbers_52 rfl ?_
        refine x_invV4 (pc := 53) dX1_fittingNumbers_53 mlX1_138 imX6_readFor seX6_readFor kX6_readFor (by first | assumption | rfl) rfl (Nat.le_of_ble_eq_true rfl) (by decide) ?_
        refine sp_X6_readForR (by omega) (by omega) (by omega) hm2 hL (fun M3 hs3 hO => ?_)
        refine x_cn rfl rfl ?_
        refine x_aload_n (pc := 56) dX1_fittingNumbers_56 rfl ?_
        refine x_getR (pc := 57) dX1_fittingNumbers_57 flX1_29 (by first | assumption | rfl) rfl ?_
        refine x_aload_n (pc := 60) dX1_fittingNumbers_60 rfl ?_
        refine x_getR (pc := 61) dX1_fittingNumbers_61 flX1_12 (by first | assumption | rfl) rfl ?_
        refine x_getR (pc := 64) dX1_fittingNumbers_64 flX1_144 (by first | assumption | rfl) rfl ?_
        refine x_iload_n (pc := 67) dX1_fittingNumbers_67 rfl ?_
        refine x_invV2 (pc := 68) dX1_fittingNumbers_68 mlX1_147 imX6_copyYields seX6_copyYields kX6_copyYields (by first | assumption | rfl) rfl (Nat.le_of_ble_eq_true rfl) (by decide) ?_
        refine sp_X6_copyYields hg (Or.inr (by decide)) hL.1 hO car46 (hC2.out hs3.x (by decide)) (fun M4 hs4 hC4 => ?_)
        refine x_cn rfl rfl ?_
        have hs5 : asame M M4 := (hs1.tr (asame.rd hs3)).tr (asame.of hs4)
        rw [show yldA (updA B 2 gg k) gg (yvF (fG gg (A 1 gg) k) L) = fitA B L gg k by unfold fitA; rw [hB1], hB k] at hC4
        refine x_aload_n (pc := 71) dX1_fittingNumbers_71 rfl ?_
        refine x_getR (pc := 72) dX1_fittingNumbers_72 flX1_25 (by first | assumption | rfl) rfl ?_
        refine x_aload_n (pc := 75) dX1_fittingNumbers_75 rfl ?_
        refine x_getR (pc := 76) dX1_fittingNumbers_76 flX1_12 (by first | assumption | rfl) rfl ?_
        refine x_invV1 (pc := 79) dX1_fittingNumbers_79 mlX1_125 imX5_isAllSeenSo seX5_isAllSeenSo kX5_isAllSeenSo (by first | assumption | rfl) rfl (Nat.le_of_ble_eq_true rfl) (by decide) ?_
        refine sp_X5_isAllSeenSo nots25 (hN.asm hs5) car46 hC4 ?_
        refine x_cv rfl rfl ?_
        first | (guard_target =~ Wp _ _ _ _ _ (Value.int (nI _) :: _) _ _ _ _; with_reducible refine x_if_eqN (pc := 82) (tgt := 91) ?_ dX1_fittingNumbers_82 ?_ (fun h82 => ?_) (fun h82 => ?_); (first | omega | exact b2n_32 _ | exact b2n_31 _); decide) | refine x_if_eq (pc := 82) (tgt := 91) dX1_fittingNumbers_82 (by decide) (fun h82 => ?_) (fun h82 => ?_)
        · skip
          first | (guard_target =~ Wp _ _ _ _ (_ :: _ :: _ :: some (Value.int (nI _)) :: _) _ _ _ _ _; with_reducible refine x_iincN (pc := 91) 1 ic_1 dX1_fittingNumbers_91 ?_ xg_3 xs_3 ?_ ?_; decide; exact (x_hp rfl)) | refine x_iincC (pc := 91) ic_1 dX1_fittingNumbers_91 (by decide) rfl xs_3 (x_hp rfl) ?_
          refine x_goto (pc := 94) (tgt := 15) dX1_fittingNumbers_94 (by decide) ?_
          have z := ih (k + 1) M4 _ (by omega) hs5 hC4 (fun c => fitA_fit (fun c => rfl) rfl) rfl; rw [xset, if_neg (by rw [b2n_0 h82]; decide), Nat.or_zero] at z; exact z
        · skip
          refine x_iload_n (pc := 85) dX1_fittingNumbers_85 rfl ?_
          refine x_iconstN (pc := 86) 1 dX1_fittingNumbers_86 ic_1 ?_
          refine x_iload_n (pc := 87) dX1_fittingNumbers_87 rfl ?_
          first | (guard_target =~ Wp _ _ _ _ _ (Value.int (nI _) :: Value.int (nI _) :: _) _ _ _ _; with_reducible refine x_ishlN (pc := 88) ?_ dX1_fittingNumbers_88 ?_; omega) | refine x_ishl (pc := 88) dX1_fittingNumbers_88 ?_
          first | (guard_target =~ Wp _ _ _ _ _ (Value.int (nI _) :: Value.int (nI _) :: _) _ _ _ _; with_reducible refine x_iorN (pc := 89) dX1_fittingNumbers_89 ?_) | refine x_ior (pc := 89) dX1_fittingNumbers_89 ?_
          refine x_istore_n (pc := 90) dX1_fittingNumbers_90 (by decide) xs_2 (x_hp rfl) ?_
          first | (guard_target =~ Wp _ _ _ _ (_ :: _ :: _ :: some (Value.int (nI _)) :: _) _ _ _ _ _; with_reducible refine x_iincN (pc := 91) 1 ic_1 dX1_fittingNumbers_91 ?_ xg_3 xs_3 ?_ ?_; decide; exact (x_hp rfl)) | refine x_iincC (pc := 91) ic_1 dX1_fittingNumbers_91 (by decide) rfl xs_3 (x_hp rfl) ?_
          refine x_goto (pc := 94) (tgt := 15) dX1_fittingNumbers_94 (by decide) ?_
          have z := ih (k + 1) M4 _ (by omega) hs5 hC4 (fun c => fitA_fit (fun c => rfl) rfl) rfl; rw [xset, if_pos (b2n_1 h82)] at z; rw [Nat.one_mul]; exact z
  refine x_entry kX1_fittingNumbers (Nat.le_of_ble_eq_true rfl) ?_
  show Wp g _ mX1_fittingNumbers 0 [some (.ref 45), some (.int (nI gg)), none, none] [] _ _ _ _
  refine x_iconstN (pc := 0) 0 dX1_fittingNumbers_0 ic_0 ?_
  refine x_istore_n (pc := 1) dX1_fittingNumbers_1 (by decide) xs_2 (x_hp rfl) ?_
  refine x_aload_n (pc := 2) dX1_fittingNumbers_2 rfl ?_
  refine x_getR (pc := 3) dX1_fittingNumbers_3 flX1_12 (by first | assumption | rfl) rfl ?_
  refine x_aload_n (pc := 6) dX1_fittingNumbers_6 rfl ?_
  refine x_getR (pc := 7) dX1_fittingNumbers_7 flX1_22 (by first | assumption | rfl) rfl ?_
  refine x_invV1 (pc := 10) dX1_fittingNumbers_10 mlX1_33 imX2_become seX2_become kX2_become (by first | assumption | rfl) rfl (Nat.le_of_ble_eq_true rfl) (by decide) ?_
  refine sp_X2_become (by decide) car46 car1 hR (fun M1 hs1 hR1 => ?_)
  refine x_cn rfl rfl ?_
  refine x_iconstN (pc := 13) 0 dX1_fittingNumbers_13 ic_0 ?_
  refine x_istore_n (pc := 14) dX1_fittingNumbers_14 (by decide) xs_3 (x_hp rfl) ?_
  exact loop 10 0 M1 A rfl (asame.of hs1) hR1 (fun c => rfl) rfl
end P39
