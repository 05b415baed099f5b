/-! ROOMS of the program: factor; expression and factor together -/
theorem xset_not {P : Nat → Bool} : nI 65535 &&& (nI (xset P 16) ^^^ (-1)) = nI (xset (fun i => !P i) 16) := by
  apply Int32.toBitVec_inj.mp
  apply BitVec.eq_of_getLsbD_eq
  intro i hi
  show (BitVec.ofNat 32 65535 &&& (BitVec.ofNat 32 (xset P 16) ^^^ (-1 : Int32).toBitVec)).getLsbD i = (BitVec.ofNat 32 _).getLsbD i
  rw [BitVec.getLsbD_and, BitVec.getLsbD_xor, BitVec.getLsbD_ofNat, BitVec.getLsbD_ofNat, BitVec.getLsbD_ofNat, xset_tb, xset_tb]
  have e1 : ((-1 : Int32).toBitVec).getLsbD i = true := by
    have : ∀ i, i < 32 → ((-1 : Int32).toBitVec).getLsbD i = true := by decide
    exact this i hi
  have e2 : (65535 : Nat).testBit i = decide (i < 16) := by
    have : ∀ i, i < 32 → (65535 : Nat).testBit i = decide (i < 16) := by decide
    exact this i hi
  rw [e1, e2]
  simp only [hi, decide_true, Bool.true_and]
  cases decide (i < 16) <;> simp
section P32
variable {g : XG} {d : Nat} {S : XS} {M : XM} {K : Option Value → XS → XM → Prop} {b n p : Nat} {c f : Nat → Nat}
def mkT (f : Nat → Nat) (tu : Bool) (e : XP) : Nat := xset (fun i => tu ^^ e.2 (fctC f i)) 16
theorem mkT_neg {tu : Bool} {e : XP} : mkT f tu (e.1 ++ [0], fun f => !e.2 f) = mkT f (!tu) e := by
  unfold mkT
  congr 1
  funext i
  show (tu ^^ !(e.2 (fctC f i))) = (!tu ^^ e.2 (fctC f i))
  cases tu <;> simp
theorem facT {x1 x2 : Int32} {tu : Bool} {e : XP} {M : XM} (h : K (some (.int (nI (mkT f tu e)))) xSF M) : Wp g d mX6_factor 104 [some (.ref 41), some (.int x1), some (.int x2), some (.int (nI (b2n tu))), some (.int (nI (mkP f e)))] [] xSF (0, 0) M K := by
  refine x_iload_n (pc := 104) dX6_factor_104 rfl ?_
  first | (guard_target =~ Wp _ _ _ _ _ (Value.int (nI _) :: _) _ _ _ _; with_reducible refine x_if_eqN (pc := 105) (tgt := 118) ?_ dX6_factor_105 ?_ (fun h105 => ?_) (fun h105 => ?_); (first | omega | exact b2n_32 _ | exact b2n_31 _); decide) | refine x_if_eq (pc := 105) (tgt := 118) dX6_factor_105 (by decide) (fun h105 => ?_) (fun h105 => ?_)
  · skip
    refine x_iload (pc := 118) dX6_factor_118 rfl ?_
    refine x_ret (pc := 120) (v := some _) rfl trivial dX6_factor_120 (by decide) ?_
    obtain rfl := b2n_0 h105
    rw [show mkT f false e = mkP f e by simp [mkT, mkP]] at h; exact h
  · skip
    refine x_ldc (pc := 108) (v := nI 65535) dX6_factor_108 ckX6_93 ?_
    refine x_iload (pc := 110) dX6_factor_110 rfl ?_
    refine x_iconst (pc := 112) dX6_factor_112 ic_m1 ?_
    refine x_ixor (pc := 113) dX6_factor_113 ?_
    refine x_iand (pc := 114) dX6_factor_114 ?_
    rw [mkP, xset_not]
    refine x_goto (pc := 115) (tgt := 120) dX6_factor_115 (by decide) ?_
    refine x_ret (pc := 120) (v := some _) rfl trivial dX6_factor_120 (by decide) ?_
    obtain rfl := b2n_1 h105
    rw [show mkT f true e = xset (fun i => !e.2 (fctC f i)) 16 by simp [mkT]] at h; exact h
theorem facB {x1 x2 v : Int32} {tu : Bool} {M : XM} (h : ∀ v, K (some (.int v)) xSF M) : Wp g d mX6_factor 104 [some (.ref 41), some (.int x1), some (.int x2), some (.int (nI (b2n tu))), some (.int v)] [] xSF (0, 0) M K := by
  refine x_iload_n (pc := 104) dX6_factor_104 rfl ?_
  first | (guard_target =~ Wp _ _ _ _ _ (Value.int (nI _) :: _) _ _ _ _; with_reducible refine x_if_eqN (pc := 105) (tgt := 118) ?_ dX6_factor_105 ?_ (fun h105 => ?_) (fun h105 => ?_); (first | omega | exact b2n_32 _ | exact b2n_31 _); decide) | refine x_if_eq (pc := 105) (tgt := 118) dX6_factor_105 (by decide) (fun h105 => ?_) (fun h105 => ?_)
  · skip
    refine x_iload (pc := 118) dX6_factor_118 rfl ?_
    refine x_ret (pc := 120) (v := some _) rfl trivial dX6_factor_120 (by decide) ?_
    exact h _
  · skip
    refine x_ldc (pc := 108) (v := nI 65535) dX6_factor_108 ckX6_93 ?_
    refine x_iload (pc := 110) dX6_factor_110 rfl ?_
    refine x_iconst (pc := 112) dX6_factor_112 ic_m1 ?_
    refine x_ixor (pc := 113) dX6_factor_113 ?_
    refine x_iand (pc := 114) dX6_factor_114 ?_
    refine x_goto (pc := 115) (tgt := 120) dX6_factor_115 (by decide) ?_
    refine x_ret (pc := 120) (v := some _) rfl trivial dX6_factor_120 (by decide) ?_
    exact h _
theorem wrd4 {q : Nat} : wrdP c (wl 4) q = if c q = 42 then (true, q + 1) else (false, q) := rfl
theorem facF {k : Nat} (hk4 : k ≤ 4) (hf : ∀ k, f k < 100) (hR : RT M b n c f) (hE : ∀ j, j < k → expS g M n c f j) : facS g M n c f k := by
  intro D p K hD hp h0 h
  have hX := hR.2.2.2.1
  have hn100 := hX.1
  obtain ⟨d, rfl⟩ : ∃ d, D = d + 6 := ⟨D - 6, by omega⟩
  refine x_entry kX6_factor (Nat.le_of_ble_eq_true rfl) ?_
  show Wp g _ mX6_factor 0 [some (.ref 41), some (.int (nI (4 - k))), none, none, none] [] _ _ _ _
  have tst : ∀ p x1 x2 tu o4, p ≤ n → (∀ q, pT c p = (none, q) → ∀ v, K (some (.int v)) xSF (rM M q true)) → (∀ e q, pT c p = (some e, q) → K (some (.int (nI (mkT f tu e)))) xSF (rM M q false)) →
      Wp g (d + 6) mX6_factor 98 [some (.ref 41), some (.int x1), some (.int x2), some (.int (nI (b2n tu))), o4] [] xSF (0, 0) (rM M p false) K := by
    intro p x1 x2 tu o4 hp g0 g1
    rcases hr : pT c p with ⟨_ | e, q⟩
    · have fin := g0 q hr
      refine x_aload_n (pc := 98) dX6_factor_98 rfl ?_
      refine x_invV0 (pc := 99) dX6_factor_99 mlX6_99 imX6_test seX6_test kX6_test (by first | assumption | rfl) rfl (Nat.le_of_ble_eq_true rfl) (by decide) ?_
      refine sp_X6_test hf hR hp (fun q' hq v => ?_) (fun e q' hq => absurd (hr.symm.trans hq) (by simp)); obtain rfl : q = q' := by (have z2 := hr.symm.trans hq; simp only [Prod.mk.injEq, true_and] at z2; exact z2)
      refine x_cv rfl rfl ?_
      refine x_istore (pc := 102) dX6_factor_102 (by decide) xs_4 (x_hp rfl) ?_
      exact facB fin
    · have fin := g1 e q hr
      refine x_aload_n (pc := 98) dX6_factor_98 rfl ?_
      refine x_invV0 (pc := 99) dX6_factor_99 mlX6_99 imX6_test seX6_test kX6_test (by first | assumption | rfl) rfl (Nat.le_of_ble_eq_true rfl) (by decide) ?_
      refine sp_X6_test hf hR hp (fun q' hq => absurd (hr.symm.trans hq) (by simp)) (fun e' q' hq => ?_); obtain ⟨rfl, rfl⟩ : e = e' ∧ q = q' := by (have z2 := hr.symm.trans hq; simp only [Prod.mk.injEq, Option.some.injEq] at z2; exact z2)
      refine x_cv rfl rfl ?_
      refine x_istore (pc := 102) dX6_factor_102 (by decide) xs_4 (x_hp rfl) ?_
      exact facT fin
  have loop : ∀ f' kk p tu, f' + kk = k → p ≤ n → (∀ q, pF c f' p = (none, q) → ∀ v, K (some (.int v)) xSF (rM M q true)) → (∀ e q, pF c f' p = (some e, q) → K (some (.int (nI (mkT f tu e)))) xSF (rM M q false)) →
      Wp g (d + 6) mX6_factor 7 [some (.ref 41), some (.int (nI (4 - k))), some (.int (nI (4 - f'))), some (.int (nI (b2n tu))), some (.int (nI kk))] [] xSF (0, 0) (rM M p false) K := by
    intro f'
    induction f' with
    | zero =>
      intro kk p tu hkk hp g0 g1
      rw [pF] at g0 g1
      refine x_iload (pc := 7) dX6_factor_7 rfl ?_
      refine x_iconstN (pc := 9) 4 dX6_factor_9 ic_4 ?_
      first | (guard_target =~ Wp _ _ _ _ _ (Value.int (nI _) :: Value.int (nI _) :: _) _ _ _ _; with_reducible refine x_icmp_geN (pc := 10) (tgt := 56) ?_ ?_ dX6_factor_10 ?_ (fun h10 => ?_) (fun h10 => ?_); (first | omega | exact b2n_31 _); (first | omega | exact b2n_31 _); decide) | refine x_icmp_ge (pc := 10) (tgt := 56) dX6_factor_10 (by decide) (fun h10 => ?_) (fun h10 => ?_)
      · skip
        refine x_aload_n (pc := 56) dX6_factor_56 rfl ?_
        refine x_invV0 (pc := 57) dX6_factor_57 mlX6_64 imX6_sign seX6_sign kX6_sign (by first | assumption | rfl) rfl (Nat.le_of_ble_eq_true rfl) (by decide) ?_
        refine sp_X6_sign hR hp ?_
        refine x_cv rfl rfl ?_
        refine x_bipush (pc := 60) dX6_factor_60 bp_40 ?_
        first | (guard_target =~ Wp _ _ _ _ _ (Value.int (nI _) :: Value.int (nI _) :: _) _ _ _ _; with_reducible refine x_icmp_neN (pc := 62) (tgt := 98) ?_ ?_ dX6_factor_62 ?_ (fun h62 => ?_) (fun h62 => ?_); (first | omega | exact b2n_31 _); (first | omega | exact b2n_31 _); decide) | refine x_icmp_ne (pc := 62) (tgt := 98) dX6_factor_62 (by decide) (fun h62 => ?_) (fun h62 => ?_)
        · skip
          exact tst p _ _ tu _ hp g0 g1
        · skip
          refine x_iload_n (pc := 65) dX6_factor_65 rfl ?_
          refine x_iconstN (pc := 66) 4 dX6_factor_66 ic_4 ?_
          first | (guard_target =~ Wp _ _ _ _ _ (Value.int (nI _) :: Value.int (nI _) :: _) _ _ _ _; with_reducible refine x_icmp_geN (pc := 67) (tgt := 98) ?_ ?_ dX6_factor_67 ?_ (fun h67 => ?_) (fun h67 => ?_); (first | omega | exact b2n_31 _); (first | omega | exact b2n_31 _); decide) | refine x_icmp_ge (pc := 67) (tgt := 98) dX6_factor_67 (by decide) (fun h67 => ?_) (fun h67 => ?_)
          · skip
            exact tst p _ _ tu _ hp g0 g1
          · skip
            omega
      · skip
        refine x_iload_n (pc := 13) dX6_factor_13 rfl ?_
        refine x_iconstN (pc := 14) 4 dX6_factor_14 ic_4 ?_
        first | (guard_target =~ Wp _ _ _ _ _ (Value.int (nI _) :: Value.int (nI _) :: _) _ _ _ _; with_reducible refine x_icmp_geN (pc := 15) (tgt := 56) ?_ ?_ dX6_factor_15 ?_ (fun h15 => ?_) (fun h15 => ?_); (first | omega | exact b2n_31 _); (first | omega | exact b2n_31 _); decide) | refine x_icmp_ge (pc := 15) (tgt := 56) dX6_factor_15 (by decide) (fun h15 => ?_) (fun h15 => ?_)
        · skip
          refine x_aload_n (pc := 56) dX6_factor_56 rfl ?_
          refine x_invV0 (pc := 57) dX6_factor_57 mlX6_64 imX6_sign seX6_sign kX6_sign (by first | assumption | rfl) rfl (Nat.le_of_ble_eq_true rfl) (by decide) ?_
          refine sp_X6_sign hR hp ?_
          refine x_cv rfl rfl ?_
          refine x_bipush (pc := 60) dX6_factor_60 bp_40 ?_
          first | (guard_target =~ Wp _ _ _ _ _ (Value.int (nI _) :: Value.int (nI _) :: _) _ _ _ _; with_reducible refine x_icmp_neN (pc := 62) (tgt := 98) ?_ ?_ dX6_factor_62 ?_ (fun h62 => ?_) (fun h62 => ?_); (first | omega | exact b2n_31 _); (first | omega | exact b2n_31 _); decide) | refine x_icmp_ne (pc := 62) (tgt := 98) dX6_factor_62 (by decide) (fun h62 => ?_) (fun h62 => ?_)
          · skip
            exact tst p _ _ tu _ hp g0 g1
          · skip
            refine x_iload_n (pc := 65) dX6_factor_65 rfl ?_
            refine x_iconstN (pc := 66) 4 dX6_factor_66 ic_4 ?_
            first | (guard_target =~ Wp _ _ _ _ _ (Value.int (nI _) :: Value.int (nI _) :: _) _ _ _ _; with_reducible refine x_icmp_geN (pc := 67) (tgt := 98) ?_ ?_ dX6_factor_67 ?_ (fun h67 => ?_) (fun h67 => ?_); (first | omega | exact b2n_31 _); (first | omega | exact b2n_31 _); decide) | refine x_icmp_ge (pc := 67) (tgt := 98) dX6_factor_67 (by decide) (fun h67 => ?_) (fun h67 => ?_)
            · skip
              exact tst p _ _ tu _ hp g0 g1
            · skip
              omega
        · skip
          omega
    | succ f' ih =>
      intro kk p tu hkk hp g0 g1
      have e1 := srt_nI (hX.2 p).2 (k := 33) (by decide)
      have e2 := srt_nI (hX.2 p).2 (k := 40) (by decide)
      rw [pF] at g0 g1
      by_cases n1 : c p = 34
      · have n2 := hX.lt n1 (by decide)
        rw [if_pos n1] at g0 g1
        have nx : ∀ tu', tu' = !tu → Wp g (d + 6) mX6_factor 7 [some (.ref 41), some (.int (nI (4 - k))), some (.int (nI (4 - f'))), some (.int (nI (b2n tu'))), some (.int (nI (kk + 1)))] [] xSF (0, 0) (rM M (p + 1) false) K := by
          rintro tu' rfl
          refine ih (kk + 1) (p + 1) (!tu) (by omega) (by omega) (fun q hq => g0 q (by rw [hq]; rfl)) (fun e q hq => ?_)
          have z := g1 _ q (by rw [hq]; rfl)
          rw [mkT_neg] at z
          exact z
        have n3 : 4 - (f' + 1) + 1 = 4 - f' := by omega
        refine x_iload (pc := 7) dX6_factor_7 rfl ?_
        refine x_iconstN (pc := 9) 4 dX6_factor_9 ic_4 ?_
        first | (guard_target =~ Wp _ _ _ _ _ (Value.int (nI _) :: Value.int (nI _) :: _) _ _ _ _; with_reducible refine x_icmp_geN (pc := 10) (tgt := 56) ?_ ?_ dX6_factor_10 ?_ (fun h10 => ?_) (fun h10 => ?_); (first | omega | exact b2n_31 _); (first | omega | exact b2n_31 _); decide) | refine x_icmp_ge (pc := 10) (tgt := 56) dX6_factor_10 (by decide) (fun h10 => ?_) (fun h10 => ?_)
        · skip
          omega
        · skip
          refine x_iload_n (pc := 13) dX6_factor_13 rfl ?_
          refine x_iconstN (pc := 14) 4 dX6_factor_14 ic_4 ?_
          first | (guard_target =~ Wp _ _ _ _ _ (Value.int (nI _) :: Value.int (nI _) :: _) _ _ _ _; with_reducible refine x_icmp_geN (pc := 15) (tgt := 56) ?_ ?_ dX6_factor_15 ?_ (fun h15 => ?_) (fun h15 => ?_); (first | omega | exact b2n_31 _); (first | omega | exact b2n_31 _); decide) | refine x_icmp_ge (pc := 15) (tgt := 56) dX6_factor_15 (by decide) (fun h15 => ?_) (fun h15 => ?_)
          · skip
            omega
          · skip
            refine x_aload_n (pc := 18) dX6_factor_18 rfl ?_
            refine x_invV0 (pc := 19) dX6_factor_19 mlX6_64 imX6_sign seX6_sign kX6_sign (by first | assumption | rfl) rfl (Nat.le_of_ble_eq_true rfl) (by decide) ?_
            refine sp_X6_sign hR hp ?_
            refine x_cv rfl rfl ?_
            refine x_bipush (pc := 22) dX6_factor_22 bp_33 ?_
            first | (guard_target =~ Wp _ _ _ _ _ (Value.int (nI _) :: Value.int (nI _) :: _) _ _ _ _; with_reducible refine x_icmp_neN (pc := 24) (tgt := 56) ?_ ?_ dX6_factor_24 ?_ (fun h24 => ?_) (fun h24 => ?_); (first | omega | exact b2n_31 _); (first | omega | exact b2n_31 _); decide) | refine x_icmp_ne (pc := 24) (tgt := 56) dX6_factor_24 (by decide) (fun h24 => ?_) (fun h24 => ?_)
            · skip
              exact absurd (e1.mpr n1) h24
            · skip
              refine x_aload_n (pc := 27) dX6_factor_27 rfl ?_
              refine x_dup (pc := 28) dX6_factor_28 rfl ?_
              refine x_getI (pc := 29) dX6_factor_29 flX6_34 (by first | assumption | rfl) rfl ?_
              rw [rM_at]
              refine x_iconstN (pc := 32) 1 dX6_factor_32 ic_1 ?_
              first | (guard_target =~ Wp _ _ _ _ _ (Value.int (nI _) :: Value.int (nI _) :: _) _ _ _ _; with_reducible refine x_iaddN (pc := 33) dX6_factor_33 ?_) | refine x_iadd (pc := 33) dX6_factor_33 ?_
              refine x_putI (pc := 34) dX6_factor_34 flX6_34 (by first | assumption | rfl) rfl rfl rfl ?_
              rw [rM_put]
              first | (guard_target =~ Wp _ _ _ _ (_ :: _ :: some (Value.int (nI _)) :: _) _ _ _ _ _; with_reducible refine x_iincN (pc := 37) 1 ic_1 dX6_factor_37 ?_ xg_2 xs_2 ?_ ?_; decide; exact (x_hp rfl)) | refine x_iincC (pc := 37) ic_1 dX6_factor_37 (by decide) rfl xs_2 (x_hp rfl) ?_
              refine x_iload_n (pc := 40) dX6_factor_40 rfl ?_
              first | (guard_target =~ Wp _ _ _ _ _ (Value.int (nI _) :: _) _ _ _ _; with_reducible refine x_if_neN (pc := 41) (tgt := 48) ?_ dX6_factor_41 ?_ (fun h41 => ?_) (fun h41 => ?_); (first | omega | exact b2n_32 _ | exact b2n_31 _); decide) | refine x_if_ne (pc := 41) (tgt := 48) dX6_factor_41 (by decide) (fun h41 => ?_) (fun h41 => ?_)
              · skip
                refine x_iconstN (pc := 48) 0 dX6_factor_48 ic_0 ?_
                refine x_istore_n (pc := 49) dX6_factor_49 (by decide) xs_3 (x_hp rfl) ?_
                first | (guard_target =~ Wp _ _ _ _ (_ :: _ :: _ :: _ :: some (Value.int (nI _)) :: _) _ _ _ _ _; with_reducible refine x_iincN (pc := 50) 1 ic_1 dX6_factor_50 ?_ xg_4 xs_4 ?_ ?_; decide; exact (x_hp rfl)) | refine x_iincC (pc := 50) ic_1 dX6_factor_50 (by decide) rfl xs_4 (x_hp rfl) ?_
                refine x_goto (pc := 53) (tgt := 7) dX6_factor_53 (by decide) ?_
                rw [n3]; exact nx false (by have := b2n_1 h41; rw [this]; rfl)
              · skip
                refine x_iconstN (pc := 44) 1 dX6_factor_44 ic_1 ?_
                refine x_goto (pc := 45) (tgt := 49) dX6_factor_45 (by decide) ?_
                refine x_istore_n (pc := 49) dX6_factor_49 (by decide) xs_3 (x_hp rfl) ?_
                first | (guard_target =~ Wp _ _ _ _ (_ :: _ :: _ :: _ :: some (Value.int (nI _)) :: _) _ _ _ _ _; with_reducible refine x_iincN (pc := 50) 1 ic_1 dX6_factor_50 ?_ xg_4 xs_4 ?_ ?_; decide; exact (x_hp rfl)) | refine x_iincC (pc := 50) ic_1 dX6_factor_50 (by decide) rfl xs_4 (x_hp rfl) ?_
                refine x_goto (pc := 53) (tgt := 7) dX6_factor_53 (by decide) ?_
                rw [n3]; exact nx true (by have := b2n_0 h41; rw [this]; rfl)
      rw [if_neg n1] at g0 g1
      by_cases n4 : c p = 41
      · have n2 := hX.lt n4 (by decide)
        rw [if_pos n4] at g0 g1
        have hEE := hE f' (by omega)
        have n5 : 4 - (f' + 1) + 1 = 4 - f' := by omega
        obtain ⟨q1, q2, q3⟩ := pE_ok hX f' (p + 1) (by omega)
        rcases hr : pE c f' (p + 1) with ⟨_ | e, q⟩
        · have fin := g0 q (by rw [show lE c (pF c f') 100 none none (p + 1) = pE c f' (p + 1) from rfl, hr]; rfl)
          refine x_iload (pc := 7) dX6_factor_7 rfl ?_
          refine x_iconstN (pc := 9) 4 dX6_factor_9 ic_4 ?_
          first | (guard_target =~ Wp _ _ _ _ _ (Value.int (nI _) :: Value.int (nI _) :: _) _ _ _ _; with_reducible refine x_icmp_geN (pc := 10) (tgt := 56) ?_ ?_ dX6_factor_10 ?_ (fun h10 => ?_) (fun h10 => ?_); (first | omega | exact b2n_31 _); (first | omega | exact b2n_31 _); decide) | refine x_icmp_ge (pc := 10) (tgt := 56) dX6_factor_10 (by decide) (fun h10 => ?_) (fun h10 => ?_)
          · skip
            omega
          · skip
            refine x_iload_n (pc := 13) dX6_factor_13 rfl ?_
            refine x_iconstN (pc := 14) 4 dX6_factor_14 ic_4 ?_
            first | (guard_target =~ Wp _ _ _ _ _ (Value.int (nI _) :: Value.int (nI _) :: _) _ _ _ _; with_reducible refine x_icmp_geN (pc := 15) (tgt := 56) ?_ ?_ dX6_factor_15 ?_ (fun h15 => ?_) (fun h15 => ?_); (first | omega | exact b2n_31 _); (first | omega | exact b2n_31 _); decide) | refine x_icmp_ge (pc := 15) (tgt := 56) dX6_factor_15 (by decide) (fun h15 => ?_) (fun h15 => ?_)
            · skip
              omega
            · skip
              refine x_aload_n (pc := 18) dX6_factor_18 rfl ?_
              refine x_invV0 (pc := 19) dX6_factor_19 mlX6_64 imX6_sign seX6_sign kX6_sign (by first | assumption | rfl) rfl (Nat.le_of_ble_eq_true rfl) (by decide) ?_
              refine sp_X6_sign hR hp ?_
              refine x_cv rfl rfl ?_
              refine x_bipush (pc := 22) dX6_factor_22 bp_33 ?_
              first | (guard_target =~ Wp _ _ _ _ _ (Value.int (nI _) :: Value.int (nI _) :: _) _ _ _ _; with_reducible refine x_icmp_neN (pc := 24) (tgt := 56) ?_ ?_ dX6_factor_24 ?_ (fun h24 => ?_) (fun h24 => ?_); (first | omega | exact b2n_31 _); (first | omega | exact b2n_31 _); decide) | refine x_icmp_ne (pc := 24) (tgt := 56) dX6_factor_24 (by decide) (fun h24 => ?_) (fun h24 => ?_)
              · skip
                refine x_aload_n (pc := 56) dX6_factor_56 rfl ?_
                refine x_invV0 (pc := 57) dX6_factor_57 mlX6_64 imX6_sign seX6_sign kX6_sign (by first | assumption | rfl) rfl (Nat.le_of_ble_eq_true rfl) (by decide) ?_
                refine sp_X6_sign hR hp ?_
                refine x_cv rfl rfl ?_
                refine x_bipush (pc := 60) dX6_factor_60 bp_40 ?_
                first | (guard_target =~ Wp _ _ _ _ _ (Value.int (nI _) :: Value.int (nI _) :: _) _ _ _ _; with_reducible refine x_icmp_neN (pc := 62) (tgt := 98) ?_ ?_ dX6_factor_62 ?_ (fun h62 => ?_) (fun h62 => ?_); (first | omega | exact b2n_31 _); (first | omega | exact b2n_31 _); decide) | refine x_icmp_ne (pc := 62) (tgt := 98) dX6_factor_62 (by decide) (fun h62 => ?_) (fun h62 => ?_)
                · skip
                  exact absurd (e2.mpr n4) h62
                · skip
                  refine x_iload_n (pc := 65) dX6_factor_65 rfl ?_
                  refine x_iconstN (pc := 66) 4 dX6_factor_66 ic_4 ?_
                  first | (guard_target =~ Wp _ _ _ _ _ (Value.int (nI _) :: Value.int (nI _) :: _) _ _ _ _; with_reducible refine x_icmp_geN (pc := 67) (tgt := 98) ?_ ?_ dX6_factor_67 ?_ (fun h67 => ?_) (fun h67 => ?_); (first | omega | exact b2n_31 _); (first | omega | exact b2n_31 _); decide) | refine x_icmp_ge (pc := 67) (tgt := 98) dX6_factor_67 (by decide) (fun h67 => ?_) (fun h67 => ?_)
                  · skip
                    omega
                  · skip
                    refine x_aload_n (pc := 70) dX6_factor_70 rfl ?_
                    refine x_dup (pc := 71) dX6_factor_71 rfl ?_
                    refine x_getI (pc := 72) dX6_factor_72 flX6_34 (by first | assumption | rfl) rfl ?_
                    rw [rM_at]
                    refine x_iconstN (pc := 75) 1 dX6_factor_75 ic_1 ?_
                    first | (guard_target =~ Wp _ _ _ _ _ (Value.int (nI _) :: Value.int (nI _) :: _) _ _ _ _; with_reducible refine x_iaddN (pc := 76) dX6_factor_76 ?_) | refine x_iadd (pc := 76) dX6_factor_76 ?_
                    refine x_putI (pc := 77) dX6_factor_77 flX6_34 (by first | assumption | rfl) rfl rfl rfl ?_
                    rw [rM_put]
                    refine x_aload_n (pc := 80) dX6_factor_80 rfl ?_
                    refine x_iload_n (pc := 81) dX6_factor_81 rfl ?_
                    refine x_iconstN (pc := 82) 1 dX6_factor_82 ic_1 ?_
                    first | (guard_target =~ Wp _ _ _ _ _ (Value.int (nI _) :: Value.int (nI _) :: _) _ _ _ _; with_reducible refine x_iaddN (pc := 83) dX6_factor_83 ?_) | refine x_iadd (pc := 83) dX6_factor_83 ?_
                    rw [n5]
                    refine x_invV1 (pc := 84) dX6_factor_84 mlX6_83 imX6_expression seX6_expression kX6_expression (by first | assumption | rfl) rfl (Nat.le_of_ble_eq_true rfl) (by decide) ?_
                    refine hEE (d + 5) (p + 1) _ (by omega) (by omega) (fun q' hq v => ?_) (fun e q' hq => absurd (hr.symm.trans hq) (by simp)); obtain rfl : q = q' := by (have z2 := hr.symm.trans hq; simp only [Prod.mk.injEq, true_and] at z2; exact z2)
                    refine x_cv rfl rfl ?_
                    refine x_istore (pc := 87) dX6_factor_87 (by decide) xs_4 (x_hp rfl) ?_
                    refine x_aload_n (pc := 89) dX6_factor_89 rfl ?_
                    refine x_ldcT (pc := 90) 4 (by decide) rfl dX6_factor_90 rfl ?_
                    refine x_invV1 (pc := 92) dX6_factor_92 mlX6_70 imX6_word seX6_word kX6_word (by first | assumption | rfl) rfl (Nat.le_of_ble_eq_true rfl) (by decide) ?_
                    refine sp_X6_wordB (i := 4) (by decide) ?_
                    refine x_cn rfl rfl ?_
                    refine x_goto (pc := 95) (tgt := 104) dX6_factor_95 (by decide) ?_
                    exact facB fin
              · skip
                exact absurd (e1.mp h24) n1
        · rw [show lE c (pF c f') 100 none none (p + 1) = (some e, q) from hr, clR] at g0 g1
          rw [hr] at q2
          by_cases n6 : c q = 42
          · have fin := g1 e (q + 1) (by rw [if_pos n6])
            refine x_iload (pc := 7) dX6_factor_7 rfl ?_
            refine x_iconstN (pc := 9) 4 dX6_factor_9 ic_4 ?_
            first | (guard_target =~ Wp _ _ _ _ _ (Value.int (nI _) :: Value.int (nI _) :: _) _ _ _ _; with_reducible refine x_icmp_geN (pc := 10) (tgt := 56) ?_ ?_ dX6_factor_10 ?_ (fun h10 => ?_) (fun h10 => ?_); (first | omega | exact b2n_31 _); (first | omega | exact b2n_31 _); decide) | refine x_icmp_ge (pc := 10) (tgt := 56) dX6_factor_10 (by decide) (fun h10 => ?_) (fun h10 => ?_)
            · skip
              omega
            · skip
              refine x_iload_n (pc := 13) dX6_factor_13 rfl ?_
              refine x_iconstN (pc := 14) 4 dX6_factor_14 ic_4 ?_
              first | (guard_target =~ Wp _ _ _ _ _ (Value.int (nI _) :: Value.int (nI _) :: _) _ _ _ _; with_reducible refine x_icmp_geN (pc := 15) (tgt := 56) ?_ ?_ dX6_factor_15 ?_ (fun h15 => ?_) (fun h15 => ?_); (first | omega | exact b2n_31 _); (first | omega | exact b2n_31 _); decide) | refine x_icmp_ge (pc := 15) (tgt := 56) dX6_factor_15 (by decide) (fun h15 => ?_) (fun h15 => ?_)
              · skip
                omega
              · skip
                refine x_aload_n (pc := 18) dX6_factor_18 rfl ?_
                refine x_invV0 (pc := 19) dX6_factor_19 mlX6_64 imX6_sign seX6_sign kX6_sign (by first | assumption | rfl) rfl (Nat.le_of_ble_eq_true rfl) (by decide) ?_
                refine sp_X6_sign hR hp ?_
                refine x_cv rfl rfl ?_
                refine x_bipush (pc := 22) dX6_factor_22 bp_33 ?_
                first | (guard_target =~ Wp _ _ _ _ _ (Value.int (nI _) :: Value.int (nI _) :: _) _ _ _ _; with_reducible refine x_icmp_neN (pc := 24) (tgt := 56) ?_ ?_ dX6_factor_24 ?_ (fun h24 => ?_) (fun h24 => ?_); (first | omega | exact b2n_31 _); (first | omega | exact b2n_31 _); decide) | refine x_icmp_ne (pc := 24) (tgt := 56) dX6_factor_24 (by decide) (fun h24 => ?_) (fun h24 => ?_)
                · skip
                  refine x_aload_n (pc := 56) dX6_factor_56 rfl ?_
                  refine x_invV0 (pc := 57) dX6_factor_57 mlX6_64 imX6_sign seX6_sign kX6_sign (by first | assumption | rfl) rfl (Nat.le_of_ble_eq_true rfl) (by decide) ?_
                  refine sp_X6_sign hR hp ?_
                  refine x_cv rfl rfl ?_
                  refine x_bipush (pc := 60) dX6_factor_60 bp_40 ?_
                  first | (guard_target =~ Wp _ _ _ _ _ (Value.int (nI _) :: Value.int (nI _) :: _) _ _ _ _; with_reducible refine x_icmp_neN (pc := 62) (tgt := 98) ?_ ?_ dX6_factor_62 ?_ (fun h62 => ?_) (fun h62 => ?_); (first | omega | exact b2n_31 _); (first | omega | exact b2n_31 _); decide) | refine x_icmp_ne (pc := 62) (tgt := 98) dX6_factor_62 (by decide) (fun h62 => ?_) (fun h62 => ?_)
                  · skip
                    exact absurd (e2.mpr n4) h62
                  · skip
                    refine x_iload_n (pc := 65) dX6_factor_65 rfl ?_
                    refine x_iconstN (pc := 66) 4 dX6_factor_66 ic_4 ?_
                    first | (guard_target =~ Wp _ _ _ _ _ (Value.int (nI _) :: Value.int (nI _) :: _) _ _ _ _; with_reducible refine x_icmp_geN (pc := 67) (tgt := 98) ?_ ?_ dX6_factor_67 ?_ (fun h67 => ?_) (fun h67 => ?_); (first | omega | exact b2n_31 _); (first | omega | exact b2n_31 _); decide) | refine x_icmp_ge (pc := 67) (tgt := 98) dX6_factor_67 (by decide) (fun h67 => ?_) (fun h67 => ?_)
                    · skip
                      omega
                    · skip
                      refine x_aload_n (pc := 70) dX6_factor_70 rfl ?_
                      refine x_dup (pc := 71) dX6_factor_71 rfl ?_
                      refine x_getI (pc := 72) dX6_factor_72 flX6_34 (by first | assumption | rfl) rfl ?_
                      rw [rM_at]
                      refine x_iconstN (pc := 75) 1 dX6_factor_75 ic_1 ?_
                      first | (guard_target =~ Wp _ _ _ _ _ (Value.int (nI _) :: Value.int (nI _) :: _) _ _ _ _; with_reducible refine x_iaddN (pc := 76) dX6_factor_76 ?_) | refine x_iadd (pc := 76) dX6_factor_76 ?_
                      refine x_putI (pc := 77) dX6_factor_77 flX6_34 (by first | assumption | rfl) rfl rfl rfl ?_
                      rw [rM_put]
                      refine x_aload_n (pc := 80) dX6_factor_80 rfl ?_
                      refine x_iload_n (pc := 81) dX6_factor_81 rfl ?_
                      refine x_iconstN (pc := 82) 1 dX6_factor_82 ic_1 ?_
                      first | (guard_target =~ Wp _ _ _ _ _ (Value.int (nI _) :: Value.int (nI _) :: _) _ _ _ _; with_reducible refine x_iaddN (pc := 83) dX6_factor_83 ?_) | refine x_iadd (pc := 83) dX6_factor_83 ?_
                      rw [n5]
                      refine x_invV1 (pc := 84) dX6_factor_84 mlX6_83 imX6_expression seX6_expression kX6_expression (by first | assumption | rfl) rfl (Nat.le_of_ble_eq_true rfl) (by decide) ?_
                      refine hEE (d + 5) (p + 1) _ (by omega) (by omega) (fun q' hq => absurd (hr.symm.trans hq) (by simp)) (fun e' q' hq => ?_); obtain ⟨rfl, rfl⟩ : e = e' ∧ q = q' := by (have z2 := hr.symm.trans hq; simp only [Prod.mk.injEq, Option.some.injEq] at z2; exact z2)
                      refine x_cv rfl rfl ?_
                      refine x_istore (pc := 87) dX6_factor_87 (by decide) xs_4 (x_hp rfl) ?_
                      refine x_aload_n (pc := 89) dX6_factor_89 rfl ?_
                      refine x_ldcT (pc := 90) 4 (by decide) rfl dX6_factor_90 rfl ?_
                      refine x_invV1 (pc := 92) dX6_factor_92 mlX6_70 imX6_word seX6_word kX6_word (by first | assumption | rfl) rfl (Nat.le_of_ble_eq_true rfl) (by decide) ?_
                      refine sp_X6_word (i := 4) (by decide) hR q2 (fun q' hq => absurd hq (by rw [wrd4, if_pos n6]; simp)) (fun q' hq => ?_); obtain rfl : q + 1 = q' := by (rw [wrd4, if_pos n6] at hq; simp only [Prod.mk.injEq, true_and] at hq; exact hq)
                      refine x_cn rfl rfl ?_
                      refine x_goto (pc := 95) (tgt := 104) dX6_factor_95 (by decide) ?_
                      exact facT fin
                · skip
                  exact absurd (e1.mp h24) n1
          · have fin := g0 q (by rw [if_neg n6])
            refine x_iload (pc := 7) dX6_factor_7 rfl ?_
            refine x_iconstN (pc := 9) 4 dX6_factor_9 ic_4 ?_
            first | (guard_target =~ Wp _ _ _ _ _ (Value.int (nI _) :: Value.int (nI _) :: _) _ _ _ _; with_reducible refine x_icmp_geN (pc := 10) (tgt := 56) ?_ ?_ dX6_factor_10 ?_ (fun h10 => ?_) (fun h10 => ?_); (first | omega | exact b2n_31 _); (first | omega | exact b2n_31 _); decide) | refine x_icmp_ge (pc := 10) (tgt := 56) dX6_factor_10 (by decide) (fun h10 => ?_) (fun h10 => ?_)
            · skip
              omega
            · skip
              refine x_iload_n (pc := 13) dX6_factor_13 rfl ?_
              refine x_iconstN (pc := 14) 4 dX6_factor_14 ic_4 ?_
              first | (guard_target =~ Wp _ _ _ _ _ (Value.int (nI _) :: Value.int (nI _) :: _) _ _ _ _; with_reducible refine x_icmp_geN (pc := 15) (tgt := 56) ?_ ?_ dX6_factor_15 ?_ (fun h15 => ?_) (fun h15 => ?_); (first | omega | exact b2n_31 _); (first | omega | exact b2n_31 _); decide) | refine x_icmp_ge (pc := 15) (tgt := 56) dX6_factor_15 (by decide) (fun h15 => ?_) (fun h15 => ?_)
              · skip
                omega
              · skip
                refine x_aload_n (pc := 18) dX6_factor_18 rfl ?_
                refine x_invV0 (pc := 19) dX6_factor_19 mlX6_64 imX6_sign seX6_sign kX6_sign (by first | assumption | rfl) rfl (Nat.le_of_ble_eq_true rfl) (by decide) ?_
                refine sp_X6_sign hR hp ?_
                refine x_cv rfl rfl ?_
                refine x_bipush (pc := 22) dX6_factor_22 bp_33 ?_
                first | (guard_target =~ Wp _ _ _ _ _ (Value.int (nI _) :: Value.int (nI _) :: _) _ _ _ _; with_reducible refine x_icmp_neN (pc := 24) (tgt := 56) ?_ ?_ dX6_factor_24 ?_ (fun h24 => ?_) (fun h24 => ?_); (first | omega | exact b2n_31 _); (first | omega | exact b2n_31 _); decide) | refine x_icmp_ne (pc := 24) (tgt := 56) dX6_factor_24 (by decide) (fun h24 => ?_) (fun h24 => ?_)
                · skip
                  refine x_aload_n (pc := 56) dX6_factor_56 rfl ?_
                  refine x_invV0 (pc := 57) dX6_factor_57 mlX6_64 imX6_sign seX6_sign kX6_sign (by first | assumption | rfl) rfl (Nat.le_of_ble_eq_true rfl) (by decide) ?_
                  refine sp_X6_sign hR hp ?_
                  refine x_cv rfl rfl ?_
                  refine x_bipush (pc := 60) dX6_factor_60 bp_40 ?_
                  first | (guard_target =~ Wp _ _ _ _ _ (Value.int (nI _) :: Value.int (nI _) :: _) _ _ _ _; with_reducible refine x_icmp_neN (pc := 62) (tgt := 98) ?_ ?_ dX6_factor_62 ?_ (fun h62 => ?_) (fun h62 => ?_); (first | omega | exact b2n_31 _); (first | omega | exact b2n_31 _); decide) | refine x_icmp_ne (pc := 62) (tgt := 98) dX6_factor_62 (by decide) (fun h62 => ?_) (fun h62 => ?_)
                  · skip
                    exact absurd (e2.mpr n4) h62
                  · skip
                    refine x_iload_n (pc := 65) dX6_factor_65 rfl ?_
                    refine x_iconstN (pc := 66) 4 dX6_factor_66 ic_4 ?_
                    first | (guard_target =~ Wp _ _ _ _ _ (Value.int (nI _) :: Value.int (nI _) :: _) _ _ _ _; with_reducible refine x_icmp_geN (pc := 67) (tgt := 98) ?_ ?_ dX6_factor_67 ?_ (fun h67 => ?_) (fun h67 => ?_); (first | omega | exact b2n_31 _); (first | omega | exact b2n_31 _); decide) | refine x_icmp_ge (pc := 67) (tgt := 98) dX6_factor_67 (by decide) (fun h67 => ?_) (fun h67 => ?_)
                    · skip
                      omega
                    · skip
                      refine x_aload_n (pc := 70) dX6_factor_70 rfl ?_
                      refine x_dup (pc := 71) dX6_factor_71 rfl ?_
                      refine x_getI (pc := 72) dX6_factor_72 flX6_34 (by first | assumption | rfl) rfl ?_
                      rw [rM_at]
                      refine x_iconstN (pc := 75) 1 dX6_factor_75 ic_1 ?_
                      first | (guard_target =~ Wp _ _ _ _ _ (Value.int (nI _) :: Value.int (nI _) :: _) _ _ _ _; with_reducible refine x_iaddN (pc := 76) dX6_factor_76 ?_) | refine x_iadd (pc := 76) dX6_factor_76 ?_
                      refine x_putI (pc := 77) dX6_factor_77 flX6_34 (by first | assumption | rfl) rfl rfl rfl ?_
                      rw [rM_put]
                      refine x_aload_n (pc := 80) dX6_factor_80 rfl ?_
                      refine x_iload_n (pc := 81) dX6_factor_81 rfl ?_
                      refine x_iconstN (pc := 82) 1 dX6_factor_82 ic_1 ?_
                      first | (guard_target =~ Wp _ _ _ _ _ (Value.int (nI _) :: Value.int (nI _) :: _) _ _ _ _; with_reducible refine x_iaddN (pc := 83) dX6_factor_83 ?_) | refine x_iadd (pc := 83) dX6_factor_83 ?_
                      rw [n5]
                      refine x_invV1 (pc := 84) dX6_factor_84 mlX6_83 imX6_expression seX6_expression kX6_expression (by first | assumption | rfl) rfl (Nat.le_of_ble_eq_true rfl) (by decide) ?_
                      refine hEE (d + 5) (p + 1) _ (by omega) (by omega) (fun q' hq => absurd (hr.symm.trans hq) (by simp)) (fun e' q' hq => ?_); obtain ⟨rfl, rfl⟩ : e = e' ∧ q = q' := by (have z2 := hr.symm.trans hq; simp only [Prod.mk.injEq, Option.some.injEq] at z2; exact z2)
                      refine x_cv rfl rfl ?_
                      refine x_istore (pc := 87) dX6_factor_87 (by decide) xs_4 (x_hp rfl) ?_
                      refine x_aload_n (pc := 89) dX6_factor_89 rfl ?_
                      refine x_ldcT (pc := 90) 4 (by decide) rfl dX6_factor_90 rfl ?_
                      refine x_invV1 (pc := 92) dX6_factor_92 mlX6_70 imX6_word seX6_word kX6_word (by first | assumption | rfl) rfl (Nat.le_of_ble_eq_true rfl) (by decide) ?_
                      refine sp_X6_word (i := 4) (by decide) hR q2 (fun q' hq => ?_) (fun q' hq => absurd hq (by rw [wrd4, if_neg n6]; simp)); obtain rfl : q = q' := by (rw [wrd4, if_neg n6] at hq; simp only [Prod.mk.injEq, true_and] at hq; exact hq)
                      refine x_cn rfl rfl ?_
                      refine x_goto (pc := 95) (tgt := 104) dX6_factor_95 (by decide) ?_
                      exact facB fin
                · skip
                  exact absurd (e1.mp h24) n1
      · rw [if_neg n4] at g0 g1
        refine x_iload (pc := 7) dX6_factor_7 rfl ?_
        refine x_iconstN (pc := 9) 4 dX6_factor_9 ic_4 ?_
        first | (guard_target =~ Wp _ _ _ _ _ (Value.int (nI _) :: Value.int (nI _) :: _) _ _ _ _; with_reducible refine x_icmp_geN (pc := 10) (tgt := 56) ?_ ?_ dX6_factor_10 ?_ (fun h10 => ?_) (fun h10 => ?_); (first | omega | exact b2n_31 _); (first | omega | exact b2n_31 _); decide) | refine x_icmp_ge (pc := 10) (tgt := 56) dX6_factor_10 (by decide) (fun h10 => ?_) (fun h10 => ?_)
        · skip
          omega
        · skip
          refine x_iload_n (pc := 13) dX6_factor_13 rfl ?_
          refine x_iconstN (pc := 14) 4 dX6_factor_14 ic_4 ?_
          first | (guard_target =~ Wp _ _ _ _ _ (Value.int (nI _) :: Value.int (nI _) :: _) _ _ _ _; with_reducible refine x_icmp_geN (pc := 15) (tgt := 56) ?_ ?_ dX6_factor_15 ?_ (fun h15 => ?_) (fun h15 => ?_); (first | omega | exact b2n_31 _); (first | omega | exact b2n_31 _); decide) | refine x_icmp_ge (pc := 15) (tgt := 56) dX6_factor_15 (by decide) (fun h15 => ?_) (fun h15 => ?_)
          · skip
            omega
          · skip
            refine x_aload_n (pc := 18) dX6_factor_18 rfl ?_
            refine x_invV0 (pc := 19) dX6_factor_19 mlX6_64 imX6_sign seX6_sign kX6_sign (by first | assumption | rfl) rfl (Nat.le_of_ble_eq_true rfl) (by decide) ?_
            refine sp_X6_sign hR hp ?_
            refine x_cv rfl rfl ?_
            refine x_bipush (pc := 22) dX6_factor_22 bp_33 ?_
            first | (guard_target =~ Wp _ _ _ _ _ (Value.int (nI _) :: Value.int (nI _) :: _) _ _ _ _; with_reducible refine x_icmp_neN (pc := 24) (tgt := 56) ?_ ?_ dX6_factor_24 ?_ (fun h24 => ?_) (fun h24 => ?_); (first | omega | exact b2n_31 _); (first | omega | exact b2n_31 _); decide) | refine x_icmp_ne (pc := 24) (tgt := 56) dX6_factor_24 (by decide) (fun h24 => ?_) (fun h24 => ?_)
            · skip
              refine x_aload_n (pc := 56) dX6_factor_56 rfl ?_
              refine x_invV0 (pc := 57) dX6_factor_57 mlX6_64 imX6_sign seX6_sign kX6_sign (by first | assumption | rfl) rfl (Nat.le_of_ble_eq_true rfl) (by decide) ?_
              refine sp_X6_sign hR hp ?_
              refine x_cv rfl rfl ?_
              refine x_bipush (pc := 60) dX6_factor_60 bp_40 ?_
              first | (guard_target =~ Wp _ _ _ _ _ (Value.int (nI _) :: Value.int (nI _) :: _) _ _ _ _; with_reducible refine x_icmp_neN (pc := 62) (tgt := 98) ?_ ?_ dX6_factor_62 ?_ (fun h62 => ?_) (fun h62 => ?_); (first | omega | exact b2n_31 _); (first | omega | exact b2n_31 _); decide) | refine x_icmp_ne (pc := 62) (tgt := 98) dX6_factor_62 (by decide) (fun h62 => ?_) (fun h62 => ?_)
              · skip
                exact tst p _ _ tu _ hp g0 g1
              · skip
                exact absurd (e2.mp h62) n4
            · skip
              exact absurd (e1.mp h24) n1
  refine x_iload_n (pc := 0) dX6_factor_0 rfl ?_
  refine x_istore_n (pc := 1) dX6_factor_1 (by decide) xs_2 (x_hp rfl) ?_
  refine x_iconstN (pc := 2) 0 dX6_factor_2 ic_0 ?_
  refine x_istore_n (pc := 3) dX6_factor_3 (by decide) xs_3 (x_hp rfl) ?_
  refine x_iconstN (pc := 4) 0 dX6_factor_4 ic_0 ?_
  refine x_istore (pc := 5) dX6_factor_5 (by decide) xs_4 (x_hp rfl) ?_
  exact loop k 0 p false rfl hp h0 (fun e q hq => by rw [show mkT f false e = mkP f e by simp [mkT, mkP]]; exact h e q hq)
theorem expA (hf : ∀ k, f k < 100) (hR : RT M b n c f) : ∀ k, k ≤ 4 → expS g M n c f k := by
  intro k
  induction k using Nat.strongRecOn with
  | _ k ih =>
    intro hk
    exact expF hR (facF hk hf hR (fun j hj => ih j hj (by omega)))
end P32
