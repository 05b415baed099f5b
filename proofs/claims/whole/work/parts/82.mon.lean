/-! the MODEL's calls: on, mean, odds -/
theorem btw_nI {j lo hi : Nat} (hj : j < 2 ^ 31) (hl : lo < 2 ^ 31) (hh : hi < 2 ^ 31) : btw (nI j) (nI lo) (nI hi) = decide (lo ≤ j ∧ j ≤ hi) := by
  unfold btw
  simp only [nI_leI hl hj, nI_leI hj hh]
theorem btw_out {x : Int32} {lo hi n : Nat} (hl : lo < 2 ^ 31) (hh : hi + 1 < 2 ^ 31) (hn : hi < n) (hn2 : n < 2 ^ 31) (h : isR x (nI n) = false) : btw x (nI lo) (nI hi) = false := by
  rcases btw_cases (x := x) hl hh with e | ⟨j, h1, h2, rfl, e⟩
  · exact e
  · rw [isR_nI (by omega) hn2, decide_eq_true (by omega)] at h; cases h
theorem spA_0 {A : XA} {w : Int32} {n j : Nat} : spA A w n 0 j = A 0 j + gainA A w j n := rfl
theorem spA_k {A : XA} {w : Int32} {n k j : Nat} (h : k ≠ 0) (h2 : k ≠ 11) : spA A w n k j = A k j := (if_neg h).trans (if_neg (fun q => h2 q.1))
/-- scratch and the limit -/
def pV (a k : Nat) : Bool := pZ a k || (a == 65 && k == 33)
theorem pV_N : ∀ a k, pN a k = true → pV a k = true := by intro a k h; simp [pV, pZ, h]
theorem pV_S : ∀ a k, pS a k = true → pV a k = true := by intro a k h; simp [pS, pV, pZ] at h ⊢; omega
theorem pV_Y : ∀ a k, pV a k = true → pY a k = true := by intro a k h; unfold pV at h; unfold pY pB; cases hz : pZ a k <;> simp [hz] at h ⊢; omega
theorem pV_Q : ∀ a k, wQ a k = true → pV a k = false := by intro a k h; simp [wQ, pV, pZ, pN, pW] at h ⊢; omega
theorem pV_L : ∀ a k, wL a k = true → pV a k = false := by intro a k h; simp [wL, pV, pZ, pN, pW] at h ⊢; omega
section P82
variable {g : XG} {d : Nat} {M M0 : XM} {K : Option Value → XS → XM → Prop} {s : XSt} {A : XA} {L : List XCl} {W b0 : Nat}
/-- days that are put back, from a state that is laid -/
theorem sm_try {w : Int32} {who n : Nat} (h0 : M.1 65 0 = nI (A 8 0)) (h3 : M.1 65 3 = nI (A 11 0)) (hx : ∀ c, c < 16 → M.1 66 c = nI (A 0 c) ∧ A 0 c < 20000000) (hA : cacheA A L) (hL : okL L) (hB : bdA A) (h33 : M.1 65 33 = nI 2000000000) (h85 : ∀ j, j < 64 * A 8 0 → M.1 85 j = nI (wnF A L j)) (hw : whoW w (A 8 0) who) (hn : n ≤ 100) (hday : A 11 0 < 20000) (h : ∀ M', only pD M M' → (∀ c, c < 16 → M'.1 66 c = nI (spA A w n 0 c) ∧ spA A w n 0 c < 67108864) → M'.1 65 3 = nI (A 11 0 + n) → K none xSF M') : Ex g (d + 2) yX10_goDays mX10_goDays [.ref 65, .int (nI who), .int (nI n)] xSF M K := by
  refine sm_days (mx := 2000000000) h0 h3 (fun c hc => ⟨(hx c hc).1, by have := (hx c hc).2; omega⟩) hA hL hB h33 (by decide) h85 hw hn hday (fun M' ho hx2 hd => h M' ho (fun c hc => ?_) hd)
  have hb := gain_bd (n := n) hc hA hL hB who hw
  have hxc := (hx c hc).2
  rw [spA_0]
  refine ⟨(hx2 c hc).trans (congrArg nI (by omega)), by omega⟩
/-- laid and saved -/
def Laid (M0 M : XM) (A : XA) (L : List XCl) : Prop := only pV M0 M ∧ kpt M0 M ∧ M.1 65 33 = nI 2000000000 ∧ ∀ j, j < 64 * A 8 0 → M.1 85 j = nI (wnF A L j)
theorem Laid.of {M M1 M2 : XM} (ho1 : only pN M M1) (h85 : ∀ j, j < 64 * A 8 0 → M1.1 85 j = nI (wnF A L j)) (ho2 : only pS M1 M2) (hk : kpt M1 M2) (h33 : M2.1 65 33 = nI 2000000000) : Laid M M2 A L := by
  refine ⟨(ho1.wide pV_N).tr (ho2.wide pV_S), ⟨fun c hc => (hk.1 c hc).trans (ho1.1 66 c rfl), hk.2.1.trans (ho1.1 65 1 rfl), hk.2.2.1.trans (ho1.1 65 2 rfl), hk.2.2.2.trans (ho1.1 65 3 rfl)⟩, h33, fun j hj => (ho2.1 85 j rfl).trans (h85 j hj)⟩
theorem fM_on {n x : Int32} (hC : MC9 M s) (ok : okM s) (h : ∀ M', high M M' → MC9 M' s → K (some (.int (vOn s n x))) xSF M') : Ex g (d + 6) yX10_on mX10_on [.ref 65, .int n, .int x] xSF M K := by
  unfold vOn at h
  have hB := ok.bd
  obtain ⟨b0, hL⟩ := hC.ls ok
  have hstd := ok.std
  have h11 := hstd.2
  have hQ := hC.1.mq
  have hL2 := ok.cache
  refine x_entry kX10_on (Nat.le_of_ble_eq_true rfl) ?_
  show Wp g _ mX10_on 0 [some (.ref 65), some (.int n), some (.int x), none] [] _ _ _ _
  rcases isR_cases (x := x) (n := 26) (by decide) with e | ⟨j, hj, rfl, e⟩
  · simp only [e, Bool.false_eq_true, if_false, false_and] at h
    refine x_aload_n (pc := 0) dX10_on_0 rfl ?_
    refine x_iload_n (pc := 1) dX10_on_1 rfl ?_
    refine x_iconstN (pc := 2) 0 dX10_on_2 ic_0 ?_
    refine x_iconstN (pc := 3) 1 dX10_on_3 ic_1 ?_
    refine x_invV3 (pc := 4) dX10_on_4 mlX10_253 imX10_in seX10_in kX10_in (by first | assumption | rfl) rfl (Nat.le_of_ble_eq_true rfl) (by decide) ?_
    refine sm_in ?_
    refine x_cv rfl rfl ?_
    rw [show btw x (nI 0) (nI 1) = false from btw_out (by decide) (by decide) (by decide) (by decide) e]
    first | (guard_target =~ Wp _ _ _ _ _ (Value.int (nI _) :: _) _ _ _ _; with_reducible refine x_if_neN (pc := 7) (tgt := 24) ?_ dX10_on_7 ?_ (fun h7 => ?_) (fun h7 => ?_); (first | omega | exact b2n_32 _ | exact b2n_31 _); decide) | refine x_if_ne (pc := 7) (tgt := 24) dX10_on_7 (by decide) (fun h7 => ?_) (fun h7 => ?_)
    · skip
      exact absurd rfl h7
    · skip
      refine x_aload_n (pc := 10) dX10_on_10 rfl ?_
      refine x_iload_n (pc := 11) dX10_on_11 rfl ?_
      refine x_bipushN (pc := 12) 10 dX10_on_12 bp_10 ?_
      refine x_bipushN (pc := 14) 25 dX10_on_14 bp_25 ?_
      refine x_invV3 (pc := 16) dX10_on_16 mlX10_253 imX10_in seX10_in kX10_in (by first | assumption | rfl) rfl (Nat.le_of_ble_eq_true rfl) (by decide) ?_
      refine sm_in ?_
      refine x_cv rfl rfl ?_
      rw [show btw x (nI 10) (nI 25) = false from btw_out (by decide) (by decide) (by decide) (by decide) e]
      first | (guard_target =~ Wp _ _ _ _ _ (Value.int (nI _) :: _) _ _ _ _; with_reducible refine x_if_neN (pc := 19) (tgt := 24) ?_ dX10_on_19 ?_ (fun h19 => ?_) (fun h19 => ?_); (first | omega | exact b2n_32 _ | exact b2n_31 _); decide) | refine x_if_ne (pc := 19) (tgt := 24) dX10_on_19 (by decide) (fun h19 => ?_) (fun h19 => ?_)
      · skip
        exact absurd rfl h19
      · skip
        refine x_iconst (pc := 22) dX10_on_22 ic_m1 ?_
        refine x_ret (pc := 23) (v := some _) rfl trivial dX10_on_23 (by decide) ?_
        exact h M high.rf hC
  simp only [e, true_and] at h
  rw [toN_nI (by omega)] at h
  by_cases hw : j < 2 ∨ 10 ≤ j
  · rw [if_pos hw] at h
    rcases isR_cases (x := n) (n := 61) (by decide) with e2 | ⟨k, hk, rfl, e2⟩
    · simp only [e2, Bool.false_eq_true, if_false] at h
      by_cases h2 : j < 2
      · skip
        refine x_aload_n (pc := 0) dX10_on_0 rfl ?_
        refine x_iload_n (pc := 1) dX10_on_1 rfl ?_
        refine x_iconstN (pc := 2) 0 dX10_on_2 ic_0 ?_
        refine x_iconstN (pc := 3) 1 dX10_on_3 ic_1 ?_
        refine x_invV3 (pc := 4) dX10_on_4 mlX10_253 imX10_in seX10_in kX10_in (by first | assumption | rfl) rfl (Nat.le_of_ble_eq_true rfl) (by decide) ?_
        refine sm_in ?_
        refine x_cv rfl rfl ?_
        rw [btw_nI (by omega) (by decide) (by decide), decide_eq_true (by omega)]
        first | (guard_target =~ Wp _ _ _ _ _ (Value.int (nI _) :: _) _ _ _ _; with_reducible refine x_if_neN (pc := 7) (tgt := 24) ?_ dX10_on_7 ?_ (fun h7 => ?_) (fun h7 => ?_); (first | omega | exact b2n_32 _ | exact b2n_31 _); decide) | refine x_if_ne (pc := 7) (tgt := 24) dX10_on_7 (by decide) (fun h7 => ?_) (fun h7 => ?_)
        · skip
          refine x_aload_n (pc := 24) dX10_on_24 rfl ?_
          refine x_iload_n (pc := 25) dX10_on_25 rfl ?_
          refine x_invV1 (pc := 26) dX10_on_26 mlX10_358 imX10_isDays seX10_isDays kX10_isDays (by first | assumption | rfl) rfl (Nat.le_of_ble_eq_true rfl) (by decide) ?_
          refine sm_isDays ?_
          refine x_cv rfl rfl ?_
          rw [e2]
          first | (guard_target =~ Wp _ _ _ _ _ (Value.int (nI _) :: _) _ _ _ _; with_reducible refine x_if_neN (pc := 29) (tgt := 35) ?_ dX10_on_29 ?_ (fun h29 => ?_) (fun h29 => ?_); (first | omega | exact b2n_32 _ | exact b2n_31 _); decide) | refine x_if_ne (pc := 29) (tgt := 35) dX10_on_29 (by decide) (fun h29 => ?_) (fun h29 => ?_)
          · skip
            exact absurd rfl h29
          · skip
            refine x_bipush (pc := 32) dX10_on_32 bp_m2 ?_
            refine x_ret (pc := 34) (v := some _) rfl trivial dX10_on_34 (by decide) ?_
            exact h M high.rf hC
        · skip
          cases h7
      · skip
        refine x_aload_n (pc := 0) dX10_on_0 rfl ?_
        refine x_iload_n (pc := 1) dX10_on_1 rfl ?_
        refine x_iconstN (pc := 2) 0 dX10_on_2 ic_0 ?_
        refine x_iconstN (pc := 3) 1 dX10_on_3 ic_1 ?_
        refine x_invV3 (pc := 4) dX10_on_4 mlX10_253 imX10_in seX10_in kX10_in (by first | assumption | rfl) rfl (Nat.le_of_ble_eq_true rfl) (by decide) ?_
        refine sm_in ?_
        refine x_cv rfl rfl ?_
        rw [btw_nI (by omega) (by decide) (by decide), decide_eq_false (by omega)]
        first | (guard_target =~ Wp _ _ _ _ _ (Value.int (nI _) :: _) _ _ _ _; with_reducible refine x_if_neN (pc := 7) (tgt := 24) ?_ dX10_on_7 ?_ (fun h7 => ?_) (fun h7 => ?_); (first | omega | exact b2n_32 _ | exact b2n_31 _); decide) | refine x_if_ne (pc := 7) (tgt := 24) dX10_on_7 (by decide) (fun h7 => ?_) (fun h7 => ?_)
        · skip
          exact absurd rfl h7
        · skip
          refine x_aload_n (pc := 10) dX10_on_10 rfl ?_
          refine x_iload_n (pc := 11) dX10_on_11 rfl ?_
          refine x_bipushN (pc := 12) 10 dX10_on_12 bp_10 ?_
          refine x_bipushN (pc := 14) 25 dX10_on_14 bp_25 ?_
          refine x_invV3 (pc := 16) dX10_on_16 mlX10_253 imX10_in seX10_in kX10_in (by first | assumption | rfl) rfl (Nat.le_of_ble_eq_true rfl) (by decide) ?_
          refine sm_in ?_
          refine x_cv rfl rfl ?_
          rw [btw_nI (by omega) (by decide) (by decide), decide_eq_true (by omega)]
          first | (guard_target =~ Wp _ _ _ _ _ (Value.int (nI _) :: _) _ _ _ _; with_reducible refine x_if_neN (pc := 19) (tgt := 24) ?_ dX10_on_19 ?_ (fun h19 => ?_) (fun h19 => ?_); (first | omega | exact b2n_32 _ | exact b2n_31 _); decide) | refine x_if_ne (pc := 19) (tgt := 24) dX10_on_19 (by decide) (fun h19 => ?_) (fun h19 => ?_)
          · skip
            refine x_aload_n (pc := 24) dX10_on_24 rfl ?_
            refine x_iload_n (pc := 25) dX10_on_25 rfl ?_
            refine x_invV1 (pc := 26) dX10_on_26 mlX10_358 imX10_isDays seX10_isDays kX10_isDays (by first | assumption | rfl) rfl (Nat.le_of_ble_eq_true rfl) (by decide) ?_
            refine sm_isDays ?_
            refine x_cv rfl rfl ?_
            rw [e2]
            first | (guard_target =~ Wp _ _ _ _ _ (Value.int (nI _) :: _) _ _ _ _; with_reducible refine x_if_neN (pc := 29) (tgt := 35) ?_ dX10_on_29 ?_ (fun h29 => ?_) (fun h29 => ?_); (first | omega | exact b2n_32 _ | exact b2n_31 _); decide) | refine x_if_ne (pc := 29) (tgt := 35) dX10_on_29 (by decide) (fun h29 => ?_) (fun h29 => ?_)
            · skip
              exact absurd rfl h29
            · skip
              refine x_bipush (pc := 32) dX10_on_32 bp_m2 ?_
              refine x_ret (pc := 34) (v := some _) rfl trivial dX10_on_34 (by decide) ?_
              exact h M high.rf hC
          · skip
            cases h19
    · simp only [e2, if_true] at h
      rw [toN_nI (by omega)] at h
      have trial : ∀ M3, Laid M M3 s.1.1 s.1.2.2.2.2 → (∀ M4, only pY M M4 → kpt M M4 → (∀ c, c < 16 → M4.1 66 c = nI (onA s k 0 c) ∧ onA s k 0 c < 67108864) → MLs M4 s.1.2.2.2.2 b0 → Wp g (d + 6) mX10_on 52 [some (.ref 65), some (.int (nI k)), some (.int (nI j)), none] [] xSF (0, 0) M4 K) → Wp g (d + 6) mX10_on 43 [some (.ref 65), some (.int (nI k)), some (.int (nI j)), none] [] xSF (0, 0) M3 K := by
        intro M3 hl hK
        obtain ⟨l1, l2, l3, l4⟩ := hl
        refine x_aload_n (pc := 43) dX10_on_43 rfl ?_
        refine x_aload_n (pc := 44) dX10_on_44 rfl ?_
        refine x_invV0 (pc := 45) dX10_on_45 mlX10_364 imX10_here seX10_here kX10_here (by first | assumption | rfl) rfl (Nat.le_of_ble_eq_true rfl) (by decide) ?_
        refine sm_here ((l1.1 65 1 rfl).trans hQ.2.1) ?_
        refine x_cv rfl rfl ?_
        refine x_iload_n (pc := 48) dX10_on_48 rfl ?_
        refine x_invV2 (pc := 49) dX10_on_49 mlX10_367 imX10_goDays seX10_goDays kX10_goDays (by first | assumption | rfl) rfl (Nat.le_of_ble_eq_true rfl) (by decide) ?_
        refine sm_try (w := qw s) (A := s.1.1) (L := s.1.2.2.2.2) ((l1.1 65 0 rfl).trans hQ.1) ((l1.1 65 3 rfl).trans hQ.2.2.2.1) (fun c hc => ⟨(l1.1 66 c rfl).trans (hQ.2.2.2.2 0 (by decide) c hc), by have := hstd.1 c hc; omega⟩) hL2 hL.1 hB l3 l4 (who_here ok.away hB.2.1) (by omega) (by omega) (fun M4 ho4 hx4 _ => ?_)
        refine x_cn rfl rfl ?_
        exact hK M4 ((l1.wide pV_Y).tr (ho4.wide pY_D)) (l2.keep ho4 pD_K) hx4 (hL.keep ((l1.wide pV_Y).tr (ho4.wide pY_D)) pY_L)
      have done : ∀ M4 v, only pY M M4 → kpt M M4 → K (some (.int v)) xSF M → True := fun _ _ _ _ _ => trivial
      have key : ∀ M3, Laid M M3 s.1.1 s.1.2.2.2.2 → Wp g (d + 6) mX10_on 43 [some (.ref 65), some (.int (nI k)), some (.int (nI j)), none] [] xSF (0, 0) M3 K := by
        intro M3 hl
        refine trial M3 hl (fun M4 ho4 hk4 hx4 hL4 => ?_)
        by_cases j0 : j = 0
        · subst j0
          rw [if_neg (by decide), if_pos rfl] at h
          refine x_iload_n (pc := 52) dX10_on_52 rfl ?_
          first | (guard_target =~ Wp _ _ _ _ _ (Value.int (nI _) :: _) _ _ _ _; with_reducible refine x_if_neN (pc := 53) (tgt := 63) ?_ dX10_on_53 ?_ (fun h53 => ?_) (fun h53 => ?_); (first | omega | exact b2n_32 _ | exact b2n_31 _); decide) | refine x_if_ne (pc := 53) (tgt := 63) dX10_on_53 (by decide) (fun h53 => ?_) (fun h53 => ?_)
          · skip
            omega
          · skip
            refine x_aload_n (pc := 56) dX10_on_56 rfl ?_
            refine x_invV0 (pc := 57) dX10_on_57 mlX10_384 imX10_baldSet seX10_baldSet kX10_baldSet (by first | assumption | rfl) rfl (Nat.le_of_ble_eq_true rfl) (by decide) ?_
            refine sm_baldSet (A := onA s k) hL4 (by rw [show onA s k 13 0 = s.1.1 13 0 from spA_k (by decide) (by decide)]; exact hL2.2.2.1) hx4 ?_
            refine x_cv rfl rfl ?_
            refine x_goto (pc := 60) (tgt := 84) dX10_on_60 (by decide) ?_
            refine x_istore_n (pc := 84) dX10_on_84 (by decide) xs_3 (x_hp rfl) ?_
            refine x_aload_n (pc := 85) dX10_on_85 rfl ?_
            refine x_invV0 (pc := 86) dX10_on_86 mlX10_378 imX10_putBack seX10_putBack kX10_putBack (by first | assumption | rfl) rfl (Nat.le_of_ble_eq_true rfl) (by decide) ?_
            refine sm_putBack ho4 hk4 hC.2.2.2.2.2.1 (fun M5 ho5 _ => ?_)
            refine x_cn rfl rfl ?_
            refine x_iload_n (pc := 89) dX10_on_89 rfl ?_
            refine x_ret (pc := 90) (v := some _) rfl trivial dX10_on_90 (by decide) ?_
            exact h M5 ho5.qsm.1.1 (hC.st ho5.qsm)
        by_cases j1 : j = 1
        · subst j1
          rw [if_neg (by decide), if_neg (by decide)] at h
          refine x_iload_n (pc := 52) dX10_on_52 rfl ?_
          first | (guard_target =~ Wp _ _ _ _ _ (Value.int (nI _) :: _) _ _ _ _; with_reducible refine x_if_neN (pc := 53) (tgt := 63) ?_ dX10_on_53 ?_ (fun h53 => ?_) (fun h53 => ?_); (first | omega | exact b2n_32 _ | exact b2n_31 _); decide) | refine x_if_ne (pc := 53) (tgt := 63) dX10_on_53 (by decide) (fun h53 => ?_) (fun h53 => ?_)
          · skip
            refine x_iload_n (pc := 63) dX10_on_63 rfl ?_
            refine x_iconstN (pc := 64) 1 dX10_on_64 ic_1 ?_
            first | (guard_target =~ Wp _ _ _ _ _ (Value.int (nI _) :: Value.int (nI _) :: _) _ _ _ _; with_reducible refine x_icmp_neN (pc := 65) (tgt := 75) ?_ ?_ dX10_on_65 ?_ (fun h65 => ?_) (fun h65 => ?_); (first | omega | exact b2n_31 _); (first | omega | exact b2n_31 _); decide) | refine x_icmp_ne (pc := 65) (tgt := 75) dX10_on_65 (by decide) (fun h65 => ?_) (fun h65 => ?_)
            · skip
              exact absurd rfl h65
            · skip
              refine x_aload_n (pc := 68) dX10_on_68 rfl ?_
              refine x_invV0 (pc := 69) dX10_on_69 mlX10_387 imX10_allWear seX10_allWear kX10_allWear (by first | assumption | rfl) rfl (Nat.le_of_ble_eq_true rfl) (by decide) ?_
              refine sm_allWear (A := onA s k) hx4 ?_
              refine x_cv rfl rfl ?_
              refine x_goto (pc := 72) (tgt := 84) dX10_on_72 (by decide) ?_
              refine x_istore_n (pc := 84) dX10_on_84 (by decide) xs_3 (x_hp rfl) ?_
              refine x_aload_n (pc := 85) dX10_on_85 rfl ?_
              refine x_invV0 (pc := 86) dX10_on_86 mlX10_378 imX10_putBack seX10_putBack kX10_putBack (by first | assumption | rfl) rfl (Nat.le_of_ble_eq_true rfl) (by decide) ?_
              refine sm_putBack ho4 hk4 hC.2.2.2.2.2.1 (fun M5 ho5 _ => ?_)
              refine x_cn rfl rfl ?_
              refine x_iload_n (pc := 89) dX10_on_89 rfl ?_
              refine x_ret (pc := 90) (v := some _) rfl trivial dX10_on_90 (by decide) ?_
              exact h M5 ho5.qsm.1.1 (hC.st ho5.qsm)
          · skip
            omega
        · rw [if_pos (by omega)] at h
          refine x_iload_n (pc := 52) dX10_on_52 rfl ?_
          first | (guard_target =~ Wp _ _ _ _ _ (Value.int (nI _) :: _) _ _ _ _; with_reducible refine x_if_neN (pc := 53) (tgt := 63) ?_ dX10_on_53 ?_ (fun h53 => ?_) (fun h53 => ?_); (first | omega | exact b2n_32 _ | exact b2n_31 _); decide) | refine x_if_ne (pc := 53) (tgt := 63) dX10_on_53 (by decide) (fun h53 => ?_) (fun h53 => ?_)
          · skip
            refine x_iload_n (pc := 63) dX10_on_63 rfl ?_
            refine x_iconstN (pc := 64) 1 dX10_on_64 ic_1 ?_
            first | (guard_target =~ Wp _ _ _ _ _ (Value.int (nI _) :: Value.int (nI _) :: _) _ _ _ _; with_reducible refine x_icmp_neN (pc := 65) (tgt := 75) ?_ ?_ dX10_on_65 ?_ (fun h65 => ?_) (fun h65 => ?_); (first | omega | exact b2n_31 _); (first | omega | exact b2n_31 _); decide) | refine x_icmp_ne (pc := 65) (tgt := 75) dX10_on_65 (by decide) (fun h65 => ?_) (fun h65 => ?_)
            · skip
              refine x_aload_n (pc := 75) dX10_on_75 rfl ?_
              refine x_getR (pc := 76) dX10_on_76 flX10_22 (by first | assumption | rfl) rfl ?_
              refine x_iload_n (pc := 79) dX10_on_79 rfl ?_
              refine x_bipushN (pc := 80) 10 dX10_on_80 bp_10 ?_
              first | (guard_target =~ Wp _ _ _ _ _ (Value.int (nI _) :: Value.int (nI _) :: _) _ _ _ _; with_reducible refine x_isubN (pc := 82) ?_ dX10_on_82 ?_; omega) | refine x_isub (pc := 82) dX10_on_82 ?_
              refine x_ialdN (pc := 83) dX10_on_83 (by first | assumption | rfl) (by first | with_reducible rfl | (simp only [xlit, nI_add, pk_mul]; with_reducible rfl)) (by omega) (by decide) ?_
              rw [(hx4 (j - 10) (by omega)).1]
              refine x_istore_n (pc := 84) dX10_on_84 (by decide) xs_3 (x_hp rfl) ?_
              refine x_aload_n (pc := 85) dX10_on_85 rfl ?_
              refine x_invV0 (pc := 86) dX10_on_86 mlX10_378 imX10_putBack seX10_putBack kX10_putBack (by first | assumption | rfl) rfl (Nat.le_of_ble_eq_true rfl) (by decide) ?_
              refine sm_putBack ho4 hk4 hC.2.2.2.2.2.1 (fun M5 ho5 _ => ?_)
              refine x_cn rfl rfl ?_
              refine x_iload_n (pc := 89) dX10_on_89 rfl ?_
              refine x_ret (pc := 90) (v := some _) rfl trivial dX10_on_90 (by decide) ?_
              exact h M5 ho5.qsm.1.1 (hC.st ho5.qsm)
            · skip
              omega
          · skip
            omega
      by_cases h2 : j < 2
      · skip
        refine x_aload_n (pc := 0) dX10_on_0 rfl ?_
        refine x_iload_n (pc := 1) dX10_on_1 rfl ?_
        refine x_iconstN (pc := 2) 0 dX10_on_2 ic_0 ?_
        refine x_iconstN (pc := 3) 1 dX10_on_3 ic_1 ?_
        refine x_invV3 (pc := 4) dX10_on_4 mlX10_253 imX10_in seX10_in kX10_in (by first | assumption | rfl) rfl (Nat.le_of_ble_eq_true rfl) (by decide) ?_
        refine sm_in ?_
        refine x_cv rfl rfl ?_
        rw [btw_nI (by omega) (by decide) (by decide), decide_eq_true (by omega)]
        first | (guard_target =~ Wp _ _ _ _ _ (Value.int (nI _) :: _) _ _ _ _; with_reducible refine x_if_neN (pc := 7) (tgt := 24) ?_ dX10_on_7 ?_ (fun h7 => ?_) (fun h7 => ?_); (first | omega | exact b2n_32 _ | exact b2n_31 _); decide) | refine x_if_ne (pc := 7) (tgt := 24) dX10_on_7 (by decide) (fun h7 => ?_) (fun h7 => ?_)
        · skip
          refine x_aload_n (pc := 24) dX10_on_24 rfl ?_
          refine x_iload_n (pc := 25) dX10_on_25 rfl ?_
          refine x_invV1 (pc := 26) dX10_on_26 mlX10_358 imX10_isDays seX10_isDays kX10_isDays (by first | assumption | rfl) rfl (Nat.le_of_ble_eq_true rfl) (by decide) ?_
          refine sm_isDays ?_
          refine x_cv rfl rfl ?_
          rw [e2]
          first | (guard_target =~ Wp _ _ _ _ _ (Value.int (nI _) :: _) _ _ _ _; with_reducible refine x_if_neN (pc := 29) (tgt := 35) ?_ dX10_on_29 ?_ (fun h29 => ?_) (fun h29 => ?_); (first | omega | exact b2n_32 _ | exact b2n_31 _); decide) | refine x_if_ne (pc := 29) (tgt := 35) dX10_on_29 (by decide) (fun h29 => ?_) (fun h29 => ?_)
          · skip
            refine x_aload_n (pc := 35) dX10_on_35 rfl ?_
            refine x_invV0 (pc := 36) dX10_on_36 mlX10_361 imX10_layWorn seX10_layWorn kX10_layWorn (by first | assumption | rfl) rfl (Nat.le_of_ble_eq_true rfl) (by decide) ?_
            refine sm_layWorn hL hB hQ (fun M1 ho1 h85 => ?_)
            refine x_cn rfl rfl ?_
            refine x_aload_n (pc := 39) dX10_on_39 rfl ?_
            refine x_invV0 (pc := 40) dX10_on_40 mlX10_375 imX10_save seX10_save kX10_save (by first | assumption | rfl) rfl (Nat.le_of_ble_eq_true rfl) (by decide) ?_
            refine sm_save (fun M2 ho2 hk2 h332 => ?_)
            refine x_cn rfl rfl ?_
            exact key M2 (Laid.of ho1 h85 ho2 hk2 h332)
          · skip
            cases h29
        · skip
          cases h7
      · skip
        refine x_aload_n (pc := 0) dX10_on_0 rfl ?_
        refine x_iload_n (pc := 1) dX10_on_1 rfl ?_
        refine x_iconstN (pc := 2) 0 dX10_on_2 ic_0 ?_
        refine x_iconstN (pc := 3) 1 dX10_on_3 ic_1 ?_
        refine x_invV3 (pc := 4) dX10_on_4 mlX10_253 imX10_in seX10_in kX10_in (by first | assumption | rfl) rfl (Nat.le_of_ble_eq_true rfl) (by decide) ?_
        refine sm_in ?_
        refine x_cv rfl rfl ?_
        rw [btw_nI (by omega) (by decide) (by decide), decide_eq_false (by omega)]
        first | (guard_target =~ Wp _ _ _ _ _ (Value.int (nI _) :: _) _ _ _ _; with_reducible refine x_if_neN (pc := 7) (tgt := 24) ?_ dX10_on_7 ?_ (fun h7 => ?_) (fun h7 => ?_); (first | omega | exact b2n_32 _ | exact b2n_31 _); decide) | refine x_if_ne (pc := 7) (tgt := 24) dX10_on_7 (by decide) (fun h7 => ?_) (fun h7 => ?_)
        · skip
          exact absurd rfl h7
        · skip
          refine x_aload_n (pc := 10) dX10_on_10 rfl ?_
          refine x_iload_n (pc := 11) dX10_on_11 rfl ?_
          refine x_bipushN (pc := 12) 10 dX10_on_12 bp_10 ?_
          refine x_bipushN (pc := 14) 25 dX10_on_14 bp_25 ?_
          refine x_invV3 (pc := 16) dX10_on_16 mlX10_253 imX10_in seX10_in kX10_in (by first | assumption | rfl) rfl (Nat.le_of_ble_eq_true rfl) (by decide) ?_
          refine sm_in ?_
          refine x_cv rfl rfl ?_
          rw [btw_nI (by omega) (by decide) (by decide), decide_eq_true (by omega)]
          first | (guard_target =~ Wp _ _ _ _ _ (Value.int (nI _) :: _) _ _ _ _; with_reducible refine x_if_neN (pc := 19) (tgt := 24) ?_ dX10_on_19 ?_ (fun h19 => ?_) (fun h19 => ?_); (first | omega | exact b2n_32 _ | exact b2n_31 _); decide) | refine x_if_ne (pc := 19) (tgt := 24) dX10_on_19 (by decide) (fun h19 => ?_) (fun h19 => ?_)
          · skip
            refine x_aload_n (pc := 24) dX10_on_24 rfl ?_
            refine x_iload_n (pc := 25) dX10_on_25 rfl ?_
            refine x_invV1 (pc := 26) dX10_on_26 mlX10_358 imX10_isDays seX10_isDays kX10_isDays (by first | assumption | rfl) rfl (Nat.le_of_ble_eq_true rfl) (by decide) ?_
            refine sm_isDays ?_
            refine x_cv rfl rfl ?_
            rw [e2]
            first | (guard_target =~ Wp _ _ _ _ _ (Value.int (nI _) :: _) _ _ _ _; with_reducible refine x_if_neN (pc := 29) (tgt := 35) ?_ dX10_on_29 ?_ (fun h29 => ?_) (fun h29 => ?_); (first | omega | exact b2n_32 _ | exact b2n_31 _); decide) | refine x_if_ne (pc := 29) (tgt := 35) dX10_on_29 (by decide) (fun h29 => ?_) (fun h29 => ?_)
            · skip
              refine x_aload_n (pc := 35) dX10_on_35 rfl ?_
              refine x_invV0 (pc := 36) dX10_on_36 mlX10_361 imX10_layWorn seX10_layWorn kX10_layWorn (by first | assumption | rfl) rfl (Nat.le_of_ble_eq_true rfl) (by decide) ?_
              refine sm_layWorn hL hB hQ (fun M1 ho1 h85 => ?_)
              refine x_cn rfl rfl ?_
              refine x_aload_n (pc := 39) dX10_on_39 rfl ?_
              refine x_invV0 (pc := 40) dX10_on_40 mlX10_375 imX10_save seX10_save kX10_save (by first | assumption | rfl) rfl (Nat.le_of_ble_eq_true rfl) (by decide) ?_
              refine sm_save (fun M2 ho2 hk2 h332 => ?_)
              refine x_cn rfl rfl ?_
              exact key M2 (Laid.of ho1 h85 ho2 hk2 h332)
            · skip
              cases h29
          · skip
            cases h19
  · rw [if_neg hw] at h
    refine x_aload_n (pc := 0) dX10_on_0 rfl ?_
    refine x_iload_n (pc := 1) dX10_on_1 rfl ?_
    refine x_iconstN (pc := 2) 0 dX10_on_2 ic_0 ?_
    refine x_iconstN (pc := 3) 1 dX10_on_3 ic_1 ?_
    refine x_invV3 (pc := 4) dX10_on_4 mlX10_253 imX10_in seX10_in kX10_in (by first | assumption | rfl) rfl (Nat.le_of_ble_eq_true rfl) (by decide) ?_
    refine sm_in ?_
    refine x_cv rfl rfl ?_
    rw [btw_nI (by omega) (by decide) (by decide), decide_eq_false (by omega)]
    first | (guard_target =~ Wp _ _ _ _ _ (Value.int (nI _) :: _) _ _ _ _; with_reducible refine x_if_neN (pc := 7) (tgt := 24) ?_ dX10_on_7 ?_ (fun h7 => ?_) (fun h7 => ?_); (first | omega | exact b2n_32 _ | exact b2n_31 _); decide) | refine x_if_ne (pc := 7) (tgt := 24) dX10_on_7 (by decide) (fun h7 => ?_) (fun h7 => ?_)
    · skip
      exact absurd rfl h7
    · skip
      refine x_aload_n (pc := 10) dX10_on_10 rfl ?_
      refine x_iload_n (pc := 11) dX10_on_11 rfl ?_
      refine x_bipushN (pc := 12) 10 dX10_on_12 bp_10 ?_
      refine x_bipushN (pc := 14) 25 dX10_on_14 bp_25 ?_
      refine x_invV3 (pc := 16) dX10_on_16 mlX10_253 imX10_in seX10_in kX10_in (by first | assumption | rfl) rfl (Nat.le_of_ble_eq_true rfl) (by decide) ?_
      refine sm_in ?_
      refine x_cv rfl rfl ?_
      rw [btw_nI (by omega) (by decide) (by decide), decide_eq_false (by omega)]
      first | (guard_target =~ Wp _ _ _ _ _ (Value.int (nI _) :: _) _ _ _ _; with_reducible refine x_if_neN (pc := 19) (tgt := 24) ?_ dX10_on_19 ?_ (fun h19 => ?_) (fun h19 => ?_); (first | omega | exact b2n_32 _ | exact b2n_31 _); decide) | refine x_if_ne (pc := 19) (tgt := 24) dX10_on_19 (by decide) (fun h19 => ?_) (fun h19 => ?_)
      · skip
        exact absurd rfl h19
      · skip
        refine x_iconst (pc := 22) dX10_on_22 ic_m1 ?_
        refine x_ret (pc := 23) (v := some _) rfl trivial dX10_on_23 (by decide) ?_
        exact h M high.rf hC
end P82
