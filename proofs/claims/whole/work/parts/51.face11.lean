/-! the program's calls: room, of, odds, mean -/
theorem pR_le {c : Nat → Nat} {n : Nat} (h : TX c n) : ∀ k p o q, p ≤ n → pR c k p = (o, q) → q ≤ n := by
  intro k
  induction k with
  | zero =>
    intro p o q hp hr
    rcases hc : pC c p with ⟨_ | x, s⟩
    · rw [pR_n hc] at hr; cases hr; exact (pC_ok h hp hc).2.1
    · rw [pR_s hc, rst] at hr
      obtain ⟨c1, c2, c3⟩ := pC_ok h hp hc
      by_cases h1 : c s = 0
      · simp only [h1, if_true] at hr; cases hr; exact c2
      · simp only [h1, if_false] at hr; cases hr; exact c2
  | succ k ih =>
    intro p o q hp hr
    rcases hc : pC c p with ⟨_ | x, s⟩
    · rw [pR_n hc] at hr; cases hr; exact (pC_ok h hp hc).2.1
    · rw [pR_s hc, rst] at hr
      obtain ⟨c1, c2, c3⟩ := pC_ok h hp hc
      by_cases h2 : c s = 60
      · have h3 := h.lt h2 (by decide)
        simp only [h2, if_true] at hr
        have := ih (s + 1) (pR c k (s + 1)).1 (pR c k (s + 1)).2 (by omega) rfl
        cases hr
        exact this
      · simp only [h2, if_false] at hr
        by_cases h1 : c s = 0
        · simp only [h1, if_true] at hr; cases hr; exact c2
        · simp only [h1, if_false] at hr; cases hr; exact c2
theorem m10_neg : ∀ q, q < 101 → (-10 - nI q : Int32) < 0 := by decide +kernel
section P51
variable {g : XG} {d : Nat} {M : XM} {K : Option Value → XS → XM → Prop} {s : XSt}
theorem roomA_cache {A : XA} {L L' : List XCl} (h : cacheA A L) : cacheA (roomA A L' (A 8 0)) L' := by
  obtain ⟨c1, c2, c3, c4⟩ := h
  have e : ∀ k j, k ≠ 7 → k ≠ 13 → roomA A L' (A 8 0) k j = A k j := fun k j h1 h2 => by simp [roomA, h1, h2]
  have e8 := e 8 0 (by decide) (by decide)
  refine ⟨fun g q => ?_, fun g q i hi => ?_, by simp [roomA], fun j q1 q2 => ?_⟩
  · rw [e8] at q
    rw [e 6 g (by decide) (by decide), c1 g q]
    congr 1
  · rw [e8] at q
    rw [e 1 g (by decide) (by decide), e 2 g (by decide) (by decide)]
    show (if 7 = 7 ∧ g * 16 + i < 16 * A 8 0 then yvF (fG ((g * 16 + i) / 16) (A 1 ((g * 16 + i) / 16)) (A 2 ((g * 16 + i) / 16))) L' ((g * 16 + i) % 16) else _) = _
    rw [if_pos (by omega), show (g * 16 + i) / 16 = g by omega, show (g * 16 + i) % 16 = i by omega]
  · rw [e8] at q1
    rw [e 5 j (by decide) (by decide)]; exact c4 j q1 q2
theorem fX9_room (hC : XC9 M s) (h : ∀ M', low M M' → XC9 M' (opRoom s).2 → K (some (.int (opRoom s).1)) xSF M') : Ex g (d + 19) yX9_room mX9_room [.ref 0] xSF M K := by
  unfold opRoom at h
  have hR := hC.1.1
  have h6 := hR.goersB
  have hm := hC.2.2.2.1
  have hm6 : sMd s ≤ 6 := hm.2.1
  obtain ⟨l1, l2, l3⟩ := hm.2.2 (sMd s) hm.2.1
  have hX : TX (chT (sLn s (sMd s)) (sTx s (sMd s))) (sLn s (sMd s)) := chT_TX l2 (fun p hp => (l3 p hp).2)
  refine x_entry kX9_room (Nat.le_of_ble_eq_true rfl) ?_
  show Wp g _ mX9_room 0 [some (.ref 0), none, none] [] _ _ _ _
  by_cases hq6 : sMd s = 6
  · rw [if_pos hq6] at h
    refine x_aload_n (pc := 0) dX9_room_0 rfl ?_
    refine x_getR (pc := 1) dX9_room_1 flX9_34 (by first | assumption | rfl) rfl ?_
    refine x_invV0 (pc := 4) dX9_room_4 mlX9_163 imX6_closeText seX6_closeText kX6_closeText (by first | assumption | rfl) rfl (Nat.le_of_ble_eq_true rfl) (by decide) ?_
    refine sp_X6_closeText hm (fun _ => ?_) (fun q z => absurd hq6 (by show ¬ s.2.2.2.2.1 = 6; omega)) (fun l q z => absurd hq6 (by show ¬ s.2.2.2.2.1 = 6; omega))
    refine x_cv rfl rfl ?_
    refine x_istore_n (pc := 7) dX9_room_7 (by decide) xs_1 (x_hp rfl) ?_
    refine x_iload_n (pc := 8) dX9_room_8 rfl ?_
    refine x_if_ge (pc := 9) (tgt := 14) dX9_room_9 (by decide) (fun h9 => ?_) (fun h9 => ?_)
    · skip
      exact absurd (show (0 : Int32) ≤ -4 from h9) (by decide)
    · skip
      refine x_iload_n (pc := 12) dX9_room_12 rfl ?_
      refine x_ret (pc := 13) (v := some _) rfl trivial dX9_room_13 (by decide) ?_
      exact h M csame.rf.low hC
  rw [if_neg hq6] at h
  have hlt : s.2.2.2.2.1 < 6 := by show sMd s < 6; omega
  rcases hr : rdS s with ⟨_ | l, q⟩
  · rw [hr] at h
    simp only at h
    have hq := pR_le hX 9 0 none q (Nat.zero_le _) hr
    have hneg := m10_neg q (by have : sLn s (sMd s) ≤ 100 := l2; omega)
    clear hR h6
    refine x_aload_n (pc := 0) dX9_room_0 rfl ?_
    refine x_getR (pc := 1) dX9_room_1 flX9_34 (by rfl) rfl ?_
    refine x_invV0 (pc := 4) dX9_room_4 mlX9_163 imX6_closeText seX6_closeText kX6_closeText (by rfl) rfl (Nat.le_of_ble_eq_true rfl) (by decide) ?_
    refine sp_X6_closeText hm (fun z => absurd z hq6) (fun q' _ hq' M2 hs hR2 => ?_) (fun l q' _ hq' => absurd (hr.symm.trans hq') (by simp)); obtain rfl : q = q' := by (have z2 := hr.symm.trans hq'; simp only [Prod.mk.injEq, true_and] at z2; exact z2)
    refine x_cv rfl rfl ?_
    refine x_istore_n (pc := 7) dX9_room_7 (by decide) xs_1 (x_hp rfl) ?_
    refine x_iload_n (pc := 8) dX9_room_8 rfl ?_
    refine x_if_ge (pc := 9) (tgt := 14) dX9_room_9 (by decide) (fun h9 => ?_) (fun h9 => ?_)
    · skip
      exact absurd hneg (Int32.not_lt.mpr h9)
    · skip
      refine x_iload_n (pc := 12) dX9_room_12 rfl ?_
      refine x_ret (pc := 13) (v := some _) rfl trivial dX9_room_13 (by decide) ?_
      exact h M2 (lowR hs) (hC.upR hs hR2 (Nat.le_refl _) (fun b hb => ⟨rfl, by simp [up1]; omega⟩))
  · rw [hr] at h
    simp only at h
    have hL : okL l := by
      obtain ⟨a1, a2, a3⟩ := pR_ok hX 9 0 l q (Nat.zero_le _) hr
      exact ⟨a2, a3⟩
    have hb30 : bldF 30 l < 100 := bldF_bd l 30 (by decide) (fun x hx => (hL.2 x hx).1)
    have hRL : RmL (sTx s) (sLn s) (sMd s + 1) (nI (sMd s)) l := ⟨hL, Or.inr ⟨sMd s, q, by omega, rfl, hr⟩⟩
    have loop : ∀ m k M1 M2, k + m = s.1.1 8 0 → XC9 M1 (s.1, s.2.1, sTx s, sLn s, sMd s + 1, s.2.2.2.2.2) → low M M1 → csame M1 M2 → CR 1 M2 (roomA s.1.1 l k) (nI s.1.2.1) (nI (sMd s)) → Wp g (d + 19) mX9_room 38 [some (.ref 0), some (.int (nI (sMd s))), some (.int (nI k))] [] xSF (0, 0) M2 K := by
      intro m
      induction m with
      | zero =>
        intro k M1 M2 hk hC1 hlow hs hR2
        obtain rfl : k = s.1.1 8 0 := by omega
        refine x_iload_n (pc := 38) dX9_room_38 rfl ?_
        refine x_aload_n (pc := 39) dX9_room_39 rfl ?_
        refine x_getR (pc := 40) dX9_room_40 flX9_12 (by first | assumption | rfl) rfl ?_
        refine x_getI (pc := 43) dX9_room_43 flX9_76 (by first | assumption | rfl) rfl ?_
        rw [hR2.goers, show roomA s.1.1 l (s.1.1 8 0) 8 0 = s.1.1 8 0 by simp [roomA]]
        first | (guard_target =~ Wp _ _ _ _ _ (Value.int (nI _) :: Value.int (nI _) :: _) _ _ _ _; with_reducible refine x_icmp_geN (pc := 46) (tgt := 60) ?_ ?_ dX9_room_46 ?_ (fun h46 => ?_) (fun h46 => ?_); (first | omega | exact b2n_31 _); (first | omega | exact b2n_31 _); decide) | refine x_icmp_ge (pc := 46) (tgt := 60) dX9_room_46 (by decide) (fun h46 => ?_) (fun h46 => ?_)
        · skip
          refine x_iload_n (pc := 60) dX9_room_60 rfl ?_
          refine x_ret (pc := 61) (v := some _) rfl trivial dX9_room_61 (by decide) ?_
          refine h M2 ⟨fun a ha => (hs.low.1 a ha).trans (hlow.1 a ha), fun a ha => (hs.low.2 a ha).trans (hlow.2 a ha)⟩ (hC1.up hs hR2 ?_)
          obtain ⟨q1, q2, q3, q4, q5, q6, q7⟩ := hC.2.1
          refine ⟨hR2.bd, q2, ⟨fun i hi => by have := q3.1 i hi; simpa [roomA] using this, by have := q3.2; simpa [roomA] using this⟩, by simpa [roomA] using q4, roomA_cache q5, hRL, fun k hk hk1 => by have := q7 k hk hk1; simpa [roomA] using this⟩
        · skip
          omega
      | succ m ih =>
        intro k M1 M2 hk hC1 hlow hs hR2
        refine x_iload_n (pc := 38) dX9_room_38 rfl ?_
        refine x_aload_n (pc := 39) dX9_room_39 rfl ?_
        refine x_getR (pc := 40) dX9_room_40 flX9_12 (by first | assumption | rfl) rfl ?_
        refine x_getI (pc := 43) dX9_room_43 flX9_76 (by first | assumption | rfl) rfl ?_
        rw [hR2.goers, show roomA s.1.1 l k 8 0 = s.1.1 8 0 by simp [roomA]]
        first | (guard_target =~ Wp _ _ _ _ _ (Value.int (nI _) :: Value.int (nI _) :: _) _ _ _ _; with_reducible refine x_icmp_geN (pc := 46) (tgt := 60) ?_ ?_ dX9_room_46 ?_ (fun h46 => ?_) (fun h46 => ?_); (first | omega | exact b2n_31 _); (first | omega | exact b2n_31 _); decide) | refine x_icmp_ge (pc := 46) (tgt := 60) dX9_room_46 (by decide) (fun h46 => ?_) (fun h46 => ?_)
        · skip
          omega
        · skip
          refine x_aload_n (pc := 49) dX9_room_49 rfl ?_
          refine x_iload_n (pc := 50) dX9_room_50 rfl ?_
          refine x_invV1 (pc := 51) dX9_room_51 mlX9_84 imX9_learnYields seX9_learnYields kX9_learnYields (by first | assumption | rfl) rfl (Nat.le_of_ble_eq_true rfl) (by decide) ?_
          refine sp_X9_learnYields (by omega) hR2 (hC1.2.2.2.1.eqs hs.2.1 (hs.1 42 (by omega)) (hs.1 43 (by omega))) hRL (fun M3 hs3 hR3 => ?_)
          refine x_cn rfl rfl ?_
          first | (guard_target =~ Wp _ _ _ _ (_ :: _ :: some (Value.int (nI _)) :: _) _ _ _ _ _; with_reducible refine x_iincN (pc := 54) 1 ic_1 dX9_room_54 ?_ xg_2 xs_2 ?_ ?_; decide; exact (x_hp rfl)) | refine x_iincC (pc := 54) ic_1 dX9_room_54 (by decide) rfl xs_2 (x_hp rfl) ?_
          refine x_goto (pc := 57) (tgt := 38) dX9_room_57 (by decide) ?_
          refine ih (k + 1) M1 M3 (by omega) hC1 hlow (hs.tr hs3) (hR3.cong (fun k' hk' j hj => ?_) (fun k' hk' => ?_))
          · by_cases h7 : k' = 7
            · subst h7
              show (if 7 = 7 ∧ j < 16 * (k + 1) then _ else _) = (if 7 = 7 ∧ 16 * k ≤ j ∧ j < 16 * k + 16 then yvF (fG k (roomA s.1.1 l k 1 k) (roomA s.1.1 l k 2 k)) l (j - 16 * k) else (if 7 = 7 ∧ j < 16 * k then _ else _))
              by_cases hj1 : j < 16 * k
              · rw [if_pos (by omega), if_neg (by omega), if_pos (by omega)]
              · by_cases hj2 : j < 16 * k + 16
                · rw [if_pos (by omega), if_pos (by omega), show j / 16 = k by omega, show j % 16 = j - 16 * k by omega]; simp [roomA]
                · rw [if_neg (by omega), if_neg (by omega), if_neg (by omega), if_neg (by omega)]
            · simp [roomA, yldA, h7]
          · rcases hk' with rfl | rfl | rfl | rfl <;> simp [roomA, yldA]
    refine x_aload_n (pc := 0) dX9_room_0 rfl ?_
    refine x_getR (pc := 1) dX9_room_1 flX9_34 (by first | assumption | rfl) rfl ?_
    refine x_invV0 (pc := 4) dX9_room_4 mlX9_163 imX6_closeText seX6_closeText kX6_closeText (by first | assumption | rfl) rfl (Nat.le_of_ble_eq_true rfl) (by decide) ?_
    refine sp_X6_closeText hm (fun z => absurd z hq6) (fun q' _ hq' => absurd (hr.symm.trans hq') (by simp)) (fun l' q' _ hq' M1 hs hR2 hb => ?_); obtain ⟨rfl, rfl⟩ : l = l' ∧ q = q' := by (have z2 := hr.symm.trans hq'; simp only [Prod.mk.injEq, Option.some.injEq] at z2; exact z2)
    refine x_cv rfl rfl ?_
    refine x_istore_n (pc := 7) dX9_room_7 (by decide) xs_1 (x_hp rfl) ?_
    refine x_iload_n (pc := 8) dX9_room_8 rfl ?_
    refine x_if_ge (pc := 9) (tgt := 14) dX9_room_9 (by decide) (fun h9 => ?_) (fun h9 => ?_)
    · skip
      refine x_aload_n (pc := 14) dX9_room_14 rfl ?_
      refine x_getR (pc := 15) dX9_room_15 flX9_12 (by first | assumption | rfl) rfl ?_
      refine x_iload_n (pc := 18) dX9_room_18 rfl ?_
      refine x_putI (pc := 19) dX9_room_19 flX9_166 (by first | assumption | rfl) rfl rfl rfl ?_
      refine x_aload_n (pc := 22) dX9_room_22 rfl ?_
      refine x_getR (pc := 23) dX9_room_23 flX9_12 (by first | assumption | rfl) rfl ?_
      refine x_aload_n (pc := 26) dX9_room_26 rfl ?_
      refine x_getR (pc := 27) dX9_room_27 flX9_34 (by first | assumption | rfl) rfl ?_
      refine x_invV0 (pc := 30) dX9_room_30 mlX9_169 imX6_baldAt seX6_baldAt kX6_baldAt (by first | assumption | rfl) rfl (Nat.le_of_ble_eq_true rfl) (by decide) ?_
      refine sp_X6_baldAt (v := bldF 30 l) hb ?_
      refine x_cv rfl rfl ?_
      refine x_putI (pc := 33) dX9_room_33 flX9_172 (by first | assumption | rfl) rfl rfl rfl ?_
      refine x_iconstN (pc := 36) 0 dX9_room_36 ic_0 ?_
      refine x_istore_n (pc := 37) dX9_room_37 (by decide) xs_2 (x_hp rfl) ?_
      have hC1 : XC9 M1 (s.1, s.2.1, sTx s, sLn s, sMd s + 1, s.2.2.2.2.2) := hC.upR hs hR2 (Nat.le_succ _) (fun b hb => ⟨rfl, rfl⟩)
      refine loop (s.1.1 8 0) 0 M1 _ (by omega) hC1 (lowR hs) ((csame.c1 (xsame.put (by decide) (by decide))).tr (csame.c1 (xsame.put (by decide) (by decide)))) ?_
      refine ((hC1.1.1.putR (nI (sMd s))).putS 13 (by omega) (v := bldF 30 l) ⟨by omega, by omega, by omega, fun _ => hb30⟩).cong (fun k' hk' j hj => ?_) (fun k' hk' => ?_)
      · have : ¬ k' = 13 := by omega
        simp [roomA, updA, this]
      · rcases hk' with rfl | rfl | rfl | rfl <;> simp [roomA, updA]
    · skip
      exact absurd (nI_pos' (by omega)) h9
end P51
