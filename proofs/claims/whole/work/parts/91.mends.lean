/-! the MODEL's calls: ends -/
def pP (a k : Nat) : Bool := pN a k || (a == 66 && decide (k < 16)) || (a == 65 && (k == 1 || k == 2 || k == 3))
theorem pP_N : ∀ a k, pN a k = true → pP a k = true := by intro a k h; simp [pP, h]
theorem pP_D : ∀ a k, pD a k = true → pP a k = true := by intro a k h; simp [pD, pP] at h ⊢; omega
theorem pP_Y : ∀ a k, pP a k = true → pY a k = true := by
  intro a k h
  cases hn : pN a k with
  | true => exact pY_N a k hn
  | false => simp [pP, hn] at h; simp [pY, pB]; omega
theorem pP_L : ∀ a k, wL a k = true → pP a k = false := by
  intro a k h
  have := pN_L a k h
  simp [wL] at h
  simp [pP, this]; omega
theorem pP_K : ∀ a k, (a = 86 ∨ (a = 65 ∧ (k = 34 ∨ k = 35 ∨ k = 36))) → pP a k = false := by
  intro a k h
  have := pN_K a k h
  simp [pP, this]; omega
theorem MNow.wear {p : Nat → Nat → Bool} {M M' : XM} {A B : XA} {W : Nat} (h : MNow M A W) (ho : only p M M') (hp : ∀ a k, wQ a k = true → ¬ (a = 66 ∧ k < 16) → ¬ (a = 65 ∧ k = 3) → p a k = false) (hx : ∀ c, c < 16 → M'.1 66 c = nI (B 0 c)) (hd : M'.1 65 3 = nI (B 11 0)) (hB : ∀ k j, k ≠ 0 → k ≠ 11 → B k j = A k j) : MNow M' B W := by
  have e : ∀ a k, wQ a k = true → ¬ (a = 66 ∧ k < 16) → ¬ (a = 65 ∧ k = 3) → M'.1 a k = M.1 a k := fun a k q1 q2 q3 => ho.1 a k (hp a k q1 q2 q3)
  refine ⟨(e 65 0 rfl (by omega) (by omega)).trans (h.1.trans (congrArg nI (hB 8 0 (by decide) (by decide)).symm)), (e 65 1 rfl (by omega) (by omega)).trans h.2.1, (e 65 2 rfl (by omega) (by omega)).trans (h.2.2.1.trans (congrArg nI (hB 10 0 (by decide) (by decide)).symm)), hd, fun k hk j hj => ?_⟩
  by_cases hk0 : k = 0
  · subst hk0; exact hx j hj
  · rw [e (66 + k) j (by simp [wQ]; omega) (by omega) (by omega)]
    exact (h.2.2.2.2 k hk j hj).trans (congrArg nI (hB k j hk0 (by omega)).symm)
/-- what stands through a plan -/
def PI (A B : XA) (L : List XCl) (k : Nat) : Prop := bdA B ∧ cacheA B L ∧ (∀ c, c < 16 → B 0 c ≤ 10000 + k * 120000) ∧ B 11 0 ≤ 10000 + k ∧ B 8 0 = A 8 0
section P91
variable {g : XG} {d : Nat} {M M0 : XM} {K : Option Value → XS → XM → Prop} {s : XSt} {A B : XA} {L : List XCl} {W b0 k : Nat}
theorem PI.day (h : PI A B L k) (hL : okL L) (hW : W < 64) (hk : k ≤ 20) : PI A (spA B (nI W) 1) L (k + 1) := by
  obtain ⟨h1, h2, h3, h4, h5⟩ := h
  have hg : ∀ c, c < 16 → gainA B (nI W) c 1 ≤ 1 * 120000 := fun c hc => gain_bd hc h2 hL h1 _ (who_here hW h1.2.1)
  refine ⟨⟨fun k hk j hj => ?_, h1.2.1, h1.2.2⟩, spl_cache h2 (fun k j q1 q2 => spA_k q1 q2), fun c hc => ?_, ?_, h5⟩
  · by_cases k0 : k = 0
    · subst k0
      have hj16 : j < 16 := hj
      have a1 := h3 j hj16
      have a2 := hg j hj16
      show B 0 j + gainA B (nI W) j 1 < 67108864
      omega
    · rw [spA_k k0 (by omega)]; exact h1.1 k hk j hj
  · have a1 := h3 c hc
    have a2 := hg c hc
    show B 0 c + gainA B (nI W) c 1 ≤ _
    omega
  · show B 11 0 + 1 ≤ _; omega
theorem PI.up (h : PI A B L k) : PI A B L (k + 1) := by
  obtain ⟨h1, h2, h3, h4, h5⟩ := h
  exact ⟨h1, h2, fun c hc => Nat.le_trans (h3 c hc) (by omega), Nat.le_trans h4 (by omega), h5⟩
theorem PI.lay {n : Nat} (h : PI A B L k) : PI A (updA B 0 n 0) L (k + 1) := by
  obtain ⟨h1, h2, h3, h4, h5⟩ := h.up
  refine ⟨⟨fun k hk j hj => ?_, h1.2.1, h1.2.2⟩, spl_cache h2 (fun k j q1 q2 => if_neg (fun z => q1 z.1)), fun c hc => ?_, h4, h5⟩
  · unfold updA
    split
    · rename_i q; rw [q.1]; decide
    · exact h1.1 k hk j hj
  · unfold updA
    split
    · omega
    · exact h3 c hc
theorem PI.fur {n : Nat} (h : PI A B L k) (hn : n < 16) : PI A (furA B (B 10 0 ^^^ 2 ^ n)) L (k + 1) := by
  obtain ⟨h1, h2, h3, h4, h5⟩ := h.up
  exact ⟨bdA_fur h1 (Nat.xor_lt_two_pow (n := 16) h1.2.2 (two_lt hn)), furA_cache h2, h3, h4, h5⟩
theorem sm_goPlan {x n : Nat} (hx : x < 4) (hn : (x = 1 → n < 6) ∧ (x ≠ 0 → n < 16)) (hk : k ≤ 10) (hI : PI A B L k) (hL : MLs M L b0) (hQ : MNow M B W) (hW : W < 64) (h33 : M.1 65 33 = nI 2000000000) (h : ∀ M' W', only pP M M' → MNow M' (plS (B, nI W) x n).1 W' → (plS (B, nI W) x n).2 = nI W' → W' < 64 → PI A (plS (B, nI W) x n).1 L (k + 1) → K none xSF M') : Ex g (d + 6) yX10_goPlan mX10_goPlan [.ref 65, .int (nI x), .int (nI n)] xSF M K := by
  have hB := hI.1
  have h6 := hB.2.1
  refine x_entry kX10_goPlan (Nat.le_of_ble_eq_true rfl) ?_
  show Wp g _ mX10_goPlan 0 [some (.ref 65), some (.int (nI x)), some (.int (nI n))] [] _ _ _ _
  have hh : x = 0 ∨ x = 1 ∨ x = 2 ∨ x = 3 := by omega
  rcases hh with rfl | rfl | rfl | rfl
  · have hw := who_here hW h6
    have h3 := hI.2.2.1
    have h11 := hI.2.2.2.1
    refine x_iload_n (pc := 0) dX10_goPlan_0 rfl ?_
    first | (guard_target =~ Wp _ _ _ _ _ (Value.int (nI _) :: _) _ _ _ _; with_reducible refine x_if_neN (pc := 1) (tgt := 16) ?_ dX10_goPlan_1 ?_ (fun h1 => ?_) (fun h1 => ?_); (first | omega | exact b2n_32 _ | exact b2n_31 _); decide) | refine x_if_ne (pc := 1) (tgt := 16) dX10_goPlan_1 (by decide) (fun h1 => ?_) (fun h1 => ?_)
    · skip
      omega
    · skip
      refine x_aload_n (pc := 4) dX10_goPlan_4 rfl ?_
      refine x_invV0 (pc := 5) dX10_goPlan_5 mlX10_361 imX10_layWorn seX10_layWorn kX10_layWorn (by first | assumption | rfl) rfl (Nat.le_of_ble_eq_true rfl) (by decide) ?_
      refine sm_layWorn hL hB hQ (fun M1 ho1 h85 => ?_)
      refine x_cn rfl rfl ?_
      refine x_aload_n (pc := 8) dX10_goPlan_8 rfl ?_
      refine x_aload_n (pc := 9) dX10_goPlan_9 rfl ?_
      refine x_invV0 (pc := 10) dX10_goPlan_10 mlX10_364 imX10_here seX10_here kX10_here (by first | assumption | rfl) rfl (Nat.le_of_ble_eq_true rfl) (by decide) ?_
      refine sm_here (hQ.keep ho1 pN_Q).2.1 ?_
      refine x_cv rfl rfl ?_
      refine x_invV1 (pc := 13) dX10_goPlan_13 mlX10_355 imX10_goDay seX10_goDay kX10_goDay (by first | assumption | rfl) rfl (Nat.le_of_ble_eq_true rfl) (by decide) ?_
      refine sm_goDay (n := B 8 0) (dd := B 11 0) (mx := 2000000000) (X := fun c => B 0 c) (Wn := wnF B L) h6 (hQ.keep ho1 pN_Q).1 (hQ.keep ho1 pN_Q).2.2.2.1 (by omega) ((ho1.1 65 33 rfl).trans h33) (by decide) (fun c hc => ⟨(hQ.keep ho1 pN_Q).2.2.2.2 0 (by decide) c hc, by have := h3 c hc; show B 0 c ≤ _; omega⟩) (fun j q => ⟨h85 j q, wnF_le hL.1 hB q⟩) (fun M2 ho2 hx2 hd2 => ?_)
      refine x_cn rfl rfl ?_
      refine x_iload_n (pc := 16) dX10_goPlan_16 rfl ?_
      refine x_iconstN (pc := 17) 1 dX10_goPlan_17 ic_1 ?_
      first | (guard_target =~ Wp _ _ _ _ _ (Value.int (nI _) :: Value.int (nI _) :: _) _ _ _ _; with_reducible refine x_icmp_neN (pc := 18) (tgt := 27) ?_ ?_ dX10_goPlan_18 ?_ (fun h18 => ?_) (fun h18 => ?_); (first | omega | exact b2n_31 _); (first | omega | exact b2n_31 _); decide) | refine x_icmp_ne (pc := 18) (tgt := 27) dX10_goPlan_18 (by decide) (fun h18 => ?_) (fun h18 => ?_)
      · skip
        refine x_iload_n (pc := 27) dX10_goPlan_27 rfl ?_
        refine x_iconstN (pc := 28) 2 dX10_goPlan_28 ic_2 ?_
        first | (guard_target =~ Wp _ _ _ _ _ (Value.int (nI _) :: Value.int (nI _) :: _) _ _ _ _; with_reducible refine x_icmp_neN (pc := 29) (tgt := 39) ?_ ?_ dX10_goPlan_29 ?_ (fun h29 => ?_) (fun h29 => ?_); (first | omega | exact b2n_31 _); (first | omega | exact b2n_31 _); decide) | refine x_icmp_ne (pc := 29) (tgt := 39) dX10_goPlan_29 (by decide) (fun h29 => ?_) (fun h29 => ?_)
        · skip
          refine x_iload_n (pc := 39) dX10_goPlan_39 rfl ?_
          refine x_iconstN (pc := 40) 3 dX10_goPlan_40 ic_3 ?_
          first | (guard_target =~ Wp _ _ _ _ _ (Value.int (nI _) :: Value.int (nI _) :: _) _ _ _ _; with_reducible refine x_icmp_neN (pc := 41) (tgt := 56) ?_ ?_ dX10_goPlan_41 ?_ (fun h41 => ?_) (fun h41 => ?_); (first | omega | exact b2n_31 _); (first | omega | exact b2n_31 _); decide) | refine x_icmp_ne (pc := 41) (tgt := 56) dX10_goPlan_41 (by decide) (fun h41 => ?_) (fun h41 => ?_)
          · skip
            refine x_ret (pc := 56) (v := none) rfl trivial dX10_goPlan_56 (by decide) ?_
            refine h M2 W ((ho1.wide pP_N).tr (ho2.wide pP_D)) ((hQ.keep ho1 pN_Q).wear ho2 (fun a k q1 q2 q3 => ?_) (fun c hc => ?_) hd2 (fun k j q1 q2 => spA_k q1 q2)) rfl hW (hI.day hL.1 hW (by omega))
            · simp [wQ, pD] at q1 q2 q3 ⊢; omega
            · have a1 := h3 c hc
              have a2 : gainA B (nI W) c 1 ≤ 1 * 120000 := gain_bd hc hI.2.1 hL.1 hB _ hw
              refine (hx2 c hc).trans (congrArg nI ?_)
              show min (B 0 c + dyG (wnF B L) (B 8 0) (63 &&& (W ^^^ 4294967295)) c (B 11 0)) 2000000000 = B 0 c + gainA B (nI W) c 1
              rw [← gn_dy hc hI.2.1 hw, ← gain_1]
              omega
          · skip
            omega
        · skip
          omega
      · skip
        omega
  · have hn6 := hn.1 rfl
    have hset : nI (setN W n true) = setB (nI W) n true := (setB_N hW hn6).symm
    have hlt : setN W n true < 64 := setN_lt (n := 6) hW hn6
    refine x_iload_n (pc := 0) dX10_goPlan_0 rfl ?_
    first | (guard_target =~ Wp _ _ _ _ _ (Value.int (nI _) :: _) _ _ _ _; with_reducible refine x_if_neN (pc := 1) (tgt := 16) ?_ dX10_goPlan_1 ?_ (fun h1 => ?_) (fun h1 => ?_); (first | omega | exact b2n_32 _ | exact b2n_31 _); decide) | refine x_if_ne (pc := 1) (tgt := 16) dX10_goPlan_1 (by decide) (fun h1 => ?_) (fun h1 => ?_)
    · skip
      refine x_iload_n (pc := 16) dX10_goPlan_16 rfl ?_
      refine x_iconstN (pc := 17) 1 dX10_goPlan_17 ic_1 ?_
      first | (guard_target =~ Wp _ _ _ _ _ (Value.int (nI _) :: Value.int (nI _) :: _) _ _ _ _; with_reducible refine x_icmp_neN (pc := 18) (tgt := 27) ?_ ?_ dX10_goPlan_18 ?_ (fun h18 => ?_) (fun h18 => ?_); (first | omega | exact b2n_31 _); (first | omega | exact b2n_31 _); decide) | refine x_icmp_ne (pc := 18) (tgt := 27) dX10_goPlan_18 (by decide) (fun h18 => ?_) (fun h18 => ?_)
      · skip
        exact absurd rfl h18
      · skip
        refine x_aload_n (pc := 21) dX10_goPlan_21 rfl ?_
        refine x_iload_n (pc := 22) dX10_goPlan_22 rfl ?_
        refine x_iconstN (pc := 23) 1 dX10_goPlan_23 ic_1 ?_
        refine x_invV2 (pc := 24) dX10_goPlan_24 mlX10_267 imX10_goes seX10_goes kX10_goes (by first | assumption | rfl) rfl (Nat.le_of_ble_eq_true rfl) (by decide) ?_
        refine sm_goes (b := true) hn6 hW hQ.2.1 ?_
        refine x_cn rfl rfl ?_
        refine x_iload_n (pc := 27) dX10_goPlan_27 rfl ?_
        refine x_iconstN (pc := 28) 2 dX10_goPlan_28 ic_2 ?_
        first | (guard_target =~ Wp _ _ _ _ _ (Value.int (nI _) :: Value.int (nI _) :: _) _ _ _ _; with_reducible refine x_icmp_neN (pc := 29) (tgt := 39) ?_ ?_ dX10_goPlan_29 ?_ (fun h29 => ?_) (fun h29 => ?_); (first | omega | exact b2n_31 _); (first | omega | exact b2n_31 _); decide) | refine x_icmp_ne (pc := 29) (tgt := 39) dX10_goPlan_29 (by decide) (fun h29 => ?_) (fun h29 => ?_)
        · skip
          refine x_iload_n (pc := 39) dX10_goPlan_39 rfl ?_
          refine x_iconstN (pc := 40) 3 dX10_goPlan_40 ic_3 ?_
          first | (guard_target =~ Wp _ _ _ _ _ (Value.int (nI _) :: Value.int (nI _) :: _) _ _ _ _; with_reducible refine x_icmp_neN (pc := 41) (tgt := 56) ?_ ?_ dX10_goPlan_41 ?_ (fun h41 => ?_) (fun h41 => ?_); (first | omega | exact b2n_31 _); (first | omega | exact b2n_31 _); decide) | refine x_icmp_ne (pc := 41) (tgt := 56) dX10_goPlan_41 (by decide) (fun h41 => ?_) (fun h41 => ?_)
          · skip
            refine x_ret (pc := 56) (v := none) rfl trivial dX10_goPlan_56 (by decide) ?_
            refine h _ (setN W n true) (only.put rfl) ⟨hQ.1, rfl, hQ.2.2.1, hQ.2.2.2.1, fun k hk j hj => (if_neg (by omega)).trans (hQ.2.2.2.2 k hk j hj)⟩ hset.symm hlt hI.up
          · skip
            omega
        · skip
          omega
    · skip
      omega
  · have hn16 := hn.2 (by decide)
    refine x_iload_n (pc := 0) dX10_goPlan_0 rfl ?_
    first | (guard_target =~ Wp _ _ _ _ _ (Value.int (nI _) :: _) _ _ _ _; with_reducible refine x_if_neN (pc := 1) (tgt := 16) ?_ dX10_goPlan_1 ?_ (fun h1 => ?_) (fun h1 => ?_); (first | omega | exact b2n_32 _ | exact b2n_31 _); decide) | refine x_if_ne (pc := 1) (tgt := 16) dX10_goPlan_1 (by decide) (fun h1 => ?_) (fun h1 => ?_)
    · skip
      refine x_iload_n (pc := 16) dX10_goPlan_16 rfl ?_
      refine x_iconstN (pc := 17) 1 dX10_goPlan_17 ic_1 ?_
      first | (guard_target =~ Wp _ _ _ _ _ (Value.int (nI _) :: Value.int (nI _) :: _) _ _ _ _; with_reducible refine x_icmp_neN (pc := 18) (tgt := 27) ?_ ?_ dX10_goPlan_18 ?_ (fun h18 => ?_) (fun h18 => ?_); (first | omega | exact b2n_31 _); (first | omega | exact b2n_31 _); decide) | refine x_icmp_ne (pc := 18) (tgt := 27) dX10_goPlan_18 (by decide) (fun h18 => ?_) (fun h18 => ?_)
      · skip
        refine x_iload_n (pc := 27) dX10_goPlan_27 rfl ?_
        refine x_iconstN (pc := 28) 2 dX10_goPlan_28 ic_2 ?_
        first | (guard_target =~ Wp _ _ _ _ _ (Value.int (nI _) :: Value.int (nI _) :: _) _ _ _ _; with_reducible refine x_icmp_neN (pc := 29) (tgt := 39) ?_ ?_ dX10_goPlan_29 ?_ (fun h29 => ?_) (fun h29 => ?_); (first | omega | exact b2n_31 _); (first | omega | exact b2n_31 _); decide) | refine x_icmp_ne (pc := 29) (tgt := 39) dX10_goPlan_29 (by decide) (fun h29 => ?_) (fun h29 => ?_)
        · skip
          exact absurd rfl h29
        · skip
          refine x_aload_n (pc := 32) dX10_goPlan_32 rfl ?_
          refine x_getR (pc := 33) dX10_goPlan_33 flX10_22 (by first | assumption | rfl) rfl ?_
          refine x_iload_n (pc := 36) dX10_goPlan_36 rfl ?_
          refine x_iconstN (pc := 37) 0 dX10_goPlan_37 ic_0 ?_
          refine x_iastN (pc := 38) dX10_goPlan_38 (by first | assumption | rfl) (by first | with_reducible rfl | (simp only [xlit, nI_add, pk_mul]; with_reducible rfl)) (by omega) (by decide) ?_
          refine x_iload_n (pc := 39) dX10_goPlan_39 rfl ?_
          refine x_iconstN (pc := 40) 3 dX10_goPlan_40 ic_3 ?_
          first | (guard_target =~ Wp _ _ _ _ _ (Value.int (nI _) :: Value.int (nI _) :: _) _ _ _ _; with_reducible refine x_icmp_neN (pc := 41) (tgt := 56) ?_ ?_ dX10_goPlan_41 ?_ (fun h41 => ?_) (fun h41 => ?_); (first | omega | exact b2n_31 _); (first | omega | exact b2n_31 _); decide) | refine x_icmp_ne (pc := 41) (tgt := 56) dX10_goPlan_41 (by decide) (fun h41 => ?_) (fun h41 => ?_)
          · skip
            refine x_ret (pc := 56) (v := none) rfl trivial dX10_goPlan_56 (by decide) ?_
            refine h _ W (only.put (by simp [pP]; omega)) ⟨hQ.1, hQ.2.1, hQ.2.2.1, hQ.2.2.2.1, fun k hk j hj => ?_⟩ rfl hW hI.lay
            show (if 66 + k = 66 ∧ j = n then nI 0 else M.1 (66 + k) j) = nI (if k = 0 ∧ j = n then 0 else B k j)
            by_cases z : k = 0 ∧ j = n
            · rw [if_pos (by omega), if_pos z]
            · rw [if_neg (by omega), if_neg z]; exact hQ.2.2.2.2 k hk j hj
          · skip
            omega
      · skip
        omega
    · skip
      omega
  · have hn16 := hn.2 (by decide)
    refine x_iload_n (pc := 0) dX10_goPlan_0 rfl ?_
    first | (guard_target =~ Wp _ _ _ _ _ (Value.int (nI _) :: _) _ _ _ _; with_reducible refine x_if_neN (pc := 1) (tgt := 16) ?_ dX10_goPlan_1 ?_ (fun h1 => ?_) (fun h1 => ?_); (first | omega | exact b2n_32 _ | exact b2n_31 _); decide) | refine x_if_ne (pc := 1) (tgt := 16) dX10_goPlan_1 (by decide) (fun h1 => ?_) (fun h1 => ?_)
    · skip
      refine x_iload_n (pc := 16) dX10_goPlan_16 rfl ?_
      refine x_iconstN (pc := 17) 1 dX10_goPlan_17 ic_1 ?_
      first | (guard_target =~ Wp _ _ _ _ _ (Value.int (nI _) :: Value.int (nI _) :: _) _ _ _ _; with_reducible refine x_icmp_neN (pc := 18) (tgt := 27) ?_ ?_ dX10_goPlan_18 ?_ (fun h18 => ?_) (fun h18 => ?_); (first | omega | exact b2n_31 _); (first | omega | exact b2n_31 _); decide) | refine x_icmp_ne (pc := 18) (tgt := 27) dX10_goPlan_18 (by decide) (fun h18 => ?_) (fun h18 => ?_)
      · skip
        refine x_iload_n (pc := 27) dX10_goPlan_27 rfl ?_
        refine x_iconstN (pc := 28) 2 dX10_goPlan_28 ic_2 ?_
        first | (guard_target =~ Wp _ _ _ _ _ (Value.int (nI _) :: Value.int (nI _) :: _) _ _ _ _; with_reducible refine x_icmp_neN (pc := 29) (tgt := 39) ?_ ?_ dX10_goPlan_29 ?_ (fun h29 => ?_) (fun h29 => ?_); (first | omega | exact b2n_31 _); (first | omega | exact b2n_31 _); decide) | refine x_icmp_ne (pc := 29) (tgt := 39) dX10_goPlan_29 (by decide) (fun h29 => ?_) (fun h29 => ?_)
        · skip
          refine x_iload_n (pc := 39) dX10_goPlan_39 rfl ?_
          refine x_iconstN (pc := 40) 3 dX10_goPlan_40 ic_3 ?_
          first | (guard_target =~ Wp _ _ _ _ _ (Value.int (nI _) :: Value.int (nI _) :: _) _ _ _ _; with_reducible refine x_icmp_neN (pc := 41) (tgt := 56) ?_ ?_ dX10_goPlan_41 ?_ (fun h41 => ?_) (fun h41 => ?_); (first | omega | exact b2n_31 _); (first | omega | exact b2n_31 _); decide) | refine x_icmp_ne (pc := 41) (tgt := 56) dX10_goPlan_41 (by decide) (fun h41 => ?_) (fun h41 => ?_)
          · skip
            exact absurd rfl h41
          · skip
            refine x_aload_n (pc := 44) dX10_goPlan_44 rfl ?_
            refine x_dup (pc := 45) dX10_goPlan_45 rfl ?_
            refine x_getI (pc := 46) dX10_goPlan_46 flX10_16 (by first | assumption | rfl) rfl ?_
            rw [hQ.2.2.1]
            refine x_iconstN (pc := 49) 1 dX10_goPlan_49 ic_1 ?_
            refine x_iload_n (pc := 50) dX10_goPlan_50 rfl ?_
            first | (guard_target =~ Wp _ _ _ _ _ (Value.int (nI _) :: Value.int (nI _) :: _) _ _ _ _; with_reducible refine x_ishlN (pc := 51) ?_ dX10_goPlan_51 ?_; omega) | refine x_ishl (pc := 51) dX10_goPlan_51 ?_
            rw [Nat.one_mul]
            first | (guard_target =~ Wp _ _ _ _ _ (Value.int (nI _) :: Value.int (nI _) :: _) _ _ _ _; with_reducible refine x_ixorN (pc := 52) dX10_goPlan_52 ?_) | refine x_ixor (pc := 52) dX10_goPlan_52 ?_
            refine x_putI (pc := 53) dX10_goPlan_53 flX10_16 (by first | assumption | rfl) rfl rfl rfl ?_
            refine x_ret (pc := 56) (v := none) rfl trivial dX10_goPlan_56 (by decide) ?_
            refine h _ W (only.put rfl) ⟨hQ.1, hQ.2.1, rfl, hQ.2.2.2.1, fun k hk j hj => ?_⟩ rfl hW (hI.fur hn16)
            refine ((if_neg (by omega)).trans (hQ.2.2.2.2 k hk j hj)).trans (congrArg nI ?_)
            show B k j = furA B (B 10 0 ^^^ 2 ^ n) k j
            exact (furA_e (by omega) (by omega)).symm
        · skip
          omega
      · skip
        omega
    · skip
      omega
theorem fM_ends {x : Int32} (hC : MC9 M s) (ok : okM s) (h : ∀ M', high M M' → MC9 M' s → K (some (.int (vEnds s x))) xSF M') : Ex g (d + 7) yX10_ends mX10_ends [.ref 65, .int x] xSF M K := by
  unfold vEnds at h
  have hB := ok.bd
  have h6 := hB.2.1
  obtain ⟨b0, hL⟩ := hC.ls ok
  have hQ := hC.1.mq
  have hL2 := ok.cache
  have hstd := ok.std
  have hN : bdN (qN s) := ok.1.2.1
  have hpl : ∀ k, k < qN s 8 0 → qN s 3 k = 1 → qN s 4 k < s.1.1 8 0 := ok.1.2.2.2.2.2.2
  have n2 : M.1 65 43 = nI (qN s 8 0) ∧ ∀ j, j < qN s 8 0 → M.1 91 j = nI (qN s 3 j) ∧ M.1 92 j = nI (qN s 4 j) := hC.1.2.2.2.2.2.2.2.1
  have h10 : qN s 8 0 ≤ 10 := hN.2.2.2.2.1
  refine x_entry kX10_ends (Nat.le_of_ble_eq_true rfl) ?_
  show Wp g _ mX10_ends 0 [some (.ref 65), some (.int x), none] [] _ _ _ _
  rcases isR_cases (x := x) (n := 2) (by decide) with e | ⟨w, hw, rfl, e⟩
  · simp only [e, Bool.false_eq_true, if_false] at h
    refine x_aload_n (pc := 0) dX10_ends_0 rfl ?_
    refine x_iload_n (pc := 1) dX10_ends_1 rfl ?_
    refine x_iconstN (pc := 2) 0 dX10_ends_2 ic_0 ?_
    refine x_iconstN (pc := 3) 1 dX10_ends_3 ic_1 ?_
    refine x_invV3 (pc := 4) dX10_ends_4 mlX10_253 imX10_in seX10_in kX10_in (by first | assumption | rfl) rfl (Nat.le_of_ble_eq_true rfl) (by decide) ?_
    refine sm_in ?_
    refine x_cv rfl rfl ?_
    rw [btw_isR (by decide), show isR x (nI (1 + 1)) = false from e]
    first | (guard_target =~ Wp _ _ _ _ _ (Value.int (nI _) :: _) _ _ _ _; with_reducible refine x_if_neN (pc := 7) (tgt := 12) ?_ dX10_ends_7 ?_ (fun h7 => ?_) (fun h7 => ?_); (first | omega | exact b2n_32 _ | exact b2n_31 _); decide) | refine x_if_ne (pc := 7) (tgt := 12) dX10_ends_7 (by decide) (fun h7 => ?_) (fun h7 => ?_)
    · skip
      exact absurd rfl h7
    · skip
      refine x_iconst (pc := 10) dX10_ends_10 ic_m1 ?_
      refine x_ret (pc := 11) (v := some _) rfl trivial dX10_ends_11 (by decide) ?_
      exact h M high.rf hC
  simp only [e, if_true] at h
  rw [toN_nI (by omega)] at h
  have fin : ∀ M1, only pY M M1 → kpt M M1 → MLs M1 s.1.2.2.2.2 b0 → ∀ o2, (∀ c, c < 16 → M1.1 66 c = nI (plB s 0 c) ∧ plB s 0 c < 67108864) → plB s 13 0 = bldF 30 s.1.2.2.2.2 → Wp g (d + 7) mX10_ends 48 [some (.ref 65), some (.int (nI w)), o2] [] xSF (0, 0) M1 K := by
    intro M1 ho hk hL1 o2 hx hb13
    refine x_iload_n (pc := 48) dX10_ends_48 rfl ?_
    first | (guard_target =~ Wp _ _ _ _ _ (Value.int (nI _) :: _) _ _ _ _; with_reducible refine x_if_neN (pc := 49) (tgt := 59) ?_ dX10_ends_49 ?_ (fun h49 => ?_) (fun h49 => ?_); (first | omega | exact b2n_32 _ | exact b2n_31 _); decide) | refine x_if_ne (pc := 49) (tgt := 59) dX10_ends_49 (by decide) (fun h49 => ?_) (fun h49 => ?_)
    · skip
      refine x_aload_n (pc := 59) dX10_ends_59 rfl ?_
      refine x_aload_n (pc := 60) dX10_ends_60 rfl ?_
      refine x_invV0 (pc := 61) dX10_ends_61 mlX10_384 imX10_baldSet seX10_baldSet kX10_baldSet (by first | assumption | rfl) rfl (Nat.le_of_ble_eq_true rfl) (by decide) ?_
      refine sm_baldSet (A := plB s) hL1 hb13 hx ?_
      refine x_cv rfl rfl ?_
      refine x_invV1 (pc := 64) dX10_ends_64 mlX10_400 imX10_bits seX10_bits kX10_bits (by first | assumption | rfl) rfl (Nat.le_of_ble_eq_true rfl) (by decide) ?_
      refine sm_bits ?_
      refine x_cv rfl rfl ?_
      refine x_istore_n (pc := 67) dX10_ends_67 (by decide) xs_2 (x_hp rfl) ?_
      refine x_aload_n (pc := 68) dX10_ends_68 rfl ?_
      refine x_invV0 (pc := 69) dX10_ends_69 mlX10_378 imX10_putBack seX10_putBack kX10_putBack (by first | assumption | rfl) rfl (Nat.le_of_ble_eq_true rfl) (by decide) ?_
      refine sm_putBack ho hk hC.2.2.2.2.2.1 (fun M6 ho6 _ => ?_)
      refine x_cn rfl rfl ?_
      refine x_iload_n (pc := 72) dX10_ends_72 rfl ?_
      refine x_ret (pc := 73) (v := some _) rfl trivial dX10_ends_73 (by decide) ?_
      rw [if_neg h49] at h; exact h M6 ho6.qsm.1.1 (hC.st ho6.qsm)
    · skip
      refine x_aload_n (pc := 52) dX10_ends_52 rfl ?_
      refine x_invV0 (pc := 53) dX10_ends_53 mlX10_387 imX10_allWear seX10_allWear kX10_allWear (by first | assumption | rfl) rfl (Nat.le_of_ble_eq_true rfl) (by decide) ?_
      refine sm_allWear (A := plB s) hx ?_
      refine x_cv rfl rfl ?_
      refine x_goto (pc := 56) (tgt := 67) dX10_ends_56 (by decide) ?_
      refine x_istore_n (pc := 67) dX10_ends_67 (by decide) xs_2 (x_hp rfl) ?_
      refine x_aload_n (pc := 68) dX10_ends_68 rfl ?_
      refine x_invV0 (pc := 69) dX10_ends_69 mlX10_378 imX10_putBack seX10_putBack kX10_putBack (by first | assumption | rfl) rfl (Nat.le_of_ble_eq_true rfl) (by decide) ?_
      refine sm_putBack ho hk hC.2.2.2.2.2.1 (fun M6 ho6 _ => ?_)
      refine x_cn rfl rfl ?_
      refine x_iload_n (pc := 72) dX10_ends_72 rfl ?_
      refine x_ret (pc := 73) (v := some _) rfl trivial dX10_ends_73 (by decide) ?_
      rw [if_pos h49] at h; exact h M6 ho6.qsm.1.1 (hC.st ho6.qsm)
  have loop : ∀ m k M1 W, k + m = qN s 8 0 → only pY M M1 → kpt M M1 → M1.1 65 33 = nI 2000000000 → MNow M1 (plF (qN s) (s.1.1, qw s) k).1 W → (plF (qN s) (s.1.1, qw s) k).2 = nI W → W < 64 → PI s.1.1 (plF (qN s) (s.1.1, qw s) k).1 s.1.2.2.2.2 k → M1.1 65 43 = M.1 65 43 → (∀ j, M1.1 91 j = M.1 91 j ∧ M1.1 92 j = M.1 92 j) → Wp g (d + 7) mX10_ends 18 [some (.ref 65), some (.int (nI w)), some (.int (nI k))] [] xSF (0, 0) M1 K := by
    intro m
    induction m with
    | zero =>
      intro k M1 W hk ho hkp h33 hQ1 hw2 hW hI e43 e9
      obtain rfl : k = qN s 8 0 := by omega
      refine x_iload_n (pc := 18) dX10_ends_18 rfl ?_
      refine x_aload_n (pc := 19) dX10_ends_19 rfl ?_
      refine x_getI (pc := 20) dX10_ends_20 flX10_141 (by first | assumption | rfl) rfl ?_
      rw [e43, n2.1]
      first | (guard_target =~ Wp _ _ _ _ _ (Value.int (nI _) :: Value.int (nI _) :: _) _ _ _ _; with_reducible refine x_icmp_geN (pc := 23) (tgt := 48) ?_ ?_ dX10_ends_23 ?_ (fun h23 => ?_) (fun h23 => ?_); (first | omega | exact b2n_31 _); (first | omega | exact b2n_31 _); decide) | refine x_icmp_ge (pc := 23) (tgt := 48) dX10_ends_23 (by decide) (fun h23 => ?_) (fun h23 => ?_)
      · skip
        refine fin M1 ho hkp (hL.keep ho pY_L) _ (fun c hc => ⟨hQ1.2.2.2.2 0 (by decide) c hc, ?_⟩) hI.2.1.2.2.1
        have := hI.2.2.1 c hc
        show (plF (qN s) (s.1.1, qw s) (qN s 8 0)).1 0 c < _
        omega
      · skip
        omega
    | succ m ih =>
      intro k M1 W hk ho hkp h33 hQ1 hw2 hW hI e43 e9
      have hk2 : k < qN s 8 0 := by omega
      obtain ⟨p1, p2⟩ := n2.2 k hk2
      obtain ⟨q1, q2⟩ := hN.2.1 k hk2
      have hplS : plF (qN s) (s.1.1, qw s) (k + 1) = plS ((plF (qN s) (s.1.1, qw s) k).1, nI W) (qN s 3 k) (qN s 4 k) := by
        rw [plF, ← hw2]
      refine x_iload_n (pc := 18) dX10_ends_18 rfl ?_
      refine x_aload_n (pc := 19) dX10_ends_19 rfl ?_
      refine x_getI (pc := 20) dX10_ends_20 flX10_141 (by first | assumption | rfl) rfl ?_
      rw [e43, n2.1]
      first | (guard_target =~ Wp _ _ _ _ _ (Value.int (nI _) :: Value.int (nI _) :: _) _ _ _ _; with_reducible refine x_icmp_geN (pc := 23) (tgt := 48) ?_ ?_ dX10_ends_23 ?_ (fun h23 => ?_) (fun h23 => ?_); (first | omega | exact b2n_31 _); (first | omega | exact b2n_31 _); decide) | refine x_icmp_ge (pc := 23) (tgt := 48) dX10_ends_23 (by decide) (fun h23 => ?_) (fun h23 => ?_)
      · skip
        omega
      · skip
        refine x_aload_n (pc := 26) dX10_ends_26 rfl ?_
        refine x_aload_n (pc := 27) dX10_ends_27 rfl ?_
        refine x_getR (pc := 28) dX10_ends_28 flX10_147 (by first | assumption | rfl) rfl ?_
        refine x_iload_n (pc := 31) dX10_ends_31 rfl ?_
        refine x_ialdN (pc := 32) dX10_ends_32 (by first | assumption | rfl) (by first | with_reducible rfl | (simp only [xlit, nI_add, pk_mul]; with_reducible rfl)) (by omega) (by decide) ?_
        rw [(e9 k).1, p1]
        refine x_aload_n (pc := 33) dX10_ends_33 rfl ?_
        refine x_getR (pc := 34) dX10_ends_34 flX10_150 (by first | assumption | rfl) rfl ?_
        refine x_iload_n (pc := 37) dX10_ends_37 rfl ?_
        refine x_ialdN (pc := 38) dX10_ends_38 (by first | assumption | rfl) (by first | with_reducible rfl | (simp only [xlit, nI_add, pk_mul]; with_reducible rfl)) (by omega) (by decide) ?_
        rw [(e9 k).2, p2]
        refine x_invV2 (pc := 39) dX10_ends_39 mlX10_433 imX10_goPlan seX10_goPlan kX10_goPlan (by first | assumption | rfl) rfl (Nat.le_of_ble_eq_true rfl) (by decide) ?_
        refine sm_goPlan (A := s.1.1) (B := (plF (qN s) (s.1.1, qw s) k).1) (k := k) q1 ⟨fun z => by have := hpl k hk2 z; omega, fun z => q2 z⟩ (by omega) hI (hL.keep ho pY_L) hQ1 hW h33 (fun M5 W' ho5 hQ5 hw5 hW5 hI5 => ?_)
        refine x_cn rfl rfl ?_
        first | (guard_target =~ Wp _ _ _ _ (_ :: _ :: some (Value.int (nI _)) :: _) _ _ _ _ _; with_reducible refine x_iincN (pc := 42) 1 ic_1 dX10_ends_42 ?_ xg_2 xs_2 ?_ ?_; decide; exact (x_hp rfl)) | refine x_iincC (pc := 42) ic_1 dX10_ends_42 (by decide) rfl xs_2 (x_hp rfl) ?_
        refine x_goto (pc := 45) (tgt := 18) dX10_ends_45 (by decide) ?_
        rw [← hplS] at hQ5 hw5 hI5
        exact ih (k + 1) M5 W' (by omega) (ho.tr (ho5.wide pP_Y)) (hkp.keep ho5 pP_K) ((ho5.1 65 33 rfl).trans h33) hQ5 hw5 hW5 hI5 ((ho5.1 65 43 rfl).trans e43) (fun j => ⟨(ho5.1 91 j rfl).trans (e9 j).1, (ho5.1 92 j rfl).trans (e9 j).2⟩)
  refine x_aload_n (pc := 0) dX10_ends_0 rfl ?_
  refine x_iload_n (pc := 1) dX10_ends_1 rfl ?_
  refine x_iconstN (pc := 2) 0 dX10_ends_2 ic_0 ?_
  refine x_iconstN (pc := 3) 1 dX10_ends_3 ic_1 ?_
  refine x_invV3 (pc := 4) dX10_ends_4 mlX10_253 imX10_in seX10_in kX10_in (by first | assumption | rfl) rfl (Nat.le_of_ble_eq_true rfl) (by decide) ?_
  refine sm_in ?_
  refine x_cv rfl rfl ?_
  rw [btw_isR (by decide), show isR (nI w) (nI (1 + 1)) = true from e]
  first | (guard_target =~ Wp _ _ _ _ _ (Value.int (nI _) :: _) _ _ _ _; with_reducible refine x_if_neN (pc := 7) (tgt := 12) ?_ dX10_ends_7 ?_ (fun h7 => ?_) (fun h7 => ?_); (first | omega | exact b2n_32 _ | exact b2n_31 _); decide) | refine x_if_ne (pc := 7) (tgt := 12) dX10_ends_7 (by decide) (fun h7 => ?_) (fun h7 => ?_)
  · skip
    refine x_aload_n (pc := 12) dX10_ends_12 rfl ?_
    refine x_invV0 (pc := 13) dX10_ends_13 mlX10_375 imX10_save seX10_save kX10_save (by first | assumption | rfl) rfl (Nat.le_of_ble_eq_true rfl) (by decide) ?_
    refine sm_save (fun M2 ho2 hk2 h332 => ?_)
    refine x_cn rfl rfl ?_
    refine x_iconstN (pc := 16) 0 dX10_ends_16 ic_0 ?_
    refine x_istore_n (pc := 17) dX10_ends_17 (by decide) xs_2 (x_hp rfl) ?_
    refine loop (qN s 8 0) 0 M2 s.1.2.1 (by omega) (ho2.wide pY_S) hk2 h332 (hQ.keep ho2 pS_Q) rfl ok.away ⟨hB, hL2, fun c hc => ?_, ?_, rfl⟩ (ho2.1 65 43 rfl) (fun j => ⟨ho2.1 91 j rfl, ho2.1 92 j rfl⟩)
    · have := hstd.1 c hc; show s.1.1 0 c ≤ _; omega
    · have := hstd.2; show s.1.1 11 0 ≤ _; omega
  · skip
    cases h7
end P91
