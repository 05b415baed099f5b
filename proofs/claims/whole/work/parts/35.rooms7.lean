/-! ROOMS of the program: what is kept; readFor, closeText, addSign, copyYields -/
/-- the texts kept: ln r signs tx r in row r; made of them are ROOMS -/
def RmS (M : XM) (tx : Nat → Nat → Nat) (ln : Nat → Nat) (made : Nat) : Prop := M.1 41 2 = nI made ∧ made ≤ 6 ∧ ∀ r, r ≤ 6 → M.1 43 r = nI (ln r) ∧ ln r ≤ 100 ∧ ∀ p, p < ln r → M.1 42 (100 * r + p) = nI (tx r p) ∧ tx r p < 128
/-- only what a reading lays changes -/
def rsm (M M' : XM) : Prop := (∀ a, a ≠ 41 → a ≠ 44 → M'.1 a = M.1 a) ∧ M'.1 41 2 = M.1 41 2 ∧ M'.2 = M.2
theorem rsm.rf {M : XM} : rsm M M := ⟨fun _ _ _ => rfl, rfl, rfl⟩
theorem rsm.tr {M M1 M2 : XM} (h : rsm M M1) (h2 : rsm M1 M2) : rsm M M2 := ⟨fun a k h1 => (h2.1 a k h1).trans (h.1 a k h1), h2.2.1.trans h.2.1, h2.2.2.trans h.2.2⟩
theorem rsm.p41 {M : XM} {k : Nat} {x : Int32} (hk : k ≠ 2) : rsm M (xput M 41 k x) := ⟨fun a h1 _ => funext fun j => if_neg (by omega), if_neg (by omega), rfl⟩
theorem rsm.p44 {M : XM} {k : Nat} {x : Int32} : rsm M (xput M 44 k x) := ⟨fun a _ h1 => funext fun j => if_neg (by omega), xput_ne (Or.inl (by decide)), rfl⟩
theorem rsame.rsm {M M' : XM} (h : rsame M M') : rsm M M' := ⟨fun a h1 h2 => funext fun k => h.1 a k h2 (by omega), h.1 41 2 (by decide) (by decide), h.2⟩
theorem rM_rsm {M : XM} {p : Nat} {br : Bool} : rsm M (rM M p br) := by
  refine ⟨fun a h1 _ => funext fun j => ?_, rfl, rfl⟩
  show (if a = 41 ∧ j = 5 then nI p else if a = 41 ∧ j = 6 then nI (b2n br) else M.1 a j) = M.1 a j
  rw [if_neg (by omega), if_neg (by omega)]
theorem RmS.same {M M' : XM} {tx : Nat → Nat → Nat} {ln : Nat → Nat} {made : Nat} (h : RmS M tx ln made) (hs : rsm M M') : RmS M' tx ln made := by
  obtain ⟨h1, h2, h3⟩ := h
  exact ⟨hs.2.1.trans h1, h2, fun r hr => by rw [hs.1 43 (by decide) (by decide), hs.1 42 (by decide) (by decide)]; exact h3 r hr⟩
/-- what a reading leaves -/
def rdO (M : XM) (f : Nat → Nat) (l : List XCl) : Prop := M.1 41 6 = nI 0 ∧ M.1 41 11 = nI (bldF 30 l) ∧ ∀ i, i < 16 → M.1 44 i = Int32.ofInt (sumF (fctC f i) 1 l)
section P35
variable {g : XG} {d : Nat} {S : XS} {M : XM} {K : Option Value → XS → XM → Prop} {b n p : Nat} {c f : Nat → Nat} {tx : Nat → Nat → Nat} {ln : Nat → Nat} {made : Nat}
theorem rdE {gg kk vv : Nat} {rm : Int32} (h : ∀ M2, rsm M M2 → M2.1 41 7 = nI gg → M2.1 41 8 = nI kk → M2.1 41 9 = nI vv → M2.1 41 5 = nI 0 → M2.1 41 6 = nI 0 → M2.1 41 11 = nI 30 → (∀ i, i < 16 → M2.1 44 i = Int32.ofInt 1) → Wp g d mX6_readFor 56 [some (.ref 41), some (.int rm), some (.int (nI gg)), some (.int (nI kk)), some (.int (nI vv)), some (.int (nI 16))] [] xSF (0, 0) M2 K) : Ex g d yX6_readFor mX6_readFor [.ref 41, .int rm, .int (nI gg), .int (nI kk), .int (nI vv)] xSF M K := by
  refine x_entry kX6_readFor (Nat.le_of_ble_eq_true rfl) ?_
  show Wp g _ mX6_readFor 0 [some (.ref 41), some (.int rm), some (.int (nI gg)), some (.int (nI kk)), some (.int (nI vv)), none] [] _ _ _ _
  have loop : ∀ m i M2, i + m = 16 → rsm M M2 → M2.1 41 7 = nI gg → M2.1 41 8 = nI kk → M2.1 41 9 = nI vv → M2.1 41 5 = nI 0 → M2.1 41 6 = nI 0 → M2.1 41 11 = nI 30 → (∀ j, j < i → M2.1 44 j = Int32.ofInt 1) → Wp g d mX6_readFor 35 [some (.ref 41), some (.int rm), some (.int (nI gg)), some (.int (nI kk)), some (.int (nI vv)), some (.int (nI i))] [] xSF (0, 0) M2 K := by
    intro m
    induction m with
    | zero =>
      intro i M2 hi a1 a2 a3 a4 a5 a6 a7 a8
      obtain rfl : i = 16 := by omega
      refine x_iload (pc := 35) dX6_readFor_35 rfl ?_
      refine x_bipushN (pc := 37) 16 dX6_readFor_37 bp_16 ?_
      first | (guard_target =~ Wp _ _ _ _ _ (Value.int (nI _) :: Value.int (nI _) :: _) _ _ _ _; with_reducible refine x_icmp_geN (pc := 39) (tgt := 56) ?_ ?_ dX6_readFor_39 ?_ (fun h39 => ?_) (fun h39 => ?_); (first | omega | exact b2n_31 _); (first | omega | exact b2n_31 _); decide) | refine x_icmp_ge (pc := 39) (tgt := 56) dX6_readFor_39 (by decide) (fun h39 => ?_) (fun h39 => ?_)
      · skip
        exact h M2 a1 a2 a3 a4 a5 a6 a7 a8
      · skip
        omega
    | succ m ih =>
      intro i M2 hi a1 a2 a3 a4 a5 a6 a7 a8
      refine x_iload (pc := 35) dX6_readFor_35 rfl ?_
      refine x_bipushN (pc := 37) 16 dX6_readFor_37 bp_16 ?_
      first | (guard_target =~ Wp _ _ _ _ _ (Value.int (nI _) :: Value.int (nI _) :: _) _ _ _ _; with_reducible refine x_icmp_geN (pc := 39) (tgt := 56) ?_ ?_ dX6_readFor_39 ?_ (fun h39 => ?_) (fun h39 => ?_); (first | omega | exact b2n_31 _); (first | omega | exact b2n_31 _); decide) | refine x_icmp_ge (pc := 39) (tgt := 56) dX6_readFor_39 (by decide) (fun h39 => ?_) (fun h39 => ?_)
      · skip
        omega
      · skip
        refine x_aload_n (pc := 42) dX6_readFor_42 rfl ?_
        refine x_getR (pc := 43) dX6_readFor_43 flX6_19 (by first | assumption | rfl) rfl ?_
        refine x_iload (pc := 46) dX6_readFor_46 rfl ?_
        refine x_iconstN (pc := 48) 1 dX6_readFor_48 ic_1 ?_
        refine x_iastN (pc := 49) dX6_readFor_49 (by first | assumption | rfl) (by first | with_reducible rfl | (simp only [xlit, nI_add, pk_mul]; with_reducible rfl)) (by omega) (by decide) ?_
        first | (guard_target =~ Wp _ _ _ _ (_ :: _ :: _ :: _ :: _ :: some (Value.int (nI _)) :: _) _ _ _ _ _; with_reducible refine x_iincN (pc := 50) 1 ic_1 dX6_readFor_50 ?_ xg_5 xs_5 ?_ ?_; decide; exact (x_hp rfl)) | refine x_iincC (pc := 50) ic_1 dX6_readFor_50 (by decide) rfl xs_5 (x_hp rfl) ?_
        refine x_goto (pc := 53) (tgt := 35) dX6_readFor_53 (by decide) ?_
        refine ih (i + 1) _ (by omega) (a1.tr rsm.p44) a2 a3 a4 a5 a6 a7 (fun j hj => ?_)
        by_cases hji : j = i
        · subst hji; rw [xput_at]; rfl
        · rw [xput_ne (Or.inr hji)]; exact a8 j (by omega)
  refine x_aload_n (pc := 0) dX6_readFor_0 rfl ?_
  refine x_iload_n (pc := 1) dX6_readFor_1 rfl ?_
  refine x_putI (pc := 2) dX6_readFor_2 flX6_46 (by first | assumption | rfl) rfl rfl rfl ?_
  refine x_aload_n (pc := 5) dX6_readFor_5 rfl ?_
  refine x_iload_n (pc := 6) dX6_readFor_6 rfl ?_
  refine x_putI (pc := 7) dX6_readFor_7 flX6_49 (by first | assumption | rfl) rfl rfl rfl ?_
  refine x_aload_n (pc := 10) dX6_readFor_10 rfl ?_
  refine x_iload (pc := 11) dX6_readFor_11 rfl ?_
  refine x_putI (pc := 13) dX6_readFor_13 flX6_52 (by first | assumption | rfl) rfl rfl rfl ?_
  refine x_aload_n (pc := 16) dX6_readFor_16 rfl ?_
  refine x_iconstN (pc := 17) 0 dX6_readFor_17 ic_0 ?_
  refine x_putI (pc := 18) dX6_readFor_18 flX6_34 (by first | assumption | rfl) rfl rfl rfl ?_
  refine x_aload_n (pc := 21) dX6_readFor_21 rfl ?_
  refine x_iconstN (pc := 22) 0 dX6_readFor_22 ic_0 ?_
  refine x_putI (pc := 23) dX6_readFor_23 flX6_30 (by first | assumption | rfl) rfl (by first | rfl | decide) (by first | rfl | decide) ?_
  refine x_aload_n (pc := 26) dX6_readFor_26 rfl ?_
  refine x_bipushN (pc := 27) 30 dX6_readFor_27 bp_30 ?_
  refine x_putI (pc := 29) dX6_readFor_29 flX6_37 (by first | assumption | rfl) rfl rfl rfl ?_
  refine x_iconstN (pc := 32) 0 dX6_readFor_32 ic_0 ?_
  refine x_istore (pc := 33) dX6_readFor_33 (by decide) xs_5 (x_hp rfl) ?_
  exact loop 16 0 _ rfl ((((((rsm.p41 (by decide)).tr (rsm.p41 (by decide))).tr (rsm.p41 (by decide))).tr (rsm.p41 (by decide))).tr (rsm.p41 (by decide))).tr (rsm.p41 (by decide))) rfl rfl rfl rfl rfl rfl (fun j hj => by omega)
theorem sp_X6_readFor {gg kk vv : Nat} (hg : gg < 100) (hk : kk < 100) (hv : vv < 100) (hR : RmS M tx ln made) (hb : b ≤ 6)
    (h0 : ∀ q, pR (chT (ln b) (tx b)) 9 0 = (none, q) → ∀ M', rsm M M' → M'.1 41 6 = nI 1 → M'.1 41 5 = nI q → K none xSF M')
    (h : ∀ l q, pR (chT (ln b) (tx b)) 9 0 = (some l, q) → ∀ M', rsm M M' → rdO M' (fG gg kk vv) l → K none xSF M') : Ex g (d + 17) yX6_readFor mX6_readFor [.ref 41, .int (nI b), .int (nI gg), .int (nI kk), .int (nI vv)] xSF M K := by
  obtain ⟨l1, l2, l3⟩ := hR.2.2 b hb
  have hX : TX (chT (ln b) (tx b)) (ln b) := chT_TX l2 (fun p hp => (l3 p hp).2)
  have hf : ∀ k, fG gg kk vv k < 100 := by
    intro k
    unfold fG
    split
    · exact hg
    · split
      · exact hk
      · exact hv
  refine rdE (fun M2 a1 a2 a3 a4 a5 a6 a7 a8 => ?_)
  have rest : ∀ M3, rsm M M3 → RT M3 b (ln b) (chT (ln b) (tx b)) (fG gg kk vv) → M3.1 41 5 = nI 0 → M3.1 41 6 = nI 0 → M3.1 41 11 = nI 30 → (∀ i, i < 16 → M3.1 44 i = Int32.ofInt 1) → Wp g (d + 17) mX6_readFor 85 [some (.ref 41), some (.int (nI b)), some (.int (nI gg)), some (.int (nI kk)), some (.int (nI vv)), some (.int (nI 16))] [] xSF (0, 0) M3 K := by
    intro M3 b1 b2 b3 b4 b5 b6
    rw [← rM_id (M := M3) (p := 0) (br := false) b3 b4]
    have g0 : ∀ r, ∀ M4, rsame M3 M4 → pR (chT (ln b) (tx b)) 9 0 = (none, r) → K none xSF (rM M4 r true) := fun r M4 hs hr => h0 r hr _ ((b1.tr hs.rsm).tr rM_rsm) rfl rfl
    have g1 : ∀ l r, ∀ M4, rsame M3 M4 → M4.1 41 11 = nI (bldF 30 l) → (∀ i, i < 16 → M4.1 44 i = Int32.ofInt (sumF (fctC (fG gg kk vv) i) 1 l)) → pR (chT (ln b) (tx b)) 9 0 = (some l, r) → K none xSF (rM M4 r false) := fun l r M4 hs hb hz hr => h l r hr _ ((b1.tr hs.rsm).tr rM_rsm) ⟨rfl, hb, hz⟩
    refine x_aload_n (pc := 85) dX6_readFor_85 rfl ?_
    refine x_invV0 (pc := 86) dX6_readFor_86 mlX6_61 imX6_clause seX6_clause kX6_clause (by first | assumption | rfl) rfl (Nat.le_of_ble_eq_true rfl) (by decide) ?_
    refine sp_X6_clause hf b2 (Nat.zero_le _) (fun r hr M4 hs => ?_) (fun x r hr M4 hs hb hz => ?_)
    · refine x_cn rfl rfl ?_
      refine x_iconstN (pc := 89) 1 dX6_readFor_89 ic_1 ?_
      refine x_istore (pc := 90) dX6_readFor_90 (by decide) xs_5 (x_hp rfl) ?_
      exact rdB (by decide) (b2.same hs) (pC_ok hX (Nat.zero_le _) hr).2.1 (g0 r M4 hs (pR_n hr))
    refine x_cn rfl rfl ?_
    refine x_iconstN (pc := 89) 1 dX6_readFor_89 ic_1 ?_
    refine x_istore (pc := 90) dX6_readFor_90 (by decide) xs_5 (x_hp rfl) ?_
    have hro := pC_ok hX (Nat.zero_le _) hr
    refine rdL hf 9 1 r M4 (if x.1 = 2 then x.2.1 else 30) (fun i => 1 + wgtC (fctC (fG gg kk vv) i) x) _ _ _ (by decide) (by decide) hro.2.1 hs (b2.same hs) (by rw [hb, b5]; split <;> rfl) (fun i hi => by rw [hz i hi, b6 i hi, oI_add]) (fun r' hr' M5 h5 => g0 r' M5 h5 (by rw [pR_s hr, hr']; rfl)) (fun l r' hr' M5 h5 hb5 hz5 => g1 (x :: l) r' M5 h5 hb5 hz5 (by rw [pR_s hr, hr']; rfl))
  refine x_iload_n (pc := 56) dX6_readFor_56 rfl ?_
  refine x_if_ltN (pc := 57) (by omega) (tgt := 66) dX6_readFor_57 (by decide) ?_
  refine x_iload_n (pc := 60) dX6_readFor_60 rfl ?_
  refine x_bipushN (pc := 61) 6 dX6_readFor_61 bp_6 ?_
  first | (guard_target =~ Wp _ _ _ _ _ (Value.int (nI _) :: Value.int (nI _) :: _) _ _ _ _; with_reducible refine x_icmp_leN (pc := 63) (tgt := 67) ?_ ?_ dX6_readFor_63 ?_ (fun h63 => ?_) (fun h63 => ?_); (first | omega | exact b2n_31 _); (first | omega | exact b2n_31 _); decide) | refine x_icmp_le (pc := 63) (tgt := 67) dX6_readFor_63 (by decide) (fun h63 => ?_) (fun h63 => ?_)
  · skip
    refine x_aload_n (pc := 67) dX6_readFor_67 rfl ?_
    refine x_iload_n (pc := 68) dX6_readFor_68 rfl ?_
    refine x_bipushN (pc := 69) 100 dX6_readFor_69 bp_100 ?_
    first | (guard_target =~ Wp _ _ _ _ _ (Value.int (nI _) :: Value.int (nI _) :: _) _ _ _ _; with_reducible refine x_imulN (pc := 71) dX6_readFor_71 ?_) | refine x_imul (pc := 71) dX6_readFor_71 ?_
    refine x_putI (pc := 72) dX6_readFor_72 flX6_55 (by first | assumption | rfl) rfl rfl rfl ?_
    refine x_aload_n (pc := 75) dX6_readFor_75 rfl ?_
    refine x_aload_n (pc := 76) dX6_readFor_76 rfl ?_
    refine x_getR (pc := 77) dX6_readFor_77 flX6_15 (by first | assumption | rfl) rfl ?_
    refine x_iload_n (pc := 80) dX6_readFor_80 rfl ?_
    refine x_ialdN (pc := 81) dX6_readFor_81 (by first | assumption | rfl) (by first | with_reducible rfl | (simp only [xlit, nI_add, pk_mul]; with_reducible rfl)) (by omega) (by decide) ?_
    rw [xput_ne (Or.inl (by decide)), a1.1 43 (by decide) (by decide), l1]
    refine x_putI (pc := 82) dX6_readFor_82 flX6_58 (by first | assumption | rfl) rfl rfl rfl ?_
    refine rest _ ((a1.tr (rsm.p41 (by decide))).tr (rsm.p41 (by decide))) ⟨by rw [Nat.mul_comm]; rfl, hb, rfl, hX, fun j hj => ?_, a2, a3, a4⟩ a5 a6 a7 a8
    show M2.1 42 (100 * b + j) = _
    rw [a1.1 42 (by decide) (by decide), (l3 j hj).1]
    unfold chT
    rw [if_pos hj]
    rfl
  · skip
    omega
theorem sp_X6_readFor0 {gg kk vv : Nat} (h : ∀ M', rsm M M' → rdO M' (fG gg kk vv) [] → K none xSF M') : Ex g d yX6_readFor mX6_readFor [.ref 41, .int (-1), .int (nI gg), .int (nI kk), .int (nI vv)] xSF M K := by
  refine rdE (fun M2 a1 a2 a3 a4 a5 a6 a7 a8 => ?_)
  refine x_iload_n (pc := 56) dX6_readFor_56 rfl ?_
  refine x_if_lt (pc := 57) (tgt := 66) dX6_readFor_57 (by decide) (fun h57 => ?_) (fun h57 => ?_)
  · skip
    refine x_ret (pc := 66) (v := none) rfl trivial dX6_readFor_66 (by decide) ?_
    exact h M2 a1 ⟨a6, a7, a8⟩
  · skip
    exact absurd (by decide) h57
theorem sp_X6_howMany (hR : RmS M tx ln made) (h : K (some (.int (nI made))) xSF M) : Ex g d yX6_howMany mX6_howMany [.ref 41] xSF M K := by
  refine x_entry kX6_howMany (Nat.le_of_ble_eq_true rfl) ?_
  show Wp g _ mX6_howMany 0 [some (.ref 41)] [] _ _ _ _
  refine x_aload_n (pc := 0) dX6_howMany_0 rfl ?_
  refine x_getI (pc := 1) dX6_howMany_1 flX6_22 (by first | assumption | rfl) rfl ?_
  rw [hR.1]
  refine x_ret (pc := 4) (v := some _) rfl trivial dX6_howMany_4 (by decide) ?_
  exact h
theorem sp_X6_textLength (hR : RmS M tx ln made) (h : K (some (.int (nI (ln made)))) xSF M) : Ex g d yX6_textLength mX6_textLength [.ref 41] xSF M K := by
  have h6 := hR.2.1
  refine x_entry kX6_textLength (Nat.le_of_ble_eq_true rfl) ?_
  show Wp g _ mX6_textLength 0 [some (.ref 41)] [] _ _ _ _
  refine x_aload_n (pc := 0) dX6_textLength_0 rfl ?_
  refine x_getR (pc := 1) dX6_textLength_1 flX6_15 (by first | assumption | rfl) rfl ?_
  refine x_aload_n (pc := 4) dX6_textLength_4 rfl ?_
  refine x_getI (pc := 5) dX6_textLength_5 flX6_22 (by first | assumption | rfl) rfl ?_
  rw [hR.1]
  refine x_ialdN (pc := 8) dX6_textLength_8 (by first | assumption | rfl) (by first | with_reducible rfl | (simp only [xlit, nI_add, pk_mul]; with_reducible rfl)) (by omega) (by decide) ?_
  rw [(hR.2.2 made h6).1]
  refine x_ret (pc := 9) (v := some _) rfl trivial dX6_textLength_9 (by decide) ?_
  exact h
theorem sp_X6_baldAt {v : Nat} (hb : M.1 41 11 = nI v) (h : K (some (.int (nI v))) xSF M) : Ex g d yX6_baldAt mX6_baldAt [.ref 41] xSF M K := by
  refine x_entry kX6_baldAt (Nat.le_of_ble_eq_true rfl) ?_
  show Wp g _ mX6_baldAt 0 [some (.ref 41)] [] _ _ _ _
  refine x_aload_n (pc := 0) dX6_baldAt_0 rfl ?_
  refine x_getI (pc := 1) dX6_baldAt_1 flX6_37 (by first | assumption | rfl) rfl ?_
  rw [hb]
  refine x_ret (pc := 4) (v := some _) rfl trivial dX6_baldAt_4 (by decide) ?_
  exact h
def up2 (F : Nat → Nat → Nat) (a k v : Nat) : Nat → Nat → Nat := fun a' k' => if a' = a ∧ k' = k then v else F a' k'
def up1 (F : Nat → Nat) (k v : Nat) : Nat → Nat := fun k' => if k' = k then v else F k'
/-- only the rooms change -/
theorem nar_by : ∀ x, x < 128 → narrow .byte (.int (nI x)) = .int (nI x) := by decide +kernel
theorem sp_X6_addSign {x : Nat} (hx : x < 128) (hR : RmS M tx ln made) (h0 : ln made = 100 → K (some (.int (nI 0))) xSF M) (h : ln made < 100 → ∀ M', xsame 41 45 M M' → RmS M' (up2 tx made (ln made) x) (up1 ln made (ln made + 1)) made → K (some (.int (nI 1))) xSF M') : Ex g d yX6_addSign mX6_addSign [.ref 41, .int (nI x)] xSF M K := by
  have h6 := hR.2.1
  obtain ⟨l1, l2, l3⟩ := hR.2.2 made h6
  refine x_entry kX6_addSign (Nat.le_of_ble_eq_true rfl) ?_
  show Wp g _ mX6_addSign 0 [some (.ref 41), some (.int (nI x)), none] [] _ _ _ _
  refine x_aload_n (pc := 0) dX6_addSign_0 rfl ?_
  refine x_getR (pc := 1) dX6_addSign_1 flX6_15 (by first | assumption | rfl) rfl ?_
  refine x_aload_n (pc := 4) dX6_addSign_4 rfl ?_
  refine x_getI (pc := 5) dX6_addSign_5 flX6_22 (by first | assumption | rfl) rfl ?_
  rw [hR.1]
  refine x_ialdN (pc := 8) dX6_addSign_8 (by first | assumption | rfl) (by first | with_reducible rfl | (simp only [xlit, nI_add, pk_mul]; with_reducible rfl)) (by omega) (by decide) ?_
  rw [l1]
  refine x_istore_n (pc := 9) dX6_addSign_9 (by decide) xs_2 (x_hp rfl) ?_
  refine x_iload_n (pc := 10) dX6_addSign_10 rfl ?_
  refine x_bipushN (pc := 11) 100 dX6_addSign_11 bp_100 ?_
  first | (guard_target =~ Wp _ _ _ _ _ (Value.int (nI _) :: Value.int (nI _) :: _) _ _ _ _; with_reducible refine x_icmp_ltN (pc := 13) (tgt := 18) ?_ ?_ dX6_addSign_13 ?_ (fun h13 => ?_) (fun h13 => ?_); (first | omega | exact b2n_31 _); (first | omega | exact b2n_31 _); decide) | refine x_icmp_lt (pc := 13) (tgt := 18) dX6_addSign_13 (by decide) (fun h13 => ?_) (fun h13 => ?_)
  · skip
    refine x_aload_n (pc := 18) dX6_addSign_18 rfl ?_
    refine x_getR (pc := 19) dX6_addSign_19 flX6_11 (by first | assumption | rfl) rfl ?_
    refine x_aload_n (pc := 22) dX6_addSign_22 rfl ?_
    refine x_getI (pc := 23) dX6_addSign_23 flX6_22 (by first | assumption | rfl) rfl ?_
    rw [hR.1]
    refine x_bipushN (pc := 26) 100 dX6_addSign_26 bp_100 ?_
    first | (guard_target =~ Wp _ _ _ _ _ (Value.int (nI _) :: Value.int (nI _) :: _) _ _ _ _; with_reducible refine x_imulN (pc := 28) dX6_addSign_28 ?_) | refine x_imul (pc := 28) dX6_addSign_28 ?_
    refine x_iload_n (pc := 29) dX6_addSign_29 rfl ?_
    first | (guard_target =~ Wp _ _ _ _ _ (Value.int (nI _) :: Value.int (nI _) :: _) _ _ _ _; with_reducible refine x_iaddN (pc := 30) dX6_addSign_30 ?_) | refine x_iadd (pc := 30) dX6_addSign_30 ?_
    refine x_iload_n (pc := 31) dX6_addSign_31 rfl ?_
    refine x_bastN (pc := 32) dX6_addSign_32 (by first | assumption | rfl) (by first | with_reducible rfl | (simp only [xlit, nI_add, pk_mul]; with_reducible rfl)) (by omega) (by decide) (nar_by x hx) ?_
    refine x_aload_n (pc := 33) dX6_addSign_33 rfl ?_
    refine x_getR (pc := 34) dX6_addSign_34 flX6_15 (by first | assumption | rfl) rfl ?_
    refine x_aload_n (pc := 37) dX6_addSign_37 rfl ?_
    refine x_getI (pc := 38) dX6_addSign_38 flX6_22 (by first | assumption | rfl) rfl ?_
    rw [xput_ne (Or.inl (by decide)), hR.1]
    refine x_iload_n (pc := 41) dX6_addSign_41 rfl ?_
    refine x_iconstN (pc := 42) 1 dX6_addSign_42 ic_1 ?_
    first | (guard_target =~ Wp _ _ _ _ _ (Value.int (nI _) :: Value.int (nI _) :: _) _ _ _ _; with_reducible refine x_iaddN (pc := 43) dX6_addSign_43 ?_) | refine x_iadd (pc := 43) dX6_addSign_43 ?_
    refine x_iastN (pc := 44) dX6_addSign_44 (by first | assumption | rfl) (by first | with_reducible rfl | (simp only [xlit, nI_add, pk_mul]; with_reducible rfl)) (by omega) (by decide) ?_
    refine x_iconstN (pc := 45) 1 dX6_addSign_45 ic_1 ?_
    refine x_ret (pc := 46) (v := some _) rfl (by first | rfl | decide | exact xrt_b) dX6_addSign_46 (by decide) ?_
    refine h (by omega) _ ((xsame.put (by decide) (by decide)).tr (xsame.put (by decide) (by decide))) ⟨hR.1, h6, fun r hr => ?_⟩
    obtain ⟨r1, r2, r3⟩ := hR.2.2 r hr
    by_cases hrm : r = made
    · subst hrm
      refine ⟨by rw [xput_at]; simp [up1], by simp [up1]; omega, fun p hp => ?_⟩
      simp only [up1, if_true] at hp
      rw [xput_ne (Or.inl (by decide)), Nat.mul_comm]
      by_cases hpl : p = ln r
      · subst hpl; rw [xput_at]; simp [up2, hx]
      · rw [xput_ne (Or.inr (by omega))]; simp only [up2, hpl, and_false, if_false]; exact r3 p (by omega)
    · refine ⟨by rw [xput_ne (Or.inr (by omega)), xput_ne (Or.inl (by decide)), r1]; simp [up1, hrm], by simpa [up1, hrm] using r2, fun p hp => ?_⟩
      simp only [up1, hrm, if_false] at hp
      rw [xput_ne (Or.inl (by decide)), xput_ne (Or.inr (by omega))]
      simp only [up2, hrm, false_and, if_false]
      exact r3 p hp
  · skip
    refine x_iconstN (pc := 16) 0 dX6_addSign_16 ic_0 ?_
    refine x_ret (pc := 17) (v := some _) rfl (by first | rfl | decide | exact xrt_b) dX6_addSign_17 (by decide) ?_
    exact h0 (by omega)
theorem sp_X6_closeText (hR : RmS M tx ln made) (hF : made = 6 → K (some (.int (-4))) xSF M)
    (h0 : ∀ q, made < 6 → pR (chT (ln made) (tx made)) 9 0 = (none, q) → ∀ M', xsame 41 45 M M' → RmS M' tx (up1 ln made 0) made → K (some (.int (-10 - nI q))) xSF M')
    (h : ∀ l q, made < 6 → pR (chT (ln made) (tx made)) 9 0 = (some l, q) → ∀ M', xsame 41 45 M M' → RmS M' tx ln (made + 1) → M'.1 41 11 = nI (bldF 30 l) → K (some (.int (nI made))) xSF M') : Ex g (d + 18) yX6_closeText mX6_closeText [.ref 41] xSF M K := by
  have hm := hR.2.1
  have sm : ∀ M', rsm M M' → xsame 41 45 M M' := fun M' hs => ⟨fun q hq => hs.1 q (by omega) (by omega), hs.2.2⟩
  refine x_entry kX6_closeText (Nat.le_of_ble_eq_true rfl) ?_
  show Wp g _ mX6_closeText 0 [some (.ref 41)] [] _ _ _ _
  rcases hr : pR (chT (ln made) (tx made)) 9 0 with ⟨_ | l, q⟩
  · skip
    refine x_aload_n (pc := 0) dX6_closeText_0 rfl ?_
    refine x_getI (pc := 1) dX6_closeText_1 flX6_22 (by first | assumption | rfl) rfl ?_
    rw [hR.1]
    refine x_bipushN (pc := 4) 6 dX6_closeText_4 bp_6 ?_
    first | (guard_target =~ Wp _ _ _ _ _ (Value.int (nI _) :: Value.int (nI _) :: _) _ _ _ _; with_reducible refine x_icmp_ltN (pc := 6) (tgt := 12) ?_ ?_ dX6_closeText_6 ?_ (fun h6 => ?_) (fun h6 => ?_); (first | omega | exact b2n_31 _); (first | omega | exact b2n_31 _); decide) | refine x_icmp_lt (pc := 6) (tgt := 12) dX6_closeText_6 (by decide) (fun h6 => ?_) (fun h6 => ?_)
    · skip
      refine x_aload_n (pc := 12) dX6_closeText_12 rfl ?_
      refine x_aload_n (pc := 13) dX6_closeText_13 rfl ?_
      refine x_getI (pc := 14) dX6_closeText_14 flX6_22 (by first | assumption | rfl) rfl ?_
      rw [hR.1]
      refine x_iconstN (pc := 17) 0 dX6_closeText_17 ic_0 ?_
      refine x_iconstN (pc := 18) 0 dX6_closeText_18 ic_0 ?_
      refine x_iconstN (pc := 19) 0 dX6_closeText_19 ic_0 ?_
      refine x_invV4 (pc := 20) dX6_closeText_20 mlX6_26 imX6_readFor seX6_readFor kX6_readFor (by first | assumption | rfl) rfl (Nat.le_of_ble_eq_true rfl) (by decide) ?_
      refine sp_X6_readFor (by decide) (by decide) (by decide) hR hm (fun q' hq M' hs hb ha => ?_) (fun l q' hq => absurd (hr.symm.trans hq) (by simp)); obtain rfl : q = q' := by (have z2 := hr.symm.trans hq; simp only [Prod.mk.injEq, true_and] at z2; exact z2)
      refine x_cn rfl rfl ?_
      refine x_aload_n (pc := 23) dX6_closeText_23 rfl ?_
      refine x_getI (pc := 24) dX6_closeText_24 flX6_30 (by first | assumption | rfl) rfl ?_
      rw [hb]
      first | (guard_target =~ Wp _ _ _ _ _ (Value.int (nI _) :: _) _ _ _ _; with_reducible refine x_if_eqN (pc := 27) (tgt := 48) ?_ dX6_closeText_27 ?_ (fun h27 => ?_) (fun h27 => ?_); (first | omega | exact b2n_32 _ | exact b2n_31 _); decide) | refine x_if_eq (pc := 27) (tgt := 48) dX6_closeText_27 (by decide) (fun h27 => ?_) (fun h27 => ?_)
      · skip
        omega
      · skip
        refine x_aload_n (pc := 30) dX6_closeText_30 rfl ?_
        refine x_getR (pc := 31) dX6_closeText_31 flX6_15 (by first | assumption | rfl) rfl ?_
        refine x_aload_n (pc := 34) dX6_closeText_34 rfl ?_
        refine x_getI (pc := 35) dX6_closeText_35 flX6_22 (by first | assumption | rfl) rfl ?_
        rw [hs.2.1, hR.1]
        refine x_iconstN (pc := 38) 0 dX6_closeText_38 ic_0 ?_
        refine x_iastN (pc := 39) dX6_closeText_39 (by first | assumption | rfl) (by first | with_reducible rfl | (simp only [xlit, nI_add, pk_mul]; with_reducible rfl)) (by omega) (by decide) ?_
        refine x_bipush (pc := 40) dX6_closeText_40 bp_m10 ?_
        refine x_aload_n (pc := 42) dX6_closeText_42 rfl ?_
        refine x_getI (pc := 43) dX6_closeText_43 flX6_34 (by first | assumption | rfl) rfl ?_
        rw [xput_ne (Or.inl (by decide)), ha]
        refine x_isub (pc := 46) dX6_closeText_46 ?_
        refine x_ret (pc := 47) (v := some _) rfl trivial dX6_closeText_47 (by decide) ?_
        refine h0 q (by omega) hr _ ((sm M' hs).tr (xsame.put (by decide) (by decide))) ⟨hs.2.1.trans hR.1, hm, fun r hr => ?_⟩
        obtain ⟨r1, r2, r3⟩ := (hR.same hs).2.2 r hr
        by_cases hrm : r = made
        · subst hrm
          exact ⟨by rw [xput_at]; simp [up1], by simp [up1], fun p hp => by simp [up1] at hp⟩
        · refine ⟨by rw [xput_ne (Or.inr (by omega)), r1]; simp [up1, hrm], by simpa [up1, hrm] using r2, fun p hp => ?_⟩
          simp only [up1, hrm, if_false] at hp
          rw [xput_ne (Or.inl (by decide))]
          exact r3 p hp
    · skip
      refine x_bipush (pc := 9) dX6_closeText_9 bp_m4 ?_
      refine x_ret (pc := 11) (v := some _) rfl trivial dX6_closeText_11 (by decide) ?_
      exact hF (by omega)
  · skip
    refine x_aload_n (pc := 0) dX6_closeText_0 rfl ?_
    refine x_getI (pc := 1) dX6_closeText_1 flX6_22 (by first | assumption | rfl) rfl ?_
    rw [hR.1]
    refine x_bipushN (pc := 4) 6 dX6_closeText_4 bp_6 ?_
    first | (guard_target =~ Wp _ _ _ _ _ (Value.int (nI _) :: Value.int (nI _) :: _) _ _ _ _; with_reducible refine x_icmp_ltN (pc := 6) (tgt := 12) ?_ ?_ dX6_closeText_6 ?_ (fun h6 => ?_) (fun h6 => ?_); (first | omega | exact b2n_31 _); (first | omega | exact b2n_31 _); decide) | refine x_icmp_lt (pc := 6) (tgt := 12) dX6_closeText_6 (by decide) (fun h6 => ?_) (fun h6 => ?_)
    · skip
      refine x_aload_n (pc := 12) dX6_closeText_12 rfl ?_
      refine x_aload_n (pc := 13) dX6_closeText_13 rfl ?_
      refine x_getI (pc := 14) dX6_closeText_14 flX6_22 (by first | assumption | rfl) rfl ?_
      rw [hR.1]
      refine x_iconstN (pc := 17) 0 dX6_closeText_17 ic_0 ?_
      refine x_iconstN (pc := 18) 0 dX6_closeText_18 ic_0 ?_
      refine x_iconstN (pc := 19) 0 dX6_closeText_19 ic_0 ?_
      refine x_invV4 (pc := 20) dX6_closeText_20 mlX6_26 imX6_readFor seX6_readFor kX6_readFor (by first | assumption | rfl) rfl (Nat.le_of_ble_eq_true rfl) (by decide) ?_
      refine sp_X6_readFor (by decide) (by decide) (by decide) hR hm (fun q' hq => absurd (hr.symm.trans hq) (by simp)) (fun l' q' hq M' hs ho => ?_); obtain ⟨rfl, rfl⟩ : l = l' ∧ q = q' := by (have z2 := hr.symm.trans hq; simp only [Prod.mk.injEq, Option.some.injEq] at z2; exact z2)
      refine x_cn rfl rfl ?_
      refine x_aload_n (pc := 23) dX6_closeText_23 rfl ?_
      refine x_getI (pc := 24) dX6_closeText_24 flX6_30 (by first | assumption | rfl) rfl ?_
      rw [ho.1]
      first | (guard_target =~ Wp _ _ _ _ _ (Value.int (nI _) :: _) _ _ _ _; with_reducible refine x_if_eqN (pc := 27) (tgt := 48) ?_ dX6_closeText_27 ?_ (fun h27 => ?_) (fun h27 => ?_); (first | omega | exact b2n_32 _ | exact b2n_31 _); decide) | refine x_if_eq (pc := 27) (tgt := 48) dX6_closeText_27 (by decide) (fun h27 => ?_) (fun h27 => ?_)
      · skip
        refine x_aload_n (pc := 48) dX6_closeText_48 rfl ?_
        refine x_dup (pc := 49) dX6_closeText_49 rfl ?_
        refine x_getI (pc := 50) dX6_closeText_50 flX6_22 (by first | assumption | rfl) rfl ?_
        rw [hs.2.1, hR.1]
        refine x_iconstN (pc := 53) 1 dX6_closeText_53 ic_1 ?_
        first | (guard_target =~ Wp _ _ _ _ _ (Value.int (nI _) :: Value.int (nI _) :: _) _ _ _ _; with_reducible refine x_iaddN (pc := 54) dX6_closeText_54 ?_) | refine x_iadd (pc := 54) dX6_closeText_54 ?_
        refine x_putI (pc := 55) dX6_closeText_55 flX6_22 (by first | assumption | rfl) rfl rfl rfl ?_
        refine x_aload_n (pc := 58) dX6_closeText_58 rfl ?_
        refine x_getI (pc := 59) dX6_closeText_59 flX6_22 (by first | assumption | rfl) rfl ?_
        rw [xput_at]
        refine x_iconstN (pc := 62) 1 dX6_closeText_62 ic_1 ?_
        first | (guard_target =~ Wp _ _ _ _ _ (Value.int (nI _) :: Value.int (nI _) :: _) _ _ _ _; with_reducible refine x_isubN (pc := 63) ?_ dX6_closeText_63 ?_; omega) | refine x_isub (pc := 63) dX6_closeText_63 ?_
        refine x_ret (pc := 64) (v := some _) rfl trivial dX6_closeText_64 (by decide) ?_
        rw [Nat.add_sub_cancel]
        refine h l q (by omega) hr _ ((sm M' hs).tr (xsame.put (by decide) (by decide))) ⟨xput_at, by omega, fun r hr => (hR.same hs).2.2 r hr⟩ ho.2.1
      · skip
        omega
    · skip
      refine x_bipush (pc := 9) dX6_closeText_9 bp_m4 ?_
      refine x_ret (pc := 11) (v := some _) rfl trivial dX6_closeText_11 (by decide) ?_
      exact hF (by omega)
end P35
