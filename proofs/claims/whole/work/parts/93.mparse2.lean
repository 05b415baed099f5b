/-! the MODEL's reader: places, numbers, words, tests -/
theorem srt_s {x : Nat} (h : x ≠ 0) : srt x = nI (x - 1) := by
  obtain ⟨k, rfl⟩ : ∃ k, x = k + 1 := ⟨x - 1, by omega⟩
  rfl
/-- the position (and the digits) alone change -/
def p13 (a k : Nat) : Bool := a == 65 && (k == 13 || k == 14)
theorem p13_K {sg ci : Nat} : ∀ a k, p13 a k = true → pK sg ci a k = true := by intro a k h; simp [p13] at h; simp [pK]; omega
theorem PS.mv {M0 M M' : XM} {sg ci p q o : Nat} {C V : List Nat} (h : PS M0 M sg ci p C V o) (ho : only p13 M M') (hq : M'.1 65 13 = nI q) (hpq : p ≤ q) : PS M0 M' sg ci q C V o := by
  obtain ⟨h1, h2, h3, h4, h5, h6, h7, h8⟩ := h
  exact ⟨h1.tr (ho.wide p13_K), hq, (ho.1 65 23 rfl).trans h3, (ho.1 65 24 rfl).trans h4, (ho.1 65 25 rfl).trans h5, fun k hk => (ho.1 78 _ rfl).trans (h6 k hk), stkW_eq h7 (fun k _ => ho.1 79 k rfl), by omega⟩
theorem PN.mv {M0 M M' : XM} {sg ci p q : Nat} (h : PN M0 M sg ci p) (ho : only p13 M M') (hq : M'.1 65 13 = nI q) : PN M0 M' sg ci q := ⟨h.1.tr (ho.wide p13_K), hq⟩
def numL (c : Nat → Nat) : Nat → Nat → Nat → Nat × Nat
  | 0, D, q => (D, q)
  | m + 1, D, q => if isD (c q) then numL c m (10 * D + (c q - 49)) (q + 1) else (D, q)
theorem numP_L (c : Nat → Nat) (p : Nat) : numP c p = if isD (c p) then some (numL c 2 0 p) else none := by
  unfold numP
  by_cases h : isD (c p) = true
  · rw [if_pos h, if_pos h, numL, if_pos h, numL]
    by_cases h2 : isD (c (p + 1)) = true
    · rw [if_pos h2, if_pos h2]; simp [numL]
    · rw [if_neg h2, if_neg h2]; simp
  · rw [if_neg h, if_neg h]
section P93
variable {g : XG} {d : Nat} {M M0 : XM} {K : Option Value → XS → XM → Prop} {n sg ci p o : Nat} {t : Nat → Nat} {C V : List Nat}
theorem sm_place {x : Nat} (hx : x < 129) (h : K (some (.int (if fldP x = 6 then -1 else nI (fldP x)))) xSF M) : Ex g d yX10_place mX10_place [.ref 65, .int (srt x)] xSF M K := by
  refine x_entry kX10_place (Nat.le_of_ble_eq_true rfl) ?_
  show Wp g _ mX10_place 0 [some (.ref 65), some (.int (srt x))] [] _ _ _ _
  by_cases h1 : x = 100
  · subst h1
    refine x_iload_n (pc := 0) dX10_place_0 rfl ?_
    refine x_lookup (pc := 1) (off := 59) (tgt := 60) dX10_place_1 (by decide +kernel) (by decide +kernel) (by decide) ?_
    refine x_iconstN (pc := 60) 0 dX10_place_60 ic_0 ?_
    refine x_ret (pc := 61) (v := some _) rfl trivial dX10_place_61 (by decide) ?_
    exact h
  by_cases h2 : x = 115
  · subst h2
    refine x_iload_n (pc := 0) dX10_place_0 rfl ?_
    refine x_lookup (pc := 1) (off := 61) (tgt := 62) dX10_place_1 (by decide +kernel) (by decide +kernel) (by decide) ?_
    refine x_iconstN (pc := 62) 1 dX10_place_62 ic_1 ?_
    refine x_ret (pc := 63) (v := some _) rfl trivial dX10_place_63 (by decide) ?_
    exact h
  by_cases h3 : x = 121
  · subst h3
    refine x_iload_n (pc := 0) dX10_place_0 rfl ?_
    refine x_lookup (pc := 1) (off := 63) (tgt := 64) dX10_place_1 (by decide +kernel) (by decide +kernel) (by decide) ?_
    refine x_iconstN (pc := 64) 2 dX10_place_64 ic_2 ?_
    refine x_ret (pc := 65) (v := some _) rfl trivial dX10_place_65 (by decide) ?_
    exact h
  by_cases h4 : x = 104
  · subst h4
    refine x_iload_n (pc := 0) dX10_place_0 rfl ?_
    refine x_lookup (pc := 1) (off := 65) (tgt := 66) dX10_place_1 (by decide +kernel) (by decide +kernel) (by decide) ?_
    refine x_iconstN (pc := 66) 3 dX10_place_66 ic_3 ?_
    refine x_ret (pc := 67) (v := some _) rfl trivial dX10_place_67 (by decide) ?_
    exact h
  by_cases h5 : x = 108
  · subst h5
    refine x_iload_n (pc := 0) dX10_place_0 rfl ?_
    refine x_lookup (pc := 1) (off := 67) (tgt := 68) dX10_place_1 (by decide +kernel) (by decide +kernel) (by decide) ?_
    refine x_iconstN (pc := 68) 4 dX10_place_68 ic_4 ?_
    refine x_ret (pc := 69) (v := some _) rfl trivial dX10_place_69 (by decide) ?_
    exact h
  by_cases h6 : x = 119
  · subst h6
    refine x_iload_n (pc := 0) dX10_place_0 rfl ?_
    refine x_lookup (pc := 1) (off := 69) (tgt := 70) dX10_place_1 (by decide +kernel) (by decide +kernel) (by decide) ?_
    refine x_iconstN (pc := 70) 5 dX10_place_70 ic_5 ?_
    refine x_ret (pc := 71) (v := some _) rfl trivial dX10_place_71 (by decide) ?_
    exact h
  have hf : fldP x = 6 := by unfold fldP; rw [if_neg h1, if_neg h2, if_neg h3, if_neg h4, if_neg h5, if_neg h6]
  rw [if_pos hf] at h
  have hsw : ∀ x, x < 129 → fldP x = 6 → Op.lookupswitch.offset [(99, 59), (103, 65), (107, 67), (114, 61), (118, 69), (120, 63)] 71 (srt x).toInt = 71 := by decide +kernel
  refine x_iload_n (pc := 0) dX10_place_0 rfl ?_
  refine x_lookup (pc := 1) (off := 71) (tgt := 72) dX10_place_1 (by decide +kernel) (hsw x hx hf) (by decide) ?_
  refine x_iconst (pc := 72) dX10_place_72 ic_m1 ?_
  refine x_ret (pc := 73) (v := some _) rfl trivial dX10_place_73 (by decide) ?_
  exact h
theorem sm_takesNumber (hT : CT M0 n t) (hN : PN M0 M sg ci p) (hp100 : p ≤ n) (h : ∀ M', only p13 M M' → M'.1 65 13 = nI (match numP (chT n t) p with
    | some r => r.2
    | none => p) → (∀ r, numP (chT n t) p = some r → M'.1 65 14 = nI r.1) → K (some (.int (nI (b2n (numP (chT n t) p).isSome)))) xSF M') : Ex g (d + 2) yX10_takesNumber mX10_takesNumber [.ref 65] xSF M K := by
  have hn := hT.2.1
  rw [numP_L] at h
  refine x_entry kX10_takesNumber (Nat.le_of_ble_eq_true rfl) ?_
  show Wp g _ mX10_takesNumber 0 [some (.ref 65), none] [] _ _ _ _
  cases hd : isD (chT n t p) with
  | false =>
    rw [hd, if_neg (by decide)] at h
    refine x_aload_n (pc := 0) dX10_takesNumber_0 rfl ?_
    refine x_invV0 (pc := 1) dX10_takesNumber_1 mlX10_278 imX10_isDigit seX10_isDigit kX10_isDigit (by first | assumption | rfl) rfl (Nat.le_of_ble_eq_true rfl) (by decide) ?_
    refine sm_isDigit hT hN (by omega) ?_
    refine x_cv rfl rfl ?_
    rw [hd]
    first | (guard_target =~ Wp _ _ _ _ _ (Value.int (nI _) :: _) _ _ _ _; with_reducible refine x_if_neN (pc := 4) (tgt := 9) ?_ dX10_takesNumber_4 ?_ (fun h4 => ?_) (fun h4 => ?_); (first | omega | exact b2n_32 _ | exact b2n_31 _); decide) | refine x_if_ne (pc := 4) (tgt := 9) dX10_takesNumber_4 (by decide) (fun h4 => ?_) (fun h4 => ?_)
    · skip
      exact absurd rfl h4
    · skip
      refine x_iconstN (pc := 7) 0 dX10_takesNumber_7 ic_0 ?_
      refine x_ret (pc := 8) (v := some _) rfl (by first | rfl | decide | exact xrt_b) dX10_takesNumber_8 (by decide) ?_
      exact h M only.rf hN.2 (fun r q => by cases q)
  | true =>
    rw [hd, if_pos rfl] at h
    have loop : ∀ m k D q M1, k + m = 2 → ((k = 0 → D = 0) ∧ (k ≤ 1 → D ≤ 9) ∧ D ≤ 99) → q ≤ n → only p13 M M1 → M1.1 65 13 = nI q → M1.1 65 14 = nI D → numL (chT n t) m D q = numL (chT n t) 2 0 p → Wp g (d + 2) mX10_takesNumber 16 [some (.ref 65), some (.int (nI k))] [] xSF (0, 0) M1 K := by
      intro m
      induction m with
      | zero =>
        intro k D q M1 hk hD hq ho h13 h14 he
        obtain rfl : k = 2 := by omega
        have he2 : numL (chT n t) 2 0 p = (D, q) := he.symm
        refine x_iload_n (pc := 16) dX10_takesNumber_16 rfl ?_
        refine x_iconstN (pc := 17) 2 dX10_takesNumber_17 ic_2 ?_
        first | (guard_target =~ Wp _ _ _ _ _ (Value.int (nI _) :: Value.int (nI _) :: _) _ _ _ _; with_reducible refine x_icmp_geN (pc := 18) (tgt := 63) ?_ ?_ dX10_takesNumber_18 ?_ (fun h18 => ?_) (fun h18 => ?_); (first | omega | exact b2n_31 _); (first | omega | exact b2n_31 _); decide) | refine x_icmp_ge (pc := 18) (tgt := 63) dX10_takesNumber_18 (by decide) (fun h18 => ?_) (fun h18 => ?_)
        · skip
          refine x_iconstN (pc := 63) 1 dX10_takesNumber_63 ic_1 ?_
          refine x_ret (pc := 64) (v := some _) rfl (by first | rfl | decide | exact xrt_b) dX10_takesNumber_64 (by decide) ?_
          rw [he2] at h; exact h M1 ho h13 (fun r q => by cases q; exact h14)
        · skip
          omega
      | succ m ih =>
        intro k D q M1 hk hD hq ho h13 h14 he
        have hN1 : PN M0 M1 sg ci q := hN.mv ho h13
        have hcq := (hT.tx.2 q).2
        rw [numL] at he
        cases hdq : isD (chT n t q) with
        | false =>
          rw [hdq, if_neg (by decide)] at he
          have he2 : numL (chT n t) 2 0 p = (D, q) := he.symm
          refine x_iload_n (pc := 16) dX10_takesNumber_16 rfl ?_
          refine x_iconstN (pc := 17) 2 dX10_takesNumber_17 ic_2 ?_
          first | (guard_target =~ Wp _ _ _ _ _ (Value.int (nI _) :: Value.int (nI _) :: _) _ _ _ _; with_reducible refine x_icmp_geN (pc := 18) (tgt := 63) ?_ ?_ dX10_takesNumber_18 ?_ (fun h18 => ?_) (fun h18 => ?_); (first | omega | exact b2n_31 _); (first | omega | exact b2n_31 _); decide) | refine x_icmp_ge (pc := 18) (tgt := 63) dX10_takesNumber_18 (by decide) (fun h18 => ?_) (fun h18 => ?_)
          · skip
            omega
          · skip
            refine x_aload_n (pc := 21) dX10_takesNumber_21 rfl ?_
            refine x_invV0 (pc := 22) dX10_takesNumber_22 mlX10_278 imX10_isDigit seX10_isDigit kX10_isDigit (by first | assumption | rfl) rfl (Nat.le_of_ble_eq_true rfl) (by decide) ?_
            refine sm_isDigit hT hN1 (by omega) ?_
            refine x_cv rfl rfl ?_
            rw [hdq]
            first | (guard_target =~ Wp _ _ _ _ _ (Value.int (nI _) :: _) _ _ _ _; with_reducible refine x_if_eqN (pc := 25) (tgt := 63) ?_ dX10_takesNumber_25 ?_ (fun h25 => ?_) (fun h25 => ?_); (first | omega | exact b2n_32 _ | exact b2n_31 _); decide) | refine x_if_eq (pc := 25) (tgt := 63) dX10_takesNumber_25 (by decide) (fun h25 => ?_) (fun h25 => ?_)
            · skip
              refine x_iconstN (pc := 63) 1 dX10_takesNumber_63 ic_1 ?_
              refine x_ret (pc := 64) (v := some _) rfl (by first | rfl | decide | exact xrt_b) dX10_takesNumber_64 (by decide) ?_
              rw [he2] at h; exact h M1 ho h13 (fun r q => by cases q; exact h14)
            · skip
              exact absurd rfl h25
        | true =>
          rw [hdq, if_pos rfl] at he
          obtain ⟨hD0, hD1, hD2⟩ := hD
          have hx := isD_iff.mp hdq
          have hqn : q < n := hT.tx.lt rfl (by omega : chT n t q ≠ 0)
          refine x_iload_n (pc := 16) dX10_takesNumber_16 rfl ?_
          refine x_iconstN (pc := 17) 2 dX10_takesNumber_17 ic_2 ?_
          first | (guard_target =~ Wp _ _ _ _ _ (Value.int (nI _) :: Value.int (nI _) :: _) _ _ _ _; with_reducible refine x_icmp_geN (pc := 18) (tgt := 63) ?_ ?_ dX10_takesNumber_18 ?_ (fun h18 => ?_) (fun h18 => ?_); (first | omega | exact b2n_31 _); (first | omega | exact b2n_31 _); decide) | refine x_icmp_ge (pc := 18) (tgt := 63) dX10_takesNumber_18 (by decide) (fun h18 => ?_) (fun h18 => ?_)
          · skip
            omega
          · skip
            refine x_aload_n (pc := 21) dX10_takesNumber_21 rfl ?_
            refine x_invV0 (pc := 22) dX10_takesNumber_22 mlX10_278 imX10_isDigit seX10_isDigit kX10_isDigit (by first | assumption | rfl) rfl (Nat.le_of_ble_eq_true rfl) (by decide) ?_
            refine sm_isDigit hT hN1 (by omega) ?_
            refine x_cv rfl rfl ?_
            rw [hdq]
            first | (guard_target =~ Wp _ _ _ _ _ (Value.int (nI _) :: _) _ _ _ _; with_reducible refine x_if_eqN (pc := 25) (tgt := 63) ?_ dX10_takesNumber_25 ?_ (fun h25 => ?_) (fun h25 => ?_); (first | omega | exact b2n_32 _ | exact b2n_31 _); decide) | refine x_if_eq (pc := 25) (tgt := 63) dX10_takesNumber_25 (by decide) (fun h25 => ?_) (fun h25 => ?_)
            · skip
              cases h25
            · skip
              refine x_aload_n (pc := 28) dX10_takesNumber_28 rfl ?_
              refine x_bipushN (pc := 29) 10 dX10_takesNumber_29 bp_10 ?_
              refine x_aload_n (pc := 31) dX10_takesNumber_31 rfl ?_
              refine x_getI (pc := 32) dX10_takesNumber_32 flX10_53 (by first | assumption | rfl) rfl ?_
              rw [h14]
              first | (guard_target =~ Wp _ _ _ _ _ (Value.int (nI _) :: Value.int (nI _) :: _) _ _ _ _; with_reducible refine x_imulN (pc := 35) dX10_takesNumber_35 ?_) | refine x_imul (pc := 35) dX10_takesNumber_35 ?_
              refine x_aload_n (pc := 36) dX10_takesNumber_36 rfl ?_
              refine x_invV0 (pc := 37) dX10_takesNumber_37 mlX10_271 imX10_next seX10_next kX10_next (by first | assumption | rfl) rfl (Nat.le_of_ble_eq_true rfl) (by decide) ?_
              refine sm_next hT hN1.1 hN1.2 (by omega) ?_
              refine x_cv rfl rfl ?_
              rw [srt_s (show chT n t q ≠ 0 by omega)]
              first | (guard_target =~ Wp _ _ _ _ _ (Value.int (nI _) :: Value.int (nI _) :: _) _ _ _ _; with_reducible refine x_iaddN (pc := 40) dX10_takesNumber_40 ?_) | refine x_iadd (pc := 40) dX10_takesNumber_40 ?_
              refine x_bipushN (pc := 41) 48 dX10_takesNumber_41 bp_48 ?_
              first | (guard_target =~ Wp _ _ _ _ _ (Value.int (nI _) :: Value.int (nI _) :: _) _ _ _ _; with_reducible refine x_isubN (pc := 43) ?_ dX10_takesNumber_43 ?_; omega) | refine x_isub (pc := 43) dX10_takesNumber_43 ?_
              rw [show 10 * D + (chT n t q - 1) - 48 = 10 * D + (chT n t q - 49) by omega]
              refine x_putI (pc := 44) dX10_takesNumber_44 flX10_53 (by first | assumption | rfl) rfl rfl rfl ?_
              refine x_aload_n (pc := 47) dX10_takesNumber_47 rfl ?_
              refine x_dup (pc := 48) dX10_takesNumber_48 rfl ?_
              refine x_getI (pc := 49) dX10_takesNumber_49 flX10_50 (by first | assumption | rfl) rfl ?_
              rw [show ∀ v, (xput M1 65 14 v).1 65 13 = nI q from fun v => h13]
              refine x_iconstN (pc := 52) 1 dX10_takesNumber_52 ic_1 ?_
              first | (guard_target =~ Wp _ _ _ _ _ (Value.int (nI _) :: Value.int (nI _) :: _) _ _ _ _; with_reducible refine x_iaddN (pc := 53) dX10_takesNumber_53 ?_) | refine x_iadd (pc := 53) dX10_takesNumber_53 ?_
              refine x_putI (pc := 54) dX10_takesNumber_54 flX10_50 (by first | assumption | rfl) rfl rfl rfl ?_
              first | (guard_target =~ Wp _ _ _ _ (_ :: some (Value.int (nI _)) :: _) _ _ _ _ _; with_reducible refine x_iincN (pc := 57) 1 ic_1 dX10_takesNumber_57 ?_ xg_1 xs_1 ?_ ?_; decide; exact (x_hp rfl)) | refine x_iincC (pc := 57) ic_1 dX10_takesNumber_57 (by decide) rfl xs_1 (x_hp rfl) ?_
              refine x_goto (pc := 60) (tgt := 16) dX10_takesNumber_60 (by decide) ?_
              exact ih (k + 1) (10 * D + (chT n t q - 49)) (q + 1) _ (by omega) ⟨by omega, by omega, by omega⟩ (by omega) ((ho.tr (only.put rfl)).tr (only.put rfl)) rfl rfl he
    refine x_aload_n (pc := 0) dX10_takesNumber_0 rfl ?_
    refine x_invV0 (pc := 1) dX10_takesNumber_1 mlX10_278 imX10_isDigit seX10_isDigit kX10_isDigit (by first | assumption | rfl) rfl (Nat.le_of_ble_eq_true rfl) (by decide) ?_
    refine sm_isDigit hT hN (by omega) ?_
    refine x_cv rfl rfl ?_
    rw [hd]
    first | (guard_target =~ Wp _ _ _ _ _ (Value.int (nI _) :: _) _ _ _ _; with_reducible refine x_if_neN (pc := 4) (tgt := 9) ?_ dX10_takesNumber_4 ?_ (fun h4 => ?_) (fun h4 => ?_); (first | omega | exact b2n_32 _ | exact b2n_31 _); decide) | refine x_if_ne (pc := 4) (tgt := 9) dX10_takesNumber_4 (by decide) (fun h4 => ?_) (fun h4 => ?_)
    · skip
      refine x_aload_n (pc := 9) dX10_takesNumber_9 rfl ?_
      refine x_iconstN (pc := 10) 0 dX10_takesNumber_10 ic_0 ?_
      refine x_putI (pc := 11) dX10_takesNumber_11 flX10_53 (by first | assumption | rfl) rfl rfl rfl ?_
      refine x_iconstN (pc := 14) 0 dX10_takesNumber_14 ic_0 ?_
      refine x_istore_n (pc := 15) dX10_takesNumber_15 (by decide) xs_1 (x_hp rfl) ?_
      exact loop 2 0 0 p _ rfl ⟨by omega, by omega, by omega⟩ hp100 (only.put rfl) hN.2 rfl rfl
    · skip
      cases h4
theorem sm_takesWord {f0 : Nat} {w : List Nat} (hT : CT M0 n t) (hN : PN M0 M sg ci p) (hpn : p ≤ n) (hw : w.length = 4) (hf : f0 + 4 ≤ 12) (hlet : ∀ i, i < 4 → (([115, 111, 102, 116, 104, 97, 114, 100, 98, 97, 108, 100] : List Nat).getD (f0 + i) 0) + 1 = w.getD i 0 ∧ w.getD i 0 ≤ 128) (h : ∀ M', only p13 M M' → M'.1 65 13 = nI (wrdP (chT n t) (w ++ [33]) p).2 → K (some (.int (nI (b2n (wrdP (chT n t) (w ++ [33]) p).1)))) xSF M') : Ex g (d + 2) yX10_takesWord mX10_takesWord [.ref 65, .int (nI f0), .int (nI 4)] xSF M K := by
  have hn := hT.2.1
  have hL := hT.2.2.2
  refine x_entry kX10_takesWord (Nat.le_of_ble_eq_true rfl) ?_
  show Wp g _ mX10_takesWord 0 [some (.ref 65), some (.int (nI f0)), some (.int (nI 4)), none] [] _ _ _ _
  have loop : ∀ l k q M1, k + l.length = 4 → w.drop k = l → q ≤ n → only p13 M M1 → M1.1 65 13 = nI q → wrdP (chT n t) (l ++ [33]) q = wrdP (chT n t) (w ++ [33]) p → Wp g (d + 2) mX10_takesWord 2 [some (.ref 65), some (.int (nI f0)), some (.int (nI 4)), some (.int (nI k))] [] xSF (0, 0) M1 K := by
    intro l
    induction l with
    | nil =>
      intro k q M1 hk hdr hq ho h13 he
      obtain rfl : k = 4 := by simpa using hk
      have hN1 : PN M0 M1 sg ci q := hN.mv ho h13
      rw [← he] at h
      rw [List.nil_append, wrdP] at h
      refine x_iload_n (pc := 2) dX10_takesWord_2 rfl ?_
      refine x_iload_n (pc := 3) dX10_takesWord_3 rfl ?_
      first | (guard_target =~ Wp _ _ _ _ _ (Value.int (nI _) :: Value.int (nI _) :: _) _ _ _ _; with_reducible refine x_icmp_geN (pc := 4) (tgt := 30) ?_ ?_ dX10_takesWord_4 ?_ (fun h4 => ?_) (fun h4 => ?_); (first | omega | exact b2n_31 _); (first | omega | exact b2n_31 _); decide) | refine x_icmp_ge (pc := 4) (tgt := 30) dX10_takesWord_4 (by decide) (fun h4 => ?_) (fun h4 => ?_)
      · skip
        refine x_aload_n (pc := 30) dX10_takesWord_30 rfl ?_
        refine x_bipushN (pc := 31) 32 dX10_takesWord_31 bp_32 ?_
        refine x_invV1 (pc := 33) dX10_takesWord_33 mlX10_275 imX10_takes seX10_takes kX10_takes (by first | assumption | rfl) rfl (Nat.le_of_ble_eq_true rfl) (by decide) ?_
        refine sm_takes hT hN1 (by omega) (by decide) (fun M2 ho2 h132 => ?_)
        refine x_cv rfl rfl ?_
        refine x_ret (pc := 36) (v := some _) rfl (by first | rfl | decide | exact xrt_b) dX10_takesWord_36 (by decide) ?_
        have hob : only p13 M M2 := ho.tr (ho2.wide (fun a k q => by simp at q; simp [p13, q]))
        by_cases heq : chT n t q = 32 + 1
        · rw [if_pos heq] at h132
          rw [if_pos (show chT n t q = 33 from heq), wrdP] at h
          rw [decide_eq_true heq]; exact h M2 hob h132
        · rw [if_neg heq] at h132
          rw [if_neg (show ¬ chT n t q = 33 from heq)] at h
          rw [decide_eq_false heq]; exact h M2 hob h132
      · skip
        omega
    | cons x l ih =>
      intro k q M1 hk hdr hq ho h13 he
      simp only [List.length_cons] at hk
      have hN1 : PN M0 M1 sg ci q := hN.mv ho h13
      have hx : w.getD k 0 = x := by
        have : w[k]? = some x := by
          have h2 : (w.drop k)[0]? = some x := by rw [hdr]; rfl
          rw [List.getElem?_drop, Nat.add_zero] at h2; exact h2
        rw [List.getD_eq_getElem?_getD, this]; rfl
      have hdr2 : w.drop (k + 1) = l := by
        rw [show k + 1 = k + 1 from rfl, ← List.drop_drop, hdr]; rfl
      obtain ⟨hl1, hl2⟩ := hlet k (by omega)
      rw [hx] at hl1 hl2
      have h80 : M1.1 80 (f0 + k) = nI (x - 1) := by
        have a1 := hL (f0 + k) (by omega)
        have a2 : M1.1 80 (f0 + k) = M0.1 80 (f0 + k) := hN1.1.1 80 _ rfl
        rw [a2, a1]; exact congrArg nI (by omega)
      rw [List.cons_append, wrdP] at he
      by_cases heq : chT n t q = x
      · rw [if_pos heq] at he
        have hqn : q < n := hT.tx.lt heq (by omega)
        refine x_iload_n (pc := 2) dX10_takesWord_2 rfl ?_
        refine x_iload_n (pc := 3) dX10_takesWord_3 rfl ?_
        first | (guard_target =~ Wp _ _ _ _ _ (Value.int (nI _) :: Value.int (nI _) :: _) _ _ _ _; with_reducible refine x_icmp_geN (pc := 4) (tgt := 30) ?_ ?_ dX10_takesWord_4 ?_ (fun h4 => ?_) (fun h4 => ?_); (first | omega | exact b2n_31 _); (first | omega | exact b2n_31 _); decide) | refine x_icmp_ge (pc := 4) (tgt := 30) dX10_takesWord_4 (by decide) (fun h4 => ?_) (fun h4 => ?_)
        · skip
          omega
        · skip
          refine x_aload_n (pc := 7) dX10_takesWord_7 rfl ?_
          refine x_aload_n (pc := 8) dX10_takesWord_8 rfl ?_
          refine x_getR (pc := 9) dX10_takesWord_9 flX10_89 (by first | assumption | rfl) rfl ?_
          refine x_iload_n (pc := 12) dX10_takesWord_12 rfl ?_
          refine x_iload_n (pc := 13) dX10_takesWord_13 rfl ?_
          first | (guard_target =~ Wp _ _ _ _ _ (Value.int (nI _) :: Value.int (nI _) :: _) _ _ _ _; with_reducible refine x_iaddN (pc := 14) dX10_takesWord_14 ?_) | refine x_iadd (pc := 14) dX10_takesWord_14 ?_
          refine x_ialdN (pc := 15) dX10_takesWord_15 (by first | assumption | rfl) (by first | with_reducible rfl | (simp only [xlit, nI_add, pk_mul]; with_reducible rfl)) (by omega) (by decide) ?_
          rw [h80]
          refine x_invV1 (pc := 16) dX10_takesWord_16 mlX10_275 imX10_takes seX10_takes kX10_takes (by first | assumption | rfl) rfl (Nat.le_of_ble_eq_true rfl) (by decide) ?_
          refine sm_takes hT hN1 (by omega) (by omega) (fun M2 ho2 h132 => ?_)
          refine x_cv rfl rfl ?_
          rw [decide_eq_true (show chT n t q = x - 1 + 1 by omega)]
          first | (guard_target =~ Wp _ _ _ _ _ (Value.int (nI _) :: _) _ _ _ _; with_reducible refine x_if_neN (pc := 19) (tgt := 24) ?_ dX10_takesWord_19 ?_ (fun h19 => ?_) (fun h19 => ?_); (first | omega | exact b2n_32 _ | exact b2n_31 _); decide) | refine x_if_ne (pc := 19) (tgt := 24) dX10_takesWord_19 (by decide) (fun h19 => ?_) (fun h19 => ?_)
          · skip
            first | (guard_target =~ Wp _ _ _ _ (_ :: _ :: _ :: some (Value.int (nI _)) :: _) _ _ _ _ _; with_reducible refine x_iincN (pc := 24) 1 ic_1 dX10_takesWord_24 ?_ xg_3 xs_3 ?_ ?_; decide; exact (x_hp rfl)) | refine x_iincC (pc := 24) ic_1 dX10_takesWord_24 (by decide) rfl xs_3 (x_hp rfl) ?_
            refine x_goto (pc := 27) (tgt := 2) dX10_takesWord_27 (by decide) ?_
            rw [if_pos (show chT n t q = x - 1 + 1 by omega)] at h132
            exact ih (k + 1) (q + 1) M2 (by omega) hdr2 (by omega) (ho.tr (ho2.wide (fun a k q => by simp at q; simp [p13, q]))) h132 he
          · skip
            cases h19
      · rw [if_neg heq] at he
        rw [← he] at h
        refine x_iload_n (pc := 2) dX10_takesWord_2 rfl ?_
        refine x_iload_n (pc := 3) dX10_takesWord_3 rfl ?_
        first | (guard_target =~ Wp _ _ _ _ _ (Value.int (nI _) :: Value.int (nI _) :: _) _ _ _ _; with_reducible refine x_icmp_geN (pc := 4) (tgt := 30) ?_ ?_ dX10_takesWord_4 ?_ (fun h4 => ?_) (fun h4 => ?_); (first | omega | exact b2n_31 _); (first | omega | exact b2n_31 _); decide) | refine x_icmp_ge (pc := 4) (tgt := 30) dX10_takesWord_4 (by decide) (fun h4 => ?_) (fun h4 => ?_)
        · skip
          omega
        · skip
          refine x_aload_n (pc := 7) dX10_takesWord_7 rfl ?_
          refine x_aload_n (pc := 8) dX10_takesWord_8 rfl ?_
          refine x_getR (pc := 9) dX10_takesWord_9 flX10_89 (by first | assumption | rfl) rfl ?_
          refine x_iload_n (pc := 12) dX10_takesWord_12 rfl ?_
          refine x_iload_n (pc := 13) dX10_takesWord_13 rfl ?_
          first | (guard_target =~ Wp _ _ _ _ _ (Value.int (nI _) :: Value.int (nI _) :: _) _ _ _ _; with_reducible refine x_iaddN (pc := 14) dX10_takesWord_14 ?_) | refine x_iadd (pc := 14) dX10_takesWord_14 ?_
          refine x_ialdN (pc := 15) dX10_takesWord_15 (by first | assumption | rfl) (by first | with_reducible rfl | (simp only [xlit, nI_add, pk_mul]; with_reducible rfl)) (by omega) (by decide) ?_
          rw [h80]
          refine x_invV1 (pc := 16) dX10_takesWord_16 mlX10_275 imX10_takes seX10_takes kX10_takes (by first | assumption | rfl) rfl (Nat.le_of_ble_eq_true rfl) (by decide) ?_
          refine sm_takes hT hN1 (by omega) (by omega) (fun M2 ho2 h132 => ?_)
          refine x_cv rfl rfl ?_
          rw [decide_eq_false (show ¬ chT n t q = x - 1 + 1 by omega)]
          first | (guard_target =~ Wp _ _ _ _ _ (Value.int (nI _) :: _) _ _ _ _; with_reducible refine x_if_neN (pc := 19) (tgt := 24) ?_ dX10_takesWord_19 ?_ (fun h19 => ?_) (fun h19 => ?_); (first | omega | exact b2n_32 _ | exact b2n_31 _); decide) | refine x_if_ne (pc := 19) (tgt := 24) dX10_takesWord_19 (by decide) (fun h19 => ?_) (fun h19 => ?_)
          · skip
            exact absurd rfl h19
          · skip
            refine x_iconstN (pc := 22) 0 dX10_takesWord_22 ic_0 ?_
            refine x_ret (pc := 23) (v := some _) rfl (by first | rfl | decide | exact xrt_b) dX10_takesWord_23 (by decide) ?_
            rw [if_neg (show ¬ chT n t q = x - 1 + 1 by omega)] at h132
            exact h M2 (ho.tr (ho2.wide (fun a k q => by simp at q; simp [p13, q]))) h132
  refine x_iconstN (pc := 0) 0 dX10_takesWord_0 ic_0 ?_
  refine x_istore_n (pc := 1) dX10_takesWord_1 (by decide) xs_3 (x_hp rfl) ?_
  exact loop w 0 p M (by omega) rfl hpn only.rf hN.2 rfl
end P93
