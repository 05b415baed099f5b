/-! ROOMS of the program: number, word, test -/
section P30
variable {g : XG} {d : Nat} {S : XS} {M : XM} {K : Option Value → XS → XM → Prop} {b n p : Nat} {c f : Nat → Nat}
theorem numX {o4 o5 : Option Value} {v dg k : Nat} (hd : dg < 3) (h0 : dg = 0 → K (some (.int (nI v))) xSF (rM M p true)) (h1 : dg ≠ 0 → K (some (.int (nI v))) xSF (rM M p false)) : Wp g d mX6_number 113 [some (.ref 41), some (.int (nI v)), some (.int (nI dg)), some (.int (nI k)), o4, o5] [] xSF (0, 0) (rM M p false) K := by
  refine x_iload_n (pc := 113) dX6_number_113 rfl ?_
  first | (guard_target =~ Wp _ _ _ _ _ (Value.int (nI _) :: _) _ _ _ _; with_reducible refine x_if_neN (pc := 114) (tgt := 122) ?_ dX6_number_114 ?_ (fun h114 => ?_) (fun h114 => ?_); (first | omega | exact b2n_32 _ | exact b2n_31 _); decide) | refine x_if_ne (pc := 114) (tgt := 122) dX6_number_114 (by decide) (fun h114 => ?_) (fun h114 => ?_)
  · skip
    refine x_iload_n (pc := 122) dX6_number_122 rfl ?_
    refine x_ret (pc := 123) (v := some _) rfl trivial dX6_number_123 (by decide) ?_
    exact h1 (by omega)
  · skip
    refine x_aload_n (pc := 117) dX6_number_117 rfl ?_
    refine x_iconstN (pc := 118) 1 dX6_number_118 ic_1 ?_
    refine x_putI (pc := 119) dX6_number_119 flX6_30 (by first | assumption | rfl) rfl (by first | rfl | decide) (by first | rfl | decide) ?_
    rw [rM_fail]
    refine x_iload_n (pc := 122) dX6_number_122 rfl ?_
    refine x_ret (pc := 123) (v := some _) rfl trivial dX6_number_123 (by decide) ?_
    exact h0 (by omega)
theorem numN {o4 o5 : Option Value} {v dg k : Nat} (hR : RT M b n c f) (hp : p ≤ n) (hk : k < 2) (hD : isD (c p) = false)
    (h : ∀ o4 o5, Wp g d mX6_number 113 [some (.ref 41), some (.int (nI v)), some (.int (nI dg)), some (.int (nI k)), o4, o5] [] xSF (0, 0) (rM M p false) K) : Wp g d mX6_number 6 [some (.ref 41), some (.int (nI v)), some (.int (nI dg)), some (.int (nI k)), o4, o5] [] xSF (0, 0) (rM M p false) K := by
  obtain ⟨r1, r2, r3, ⟨r4, r4b⟩, r5, -⟩ := id hR
  have hnd : ¬ (49 ≤ c p ∧ c p ≤ 58) := fun q => by rw [isD_iff.mpr q] at hD; cases hD
  have hcb := (r4b p).2
  have n28 : (p < n ∧ c p - 1 < 48) ∨ (p < n ∧ 57 < c p - 1) ∨ ¬ p < n := by
    by_cases hpn : p < n
    · have := hR.c0 hpn
      omega
    · exact Or.inr (Or.inr hpn)
  rcases n28 with ⟨n1, n2⟩ | ⟨n1, n2⟩ | n1
  · have hc0 := hR.c0 n1
    refine x_iload_n (pc := 6) dX6_number_6 rfl ?_
    refine x_iconstN (pc := 7) 2 dX6_number_7 ic_2 ?_
    first | (guard_target =~ Wp _ _ _ _ _ (Value.int (nI _) :: Value.int (nI _) :: _) _ _ _ _; with_reducible refine x_icmp_geN (pc := 8) (tgt := 113) ?_ ?_ dX6_number_8 ?_ (fun h8 => ?_) (fun h8 => ?_); (first | omega | exact b2n_31 _); (first | omega | exact b2n_31 _); decide) | refine x_icmp_ge (pc := 8) (tgt := 113) dX6_number_8 (by decide) (fun h8 => ?_) (fun h8 => ?_)
    · skip
      omega
    · skip
      refine x_aload_n (pc := 11) dX6_number_11 rfl ?_
      refine x_getI (pc := 12) dX6_number_12 flX6_30 (by first | assumption | rfl) rfl ?_
      rw [rM_br]
      first | (guard_target =~ Wp _ _ _ _ _ (Value.int (nI _) :: _) _ _ _ _; with_reducible refine x_if_neN (pc := 15) (tgt := 113) ?_ dX6_number_15 ?_ (fun h15 => ?_) (fun h15 => ?_); (first | omega | exact b2n_32 _ | exact b2n_31 _); decide) | refine x_if_ne (pc := 15) (tgt := 113) dX6_number_15 (by decide) (fun h15 => ?_) (fun h15 => ?_)
      · skip
        exact absurd rfl h15
      · skip
        refine x_aload_n (pc := 18) dX6_number_18 rfl ?_
        refine x_getI (pc := 19) dX6_number_19 flX6_34 (by first | assumption | rfl) rfl ?_
        rw [rM_at]
        refine x_aload_n (pc := 22) dX6_number_22 rfl ?_
        refine x_getI (pc := 23) dX6_number_23 flX6_58 (by first | assumption | rfl) rfl ?_
        rw [show (rM M p false).1 41 4 = nI n from r3]
        first | (guard_target =~ Wp _ _ _ _ _ (Value.int (nI _) :: Value.int (nI _) :: _) _ _ _ _; with_reducible refine x_icmp_geN (pc := 26) (tgt := 113) ?_ ?_ dX6_number_26 ?_ (fun h26 => ?_) (fun h26 => ?_); (first | omega | exact b2n_31 _); (first | omega | exact b2n_31 _); decide) | refine x_icmp_ge (pc := 26) (tgt := 113) dX6_number_26 (by decide) (fun h26 => ?_) (fun h26 => ?_)
        · skip
          omega
        · skip
          refine x_aload_n (pc := 29) dX6_number_29 rfl ?_
          refine x_getI (pc := 30) dX6_number_30 flX6_55 (by first | assumption | rfl) rfl ?_
          rw [show (rM M p false).1 41 3 = nI (100 * b) from r1]
          refine x_aload_n (pc := 33) dX6_number_33 rfl ?_
          refine x_getI (pc := 34) dX6_number_34 flX6_34 (by first | assumption | rfl) rfl ?_
          rw [rM_at]
          first | (guard_target =~ Wp _ _ _ _ _ (Value.int (nI _) :: Value.int (nI _) :: _) _ _ _ _; with_reducible refine x_iaddN (pc := 37) dX6_number_37 ?_) | refine x_iadd (pc := 37) dX6_number_37 ?_
          refine x_istore (pc := 38) dX6_number_38 (by decide) xs_4 (x_hp rfl) ?_
          refine x_iload (pc := 40) dX6_number_40 rfl ?_
          refine x_if_ltN (pc := 42) (by omega) (tgt := 68) dX6_number_42 (by decide) ?_
          refine x_iload (pc := 45) dX6_number_45 rfl ?_
          refine x_aload_n (pc := 47) dX6_number_47 rfl ?_
          refine x_getR (pc := 48) dX6_number_48 flX6_11 (by first | assumption | rfl) rfl ?_
          refine x_alen (pc := 51) (t := 1) (n := 700) (v := nI 700) dX6_number_51 (by decide) rfl rfl ?_
          first | (guard_target =~ Wp _ _ _ _ _ (Value.int (nI _) :: Value.int (nI _) :: _) _ _ _ _; with_reducible refine x_icmp_geN (pc := 52) (tgt := 68) ?_ ?_ dX6_number_52 ?_ (fun h52 => ?_) (fun h52 => ?_); (first | omega | exact b2n_31 _); (first | omega | exact b2n_31 _); decide) | refine x_icmp_ge (pc := 52) (tgt := 68) dX6_number_52 (by decide) (fun h52 => ?_) (fun h52 => ?_)
          · skip
            omega
          · skip
            refine x_aload_n (pc := 55) dX6_number_55 rfl ?_
            refine x_getR (pc := 56) dX6_number_56 flX6_11 (by first | assumption | rfl) rfl ?_
            refine x_iload (pc := 59) dX6_number_59 rfl ?_
            refine x_baldN (pc := 61) dX6_number_61 (by first | assumption | rfl) (by first | with_reducible rfl | (simp only [xlit, nI_add, pk_mul]; with_reducible rfl)) (by omega) (by decide) ?_
            rw [show (rM M p false).1 42 (100 * b + p) = srt (c p) from r5 p n1, srt_1 hc0]
            refine x_bipushN (pc := 62) 48 dX6_number_62 bp_48 ?_
            refine x_isub (pc := 64) dX6_number_64 ?_
            refine x_goto (pc := 65) (tgt := 69) dX6_number_65 (by decide) ?_
            refine x_istore (pc := 69) dX6_number_69 (by decide) xs_5 (x_hp rfl) ?_
            refine x_iload (pc := 71) dX6_number_71 rfl ?_
            refine x_if_lt (pc := 73) (tgt := 113) dX6_number_73 (by decide) (fun h73 => ?_) (fun h73 => ?_)
            · skip
              exact h _ _
            · skip
              exact absurd (pk_sneg (by omega) (by omega)) h73
  · have hc0 := hR.c0 n1
    refine x_iload_n (pc := 6) dX6_number_6 rfl ?_
    refine x_iconstN (pc := 7) 2 dX6_number_7 ic_2 ?_
    first | (guard_target =~ Wp _ _ _ _ _ (Value.int (nI _) :: Value.int (nI _) :: _) _ _ _ _; with_reducible refine x_icmp_geN (pc := 8) (tgt := 113) ?_ ?_ dX6_number_8 ?_ (fun h8 => ?_) (fun h8 => ?_); (first | omega | exact b2n_31 _); (first | omega | exact b2n_31 _); decide) | refine x_icmp_ge (pc := 8) (tgt := 113) dX6_number_8 (by decide) (fun h8 => ?_) (fun h8 => ?_)
    · skip
      omega
    · skip
      refine x_aload_n (pc := 11) dX6_number_11 rfl ?_
      refine x_getI (pc := 12) dX6_number_12 flX6_30 (by first | assumption | rfl) rfl ?_
      rw [rM_br]
      first | (guard_target =~ Wp _ _ _ _ _ (Value.int (nI _) :: _) _ _ _ _; with_reducible refine x_if_neN (pc := 15) (tgt := 113) ?_ dX6_number_15 ?_ (fun h15 => ?_) (fun h15 => ?_); (first | omega | exact b2n_32 _ | exact b2n_31 _); decide) | refine x_if_ne (pc := 15) (tgt := 113) dX6_number_15 (by decide) (fun h15 => ?_) (fun h15 => ?_)
      · skip
        exact absurd rfl h15
      · skip
        refine x_aload_n (pc := 18) dX6_number_18 rfl ?_
        refine x_getI (pc := 19) dX6_number_19 flX6_34 (by first | assumption | rfl) rfl ?_
        rw [rM_at]
        refine x_aload_n (pc := 22) dX6_number_22 rfl ?_
        refine x_getI (pc := 23) dX6_number_23 flX6_58 (by first | assumption | rfl) rfl ?_
        rw [show (rM M p false).1 41 4 = nI n from r3]
        first | (guard_target =~ Wp _ _ _ _ _ (Value.int (nI _) :: Value.int (nI _) :: _) _ _ _ _; with_reducible refine x_icmp_geN (pc := 26) (tgt := 113) ?_ ?_ dX6_number_26 ?_ (fun h26 => ?_) (fun h26 => ?_); (first | omega | exact b2n_31 _); (first | omega | exact b2n_31 _); decide) | refine x_icmp_ge (pc := 26) (tgt := 113) dX6_number_26 (by decide) (fun h26 => ?_) (fun h26 => ?_)
        · skip
          omega
        · skip
          refine x_aload_n (pc := 29) dX6_number_29 rfl ?_
          refine x_getI (pc := 30) dX6_number_30 flX6_55 (by first | assumption | rfl) rfl ?_
          rw [show (rM M p false).1 41 3 = nI (100 * b) from r1]
          refine x_aload_n (pc := 33) dX6_number_33 rfl ?_
          refine x_getI (pc := 34) dX6_number_34 flX6_34 (by first | assumption | rfl) rfl ?_
          rw [rM_at]
          first | (guard_target =~ Wp _ _ _ _ _ (Value.int (nI _) :: Value.int (nI _) :: _) _ _ _ _; with_reducible refine x_iaddN (pc := 37) dX6_number_37 ?_) | refine x_iadd (pc := 37) dX6_number_37 ?_
          refine x_istore (pc := 38) dX6_number_38 (by decide) xs_4 (x_hp rfl) ?_
          refine x_iload (pc := 40) dX6_number_40 rfl ?_
          refine x_if_ltN (pc := 42) (by omega) (tgt := 68) dX6_number_42 (by decide) ?_
          refine x_iload (pc := 45) dX6_number_45 rfl ?_
          refine x_aload_n (pc := 47) dX6_number_47 rfl ?_
          refine x_getR (pc := 48) dX6_number_48 flX6_11 (by first | assumption | rfl) rfl ?_
          refine x_alen (pc := 51) (t := 1) (n := 700) (v := nI 700) dX6_number_51 (by decide) rfl rfl ?_
          first | (guard_target =~ Wp _ _ _ _ _ (Value.int (nI _) :: Value.int (nI _) :: _) _ _ _ _; with_reducible refine x_icmp_geN (pc := 52) (tgt := 68) ?_ ?_ dX6_number_52 ?_ (fun h52 => ?_) (fun h52 => ?_); (first | omega | exact b2n_31 _); (first | omega | exact b2n_31 _); decide) | refine x_icmp_ge (pc := 52) (tgt := 68) dX6_number_52 (by decide) (fun h52 => ?_) (fun h52 => ?_)
          · skip
            omega
          · skip
            refine x_aload_n (pc := 55) dX6_number_55 rfl ?_
            refine x_getR (pc := 56) dX6_number_56 flX6_11 (by first | assumption | rfl) rfl ?_
            refine x_iload (pc := 59) dX6_number_59 rfl ?_
            refine x_baldN (pc := 61) dX6_number_61 (by first | assumption | rfl) (by first | with_reducible rfl | (simp only [xlit, nI_add, pk_mul]; with_reducible rfl)) (by omega) (by decide) ?_
            rw [show (rM M p false).1 42 (100 * b + p) = srt (c p) from r5 p n1, srt_1 hc0]
            refine x_bipushN (pc := 62) 48 dX6_number_62 bp_48 ?_
            first | (guard_target =~ Wp _ _ _ _ _ (Value.int (nI _) :: Value.int (nI _) :: _) _ _ _ _; with_reducible refine x_isubN (pc := 64) ?_ dX6_number_64 ?_; omega) | refine x_isub (pc := 64) dX6_number_64 ?_
            refine x_goto (pc := 65) (tgt := 69) dX6_number_65 (by decide) ?_
            refine x_istore (pc := 69) dX6_number_69 (by decide) xs_5 (x_hp rfl) ?_
            refine x_iload (pc := 71) dX6_number_71 rfl ?_
            refine x_if_ltN (pc := 73) (by omega) (tgt := 113) dX6_number_73 (by decide) ?_
            refine x_iload (pc := 76) dX6_number_76 rfl ?_
            refine x_bipushN (pc := 78) 9 dX6_number_78 bp_9 ?_
            first | (guard_target =~ Wp _ _ _ _ _ (Value.int (nI _) :: Value.int (nI _) :: _) _ _ _ _; with_reducible refine x_icmp_leN (pc := 80) (tgt := 86) ?_ ?_ dX6_number_80 ?_ (fun h80 => ?_) (fun h80 => ?_); (first | omega | exact b2n_31 _); (first | omega | exact b2n_31 _); decide) | refine x_icmp_le (pc := 80) (tgt := 86) dX6_number_80 (by decide) (fun h80 => ?_) (fun h80 => ?_)
            · skip
              omega
            · skip
              refine x_goto (pc := 83) (tgt := 113) dX6_number_83 (by decide) ?_
              exact h _ _
  · skip
    refine x_iload_n (pc := 6) dX6_number_6 rfl ?_
    refine x_iconstN (pc := 7) 2 dX6_number_7 ic_2 ?_
    first | (guard_target =~ Wp _ _ _ _ _ (Value.int (nI _) :: Value.int (nI _) :: _) _ _ _ _; with_reducible refine x_icmp_geN (pc := 8) (tgt := 113) ?_ ?_ dX6_number_8 ?_ (fun h8 => ?_) (fun h8 => ?_); (first | omega | exact b2n_31 _); (first | omega | exact b2n_31 _); decide) | refine x_icmp_ge (pc := 8) (tgt := 113) dX6_number_8 (by decide) (fun h8 => ?_) (fun h8 => ?_)
    · skip
      omega
    · skip
      refine x_aload_n (pc := 11) dX6_number_11 rfl ?_
      refine x_getI (pc := 12) dX6_number_12 flX6_30 (by first | assumption | rfl) rfl ?_
      rw [rM_br]
      first | (guard_target =~ Wp _ _ _ _ _ (Value.int (nI _) :: _) _ _ _ _; with_reducible refine x_if_neN (pc := 15) (tgt := 113) ?_ dX6_number_15 ?_ (fun h15 => ?_) (fun h15 => ?_); (first | omega | exact b2n_32 _ | exact b2n_31 _); decide) | refine x_if_ne (pc := 15) (tgt := 113) dX6_number_15 (by decide) (fun h15 => ?_) (fun h15 => ?_)
      · skip
        exact absurd rfl h15
      · skip
        refine x_aload_n (pc := 18) dX6_number_18 rfl ?_
        refine x_getI (pc := 19) dX6_number_19 flX6_34 (by first | assumption | rfl) rfl ?_
        rw [rM_at]
        refine x_aload_n (pc := 22) dX6_number_22 rfl ?_
        refine x_getI (pc := 23) dX6_number_23 flX6_58 (by first | assumption | rfl) rfl ?_
        rw [show (rM M p false).1 41 4 = nI n from r3]
        first | (guard_target =~ Wp _ _ _ _ _ (Value.int (nI _) :: Value.int (nI _) :: _) _ _ _ _; with_reducible refine x_icmp_geN (pc := 26) (tgt := 113) ?_ ?_ dX6_number_26 ?_ (fun h26 => ?_) (fun h26 => ?_); (first | omega | exact b2n_31 _); (first | omega | exact b2n_31 _); decide) | refine x_icmp_ge (pc := 26) (tgt := 113) dX6_number_26 (by decide) (fun h26 => ?_) (fun h26 => ?_)
        · skip
          exact h _ _
        · skip
          omega
theorem numS {o4 o5 : Option Value} {v dg k : Nat} (hR : RT M b n c f) (hp : p ≤ n) (hk : k < 2) (hD : isD (c p) = true)
    (h : ∀ o4 o5, Wp g d mX6_number 6 [some (.ref 41), some (.int (nI (10 * v + (c p - 49)))), some (.int (nI (dg + 1))), some (.int (nI (k + 1))), o4, o5] [] xSF (0, 0) (rM M (p + 1) false) K) : Wp g d mX6_number 6 [some (.ref 41), some (.int (nI v)), some (.int (nI dg)), some (.int (nI k)), o4, o5] [] xSF (0, 0) (rM M p false) K := by
  obtain ⟨r1, r2, r3, ⟨r4, r4b⟩, r5, -⟩ := id hR
  have hd := isD_iff.mp hD
  have n1 : p < n := hR.2.2.2.1.lt rfl (by omega)
  refine x_iload_n (pc := 6) dX6_number_6 rfl ?_
  refine x_iconstN (pc := 7) 2 dX6_number_7 ic_2 ?_
  first | (guard_target =~ Wp _ _ _ _ _ (Value.int (nI _) :: Value.int (nI _) :: _) _ _ _ _; with_reducible refine x_icmp_geN (pc := 8) (tgt := 113) ?_ ?_ dX6_number_8 ?_ (fun h8 => ?_) (fun h8 => ?_); (first | omega | exact b2n_31 _); (first | omega | exact b2n_31 _); decide) | refine x_icmp_ge (pc := 8) (tgt := 113) dX6_number_8 (by decide) (fun h8 => ?_) (fun h8 => ?_)
  · skip
    omega
  · skip
    refine x_aload_n (pc := 11) dX6_number_11 rfl ?_
    refine x_getI (pc := 12) dX6_number_12 flX6_30 (by first | assumption | rfl) rfl ?_
    rw [rM_br]
    first | (guard_target =~ Wp _ _ _ _ _ (Value.int (nI _) :: _) _ _ _ _; with_reducible refine x_if_neN (pc := 15) (tgt := 113) ?_ dX6_number_15 ?_ (fun h15 => ?_) (fun h15 => ?_); (first | omega | exact b2n_32 _ | exact b2n_31 _); decide) | refine x_if_ne (pc := 15) (tgt := 113) dX6_number_15 (by decide) (fun h15 => ?_) (fun h15 => ?_)
    · skip
      exact absurd rfl h15
    · skip
      refine x_aload_n (pc := 18) dX6_number_18 rfl ?_
      refine x_getI (pc := 19) dX6_number_19 flX6_34 (by first | assumption | rfl) rfl ?_
      rw [rM_at]
      refine x_aload_n (pc := 22) dX6_number_22 rfl ?_
      refine x_getI (pc := 23) dX6_number_23 flX6_58 (by first | assumption | rfl) rfl ?_
      rw [show (rM M p false).1 41 4 = nI n from r3]
      first | (guard_target =~ Wp _ _ _ _ _ (Value.int (nI _) :: Value.int (nI _) :: _) _ _ _ _; with_reducible refine x_icmp_geN (pc := 26) (tgt := 113) ?_ ?_ dX6_number_26 ?_ (fun h26 => ?_) (fun h26 => ?_); (first | omega | exact b2n_31 _); (first | omega | exact b2n_31 _); decide) | refine x_icmp_ge (pc := 26) (tgt := 113) dX6_number_26 (by decide) (fun h26 => ?_) (fun h26 => ?_)
      · skip
        omega
      · skip
        refine x_aload_n (pc := 29) dX6_number_29 rfl ?_
        refine x_getI (pc := 30) dX6_number_30 flX6_55 (by first | assumption | rfl) rfl ?_
        rw [show (rM M p false).1 41 3 = nI (100 * b) from r1]
        refine x_aload_n (pc := 33) dX6_number_33 rfl ?_
        refine x_getI (pc := 34) dX6_number_34 flX6_34 (by first | assumption | rfl) rfl ?_
        rw [rM_at]
        first | (guard_target =~ Wp _ _ _ _ _ (Value.int (nI _) :: Value.int (nI _) :: _) _ _ _ _; with_reducible refine x_iaddN (pc := 37) dX6_number_37 ?_) | refine x_iadd (pc := 37) dX6_number_37 ?_
        refine x_istore (pc := 38) dX6_number_38 (by decide) xs_4 (x_hp rfl) ?_
        refine x_iload (pc := 40) dX6_number_40 rfl ?_
        refine x_if_ltN (pc := 42) (by omega) (tgt := 68) dX6_number_42 (by decide) ?_
        refine x_iload (pc := 45) dX6_number_45 rfl ?_
        refine x_aload_n (pc := 47) dX6_number_47 rfl ?_
        refine x_getR (pc := 48) dX6_number_48 flX6_11 (by first | assumption | rfl) rfl ?_
        refine x_alen (pc := 51) (t := 1) (n := 700) (v := nI 700) dX6_number_51 (by decide) rfl rfl ?_
        first | (guard_target =~ Wp _ _ _ _ _ (Value.int (nI _) :: Value.int (nI _) :: _) _ _ _ _; with_reducible refine x_icmp_geN (pc := 52) (tgt := 68) ?_ ?_ dX6_number_52 ?_ (fun h52 => ?_) (fun h52 => ?_); (first | omega | exact b2n_31 _); (first | omega | exact b2n_31 _); decide) | refine x_icmp_ge (pc := 52) (tgt := 68) dX6_number_52 (by decide) (fun h52 => ?_) (fun h52 => ?_)
        · skip
          omega
        · skip
          refine x_aload_n (pc := 55) dX6_number_55 rfl ?_
          refine x_getR (pc := 56) dX6_number_56 flX6_11 (by first | assumption | rfl) rfl ?_
          refine x_iload (pc := 59) dX6_number_59 rfl ?_
          refine x_baldN (pc := 61) dX6_number_61 (by first | assumption | rfl) (by first | with_reducible rfl | (simp only [xlit, nI_add, pk_mul]; with_reducible rfl)) (by omega) (by decide) ?_
          rw [show (rM M p false).1 42 (100 * b + p) = srt (c p) from r5 p n1, srt_1 (by omega)]
          refine x_bipushN (pc := 62) 48 dX6_number_62 bp_48 ?_
          first | (guard_target =~ Wp _ _ _ _ _ (Value.int (nI _) :: Value.int (nI _) :: _) _ _ _ _; with_reducible refine x_isubN (pc := 64) ?_ dX6_number_64 ?_; omega) | refine x_isub (pc := 64) dX6_number_64 ?_
          refine x_goto (pc := 65) (tgt := 69) dX6_number_65 (by decide) ?_
          refine x_istore (pc := 69) dX6_number_69 (by decide) xs_5 (x_hp rfl) ?_
          refine x_iload (pc := 71) dX6_number_71 rfl ?_
          refine x_if_ltN (pc := 73) (by omega) (tgt := 113) dX6_number_73 (by decide) ?_
          refine x_iload (pc := 76) dX6_number_76 rfl ?_
          refine x_bipushN (pc := 78) 9 dX6_number_78 bp_9 ?_
          first | (guard_target =~ Wp _ _ _ _ _ (Value.int (nI _) :: Value.int (nI _) :: _) _ _ _ _; with_reducible refine x_icmp_leN (pc := 80) (tgt := 86) ?_ ?_ dX6_number_80 ?_ (fun h80 => ?_) (fun h80 => ?_); (first | omega | exact b2n_31 _); (first | omega | exact b2n_31 _); decide) | refine x_icmp_le (pc := 80) (tgt := 86) dX6_number_80 (by decide) (fun h80 => ?_) (fun h80 => ?_)
          · skip
            refine x_bipushN (pc := 86) 10 dX6_number_86 bp_10 ?_
            refine x_iload_n (pc := 88) dX6_number_88 rfl ?_
            first | (guard_target =~ Wp _ _ _ _ _ (Value.int (nI _) :: Value.int (nI _) :: _) _ _ _ _; with_reducible refine x_imulN (pc := 89) dX6_number_89 ?_) | refine x_imul (pc := 89) dX6_number_89 ?_
            refine x_iload (pc := 90) dX6_number_90 rfl ?_
            first | (guard_target =~ Wp _ _ _ _ _ (Value.int (nI _) :: Value.int (nI _) :: _) _ _ _ _; with_reducible refine x_iaddN (pc := 92) dX6_number_92 ?_) | refine x_iadd (pc := 92) dX6_number_92 ?_
            refine x_istore_n (pc := 93) dX6_number_93 (by decide) xs_1 (x_hp rfl) ?_
            refine x_aload_n (pc := 94) dX6_number_94 rfl ?_
            refine x_dup (pc := 95) dX6_number_95 rfl ?_
            refine x_getI (pc := 96) dX6_number_96 flX6_34 (by first | assumption | rfl) rfl ?_
            rw [rM_at]
            refine x_iconstN (pc := 99) 1 dX6_number_99 ic_1 ?_
            first | (guard_target =~ Wp _ _ _ _ _ (Value.int (nI _) :: Value.int (nI _) :: _) _ _ _ _; with_reducible refine x_iaddN (pc := 100) dX6_number_100 ?_) | refine x_iadd (pc := 100) dX6_number_100 ?_
            refine x_putI (pc := 101) dX6_number_101 flX6_34 (by first | assumption | rfl) rfl rfl rfl ?_
            rw [rM_put]
            first | (guard_target =~ Wp _ _ _ _ (_ :: _ :: some (Value.int (nI _)) :: _) _ _ _ _ _; with_reducible refine x_iincN (pc := 104) 1 ic_1 dX6_number_104 ?_ xg_2 xs_2 ?_ ?_; decide; exact (x_hp rfl)) | refine x_iincC (pc := 104) ic_1 dX6_number_104 (by decide) rfl xs_2 (x_hp rfl) ?_
            first | (guard_target =~ Wp _ _ _ _ (_ :: _ :: _ :: some (Value.int (nI _)) :: _) _ _ _ _ _; with_reducible refine x_iincN (pc := 107) 1 ic_1 dX6_number_107 ?_ xg_3 xs_3 ?_ ?_; decide; exact (x_hp rfl)) | refine x_iincC (pc := 107) ic_1 dX6_number_107 (by decide) rfl xs_3 (x_hp rfl) ?_
            refine x_goto (pc := 110) (tgt := 6) dX6_number_110 (by decide) ?_
            rw [show c p - 1 - 48 = c p - 49 by omega]; exact h _ _
          · skip
            omega
theorem sp_X6_number (hR : RT M b n c f) (hp : p ≤ n) (h0 : numP c p = none → K (some (.int (nI 0))) xSF (rM M p true)) (h : ∀ v q, numP c p = some (v, q) → K (some (.int (nI v))) xSF (rM M q false)) : Ex g d yX6_number mX6_number [.ref 41] xSF (rM M p false) K := by
  obtain ⟨r1, r2, r3, ⟨r4, r4b⟩, r5, -⟩ := id hR
  refine x_entry kX6_number (Nat.le_of_ble_eq_true rfl) ?_
  show Wp g _ mX6_number 0 [some (.ref 41), none, none, none, none, none] [] _ _ _ _
  refine x_iconstN (pc := 0) 0 dX6_number_0 ic_0 ?_
  refine x_istore_n (pc := 1) dX6_number_1 (by decide) xs_1 (x_hp rfl) ?_
  refine x_iconstN (pc := 2) 0 dX6_number_2 ic_0 ?_
  refine x_istore_n (pc := 3) dX6_number_3 (by decide) xs_2 (x_hp rfl) ?_
  refine x_iconstN (pc := 4) 0 dX6_number_4 ic_0 ?_
  refine x_istore_n (pc := 5) dX6_number_5 (by decide) xs_3 (x_hp rfl) ?_
  skip
  by_cases h1 : isD (c p) = true
  · have n1 : p < n := hR.2.2.2.1.lt rfl (by have := isD_iff.mp h1; omega)
    refine numS hR hp (by decide) h1 (fun o4 o5 => ?_)
    by_cases h2 : isD (c (p + 1)) = true
    · have n2 : p + 1 < n := hR.2.2.2.1.lt rfl (by have := isD_iff.mp h2; omega)
      refine numS hR (by omega) (by decide) h2 (fun o4 o5 => ?_)
      refine x_iload_n (pc := 6) dX6_number_6 rfl ?_
      refine x_iconstN (pc := 7) 2 dX6_number_7 ic_2 ?_
      first | (guard_target =~ Wp _ _ _ _ _ (Value.int (nI _) :: Value.int (nI _) :: _) _ _ _ _; with_reducible refine x_icmp_geN (pc := 8) (tgt := 113) ?_ ?_ dX6_number_8 ?_ (fun h8 => ?_) (fun h8 => ?_); (first | omega | exact b2n_31 _); (first | omega | exact b2n_31 _); decide) | refine x_icmp_ge (pc := 8) (tgt := 113) dX6_number_8 (by decide) (fun h8 => ?_) (fun h8 => ?_)
      · skip
        refine numX (by decide) (fun q => by cases q) (fun _ => ?_)
        refine h _ _ ?_
        unfold numP
        rw [if_pos h1, if_pos h2]
        simp
      · skip
        omega
    · refine numN hR (by omega) (by decide) (by simpa using h2) (fun o4 o5 => ?_)
      refine numX (by decide) (fun q => by cases q) (fun _ => ?_)
      refine h _ _ ?_
      unfold numP
      rw [if_pos h1, if_neg h2]
      simp
  · refine numN hR (by omega) (by decide) (by simpa using h1) (fun o4 o5 => ?_)
    refine numX (by decide) (fun _ => ?_) (fun q => absurd rfl q)
    refine h0 ?_
    unfold numP
    rw [if_neg h1]
theorem sp_X6_numberB (h : K (some (.int (nI 0))) xSF (rM M p true)) : Ex g d yX6_number mX6_number [.ref 41] xSF (rM M p true) K := by
  refine x_entry kX6_number (Nat.le_of_ble_eq_true rfl) ?_
  show Wp g _ mX6_number 0 [some (.ref 41), none, none, none, none, none] [] _ _ _ _
  refine x_iconstN (pc := 0) 0 dX6_number_0 ic_0 ?_
  refine x_istore_n (pc := 1) dX6_number_1 (by decide) xs_1 (x_hp rfl) ?_
  refine x_iconstN (pc := 2) 0 dX6_number_2 ic_0 ?_
  refine x_istore_n (pc := 3) dX6_number_3 (by decide) xs_2 (x_hp rfl) ?_
  refine x_iconstN (pc := 4) 0 dX6_number_4 ic_0 ?_
  refine x_istore_n (pc := 5) dX6_number_5 (by decide) xs_3 (x_hp rfl) ?_
  refine x_iload_n (pc := 6) dX6_number_6 rfl ?_
  refine x_iconstN (pc := 7) 2 dX6_number_7 ic_2 ?_
  first | (guard_target =~ Wp _ _ _ _ _ (Value.int (nI _) :: Value.int (nI _) :: _) _ _ _ _; with_reducible refine x_icmp_geN (pc := 8) (tgt := 113) ?_ ?_ dX6_number_8 ?_ (fun h8 => ?_) (fun h8 => ?_); (first | omega | exact b2n_31 _); (first | omega | exact b2n_31 _); decide) | refine x_icmp_ge (pc := 8) (tgt := 113) dX6_number_8 (by decide) (fun h8 => ?_) (fun h8 => ?_)
  · skip
    omega
  · skip
    refine x_aload_n (pc := 11) dX6_number_11 rfl ?_
    refine x_getI (pc := 12) dX6_number_12 flX6_30 (by first | assumption | rfl) rfl ?_
    rw [rM_br]
    first | (guard_target =~ Wp _ _ _ _ _ (Value.int (nI _) :: _) _ _ _ _; with_reducible refine x_if_neN (pc := 15) (tgt := 113) ?_ dX6_number_15 ?_ (fun h15 => ?_) (fun h15 => ?_); (first | omega | exact b2n_32 _ | exact b2n_31 _); decide) | refine x_if_ne (pc := 15) (tgt := 113) dX6_number_15 (by decide) (fun h15 => ?_) (fun h15 => ?_)
    · skip
      refine x_iload_n (pc := 113) dX6_number_113 rfl ?_
      first | (guard_target =~ Wp _ _ _ _ _ (Value.int (nI _) :: _) _ _ _ _; with_reducible refine x_if_neN (pc := 114) (tgt := 122) ?_ dX6_number_114 ?_ (fun h114 => ?_) (fun h114 => ?_); (first | omega | exact b2n_32 _ | exact b2n_31 _); decide) | refine x_if_ne (pc := 114) (tgt := 122) dX6_number_114 (by decide) (fun h114 => ?_) (fun h114 => ?_)
      · skip
        omega
      · skip
        refine x_aload_n (pc := 117) dX6_number_117 rfl ?_
        refine x_iconstN (pc := 118) 1 dX6_number_118 ic_1 ?_
        refine x_putI (pc := 119) dX6_number_119 flX6_30 (by first | assumption | rfl) rfl (by first | rfl | decide) (by first | rfl | decide) ?_
        rw [rM_fail]
        refine x_iload_n (pc := 122) dX6_number_122 rfl ?_
        refine x_ret (pc := 123) (v := some _) rfl trivial dX6_number_123 (by decide) ?_
        exact h
    · skip
      cases h15
theorem wl_in : ∀ i, i < 5 → ∀ x, x ∈ wl i → x ≠ 0 := by decide
theorem sp_X6_word {i : Nat} (hi : i < 5) (hR : RT M b n c f) (hp : p ≤ n) (h0 : ∀ q, wrdP c (wl i) p = (false, q) → K none xSF (rM M q true)) (h : ∀ q, wrdP c (wl i) p = (true, q) → K none xSF (rM M q false)) : Ex g (d + 4) yX6_word mX6_word [.ref 41, .ref (2000 + i)] xSF (rM M p false) K := by
  obtain ⟨r1, r2, r3, ⟨r4, r4b⟩, r5, -⟩ := id hR
  have hlen := (wl_len i hi).2
  refine x_entry kX6_word (Nat.le_of_ble_eq_true rfl) ?_
  show Wp g _ mX6_word 0 [some (.ref 41), some (.ref (2000 + i)), none] [] _ _ _ _
  have tail : ∀ k, k < 6 → ∀ q, K none xSF (rM M q true) → Wp g (d + 4) mX6_word 2 [some (.ref 41), some (.ref (2000 + i)), some (.int (nI k))] [] xSF (0, 0) (rM M q true) K := by
    intro k hk q fin
    refine x_iload_n (pc := 2) dX6_word_2 rfl ?_
    refine x_aload_n (pc := 3) dX6_word_3 rfl ?_
    refine x_invT (As := []) (pc := 4) dX6_word_4 mlX6_112 imJ0_length_8abf5 seJ0_length_8abf5 kJ0_length_8abf5 (by omega) rfl rfl (Nat.le_of_ble_eq_true rfl) (by decide) ?_
    refine sp_J0_length hi ?_
    refine x_cv rfl rfl ?_
    first | (guard_target =~ Wp _ _ _ _ _ (Value.int (nI _) :: Value.int (nI _) :: _) _ _ _ _; with_reducible refine x_icmp_geN (pc := 7) (tgt := 53) ?_ ?_ dX6_word_7 ?_ (fun h7 => ?_) (fun h7 => ?_); (first | omega | exact b2n_31 _); (first | omega | exact b2n_31 _); decide) | refine x_icmp_ge (pc := 7) (tgt := 53) dX6_word_7 (by decide) (fun h7 => ?_) (fun h7 => ?_)
    · skip
      refine x_ret (pc := 53) (v := none) rfl trivial dX6_word_53 (by decide) ?_
      exact fin
    · skip
      refine x_aload_n (pc := 10) dX6_word_10 rfl ?_
      refine x_getI (pc := 11) dX6_word_11 flX6_30 (by first | assumption | rfl) rfl ?_
      rw [rM_br]
      first | (guard_target =~ Wp _ _ _ _ _ (Value.int (nI _) :: _) _ _ _ _; with_reducible refine x_if_neN (pc := 14) (tgt := 53) ?_ dX6_word_14 ?_ (fun h14 => ?_) (fun h14 => ?_); (first | omega | exact b2n_32 _ | exact b2n_31 _); decide) | refine x_if_ne (pc := 14) (tgt := 53) dX6_word_14 (by decide) (fun h14 => ?_) (fun h14 => ?_)
      · skip
        refine x_ret (pc := 53) (v := none) rfl trivial dX6_word_53 (by decide) ?_
        exact fin
      · skip
        cases h14
  have loop : ∀ m k q, k + m = (wl i).length → q ≤ n → wrdP c (wl i) p = wrdP c ((wl i).drop k) q → Wp g (d + 4) mX6_word 2 [some (.ref 41), some (.ref (2000 + i)), some (.int (nI k))] [] xSF (0, 0) (rM M q false) K := by
    intro m
    induction m with
    | zero =>
      intro k q hk hq he
      obtain rfl : k = (wl i).length := by omega
      refine x_iload_n (pc := 2) dX6_word_2 rfl ?_
      refine x_aload_n (pc := 3) dX6_word_3 rfl ?_
      refine x_invT (As := []) (pc := 4) dX6_word_4 mlX6_112 imJ0_length_8abf5 seJ0_length_8abf5 kJ0_length_8abf5 (by omega) rfl rfl (Nat.le_of_ble_eq_true rfl) (by decide) ?_
      refine sp_J0_length hi ?_
      refine x_cv rfl rfl ?_
      first | (guard_target =~ Wp _ _ _ _ _ (Value.int (nI _) :: Value.int (nI _) :: _) _ _ _ _; with_reducible refine x_icmp_geN (pc := 7) (tgt := 53) ?_ ?_ dX6_word_7 ?_ (fun h7 => ?_) (fun h7 => ?_); (first | omega | exact b2n_31 _); (first | omega | exact b2n_31 _); decide) | refine x_icmp_ge (pc := 7) (tgt := 53) dX6_word_7 (by decide) (fun h7 => ?_) (fun h7 => ?_)
      · skip
        refine x_ret (pc := 53) (v := none) rfl trivial dX6_word_53 (by decide) ?_
        exact h q (by rw [he, List.drop_length, wrdP])
      · skip
        omega
    | succ m ih =>
      intro k q hk hq he
      have hk2 : k < (wl i).length := by omega
      rw [List.drop_eq_getElem_cons hk2, wrdP] at he
      have hg : (wl i)[k] = (wl i).getD k 0 := by rw [List.getD_eq_getElem?_getD, List.getElem?_eq_getElem hk2, Option.getD_some]
      have hne : (wl i)[k] ≠ 0 := wl_in i hi _ (List.getElem_mem hk2)
      obtain ⟨w1, w2, w3⟩ := wl_by i hi k (by omega) hk2
      refine x_iload_n (pc := 2) dX6_word_2 rfl ?_
      refine x_aload_n (pc := 3) dX6_word_3 rfl ?_
      refine x_invT (As := []) (pc := 4) dX6_word_4 mlX6_112 imJ0_length_8abf5 seJ0_length_8abf5 kJ0_length_8abf5 (by omega) rfl rfl (Nat.le_of_ble_eq_true rfl) (by decide) ?_
      refine sp_J0_length hi ?_
      refine x_cv rfl rfl ?_
      first | (guard_target =~ Wp _ _ _ _ _ (Value.int (nI _) :: Value.int (nI _) :: _) _ _ _ _; with_reducible refine x_icmp_geN (pc := 7) (tgt := 53) ?_ ?_ dX6_word_7 ?_ (fun h7 => ?_) (fun h7 => ?_); (first | omega | exact b2n_31 _); (first | omega | exact b2n_31 _); decide) | refine x_icmp_ge (pc := 7) (tgt := 53) dX6_word_7 (by decide) (fun h7 => ?_) (fun h7 => ?_)
      · skip
        omega
      · skip
        refine x_aload_n (pc := 10) dX6_word_10 rfl ?_
        refine x_getI (pc := 11) dX6_word_11 flX6_30 (by first | assumption | rfl) rfl ?_
        rw [rM_br]
        first | (guard_target =~ Wp _ _ _ _ _ (Value.int (nI _) :: _) _ _ _ _; with_reducible refine x_if_neN (pc := 14) (tgt := 53) ?_ dX6_word_14 ?_ (fun h14 => ?_) (fun h14 => ?_); (first | omega | exact b2n_32 _ | exact b2n_31 _); decide) | refine x_if_ne (pc := 14) (tgt := 53) dX6_word_14 (by decide) (fun h14 => ?_) (fun h14 => ?_)
        · skip
          exact absurd rfl h14
        · skip
          refine x_aload_n (pc := 17) dX6_word_17 rfl ?_
          refine x_invV0 (pc := 18) dX6_word_18 mlX6_64 imX6_sign seX6_sign kX6_sign (by first | assumption | rfl) rfl (Nat.le_of_ble_eq_true rfl) (by decide) ?_
          refine sp_X6_sign hR hq ?_
          refine x_cv rfl rfl ?_
          refine x_aload_n (pc := 21) dX6_word_21 rfl ?_
          refine x_iload_n (pc := 22) dX6_word_22 rfl ?_
          refine x_invT (As := [_]) (pc := 23) dX6_word_23 mlX6_116 imJ0_charAt_5068e seJ0_charAt_5068e kJ0_charAt_5068e (by omega) rfl rfl (Nat.le_of_ble_eq_true rfl) (by decide) ?_
          refine sp_J0_charAt hi hk2 ?_
          refine x_cv rfl rfl ?_
          rw [srt_1 w3]
          first | (guard_target =~ Wp _ _ _ _ _ (Value.int (nI _) :: Value.int (nI _) :: _) _ _ _ _; with_reducible refine x_icmp_neN (pc := 26) (tgt := 42) ?_ ?_ dX6_word_26 ?_ (fun h26 => ?_) (fun h26 => ?_); (first | omega | exact b2n_31 _); (first | omega | exact b2n_31 _); decide) | refine x_icmp_ne (pc := 26) (tgt := 42) dX6_word_26 (by decide) (fun h26 => ?_) (fun h26 => ?_)
          · skip
            have n26 : ¬ c q = (wl i)[k] := fun z => h26 ((srt_nI (r4b q).2 (by omega)).mpr (by rw [z, hg]; omega))
            refine x_aload_n (pc := 42) dX6_word_42 rfl ?_
            refine x_invV0 (pc := 43) dX6_word_43 mlX6_106 imX6_fail seX6_fail kX6_fail (by first | assumption | rfl) rfl (Nat.le_of_ble_eq_true rfl) (by decide) ?_
            refine sp_X6_fail ?_
            refine x_cv rfl rfl ?_
            refine x_pop (pc := 46) dX6_word_46 rfl ?_
            first | (guard_target =~ Wp _ _ _ _ (_ :: _ :: some (Value.int (nI _)) :: _) _ _ _ _ _; with_reducible refine x_iincN (pc := 47) 1 ic_1 dX6_word_47 ?_ xg_2 xs_2 ?_ ?_; decide; exact (x_hp rfl)) | refine x_iincC (pc := 47) ic_1 dX6_word_47 (by decide) rfl xs_2 (x_hp rfl) ?_
            refine x_goto (pc := 50) (tgt := 2) dX6_word_50 (by decide) ?_
            rw [if_neg n26] at he
            have fin := h0 q he
            exact tail (k + 1) (by omega) q fin
          · skip
            have n26 : c q = (wl i)[k] := by rw [(srt_nI (r4b q).2 (by omega)).mp h26, hg]; omega
            refine x_aload_n (pc := 29) dX6_word_29 rfl ?_
            refine x_dup (pc := 30) dX6_word_30 rfl ?_
            refine x_getI (pc := 31) dX6_word_31 flX6_34 (by first | assumption | rfl) rfl ?_
            rw [rM_at]
            refine x_iconstN (pc := 34) 1 dX6_word_34 ic_1 ?_
            first | (guard_target =~ Wp _ _ _ _ _ (Value.int (nI _) :: Value.int (nI _) :: _) _ _ _ _; with_reducible refine x_iaddN (pc := 35) dX6_word_35 ?_) | refine x_iadd (pc := 35) dX6_word_35 ?_
            refine x_putI (pc := 36) dX6_word_36 flX6_34 (by first | assumption | rfl) rfl rfl rfl ?_
            rw [rM_put]
            refine x_goto (pc := 39) (tgt := 47) dX6_word_39 (by decide) ?_
            first | (guard_target =~ Wp _ _ _ _ (_ :: _ :: some (Value.int (nI _)) :: _) _ _ _ _ _; with_reducible refine x_iincN (pc := 47) 1 ic_1 dX6_word_47 ?_ xg_2 xs_2 ?_ ?_; decide; exact (x_hp rfl)) | refine x_iincC (pc := 47) ic_1 dX6_word_47 (by decide) rfl xs_2 (x_hp rfl) ?_
            refine x_goto (pc := 50) (tgt := 2) dX6_word_50 (by decide) ?_
            have n1 : q < n := hR.2.2.2.1.lt n26 hne
            rw [if_pos n26] at he
            exact ih (k + 1) (q + 1) (by omega) (by omega) he
  refine x_iconstN (pc := 0) 0 dX6_word_0 ic_0 ?_
  refine x_istore_n (pc := 1) dX6_word_1 (by decide) xs_2 (x_hp rfl) ?_
  exact loop (wl i).length 0 p (by omega) hp rfl
theorem sp_X6_wordB {i : Nat} (hi : i < 5) (h : K none xSF (rM M p true)) : Ex g (d + 4) yX6_word mX6_word [.ref 41, .ref (2000 + i)] xSF (rM M p true) K := by
  have hlen : 0 < (wl i).length := by revert i; decide
  have hlen2 := (wl_len i hi).2
  refine x_entry kX6_word (Nat.le_of_ble_eq_true rfl) ?_
  show Wp g _ mX6_word 0 [some (.ref 41), some (.ref (2000 + i)), none] [] _ _ _ _
  refine x_iconstN (pc := 0) 0 dX6_word_0 ic_0 ?_
  refine x_istore_n (pc := 1) dX6_word_1 (by decide) xs_2 (x_hp rfl) ?_
  refine x_iload_n (pc := 2) dX6_word_2 rfl ?_
  refine x_aload_n (pc := 3) dX6_word_3 rfl ?_
  refine x_invT (As := []) (pc := 4) dX6_word_4 mlX6_112 imJ0_length_8abf5 seJ0_length_8abf5 kJ0_length_8abf5 (by omega) rfl rfl (Nat.le_of_ble_eq_true rfl) (by decide) ?_
  refine sp_J0_length hi ?_
  refine x_cv rfl rfl ?_
  first | (guard_target =~ Wp _ _ _ _ _ (Value.int (nI _) :: Value.int (nI _) :: _) _ _ _ _; with_reducible refine x_icmp_geN (pc := 7) (tgt := 53) ?_ ?_ dX6_word_7 ?_ (fun h7 => ?_) (fun h7 => ?_); (first | omega | exact b2n_31 _); (first | omega | exact b2n_31 _); decide) | refine x_icmp_ge (pc := 7) (tgt := 53) dX6_word_7 (by decide) (fun h7 => ?_) (fun h7 => ?_)
  · skip
    omega
  · skip
    refine x_aload_n (pc := 10) dX6_word_10 rfl ?_
    refine x_getI (pc := 11) dX6_word_11 flX6_30 (by first | assumption | rfl) rfl ?_
    rw [rM_br]
    first | (guard_target =~ Wp _ _ _ _ _ (Value.int (nI _) :: _) _ _ _ _; with_reducible refine x_if_neN (pc := 14) (tgt := 53) ?_ dX6_word_14 ?_ (fun h14 => ?_) (fun h14 => ?_); (first | omega | exact b2n_32 _ | exact b2n_31 _); decide) | refine x_if_ne (pc := 14) (tgt := 53) dX6_word_14 (by decide) (fun h14 => ?_) (fun h14 => ?_)
    · skip
      refine x_ret (pc := 53) (v := none) rfl trivial dX6_word_53 (by decide) ?_
      exact h
    · skip
      cases h14
end P30
