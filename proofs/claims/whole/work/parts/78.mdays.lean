/-! the MODEL: goDay, goDays, here, save, putBack, baldSet, allWear -/
def dyG (Wn : Nat → Nat) (n who c day : Nat) : Nat := xsum (fun g => if who.testBit g = true then Wn (64 * g + 4 * c + day % 4) else 0) n
def pD (a k : Nat) : Bool := (a == 66 && decide (k < 16)) || (a == 65 && k == 3)
theorem dyG_le {Wn : Nat → Nat} {n who c day : Nat} (hn : n ≤ 6) (hc : c < 16) (hW : ∀ j, j < 64 * n → Wn j ≤ 20000) : ∀ m, m ≤ n → xsum (fun g => if who.testBit g = true then Wn (64 * g + 4 * c + day % 4) else 0) m ≤ m * 20000 := by
  intro m hm
  refine xsum_bd (fun i hi => ?_)
  split
  · exact hW _ (by omega)
  · omega
section P78
variable {g : XG} {d : Nat} {M : XM} {K : Option Value → XS → XM → Prop} {who n dd mx : Nat} {X Wn : Nat → Nat}
theorem sm_goDay (hn : n ≤ 6) (h0 : M.1 65 0 = nI n) (h3 : M.1 65 3 = nI dd) (hdd : dd < 1000000) (h33 : M.1 65 33 = nI mx) (hmx : mx ≤ 2000000000) (hX : ∀ c, c < 16 → M.1 66 c = nI (X c) ∧ X c ≤ mx) (hW : ∀ j, j < 64 * n → M.1 85 j = nI (Wn j) ∧ Wn j ≤ 20000) (h : ∀ M', only pD M M' → (∀ c, c < 16 → M'.1 66 c = nI (min (X c + dyG Wn n who c dd) mx)) → M'.1 65 3 = nI (dd + 1) → K none xSF M') : Ex g (d + 1) yX10_goDay mX10_goDay [.ref 65, .int (nI who)] xSF M K := by
  refine x_entry kX10_goDay (Nat.le_of_ble_eq_true rfl) ?_
  show Wp g _ mX10_goDay 0 [some (.ref 65), some (.int (nI who)), none, none, none] [] _ _ _ _
  have cl : ∀ m c M1 o3 o4, c + m = 16 → only pD M M1 → M1.1 65 3 = nI dd → (∀ j, j < c → M1.1 66 j = nI (min (X j + dyG Wn n who j dd) mx)) → (∀ j, c ≤ j → j < 16 → M1.1 66 j = nI (X j)) → Wp g (d + 1) mX10_goDay 2 [some (.ref 65), some (.int (nI who)), some (.int (nI c)), o3, o4] [] xSF (0, 0) M1 K := by
    intro m
    induction m with
    | zero =>
      intro c M1 o3 o4 hm ho h3 hj hj2
      obtain rfl : c = 16 := by omega
      refine x_iload_n (pc := 2) dX10_goDay_2 rfl ?_
      refine x_bipushN (pc := 3) 16 dX10_goDay_3 bp_16 ?_
      first | (guard_target =~ Wp _ _ _ _ _ (Value.int (nI _) :: Value.int (nI _) :: _) _ _ _ _; with_reducible refine x_icmp_geN (pc := 5) (tgt := 92) ?_ ?_ dX10_goDay_5 ?_ (fun h5 => ?_) (fun h5 => ?_); (first | omega | exact b2n_31 _); (first | omega | exact b2n_31 _); decide) | refine x_icmp_ge (pc := 5) (tgt := 92) dX10_goDay_5 (by decide) (fun h5 => ?_) (fun h5 => ?_)
      · skip
        refine x_aload_n (pc := 92) dX10_goDay_92 rfl ?_
        refine x_dup (pc := 93) dX10_goDay_93 rfl ?_
        refine x_getI (pc := 94) dX10_goDay_94 flX10_19 (by first | assumption | rfl) rfl ?_
        rw [h3]
        refine x_iconstN (pc := 97) 1 dX10_goDay_97 ic_1 ?_
        first | (guard_target =~ Wp _ _ _ _ _ (Value.int (nI _) :: Value.int (nI _) :: _) _ _ _ _; with_reducible refine x_iaddN (pc := 98) dX10_goDay_98 ?_) | refine x_iadd (pc := 98) dX10_goDay_98 ?_
        refine x_putI (pc := 99) dX10_goDay_99 flX10_19 (by first | assumption | rfl) rfl rfl rfl ?_
        refine x_ret (pc := 102) (v := none) rfl trivial dX10_goDay_102 (by decide) ?_
        exact h _ (ho.tr (only.put rfl)) (fun c hc => hj c hc) rfl
      · skip
        omega
    | succ m ih =>
      intro c M1 o3 o4 hm ho h3 hj hj2
      have hc : c < 16 := by omega
      have hXc := (hX c hc).2
      have gl : ∀ m2 gg, gg + m2 = n → Wp g (d + 1) mX10_goDay 18 [some (.ref 65), some (.int (nI who)), some (.int (nI c)), some (.int (nI (X c + xsum (fun g => if who.testBit g = true then Wn (64 * g + 4 * c + dd % 4) else 0) gg))), some (.int (nI gg))] [] xSF (0, 0) M1 K := by
        intro m2
        induction m2 with
        | zero =>
          intro gg hg
          obtain rfl : gg = n := by omega
          have hb := dyG_le (who := who) (day := dd) hn hc (fun j q => (hW j q).2) gg (Nat.le_refl _)
          refine x_iload (pc := 18) dX10_goDay_18 rfl ?_
          refine x_aload_n (pc := 20) dX10_goDay_20 rfl ?_
          refine x_getI (pc := 21) dX10_goDay_21 flX10_7 (by first | assumption | rfl) rfl ?_
          rw [(ho.1 65 0 rfl).trans h0]
          first | (guard_target =~ Wp _ _ _ _ _ (Value.int (nI _) :: Value.int (nI _) :: _) _ _ _ _; with_reducible refine x_icmp_geN (pc := 24) (tgt := 71) ?_ ?_ dX10_goDay_24 ?_ (fun h24 => ?_) (fun h24 => ?_); (first | omega | exact b2n_31 _); (first | omega | exact b2n_31 _); decide) | refine x_icmp_ge (pc := 24) (tgt := 71) dX10_goDay_24 (by decide) (fun h24 => ?_) (fun h24 => ?_)
          · skip
            refine x_aload_n (pc := 71) dX10_goDay_71 rfl ?_
            refine x_getR (pc := 72) dX10_goDay_72 flX10_22 (by first | assumption | rfl) rfl ?_
            refine x_iload_n (pc := 75) dX10_goDay_75 rfl ?_
            refine x_aload_n (pc := 76) dX10_goDay_76 rfl ?_
            refine x_iload_n (pc := 77) dX10_goDay_77 rfl ?_
            refine x_aload_n (pc := 78) dX10_goDay_78 rfl ?_
            refine x_getI (pc := 79) dX10_goDay_79 flX10_111 (by first | assumption | rfl) rfl ?_
            rw [(ho.1 65 33 rfl).trans h33]
            refine x_invV2 (pc := 82) dX10_goDay_82 mlX10_352 imX10_least seX10_least kX10_least (by first | assumption | rfl) rfl (Nat.le_of_ble_eq_true rfl) (by decide) ?_
            refine sm_least (by omega) (by omega) ?_
            refine x_cv rfl rfl ?_
            refine x_iastN (pc := 85) dX10_goDay_85 (by first | assumption | rfl) (by first | with_reducible rfl | (simp only [xlit, nI_add, pk_mul]; with_reducible rfl)) (by omega) (by decide) ?_
            first | (guard_target =~ Wp _ _ _ _ (_ :: _ :: some (Value.int (nI _)) :: _) _ _ _ _ _; with_reducible refine x_iincN (pc := 86) 1 ic_1 dX10_goDay_86 ?_ xg_2 xs_2 ?_ ?_; decide; exact (x_hp rfl)) | refine x_iincC (pc := 86) ic_1 dX10_goDay_86 (by decide) rfl xs_2 (x_hp rfl) ?_
            refine x_goto (pc := 89) (tgt := 2) dX10_goDay_89 (by decide) ?_
            refine ih (c + 1) _ _ _ (by omega) (ho.tr (only.put (by simp [pD]; exact hc))) h3 (fun j q => ?_) (fun j q1 q2 => ?_)
            · by_cases z : j = c
              · subst z; exact if_pos ⟨rfl, rfl⟩
              · exact (if_neg (fun q => z q.2)).trans (hj j (by omega))
            · exact (if_neg (fun q => by omega)).trans (hj2 j (by omega) q2)
          · skip
            omega
        | succ m2 ih2 =>
          intro gg hg
          have hb := dyG_le (who := who) (day := dd) hn hc (fun j q => (hW j q).2) gg (by omega)
          have nx : ∀ v, v = (if who.testBit gg = true then Wn (64 * gg + 4 * c + dd % 4) else 0) → Wp g (d + 1) mX10_goDay 18 [some (.ref 65), some (.int (nI who)), some (.int (nI c)), some (.int (nI (X c + xsum (fun g => if who.testBit g = true then Wn (64 * g + 4 * c + dd % 4) else 0) gg + v))), some (.int (nI (gg + 1)))] [] xSF (0, 0) M1 K := by
            intro v hv
            have := ih2 (gg + 1) (by omega)
            rw [xsum, ← hv, ← Nat.add_assoc] at this
            exact this
          refine x_iload (pc := 18) dX10_goDay_18 rfl ?_
          refine x_aload_n (pc := 20) dX10_goDay_20 rfl ?_
          refine x_getI (pc := 21) dX10_goDay_21 flX10_7 (by first | assumption | rfl) rfl ?_
          rw [(ho.1 65 0 rfl).trans h0]
          first | (guard_target =~ Wp _ _ _ _ _ (Value.int (nI _) :: Value.int (nI _) :: _) _ _ _ _; with_reducible refine x_icmp_geN (pc := 24) (tgt := 71) ?_ ?_ dX10_goDay_24 ?_ (fun h24 => ?_) (fun h24 => ?_); (first | omega | exact b2n_31 _); (first | omega | exact b2n_31 _); decide) | refine x_icmp_ge (pc := 24) (tgt := 71) dX10_goDay_24 (by decide) (fun h24 => ?_) (fun h24 => ?_)
          · skip
            omega
          · skip
            refine x_iload_n (pc := 27) dX10_goDay_27 rfl ?_
            refine x_aload_n (pc := 28) dX10_goDay_28 rfl ?_
            refine x_iload_n (pc := 29) dX10_goDay_29 rfl ?_
            refine x_iload (pc := 30) dX10_goDay_30 rfl ?_
            refine x_invV2 (pc := 32) dX10_goDay_32 mlX10_245 imX10_has seX10_has kX10_has (by first | assumption | rfl) rfl (Nat.le_of_ble_eq_true rfl) (by decide) ?_
            refine sm_has (by omega) ?_
            refine x_cv rfl rfl ?_
            rw [tb_nI (by omega)]
            first | (guard_target =~ Wp _ _ _ _ _ (Value.int (nI _) :: _) _ _ _ _; with_reducible refine x_if_eqN (pc := 35) (tgt := 62) ?_ dX10_goDay_35 ?_ (fun h35 => ?_) (fun h35 => ?_); (first | omega | exact b2n_32 _ | exact b2n_31 _); decide) | refine x_if_eq (pc := 35) (tgt := 62) dX10_goDay_35 (by decide) (fun h35 => ?_) (fun h35 => ?_)
            · skip
              refine x_iconstN (pc := 62) 0 dX10_goDay_62 ic_0 ?_
              first | (guard_target =~ Wp _ _ _ _ _ (Value.int (nI _) :: Value.int (nI _) :: _) _ _ _ _; with_reducible refine x_iaddN (pc := 63) dX10_goDay_63 ?_) | refine x_iadd (pc := 63) dX10_goDay_63 ?_
              refine x_istore_n (pc := 64) dX10_goDay_64 (by decide) xs_3 (x_hp rfl) ?_
              first | (guard_target =~ Wp _ _ _ _ (_ :: _ :: _ :: _ :: some (Value.int (nI _)) :: _) _ _ _ _ _; with_reducible refine x_iincN (pc := 65) 1 ic_1 dX10_goDay_65 ?_ xg_4 xs_4 ?_ ?_; decide; exact (x_hp rfl)) | refine x_iincC (pc := 65) ic_1 dX10_goDay_65 (by decide) rfl xs_4 (x_hp rfl) ?_
              refine x_goto (pc := 68) (tgt := 18) dX10_goDay_68 (by decide) ?_
              exact nx 0 (by rw [b2n_0 h35, if_neg (by decide)])
            · skip
              refine x_aload_n (pc := 38) dX10_goDay_38 rfl ?_
              refine x_getR (pc := 39) dX10_goDay_39 flX10_108 (by first | assumption | rfl) rfl ?_
              refine x_bipushN (pc := 42) 64 dX10_goDay_42 bp_64 ?_
              refine x_iload (pc := 44) dX10_goDay_44 rfl ?_
              first | (guard_target =~ Wp _ _ _ _ _ (Value.int (nI _) :: Value.int (nI _) :: _) _ _ _ _; with_reducible refine x_imulN (pc := 46) dX10_goDay_46 ?_) | refine x_imul (pc := 46) dX10_goDay_46 ?_
              refine x_iconstN (pc := 47) 4 dX10_goDay_47 ic_4 ?_
              refine x_iload_n (pc := 48) dX10_goDay_48 rfl ?_
              first | (guard_target =~ Wp _ _ _ _ _ (Value.int (nI _) :: Value.int (nI _) :: _) _ _ _ _; with_reducible refine x_imulN (pc := 49) dX10_goDay_49 ?_) | refine x_imul (pc := 49) dX10_goDay_49 ?_
              first | (guard_target =~ Wp _ _ _ _ _ (Value.int (nI _) :: Value.int (nI _) :: _) _ _ _ _; with_reducible refine x_iaddN (pc := 50) dX10_goDay_50 ?_) | refine x_iadd (pc := 50) dX10_goDay_50 ?_
              refine x_aload_n (pc := 51) dX10_goDay_51 rfl ?_
              refine x_getI (pc := 52) dX10_goDay_52 flX10_19 (by first | assumption | rfl) rfl ?_
              rw [h3]
              refine x_iconstN (pc := 55) 4 dX10_goDay_55 ic_4 ?_
              first | (guard_target =~ Wp _ _ _ _ _ (Value.int (nI _) :: Value.int (nI _) :: _) _ _ _ _; with_reducible refine x_iremN (pc := 56) ?_ ?_ ?_ dX10_goDay_56 ?_; omega; omega; omega) | refine x_irem (pc := 56) dX10_goDay_56 (by assumption) ?_
              first | (guard_target =~ Wp _ _ _ _ _ (Value.int (nI _) :: Value.int (nI _) :: _) _ _ _ _; with_reducible refine x_iaddN (pc := 57) dX10_goDay_57 ?_) | refine x_iadd (pc := 57) dX10_goDay_57 ?_
              refine x_ialdN (pc := 58) dX10_goDay_58 (by first | assumption | rfl) (by first | with_reducible rfl | (simp only [xlit, nI_add, pk_mul]; with_reducible rfl)) (by omega) (by decide) ?_
              rw [(ho.1 85 _ rfl).trans (hW (64 * gg + 4 * c + dd % 4) (by omega)).1]
              refine x_goto (pc := 59) (tgt := 63) dX10_goDay_59 (by decide) ?_
              first | (guard_target =~ Wp _ _ _ _ _ (Value.int (nI _) :: Value.int (nI _) :: _) _ _ _ _; with_reducible refine x_iaddN (pc := 63) dX10_goDay_63 ?_) | refine x_iadd (pc := 63) dX10_goDay_63 ?_
              refine x_istore_n (pc := 64) dX10_goDay_64 (by decide) xs_3 (x_hp rfl) ?_
              first | (guard_target =~ Wp _ _ _ _ (_ :: _ :: _ :: _ :: some (Value.int (nI _)) :: _) _ _ _ _ _; with_reducible refine x_iincN (pc := 65) 1 ic_1 dX10_goDay_65 ?_ xg_4 xs_4 ?_ ?_; decide; exact (x_hp rfl)) | refine x_iincC (pc := 65) ic_1 dX10_goDay_65 (by decide) rfl xs_4 (x_hp rfl) ?_
              refine x_goto (pc := 68) (tgt := 18) dX10_goDay_68 (by decide) ?_
              exact nx _ (by rw [b2n_1 h35, if_pos rfl])
      refine x_iload_n (pc := 2) dX10_goDay_2 rfl ?_
      refine x_bipushN (pc := 3) 16 dX10_goDay_3 bp_16 ?_
      first | (guard_target =~ Wp _ _ _ _ _ (Value.int (nI _) :: Value.int (nI _) :: _) _ _ _ _; with_reducible refine x_icmp_geN (pc := 5) (tgt := 92) ?_ ?_ dX10_goDay_5 ?_ (fun h5 => ?_) (fun h5 => ?_); (first | omega | exact b2n_31 _); (first | omega | exact b2n_31 _); decide) | refine x_icmp_ge (pc := 5) (tgt := 92) dX10_goDay_5 (by decide) (fun h5 => ?_) (fun h5 => ?_)
      · skip
        omega
      · skip
        refine x_aload_n (pc := 8) dX10_goDay_8 rfl ?_
        refine x_getR (pc := 9) dX10_goDay_9 flX10_22 (by first | assumption | rfl) rfl ?_
        refine x_iload_n (pc := 12) dX10_goDay_12 rfl ?_
        refine x_ialdN (pc := 13) dX10_goDay_13 (by first | assumption | rfl) (by first | with_reducible rfl | (simp only [xlit, nI_add, pk_mul]; with_reducible rfl)) (by omega) (by decide) ?_
        rw [hj2 c (Nat.le_refl c) hc]
        refine x_istore_n (pc := 14) dX10_goDay_14 (by decide) xs_3 (x_hp rfl) ?_
        refine x_iconstN (pc := 15) 0 dX10_goDay_15 ic_0 ?_
        refine x_istore (pc := 16) dX10_goDay_16 (by decide) xs_4 (x_hp rfl) ?_
        exact gl n 0 (by omega)
  refine x_iconstN (pc := 0) 0 dX10_goDay_0 ic_0 ?_
  refine x_istore_n (pc := 1) dX10_goDay_1 (by decide) xs_2 (x_hp rfl) ?_
  exact cl 16 0 M _ _ (by omega) only.rf h3 (fun j q => by omega) (fun j _ q => (hX j q).1)
theorem sm_goDays {cnt : Nat} (hn : n ≤ 6) (h0 : M.1 65 0 = nI n) (h3 : M.1 65 3 = nI dd) (hc : cnt ≤ 1000) (hdd : dd < 900000) (h33 : M.1 65 33 = nI mx) (hmx : mx ≤ 2000000000) (hX : ∀ c, c < 16 → M.1 66 c = nI (X c) ∧ X c ≤ mx) (hW : ∀ j, j < 64 * n → M.1 85 j = nI (Wn j) ∧ Wn j ≤ 20000) (h : ∀ M', only pD M M' → (∀ c, c < 16 → M'.1 66 c = nI (min (X c + xsum (fun k => dyG Wn n who c (dd + k)) cnt) mx)) → M'.1 65 3 = nI (dd + cnt) → K none xSF M') : Ex g (d + 2) yX10_goDays mX10_goDays [.ref 65, .int (nI who), .int (nI cnt)] xSF M K := by
  refine x_entry kX10_goDays (Nat.le_of_ble_eq_true rfl) ?_
  show Wp g _ mX10_goDays 0 [some (.ref 65), some (.int (nI who)), some (.int (nI cnt)), none] [] _ _ _ _
  have loop : ∀ m k M1, k + m = cnt → only pD M M1 → (∀ c, c < 16 → M1.1 66 c = nI (min (X c + xsum (fun k => dyG Wn n who c (dd + k)) k) mx)) → M1.1 65 3 = nI (dd + k) → Wp g (d + 2) mX10_goDays 2 [some (.ref 65), some (.int (nI who)), some (.int (nI cnt)), some (.int (nI k))] [] xSF (0, 0) M1 K := by
    intro m
    induction m with
    | zero =>
      intro k M1 hm ho hx hd
      obtain rfl : k = cnt := by omega
      refine x_iload_n (pc := 2) dX10_goDays_2 rfl ?_
      refine x_iload_n (pc := 3) dX10_goDays_3 rfl ?_
      first | (guard_target =~ Wp _ _ _ _ _ (Value.int (nI _) :: Value.int (nI _) :: _) _ _ _ _; with_reducible refine x_icmp_geN (pc := 4) (tgt := 18) ?_ ?_ dX10_goDays_4 ?_ (fun h4 => ?_) (fun h4 => ?_); (first | omega | exact b2n_31 _); (first | omega | exact b2n_31 _); decide) | refine x_icmp_ge (pc := 4) (tgt := 18) dX10_goDays_4 (by decide) (fun h4 => ?_) (fun h4 => ?_)
      · skip
        refine x_ret (pc := 18) (v := none) rfl trivial dX10_goDays_18 (by decide) ?_
        exact h M1 ho hx hd
      · skip
        omega
    | succ m ih =>
      intro k M1 hm ho hx hd
      refine x_iload_n (pc := 2) dX10_goDays_2 rfl ?_
      refine x_iload_n (pc := 3) dX10_goDays_3 rfl ?_
      first | (guard_target =~ Wp _ _ _ _ _ (Value.int (nI _) :: Value.int (nI _) :: _) _ _ _ _; with_reducible refine x_icmp_geN (pc := 4) (tgt := 18) ?_ ?_ dX10_goDays_4 ?_ (fun h4 => ?_) (fun h4 => ?_); (first | omega | exact b2n_31 _); (first | omega | exact b2n_31 _); decide) | refine x_icmp_ge (pc := 4) (tgt := 18) dX10_goDays_4 (by decide) (fun h4 => ?_) (fun h4 => ?_)
      · skip
        omega
      · skip
        refine x_aload_n (pc := 7) dX10_goDays_7 rfl ?_
        refine x_iload_n (pc := 8) dX10_goDays_8 rfl ?_
        refine x_invV1 (pc := 9) dX10_goDays_9 mlX10_355 imX10_goDay seX10_goDay kX10_goDay (by first | assumption | rfl) rfl (Nat.le_of_ble_eq_true rfl) (by decide) ?_
        refine sm_goDay (X := fun c => min (X c + xsum (fun k => dyG Wn n who c (dd + k)) k) mx) hn ((ho.1 65 0 rfl).trans h0) hd (by omega) ((ho.1 65 33 rfl).trans h33) hmx (fun c q => ⟨hx c q, Nat.min_le_right _ _⟩) (fun j q => ⟨(ho.1 85 j rfl).trans (hW j q).1, (hW j q).2⟩) (fun M2 ho2 hx2 hd2 => ?_)
        refine x_cn rfl rfl ?_
        first | (guard_target =~ Wp _ _ _ _ (_ :: _ :: _ :: some (Value.int (nI _)) :: _) _ _ _ _ _; with_reducible refine x_iincN (pc := 12) 1 ic_1 dX10_goDays_12 ?_ xg_3 xs_3 ?_ ?_; decide; exact (x_hp rfl)) | refine x_iincC (pc := 12) ic_1 dX10_goDays_12 (by decide) rfl xs_3 (x_hp rfl) ?_
        refine x_goto (pc := 15) (tgt := 2) dX10_goDays_15 (by decide) ?_
        refine ih (k + 1) M2 (by omega) (ho.tr ho2) (fun c q => ?_) hd2
        rw [hx2 c q, xsum]
        exact congrArg nI (by show min (min (X c + xsum (fun k => dyG Wn n who c (dd + k)) k) mx + dyG Wn n who c (dd + k)) mx = _; omega)
  refine x_iconstN (pc := 0) 0 dX10_goDays_0 ic_0 ?_
  refine x_istore_n (pc := 1) dX10_goDays_1 (by decide) xs_3 (x_hp rfl) ?_
  refine loop cnt 0 M (by omega) only.rf (fun c q => ?_) h3
  rw [(hX c q).1]; exact congrArg nI (by have := (hX c q).2; show _ = min (X c + 0) mx; omega)
theorem sm_here {W : Nat} (h1 : M.1 65 1 = nI W) (h : K (some (.int (nI (63 &&& (W ^^^ 4294967295))))) xSF M) : Ex g d yX10_here mX10_here [.ref 65] xSF M K := by
  refine x_entry kX10_here (Nat.le_of_ble_eq_true rfl) ?_
  show Wp g _ mX10_here 0 [some (.ref 65)] [] _ _ _ _
  refine x_bipushN (pc := 0) 63 dX10_here_0 bp_63 ?_
  refine x_aload_n (pc := 2) dX10_here_2 rfl ?_
  refine x_getI (pc := 3) dX10_here_3 flX10_13 (by first | assumption | rfl) rfl ?_
  rw [h1]
  refine x_iconst (pc := 6) dX10_here_6 ic_m1 ?_
  rw [show (-1 : Int32) = nI 4294967295 by decide +kernel]
  first | (guard_target =~ Wp _ _ _ _ _ (Value.int (nI _) :: Value.int (nI _) :: _) _ _ _ _; with_reducible refine x_ixorN (pc := 7) dX10_here_7 ?_) | refine x_ixor (pc := 7) dX10_here_7 ?_
  first | (guard_target =~ Wp _ _ _ _ _ (Value.int (nI _) :: Value.int (nI _) :: _) _ _ _ _; with_reducible refine x_iandN (pc := 8) dX10_here_8 ?_) | refine x_iand (pc := 8) dX10_here_8 ?_
  refine x_ret (pc := 9) (v := some _) rfl trivial dX10_here_9 (by decide) ?_
  exact h
theorem sm_allWear {A : XA} (hX : ∀ c, c < 16 → M.1 66 c = nI (A 0 c) ∧ A 0 c < 67108864) (h : K (some (.int (nI (sumA A)))) xSF M) : Ex g d yX10_allWear mX10_allWear [.ref 65] xSF M K := by
  refine x_entry kX10_allWear (Nat.le_of_ble_eq_true rfl) ?_
  show Wp g _ mX10_allWear 0 [some (.ref 65), none, none] [] _ _ _ _
  have loop : ∀ m c, c + m = 16 → Wp g d mX10_allWear 4 [some (.ref 65), some (.int (nI (xsum (fun c => A 0 c) c))), some (.int (nI c))] [] xSF (0, 0) M K := by
    intro m
    induction m with
    | zero =>
      intro c hc
      obtain rfl : c = 16 := by omega
      refine x_iload_n (pc := 4) dX10_allWear_4 rfl ?_
      refine x_bipushN (pc := 5) 16 dX10_allWear_5 bp_16 ?_
      first | (guard_target =~ Wp _ _ _ _ _ (Value.int (nI _) :: Value.int (nI _) :: _) _ _ _ _; with_reducible refine x_icmp_geN (pc := 7) (tgt := 25) ?_ ?_ dX10_allWear_7 ?_ (fun h7 => ?_) (fun h7 => ?_); (first | omega | exact b2n_31 _); (first | omega | exact b2n_31 _); decide) | refine x_icmp_ge (pc := 7) (tgt := 25) dX10_allWear_7 (by decide) (fun h7 => ?_) (fun h7 => ?_)
      · skip
        refine x_iload_n (pc := 25) dX10_allWear_25 rfl ?_
        refine x_ret (pc := 26) (v := some _) rfl trivial dX10_allWear_26 (by decide) ?_
        exact h
      · skip
        omega
    | succ m ih =>
      intro c hc
      refine x_iload_n (pc := 4) dX10_allWear_4 rfl ?_
      refine x_bipushN (pc := 5) 16 dX10_allWear_5 bp_16 ?_
      first | (guard_target =~ Wp _ _ _ _ _ (Value.int (nI _) :: Value.int (nI _) :: _) _ _ _ _; with_reducible refine x_icmp_geN (pc := 7) (tgt := 25) ?_ ?_ dX10_allWear_7 ?_ (fun h7 => ?_) (fun h7 => ?_); (first | omega | exact b2n_31 _); (first | omega | exact b2n_31 _); decide) | refine x_icmp_ge (pc := 7) (tgt := 25) dX10_allWear_7 (by decide) (fun h7 => ?_) (fun h7 => ?_)
      · skip
        omega
      · skip
        refine x_iload_n (pc := 10) dX10_allWear_10 rfl ?_
        refine x_aload_n (pc := 11) dX10_allWear_11 rfl ?_
        refine x_getR (pc := 12) dX10_allWear_12 flX10_22 (by first | assumption | rfl) rfl ?_
        refine x_iload_n (pc := 15) dX10_allWear_15 rfl ?_
        refine x_ialdN (pc := 16) dX10_allWear_16 (by first | assumption | rfl) (by first | with_reducible rfl | (simp only [xlit, nI_add, pk_mul]; with_reducible rfl)) (by omega) (by decide) ?_
        rw [(hX c (by omega)).1]
        first | (guard_target =~ Wp _ _ _ _ _ (Value.int (nI _) :: Value.int (nI _) :: _) _ _ _ _; with_reducible refine x_iaddN (pc := 17) dX10_allWear_17 ?_) | refine x_iadd (pc := 17) dX10_allWear_17 ?_
        refine x_istore_n (pc := 18) dX10_allWear_18 (by decide) xs_1 (x_hp rfl) ?_
        first | (guard_target =~ Wp _ _ _ _ (_ :: _ :: some (Value.int (nI _)) :: _) _ _ _ _ _; with_reducible refine x_iincN (pc := 19) 1 ic_1 dX10_allWear_19 ?_ xg_2 xs_2 ?_ ?_; decide; exact (x_hp rfl)) | refine x_iincC (pc := 19) ic_1 dX10_allWear_19 (by decide) rfl xs_2 (x_hp rfl) ?_
        refine x_goto (pc := 22) (tgt := 4) dX10_allWear_22 (by decide) ?_
        exact ih (c + 1) (by omega)
  refine x_iconstN (pc := 0) 0 dX10_allWear_0 ic_0 ?_
  refine x_istore_n (pc := 1) dX10_allWear_1 (by decide) xs_1 (x_hp rfl) ?_
  refine x_iconstN (pc := 2) 0 dX10_allWear_2 ic_0 ?_
  refine x_istore_n (pc := 3) dX10_allWear_3 (by decide) xs_2 (x_hp rfl) ?_
  exact loop 16 0 (by omega)
theorem sm_baldSet {A : XA} {L : List XCl} {b0 : Nat} (hL : MLs M L b0) (hb : A 13 0 = bldF 30 L) (hX : ∀ c, c < 16 → M.1 66 c = nI (A 0 c) ∧ A 0 c < 67108864) (h : K (some (.int (nI (baldA A)))) xSF M) : Ex g (d + 2) yX10_baldSet mX10_baldSet [.ref 65] xSF M K := by
  have hbl : bldF 30 L < 100 := bldF_bd L 30 (by decide) (fun x q => (hL.1.2 x q).1)
  refine x_entry kX10_baldSet (Nat.le_of_ble_eq_true rfl) ?_
  show Wp g _ mX10_baldSet 0 [some (.ref 65), none, none] [] _ _ _ _
  have loop : ∀ m c, c + m = 16 → Wp g (d + 2) mX10_baldSet 4 [some (.ref 65), some (.int (nI (xset (fun c => decide (A 13 0 ≤ A 0 c)) c))), some (.int (nI c))] [] xSF (0, 0) M K := by
    intro m
    induction m with
    | zero =>
      intro c hc
      obtain rfl : c = 16 := by omega
      refine x_iload_n (pc := 4) dX10_baldSet_4 rfl ?_
      refine x_bipushN (pc := 5) 16 dX10_baldSet_5 bp_16 ?_
      first | (guard_target =~ Wp _ _ _ _ _ (Value.int (nI _) :: Value.int (nI _) :: _) _ _ _ _; with_reducible refine x_icmp_geN (pc := 7) (tgt := 39) ?_ ?_ dX10_baldSet_7 ?_ (fun h7 => ?_) (fun h7 => ?_); (first | omega | exact b2n_31 _); (first | omega | exact b2n_31 _); decide) | refine x_icmp_ge (pc := 7) (tgt := 39) dX10_baldSet_7 (by decide) (fun h7 => ?_) (fun h7 => ?_)
      · skip
        refine x_iload_n (pc := 39) dX10_baldSet_39 rfl ?_
        refine x_ret (pc := 40) (v := some _) rfl trivial dX10_baldSet_40 (by decide) ?_
        exact h
      · skip
        omega
    | succ m ih =>
      intro c hc
      have hx := hX c (by omega)
      have nx := ih (c + 1) (by omega)
      rw [xset] at nx
      refine x_iload_n (pc := 4) dX10_baldSet_4 rfl ?_
      refine x_bipushN (pc := 5) 16 dX10_baldSet_5 bp_16 ?_
      first | (guard_target =~ Wp _ _ _ _ _ (Value.int (nI _) :: Value.int (nI _) :: _) _ _ _ _; with_reducible refine x_icmp_geN (pc := 7) (tgt := 39) ?_ ?_ dX10_baldSet_7 ?_ (fun h7 => ?_) (fun h7 => ?_); (first | omega | exact b2n_31 _); (first | omega | exact b2n_31 _); decide) | refine x_icmp_ge (pc := 7) (tgt := 39) dX10_baldSet_7 (by decide) (fun h7 => ?_) (fun h7 => ?_)
      · skip
        omega
      · skip
        refine x_iload_n (pc := 10) dX10_baldSet_10 rfl ?_
        refine x_aload_n (pc := 11) dX10_baldSet_11 rfl ?_
        refine x_getR (pc := 12) dX10_baldSet_12 flX10_22 (by first | assumption | rfl) rfl ?_
        refine x_iload_n (pc := 15) dX10_baldSet_15 rfl ?_
        refine x_ialdN (pc := 16) dX10_baldSet_16 (by first | assumption | rfl) (by first | with_reducible rfl | (simp only [xlit, nI_add, pk_mul]; with_reducible rfl)) (by omega) (by decide) ?_
        rw [hx.1]
        refine x_aload_n (pc := 17) dX10_baldSet_17 rfl ?_
        refine x_invV0 (pc := 18) dX10_baldSet_18 mlX10_371 imX10_bald seX10_bald kX10_bald (by first | assumption | rfl) rfl (Nat.le_of_ble_eq_true rfl) (by decide) ?_
        refine sm_bald hL ?_
        refine x_cv rfl rfl ?_
        first | (guard_target =~ Wp _ _ _ _ _ (Value.int (nI _) :: Value.int (nI _) :: _) _ _ _ _; with_reducible refine x_icmp_ltN (pc := 21) (tgt := 30) ?_ ?_ dX10_baldSet_21 ?_ (fun h21 => ?_) (fun h21 => ?_); (first | omega | exact b2n_31 _); (first | omega | exact b2n_31 _); decide) | refine x_icmp_lt (pc := 21) (tgt := 30) dX10_baldSet_21 (by decide) (fun h21 => ?_) (fun h21 => ?_)
        · skip
          refine x_iconstN (pc := 30) 0 dX10_baldSet_30 ic_0 ?_
          try rw [Nat.one_mul]
          first | (guard_target =~ Wp _ _ _ _ _ (Value.int (nI _) :: Value.int (nI _) :: _) _ _ _ _; with_reducible refine x_iorN (pc := 31) dX10_baldSet_31 ?_) | refine x_ior (pc := 31) dX10_baldSet_31 ?_
          refine x_istore_n (pc := 32) dX10_baldSet_32 (by decide) xs_1 (x_hp rfl) ?_
          first | (guard_target =~ Wp _ _ _ _ (_ :: _ :: some (Value.int (nI _)) :: _) _ _ _ _ _; with_reducible refine x_iincN (pc := 33) 1 ic_1 dX10_baldSet_33 ?_ xg_2 xs_2 ?_ ?_; decide; exact (x_hp rfl)) | refine x_iincC (pc := 33) ic_1 dX10_baldSet_33 (by decide) rfl xs_2 (x_hp rfl) ?_
          refine x_goto (pc := 36) (tgt := 4) dX10_baldSet_36 (by decide) ?_
          rw [decide_eq_false (by omega)] at nx; exact nx
        · skip
          refine x_iconstN (pc := 24) 1 dX10_baldSet_24 ic_1 ?_
          refine x_iload_n (pc := 25) dX10_baldSet_25 rfl ?_
          first | (guard_target =~ Wp _ _ _ _ _ (Value.int (nI _) :: Value.int (nI _) :: _) _ _ _ _; with_reducible refine x_ishlN (pc := 26) ?_ dX10_baldSet_26 ?_; omega) | refine x_ishl (pc := 26) dX10_baldSet_26 ?_
          refine x_goto (pc := 27) (tgt := 31) dX10_baldSet_27 (by decide) ?_
          try rw [Nat.one_mul]
          first | (guard_target =~ Wp _ _ _ _ _ (Value.int (nI _) :: Value.int (nI _) :: _) _ _ _ _; with_reducible refine x_iorN (pc := 31) dX10_baldSet_31 ?_) | refine x_ior (pc := 31) dX10_baldSet_31 ?_
          refine x_istore_n (pc := 32) dX10_baldSet_32 (by decide) xs_1 (x_hp rfl) ?_
          first | (guard_target =~ Wp _ _ _ _ (_ :: _ :: some (Value.int (nI _)) :: _) _ _ _ _ _; with_reducible refine x_iincN (pc := 33) 1 ic_1 dX10_baldSet_33 ?_ xg_2 xs_2 ?_ ?_; decide; exact (x_hp rfl)) | refine x_iincC (pc := 33) ic_1 dX10_baldSet_33 (by decide) rfl xs_2 (x_hp rfl) ?_
          refine x_goto (pc := 36) (tgt := 4) dX10_baldSet_36 (by decide) ?_
          rw [decide_eq_true (by omega)] at nx; exact nx
  refine x_iconstN (pc := 0) 0 dX10_baldSet_0 ic_0 ?_
  refine x_istore_n (pc := 1) dX10_baldSet_1 (by decide) xs_1 (x_hp rfl) ?_
  refine x_iconstN (pc := 2) 0 dX10_baldSet_2 ic_0 ?_
  refine x_istore_n (pc := 3) dX10_baldSet_3 (by decide) xs_2 (x_hp rfl) ?_
  exact loop 16 0 (by omega)
end P78
