/-! the MODEL's calls: starts, can, sole -/
theorem st_cache {A : XA} {L : List XCl} {gg c : Nat} (h : cacheA A L) : cacheA (stA A gg c) L := by
  obtain ⟨c1, c2, c3, c4⟩ := h
  have e : ∀ k j, k ≠ 3 → k ≠ 6 → stA A gg c k j = A k j := fun k j h1 h2 => (if_neg (fun q => h2 q.1)).trans (if_neg (fun q => h1 q.1))
  refine ⟨fun g' q => ?_, fun g' q i hi => ?_, ?_, fun j q1 q2 => ?_⟩
  · show (if (6 : Nat) = 6 ∧ g' = gg then wbits (wayL (updA A 3 gg c) gg) else updA A 3 gg c 6 g') = _
    by_cases z : g' = gg
    · subst z; rw [if_pos ⟨rfl, rfl⟩]; rfl
    · rw [if_neg (fun w => z w.2)]
      show A 6 g' = _
      rw [c1 g' q]
      refine congrArg wbits (wayL_cong rfl ?_ rfl rfl)
      show A 3 g' = updA A 3 gg c 3 g'
      exact (if_neg (fun w => z w.2)).symm
  · exact c2 g' q i hi
  · exact c3
  · exact c4 j q1 q2
theorem st_bd {A : XA} {gg c : Nat} (hB : bdA A) (hg : gg < 6) (hc : c < 16) : bdA (stA A gg c) := by
  have ht := hB.1 4 (by decide) gg (show gg < 6 by omega)
  refine ⟨fun k hk j hj => ?_, hB.2.1, hB.2.2⟩
  show (if k = 6 ∧ j = gg then wbits (wayL (updA A 3 gg c) gg) else if k = 3 ∧ j = gg then c else A k j) < cbd k
  by_cases h1 : k = 6 ∧ j = gg
  · rw [if_pos h1, h1.1]
    exact wsetN_lt (wy_lt (show updA A 3 gg c 3 gg < 16 by rw [show updA A 3 gg c 3 gg = c from if_pos ⟨rfl, rfl⟩]; exact hc) ht) (Nat.le_refl _)
  · rw [if_neg h1]
    by_cases h2 : k = 3 ∧ j = gg
    · rw [if_pos h2, h2.1]; exact hc
    · rw [if_neg h2]; exact hB.1 k hk j hj
theorem fit_e {A : XA} {L : List XCl} {gg v k j : Nat} (h7 : k ≠ 7) : fitA A L gg v k j = updA A 2 gg v k j := if_neg (fun q => h7 q.1)
theorem fit_cache {A : XA} {L : List XCl} {gg v : Nat} (h : cacheA A L) : cacheA (fitA A L gg v) L := by
  obtain ⟨c1, c2, c3, c4⟩ := h
  refine ⟨fun g' q => c1 g' q, fun g' q i hi => ?_, c3, fun j q1 q2 => c4 j q1 q2⟩
  have q' : g' < A 8 0 := q
  show (if (7 : Nat) = 7 ∧ 16 * gg ≤ g' * 16 + i ∧ g' * 16 + i < 16 * gg + 16 then yvF (fG gg (A 1 gg) v) L (g' * 16 + i - 16 * gg) else A 7 (g' * 16 + i)) = yvF (fG g' (A 1 g') (updA A 2 gg v 2 g')) L i
  by_cases z : g' = gg
  · subst z
    rw [if_pos (by omega), show updA A 2 g' v 2 g' = v from if_pos ⟨rfl, rfl⟩, show g' * 16 + i - 16 * g' = i by omega]
  · rw [if_neg (by omega), show updA A 2 gg v 2 g' = A 2 g' from if_neg (fun w => z w.2)]
    exact c2 g' q' i hi
theorem fit_bd {A : XA} {L : List XCl} {gg v : Nat} (hB : bdA A) (hL : okL L) (hg : gg < 6) (hv : v < 10) : bdA (fitA A L gg v) := by
  refine ⟨fun k hk j hj => ?_, hB.2.1, hB.2.2⟩
  by_cases h7 : k = 7
  · subst h7
    show (if (7 : Nat) = 7 ∧ 16 * gg ≤ j ∧ j < 16 * gg + 16 then yvF (fG gg (A 1 gg) v) L (j - 16 * gg) else A 7 j) < 1000
    split
    · exact yvF_lt hL _
    · exact hB.1 7 (by decide) j hj
  · rw [fit_e h7]
    unfold updA
    split
    · rename_i q; rw [q.1]; exact hv
    · exact hB.1 k hk j hj
section P90
variable {g : XG} {d : Nat} {M M0 : XM} {K : Option Value → XS → XM → Prop} {s : XSt}
def MNt (M : XM) (N : XA) : Prop := M.1 65 39 = nI (N 7 0) ∧ ∀ j, j < N 7 0 → M.1 88 j = nI (N 0 j) ∧ M.1 89 j = nI (N 1 j) ∧ M.1 90 j = nI (N 2 j)
theorem MNt.keep {p : Nat → Nat → Bool} {M M' : XM} {N : XA} (h : MNt M N) (hs : only p M M') (hp : p 65 39 = false ∧ ∀ k, p 88 k = false ∧ p 89 k = false ∧ p 90 k = false) : MNt M' N :=
  ⟨(hs.1 65 39 hp.1).trans h.1, fun j hj => ⟨(hs.1 88 j (hp.2 j).1).trans (h.2 j hj).1, (hs.1 89 j (hp.2 j).2.1).trans (h.2 j hj).2.1, (hs.1 90 j (hp.2 j).2.2).trans (h.2 j hj).2.2⟩⟩
theorem sm_isSeen {A N : XA} {L : List XCl} {W who b0 : Nat} {w : Int32} (hL : MLs M L b0) (hB : bdA A) (hQ : MNow M A W) (hA : cacheA A L) (hNt : MNt M N) (hN : bdN N) (hw : whoW w (A 8 0) who) (hday : A 11 0 < 20000) (h : ∀ M', only pN M M' → K (some (.int (nI (b2n (seenOk N A w))))) xSF M') : Ex g (d + 6) yX10_isSeen mX10_isSeen [.ref 65, .int (nI who)] xSF M K := by
  have h6 := hB.2.1
  have n5 := hN.2.2.2.1
  have hWl : ∀ j, j < 64 * A 8 0 → wnF A L j ≤ 20000 := fun j q => wnF_le hL.1 hB q
  refine x_entry kX10_isSeen (Nat.le_of_ble_eq_true rfl) ?_
  show Wp g _ mX10_isSeen 0 [some (.ref 65), some (.int (nI who)), none, none, none, none] [] _ _ _ _
  have body : ∀ M1, only pN M M1 → (∀ j, j < 64 * A 8 0 → M1.1 85 j = nI (wnF A L j)) → ∀ m k o3 o4 o5, k + m = N 7 0 → allN (fun k => decide (gainA A w (N 0 k) (N 2 k) = N 1 k)) k = true → Wp g (d + 6) mX10_isSeen 6 [some (.ref 65), some (.int (nI who)), some (.int (nI k)), o3, o4, o5] [] xSF (0, 0) M1 K := by
    intro M1 ho h85 m
    have hNt1 := hNt.keep ho ⟨rfl, fun _ => ⟨rfl, rfl, rfl⟩⟩
    have hQ1 := hQ.keep ho pN_Q
    induction m with
    | zero =>
      intro k o3 o4 o5 hk hall
      obtain rfl : k = N 7 0 := by omega
      have hv : seenOk N A w = true := hall
      rw [hv] at h
      refine x_iload_n (pc := 6) dX10_isSeen_6 rfl ?_
      refine x_aload_n (pc := 7) dX10_isSeen_7 rfl ?_
      refine x_getI (pc := 8) dX10_isSeen_8 flX10_129 (by first | assumption | rfl) rfl ?_
      rw [hNt1.1]
      first | (guard_target =~ Wp _ _ _ _ _ (Value.int (nI _) :: Value.int (nI _) :: _) _ _ _ _; with_reducible refine x_icmp_geN (pc := 11) (tgt := 118) ?_ ?_ dX10_isSeen_11 ?_ (fun h11 => ?_) (fun h11 => ?_); (first | omega | exact b2n_31 _); (first | omega | exact b2n_31 _); decide) | refine x_icmp_ge (pc := 11) (tgt := 118) dX10_isSeen_11 (by decide) (fun h11 => ?_) (fun h11 => ?_)
      · skip
        refine x_iconstN (pc := 118) 1 dX10_isSeen_118 ic_1 ?_
        refine x_ret (pc := 119) (v := some _) rfl (by first | rfl | decide | exact xrt_b) dX10_isSeen_119 (by decide) ?_
        exact h M1 ho
      · skip
        omega
    | succ m ih =>
      intro k o3 o4 o5 hk hall
      have hk2 : k < N 7 0 := by omega
      obtain ⟨r1, r2, r3⟩ := hNt1.2 k hk2
      obtain ⟨b1, b2, b3⟩ := hN.1 k hk2
      have dl : ∀ m2 dk o5, dk + m2 = N 2 k → Wp g (d + 6) mX10_isSeen 19 [some (.ref 65), some (.int (nI who)), some (.int (nI k)), some (.int (nI (xsum (fun j => dyG (wnF A L) (A 8 0) who (N 0 k) (A 11 0 + j)) dk))), some (.int (nI dk)), o5] [] xSF (0, 0) M1 K := by
        intro m2
        induction m2 with
        | zero =>
          intro dk o5 hdk
          obtain rfl : dk = N 2 k := by omega
          have hgd := gain_dy (n := N 2 k) b1 hA hw
          have hgb := gain_bd (n := N 2 k) b1 hA hL.1 hB who hw
          rw [hgd]
          by_cases hq : gainA A w (N 0 k) (N 2 k) = N 1 k
          · skip
            refine x_iload (pc := 19) dX10_isSeen_19 rfl ?_
            refine x_aload_n (pc := 21) dX10_isSeen_21 rfl ?_
            refine x_getR (pc := 22) dX10_isSeen_22 flX10_138 (by first | assumption | rfl) rfl ?_
            refine x_iload_n (pc := 25) dX10_isSeen_25 rfl ?_
            refine x_ialdN (pc := 26) dX10_isSeen_26 (by first | assumption | rfl) (by first | with_reducible rfl | (simp only [xlit, nI_add, pk_mul]; with_reducible rfl)) (by omega) (by decide) ?_
            rw [r3]
            first | (guard_target =~ Wp _ _ _ _ _ (Value.int (nI _) :: Value.int (nI _) :: _) _ _ _ _; with_reducible refine x_icmp_geN (pc := 27) (tgt := 100) ?_ ?_ dX10_isSeen_27 ?_ (fun h27 => ?_) (fun h27 => ?_); (first | omega | exact b2n_31 _); (first | omega | exact b2n_31 _); decide) | refine x_icmp_ge (pc := 27) (tgt := 100) dX10_isSeen_27 (by decide) (fun h27 => ?_) (fun h27 => ?_)
            · skip
              refine x_iload_n (pc := 100) dX10_isSeen_100 rfl ?_
              refine x_aload_n (pc := 101) dX10_isSeen_101 rfl ?_
              refine x_getR (pc := 102) dX10_isSeen_102 flX10_135 (by first | assumption | rfl) rfl ?_
              refine x_iload_n (pc := 105) dX10_isSeen_105 rfl ?_
              refine x_ialdN (pc := 106) dX10_isSeen_106 (by first | assumption | rfl) (by first | with_reducible rfl | (simp only [xlit, nI_add, pk_mul]; with_reducible rfl)) (by omega) (by decide) ?_
              rw [r2]
              first | (guard_target =~ Wp _ _ _ _ _ (Value.int (nI _) :: Value.int (nI _) :: _) _ _ _ _; with_reducible refine x_icmp_eqN (pc := 107) (tgt := 112) ?_ ?_ dX10_isSeen_107 ?_ (fun h107 => ?_) (fun h107 => ?_); (first | omega | exact b2n_31 _); (first | omega | exact b2n_31 _); decide) | refine x_icmp_eq (pc := 107) (tgt := 112) dX10_isSeen_107 (by decide) (fun h107 => ?_) (fun h107 => ?_)
              · skip
                first | (guard_target =~ Wp _ _ _ _ (_ :: _ :: some (Value.int (nI _)) :: _) _ _ _ _ _; with_reducible refine x_iincN (pc := 112) 1 ic_1 dX10_isSeen_112 ?_ xg_2 xs_2 ?_ ?_; decide; exact (x_hp rfl)) | refine x_iincC (pc := 112) ic_1 dX10_isSeen_112 (by decide) rfl xs_2 (x_hp rfl) ?_
                refine x_goto (pc := 115) (tgt := 6) dX10_isSeen_115 (by decide) ?_
                exact ih (k + 1) _ _ _ (by omega) (by rw [allN, hall, decide_eq_true hq]; rfl)
              · skip
                exact absurd hq h107
            · skip
              omega
          · have hv : seenOk N A w = false := by
              cases hz : seenOk N A w with
              | false => rfl
              | true => exact absurd (of_decide_eq_true (allN_iff.mp hz k hk2)) hq
            rw [hv] at h
            refine x_iload (pc := 19) dX10_isSeen_19 rfl ?_
            refine x_aload_n (pc := 21) dX10_isSeen_21 rfl ?_
            refine x_getR (pc := 22) dX10_isSeen_22 flX10_138 (by first | assumption | rfl) rfl ?_
            refine x_iload_n (pc := 25) dX10_isSeen_25 rfl ?_
            refine x_ialdN (pc := 26) dX10_isSeen_26 (by first | assumption | rfl) (by first | with_reducible rfl | (simp only [xlit, nI_add, pk_mul]; with_reducible rfl)) (by omega) (by decide) ?_
            rw [r3]
            first | (guard_target =~ Wp _ _ _ _ _ (Value.int (nI _) :: Value.int (nI _) :: _) _ _ _ _; with_reducible refine x_icmp_geN (pc := 27) (tgt := 100) ?_ ?_ dX10_isSeen_27 ?_ (fun h27 => ?_) (fun h27 => ?_); (first | omega | exact b2n_31 _); (first | omega | exact b2n_31 _); decide) | refine x_icmp_ge (pc := 27) (tgt := 100) dX10_isSeen_27 (by decide) (fun h27 => ?_) (fun h27 => ?_)
            · skip
              refine x_iload_n (pc := 100) dX10_isSeen_100 rfl ?_
              refine x_aload_n (pc := 101) dX10_isSeen_101 rfl ?_
              refine x_getR (pc := 102) dX10_isSeen_102 flX10_135 (by first | assumption | rfl) rfl ?_
              refine x_iload_n (pc := 105) dX10_isSeen_105 rfl ?_
              refine x_ialdN (pc := 106) dX10_isSeen_106 (by first | assumption | rfl) (by first | with_reducible rfl | (simp only [xlit, nI_add, pk_mul]; with_reducible rfl)) (by omega) (by decide) ?_
              rw [r2]
              first | (guard_target =~ Wp _ _ _ _ _ (Value.int (nI _) :: Value.int (nI _) :: _) _ _ _ _; with_reducible refine x_icmp_eqN (pc := 107) (tgt := 112) ?_ ?_ dX10_isSeen_107 ?_ (fun h107 => ?_) (fun h107 => ?_); (first | omega | exact b2n_31 _); (first | omega | exact b2n_31 _); decide) | refine x_icmp_eq (pc := 107) (tgt := 112) dX10_isSeen_107 (by decide) (fun h107 => ?_) (fun h107 => ?_)
              · skip
                exact absurd h107 hq
              · skip
                refine x_iconstN (pc := 110) 0 dX10_isSeen_110 ic_0 ?_
                refine x_ret (pc := 111) (v := some _) rfl (by first | rfl | decide | exact xrt_b) dX10_isSeen_111 (by decide) ?_
                exact h M1 ho
            · skip
              omega
        | succ m2 ih2 =>
          intro dk o5 hdk
          have hprev : xsum (fun j => dyG (wnF A L) (A 8 0) who (N 0 k) (A 11 0 + j)) dk ≤ dk * 120000 := xsum_bd (fun i _ => by
            have := dyG_le (who := who) (day := A 11 0 + i) h6 b1 hWl (A 8 0) (Nat.le_refl _)
            unfold dyG; omega)
          have gl : ∀ m3 gg, gg + m3 = A 8 0 → Wp g (d + 6) mX10_isSeen 33 [some (.ref 65), some (.int (nI who)), some (.int (nI k)), some (.int (nI (xsum (fun j => dyG (wnF A L) (A 8 0) who (N 0 k) (A 11 0 + j)) dk + xsum (fun g => if who.testBit g = true then wnF A L (64 * g + 4 * N 0 k + (A 11 0 + dk) % 4) else 0) gg))), some (.int (nI dk)), some (.int (nI gg))] [] xSF (0, 0) M1 K := by
            intro m3
            induction m3 with
            | zero =>
              intro gg hg
              obtain rfl : gg = A 8 0 := by omega
              refine x_iload (pc := 33) dX10_isSeen_33 rfl ?_
              refine x_aload_n (pc := 35) dX10_isSeen_35 rfl ?_
              refine x_getI (pc := 36) dX10_isSeen_36 flX10_7 (by first | assumption | rfl) rfl ?_
              rw [hQ1.1]
              first | (guard_target =~ Wp _ _ _ _ _ (Value.int (nI _) :: Value.int (nI _) :: _) _ _ _ _; with_reducible refine x_icmp_geN (pc := 39) (tgt := 94) ?_ ?_ dX10_isSeen_39 ?_ (fun h39 => ?_) (fun h39 => ?_); (first | omega | exact b2n_31 _); (first | omega | exact b2n_31 _); decide) | refine x_icmp_ge (pc := 39) (tgt := 94) dX10_isSeen_39 (by decide) (fun h39 => ?_) (fun h39 => ?_)
              · skip
                first | (guard_target =~ Wp _ _ _ _ (_ :: _ :: _ :: _ :: some (Value.int (nI _)) :: _) _ _ _ _ _; with_reducible refine x_iincN (pc := 94) 1 ic_1 dX10_isSeen_94 ?_ xg_4 xs_4 ?_ ?_; decide; exact (x_hp rfl)) | refine x_iincC (pc := 94) ic_1 dX10_isSeen_94 (by decide) rfl xs_4 (x_hp rfl) ?_
                refine x_goto (pc := 97) (tgt := 19) dX10_isSeen_97 (by decide) ?_
                exact ih2 (dk + 1) _ (by omega)
              · skip
                omega
            | succ m3 ih3 =>
              intro gg hg
              have hb := dyG_le (who := who) (day := A 11 0 + dk) h6 b1 hWl gg (by omega)
              have nx : ∀ v, v = (if who.testBit gg = true then wnF A L (64 * gg + 4 * N 0 k + (A 11 0 + dk) % 4) else 0) → Wp g (d + 6) mX10_isSeen 33 [some (.ref 65), some (.int (nI who)), some (.int (nI k)), some (.int (nI (xsum (fun j => dyG (wnF A L) (A 8 0) who (N 0 k) (A 11 0 + j)) dk + xsum (fun g => if who.testBit g = true then wnF A L (64 * g + 4 * N 0 k + (A 11 0 + dk) % 4) else 0) gg + v))), some (.int (nI dk)), some (.int (nI (gg + 1)))] [] xSF (0, 0) M1 K := by
                intro v hv
                have := ih3 (gg + 1) (by omega)
                rw [xsum, ← hv, ← Nat.add_assoc] at this
                exact this
              refine x_iload (pc := 33) dX10_isSeen_33 rfl ?_
              refine x_aload_n (pc := 35) dX10_isSeen_35 rfl ?_
              refine x_getI (pc := 36) dX10_isSeen_36 flX10_7 (by first | assumption | rfl) rfl ?_
              rw [hQ1.1]
              first | (guard_target =~ Wp _ _ _ _ _ (Value.int (nI _) :: Value.int (nI _) :: _) _ _ _ _; with_reducible refine x_icmp_geN (pc := 39) (tgt := 94) ?_ ?_ dX10_isSeen_39 ?_ (fun h39 => ?_) (fun h39 => ?_); (first | omega | exact b2n_31 _); (first | omega | exact b2n_31 _); decide) | refine x_icmp_ge (pc := 39) (tgt := 94) dX10_isSeen_39 (by decide) (fun h39 => ?_) (fun h39 => ?_)
              · skip
                omega
              · skip
                refine x_iload_n (pc := 42) dX10_isSeen_42 rfl ?_
                refine x_aload_n (pc := 43) dX10_isSeen_43 rfl ?_
                refine x_iload_n (pc := 44) dX10_isSeen_44 rfl ?_
                refine x_iload (pc := 45) dX10_isSeen_45 rfl ?_
                refine x_invV2 (pc := 47) dX10_isSeen_47 mlX10_245 imX10_has seX10_has kX10_has (by first | assumption | rfl) rfl (Nat.le_of_ble_eq_true rfl) (by decide) ?_
                refine sm_has (by omega) ?_
                refine x_cv rfl rfl ?_
                rw [tb_nI (by omega)]
                first | (guard_target =~ Wp _ _ _ _ _ (Value.int (nI _) :: _) _ _ _ _; with_reducible refine x_if_eqN (pc := 50) (tgt := 85) ?_ dX10_isSeen_50 ?_ (fun h50 => ?_) (fun h50 => ?_); (first | omega | exact b2n_32 _ | exact b2n_31 _); decide) | refine x_if_eq (pc := 50) (tgt := 85) dX10_isSeen_50 (by decide) (fun h50 => ?_) (fun h50 => ?_)
                · skip
                  refine x_iconstN (pc := 85) 0 dX10_isSeen_85 ic_0 ?_
                  first | (guard_target =~ Wp _ _ _ _ _ (Value.int (nI _) :: Value.int (nI _) :: _) _ _ _ _; with_reducible refine x_iaddN (pc := 86) dX10_isSeen_86 ?_) | refine x_iadd (pc := 86) dX10_isSeen_86 ?_
                  refine x_istore_n (pc := 87) dX10_isSeen_87 (by decide) xs_3 (x_hp rfl) ?_
                  first | (guard_target =~ Wp _ _ _ _ (_ :: _ :: _ :: _ :: _ :: some (Value.int (nI _)) :: _) _ _ _ _ _; with_reducible refine x_iincN (pc := 88) 1 ic_1 dX10_isSeen_88 ?_ xg_5 xs_5 ?_ ?_; decide; exact (x_hp rfl)) | refine x_iincC (pc := 88) ic_1 dX10_isSeen_88 (by decide) rfl xs_5 (x_hp rfl) ?_
                  refine x_goto (pc := 91) (tgt := 33) dX10_isSeen_91 (by decide) ?_
                  exact nx 0 (by rw [b2n_0 h50, if_neg (by decide)])
                · skip
                  refine x_aload_n (pc := 53) dX10_isSeen_53 rfl ?_
                  refine x_getR (pc := 54) dX10_isSeen_54 flX10_108 (by first | assumption | rfl) rfl ?_
                  refine x_bipushN (pc := 57) 64 dX10_isSeen_57 bp_64 ?_
                  refine x_iload (pc := 59) dX10_isSeen_59 rfl ?_
                  first | (guard_target =~ Wp _ _ _ _ _ (Value.int (nI _) :: Value.int (nI _) :: _) _ _ _ _; with_reducible refine x_imulN (pc := 61) dX10_isSeen_61 ?_) | refine x_imul (pc := 61) dX10_isSeen_61 ?_
                  refine x_iconstN (pc := 62) 4 dX10_isSeen_62 ic_4 ?_
                  refine x_aload_n (pc := 63) dX10_isSeen_63 rfl ?_
                  refine x_getR (pc := 64) dX10_isSeen_64 flX10_132 (by first | assumption | rfl) rfl ?_
                  refine x_iload_n (pc := 67) dX10_isSeen_67 rfl ?_
                  refine x_ialdN (pc := 68) dX10_isSeen_68 (by first | assumption | rfl) (by first | with_reducible rfl | (simp only [xlit, nI_add, pk_mul]; with_reducible rfl)) (by omega) (by decide) ?_
                  rw [r1]
                  first | (guard_target =~ Wp _ _ _ _ _ (Value.int (nI _) :: Value.int (nI _) :: _) _ _ _ _; with_reducible refine x_imulN (pc := 69) dX10_isSeen_69 ?_) | refine x_imul (pc := 69) dX10_isSeen_69 ?_
                  first | (guard_target =~ Wp _ _ _ _ _ (Value.int (nI _) :: Value.int (nI _) :: _) _ _ _ _; with_reducible refine x_iaddN (pc := 70) dX10_isSeen_70 ?_) | refine x_iadd (pc := 70) dX10_isSeen_70 ?_
                  refine x_aload_n (pc := 71) dX10_isSeen_71 rfl ?_
                  refine x_getI (pc := 72) dX10_isSeen_72 flX10_19 (by first | assumption | rfl) rfl ?_
                  rw [hQ1.2.2.2.1]
                  refine x_iload (pc := 75) dX10_isSeen_75 rfl ?_
                  first | (guard_target =~ Wp _ _ _ _ _ (Value.int (nI _) :: Value.int (nI _) :: _) _ _ _ _; with_reducible refine x_iaddN (pc := 77) dX10_isSeen_77 ?_) | refine x_iadd (pc := 77) dX10_isSeen_77 ?_
                  refine x_iconstN (pc := 78) 4 dX10_isSeen_78 ic_4 ?_
                  first | (guard_target =~ Wp _ _ _ _ _ (Value.int (nI _) :: Value.int (nI _) :: _) _ _ _ _; with_reducible refine x_iremN (pc := 79) ?_ ?_ ?_ dX10_isSeen_79 ?_; omega; omega; omega) | refine x_irem (pc := 79) dX10_isSeen_79 (by assumption) ?_
                  first | (guard_target =~ Wp _ _ _ _ _ (Value.int (nI _) :: Value.int (nI _) :: _) _ _ _ _; with_reducible refine x_iaddN (pc := 80) dX10_isSeen_80 ?_) | refine x_iadd (pc := 80) dX10_isSeen_80 ?_
                  refine x_ialdN (pc := 81) dX10_isSeen_81 (by first | assumption | rfl) (by first | with_reducible rfl | (simp only [xlit, nI_add, pk_mul]; with_reducible rfl)) (by omega) (by decide) ?_
                  rw [h85 (64 * gg + 4 * N 0 k + (A 11 0 + dk) % 4) (by omega)]
                  refine x_goto (pc := 82) (tgt := 86) dX10_isSeen_82 (by decide) ?_
                  first | (guard_target =~ Wp _ _ _ _ _ (Value.int (nI _) :: Value.int (nI _) :: _) _ _ _ _; with_reducible refine x_iaddN (pc := 86) dX10_isSeen_86 ?_) | refine x_iadd (pc := 86) dX10_isSeen_86 ?_
                  refine x_istore_n (pc := 87) dX10_isSeen_87 (by decide) xs_3 (x_hp rfl) ?_
                  first | (guard_target =~ Wp _ _ _ _ (_ :: _ :: _ :: _ :: _ :: some (Value.int (nI _)) :: _) _ _ _ _ _; with_reducible refine x_iincN (pc := 88) 1 ic_1 dX10_isSeen_88 ?_ xg_5 xs_5 ?_ ?_; decide; exact (x_hp rfl)) | refine x_iincC (pc := 88) ic_1 dX10_isSeen_88 (by decide) rfl xs_5 (x_hp rfl) ?_
                  refine x_goto (pc := 91) (tgt := 33) dX10_isSeen_91 (by decide) ?_
                  exact nx _ (by rw [b2n_1 h50, if_pos rfl])
          refine x_iload (pc := 19) dX10_isSeen_19 rfl ?_
          refine x_aload_n (pc := 21) dX10_isSeen_21 rfl ?_
          refine x_getR (pc := 22) dX10_isSeen_22 flX10_138 (by first | assumption | rfl) rfl ?_
          refine x_iload_n (pc := 25) dX10_isSeen_25 rfl ?_
          refine x_ialdN (pc := 26) dX10_isSeen_26 (by first | assumption | rfl) (by first | with_reducible rfl | (simp only [xlit, nI_add, pk_mul]; with_reducible rfl)) (by omega) (by decide) ?_
          rw [r3]
          first | (guard_target =~ Wp _ _ _ _ _ (Value.int (nI _) :: Value.int (nI _) :: _) _ _ _ _; with_reducible refine x_icmp_geN (pc := 27) (tgt := 100) ?_ ?_ dX10_isSeen_27 ?_ (fun h27 => ?_) (fun h27 => ?_); (first | omega | exact b2n_31 _); (first | omega | exact b2n_31 _); decide) | refine x_icmp_ge (pc := 27) (tgt := 100) dX10_isSeen_27 (by decide) (fun h27 => ?_) (fun h27 => ?_)
          · skip
            omega
          · skip
            refine x_iconstN (pc := 30) 0 dX10_isSeen_30 ic_0 ?_
            refine x_istore (pc := 31) dX10_isSeen_31 (by decide) xs_5 (x_hp rfl) ?_
            exact gl (A 8 0) 0 (by omega)
      refine x_iload_n (pc := 6) dX10_isSeen_6 rfl ?_
      refine x_aload_n (pc := 7) dX10_isSeen_7 rfl ?_
      refine x_getI (pc := 8) dX10_isSeen_8 flX10_129 (by first | assumption | rfl) rfl ?_
      rw [hNt1.1]
      first | (guard_target =~ Wp _ _ _ _ _ (Value.int (nI _) :: Value.int (nI _) :: _) _ _ _ _; with_reducible refine x_icmp_geN (pc := 11) (tgt := 118) ?_ ?_ dX10_isSeen_11 ?_ (fun h11 => ?_) (fun h11 => ?_); (first | omega | exact b2n_31 _); (first | omega | exact b2n_31 _); decide) | refine x_icmp_ge (pc := 11) (tgt := 118) dX10_isSeen_11 (by decide) (fun h11 => ?_) (fun h11 => ?_)
      · skip
        omega
      · skip
        refine x_iconstN (pc := 14) 0 dX10_isSeen_14 ic_0 ?_
        refine x_istore_n (pc := 15) dX10_isSeen_15 (by decide) xs_3 (x_hp rfl) ?_
        refine x_iconstN (pc := 16) 0 dX10_isSeen_16 ic_0 ?_
        refine x_istore (pc := 17) dX10_isSeen_17 (by decide) xs_4 (x_hp rfl) ?_
        exact dl (N 2 k) 0 _ (by omega)
  refine x_aload_n (pc := 0) dX10_isSeen_0 rfl ?_
  refine x_invV0 (pc := 1) dX10_isSeen_1 mlX10_361 imX10_layWorn seX10_layWorn kX10_layWorn (by first | assumption | rfl) rfl (Nat.le_of_ble_eq_true rfl) (by decide) ?_
  refine sm_layWorn hL hB hQ (fun M1 ho1 h85 => ?_)
  refine x_cn rfl rfl ?_
  refine x_iconstN (pc := 4) 0 dX10_isSeen_4 ic_0 ?_
  refine x_istore_n (pc := 5) dX10_isSeen_5 (by decide) xs_2 (x_hp rfl) ?_
  exact body M1 ho1 h85 (N 7 0) 0 _ _ _ (by omega) rfl
theorem fM_starts {x : Int32} (hC : MC9 M s) (ok : okM s) (h : ∀ M', high M M' → MC9 M' s → K (some (.int (vStarts s x))) xSF M') : Ex g (d + 7) yX10_starts mX10_starts [.ref 65, .int x] xSF M K := by
  unfold vStarts at h
  have hB := ok.bd
  have h6 := hB.2.1
  obtain ⟨b0, hL⟩ := hC.ls ok
  have hQ := hC.1.mq
  have hL2 := ok.cache
  have h11 := ok.std.2
  have hN : bdN (qN s) := ok.1.2.1
  have hNt : MNt M (qN s) := hC.1.2.2.2.2.2.2.1
  refine x_entry kX10_starts (Nat.le_of_ble_eq_true rfl) ?_
  show Wp g _ mX10_starts 0 [some (.ref 65), some (.int x), none, none, none] [] _ _ _ _
  rcases isR_cases (x := x) (n := s.1.1 8 0) (by omega) with e | ⟨i, hi, rfl, e⟩
  · simp only [e, Bool.false_eq_true, if_false] at h
    refine x_aload_n (pc := 0) dX10_starts_0 rfl ?_
    refine x_iload_n (pc := 1) dX10_starts_1 rfl ?_
    refine x_invV1 (pc := 2) dX10_starts_2 mlX10_264 imX10_isGoer seX10_isGoer kX10_isGoer (by first | assumption | rfl) rfl (Nat.le_of_ble_eq_true rfl) (by decide) ?_
    refine sm_isGoer h6 hC.1.1 ?_
    refine x_cv rfl rfl ?_
    rw [e]
    first | (guard_target =~ Wp _ _ _ _ _ (Value.int (nI _) :: _) _ _ _ _; with_reducible refine x_if_neN (pc := 5) (tgt := 10) ?_ dX10_starts_5 ?_ (fun h5 => ?_) (fun h5 => ?_); (first | omega | exact b2n_32 _ | exact b2n_31 _); decide) | refine x_if_ne (pc := 5) (tgt := 10) dX10_starts_5 (by decide) (fun h5 => ?_) (fun h5 => ?_)
    · skip
      exact absurd rfl h5
    · skip
      refine x_iconst (pc := 8) dX10_starts_8 ic_m1 ?_
      refine x_ret (pc := 9) (v := some _) rfl trivial dX10_starts_9 (by decide) ?_
      exact h M high.rf hC
  simp only [e, if_true] at h
  rw [toN_nI (by omega)] at h
  have hi6 : i < 6 := by omega
  have hfb : s.1.1 3 i < 16 := hB.1 3 (by decide) i (show i < 6 by omega)
  have f0 : M.1 69 i = nI (s.1.1 3 i) := hQ.2.2.2.2 3 (by decide) i (show i < 6 by omega)
  have loop : ∀ m c M1, c + m = 16 → only (fun a k => pN a k || (a == 69 && k == i)) M M1 → Wp g (d + 7) mX10_starts 22 [some (.ref 65), some (.int (nI i)), some (.int (nI (s.1.1 3 i))), some (.int (nI (xset (fun c => seenOk s.1.2.2.2.1 (stA s.1.1 i c) (qw s)) c))), some (.int (nI c))] [] xSF (0, 0) M1 K := by
    intro m
    induction m with
    | zero =>
      intro c M1 hc ho
      obtain rfl : c = 16 := by omega
      have fin : only pZ M (xput M1 69 i (nI (s.1.1 3 i))) := by
        refine ⟨fun a k q => ?_, ho.2⟩
        by_cases z : a = 69 ∧ k = i
        · obtain ⟨rfl, rfl⟩ := z; exact (if_pos ⟨rfl, rfl⟩).trans f0.symm
        · refine (if_neg z).trans (ho.1 a k ?_)
          have hn : pN a k = false := by cases hp : pN a k with
            | false => rfl
            | true => rw [pZ_N a k hp] at q; cases q
          simp [hn]; omega
      refine x_iload (pc := 22) dX10_starts_22 rfl ?_
      refine x_bipushN (pc := 24) 16 dX10_starts_24 bp_16 ?_
      first | (guard_target =~ Wp _ _ _ _ _ (Value.int (nI _) :: Value.int (nI _) :: _) _ _ _ _; with_reducible refine x_icmp_geN (pc := 26) (tgt := 65) ?_ ?_ dX10_starts_26 ?_ (fun h26 => ?_) (fun h26 => ?_); (first | omega | exact b2n_31 _); (first | omega | exact b2n_31 _); decide) | refine x_icmp_ge (pc := 26) (tgt := 65) dX10_starts_26 (by decide) (fun h26 => ?_) (fun h26 => ?_)
      · skip
        refine x_aload_n (pc := 65) dX10_starts_65 rfl ?_
        refine x_getR (pc := 66) dX10_starts_66 flX10_32 (by first | assumption | rfl) rfl ?_
        refine x_iload_n (pc := 69) dX10_starts_69 rfl ?_
        refine x_iload_n (pc := 70) dX10_starts_70 rfl ?_
        refine x_iastN (pc := 71) dX10_starts_71 (by first | assumption | rfl) (by first | with_reducible rfl | (simp only [xlit, nI_add, pk_mul]; with_reducible rfl)) (by omega) (by decide) ?_
        refine x_iload_n (pc := 72) dX10_starts_72 rfl ?_
        refine x_ret (pc := 73) (v := some _) rfl trivial dX10_starts_73 (by decide) ?_
        exact h _ fin.qsm.1.1 (hC.st fin.qsm)
      · skip
        omega
    | succ m ih =>
      intro c M1 hc ho
      have hc16 : c < 16 := by omega
      have hQ1 : MNow (xput M1 69 i (nI c)) (stA s.1.1 i c) s.1.2.1 := by
        have e : ∀ a k, wQ a k = true → ¬ (a = 69 ∧ k = i) → M1.1 a k = M.1 a k := fun a k q1 q2 => ho.1 a k (by have := pN_Q a k q1; simp [this]; omega)
        refine ⟨(e 65 0 rfl (by omega)).trans hQ.1, (e 65 1 rfl (by omega)).trans hQ.2.1, (e 65 2 rfl (by omega)).trans hQ.2.2.1, (e 65 3 rfl (by omega)).trans hQ.2.2.2.1, fun k hk j hj => ?_⟩
        show (if 66 + k = 69 ∧ j = i then nI c else M1.1 (66 + k) j) = nI (if k = 6 ∧ j = i then wbits (wayL (updA s.1.1 3 i c) i) else if k = 3 ∧ j = i then c else s.1.1 k j)
        rw [if_neg (show ¬ (k = 6 ∧ j = i) by omega)]
        by_cases z : k = 3 ∧ j = i
        · rw [if_pos (by omega), if_pos z]
        · rw [if_neg (by omega), if_neg z, e (66 + k) j (by simp [wQ]; omega) (by omega)]; exact hQ.2.2.2.2 k hk j hj
      have op : only (fun a k => pN a k || (a == 69 && k == i)) M (xput M1 69 i (nI c)) := ho.tr (only.put (by simp))
      have hL1 : MLs (xput M1 69 i (nI c)) s.1.2.2.2.2 b0 := hL.keep op (by intro a k q; have := pN_L a k q; simp [wL] at q; simp [this]; omega)
      have hN1 : MNt (xput M1 69 i (nI c)) (qN s) := hNt.keep op ⟨rfl, fun _ => ⟨rfl, rfl, rfl⟩⟩
      have nx : ∀ v M5, only pN (xput M1 69 i (nI c)) M5 → v = (if seenOk s.1.2.2.2.1 (stA s.1.1 i c) (qw s) = true then 2 ^ c else 0) → Wp g (d + 7) mX10_starts 22 [some (.ref 65), some (.int (nI i)), some (.int (nI (s.1.1 3 i))), some (.int (nI (xset (fun c => seenOk s.1.2.2.2.1 (stA s.1.1 i c) (qw s)) c ||| v))), some (.int (nI (c + 1)))] [] xSF (0, 0) M5 K := by
        intro v M5 ho5 hv
        have := ih (c + 1) M5 (by omega) (op.tr (ho5.wide (by intro a k q; simp [q])))
        rw [xset, ← hv] at this
        exact this
      refine x_iload (pc := 22) dX10_starts_22 rfl ?_
      refine x_bipushN (pc := 24) 16 dX10_starts_24 bp_16 ?_
      first | (guard_target =~ Wp _ _ _ _ _ (Value.int (nI _) :: Value.int (nI _) :: _) _ _ _ _; with_reducible refine x_icmp_geN (pc := 26) (tgt := 65) ?_ ?_ dX10_starts_26 ?_ (fun h26 => ?_) (fun h26 => ?_); (first | omega | exact b2n_31 _); (first | omega | exact b2n_31 _); decide) | refine x_icmp_ge (pc := 26) (tgt := 65) dX10_starts_26 (by decide) (fun h26 => ?_) (fun h26 => ?_)
      · skip
        omega
      · skip
        refine x_aload_n (pc := 29) dX10_starts_29 rfl ?_
        refine x_getR (pc := 30) dX10_starts_30 flX10_32 (by first | assumption | rfl) rfl ?_
        refine x_iload_n (pc := 33) dX10_starts_33 rfl ?_
        refine x_iload (pc := 34) dX10_starts_34 rfl ?_
        refine x_iastN (pc := 36) dX10_starts_36 (by first | assumption | rfl) (by first | with_reducible rfl | (simp only [xlit, nI_add, pk_mul]; with_reducible rfl)) (by omega) (by decide) ?_
        refine x_iload_n (pc := 37) dX10_starts_37 rfl ?_
        refine x_aload_n (pc := 38) dX10_starts_38 rfl ?_
        refine x_aload_n (pc := 39) dX10_starts_39 rfl ?_
        refine x_invV0 (pc := 40) dX10_starts_40 mlX10_364 imX10_here seX10_here kX10_here (by first | assumption | rfl) rfl (Nat.le_of_ble_eq_true rfl) (by decide) ?_
        refine sm_here hQ1.2.1 ?_
        refine x_cv rfl rfl ?_
        refine x_invV1 (pc := 43) dX10_starts_43 mlX10_418 imX10_isSeen seX10_isSeen kX10_isSeen (by first | assumption | rfl) rfl (Nat.le_of_ble_eq_true rfl) (by decide) ?_
        refine sm_isSeen (A := stA s.1.1 i c) (w := qw s) hL1 (st_bd hB hi6 hc16) hQ1 (st_cache hL2) hN1 hN (who_here ok.away h6) (show s.1.1 11 0 < 20000 by omega) (fun M5 ho5 => ?_)
        refine x_cv rfl rfl ?_
        first | (guard_target =~ Wp _ _ _ _ _ (Value.int (nI _) :: _) _ _ _ _; with_reducible refine x_if_eqN (pc := 46) (tgt := 56) ?_ dX10_starts_46 ?_ (fun h46 => ?_) (fun h46 => ?_); (first | omega | exact b2n_32 _ | exact b2n_31 _); decide) | refine x_if_eq (pc := 46) (tgt := 56) dX10_starts_46 (by decide) (fun h46 => ?_) (fun h46 => ?_)
        · skip
          refine x_iconstN (pc := 56) 0 dX10_starts_56 ic_0 ?_
          try rw [Nat.one_mul]
          first | (guard_target =~ Wp _ _ _ _ _ (Value.int (nI _) :: Value.int (nI _) :: _) _ _ _ _; with_reducible refine x_iorN (pc := 57) dX10_starts_57 ?_) | refine x_ior (pc := 57) dX10_starts_57 ?_
          refine x_istore_n (pc := 58) dX10_starts_58 (by decide) xs_3 (x_hp rfl) ?_
          first | (guard_target =~ Wp _ _ _ _ (_ :: _ :: _ :: _ :: some (Value.int (nI _)) :: _) _ _ _ _ _; with_reducible refine x_iincN (pc := 59) 1 ic_1 dX10_starts_59 ?_ xg_4 xs_4 ?_ ?_; decide; exact (x_hp rfl)) | refine x_iincC (pc := 59) ic_1 dX10_starts_59 (by decide) rfl xs_4 (x_hp rfl) ?_
          refine x_goto (pc := 62) (tgt := 22) dX10_starts_62 (by decide) ?_
          exact nx 0 M5 ho5 (by rw [show seenOk s.1.2.2.2.1 (stA s.1.1 i c) (qw s) = false from b2n_0 h46, if_neg (by decide)])
        · skip
          refine x_iconstN (pc := 49) 1 dX10_starts_49 ic_1 ?_
          refine x_iload (pc := 50) dX10_starts_50 rfl ?_
          first | (guard_target =~ Wp _ _ _ _ _ (Value.int (nI _) :: Value.int (nI _) :: _) _ _ _ _; with_reducible refine x_ishlN (pc := 52) ?_ dX10_starts_52 ?_; omega) | refine x_ishl (pc := 52) dX10_starts_52 ?_
          refine x_goto (pc := 53) (tgt := 57) dX10_starts_53 (by decide) ?_
          try rw [Nat.one_mul]
          first | (guard_target =~ Wp _ _ _ _ _ (Value.int (nI _) :: Value.int (nI _) :: _) _ _ _ _; with_reducible refine x_iorN (pc := 57) dX10_starts_57 ?_) | refine x_ior (pc := 57) dX10_starts_57 ?_
          refine x_istore_n (pc := 58) dX10_starts_58 (by decide) xs_3 (x_hp rfl) ?_
          first | (guard_target =~ Wp _ _ _ _ (_ :: _ :: _ :: _ :: some (Value.int (nI _)) :: _) _ _ _ _ _; with_reducible refine x_iincN (pc := 59) 1 ic_1 dX10_starts_59 ?_ xg_4 xs_4 ?_ ?_; decide; exact (x_hp rfl)) | refine x_iincC (pc := 59) ic_1 dX10_starts_59 (by decide) rfl xs_4 (x_hp rfl) ?_
          refine x_goto (pc := 62) (tgt := 22) dX10_starts_62 (by decide) ?_
          exact nx _ M5 ho5 (by rw [show seenOk s.1.2.2.2.1 (stA s.1.1 i c) (qw s) = true from b2n_1 h46, if_pos rfl])
  refine x_aload_n (pc := 0) dX10_starts_0 rfl ?_
  refine x_iload_n (pc := 1) dX10_starts_1 rfl ?_
  refine x_invV1 (pc := 2) dX10_starts_2 mlX10_264 imX10_isGoer seX10_isGoer kX10_isGoer (by first | assumption | rfl) rfl (Nat.le_of_ble_eq_true rfl) (by decide) ?_
  refine sm_isGoer h6 hC.1.1 ?_
  refine x_cv rfl rfl ?_
  rw [e]
  first | (guard_target =~ Wp _ _ _ _ _ (Value.int (nI _) :: _) _ _ _ _; with_reducible refine x_if_neN (pc := 5) (tgt := 10) ?_ dX10_starts_5 ?_ (fun h5 => ?_) (fun h5 => ?_); (first | omega | exact b2n_32 _ | exact b2n_31 _); decide) | refine x_if_ne (pc := 5) (tgt := 10) dX10_starts_5 (by decide) (fun h5 => ?_) (fun h5 => ?_)
  · skip
    refine x_aload_n (pc := 10) dX10_starts_10 rfl ?_
    refine x_getR (pc := 11) dX10_starts_11 flX10_32 (by first | assumption | rfl) rfl ?_
    refine x_iload_n (pc := 14) dX10_starts_14 rfl ?_
    refine x_ialdN (pc := 15) dX10_starts_15 (by first | assumption | rfl) (by first | with_reducible rfl | (simp only [xlit, nI_add, pk_mul]; with_reducible rfl)) (by omega) (by decide) ?_
    rw [f0]
    refine x_istore_n (pc := 16) dX10_starts_16 (by decide) xs_2 (x_hp rfl) ?_
    refine x_iconstN (pc := 17) 0 dX10_starts_17 ic_0 ?_
    refine x_istore_n (pc := 18) dX10_starts_18 (by decide) xs_3 (x_hp rfl) ?_
    refine x_iconstN (pc := 19) 0 dX10_starts_19 ic_0 ?_
    refine x_istore (pc := 20) dX10_starts_20 (by decide) xs_4 (x_hp rfl) ?_
    exact loop 16 0 M (by omega) only.rf
  · skip
    cases h5
theorem who_sole {k n : Nat} (hk : k < 6) (hn : n ≤ 6) : whoW (soleW k) n (2 ^ k) := by
  intro g hg
  unfold soleW
  rw [show (-1 : Int32) = nI 4294967295 by decide +kernel, nI_xor, tb_nI (by omega), Nat.testBit_xor, neg_tb g (by omega)]
  simp
theorem fM_sole (hC : MC9 M s) (ok : okM s) (h : ∀ M', high M M' → MC9 M' s → K (some (.int (vSole s))) xSF M') : Ex g (d + 7) yX10_sole mX10_sole [.ref 65] xSF M K := by
  unfold vSole at h
  have hB := ok.bd
  have h6 := hB.2.1
  obtain ⟨b0, hL⟩ := hC.ls ok
  have hQ := hC.1.mq
  have hL2 := ok.cache
  have h11 := ok.std.2
  have hN : bdN (qN s) := ok.1.2.1
  have hNt : MNt M (qN s) := hC.1.2.2.2.2.2.2.1
  refine x_entry kX10_sole (Nat.le_of_ble_eq_true rfl) ?_
  show Wp g _ mX10_sole 0 [some (.ref 65), none, none] [] _ _ _ _
  have loop : ∀ m k M1, k + m = s.1.1 8 0 → only pN M M1 → Wp g (d + 7) mX10_sole 4 [some (.ref 65), some (.int (nI (xset (fun k => seenOk s.1.2.2.2.1 s.1.1 (soleW k)) k))), some (.int (nI k))] [] xSF (0, 0) M1 K := by
    intro m
    induction m with
    | zero =>
      intro k M1 hk ho
      obtain rfl : k = s.1.1 8 0 := by omega
      have fin := (ho.wide pZ_N).qsm
      refine x_iload_n (pc := 4) dX10_sole_4 rfl ?_
      refine x_aload_n (pc := 5) dX10_sole_5 rfl ?_
      refine x_getI (pc := 6) dX10_sole_6 flX10_7 (by first | assumption | rfl) rfl ?_
      rw [(hQ.keep ho pN_Q).1]
      first | (guard_target =~ Wp _ _ _ _ _ (Value.int (nI _) :: Value.int (nI _) :: _) _ _ _ _; with_reducible refine x_icmp_geN (pc := 9) (tgt := 38) ?_ ?_ dX10_sole_9 ?_ (fun h9 => ?_) (fun h9 => ?_); (first | omega | exact b2n_31 _); (first | omega | exact b2n_31 _); decide) | refine x_icmp_ge (pc := 9) (tgt := 38) dX10_sole_9 (by decide) (fun h9 => ?_) (fun h9 => ?_)
      · skip
        refine x_iload_n (pc := 38) dX10_sole_38 rfl ?_
        refine x_ret (pc := 39) (v := some _) rfl trivial dX10_sole_39 (by decide) ?_
        exact h _ fin.1.1 (hC.st fin)
      · skip
        omega
    | succ m ih =>
      intro k M1 hk ho
      have hQ1 := hQ.keep ho pN_Q
      have nx : ∀ v M5, only pN M1 M5 → v = (if seenOk s.1.2.2.2.1 s.1.1 (soleW k) = true then 2 ^ k else 0) → Wp g (d + 7) mX10_sole 4 [some (.ref 65), some (.int (nI (xset (fun k => seenOk s.1.2.2.2.1 s.1.1 (soleW k)) k ||| v))), some (.int (nI (k + 1)))] [] xSF (0, 0) M5 K := by
        intro v M5 ho5 hv
        have := ih (k + 1) M5 (by omega) (ho.tr ho5)
        rw [xset, ← hv] at this
        exact this
      refine x_iload_n (pc := 4) dX10_sole_4 rfl ?_
      refine x_aload_n (pc := 5) dX10_sole_5 rfl ?_
      refine x_getI (pc := 6) dX10_sole_6 flX10_7 (by first | assumption | rfl) rfl ?_
      rw [hQ1.1]
      first | (guard_target =~ Wp _ _ _ _ _ (Value.int (nI _) :: Value.int (nI _) :: _) _ _ _ _; with_reducible refine x_icmp_geN (pc := 9) (tgt := 38) ?_ ?_ dX10_sole_9 ?_ (fun h9 => ?_) (fun h9 => ?_); (first | omega | exact b2n_31 _); (first | omega | exact b2n_31 _); decide) | refine x_icmp_ge (pc := 9) (tgt := 38) dX10_sole_9 (by decide) (fun h9 => ?_) (fun h9 => ?_)
      · skip
        omega
      · skip
        refine x_iload_n (pc := 12) dX10_sole_12 rfl ?_
        refine x_aload_n (pc := 13) dX10_sole_13 rfl ?_
        refine x_iconstN (pc := 14) 1 dX10_sole_14 ic_1 ?_
        refine x_iload_n (pc := 15) dX10_sole_15 rfl ?_
        first | (guard_target =~ Wp _ _ _ _ _ (Value.int (nI _) :: Value.int (nI _) :: _) _ _ _ _; with_reducible refine x_ishlN (pc := 16) ?_ dX10_sole_16 ?_; omega) | refine x_ishl (pc := 16) dX10_sole_16 ?_
        rw [Nat.one_mul]
        refine x_invV1 (pc := 17) dX10_sole_17 mlX10_418 imX10_isSeen seX10_isSeen kX10_isSeen (by first | assumption | rfl) rfl (Nat.le_of_ble_eq_true rfl) (by decide) ?_
        refine sm_isSeen (A := s.1.1) (w := soleW k) (hL.keep ho pN_L) hB hQ1 hL2 (hNt.keep ho ⟨rfl, fun _ => ⟨rfl, rfl, rfl⟩⟩) hN (who_sole (by omega) h6) (by omega) (fun M5 ho5 => ?_)
        refine x_cv rfl rfl ?_
        first | (guard_target =~ Wp _ _ _ _ _ (Value.int (nI _) :: _) _ _ _ _; with_reducible refine x_if_eqN (pc := 20) (tgt := 29) ?_ dX10_sole_20 ?_ (fun h20 => ?_) (fun h20 => ?_); (first | omega | exact b2n_32 _ | exact b2n_31 _); decide) | refine x_if_eq (pc := 20) (tgt := 29) dX10_sole_20 (by decide) (fun h20 => ?_) (fun h20 => ?_)
        · skip
          refine x_iconstN (pc := 29) 0 dX10_sole_29 ic_0 ?_
          try rw [Nat.one_mul]
          first | (guard_target =~ Wp _ _ _ _ _ (Value.int (nI _) :: Value.int (nI _) :: _) _ _ _ _; with_reducible refine x_iorN (pc := 30) dX10_sole_30 ?_) | refine x_ior (pc := 30) dX10_sole_30 ?_
          refine x_istore_n (pc := 31) dX10_sole_31 (by decide) xs_1 (x_hp rfl) ?_
          first | (guard_target =~ Wp _ _ _ _ (_ :: _ :: some (Value.int (nI _)) :: _) _ _ _ _ _; with_reducible refine x_iincN (pc := 32) 1 ic_1 dX10_sole_32 ?_ xg_2 xs_2 ?_ ?_; decide; exact (x_hp rfl)) | refine x_iincC (pc := 32) ic_1 dX10_sole_32 (by decide) rfl xs_2 (x_hp rfl) ?_
          refine x_goto (pc := 35) (tgt := 4) dX10_sole_35 (by decide) ?_
          exact nx 0 M5 ho5 (by rw [show seenOk s.1.2.2.2.1 s.1.1 (soleW k) = false from b2n_0 h20, if_neg (by decide)])
        · skip
          refine x_iconstN (pc := 23) 1 dX10_sole_23 ic_1 ?_
          refine x_iload_n (pc := 24) dX10_sole_24 rfl ?_
          first | (guard_target =~ Wp _ _ _ _ _ (Value.int (nI _) :: Value.int (nI _) :: _) _ _ _ _; with_reducible refine x_ishlN (pc := 25) ?_ dX10_sole_25 ?_; omega) | refine x_ishl (pc := 25) dX10_sole_25 ?_
          refine x_goto (pc := 26) (tgt := 30) dX10_sole_26 (by decide) ?_
          try rw [Nat.one_mul]
          first | (guard_target =~ Wp _ _ _ _ _ (Value.int (nI _) :: Value.int (nI _) :: _) _ _ _ _; with_reducible refine x_iorN (pc := 30) dX10_sole_30 ?_) | refine x_ior (pc := 30) dX10_sole_30 ?_
          refine x_istore_n (pc := 31) dX10_sole_31 (by decide) xs_1 (x_hp rfl) ?_
          first | (guard_target =~ Wp _ _ _ _ (_ :: _ :: some (Value.int (nI _)) :: _) _ _ _ _ _; with_reducible refine x_iincN (pc := 32) 1 ic_1 dX10_sole_32 ?_ xg_2 xs_2 ?_ ?_; decide; exact (x_hp rfl)) | refine x_iincC (pc := 32) ic_1 dX10_sole_32 (by decide) rfl xs_2 (x_hp rfl) ?_
          refine x_goto (pc := 35) (tgt := 4) dX10_sole_35 (by decide) ?_
          exact nx _ M5 ho5 (by rw [show seenOk s.1.2.2.2.1 s.1.1 (soleW k) = true from b2n_1 h20, if_pos rfl])
  refine x_iconstN (pc := 0) 0 dX10_sole_0 ic_0 ?_
  refine x_istore_n (pc := 1) dX10_sole_1 (by decide) xs_1 (x_hp rfl) ?_
  refine x_iconstN (pc := 2) 0 dX10_sole_2 ic_0 ?_
  refine x_istore_n (pc := 3) dX10_sole_3 (by decide) xs_2 (x_hp rfl) ?_
  exact loop (s.1.1 8 0) 0 M (by omega) only.rf
/-- the numbers that fit, from nine down -/
theorem xset_down {P : Nat → Bool} (k : Nat) : ∀ n, k ≤ n → True := fun _ _ => trivial
theorem fM_can {x w : Int32} (hC : MC9 M s) (ok : okM s) (h : ∀ M', high M M' → MC9 M' s → K (some (.int (vCan s x w))) xSF M') : Ex g (d + 7) yX10_can mX10_can [.ref 65, .int x, .int w] xSF M K := by
  unfold vCan at h
  have hB := ok.bd
  have h6 := hB.2.1
  obtain ⟨b0, hL⟩ := hC.ls ok
  have hQ := hC.1.mq
  have hL2 := ok.cache
  have h11 := ok.std.2
  have hN : bdN (qN s) := ok.1.2.1
  have hNt : MNt M (qN s) := hC.1.2.2.2.2.2.2.1
  refine x_entry kX10_can (Nat.le_of_ble_eq_true rfl) ?_
  show Wp g _ mX10_can 0 [some (.ref 65), some (.int x), some (.int w), none, none, none, none] [] _ _ _ _
  rcases isR_cases (x := x) (n := s.1.1 8 0) (by omega) with e | ⟨i, hi, rfl, e⟩
  · simp only [e, Bool.false_eq_true, if_false, false_and] at h
    refine x_aload_n (pc := 0) dX10_can_0 rfl ?_
    refine x_iload_n (pc := 1) dX10_can_1 rfl ?_
    refine x_invV1 (pc := 2) dX10_can_2 mlX10_264 imX10_isGoer seX10_isGoer kX10_isGoer (by first | assumption | rfl) rfl (Nat.le_of_ble_eq_true rfl) (by decide) ?_
    refine sm_isGoer h6 hC.1.1 ?_
    refine x_cv rfl rfl ?_
    rw [e]
    first | (guard_target =~ Wp _ _ _ _ _ (Value.int (nI _) :: _) _ _ _ _; with_reducible refine x_if_eqN (pc := 5) (tgt := 18) ?_ dX10_can_5 ?_ (fun h5 => ?_) (fun h5 => ?_); (first | omega | exact b2n_32 _ | exact b2n_31 _); decide) | refine x_if_eq (pc := 5) (tgt := 18) dX10_can_5 (by decide) (fun h5 => ?_) (fun h5 => ?_)
    · skip
      refine x_iconst (pc := 18) dX10_can_18 ic_m1 ?_
      refine x_ret (pc := 19) (v := some _) rfl trivial dX10_can_19 (by decide) ?_
      exact h M high.rf hC
    · skip
      exact absurd rfl h5
  rcases isR_cases (x := w) (n := 2) (by decide) with e2 | ⟨w, hw, rfl, e2⟩
  · simp only [e2, Bool.false_eq_true, if_false, and_false] at h
    refine x_aload_n (pc := 0) dX10_can_0 rfl ?_
    refine x_iload_n (pc := 1) dX10_can_1 rfl ?_
    refine x_invV1 (pc := 2) dX10_can_2 mlX10_264 imX10_isGoer seX10_isGoer kX10_isGoer (by first | assumption | rfl) rfl (Nat.le_of_ble_eq_true rfl) (by decide) ?_
    refine sm_isGoer h6 hC.1.1 ?_
    refine x_cv rfl rfl ?_
    rw [e]
    first | (guard_target =~ Wp _ _ _ _ _ (Value.int (nI _) :: _) _ _ _ _; with_reducible refine x_if_eqN (pc := 5) (tgt := 18) ?_ dX10_can_5 ?_ (fun h5 => ?_) (fun h5 => ?_); (first | omega | exact b2n_32 _ | exact b2n_31 _); decide) | refine x_if_eq (pc := 5) (tgt := 18) dX10_can_5 (by decide) (fun h5 => ?_) (fun h5 => ?_)
    · skip
      cases h5
    · skip
      refine x_aload_n (pc := 8) dX10_can_8 rfl ?_
      refine x_iload_n (pc := 9) dX10_can_9 rfl ?_
      refine x_iconstN (pc := 10) 0 dX10_can_10 ic_0 ?_
      refine x_iconstN (pc := 11) 1 dX10_can_11 ic_1 ?_
      refine x_invV3 (pc := 12) dX10_can_12 mlX10_253 imX10_in seX10_in kX10_in (by first | assumption | rfl) rfl (Nat.le_of_ble_eq_true rfl) (by decide) ?_
      refine sm_in ?_
      refine x_cv rfl rfl ?_
      rw [btw_isR (by decide), show isR w (nI (1 + 1)) = false from e2]
      first | (guard_target =~ Wp _ _ _ _ _ (Value.int (nI _) :: _) _ _ _ _; with_reducible refine x_if_neN (pc := 15) (tgt := 20) ?_ dX10_can_15 ?_ (fun h15 => ?_) (fun h15 => ?_); (first | omega | exact b2n_32 _ | exact b2n_31 _); decide) | refine x_if_ne (pc := 15) (tgt := 20) dX10_can_15 (by decide) (fun h15 => ?_) (fun h15 => ?_)
      · skip
        exact absurd rfl h15
      · skip
        refine x_iconst (pc := 18) dX10_can_18 ic_m1 ?_
        refine x_ret (pc := 19) (v := some _) rfl trivial dX10_can_19 (by decide) ?_
        exact h M high.rf hC
  simp only [e, e2, and_self, if_true] at h
  rw [toN_nI (by omega), toN_nI (by omega)] at h
  have hi6 : i < 6 := by omega
  have f0 : M.1 68 i = nI (s.1.1 2 i) := hQ.2.2.2.2 2 (by decide) i (show i < 6 by omega)
  have htb : ∀ v, (canS s i).testBit v = (decide (v < 10) && seenOk s.1.2.2.2.1 (fitA s.1.1 s.1.2.2.2.2 i v) (qw s)) := fun v => xset_tb
  have hpop : xpop (canS s i) = xsum (fun v => b2n (seenOk s.1.2.2.2.1 (fitA s.1.1 s.1.2.2.2.2 i v) (qw s))) 10 := by
    unfold xpop
    have : ∀ n, n ≤ 6 → xsum (fun v => b2n ((canS s i).testBit v)) (10 + n) = xsum (fun v => b2n (seenOk s.1.2.2.2.1 (fitA s.1.1 s.1.2.2.2.2 i v) (qw s))) 10 := by
      intro n
      induction n with
      | zero => intro _; exact xsum_cong 10 (fun v hv => by rw [htb, decide_eq_true hv, Bool.true_and])
      | succ n ihn => intro hn; rw [show 10 + (n + 1) = (10 + n) + 1 by omega, xsum, ihn (by omega), htb, decide_eq_false (by omega)]; rfl
    exact this 6 (by decide)
  have hfst : xfst (canS s i) = oI' (lst (fun v => seenOk s.1.2.2.2.1 (fitA s.1.1 s.1.2.2.2.2 i v) (qw s)) 10 0) := by
    unfold xfst
    rw [fstF_lst]
    refine congrArg oI' ?_
    cases hl : lst (fun v => seenOk s.1.2.2.2.1 (fitA s.1.1 s.1.2.2.2.2 i v) (qw s)) 10 0 with
    | none =>
      cases hl2 : lst (fun k => (canS s i).testBit k) 16 0 with
      | none => rfl
      | some j =>
        obtain ⟨-, g2, g3, -⟩ := lst_some hl2
        have g3' : (canS s i).testBit j = true := g3
        rw [htb, Bool.and_eq_true, decide_eq_true_eq] at g3'
        rw [lst_none hl j (Nat.zero_le _) (by omega)] at g3'
        cases g3'.2
    | some j =>
      obtain ⟨-, g2, g3, g4⟩ := lst_some hl
      refine lst_of (Nat.zero_le _) (by omega) (by show (canS s i).testBit j = true; rw [htb, g3, decide_eq_true (by omega)]; rfl) (fun k _ hk => by show (canS s i).testBit k = false; rw [htb, g4 k (Nat.zero_le _) hk, Bool.and_false])
  rw [hpop, hfst] at h
  have loop : ∀ k M1 o, k ≤ 10 → only (fun a j => pN a j || (a == 68 && j == i)) M M1 → lst (fun v => seenOk s.1.2.2.2.1 (fitA s.1.1 s.1.2.2.2.2 i v) (qw s)) (10 - k) k = o → Wp g (d + 7) mX10_can 38 [some (.ref 65), some (.int (nI i)), some (.int (nI w)), some (.int (nI (s.1.1 2 i))), some (.int (nI (xsum (fun v => b2n (seenOk s.1.2.2.2.1 (fitA s.1.1 s.1.2.2.2.2 i v) (qw s))) 10 - xsum (fun v => b2n (seenOk s.1.2.2.2.1 (fitA s.1.1 s.1.2.2.2.2 i v) (qw s))) k))), some (.int (oI' o)), some (.int (srt k))] [] xSF (0, 0) M1 K := by
    intro k
    induction k with
    | zero =>
      intro M1 o hk ho hl
      have hl' : lst (fun v => seenOk s.1.2.2.2.1 (fitA s.1.1 s.1.2.2.2.2 i v) (qw s)) 10 0 = o := hl
      have fin : only pZ M (xput M1 68 i (nI (s.1.1 2 i))) := by
        refine ⟨fun a j q => ?_, ho.2⟩
        by_cases z : a = 68 ∧ j = i
        · obtain ⟨rfl, rfl⟩ := z; exact (if_pos ⟨rfl, rfl⟩).trans f0.symm
        · refine (if_neg z).trans (ho.1 a j ?_)
          have hn : pN a j = false := by cases hp : pN a j with
            | false => rfl
            | true => rw [pZ_N a j hp] at q; cases q
          simp [hn]; omega
      refine x_iload (pc := 38) dX10_can_38 rfl ?_
      refine x_if_lt (pc := 40) (tgt := 78) dX10_can_40 (by decide) (fun h40 => ?_) (fun h40 => ?_)
      · skip
        refine x_aload_n (pc := 78) dX10_can_78 rfl ?_
        refine x_getR (pc := 79) dX10_can_79 flX10_29 (by first | assumption | rfl) rfl ?_
        refine x_iload_n (pc := 82) dX10_can_82 rfl ?_
        refine x_iload_n (pc := 83) dX10_can_83 rfl ?_
        refine x_iastN (pc := 84) dX10_can_84 (by first | assumption | rfl) (by first | with_reducible rfl | (simp only [xlit, nI_add, pk_mul]; with_reducible rfl)) (by omega) (by decide) ?_
        refine x_iload_n (pc := 85) dX10_can_85 rfl ?_
        first | (guard_target =~ Wp _ _ _ _ _ (Value.int (nI _) :: _) _ _ _ _; with_reducible refine x_if_neN (pc := 86) (tgt := 94) ?_ dX10_can_86 ?_ (fun h86 => ?_) (fun h86 => ?_); (first | omega | exact b2n_32 _ | exact b2n_31 _); decide) | refine x_if_ne (pc := 86) (tgt := 94) dX10_can_86 (by decide) (fun h86 => ?_) (fun h86 => ?_)
        · skip
          refine x_iload (pc := 94) dX10_can_94 rfl ?_
          refine x_ret (pc := 96) (v := some _) rfl trivial dX10_can_96 (by decide) ?_
          rw [if_neg h86, hl'] at h; exact h _ fin.qsm.1.1 (hC.st fin.qsm)
        · skip
          refine x_iload (pc := 89) dX10_can_89 rfl ?_
          refine x_goto (pc := 91) (tgt := 96) dX10_can_91 (by decide) ?_
          refine x_ret (pc := 96) (v := some _) rfl trivial dX10_can_96 (by decide) ?_
          rw [if_pos h86] at h; exact h _ fin.qsm.1.1 (hC.st fin.qsm)
      · skip
        exact absurd (by decide) h40
    | succ k ih =>
      intro M1 o hk ho hl
      have hk10 : k < 10 := by omega
      have hle : ∀ j, j ≤ 10 → xsum (fun v => b2n (seenOk s.1.2.2.2.1 (fitA s.1.1 s.1.2.2.2.2 i v) (qw s))) j ≤ xsum (fun v => b2n (seenOk s.1.2.2.2.1 (fitA s.1.1 s.1.2.2.2.2 i v) (qw s))) 10 := by
        intro j hj
        have : ∀ m, xsum (fun v => b2n (seenOk s.1.2.2.2.1 (fitA s.1.1 s.1.2.2.2.2 i v) (qw s))) j ≤ xsum (fun v => b2n (seenOk s.1.2.2.2.1 (fitA s.1.1 s.1.2.2.2.2 i v) (qw s))) (j + m) := by
          intro m
          induction m with
          | zero => exact Nat.le_refl _
          | succ m ihm => exact Nat.le_trans ihm (Nat.le_add_right _ _)
        have := this (10 - j)
        rw [show j + (10 - j) = 10 by omega] at this
        exact this
      have hle1 := hle (k + 1) (by omega)
      have hbd : xsum (fun v => b2n (seenOk s.1.2.2.2.1 (fitA s.1.1 s.1.2.2.2.2 i v) (qw s))) 10 ≤ 10 * 1 := xsum_bd (fun v _ => by have := b2n_lt (seenOk s.1.2.2.2.1 (fitA s.1.1 s.1.2.2.2.2 i v) (qw s)); omega)
      rw [show xsum (fun v => b2n (seenOk s.1.2.2.2.1 (fitA s.1.1 s.1.2.2.2.2 i v) (qw s))) (k + 1) = xsum (fun v => b2n (seenOk s.1.2.2.2.1 (fitA s.1.1 s.1.2.2.2.2 i v) (qw s))) k + b2n (seenOk s.1.2.2.2.1 (fitA s.1.1 s.1.2.2.2.2 i k) (qw s)) from rfl] at hle1 ⊢
      have hB2 : bdA (fitA s.1.1 s.1.2.2.2.2 i k) := fit_bd hB hL.1 hi6 hk10
      have hQ1 : MNow (xput M1 68 i (nI k)) (fitA s.1.1 s.1.2.2.2.2 i k) s.1.2.1 := by
        have e : ∀ a j, wQ a j = true → ¬ (a = 68 ∧ j = i) → M1.1 a j = M.1 a j := fun a j q1 q2 => ho.1 a j (by have := pN_Q a j q1; simp [this]; omega)
        refine ⟨(e 65 0 rfl (by omega)).trans hQ.1, (e 65 1 rfl (by omega)).trans hQ.2.1, (e 65 2 rfl (by omega)).trans hQ.2.2.1, (e 65 3 rfl (by omega)).trans hQ.2.2.2.1, fun q hq j hj => ?_⟩
        rw [show fitA s.1.1 s.1.2.2.2.2 i k q j = updA s.1.1 2 i k q j from fit_e (by omega)]
        show (if 66 + q = 68 ∧ j = i then nI k else M1.1 (66 + q) j) = nI (if q = 2 ∧ j = i then k else s.1.1 q j)
        by_cases z : q = 2 ∧ j = i
        · rw [if_pos (by omega), if_pos z]
        · rw [if_neg (by omega), if_neg z, e (66 + q) j (by simp [wQ]; omega) (by omega)]; exact hQ.2.2.2.2 q hq j hj
      have op : only (fun a j => pN a j || (a == 68 && j == i)) M (xput M1 68 i (nI k)) := ho.tr (only.put (by simp))
      have hL1 : MLs (xput M1 68 i (nI k)) s.1.2.2.2.2 b0 := hL.keep op (by intro a j q; have := pN_L a j q; simp [wL] at q; simp [this]; omega)
      have hN1 : MNt (xput M1 68 i (nI k)) (qN s) := hNt.keep op ⟨rfl, fun _ => ⟨rfl, rfl, rfl⟩⟩
      have hlk : lst (fun v => seenOk s.1.2.2.2.1 (fitA s.1.1 s.1.2.2.2.2 i v) (qw s)) (10 - k) k = if seenOk s.1.2.2.2.1 (fitA s.1.1 s.1.2.2.2.2 i k) (qw s) = true then some k else o := by
        rw [show 10 - k = (10 - (k + 1)) + 1 by omega, lst, hl]
      show Wp g _ _ 38 [some (.ref 65), some (.int (nI i)), some (.int (nI w)), some (.int (nI (s.1.1 2 i))), some (.int (nI _)), some (.int (oI' o)), some (.int (nI k))] [] xSF (0, 0) M1 K
      refine x_iload (pc := 38) dX10_can_38 rfl ?_
      refine x_if_lt (pc := 40) (tgt := 78) dX10_can_40 (by decide) (fun h40 => ?_) (fun h40 => ?_)
      · skip
        exact absurd h40 (Int32.not_lt.mpr (nI_pos' (by omega)))
      · skip
        refine x_aload_n (pc := 43) dX10_can_43 rfl ?_
        refine x_getR (pc := 44) dX10_can_44 flX10_29 (by first | assumption | rfl) rfl ?_
        refine x_iload_n (pc := 47) dX10_can_47 rfl ?_
        refine x_iload (pc := 48) dX10_can_48 rfl ?_
        refine x_iastN (pc := 50) dX10_can_50 (by first | assumption | rfl) (by first | with_reducible rfl | (simp only [xlit, nI_add, pk_mul]; with_reducible rfl)) (by omega) (by decide) ?_
        refine x_aload_n (pc := 51) dX10_can_51 rfl ?_
        refine x_aload_n (pc := 52) dX10_can_52 rfl ?_
        refine x_invV0 (pc := 53) dX10_can_53 mlX10_364 imX10_here seX10_here kX10_here (by first | assumption | rfl) rfl (Nat.le_of_ble_eq_true rfl) (by decide) ?_
        refine sm_here hQ1.2.1 ?_
        refine x_cv rfl rfl ?_
        refine x_invV1 (pc := 56) dX10_can_56 mlX10_418 imX10_isSeen seX10_isSeen kX10_isSeen (by first | assumption | rfl) rfl (Nat.le_of_ble_eq_true rfl) (by decide) ?_
        refine sm_isSeen (A := fitA s.1.1 s.1.2.2.2.2 i k) (w := qw s) hL1 hB2 hQ1 (fit_cache hL2) hN1 hN (who_here ok.away h6) (show s.1.1 11 0 < 20000 by omega) (fun M5 ho5 => ?_)
        refine x_cv rfl rfl ?_
        first | (guard_target =~ Wp _ _ _ _ _ (Value.int (nI _) :: _) _ _ _ _; with_reducible refine x_if_neN (pc := 59) (tgt := 65) ?_ dX10_can_59 ?_ (fun h59 => ?_) (fun h59 => ?_); (first | omega | exact b2n_32 _ | exact b2n_31 _); decide) | refine x_if_ne (pc := 59) (tgt := 65) dX10_can_59 (by decide) (fun h59 => ?_) (fun h59 => ?_)
        · skip
          first | (guard_target =~ Wp _ _ _ _ (_ :: _ :: _ :: _ :: some (Value.int (nI _)) :: _) _ _ _ _ _; with_reducible refine x_iincN (pc := 65) 1 ic_1 dX10_can_65 ?_ xg_4 xs_4 ?_ ?_; decide; exact (x_hp rfl)) | refine x_iincC (pc := 65) ic_1 dX10_can_65 (by decide) rfl xs_4 (x_hp rfl) ?_
          refine x_iload (pc := 68) dX10_can_68 rfl ?_
          refine x_istore (pc := 70) dX10_can_70 (by decide) xs_5 (x_hp rfl) ?_
          refine x_iincC (pc := 72) ic_m1 dX10_can_72 (by decide) rfl xs_6 (x_hp rfl) ?_
          try rw [show nI k + -1 = srt k by cases k; decide; exact pk_m1 _]
          refine x_goto (pc := 75) (tgt := 38) dX10_can_75 (by decide) ?_
          have hf := b2n_1 h59
          have z := ih M5 (some k) (by omega) (op.tr (ho5.wide (by intro a j q; simp [q]))) (by rw [hlk, if_pos (show seenOk s.1.2.2.2.1 (fitA s.1.1 s.1.2.2.2.2 i k) (qw s) = true from hf)])
          rw [show seenOk s.1.2.2.2.1 (fitA s.1.1 s.1.2.2.2.2 i k) (qw s) = true from hf] at hle1 ⊢
          rw [show xsum (fun v => b2n (seenOk s.1.2.2.2.1 (fitA s.1.1 s.1.2.2.2.2 i v) (qw s))) 10 - (xsum (fun v => b2n (seenOk s.1.2.2.2.1 (fitA s.1.1 s.1.2.2.2.2 i v) (qw s))) k + b2n true) + 1 = xsum (fun v => b2n (seenOk s.1.2.2.2.1 (fitA s.1.1 s.1.2.2.2.2 i v) (qw s))) 10 - xsum (fun v => b2n (seenOk s.1.2.2.2.1 (fitA s.1.1 s.1.2.2.2.2 i v) (qw s))) k by have : b2n true = 1 := rfl; omega]
          exact z
        · skip
          refine x_goto (pc := 62) (tgt := 72) dX10_can_62 (by decide) ?_
          try rw [show nI k + -1 = srt k by cases k; decide; exact pk_m1 _]
          refine x_iincC (pc := 72) ic_m1 dX10_can_72 (by decide) rfl xs_6 (x_hp rfl) ?_
          try rw [show nI k + -1 = srt k by cases k; decide; exact pk_m1 _]
          refine x_goto (pc := 75) (tgt := 38) dX10_can_75 (by decide) ?_
          have hf := b2n_0 h59
          have z := ih M5 o (by omega) (op.tr (ho5.wide (by intro a j q; simp [q]))) (by rw [hlk, if_neg (by rw [show seenOk s.1.2.2.2.1 (fitA s.1.1 s.1.2.2.2.2 i k) (qw s) = false from hf]; decide)])
          rw [show seenOk s.1.2.2.2.1 (fitA s.1.1 s.1.2.2.2.2 i k) (qw s) = false from hf]
          exact z
  refine x_aload_n (pc := 0) dX10_can_0 rfl ?_
  refine x_iload_n (pc := 1) dX10_can_1 rfl ?_
  refine x_invV1 (pc := 2) dX10_can_2 mlX10_264 imX10_isGoer seX10_isGoer kX10_isGoer (by first | assumption | rfl) rfl (Nat.le_of_ble_eq_true rfl) (by decide) ?_
  refine sm_isGoer h6 hC.1.1 ?_
  refine x_cv rfl rfl ?_
  rw [e]
  first | (guard_target =~ Wp _ _ _ _ _ (Value.int (nI _) :: _) _ _ _ _; with_reducible refine x_if_eqN (pc := 5) (tgt := 18) ?_ dX10_can_5 ?_ (fun h5 => ?_) (fun h5 => ?_); (first | omega | exact b2n_32 _ | exact b2n_31 _); decide) | refine x_if_eq (pc := 5) (tgt := 18) dX10_can_5 (by decide) (fun h5 => ?_) (fun h5 => ?_)
  · skip
    cases h5
  · skip
    refine x_aload_n (pc := 8) dX10_can_8 rfl ?_
    refine x_iload_n (pc := 9) dX10_can_9 rfl ?_
    refine x_iconstN (pc := 10) 0 dX10_can_10 ic_0 ?_
    refine x_iconstN (pc := 11) 1 dX10_can_11 ic_1 ?_
    refine x_invV3 (pc := 12) dX10_can_12 mlX10_253 imX10_in seX10_in kX10_in (by first | assumption | rfl) rfl (Nat.le_of_ble_eq_true rfl) (by decide) ?_
    refine sm_in ?_
    refine x_cv rfl rfl ?_
    rw [btw_isR (by decide), show isR (nI w) (nI (1 + 1)) = true from e2]
    first | (guard_target =~ Wp _ _ _ _ _ (Value.int (nI _) :: _) _ _ _ _; with_reducible refine x_if_neN (pc := 15) (tgt := 20) ?_ dX10_can_15 ?_ (fun h15 => ?_) (fun h15 => ?_); (first | omega | exact b2n_32 _ | exact b2n_31 _); decide) | refine x_if_ne (pc := 15) (tgt := 20) dX10_can_15 (by decide) (fun h15 => ?_) (fun h15 => ?_)
    · skip
      refine x_aload_n (pc := 20) dX10_can_20 rfl ?_
      refine x_getR (pc := 21) dX10_can_21 flX10_29 (by first | assumption | rfl) rfl ?_
      refine x_iload_n (pc := 24) dX10_can_24 rfl ?_
      refine x_ialdN (pc := 25) dX10_can_25 (by first | assumption | rfl) (by first | with_reducible rfl | (simp only [xlit, nI_add, pk_mul]; with_reducible rfl)) (by omega) (by decide) ?_
      rw [f0]
      refine x_istore_n (pc := 26) dX10_can_26 (by decide) xs_3 (x_hp rfl) ?_
      refine x_iconstN (pc := 27) 0 dX10_can_27 ic_0 ?_
      refine x_istore (pc := 28) dX10_can_28 (by decide) xs_4 (x_hp rfl) ?_
      refine x_bipush (pc := 30) dX10_can_30 bp_m5 ?_
      refine x_istore (pc := 32) dX10_can_32 (by decide) xs_5 (x_hp rfl) ?_
      refine x_bipushN (pc := 34) 9 dX10_can_34 bp_9 ?_
      refine x_istore (pc := 36) dX10_can_36 (by decide) xs_6 (x_hp rfl) ?_
      have z := loop 10 M none (by omega) only.rf rfl
      rw [Nat.sub_self] at z; exact z
    · skip
      cases h15
end P90
