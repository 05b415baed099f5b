/-! the MODEL: the way, as cells and as bits; how one treads -/
theorem oI'_eq {o : Option Nat} {s : Nat} (ho : ∀ k, o = some k → k < 16) (hs : s < 16) : oI' o = nI s ↔ o = some s := by
  cases o with
  | none => 
    constructor
    · intro h
      have : ∀ s, s < 16 → ¬ ((-5 : Int32) = nI s) := by decide +kernel
      exact absurd h (this s hs)
    · intro h; cases h
  | some k =>
    have hk := ho k rfl
    constructor
    · intro h; exact congrArg some (nI_inj (by omega) (by omega) h)
    · intro h; cases h; rfl
section P73
variable {g : XG} {d : Nat} {M : XM} {K : Option Value → XS → XM → Prop} {A : XA} {W gg : Nat}
theorem sm_layWay (hB : bdA A) (hQ : MNow M A W) (hg : gg < 6) (h : ∀ M', only pW M M' → M'.1 65 31 = nI (wayL A gg).length → (∀ j, j < (wayL A gg).length → M'.1 84 j = nI ((wayL A gg).getD j 0)) → K none xSF M') : Ex g (d + 3) yX10_layWay mX10_layWay [.ref 65, .int (nI gg)] xSF M K := by
  have ht : A 4 gg < 16 := hB.1 4 (by decide) gg (show gg < 6 by omega)
  have hf : A 3 gg < 16 := hB.1 3 (by decide) gg (show gg < 6 by omega)
  have hw : wayL A gg = wy (frQ A gg) (A 3 gg) (A 4 gg) := rfl
  refine x_entry kX10_layWay (Nat.le_of_ble_eq_true rfl) ?_
  show Wp g _ mX10_layWay 0 [some (.ref 65), some (.int (nI gg)), none, none] [] _ _ _ _
  by_cases hE : (if frQ A gg (A 4 gg) = true then Dd (frQ A gg) (A 4 gg) (A 3 gg) else none) = none
  · have hnil : wayL A gg = [] := by
      rw [hw]; unfold wy
      by_cases h1 : frQ A gg (A 4 gg) = true
      · rw [if_pos h1] at hE; rw [hE]; split <;> rfl
      · rw [if_neg (by simp [h1])]
    rw [hnil] at h
    refine x_aload_n (pc := 0) dX10_layWay_0 rfl ?_
    refine x_iload_n (pc := 1) dX10_layWay_1 rfl ?_
    refine x_invV1 (pc := 2) dX10_layWay_2 mlX10_336 imX10_layFar seX10_layFar kX10_layFar (by first | assumption | rfl) rfl (Nat.le_of_ble_eq_true rfl) (by decide) ?_
    refine sm_layFar hB hQ hg (fun M1 hs1 h31 hd => ?_)
    refine x_cn rfl rfl ?_
    refine x_aload_n (pc := 5) dX10_layWay_5 rfl ?_
    refine x_iconstN (pc := 6) 0 dX10_layWay_6 ic_0 ?_
    refine x_putI (pc := 7) dX10_layWay_7 flX10_105 (by first | assumption | rfl) rfl rfl rfl ?_
    refine x_aload_n (pc := 10) dX10_layWay_10 rfl ?_
    refine x_getR (pc := 11) dX10_layWay_11 flX10_32 (by first | assumption | rfl) rfl ?_
    refine x_iload_n (pc := 14) dX10_layWay_14 rfl ?_
    refine x_ialdN (pc := 15) dX10_layWay_15 (by first | assumption | rfl) (by first | with_reducible rfl | (simp only [xlit, nI_add, pk_mul]; with_reducible rfl)) (by omega) (by decide) ?_
    rw [show (xput M1 65 31 (nI 0)).1 69 gg = nI (A 3 gg) from (hQ.keep hs1 pW_Q).2.2.2.2 3 (by decide) gg (show gg < 6 by omega)]
    refine x_istore_n (pc := 16) dX10_layWay_16 (by decide) xs_2 (x_hp rfl) ?_
    refine x_aload_n (pc := 17) dX10_layWay_17 rfl ?_
    refine x_getR (pc := 18) dX10_layWay_18 flX10_96 (by first | assumption | rfl) rfl ?_
    refine x_iload_n (pc := 21) dX10_layWay_21 rfl ?_
    refine x_ialdN (pc := 22) dX10_layWay_22 (by first | assumption | rfl) (by first | with_reducible rfl | (simp only [xlit, nI_add, pk_mul]; with_reducible rfl)) (by omega) (by decide) ?_
    rw [show (xput M1 65 31 (nI 0)).1 82 (A 3 gg) = oI' none from (hd _ hf).trans (by rw [hE])]
    refine x_if_ge (pc := 23) (tgt := 27) dX10_layWay_23 (by decide) (fun h23 => ?_) (fun h23 => ?_)
    · skip
      exact absurd h23 (by decide)
    · skip
      refine x_ret (pc := 26) (v := none) rfl trivial dX10_layWay_26 (by decide) ?_
      exact h _ (hs1.tr (only.put rfl)) rfl (fun j hj => by cases hj)
  · have hft : frQ A gg (A 4 gg) = true := by
      by_cases h1 : frQ A gg (A 4 gg) = true
      · exact h1
      · rw [if_neg h1] at hE; exact absurd rfl hE
    rw [if_pos hft] at hE
    cases hD : Dd (frQ A gg) (A 4 gg) (A 3 gg) with
    | none => exact absurd hD hE
    | some s =>
      have hff := Dd_fr hf ht hft hD
      have hP : wayL A gg = pth (frQ A gg) (A 4 gg) s (A 3 gg) := by rw [hw]; unfold wy; rw [hff, hft, hD]; rfl
      rw [hP] at h
      have hg1 := fun k hk => pth_get ht hf hD k hk
      have hs16 := Dd_lt hD
      rw [pth_len] at h
      have loop : ∀ m i M1 o3, i + m = s → only pW M M1 → (∀ c, c < 16 → M1.1 82 c = oI' (Dd (frQ A gg) (A 4 gg) c)) → M1.1 65 31 = nI i → (∀ j, j < i → M1.1 84 j = nI ((pth (frQ A gg) (A 4 gg) s (A 3 gg)).getD j 0)) → Wp g (d + 3) mX10_layWay 27 [some (.ref 65), some (.int (nI gg)), some (.int (nI ((pth (frQ A gg) (A 4 gg) s (A 3 gg)).getD i 0))), o3] [] xSF (0, 0) M1 K := by
        intro m
        induction m with
        | zero =>
          intro i M1 o3 hi hs hd h31 hj
          obtain rfl : i = s := by omega
          obtain ⟨p1, p2, p3⟩ := hg1 i (by omega)
          rw [Nat.sub_self] at p2
          refine x_aload_n (pc := 27) dX10_layWay_27 rfl ?_
          refine x_getR (pc := 28) dX10_layWay_28 flX10_102 (by first | assumption | rfl) rfl ?_
          refine x_aload_n (pc := 31) dX10_layWay_31 rfl ?_
          refine x_getI (pc := 32) dX10_layWay_32 flX10_105 (by first | assumption | rfl) rfl ?_
          rw [h31]
          refine x_iload_n (pc := 35) dX10_layWay_35 rfl ?_
          refine x_iastN (pc := 36) dX10_layWay_36 (by first | assumption | rfl) (by first | with_reducible rfl | (simp only [xlit, nI_add, pk_mul]; with_reducible rfl)) (by omega) (by decide) ?_
          refine x_aload_n (pc := 37) dX10_layWay_37 rfl ?_
          refine x_dup (pc := 38) dX10_layWay_38 rfl ?_
          refine x_getI (pc := 39) dX10_layWay_39 flX10_105 (by first | assumption | rfl) rfl ?_
          rw [show ∀ v, (xput M1 84 i v).1 65 31 = nI i from fun v => h31]
          refine x_iconstN (pc := 42) 1 dX10_layWay_42 ic_1 ?_
          first | (guard_target =~ Wp _ _ _ _ _ (Value.int (nI _) :: Value.int (nI _) :: _) _ _ _ _; with_reducible refine x_iaddN (pc := 43) dX10_layWay_43 ?_) | refine x_iadd (pc := 43) dX10_layWay_43 ?_
          refine x_putI (pc := 44) dX10_layWay_44 flX10_105 (by first | assumption | rfl) rfl rfl rfl ?_
          refine x_aload_n (pc := 47) dX10_layWay_47 rfl ?_
          refine x_getR (pc := 48) dX10_layWay_48 flX10_96 (by first | assumption | rfl) rfl ?_
          refine x_iload_n (pc := 51) dX10_layWay_51 rfl ?_
          refine x_ialdN (pc := 52) dX10_layWay_52 (by first | assumption | rfl) (by first | with_reducible rfl | (simp only [xlit, nI_add, pk_mul]; with_reducible rfl)) (by exact p1) (by decide) ?_
          rw [show ∀ v w, (xput (xput M1 84 i v) 65 31 w).1 82 ((pth (frQ A gg) (A 4 gg) i (A 3 gg)).getD i 0) = nI 0 from fun v w => (hd _ p1).trans (by rw [p2]; rfl)]
          first | (guard_target =~ Wp _ _ _ _ _ (Value.int (nI _) :: _) _ _ _ _; with_reducible refine x_if_neN (pc := 53) (tgt := 57) ?_ dX10_layWay_53 ?_ (fun h53 => ?_) (fun h53 => ?_); (first | omega | exact b2n_32 _ | exact b2n_31 _); decide) | refine x_if_ne (pc := 53) (tgt := 57) dX10_layWay_53 (by decide) (fun h53 => ?_) (fun h53 => ?_)
          · skip
            exact absurd rfl h53
          · skip
            refine x_ret (pc := 56) (v := none) rfl trivial dX10_layWay_56 (by decide) ?_
            refine h _ ((hs.tr (only.put rfl)).tr (only.put rfl)) rfl (fun j hj2 => ?_)
            by_cases z : j = i
            · rw [z]; simp [xput]
            · exact (show _ = M1.1 84 j by simp [xput, z]).trans (hj j (by omega))
        | succ m ih =>
          intro i M1 o3 hi hs hd h31 hj
          obtain ⟨p1, p2, p3⟩ := hg1 i (by omega)
          obtain ⟨q1, q2, q3⟩ := hg1 (i + 1) (by omega)
          have q4 := q3 i rfl
          have hdd : ∀ c, c < 16 → ∀ k, Dd (frQ A gg) (A 4 gg) c = some k → k < 16 := fun c hc k hk => Dd_lt hk
          have p2' : Dd (frQ A gg) (A 4 gg) ((pth (frQ A gg) (A 4 gg) s (A 3 gg)).getD i 0) = some (s - (i + 1) + 1) := by rw [p2]; congr 1; omega
          obtain ⟨n1, n2, n3, n4⟩ := pnx_spec p1 ht p2'
          rw [← q4] at n1 n2 n3 n4
          have inner : ∀ m2 b M2, b + m2 = (pth (frQ A gg) (A 4 gg) s (A 3 gg)).getD (i + 1) 0 → only pW M M2 → (∀ c, c < 16 → M2.1 82 c = oI' (Dd (frQ A gg) (A 4 gg) c)) → M2.1 65 31 = nI (i + 1) → (∀ j, j < i + 1 → M2.1 84 j = nI ((pth (frQ A gg) (A 4 gg) s (A 3 gg)).getD j 0)) → Wp g (d + 3) mX10_layWay 59 [some (.ref 65), some (.int (nI gg)), some (.int (nI ((pth (frQ A gg) (A 4 gg) s (A 3 gg)).getD i 0))), some (.int (nI b))] [] xSF (0, 0) M2 K := by
            intro m2
            induction m2 with
            | zero =>
              intro b M2 hb hs hd h31 hj
              obtain rfl : b = (pth (frQ A gg) (A 4 gg) s (A 3 gg)).getD (i + 1) 0 := by omega
              refine x_aload_n (pc := 59) dX10_layWay_59 rfl ?_
              refine x_iload_n (pc := 60) dX10_layWay_60 rfl ?_
              refine x_iload_n (pc := 61) dX10_layWay_61 rfl ?_
              refine x_invV2 (pc := 62) dX10_layWay_62 mlX10_333 imX10_isNext seX10_isNext kX10_isNext (by first | assumption | rfl) rfl (Nat.le_of_ble_eq_true rfl) (by decide) ?_
              refine sm_isNext p1 q1 ?_
              refine x_cv rfl rfl ?_
              rw [n2]
              first | (guard_target =~ Wp _ _ _ _ _ (Value.int (nI _) :: _) _ _ _ _; with_reducible refine x_if_eqN (pc := 65) (tgt := 85) ?_ dX10_layWay_65 ?_ (fun h65 => ?_) (fun h65 => ?_); (first | omega | exact b2n_32 _ | exact b2n_31 _); decide) | refine x_if_eq (pc := 65) (tgt := 85) dX10_layWay_65 (by decide) (fun h65 => ?_) (fun h65 => ?_)
              · skip
                cases h65
              · skip
                refine x_aload_n (pc := 68) dX10_layWay_68 rfl ?_
                refine x_getR (pc := 69) dX10_layWay_69 flX10_96 (by first | assumption | rfl) rfl ?_
                refine x_iload_n (pc := 72) dX10_layWay_72 rfl ?_
                refine x_ialdN (pc := 73) dX10_layWay_73 (by first | assumption | rfl) (by first | with_reducible rfl | (simp only [xlit, nI_add, pk_mul]; with_reducible rfl)) (by exact q1) (by decide) ?_
                rw [hd _ q1, q2, show oI' (some (s - (i + 1))) = nI (s - (i + 1)) from rfl]
                refine x_aload_n (pc := 74) dX10_layWay_74 rfl ?_
                refine x_getR (pc := 75) dX10_layWay_75 flX10_96 (by first | assumption | rfl) rfl ?_
                refine x_iload_n (pc := 78) dX10_layWay_78 rfl ?_
                refine x_ialdN (pc := 79) dX10_layWay_79 (by first | assumption | rfl) (by first | with_reducible rfl | (simp only [xlit, nI_add, pk_mul]; with_reducible rfl)) (by exact p1) (by decide) ?_
                rw [hd _ p1, p2, show oI' (some (s - i)) = nI (s - i) from rfl]
                refine x_iconstN (pc := 80) 1 dX10_layWay_80 ic_1 ?_
                first | (guard_target =~ Wp _ _ _ _ _ (Value.int (nI _) :: Value.int (nI _) :: _) _ _ _ _; with_reducible refine x_isubN (pc := 81) ?_ dX10_layWay_81 ?_; omega) | refine x_isub (pc := 81) dX10_layWay_81 ?_
                first | (guard_target =~ Wp _ _ _ _ _ (Value.int (nI _) :: Value.int (nI _) :: _) _ _ _ _; with_reducible refine x_icmp_eqN (pc := 82) (tgt := 91) ?_ ?_ dX10_layWay_82 ?_ (fun h82 => ?_) (fun h82 => ?_); (first | omega | exact b2n_31 _); (first | omega | exact b2n_31 _); decide) | refine x_icmp_eq (pc := 82) (tgt := 91) dX10_layWay_82 (by decide) (fun h82 => ?_) (fun h82 => ?_)
                · skip
                  refine x_iload_n (pc := 91) dX10_layWay_91 rfl ?_
                  refine x_istore_n (pc := 92) dX10_layWay_92 (by decide) xs_2 (x_hp rfl) ?_
                  refine x_goto (pc := 93) (tgt := 27) dX10_layWay_93 (by decide) ?_
                  exact ih (i + 1) M2 _ (by omega) hs hd h31 hj
                · skip
                  exact absurd (show s - (i + 1) = s - i - 1 by omega) h82
            | succ m2 ih2 =>
              intro b M2 hb hs hd h31 hj
              have hb16 : b < 16 := by omega
              have hno := n4 b (by omega)
              by_cases hadj : adj ((pth (frQ A gg) (A 4 gg) s (A 3 gg)).getD i 0) b = true
              · rw [hadj, Bool.true_and, decide_eq_false_iff_not] at hno
                refine x_aload_n (pc := 59) dX10_layWay_59 rfl ?_
                refine x_iload_n (pc := 60) dX10_layWay_60 rfl ?_
                refine x_iload_n (pc := 61) dX10_layWay_61 rfl ?_
                refine x_invV2 (pc := 62) dX10_layWay_62 mlX10_333 imX10_isNext seX10_isNext kX10_isNext (by first | assumption | rfl) rfl (Nat.le_of_ble_eq_true rfl) (by decide) ?_
                refine sm_isNext p1 hb16 ?_
                refine x_cv rfl rfl ?_
                rw [hadj]
                first | (guard_target =~ Wp _ _ _ _ _ (Value.int (nI _) :: _) _ _ _ _; with_reducible refine x_if_eqN (pc := 65) (tgt := 85) ?_ dX10_layWay_65 ?_ (fun h65 => ?_) (fun h65 => ?_); (first | omega | exact b2n_32 _ | exact b2n_31 _); decide) | refine x_if_eq (pc := 65) (tgt := 85) dX10_layWay_65 (by decide) (fun h65 => ?_) (fun h65 => ?_)
                · skip
                  cases h65
                · skip
                  refine x_aload_n (pc := 68) dX10_layWay_68 rfl ?_
                  refine x_getR (pc := 69) dX10_layWay_69 flX10_96 (by first | assumption | rfl) rfl ?_
                  refine x_iload_n (pc := 72) dX10_layWay_72 rfl ?_
                  refine x_ialdN (pc := 73) dX10_layWay_73 (by first | assumption | rfl) (by first | with_reducible rfl | (simp only [xlit, nI_add, pk_mul]; with_reducible rfl)) (by omega) (by decide) ?_
                  rw [hd _ hb16]
                  refine x_aload_n (pc := 74) dX10_layWay_74 rfl ?_
                  refine x_getR (pc := 75) dX10_layWay_75 flX10_96 (by first | assumption | rfl) rfl ?_
                  refine x_iload_n (pc := 78) dX10_layWay_78 rfl ?_
                  refine x_ialdN (pc := 79) dX10_layWay_79 (by first | assumption | rfl) (by first | with_reducible rfl | (simp only [xlit, nI_add, pk_mul]; with_reducible rfl)) (by exact p1) (by decide) ?_
                  rw [hd _ p1, p2, show oI' (some (s - i)) = nI (s - i) from rfl]
                  refine x_iconstN (pc := 80) 1 dX10_layWay_80 ic_1 ?_
                  first | (guard_target =~ Wp _ _ _ _ _ (Value.int (nI _) :: Value.int (nI _) :: _) _ _ _ _; with_reducible refine x_isubN (pc := 81) ?_ dX10_layWay_81 ?_; omega) | refine x_isub (pc := 81) dX10_layWay_81 ?_
                  refine x_icmp_eq (pc := 82) (tgt := 91) dX10_layWay_82 (by decide) (fun h82 => ?_) (fun h82 => ?_)
                  · skip
                    exact absurd ((oI'_eq (hdd b hb16) (by omega)).mp h82) (fun z => hno (z.trans (by congr 1)))
                  · skip
                    first | (guard_target =~ Wp _ _ _ _ (_ :: _ :: _ :: some (Value.int (nI _)) :: _) _ _ _ _ _; with_reducible refine x_iincN (pc := 85) 1 ic_1 dX10_layWay_85 ?_ xg_3 xs_3 ?_ ?_; decide; exact (x_hp rfl)) | refine x_iincC (pc := 85) ic_1 dX10_layWay_85 (by decide) rfl xs_3 (x_hp rfl) ?_
                    refine x_goto (pc := 88) (tgt := 59) dX10_layWay_88 (by decide) ?_
                    exact ih2 (b + 1) M2 (by omega) hs hd h31 hj
              · have ha2 : adj ((pth (frQ A gg) (A 4 gg) s (A 3 gg)).getD i 0) b = false := by simpa using hadj
                refine x_aload_n (pc := 59) dX10_layWay_59 rfl ?_
                refine x_iload_n (pc := 60) dX10_layWay_60 rfl ?_
                refine x_iload_n (pc := 61) dX10_layWay_61 rfl ?_
                refine x_invV2 (pc := 62) dX10_layWay_62 mlX10_333 imX10_isNext seX10_isNext kX10_isNext (by first | assumption | rfl) rfl (Nat.le_of_ble_eq_true rfl) (by decide) ?_
                refine sm_isNext p1 hb16 ?_
                refine x_cv rfl rfl ?_
                rw [ha2]
                first | (guard_target =~ Wp _ _ _ _ _ (Value.int (nI _) :: _) _ _ _ _; with_reducible refine x_if_eqN (pc := 65) (tgt := 85) ?_ dX10_layWay_65 ?_ (fun h65 => ?_) (fun h65 => ?_); (first | omega | exact b2n_32 _ | exact b2n_31 _); decide) | refine x_if_eq (pc := 65) (tgt := 85) dX10_layWay_65 (by decide) (fun h65 => ?_) (fun h65 => ?_)
                · skip
                  first | (guard_target =~ Wp _ _ _ _ (_ :: _ :: _ :: some (Value.int (nI _)) :: _) _ _ _ _ _; with_reducible refine x_iincN (pc := 85) 1 ic_1 dX10_layWay_85 ?_ xg_3 xs_3 ?_ ?_; decide; exact (x_hp rfl)) | refine x_iincC (pc := 85) ic_1 dX10_layWay_85 (by decide) rfl xs_3 (x_hp rfl) ?_
                  refine x_goto (pc := 88) (tgt := 59) dX10_layWay_88 (by decide) ?_
                  exact ih2 (b + 1) M2 (by omega) hs hd h31 hj
                · skip
                  exact absurd rfl h65
          refine x_aload_n (pc := 27) dX10_layWay_27 rfl ?_
          refine x_getR (pc := 28) dX10_layWay_28 flX10_102 (by first | assumption | rfl) rfl ?_
          refine x_aload_n (pc := 31) dX10_layWay_31 rfl ?_
          refine x_getI (pc := 32) dX10_layWay_32 flX10_105 (by first | assumption | rfl) rfl ?_
          rw [h31]
          refine x_iload_n (pc := 35) dX10_layWay_35 rfl ?_
          refine x_iastN (pc := 36) dX10_layWay_36 (by first | assumption | rfl) (by first | with_reducible rfl | (simp only [xlit, nI_add, pk_mul]; with_reducible rfl)) (by omega) (by decide) ?_
          refine x_aload_n (pc := 37) dX10_layWay_37 rfl ?_
          refine x_dup (pc := 38) dX10_layWay_38 rfl ?_
          refine x_getI (pc := 39) dX10_layWay_39 flX10_105 (by first | assumption | rfl) rfl ?_
          rw [show ∀ v, (xput M1 84 i v).1 65 31 = nI i from fun v => h31]
          refine x_iconstN (pc := 42) 1 dX10_layWay_42 ic_1 ?_
          first | (guard_target =~ Wp _ _ _ _ _ (Value.int (nI _) :: Value.int (nI _) :: _) _ _ _ _; with_reducible refine x_iaddN (pc := 43) dX10_layWay_43 ?_) | refine x_iadd (pc := 43) dX10_layWay_43 ?_
          refine x_putI (pc := 44) dX10_layWay_44 flX10_105 (by first | assumption | rfl) rfl rfl rfl ?_
          refine x_aload_n (pc := 47) dX10_layWay_47 rfl ?_
          refine x_getR (pc := 48) dX10_layWay_48 flX10_96 (by first | assumption | rfl) rfl ?_
          refine x_iload_n (pc := 51) dX10_layWay_51 rfl ?_
          refine x_ialdN (pc := 52) dX10_layWay_52 (by first | assumption | rfl) (by first | with_reducible rfl | (simp only [xlit, nI_add, pk_mul]; with_reducible rfl)) (by exact p1) (by decide) ?_
          rw [show ∀ v w, (xput (xput M1 84 i v) 65 31 w).1 82 ((pth (frQ A gg) (A 4 gg) s (A 3 gg)).getD i 0) = nI (s - i) from fun v w => (hd _ p1).trans (by rw [p2]; rfl)]
          first | (guard_target =~ Wp _ _ _ _ _ (Value.int (nI _) :: _) _ _ _ _; with_reducible refine x_if_neN (pc := 53) (tgt := 57) ?_ dX10_layWay_53 ?_ (fun h53 => ?_) (fun h53 => ?_); (first | omega | exact b2n_32 _ | exact b2n_31 _); decide) | refine x_if_ne (pc := 53) (tgt := 57) dX10_layWay_53 (by decide) (fun h53 => ?_) (fun h53 => ?_)
          · skip
            refine x_iconstN (pc := 57) 0 dX10_layWay_57 ic_0 ?_
            refine x_istore_n (pc := 58) dX10_layWay_58 (by decide) xs_3 (x_hp rfl) ?_
            refine inner _ 0 _ (Nat.zero_add _) ((hs.tr (only.put rfl)).tr (only.put rfl)) hd rfl (fun j hj2 => ?_)
            by_cases z : j = i
            · rw [z]; simp [xput]
            · exact (show _ = M1.1 84 j by simp [xput, z]).trans (hj j (by omega))
          · skip
            omega
      refine x_aload_n (pc := 0) dX10_layWay_0 rfl ?_
      refine x_iload_n (pc := 1) dX10_layWay_1 rfl ?_
      refine x_invV1 (pc := 2) dX10_layWay_2 mlX10_336 imX10_layFar seX10_layFar kX10_layFar (by first | assumption | rfl) rfl (Nat.le_of_ble_eq_true rfl) (by decide) ?_
      refine sm_layFar hB hQ hg (fun M1 hs1 h31 hd => ?_)
      refine x_cn rfl rfl ?_
      refine x_aload_n (pc := 5) dX10_layWay_5 rfl ?_
      refine x_iconstN (pc := 6) 0 dX10_layWay_6 ic_0 ?_
      refine x_putI (pc := 7) dX10_layWay_7 flX10_105 (by first | assumption | rfl) rfl rfl rfl ?_
      refine x_aload_n (pc := 10) dX10_layWay_10 rfl ?_
      refine x_getR (pc := 11) dX10_layWay_11 flX10_32 (by first | assumption | rfl) rfl ?_
      refine x_iload_n (pc := 14) dX10_layWay_14 rfl ?_
      refine x_ialdN (pc := 15) dX10_layWay_15 (by first | assumption | rfl) (by first | with_reducible rfl | (simp only [xlit, nI_add, pk_mul]; with_reducible rfl)) (by omega) (by decide) ?_
      rw [show (xput M1 65 31 (nI 0)).1 69 gg = nI (A 3 gg) from (hQ.keep hs1 pW_Q).2.2.2.2 3 (by decide) gg (show gg < 6 by omega)]
      refine x_istore_n (pc := 16) dX10_layWay_16 (by decide) xs_2 (x_hp rfl) ?_
      refine x_aload_n (pc := 17) dX10_layWay_17 rfl ?_
      refine x_getR (pc := 18) dX10_layWay_18 flX10_96 (by first | assumption | rfl) rfl ?_
      refine x_iload_n (pc := 21) dX10_layWay_21 rfl ?_
      refine x_ialdN (pc := 22) dX10_layWay_22 (by first | assumption | rfl) (by first | with_reducible rfl | (simp only [xlit, nI_add, pk_mul]; with_reducible rfl)) (by omega) (by decide) ?_
      rw [show (xput M1 65 31 (nI 0)).1 82 (A 3 gg) = nI s from (hd _ hf).trans (by rw [if_pos hft, hD]; rfl)]
      refine x_if_ge (pc := 23) (tgt := 27) dX10_layWay_23 (by decide) (fun h23 => ?_) (fun h23 => ?_)
      · skip
        have e := loop s 0 (xput M1 65 31 (nI 0)) none (by omega) (hs1.tr (only.put rfl)) (fun c hc => (hd c hc).trans (by rw [if_pos hft])) rfl (fun j hj => by omega)
        rw [pth_0] at e; exact e
      · skip
        exact absurd (nI_pos' (by omega)) h23
theorem sm_waySet (hB : bdA A) (hQ : MNow M A W) (hg : gg < 6) (h : ∀ M', only pW M M' → K (some (.int (nI (wbits (wayL A gg))))) xSF M') : Ex g (d + 4) yX10_waySet mX10_waySet [.ref 65, .int (nI gg)] xSF M K := by
  have ht : A 4 gg < 16 := hB.1 4 (by decide) gg (show gg < 6 by omega)
  have hf : A 3 gg < 16 := hB.1 3 (by decide) gg (show gg < 6 by omega)
  have hl : (wayL A gg).length ≤ 16 := wy_len
  have hlt : ∀ q ∈ wayL A gg, q < 16 := wy_lt hf ht
  refine x_entry kX10_waySet (Nat.le_of_ble_eq_true rfl) ?_
  show Wp g _ mX10_waySet 0 [some (.ref 65), some (.int (nI gg)), none, none] [] _ _ _ _
  have loop : ∀ M1, only pW M M1 → M1.1 65 31 = nI (wayL A gg).length → (∀ j, j < (wayL A gg).length → M1.1 84 j = nI ((wayL A gg).getD j 0)) → ∀ m k, k + m = (wayL A gg).length → Wp g (d + 4) mX10_waySet 9 [some (.ref 65), some (.int (nI gg)), some (.int (nI (wsetN (wayL A gg) k))), some (.int (nI k))] [] xSF (0, 0) M1 K := by
    intro M1 hs h31 hj m
    induction m with
    | zero =>
      intro k hk
      obtain rfl : k = (wayL A gg).length := by omega
      refine x_iload_n (pc := 9) dX10_waySet_9 rfl ?_
      refine x_aload_n (pc := 10) dX10_waySet_10 rfl ?_
      refine x_getI (pc := 11) dX10_waySet_11 flX10_105 (by first | assumption | rfl) rfl ?_
      rw [h31]
      first | (guard_target =~ Wp _ _ _ _ _ (Value.int (nI _) :: Value.int (nI _) :: _) _ _ _ _; with_reducible refine x_icmp_geN (pc := 14) (tgt := 34) ?_ ?_ dX10_waySet_14 ?_ (fun h14 => ?_) (fun h14 => ?_); (first | omega | exact b2n_31 _); (first | omega | exact b2n_31 _); decide) | refine x_icmp_ge (pc := 14) (tgt := 34) dX10_waySet_14 (by decide) (fun h14 => ?_) (fun h14 => ?_)
      · skip
        refine x_iload_n (pc := 34) dX10_waySet_34 rfl ?_
        refine x_ret (pc := 35) (v := some _) rfl trivial dX10_waySet_35 (by decide) ?_
        exact h M1 hs
      · skip
        omega
    | succ m ih =>
      intro k hk
      have hc : (wayL A gg).getD k 0 < 16 := by
        rw [List.getD_eq_getElem?_getD, List.getElem?_eq_getElem (by omega)]
        exact hlt _ (List.getElem_mem _)
      refine x_iload_n (pc := 9) dX10_waySet_9 rfl ?_
      refine x_aload_n (pc := 10) dX10_waySet_10 rfl ?_
      refine x_getI (pc := 11) dX10_waySet_11 flX10_105 (by first | assumption | rfl) rfl ?_
      rw [h31]
      first | (guard_target =~ Wp _ _ _ _ _ (Value.int (nI _) :: Value.int (nI _) :: _) _ _ _ _; with_reducible refine x_icmp_geN (pc := 14) (tgt := 34) ?_ ?_ dX10_waySet_14 ?_ (fun h14 => ?_) (fun h14 => ?_); (first | omega | exact b2n_31 _); (first | omega | exact b2n_31 _); decide) | refine x_icmp_ge (pc := 14) (tgt := 34) dX10_waySet_14 (by decide) (fun h14 => ?_) (fun h14 => ?_)
      · skip
        omega
      · skip
        refine x_iload_n (pc := 17) dX10_waySet_17 rfl ?_
        refine x_iconstN (pc := 18) 1 dX10_waySet_18 ic_1 ?_
        refine x_aload_n (pc := 19) dX10_waySet_19 rfl ?_
        refine x_getR (pc := 20) dX10_waySet_20 flX10_102 (by first | assumption | rfl) rfl ?_
        refine x_iload_n (pc := 23) dX10_waySet_23 rfl ?_
        refine x_ialdN (pc := 24) dX10_waySet_24 (by first | assumption | rfl) (by first | with_reducible rfl | (simp only [xlit, nI_add, pk_mul]; with_reducible rfl)) (by omega) (by decide) ?_
        rw [hj k (by omega)]
        first | (guard_target =~ Wp _ _ _ _ _ (Value.int (nI _) :: Value.int (nI _) :: _) _ _ _ _; with_reducible refine x_ishlN (pc := 25) ?_ dX10_waySet_25 ?_; omega) | refine x_ishl (pc := 25) dX10_waySet_25 ?_
        rw [Nat.one_mul]
        first | (guard_target =~ Wp _ _ _ _ _ (Value.int (nI _) :: Value.int (nI _) :: _) _ _ _ _; with_reducible refine x_iorN (pc := 26) dX10_waySet_26 ?_) | refine x_ior (pc := 26) dX10_waySet_26 ?_
        refine x_istore_n (pc := 27) dX10_waySet_27 (by decide) xs_2 (x_hp rfl) ?_
        first | (guard_target =~ Wp _ _ _ _ (_ :: _ :: _ :: some (Value.int (nI _)) :: _) _ _ _ _ _; with_reducible refine x_iincN (pc := 28) 1 ic_1 dX10_waySet_28 ?_ xg_3 xs_3 ?_ ?_; decide; exact (x_hp rfl)) | refine x_iincC (pc := 28) ic_1 dX10_waySet_28 (by decide) rfl xs_3 (x_hp rfl) ?_
        refine x_goto (pc := 31) (tgt := 9) dX10_waySet_31 (by decide) ?_
        exact ih (k + 1) (by omega)
  refine x_aload_n (pc := 0) dX10_waySet_0 rfl ?_
  refine x_iload_n (pc := 1) dX10_waySet_1 rfl ?_
  refine x_invV1 (pc := 2) dX10_waySet_2 mlX10_339 imX10_layWay seX10_layWay kX10_layWay (by first | assumption | rfl) rfl (Nat.le_of_ble_eq_true rfl) (by decide) ?_
  refine sm_layWay hB hQ hg (fun M1 hs1 h31 hj => ?_)
  refine x_cn rfl rfl ?_
  refine x_iconstN (pc := 5) 0 dX10_waySet_5 ic_0 ?_
  refine x_istore_n (pc := 6) dX10_waySet_6 (by decide) xs_2 (x_hp rfl) ?_
  refine x_iconstN (pc := 7) 0 dX10_waySet_7 ic_0 ?_
  refine x_istore_n (pc := 8) dX10_waySet_8 (by decide) xs_3 (x_hp rfl) ?_
  exact loop M1 hs1 h31 hj (wayL A gg).length 0 (by omega)
end P73
