/-! the MODEL: factOf, holds -/
def stk (M : XM) : List Bool → Prop
  | [] => True
  | b :: s => M.1 81 s.length = nI (b2n b) ∧ stk M s
theorem stk_put {M : XM} {j : Nat} {x : Int32} : ∀ {s : List Bool}, stk M s → s.length ≤ j → stk (xput M 81 j x) s := by
  intro s
  induction s with
  | nil => exact fun _ _ => trivial
  | cons b s ih =>
    intro h hj
    simp only [List.length_cons] at hj
    exact ⟨(if_neg (fun z => by omega)).trans h.1, ih h.2 (by omega)⟩
theorem stk_new {M : XM} {b : Bool} {s : List Bool} {x : Int32} (h : stk M s) (hx : x = nI (b2n b)) : stk (xput M 81 s.length x) (b :: s) := ⟨(if_pos ⟨rfl, rfl⟩).trans hx, stk_put h (Nat.le_refl _)⟩
def pH (a _k : Nat) : Bool := a == 81
theorem pH_Q : ∀ a k, wQ a k = true → pH a k = false := by intro a k h; simp [wQ, pH] at h ⊢; omega
section P75
variable {g : XG} {d : Nat} {M : XM} {K : Option Value → XS → XM → Prop} {A : XA} {W gg : Nat}
theorem sm_factOf {f c : Nat} (hQ : MNow M A W) (hf : f < 6) (hc : c < 16) (hg : gg < 6) (h : K (some (.int (nI (fctC (fG gg (A 1 gg) (A 2 gg)) c f)))) xSF M) : Ex g d yX10_factOf mX10_factOf [.ref 65, .int (nI f), .int (nI c), .int (nI gg)] xSF M K := by
  refine x_entry kX10_factOf (Nat.le_of_ble_eq_true rfl) ?_
  show Wp g _ mX10_factOf 0 [some (.ref 65), some (.int (nI f)), some (.int (nI c)), some (.int (nI gg))] [] _ _ _ _
  have h1 : f = 0 ∨ f = 1 ∨ f = 2 ∨ f = 3 ∨ f = 4 ∨ f = 5 := by omega
  rcases h1 with rfl | rfl | rfl | rfl | rfl | rfl
  · skip
    refine x_iload_n (pc := 0) dX10_factOf_0 rfl ?_
    refine x_tableIn (pc := 1) (off := 35) (tgt := 36) dX10_factOf_1 (by decide) (by decide) (by decide) (by decide) ?_
    refine x_iload_n (pc := 36) dX10_factOf_36 rfl ?_
    refine x_ret (pc := 37) (v := some _) rfl trivial dX10_factOf_37 (by decide) ?_
    exact h
  · skip
    refine x_iload_n (pc := 0) dX10_factOf_0 rfl ?_
    refine x_tableIn (pc := 1) (off := 37) (tgt := 38) dX10_factOf_1 (by decide) (by decide) (by decide) (by decide) ?_
    refine x_iload_n (pc := 38) dX10_factOf_38 rfl ?_
    refine x_iconstN (pc := 39) 4 dX10_factOf_39 ic_4 ?_
    first | (guard_target =~ Wp _ _ _ _ _ (Value.int (nI _) :: Value.int (nI _) :: _) _ _ _ _; with_reducible refine x_idivN (pc := 40) ?_ ?_ ?_ dX10_factOf_40 ?_; omega; omega; omega) | refine x_idiv (pc := 40) dX10_factOf_40 (by assumption) ?_
    refine x_ret (pc := 41) (v := some _) rfl trivial dX10_factOf_41 (by decide) ?_
    exact h
  · skip
    refine x_iload_n (pc := 0) dX10_factOf_0 rfl ?_
    refine x_tableIn (pc := 1) (off := 41) (tgt := 42) dX10_factOf_1 (by decide) (by decide) (by decide) (by decide) ?_
    refine x_iload_n (pc := 42) dX10_factOf_42 rfl ?_
    refine x_iconstN (pc := 43) 4 dX10_factOf_43 ic_4 ?_
    first | (guard_target =~ Wp _ _ _ _ _ (Value.int (nI _) :: Value.int (nI _) :: _) _ _ _ _; with_reducible refine x_iremN (pc := 44) ?_ ?_ ?_ dX10_factOf_44 ?_; omega; omega; omega) | refine x_irem (pc := 44) dX10_factOf_44 (by assumption) ?_
    refine x_ret (pc := 45) (v := some _) rfl trivial dX10_factOf_45 (by decide) ?_
    exact h
  · skip
    refine x_iload_n (pc := 0) dX10_factOf_0 rfl ?_
    refine x_tableIn (pc := 1) (off := 45) (tgt := 46) dX10_factOf_1 (by decide) (by decide) (by decide) (by decide) ?_
    refine x_iload_n (pc := 46) dX10_factOf_46 rfl ?_
    refine x_ret (pc := 47) (v := some _) rfl trivial dX10_factOf_47 (by decide) ?_
    exact h
  · skip
    refine x_iload_n (pc := 0) dX10_factOf_0 rfl ?_
    refine x_tableIn (pc := 1) (off := 47) (tgt := 48) dX10_factOf_1 (by decide) (by decide) (by decide) (by decide) ?_
    refine x_aload_n (pc := 48) dX10_factOf_48 rfl ?_
    refine x_getR (pc := 49) dX10_factOf_49 flX10_26 (by first | assumption | rfl) rfl ?_
    refine x_iload_n (pc := 52) dX10_factOf_52 rfl ?_
    refine x_ialdN (pc := 53) dX10_factOf_53 (by first | assumption | rfl) (by first | with_reducible rfl | (simp only [xlit, nI_add, pk_mul]; with_reducible rfl)) (by omega) (by decide) ?_
    rw [hQ.2.2.2.2 1 (by decide) gg (show gg < 6 by omega)]
    refine x_ret (pc := 54) (v := some _) rfl trivial dX10_factOf_54 (by decide) ?_
    exact h
  · skip
    refine x_iload_n (pc := 0) dX10_factOf_0 rfl ?_
    refine x_tableOut (pc := 1) (tgt := 55) dX10_factOf_1 (by decide) (by decide) ?_
    refine x_aload_n (pc := 55) dX10_factOf_55 rfl ?_
    refine x_getR (pc := 56) dX10_factOf_56 flX10_29 (by first | assumption | rfl) rfl ?_
    refine x_iload_n (pc := 59) dX10_factOf_59 rfl ?_
    refine x_ialdN (pc := 60) dX10_factOf_60 (by first | assumption | rfl) (by first | with_reducible rfl | (simp only [xlit, nI_add, pk_mul]; with_reducible rfl)) (by omega) (by decide) ?_
    rw [hQ.2.2.2.2 2 (by decide) gg (show gg < 6 by omega)]
    refine x_ret (pc := 61) (v := some _) rfl trivial dX10_factOf_61 (by decide) ?_
    exact h
theorem sm_holds {i c f0 : Nat} {e : XP} (hW : WFe e) (hy : ∀ y, y ∈ e.1 → y < 6000) (hi : i < 60) (hc : c < 16) (hg : gg < 6) (hQ : MNow M A W) (hB : bdA A) (h76 : M.1 76 i = nI f0) (h77 : M.1 77 i = nI (f0 + e.1.length)) (hsg : ∀ k, k < e.1.length → M.1 78 (f0 + k) = tokI (e.1.getD k 0)) (hf0 : f0 + e.1.length ≤ 600) (hlen : e.1.length ≤ 100) (h : ∀ M', only pH M M' → K (some (.int (nI (b2n (e.2 (fctC (fG gg (A 1 gg) (A 2 gg)) c)))))) xSF M') : Ex g (d + 1) yX10_holds mX10_holds [.ref 65, .int (nI i), .int (nI c), .int (nI gg)] xSF M K := by
  refine x_entry kX10_holds (Nat.le_of_ble_eq_true rfl) ?_
  show Wp g _ mX10_holds 0 [some (.ref 65), some (.int (nI i)), some (.int (nI c)), some (.int (nI gg)), none, none, none, none, none] [] _ _ _ _
  have hF : ∀ f, f < 6 → fctC (fG gg (A 1 gg) (A 2 gg)) c f < 16 := by
    intro f hf
    have k1 : A 1 gg < 7 := hB.1 1 (by decide) gg (show gg < 6 by omega)
    have k2 : A 2 gg < 10 := hB.1 2 (by decide) gg (show gg < 6 by omega)
    unfold fctC fG
    (repeat' split) <;> omega
  have loop : ∀ l k s M1 o6 o7 o8, evO (fctC (fG gg (A 1 gg) (A 2 gg)) c) l s = some [e.2 (fctC (fG gg (A 1 gg) (A 2 gg)) c)] → (∀ y, y ∈ l → y < 6000) → (∀ j, j < l.length → M.1 78 (k + j) = tokI (l.getD j 0)) → k + l.length = f0 + e.1.length → s.length + l.length ≤ 100 → stk M1 s → only pH M M1 → Wp g (d + 1) mX10_holds 11 [some (.ref 65), some (.int (nI i)), some (.int (nI c)), some (.int (nI gg)), some (.int (nI s.length)), some (.int (nI k)), o6, o7, o8] [] xSF (0, 0) M1 K := by
    intro l
    induction l with
    | nil =>
      intro k s M1 o6 o7 o8 he hy hj hk hs hst ho
      obtain rfl : s = [e.2 (fctC (fG gg (A 1 gg) (A 2 gg)) c)] := by injection he
      simp only [List.length_nil, Nat.add_zero] at hk
      refine x_iload (pc := 11) dX10_holds_11 rfl ?_
      refine x_aload_n (pc := 13) dX10_holds_13 rfl ?_
      refine x_getR (pc := 14) dX10_holds_14 flX10_71 (by first | assumption | rfl) rfl ?_
      refine x_iload_n (pc := 17) dX10_holds_17 rfl ?_
      refine x_ialdN (pc := 18) dX10_holds_18 (by first | assumption | rfl) (by first | with_reducible rfl | (simp only [xlit, nI_add, pk_mul]; with_reducible rfl)) (by omega) (by decide) ?_
      rw [show M1.1 77 i = nI (f0 + e.1.length) from (ho.1 77 i rfl).trans h77]
      first | (guard_target =~ Wp _ _ _ _ _ (Value.int (nI _) :: Value.int (nI _) :: _) _ _ _ _; with_reducible refine x_icmp_geN (pc := 19) (tgt := 253) ?_ ?_ dX10_holds_19 ?_ (fun h19 => ?_) (fun h19 => ?_); (first | omega | exact b2n_31 _); (first | omega | exact b2n_31 _); decide) | refine x_icmp_ge (pc := 19) (tgt := 253) dX10_holds_19 (by decide) (fun h19 => ?_) (fun h19 => ?_)
      · skip
        refine x_aload_n (pc := 253) dX10_holds_253 rfl ?_
        refine x_getR (pc := 254) dX10_holds_254 flX10_92 (by first | assumption | rfl) rfl ?_
        refine x_iconstN (pc := 257) 0 dX10_holds_257 ic_0 ?_
        refine x_zaldN (pc := 258) dX10_holds_258 (by first | assumption | rfl) (by first | with_reducible rfl | (simp only [xlit, nI_add, pk_mul]; with_reducible rfl)) (by omega) (by decide) ?_
        rw [show M1.1 81 0 = nI (b2n (e.2 (fctC (fG gg (A 1 gg) (A 2 gg)) c))) from hst.1]
        refine x_ret (pc := 259) (v := some _) rfl (by first | rfl | decide | exact xrt_b) dX10_holds_259 (by decide) ?_
        exact h M1 ho
      · skip
        omega
    | cons x l ih =>
      intro k s M1 o6 o7 o8 he hy hj hk hs hst ho
      have hx := hy x (List.mem_cons_self ..)
      have hy2 : ∀ y, y ∈ l → y < 6000 := fun y q => hy y (List.mem_cons_of_mem _ q)
      have hj0 : M1.1 78 k = tokI x := by
        have := hj 0 (by simp)
        rw [Nat.add_zero] at this
        exact (ho.1 78 k rfl).trans this
      have hj2 : ∀ j, j < l.length → M.1 78 (k + 1 + j) = tokI (l.getD j 0) := by
        intro j q
        have := hj (j + 1) (by simp only [List.length_cons]; omega)
        rw [show k + 1 + j = k + (j + 1) by omega]; exact this
      have h7 : M1.1 77 i = nI (f0 + e.1.length) := (ho.1 77 i rfl).trans h77
      simp only [List.length_cons] at hk hs
      match x, s, he, hs, hst, hj0, hx with
      | 0, [], he, hs, hst, hj0, hx => simp [evO] at he
      | 1, [], he, hs, hst, hj0, hx => simp [evO] at he
      | 2, [], he, hs, hst, hj0, hx => simp [evO] at he
      | 1, [b], he, hs, hst, hj0, hx => simp [evO] at he
      | 2, [b], he, hs, hst, hj0, hx => simp [evO] at he
      | 0, b :: s, he, hs, hst, hj0, hx =>
        simp only [List.length_cons] at hs ⊢
        rw [evO] at he
        refine x_iload (pc := 11) dX10_holds_11 rfl ?_
        refine x_aload_n (pc := 13) dX10_holds_13 rfl ?_
        refine x_getR (pc := 14) dX10_holds_14 flX10_71 (by first | assumption | rfl) rfl ?_
        refine x_iload_n (pc := 17) dX10_holds_17 rfl ?_
        refine x_ialdN (pc := 18) dX10_holds_18 (by first | assumption | rfl) (by first | with_reducible rfl | (simp only [xlit, nI_add, pk_mul]; with_reducible rfl)) (by omega) (by decide) ?_
        rw [h7]
        first | (guard_target =~ Wp _ _ _ _ _ (Value.int (nI _) :: Value.int (nI _) :: _) _ _ _ _; with_reducible refine x_icmp_geN (pc := 19) (tgt := 253) ?_ ?_ dX10_holds_19 ?_ (fun h19 => ?_) (fun h19 => ?_); (first | omega | exact b2n_31 _); (first | omega | exact b2n_31 _); decide) | refine x_icmp_ge (pc := 19) (tgt := 253) dX10_holds_19 (by decide) (fun h19 => ?_) (fun h19 => ?_)
        · skip
          omega
        · skip
          refine x_aload_n (pc := 22) dX10_holds_22 rfl ?_
          refine x_getR (pc := 23) dX10_holds_23 flX10_74 (by first | assumption | rfl) rfl ?_
          refine x_iload (pc := 26) dX10_holds_26 rfl ?_
          refine x_ialdN (pc := 28) dX10_holds_28 (by first | assumption | rfl) (by first | with_reducible rfl | (simp only [xlit, nI_add, pk_mul]; with_reducible rfl)) (by omega) (by decide) ?_
          rw [hj0, show tokI 0 = -33 from rfl]
          refine x_istore (pc := 29) dX10_holds_29 (by decide) xs_6 (x_hp rfl) ?_
          refine x_iload (pc := 31) dX10_holds_31 rfl ?_
          refine x_bipush (pc := 33) dX10_holds_33 bp_m33 ?_
          refine x_icmp_ne (pc := 35) (tgt := 67) dX10_holds_35 (by decide) (fun h35 => ?_) (fun h35 => ?_)
          · skip
            exact absurd rfl h35
          · skip
            refine x_aload_n (pc := 38) dX10_holds_38 rfl ?_
            refine x_getR (pc := 39) dX10_holds_39 flX10_92 (by first | assumption | rfl) rfl ?_
            refine x_iload (pc := 42) dX10_holds_42 rfl ?_
            refine x_iconstN (pc := 44) 1 dX10_holds_44 ic_1 ?_
            first | (guard_target =~ Wp _ _ _ _ _ (Value.int (nI _) :: Value.int (nI _) :: _) _ _ _ _; with_reducible refine x_isubN (pc := 45) ?_ dX10_holds_45 ?_; omega) | refine x_isub (pc := 45) dX10_holds_45 ?_
            refine x_aload_n (pc := 46) dX10_holds_46 rfl ?_
            refine x_getR (pc := 47) dX10_holds_47 flX10_92 (by first | assumption | rfl) rfl ?_
            refine x_iload (pc := 50) dX10_holds_50 rfl ?_
            refine x_iconstN (pc := 52) 1 dX10_holds_52 ic_1 ?_
            first | (guard_target =~ Wp _ _ _ _ _ (Value.int (nI _) :: Value.int (nI _) :: _) _ _ _ _; with_reducible refine x_isubN (pc := 53) ?_ dX10_holds_53 ?_; omega) | refine x_isub (pc := 53) dX10_holds_53 ?_
            refine x_zaldN (pc := 54) dX10_holds_54 (by first | assumption | rfl) (by first | with_reducible rfl | (simp only [xlit, nI_add, pk_mul]; with_reducible rfl)) (by omega) (by decide) ?_
            rw [show M1.1 81 (s.length + 1 - 1) = nI (b2n b) from hst.1]
            first | (guard_target =~ Wp _ _ _ _ _ (Value.int (nI _) :: _) _ _ _ _; with_reducible refine x_if_neN (pc := 55) (tgt := 62) ?_ dX10_holds_55 ?_ (fun h55 => ?_) (fun h55 => ?_); (first | omega | exact b2n_32 _ | exact b2n_31 _); decide) | refine x_if_ne (pc := 55) (tgt := 62) dX10_holds_55 (by decide) (fun h55 => ?_) (fun h55 => ?_)
            · skip
              refine x_iconstN (pc := 62) 0 dX10_holds_62 ic_0 ?_
              refine x_zastN (pc := 63) dX10_holds_63 (by first | assumption | rfl) (by first | with_reducible rfl | (simp only [xlit, nI_add, pk_mul]; with_reducible rfl)) (by omega) (by decide) (by first | rfl | decide) ?_
              refine x_goto (pc := 64) (tgt := 247) dX10_holds_64 (by decide) ?_
              first | (guard_target =~ Wp _ _ _ _ (_ :: _ :: _ :: _ :: _ :: some (Value.int (nI _)) :: _) _ _ _ _ _; with_reducible refine x_iincN (pc := 247) 1 ic_1 dX10_holds_247 ?_ xg_5 xs_5 ?_ ?_; decide; exact (x_hp rfl)) | refine x_iincC (pc := 247) ic_1 dX10_holds_247 (by decide) rfl xs_5 (x_hp rfl) ?_
              refine x_goto (pc := 250) (tgt := 11) dX10_holds_250 (by decide) ?_
              exact ih (k + 1) (false :: s) _ _ _ _ (by rw [b2n_1 h55] at he; exact he) hy2 hj2 (by omega) (by simp only [List.length_cons]; omega) (stk_new hst.2 rfl) (ho.tr (only.put rfl))
            · skip
              refine x_iconstN (pc := 58) 1 dX10_holds_58 ic_1 ?_
              refine x_goto (pc := 59) (tgt := 63) dX10_holds_59 (by decide) ?_
              refine x_zastN (pc := 63) dX10_holds_63 (by first | assumption | rfl) (by first | with_reducible rfl | (simp only [xlit, nI_add, pk_mul]; with_reducible rfl)) (by omega) (by decide) (by first | rfl | decide) ?_
              refine x_goto (pc := 64) (tgt := 247) dX10_holds_64 (by decide) ?_
              first | (guard_target =~ Wp _ _ _ _ (_ :: _ :: _ :: _ :: _ :: some (Value.int (nI _)) :: _) _ _ _ _ _; with_reducible refine x_iincN (pc := 247) 1 ic_1 dX10_holds_247 ?_ xg_5 xs_5 ?_ ?_; decide; exact (x_hp rfl)) | refine x_iincC (pc := 247) ic_1 dX10_holds_247 (by decide) rfl xs_5 (x_hp rfl) ?_
              refine x_goto (pc := 250) (tgt := 11) dX10_holds_250 (by decide) ?_
              exact ih (k + 1) (true :: s) _ _ _ _ (by rw [b2n_0 h55] at he; exact he) hy2 hj2 (by omega) (by simp only [List.length_cons]; omega) (stk_new hst.2 rfl) (ho.tr (only.put rfl))
      | 1, b :: a :: s, he, hs, hst, hj0, hx =>
        simp only [List.length_cons] at hs ⊢
        rw [evO] at he
        refine x_iload (pc := 11) dX10_holds_11 rfl ?_
        refine x_aload_n (pc := 13) dX10_holds_13 rfl ?_
        refine x_getR (pc := 14) dX10_holds_14 flX10_71 (by first | assumption | rfl) rfl ?_
        refine x_iload_n (pc := 17) dX10_holds_17 rfl ?_
        refine x_ialdN (pc := 18) dX10_holds_18 (by first | assumption | rfl) (by first | with_reducible rfl | (simp only [xlit, nI_add, pk_mul]; with_reducible rfl)) (by omega) (by decide) ?_
        rw [h7]
        first | (guard_target =~ Wp _ _ _ _ _ (Value.int (nI _) :: Value.int (nI _) :: _) _ _ _ _; with_reducible refine x_icmp_geN (pc := 19) (tgt := 253) ?_ ?_ dX10_holds_19 ?_ (fun h19 => ?_) (fun h19 => ?_); (first | omega | exact b2n_31 _); (first | omega | exact b2n_31 _); decide) | refine x_icmp_ge (pc := 19) (tgt := 253) dX10_holds_19 (by decide) (fun h19 => ?_) (fun h19 => ?_)
        · skip
          omega
        · skip
          refine x_aload_n (pc := 22) dX10_holds_22 rfl ?_
          refine x_getR (pc := 23) dX10_holds_23 flX10_74 (by first | assumption | rfl) rfl ?_
          refine x_iload (pc := 26) dX10_holds_26 rfl ?_
          refine x_ialdN (pc := 28) dX10_holds_28 (by first | assumption | rfl) (by first | with_reducible rfl | (simp only [xlit, nI_add, pk_mul]; with_reducible rfl)) (by omega) (by decide) ?_
          rw [hj0, show tokI 1 = -38 from rfl]
          refine x_istore (pc := 29) dX10_holds_29 (by decide) xs_6 (x_hp rfl) ?_
          refine x_iload (pc := 31) dX10_holds_31 rfl ?_
          refine x_bipush (pc := 33) dX10_holds_33 bp_m33 ?_
          refine x_icmp_ne (pc := 35) (tgt := 67) dX10_holds_35 (by decide) (fun h35 => ?_) (fun h35 => ?_)
          · skip
            refine x_iload (pc := 67) dX10_holds_67 rfl ?_
            refine x_if_ge (pc := 69) (tgt := 151) dX10_holds_69 (by decide) (fun h69 => ?_) (fun h69 => ?_)
            · skip
              exact absurd h69 (by decide)
            · skip
              refine x_iincC (pc := 72) ic_m1 dX10_holds_72 (by decide) rfl xs_4 (x_hp rfl) ?_
              rw [pk_m1]
              refine x_aload_n (pc := 75) dX10_holds_75 rfl ?_
              refine x_getR (pc := 76) dX10_holds_76 flX10_92 (by first | assumption | rfl) rfl ?_
              refine x_iload (pc := 79) dX10_holds_79 rfl ?_
              refine x_iconstN (pc := 81) 1 dX10_holds_81 ic_1 ?_
              first | (guard_target =~ Wp _ _ _ _ _ (Value.int (nI _) :: Value.int (nI _) :: _) _ _ _ _; with_reducible refine x_isubN (pc := 82) ?_ dX10_holds_82 ?_; omega) | refine x_isub (pc := 82) dX10_holds_82 ?_
              refine x_iload (pc := 83) dX10_holds_83 rfl ?_
              refine x_bipush (pc := 85) dX10_holds_85 bp_m38 ?_
              refine x_icmp_ne (pc := 87) (tgt := 120) dX10_holds_87 (by decide) (fun h87 => ?_) (fun h87 => ?_)
              · skip
                exact absurd rfl h87
              · skip
                refine x_aload_n (pc := 90) dX10_holds_90 rfl ?_
                refine x_getR (pc := 91) dX10_holds_91 flX10_92 (by first | assumption | rfl) rfl ?_
                refine x_iload (pc := 94) dX10_holds_94 rfl ?_
                refine x_iconstN (pc := 96) 1 dX10_holds_96 ic_1 ?_
                first | (guard_target =~ Wp _ _ _ _ _ (Value.int (nI _) :: Value.int (nI _) :: _) _ _ _ _; with_reducible refine x_isubN (pc := 97) ?_ dX10_holds_97 ?_; omega) | refine x_isub (pc := 97) dX10_holds_97 ?_
                refine x_zaldN (pc := 98) dX10_holds_98 (by first | assumption | rfl) (by first | with_reducible rfl | (simp only [xlit, nI_add, pk_mul]; with_reducible rfl)) (by omega) (by decide) ?_
                rw [show M1.1 81 (s.length + 1 - 1) = nI (b2n a) from hst.2.1]
                first | (guard_target =~ Wp _ _ _ _ _ (Value.int (nI _) :: _) _ _ _ _; with_reducible refine x_if_eqN (pc := 99) (tgt := 116) ?_ dX10_holds_99 ?_ (fun h99 => ?_) (fun h99 => ?_); (first | omega | exact b2n_32 _ | exact b2n_31 _); decide) | refine x_if_eq (pc := 99) (tgt := 116) dX10_holds_99 (by decide) (fun h99 => ?_) (fun h99 => ?_)
                · skip
                  refine x_iconstN (pc := 116) 0 dX10_holds_116 ic_0 ?_
                  refine x_goto (pc := 117) (tgt := 147) dX10_holds_117 (by decide) ?_
                  refine x_zastN (pc := 147) dX10_holds_147 (by first | assumption | rfl) (by first | with_reducible rfl | (simp only [xlit, nI_add, pk_mul]; with_reducible rfl)) (by omega) (by decide) (by first | rfl | decide) ?_
                  refine x_goto (pc := 148) (tgt := 247) dX10_holds_148 (by decide) ?_
                  first | (guard_target =~ Wp _ _ _ _ (_ :: _ :: _ :: _ :: _ :: some (Value.int (nI _)) :: _) _ _ _ _ _; with_reducible refine x_iincN (pc := 247) 1 ic_1 dX10_holds_247 ?_ xg_5 xs_5 ?_ ?_; decide; exact (x_hp rfl)) | refine x_iincC (pc := 247) ic_1 dX10_holds_247 (by decide) rfl xs_5 (x_hp rfl) ?_
                  refine x_goto (pc := 250) (tgt := 11) dX10_holds_250 (by decide) ?_
                  exact ih (k + 1) (false :: s) _ _ _ _ (by rw [b2n_0 h99, Bool.false_and] at he; exact he) hy2 hj2 (by omega) (by simp only [List.length_cons]; omega) (stk_new hst.2.2 rfl) (ho.tr (only.put rfl))
                · skip
                  refine x_aload_n (pc := 102) dX10_holds_102 rfl ?_
                  refine x_getR (pc := 103) dX10_holds_103 flX10_92 (by first | assumption | rfl) rfl ?_
                  refine x_iload (pc := 106) dX10_holds_106 rfl ?_
                  refine x_zaldN (pc := 108) dX10_holds_108 (by first | assumption | rfl) (by first | with_reducible rfl | (simp only [xlit, nI_add, pk_mul]; with_reducible rfl)) (by omega) (by decide) ?_
                  rw [show M1.1 81 (s.length + 1) = nI (b2n b) from hst.1]
                  first | (guard_target =~ Wp _ _ _ _ _ (Value.int (nI _) :: _) _ _ _ _; with_reducible refine x_if_eqN (pc := 109) (tgt := 116) ?_ dX10_holds_109 ?_ (fun h109 => ?_) (fun h109 => ?_); (first | omega | exact b2n_32 _ | exact b2n_31 _); decide) | refine x_if_eq (pc := 109) (tgt := 116) dX10_holds_109 (by decide) (fun h109 => ?_) (fun h109 => ?_)
                  · skip
                    refine x_iconstN (pc := 116) 0 dX10_holds_116 ic_0 ?_
                    refine x_goto (pc := 117) (tgt := 147) dX10_holds_117 (by decide) ?_
                    refine x_zastN (pc := 147) dX10_holds_147 (by first | assumption | rfl) (by first | with_reducible rfl | (simp only [xlit, nI_add, pk_mul]; with_reducible rfl)) (by omega) (by decide) (by first | rfl | decide) ?_
                    refine x_goto (pc := 148) (tgt := 247) dX10_holds_148 (by decide) ?_
                    first | (guard_target =~ Wp _ _ _ _ (_ :: _ :: _ :: _ :: _ :: some (Value.int (nI _)) :: _) _ _ _ _ _; with_reducible refine x_iincN (pc := 247) 1 ic_1 dX10_holds_247 ?_ xg_5 xs_5 ?_ ?_; decide; exact (x_hp rfl)) | refine x_iincC (pc := 247) ic_1 dX10_holds_247 (by decide) rfl xs_5 (x_hp rfl) ?_
                    refine x_goto (pc := 250) (tgt := 11) dX10_holds_250 (by decide) ?_
                    exact ih (k + 1) (false :: s) _ _ _ _ (by rw [b2n_0 h109, Bool.and_false] at he; exact he) hy2 hj2 (by omega) (by simp only [List.length_cons]; omega) (stk_new hst.2.2 rfl) (ho.tr (only.put rfl))
                  · skip
                    refine x_iconstN (pc := 112) 1 dX10_holds_112 ic_1 ?_
                    refine x_goto (pc := 113) (tgt := 147) dX10_holds_113 (by decide) ?_
                    refine x_zastN (pc := 147) dX10_holds_147 (by first | assumption | rfl) (by first | with_reducible rfl | (simp only [xlit, nI_add, pk_mul]; with_reducible rfl)) (by omega) (by decide) (by first | rfl | decide) ?_
                    refine x_goto (pc := 148) (tgt := 247) dX10_holds_148 (by decide) ?_
                    first | (guard_target =~ Wp _ _ _ _ (_ :: _ :: _ :: _ :: _ :: some (Value.int (nI _)) :: _) _ _ _ _ _; with_reducible refine x_iincN (pc := 247) 1 ic_1 dX10_holds_247 ?_ xg_5 xs_5 ?_ ?_; decide; exact (x_hp rfl)) | refine x_iincC (pc := 247) ic_1 dX10_holds_247 (by decide) rfl xs_5 (x_hp rfl) ?_
                    refine x_goto (pc := 250) (tgt := 11) dX10_holds_250 (by decide) ?_
                    exact ih (k + 1) (true :: s) _ _ _ _ (by rw [b2n_1 h99, b2n_1 h109] at he; exact he) hy2 hj2 (by omega) (by simp only [List.length_cons]; omega) (stk_new hst.2.2 rfl) (ho.tr (only.put rfl))
          · skip
            exact absurd h35 (by decide)
      | 2, b :: a :: s, he, hs, hst, hj0, hx =>
        simp only [List.length_cons] at hs ⊢
        rw [evO] at he
        refine x_iload (pc := 11) dX10_holds_11 rfl ?_
        refine x_aload_n (pc := 13) dX10_holds_13 rfl ?_
        refine x_getR (pc := 14) dX10_holds_14 flX10_71 (by first | assumption | rfl) rfl ?_
        refine x_iload_n (pc := 17) dX10_holds_17 rfl ?_
        refine x_ialdN (pc := 18) dX10_holds_18 (by first | assumption | rfl) (by first | with_reducible rfl | (simp only [xlit, nI_add, pk_mul]; with_reducible rfl)) (by omega) (by decide) ?_
        rw [h7]
        first | (guard_target =~ Wp _ _ _ _ _ (Value.int (nI _) :: Value.int (nI _) :: _) _ _ _ _; with_reducible refine x_icmp_geN (pc := 19) (tgt := 253) ?_ ?_ dX10_holds_19 ?_ (fun h19 => ?_) (fun h19 => ?_); (first | omega | exact b2n_31 _); (first | omega | exact b2n_31 _); decide) | refine x_icmp_ge (pc := 19) (tgt := 253) dX10_holds_19 (by decide) (fun h19 => ?_) (fun h19 => ?_)
        · skip
          omega
        · skip
          refine x_aload_n (pc := 22) dX10_holds_22 rfl ?_
          refine x_getR (pc := 23) dX10_holds_23 flX10_74 (by first | assumption | rfl) rfl ?_
          refine x_iload (pc := 26) dX10_holds_26 rfl ?_
          refine x_ialdN (pc := 28) dX10_holds_28 (by first | assumption | rfl) (by first | with_reducible rfl | (simp only [xlit, nI_add, pk_mul]; with_reducible rfl)) (by omega) (by decide) ?_
          rw [hj0, show tokI 2 = -124 from rfl]
          refine x_istore (pc := 29) dX10_holds_29 (by decide) xs_6 (x_hp rfl) ?_
          refine x_iload (pc := 31) dX10_holds_31 rfl ?_
          refine x_bipush (pc := 33) dX10_holds_33 bp_m33 ?_
          refine x_icmp_ne (pc := 35) (tgt := 67) dX10_holds_35 (by decide) (fun h35 => ?_) (fun h35 => ?_)
          · skip
            refine x_iload (pc := 67) dX10_holds_67 rfl ?_
            refine x_if_ge (pc := 69) (tgt := 151) dX10_holds_69 (by decide) (fun h69 => ?_) (fun h69 => ?_)
            · skip
              exact absurd h69 (by decide)
            · skip
              refine x_iincC (pc := 72) ic_m1 dX10_holds_72 (by decide) rfl xs_4 (x_hp rfl) ?_
              rw [pk_m1]
              refine x_aload_n (pc := 75) dX10_holds_75 rfl ?_
              refine x_getR (pc := 76) dX10_holds_76 flX10_92 (by first | assumption | rfl) rfl ?_
              refine x_iload (pc := 79) dX10_holds_79 rfl ?_
              refine x_iconstN (pc := 81) 1 dX10_holds_81 ic_1 ?_
              first | (guard_target =~ Wp _ _ _ _ _ (Value.int (nI _) :: Value.int (nI _) :: _) _ _ _ _; with_reducible refine x_isubN (pc := 82) ?_ dX10_holds_82 ?_; omega) | refine x_isub (pc := 82) dX10_holds_82 ?_
              refine x_iload (pc := 83) dX10_holds_83 rfl ?_
              refine x_bipush (pc := 85) dX10_holds_85 bp_m38 ?_
              refine x_icmp_ne (pc := 87) (tgt := 120) dX10_holds_87 (by decide) (fun h87 => ?_) (fun h87 => ?_)
              · skip
                refine x_aload_n (pc := 120) dX10_holds_120 rfl ?_
                refine x_getR (pc := 121) dX10_holds_121 flX10_92 (by first | assumption | rfl) rfl ?_
                refine x_iload (pc := 124) dX10_holds_124 rfl ?_
                refine x_iconstN (pc := 126) 1 dX10_holds_126 ic_1 ?_
                first | (guard_target =~ Wp _ _ _ _ _ (Value.int (nI _) :: Value.int (nI _) :: _) _ _ _ _; with_reducible refine x_isubN (pc := 127) ?_ dX10_holds_127 ?_; omega) | refine x_isub (pc := 127) dX10_holds_127 ?_
                refine x_zaldN (pc := 128) dX10_holds_128 (by first | assumption | rfl) (by first | with_reducible rfl | (simp only [xlit, nI_add, pk_mul]; with_reducible rfl)) (by omega) (by decide) ?_
                rw [show M1.1 81 (s.length + 1 - 1) = nI (b2n a) from hst.2.1]
                first | (guard_target =~ Wp _ _ _ _ _ (Value.int (nI _) :: _) _ _ _ _; with_reducible refine x_if_neN (pc := 129) (tgt := 142) ?_ dX10_holds_129 ?_ (fun h129 => ?_) (fun h129 => ?_); (first | omega | exact b2n_32 _ | exact b2n_31 _); decide) | refine x_if_ne (pc := 129) (tgt := 142) dX10_holds_129 (by decide) (fun h129 => ?_) (fun h129 => ?_)
                · skip
                  refine x_iconstN (pc := 142) 1 dX10_holds_142 ic_1 ?_
                  refine x_goto (pc := 143) (tgt := 147) dX10_holds_143 (by decide) ?_
                  refine x_zastN (pc := 147) dX10_holds_147 (by first | assumption | rfl) (by first | with_reducible rfl | (simp only [xlit, nI_add, pk_mul]; with_reducible rfl)) (by omega) (by decide) (by first | rfl | decide) ?_
                  refine x_goto (pc := 148) (tgt := 247) dX10_holds_148 (by decide) ?_
                  first | (guard_target =~ Wp _ _ _ _ (_ :: _ :: _ :: _ :: _ :: some (Value.int (nI _)) :: _) _ _ _ _ _; with_reducible refine x_iincN (pc := 247) 1 ic_1 dX10_holds_247 ?_ xg_5 xs_5 ?_ ?_; decide; exact (x_hp rfl)) | refine x_iincC (pc := 247) ic_1 dX10_holds_247 (by decide) rfl xs_5 (x_hp rfl) ?_
                  refine x_goto (pc := 250) (tgt := 11) dX10_holds_250 (by decide) ?_
                  exact ih (k + 1) (true :: s) _ _ _ _ (by rw [b2n_1 h129, Bool.true_or] at he; exact he) hy2 hj2 (by omega) (by simp only [List.length_cons]; omega) (stk_new hst.2.2 rfl) (ho.tr (only.put rfl))
                · skip
                  refine x_aload_n (pc := 132) dX10_holds_132 rfl ?_
                  refine x_getR (pc := 133) dX10_holds_133 flX10_92 (by first | assumption | rfl) rfl ?_
                  refine x_iload (pc := 136) dX10_holds_136 rfl ?_
                  refine x_zaldN (pc := 138) dX10_holds_138 (by first | assumption | rfl) (by first | with_reducible rfl | (simp only [xlit, nI_add, pk_mul]; with_reducible rfl)) (by omega) (by decide) ?_
                  rw [show M1.1 81 (s.length + 1) = nI (b2n b) from hst.1]
                  first | (guard_target =~ Wp _ _ _ _ _ (Value.int (nI _) :: _) _ _ _ _; with_reducible refine x_if_eqN (pc := 139) (tgt := 146) ?_ dX10_holds_139 ?_ (fun h139 => ?_) (fun h139 => ?_); (first | omega | exact b2n_32 _ | exact b2n_31 _); decide) | refine x_if_eq (pc := 139) (tgt := 146) dX10_holds_139 (by decide) (fun h139 => ?_) (fun h139 => ?_)
                  · skip
                    refine x_iconstN (pc := 146) 0 dX10_holds_146 ic_0 ?_
                    refine x_zastN (pc := 147) dX10_holds_147 (by first | assumption | rfl) (by first | with_reducible rfl | (simp only [xlit, nI_add, pk_mul]; with_reducible rfl)) (by omega) (by decide) (by first | rfl | decide) ?_
                    refine x_goto (pc := 148) (tgt := 247) dX10_holds_148 (by decide) ?_
                    first | (guard_target =~ Wp _ _ _ _ (_ :: _ :: _ :: _ :: _ :: some (Value.int (nI _)) :: _) _ _ _ _ _; with_reducible refine x_iincN (pc := 247) 1 ic_1 dX10_holds_247 ?_ xg_5 xs_5 ?_ ?_; decide; exact (x_hp rfl)) | refine x_iincC (pc := 247) ic_1 dX10_holds_247 (by decide) rfl xs_5 (x_hp rfl) ?_
                    refine x_goto (pc := 250) (tgt := 11) dX10_holds_250 (by decide) ?_
                    exact ih (k + 1) (false :: s) _ _ _ _ (by rw [b2n_0 h129, b2n_0 h139] at he; exact he) hy2 hj2 (by omega) (by simp only [List.length_cons]; omega) (stk_new hst.2.2 rfl) (ho.tr (only.put rfl))
                  · skip
                    refine x_iconstN (pc := 142) 1 dX10_holds_142 ic_1 ?_
                    refine x_goto (pc := 143) (tgt := 147) dX10_holds_143 (by decide) ?_
                    refine x_zastN (pc := 147) dX10_holds_147 (by first | assumption | rfl) (by first | with_reducible rfl | (simp only [xlit, nI_add, pk_mul]; with_reducible rfl)) (by omega) (by decide) (by first | rfl | decide) ?_
                    refine x_goto (pc := 148) (tgt := 247) dX10_holds_148 (by decide) ?_
                    first | (guard_target =~ Wp _ _ _ _ (_ :: _ :: _ :: _ :: _ :: some (Value.int (nI _)) :: _) _ _ _ _ _; with_reducible refine x_iincN (pc := 247) 1 ic_1 dX10_holds_247 ?_ xg_5 xs_5 ?_ ?_; decide; exact (x_hp rfl)) | refine x_iincC (pc := 247) ic_1 dX10_holds_247 (by decide) rfl xs_5 (x_hp rfl) ?_
                    refine x_goto (pc := 250) (tgt := 11) dX10_holds_250 (by decide) ?_
                    exact ih (k + 1) (true :: s) _ _ _ _ (by rw [b2n_1 h139, Bool.or_true] at he; exact he) hy2 hj2 (by omega) (by simp only [List.length_cons]; omega) (stk_new hst.2.2 rfl) (ho.tr (only.put rfl))
              · skip
                exact absurd h87 (by decide)
          · skip
            exact absurd h35 (by decide)
      | m + 3, s, he, hs, hst, hj0, hx =>
        have he2 : evO (fctC (fG gg (A 1 gg) (A 2 gg)) c) l (tstP (fctC (fG gg (A 1 gg) (A 2 gg)) c (m / 1000)) (m / 100 % 10) (m % 100) :: s) = some [e.2 (fctC (fG gg (A 1 gg) (A 2 gg)) c)] := by
          rw [← he]
          cases s with
          | nil => simp only [evO]
          | cons b s => cases s <;> simp only [evO]
        have hfm := hF (m / 1000) (by omega)
        have go : ∀ (v : Bool) (x : Int32) o6 o7 o8, tstP (fctC (fG gg (A 1 gg) (A 2 gg)) c (m / 1000)) (m / 100 % 10) (m % 100) = v → x = nI (b2n v) → Wp g (d + 1) mX10_holds 11 [some (.ref 65), some (.int (nI i)), some (.int (nI c)), some (.int (nI gg)), some (.int (nI (s.length + 1))), some (.int (nI (k + 1))), o6, o7, o8] [] xSF (0, 0) (xput M1 81 s.length x) K := by
          intro v x o6 o7 o8 hv hx
          exact ih (k + 1) (v :: s) _ _ _ _ (by rw [hv] at he2; exact he2) hy2 hj2 (by omega) (by simp only [List.length_cons]; omega) (stk_new hst hx) (ho.tr (only.put rfl))
        refine x_iload (pc := 11) dX10_holds_11 rfl ?_
        refine x_aload_n (pc := 13) dX10_holds_13 rfl ?_
        refine x_getR (pc := 14) dX10_holds_14 flX10_71 (by first | assumption | rfl) rfl ?_
        refine x_iload_n (pc := 17) dX10_holds_17 rfl ?_
        refine x_ialdN (pc := 18) dX10_holds_18 (by first | assumption | rfl) (by first | with_reducible rfl | (simp only [xlit, nI_add, pk_mul]; with_reducible rfl)) (by omega) (by decide) ?_
        rw [h7]
        first | (guard_target =~ Wp _ _ _ _ _ (Value.int (nI _) :: Value.int (nI _) :: _) _ _ _ _; with_reducible refine x_icmp_geN (pc := 19) (tgt := 253) ?_ ?_ dX10_holds_19 ?_ (fun h19 => ?_) (fun h19 => ?_); (first | omega | exact b2n_31 _); (first | omega | exact b2n_31 _); decide) | refine x_icmp_ge (pc := 19) (tgt := 253) dX10_holds_19 (by decide) (fun h19 => ?_) (fun h19 => ?_)
        · skip
          omega
        · skip
          refine x_aload_n (pc := 22) dX10_holds_22 rfl ?_
          refine x_getR (pc := 23) dX10_holds_23 flX10_74 (by first | assumption | rfl) rfl ?_
          refine x_iload (pc := 26) dX10_holds_26 rfl ?_
          refine x_ialdN (pc := 28) dX10_holds_28 (by first | assumption | rfl) (by first | with_reducible rfl | (simp only [xlit, nI_add, pk_mul]; with_reducible rfl)) (by omega) (by decide) ?_
          rw [hj0, show tokI (m + 3) = nI m from rfl]
          refine x_istore (pc := 29) dX10_holds_29 (by decide) xs_6 (x_hp rfl) ?_
          refine x_iload (pc := 31) dX10_holds_31 rfl ?_
          refine x_bipush (pc := 33) dX10_holds_33 bp_m33 ?_
          refine x_icmp_ne (pc := 35) (tgt := 67) dX10_holds_35 (by decide) (fun h35 => ?_) (fun h35 => ?_)
          · skip
            refine x_iload (pc := 67) dX10_holds_67 rfl ?_
            refine x_if_ge (pc := 69) (tgt := 151) dX10_holds_69 (by decide) (fun h69 => ?_) (fun h69 => ?_)
            · skip
              refine x_aload_n (pc := 151) dX10_holds_151 rfl ?_
              refine x_iload (pc := 152) dX10_holds_152 rfl ?_
              refine x_sipushN (pc := 154) 1000 dX10_holds_154 sp_1000 ?_
              first | (guard_target =~ Wp _ _ _ _ _ (Value.int (nI _) :: Value.int (nI _) :: _) _ _ _ _; with_reducible refine x_idivN (pc := 157) ?_ ?_ ?_ dX10_holds_157 ?_; omega; omega; omega) | refine x_idiv (pc := 157) dX10_holds_157 (by assumption) ?_
              refine x_iload_n (pc := 158) dX10_holds_158 rfl ?_
              refine x_iload_n (pc := 159) dX10_holds_159 rfl ?_
              refine x_invV3 (pc := 160) dX10_holds_160 mlX10_323 imX10_factOf seX10_factOf kX10_factOf (by first | assumption | rfl) rfl (Nat.le_of_ble_eq_true rfl) (by decide) ?_
              refine sm_factOf (hQ.keep ho pH_Q) (by omega) hc hg ?_
              refine x_cv rfl rfl ?_
              refine x_istore (pc := 163) dX10_holds_163 (by decide) xs_7 (x_hp rfl) ?_
              refine x_iload (pc := 165) dX10_holds_165 rfl ?_
              refine x_bipushN (pc := 167) 100 dX10_holds_167 bp_100 ?_
              first | (guard_target =~ Wp _ _ _ _ _ (Value.int (nI _) :: Value.int (nI _) :: _) _ _ _ _; with_reducible refine x_idivN (pc := 169) ?_ ?_ ?_ dX10_holds_169 ?_; omega; omega; omega) | refine x_idiv (pc := 169) dX10_holds_169 (by assumption) ?_
              refine x_bipushN (pc := 170) 10 dX10_holds_170 bp_10 ?_
              first | (guard_target =~ Wp _ _ _ _ _ (Value.int (nI _) :: Value.int (nI _) :: _) _ _ _ _; with_reducible refine x_iremN (pc := 172) ?_ ?_ ?_ dX10_holds_172 ?_; omega; omega; omega) | refine x_irem (pc := 172) dX10_holds_172 (by assumption) ?_
              refine x_istore (pc := 173) dX10_holds_173 (by decide) xs_8 (x_hp rfl) ?_
              refine x_aload_n (pc := 175) dX10_holds_175 rfl ?_
              refine x_getR (pc := 176) dX10_holds_176 flX10_92 (by first | assumption | rfl) rfl ?_
              refine x_iload (pc := 179) dX10_holds_179 rfl ?_
              refine x_iload (pc := 181) dX10_holds_181 rfl ?_
              first | (guard_target =~ Wp _ _ _ _ _ (Value.int (nI _) :: _) _ _ _ _; with_reducible refine x_if_neN (pc := 183) (tgt := 204) ?_ dX10_holds_183 ?_ (fun h183 => ?_) (fun h183 => ?_); (first | omega | exact b2n_32 _ | exact b2n_31 _); decide) | refine x_if_ne (pc := 183) (tgt := 204) dX10_holds_183 (by decide) (fun h183 => ?_) (fun h183 => ?_)
              · skip
                refine x_iload (pc := 204) dX10_holds_204 rfl ?_
                refine x_iconstN (pc := 206) 1 dX10_holds_206 ic_1 ?_
                first | (guard_target =~ Wp _ _ _ _ _ (Value.int (nI _) :: Value.int (nI _) :: _) _ _ _ _; with_reducible refine x_icmp_neN (pc := 207) (tgt := 228) ?_ ?_ dX10_holds_207 ?_ (fun h207 => ?_) (fun h207 => ?_); (first | omega | exact b2n_31 _); (first | omega | exact b2n_31 _); decide) | refine x_icmp_ne (pc := 207) (tgt := 228) dX10_holds_207 (by decide) (fun h207 => ?_) (fun h207 => ?_)
                · skip
                  refine x_iload (pc := 228) dX10_holds_228 rfl ?_
                  refine x_iload (pc := 230) dX10_holds_230 rfl ?_
                  refine x_bipushN (pc := 232) 100 dX10_holds_232 bp_100 ?_
                  first | (guard_target =~ Wp _ _ _ _ _ (Value.int (nI _) :: Value.int (nI _) :: _) _ _ _ _; with_reducible refine x_iremN (pc := 234) ?_ ?_ ?_ dX10_holds_234 ?_; omega; omega; omega) | refine x_irem (pc := 234) dX10_holds_234 (by assumption) ?_
                  first | (guard_target =~ Wp _ _ _ _ _ (Value.int (nI _) :: Value.int (nI _) :: _) _ _ _ _; with_reducible refine x_icmp_leN (pc := 235) (tgt := 242) ?_ ?_ dX10_holds_235 ?_ (fun h235 => ?_) (fun h235 => ?_); (first | omega | exact b2n_31 _); (first | omega | exact b2n_31 _); decide) | refine x_icmp_le (pc := 235) (tgt := 242) dX10_holds_235 (by decide) (fun h235 => ?_) (fun h235 => ?_)
                  · skip
                    refine x_iconstN (pc := 242) 0 dX10_holds_242 ic_0 ?_
                    refine x_zastN (pc := 243) dX10_holds_243 (by first | assumption | rfl) (by first | with_reducible rfl | (simp only [xlit, nI_add, pk_mul]; with_reducible rfl)) (by omega) (by decide) (by first | rfl | decide) ?_
                    first | (guard_target =~ Wp _ _ _ _ (_ :: _ :: _ :: _ :: some (Value.int (nI _)) :: _) _ _ _ _ _; with_reducible refine x_iincN (pc := 244) 1 ic_1 dX10_holds_244 ?_ xg_4 xs_4 ?_ ?_; decide; exact (x_hp rfl)) | refine x_iincC (pc := 244) ic_1 dX10_holds_244 (by decide) rfl xs_4 (x_hp rfl) ?_
                    first | (guard_target =~ Wp _ _ _ _ (_ :: _ :: _ :: _ :: _ :: some (Value.int (nI _)) :: _) _ _ _ _ _; with_reducible refine x_iincN (pc := 247) 1 ic_1 dX10_holds_247 ?_ xg_5 xs_5 ?_ ?_; decide; exact (x_hp rfl)) | refine x_iincC (pc := 247) ic_1 dX10_holds_247 (by decide) rfl xs_5 (x_hp rfl) ?_
                    refine x_goto (pc := 250) (tgt := 11) dX10_holds_250 (by decide) ?_
                    exact go false _ _ _ _ (by unfold tstP; rw [if_neg h183, if_neg h207]; exact decide_eq_false (by omega)) rfl
                  · skip
                    refine x_iconstN (pc := 238) 1 dX10_holds_238 ic_1 ?_
                    refine x_goto (pc := 239) (tgt := 243) dX10_holds_239 (by decide) ?_
                    refine x_zastN (pc := 243) dX10_holds_243 (by first | assumption | rfl) (by first | with_reducible rfl | (simp only [xlit, nI_add, pk_mul]; with_reducible rfl)) (by omega) (by decide) (by first | rfl | decide) ?_
                    first | (guard_target =~ Wp _ _ _ _ (_ :: _ :: _ :: _ :: some (Value.int (nI _)) :: _) _ _ _ _ _; with_reducible refine x_iincN (pc := 244) 1 ic_1 dX10_holds_244 ?_ xg_4 xs_4 ?_ ?_; decide; exact (x_hp rfl)) | refine x_iincC (pc := 244) ic_1 dX10_holds_244 (by decide) rfl xs_4 (x_hp rfl) ?_
                    first | (guard_target =~ Wp _ _ _ _ (_ :: _ :: _ :: _ :: _ :: some (Value.int (nI _)) :: _) _ _ _ _ _; with_reducible refine x_iincN (pc := 247) 1 ic_1 dX10_holds_247 ?_ xg_5 xs_5 ?_ ?_; decide; exact (x_hp rfl)) | refine x_iincC (pc := 247) ic_1 dX10_holds_247 (by decide) rfl xs_5 (x_hp rfl) ?_
                    refine x_goto (pc := 250) (tgt := 11) dX10_holds_250 (by decide) ?_
                    exact go true _ _ _ _ (by unfold tstP; rw [if_neg h183, if_neg h207]; exact decide_eq_true (by omega)) rfl
                · skip
                  refine x_iload (pc := 210) dX10_holds_210 rfl ?_
                  refine x_iload (pc := 212) dX10_holds_212 rfl ?_
                  refine x_bipushN (pc := 214) 100 dX10_holds_214 bp_100 ?_
                  first | (guard_target =~ Wp _ _ _ _ _ (Value.int (nI _) :: Value.int (nI _) :: _) _ _ _ _; with_reducible refine x_iremN (pc := 216) ?_ ?_ ?_ dX10_holds_216 ?_; omega; omega; omega) | refine x_irem (pc := 216) dX10_holds_216 (by assumption) ?_
                  first | (guard_target =~ Wp _ _ _ _ _ (Value.int (nI _) :: Value.int (nI _) :: _) _ _ _ _; with_reducible refine x_icmp_neN (pc := 217) (tgt := 224) ?_ ?_ dX10_holds_217 ?_ (fun h217 => ?_) (fun h217 => ?_); (first | omega | exact b2n_31 _); (first | omega | exact b2n_31 _); decide) | refine x_icmp_ne (pc := 217) (tgt := 224) dX10_holds_217 (by decide) (fun h217 => ?_) (fun h217 => ?_)
                  · skip
                    refine x_iconstN (pc := 224) 0 dX10_holds_224 ic_0 ?_
                    refine x_goto (pc := 225) (tgt := 243) dX10_holds_225 (by decide) ?_
                    refine x_zastN (pc := 243) dX10_holds_243 (by first | assumption | rfl) (by first | with_reducible rfl | (simp only [xlit, nI_add, pk_mul]; with_reducible rfl)) (by omega) (by decide) (by first | rfl | decide) ?_
                    first | (guard_target =~ Wp _ _ _ _ (_ :: _ :: _ :: _ :: some (Value.int (nI _)) :: _) _ _ _ _ _; with_reducible refine x_iincN (pc := 244) 1 ic_1 dX10_holds_244 ?_ xg_4 xs_4 ?_ ?_; decide; exact (x_hp rfl)) | refine x_iincC (pc := 244) ic_1 dX10_holds_244 (by decide) rfl xs_4 (x_hp rfl) ?_
                    first | (guard_target =~ Wp _ _ _ _ (_ :: _ :: _ :: _ :: _ :: some (Value.int (nI _)) :: _) _ _ _ _ _; with_reducible refine x_iincN (pc := 247) 1 ic_1 dX10_holds_247 ?_ xg_5 xs_5 ?_ ?_; decide; exact (x_hp rfl)) | refine x_iincC (pc := 247) ic_1 dX10_holds_247 (by decide) rfl xs_5 (x_hp rfl) ?_
                    refine x_goto (pc := 250) (tgt := 11) dX10_holds_250 (by decide) ?_
                    exact go false _ _ _ _ (by unfold tstP; rw [if_neg h183, if_pos h207]; exact decide_eq_false (by omega)) rfl
                  · skip
                    refine x_iconstN (pc := 220) 1 dX10_holds_220 ic_1 ?_
                    refine x_goto (pc := 221) (tgt := 243) dX10_holds_221 (by decide) ?_
                    refine x_zastN (pc := 243) dX10_holds_243 (by first | assumption | rfl) (by first | with_reducible rfl | (simp only [xlit, nI_add, pk_mul]; with_reducible rfl)) (by omega) (by decide) (by first | rfl | decide) ?_
                    first | (guard_target =~ Wp _ _ _ _ (_ :: _ :: _ :: _ :: some (Value.int (nI _)) :: _) _ _ _ _ _; with_reducible refine x_iincN (pc := 244) 1 ic_1 dX10_holds_244 ?_ xg_4 xs_4 ?_ ?_; decide; exact (x_hp rfl)) | refine x_iincC (pc := 244) ic_1 dX10_holds_244 (by decide) rfl xs_4 (x_hp rfl) ?_
                    first | (guard_target =~ Wp _ _ _ _ (_ :: _ :: _ :: _ :: _ :: some (Value.int (nI _)) :: _) _ _ _ _ _; with_reducible refine x_iincN (pc := 247) 1 ic_1 dX10_holds_247 ?_ xg_5 xs_5 ?_ ?_; decide; exact (x_hp rfl)) | refine x_iincC (pc := 247) ic_1 dX10_holds_247 (by decide) rfl xs_5 (x_hp rfl) ?_
                    refine x_goto (pc := 250) (tgt := 11) dX10_holds_250 (by decide) ?_
                    exact go true _ _ _ _ (by unfold tstP; rw [if_neg h183, if_pos h207]; exact decide_eq_true (by omega)) rfl
              · skip
                refine x_iload (pc := 186) dX10_holds_186 rfl ?_
                refine x_iload (pc := 188) dX10_holds_188 rfl ?_
                refine x_bipushN (pc := 190) 100 dX10_holds_190 bp_100 ?_
                first | (guard_target =~ Wp _ _ _ _ _ (Value.int (nI _) :: Value.int (nI _) :: _) _ _ _ _; with_reducible refine x_iremN (pc := 192) ?_ ?_ ?_ dX10_holds_192 ?_; omega; omega; omega) | refine x_irem (pc := 192) dX10_holds_192 (by assumption) ?_
                first | (guard_target =~ Wp _ _ _ _ _ (Value.int (nI _) :: Value.int (nI _) :: _) _ _ _ _; with_reducible refine x_icmp_geN (pc := 193) (tgt := 200) ?_ ?_ dX10_holds_193 ?_ (fun h193 => ?_) (fun h193 => ?_); (first | omega | exact b2n_31 _); (first | omega | exact b2n_31 _); decide) | refine x_icmp_ge (pc := 193) (tgt := 200) dX10_holds_193 (by decide) (fun h193 => ?_) (fun h193 => ?_)
                · skip
                  refine x_iconstN (pc := 200) 0 dX10_holds_200 ic_0 ?_
                  refine x_goto (pc := 201) (tgt := 243) dX10_holds_201 (by decide) ?_
                  refine x_zastN (pc := 243) dX10_holds_243 (by first | assumption | rfl) (by first | with_reducible rfl | (simp only [xlit, nI_add, pk_mul]; with_reducible rfl)) (by omega) (by decide) (by first | rfl | decide) ?_
                  first | (guard_target =~ Wp _ _ _ _ (_ :: _ :: _ :: _ :: some (Value.int (nI _)) :: _) _ _ _ _ _; with_reducible refine x_iincN (pc := 244) 1 ic_1 dX10_holds_244 ?_ xg_4 xs_4 ?_ ?_; decide; exact (x_hp rfl)) | refine x_iincC (pc := 244) ic_1 dX10_holds_244 (by decide) rfl xs_4 (x_hp rfl) ?_
                  first | (guard_target =~ Wp _ _ _ _ (_ :: _ :: _ :: _ :: _ :: some (Value.int (nI _)) :: _) _ _ _ _ _; with_reducible refine x_iincN (pc := 247) 1 ic_1 dX10_holds_247 ?_ xg_5 xs_5 ?_ ?_; decide; exact (x_hp rfl)) | refine x_iincC (pc := 247) ic_1 dX10_holds_247 (by decide) rfl xs_5 (x_hp rfl) ?_
                  refine x_goto (pc := 250) (tgt := 11) dX10_holds_250 (by decide) ?_
                  exact go false _ _ _ _ (by unfold tstP; rw [if_pos h183]; exact decide_eq_false (by omega)) rfl
                · skip
                  refine x_iconstN (pc := 196) 1 dX10_holds_196 ic_1 ?_
                  refine x_goto (pc := 197) (tgt := 243) dX10_holds_197 (by decide) ?_
                  refine x_zastN (pc := 243) dX10_holds_243 (by first | assumption | rfl) (by first | with_reducible rfl | (simp only [xlit, nI_add, pk_mul]; with_reducible rfl)) (by omega) (by decide) (by first | rfl | decide) ?_
                  first | (guard_target =~ Wp _ _ _ _ (_ :: _ :: _ :: _ :: some (Value.int (nI _)) :: _) _ _ _ _ _; with_reducible refine x_iincN (pc := 244) 1 ic_1 dX10_holds_244 ?_ xg_4 xs_4 ?_ ?_; decide; exact (x_hp rfl)) | refine x_iincC (pc := 244) ic_1 dX10_holds_244 (by decide) rfl xs_4 (x_hp rfl) ?_
                  first | (guard_target =~ Wp _ _ _ _ (_ :: _ :: _ :: _ :: _ :: some (Value.int (nI _)) :: _) _ _ _ _ _; with_reducible refine x_iincN (pc := 247) 1 ic_1 dX10_holds_247 ?_ xg_5 xs_5 ?_ ?_; decide; exact (x_hp rfl)) | refine x_iincC (pc := 247) ic_1 dX10_holds_247 (by decide) rfl xs_5 (x_hp rfl) ?_
                  refine x_goto (pc := 250) (tgt := 11) dX10_holds_250 (by decide) ?_
                  exact go true _ _ _ _ (by unfold tstP; rw [if_pos h183]; exact decide_eq_true (by omega)) rfl
            · skip
              exact absurd (nI_pos' (by omega)) h69
          · skip
            exact absurd h35 (fun z => absurd (nI_pos' (show m < 2 ^ 31 by omega)) (by rw [z]; decide))
  refine x_iconstN (pc := 0) 0 dX10_holds_0 ic_0 ?_
  refine x_istore (pc := 1) dX10_holds_1 (by decide) xs_4 (x_hp rfl) ?_
  refine x_aload_n (pc := 3) dX10_holds_3 rfl ?_
  refine x_getR (pc := 4) dX10_holds_4 flX10_68 (by first | assumption | rfl) rfl ?_
  refine x_iload_n (pc := 7) dX10_holds_7 rfl ?_
  refine x_ialdN (pc := 8) dX10_holds_8 (by first | assumption | rfl) (by first | with_reducible rfl | (simp only [xlit, nI_add, pk_mul]; with_reducible rfl)) (by omega) (by decide) ?_
  rw [h76]
  refine x_istore (pc := 9) dX10_holds_9 (by decide) xs_5 (x_hp rfl) ?_
  exact loop e.1 f0 [] M _ _ _ (by have := hW (fctC (fG gg (A 1 gg) (A 2 gg)) c) [] []; rw [List.append_nil] at this; exact this) hy hsg rfl (by simp; omega) trivial only.rf
end P75
