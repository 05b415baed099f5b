/-! the MODEL: begin, behind, bald, yieldsOf -/
/-- the present room's clauses, from b0 on -/
def MLs (M : XM) (L : List XCl) (b0 : Nat) : Prop := okL L ∧ (∀ x, x ∈ L → x.1 < 2 → WFe x.2.2) ∧ ((M.1 65 11 = -1 ∧ L = [] ∧ b0 = 0) ∨ ∃ b, b < 6 ∧ M.1 65 11 = nI b ∧ b0 = 10 * b ∧ M.1 73 b = nI L.length ∧ ∀ i x, L[i]? = some x → MCl M b (b0 + i) x)
def wL (a k : Nat) : Bool := (a == 65 && k == 11) || (decide (73 ≤ a) && decide (a ≤ 78))
theorem MLs.keep {p : Nat → Nat → Bool} {M M' : XM} {L : List XCl} {b0 : Nat} (h : MLs M L b0) (hs : only p M M') (hp : ∀ a k, wL a k = true → p a k = false) : MLs M' L b0 := by
  have e : ∀ a k, wL a k = true → M'.1 a k = M.1 a k := fun a k q => hs.1 a k (hp a k q)
  have er : ∀ a, 73 ≤ a → a ≤ 78 → M'.1 a = M.1 a := fun a h1 h2 => funext fun k => e a k (by simp [wL]; omega)
  obtain ⟨h1, h2, h3⟩ := h
  refine ⟨h1, h2, ?_⟩
  unfold MCl at h3 ⊢
  rw [e 65 11 rfl, er 73 (by decide) (by decide), er 74 (by decide) (by decide), er 75 (by decide) (by decide), er 76 (by decide) (by decide), er 77 (by decide) (by decide), er 78 (by decide) (by decide)]
  exact h3
theorem MRm.ls {M : XM} {tx : Nat → Nat → Nat} {ln : Nat → Nat} {made : Nat} {r : Int32} {L : List XCl} (h : MRm M tx ln made) (hm : made ≤ 6) (hL : RmL tx ln made r L) (hr : M.1 65 11 = r) : ∃ b0, MLs M L b0 := by
  obtain ⟨h1, h2, h3, h4⟩ := h
  obtain ⟨o1, o2⟩ := hL
  rcases o2 with ⟨rfl, rfl⟩ | ⟨b, q, hb, rfl, hp⟩
  · exact ⟨0, okL_nil, fun x hx => (by cases hx), Or.inl ⟨hr, rfl, rfl⟩⟩
  · obtain ⟨a1, a2⟩ := h4 b hb L q hp
    refine ⟨10 * b, o1, pR_w 9 0 L q hp, Or.inr ⟨b, by omega, hr, rfl, a1, fun i x hx => a2 i ?_ x hx⟩⟩
    exact (List.getElem?_eq_some_iff.mp hx).1
theorem pH_L : ∀ a k, wL a k = true → pH a k = false := by intro a k h; simp [wL, pH] at h ⊢; omega
theorem nI_oI (n : Nat) : nI n = Int32.ofInt (n : Int) := rfl
theorem nI_ng (n : Nat) : -nI n = Int32.ofInt (-(n : Int)) := by rw [nI_oI, ← Int32.ofInt_neg]
section P76
variable {g : XG} {d : Nat} {M : XM} {K : Option Value → XS → XM → Prop} {A : XA} {W gg b0 : Nat} {L : List XCl}
theorem sm_begin (hL : MLs M L b0) (h : K (some (.int (nI b0))) xSF M) : Ex g d yX10_begin mX10_begin [.ref 65] xSF M K := by
  refine x_entry kX10_begin (Nat.le_of_ble_eq_true rfl) ?_
  show Wp g _ mX10_begin 0 [some (.ref 65)] [] _ _ _ _
  rcases hL.2.2 with ⟨h1, h2, h3⟩ | ⟨b, h1, h2, h3, h4⟩
  · subst h3
    refine x_aload_n (pc := 0) dX10_begin_0 rfl ?_
    refine x_getI (pc := 1) dX10_begin_1 flX10_44 (by first | assumption | rfl) rfl ?_
    rw [h1]
    refine x_if_ge (pc := 4) (tgt := 11) dX10_begin_4 (by decide) (fun h4 => ?_) (fun h4 => ?_)
    · skip
      exact absurd h4 (by decide)
    · skip
      refine x_iconstN (pc := 7) 0 dX10_begin_7 ic_0 ?_
      refine x_goto (pc := 8) (tgt := 18) dX10_begin_8 (by decide) ?_
      refine x_ret (pc := 18) (v := some _) rfl trivial dX10_begin_18 (by decide) ?_
      exact h
  · subst h3
    refine x_aload_n (pc := 0) dX10_begin_0 rfl ?_
    refine x_getI (pc := 1) dX10_begin_1 flX10_44 (by first | assumption | rfl) rfl ?_
    rw [h2]
    refine x_if_ge (pc := 4) (tgt := 11) dX10_begin_4 (by decide) (fun h4 => ?_) (fun h4 => ?_)
    · skip
      refine x_bipushN (pc := 11) 10 dX10_begin_11 bp_10 ?_
      refine x_aload_n (pc := 13) dX10_begin_13 rfl ?_
      refine x_getI (pc := 14) dX10_begin_14 flX10_44 (by first | assumption | rfl) rfl ?_
      rw [h2]
      first | (guard_target =~ Wp _ _ _ _ _ (Value.int (nI _) :: Value.int (nI _) :: _) _ _ _ _; with_reducible refine x_imulN (pc := 17) dX10_begin_17 ?_) | refine x_imul (pc := 17) dX10_begin_17 ?_
      refine x_ret (pc := 18) (v := some _) rfl trivial dX10_begin_18 (by decide) ?_
      exact h
    · skip
      exact absurd (nI_pos' (by omega)) h4
theorem sm_behind (hL : MLs M L b0) (h : K (some (.int (nI (b0 + L.length)))) xSF M) : Ex g d yX10_behind mX10_behind [.ref 65] xSF M K := by
  refine x_entry kX10_behind (Nat.le_of_ble_eq_true rfl) ?_
  show Wp g _ mX10_behind 0 [some (.ref 65)] [] _ _ _ _
  rcases hL.2.2 with ⟨h1, h2, h3⟩ | ⟨b, h1, h2, h3, h5, h6⟩
  · subst h3
    subst h2
    refine x_aload_n (pc := 0) dX10_behind_0 rfl ?_
    refine x_getI (pc := 1) dX10_behind_1 flX10_44 (by first | assumption | rfl) rfl ?_
    rw [h1]
    refine x_if_ge (pc := 4) (tgt := 11) dX10_behind_4 (by decide) (fun h4 => ?_) (fun h4 => ?_)
    · skip
      exact absurd h4 (by decide)
    · skip
      refine x_iconstN (pc := 7) 0 dX10_behind_7 ic_0 ?_
      refine x_goto (pc := 8) (tgt := 28) dX10_behind_8 (by decide) ?_
      refine x_ret (pc := 28) (v := some _) rfl trivial dX10_behind_28 (by decide) ?_
      exact h
  · subst h3
    refine x_aload_n (pc := 0) dX10_behind_0 rfl ?_
    refine x_getI (pc := 1) dX10_behind_1 flX10_44 (by first | assumption | rfl) rfl ?_
    rw [h2]
    refine x_if_ge (pc := 4) (tgt := 11) dX10_behind_4 (by decide) (fun h4 => ?_) (fun h4 => ?_)
    · skip
      refine x_bipushN (pc := 11) 10 dX10_behind_11 bp_10 ?_
      refine x_aload_n (pc := 13) dX10_behind_13 rfl ?_
      refine x_getI (pc := 14) dX10_behind_14 flX10_44 (by first | assumption | rfl) rfl ?_
      rw [h2]
      first | (guard_target =~ Wp _ _ _ _ _ (Value.int (nI _) :: Value.int (nI _) :: _) _ _ _ _; with_reducible refine x_imulN (pc := 17) dX10_behind_17 ?_) | refine x_imul (pc := 17) dX10_behind_17 ?_
      refine x_aload_n (pc := 18) dX10_behind_18 rfl ?_
      refine x_getR (pc := 19) dX10_behind_19 flX10_59 (by first | assumption | rfl) rfl ?_
      refine x_aload_n (pc := 22) dX10_behind_22 rfl ?_
      refine x_getI (pc := 23) dX10_behind_23 flX10_44 (by first | assumption | rfl) rfl ?_
      rw [h2]
      refine x_ialdN (pc := 26) dX10_behind_26 (by first | assumption | rfl) (by first | with_reducible rfl | (simp only [xlit, nI_add, pk_mul]; with_reducible rfl)) (by omega) (by decide) ?_
      rw [h5]
      first | (guard_target =~ Wp _ _ _ _ _ (Value.int (nI _) :: Value.int (nI _) :: _) _ _ _ _; with_reducible refine x_iaddN (pc := 27) dX10_behind_27 ?_) | refine x_iadd (pc := 27) dX10_behind_27 ?_
      refine x_ret (pc := 28) (v := some _) rfl trivial dX10_behind_28 (by decide) ?_
      exact h
    · skip
      exact absurd (nI_pos' (by omega)) h4
theorem MLs.at (hL : MLs M L b0) {i : Nat} {x : XCl} (hx : L[i]? = some x) : ∃ b, b < 6 ∧ b0 = 10 * b ∧ i < 10 ∧ MCl M b (b0 + i) x := by
  have hi := (List.getElem?_eq_some_iff.mp hx).1
  rcases hL.2.2 with ⟨h1, h2, h3⟩ | ⟨b, h1, h2, h3, h5, h6⟩
  · subst h2; cases hi
  · exact ⟨b, h1, h3, Nat.lt_of_lt_of_le hi hL.1.1, h6 i x hx⟩
theorem sm_bald (hL : MLs M L b0) (h : K (some (.int (nI (bldF 30 L)))) xSF M) : Ex g (d + 1) yX10_bald mX10_bald [.ref 65] xSF M K := by
  have hl := hL.1.1
  have hb60 : b0 + L.length ≤ 60 := by
    rcases hL.2.2 with ⟨h1, h2, h3⟩ | ⟨b, h1, h2, h3, h5, h6⟩
    · omega
    · omega
  refine x_entry kX10_bald (Nat.le_of_ble_eq_true rfl) ?_
  show Wp g _ mX10_bald 0 [some (.ref 65), none, none] [] _ _ _ _
  have loop : ∀ l pre n, L = pre ++ l → n < 100 → bldF n l = bldF 30 L → Wp g (d + 1) mX10_bald 8 [some (.ref 65), some (.int (nI n)), some (.int (nI (b0 + pre.length)))] [] xSF (0, 0) M K := by
    intro l
    induction l with
    | nil =>
      intro pre n hpre hn he
      have hlen : L.length = pre.length := by rw [hpre]; simp
      refine x_iload_n (pc := 8) dX10_bald_8 rfl ?_
      refine x_aload_n (pc := 9) dX10_bald_9 rfl ?_
      refine x_invV0 (pc := 10) dX10_bald_10 mlX10_320 imX10_behind seX10_behind kX10_behind (by first | assumption | rfl) rfl (Nat.le_of_ble_eq_true rfl) (by decide) ?_
      refine sm_behind hL ?_
      refine x_cv rfl rfl ?_
      first | (guard_target =~ Wp _ _ _ _ _ (Value.int (nI _) :: Value.int (nI _) :: _) _ _ _ _; with_reducible refine x_icmp_geN (pc := 13) (tgt := 43) ?_ ?_ dX10_bald_13 ?_ (fun h13 => ?_) (fun h13 => ?_); (first | omega | exact b2n_31 _); (first | omega | exact b2n_31 _); decide) | refine x_icmp_ge (pc := 13) (tgt := 43) dX10_bald_13 (by decide) (fun h13 => ?_) (fun h13 => ?_)
      · skip
        refine x_iload_n (pc := 43) dX10_bald_43 rfl ?_
        refine x_ret (pc := 44) (v := some _) rfl trivial dX10_bald_44 (by decide) ?_
        rw [← he] at h; exact h
      · skip
        omega
    | cons x l ih =>
      intro pre n hpre hn he
      have hlen : L.length = pre.length + (l.length + 1) := by rw [hpre]; simp
      have hx : L[pre.length]? = some x := by rw [hpre]; simp
      obtain ⟨b, hb, hb0, hi, m1, m2, m3⟩ := hL.at hx
      have hxm : x ∈ L := List.mem_of_getElem? hx
      obtain ⟨k1, k2, k3⟩ := hL.1.2 x hxm
      have nx : ∀ n', n' < 100 → n' = (if x.1 = 2 then x.2.1 else n) → Wp g (d + 1) mX10_bald 8 [some (.ref 65), some (.int (nI n')), some (.int (nI (b0 + pre.length + 1)))] [] xSF (0, 0) M K := by
        intro n' hn' e'
        have := ih (pre ++ [x]) n' (by rw [hpre]; simp) hn' (by rw [e']; exact he)
        rw [show (pre ++ [x]).length = pre.length + 1 by simp] at this
        exact this
      refine x_iload_n (pc := 8) dX10_bald_8 rfl ?_
      refine x_aload_n (pc := 9) dX10_bald_9 rfl ?_
      refine x_invV0 (pc := 10) dX10_bald_10 mlX10_320 imX10_behind seX10_behind kX10_behind (by first | assumption | rfl) rfl (Nat.le_of_ble_eq_true rfl) (by decide) ?_
      refine sm_behind hL ?_
      refine x_cv rfl rfl ?_
      first | (guard_target =~ Wp _ _ _ _ _ (Value.int (nI _) :: Value.int (nI _) :: _) _ _ _ _; with_reducible refine x_icmp_geN (pc := 13) (tgt := 43) ?_ ?_ dX10_bald_13 ?_ (fun h13 => ?_) (fun h13 => ?_); (first | omega | exact b2n_31 _); (first | omega | exact b2n_31 _); decide) | refine x_icmp_ge (pc := 13) (tgt := 43) dX10_bald_13 (by decide) (fun h13 => ?_) (fun h13 => ?_)
      · skip
        omega
      · skip
        refine x_aload_n (pc := 16) dX10_bald_16 rfl ?_
        refine x_getR (pc := 17) dX10_bald_17 flX10_62 (by first | assumption | rfl) rfl ?_
        refine x_iload_n (pc := 20) dX10_bald_20 rfl ?_
        refine x_ialdN (pc := 21) dX10_bald_21 (by first | assumption | rfl) (by first | with_reducible rfl | (simp only [xlit, nI_add, pk_mul]; with_reducible rfl)) (by omega) (by decide) ?_
        rw [m1]
        refine x_iconstN (pc := 22) 2 dX10_bald_22 ic_2 ?_
        first | (guard_target =~ Wp _ _ _ _ _ (Value.int (nI _) :: Value.int (nI _) :: _) _ _ _ _; with_reducible refine x_icmp_neN (pc := 23) (tgt := 35) ?_ ?_ dX10_bald_23 ?_ (fun h23 => ?_) (fun h23 => ?_); (first | omega | exact b2n_31 _); (first | omega | exact b2n_31 _); decide) | refine x_icmp_ne (pc := 23) (tgt := 35) dX10_bald_23 (by decide) (fun h23 => ?_) (fun h23 => ?_)
        · skip
          refine x_iload_n (pc := 35) dX10_bald_35 rfl ?_
          refine x_istore_n (pc := 36) dX10_bald_36 (by decide) xs_1 (x_hp rfl) ?_
          first | (guard_target =~ Wp _ _ _ _ (_ :: _ :: some (Value.int (nI _)) :: _) _ _ _ _ _; with_reducible refine x_iincN (pc := 37) 1 ic_1 dX10_bald_37 ?_ xg_2 xs_2 ?_ ?_; decide; exact (x_hp rfl)) | refine x_iincC (pc := 37) ic_1 dX10_bald_37 (by decide) rfl xs_2 (x_hp rfl) ?_
          refine x_goto (pc := 40) (tgt := 8) dX10_bald_40 (by decide) ?_
          exact nx n hn (by rw [if_neg (by omega)])
        · skip
          refine x_aload_n (pc := 26) dX10_bald_26 rfl ?_
          refine x_getR (pc := 27) dX10_bald_27 flX10_65 (by first | assumption | rfl) rfl ?_
          refine x_iload_n (pc := 30) dX10_bald_30 rfl ?_
          refine x_ialdN (pc := 31) dX10_bald_31 (by first | assumption | rfl) (by first | with_reducible rfl | (simp only [xlit, nI_add, pk_mul]; with_reducible rfl)) (by omega) (by decide) ?_
          rw [m2]
          refine x_goto (pc := 32) (tgt := 36) dX10_bald_32 (by decide) ?_
          refine x_istore_n (pc := 36) dX10_bald_36 (by decide) xs_1 (x_hp rfl) ?_
          first | (guard_target =~ Wp _ _ _ _ (_ :: _ :: some (Value.int (nI _)) :: _) _ _ _ _ _; with_reducible refine x_iincN (pc := 37) 1 ic_1 dX10_bald_37 ?_ xg_2 xs_2 ?_ ?_; decide; exact (x_hp rfl)) | refine x_iincC (pc := 37) ic_1 dX10_bald_37 (by decide) rfl xs_2 (x_hp rfl) ?_
          refine x_goto (pc := 40) (tgt := 8) dX10_bald_40 (by decide) ?_
          exact nx x.2.1 k1 (by rw [if_pos (by omega)])
  refine x_bipushN (pc := 0) 30 dX10_bald_0 bp_30 ?_
  refine x_istore_n (pc := 2) dX10_bald_2 (by decide) xs_1 (x_hp rfl) ?_
  refine x_aload_n (pc := 3) dX10_bald_3 rfl ?_
  refine x_invV0 (pc := 4) dX10_bald_4 mlX10_317 imX10_begin seX10_begin kX10_begin (by first | assumption | rfl) rfl (Nat.le_of_ble_eq_true rfl) (by decide) ?_
  refine sm_begin hL ?_
  refine x_cv rfl rfl ?_
  refine x_istore_n (pc := 7) dX10_bald_7 (by decide) xs_2 (x_hp rfl) ?_
  exact loop L [] 30 rfl (by decide) rfl
theorem sm_yieldsOf {c : Nat} (hL : MLs M L b0) (hB : bdA A) (hQ : MNow M A W) (hg : gg < 6) (hc : c < 16) (h : ∀ M', only pH M M' → K (some (.int (nI (yvF (fG gg (A 1 gg) (A 2 gg)) L c)))) xSF M') : Ex g (d + 2) yX10_yieldsOf mX10_yieldsOf [.ref 65, .int (nI c), .int (nI gg)] xSF M K := by
  have hl := hL.1.1
  have hb60 : b0 + L.length ≤ 60 := by
    rcases hL.2.2 with ⟨h1, h2, h3⟩ | ⟨b, h1, h2, h3, h5, h6⟩
    · omega
    · omega
  have hbd := sumF_bd (f := fctC (fG gg (A 1 gg) (A 2 gg)) c) L 1 (fun x hx => (hL.1.2 x hx).1)
  refine x_entry kX10_yieldsOf (Nat.le_of_ble_eq_true rfl) ?_
  show Wp g _ mX10_yieldsOf 0 [some (.ref 65), some (.int (nI c)), some (.int (nI gg)), none, none] [] _ _ _ _
  have loop : ∀ l pre z M1, L = pre ++ l → only pH M M1 → sumF (fctC (fG gg (A 1 gg) (A 2 gg)) c) z l = sumF (fctC (fG gg (A 1 gg) (A 2 gg)) c) 1 L → Wp g (d + 2) mX10_yieldsOf 8 [some (.ref 65), some (.int (nI c)), some (.int (nI gg)), some (.int (Int32.ofInt z)), some (.int (nI (b0 + pre.length)))] [] xSF (0, 0) M1 K := by
    intro l
    induction l with
    | nil =>
      intro pre z M1 hpre ho he
      have hlen : L.length = pre.length := by rw [hpre]; simp
      have hz : z = sumF (fctC (fG gg (A 1 gg) (A 2 gg)) c) 1 L := he
      have hzt : (Int32.ofInt z).toInt = z := Int32.toInt_ofInt_of_le (by omega) (by omega)
      refine x_iload (pc := 8) dX10_yieldsOf_8 rfl ?_
      refine x_aload_n (pc := 10) dX10_yieldsOf_10 rfl ?_
      refine x_invV0 (pc := 11) dX10_yieldsOf_11 mlX10_320 imX10_behind seX10_behind kX10_behind (by first | assumption | rfl) rfl (Nat.le_of_ble_eq_true rfl) (by decide) ?_
      refine sm_behind (hL.keep ho pH_L) ?_
      refine x_cv rfl rfl ?_
      first | (guard_target =~ Wp _ _ _ _ _ (Value.int (nI _) :: Value.int (nI _) :: _) _ _ _ _; with_reducible refine x_icmp_geN (pc := 14) (tgt := 79) ?_ ?_ dX10_yieldsOf_14 ?_ (fun h14 => ?_) (fun h14 => ?_); (first | omega | exact b2n_31 _); (first | omega | exact b2n_31 _); decide) | refine x_icmp_ge (pc := 14) (tgt := 79) dX10_yieldsOf_14 (by decide) (fun h14 => ?_) (fun h14 => ?_)
      · skip
        refine x_iload_n (pc := 79) dX10_yieldsOf_79 rfl ?_
        refine x_if_ge (pc := 80) (tgt := 87) dX10_yieldsOf_80 (by decide) (fun h80 => ?_) (fun h80 => ?_)
        · skip
          refine x_iload_n (pc := 87) dX10_yieldsOf_87 rfl ?_
          refine x_ret (pc := 88) (v := some _) rfl trivial dX10_yieldsOf_88 (by decide) ?_
          have h3 : 0 ≤ z := by have := Int32.le_iff_toInt_le.mp h80; rw [hzt] at this; exact this
          have e : Int32.ofInt z = nI (yvF (fG gg (A 1 gg) (A 2 gg)) L c) := by unfold yvF; rw [← hz, nI_oI, Int.toNat_of_nonneg h3]
          rw [e]; exact h M1 ho
        · skip
          refine x_iconstN (pc := 83) 0 dX10_yieldsOf_83 ic_0 ?_
          refine x_goto (pc := 84) (tgt := 88) dX10_yieldsOf_84 (by decide) ?_
          refine x_ret (pc := 88) (v := some _) rfl trivial dX10_yieldsOf_88 (by decide) ?_
          have h3 : z < 0 := by have := Int32.lt_iff_toInt_lt.mp (Int32.not_le.mp h80); rw [hzt] at this; exact this
          have e : yvF (fG gg (A 1 gg) (A 2 gg)) L c = 0 := by unfold yvF; rw [← hz]; omega
          rw [e] at h; exact h M1 ho
      · skip
        omega
    | cons x l ih =>
      intro pre z M1 hpre ho he
      have hlen : L.length = pre.length + (l.length + 1) := by rw [hpre]; simp
      have hx : L[pre.length]? = some x := by rw [hpre]; simp
      have hL1 := hL.keep ho pH_L
      obtain ⟨b, hb, hb0, hi, m1, m2, m3⟩ := hL1.at hx
      have hxm : x ∈ L := List.mem_of_getElem? hx
      obtain ⟨k1, k2, k3⟩ := hL.1.2 x hxm
      have nx : ∀ z' M2, only pH M M2 → z' = z + wgtC (fctC (fG gg (A 1 gg) (A 2 gg)) c) x → Wp g (d + 2) mX10_yieldsOf 8 [some (.ref 65), some (.int (nI c)), some (.int (nI gg)), some (.int (Int32.ofInt z')), some (.int (nI (b0 + pre.length + 1)))] [] xSF (0, 0) M2 K := by
        intro z' M2 ho2 e'
        have := ih (pre ++ [x]) z' M2 (by rw [hpre]; simp) ho2 (by rw [e']; exact he)
        rw [show (pre ++ [x]).length = pre.length + 1 by simp] at this
        exact this
      by_cases h2 : x.1 < 2
      · obtain ⟨f0, f1, f2, f3, f4, f5⟩ := m3 h2
        refine x_iload (pc := 8) dX10_yieldsOf_8 rfl ?_
        refine x_aload_n (pc := 10) dX10_yieldsOf_10 rfl ?_
        refine x_invV0 (pc := 11) dX10_yieldsOf_11 mlX10_320 imX10_behind seX10_behind kX10_behind (by first | assumption | rfl) rfl (Nat.le_of_ble_eq_true rfl) (by decide) ?_
        refine sm_behind hL1 ?_
        refine x_cv rfl rfl ?_
        first | (guard_target =~ Wp _ _ _ _ _ (Value.int (nI _) :: Value.int (nI _) :: _) _ _ _ _; with_reducible refine x_icmp_geN (pc := 14) (tgt := 79) ?_ ?_ dX10_yieldsOf_14 ?_ (fun h14 => ?_) (fun h14 => ?_); (first | omega | exact b2n_31 _); (first | omega | exact b2n_31 _); decide) | refine x_icmp_ge (pc := 14) (tgt := 79) dX10_yieldsOf_14 (by decide) (fun h14 => ?_) (fun h14 => ?_)
        · skip
          omega
        · skip
          refine x_aload_n (pc := 17) dX10_yieldsOf_17 rfl ?_
          refine x_getR (pc := 18) dX10_yieldsOf_18 flX10_62 (by first | assumption | rfl) rfl ?_
          refine x_iload (pc := 21) dX10_yieldsOf_21 rfl ?_
          refine x_ialdN (pc := 23) dX10_yieldsOf_23 (by first | assumption | rfl) (by first | with_reducible rfl | (simp only [xlit, nI_add, pk_mul]; with_reducible rfl)) (by omega) (by decide) ?_
          rw [m1]
          refine x_iconstN (pc := 24) 1 dX10_yieldsOf_24 ic_1 ?_
          first | (guard_target =~ Wp _ _ _ _ _ (Value.int (nI _) :: Value.int (nI _) :: _) _ _ _ _; with_reducible refine x_icmp_gtN (pc := 25) (tgt := 73) ?_ ?_ dX10_yieldsOf_25 ?_ (fun h25 => ?_) (fun h25 => ?_); (first | omega | exact b2n_31 _); (first | omega | exact b2n_31 _); decide) | refine x_icmp_gt (pc := 25) (tgt := 73) dX10_yieldsOf_25 (by decide) (fun h25 => ?_) (fun h25 => ?_)
          · skip
            omega
          · skip
            refine x_aload_n (pc := 28) dX10_yieldsOf_28 rfl ?_
            refine x_iload (pc := 29) dX10_yieldsOf_29 rfl ?_
            refine x_iload_n (pc := 31) dX10_yieldsOf_31 rfl ?_
            refine x_iload_n (pc := 32) dX10_yieldsOf_32 rfl ?_
            refine x_invV3 (pc := 33) dX10_yieldsOf_33 mlX10_327 imX10_holds seX10_holds kX10_holds (by first | assumption | rfl) rfl (Nat.le_of_ble_eq_true rfl) (by decide) ?_
            refine sm_holds (hL.2.1 x hxm h2) k3 (by omega) hc hg (hQ.keep ho pH_Q) hB f3 f4 f5 (by omega) (by omega) (fun M2 ho2 => ?_)
            refine x_cv rfl rfl ?_
            first | (guard_target =~ Wp _ _ _ _ _ (Value.int (nI _) :: _) _ _ _ _; with_reducible refine x_if_neN (pc := 36) (tgt := 42) ?_ dX10_yieldsOf_36 ?_ (fun h36 => ?_) (fun h36 => ?_); (first | omega | exact b2n_32 _ | exact b2n_31 _); decide) | refine x_if_ne (pc := 36) (tgt := 42) dX10_yieldsOf_36 (by decide) (fun h36 => ?_) (fun h36 => ?_)
            · skip
              refine x_iload_n (pc := 42) dX10_yieldsOf_42 rfl ?_
              refine x_aload_n (pc := 43) dX10_yieldsOf_43 rfl ?_
              refine x_getR (pc := 44) dX10_yieldsOf_44 flX10_62 (by first | assumption | rfl) rfl ?_
              refine x_iload (pc := 47) dX10_yieldsOf_47 rfl ?_
              refine x_ialdN (pc := 49) dX10_yieldsOf_49 (by first | assumption | rfl) (by first | with_reducible rfl | (simp only [xlit, nI_add, pk_mul]; with_reducible rfl)) (by omega) (by decide) ?_
              rw [show M2.1 74 (b0 + pre.length) = nI x.1 from (ho2.1 74 _ rfl).trans m1]
              first | (guard_target =~ Wp _ _ _ _ _ (Value.int (nI _) :: _) _ _ _ _; with_reducible refine x_if_neN (pc := 50) (tgt := 63) ?_ dX10_yieldsOf_50 ?_ (fun h50 => ?_) (fun h50 => ?_); (first | omega | exact b2n_32 _ | exact b2n_31 _); decide) | refine x_if_ne (pc := 50) (tgt := 63) dX10_yieldsOf_50 (by decide) (fun h50 => ?_) (fun h50 => ?_)
              · skip
                refine x_aload_n (pc := 63) dX10_yieldsOf_63 rfl ?_
                refine x_getR (pc := 64) dX10_yieldsOf_64 flX10_65 (by first | assumption | rfl) rfl ?_
                refine x_iload (pc := 67) dX10_yieldsOf_67 rfl ?_
                refine x_ialdN (pc := 69) dX10_yieldsOf_69 (by first | assumption | rfl) (by first | with_reducible rfl | (simp only [xlit, nI_add, pk_mul]; with_reducible rfl)) (by omega) (by decide) ?_
                rw [show M2.1 75 (b0 + pre.length) = nI x.2.1 from (ho2.1 75 _ rfl).trans m2]
                refine x_ineg (pc := 70) dX10_yieldsOf_70 ?_
                rw [nI_ng]
                refine x_iadd (pc := 71) dX10_yieldsOf_71 ?_
                try (first | rw [oI_add] | rw [show Int32.ofInt z + nI x.2.1 = Int32.ofInt (z + (x.2.1 : Int)) by rw [nI_oI, oI_add]])
                refine x_istore_n (pc := 72) dX10_yieldsOf_72 (by decide) xs_3 (x_hp rfl) ?_
                first | (guard_target =~ Wp _ _ _ _ (_ :: _ :: _ :: _ :: some (Value.int (nI _)) :: _) _ _ _ _ _; with_reducible refine x_iincN (pc := 73) 1 ic_1 dX10_yieldsOf_73 ?_ xg_4 xs_4 ?_ ?_; decide; exact (x_hp rfl)) | refine x_iincC (pc := 73) ic_1 dX10_yieldsOf_73 (by decide) rfl xs_4 (x_hp rfl) ?_
                refine x_goto (pc := 76) (tgt := 8) dX10_yieldsOf_76 (by decide) ?_
                exact nx _ M2 (ho.tr ho2) (by unfold wgtC; rw [b2n_1 h36, if_pos ⟨rfl, h2⟩, if_pos (by omega)])
              · skip
                refine x_aload_n (pc := 53) dX10_yieldsOf_53 rfl ?_
                refine x_getR (pc := 54) dX10_yieldsOf_54 flX10_65 (by first | assumption | rfl) rfl ?_
                refine x_iload (pc := 57) dX10_yieldsOf_57 rfl ?_
                refine x_ialdN (pc := 59) dX10_yieldsOf_59 (by first | assumption | rfl) (by first | with_reducible rfl | (simp only [xlit, nI_add, pk_mul]; with_reducible rfl)) (by omega) (by decide) ?_
                rw [show M2.1 75 (b0 + pre.length) = nI x.2.1 from (ho2.1 75 _ rfl).trans m2]
                refine x_goto (pc := 60) (tgt := 71) dX10_yieldsOf_60 (by decide) ?_
                try (first | rw [oI_add] | rw [show Int32.ofInt z + nI x.2.1 = Int32.ofInt (z + (x.2.1 : Int)) by rw [nI_oI, oI_add]])
                refine x_iadd (pc := 71) dX10_yieldsOf_71 ?_
                try (first | rw [oI_add] | rw [show Int32.ofInt z + nI x.2.1 = Int32.ofInt (z + (x.2.1 : Int)) by rw [nI_oI, oI_add]])
                refine x_istore_n (pc := 72) dX10_yieldsOf_72 (by decide) xs_3 (x_hp rfl) ?_
                first | (guard_target =~ Wp _ _ _ _ (_ :: _ :: _ :: _ :: some (Value.int (nI _)) :: _) _ _ _ _ _; with_reducible refine x_iincN (pc := 73) 1 ic_1 dX10_yieldsOf_73 ?_ xg_4 xs_4 ?_ ?_; decide; exact (x_hp rfl)) | refine x_iincC (pc := 73) ic_1 dX10_yieldsOf_73 (by decide) rfl xs_4 (x_hp rfl) ?_
                refine x_goto (pc := 76) (tgt := 8) dX10_yieldsOf_76 (by decide) ?_
                exact nx _ M2 (ho.tr ho2) (by unfold wgtC; rw [b2n_1 h36, if_pos ⟨rfl, h2⟩, if_neg (by omega)])
            · skip
              refine x_goto (pc := 39) (tgt := 73) dX10_yieldsOf_39 (by decide) ?_
              first | (guard_target =~ Wp _ _ _ _ (_ :: _ :: _ :: _ :: some (Value.int (nI _)) :: _) _ _ _ _ _; with_reducible refine x_iincN (pc := 73) 1 ic_1 dX10_yieldsOf_73 ?_ xg_4 xs_4 ?_ ?_; decide; exact (x_hp rfl)) | refine x_iincC (pc := 73) ic_1 dX10_yieldsOf_73 (by decide) rfl xs_4 (x_hp rfl) ?_
              refine x_goto (pc := 76) (tgt := 8) dX10_yieldsOf_76 (by decide) ?_
              exact nx z M2 (ho.tr ho2) (by unfold wgtC; rw [b2n_0 h36]; simp)
      · skip
        refine x_iload (pc := 8) dX10_yieldsOf_8 rfl ?_
        refine x_aload_n (pc := 10) dX10_yieldsOf_10 rfl ?_
        refine x_invV0 (pc := 11) dX10_yieldsOf_11 mlX10_320 imX10_behind seX10_behind kX10_behind (by first | assumption | rfl) rfl (Nat.le_of_ble_eq_true rfl) (by decide) ?_
        refine sm_behind hL1 ?_
        refine x_cv rfl rfl ?_
        first | (guard_target =~ Wp _ _ _ _ _ (Value.int (nI _) :: Value.int (nI _) :: _) _ _ _ _; with_reducible refine x_icmp_geN (pc := 14) (tgt := 79) ?_ ?_ dX10_yieldsOf_14 ?_ (fun h14 => ?_) (fun h14 => ?_); (first | omega | exact b2n_31 _); (first | omega | exact b2n_31 _); decide) | refine x_icmp_ge (pc := 14) (tgt := 79) dX10_yieldsOf_14 (by decide) (fun h14 => ?_) (fun h14 => ?_)
        · skip
          omega
        · skip
          refine x_aload_n (pc := 17) dX10_yieldsOf_17 rfl ?_
          refine x_getR (pc := 18) dX10_yieldsOf_18 flX10_62 (by first | assumption | rfl) rfl ?_
          refine x_iload (pc := 21) dX10_yieldsOf_21 rfl ?_
          refine x_ialdN (pc := 23) dX10_yieldsOf_23 (by first | assumption | rfl) (by first | with_reducible rfl | (simp only [xlit, nI_add, pk_mul]; with_reducible rfl)) (by omega) (by decide) ?_
          rw [m1]
          refine x_iconstN (pc := 24) 1 dX10_yieldsOf_24 ic_1 ?_
          first | (guard_target =~ Wp _ _ _ _ _ (Value.int (nI _) :: Value.int (nI _) :: _) _ _ _ _; with_reducible refine x_icmp_gtN (pc := 25) (tgt := 73) ?_ ?_ dX10_yieldsOf_25 ?_ (fun h25 => ?_) (fun h25 => ?_); (first | omega | exact b2n_31 _); (first | omega | exact b2n_31 _); decide) | refine x_icmp_gt (pc := 25) (tgt := 73) dX10_yieldsOf_25 (by decide) (fun h25 => ?_) (fun h25 => ?_)
          · skip
            first | (guard_target =~ Wp _ _ _ _ (_ :: _ :: _ :: _ :: some (Value.int (nI _)) :: _) _ _ _ _ _; with_reducible refine x_iincN (pc := 73) 1 ic_1 dX10_yieldsOf_73 ?_ xg_4 xs_4 ?_ ?_; decide; exact (x_hp rfl)) | refine x_iincC (pc := 73) ic_1 dX10_yieldsOf_73 (by decide) rfl xs_4 (x_hp rfl) ?_
            refine x_goto (pc := 76) (tgt := 8) dX10_yieldsOf_76 (by decide) ?_
            exact nx z M1 ho (by unfold wgtC; rw [if_neg (fun q => h2 q.2)]; omega)
          · skip
            omega
  refine x_iconstN (pc := 0) 1 dX10_yieldsOf_0 ic_1 ?_
  refine x_istore_n (pc := 1) dX10_yieldsOf_1 (by decide) xs_3 (x_hp rfl) ?_
  refine x_aload_n (pc := 2) dX10_yieldsOf_2 rfl ?_
  refine x_invV0 (pc := 3) dX10_yieldsOf_3 mlX10_317 imX10_begin seX10_begin kX10_begin (by first | assumption | rfl) rfl (Nat.le_of_ble_eq_true rfl) (by decide) ?_
  refine sm_begin hL ?_
  refine x_cv rfl rfl ?_
  refine x_istore (pc := 6) dX10_yieldsOf_6 (by decide) xs_4 (x_hp rfl) ?_
  exact loop L [] 1 M rfl only.rf rfl
end P76
