/-! the MODEL's calls: who -/
theorem xsum_pos {f : Nat → Nat} : ∀ n, 0 < xsum f n ↔ ∃ i, i < n ∧ 0 < f i := by
  intro n
  induction n with
  | zero => simp [xsum]
  | succ n ih =>
    rw [xsum]
    constructor
    · intro h
      by_cases h0 : 0 < f n
      · exact ⟨n, by omega, h0⟩
      · obtain ⟨i, h1, h2⟩ := ih.mp (by omega)
        exact ⟨i, by omega, h2⟩
    · rintro ⟨i, h1, h2⟩
      by_cases hi : i = n
      · subst hi; omega
      · have := ih.mpr ⟨i, by omega, h2⟩
        omega
theorem orF_tb {s : Nat} {P : Nat → Nat} {c : Nat} : ∀ n, (orF s P n).testBit c = true ↔ ∃ g, g < n ∧ s.testBit g = true ∧ (P g).testBit c = true := by
  intro n
  induction n with
  | zero => simp [orF]
  | succ n ih =>
    rw [orF, Nat.testBit_or, Bool.or_eq_true, ih]
    constructor
    · rintro (⟨g, h1, h2, h3⟩ | h)
      · exact ⟨g, by omega, h2, h3⟩
      · by_cases hs : s.testBit n = true
        · rw [if_pos hs] at h; exact ⟨n, by omega, hs, h⟩
        · rw [if_neg hs, Nat.zero_testBit] at h; cases h
    · rintro ⟨g, h1, h2, h3⟩
      by_cases hg : g = n
      · subst hg; rw [if_pos h2]; exact Or.inr h3
      · exact Or.inl ⟨g, by omega, h2, h3⟩
theorem trd_w {A : XA} {w w' : Int32} {g c n : Nat} (h : tb w g = tb w' g) : trd A w g c n = trd A w' g c n := by unfold trd; rw [h]
/-- the print of a set of goers -/
theorem prt_set {A : XA} {W s n : Nat} (hs : s < 64) (h6 : A 8 0 ≤ 6) (hW : W < 64) (hz : s &&& W = 0) : xset (fun c => decide (0 < gainA A (nI (63 ^^^ s)) c n)) 16 = orF s (fun g => prtA A (nI W) g n) (A 8 0) := by
  have m : ∀ g, g < 6 → Nat.testBit 63 g = true := by decide +kernel
  apply Nat.eq_of_testBit_eq
  intro c
  rw [xset_tb, Bool.eq_iff_iff, Bool.and_eq_true, decide_eq_true_eq, decide_eq_true_eq, orF_tb]
  unfold gainA
  rw [xsum_pos]
  have hnz : ∀ g, s.testBit g = true → W.testBit g = false := by
    intro g hg
    have : (s &&& W).testBit g = false := by rw [hz, Nat.zero_testBit]
    rw [Nat.testBit_and, hg, Bool.true_and] at this
    exact this
  constructor
  · rintro ⟨hc, g, hg, h⟩
    have et : tb (nI (63 ^^^ s)) g = !s.testBit g := by rw [tb_nI (by omega), Nat.testBit_xor, m g (by omega)]; simp
    cases hsg : s.testBit g with
    | false =>
      rw [hsg] at et
      rw [show trd A (nI (63 ^^^ s)) g c n = 0 by unfold trd; rw [if_pos (Or.inl (show tb (nI (63 ^^^ s)) g = true from et))], Nat.zero_mul] at h
      omega
    | true =>
      refine ⟨g, hg, hsg, ?_⟩
      unfold prtA
      rw [xset_tb, decide_eq_true hc, Bool.true_and]
      refine decide_eq_true ?_
      rw [← trd_w (w := nI (63 ^^^ s)) (by rw [et, hsg, tb_nI (by omega), hnz g hsg]; rfl)]
      exact h
  · rintro ⟨g, hg, hsg, h⟩
    have et : tb (nI (63 ^^^ s)) g = !s.testBit g := by rw [tb_nI (by omega), Nat.testBit_xor, m g (by omega)]; simp
    unfold prtA at h
    rw [xset_tb, Bool.and_eq_true, decide_eq_true_eq, decide_eq_true_eq] at h
    refine ⟨h.1, g, hg, ?_⟩
    rw [trd_w (w' := nI W) (by rw [et, hsg, tb_nI (by omega), hnz g hsg]; rfl)]
    exact h.2
section P87
variable {g : XG} {d : Nat} {M M0 : XM} {K : Option Value → XS → XM → Prop} {s : XSt}
/-- the state between prints: scratch alone changed, what each wears off laid -/
def Lz (M M1 : XM) (A : XA) (L : List XCl) : Prop := only pZ M M1 ∧ ∀ j, j < 64 * A 8 0 → M1.1 85 j = nI (wnF A L j)
theorem sm_isPrint {t p n : Nat} (hC : MC9 M0 s) (ok : okM s) (hz : Lz M0 M s.1.1 s.1.2.2.2.2) (ht : t < 64) (hp : p < 65536) (hn : n ≤ 20) (hW : t &&& s.1.2.1 = 0) (h : ∀ M', Lz M0 M' s.1.1 s.1.2.2.2.2 → K (some (.int (nI (b2n (hlB s.1.1 s.1.2.1 n t p))))) xSF M') : Ex g (d + 3) yX10_isPrint mX10_isPrint [.ref 65, .int (nI t), .int (nI p), .int (nI n)] xSF M K := by
  have hB := ok.bd
  have h6 := hB.2.1
  obtain ⟨b0, hL⟩ := hC.ls ok
  have hQ := hC.1.mq.keep hz.1 pZ_Q
  have hL2 := ok.cache
  have hstd := ok.std
  have h11 := hstd.2
  have hpr := prt_set (A := s.1.1) (n := n) ht h6 ok.away hW
  have hwho : whoW (nI (63 ^^^ t)) (s.1.1 8 0) t := by
    intro g hg
    have m : ∀ g, g < 6 → Nat.testBit 63 g = true := by decide +kernel
    rw [tb_nI (by omega), Nat.testBit_xor, m g (by omega)]; simp
  have hval : hlB s.1.1 s.1.2.1 n t p = decide (xset (fun c => decide (0 < gainA s.1.1 (nI (63 ^^^ t)) c n)) 16 = p) := by
    unfold hlB
    rw [hpr, decide_eq_true hW, Bool.true_and]
  have hxl : xset (fun c => decide (0 < gainA s.1.1 (nI (63 ^^^ t)) c n)) 16 < 65536 := xset_lt (n := 16)
  refine x_entry kX10_isPrint (Nat.le_of_ble_eq_true rfl) ?_
  show Wp g _ mX10_isPrint 0 [some (.ref 65), some (.int (nI t)), some (.int (nI p)), some (.int (nI n)), none, none] [] _ _ _ _
  have read : ∀ M4, only pY M M4 → kpt M M4 → (∀ j, j < 64 * s.1.1 8 0 → M4.1 85 j = nI (wnF s.1.1 s.1.2.2.2.2 j)) → (∀ c, c < 16 → M4.1 66 c = nI (gainA s.1.1 (nI (63 ^^^ t)) c n) ∧ gainA s.1.1 (nI (63 ^^^ t)) c n < 60000000) → ∀ m c, c + m = 16 → Wp g (d + 3) mX10_isPrint 40 [some (.ref 65), some (.int (nI t)), some (.int (nI p)), some (.int (nI n)), some (.int (nI (xset (fun c => decide (0 < gainA s.1.1 (nI (63 ^^^ t)) c n)) c))), some (.int (nI c))] [] xSF (0, 0) M4 K := by
    intro M4 ho4 hk4 h85 hx m
    induction m with
    | zero =>
      intro c hc
      obtain rfl : c = 16 := by omega
      have fin : ∀ M5, only pZ M M5 → only pB M4 M5 → Lz M0 M5 s.1.1 s.1.2.2.2.2 := fun M5 ho5 hb5 => ⟨hz.1.tr ho5, fun j q => (hb5.1 85 j rfl).trans (h85 j q)⟩
      refine x_iload (pc := 40) dX10_isPrint_40 rfl ?_
      refine x_bipushN (pc := 42) 16 dX10_isPrint_42 bp_16 ?_
      first | (guard_target =~ Wp _ _ _ _ _ (Value.int (nI _) :: Value.int (nI _) :: _) _ _ _ _; with_reducible refine x_icmp_geN (pc := 44) (tgt := 76) ?_ ?_ dX10_isPrint_44 ?_ (fun h44 => ?_) (fun h44 => ?_); (first | omega | exact b2n_31 _); (first | omega | exact b2n_31 _); decide) | refine x_icmp_ge (pc := 44) (tgt := 76) dX10_isPrint_44 (by decide) (fun h44 => ?_) (fun h44 => ?_)
      · skip
        refine x_aload_n (pc := 76) dX10_isPrint_76 rfl ?_
        refine x_invV0 (pc := 77) dX10_isPrint_77 mlX10_378 imX10_putBack seX10_putBack kX10_putBack (by first | assumption | rfl) rfl (Nat.le_of_ble_eq_true rfl) (by decide) ?_
        refine sm_putBack ho4 hk4 ((hz.1.1 65 33 rfl).trans hC.2.2.2.2.2.1) (fun M5 ho5 hb5 => ?_)
        refine x_cn rfl rfl ?_
        refine x_iload (pc := 80) dX10_isPrint_80 rfl ?_
        refine x_iload_n (pc := 82) dX10_isPrint_82 rfl ?_
        first | (guard_target =~ Wp _ _ _ _ _ (Value.int (nI _) :: Value.int (nI _) :: _) _ _ _ _; with_reducible refine x_icmp_neN (pc := 83) (tgt := 90) ?_ ?_ dX10_isPrint_83 ?_ (fun h83 => ?_) (fun h83 => ?_); (first | omega | exact b2n_31 _); (first | omega | exact b2n_31 _); decide) | refine x_icmp_ne (pc := 83) (tgt := 90) dX10_isPrint_83 (by decide) (fun h83 => ?_) (fun h83 => ?_)
        · skip
          refine x_iconstN (pc := 90) 0 dX10_isPrint_90 ic_0 ?_
          refine x_ret (pc := 91) (v := some _) rfl (by first | rfl | decide | exact xrt_b) dX10_isPrint_91 (by decide) ?_
          rw [hval, decide_eq_false h83] at h; exact h M5 (fin M5 ho5 hb5)
        · skip
          refine x_iconstN (pc := 86) 1 dX10_isPrint_86 ic_1 ?_
          refine x_goto (pc := 87) (tgt := 91) dX10_isPrint_87 (by decide) ?_
          refine x_ret (pc := 91) (v := some _) rfl (by first | rfl | decide | exact xrt_b) dX10_isPrint_91 (by decide) ?_
          rw [hval, decide_eq_true h83] at h; exact h M5 (fin M5 ho5 hb5)
      · skip
        omega
    | succ m ih =>
      intro c hc
      have hxc := hx c (by omega)
      have nx := ih (c + 1) (by omega)
      rw [xset] at nx
      refine x_iload (pc := 40) dX10_isPrint_40 rfl ?_
      refine x_bipushN (pc := 42) 16 dX10_isPrint_42 bp_16 ?_
      first | (guard_target =~ Wp _ _ _ _ _ (Value.int (nI _) :: Value.int (nI _) :: _) _ _ _ _; with_reducible refine x_icmp_geN (pc := 44) (tgt := 76) ?_ ?_ dX10_isPrint_44 ?_ (fun h44 => ?_) (fun h44 => ?_); (first | omega | exact b2n_31 _); (first | omega | exact b2n_31 _); decide) | refine x_icmp_ge (pc := 44) (tgt := 76) dX10_isPrint_44 (by decide) (fun h44 => ?_) (fun h44 => ?_)
      · skip
        omega
      · skip
        refine x_iload (pc := 47) dX10_isPrint_47 rfl ?_
        refine x_aload_n (pc := 49) dX10_isPrint_49 rfl ?_
        refine x_getR (pc := 50) dX10_isPrint_50 flX10_22 (by first | assumption | rfl) rfl ?_
        refine x_iload (pc := 53) dX10_isPrint_53 rfl ?_
        refine x_ialdN (pc := 55) dX10_isPrint_55 (by first | assumption | rfl) (by first | with_reducible rfl | (simp only [xlit, nI_add, pk_mul]; with_reducible rfl)) (by omega) (by decide) ?_
        rw [hxc.1]
        first | (guard_target =~ Wp _ _ _ _ _ (Value.int (nI _) :: _) _ _ _ _; with_reducible refine x_if_leN (pc := 56) (tgt := 66) ?_ dX10_isPrint_56 ?_ (fun h56 => ?_) (fun h56 => ?_); (first | omega | exact b2n_32 _ | exact b2n_31 _); decide) | refine x_if_le (pc := 56) (tgt := 66) dX10_isPrint_56 (by decide) (fun h56 => ?_) (fun h56 => ?_)
        · skip
          refine x_iconstN (pc := 66) 0 dX10_isPrint_66 ic_0 ?_
          try rw [Nat.one_mul]
          first | (guard_target =~ Wp _ _ _ _ _ (Value.int (nI _) :: Value.int (nI _) :: _) _ _ _ _; with_reducible refine x_iorN (pc := 67) dX10_isPrint_67 ?_) | refine x_ior (pc := 67) dX10_isPrint_67 ?_
          refine x_istore (pc := 68) dX10_isPrint_68 (by decide) xs_4 (x_hp rfl) ?_
          first | (guard_target =~ Wp _ _ _ _ (_ :: _ :: _ :: _ :: _ :: some (Value.int (nI _)) :: _) _ _ _ _ _; with_reducible refine x_iincN (pc := 70) 1 ic_1 dX10_isPrint_70 ?_ xg_5 xs_5 ?_ ?_; decide; exact (x_hp rfl)) | refine x_iincC (pc := 70) ic_1 dX10_isPrint_70 (by decide) rfl xs_5 (x_hp rfl) ?_
          refine x_goto (pc := 73) (tgt := 40) dX10_isPrint_73 (by decide) ?_
          rw [decide_eq_false (by omega)] at nx; exact nx
        · skip
          refine x_iconstN (pc := 59) 1 dX10_isPrint_59 ic_1 ?_
          refine x_iload (pc := 60) dX10_isPrint_60 rfl ?_
          first | (guard_target =~ Wp _ _ _ _ _ (Value.int (nI _) :: Value.int (nI _) :: _) _ _ _ _; with_reducible refine x_ishlN (pc := 62) ?_ dX10_isPrint_62 ?_; omega) | refine x_ishl (pc := 62) dX10_isPrint_62 ?_
          refine x_goto (pc := 63) (tgt := 67) dX10_isPrint_63 (by decide) ?_
          try rw [Nat.one_mul]
          first | (guard_target =~ Wp _ _ _ _ _ (Value.int (nI _) :: Value.int (nI _) :: _) _ _ _ _; with_reducible refine x_iorN (pc := 67) dX10_isPrint_67 ?_) | refine x_ior (pc := 67) dX10_isPrint_67 ?_
          refine x_istore (pc := 68) dX10_isPrint_68 (by decide) xs_4 (x_hp rfl) ?_
          first | (guard_target =~ Wp _ _ _ _ (_ :: _ :: _ :: _ :: _ :: some (Value.int (nI _)) :: _) _ _ _ _ _; with_reducible refine x_iincN (pc := 70) 1 ic_1 dX10_isPrint_70 ?_ xg_5 xs_5 ?_ ?_; decide; exact (x_hp rfl)) | refine x_iincC (pc := 70) ic_1 dX10_isPrint_70 (by decide) rfl xs_5 (x_hp rfl) ?_
          refine x_goto (pc := 73) (tgt := 40) dX10_isPrint_73 (by decide) ?_
          rw [decide_eq_true (by omega)] at nx; exact nx
  have zero : ∀ M2, only pS M M2 → kpt M M2 → M2.1 65 33 = nI 2000000000 → ∀ m c M3, c + m = 16 → only (fun a k => a == 66 && decide (k < 16)) M2 M3 → (∀ j, j < c → M3.1 66 j = nI 0) → Wp g (d + 3) mX10_isPrint 7 [some (.ref 65), some (.int (nI t)), some (.int (nI p)), some (.int (nI n)), some (.int (nI c)), none] [] xSF (0, 0) M3 K := by
    intro M2 ho2 hk2 h33 m
    induction m with
    | zero =>
      intro c M3 hc ho3 hj
      obtain rfl : c = 16 := by omega
      have k3 : kpt M M3 := hk2.keep ho3 (by intro a k q; simp; omega)
      have o3 : only pY M M3 := (ho2.wide pY_S).tr (ho3.wide (by intro a k q; simp at q; simp [pY, pB, q]))
      refine x_iload (pc := 7) dX10_isPrint_7 rfl ?_
      refine x_bipushN (pc := 9) 16 dX10_isPrint_9 bp_16 ?_
      first | (guard_target =~ Wp _ _ _ _ _ (Value.int (nI _) :: Value.int (nI _) :: _) _ _ _ _; with_reducible refine x_icmp_geN (pc := 11) (tgt := 28) ?_ ?_ dX10_isPrint_11 ?_ (fun h11 => ?_) (fun h11 => ?_); (first | omega | exact b2n_31 _); (first | omega | exact b2n_31 _); decide) | refine x_icmp_ge (pc := 11) (tgt := 28) dX10_isPrint_11 (by decide) (fun h11 => ?_) (fun h11 => ?_)
      · skip
        refine x_aload_n (pc := 28) dX10_isPrint_28 rfl ?_
        refine x_iload_n (pc := 29) dX10_isPrint_29 rfl ?_
        refine x_iload_n (pc := 30) dX10_isPrint_30 rfl ?_
        refine x_invV2 (pc := 31) dX10_isPrint_31 mlX10_367 imX10_goDays seX10_goDays kX10_goDays (by first | assumption | rfl) rfl (Nat.le_of_ble_eq_true rfl) (by decide) ?_
        refine sm_goDays (X := fun _ => 0) (Wn := wnF s.1.1 s.1.2.2.2.2) (dd := s.1.1 11 0) (mx := 2000000000) h6 ((ho3.1 65 0 rfl).trans ((ho2.1 65 0 rfl).trans hQ.1)) ((ho3.1 65 3 rfl).trans ((ho2.1 65 3 rfl).trans hQ.2.2.2.1)) (by omega) (by omega) ((ho3.1 65 33 rfl).trans h33) (by decide) (fun c hc => ⟨hj c hc, by omega⟩) (fun j q => ⟨(ho3.1 85 j rfl).trans ((ho2.1 85 j rfl).trans (hz.2 j q)), wnF_le hL.1 hB q⟩) (fun M4 ho4 hx4 _ => ?_)
        refine x_cn rfl rfl ?_
        refine x_iconstN (pc := 34) 0 dX10_isPrint_34 ic_0 ?_
        refine x_istore (pc := 35) dX10_isPrint_35 (by decide) xs_4 (x_hp rfl) ?_
        refine x_iconstN (pc := 37) 0 dX10_isPrint_37 ic_0 ?_
        refine x_istore (pc := 38) dX10_isPrint_38 (by decide) xs_5 (x_hp rfl) ?_
        refine read M4 (o3.tr (ho4.wide pY_D)) (k3.keep ho4 pD_K) (fun j q => (ho4.1 85 j rfl).trans ((ho3.1 85 j rfl).trans ((ho2.1 85 j rfl).trans (hz.2 j q)))) (fun c hc => ?_) 16 0 (by omega)
        have hb := gain_bd (n := n) hc hL2 hL.1 hB t hwho
        refine ⟨(hx4 c hc).trans (congrArg nI ?_), by omega⟩
        rw [gain_dy hc hL2 hwho]; omega
      · skip
        omega
    | succ m ih =>
      intro c M3 hc ho3 hj
      refine x_iload (pc := 7) dX10_isPrint_7 rfl ?_
      refine x_bipushN (pc := 9) 16 dX10_isPrint_9 bp_16 ?_
      first | (guard_target =~ Wp _ _ _ _ _ (Value.int (nI _) :: Value.int (nI _) :: _) _ _ _ _; with_reducible refine x_icmp_geN (pc := 11) (tgt := 28) ?_ ?_ dX10_isPrint_11 ?_ (fun h11 => ?_) (fun h11 => ?_); (first | omega | exact b2n_31 _); (first | omega | exact b2n_31 _); decide) | refine x_icmp_ge (pc := 11) (tgt := 28) dX10_isPrint_11 (by decide) (fun h11 => ?_) (fun h11 => ?_)
      · skip
        omega
      · skip
        refine x_aload_n (pc := 14) dX10_isPrint_14 rfl ?_
        refine x_getR (pc := 15) dX10_isPrint_15 flX10_22 (by first | assumption | rfl) rfl ?_
        refine x_iload (pc := 18) dX10_isPrint_18 rfl ?_
        refine x_iconstN (pc := 20) 0 dX10_isPrint_20 ic_0 ?_
        refine x_iastN (pc := 21) dX10_isPrint_21 (by first | assumption | rfl) (by first | with_reducible rfl | (simp only [xlit, nI_add, pk_mul]; with_reducible rfl)) (by omega) (by decide) ?_
        first | (guard_target =~ Wp _ _ _ _ (_ :: _ :: _ :: _ :: some (Value.int (nI _)) :: _) _ _ _ _ _; with_reducible refine x_iincN (pc := 22) 1 ic_1 dX10_isPrint_22 ?_ xg_4 xs_4 ?_ ?_; decide; exact (x_hp rfl)) | refine x_iincC (pc := 22) ic_1 dX10_isPrint_22 (by decide) rfl xs_4 (x_hp rfl) ?_
        refine x_goto (pc := 25) (tgt := 7) dX10_isPrint_25 (by decide) ?_
        refine ih (c + 1) _ (by omega) (ho3.tr (only.put (by simp; omega))) (fun j q => ?_)
        by_cases z : j = c
        · subst z; exact if_pos ⟨rfl, rfl⟩
        · exact (if_neg (fun q => z q.2)).trans (hj j (by omega))
  refine x_aload_n (pc := 0) dX10_isPrint_0 rfl ?_
  refine x_invV0 (pc := 1) dX10_isPrint_1 mlX10_375 imX10_save seX10_save kX10_save (by first | assumption | rfl) rfl (Nat.le_of_ble_eq_true rfl) (by decide) ?_
  refine sm_save (fun M2 ho2 hk2 h332 => ?_)
  refine x_cn rfl rfl ?_
  refine x_iconstN (pc := 4) 0 dX10_isPrint_4 ic_0 ?_
  refine x_istore (pc := 5) dX10_isPrint_5 (by decide) xs_4 (x_hp rfl) ?_
  exact zero M2 ho2 hk2 h332 16 0 M2 (by omega) only.rf (fun j q => by omega)
theorem fM_who {p n w : Int32} (hC : MC9 M s) (ok : okM s) (h : ∀ M', high M M' → MC9 M' s → K (some (.int (vWho s p n w))) xSF M') : Ex g (d + 6) yX10_who mX10_who [.ref 65, .int p, .int n, .int w] xSF M K := by
  unfold vWho at h
  have hB := ok.bd
  have h6 := hB.2.1
  obtain ⟨b0, hL⟩ := hC.ls ok
  have hQ := hC.1.mq
  refine x_entry kX10_who (Nat.le_of_ble_eq_true rfl) ?_
  show Wp g _ mX10_who 0 [some (.ref 65), some (.int p), some (.int n), some (.int w), none, none, none] [] _ _ _ _
  rcases isR_cases (x := w) (n := 2) (by decide) with e | ⟨w, hw, rfl, e⟩
  · simp only [e, Bool.false_eq_true, if_false] at h
    refine x_aload_n (pc := 0) dX10_who_0 rfl ?_
    refine x_iload_n (pc := 1) dX10_who_1 rfl ?_
    refine x_iconstN (pc := 2) 0 dX10_who_2 ic_0 ?_
    refine x_iconstN (pc := 3) 1 dX10_who_3 ic_1 ?_
    refine x_invV3 (pc := 4) dX10_who_4 mlX10_253 imX10_in seX10_in kX10_in (by first | assumption | rfl) rfl (Nat.le_of_ble_eq_true rfl) (by decide) ?_
    refine sm_in ?_
    refine x_cv rfl rfl ?_
    rw [btw_isR (by decide), show isR w (nI (1 + 1)) = false from e]
    first | (guard_target =~ Wp _ _ _ _ _ (Value.int (nI _) :: _) _ _ _ _; with_reducible refine x_if_neN (pc := 7) (tgt := 12) ?_ dX10_who_7 ?_ (fun h7 => ?_) (fun h7 => ?_); (first | omega | exact b2n_32 _ | exact b2n_31 _); decide) | refine x_if_ne (pc := 7) (tgt := 12) dX10_who_7 (by decide) (fun h7 => ?_) (fun h7 => ?_)
    · skip
      exact absurd rfl h7
    · skip
      refine x_iconst (pc := 10) dX10_who_10 ic_m1 ?_
      refine x_ret (pc := 11) (v := some _) rfl trivial dX10_who_11 (by decide) ?_
      exact h M high.rf hC
  simp only [e, if_true] at h
  rw [toN_nI (by omega)] at h
  rcases isR_cases (x := p) (n := 65536) (by decide) with e2 | ⟨p, hp, rfl, e2⟩
  · simp only [e2, Bool.false_eq_true, if_false, false_and] at h
    refine x_aload_n (pc := 0) dX10_who_0 rfl ?_
    refine x_iload_n (pc := 1) dX10_who_1 rfl ?_
    refine x_iconstN (pc := 2) 0 dX10_who_2 ic_0 ?_
    refine x_iconstN (pc := 3) 1 dX10_who_3 ic_1 ?_
    refine x_invV3 (pc := 4) dX10_who_4 mlX10_253 imX10_in seX10_in kX10_in (by first | assumption | rfl) rfl (Nat.le_of_ble_eq_true rfl) (by decide) ?_
    refine sm_in ?_
    refine x_cv rfl rfl ?_
    rw [btw_isR (by decide), show isR (nI w) (nI (1 + 1)) = true from e]
    first | (guard_target =~ Wp _ _ _ _ _ (Value.int (nI _) :: _) _ _ _ _; with_reducible refine x_if_neN (pc := 7) (tgt := 12) ?_ dX10_who_7 ?_ (fun h7 => ?_) (fun h7 => ?_); (first | omega | exact b2n_32 _ | exact b2n_31 _); decide) | refine x_if_ne (pc := 7) (tgt := 12) dX10_who_7 (by decide) (fun h7 => ?_) (fun h7 => ?_)
    · skip
      refine x_aload_n (pc := 12) dX10_who_12 rfl ?_
      refine x_iload_n (pc := 13) dX10_who_13 rfl ?_
      refine x_iconstN (pc := 14) 0 dX10_who_14 ic_0 ?_
      refine x_ldcw (pc := 15) (v := nI 65535) dX10_who_15 ckX10_396 ?_
      refine x_invV3 (pc := 18) dX10_who_18 mlX10_253 imX10_in seX10_in kX10_in (by first | assumption | rfl) rfl (Nat.le_of_ble_eq_true rfl) (by decide) ?_
      refine sm_in ?_
      refine x_cv rfl rfl ?_
      rw [btw_isR (by decide), show isR p (nI (65535 + 1)) = false from e2]
      first | (guard_target =~ Wp _ _ _ _ _ (Value.int (nI _) :: _) _ _ _ _; with_reducible refine x_if_eqN (pc := 21) (tgt := 35) ?_ dX10_who_21 ?_ (fun h21 => ?_) (fun h21 => ?_); (first | omega | exact b2n_32 _ | exact b2n_31 _); decide) | refine x_if_eq (pc := 21) (tgt := 35) dX10_who_21 (by decide) (fun h21 => ?_) (fun h21 => ?_)
      · skip
        refine x_bipush (pc := 35) dX10_who_35 bp_m2 ?_
        refine x_ret (pc := 37) (v := some _) rfl trivial dX10_who_37 (by decide) ?_
        exact h M high.rf hC
      · skip
        exact absurd rfl h21
    · skip
      cases h7
  rcases btw_cases (x := n) (lo := 1) (hi := 20) (by decide) (by decide) with e3 | ⟨n, hn1, hn2, rfl, e3⟩
  · simp only [e3, Bool.false_eq_true, if_false, and_false] at h
    refine x_aload_n (pc := 0) dX10_who_0 rfl ?_
    refine x_iload_n (pc := 1) dX10_who_1 rfl ?_
    refine x_iconstN (pc := 2) 0 dX10_who_2 ic_0 ?_
    refine x_iconstN (pc := 3) 1 dX10_who_3 ic_1 ?_
    refine x_invV3 (pc := 4) dX10_who_4 mlX10_253 imX10_in seX10_in kX10_in (by first | assumption | rfl) rfl (Nat.le_of_ble_eq_true rfl) (by decide) ?_
    refine sm_in ?_
    refine x_cv rfl rfl ?_
    rw [btw_isR (by decide), show isR (nI w) (nI (1 + 1)) = true from e]
    first | (guard_target =~ Wp _ _ _ _ _ (Value.int (nI _) :: _) _ _ _ _; with_reducible refine x_if_neN (pc := 7) (tgt := 12) ?_ dX10_who_7 ?_ (fun h7 => ?_) (fun h7 => ?_); (first | omega | exact b2n_32 _ | exact b2n_31 _); decide) | refine x_if_ne (pc := 7) (tgt := 12) dX10_who_7 (by decide) (fun h7 => ?_) (fun h7 => ?_)
    · skip
      refine x_aload_n (pc := 12) dX10_who_12 rfl ?_
      refine x_iload_n (pc := 13) dX10_who_13 rfl ?_
      refine x_iconstN (pc := 14) 0 dX10_who_14 ic_0 ?_
      refine x_ldcw (pc := 15) (v := nI 65535) dX10_who_15 ckX10_396 ?_
      refine x_invV3 (pc := 18) dX10_who_18 mlX10_253 imX10_in seX10_in kX10_in (by first | assumption | rfl) rfl (Nat.le_of_ble_eq_true rfl) (by decide) ?_
      refine sm_in ?_
      refine x_cv rfl rfl ?_
      rw [btw_isR (by decide), show isR (nI p) (nI (65535 + 1)) = true from e2]
      first | (guard_target =~ Wp _ _ _ _ _ (Value.int (nI _) :: _) _ _ _ _; with_reducible refine x_if_eqN (pc := 21) (tgt := 35) ?_ dX10_who_21 ?_ (fun h21 => ?_) (fun h21 => ?_); (first | omega | exact b2n_32 _ | exact b2n_31 _); decide) | refine x_if_eq (pc := 21) (tgt := 35) dX10_who_21 (by decide) (fun h21 => ?_) (fun h21 => ?_)
      · skip
        cases h21
      · skip
        refine x_aload_n (pc := 24) dX10_who_24 rfl ?_
        refine x_iload_n (pc := 25) dX10_who_25 rfl ?_
        refine x_iconstN (pc := 26) 1 dX10_who_26 ic_1 ?_
        refine x_bipushN (pc := 27) 20 dX10_who_27 bp_20 ?_
        refine x_invV3 (pc := 29) dX10_who_29 mlX10_253 imX10_in seX10_in kX10_in (by first | assumption | rfl) rfl (Nat.le_of_ble_eq_true rfl) (by decide) ?_
        refine sm_in ?_
        refine x_cv rfl rfl ?_
        rw [e3]
        first | (guard_target =~ Wp _ _ _ _ _ (Value.int (nI _) :: _) _ _ _ _; with_reducible refine x_if_neN (pc := 32) (tgt := 38) ?_ dX10_who_32 ?_ (fun h32 => ?_) (fun h32 => ?_); (first | omega | exact b2n_32 _ | exact b2n_31 _); decide) | refine x_if_ne (pc := 32) (tgt := 38) dX10_who_32 (by decide) (fun h32 => ?_) (fun h32 => ?_)
        · skip
          exact absurd rfl h32
        · skip
          refine x_bipush (pc := 35) dX10_who_35 bp_m2 ?_
          refine x_ret (pc := 37) (v := some _) rfl trivial dX10_who_37 (by decide) ?_
          exact h M high.rf hC
    · skip
      cases h7
  simp only [e2, e3, and_self, if_true] at h
  rw [toN_nI (by omega), toN_nI (by omega)] at h
  have hp64 : 2 ^ s.1.1 8 0 ≤ 64 := Nat.pow_le_pow_right (by decide) h6
  have loop : ∀ m t M1, t + m = 2 ^ s.1.1 8 0 → Lz M M1 s.1.1 s.1.2.2.2.2 → Wp g (d + 6) mX10_who 52 [some (.ref 65), some (.int (nI p)), some (.int (nI n)), some (.int (nI w)), some (.int (oI' (fewF (fun t => hlB s.1.1 s.1.2.1 n t p) t))), some (.int (nI (xsum (fun t => b2n (hlB s.1.1 s.1.2.1 n t p)) t))), some (.int (nI t))] [] xSF (0, 0) M1 K := by
    intro m
    induction m with
    | zero =>
      intro t M1 ht hz
      obtain rfl : t = 2 ^ s.1.1 8 0 := by omega
      refine x_iload (pc := 52) dX10_who_52 rfl ?_
      refine x_iconstN (pc := 54) 1 dX10_who_54 ic_1 ?_
      refine x_aload_n (pc := 55) dX10_who_55 rfl ?_
      refine x_getI (pc := 56) dX10_who_56 flX10_7 (by first | assumption | rfl) rfl ?_
      rw [(hQ.keep hz.1 pZ_Q).1]
      first | (guard_target =~ Wp _ _ _ _ _ (Value.int (nI _) :: Value.int (nI _) :: _) _ _ _ _; with_reducible refine x_ishlN (pc := 59) ?_ dX10_who_59 ?_; omega) | refine x_ishl (pc := 59) dX10_who_59 ?_
      rw [Nat.one_mul]
      first | (guard_target =~ Wp _ _ _ _ _ (Value.int (nI _) :: Value.int (nI _) :: _) _ _ _ _; with_reducible refine x_icmp_geN (pc := 60) (tgt := 120) ?_ ?_ dX10_who_60 ?_ (fun h60 => ?_) (fun h60 => ?_); (first | omega | exact b2n_31 _); (first | omega | exact b2n_31 _); decide) | refine x_icmp_ge (pc := 60) (tgt := 120) dX10_who_60 (by decide) (fun h60 => ?_) (fun h60 => ?_)
      · skip
        refine x_iload_n (pc := 120) dX10_who_120 rfl ?_
        first | (guard_target =~ Wp _ _ _ _ _ (Value.int (nI _) :: _) _ _ _ _; with_reducible refine x_if_neN (pc := 121) (tgt := 129) ?_ dX10_who_121 ?_ (fun h121 => ?_) (fun h121 => ?_); (first | omega | exact b2n_32 _ | exact b2n_31 _); decide) | refine x_if_ne (pc := 121) (tgt := 129) dX10_who_121 (by decide) (fun h121 => ?_) (fun h121 => ?_)
        · skip
          refine x_iload (pc := 129) dX10_who_129 rfl ?_
          refine x_ret (pc := 131) (v := some _) rfl trivial dX10_who_131 (by decide) ?_
          rw [if_neg h121] at h; exact h M1 hz.1.qsm.1.1 (hC.st hz.1.qsm)
        · skip
          refine x_iload (pc := 124) dX10_who_124 rfl ?_
          refine x_goto (pc := 126) (tgt := 131) dX10_who_126 (by decide) ?_
          refine x_ret (pc := 131) (v := some _) rfl trivial dX10_who_131 (by decide) ?_
          rw [if_pos h121] at h; exact h M1 hz.1.qsm.1.1 (hC.st hz.1.qsm)
      · skip
        omega
    | succ m ih =>
      intro t M1 ht hz
      have hQ1 := hQ.keep hz.1 pZ_Q
      have hfew : ∀ b, fewF (fun t => hlB s.1.1 s.1.2.1 n t p) t = some b → b < t := by
        have key : ∀ t b, fewF (fun t => hlB s.1.1 s.1.2.1 n t p) t = some b → b < t := by
          intro t
          induction t with
          | zero => intro b q; cases q
          | succ t iht =>
            intro b q
            rw [fewF] at q
            split at q
            · injection q with q; omega
            · have := iht b q; omega
        exact key t
      by_cases hW : t &&& s.1.2.1 = 0
      · have nx0 : hlB s.1.1 s.1.2.1 n t p = false → ∀ M5, Lz M M5 s.1.1 s.1.2.2.2.2 → Wp g (d + 6) mX10_who 52 [some (.ref 65), some (.int (nI p)), some (.int (nI n)), some (.int (nI w)), some (.int (oI' (fewF (fun t => hlB s.1.1 s.1.2.1 n t p) t))), some (.int (nI (xsum (fun t => b2n (hlB s.1.1 s.1.2.1 n t p)) t))), some (.int (nI (t + 1)))] [] xSF (0, 0) M5 K := by
          intro hf M5 hz5
          have := ih (t + 1) M5 (by omega) hz5
          rw [fewF, if_neg (fun q => by rw [hf] at q; cases q.1), xsum, hf] at this
          exact this
        have nx1 : ∀ o, hlB s.1.1 s.1.2.1 n t p = true → fewF (fun t => hlB s.1.1 s.1.2.1 n t p) (t + 1) = o → ∀ M5, Lz M M5 s.1.1 s.1.2.2.2.2 → Wp g (d + 6) mX10_who 52 [some (.ref 65), some (.int (nI p)), some (.int (nI n)), some (.int (nI w)), some (.int (oI' o)), some (.int (nI (xsum (fun t => b2n (hlB s.1.1 s.1.2.1 n t p)) t + 1))), some (.int (nI (t + 1)))] [] xSF (0, 0) M5 K := by
          intro o hf ho M5 hz5
          have := ih (t + 1) M5 (by omega) hz5
          rw [ho, xsum, hf] at this
          exact this
        cases hfe : fewF (fun t => hlB s.1.1 s.1.2.1 n t p) t with
        | none =>
          rw [hfe] at nx0
          refine x_iload (pc := 52) dX10_who_52 rfl ?_
          refine x_iconstN (pc := 54) 1 dX10_who_54 ic_1 ?_
          refine x_aload_n (pc := 55) dX10_who_55 rfl ?_
          refine x_getI (pc := 56) dX10_who_56 flX10_7 (by first | assumption | rfl) rfl ?_
          rw [hQ1.1]
          first | (guard_target =~ Wp _ _ _ _ _ (Value.int (nI _) :: Value.int (nI _) :: _) _ _ _ _; with_reducible refine x_ishlN (pc := 59) ?_ dX10_who_59 ?_; omega) | refine x_ishl (pc := 59) dX10_who_59 ?_
          rw [Nat.one_mul]
          first | (guard_target =~ Wp _ _ _ _ _ (Value.int (nI _) :: Value.int (nI _) :: _) _ _ _ _; with_reducible refine x_icmp_geN (pc := 60) (tgt := 120) ?_ ?_ dX10_who_60 ?_ (fun h60 => ?_) (fun h60 => ?_); (first | omega | exact b2n_31 _); (first | omega | exact b2n_31 _); decide) | refine x_icmp_ge (pc := 60) (tgt := 120) dX10_who_60 (by decide) (fun h60 => ?_) (fun h60 => ?_)
          · skip
            omega
          · skip
            refine x_iload (pc := 63) dX10_who_63 rfl ?_
            refine x_aload_n (pc := 65) dX10_who_65 rfl ?_
            refine x_getI (pc := 66) dX10_who_66 flX10_13 (by first | assumption | rfl) rfl ?_
            rw [hQ1.2.1]
            first | (guard_target =~ Wp _ _ _ _ _ (Value.int (nI _) :: Value.int (nI _) :: _) _ _ _ _; with_reducible refine x_iandN (pc := 69) dX10_who_69 ?_) | refine x_iand (pc := 69) dX10_who_69 ?_
            first | (guard_target =~ Wp _ _ _ _ _ (Value.int (nI _) :: _) _ _ _ _; with_reducible refine x_if_neN (pc := 70) (tgt := 114) ?_ dX10_who_70 ?_ (fun h70 => ?_) (fun h70 => ?_); (first | omega | exact b2n_32 _ | exact b2n_31 _); decide) | refine x_if_ne (pc := 70) (tgt := 114) dX10_who_70 (by decide) (fun h70 => ?_) (fun h70 => ?_)
            · skip
              omega
            · skip
              refine x_aload_n (pc := 73) dX10_who_73 rfl ?_
              refine x_iload (pc := 74) dX10_who_74 rfl ?_
              refine x_iload_n (pc := 76) dX10_who_76 rfl ?_
              refine x_iload_n (pc := 77) dX10_who_77 rfl ?_
              refine x_invV3 (pc := 78) dX10_who_78 mlX10_397 imX10_isPrint seX10_isPrint kX10_isPrint (by first | assumption | rfl) rfl (Nat.le_of_ble_eq_true rfl) (by decide) ?_
              refine sm_isPrint hC ok hz (by omega) hp hn2 hW (fun M5 hz5 => ?_)
              refine x_cv rfl rfl ?_
              first | (guard_target =~ Wp _ _ _ _ _ (Value.int (nI _) :: _) _ _ _ _; with_reducible refine x_if_neN (pc := 81) (tgt := 87) ?_ dX10_who_81 ?_ (fun h81 => ?_) (fun h81 => ?_); (first | omega | exact b2n_32 _ | exact b2n_31 _); decide) | refine x_if_ne (pc := 81) (tgt := 87) dX10_who_81 (by decide) (fun h81 => ?_) (fun h81 => ?_)
              · skip
                first | (guard_target =~ Wp _ _ _ _ (_ :: _ :: _ :: _ :: _ :: some (Value.int (nI _)) :: _) _ _ _ _ _; with_reducible refine x_iincN (pc := 87) 1 ic_1 dX10_who_87 ?_ xg_5 xs_5 ?_ ?_; decide; exact (x_hp rfl)) | refine x_iincC (pc := 87) ic_1 dX10_who_87 (by decide) rfl xs_5 (x_hp rfl) ?_
                refine x_iload (pc := 90) dX10_who_90 rfl ?_
                refine x_if_lt (pc := 92) (tgt := 110) dX10_who_92 (by decide) (fun h92 => ?_) (fun h92 => ?_)
                · skip
                  refine x_iload (pc := 110) dX10_who_110 rfl ?_
                  refine x_istore (pc := 112) dX10_who_112 (by decide) xs_4 (x_hp rfl) ?_
                  first | (guard_target =~ Wp _ _ _ _ (_ :: _ :: _ :: _ :: _ :: _ :: some (Value.int (nI _)) :: _) _ _ _ _ _; with_reducible refine x_iincN (pc := 114) 1 ic_1 dX10_who_114 ?_ xg_6 xs_6 ?_ ?_; decide; exact (x_hp rfl)) | refine x_iincC (pc := 114) ic_1 dX10_who_114 (by decide) rfl xs_6 (x_hp rfl) ?_
                  refine x_goto (pc := 117) (tgt := 52) dX10_who_117 (by decide) ?_
                  exact nx1 (some t) (b2n_1 h81) (by rw [fewF, if_pos ⟨b2n_1 h81, fun b q => by rw [hfe] at q; cases q⟩]) M5 hz5
                · skip
                  exact absurd (by decide) h92
              · skip
                refine x_goto (pc := 84) (tgt := 114) dX10_who_84 (by decide) ?_
                first | (guard_target =~ Wp _ _ _ _ (_ :: _ :: _ :: _ :: _ :: _ :: some (Value.int (nI _)) :: _) _ _ _ _ _; with_reducible refine x_iincN (pc := 114) 1 ic_1 dX10_who_114 ?_ xg_6 xs_6 ?_ ?_; decide; exact (x_hp rfl)) | refine x_iincC (pc := 114) ic_1 dX10_who_114 (by decide) rfl xs_6 (x_hp rfl) ?_
                refine x_goto (pc := 117) (tgt := 52) dX10_who_117 (by decide) ?_
                exact nx0 (b2n_0 h81) M5 hz5
        | some b =>
          have hbt := hfew b hfe
          rw [hfe] at nx0
          show Wp g _ _ 52 [some (.ref 65), some (.int (nI p)), some (.int (nI n)), some (.int (nI w)), some (.int (nI b)), some (.int (nI (xsum (fun t => b2n (hlB s.1.1 s.1.2.1 n t p)) t))), some (.int (nI t))] [] xSF (0, 0) M1 K
          have hxp : ∀ b, xpop b ≤ 16 * 1 := fun b => xsum_bd (fun i _ => by have := b2n_lt (b.testBit i); omega)
          have x1 := hxp b
          have x2 := hxp t
          refine x_iload (pc := 52) dX10_who_52 rfl ?_
          refine x_iconstN (pc := 54) 1 dX10_who_54 ic_1 ?_
          refine x_aload_n (pc := 55) dX10_who_55 rfl ?_
          refine x_getI (pc := 56) dX10_who_56 flX10_7 (by first | assumption | rfl) rfl ?_
          rw [hQ1.1]
          first | (guard_target =~ Wp _ _ _ _ _ (Value.int (nI _) :: Value.int (nI _) :: _) _ _ _ _; with_reducible refine x_ishlN (pc := 59) ?_ dX10_who_59 ?_; omega) | refine x_ishl (pc := 59) dX10_who_59 ?_
          rw [Nat.one_mul]
          first | (guard_target =~ Wp _ _ _ _ _ (Value.int (nI _) :: Value.int (nI _) :: _) _ _ _ _; with_reducible refine x_icmp_geN (pc := 60) (tgt := 120) ?_ ?_ dX10_who_60 ?_ (fun h60 => ?_) (fun h60 => ?_); (first | omega | exact b2n_31 _); (first | omega | exact b2n_31 _); decide) | refine x_icmp_ge (pc := 60) (tgt := 120) dX10_who_60 (by decide) (fun h60 => ?_) (fun h60 => ?_)
          · skip
            omega
          · skip
            refine x_iload (pc := 63) dX10_who_63 rfl ?_
            refine x_aload_n (pc := 65) dX10_who_65 rfl ?_
            refine x_getI (pc := 66) dX10_who_66 flX10_13 (by first | assumption | rfl) rfl ?_
            rw [hQ1.2.1]
            first | (guard_target =~ Wp _ _ _ _ _ (Value.int (nI _) :: Value.int (nI _) :: _) _ _ _ _; with_reducible refine x_iandN (pc := 69) dX10_who_69 ?_) | refine x_iand (pc := 69) dX10_who_69 ?_
            first | (guard_target =~ Wp _ _ _ _ _ (Value.int (nI _) :: _) _ _ _ _; with_reducible refine x_if_neN (pc := 70) (tgt := 114) ?_ dX10_who_70 ?_ (fun h70 => ?_) (fun h70 => ?_); (first | omega | exact b2n_32 _ | exact b2n_31 _); decide) | refine x_if_ne (pc := 70) (tgt := 114) dX10_who_70 (by decide) (fun h70 => ?_) (fun h70 => ?_)
            · skip
              omega
            · skip
              refine x_aload_n (pc := 73) dX10_who_73 rfl ?_
              refine x_iload (pc := 74) dX10_who_74 rfl ?_
              refine x_iload_n (pc := 76) dX10_who_76 rfl ?_
              refine x_iload_n (pc := 77) dX10_who_77 rfl ?_
              refine x_invV3 (pc := 78) dX10_who_78 mlX10_397 imX10_isPrint seX10_isPrint kX10_isPrint (by first | assumption | rfl) rfl (Nat.le_of_ble_eq_true rfl) (by decide) ?_
              refine sm_isPrint hC ok hz (by omega) hp hn2 hW (fun M5 hz5 => ?_)
              refine x_cv rfl rfl ?_
              first | (guard_target =~ Wp _ _ _ _ _ (Value.int (nI _) :: _) _ _ _ _; with_reducible refine x_if_neN (pc := 81) (tgt := 87) ?_ dX10_who_81 ?_ (fun h81 => ?_) (fun h81 => ?_); (first | omega | exact b2n_32 _ | exact b2n_31 _); decide) | refine x_if_ne (pc := 81) (tgt := 87) dX10_who_81 (by decide) (fun h81 => ?_) (fun h81 => ?_)
              · skip
                first | (guard_target =~ Wp _ _ _ _ (_ :: _ :: _ :: _ :: _ :: some (Value.int (nI _)) :: _) _ _ _ _ _; with_reducible refine x_iincN (pc := 87) 1 ic_1 dX10_who_87 ?_ xg_5 xs_5 ?_ ?_; decide; exact (x_hp rfl)) | refine x_iincC (pc := 87) ic_1 dX10_who_87 (by decide) rfl xs_5 (x_hp rfl) ?_
                refine x_iload (pc := 90) dX10_who_90 rfl ?_
                refine x_if_lt (pc := 92) (tgt := 110) dX10_who_92 (by decide) (fun h92 => ?_) (fun h92 => ?_)
                · skip
                  exact absurd h92 (Int32.not_lt.mpr (nI_pos' (by omega)))
                · skip
                  refine x_aload_n (pc := 95) dX10_who_95 rfl ?_
                  refine x_iload (pc := 96) dX10_who_96 rfl ?_
                  refine x_invV1 (pc := 98) dX10_who_98 mlX10_400 imX10_bits seX10_bits kX10_bits (by first | assumption | rfl) rfl (Nat.le_of_ble_eq_true rfl) (by decide) ?_
                  refine sm_bits ?_
                  refine x_cv rfl rfl ?_
                  refine x_aload_n (pc := 101) dX10_who_101 rfl ?_
                  refine x_iload (pc := 102) dX10_who_102 rfl ?_
                  refine x_invV1 (pc := 104) dX10_who_104 mlX10_400 imX10_bits seX10_bits kX10_bits (by first | assumption | rfl) rfl (Nat.le_of_ble_eq_true rfl) (by decide) ?_
                  refine sm_bits ?_
                  refine x_cv rfl rfl ?_
                  first | (guard_target =~ Wp _ _ _ _ _ (Value.int (nI _) :: Value.int (nI _) :: _) _ _ _ _; with_reducible refine x_icmp_geN (pc := 107) (tgt := 114) ?_ ?_ dX10_who_107 ?_ (fun h107 => ?_) (fun h107 => ?_); (first | omega | exact b2n_31 _); (first | omega | exact b2n_31 _); decide) | refine x_icmp_ge (pc := 107) (tgt := 114) dX10_who_107 (by decide) (fun h107 => ?_) (fun h107 => ?_)
                  · skip
                    first | (guard_target =~ Wp _ _ _ _ (_ :: _ :: _ :: _ :: _ :: _ :: some (Value.int (nI _)) :: _) _ _ _ _ _; with_reducible refine x_iincN (pc := 114) 1 ic_1 dX10_who_114 ?_ xg_6 xs_6 ?_ ?_; decide; exact (x_hp rfl)) | refine x_iincC (pc := 114) ic_1 dX10_who_114 (by decide) rfl xs_6 (x_hp rfl) ?_
                    refine x_goto (pc := 117) (tgt := 52) dX10_who_117 (by decide) ?_
                    exact nx1 (some b) (b2n_1 h81) (by rw [fewF, if_neg (fun q => absurd (q.2 b hfe) (by omega)), hfe]) M5 hz5
                  · skip
                    refine x_iload (pc := 110) dX10_who_110 rfl ?_
                    refine x_istore (pc := 112) dX10_who_112 (by decide) xs_4 (x_hp rfl) ?_
                    first | (guard_target =~ Wp _ _ _ _ (_ :: _ :: _ :: _ :: _ :: _ :: some (Value.int (nI _)) :: _) _ _ _ _ _; with_reducible refine x_iincN (pc := 114) 1 ic_1 dX10_who_114 ?_ xg_6 xs_6 ?_ ?_; decide; exact (x_hp rfl)) | refine x_iincC (pc := 114) ic_1 dX10_who_114 (by decide) rfl xs_6 (x_hp rfl) ?_
                    refine x_goto (pc := 117) (tgt := 52) dX10_who_117 (by decide) ?_
                    exact nx1 (some t) (b2n_1 h81) (by rw [fewF, if_pos ⟨b2n_1 h81, fun b' q => by rw [hfe] at q; cases q; omega⟩]) M5 hz5
              · skip
                refine x_goto (pc := 84) (tgt := 114) dX10_who_84 (by decide) ?_
                first | (guard_target =~ Wp _ _ _ _ (_ :: _ :: _ :: _ :: _ :: _ :: some (Value.int (nI _)) :: _) _ _ _ _ _; with_reducible refine x_iincN (pc := 114) 1 ic_1 dX10_who_114 ?_ xg_6 xs_6 ?_ ?_; decide; exact (x_hp rfl)) | refine x_iincC (pc := 114) ic_1 dX10_who_114 (by decide) rfl xs_6 (x_hp rfl) ?_
                refine x_goto (pc := 117) (tgt := 52) dX10_who_117 (by decide) ?_
                exact nx0 (b2n_0 h81) M5 hz5
      · have hf : hlB s.1.1 s.1.2.1 n t p = false := by unfold hlB; rw [decide_eq_false hW]; rfl
        have nx := ih (t + 1) M1 (by omega) hz
        rw [fewF, if_neg (fun q => by rw [hf] at q; cases q.1), xsum, hf] at nx
        have hle : t &&& s.1.2.1 ≤ t := Nat.and_le_left
        refine x_iload (pc := 52) dX10_who_52 rfl ?_
        refine x_iconstN (pc := 54) 1 dX10_who_54 ic_1 ?_
        refine x_aload_n (pc := 55) dX10_who_55 rfl ?_
        refine x_getI (pc := 56) dX10_who_56 flX10_7 (by first | assumption | rfl) rfl ?_
        rw [hQ1.1]
        first | (guard_target =~ Wp _ _ _ _ _ (Value.int (nI _) :: Value.int (nI _) :: _) _ _ _ _; with_reducible refine x_ishlN (pc := 59) ?_ dX10_who_59 ?_; omega) | refine x_ishl (pc := 59) dX10_who_59 ?_
        rw [Nat.one_mul]
        first | (guard_target =~ Wp _ _ _ _ _ (Value.int (nI _) :: Value.int (nI _) :: _) _ _ _ _; with_reducible refine x_icmp_geN (pc := 60) (tgt := 120) ?_ ?_ dX10_who_60 ?_ (fun h60 => ?_) (fun h60 => ?_); (first | omega | exact b2n_31 _); (first | omega | exact b2n_31 _); decide) | refine x_icmp_ge (pc := 60) (tgt := 120) dX10_who_60 (by decide) (fun h60 => ?_) (fun h60 => ?_)
        · skip
          omega
        · skip
          refine x_iload (pc := 63) dX10_who_63 rfl ?_
          refine x_aload_n (pc := 65) dX10_who_65 rfl ?_
          refine x_getI (pc := 66) dX10_who_66 flX10_13 (by first | assumption | rfl) rfl ?_
          rw [hQ1.2.1]
          first | (guard_target =~ Wp _ _ _ _ _ (Value.int (nI _) :: Value.int (nI _) :: _) _ _ _ _; with_reducible refine x_iandN (pc := 69) dX10_who_69 ?_) | refine x_iand (pc := 69) dX10_who_69 ?_
          first | (guard_target =~ Wp _ _ _ _ _ (Value.int (nI _) :: _) _ _ _ _; with_reducible refine x_if_neN (pc := 70) (tgt := 114) ?_ dX10_who_70 ?_ (fun h70 => ?_) (fun h70 => ?_); (first | omega | exact b2n_32 _ | exact b2n_31 _); decide) | refine x_if_ne (pc := 70) (tgt := 114) dX10_who_70 (by decide) (fun h70 => ?_) (fun h70 => ?_)
          · skip
            first | (guard_target =~ Wp _ _ _ _ (_ :: _ :: _ :: _ :: _ :: _ :: some (Value.int (nI _)) :: _) _ _ _ _ _; with_reducible refine x_iincN (pc := 114) 1 ic_1 dX10_who_114 ?_ xg_6 xs_6 ?_ ?_; decide; exact (x_hp rfl)) | refine x_iincC (pc := 114) ic_1 dX10_who_114 (by decide) rfl xs_6 (x_hp rfl) ?_
            refine x_goto (pc := 117) (tgt := 52) dX10_who_117 (by decide) ?_
            exact nx
          · skip
            omega
  refine x_aload_n (pc := 0) dX10_who_0 rfl ?_
  refine x_iload_n (pc := 1) dX10_who_1 rfl ?_
  refine x_iconstN (pc := 2) 0 dX10_who_2 ic_0 ?_
  refine x_iconstN (pc := 3) 1 dX10_who_3 ic_1 ?_
  refine x_invV3 (pc := 4) dX10_who_4 mlX10_253 imX10_in seX10_in kX10_in (by first | assumption | rfl) rfl (Nat.le_of_ble_eq_true rfl) (by decide) ?_
  refine sm_in ?_
  refine x_cv rfl rfl ?_
  rw [btw_isR (by decide), show isR (nI w) (nI (1 + 1)) = true from e]
  first | (guard_target =~ Wp _ _ _ _ _ (Value.int (nI _) :: _) _ _ _ _; with_reducible refine x_if_neN (pc := 7) (tgt := 12) ?_ dX10_who_7 ?_ (fun h7 => ?_) (fun h7 => ?_); (first | omega | exact b2n_32 _ | exact b2n_31 _); decide) | refine x_if_ne (pc := 7) (tgt := 12) dX10_who_7 (by decide) (fun h7 => ?_) (fun h7 => ?_)
  · skip
    refine x_aload_n (pc := 12) dX10_who_12 rfl ?_
    refine x_iload_n (pc := 13) dX10_who_13 rfl ?_
    refine x_iconstN (pc := 14) 0 dX10_who_14 ic_0 ?_
    refine x_ldcw (pc := 15) (v := nI 65535) dX10_who_15 ckX10_396 ?_
    refine x_invV3 (pc := 18) dX10_who_18 mlX10_253 imX10_in seX10_in kX10_in (by first | assumption | rfl) rfl (Nat.le_of_ble_eq_true rfl) (by decide) ?_
    refine sm_in ?_
    refine x_cv rfl rfl ?_
    rw [btw_isR (by decide), show isR (nI p) (nI (65535 + 1)) = true from e2]
    first | (guard_target =~ Wp _ _ _ _ _ (Value.int (nI _) :: _) _ _ _ _; with_reducible refine x_if_eqN (pc := 21) (tgt := 35) ?_ dX10_who_21 ?_ (fun h21 => ?_) (fun h21 => ?_); (first | omega | exact b2n_32 _ | exact b2n_31 _); decide) | refine x_if_eq (pc := 21) (tgt := 35) dX10_who_21 (by decide) (fun h21 => ?_) (fun h21 => ?_)
    · skip
      cases h21
    · skip
      refine x_aload_n (pc := 24) dX10_who_24 rfl ?_
      refine x_iload_n (pc := 25) dX10_who_25 rfl ?_
      refine x_iconstN (pc := 26) 1 dX10_who_26 ic_1 ?_
      refine x_bipushN (pc := 27) 20 dX10_who_27 bp_20 ?_
      refine x_invV3 (pc := 29) dX10_who_29 mlX10_253 imX10_in seX10_in kX10_in (by first | assumption | rfl) rfl (Nat.le_of_ble_eq_true rfl) (by decide) ?_
      refine sm_in ?_
      refine x_cv rfl rfl ?_
      rw [e3]
      first | (guard_target =~ Wp _ _ _ _ _ (Value.int (nI _) :: _) _ _ _ _; with_reducible refine x_if_neN (pc := 32) (tgt := 38) ?_ dX10_who_32 ?_ (fun h32 => ?_) (fun h32 => ?_); (first | omega | exact b2n_32 _ | exact b2n_31 _); decide) | refine x_if_ne (pc := 32) (tgt := 38) dX10_who_32 (by decide) (fun h32 => ?_) (fun h32 => ?_)
      · skip
        refine x_aload_n (pc := 38) dX10_who_38 rfl ?_
        refine x_invV0 (pc := 39) dX10_who_39 mlX10_361 imX10_layWorn seX10_layWorn kX10_layWorn (by first | assumption | rfl) rfl (Nat.le_of_ble_eq_true rfl) (by decide) ?_
        refine sm_layWorn hL hB hQ (fun M1 ho1 h85 => ?_)
        refine x_cn rfl rfl ?_
        refine x_bipush (pc := 42) dX10_who_42 bp_m5 ?_
        refine x_istore (pc := 44) dX10_who_44 (by decide) xs_4 (x_hp rfl) ?_
        refine x_iconstN (pc := 46) 0 dX10_who_46 ic_0 ?_
        refine x_istore (pc := 47) dX10_who_47 (by decide) xs_5 (x_hp rfl) ?_
        refine x_iconstN (pc := 49) 0 dX10_who_49 ic_0 ?_
        refine x_istore (pc := 50) dX10_who_50 (by decide) xs_6 (x_hp rfl) ?_
        exact loop (2 ^ s.1.1 8 0) 0 M1 (by omega) ⟨ho1.wide pZ_N, h85⟩
      · skip
        cases h32
  · skip
    cases h7
end P87
