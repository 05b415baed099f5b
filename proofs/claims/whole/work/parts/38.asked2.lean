/-! ASKED of the program: prints, free cells, the cell to lay -/
def orF (s : Nat) (P : Nat → Nat) : Nat → Nat
  | 0 => 0
  | n + 1 => orF s P n ||| (if s.testBit n then P n else 0)
def hlB (A : XA) (W n s p : Nat) : Bool := decide (s &&& W = 0) && decide (orF s (fun g => prtA A (nI W) g n) (A 8 0) = p)
def fewF (P : Nat → Bool) : Nat → Option Nat
  | 0 => none
  | s + 1 => if P s = true ∧ (∀ b, fewF P s = some b → xpop s < xpop b) then some s else fewF P s
def bsyF (A : XA) : Nat → Nat
  | 0 => A 10 0
  | n + 1 => bsyF A n ||| (2 ^ A 3 n ||| 2 ^ A 4 n)
def freA (A : XA) : Nat := xset (fun c => (65535 : Nat).testBit c && !(bsyF A (A 8 0)).testBit c) 16
theorem orF_lt {s : Nat} {P : Nat → Nat} : ∀ {n : Nat}, (∀ i, i < n → P i < 65536) → orF s P n < 65536 := by
  intro n
  induction n with
  | zero => intro _; exact (by decide : 0 < 65536)
  | succ n ih =>
    intro h
    rw [orF]
    refine Nat.or_lt_two_pow (n := 16) (ih (fun i hi => h i (by omega))) ?_
    split
    · exact h n (by omega)
    · decide
theorem xpop_le {b : Nat} : xpop b ≤ 16 := by
  have := xsum_bd (f := fun i => b2n (b.testBit i)) (b := 1) (n := 16) (fun i _ => by have := b2n_lt (b.testBit i); omega)
  unfold xpop
  omega
theorem pw6 : ∀ n, n ≤ 6 → 1 * 2 ^ n ≤ 64 := by decide
theorem pw16 : ∀ n, n < 16 → 2 ^ n < 65536 := by decide
section P38
variable {g : XG} {d : Nat} {M : XM} {K : Option Value → XS → XM → Prop} {A N : XA} {w r : Int32} {W n p : Nat}
theorem prtA_lt {gg : Nat} : prtA A w gg n < 65536 := xset_lt (n := 16)
theorem sp_X1_takePrints (hn : n ≤ 60) (hR : CR 1 M A w r) (h : ∀ M', xsame 58 59 M M' → (∀ i, i < A 8 0 → M'.1 58 i = nI (prtA A w i n)) → K none xSF M') : Ex g (d + 3) yX1_takePrints mX1_takePrints [.ref 45, .int (nI n)] xSF M K := by
  have hg6 := hR.goersB
  have loop : ∀ m k M1, k + m = A 8 0 → xsame 58 59 M M1 → (∀ i, i < k → M1.1 58 i = nI (prtA A w i n)) → Wp g (d + 3) mX1_takePrints 2 [some (.ref 45), some (.int (nI n)), some (.int (nI k))] [] xSF (0, 0) M1 K := by
    intro m
    induction m with
    | zero =>
      intro k M1 hk hs hp
      have hR1 := hR.out hs (by decide)
      obtain rfl : k = A 8 0 := by omega
      refine x_iload_n (pc := 2) dX1_takePrints_2 rfl ?_
      refine x_aload_n (pc := 3) dX1_takePrints_3 rfl ?_
      refine x_getR (pc := 4) dX1_takePrints_4 flX1_22 (by first | assumption | rfl) rfl ?_
      refine x_getI (pc := 7) dX1_takePrints_7 flX1_86 (by first | assumption | rfl) rfl ?_
      rw [hR1.goers]
      first | (guard_target =~ Wp _ _ _ _ _ (Value.int (nI _) :: Value.int (nI _) :: _) _ _ _ _; with_reducible refine x_icmp_geN (pc := 10) (tgt := 34) ?_ ?_ dX1_takePrints_10 ?_ (fun h10 => ?_) (fun h10 => ?_); (first | omega | exact b2n_31 _); (first | omega | exact b2n_31 _); decide) | refine x_icmp_ge (pc := 10) (tgt := 34) dX1_takePrints_10 (by decide) (fun h10 => ?_) (fun h10 => ?_)
      · skip
        refine x_ret (pc := 34) (v := none) rfl trivial dX1_takePrints_34 (by decide) ?_
        exact h M1 hs hp
      · skip
        omega
    | succ m ih =>
      intro k M1 hk hs hp
      have hR1 := hR.out hs (by decide)
      refine x_iload_n (pc := 2) dX1_takePrints_2 rfl ?_
      refine x_aload_n (pc := 3) dX1_takePrints_3 rfl ?_
      refine x_getR (pc := 4) dX1_takePrints_4 flX1_22 (by first | assumption | rfl) rfl ?_
      refine x_getI (pc := 7) dX1_takePrints_7 flX1_86 (by first | assumption | rfl) rfl ?_
      rw [hR1.goers]
      first | (guard_target =~ Wp _ _ _ _ _ (Value.int (nI _) :: Value.int (nI _) :: _) _ _ _ _; with_reducible refine x_icmp_geN (pc := 10) (tgt := 34) ?_ ?_ dX1_takePrints_10 ?_ (fun h10 => ?_) (fun h10 => ?_); (first | omega | exact b2n_31 _); (first | omega | exact b2n_31 _); decide) | refine x_icmp_ge (pc := 10) (tgt := 34) dX1_takePrints_10 (by decide) (fun h10 => ?_) (fun h10 => ?_)
      · skip
        omega
      · skip
        refine x_aload_n (pc := 13) dX1_takePrints_13 rfl ?_
        refine x_getR (pc := 14) dX1_takePrints_14 flX1_18 (by first | assumption | rfl) rfl ?_
        refine x_iload_n (pc := 17) dX1_takePrints_17 rfl ?_
        refine x_aload_n (pc := 18) dX1_takePrints_18 rfl ?_
        refine x_getR (pc := 19) dX1_takePrints_19 flX1_22 (by first | assumption | rfl) rfl ?_
        refine x_iload_n (pc := 22) dX1_takePrints_22 rfl ?_
        refine x_iload_n (pc := 23) dX1_takePrints_23 rfl ?_
        refine x_invV2 (pc := 24) dX1_takePrints_24 mlX1_96 imX2_printOf seX2_printOf kX2_printOf (by first | assumption | rfl) rfl (Nat.le_of_ble_eq_true rfl) (by decide) ?_
        refine sp_X2_printOf (by omega) (by omega) car1 hR1 ?_
        refine x_cv rfl rfl ?_
        refine x_iastN (pc := 27) dX1_takePrints_27 (by first | assumption | rfl) (by first | with_reducible rfl | (simp only [xlit, nI_add, pk_mul]; with_reducible rfl)) (by omega) (by decide) ?_
        first | (guard_target =~ Wp _ _ _ _ (_ :: _ :: some (Value.int (nI _)) :: _) _ _ _ _ _; with_reducible refine x_iincN (pc := 28) 1 ic_1 dX1_takePrints_28 ?_ xg_2 xs_2 ?_ ?_; decide; exact (x_hp rfl)) | refine x_iincC (pc := 28) ic_1 dX1_takePrints_28 (by decide) rfl xs_2 (x_hp rfl) ?_
        refine x_goto (pc := 31) (tgt := 2) dX1_takePrints_31 (by decide) ?_
        refine ih (k + 1) _ (by omega) (hs.tr (xsame.put (by decide) (by decide))) (fun i hi => ?_)
        by_cases hik : i = k
        · subst hik; rw [xput_at]
        · rw [xput_ne (Or.inr hik)]; exact hp i (by omega)
  refine x_entry kX1_takePrints (Nat.le_of_ble_eq_true rfl) ?_
  show Wp g _ mX1_takePrints 0 [some (.ref 45), some (.int (nI n)), none] [] _ _ _ _
  refine x_iconstN (pc := 0) 0 dX1_takePrints_0 ic_0 ?_
  refine x_istore_n (pc := 1) dX1_takePrints_1 (by decide) xs_2 (x_hp rfl) ?_
  exact loop (A 8 0) 0 M (by omega) xsame.rf (fun i hi => by omega)
theorem sp_X1_hasLeft {s : Nat} (hs : s < 64) (hp : p < 65536) (hW : W < 64) (hR : CR 1 M A (nI W) r) (hP : ∀ i, i < A 8 0 → M.1 58 i = nI (prtA A (nI W) i n)) (h : K (some (.int (nI (b2n (hlB A W n s p))))) xSF M) : Ex g d yX1_hasLeft mX1_hasLeft [.ref 45, .int (nI s), .int (nI p)] xSF M K := by
  have hg6 := hR.goersB
  have hand : s &&& W ≤ s := Nat.and_le_left
  by_cases h0 : s &&& W = 0
  · have loop : ∀ m k, k + m = A 8 0 → Wp g d mX1_hasLeft 19 [some (.ref 45), some (.int (nI s)), some (.int (nI p)), some (.int (nI (orF s (fun i => prtA A (nI W) i n) k))), some (.int (nI k))] [] xSF (0, 0) M K := by
      intro m
      induction m with
      | zero =>
        intro k hk
        obtain rfl : k = A 8 0 := by omega
        have hlt := orF_lt (s := s) (P := fun i => prtA A (nI W) i n) (n := A 8 0) (fun i _ => prtA_lt)
        refine x_iload (pc := 19) dX1_hasLeft_19 rfl ?_
        refine x_aload_n (pc := 21) dX1_hasLeft_21 rfl ?_
        refine x_getR (pc := 22) dX1_hasLeft_22 flX1_22 (by first | assumption | rfl) rfl ?_
        refine x_getI (pc := 25) dX1_hasLeft_25 flX1_86 (by first | assumption | rfl) rfl ?_
        rw [hR.goers]
        first | (guard_target =~ Wp _ _ _ _ _ (Value.int (nI _) :: Value.int (nI _) :: _) _ _ _ _; with_reducible refine x_icmp_geN (pc := 28) (tgt := 56) ?_ ?_ dX1_hasLeft_28 ?_ (fun h28 => ?_) (fun h28 => ?_); (first | omega | exact b2n_31 _); (first | omega | exact b2n_31 _); decide) | refine x_icmp_ge (pc := 28) (tgt := 56) dX1_hasLeft_28 (by decide) (fun h28 => ?_) (fun h28 => ?_)
        · skip
          refine x_iload_n (pc := 56) dX1_hasLeft_56 rfl ?_
          refine x_iload_n (pc := 57) dX1_hasLeft_57 rfl ?_
          first | (guard_target =~ Wp _ _ _ _ _ (Value.int (nI _) :: Value.int (nI _) :: _) _ _ _ _; with_reducible refine x_icmp_neN (pc := 58) (tgt := 65) ?_ ?_ dX1_hasLeft_58 ?_ (fun h58 => ?_) (fun h58 => ?_); (first | omega | exact b2n_31 _); (first | omega | exact b2n_31 _); decide) | refine x_icmp_ne (pc := 58) (tgt := 65) dX1_hasLeft_58 (by decide) (fun h58 => ?_) (fun h58 => ?_)
          · skip
            refine x_iconstN (pc := 65) 0 dX1_hasLeft_65 ic_0 ?_
            refine x_ret (pc := 66) (v := some _) rfl (by first | rfl | decide | exact xrt_b) dX1_hasLeft_66 (by decide) ?_
            rw [show hlB A W n s p = false by unfold hlB; rw [decide_eq_false h58, Bool.and_false]] at h; exact h
          · skip
            refine x_iconstN (pc := 61) 1 dX1_hasLeft_61 ic_1 ?_
            refine x_goto (pc := 62) (tgt := 66) dX1_hasLeft_62 (by decide) ?_
            refine x_ret (pc := 66) (v := some _) rfl (by first | rfl | decide | exact xrt_b) dX1_hasLeft_66 (by decide) ?_
            rw [show hlB A W n s p = true by unfold hlB; rw [decide_eq_true h58, decide_eq_true h0]; rfl] at h; exact h
        · skip
          omega
      | succ m ih =>
        intro k hk
        refine x_iload (pc := 19) dX1_hasLeft_19 rfl ?_
        refine x_aload_n (pc := 21) dX1_hasLeft_21 rfl ?_
        refine x_getR (pc := 22) dX1_hasLeft_22 flX1_22 (by first | assumption | rfl) rfl ?_
        refine x_getI (pc := 25) dX1_hasLeft_25 flX1_86 (by first | assumption | rfl) rfl ?_
        rw [hR.goers]
        first | (guard_target =~ Wp _ _ _ _ _ (Value.int (nI _) :: Value.int (nI _) :: _) _ _ _ _; with_reducible refine x_icmp_geN (pc := 28) (tgt := 56) ?_ ?_ dX1_hasLeft_28 ?_ (fun h28 => ?_) (fun h28 => ?_); (first | omega | exact b2n_31 _); (first | omega | exact b2n_31 _); decide) | refine x_icmp_ge (pc := 28) (tgt := 56) dX1_hasLeft_28 (by decide) (fun h28 => ?_) (fun h28 => ?_)
        · skip
          omega
        · skip
          refine x_iload_n (pc := 31) dX1_hasLeft_31 rfl ?_
          refine x_iload (pc := 32) dX1_hasLeft_32 rfl ?_
          refine x_ishr (pc := 34) dX1_hasLeft_34 ?_
          refine x_iconstN (pc := 35) 1 dX1_hasLeft_35 ic_1 ?_
          refine x_iand (pc := 36) dX1_hasLeft_36 ?_
          rw [tb_shr (by omega), tb_nI (by omega)]
          first | (guard_target =~ Wp _ _ _ _ _ (Value.int (nI _) :: _) _ _ _ _; with_reducible refine x_if_eqN (pc := 37) (tgt := 50) ?_ dX1_hasLeft_37 ?_ (fun h37 => ?_) (fun h37 => ?_); (first | omega | exact b2n_32 _ | exact b2n_31 _); decide) | refine x_if_eq (pc := 37) (tgt := 50) dX1_hasLeft_37 (by decide) (fun h37 => ?_) (fun h37 => ?_)
          · skip
            first | (guard_target =~ Wp _ _ _ _ (_ :: _ :: _ :: _ :: some (Value.int (nI _)) :: _) _ _ _ _ _; with_reducible refine x_iincN (pc := 50) 1 ic_1 dX1_hasLeft_50 ?_ xg_4 xs_4 ?_ ?_; decide; exact (x_hp rfl)) | refine x_iincC (pc := 50) ic_1 dX1_hasLeft_50 (by decide) rfl xs_4 (x_hp rfl) ?_
            refine x_goto (pc := 53) (tgt := 19) dX1_hasLeft_53 (by decide) ?_
            have z := ih (k + 1) (by omega); rw [orF, if_neg (by rw [b2n_0 h37]; decide), Nat.or_zero] at z; exact z
          · skip
            refine x_iload_n (pc := 40) dX1_hasLeft_40 rfl ?_
            refine x_aload_n (pc := 41) dX1_hasLeft_41 rfl ?_
            refine x_getR (pc := 42) dX1_hasLeft_42 flX1_18 (by first | assumption | rfl) rfl ?_
            refine x_iload (pc := 45) dX1_hasLeft_45 rfl ?_
            refine x_ialdN (pc := 47) dX1_hasLeft_47 (by first | assumption | rfl) (by first | with_reducible rfl | (simp only [xlit, nI_add, pk_mul]; with_reducible rfl)) (by omega) (by decide) ?_
            rw [hP k (by omega)]
            first | (guard_target =~ Wp _ _ _ _ _ (Value.int (nI _) :: Value.int (nI _) :: _) _ _ _ _; with_reducible refine x_iorN (pc := 48) dX1_hasLeft_48 ?_) | refine x_ior (pc := 48) dX1_hasLeft_48 ?_
            refine x_istore_n (pc := 49) dX1_hasLeft_49 (by decide) xs_3 (x_hp rfl) ?_
            first | (guard_target =~ Wp _ _ _ _ (_ :: _ :: _ :: _ :: some (Value.int (nI _)) :: _) _ _ _ _ _; with_reducible refine x_iincN (pc := 50) 1 ic_1 dX1_hasLeft_50 ?_ xg_4 xs_4 ?_ ?_; decide; exact (x_hp rfl)) | refine x_iincC (pc := 50) ic_1 dX1_hasLeft_50 (by decide) rfl xs_4 (x_hp rfl) ?_
            refine x_goto (pc := 53) (tgt := 19) dX1_hasLeft_53 (by decide) ?_
            have z := ih (k + 1) (by omega); rw [orF, if_pos (b2n_1 h37)] at z; exact z
    refine x_entry kX1_hasLeft (Nat.le_of_ble_eq_true rfl) ?_
    show Wp g _ mX1_hasLeft 0 [some (.ref 45), some (.int (nI s)), some (.int (nI p)), none, none] [] _ _ _ _
    refine x_iload_n (pc := 0) dX1_hasLeft_0 rfl ?_
    refine x_aload_n (pc := 1) dX1_hasLeft_1 rfl ?_
    refine x_getR (pc := 2) dX1_hasLeft_2 flX1_22 (by first | assumption | rfl) rfl ?_
    refine x_getI (pc := 5) dX1_hasLeft_5 flX1_99 (by first | assumption | rfl) rfl ?_
    rw [hR.away]
    first | (guard_target =~ Wp _ _ _ _ _ (Value.int (nI _) :: Value.int (nI _) :: _) _ _ _ _; with_reducible refine x_iandN (pc := 8) dX1_hasLeft_8 ?_) | refine x_iand (pc := 8) dX1_hasLeft_8 ?_
    first | (guard_target =~ Wp _ _ _ _ _ (Value.int (nI _) :: _) _ _ _ _; with_reducible refine x_if_eqN (pc := 9) (tgt := 14) ?_ dX1_hasLeft_9 ?_ (fun h9 => ?_) (fun h9 => ?_); (first | omega | exact b2n_32 _ | exact b2n_31 _); decide) | refine x_if_eq (pc := 9) (tgt := 14) dX1_hasLeft_9 (by decide) (fun h9 => ?_) (fun h9 => ?_)
    · skip
      refine x_iconstN (pc := 14) 0 dX1_hasLeft_14 ic_0 ?_
      refine x_istore_n (pc := 15) dX1_hasLeft_15 (by decide) xs_3 (x_hp rfl) ?_
      refine x_iconstN (pc := 16) 0 dX1_hasLeft_16 ic_0 ?_
      refine x_istore (pc := 17) dX1_hasLeft_17 (by decide) xs_4 (x_hp rfl) ?_
      exact loop (A 8 0) 0 (by omega)
    · skip
      exact absurd h0 h9
  · rw [show hlB A W n s p = false by unfold hlB; rw [decide_eq_false h0, Bool.false_and]] at h
    refine x_entry kX1_hasLeft (Nat.le_of_ble_eq_true rfl) ?_
    show Wp g _ mX1_hasLeft 0 [some (.ref 45), some (.int (nI s)), some (.int (nI p)), none, none] [] _ _ _ _
    refine x_iload_n (pc := 0) dX1_hasLeft_0 rfl ?_
    refine x_aload_n (pc := 1) dX1_hasLeft_1 rfl ?_
    refine x_getR (pc := 2) dX1_hasLeft_2 flX1_22 (by first | assumption | rfl) rfl ?_
    refine x_getI (pc := 5) dX1_hasLeft_5 flX1_99 (by first | assumption | rfl) rfl ?_
    rw [hR.away]
    first | (guard_target =~ Wp _ _ _ _ _ (Value.int (nI _) :: Value.int (nI _) :: _) _ _ _ _; with_reducible refine x_iandN (pc := 8) dX1_hasLeft_8 ?_) | refine x_iand (pc := 8) dX1_hasLeft_8 ?_
    first | (guard_target =~ Wp _ _ _ _ _ (Value.int (nI _) :: _) _ _ _ _; with_reducible refine x_if_eqN (pc := 9) (tgt := 14) ?_ dX1_hasLeft_9 ?_ (fun h9 => ?_) (fun h9 => ?_); (first | omega | exact b2n_32 _ | exact b2n_31 _); decide) | refine x_if_eq (pc := 9) (tgt := 14) dX1_hasLeft_9 (by decide) (fun h9 => ?_) (fun h9 => ?_)
    · skip
      exact absurd h9 h0
    · skip
      refine x_iconstN (pc := 12) 0 dX1_hasLeft_12 ic_0 ?_
      refine x_ret (pc := 13) (v := some _) rfl (by first | rfl | decide | exact xrt_b) dX1_hasLeft_13 (by decide) ?_
      exact h
theorem sp_X1_setsWhoLeft (hn : n ≤ 60) (hp : p < 65536) (hW : W < 64) (hR : CR 1 M A (nI W) r) (h : ∀ M', xsame 58 59 M M' → K (some (.int (nI (xsum (fun s => b2n (hlB A W n s p)) (2 ^ A 8 0))))) xSF M') : Ex g (d + 4) yX1_setsWhoLeft mX1_setsWhoLeft [.ref 45, .int (nI p), .int (nI n)] xSF M K := by
  have hg6 := hR.goersB
  have h64 := pw6 _ hg6
  have loop : ∀ m k M1, k + m = 2 ^ A 8 0 → xsame 58 59 M M1 → (∀ i, i < A 8 0 → M1.1 58 i = nI (prtA A (nI W) i n)) → Wp g (d + 4) mX1_setsWhoLeft 10 [some (.ref 45), some (.int (nI p)), some (.int (nI n)), some (.int (nI (xsum (fun s => b2n (hlB A W n s p)) k))), some (.int (nI k))] [] xSF (0, 0) M1 K := by
    intro m
    induction m with
    | zero =>
      intro k M1 hk hs hP
      have hR1 := hR.out hs (by decide)
      obtain rfl : k = 2 ^ A 8 0 := by omega
      refine x_iload (pc := 10) dX1_setsWhoLeft_10 rfl ?_
      refine x_iconstN (pc := 12) 1 dX1_setsWhoLeft_12 ic_1 ?_
      refine x_aload_n (pc := 13) dX1_setsWhoLeft_13 rfl ?_
      refine x_getR (pc := 14) dX1_setsWhoLeft_14 flX1_22 (by first | assumption | rfl) rfl ?_
      refine x_getI (pc := 17) dX1_setsWhoLeft_17 flX1_86 (by first | assumption | rfl) rfl ?_
      rw [hR1.goers]
      first | (guard_target =~ Wp _ _ _ _ _ (Value.int (nI _) :: Value.int (nI _) :: _) _ _ _ _; with_reducible refine x_ishlN (pc := 20) ?_ dX1_setsWhoLeft_20 ?_; omega) | refine x_ishl (pc := 20) dX1_setsWhoLeft_20 ?_
      first | (guard_target =~ Wp _ _ _ _ _ (Value.int (nI _) :: Value.int (nI _) :: _) _ _ _ _; with_reducible refine x_icmp_geN (pc := 21) (tgt := 43) ?_ ?_ dX1_setsWhoLeft_21 ?_ (fun h21 => ?_) (fun h21 => ?_); (first | omega | exact b2n_31 _); (first | omega | exact b2n_31 _); decide) | refine x_icmp_ge (pc := 21) (tgt := 43) dX1_setsWhoLeft_21 (by decide) (fun h21 => ?_) (fun h21 => ?_)
      · skip
        refine x_iload_n (pc := 43) dX1_setsWhoLeft_43 rfl ?_
        refine x_ret (pc := 44) (v := some _) rfl trivial dX1_setsWhoLeft_44 (by decide) ?_
        exact h M1 hs
      · skip
        omega
    | succ m ih =>
      intro k M1 hk hs hP
      have hR1 := hR.out hs (by decide)
      refine x_iload (pc := 10) dX1_setsWhoLeft_10 rfl ?_
      refine x_iconstN (pc := 12) 1 dX1_setsWhoLeft_12 ic_1 ?_
      refine x_aload_n (pc := 13) dX1_setsWhoLeft_13 rfl ?_
      refine x_getR (pc := 14) dX1_setsWhoLeft_14 flX1_22 (by first | assumption | rfl) rfl ?_
      refine x_getI (pc := 17) dX1_setsWhoLeft_17 flX1_86 (by first | assumption | rfl) rfl ?_
      rw [hR1.goers]
      first | (guard_target =~ Wp _ _ _ _ _ (Value.int (nI _) :: Value.int (nI _) :: _) _ _ _ _; with_reducible refine x_ishlN (pc := 20) ?_ dX1_setsWhoLeft_20 ?_; omega) | refine x_ishl (pc := 20) dX1_setsWhoLeft_20 ?_
      first | (guard_target =~ Wp _ _ _ _ _ (Value.int (nI _) :: Value.int (nI _) :: _) _ _ _ _; with_reducible refine x_icmp_geN (pc := 21) (tgt := 43) ?_ ?_ dX1_setsWhoLeft_21 ?_ (fun h21 => ?_) (fun h21 => ?_); (first | omega | exact b2n_31 _); (first | omega | exact b2n_31 _); decide) | refine x_icmp_ge (pc := 21) (tgt := 43) dX1_setsWhoLeft_21 (by decide) (fun h21 => ?_) (fun h21 => ?_)
      · skip
        omega
      · skip
        refine x_aload_n (pc := 24) dX1_setsWhoLeft_24 rfl ?_
        refine x_iload (pc := 25) dX1_setsWhoLeft_25 rfl ?_
        refine x_iload_n (pc := 27) dX1_setsWhoLeft_27 rfl ?_
        refine x_invV2 (pc := 28) dX1_setsWhoLeft_28 mlX1_92 imX1_hasLeft seX1_hasLeft kX1_hasLeft (by first | assumption | rfl) rfl (Nat.le_of_ble_eq_true rfl) (by decide) ?_
        refine sp_X1_hasLeft (by omega) hp hW hR1 hP ?_
        refine x_cv rfl rfl ?_
        first | (guard_target =~ Wp _ _ _ _ _ (Value.int (nI _) :: _) _ _ _ _; with_reducible refine x_if_eqN (pc := 31) (tgt := 37) ?_ dX1_setsWhoLeft_31 ?_ (fun h31 => ?_) (fun h31 => ?_); (first | omega | exact b2n_32 _ | exact b2n_31 _); decide) | refine x_if_eq (pc := 31) (tgt := 37) dX1_setsWhoLeft_31 (by decide) (fun h31 => ?_) (fun h31 => ?_)
        · skip
          first | (guard_target =~ Wp _ _ _ _ (_ :: _ :: _ :: _ :: some (Value.int (nI _)) :: _) _ _ _ _ _; with_reducible refine x_iincN (pc := 37) 1 ic_1 dX1_setsWhoLeft_37 ?_ xg_4 xs_4 ?_ ?_; decide; exact (x_hp rfl)) | refine x_iincC (pc := 37) ic_1 dX1_setsWhoLeft_37 (by decide) rfl xs_4 (x_hp rfl) ?_
          refine x_goto (pc := 40) (tgt := 10) dX1_setsWhoLeft_40 (by decide) ?_
          have z := ih (k + 1) M1 (by omega) hs hP; rw [xsum, h31, Nat.add_zero] at z; exact z
        · skip
          first | (guard_target =~ Wp _ _ _ _ (_ :: _ :: _ :: some (Value.int (nI _)) :: _) _ _ _ _ _; with_reducible refine x_iincN (pc := 34) 1 ic_1 dX1_setsWhoLeft_34 ?_ xg_3 xs_3 ?_ ?_; decide; exact (x_hp rfl)) | refine x_iincC (pc := 34) ic_1 dX1_setsWhoLeft_34 (by decide) rfl xs_3 (x_hp rfl) ?_
          first | (guard_target =~ Wp _ _ _ _ (_ :: _ :: _ :: _ :: some (Value.int (nI _)) :: _) _ _ _ _ _; with_reducible refine x_iincN (pc := 37) 1 ic_1 dX1_setsWhoLeft_37 ?_ xg_4 xs_4 ?_ ?_; decide; exact (x_hp rfl)) | refine x_iincC (pc := 37) ic_1 dX1_setsWhoLeft_37 (by decide) rfl xs_4 (x_hp rfl) ?_
          refine x_goto (pc := 40) (tgt := 10) dX1_setsWhoLeft_40 (by decide) ?_
          have z := ih (k + 1) M1 (by omega) hs hP; rw [xsum, show b2n (hlB A W n k p) = 1 by have := b2n_lt (hlB A W n k p); omega] at z; exact z
  refine x_entry kX1_setsWhoLeft (Nat.le_of_ble_eq_true rfl) ?_
  show Wp g _ mX1_setsWhoLeft 0 [some (.ref 45), some (.int (nI p)), some (.int (nI n)), none, none] [] _ _ _ _
  refine x_aload_n (pc := 0) dX1_setsWhoLeft_0 rfl ?_
  refine x_iload_n (pc := 1) dX1_setsWhoLeft_1 rfl ?_
  refine x_invV1 (pc := 2) dX1_setsWhoLeft_2 mlX1_83 imX1_takePrints seX1_takePrints kX1_takePrints (by first | assumption | rfl) rfl (Nat.le_of_ble_eq_true rfl) (by decide) ?_
  refine sp_X1_takePrints hn hR (fun M1 hs hP => ?_)
  refine x_cn rfl rfl ?_
  refine x_iconstN (pc := 5) 0 dX1_setsWhoLeft_5 ic_0 ?_
  refine x_istore_n (pc := 6) dX1_setsWhoLeft_6 (by decide) xs_3 (x_hp rfl) ?_
  refine x_iconstN (pc := 7) 0 dX1_setsWhoLeft_7 ic_0 ?_
  refine x_istore (pc := 8) dX1_setsWhoLeft_8 (by decide) xs_4 (x_hp rfl) ?_
  exact loop (2 ^ A 8 0) 0 M1 (by omega) hs hP
theorem sp_X1_fewestWhoLeft (hn : n ≤ 60) (hp : p < 65536) (hW : W < 64) (hR : CR 1 M A (nI W) r) (h : ∀ M', xsame 58 59 M M' → K (some (.int (oI' (fewF (fun s => hlB A W n s p) (2 ^ A 8 0))))) xSF M') : Ex g (d + 4) yX1_fewestWhoLeft mX1_fewestWhoLeft [.ref 45, .int (nI p), .int (nI n)] xSF M K := by
  have hg6 := hR.goersB
  have h64 := pw6 _ hg6
  have loop : ∀ m k M1 o5 o, fewF (fun s => hlB A W n s p) k = o → (∀ b, o = some b → b < k) → k + m = 2 ^ A 8 0 → xsame 58 59 M M1 → (∀ i, i < A 8 0 → M1.1 58 i = nI (prtA A (nI W) i n)) → Wp g (d + 4) mX1_fewestWhoLeft 11 [some (.ref 45), some (.int (nI p)), some (.int (nI n)), some (.int (oI' o)), some (.int (nI k)), o5] [] xSF (0, 0) M1 K := by
    intro m
    induction m with
    | zero =>
      intro k M1 o5 o he hb hk hs hP
      have hR1 := hR.out hs (by decide)
      obtain rfl : k = 2 ^ A 8 0 := by omega
      refine x_iload (pc := 11) dX1_fewestWhoLeft_11 rfl ?_
      refine x_iconstN (pc := 13) 1 dX1_fewestWhoLeft_13 ic_1 ?_
      refine x_aload_n (pc := 14) dX1_fewestWhoLeft_14 rfl ?_
      refine x_getR (pc := 15) dX1_fewestWhoLeft_15 flX1_22 (by first | assumption | rfl) rfl ?_
      refine x_getI (pc := 18) dX1_fewestWhoLeft_18 flX1_86 (by first | assumption | rfl) rfl ?_
      rw [hR1.goers]
      first | (guard_target =~ Wp _ _ _ _ _ (Value.int (nI _) :: Value.int (nI _) :: _) _ _ _ _; with_reducible refine x_ishlN (pc := 21) ?_ dX1_fewestWhoLeft_21 ?_; omega) | refine x_ishl (pc := 21) dX1_fewestWhoLeft_21 ?_
      first | (guard_target =~ Wp _ _ _ _ _ (Value.int (nI _) :: Value.int (nI _) :: _) _ _ _ _; with_reducible refine x_icmp_geN (pc := 22) (tgt := 72) ?_ ?_ dX1_fewestWhoLeft_22 ?_ (fun h22 => ?_) (fun h22 => ?_); (first | omega | exact b2n_31 _); (first | omega | exact b2n_31 _); decide) | refine x_icmp_ge (pc := 22) (tgt := 72) dX1_fewestWhoLeft_22 (by decide) (fun h22 => ?_) (fun h22 => ?_)
      · skip
        refine x_iload_n (pc := 72) dX1_fewestWhoLeft_72 rfl ?_
        refine x_ret (pc := 73) (v := some _) rfl trivial dX1_fewestWhoLeft_73 (by decide) ?_
        have z := h M1 hs; rw [he] at z; exact z
      · skip
        omega
    | succ m ih =>
      intro k M1 o5 o he hb hk hs hP
      have hR1 := hR.out hs (by decide)
      rcases o with _ | b
      · skip
        refine x_iload (pc := 11) dX1_fewestWhoLeft_11 rfl ?_
        refine x_iconstN (pc := 13) 1 dX1_fewestWhoLeft_13 ic_1 ?_
        refine x_aload_n (pc := 14) dX1_fewestWhoLeft_14 rfl ?_
        refine x_getR (pc := 15) dX1_fewestWhoLeft_15 flX1_22 (by first | assumption | rfl) rfl ?_
        refine x_getI (pc := 18) dX1_fewestWhoLeft_18 flX1_86 (by first | assumption | rfl) rfl ?_
        rw [hR1.goers]
        first | (guard_target =~ Wp _ _ _ _ _ (Value.int (nI _) :: Value.int (nI _) :: _) _ _ _ _; with_reducible refine x_ishlN (pc := 21) ?_ dX1_fewestWhoLeft_21 ?_; omega) | refine x_ishl (pc := 21) dX1_fewestWhoLeft_21 ?_
        first | (guard_target =~ Wp _ _ _ _ _ (Value.int (nI _) :: Value.int (nI _) :: _) _ _ _ _; with_reducible refine x_icmp_geN (pc := 22) (tgt := 72) ?_ ?_ dX1_fewestWhoLeft_22 ?_ (fun h22 => ?_) (fun h22 => ?_); (first | omega | exact b2n_31 _); (first | omega | exact b2n_31 _); decide) | refine x_icmp_ge (pc := 22) (tgt := 72) dX1_fewestWhoLeft_22 (by decide) (fun h22 => ?_) (fun h22 => ?_)
        · skip
          omega
        · skip
          refine x_iload_n (pc := 25) dX1_fewestWhoLeft_25 rfl ?_
          refine x_if_lt (pc := 26) (tgt := 41) dX1_fewestWhoLeft_26 (by decide) (fun h26 => ?_) (fun h26 => ?_)
          · skip
            refine x_iconstN (pc := 41) 1 dX1_fewestWhoLeft_41 ic_1 ?_
            refine x_goto (pc := 42) (tgt := 46) dX1_fewestWhoLeft_42 (by decide) ?_
            refine x_istore (pc := 46) dX1_fewestWhoLeft_46 (by decide) xs_5 (x_hp rfl) ?_
            refine x_aload_n (pc := 48) dX1_fewestWhoLeft_48 rfl ?_
            refine x_iload (pc := 49) dX1_fewestWhoLeft_49 rfl ?_
            refine x_iload_n (pc := 51) dX1_fewestWhoLeft_51 rfl ?_
            refine x_invV2 (pc := 52) dX1_fewestWhoLeft_52 mlX1_92 imX1_hasLeft seX1_hasLeft kX1_hasLeft (by first | assumption | rfl) rfl (Nat.le_of_ble_eq_true rfl) (by decide) ?_
            refine sp_X1_hasLeft (by omega) hp hW hR1 hP ?_
            refine x_cv rfl rfl ?_
            first | (guard_target =~ Wp _ _ _ _ _ (Value.int (nI _) :: _) _ _ _ _; with_reducible refine x_if_eqN (pc := 55) (tgt := 66) ?_ dX1_fewestWhoLeft_55 ?_ (fun h55 => ?_) (fun h55 => ?_); (first | omega | exact b2n_32 _ | exact b2n_31 _); decide) | refine x_if_eq (pc := 55) (tgt := 66) dX1_fewestWhoLeft_55 (by decide) (fun h55 => ?_) (fun h55 => ?_)
            · skip
              first | (guard_target =~ Wp _ _ _ _ (_ :: _ :: _ :: _ :: some (Value.int (nI _)) :: _) _ _ _ _ _; with_reducible refine x_iincN (pc := 66) 1 ic_1 dX1_fewestWhoLeft_66 ?_ xg_4 xs_4 ?_ ?_; decide; exact (x_hp rfl)) | refine x_iincC (pc := 66) ic_1 dX1_fewestWhoLeft_66 (by decide) rfl xs_4 (x_hp rfl) ?_
              refine x_goto (pc := 69) (tgt := 11) dX1_fewestWhoLeft_69 (by decide) ?_
              refine ih (k + 1) M1 _ none ?_ (fun b hb => by cases hb) (by omega) hs hP
              rw [fewF, if_neg (fun q => by rw [b2n_0 h55] at q; cases q.1)]; exact he
            · skip
              refine x_iload (pc := 58) dX1_fewestWhoLeft_58 rfl ?_
              first | (guard_target =~ Wp _ _ _ _ _ (Value.int (nI _) :: _) _ _ _ _; with_reducible refine x_if_eqN (pc := 60) (tgt := 66) ?_ dX1_fewestWhoLeft_60 ?_ (fun h60 => ?_) (fun h60 => ?_); (first | omega | exact b2n_32 _ | exact b2n_31 _); decide) | refine x_if_eq (pc := 60) (tgt := 66) dX1_fewestWhoLeft_60 (by decide) (fun h60 => ?_) (fun h60 => ?_)
              · skip
                omega
              · skip
                refine x_iload (pc := 63) dX1_fewestWhoLeft_63 rfl ?_
                refine x_istore_n (pc := 65) dX1_fewestWhoLeft_65 (by decide) xs_3 (x_hp rfl) ?_
                first | (guard_target =~ Wp _ _ _ _ (_ :: _ :: _ :: _ :: some (Value.int (nI _)) :: _) _ _ _ _ _; with_reducible refine x_iincN (pc := 66) 1 ic_1 dX1_fewestWhoLeft_66 ?_ xg_4 xs_4 ?_ ?_; decide; exact (x_hp rfl)) | refine x_iincC (pc := 66) ic_1 dX1_fewestWhoLeft_66 (by decide) rfl xs_4 (x_hp rfl) ?_
                refine x_goto (pc := 69) (tgt := 11) dX1_fewestWhoLeft_69 (by decide) ?_
                refine ih (k + 1) M1 _ (some k) ?_ (fun b hb => by cases hb; omega) (by omega) hs hP
                rw [fewF, if_pos ⟨b2n_1 h55, fun b hb => by rw [he] at hb; cases hb⟩]
          · skip
            exact absurd (by decide) h26
      · have hb1 := hb b rfl
        have hp1 := xpop_le (b := k)
        have hp2 := xpop_le (b := b)
        by_cases hlt : xpop k < xpop b
        · skip
          refine x_iload (pc := 11) dX1_fewestWhoLeft_11 rfl ?_
          refine x_iconstN (pc := 13) 1 dX1_fewestWhoLeft_13 ic_1 ?_
          refine x_aload_n (pc := 14) dX1_fewestWhoLeft_14 rfl ?_
          refine x_getR (pc := 15) dX1_fewestWhoLeft_15 flX1_22 (by first | assumption | rfl) rfl ?_
          refine x_getI (pc := 18) dX1_fewestWhoLeft_18 flX1_86 (by first | assumption | rfl) rfl ?_
          rw [hR1.goers]
          first | (guard_target =~ Wp _ _ _ _ _ (Value.int (nI _) :: Value.int (nI _) :: _) _ _ _ _; with_reducible refine x_ishlN (pc := 21) ?_ dX1_fewestWhoLeft_21 ?_; omega) | refine x_ishl (pc := 21) dX1_fewestWhoLeft_21 ?_
          first | (guard_target =~ Wp _ _ _ _ _ (Value.int (nI _) :: Value.int (nI _) :: _) _ _ _ _; with_reducible refine x_icmp_geN (pc := 22) (tgt := 72) ?_ ?_ dX1_fewestWhoLeft_22 ?_ (fun h22 => ?_) (fun h22 => ?_); (first | omega | exact b2n_31 _); (first | omega | exact b2n_31 _); decide) | refine x_icmp_ge (pc := 22) (tgt := 72) dX1_fewestWhoLeft_22 (by decide) (fun h22 => ?_) (fun h22 => ?_)
          · skip
            omega
          · skip
            refine x_iload_n (pc := 25) dX1_fewestWhoLeft_25 rfl ?_
            refine x_if_lt (pc := 26) (tgt := 41) dX1_fewestWhoLeft_26 (by decide) (fun h26 => ?_) (fun h26 => ?_)
            · skip
              exact absurd h26 (nI_pos (by omega))
            · skip
              refine x_iload (pc := 29) dX1_fewestWhoLeft_29 rfl ?_
              refine x_invS1 (pc := 31) dX1_fewestWhoLeft_31 mlX1_89 stX3_howMany kX3_howMany (Nat.le_of_ble_eq_true rfl) (by decide) ?_
              refine sp_X3_howMany (by omega) ?_
              refine x_cv rfl rfl ?_
              refine x_iload_n (pc := 34) dX1_fewestWhoLeft_34 rfl ?_
              refine x_invS1 (pc := 35) dX1_fewestWhoLeft_35 mlX1_89 stX3_howMany kX3_howMany (Nat.le_of_ble_eq_true rfl) (by decide) ?_
              refine sp_X3_howMany (by omega) ?_
              refine x_cv rfl rfl ?_
              first | (guard_target =~ Wp _ _ _ _ _ (Value.int (nI _) :: Value.int (nI _) :: _) _ _ _ _; with_reducible refine x_icmp_geN (pc := 38) (tgt := 45) ?_ ?_ dX1_fewestWhoLeft_38 ?_ (fun h38 => ?_) (fun h38 => ?_); (first | omega | exact b2n_31 _); (first | omega | exact b2n_31 _); decide) | refine x_icmp_ge (pc := 38) (tgt := 45) dX1_fewestWhoLeft_38 (by decide) (fun h38 => ?_) (fun h38 => ?_)
              · skip
                omega
              · skip
                refine x_iconstN (pc := 41) 1 dX1_fewestWhoLeft_41 ic_1 ?_
                refine x_goto (pc := 42) (tgt := 46) dX1_fewestWhoLeft_42 (by decide) ?_
                refine x_istore (pc := 46) dX1_fewestWhoLeft_46 (by decide) xs_5 (x_hp rfl) ?_
                refine x_aload_n (pc := 48) dX1_fewestWhoLeft_48 rfl ?_
                refine x_iload (pc := 49) dX1_fewestWhoLeft_49 rfl ?_
                refine x_iload_n (pc := 51) dX1_fewestWhoLeft_51 rfl ?_
                refine x_invV2 (pc := 52) dX1_fewestWhoLeft_52 mlX1_92 imX1_hasLeft seX1_hasLeft kX1_hasLeft (by first | assumption | rfl) rfl (Nat.le_of_ble_eq_true rfl) (by decide) ?_
                refine sp_X1_hasLeft (by omega) hp hW hR1 hP ?_
                refine x_cv rfl rfl ?_
                first | (guard_target =~ Wp _ _ _ _ _ (Value.int (nI _) :: _) _ _ _ _; with_reducible refine x_if_eqN (pc := 55) (tgt := 66) ?_ dX1_fewestWhoLeft_55 ?_ (fun h55 => ?_) (fun h55 => ?_); (first | omega | exact b2n_32 _ | exact b2n_31 _); decide) | refine x_if_eq (pc := 55) (tgt := 66) dX1_fewestWhoLeft_55 (by decide) (fun h55 => ?_) (fun h55 => ?_)
                · skip
                  first | (guard_target =~ Wp _ _ _ _ (_ :: _ :: _ :: _ :: some (Value.int (nI _)) :: _) _ _ _ _ _; with_reducible refine x_iincN (pc := 66) 1 ic_1 dX1_fewestWhoLeft_66 ?_ xg_4 xs_4 ?_ ?_; decide; exact (x_hp rfl)) | refine x_iincC (pc := 66) ic_1 dX1_fewestWhoLeft_66 (by decide) rfl xs_4 (x_hp rfl) ?_
                  refine x_goto (pc := 69) (tgt := 11) dX1_fewestWhoLeft_69 (by decide) ?_
                  refine ih (k + 1) M1 _ (some b) ?_ (fun b hb => by cases hb; omega) (by omega) hs hP
                  rw [fewF, if_neg (fun q => by rw [b2n_0 h55] at q; cases q.1)]; exact he
                · skip
                  refine x_iload (pc := 58) dX1_fewestWhoLeft_58 rfl ?_
                  first | (guard_target =~ Wp _ _ _ _ _ (Value.int (nI _) :: _) _ _ _ _; with_reducible refine x_if_eqN (pc := 60) (tgt := 66) ?_ dX1_fewestWhoLeft_60 ?_ (fun h60 => ?_) (fun h60 => ?_); (first | omega | exact b2n_32 _ | exact b2n_31 _); decide) | refine x_if_eq (pc := 60) (tgt := 66) dX1_fewestWhoLeft_60 (by decide) (fun h60 => ?_) (fun h60 => ?_)
                  · skip
                    omega
                  · skip
                    refine x_iload (pc := 63) dX1_fewestWhoLeft_63 rfl ?_
                    refine x_istore_n (pc := 65) dX1_fewestWhoLeft_65 (by decide) xs_3 (x_hp rfl) ?_
                    first | (guard_target =~ Wp _ _ _ _ (_ :: _ :: _ :: _ :: some (Value.int (nI _)) :: _) _ _ _ _ _; with_reducible refine x_iincN (pc := 66) 1 ic_1 dX1_fewestWhoLeft_66 ?_ xg_4 xs_4 ?_ ?_; decide; exact (x_hp rfl)) | refine x_iincC (pc := 66) ic_1 dX1_fewestWhoLeft_66 (by decide) rfl xs_4 (x_hp rfl) ?_
                    refine x_goto (pc := 69) (tgt := 11) dX1_fewestWhoLeft_69 (by decide) ?_
                    refine ih (k + 1) M1 _ (some k) ?_ (fun b hb => by cases hb; omega) (by omega) hs hP
                    rw [fewF, if_pos ⟨b2n_1 h55, fun b' hb' => by rw [he] at hb'; cases hb'; omega⟩]
        · skip
          refine x_iload (pc := 11) dX1_fewestWhoLeft_11 rfl ?_
          refine x_iconstN (pc := 13) 1 dX1_fewestWhoLeft_13 ic_1 ?_
          refine x_aload_n (pc := 14) dX1_fewestWhoLeft_14 rfl ?_
          refine x_getR (pc := 15) dX1_fewestWhoLeft_15 flX1_22 (by first | assumption | rfl) rfl ?_
          refine x_getI (pc := 18) dX1_fewestWhoLeft_18 flX1_86 (by first | assumption | rfl) rfl ?_
          rw [hR1.goers]
          first | (guard_target =~ Wp _ _ _ _ _ (Value.int (nI _) :: Value.int (nI _) :: _) _ _ _ _; with_reducible refine x_ishlN (pc := 21) ?_ dX1_fewestWhoLeft_21 ?_; omega) | refine x_ishl (pc := 21) dX1_fewestWhoLeft_21 ?_
          first | (guard_target =~ Wp _ _ _ _ _ (Value.int (nI _) :: Value.int (nI _) :: _) _ _ _ _; with_reducible refine x_icmp_geN (pc := 22) (tgt := 72) ?_ ?_ dX1_fewestWhoLeft_22 ?_ (fun h22 => ?_) (fun h22 => ?_); (first | omega | exact b2n_31 _); (first | omega | exact b2n_31 _); decide) | refine x_icmp_ge (pc := 22) (tgt := 72) dX1_fewestWhoLeft_22 (by decide) (fun h22 => ?_) (fun h22 => ?_)
          · skip
            omega
          · skip
            refine x_iload_n (pc := 25) dX1_fewestWhoLeft_25 rfl ?_
            refine x_if_lt (pc := 26) (tgt := 41) dX1_fewestWhoLeft_26 (by decide) (fun h26 => ?_) (fun h26 => ?_)
            · skip
              exact absurd h26 (nI_pos (by omega))
            · skip
              refine x_iload (pc := 29) dX1_fewestWhoLeft_29 rfl ?_
              refine x_invS1 (pc := 31) dX1_fewestWhoLeft_31 mlX1_89 stX3_howMany kX3_howMany (Nat.le_of_ble_eq_true rfl) (by decide) ?_
              refine sp_X3_howMany (by omega) ?_
              refine x_cv rfl rfl ?_
              refine x_iload_n (pc := 34) dX1_fewestWhoLeft_34 rfl ?_
              refine x_invS1 (pc := 35) dX1_fewestWhoLeft_35 mlX1_89 stX3_howMany kX3_howMany (Nat.le_of_ble_eq_true rfl) (by decide) ?_
              refine sp_X3_howMany (by omega) ?_
              refine x_cv rfl rfl ?_
              first | (guard_target =~ Wp _ _ _ _ _ (Value.int (nI _) :: Value.int (nI _) :: _) _ _ _ _; with_reducible refine x_icmp_geN (pc := 38) (tgt := 45) ?_ ?_ dX1_fewestWhoLeft_38 ?_ (fun h38 => ?_) (fun h38 => ?_); (first | omega | exact b2n_31 _); (first | omega | exact b2n_31 _); decide) | refine x_icmp_ge (pc := 38) (tgt := 45) dX1_fewestWhoLeft_38 (by decide) (fun h38 => ?_) (fun h38 => ?_)
              · skip
                refine x_iconstN (pc := 45) 0 dX1_fewestWhoLeft_45 ic_0 ?_
                refine x_istore (pc := 46) dX1_fewestWhoLeft_46 (by decide) xs_5 (x_hp rfl) ?_
                refine x_aload_n (pc := 48) dX1_fewestWhoLeft_48 rfl ?_
                refine x_iload (pc := 49) dX1_fewestWhoLeft_49 rfl ?_
                refine x_iload_n (pc := 51) dX1_fewestWhoLeft_51 rfl ?_
                refine x_invV2 (pc := 52) dX1_fewestWhoLeft_52 mlX1_92 imX1_hasLeft seX1_hasLeft kX1_hasLeft (by first | assumption | rfl) rfl (Nat.le_of_ble_eq_true rfl) (by decide) ?_
                refine sp_X1_hasLeft (by omega) hp hW hR1 hP ?_
                refine x_cv rfl rfl ?_
                first | (guard_target =~ Wp _ _ _ _ _ (Value.int (nI _) :: _) _ _ _ _; with_reducible refine x_if_eqN (pc := 55) (tgt := 66) ?_ dX1_fewestWhoLeft_55 ?_ (fun h55 => ?_) (fun h55 => ?_); (first | omega | exact b2n_32 _ | exact b2n_31 _); decide) | refine x_if_eq (pc := 55) (tgt := 66) dX1_fewestWhoLeft_55 (by decide) (fun h55 => ?_) (fun h55 => ?_)
                · skip
                  first | (guard_target =~ Wp _ _ _ _ (_ :: _ :: _ :: _ :: some (Value.int (nI _)) :: _) _ _ _ _ _; with_reducible refine x_iincN (pc := 66) 1 ic_1 dX1_fewestWhoLeft_66 ?_ xg_4 xs_4 ?_ ?_; decide; exact (x_hp rfl)) | refine x_iincC (pc := 66) ic_1 dX1_fewestWhoLeft_66 (by decide) rfl xs_4 (x_hp rfl) ?_
                  refine x_goto (pc := 69) (tgt := 11) dX1_fewestWhoLeft_69 (by decide) ?_
                  refine ih (k + 1) M1 _ (some b) ?_ (fun b hb => by cases hb; omega) (by omega) hs hP
                  rw [fewF, if_neg (fun q => absurd (q.2 b he) hlt)]; exact he
                · skip
                  refine x_iload (pc := 58) dX1_fewestWhoLeft_58 rfl ?_
                  first | (guard_target =~ Wp _ _ _ _ _ (Value.int (nI _) :: _) _ _ _ _; with_reducible refine x_if_eqN (pc := 60) (tgt := 66) ?_ dX1_fewestWhoLeft_60 ?_ (fun h60 => ?_) (fun h60 => ?_); (first | omega | exact b2n_32 _ | exact b2n_31 _); decide) | refine x_if_eq (pc := 60) (tgt := 66) dX1_fewestWhoLeft_60 (by decide) (fun h60 => ?_) (fun h60 => ?_)
                  · skip
                    first | (guard_target =~ Wp _ _ _ _ (_ :: _ :: _ :: _ :: some (Value.int (nI _)) :: _) _ _ _ _ _; with_reducible refine x_iincN (pc := 66) 1 ic_1 dX1_fewestWhoLeft_66 ?_ xg_4 xs_4 ?_ ?_; decide; exact (x_hp rfl)) | refine x_iincC (pc := 66) ic_1 dX1_fewestWhoLeft_66 (by decide) rfl xs_4 (x_hp rfl) ?_
                    refine x_goto (pc := 69) (tgt := 11) dX1_fewestWhoLeft_69 (by decide) ?_
                    refine ih (k + 1) M1 _ (some b) ?_ (fun b hb => by cases hb; omega) (by omega) hs hP
                    rw [fewF, if_neg (fun q => absurd (q.2 b he) hlt)]; exact he
                  · skip
                    omega
              · skip
                omega
  refine x_entry kX1_fewestWhoLeft (Nat.le_of_ble_eq_true rfl) ?_
  show Wp g _ mX1_fewestWhoLeft 0 [some (.ref 45), some (.int (nI p)), some (.int (nI n)), none, none, none] [] _ _ _ _
  refine x_aload_n (pc := 0) dX1_fewestWhoLeft_0 rfl ?_
  refine x_iload_n (pc := 1) dX1_fewestWhoLeft_1 rfl ?_
  refine x_invV1 (pc := 2) dX1_fewestWhoLeft_2 mlX1_83 imX1_takePrints seX1_takePrints kX1_takePrints (by first | assumption | rfl) rfl (Nat.le_of_ble_eq_true rfl) (by decide) ?_
  refine sp_X1_takePrints hn hR (fun M1 hs hP => ?_)
  refine x_cn rfl rfl ?_
  refine x_bipush (pc := 5) dX1_fewestWhoLeft_5 bp_m5 ?_
  refine x_istore_n (pc := 7) dX1_fewestWhoLeft_7 (by decide) xs_3 (x_hp rfl) ?_
  refine x_iconstN (pc := 8) 0 dX1_fewestWhoLeft_8 ic_0 ?_
  refine x_istore (pc := 9) dX1_fewestWhoLeft_9 (by decide) xs_4 (x_hp rfl) ?_
  exact loop (2 ^ A 8 0) 0 M1 _ none rfl (fun b hb => by cases hb) (by omega) hs hP
theorem sp_X1_freeCells (hR : CR 1 M A w r) (h : K (some (.int (nI (freA A)))) xSF M) : Ex g d yX1_freeCells mX1_freeCells [.ref 45] xSF M K := by
  have hg6 := hR.goersB
  have loop : ∀ m k, k + m = A 8 0 → Wp g d mX1_freeCells 10 [some (.ref 45), some (.int (nI (bsyF A k))), some (.int (nI k))] [] xSF (0, 0) M K := by
    intro m
    induction m with
    | zero =>
      intro k hk
      obtain rfl : k = A 8 0 := by omega
      refine x_iload_n (pc := 10) dX1_freeCells_10 rfl ?_
      refine x_aload_n (pc := 11) dX1_freeCells_11 rfl ?_
      refine x_getR (pc := 12) dX1_freeCells_12 flX1_22 (by first | assumption | rfl) rfl ?_
      refine x_getI (pc := 15) dX1_freeCells_15 flX1_86 (by first | assumption | rfl) rfl ?_
      rw [hR.goers]
      first | (guard_target =~ Wp _ _ _ _ _ (Value.int (nI _) :: Value.int (nI _) :: _) _ _ _ _; with_reducible refine x_icmp_geN (pc := 18) (tgt := 53) ?_ ?_ dX1_freeCells_18 ?_ (fun h18 => ?_) (fun h18 => ?_); (first | omega | exact b2n_31 _); (first | omega | exact b2n_31 _); decide) | refine x_icmp_ge (pc := 18) (tgt := 53) dX1_freeCells_18 (by decide) (fun h18 => ?_) (fun h18 => ?_)
      · skip
        refine x_ldc (pc := 53) (v := nI 65535) dX1_freeCells_53 ckX1_118 ?_
        refine x_iload_n (pc := 55) dX1_freeCells_55 rfl ?_
        refine x_iconst (pc := 56) dX1_freeCells_56 ic_m1 ?_
        refine x_ixor (pc := 57) dX1_freeCells_57 ?_
        refine x_iand (pc := 58) dX1_freeCells_58 ?_
        rw [xset_sub (by decide)]
        refine x_ret (pc := 59) (v := some _) rfl trivial dX1_freeCells_59 (by decide) ?_
        exact h
      · skip
        omega
    | succ m ih =>
      intro k hk
      have hf := hR.fromB (show k < 6 by omega)
      have ht := hR.toB (show k < 6 by omega)
      refine x_iload_n (pc := 10) dX1_freeCells_10 rfl ?_
      refine x_aload_n (pc := 11) dX1_freeCells_11 rfl ?_
      refine x_getR (pc := 12) dX1_freeCells_12 flX1_22 (by first | assumption | rfl) rfl ?_
      refine x_getI (pc := 15) dX1_freeCells_15 flX1_86 (by first | assumption | rfl) rfl ?_
      rw [hR.goers]
      first | (guard_target =~ Wp _ _ _ _ _ (Value.int (nI _) :: Value.int (nI _) :: _) _ _ _ _; with_reducible refine x_icmp_geN (pc := 18) (tgt := 53) ?_ ?_ dX1_freeCells_18 ?_ (fun h18 => ?_) (fun h18 => ?_); (first | omega | exact b2n_31 _); (first | omega | exact b2n_31 _); decide) | refine x_icmp_ge (pc := 18) (tgt := 53) dX1_freeCells_18 (by decide) (fun h18 => ?_) (fun h18 => ?_)
      · skip
        omega
      · skip
        refine x_iload_n (pc := 21) dX1_freeCells_21 rfl ?_
        refine x_iconstN (pc := 22) 1 dX1_freeCells_22 ic_1 ?_
        refine x_aload_n (pc := 23) dX1_freeCells_23 rfl ?_
        refine x_getR (pc := 24) dX1_freeCells_24 flX1_22 (by first | assumption | rfl) rfl ?_
        refine x_getR (pc := 27) dX1_freeCells_27 flX1_112 (by first | assumption | rfl) rfl ?_
        refine x_iload_n (pc := 30) dX1_freeCells_30 rfl ?_
        refine x_ialdN (pc := 31) dX1_freeCells_31 (by first | assumption | rfl) (by first | with_reducible rfl | (simp only [xlit, nI_add, pk_mul]; with_reducible rfl)) (by omega) (by decide) ?_
        rw [hR.from (by omega)]
        first | (guard_target =~ Wp _ _ _ _ _ (Value.int (nI _) :: Value.int (nI _) :: _) _ _ _ _; with_reducible refine x_ishlN (pc := 32) ?_ dX1_freeCells_32 ?_; omega) | refine x_ishl (pc := 32) dX1_freeCells_32 ?_
        refine x_iconstN (pc := 33) 1 dX1_freeCells_33 ic_1 ?_
        refine x_aload_n (pc := 34) dX1_freeCells_34 rfl ?_
        refine x_getR (pc := 35) dX1_freeCells_35 flX1_22 (by first | assumption | rfl) rfl ?_
        refine x_getR (pc := 38) dX1_freeCells_38 flX1_115 (by first | assumption | rfl) rfl ?_
        refine x_iload_n (pc := 41) dX1_freeCells_41 rfl ?_
        refine x_ialdN (pc := 42) dX1_freeCells_42 (by first | assumption | rfl) (by first | with_reducible rfl | (simp only [xlit, nI_add, pk_mul]; with_reducible rfl)) (by omega) (by decide) ?_
        rw [hR.to (by omega)]
        first | (guard_target =~ Wp _ _ _ _ _ (Value.int (nI _) :: Value.int (nI _) :: _) _ _ _ _; with_reducible refine x_ishlN (pc := 43) ?_ dX1_freeCells_43 ?_; omega) | refine x_ishl (pc := 43) dX1_freeCells_43 ?_
        first | (guard_target =~ Wp _ _ _ _ _ (Value.int (nI _) :: Value.int (nI _) :: _) _ _ _ _; with_reducible refine x_iorN (pc := 44) dX1_freeCells_44 ?_) | refine x_ior (pc := 44) dX1_freeCells_44 ?_
        first | (guard_target =~ Wp _ _ _ _ _ (Value.int (nI _) :: Value.int (nI _) :: _) _ _ _ _; with_reducible refine x_iorN (pc := 45) dX1_freeCells_45 ?_) | refine x_ior (pc := 45) dX1_freeCells_45 ?_
        refine x_istore_n (pc := 46) dX1_freeCells_46 (by decide) xs_1 (x_hp rfl) ?_
        first | (guard_target =~ Wp _ _ _ _ (_ :: _ :: some (Value.int (nI _)) :: _) _ _ _ _ _; with_reducible refine x_iincN (pc := 47) 1 ic_1 dX1_freeCells_47 ?_ xg_2 xs_2 ?_ ?_; decide; exact (x_hp rfl)) | refine x_iincC (pc := 47) ic_1 dX1_freeCells_47 (by decide) rfl xs_2 (x_hp rfl) ?_
        refine x_goto (pc := 50) (tgt := 10) dX1_freeCells_50 (by decide) ?_
        have z := ih (k + 1) (by omega); rw [bsyF, ← Nat.one_mul (2 ^ A 3 k), ← Nat.one_mul (2 ^ A 4 k)] at z; exact z
  refine x_entry kX1_freeCells (Nat.le_of_ble_eq_true rfl) ?_
  show Wp g _ mX1_freeCells 0 [some (.ref 45), none, none] [] _ _ _ _
  refine x_aload_n (pc := 0) dX1_freeCells_0 rfl ?_
  refine x_getR (pc := 1) dX1_freeCells_1 flX1_22 (by first | assumption | rfl) rfl ?_
  refine x_getI (pc := 4) dX1_freeCells_4 flX1_60 (by first | assumption | rfl) rfl ?_
  rw [hR.furn]
  refine x_istore_n (pc := 7) dX1_freeCells_7 (by decide) xs_1 (x_hp rfl) ?_
  refine x_iconstN (pc := 8) 0 dX1_freeCells_8 ic_0 ?_
  refine x_istore_n (pc := 9) dX1_freeCells_9 (by decide) xs_2 (x_hp rfl) ?_
  exact loop (A 8 0) 0 (by omega)
def layP (A : XA) (w : Int32) (c : Nat) : Bool := (baldA (spA A w 20)).testBit c && decide (gainA A w c 20 < A 13 0)
theorem sp_X1_cellToLay (hs : Std A) (hR : CR 1 M A w r) (h : ∀ M', xsame 46 58 M M' → K (some (.int (oI' (lst (layP A w) 16 0)))) xSF M') : Ex g (d + 5) yX1_cellToLay mX1_cellToLay [.ref 45] xSF M K := by
  have hbb := hR.baldB
  have hb := baldA_lt (A := spA A w 20)
  have loop : ∀ m k M1, k + m = 16 → xsame 46 58 M M1 → lst (layP A w) m k = lst (layP A w) 16 0 → Wp g (d + 5) mX1_cellToLay 12 [some (.ref 45), some (.int (nI (baldA (spA A w 20)))), some (.int (nI k))] [] xSF (0, 0) M1 K := by
    intro m
    induction m with
    | zero =>
      intro k M1 hk hs1 he
      refine x_iload_n (pc := 12) dX1_cellToLay_12 rfl ?_
      refine x_bipushN (pc := 13) 16 dX1_cellToLay_13 bp_16 ?_
      first | (guard_target =~ Wp _ _ _ _ _ (Value.int (nI _) :: Value.int (nI _) :: _) _ _ _ _; with_reducible refine x_icmp_geN (pc := 15) (tgt := 54) ?_ ?_ dX1_cellToLay_15 ?_ (fun h15 => ?_) (fun h15 => ?_); (first | omega | exact b2n_31 _); (first | omega | exact b2n_31 _); decide) | refine x_icmp_ge (pc := 15) (tgt := 54) dX1_cellToLay_15 (by decide) (fun h15 => ?_) (fun h15 => ?_)
      · skip
        refine x_bipush (pc := 54) dX1_cellToLay_54 bp_m5 ?_
        refine x_ret (pc := 56) (v := some _) rfl trivial dX1_cellToLay_56 (by decide) ?_
        have z := h M1 hs1; rw [← he] at z; exact z
      · skip
        omega
    | succ m ih =>
      intro k M1 hk hs1 he
      have hR1 := hR.out hs1 (by decide)
      have hg := gainA_le (days := 20) (w := w) hR (show k < 16 by omega)
      rw [lst] at he
      refine x_iload_n (pc := 12) dX1_cellToLay_12 rfl ?_
      refine x_bipushN (pc := 13) 16 dX1_cellToLay_13 bp_16 ?_
      first | (guard_target =~ Wp _ _ _ _ _ (Value.int (nI _) :: Value.int (nI _) :: _) _ _ _ _; with_reducible refine x_icmp_geN (pc := 15) (tgt := 54) ?_ ?_ dX1_cellToLay_15 ?_ (fun h15 => ?_) (fun h15 => ?_); (first | omega | exact b2n_31 _); (first | omega | exact b2n_31 _); decide) | refine x_icmp_ge (pc := 15) (tgt := 54) dX1_cellToLay_15 (by decide) (fun h15 => ?_) (fun h15 => ?_)
      · skip
        omega
      · skip
        refine x_iload_n (pc := 18) dX1_cellToLay_18 rfl ?_
        refine x_iload_n (pc := 19) dX1_cellToLay_19 rfl ?_
        refine x_invS2 (pc := 20) dX1_cellToLay_20 mlX1_119 stX3_has kX3_has (Nat.le_of_ble_eq_true rfl) (by decide) ?_
        refine sp_X3_has (by omega) ?_
        refine x_cv rfl rfl ?_
        rw [tb_nI (by omega)]
        first | (guard_target =~ Wp _ _ _ _ _ (Value.int (nI _) :: _) _ _ _ _; with_reducible refine x_if_eqN (pc := 23) (tgt := 48) ?_ dX1_cellToLay_23 ?_ (fun h23 => ?_) (fun h23 => ?_); (first | omega | exact b2n_32 _ | exact b2n_31 _); decide) | refine x_if_eq (pc := 23) (tgt := 48) dX1_cellToLay_23 (by decide) (fun h23 => ?_) (fun h23 => ?_)
        · skip
          first | (guard_target =~ Wp _ _ _ _ (_ :: _ :: some (Value.int (nI _)) :: _) _ _ _ _ _; with_reducible refine x_iincN (pc := 48) 1 ic_1 dX1_cellToLay_48 ?_ xg_2 xs_2 ?_ ?_; decide; exact (x_hp rfl)) | refine x_iincC (pc := 48) ic_1 dX1_cellToLay_48 (by decide) rfl xs_2 (x_hp rfl) ?_
          refine x_goto (pc := 51) (tgt := 12) dX1_cellToLay_51 (by decide) ?_
          rw [if_neg (by unfold layP; rw [b2n_0 h23, Bool.false_and]; decide)] at he; exact ih (k + 1) M1 (by omega) hs1 he
        · skip
          refine x_aload_n (pc := 26) dX1_cellToLay_26 rfl ?_
          refine x_getR (pc := 27) dX1_cellToLay_27 flX1_22 (by first | assumption | rfl) rfl ?_
          refine x_iload_n (pc := 30) dX1_cellToLay_30 rfl ?_
          refine x_bipushN (pc := 31) 20 dX1_cellToLay_31 bp_20 ?_
          refine x_invV2 (pc := 33) dX1_cellToLay_33 mlX1_66 imX2_gain seX2_gain kX2_gain (by first | assumption | rfl) rfl (Nat.le_of_ble_eq_true rfl) (by decide) ?_
          refine sp_X2_gain (by omega) (by decide) car1 hR1 ?_
          refine x_cv rfl rfl ?_
          refine x_aload_n (pc := 36) dX1_cellToLay_36 rfl ?_
          refine x_getR (pc := 37) dX1_cellToLay_37 flX1_22 (by first | assumption | rfl) rfl ?_
          refine x_getI (pc := 40) dX1_cellToLay_40 flX1_70 (by first | assumption | rfl) rfl ?_
          rw [hR1.bald]
          first | (guard_target =~ Wp _ _ _ _ _ (Value.int (nI _) :: Value.int (nI _) :: _) _ _ _ _; with_reducible refine x_icmp_geN (pc := 43) (tgt := 48) ?_ ?_ dX1_cellToLay_43 ?_ (fun h43 => ?_) (fun h43 => ?_); (first | omega | exact b2n_31 _); (first | omega | exact b2n_31 _); decide) | refine x_icmp_ge (pc := 43) (tgt := 48) dX1_cellToLay_43 (by decide) (fun h43 => ?_) (fun h43 => ?_)
          · skip
            first | (guard_target =~ Wp _ _ _ _ (_ :: _ :: some (Value.int (nI _)) :: _) _ _ _ _ _; with_reducible refine x_iincN (pc := 48) 1 ic_1 dX1_cellToLay_48 ?_ xg_2 xs_2 ?_ ?_; decide; exact (x_hp rfl)) | refine x_iincC (pc := 48) ic_1 dX1_cellToLay_48 (by decide) rfl xs_2 (x_hp rfl) ?_
            refine x_goto (pc := 51) (tgt := 12) dX1_cellToLay_51 (by decide) ?_
            rw [if_neg (by unfold layP; rw [decide_eq_false (show ¬ gainA A w k 20 < A 13 0 by omega), Bool.and_false]; decide)] at he; exact ih (k + 1) M1 (by omega) hs1 he
          · skip
            refine x_iload_n (pc := 46) dX1_cellToLay_46 rfl ?_
            refine x_ret (pc := 47) (v := some _) rfl trivial dX1_cellToLay_47 (by decide) ?_
            rw [if_pos (by unfold layP; rw [b2n_1 h23, decide_eq_true (show gainA A w k 20 < A 13 0 by omega)]; rfl)] at he; have z := h M1 hs1; rw [← he] at z; exact z
  refine x_entry kX1_cellToLay (Nat.le_of_ble_eq_true rfl) ?_
  show Wp g _ mX1_cellToLay 0 [some (.ref 45), none, none] [] _ _ _ _
  refine x_aload_n (pc := 0) dX1_cellToLay_0 rfl ?_
  refine x_bipushN (pc := 1) 20 dX1_cellToLay_1 bp_20 ?_
  refine x_invV1 (pc := 3) dX1_cellToLay_3 mlX1_105 imX1_behind seX1_behind kX1_behind (by first | assumption | rfl) rfl (Nat.le_of_ble_eq_true rfl) (by decide) ?_
  refine sp_X1_behind (by decide) hs hR (fun M1 hs1 hR1 => ?_)
  refine x_cv rfl rfl ?_
  refine x_invV0 (pc := 6) dX1_cellToLay_6 mlX1_73 imX2_baldCells seX2_baldCells kX2_baldCells (by first | assumption | rfl) rfl (Nat.le_of_ble_eq_true rfl) (by decide) ?_
  refine sp_X2_baldCells car46 hR1 ?_
  refine x_cv rfl rfl ?_
  refine x_istore_n (pc := 9) dX1_cellToLay_9 (by decide) xs_1 (x_hp rfl) ?_
  refine x_iconstN (pc := 10) 0 dX1_cellToLay_10 ic_0 ?_
  refine x_istore_n (pc := 11) dX1_cellToLay_11 (by decide) xs_2 (x_hp rfl) ?_
  exact loop 16 0 M1 rfl hs1 rfl
end P38
