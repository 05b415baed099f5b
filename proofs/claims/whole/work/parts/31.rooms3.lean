/-! ROOMS of the program: test, expression, factor -/
def mkP (f : Nat → Nat) (e : XP) : Nat := xset (fun i => e.2 (fctC f i)) 16
def mO (f : Nat → Nat) : Option XP → Nat
  | none => 0
  | some e => mkP f e
def mB (f : Nat → Nat) : Option XP → Nat
  | none => 65535
  | some e => mkP f e
theorem xset_eq {P : Nat → Bool} {m : Nat} (h : ∀ k, m.testBit k = (decide (k < 16) && P k)) : m = xset P 16 := Nat.eq_of_testBit_eq (fun k => by rw [h, xset_tb])
theorem xset_T : (65535 : Nat) = xset (fun _ => true) 16 := by decide
theorem mB_A {f : Nat → Nat} {o : Option XP} {e : XP} : mB f o &&& mkP f e = mkP f (cA o e) := by
  have e0 : mB f o = xset (fun i => (match o with | none => true | some a => a.2 (fctC f i))) 16 := by
    cases o with
    | none => exact xset_T
    | some a => rfl
  rw [e0]
  refine xset_eq (fun k => ?_)
  rw [Nat.testBit_and, mkP, xset_tb, xset_tb]
  cases o with
  | none => simp [cA]
  | some a => simp only [cA]; cases decide (k < 16) <;> simp
theorem mO_O {f : Nat → Nat} {o : Option XP} {e : XP} : mO f o ||| mkP f e = mkP f (cO o e) := by
  cases o with
  | none => show 0 ||| mkP f e = mkP f e; rw [Nat.zero_or]
  | some a =>
    refine xset_eq (fun k => ?_)
    show (mkP f a ||| mkP f e).testBit k = _
    rw [Nat.testBit_or, mkP, mkP, xset_tb, xset_tb]
    simp only [cO]; cases decide (k < 16) <;> simp
theorem mkP_lt {f : Nat → Nat} {e : XP} : mkP f e < 65536 := xset_lt (n := 16)
section P31
variable {g : XG} {d : Nat} {S : XS} {M : XM} {K : Option Value → XS → XM → Prop} {b n p : Nat} {c f : Nat → Nat}
theorem fct_lt (hf : ∀ k, f k < 100) {i : Nat} (hi : i < 16) (k : Nat) : fctC f i k < 100 := by
  unfold fctC
  have := hf k
  split
  · omega
  · split
    · omega
    · split <;> omega
/-- the comparing loop of test -/
theorem tstL {x y v : Nat} {br : Bool} (hf : ∀ k, f k < 100) (hx : fldP x ≠ 6) (hy : 61 ≤ y ∧ y ≤ 63) (hv : v < 100) (hR : RT M b n c f) (h : K (some (.int (nI (xset (fun i => tstP (fctC f i (fldP x)) (y - 61) v) 16)))) xSF (rM M p br)) :
    ∀ m i o6, i + m = 16 → Wp g (d + 1) mX6_test 76 [some (.ref 41), some (.int (srt x)), some (.int (nI (y - 1))), some (.int (nI v)), some (.int (nI (xset (fun i => tstP (fctC f i (fldP x)) (y - 61) v) i))), some (.int (nI i)), o6] [] xSF (0, 0) (rM M p br) K := by
  intro m
  induction m with
  | zero =>
    intro i o6 hi
    obtain rfl : i = 16 := by omega
    refine x_iload (pc := 76) dX6_test_76 rfl ?_
    refine x_bipushN (pc := 78) 16 dX6_test_78 bp_16 ?_
    first | (guard_target =~ Wp _ _ _ _ _ (Value.int (nI _) :: Value.int (nI _) :: _) _ _ _ _; with_reducible refine x_icmp_geN (pc := 80) (tgt := 143) ?_ ?_ dX6_test_80 ?_ (fun h80 => ?_) (fun h80 => ?_); (first | omega | exact b2n_31 _); (first | omega | exact b2n_31 _); decide) | refine x_icmp_ge (pc := 80) (tgt := 143) dX6_test_80 (by decide) (fun h80 => ?_) (fun h80 => ?_)
    · skip
      refine x_iload (pc := 143) dX6_test_143 rfl ?_
      refine x_ret (pc := 145) (v := some _) rfl trivial dX6_test_145 (by decide) ?_
      exact h
    · skip
      omega
  | succ m ih =>
    intro i o6 hi
    have hb := fct_lt hf (show i < 16 by omega) (fldP x)
    have hxs := xset_lt (p := fun i => tstP (fctC f i (fldP x)) (y - 61) v) (n := i)
    have hy3 : y = 61 ∨ y = 62 ∨ y = 63 := by omega
    rcases hy3 with rfl | rfl | rfl
    · skip
      refine x_iload (pc := 76) dX6_test_76 rfl ?_
      refine x_bipushN (pc := 78) 16 dX6_test_78 bp_16 ?_
      first | (guard_target =~ Wp _ _ _ _ _ (Value.int (nI _) :: Value.int (nI _) :: _) _ _ _ _; with_reducible refine x_icmp_geN (pc := 80) (tgt := 143) ?_ ?_ dX6_test_80 ?_ (fun h80 => ?_) (fun h80 => ?_); (first | omega | exact b2n_31 _); (first | omega | exact b2n_31 _); decide) | refine x_icmp_ge (pc := 80) (tgt := 143) dX6_test_80 (by decide) (fun h80 => ?_) (fun h80 => ?_)
      · skip
        omega
      · skip
        refine x_aload_n (pc := 83) dX6_test_83 rfl ?_
        refine x_iload_n (pc := 84) dX6_test_84 rfl ?_
        refine x_iload (pc := 85) dX6_test_85 rfl ?_
        refine x_invV2 (pc := 87) dX6_test_87 mlX6_109 imX6_valueOf seX6_valueOf kX6_valueOf (by first | assumption | rfl) rfl (Nat.le_of_ble_eq_true rfl) (by decide) ?_
        refine sp_X6_valueOf hx (by omega) hR ?_
        refine x_cv rfl rfl ?_
        refine x_istore (pc := 90) dX6_test_90 (by decide) xs_6 (x_hp rfl) ?_
        refine x_iload_n (pc := 92) dX6_test_92 rfl ?_
        refine x_bipushN (pc := 93) 60 dX6_test_93 bp_60 ?_
        first | (guard_target =~ Wp _ _ _ _ _ (Value.int (nI _) :: Value.int (nI _) :: _) _ _ _ _; with_reducible refine x_icmp_neN (pc := 95) (tgt := 107) ?_ ?_ dX6_test_95 ?_ (fun h95 => ?_) (fun h95 => ?_); (first | omega | exact b2n_31 _); (first | omega | exact b2n_31 _); decide) | refine x_icmp_ne (pc := 95) (tgt := 107) dX6_test_95 (by decide) (fun h95 => ?_) (fun h95 => ?_)
        · skip
          omega
        · skip
          refine x_iload (pc := 98) dX6_test_98 rfl ?_
          refine x_iload_n (pc := 100) dX6_test_100 rfl ?_
          first | (guard_target =~ Wp _ _ _ _ _ (Value.int (nI _) :: Value.int (nI _) :: _) _ _ _ _; with_reducible refine x_icmp_geN (pc := 101) (tgt := 137) ?_ ?_ dX6_test_101 ?_ (fun h101 => ?_) (fun h101 => ?_); (first | omega | exact b2n_31 _); (first | omega | exact b2n_31 _); decide) | refine x_icmp_ge (pc := 101) (tgt := 137) dX6_test_101 (by decide) (fun h101 => ?_) (fun h101 => ?_)
          · skip
            have e : tstP (fctC f i (fldP x)) (61 - 61) v = false := decide_eq_false (by omega)
            first | (guard_target =~ Wp _ _ _ _ (_ :: _ :: _ :: _ :: _ :: some (Value.int (nI _)) :: _) _ _ _ _ _; with_reducible refine x_iincN (pc := 137) 1 ic_1 dX6_test_137 ?_ xg_5 xs_5 ?_ ?_; decide; exact (x_hp rfl)) | refine x_iincC (pc := 137) ic_1 dX6_test_137 (by decide) rfl xs_5 (x_hp rfl) ?_
            refine x_goto (pc := 140) (tgt := 76) dX6_test_140 (by decide) ?_
            have z := ih (i + 1) (some (.int (nI (fctC f i (fldP x))))) (by omega)
            simp only [xset, e, if_true, Bool.false_eq_true, if_false, Nat.or_zero] at z
            first | exact z | (rw [Nat.one_mul]; exact z)
          · skip
            have e : tstP (fctC f i (fldP x)) (61 - 61) v = true := decide_eq_true (by omega)
            refine x_goto (pc := 104) (tgt := 128) dX6_test_104 (by decide) ?_
            refine x_iload (pc := 128) dX6_test_128 rfl ?_
            refine x_iconstN (pc := 130) 1 dX6_test_130 ic_1 ?_
            refine x_iload (pc := 131) dX6_test_131 rfl ?_
            first | (guard_target =~ Wp _ _ _ _ _ (Value.int (nI _) :: Value.int (nI _) :: _) _ _ _ _; with_reducible refine x_ishlN (pc := 133) ?_ dX6_test_133 ?_; omega) | refine x_ishl (pc := 133) dX6_test_133 ?_
            first | (guard_target =~ Wp _ _ _ _ _ (Value.int (nI _) :: Value.int (nI _) :: _) _ _ _ _; with_reducible refine x_iorN (pc := 134) dX6_test_134 ?_) | refine x_ior (pc := 134) dX6_test_134 ?_
            refine x_istore (pc := 135) dX6_test_135 (by decide) xs_4 (x_hp rfl) ?_
            first | (guard_target =~ Wp _ _ _ _ (_ :: _ :: _ :: _ :: _ :: some (Value.int (nI _)) :: _) _ _ _ _ _; with_reducible refine x_iincN (pc := 137) 1 ic_1 dX6_test_137 ?_ xg_5 xs_5 ?_ ?_; decide; exact (x_hp rfl)) | refine x_iincC (pc := 137) ic_1 dX6_test_137 (by decide) rfl xs_5 (x_hp rfl) ?_
            refine x_goto (pc := 140) (tgt := 76) dX6_test_140 (by decide) ?_
            have z := ih (i + 1) (some (.int (nI (fctC f i (fldP x))))) (by omega)
            simp only [xset, e, if_true, Bool.false_eq_true, if_false, Nat.or_zero] at z
            first | exact z | (rw [Nat.one_mul]; exact z)
    · skip
      refine x_iload (pc := 76) dX6_test_76 rfl ?_
      refine x_bipushN (pc := 78) 16 dX6_test_78 bp_16 ?_
      first | (guard_target =~ Wp _ _ _ _ _ (Value.int (nI _) :: Value.int (nI _) :: _) _ _ _ _; with_reducible refine x_icmp_geN (pc := 80) (tgt := 143) ?_ ?_ dX6_test_80 ?_ (fun h80 => ?_) (fun h80 => ?_); (first | omega | exact b2n_31 _); (first | omega | exact b2n_31 _); decide) | refine x_icmp_ge (pc := 80) (tgt := 143) dX6_test_80 (by decide) (fun h80 => ?_) (fun h80 => ?_)
      · skip
        omega
      · skip
        refine x_aload_n (pc := 83) dX6_test_83 rfl ?_
        refine x_iload_n (pc := 84) dX6_test_84 rfl ?_
        refine x_iload (pc := 85) dX6_test_85 rfl ?_
        refine x_invV2 (pc := 87) dX6_test_87 mlX6_109 imX6_valueOf seX6_valueOf kX6_valueOf (by first | assumption | rfl) rfl (Nat.le_of_ble_eq_true rfl) (by decide) ?_
        refine sp_X6_valueOf hx (by omega) hR ?_
        refine x_cv rfl rfl ?_
        refine x_istore (pc := 90) dX6_test_90 (by decide) xs_6 (x_hp rfl) ?_
        refine x_iload_n (pc := 92) dX6_test_92 rfl ?_
        refine x_bipushN (pc := 93) 60 dX6_test_93 bp_60 ?_
        first | (guard_target =~ Wp _ _ _ _ _ (Value.int (nI _) :: Value.int (nI _) :: _) _ _ _ _; with_reducible refine x_icmp_neN (pc := 95) (tgt := 107) ?_ ?_ dX6_test_95 ?_ (fun h95 => ?_) (fun h95 => ?_); (first | omega | exact b2n_31 _); (first | omega | exact b2n_31 _); decide) | refine x_icmp_ne (pc := 95) (tgt := 107) dX6_test_95 (by decide) (fun h95 => ?_) (fun h95 => ?_)
        · skip
          refine x_iload_n (pc := 107) dX6_test_107 rfl ?_
          refine x_bipushN (pc := 108) 62 dX6_test_108 bp_62 ?_
          first | (guard_target =~ Wp _ _ _ _ _ (Value.int (nI _) :: Value.int (nI _) :: _) _ _ _ _; with_reducible refine x_icmp_neN (pc := 110) (tgt := 122) ?_ ?_ dX6_test_110 ?_ (fun h110 => ?_) (fun h110 => ?_); (first | omega | exact b2n_31 _); (first | omega | exact b2n_31 _); decide) | refine x_icmp_ne (pc := 110) (tgt := 122) dX6_test_110 (by decide) (fun h110 => ?_) (fun h110 => ?_)
          · skip
            refine x_iload (pc := 122) dX6_test_122 rfl ?_
            refine x_iload_n (pc := 124) dX6_test_124 rfl ?_
            first | (guard_target =~ Wp _ _ _ _ _ (Value.int (nI _) :: Value.int (nI _) :: _) _ _ _ _; with_reducible refine x_icmp_neN (pc := 125) (tgt := 137) ?_ ?_ dX6_test_125 ?_ (fun h125 => ?_) (fun h125 => ?_); (first | omega | exact b2n_31 _); (first | omega | exact b2n_31 _); decide) | refine x_icmp_ne (pc := 125) (tgt := 137) dX6_test_125 (by decide) (fun h125 => ?_) (fun h125 => ?_)
            · skip
              have e : tstP (fctC f i (fldP x)) (62 - 61) v = false := decide_eq_false (by omega)
              first | (guard_target =~ Wp _ _ _ _ (_ :: _ :: _ :: _ :: _ :: some (Value.int (nI _)) :: _) _ _ _ _ _; with_reducible refine x_iincN (pc := 137) 1 ic_1 dX6_test_137 ?_ xg_5 xs_5 ?_ ?_; decide; exact (x_hp rfl)) | refine x_iincC (pc := 137) ic_1 dX6_test_137 (by decide) rfl xs_5 (x_hp rfl) ?_
              refine x_goto (pc := 140) (tgt := 76) dX6_test_140 (by decide) ?_
              have z := ih (i + 1) (some (.int (nI (fctC f i (fldP x))))) (by omega)
              simp only [xset, e, if_true, Bool.false_eq_true, if_false, Nat.or_zero] at z
              first | exact z | (rw [Nat.one_mul]; exact z)
            · skip
              have e : tstP (fctC f i (fldP x)) (62 - 61) v = true := decide_eq_true (by omega)
              refine x_iload (pc := 128) dX6_test_128 rfl ?_
              refine x_iconstN (pc := 130) 1 dX6_test_130 ic_1 ?_
              refine x_iload (pc := 131) dX6_test_131 rfl ?_
              first | (guard_target =~ Wp _ _ _ _ _ (Value.int (nI _) :: Value.int (nI _) :: _) _ _ _ _; with_reducible refine x_ishlN (pc := 133) ?_ dX6_test_133 ?_; omega) | refine x_ishl (pc := 133) dX6_test_133 ?_
              first | (guard_target =~ Wp _ _ _ _ _ (Value.int (nI _) :: Value.int (nI _) :: _) _ _ _ _; with_reducible refine x_iorN (pc := 134) dX6_test_134 ?_) | refine x_ior (pc := 134) dX6_test_134 ?_
              refine x_istore (pc := 135) dX6_test_135 (by decide) xs_4 (x_hp rfl) ?_
              first | (guard_target =~ Wp _ _ _ _ (_ :: _ :: _ :: _ :: _ :: some (Value.int (nI _)) :: _) _ _ _ _ _; with_reducible refine x_iincN (pc := 137) 1 ic_1 dX6_test_137 ?_ xg_5 xs_5 ?_ ?_; decide; exact (x_hp rfl)) | refine x_iincC (pc := 137) ic_1 dX6_test_137 (by decide) rfl xs_5 (x_hp rfl) ?_
              refine x_goto (pc := 140) (tgt := 76) dX6_test_140 (by decide) ?_
              have z := ih (i + 1) (some (.int (nI (fctC f i (fldP x))))) (by omega)
              simp only [xset, e, if_true, Bool.false_eq_true, if_false, Nat.or_zero] at z
              first | exact z | (rw [Nat.one_mul]; exact z)
          · skip
            omega
        · skip
          omega
    · skip
      refine x_iload (pc := 76) dX6_test_76 rfl ?_
      refine x_bipushN (pc := 78) 16 dX6_test_78 bp_16 ?_
      first | (guard_target =~ Wp _ _ _ _ _ (Value.int (nI _) :: Value.int (nI _) :: _) _ _ _ _; with_reducible refine x_icmp_geN (pc := 80) (tgt := 143) ?_ ?_ dX6_test_80 ?_ (fun h80 => ?_) (fun h80 => ?_); (first | omega | exact b2n_31 _); (first | omega | exact b2n_31 _); decide) | refine x_icmp_ge (pc := 80) (tgt := 143) dX6_test_80 (by decide) (fun h80 => ?_) (fun h80 => ?_)
      · skip
        omega
      · skip
        refine x_aload_n (pc := 83) dX6_test_83 rfl ?_
        refine x_iload_n (pc := 84) dX6_test_84 rfl ?_
        refine x_iload (pc := 85) dX6_test_85 rfl ?_
        refine x_invV2 (pc := 87) dX6_test_87 mlX6_109 imX6_valueOf seX6_valueOf kX6_valueOf (by first | assumption | rfl) rfl (Nat.le_of_ble_eq_true rfl) (by decide) ?_
        refine sp_X6_valueOf hx (by omega) hR ?_
        refine x_cv rfl rfl ?_
        refine x_istore (pc := 90) dX6_test_90 (by decide) xs_6 (x_hp rfl) ?_
        refine x_iload_n (pc := 92) dX6_test_92 rfl ?_
        refine x_bipushN (pc := 93) 60 dX6_test_93 bp_60 ?_
        first | (guard_target =~ Wp _ _ _ _ _ (Value.int (nI _) :: Value.int (nI _) :: _) _ _ _ _; with_reducible refine x_icmp_neN (pc := 95) (tgt := 107) ?_ ?_ dX6_test_95 ?_ (fun h95 => ?_) (fun h95 => ?_); (first | omega | exact b2n_31 _); (first | omega | exact b2n_31 _); decide) | refine x_icmp_ne (pc := 95) (tgt := 107) dX6_test_95 (by decide) (fun h95 => ?_) (fun h95 => ?_)
        · skip
          refine x_iload_n (pc := 107) dX6_test_107 rfl ?_
          refine x_bipushN (pc := 108) 62 dX6_test_108 bp_62 ?_
          first | (guard_target =~ Wp _ _ _ _ _ (Value.int (nI _) :: Value.int (nI _) :: _) _ _ _ _; with_reducible refine x_icmp_neN (pc := 110) (tgt := 122) ?_ ?_ dX6_test_110 ?_ (fun h110 => ?_) (fun h110 => ?_); (first | omega | exact b2n_31 _); (first | omega | exact b2n_31 _); decide) | refine x_icmp_ne (pc := 110) (tgt := 122) dX6_test_110 (by decide) (fun h110 => ?_) (fun h110 => ?_)
          · skip
            omega
          · skip
            refine x_iload (pc := 113) dX6_test_113 rfl ?_
            refine x_iload_n (pc := 115) dX6_test_115 rfl ?_
            first | (guard_target =~ Wp _ _ _ _ _ (Value.int (nI _) :: Value.int (nI _) :: _) _ _ _ _; with_reducible refine x_icmp_leN (pc := 116) (tgt := 137) ?_ ?_ dX6_test_116 ?_ (fun h116 => ?_) (fun h116 => ?_); (first | omega | exact b2n_31 _); (first | omega | exact b2n_31 _); decide) | refine x_icmp_le (pc := 116) (tgt := 137) dX6_test_116 (by decide) (fun h116 => ?_) (fun h116 => ?_)
            · skip
              have e : tstP (fctC f i (fldP x)) (63 - 61) v = false := decide_eq_false (by omega)
              first | (guard_target =~ Wp _ _ _ _ (_ :: _ :: _ :: _ :: _ :: some (Value.int (nI _)) :: _) _ _ _ _ _; with_reducible refine x_iincN (pc := 137) 1 ic_1 dX6_test_137 ?_ xg_5 xs_5 ?_ ?_; decide; exact (x_hp rfl)) | refine x_iincC (pc := 137) ic_1 dX6_test_137 (by decide) rfl xs_5 (x_hp rfl) ?_
              refine x_goto (pc := 140) (tgt := 76) dX6_test_140 (by decide) ?_
              have z := ih (i + 1) (some (.int (nI (fctC f i (fldP x))))) (by omega)
              simp only [xset, e, if_true, Bool.false_eq_true, if_false, Nat.or_zero] at z
              first | exact z | (rw [Nat.one_mul]; exact z)
            · skip
              have e : tstP (fctC f i (fldP x)) (63 - 61) v = true := decide_eq_true (by omega)
              refine x_goto (pc := 119) (tgt := 128) dX6_test_119 (by decide) ?_
              refine x_iload (pc := 128) dX6_test_128 rfl ?_
              refine x_iconstN (pc := 130) 1 dX6_test_130 ic_1 ?_
              refine x_iload (pc := 131) dX6_test_131 rfl ?_
              first | (guard_target =~ Wp _ _ _ _ _ (Value.int (nI _) :: Value.int (nI _) :: _) _ _ _ _; with_reducible refine x_ishlN (pc := 133) ?_ dX6_test_133 ?_; omega) | refine x_ishl (pc := 133) dX6_test_133 ?_
              first | (guard_target =~ Wp _ _ _ _ _ (Value.int (nI _) :: Value.int (nI _) :: _) _ _ _ _; with_reducible refine x_iorN (pc := 134) dX6_test_134 ?_) | refine x_ior (pc := 134) dX6_test_134 ?_
              refine x_istore (pc := 135) dX6_test_135 (by decide) xs_4 (x_hp rfl) ?_
              first | (guard_target =~ Wp _ _ _ _ (_ :: _ :: _ :: _ :: _ :: some (Value.int (nI _)) :: _) _ _ _ _ _; with_reducible refine x_iincN (pc := 137) 1 ic_1 dX6_test_137 ?_ xg_5 xs_5 ?_ ?_; decide; exact (x_hp rfl)) | refine x_iincC (pc := 137) ic_1 dX6_test_137 (by decide) rfl xs_5 (x_hp rfl) ?_
              refine x_goto (pc := 140) (tgt := 76) dX6_test_140 (by decide) ?_
              have z := ih (i + 1) (some (.int (nI (fctC f i (fldP x))))) (by omega)
              simp only [xset, e, if_true, Bool.false_eq_true, if_false, Nat.or_zero] at z
              first | exact z | (rw [Nat.one_mul]; exact z)
        · skip
          omega
theorem sp_X6_test (hf : ∀ k, f k < 100) (hR : RT M b n c f) (hp : p ≤ n) (h0 : ∀ q, pT c p = (none, q) → ∀ v, K (some (.int v)) xSF (rM M q true)) (h : ∀ e q, pT c p = (some e, q) → K (some (.int (nI (mkP f e)))) xSF (rM M q false)) : Ex g (d + 1) yX6_test mX6_test [.ref 41] xSF (rM M p false) K := by
  have hX := hR.2.2.2.1
  refine x_entry kX6_test (Nat.le_of_ble_eq_true rfl) ?_
  show Wp g _ mX6_test 0 [some (.ref 41), none, none, none, none, none, none] [] _ _ _ _
  by_cases h1 : fldP (c p) = 6
  · skip
    refine x_aload_n (pc := 0) dX6_test_0 rfl ?_
    refine x_invV0 (pc := 1) dX6_test_1 mlX6_64 imX6_sign seX6_sign kX6_sign (by first | assumption | rfl) rfl (Nat.le_of_ble_eq_true rfl) (by decide) ?_
    refine sp_X6_sign hR hp ?_
    refine x_cv rfl rfl ?_
    refine x_istore_n (pc := 4) dX6_test_4 (by decide) xs_1 (x_hp rfl) ?_
    refine x_iload_n (pc := 5) dX6_test_5 rfl ?_
    refine x_invS1 (pc := 6) dX6_test_6 mlX6_102 stX6_isLetter kX6_isLetter (Nat.le_of_ble_eq_true rfl) (by decide) ?_
    refine sp_X6_isLetter (hX.2 p).2 ?_
    refine x_cv rfl rfl ?_
    rw [decide_eq_false (by omega)]
    first | (guard_target =~ Wp _ _ _ _ _ (Value.int (nI _) :: _) _ _ _ _; with_reducible refine x_if_neN (pc := 9) (tgt := 17) ?_ dX6_test_9 ?_ (fun h9 => ?_) (fun h9 => ?_); (first | omega | exact b2n_32 _ | exact b2n_31 _); decide) | refine x_if_ne (pc := 9) (tgt := 17) dX6_test_9 (by decide) (fun h9 => ?_) (fun h9 => ?_)
    · skip
      exact absurd rfl h9
    · skip
      refine x_aload_n (pc := 12) dX6_test_12 rfl ?_
      refine x_invV0 (pc := 13) dX6_test_13 mlX6_106 imX6_fail seX6_fail kX6_fail (by first | assumption | rfl) rfl (Nat.le_of_ble_eq_true rfl) (by decide) ?_
      refine sp_X6_fail ?_
      refine x_cv rfl rfl ?_
      refine x_ret (pc := 16) (v := some _) rfl trivial dX6_test_16 (by decide) ?_
      exact h0 p (by unfold pT; rw [if_pos h1]) _
  have n1 := hX.lt rfl (fldP_ne0 h1)
  have n2 := (hX.2 (p + 1)).2
  by_cases h2 : 61 ≤ c (p + 1) ∧ c (p + 1) ≤ 63
  · have n3 : p + 1 < n := hX.lt rfl (by omega)
    have n4 : srt (c (p + 1)) = nI (c (p + 1) - 1) := srt_1 (by omega)
    rcases hn : numP c (p + 2) with _ | ⟨v, q⟩
    · have fin := h0 (p + 2) (by unfold pT; rw [if_neg h1, if_pos h2, hn])
      refine x_aload_n (pc := 0) dX6_test_0 rfl ?_
      refine x_invV0 (pc := 1) dX6_test_1 mlX6_64 imX6_sign seX6_sign kX6_sign (by first | assumption | rfl) rfl (Nat.le_of_ble_eq_true rfl) (by decide) ?_
      refine sp_X6_sign hR hp ?_
      refine x_cv rfl rfl ?_
      refine x_istore_n (pc := 4) dX6_test_4 (by decide) xs_1 (x_hp rfl) ?_
      refine x_iload_n (pc := 5) dX6_test_5 rfl ?_
      refine x_invS1 (pc := 6) dX6_test_6 mlX6_102 stX6_isLetter kX6_isLetter (Nat.le_of_ble_eq_true rfl) (by decide) ?_
      refine sp_X6_isLetter (hX.2 p).2 ?_
      refine x_cv rfl rfl ?_
      rw [decide_eq_true (by omega)]
      first | (guard_target =~ Wp _ _ _ _ _ (Value.int (nI _) :: _) _ _ _ _; with_reducible refine x_if_neN (pc := 9) (tgt := 17) ?_ dX6_test_9 ?_ (fun h9 => ?_) (fun h9 => ?_); (first | omega | exact b2n_32 _ | exact b2n_31 _); decide) | refine x_if_ne (pc := 9) (tgt := 17) dX6_test_9 (by decide) (fun h9 => ?_) (fun h9 => ?_)
      · skip
        refine x_aload_n (pc := 17) dX6_test_17 rfl ?_
        refine x_dup (pc := 18) dX6_test_18 rfl ?_
        refine x_getI (pc := 19) dX6_test_19 flX6_34 (by first | assumption | rfl) rfl ?_
        rw [rM_at]
        refine x_iconstN (pc := 22) 1 dX6_test_22 ic_1 ?_
        first | (guard_target =~ Wp _ _ _ _ _ (Value.int (nI _) :: Value.int (nI _) :: _) _ _ _ _; with_reducible refine x_iaddN (pc := 23) dX6_test_23 ?_) | refine x_iadd (pc := 23) dX6_test_23 ?_
        refine x_putI (pc := 24) dX6_test_24 flX6_34 (by first | assumption | rfl) rfl rfl rfl ?_
        rw [rM_put]
        refine x_aload_n (pc := 27) dX6_test_27 rfl ?_
        refine x_invV0 (pc := 28) dX6_test_28 mlX6_64 imX6_sign seX6_sign kX6_sign (by first | assumption | rfl) rfl (Nat.le_of_ble_eq_true rfl) (by decide) ?_
        refine sp_X6_sign hR (by omega) ?_
        refine x_cv rfl rfl ?_
        rw [n4]
        refine x_istore_n (pc := 31) dX6_test_31 (by decide) xs_2 (x_hp rfl) ?_
        refine x_iload_n (pc := 32) dX6_test_32 rfl ?_
        refine x_bipushN (pc := 33) 60 dX6_test_33 bp_60 ?_
        first | (guard_target =~ Wp _ _ _ _ _ (Value.int (nI _) :: Value.int (nI _) :: _) _ _ _ _; with_reducible refine x_icmp_eqN (pc := 35) (tgt := 55) ?_ ?_ dX6_test_35 ?_ (fun h35 => ?_) (fun h35 => ?_); (first | omega | exact b2n_31 _); (first | omega | exact b2n_31 _); decide) | refine x_icmp_eq (pc := 35) (tgt := 55) dX6_test_35 (by decide) (fun h35 => ?_) (fun h35 => ?_)
        · skip
          refine x_aload_n (pc := 55) dX6_test_55 rfl ?_
          refine x_dup (pc := 56) dX6_test_56 rfl ?_
          refine x_getI (pc := 57) dX6_test_57 flX6_34 (by first | assumption | rfl) rfl ?_
          rw [rM_at]
          refine x_iconstN (pc := 60) 1 dX6_test_60 ic_1 ?_
          first | (guard_target =~ Wp _ _ _ _ _ (Value.int (nI _) :: Value.int (nI _) :: _) _ _ _ _; with_reducible refine x_iaddN (pc := 61) dX6_test_61 ?_) | refine x_iadd (pc := 61) dX6_test_61 ?_
          refine x_putI (pc := 62) dX6_test_62 flX6_34 (by first | assumption | rfl) rfl rfl rfl ?_
          rw [rM_put]
          refine x_aload_n (pc := 65) dX6_test_65 rfl ?_
          refine x_invV0 (pc := 66) dX6_test_66 mlX6_74 imX6_number seX6_number kX6_number (by first | assumption | rfl) rfl (Nat.le_of_ble_eq_true rfl) (by decide) ?_
          refine sp_X6_number hR (by omega) ?_ (fun v q z => absurd (hn.symm.trans z) (by simp)); intro _
          refine x_cv rfl rfl ?_
          refine x_istore_n (pc := 69) dX6_test_69 (by decide) xs_3 (x_hp rfl) ?_
          refine x_iconstN (pc := 70) 0 dX6_test_70 ic_0 ?_
          refine x_istore (pc := 71) dX6_test_71 (by decide) xs_4 (x_hp rfl) ?_
          refine x_iconstN (pc := 73) 0 dX6_test_73 ic_0 ?_
          refine x_istore (pc := 74) dX6_test_74 (by decide) xs_5 (x_hp rfl) ?_
          exact tstL hf h1 h2 (by decide) hR (fin _) 16 0 _ rfl
        · skip
          refine x_iload_n (pc := 38) dX6_test_38 rfl ?_
          refine x_bipushN (pc := 39) 61 dX6_test_39 bp_61 ?_
          first | (guard_target =~ Wp _ _ _ _ _ (Value.int (nI _) :: Value.int (nI _) :: _) _ _ _ _; with_reducible refine x_icmp_eqN (pc := 41) (tgt := 55) ?_ ?_ dX6_test_41 ?_ (fun h41 => ?_) (fun h41 => ?_); (first | omega | exact b2n_31 _); (first | omega | exact b2n_31 _); decide) | refine x_icmp_eq (pc := 41) (tgt := 55) dX6_test_41 (by decide) (fun h41 => ?_) (fun h41 => ?_)
          · skip
            refine x_aload_n (pc := 55) dX6_test_55 rfl ?_
            refine x_dup (pc := 56) dX6_test_56 rfl ?_
            refine x_getI (pc := 57) dX6_test_57 flX6_34 (by first | assumption | rfl) rfl ?_
            rw [rM_at]
            refine x_iconstN (pc := 60) 1 dX6_test_60 ic_1 ?_
            first | (guard_target =~ Wp _ _ _ _ _ (Value.int (nI _) :: Value.int (nI _) :: _) _ _ _ _; with_reducible refine x_iaddN (pc := 61) dX6_test_61 ?_) | refine x_iadd (pc := 61) dX6_test_61 ?_
            refine x_putI (pc := 62) dX6_test_62 flX6_34 (by first | assumption | rfl) rfl rfl rfl ?_
            rw [rM_put]
            refine x_aload_n (pc := 65) dX6_test_65 rfl ?_
            refine x_invV0 (pc := 66) dX6_test_66 mlX6_74 imX6_number seX6_number kX6_number (by first | assumption | rfl) rfl (Nat.le_of_ble_eq_true rfl) (by decide) ?_
            refine sp_X6_number hR (by omega) ?_ (fun v q z => absurd (hn.symm.trans z) (by simp)); intro _
            refine x_cv rfl rfl ?_
            refine x_istore_n (pc := 69) dX6_test_69 (by decide) xs_3 (x_hp rfl) ?_
            refine x_iconstN (pc := 70) 0 dX6_test_70 ic_0 ?_
            refine x_istore (pc := 71) dX6_test_71 (by decide) xs_4 (x_hp rfl) ?_
            refine x_iconstN (pc := 73) 0 dX6_test_73 ic_0 ?_
            refine x_istore (pc := 74) dX6_test_74 (by decide) xs_5 (x_hp rfl) ?_
            exact tstL hf h1 h2 (by decide) hR (fin _) 16 0 _ rfl
          · skip
            refine x_iload_n (pc := 44) dX6_test_44 rfl ?_
            refine x_bipushN (pc := 45) 62 dX6_test_45 bp_62 ?_
            first | (guard_target =~ Wp _ _ _ _ _ (Value.int (nI _) :: Value.int (nI _) :: _) _ _ _ _; with_reducible refine x_icmp_eqN (pc := 47) (tgt := 55) ?_ ?_ dX6_test_47 ?_ (fun h47 => ?_) (fun h47 => ?_); (first | omega | exact b2n_31 _); (first | omega | exact b2n_31 _); decide) | refine x_icmp_eq (pc := 47) (tgt := 55) dX6_test_47 (by decide) (fun h47 => ?_) (fun h47 => ?_)
            · skip
              refine x_aload_n (pc := 55) dX6_test_55 rfl ?_
              refine x_dup (pc := 56) dX6_test_56 rfl ?_
              refine x_getI (pc := 57) dX6_test_57 flX6_34 (by first | assumption | rfl) rfl ?_
              rw [rM_at]
              refine x_iconstN (pc := 60) 1 dX6_test_60 ic_1 ?_
              first | (guard_target =~ Wp _ _ _ _ _ (Value.int (nI _) :: Value.int (nI _) :: _) _ _ _ _; with_reducible refine x_iaddN (pc := 61) dX6_test_61 ?_) | refine x_iadd (pc := 61) dX6_test_61 ?_
              refine x_putI (pc := 62) dX6_test_62 flX6_34 (by first | assumption | rfl) rfl rfl rfl ?_
              rw [rM_put]
              refine x_aload_n (pc := 65) dX6_test_65 rfl ?_
              refine x_invV0 (pc := 66) dX6_test_66 mlX6_74 imX6_number seX6_number kX6_number (by first | assumption | rfl) rfl (Nat.le_of_ble_eq_true rfl) (by decide) ?_
              refine sp_X6_number hR (by omega) ?_ (fun v q z => absurd (hn.symm.trans z) (by simp)); intro _
              refine x_cv rfl rfl ?_
              refine x_istore_n (pc := 69) dX6_test_69 (by decide) xs_3 (x_hp rfl) ?_
              refine x_iconstN (pc := 70) 0 dX6_test_70 ic_0 ?_
              refine x_istore (pc := 71) dX6_test_71 (by decide) xs_4 (x_hp rfl) ?_
              refine x_iconstN (pc := 73) 0 dX6_test_73 ic_0 ?_
              refine x_istore (pc := 74) dX6_test_74 (by decide) xs_5 (x_hp rfl) ?_
              exact tstL hf h1 h2 (by decide) hR (fin _) 16 0 _ rfl
            · skip
              omega
      · skip
        cases h9
    · have fin := h _ q (by unfold pT; rw [if_neg h1, if_pos h2, hn])
      have hv := (numP_some hX hn).2.2
      refine x_aload_n (pc := 0) dX6_test_0 rfl ?_
      refine x_invV0 (pc := 1) dX6_test_1 mlX6_64 imX6_sign seX6_sign kX6_sign (by first | assumption | rfl) rfl (Nat.le_of_ble_eq_true rfl) (by decide) ?_
      refine sp_X6_sign hR hp ?_
      refine x_cv rfl rfl ?_
      refine x_istore_n (pc := 4) dX6_test_4 (by decide) xs_1 (x_hp rfl) ?_
      refine x_iload_n (pc := 5) dX6_test_5 rfl ?_
      refine x_invS1 (pc := 6) dX6_test_6 mlX6_102 stX6_isLetter kX6_isLetter (Nat.le_of_ble_eq_true rfl) (by decide) ?_
      refine sp_X6_isLetter (hX.2 p).2 ?_
      refine x_cv rfl rfl ?_
      rw [decide_eq_true (by omega)]
      first | (guard_target =~ Wp _ _ _ _ _ (Value.int (nI _) :: _) _ _ _ _; with_reducible refine x_if_neN (pc := 9) (tgt := 17) ?_ dX6_test_9 ?_ (fun h9 => ?_) (fun h9 => ?_); (first | omega | exact b2n_32 _ | exact b2n_31 _); decide) | refine x_if_ne (pc := 9) (tgt := 17) dX6_test_9 (by decide) (fun h9 => ?_) (fun h9 => ?_)
      · skip
        refine x_aload_n (pc := 17) dX6_test_17 rfl ?_
        refine x_dup (pc := 18) dX6_test_18 rfl ?_
        refine x_getI (pc := 19) dX6_test_19 flX6_34 (by first | assumption | rfl) rfl ?_
        rw [rM_at]
        refine x_iconstN (pc := 22) 1 dX6_test_22 ic_1 ?_
        first | (guard_target =~ Wp _ _ _ _ _ (Value.int (nI _) :: Value.int (nI _) :: _) _ _ _ _; with_reducible refine x_iaddN (pc := 23) dX6_test_23 ?_) | refine x_iadd (pc := 23) dX6_test_23 ?_
        refine x_putI (pc := 24) dX6_test_24 flX6_34 (by first | assumption | rfl) rfl rfl rfl ?_
        rw [rM_put]
        refine x_aload_n (pc := 27) dX6_test_27 rfl ?_
        refine x_invV0 (pc := 28) dX6_test_28 mlX6_64 imX6_sign seX6_sign kX6_sign (by first | assumption | rfl) rfl (Nat.le_of_ble_eq_true rfl) (by decide) ?_
        refine sp_X6_sign hR (by omega) ?_
        refine x_cv rfl rfl ?_
        rw [n4]
        refine x_istore_n (pc := 31) dX6_test_31 (by decide) xs_2 (x_hp rfl) ?_
        refine x_iload_n (pc := 32) dX6_test_32 rfl ?_
        refine x_bipushN (pc := 33) 60 dX6_test_33 bp_60 ?_
        first | (guard_target =~ Wp _ _ _ _ _ (Value.int (nI _) :: Value.int (nI _) :: _) _ _ _ _; with_reducible refine x_icmp_eqN (pc := 35) (tgt := 55) ?_ ?_ dX6_test_35 ?_ (fun h35 => ?_) (fun h35 => ?_); (first | omega | exact b2n_31 _); (first | omega | exact b2n_31 _); decide) | refine x_icmp_eq (pc := 35) (tgt := 55) dX6_test_35 (by decide) (fun h35 => ?_) (fun h35 => ?_)
        · skip
          refine x_aload_n (pc := 55) dX6_test_55 rfl ?_
          refine x_dup (pc := 56) dX6_test_56 rfl ?_
          refine x_getI (pc := 57) dX6_test_57 flX6_34 (by first | assumption | rfl) rfl ?_
          rw [rM_at]
          refine x_iconstN (pc := 60) 1 dX6_test_60 ic_1 ?_
          first | (guard_target =~ Wp _ _ _ _ _ (Value.int (nI _) :: Value.int (nI _) :: _) _ _ _ _; with_reducible refine x_iaddN (pc := 61) dX6_test_61 ?_) | refine x_iadd (pc := 61) dX6_test_61 ?_
          refine x_putI (pc := 62) dX6_test_62 flX6_34 (by first | assumption | rfl) rfl rfl rfl ?_
          rw [rM_put]
          refine x_aload_n (pc := 65) dX6_test_65 rfl ?_
          refine x_invV0 (pc := 66) dX6_test_66 mlX6_74 imX6_number seX6_number kX6_number (by first | assumption | rfl) rfl (Nat.le_of_ble_eq_true rfl) (by decide) ?_
          refine sp_X6_number hR (by omega) (fun z => absurd (hn.symm.trans z) (by simp)) (fun v' q' z => ?_); obtain ⟨rfl, rfl⟩ : v = v' ∧ q = q' := by (have z2 := hn.symm.trans z; simp only [Option.some.injEq, Prod.mk.injEq] at z2; exact z2)
          refine x_cv rfl rfl ?_
          refine x_istore_n (pc := 69) dX6_test_69 (by decide) xs_3 (x_hp rfl) ?_
          refine x_iconstN (pc := 70) 0 dX6_test_70 ic_0 ?_
          refine x_istore (pc := 71) dX6_test_71 (by decide) xs_4 (x_hp rfl) ?_
          refine x_iconstN (pc := 73) 0 dX6_test_73 ic_0 ?_
          refine x_istore (pc := 74) dX6_test_74 (by decide) xs_5 (x_hp rfl) ?_
          exact tstL hf h1 h2 hv hR fin 16 0 _ rfl
        · skip
          refine x_iload_n (pc := 38) dX6_test_38 rfl ?_
          refine x_bipushN (pc := 39) 61 dX6_test_39 bp_61 ?_
          first | (guard_target =~ Wp _ _ _ _ _ (Value.int (nI _) :: Value.int (nI _) :: _) _ _ _ _; with_reducible refine x_icmp_eqN (pc := 41) (tgt := 55) ?_ ?_ dX6_test_41 ?_ (fun h41 => ?_) (fun h41 => ?_); (first | omega | exact b2n_31 _); (first | omega | exact b2n_31 _); decide) | refine x_icmp_eq (pc := 41) (tgt := 55) dX6_test_41 (by decide) (fun h41 => ?_) (fun h41 => ?_)
          · skip
            refine x_aload_n (pc := 55) dX6_test_55 rfl ?_
            refine x_dup (pc := 56) dX6_test_56 rfl ?_
            refine x_getI (pc := 57) dX6_test_57 flX6_34 (by first | assumption | rfl) rfl ?_
            rw [rM_at]
            refine x_iconstN (pc := 60) 1 dX6_test_60 ic_1 ?_
            first | (guard_target =~ Wp _ _ _ _ _ (Value.int (nI _) :: Value.int (nI _) :: _) _ _ _ _; with_reducible refine x_iaddN (pc := 61) dX6_test_61 ?_) | refine x_iadd (pc := 61) dX6_test_61 ?_
            refine x_putI (pc := 62) dX6_test_62 flX6_34 (by first | assumption | rfl) rfl rfl rfl ?_
            rw [rM_put]
            refine x_aload_n (pc := 65) dX6_test_65 rfl ?_
            refine x_invV0 (pc := 66) dX6_test_66 mlX6_74 imX6_number seX6_number kX6_number (by first | assumption | rfl) rfl (Nat.le_of_ble_eq_true rfl) (by decide) ?_
            refine sp_X6_number hR (by omega) (fun z => absurd (hn.symm.trans z) (by simp)) (fun v' q' z => ?_); obtain ⟨rfl, rfl⟩ : v = v' ∧ q = q' := by (have z2 := hn.symm.trans z; simp only [Option.some.injEq, Prod.mk.injEq] at z2; exact z2)
            refine x_cv rfl rfl ?_
            refine x_istore_n (pc := 69) dX6_test_69 (by decide) xs_3 (x_hp rfl) ?_
            refine x_iconstN (pc := 70) 0 dX6_test_70 ic_0 ?_
            refine x_istore (pc := 71) dX6_test_71 (by decide) xs_4 (x_hp rfl) ?_
            refine x_iconstN (pc := 73) 0 dX6_test_73 ic_0 ?_
            refine x_istore (pc := 74) dX6_test_74 (by decide) xs_5 (x_hp rfl) ?_
            exact tstL hf h1 h2 hv hR fin 16 0 _ rfl
          · skip
            refine x_iload_n (pc := 44) dX6_test_44 rfl ?_
            refine x_bipushN (pc := 45) 62 dX6_test_45 bp_62 ?_
            first | (guard_target =~ Wp _ _ _ _ _ (Value.int (nI _) :: Value.int (nI _) :: _) _ _ _ _; with_reducible refine x_icmp_eqN (pc := 47) (tgt := 55) ?_ ?_ dX6_test_47 ?_ (fun h47 => ?_) (fun h47 => ?_); (first | omega | exact b2n_31 _); (first | omega | exact b2n_31 _); decide) | refine x_icmp_eq (pc := 47) (tgt := 55) dX6_test_47 (by decide) (fun h47 => ?_) (fun h47 => ?_)
            · skip
              refine x_aload_n (pc := 55) dX6_test_55 rfl ?_
              refine x_dup (pc := 56) dX6_test_56 rfl ?_
              refine x_getI (pc := 57) dX6_test_57 flX6_34 (by first | assumption | rfl) rfl ?_
              rw [rM_at]
              refine x_iconstN (pc := 60) 1 dX6_test_60 ic_1 ?_
              first | (guard_target =~ Wp _ _ _ _ _ (Value.int (nI _) :: Value.int (nI _) :: _) _ _ _ _; with_reducible refine x_iaddN (pc := 61) dX6_test_61 ?_) | refine x_iadd (pc := 61) dX6_test_61 ?_
              refine x_putI (pc := 62) dX6_test_62 flX6_34 (by first | assumption | rfl) rfl rfl rfl ?_
              rw [rM_put]
              refine x_aload_n (pc := 65) dX6_test_65 rfl ?_
              refine x_invV0 (pc := 66) dX6_test_66 mlX6_74 imX6_number seX6_number kX6_number (by first | assumption | rfl) rfl (Nat.le_of_ble_eq_true rfl) (by decide) ?_
              refine sp_X6_number hR (by omega) (fun z => absurd (hn.symm.trans z) (by simp)) (fun v' q' z => ?_); obtain ⟨rfl, rfl⟩ : v = v' ∧ q = q' := by (have z2 := hn.symm.trans z; simp only [Option.some.injEq, Prod.mk.injEq] at z2; exact z2)
              refine x_cv rfl rfl ?_
              refine x_istore_n (pc := 69) dX6_test_69 (by decide) xs_3 (x_hp rfl) ?_
              refine x_iconstN (pc := 70) 0 dX6_test_70 ic_0 ?_
              refine x_istore (pc := 71) dX6_test_71 (by decide) xs_4 (x_hp rfl) ?_
              refine x_iconstN (pc := 73) 0 dX6_test_73 ic_0 ?_
              refine x_istore (pc := 74) dX6_test_74 (by decide) xs_5 (x_hp rfl) ?_
              exact tstL hf h1 h2 hv hR fin 16 0 _ rfl
            · skip
              omega
      · skip
        cases h9
  · have fin := h0 (p + 1) (by unfold pT; rw [if_neg h1, if_neg h2])
    have m1 := srt_nI n2 (k := 60) (by decide)
    have m2 := srt_nI n2 (k := 61) (by decide)
    have m3 := srt_nI n2 (k := 62) (by decide)
    refine x_aload_n (pc := 0) dX6_test_0 rfl ?_
    refine x_invV0 (pc := 1) dX6_test_1 mlX6_64 imX6_sign seX6_sign kX6_sign (by first | assumption | rfl) rfl (Nat.le_of_ble_eq_true rfl) (by decide) ?_
    refine sp_X6_sign hR hp ?_
    refine x_cv rfl rfl ?_
    refine x_istore_n (pc := 4) dX6_test_4 (by decide) xs_1 (x_hp rfl) ?_
    refine x_iload_n (pc := 5) dX6_test_5 rfl ?_
    refine x_invS1 (pc := 6) dX6_test_6 mlX6_102 stX6_isLetter kX6_isLetter (Nat.le_of_ble_eq_true rfl) (by decide) ?_
    refine sp_X6_isLetter (hX.2 p).2 ?_
    refine x_cv rfl rfl ?_
    rw [decide_eq_true (by omega)]
    first | (guard_target =~ Wp _ _ _ _ _ (Value.int (nI _) :: _) _ _ _ _; with_reducible refine x_if_neN (pc := 9) (tgt := 17) ?_ dX6_test_9 ?_ (fun h9 => ?_) (fun h9 => ?_); (first | omega | exact b2n_32 _ | exact b2n_31 _); decide) | refine x_if_ne (pc := 9) (tgt := 17) dX6_test_9 (by decide) (fun h9 => ?_) (fun h9 => ?_)
    · skip
      refine x_aload_n (pc := 17) dX6_test_17 rfl ?_
      refine x_dup (pc := 18) dX6_test_18 rfl ?_
      refine x_getI (pc := 19) dX6_test_19 flX6_34 (by first | assumption | rfl) rfl ?_
      rw [rM_at]
      refine x_iconstN (pc := 22) 1 dX6_test_22 ic_1 ?_
      first | (guard_target =~ Wp _ _ _ _ _ (Value.int (nI _) :: Value.int (nI _) :: _) _ _ _ _; with_reducible refine x_iaddN (pc := 23) dX6_test_23 ?_) | refine x_iadd (pc := 23) dX6_test_23 ?_
      refine x_putI (pc := 24) dX6_test_24 flX6_34 (by first | assumption | rfl) rfl rfl rfl ?_
      rw [rM_put]
      refine x_aload_n (pc := 27) dX6_test_27 rfl ?_
      refine x_invV0 (pc := 28) dX6_test_28 mlX6_64 imX6_sign seX6_sign kX6_sign (by first | assumption | rfl) rfl (Nat.le_of_ble_eq_true rfl) (by decide) ?_
      refine sp_X6_sign hR (by omega) ?_
      refine x_cv rfl rfl ?_
      refine x_istore_n (pc := 31) dX6_test_31 (by decide) xs_2 (x_hp rfl) ?_
      refine x_iload_n (pc := 32) dX6_test_32 rfl ?_
      refine x_bipush (pc := 33) dX6_test_33 bp_60 ?_
      first | (guard_target =~ Wp _ _ _ _ _ (Value.int (nI _) :: Value.int (nI _) :: _) _ _ _ _; with_reducible refine x_icmp_eqN (pc := 35) (tgt := 55) ?_ ?_ dX6_test_35 ?_ (fun h35 => ?_) (fun h35 => ?_); (first | omega | exact b2n_31 _); (first | omega | exact b2n_31 _); decide) | refine x_icmp_eq (pc := 35) (tgt := 55) dX6_test_35 (by decide) (fun h35 => ?_) (fun h35 => ?_)
      · skip
        exact absurd (m1.mp h35) (by omega)
      · skip
        refine x_iload_n (pc := 38) dX6_test_38 rfl ?_
        refine x_bipushN (pc := 39) 61 dX6_test_39 bp_61 ?_
        first | (guard_target =~ Wp _ _ _ _ _ (Value.int (nI _) :: Value.int (nI _) :: _) _ _ _ _; with_reducible refine x_icmp_eqN (pc := 41) (tgt := 55) ?_ ?_ dX6_test_41 ?_ (fun h41 => ?_) (fun h41 => ?_); (first | omega | exact b2n_31 _); (first | omega | exact b2n_31 _); decide) | refine x_icmp_eq (pc := 41) (tgt := 55) dX6_test_41 (by decide) (fun h41 => ?_) (fun h41 => ?_)
        · skip
          exact absurd (m2.mp h41) (by omega)
        · skip
          refine x_iload_n (pc := 44) dX6_test_44 rfl ?_
          refine x_bipushN (pc := 45) 62 dX6_test_45 bp_62 ?_
          first | (guard_target =~ Wp _ _ _ _ _ (Value.int (nI _) :: Value.int (nI _) :: _) _ _ _ _; with_reducible refine x_icmp_eqN (pc := 47) (tgt := 55) ?_ ?_ dX6_test_47 ?_ (fun h47 => ?_) (fun h47 => ?_); (first | omega | exact b2n_31 _); (first | omega | exact b2n_31 _); decide) | refine x_icmp_eq (pc := 47) (tgt := 55) dX6_test_47 (by decide) (fun h47 => ?_) (fun h47 => ?_)
          · skip
            exact absurd (m3.mp h47) (by omega)
          · skip
            refine x_aload_n (pc := 50) dX6_test_50 rfl ?_
            refine x_invV0 (pc := 51) dX6_test_51 mlX6_106 imX6_fail seX6_fail kX6_fail (by first | assumption | rfl) rfl (Nat.le_of_ble_eq_true rfl) (by decide) ?_
            refine sp_X6_fail ?_
            refine x_cv rfl rfl ?_
            refine x_ret (pc := 54) (v := some _) rfl trivial dX6_test_54 (by decide) ?_
            exact fin _
    · skip
      cases h9
/-- what factor and expression promise, f levels from the deepest -/
def facS (g : XG) (M : XM) (n : Nat) (c f : Nat → Nat) (k : Nat) : Prop := ∀ (D p : Nat) (K : Option Value → XS → XM → Prop), 2 * k + 6 ≤ D → p ≤ n → (∀ q, pF c k p = (none, q) → ∀ v, K (some (.int v)) xSF (rM M q true)) → (∀ e q, pF c k p = (some e, q) → K (some (.int (nI (mkP f e)))) xSF (rM M q false)) → Ex g D yX6_factor mX6_factor [.ref 41, .int (nI (4 - k))] xSF (rM M p false) K
def expS (g : XG) (M : XM) (n : Nat) (c f : Nat → Nat) (k : Nat) : Prop := ∀ (D p : Nat) (K : Option Value → XS → XM → Prop), 2 * k + 7 ≤ D → p ≤ n → (∀ q, pE c k p = (none, q) → ∀ v, K (some (.int v)) xSF (rM M q true)) → (∀ e q, pE c k p = (some e, q) → K (some (.int (nI (mkP f e)))) xSF (rM M q false)) → Ex g D yX6_expression mX6_expression [.ref 41, .int (nI (4 - k))] xSF (rM M p false) K
theorem expF {k : Nat} (hR : RT M b n c f) (hF : facS g M n c f k) : expS g M n c f k := by
  intro D p K hD hp h0 h
  have hX := hR.2.2.2.1
  have hn100 := hX.1
  obtain ⟨d, rfl⟩ : ∃ d, D = d + 5 := ⟨D - 5, by omega⟩
  refine x_entry kX6_expression (Nat.le_of_ble_eq_true rfl) ?_
  show Wp g _ mX6_expression 0 [some (.ref 41), some (.int (nI (4 - k))), none, none, none, none] [] _ _ _ _
  have loop : ∀ m i p any both o5, i + m = 100 → 2 * i ≤ p → p ≤ n → (∀ q, lE c (pF c k) m any both p = (none, q) → ∀ v, K (some (.int v)) xSF (rM M q true)) → (∀ e q, lE c (pF c k) m any both p = (some e, q) → K (some (.int (nI (mkP f e)))) xSF (rM M q false)) →
      Wp g (d + 5) mX6_expression 8 [some (.ref 41), some (.int (nI (4 - k))), some (.int (nI (mO f any))), some (.int (nI (mB f both))), some (.int (nI i)), o5] [] xSF (0, 0) (rM M p false) K := by
    intro m
    induction m with
    | zero => intro i p any both o5 hi hip hp; omega
    | succ m ih =>
      intro i p any both o5 hi hip hp g0 g1
      rw [lE] at g0 g1
      obtain ⟨q1, q2, q3⟩ := pF_ok hX k p hp
      rcases hr : pF c k p with ⟨_ | e, q⟩
      · rw [hr] at g0 q1 q2
        have fin := g0 q rfl
        refine x_iload (pc := 8) dX6_expression_8 rfl ?_
        refine x_bipushN (pc := 10) 100 dX6_expression_10 bp_100 ?_
        first | (guard_target =~ Wp _ _ _ _ _ (Value.int (nI _) :: Value.int (nI _) :: _) _ _ _ _; with_reducible refine x_icmp_geN (pc := 12) (tgt := 90) ?_ ?_ dX6_expression_12 ?_ (fun h12 => ?_) (fun h12 => ?_); (first | omega | exact b2n_31 _); (first | omega | exact b2n_31 _); decide) | refine x_icmp_ge (pc := 12) (tgt := 90) dX6_expression_12 (by decide) (fun h12 => ?_) (fun h12 => ?_)
        · skip
          omega
        · skip
          refine x_aload_n (pc := 15) dX6_expression_15 rfl ?_
          refine x_getI (pc := 16) dX6_expression_16 flX6_30 (by first | assumption | rfl) rfl ?_
          rw [rM_br]
          first | (guard_target =~ Wp _ _ _ _ _ (Value.int (nI _) :: _) _ _ _ _; with_reducible refine x_if_neN (pc := 19) (tgt := 90) ?_ dX6_expression_19 ?_ (fun h19 => ?_) (fun h19 => ?_); (first | omega | exact b2n_32 _ | exact b2n_31 _); decide) | refine x_if_ne (pc := 19) (tgt := 90) dX6_expression_19 (by decide) (fun h19 => ?_) (fun h19 => ?_)
          · skip
            exact absurd rfl h19
          · skip
            refine x_iload_n (pc := 22) dX6_expression_22 rfl ?_
            refine x_aload_n (pc := 23) dX6_expression_23 rfl ?_
            refine x_iload_n (pc := 24) dX6_expression_24 rfl ?_
            refine x_invV1 (pc := 25) dX6_expression_25 mlX6_94 imX6_factor seX6_factor kX6_factor (by first | assumption | rfl) rfl (Nat.le_of_ble_eq_true rfl) (by decide) ?_
            refine hF (d + 4) p _ (by omega) hp (fun q' hq v => ?_) (fun e q' hq => absurd (hr.symm.trans hq) (by simp)); obtain rfl : q = q' := by (have z2 := hr.symm.trans hq; simp only [Prod.mk.injEq, true_and] at z2; exact z2)
            refine x_cv rfl rfl ?_
            refine x_iand (pc := 28) dX6_expression_28 ?_
            refine x_istore_n (pc := 29) dX6_expression_29 (by decide) xs_3 (x_hp rfl) ?_
            refine x_aload_n (pc := 30) dX6_expression_30 rfl ?_
            refine x_invV0 (pc := 31) dX6_expression_31 mlX6_64 imX6_sign seX6_sign kX6_sign (by first | assumption | rfl) rfl (Nat.le_of_ble_eq_true rfl) (by decide) ?_
            refine sp_X6_signB ?_ hR q2
            refine x_cv rfl rfl ?_
            refine x_istore (pc := 34) dX6_expression_34 (by decide) xs_5 (x_hp rfl) ?_
            refine x_aload_n (pc := 36) dX6_expression_36 rfl ?_
            refine x_getI (pc := 37) dX6_expression_37 flX6_30 (by first | assumption | rfl) rfl ?_
            rw [rM_br]
            first | (guard_target =~ Wp _ _ _ _ _ (Value.int (nI _) :: _) _ _ _ _; with_reducible refine x_if_neN (pc := 40) (tgt := 90) ?_ dX6_expression_40 ?_ (fun h40 => ?_) (fun h40 => ?_); (first | omega | exact b2n_32 _ | exact b2n_31 _); decide) | refine x_if_ne (pc := 40) (tgt := 90) dX6_expression_40 (by decide) (fun h40 => ?_) (fun h40 => ?_)
            · skip
              refine x_iload_n (pc := 90) dX6_expression_90 rfl ?_
              refine x_iload_n (pc := 91) dX6_expression_91 rfl ?_
              refine x_ior (pc := 92) dX6_expression_92 ?_
              refine x_ret (pc := 93) (v := some _) rfl trivial dX6_expression_93 (by decide) ?_
              exact fin _
            · skip
              cases h40
      · rw [hr] at g0 g1 q1 q2 q3
        simp only at g0 g1 q1 q2 q3
        obtain ⟨q4, -⟩ := q3 e rfl
        have e1 := srt_nI (hX.2 q).2 (k := 124) (by decide)
        have e2 := srt_nI (hX.2 q).2 (k := 38) (by decide)
        by_cases n1 : c q = 125
        · rw [if_pos n1] at g0 g1
          have n2 := hX.lt n1 (by decide)
          refine x_iload (pc := 8) dX6_expression_8 rfl ?_
          refine x_bipushN (pc := 10) 100 dX6_expression_10 bp_100 ?_
          first | (guard_target =~ Wp _ _ _ _ _ (Value.int (nI _) :: Value.int (nI _) :: _) _ _ _ _; with_reducible refine x_icmp_geN (pc := 12) (tgt := 90) ?_ ?_ dX6_expression_12 ?_ (fun h12 => ?_) (fun h12 => ?_); (first | omega | exact b2n_31 _); (first | omega | exact b2n_31 _); decide) | refine x_icmp_ge (pc := 12) (tgt := 90) dX6_expression_12 (by decide) (fun h12 => ?_) (fun h12 => ?_)
          · skip
            omega
          · skip
            refine x_aload_n (pc := 15) dX6_expression_15 rfl ?_
            refine x_getI (pc := 16) dX6_expression_16 flX6_30 (by first | assumption | rfl) rfl ?_
            rw [rM_br]
            first | (guard_target =~ Wp _ _ _ _ _ (Value.int (nI _) :: _) _ _ _ _; with_reducible refine x_if_neN (pc := 19) (tgt := 90) ?_ dX6_expression_19 ?_ (fun h19 => ?_) (fun h19 => ?_); (first | omega | exact b2n_32 _ | exact b2n_31 _); decide) | refine x_if_ne (pc := 19) (tgt := 90) dX6_expression_19 (by decide) (fun h19 => ?_) (fun h19 => ?_)
            · skip
              exact absurd rfl h19
            · skip
              refine x_iload_n (pc := 22) dX6_expression_22 rfl ?_
              refine x_aload_n (pc := 23) dX6_expression_23 rfl ?_
              refine x_iload_n (pc := 24) dX6_expression_24 rfl ?_
              refine x_invV1 (pc := 25) dX6_expression_25 mlX6_94 imX6_factor seX6_factor kX6_factor (by first | assumption | rfl) rfl (Nat.le_of_ble_eq_true rfl) (by decide) ?_
              refine hF (d + 4) p _ (by omega) hp (fun q' hq => absurd (hr.symm.trans hq) (by simp)) (fun e' q' hq => ?_); obtain ⟨rfl, rfl⟩ : e = e' ∧ q = q' := by (have z2 := hr.symm.trans hq; simp only [Prod.mk.injEq, Option.some.injEq] at z2; exact z2)
              refine x_cv rfl rfl ?_
              first | (guard_target =~ Wp _ _ _ _ _ (Value.int (nI _) :: Value.int (nI _) :: _) _ _ _ _; with_reducible refine x_iandN (pc := 28) dX6_expression_28 ?_) | refine x_iand (pc := 28) dX6_expression_28 ?_
              rw [mB_A]
              refine x_istore_n (pc := 29) dX6_expression_29 (by decide) xs_3 (x_hp rfl) ?_
              refine x_aload_n (pc := 30) dX6_expression_30 rfl ?_
              refine x_invV0 (pc := 31) dX6_expression_31 mlX6_64 imX6_sign seX6_sign kX6_sign (by first | assumption | rfl) rfl (Nat.le_of_ble_eq_true rfl) (by decide) ?_
              refine sp_X6_sign hR q2 ?_
              refine x_cv rfl rfl ?_
              refine x_istore (pc := 34) dX6_expression_34 (by decide) xs_5 (x_hp rfl) ?_
              refine x_aload_n (pc := 36) dX6_expression_36 rfl ?_
              refine x_getI (pc := 37) dX6_expression_37 flX6_30 (by first | assumption | rfl) rfl ?_
              rw [rM_br]
              first | (guard_target =~ Wp _ _ _ _ _ (Value.int (nI _) :: _) _ _ _ _; with_reducible refine x_if_neN (pc := 40) (tgt := 90) ?_ dX6_expression_40 ?_ (fun h40 => ?_) (fun h40 => ?_); (first | omega | exact b2n_32 _ | exact b2n_31 _); decide) | refine x_if_ne (pc := 40) (tgt := 90) dX6_expression_40 (by decide) (fun h40 => ?_) (fun h40 => ?_)
              · skip
                exact absurd rfl h40
              · skip
                refine x_iload (pc := 43) dX6_expression_43 rfl ?_
                refine x_bipush (pc := 45) dX6_expression_45 bp_124 ?_
                first | (guard_target =~ Wp _ _ _ _ _ (Value.int (nI _) :: Value.int (nI _) :: _) _ _ _ _; with_reducible refine x_icmp_eqN (pc := 47) (tgt := 60) ?_ ?_ dX6_expression_47 ?_ (fun h47 => ?_) (fun h47 => ?_); (first | omega | exact b2n_31 _); (first | omega | exact b2n_31 _); decide) | refine x_icmp_eq (pc := 47) (tgt := 60) dX6_expression_47 (by decide) (fun h47 => ?_) (fun h47 => ?_)
                · skip
                  refine x_iload (pc := 60) dX6_expression_60 rfl ?_
                  refine x_bipush (pc := 62) dX6_expression_62 bp_124 ?_
                  first | (guard_target =~ Wp _ _ _ _ _ (Value.int (nI _) :: Value.int (nI _) :: _) _ _ _ _; with_reducible refine x_icmp_neN (pc := 64) (tgt := 74) ?_ ?_ dX6_expression_64 ?_ (fun h64 => ?_) (fun h64 => ?_); (first | omega | exact b2n_31 _); (first | omega | exact b2n_31 _); decide) | refine x_icmp_ne (pc := 64) (tgt := 74) dX6_expression_64 (by decide) (fun h64 => ?_) (fun h64 => ?_)
                  · skip
                    exact absurd (e1.mpr n1) h64
                  · skip
                    refine x_iload_n (pc := 67) dX6_expression_67 rfl ?_
                    refine x_iload_n (pc := 68) dX6_expression_68 rfl ?_
                    first | (guard_target =~ Wp _ _ _ _ _ (Value.int (nI _) :: Value.int (nI _) :: _) _ _ _ _; with_reducible refine x_iorN (pc := 69) dX6_expression_69 ?_) | refine x_ior (pc := 69) dX6_expression_69 ?_
                    rw [mO_O]
                    refine x_istore_n (pc := 70) dX6_expression_70 (by decide) xs_2 (x_hp rfl) ?_
                    refine x_ldc (pc := 71) (v := nI 65535) dX6_expression_71 ckX6_93 ?_
                    refine x_istore_n (pc := 73) dX6_expression_73 (by decide) xs_3 (x_hp rfl) ?_
                    refine x_aload_n (pc := 74) dX6_expression_74 rfl ?_
                    refine x_dup (pc := 75) dX6_expression_75 rfl ?_
                    refine x_getI (pc := 76) dX6_expression_76 flX6_34 (by first | assumption | rfl) rfl ?_
                    rw [rM_at]
                    refine x_iconstN (pc := 79) 1 dX6_expression_79 ic_1 ?_
                    first | (guard_target =~ Wp _ _ _ _ _ (Value.int (nI _) :: Value.int (nI _) :: _) _ _ _ _; with_reducible refine x_iaddN (pc := 80) dX6_expression_80 ?_) | refine x_iadd (pc := 80) dX6_expression_80 ?_
                    refine x_putI (pc := 81) dX6_expression_81 flX6_34 (by first | assumption | rfl) rfl rfl rfl ?_
                    rw [rM_put]
                    first | (guard_target =~ Wp _ _ _ _ (_ :: _ :: _ :: _ :: some (Value.int (nI _)) :: _) _ _ _ _ _; with_reducible refine x_iincN (pc := 84) 1 ic_1 dX6_expression_84 ?_ xg_4 xs_4 ?_ ?_; decide; exact (x_hp rfl)) | refine x_iincC (pc := 84) ic_1 dX6_expression_84 (by decide) rfl xs_4 (x_hp rfl) ?_
                    refine x_goto (pc := 87) (tgt := 8) dX6_expression_87 (by decide) ?_
                    exact ih (i + 1) (q + 1) (some (cO any (cA both e))) none _ (by omega) (by omega) (by omega) g0 g1
                · skip
                  exact absurd (e1.mpr n1) h47
        rw [if_neg n1] at g0 g1
        by_cases n3 : c q = 39
        · rw [if_pos n3] at g0 g1
          have n2 := hX.lt n3 (by decide)
          refine x_iload (pc := 8) dX6_expression_8 rfl ?_
          refine x_bipushN (pc := 10) 100 dX6_expression_10 bp_100 ?_
          first | (guard_target =~ Wp _ _ _ _ _ (Value.int (nI _) :: Value.int (nI _) :: _) _ _ _ _; with_reducible refine x_icmp_geN (pc := 12) (tgt := 90) ?_ ?_ dX6_expression_12 ?_ (fun h12 => ?_) (fun h12 => ?_); (first | omega | exact b2n_31 _); (first | omega | exact b2n_31 _); decide) | refine x_icmp_ge (pc := 12) (tgt := 90) dX6_expression_12 (by decide) (fun h12 => ?_) (fun h12 => ?_)
          · skip
            omega
          · skip
            refine x_aload_n (pc := 15) dX6_expression_15 rfl ?_
            refine x_getI (pc := 16) dX6_expression_16 flX6_30 (by first | assumption | rfl) rfl ?_
            rw [rM_br]
            first | (guard_target =~ Wp _ _ _ _ _ (Value.int (nI _) :: _) _ _ _ _; with_reducible refine x_if_neN (pc := 19) (tgt := 90) ?_ dX6_expression_19 ?_ (fun h19 => ?_) (fun h19 => ?_); (first | omega | exact b2n_32 _ | exact b2n_31 _); decide) | refine x_if_ne (pc := 19) (tgt := 90) dX6_expression_19 (by decide) (fun h19 => ?_) (fun h19 => ?_)
            · skip
              exact absurd rfl h19
            · skip
              refine x_iload_n (pc := 22) dX6_expression_22 rfl ?_
              refine x_aload_n (pc := 23) dX6_expression_23 rfl ?_
              refine x_iload_n (pc := 24) dX6_expression_24 rfl ?_
              refine x_invV1 (pc := 25) dX6_expression_25 mlX6_94 imX6_factor seX6_factor kX6_factor (by first | assumption | rfl) rfl (Nat.le_of_ble_eq_true rfl) (by decide) ?_
              refine hF (d + 4) p _ (by omega) hp (fun q' hq => absurd (hr.symm.trans hq) (by simp)) (fun e' q' hq => ?_); obtain ⟨rfl, rfl⟩ : e = e' ∧ q = q' := by (have z2 := hr.symm.trans hq; simp only [Prod.mk.injEq, Option.some.injEq] at z2; exact z2)
              refine x_cv rfl rfl ?_
              first | (guard_target =~ Wp _ _ _ _ _ (Value.int (nI _) :: Value.int (nI _) :: _) _ _ _ _; with_reducible refine x_iandN (pc := 28) dX6_expression_28 ?_) | refine x_iand (pc := 28) dX6_expression_28 ?_
              rw [mB_A]
              refine x_istore_n (pc := 29) dX6_expression_29 (by decide) xs_3 (x_hp rfl) ?_
              refine x_aload_n (pc := 30) dX6_expression_30 rfl ?_
              refine x_invV0 (pc := 31) dX6_expression_31 mlX6_64 imX6_sign seX6_sign kX6_sign (by first | assumption | rfl) rfl (Nat.le_of_ble_eq_true rfl) (by decide) ?_
              refine sp_X6_sign hR q2 ?_
              refine x_cv rfl rfl ?_
              refine x_istore (pc := 34) dX6_expression_34 (by decide) xs_5 (x_hp rfl) ?_
              refine x_aload_n (pc := 36) dX6_expression_36 rfl ?_
              refine x_getI (pc := 37) dX6_expression_37 flX6_30 (by first | assumption | rfl) rfl ?_
              rw [rM_br]
              first | (guard_target =~ Wp _ _ _ _ _ (Value.int (nI _) :: _) _ _ _ _; with_reducible refine x_if_neN (pc := 40) (tgt := 90) ?_ dX6_expression_40 ?_ (fun h40 => ?_) (fun h40 => ?_); (first | omega | exact b2n_32 _ | exact b2n_31 _); decide) | refine x_if_ne (pc := 40) (tgt := 90) dX6_expression_40 (by decide) (fun h40 => ?_) (fun h40 => ?_)
              · skip
                exact absurd rfl h40
              · skip
                refine x_iload (pc := 43) dX6_expression_43 rfl ?_
                refine x_bipush (pc := 45) dX6_expression_45 bp_124 ?_
                first | (guard_target =~ Wp _ _ _ _ _ (Value.int (nI _) :: Value.int (nI _) :: _) _ _ _ _; with_reducible refine x_icmp_eqN (pc := 47) (tgt := 60) ?_ ?_ dX6_expression_47 ?_ (fun h47 => ?_) (fun h47 => ?_); (first | omega | exact b2n_31 _); (first | omega | exact b2n_31 _); decide) | refine x_icmp_eq (pc := 47) (tgt := 60) dX6_expression_47 (by decide) (fun h47 => ?_) (fun h47 => ?_)
                · skip
                  exact absurd (e1.mp h47) n1
                · skip
                  refine x_iload (pc := 50) dX6_expression_50 rfl ?_
                  refine x_bipush (pc := 52) dX6_expression_52 bp_38 ?_
                  first | (guard_target =~ Wp _ _ _ _ _ (Value.int (nI _) :: Value.int (nI _) :: _) _ _ _ _; with_reducible refine x_icmp_eqN (pc := 54) (tgt := 60) ?_ ?_ dX6_expression_54 ?_ (fun h54 => ?_) (fun h54 => ?_); (first | omega | exact b2n_31 _); (first | omega | exact b2n_31 _); decide) | refine x_icmp_eq (pc := 54) (tgt := 60) dX6_expression_54 (by decide) (fun h54 => ?_) (fun h54 => ?_)
                  · skip
                    refine x_iload (pc := 60) dX6_expression_60 rfl ?_
                    refine x_bipush (pc := 62) dX6_expression_62 bp_124 ?_
                    first | (guard_target =~ Wp _ _ _ _ _ (Value.int (nI _) :: Value.int (nI _) :: _) _ _ _ _; with_reducible refine x_icmp_neN (pc := 64) (tgt := 74) ?_ ?_ dX6_expression_64 ?_ (fun h64 => ?_) (fun h64 => ?_); (first | omega | exact b2n_31 _); (first | omega | exact b2n_31 _); decide) | refine x_icmp_ne (pc := 64) (tgt := 74) dX6_expression_64 (by decide) (fun h64 => ?_) (fun h64 => ?_)
                    · skip
                      refine x_aload_n (pc := 74) dX6_expression_74 rfl ?_
                      refine x_dup (pc := 75) dX6_expression_75 rfl ?_
                      refine x_getI (pc := 76) dX6_expression_76 flX6_34 (by first | assumption | rfl) rfl ?_
                      rw [rM_at]
                      refine x_iconstN (pc := 79) 1 dX6_expression_79 ic_1 ?_
                      first | (guard_target =~ Wp _ _ _ _ _ (Value.int (nI _) :: Value.int (nI _) :: _) _ _ _ _; with_reducible refine x_iaddN (pc := 80) dX6_expression_80 ?_) | refine x_iadd (pc := 80) dX6_expression_80 ?_
                      refine x_putI (pc := 81) dX6_expression_81 flX6_34 (by first | assumption | rfl) rfl rfl rfl ?_
                      rw [rM_put]
                      first | (guard_target =~ Wp _ _ _ _ (_ :: _ :: _ :: _ :: some (Value.int (nI _)) :: _) _ _ _ _ _; with_reducible refine x_iincN (pc := 84) 1 ic_1 dX6_expression_84 ?_ xg_4 xs_4 ?_ ?_; decide; exact (x_hp rfl)) | refine x_iincC (pc := 84) ic_1 dX6_expression_84 (by decide) rfl xs_4 (x_hp rfl) ?_
                      refine x_goto (pc := 87) (tgt := 8) dX6_expression_87 (by decide) ?_
                      exact ih (i + 1) (q + 1) any (some (cA both e)) _ (by omega) (by omega) (by omega) g0 g1
                    · skip
                      exact absurd (e1.mp h64) n1
                  · skip
                    exact absurd (e2.mpr n3) h54
        · rw [if_neg n3] at g0 g1
          refine x_iload (pc := 8) dX6_expression_8 rfl ?_
          refine x_bipushN (pc := 10) 100 dX6_expression_10 bp_100 ?_
          first | (guard_target =~ Wp _ _ _ _ _ (Value.int (nI _) :: Value.int (nI _) :: _) _ _ _ _; with_reducible refine x_icmp_geN (pc := 12) (tgt := 90) ?_ ?_ dX6_expression_12 ?_ (fun h12 => ?_) (fun h12 => ?_); (first | omega | exact b2n_31 _); (first | omega | exact b2n_31 _); decide) | refine x_icmp_ge (pc := 12) (tgt := 90) dX6_expression_12 (by decide) (fun h12 => ?_) (fun h12 => ?_)
          · skip
            omega
          · skip
            refine x_aload_n (pc := 15) dX6_expression_15 rfl ?_
            refine x_getI (pc := 16) dX6_expression_16 flX6_30 (by first | assumption | rfl) rfl ?_
            rw [rM_br]
            first | (guard_target =~ Wp _ _ _ _ _ (Value.int (nI _) :: _) _ _ _ _; with_reducible refine x_if_neN (pc := 19) (tgt := 90) ?_ dX6_expression_19 ?_ (fun h19 => ?_) (fun h19 => ?_); (first | omega | exact b2n_32 _ | exact b2n_31 _); decide) | refine x_if_ne (pc := 19) (tgt := 90) dX6_expression_19 (by decide) (fun h19 => ?_) (fun h19 => ?_)
            · skip
              exact absurd rfl h19
            · skip
              refine x_iload_n (pc := 22) dX6_expression_22 rfl ?_
              refine x_aload_n (pc := 23) dX6_expression_23 rfl ?_
              refine x_iload_n (pc := 24) dX6_expression_24 rfl ?_
              refine x_invV1 (pc := 25) dX6_expression_25 mlX6_94 imX6_factor seX6_factor kX6_factor (by first | assumption | rfl) rfl (Nat.le_of_ble_eq_true rfl) (by decide) ?_
              refine hF (d + 4) p _ (by omega) hp (fun q' hq => absurd (hr.symm.trans hq) (by simp)) (fun e' q' hq => ?_); obtain ⟨rfl, rfl⟩ : e = e' ∧ q = q' := by (have z2 := hr.symm.trans hq; simp only [Prod.mk.injEq, Option.some.injEq] at z2; exact z2)
              refine x_cv rfl rfl ?_
              first | (guard_target =~ Wp _ _ _ _ _ (Value.int (nI _) :: Value.int (nI _) :: _) _ _ _ _; with_reducible refine x_iandN (pc := 28) dX6_expression_28 ?_) | refine x_iand (pc := 28) dX6_expression_28 ?_
              rw [mB_A]
              refine x_istore_n (pc := 29) dX6_expression_29 (by decide) xs_3 (x_hp rfl) ?_
              refine x_aload_n (pc := 30) dX6_expression_30 rfl ?_
              refine x_invV0 (pc := 31) dX6_expression_31 mlX6_64 imX6_sign seX6_sign kX6_sign (by first | assumption | rfl) rfl (Nat.le_of_ble_eq_true rfl) (by decide) ?_
              refine sp_X6_sign hR q2 ?_
              refine x_cv rfl rfl ?_
              refine x_istore (pc := 34) dX6_expression_34 (by decide) xs_5 (x_hp rfl) ?_
              refine x_aload_n (pc := 36) dX6_expression_36 rfl ?_
              refine x_getI (pc := 37) dX6_expression_37 flX6_30 (by first | assumption | rfl) rfl ?_
              rw [rM_br]
              first | (guard_target =~ Wp _ _ _ _ _ (Value.int (nI _) :: _) _ _ _ _; with_reducible refine x_if_neN (pc := 40) (tgt := 90) ?_ dX6_expression_40 ?_ (fun h40 => ?_) (fun h40 => ?_); (first | omega | exact b2n_32 _ | exact b2n_31 _); decide) | refine x_if_ne (pc := 40) (tgt := 90) dX6_expression_40 (by decide) (fun h40 => ?_) (fun h40 => ?_)
              · skip
                exact absurd rfl h40
              · skip
                refine x_iload (pc := 43) dX6_expression_43 rfl ?_
                refine x_bipush (pc := 45) dX6_expression_45 bp_124 ?_
                first | (guard_target =~ Wp _ _ _ _ _ (Value.int (nI _) :: Value.int (nI _) :: _) _ _ _ _; with_reducible refine x_icmp_eqN (pc := 47) (tgt := 60) ?_ ?_ dX6_expression_47 ?_ (fun h47 => ?_) (fun h47 => ?_); (first | omega | exact b2n_31 _); (first | omega | exact b2n_31 _); decide) | refine x_icmp_eq (pc := 47) (tgt := 60) dX6_expression_47 (by decide) (fun h47 => ?_) (fun h47 => ?_)
                · skip
                  exact absurd (e1.mp h47) n1
                · skip
                  refine x_iload (pc := 50) dX6_expression_50 rfl ?_
                  refine x_bipush (pc := 52) dX6_expression_52 bp_38 ?_
                  first | (guard_target =~ Wp _ _ _ _ _ (Value.int (nI _) :: Value.int (nI _) :: _) _ _ _ _; with_reducible refine x_icmp_eqN (pc := 54) (tgt := 60) ?_ ?_ dX6_expression_54 ?_ (fun h54 => ?_) (fun h54 => ?_); (first | omega | exact b2n_31 _); (first | omega | exact b2n_31 _); decide) | refine x_icmp_eq (pc := 54) (tgt := 60) dX6_expression_54 (by decide) (fun h54 => ?_) (fun h54 => ?_)
                  · skip
                    exact absurd (e2.mp h54) n3
                  · skip
                    refine x_goto (pc := 57) (tgt := 90) dX6_expression_57 (by decide) ?_
                    refine x_iload_n (pc := 90) dX6_expression_90 rfl ?_
                    refine x_iload_n (pc := 91) dX6_expression_91 rfl ?_
                    first | (guard_target =~ Wp _ _ _ _ _ (Value.int (nI _) :: Value.int (nI _) :: _) _ _ _ _; with_reducible refine x_iorN (pc := 92) dX6_expression_92 ?_) | refine x_ior (pc := 92) dX6_expression_92 ?_
                    rw [mO_O]
                    refine x_ret (pc := 93) (v := some _) rfl trivial dX6_expression_93 (by decide) ?_
                    exact g1 _ _ rfl
  refine x_iconstN (pc := 0) 0 dX6_expression_0 ic_0 ?_
  refine x_istore_n (pc := 1) dX6_expression_1 (by decide) xs_2 (x_hp rfl) ?_
  refine x_ldc (pc := 2) (v := nI 65535) dX6_expression_2 ckX6_93 ?_
  refine x_istore_n (pc := 4) dX6_expression_4 (by decide) xs_3 (x_hp rfl) ?_
  refine x_iconstN (pc := 5) 0 dX6_expression_5 ic_0 ?_
  refine x_istore (pc := 6) dX6_expression_6 (by decide) xs_4 (x_hp rfl) ?_
  exact loop 100 0 p none none _ rfl (by omega) hp h0 h
end P31
