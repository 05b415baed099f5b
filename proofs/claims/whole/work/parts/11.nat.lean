/-! NATURAL NUMBERS behind ints: the rules again, over nI -/
theorem nI_and (a b : Nat) : nI a &&& nI b = nI (a &&& b) := by
  apply Int32.toBitVec_inj.mp
  show BitVec.ofNat 32 a &&& BitVec.ofNat 32 b = BitVec.ofNat 32 (a &&& b)
  rw [BitVec.ofNat_and]
theorem nI_or (a b : Nat) : nI a ||| nI b = nI (a ||| b) := by
  apply Int32.toBitVec_inj.mp
  show BitVec.ofNat 32 a ||| BitVec.ofNat 32 b = BitVec.ofNat 32 (a ||| b)
  rw [BitVec.ofNat_or]
theorem nI_xor (a b : Nat) : nI a ^^^ nI b = nI (a ^^^ b) := by
  apply Int32.toBitVec_inj.mp
  show BitVec.ofNat 32 a ^^^ BitVec.ofNat 32 b = BitVec.ofNat 32 (a ^^^ b)
  rw [BitVec.ofNat_xor]
theorem nI_sm : ∀ k, k < 32 → ((nI k &&& 31).toBitVec.smod 32).toNat = k := by decide +kernel
theorem nI_sm2 : ∀ k, k < 32 → (nI k &&& 31 : Int32) = nI k := by decide +kernel
theorem nI_shl {a k : Nat} (hk : k < 32) : nI a <<< (nI k &&& 31) = nI (a * 2 ^ k) := by
  apply Int32.toBitVec_inj.mp
  apply BitVec.eq_of_toNat_eq
  rw [pk_shl (nI a) (nI k &&& 31) k (nI_sm k hk)]
  show (BitVec.ofNat 32 a).toNat * 2 ^ k % 2 ^ 32 = (BitVec.ofNat 32 (a * 2 ^ k)).toNat
  rw [BitVec.toNat_ofNat, BitVec.toNat_ofNat, Nat.mod_mul_mod]
theorem nI_shr {a k : Nat} (ha : a < 2 ^ 31) (hk : k < 32) : nI a >>> (nI k &&& 31) = nI (a / 2 ^ k) := pk_shrN ha (nI k &&& 31) k (nI_sm k hk)
theorem nI_mod (a : Nat) : nI (a % 2 ^ 32) = nI a := by
  apply Int32.toBitVec_inj.mp
  apply BitVec.eq_of_toNat_eq
  show (BitVec.ofNat 32 (a % 2 ^ 32)).toNat = (BitVec.ofNat 32 a).toNat
  rw [BitVec.toNat_ofNat, BitVec.toNat_ofNat, Nat.mod_mod]
theorem nI_inj {a b : Nat} (ha : a < 2 ^ 32) (hb : b < 2 ^ 32) (h : nI a = nI b) : a = b := by
  have h2 := congrArg (fun x : Int32 => x.toBitVec.toNat) h
  show a = b
  have h3 : (BitVec.ofNat 32 a).toNat = (BitVec.ofNat 32 b).toNat := h2
  rw [BitVec.toNat_ofNat, BitVec.toNat_ofNat, Nat.mod_eq_of_lt ha, Nat.mod_eq_of_lt hb] at h3
  exact h3
theorem nI_is0 {a : Nat} (ha : a < 2 ^ 32) : nI a = 0 ↔ a = 0 := ⟨fun h => nI_inj ha (by decide) (show nI a = nI 0 from h), fun h => by rw [h]; rfl⟩
section XR6
variable {g : XG} {d : Nat} {m : XMe} {pc idx : Nat} {ls : XL} {st : List Value} {S : XS} {B : Nat × Nat} {M : XM} {K : Option Value → XS → XM → Prop} {a b : Nat}
theorem x_iaddN (hd : decode m.2.1 pc = .ok (.iadd, 1)) (k : Wp g d m (pc + 1) ls (.int (nI (a + b)) :: st) S B M K) : Wp g d m pc ls (.int (nI b) :: .int (nI a) :: st) S B M K := x_iadd hd (by rw [nI_add]; exact k)
theorem x_isubN (h : b ≤ a) (hd : decode m.2.1 pc = .ok (.isub, 1)) (k : Wp g d m (pc + 1) ls (.int (nI (a - b)) :: st) S B M K) : Wp g d m pc ls (.int (nI b) :: .int (nI a) :: st) S B M K := x_isub hd (by rw [pk_sub h]; exact k)
theorem x_imulN (hd : decode m.2.1 pc = .ok (.imul, 1)) (k : Wp g d m (pc + 1) ls (.int (nI (a * b)) :: st) S B M K) : Wp g d m pc ls (.int (nI b) :: .int (nI a) :: st) S B M K := x_imul hd (by rw [pk_mul]; exact k)
theorem x_iandN (hd : decode m.2.1 pc = .ok (.iand, 1)) (k : Wp g d m (pc + 1) ls (.int (nI (a &&& b)) :: st) S B M K) : Wp g d m pc ls (.int (nI b) :: .int (nI a) :: st) S B M K := x_iand hd (by rw [nI_and]; exact k)
theorem x_iorN (hd : decode m.2.1 pc = .ok (.ior, 1)) (k : Wp g d m (pc + 1) ls (.int (nI (a ||| b)) :: st) S B M K) : Wp g d m pc ls (.int (nI b) :: .int (nI a) :: st) S B M K := x_ior hd (by rw [nI_or]; exact k)
theorem x_ixorN (hd : decode m.2.1 pc = .ok (.ixor, 1)) (k : Wp g d m (pc + 1) ls (.int (nI (a ^^^ b)) :: st) S B M K) : Wp g d m pc ls (.int (nI b) :: .int (nI a) :: st) S B M K := x_ixor hd (by rw [nI_xor]; exact k)
theorem x_ishlN (hb : b < 32) (hd : decode m.2.1 pc = .ok (.ishl, 1)) (k : Wp g d m (pc + 1) ls (.int (nI (a * 2 ^ b)) :: st) S B M K) : Wp g d m pc ls (.int (nI b) :: .int (nI a) :: st) S B M K := x_ishl hd (by rw [nI_shl hb]; exact k)
theorem x_ishrN (ha : a < 2 ^ 31) (hb : b < 32) (hd : decode m.2.1 pc = .ok (.ishr, 1)) (k : Wp g d m (pc + 1) ls (.int (nI (a / 2 ^ b)) :: st) S B M K) : Wp g d m pc ls (.int (nI b) :: .int (nI a) :: st) S B M K := x_ishr hd (by rw [nI_shr ha hb]; exact k)
theorem x_idivN (ha : a < 2 ^ 31) (h0 : 0 < b) (hb : b < 2 ^ 31) (hd : decode m.2.1 pc = .ok (.idiv, 1)) (k : Wp g d m (pc + 1) ls (.int (nI (a / b)) :: st) S B M K) : Wp g d m pc ls (.int (nI b) :: .int (nI a) :: st) S B M K := x_idiv hd (nI_ne0 h0 hb) (by rw [pk_div ha h0 hb]; exact k)
theorem x_iremN (ha : a < 2 ^ 31) (h0 : 0 < b) (hb : b < 2 ^ 31) (hd : decode m.2.1 pc = .ok (.irem, 1)) (k : Wp g d m (pc + 1) ls (.int (nI (a % b)) :: st) S B M K) : Wp g d m pc ls (.int (nI b) :: .int (nI a) :: st) S B M K := x_irem hd (nI_ne0 h0 hb) (by rw [pk_rem ha h0 hb]; exact k)
theorem x_iconstN {n : Int} (c : Nat) (hd : decode m.2.1 pc = .ok (.iconst n, 1)) (hv : Int32.ofInt n = nI c) (k : Wp g d m (pc + 1) ls (.int (nI c) :: st) S B M K) : Wp g d m pc ls st S B M K := x_iconst hd hv k
theorem x_bipushN {n : Int} (c : Nat) (hd : decode m.2.1 pc = .ok (.bipush n, 2)) (hv : (Int8.ofInt n).toInt32 = nI c) (k : Wp g d m (pc + 2) ls (.int (nI c) :: st) S B M K) : Wp g d m pc ls st S B M K := x_bipush hd hv k
theorem x_sipushN {n : Int} (c : Nat) (hd : decode m.2.1 pc = .ok (.sipush n, 3)) (hv : (Int16.ofInt n).toInt32 = nI c) (k : Wp g d m (pc + 3) ls (.int (nI c) :: st) S B M K) : Wp g d m pc ls st S B M K := x_sipush hd hv k
theorem x_iincC {i : Nat} {n : Int} {x c : Int32} {ls' : XL} (hc : Int32.ofInt n = c) (hd : decode m.2.1 pc = .ok (.iinc i n, 3)) (hlt : i < m.2.2.1) (hi : ls[i]? = some (some (.int x))) (hls : ls' = ls.set i (some (.int (x + c)))) (hp : ∀ j w, j + 1 = i → ls[j]? = some (some w) → w.category ≠ 2)
    (kk : Wp g d m (pc + 3) ls' st S B M K) : Wp g d m pc ls st S B M K := by subst hc; exact x_iinc hd hlt hi hls hp kk
theorem x_iincN {i j : Nat} {n : Int} (c : Nat) {ls' : XL} (hc : Int32.ofInt n = nI c) (hd : decode m.2.1 pc = .ok (.iinc i n, 3)) (hlt : i < m.2.2.1) (hi : ls[i]? = some (some (.int (nI j)))) (hls : ls' = ls.set i (some (.int (nI (j + c))))) (hp : ∀ j w, j + 1 = i → ls[j]? = some (some w) → w.category ≠ 2)
    (kk : Wp g d m (pc + 3) ls' st S B M K) : Wp g d m pc ls st S B M K := x_iincC hc hd hlt hi (by rw [nI_add]; exact hls) hp kk
theorem x_icmp_eqN {off : Int} {tgt : Nat} (ha : a < 2 ^ 31) (hb : b < 2 ^ 31) (hd : decode m.2.1 pc = .ok (.if_icmp .eq off, 3)) (ht : (pc : Int) + off = (tgt : Int)) (kt : a = b → Wp g d m tgt ls st S B M K) (kf : ¬ a = b → Wp g d m (pc + 3) ls st S B M K) : Wp g d m pc ls (.int (nI b) :: .int (nI a) :: st) S B M K := x_icmp_eq hd ht (fun h => kt ((nI_eq ha hb).mp h)) (fun h => kf (fun q => h ((nI_eq ha hb).mpr q)))
theorem x_icmp_ltN {off : Int} {tgt : Nat} (ha : a < 2 ^ 31) (hb : b < 2 ^ 31) (hd : decode m.2.1 pc = .ok (.if_icmp .lt off, 3)) (ht : (pc : Int) + off = (tgt : Int)) (kt : a < b → Wp g d m tgt ls st S B M K) (kf : ¬ a < b → Wp g d m (pc + 3) ls st S B M K) : Wp g d m pc ls (.int (nI b) :: .int (nI a) :: st) S B M K := x_icmp_lt hd ht (fun h => kt ((nI_ltI ha hb).mp h)) (fun h => kf (fun q => h ((nI_ltI ha hb).mpr q)))
theorem x_icmp_geN {off : Int} {tgt : Nat} (ha : a < 2 ^ 31) (hb : b < 2 ^ 31) (hd : decode m.2.1 pc = .ok (.if_icmp .ge off, 3)) (ht : (pc : Int) + off = (tgt : Int)) (kt : b ≤ a → Wp g d m tgt ls st S B M K) (kf : ¬ b ≤ a → Wp g d m (pc + 3) ls st S B M K) : Wp g d m pc ls (.int (nI b) :: .int (nI a) :: st) S B M K := x_icmp_ge hd ht (fun h => kt ((nI_leI hb ha).mp h)) (fun h => kf (fun q => h ((nI_leI hb ha).mpr q)))
theorem x_icmp_gtN {off : Int} {tgt : Nat} (ha : a < 2 ^ 31) (hb : b < 2 ^ 31) (hd : decode m.2.1 pc = .ok (.if_icmp .gt off, 3)) (ht : (pc : Int) + off = (tgt : Int)) (kt : b < a → Wp g d m tgt ls st S B M K) (kf : ¬ b < a → Wp g d m (pc + 3) ls st S B M K) : Wp g d m pc ls (.int (nI b) :: .int (nI a) :: st) S B M K := x_icmp_gt hd ht (fun h => kt ((nI_ltI hb ha).mp h)) (fun h => kf (fun q => h ((nI_ltI hb ha).mpr q)))
theorem x_icmp_leN {off : Int} {tgt : Nat} (ha : a < 2 ^ 31) (hb : b < 2 ^ 31) (hd : decode m.2.1 pc = .ok (.if_icmp .le off, 3)) (ht : (pc : Int) + off = (tgt : Int)) (kt : a ≤ b → Wp g d m tgt ls st S B M K) (kf : ¬ a ≤ b → Wp g d m (pc + 3) ls st S B M K) : Wp g d m pc ls (.int (nI b) :: .int (nI a) :: st) S B M K := x_icmp_le hd ht (fun h => kt ((nI_leI ha hb).mp h)) (fun h => kf (fun q => h ((nI_leI ha hb).mpr q)))
theorem x_icmp_neN {off : Int} {tgt : Nat} (ha : a < 2 ^ 31) (hb : b < 2 ^ 31) (hd : decode m.2.1 pc = .ok (.if_icmp .ne off, 3)) (ht : (pc : Int) + off = (tgt : Int)) (kt : ¬ a = b → Wp g d m tgt ls st S B M K) (kf : a = b → Wp g d m (pc + 3) ls st S B M K) : Wp g d m pc ls (.int (nI b) :: .int (nI a) :: st) S B M K := x_icmp_ne hd ht (fun h => kt (fun q => h ((nI_eq ha hb).mpr q))) (fun h => kf ((nI_eq ha hb).mp h))
theorem x_if_eqN {off : Int} {tgt : Nat} (ha : a < 2 ^ 32) (hd : decode m.2.1 pc = .ok (.ifCond .eq off, 3)) (ht : (pc : Int) + off = (tgt : Int)) (kt : a = 0 → Wp g d m tgt ls st S B M K) (kf : ¬ a = 0 → Wp g d m (pc + 3) ls st S B M K) : Wp g d m pc ls (.int (nI a) :: st) S B M K := x_if_eq hd ht (fun h => kt ((nI_is0 ha).mp h)) (fun h => kf (fun q => h ((nI_is0 ha).mpr q)))
theorem x_if_neN {off : Int} {tgt : Nat} (ha : a < 2 ^ 32) (hd : decode m.2.1 pc = .ok (.ifCond .ne off, 3)) (ht : (pc : Int) + off = (tgt : Int)) (kt : ¬ a = 0 → Wp g d m tgt ls st S B M K) (kf : a = 0 → Wp g d m (pc + 3) ls st S B M K) : Wp g d m pc ls (.int (nI a) :: st) S B M K := x_if_ne hd ht (fun h => kt (fun q => h ((nI_is0 ha).mpr q))) (fun h => kf ((nI_is0 ha).mp h))
theorem x_if_ltN {off : Int} (ha : a < 2 ^ 31) {tgt : Nat} (hd : decode m.2.1 pc = .ok (.ifCond .lt off, 3)) (ht : (pc : Int) + off = (tgt : Int)) (kf : Wp g d m (pc + 3) ls st S B M K) : Wp g d m pc ls (.int (nI a) :: st) S B M K := x_if_lt hd ht (fun h => absurd h (nI_pos ha)) (fun _ => kf)
theorem x_if_geN {off : Int} (ha : a < 2 ^ 31) {tgt : Nat} (hd : decode m.2.1 pc = .ok (.ifCond .ge off, 3)) (ht : (pc : Int) + off = (tgt : Int)) (kt : Wp g d m tgt ls st S B M K) : Wp g d m pc ls (.int (nI a) :: st) S B M K := x_if_ge hd ht (fun _ => kt) (fun h => absurd (nI_pos' ha) h)
theorem x_if_leN {off : Int} {tgt : Nat} (ha : a < 2 ^ 31) (hd : decode m.2.1 pc = .ok (.ifCond .le off, 3)) (ht : (pc : Int) + off = (tgt : Int)) (kt : a = 0 → Wp g d m tgt ls st S B M K) (kf : ¬ a = 0 → Wp g d m (pc + 3) ls st S B M K) : Wp g d m pc ls (.int (nI a) :: st) S B M K := x_if_le hd ht (fun h => kt (by have := (nI_leI ha (show 0 < 2 ^ 31 by decide)).mp (show nI a ≤ nI 0 from h); omega)) (fun h => kf (fun q => h (by rw [q]; decide)))
theorem x_if_gtN {off : Int} {tgt : Nat} (ha : a < 2 ^ 31) (hd : decode m.2.1 pc = .ok (.ifCond .gt off, 3)) (ht : (pc : Int) + off = (tgt : Int)) (kt : ¬ a = 0 → Wp g d m tgt ls st S B M K) (kf : a = 0 → Wp g d m (pc + 3) ls st S B M K) : Wp g d m pc ls (.int (nI a) :: st) S B M K := x_if_gt hd ht (fun h => kt (fun q => by rw [q] at h; exact absurd h (by decide))) (fun h => kf (Decidable.byContradiction (fun q => h ((nI_ltI (show 0 < 2 ^ 31 by decide) ha).mpr (by omega)))))
end XR6
theorem xg_0 {l0 : Option Value} {r : XL} : (l0 :: r)[0]? = some l0 := rfl
theorem xg_1 {l0 l1 : Option Value} {r : XL} : (l0 :: l1 :: r)[1]? = some l1 := rfl
theorem xg_2 {l0 l1 l2 : Option Value} {r : XL} : (l0 :: l1 :: l2 :: r)[2]? = some l2 := rfl
theorem xg_3 {l0 l1 l2 l3 : Option Value} {r : XL} : (l0 :: l1 :: l2 :: l3 :: r)[3]? = some l3 := rfl
theorem xg_4 {l0 l1 l2 l3 l4 : Option Value} {r : XL} : (l0 :: l1 :: l2 :: l3 :: l4 :: r)[4]? = some l4 := rfl
theorem xg_5 {l0 l1 l2 l3 l4 l5 : Option Value} {r : XL} : (l0 :: l1 :: l2 :: l3 :: l4 :: l5 :: r)[5]? = some l5 := rfl
theorem xg_6 {l0 l1 l2 l3 l4 l5 l6 : Option Value} {r : XL} : (l0 :: l1 :: l2 :: l3 :: l4 :: l5 :: l6 :: r)[6]? = some l6 := rfl
theorem xg_7 {l0 l1 l2 l3 l4 l5 l6 l7 : Option Value} {r : XL} : (l0 :: l1 :: l2 :: l3 :: l4 :: l5 :: l6 :: l7 :: r)[7]? = some l7 := rfl
theorem xg_8 {l0 l1 l2 l3 l4 l5 l6 l7 l8 : Option Value} {r : XL} : (l0 :: l1 :: l2 :: l3 :: l4 :: l5 :: l6 :: l7 :: l8 :: r)[8]? = some l8 := rfl
theorem xg_9 {l0 l1 l2 l3 l4 l5 l6 l7 l8 l9 : Option Value} {r : XL} : (l0 :: l1 :: l2 :: l3 :: l4 :: l5 :: l6 :: l7 :: l8 :: l9 :: r)[9]? = some l9 := rfl
theorem xg_10 {l0 l1 l2 l3 l4 l5 l6 l7 l8 l9 l10 : Option Value} {r : XL} : (l0 :: l1 :: l2 :: l3 :: l4 :: l5 :: l6 :: l7 :: l8 :: l9 :: l10 :: r)[10]? = some l10 := rfl
theorem xg_11 {l0 l1 l2 l3 l4 l5 l6 l7 l8 l9 l10 l11 : Option Value} {r : XL} : (l0 :: l1 :: l2 :: l3 :: l4 :: l5 :: l6 :: l7 :: l8 :: l9 :: l10 :: l11 :: r)[11]? = some l11 := rfl
theorem xg_12 {l0 l1 l2 l3 l4 l5 l6 l7 l8 l9 l10 l11 l12 : Option Value} {r : XL} : (l0 :: l1 :: l2 :: l3 :: l4 :: l5 :: l6 :: l7 :: l8 :: l9 :: l10 :: l11 :: l12 :: r)[12]? = some l12 := rfl
theorem xg_13 {l0 l1 l2 l3 l4 l5 l6 l7 l8 l9 l10 l11 l12 l13 : Option Value} {r : XL} : (l0 :: l1 :: l2 :: l3 :: l4 :: l5 :: l6 :: l7 :: l8 :: l9 :: l10 :: l11 :: l12 :: l13 :: r)[13]? = some l13 := rfl
