/-! RULES: one an instruction -/
section XR1
variable {g : XG} {d : Nat} {m : XMe} {pc : Nat} {ls : XL} {st : List Value} {S : XS} {B : Nat × Nat} {M : XM} {K : Option Value → XS → XM → Prop}
theorem x_simple {pc2 : Nat} {st2 : List Value}
    (h : ∀ (p : Program) (e : Env) (R : Room) (s : State) (mi : MethodId) (args : Array Value) (below : List Frame) (meth : Method) (c : Code) (H : Heap) (locs : List Loc) (la : Array Slot) (cells slots : Nat) (Q : State → Prop), p.tables.exec = Jvm.exec → c.code = m.2.1 → W p (xl g) e R s mi args below meth c H locs cells slots Q (F0 mi pc2 la (st2.map (xtr g))) → W p (xl g) e R s mi args below meth c H locs cells slots Q (F0 mi pc la (st.map (xtr g))))
    (k : Wp g d m pc2 ls st2 S B M K) : Wp g d m pc ls st S B M K := by
  intro p e R s mi args below meth c H locs la Q C hR hH hl0 hret
  exact h p e R s mi args below meth c H locs la _ _ Q C.1 C.2.1 (k p e R s mi args below meth c H locs la Q C hR hH hl0 hret)

theorem x_iadd {x y : Int32} (hd : decode m.2.1 pc = .ok (.iadd, 1)) (k : Wp g d m (pc + 1) ls (.int (x + y) :: st) S B M K) : Wp g d m pc ls (.int y :: .int x :: st) S B M K := x_simple (fun p e R s mi args below meth c H locs la cells slots Q hx hb w => lv_iadd hx hb hd w) k
theorem x_isub {x y : Int32} (hd : decode m.2.1 pc = .ok (.isub, 1)) (k : Wp g d m (pc + 1) ls (.int (x - y) :: st) S B M K) : Wp g d m pc ls (.int y :: .int x :: st) S B M K := x_simple (fun p e R s mi args below meth c H locs la cells slots Q hx hb w => lv_isub hx hb hd w) k
theorem x_imul {x y : Int32} (hd : decode m.2.1 pc = .ok (.imul, 1)) (k : Wp g d m (pc + 1) ls (.int (x * y) :: st) S B M K) : Wp g d m pc ls (.int y :: .int x :: st) S B M K := x_simple (fun p e R s mi args below meth c H locs la cells slots Q hx hb w => lv_imul hx hb hd w) k
theorem x_iand {x y : Int32} (hd : decode m.2.1 pc = .ok (.iand, 1)) (k : Wp g d m (pc + 1) ls (.int (x &&& y) :: st) S B M K) : Wp g d m pc ls (.int y :: .int x :: st) S B M K := x_simple (fun p e R s mi args below meth c H locs la cells slots Q hx hb w => lv_iand hx hb hd w) k
theorem x_ior {x y : Int32} (hd : decode m.2.1 pc = .ok (.ior, 1)) (k : Wp g d m (pc + 1) ls (.int (x ||| y) :: st) S B M K) : Wp g d m pc ls (.int y :: .int x :: st) S B M K := x_simple (fun p e R s mi args below meth c H locs la cells slots Q hx hb w => lv_ior hx hb hd w) k
theorem x_ixor {x y : Int32} (hd : decode m.2.1 pc = .ok (.ixor, 1)) (k : Wp g d m (pc + 1) ls (.int (x ^^^ y) :: st) S B M K) : Wp g d m pc ls (.int y :: .int x :: st) S B M K := x_simple (fun p e R s mi args below meth c H locs la cells slots Q hx hb w => lv_ixor hx hb hd w) k
theorem x_ishl {x y : Int32} (hd : decode m.2.1 pc = .ok (.ishl, 1)) (k : Wp g d m (pc + 1) ls (.int (x <<< (y &&& 31)) :: st) S B M K) : Wp g d m pc ls (.int y :: .int x :: st) S B M K := x_simple (fun p e R s mi args below meth c H locs la cells slots Q hx hb w => lv_ishl hx hb hd w) k
theorem x_ishr {x y : Int32} (hd : decode m.2.1 pc = .ok (.ishr, 1)) (k : Wp g d m (pc + 1) ls (.int (x >>> (y &&& 31)) :: st) S B M K) : Wp g d m pc ls (.int y :: .int x :: st) S B M K := x_simple (fun p e R s mi args below meth c H locs la cells slots Q hx hb w => lv_ishr hx hb hd w) k
theorem x_idiv {x y : Int32} (hd : decode m.2.1 pc = .ok (.idiv, 1)) (hy : ¬ y = 0) (k : Wp g d m (pc + 1) ls (.int (x / y) :: st) S B M K) : Wp g d m pc ls (.int y :: .int x :: st) S B M K := x_simple (fun p e R s mi args below meth c H locs la cells slots Q hx hb w => lv_idiv hx hb hd hy w) k
theorem x_irem {x y : Int32} (hd : decode m.2.1 pc = .ok (.irem, 1)) (hy : ¬ y = 0) (k : Wp g d m (pc + 1) ls (.int (x - x / y * y) :: st) S B M K) : Wp g d m pc ls (.int y :: .int x :: st) S B M K := x_simple (fun p e R s mi args below meth c H locs la cells slots Q hx hb w => lv_irem hx hb hd hy w) k
theorem x_ineg {x : Int32} (hd : decode m.2.1 pc = .ok (.ineg, 1)) (k : Wp g d m (pc + 1) ls (.int (-x) :: st) S B M K) : Wp g d m pc ls (.int x :: st) S B M K := x_simple (fun p e R s mi args below meth c H locs la cells slots Q hx hb w => lv_ineg hx hb hd w) k
theorem x_i2l {x : Int32} (hd : decode m.2.1 pc = .ok (.i2l, 1)) (k : Wp g d m (pc + 1) ls (.long x.toInt64 :: st) S B M K) : Wp g d m pc ls (.int x :: st) S B M K := x_simple (fun p e R s mi args below meth c H locs la cells slots Q hx hb w => lv_i2l hx hb hd rfl w) k
theorem x_l2i {x : Int64} (hd : decode m.2.1 pc = .ok (.l2i, 1)) (k : Wp g d m (pc + 1) ls (.int x.toInt32 :: st) S B M K) : Wp g d m pc ls (.long x :: st) S B M K := x_simple (fun p e R s mi args below meth c H locs la cells slots Q hx hb w => lv_l2i hx hb hd rfl w) k
theorem x_i2b {x : Int32} (hd : decode m.2.1 pc = .ok (.i2b, 1)) (k : Wp g d m (pc + 1) ls (.int x.toInt8.toInt32 :: st) S B M K) : Wp g d m pc ls (.int x :: st) S B M K := x_simple (fun p e R s mi args below meth c H locs la cells slots Q hx hb w => lv_i2b hx hb hd rfl w) k
theorem x_i2s {x : Int32} (hd : decode m.2.1 pc = .ok (.i2s, 1)) (k : Wp g d m (pc + 1) ls (.int x.toInt16.toInt32 :: st) S B M K) : Wp g d m pc ls (.int x :: st) S B M K := x_simple (fun p e R s mi args below meth c H locs la cells slots Q hx hb w => lv_i2s hx hb hd rfl w) k
theorem x_i2c {x : Int32} (hd : decode m.2.1 pc = .ok (.i2c, 1)) (k : Wp g d m (pc + 1) ls (.int (x.toUInt32 % 65536).toInt32 :: st) S B M K) : Wp g d m pc ls (.int x :: st) S B M K := x_simple (fun p e R s mi args below meth c H locs la cells slots Q hx hb w => lv_i2c hx hb hd rfl w) k
theorem x_land {x y : Int64} (hd : decode m.2.1 pc = .ok (.land, 1)) (k : Wp g d m (pc + 1) ls (.long (x &&& y) :: st) S B M K) : Wp g d m pc ls (.long y :: .long x :: st) S B M K := x_simple (fun p e R s mi args below meth c H locs la cells slots Q hx hb w => lv_land hx hb hd w) k
theorem x_lor {x y : Int64} (hd : decode m.2.1 pc = .ok (.lor, 1)) (k : Wp g d m (pc + 1) ls (.long (x ||| y) :: st) S B M K) : Wp g d m pc ls (.long y :: .long x :: st) S B M K := x_simple (fun p e R s mi args below meth c H locs la cells slots Q hx hb w => lv_lor hx hb hd w) k
theorem x_lshl {x : Int64} {y : Int32} (hd : decode m.2.1 pc = .ok (.lshl, 1)) (k : Wp g d m (pc + 1) ls (.long (x <<< (y.toInt64 &&& 63)) :: st) S B M K) : Wp g d m pc ls (.int y :: .long x :: st) S B M K := x_simple (fun p e R s mi args below meth c H locs la cells slots Q hx hb w => lv_lshl hx hb hd rfl w) k
theorem x_lcmp {x y : Int64} (hd : decode m.2.1 pc = .ok (.lcmp, 1)) (k : Wp g d m (pc + 1) ls (.int (lg_cmp x y) :: st) S B M K) : Wp g d m pc ls (.long y :: .long x :: st) S B M K := x_simple (fun p e R s mi args below meth c H locs la cells slots Q hx hb w => W.lcmp hx hb hd w) k
theorem x_iconst {n : Int} {v : Int32} (hd : decode m.2.1 pc = .ok (.iconst n, 1)) (hv : Int32.ofInt n = v) (k : Wp g d m (pc + 1) ls (.int v :: st) S B M K) : Wp g d m pc ls (st) S B M K := x_simple (fun p e R s mi args below meth c H locs la cells slots Q hx hb w => lv_iconst hx hb hd hv w) k
theorem x_bipush {n : Int} {v : Int32} (hd : decode m.2.1 pc = .ok (.bipush n, 2)) (hv : (Int8.ofInt n).toInt32 = v) (k : Wp g d m (pc + 2) ls (.int v :: st) S B M K) : Wp g d m pc ls (st) S B M K := x_simple (fun p e R s mi args below meth c H locs la cells slots Q hx hb w => lv_bipush hx hb hd hv w) k
theorem x_sipush {n : Int} {v : Int32} (hd : decode m.2.1 pc = .ok (.sipush n, 3)) (hv : (Int16.ofInt n).toInt32 = v) (k : Wp g d m (pc + 3) ls (.int v :: st) S B M K) : Wp g d m pc ls (st) S B M K := x_simple (fun p e R s mi args below meth c H locs la cells slots Q hx hb w => lv_sipush hx hb hd hv w) k
theorem x_lconst {n : Fin 2} {v : Int64} (hd : decode m.2.1 pc = .ok (.lconst n, 1)) (hv : Int64.ofNat (n : Nat) = v) (k : Wp g d m (pc + 1) ls (.long v :: st) S B M K) : Wp g d m pc ls (st) S B M K := x_simple (fun p e R s mi args below meth c H locs la cells slots Q hx hb w => lv_lconst hx hb hd hv w) k
theorem x_goto {off : Int} {tgt : Nat} (hd : decode m.2.1 pc = .ok (.goto off, 3)) (ht : (pc : Int) + off = (tgt : Int)) (k : Wp g d m (tgt) ls (st) S B M K) : Wp g d m pc ls (st) S B M K := x_simple (fun p e R s mi args below meth c H locs la cells slots Q hx hb w => lv_goto hx hb hd ht w) k
theorem x_dup {v : Value} (hd : decode m.2.1 pc = .ok (.dup, 1)) (hc : v.category = 1) (k : Wp g d m (pc + 1) ls (v :: v :: st) S B M K) : Wp g d m pc ls (v :: st) S B M K := x_simple (fun p e R s mi args below meth c H locs la cells slots Q hx hb w => lv_dup hx hb hd (by rw [xtr_cat]; exact hc) w) k
theorem x_pop {v : Value} (hd : decode m.2.1 pc = .ok (.pop, 1)) (hc : v.category = 1) (k : Wp g d m (pc + 1) ls (st) S B M K) : Wp g d m pc ls (v :: st) S B M K := x_simple (fun p e R s mi args below meth c H locs la cells slots Q hx hb w => lv_pop hx hb hd (by rw [xtr_cat]; exact hc) w) k
theorem x_dup2 {v u : Value} (hd : decode m.2.1 pc = .ok (.dup2, 1)) (hc : v.category = 1) (hc2 : u.category = 1) (k : Wp g d m (pc + 1) ls (v :: u :: v :: u :: st) S B M K) : Wp g d m pc ls (v :: u :: st) S B M K := x_simple (fun p e R s mi args below meth c H locs la cells slots Q hx hb w => lv_dup2_11 hx hb hd (by rw [xtr_cat]; exact hc) (by rw [xtr_cat]; exact hc2) w) k
theorem x_if_eq {x : Int32} {off : Int} {tgt : Nat} (hd : decode m.2.1 pc = .ok (.ifCond .eq off, 3)) (ht : (pc : Int) + off = (tgt : Int)) (kt : x = 0 → Wp g d m tgt ls st S B M K) (kf : ¬ x = 0 → Wp g d m (pc + 3) ls st S B M K) : Wp g d m pc ls (.int x :: st) S B M K := by
  intro p e R s mi args below meth c H locs la Q C hR hH hl0 hret
  exact lv_if_eq C.1 C.2.1 hd ht (fun h => kt h p e R s mi args below meth c H locs la Q C hR hH hl0 hret) (fun h => kf h p e R s mi args below meth c H locs la Q C hR hH hl0 hret)
theorem x_if_ne {x : Int32} {off : Int} {tgt : Nat} (hd : decode m.2.1 pc = .ok (.ifCond .ne off, 3)) (ht : (pc : Int) + off = (tgt : Int)) (kt : ¬ x = 0 → Wp g d m tgt ls st S B M K) (kf : x = 0 → Wp g d m (pc + 3) ls st S B M K) : Wp g d m pc ls (.int x :: st) S B M K := by
  intro p e R s mi args below meth c H locs la Q C hR hH hl0 hret
  exact lv_if_ne C.1 C.2.1 hd ht (fun h => kt h p e R s mi args below meth c H locs la Q C hR hH hl0 hret) (fun h => kf h p e R s mi args below meth c H locs la Q C hR hH hl0 hret)
theorem x_if_lt {x : Int32} {off : Int} {tgt : Nat} (hd : decode m.2.1 pc = .ok (.ifCond .lt off, 3)) (ht : (pc : Int) + off = (tgt : Int)) (kt : x < 0 → Wp g d m tgt ls st S B M K) (kf : ¬ x < 0 → Wp g d m (pc + 3) ls st S B M K) : Wp g d m pc ls (.int x :: st) S B M K := by
  intro p e R s mi args below meth c H locs la Q C hR hH hl0 hret
  exact lv_if_lt C.1 C.2.1 hd ht (fun h => kt h p e R s mi args below meth c H locs la Q C hR hH hl0 hret) (fun h => kf h p e R s mi args below meth c H locs la Q C hR hH hl0 hret)
theorem x_if_ge {x : Int32} {off : Int} {tgt : Nat} (hd : decode m.2.1 pc = .ok (.ifCond .ge off, 3)) (ht : (pc : Int) + off = (tgt : Int)) (kt : 0 ≤ x → Wp g d m tgt ls st S B M K) (kf : ¬ 0 ≤ x → Wp g d m (pc + 3) ls st S B M K) : Wp g d m pc ls (.int x :: st) S B M K := by
  intro p e R s mi args below meth c H locs la Q C hR hH hl0 hret
  exact lv_if_ge C.1 C.2.1 hd ht (fun h => kt h p e R s mi args below meth c H locs la Q C hR hH hl0 hret) (fun h => kf h p e R s mi args below meth c H locs la Q C hR hH hl0 hret)
theorem x_if_gt {x : Int32} {off : Int} {tgt : Nat} (hd : decode m.2.1 pc = .ok (.ifCond .gt off, 3)) (ht : (pc : Int) + off = (tgt : Int)) (kt : 0 < x → Wp g d m tgt ls st S B M K) (kf : ¬ 0 < x → Wp g d m (pc + 3) ls st S B M K) : Wp g d m pc ls (.int x :: st) S B M K := by
  intro p e R s mi args below meth c H locs la Q C hR hH hl0 hret
  exact lv_if_gt C.1 C.2.1 hd ht (fun h => kt h p e R s mi args below meth c H locs la Q C hR hH hl0 hret) (fun h => kf h p e R s mi args below meth c H locs la Q C hR hH hl0 hret)
theorem x_if_le {x : Int32} {off : Int} {tgt : Nat} (hd : decode m.2.1 pc = .ok (.ifCond .le off, 3)) (ht : (pc : Int) + off = (tgt : Int)) (kt : x ≤ 0 → Wp g d m tgt ls st S B M K) (kf : ¬ x ≤ 0 → Wp g d m (pc + 3) ls st S B M K) : Wp g d m pc ls (.int x :: st) S B M K := by
  intro p e R s mi args below meth c H locs la Q C hR hH hl0 hret
  exact lv_if_le C.1 C.2.1 hd ht (fun h => kt h p e R s mi args below meth c H locs la Q C hR hH hl0 hret) (fun h => kf h p e R s mi args below meth c H locs la Q C hR hH hl0 hret)
theorem x_icmp_eq {x y : Int32} {off : Int} {tgt : Nat} (hd : decode m.2.1 pc = .ok (.if_icmp .eq off, 3)) (ht : (pc : Int) + off = (tgt : Int)) (kt : x = y → Wp g d m tgt ls st S B M K) (kf : ¬ x = y → Wp g d m (pc + 3) ls st S B M K) : Wp g d m pc ls (.int y :: .int x :: st) S B M K := by
  intro p e R s mi args below meth c H locs la Q C hR hH hl0 hret
  exact lv_icmp_eq C.1 C.2.1 hd ht (fun h => kt h p e R s mi args below meth c H locs la Q C hR hH hl0 hret) (fun h => kf h p e R s mi args below meth c H locs la Q C hR hH hl0 hret)
theorem x_icmp_ne {x y : Int32} {off : Int} {tgt : Nat} (hd : decode m.2.1 pc = .ok (.if_icmp .ne off, 3)) (ht : (pc : Int) + off = (tgt : Int)) (kt : ¬ x = y → Wp g d m tgt ls st S B M K) (kf : x = y → Wp g d m (pc + 3) ls st S B M K) : Wp g d m pc ls (.int y :: .int x :: st) S B M K := by
  intro p e R s mi args below meth c H locs la Q C hR hH hl0 hret
  exact lv_icmp_ne C.1 C.2.1 hd ht (fun h => kt h p e R s mi args below meth c H locs la Q C hR hH hl0 hret) (fun h => kf h p e R s mi args below meth c H locs la Q C hR hH hl0 hret)
theorem x_icmp_lt {x y : Int32} {off : Int} {tgt : Nat} (hd : decode m.2.1 pc = .ok (.if_icmp .lt off, 3)) (ht : (pc : Int) + off = (tgt : Int)) (kt : x < y → Wp g d m tgt ls st S B M K) (kf : ¬ x < y → Wp g d m (pc + 3) ls st S B M K) : Wp g d m pc ls (.int y :: .int x :: st) S B M K := by
  intro p e R s mi args below meth c H locs la Q C hR hH hl0 hret
  exact lv_icmp_lt C.1 C.2.1 hd ht (fun h => kt h p e R s mi args below meth c H locs la Q C hR hH hl0 hret) (fun h => kf h p e R s mi args below meth c H locs la Q C hR hH hl0 hret)
theorem x_icmp_ge {x y : Int32} {off : Int} {tgt : Nat} (hd : decode m.2.1 pc = .ok (.if_icmp .ge off, 3)) (ht : (pc : Int) + off = (tgt : Int)) (kt : y ≤ x → Wp g d m tgt ls st S B M K) (kf : ¬ y ≤ x → Wp g d m (pc + 3) ls st S B M K) : Wp g d m pc ls (.int y :: .int x :: st) S B M K := by
  intro p e R s mi args below meth c H locs la Q C hR hH hl0 hret
  exact lv_icmp_ge C.1 C.2.1 hd ht (fun h => kt h p e R s mi args below meth c H locs la Q C hR hH hl0 hret) (fun h => kf h p e R s mi args below meth c H locs la Q C hR hH hl0 hret)
theorem x_icmp_gt {x y : Int32} {off : Int} {tgt : Nat} (hd : decode m.2.1 pc = .ok (.if_icmp .gt off, 3)) (ht : (pc : Int) + off = (tgt : Int)) (kt : y < x → Wp g d m tgt ls st S B M K) (kf : ¬ y < x → Wp g d m (pc + 3) ls st S B M K) : Wp g d m pc ls (.int y :: .int x :: st) S B M K := by
  intro p e R s mi args below meth c H locs la Q C hR hH hl0 hret
  exact lv_icmp_gt C.1 C.2.1 hd ht (fun h => kt h p e R s mi args below meth c H locs la Q C hR hH hl0 hret) (fun h => kf h p e R s mi args below meth c H locs la Q C hR hH hl0 hret)
theorem x_icmp_le {x y : Int32} {off : Int} {tgt : Nat} (hd : decode m.2.1 pc = .ok (.if_icmp .le off, 3)) (ht : (pc : Int) + off = (tgt : Int)) (kt : x ≤ y → Wp g d m tgt ls st S B M K) (kf : ¬ x ≤ y → Wp g d m (pc + 3) ls st S B M K) : Wp g d m pc ls (.int y :: .int x :: st) S B M K := by
  intro p e R s mi args below meth c H locs la Q C hR hH hl0 hret
  exact lv_icmp_le C.1 C.2.1 hd ht (fun h => kt h p e R s mi args below meth c H locs la Q C hR hH hl0 hret) (fun h => kf h p e R s mi args below meth c H locs la Q C hR hH hl0 hret)
theorem x_lookup {dflt : Int} {ps : Array (Int × Int)} {len : Nat} {x : Int32} {off : Int} {tgt : Nat} (hd : decode m.2.1 pc = .ok (.lookupswitch dflt ps, len)) (hp : (ps.toList.zip (ps.toList.drop 1)).all (fun (a, next) => a.1 < next.1) = true) (ho : Op.lookupswitch.offset ps.toList dflt x.toInt = off) (ht : (pc : Int) + off = (tgt : Int))
    (k : Wp g d m tgt ls st S B M K) : Wp g d m pc ls (.int x :: st) S B M K := x_simple (fun p e R s mi args below meth c H locs la cells slots Q hx hb w => lv_lookup hx hb hd hp ho ht w) k
theorem x_tableOut {dflt lo hi : Int} {offs : Array Int} {len : Nat} {x : Int32} {tgt : Nat} (hd : decode m.2.1 pc = .ok (.tableswitch dflt lo hi offs, len)) (h : x.toInt < lo ∨ hi < x.toInt) (ht : (pc : Int) + dflt = (tgt : Int))
    (k : Wp g d m tgt ls st S B M K) : Wp g d m pc ls (.int x :: st) S B M K := x_simple (fun p e R s mi args below meth c H locs la cells slots Q hx hb w => lv_tableOut hx hb hd h ht w) k
theorem x_tableIn {dflt lo hi : Int} {offs : Array Int} {len : Nat} {x : Int32} {off : Int} {tgt : Nat} (hd : decode m.2.1 pc = .ok (.tableswitch dflt lo hi offs, len)) (h1 : ¬ x.toInt < lo) (h2 : ¬ hi < x.toInt) (ho : offs[(x.toInt - lo).toNat]? = some off) (ht : (pc : Int) + off = (tgt : Int))
    (k : Wp g d m tgt ls st S B M K) : Wp g d m pc ls (.int x :: st) S B M K := x_simple (fun p e R s mi args below meth c H locs la cells slots Q hx hb w => lv_tableIn hx hb hd h1 h2 ho ht w) k
/-- pool constants -/
theorem x_ldc {v : Int32} {idx : Nat} (hd : decode m.2.1 pc = .ok (.ldc idx, 2)) (hw : .constant m.1 idx v ∈ xG) (k : Wp g d m (pc + 2) ls (.int v :: st) S B M K) : Wp g d m pc ls st S B M K := by
  intro p e R s mi args below meth c H locs la Q C hR hH hl0 hret
  exact lv_ldc C.1 C.2.1 C.2.2.2.1 (C.2.2.2.2.1 _ hw) hd (k p e R s mi args below meth c H locs la Q C hR hH hl0 hret)
theorem x_ldcw {v : Int32} {idx : Nat} (hd : decode m.2.1 pc = .ok (.ldc_w idx, 3)) (hw : .constant m.1 idx v ∈ xG) (k : Wp g d m (pc + 3) ls (.int v :: st) S B M K) : Wp g d m pc ls st S B M K := by
  intro p e R s mi args below meth c H locs la Q C hR hH hl0 hret
  exact lv_ldcw C.1 C.2.1 C.2.2.2.1 (C.2.2.2.2.1 _ hw) hd (k p e R s mi args below meth c H locs la Q C hR hH hl0 hret)
theorem x_ldc2 {v : Int64} {idx : Nat} (hd : decode m.2.1 pc = .ok (.ldc2_w idx, 3)) (hw : .constantLong m.1 idx v ∈ xG) (k : Wp g d m (pc + 3) ls (.long v :: st) S B M K) : Wp g d m pc ls st S B M K := by
  intro p e R s mi args below meth c H locs la Q C hR hH hl0 hret
  exact lv_ldc2 C.1 C.2.1 C.2.2.2.1 (C.2.2.2.2.1 _ hw) hd (k p e R s mi args below meth c H locs la Q C hR hH hl0 hret)
theorem x_ldcT (i : Nat) (hi : i < 5) {idx : Nat} (hix : xsidx i = idx) (hd : decode m.2.1 pc = .ok (.ldc idx, 2)) (hm : m.1 = RX6) (k : Wp g d m (pc + 2) ls (.ref (2000 + i) :: st) S B M K) : Wp g d m pc ls st S B M K := by
  subst hix
  intro p e R s mi args below meth c H locs la Q C hR hH hl0 hret
  have kk := k p e R s mi args below meth c H locs la Q C hR hH hl0 hret
  obtain ⟨hx, hb, -, hown, -, -, hO, -⟩ := C
  obtain ⟨-, -, -, -, -, -, -, -, -, -, ⟨aK, aV, hE, hq⟩, -⟩ := hO
  obtain ⟨q1, q2, q3⟩ := hq i hi
  have hea : xtr g (.ref (2000 + i)) = .ref (aK i) := xtr_sp (by omega) q1
  rw [List.map_cons, hea] at kk
  exact va_ldcS hx hb (by rw [hm] at hown; exact hown) q3 hd kk
/-- locals -/
theorem x_iload_n {k : Fin 4} {x : Int32} (hd : decode m.2.1 pc = .ok (.iload_n k, 1)) (hi : ls[(k : Nat)]? = some (some (.int x))) (kk : Wp g d m (pc + 1) ls (.int x :: st) S B M K) : Wp g d m pc ls st S B M K := by
  intro p e R s mi args below meth c H locs la Q C hR hH hl0 hret
  exact lv_iload_n C.1 C.2.1 hd rfl (xlv_at hl0 hi) (kk p e R s mi args below meth c H locs la Q C hR hH hl0 hret)
theorem x_iload {i : Nat} {x : Int32} (hd : decode m.2.1 pc = .ok (.iload i, 2)) (hi : ls[i]? = some (some (.int x))) (kk : Wp g d m (pc + 2) ls (.int x :: st) S B M K) : Wp g d m pc ls st S B M K := by
  intro p e R s mi args below meth c H locs la Q C hR hH hl0 hret
  exact lv_iload C.1 C.2.1 hd (xlv_at hl0 hi) (kk p e R s mi args below meth c H locs la Q C hR hH hl0 hret)
theorem x_lload_n {k : Fin 4} {x : Int64} (hd : decode m.2.1 pc = .ok (.lload_n k, 1)) (hi : ls[(k : Nat)]? = some (some (.long x))) (kk : Wp g d m (pc + 1) ls (.long x :: st) S B M K) : Wp g d m pc ls st S B M K := by
  intro p e R s mi args below meth c H locs la Q C hR hH hl0 hret
  exact lv_lload_n C.1 C.2.1 hd rfl (xlv_at hl0 hi) (kk p e R s mi args below meth c H locs la Q C hR hH hl0 hret)
theorem x_lload {i : Nat} {x : Int64} (hd : decode m.2.1 pc = .ok (.lload i, 2)) (hi : ls[i]? = some (some (.long x))) (kk : Wp g d m (pc + 2) ls (.long x :: st) S B M K) : Wp g d m pc ls st S B M K := by
  intro p e R s mi args below meth c H locs la Q C hR hH hl0 hret
  exact lv_lload C.1 C.2.1 hd (xlv_at hl0 hi) (kk p e R s mi args below meth c H locs la Q C hR hH hl0 hret)
/-- a reference that is a slot: null or not -/
theorem x_aloadG {i : Nat} {v : Nat} (hi : ls[i]? = some (some (.ref v))) {la : Array Slot} {nL : Nat} (hl0 : lv_has la nL (xlv g ls)) : ∃ r : Option Nat, la[i]? = some (.val (va_rf r)) ∧ xtr g (.ref v) = va_rf r := by
  have h := xlv_at hl0 hi
  by_cases hv : v < 1000
  · exact ⟨some (xb g + v), by rw [h, xtr_ref hv]; rfl, xtr_ref hv⟩
  · have e : xtr g (.ref v) = va_rf (xsp g v) := if_neg hv
    exact ⟨xsp g v, by rw [h, e], e⟩
theorem x_aload_n {k : Fin 4} {v : Nat} (hd : decode m.2.1 pc = .ok (.aload_n k, 1)) (hi : ls[(k : Nat)]? = some (some (.ref v))) (kk : Wp g d m (pc + 1) ls (.ref v :: st) S B M K) : Wp g d m pc ls st S B M K := by
  intro p e R s mi args below meth c H locs la Q C hR hH hl0 hret
  obtain ⟨r, h1, h2⟩ := x_aloadG hi hl0
  have k2 := kk p e R s mi args below meth c H locs la Q C hR hH hl0 hret
  rw [List.map_cons, h2] at k2
  cases r with
  | none => exact lv_aload_nN C.1 C.2.1 hd rfl h1 k2
  | some a => exact lv_aload_n C.1 C.2.1 hd rfl h1 k2
theorem x_aload {i : Nat} {v : Nat} (hd : decode m.2.1 pc = .ok (.aload i, 2)) (hi : ls[i]? = some (some (.ref v))) (kk : Wp g d m (pc + 2) ls (.ref v :: st) S B M K) : Wp g d m pc ls st S B M K := by
  intro p e R s mi args below meth c H locs la Q C hR hH hl0 hret
  obtain ⟨r, h1, h2⟩ := x_aloadG hi hl0
  have k2 := kk p e R s mi args below meth c H locs la Q C hR hH hl0 hret
  rw [List.map_cons, h2] at k2
  cases r with
  | none => exact lv_aloadN C.1 C.2.1 hd h1 k2
  | some a => exact lv_aload C.1 C.2.1 hd h1 k2
/-- a store: what comes behind; the slot ahead may not hold a long -/
theorem xlv_store {la : Array Slot} {nL i : Nat} {v : Value} {ls' : XL} (hlt : i < nL) (hls : ls' = ls.set i (some v)) (hp : ∀ j w, j + 1 = i → ls[j]? = some (some w) → w.category ≠ 2)
    (h : lv_has la nL ((i, xtr g v) :: (xlv g ls).filter (fun q => !(q.1 == i) && !(q.1 + 1 == i && q.2.category == 2)))) : lv_has la nL (xlv g ls') := by
  subst hls
  refine xlv_weaken h (fun j w hj => ?_)
  by_cases hji : j = i
  · subst hji
    have hl : j < ls.length := by
      have := (List.getElem?_eq_some_iff.mp hj).1
      simpa using this
    rw [List.getElem?_set_self hl] at hj
    cases hj
    exact List.mem_cons_self
  · rw [List.getElem?_set_ne (Ne.symm hji)] at hj
    refine List.mem_cons_of_mem _ (List.mem_filter.mpr ⟨xlv_mem.mpr ⟨w, hj, rfl⟩, ?_⟩)
    simp only [Bool.and_eq_true, Bool.not_eq_true', beq_eq_false_iff_ne, ne_eq, hji, not_false_eq_true, true_and]
    rw [Bool.and_eq_false_iff]
    by_cases hj1 : j + 1 = i
    · right
      have := hp j w hj1 hj
      rw [xtr_cat]
      simpa using this
    · left
      simpa using hj1
theorem x_istore_n {k : Fin 4} {x : Int32} {ls' : XL} (hd : decode m.2.1 pc = .ok (.istore_n k, 1)) (hlt : (k : Nat) < m.2.2.1) (hls : ls' = ls.set k (some (.int x))) (hp : ∀ j w, j + 1 = (k : Nat) → ls[j]? = some (some w) → w.category ≠ 2)
    (kk : Wp g d m (pc + 1) ls' st S B M K) : Wp g d m pc ls (.int x :: st) S B M K := by
  intro p e R s mi args below meth c H locs la Q C hR hH hl0 hret
  exact lv_istore_n C.1 C.2.1 hd rfl hl0 hlt rfl (fun la' h => kk p e R s mi args below meth c H locs la' Q C hR hH (xlv_store (v := .int x) hlt hls hp h) hret)
theorem x_istore {i : Nat} {x : Int32} {ls' : XL} (hd : decode m.2.1 pc = .ok (.istore i, 2)) (hlt : i < m.2.2.1) (hls : ls' = ls.set i (some (.int x))) (hp : ∀ j w, j + 1 = i → ls[j]? = some (some w) → w.category ≠ 2)
    (kk : Wp g d m (pc + 2) ls' st S B M K) : Wp g d m pc ls (.int x :: st) S B M K := by
  intro p e R s mi args below meth c H locs la Q C hR hH hl0 hret
  exact lv_istore C.1 C.2.1 hd hl0 hlt rfl (fun la' h => kk p e R s mi args below meth c H locs la' Q C hR hH (xlv_store (v := .int x) hlt hls hp h) hret)
theorem x_astore_n {k : Fin 4} {x : Nat} {ls' : XL} (hx1 : x < 1000) (hd : decode m.2.1 pc = .ok (.astore_n k, 1)) (hlt : (k : Nat) < m.2.2.1) (hls : ls' = ls.set k (some (.ref x))) (hp : ∀ j w, j + 1 = (k : Nat) → ls[j]? = some (some w) → w.category ≠ 2)
    (kk : Wp g d m (pc + 1) ls' st S B M K) : Wp g d m pc ls (.ref x :: st) S B M K := by
  intro p e R s mi args below meth c H locs la Q C hR hH hl0 hret
  have he : xtr g (.ref x) = .ref (xb g + x) := xtr_ref hx1
  rw [List.map_cons, he]
  refine lv_astore_n C.1 C.2.1 hd rfl hl0 hlt rfl (fun la' h => kk p e R s mi args below meth c H locs la' Q C hR hH (xlv_store (v := .ref x) hlt hls hp ?_) hret)
  rw [he]; exact h
theorem x_astore {i : Nat} {x : Nat} {ls' : XL} (hx1 : x < 1000) (hd : decode m.2.1 pc = .ok (.astore i, 2)) (hlt : i < m.2.2.1) (hls : ls' = ls.set i (some (.ref x))) (hp : ∀ j w, j + 1 = i → ls[j]? = some (some w) → w.category ≠ 2)
    (kk : Wp g d m (pc + 2) ls' st S B M K) : Wp g d m pc ls (.ref x :: st) S B M K := by
  intro p e R s mi args below meth c H locs la Q C hR hH hl0 hret
  have he : xtr g (.ref x) = .ref (xb g + x) := xtr_ref hx1
  rw [List.map_cons, he]
  refine lv_astore C.1 C.2.1 hd hl0 hlt rfl (fun la' h => kk p e R s mi args below meth c H locs la' Q C hR hH (xlv_store (v := .ref x) hlt hls hp ?_) hret)
  rw [he]; exact h
theorem x_iinc {i : Nat} {n : Int} {x : Int32} {ls' : XL} (hd : decode m.2.1 pc = .ok (.iinc i n, 3)) (hlt : i < m.2.2.1) (hi : ls[i]? = some (some (.int x))) (hls : ls' = ls.set i (some (.int (x + Int32.ofInt n)))) (hp : ∀ j w, j + 1 = i → ls[j]? = some (some w) → w.category ≠ 2)
    (kk : Wp g d m (pc + 3) ls' st S B M K) : Wp g d m pc ls st S B M K := by
  intro p e R s mi args below meth c H locs la Q C hR hH hl0 hret
  have hm : (i, Value.int x) ∈ xlv g ls := xlv_mem.mpr ⟨.int x, hi, rfl⟩
  obtain ⟨k, hk⟩ := List.getElem?_of_mem hm
  exact lv_iinc C.1 C.2.1 hd hl0 hk rfl hlt rfl (fun la' h => kk p e R s mi args below meth c H locs la' Q C hR hH (xlv_store (v := .int (x + Int32.ofInt n)) hlt hls hp h) hret)
/-- the end of a method -/
theorem x_ret {v : Option Value} (hst : v.toList = st) (hrt : xrt m.2.2.2.1 v) (hd : decode m.2.1 pc = .ok (xri m.2.2.2.1, 1)) (hB : B.1 ≤ m.2.2.2.2.1 ∧ B.2 ≤ m.2.2.2.2.2) (k : K v S M) : Wp g d m pc ls st S B M K := by
  subst hst
  intro p e R s mi args below meth c H locs la Q C hR hH hl0 hret
  exact W.widen hB.1 hB.2 (hret v pc la H locs S M hrt hd k hH)
end XR1
