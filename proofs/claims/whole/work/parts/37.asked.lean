/-! ASKED of the program: days to come, prints -/
/-- the carpet as calls leave it -/
def Std (A : XA) : Prop := (∀ j, j < 16 → A 0 j < 10000) ∧ A 11 0 < 10000
def itS (A : XA) (w : Int32) : Nat → XA
  | 0 => A
  | n + 1 => spA (itS A w n) w 1
/-- a plan's steps -/
def plS (B : XA × Int32) (what n : Nat) : XA × Int32 := match what with
  | 0 => (spA B.1 B.2 1, B.2)
  | 1 => (B.1, setB B.2 n true)
  | 2 => (updA B.1 0 n 0, B.2)
  | _ => (furA B.1 (B.1 10 0 ^^^ 2 ^ n), B.2)
def plF (N : XA) (B : XA × Int32) : Nat → XA × Int32
  | 0 => B
  | k + 1 => plS (plF N B k) (N 3 k) (N 4 k)
def dubF (A : XA) (w : Int32) (c : Nat) : Nat → Nat → Option Nat
  | 0, _ => none
  | n + 1, k => if A 13 0 ≤ A 0 c + gainA A w c k then some k else dubF A w c n (k + 1)
def frsA (A : XA) (w : Int32) (k : Nat) : Nat := xset (fun c => (baldA (itS A w k)).testBit c && !(baldA A).testBit c) 16
def fwnF (A : XA) (w : Int32) : Nat → Nat → Int32
  | 0, _ => -5
  | n + 1, k => if frsA A w k = 0 then fwnF A w n (k + 1) else xfst (frsA A w k)
theorem xset_sub {a b : Nat} (ha : a < 65536) : nI a &&& (nI b ^^^ (-1)) = nI (xset (fun c => a.testBit c && !b.testBit c) 16) := by
  apply Int32.toBitVec_inj.mp
  apply BitVec.eq_of_getLsbD_eq
  intro i hi
  show (BitVec.ofNat 32 a &&& (BitVec.ofNat 32 b ^^^ (-1 : Int32).toBitVec)).getLsbD i = (BitVec.ofNat 32 _).getLsbD i
  rw [BitVec.getLsbD_and, BitVec.getLsbD_xor, BitVec.getLsbD_ofNat, BitVec.getLsbD_ofNat, BitVec.getLsbD_ofNat, xset_tb]
  have e1 : ((-1 : Int32).toBitVec).getLsbD i = true := by
    have : ∀ i, i < 32 → ((-1 : Int32).toBitVec).getLsbD i = true := by decide
    exact this i hi
  rw [e1]
  simp only [hi, decide_true, Bool.true_and]
  by_cases h16 : i < 16
  · simp [h16]
  · have : a.testBit i = false := Nat.testBit_lt_two_pow (Nat.lt_of_lt_of_le ha (Nat.pow_le_pow_right (by decide) (by omega) : 2 ^ 16 ≤ 2 ^ i))
    simp [h16, this]
section P37
variable {g : XG} {d : Nat} {M : XM} {K : Option Value → XS → XM → Prop} {A N : XA} {w r : Int32}
theorem spA_bd {a : Nat} {M : XM} {A : XA} {b : Nat} (hR : CR a M A w r) (h : ∀ j, j < 16 → A 0 j ≤ b) {n : Nat} : ∀ j, j < 16 → spA A w n 0 j ≤ b + 65934 * n := by
  intro j hj
  have h1 := h j hj
  have h2 := gainA_le (days := n) (w := w) hR hj
  show A 0 j + gainA A w j n ≤ _
  omega
theorem sp_X1_behind {n : Nat} (hn : n ≤ 60) (hs : Std A) (hR : CR 1 M A w r) (h : ∀ M', xsame 46 58 M M' → CR 46 M' (spA A w n) w r → K (some (.ref 46)) xSF M') : Ex g (d + 4) yX1_behind mX1_behind [.ref 45, .int (nI n)] xSF M K := by
  refine x_entry kX1_behind (Nat.le_of_ble_eq_true rfl) ?_
  show Wp g _ mX1_behind 0 [some (.ref 45), some (.int (nI n))] [] _ _ _ _
  refine x_aload_n (pc := 0) dX1_behind_0 rfl ?_
  refine x_getR (pc := 1) dX1_behind_1 flX1_12 (by first | assumption | rfl) rfl ?_
  refine x_aload_n (pc := 4) dX1_behind_4 rfl ?_
  refine x_getR (pc := 5) dX1_behind_5 flX1_22 (by first | assumption | rfl) rfl ?_
  refine x_invV1 (pc := 8) dX1_behind_8 mlX1_33 imX2_become seX2_become kX2_become (by first | assumption | rfl) rfl (Nat.le_of_ble_eq_true rfl) (by decide) ?_
  refine sp_X2_become (by decide) car46 car1 hR (fun M1 hs1 hR1 => ?_)
  refine x_cn rfl rfl ?_
  refine x_aload_n (pc := 11) dX1_behind_11 rfl ?_
  refine x_getR (pc := 12) dX1_behind_12 flX1_12 (by first | assumption | rfl) rfl ?_
  refine x_iload_n (pc := 15) dX1_behind_15 rfl ?_
  refine x_invV1 (pc := 16) dX1_behind_16 mlX1_37 imX2_spend seX2_spend kX2_spend (by first | assumption | rfl) rfl (Nat.le_of_ble_eq_true rfl) (by decide) ?_
  refine sp_X2_spend (by omega) car46 hR1 (fun j hj => by have := hs.1 j hj; omega) (by have := hs.2; omega) (fun M2 hs2 hR2 => ?_)
  refine x_cn rfl rfl ?_
  refine x_aload_n (pc := 19) dX1_behind_19 rfl ?_
  refine x_getR (pc := 20) dX1_behind_20 flX1_12 (by first | assumption | rfl) rfl ?_
  refine x_ret (pc := 23) (v := some _) rfl (by show 46 < 1000; decide) dX1_behind_23 (by decide) ?_
  exact h M2 (hs1.tr hs2) hR2
theorem sp_X1_behindPlan (hs : Std A) (hR : CR 1 M A w r) (hN : NR 25 M N) (h : ∀ M', xsame 46 58 M M' → CR 46 M' (plF N (A, w) (N 8 0)).1 (plF N (A, w) (N 8 0)).2 r → K (some (.ref 46)) xSF M') : Ex g (d + 5) yX1_behindPlan mX1_behindPlan [.ref 45] xSF M K := by
  have hn10 := hN.2.2.2.2.1.2
  have loop : ∀ m k M1 o2, k + m = N 8 0 → xsame 46 58 M M1 → CR 46 M1 (plF N (A, w) k).1 (plF N (A, w) k).2 r → (∀ j, j < 16 → (plF N (A, w) k).1 0 j ≤ 10000 + 65934 * k) → (plF N (A, w) k).1 11 0 ≤ 10000 + k → Wp g (d + 5) mX1_behindPlan 13 [some (.ref 45), some (.int (nI k)), o2] [] xSF (0, 0) M1 K := by
    intro m
    induction m with
    | zero =>
      intro k M1 o2 hk hs1 hR1 hb hd
      have hN1 := hN.out hs1 (by decide)
      refine x_iload_n (pc := 13) dX1_behindPlan_13 rfl ?_
      refine x_aload_n (pc := 14) dX1_behindPlan_14 rfl ?_
      refine x_getR (pc := 15) dX1_behindPlan_15 flX1_25 (by first | assumption | rfl) rfl ?_
      refine x_getI (pc := 18) dX1_behindPlan_18 flX1_41 (by first | assumption | rfl) rfl ?_
      rw [hN1.2.2.2.2.1.1]
      first | (guard_target =~ Wp _ _ _ _ _ (Value.int (nI _) :: Value.int (nI _) :: _) _ _ _ _; with_reducible refine x_icmp_geN (pc := 21) (tgt := 136) ?_ ?_ dX1_behindPlan_21 ?_ (fun h21 => ?_) (fun h21 => ?_); (first | omega | exact b2n_31 _); (first | omega | exact b2n_31 _); decide) | refine x_icmp_ge (pc := 21) (tgt := 136) dX1_behindPlan_21 (by decide) (fun h21 => ?_) (fun h21 => ?_)
      · skip
        refine x_aload_n (pc := 136) dX1_behindPlan_136 rfl ?_
        refine x_getR (pc := 137) dX1_behindPlan_137 flX1_12 (by first | assumption | rfl) rfl ?_
        refine x_ret (pc := 140) (v := some _) rfl (by show 46 < 1000; decide) dX1_behindPlan_140 (by decide) ?_
        rw [show k = N 8 0 by omega] at hR1; exact h M1 hs1 hR1
      · skip
        omega
    | succ m ih =>
      intro k M1 o2 hk hs1 hR1 hb hd
      have hN1 := hN.out hs1 (by decide)
      obtain ⟨q1, q2, q3⟩ := hN1.2.1 k (by omega)
      have nx : ∀ M2 o2, xsame 46 58 M1 M2 → CR 46 M2 (plF N (A, w) (k + 1)).1 (plF N (A, w) (k + 1)).2 r → (∀ j, j < 16 → (plF N (A, w) (k + 1)).1 0 j ≤ 10000 + 65934 * (k + 1)) → (plF N (A, w) (k + 1)).1 11 0 ≤ 10000 + (k + 1) → Wp g (d + 5) mX1_behindPlan 130 [some (.ref 45), some (.int (nI k)), o2] [] xSF (0, 0) M2 K := by
        intro M2 o2 a1 a2 a3 a4
        first | (guard_target =~ Wp _ _ _ _ (_ :: some (Value.int (nI _)) :: _) _ _ _ _ _; with_reducible refine x_iincN (pc := 130) 1 ic_1 dX1_behindPlan_130 ?_ xg_1 xs_1 ?_ ?_; decide; exact (x_hp rfl)) | refine x_iincC (pc := 130) ic_1 dX1_behindPlan_130 (by decide) rfl xs_1 (x_hp rfl) ?_
        refine x_goto (pc := 133) (tgt := 13) dX1_behindPlan_133 (by decide) ?_
        exact ih (k + 1) M2 o2 (by omega) (hs1.tr a1) a2 a3 a4
      have hwh : N 3 k = 0 ∨ N 3 k = 1 ∨ N 3 k = 2 ∨ N 3 k = 3 := by omega
      have hpl : plF N (A, w) (k + 1) = plS (plF N (A, w) k) (N 3 k) (N 4 k) := rfl
      rw [hpl] at nx
      rcases hwh with e | e | e | e
      · rw [e] at nx q1
        refine x_iload_n (pc := 13) dX1_behindPlan_13 rfl ?_
        refine x_aload_n (pc := 14) dX1_behindPlan_14 rfl ?_
        refine x_getR (pc := 15) dX1_behindPlan_15 flX1_25 (by first | assumption | rfl) rfl ?_
        refine x_getI (pc := 18) dX1_behindPlan_18 flX1_41 (by first | assumption | rfl) rfl ?_
        rw [hN1.2.2.2.2.1.1]
        first | (guard_target =~ Wp _ _ _ _ _ (Value.int (nI _) :: Value.int (nI _) :: _) _ _ _ _; with_reducible refine x_icmp_geN (pc := 21) (tgt := 136) ?_ ?_ dX1_behindPlan_21 ?_ (fun h21 => ?_) (fun h21 => ?_); (first | omega | exact b2n_31 _); (first | omega | exact b2n_31 _); decide) | refine x_icmp_ge (pc := 21) (tgt := 136) dX1_behindPlan_21 (by decide) (fun h21 => ?_) (fun h21 => ?_)
        · skip
          omega
        · skip
          refine x_iload_n (pc := 24) dX1_behindPlan_24 rfl ?_
          refine x_bipushN (pc := 25) 10 dX1_behindPlan_25 bp_10 ?_
          first | (guard_target =~ Wp _ _ _ _ _ (Value.int (nI _) :: Value.int (nI _) :: _) _ _ _ _; with_reducible refine x_icmp_geN (pc := 27) (tgt := 136) ?_ ?_ dX1_behindPlan_27 ?_ (fun h27 => ?_) (fun h27 => ?_); (first | omega | exact b2n_31 _); (first | omega | exact b2n_31 _); decide) | refine x_icmp_ge (pc := 27) (tgt := 136) dX1_behindPlan_27 (by decide) (fun h27 => ?_) (fun h27 => ?_)
          · skip
            omega
          · skip
            refine x_aload_n (pc := 30) dX1_behindPlan_30 rfl ?_
            refine x_getR (pc := 31) dX1_behindPlan_31 flX1_25 (by first | assumption | rfl) rfl ?_
            refine x_getR (pc := 34) dX1_behindPlan_34 flX1_47 (by first | assumption | rfl) rfl ?_
            refine x_iload_n (pc := 37) dX1_behindPlan_37 rfl ?_
            refine x_ialdN (pc := 38) dX1_behindPlan_38 (by first | assumption | rfl) (by first | with_reducible rfl | (simp only [xlit, nI_add, pk_mul]; with_reducible rfl)) (by omega) (by decide) ?_
            refine x_istore_n (pc := 39) dX1_behindPlan_39 (by decide) xs_2 (x_hp rfl) ?_
            refine x_aload_n (pc := 40) dX1_behindPlan_40 rfl ?_
            refine x_getR (pc := 41) dX1_behindPlan_41 flX1_25 (by first | assumption | rfl) rfl ?_
            refine x_getR (pc := 44) dX1_behindPlan_44 flX1_50 (by first | assumption | rfl) rfl ?_
            refine x_iload_n (pc := 47) dX1_behindPlan_47 rfl ?_
            refine x_ialdN (pc := 48) dX1_behindPlan_48 (by first | assumption | rfl) (by first | with_reducible rfl | (simp only [xlit, nI_add, pk_mul]; with_reducible rfl)) (by omega) (by decide) ?_
            rw [q1]
            refine x_tableIn (pc := 49) (off := 27) (tgt := 76) dX1_behindPlan_49 (by decide) (by decide) (by decide) (by decide) ?_
            refine x_aload_n (pc := 76) dX1_behindPlan_76 rfl ?_
            refine x_getR (pc := 77) dX1_behindPlan_77 flX1_12 (by first | assumption | rfl) rfl ?_
            refine x_iconstN (pc := 80) 1 dX1_behindPlan_80 ic_1 ?_
            refine x_invV1 (pc := 81) dX1_behindPlan_81 mlX1_37 imX2_spend seX2_spend kX2_spend (by first | assumption | rfl) rfl (Nat.le_of_ble_eq_true rfl) (by decide) ?_
            refine sp_X2_spend (by decide) car46 hR1 (fun j hj => by have := hb j hj; omega) (by omega) (fun M2 hs2 hR2 => ?_)
            refine x_cn rfl rfl ?_
            refine x_goto (pc := 84) (tgt := 130) dX1_behindPlan_84 (by decide) ?_
            refine nx M2 _ hs2 hR2 (fun j hj => Nat.le_trans (spA_bd (n := 1) hR1 hb j hj) (by omega)) ?_
            show (plF N (A, w) k).1 11 0 + 1 ≤ _
            omega
      · rw [e] at nx q1
        obtain ⟨q4, q5⟩ := q3 (by omega)
        refine x_iload_n (pc := 13) dX1_behindPlan_13 rfl ?_
        refine x_aload_n (pc := 14) dX1_behindPlan_14 rfl ?_
        refine x_getR (pc := 15) dX1_behindPlan_15 flX1_25 (by first | assumption | rfl) rfl ?_
        refine x_getI (pc := 18) dX1_behindPlan_18 flX1_41 (by first | assumption | rfl) rfl ?_
        rw [hN1.2.2.2.2.1.1]
        first | (guard_target =~ Wp _ _ _ _ _ (Value.int (nI _) :: Value.int (nI _) :: _) _ _ _ _; with_reducible refine x_icmp_geN (pc := 21) (tgt := 136) ?_ ?_ dX1_behindPlan_21 ?_ (fun h21 => ?_) (fun h21 => ?_); (first | omega | exact b2n_31 _); (first | omega | exact b2n_31 _); decide) | refine x_icmp_ge (pc := 21) (tgt := 136) dX1_behindPlan_21 (by decide) (fun h21 => ?_) (fun h21 => ?_)
        · skip
          omega
        · skip
          refine x_iload_n (pc := 24) dX1_behindPlan_24 rfl ?_
          refine x_bipushN (pc := 25) 10 dX1_behindPlan_25 bp_10 ?_
          first | (guard_target =~ Wp _ _ _ _ _ (Value.int (nI _) :: Value.int (nI _) :: _) _ _ _ _; with_reducible refine x_icmp_geN (pc := 27) (tgt := 136) ?_ ?_ dX1_behindPlan_27 ?_ (fun h27 => ?_) (fun h27 => ?_); (first | omega | exact b2n_31 _); (first | omega | exact b2n_31 _); decide) | refine x_icmp_ge (pc := 27) (tgt := 136) dX1_behindPlan_27 (by decide) (fun h27 => ?_) (fun h27 => ?_)
          · skip
            omega
          · skip
            refine x_aload_n (pc := 30) dX1_behindPlan_30 rfl ?_
            refine x_getR (pc := 31) dX1_behindPlan_31 flX1_25 (by first | assumption | rfl) rfl ?_
            refine x_getR (pc := 34) dX1_behindPlan_34 flX1_47 (by first | assumption | rfl) rfl ?_
            refine x_iload_n (pc := 37) dX1_behindPlan_37 rfl ?_
            refine x_ialdN (pc := 38) dX1_behindPlan_38 (by first | assumption | rfl) (by first | with_reducible rfl | (simp only [xlit, nI_add, pk_mul]; with_reducible rfl)) (by omega) (by decide) ?_
            rw [q4]
            refine x_istore_n (pc := 39) dX1_behindPlan_39 (by decide) xs_2 (x_hp rfl) ?_
            refine x_aload_n (pc := 40) dX1_behindPlan_40 rfl ?_
            refine x_getR (pc := 41) dX1_behindPlan_41 flX1_25 (by first | assumption | rfl) rfl ?_
            refine x_getR (pc := 44) dX1_behindPlan_44 flX1_50 (by first | assumption | rfl) rfl ?_
            refine x_iload_n (pc := 47) dX1_behindPlan_47 rfl ?_
            refine x_ialdN (pc := 48) dX1_behindPlan_48 (by first | assumption | rfl) (by first | with_reducible rfl | (simp only [xlit, nI_add, pk_mul]; with_reducible rfl)) (by omega) (by decide) ?_
            rw [q1]
            refine x_tableIn (pc := 49) (off := 38) (tgt := 87) dX1_behindPlan_49 (by decide) (by decide) (by decide) (by decide) ?_
            refine x_aload_n (pc := 87) dX1_behindPlan_87 rfl ?_
            refine x_getR (pc := 88) dX1_behindPlan_88 flX1_12 (by first | assumption | rfl) rfl ?_
            refine x_iload_n (pc := 91) dX1_behindPlan_91 rfl ?_
            refine x_iconstN (pc := 92) 1 dX1_behindPlan_92 ic_1 ?_
            refine x_invV2 (pc := 93) dX1_behindPlan_93 mlX1_53 imX2_putAway seX2_putAway kX2_putAway (by first | assumption | rfl) rfl (Nat.le_of_ble_eq_true rfl) (by decide) ?_
            refine sp_X2_putAway (b := true) (by omega) car46 hR1 ?_
            refine x_cn rfl rfl ?_
            refine x_goto (pc := 96) (tgt := 130) dX1_behindPlan_96 (by decide) ?_
            exact nx _ _ (xsame.put (by decide) (by decide)) (hR1.putW _) (fun j hj => by have := hb j hj; show (plF N (A, w) k).1 0 j ≤ _; omega) (by show (plF N (A, w) k).1 11 0 ≤ _; omega)
      · rw [e] at nx q1
        obtain ⟨q4, q5⟩ := q3 (by omega)
        refine x_iload_n (pc := 13) dX1_behindPlan_13 rfl ?_
        refine x_aload_n (pc := 14) dX1_behindPlan_14 rfl ?_
        refine x_getR (pc := 15) dX1_behindPlan_15 flX1_25 (by first | assumption | rfl) rfl ?_
        refine x_getI (pc := 18) dX1_behindPlan_18 flX1_41 (by first | assumption | rfl) rfl ?_
        rw [hN1.2.2.2.2.1.1]
        first | (guard_target =~ Wp _ _ _ _ _ (Value.int (nI _) :: Value.int (nI _) :: _) _ _ _ _; with_reducible refine x_icmp_geN (pc := 21) (tgt := 136) ?_ ?_ dX1_behindPlan_21 ?_ (fun h21 => ?_) (fun h21 => ?_); (first | omega | exact b2n_31 _); (first | omega | exact b2n_31 _); decide) | refine x_icmp_ge (pc := 21) (tgt := 136) dX1_behindPlan_21 (by decide) (fun h21 => ?_) (fun h21 => ?_)
        · skip
          omega
        · skip
          refine x_iload_n (pc := 24) dX1_behindPlan_24 rfl ?_
          refine x_bipushN (pc := 25) 10 dX1_behindPlan_25 bp_10 ?_
          first | (guard_target =~ Wp _ _ _ _ _ (Value.int (nI _) :: Value.int (nI _) :: _) _ _ _ _; with_reducible refine x_icmp_geN (pc := 27) (tgt := 136) ?_ ?_ dX1_behindPlan_27 ?_ (fun h27 => ?_) (fun h27 => ?_); (first | omega | exact b2n_31 _); (first | omega | exact b2n_31 _); decide) | refine x_icmp_ge (pc := 27) (tgt := 136) dX1_behindPlan_27 (by decide) (fun h27 => ?_) (fun h27 => ?_)
          · skip
            omega
          · skip
            refine x_aload_n (pc := 30) dX1_behindPlan_30 rfl ?_
            refine x_getR (pc := 31) dX1_behindPlan_31 flX1_25 (by first | assumption | rfl) rfl ?_
            refine x_getR (pc := 34) dX1_behindPlan_34 flX1_47 (by first | assumption | rfl) rfl ?_
            refine x_iload_n (pc := 37) dX1_behindPlan_37 rfl ?_
            refine x_ialdN (pc := 38) dX1_behindPlan_38 (by first | assumption | rfl) (by first | with_reducible rfl | (simp only [xlit, nI_add, pk_mul]; with_reducible rfl)) (by omega) (by decide) ?_
            rw [q4]
            refine x_istore_n (pc := 39) dX1_behindPlan_39 (by decide) xs_2 (x_hp rfl) ?_
            refine x_aload_n (pc := 40) dX1_behindPlan_40 rfl ?_
            refine x_getR (pc := 41) dX1_behindPlan_41 flX1_25 (by first | assumption | rfl) rfl ?_
            refine x_getR (pc := 44) dX1_behindPlan_44 flX1_50 (by first | assumption | rfl) rfl ?_
            refine x_iload_n (pc := 47) dX1_behindPlan_47 rfl ?_
            refine x_ialdN (pc := 48) dX1_behindPlan_48 (by first | assumption | rfl) (by first | with_reducible rfl | (simp only [xlit, nI_add, pk_mul]; with_reducible rfl)) (by omega) (by decide) ?_
            rw [q1]
            refine x_tableIn (pc := 49) (off := 50) (tgt := 99) dX1_behindPlan_49 (by decide) (by decide) (by decide) (by decide) ?_
            refine x_aload_n (pc := 99) dX1_behindPlan_99 rfl ?_
            refine x_getR (pc := 100) dX1_behindPlan_100 flX1_12 (by first | assumption | rfl) rfl ?_
            refine x_getR (pc := 103) dX1_behindPlan_103 flX1_57 (by first | assumption | rfl) rfl ?_
            refine x_iload_n (pc := 106) dX1_behindPlan_106 rfl ?_
            refine x_iconstN (pc := 107) 0 dX1_behindPlan_107 ic_0 ?_
            refine x_iastN (pc := 108) dX1_behindPlan_108 (by first | assumption | rfl) (by first | with_reducible rfl | (simp only [xlit, nI_add, pk_mul]; with_reducible rfl)) (by omega) (by decide) ?_
            refine x_goto (pc := 109) (tgt := 130) dX1_behindPlan_109 (by decide) ?_
            refine nx _ _ (xsame.put (by decide) (by decide)) (hR1.put 0 (by decide) (N 4 k) (v := 0) (by decide)) (fun j hj => ?_) ?_
            · have := hb j hj
              show updA (plF N (A, w) k).1 0 (N 4 k) 0 0 j ≤ _
              unfold updA
              split <;> omega
            · show updA (plF N (A, w) k).1 0 (N 4 k) 0 11 0 ≤ _
              simp only [updA]
              rw [if_neg (by omega)]
              omega
      · rw [e] at nx q1
        obtain ⟨q4, q5⟩ := q3 (by omega)
        have hfb := hR1.furnB
        refine x_iload_n (pc := 13) dX1_behindPlan_13 rfl ?_
        refine x_aload_n (pc := 14) dX1_behindPlan_14 rfl ?_
        refine x_getR (pc := 15) dX1_behindPlan_15 flX1_25 (by first | assumption | rfl) rfl ?_
        refine x_getI (pc := 18) dX1_behindPlan_18 flX1_41 (by first | assumption | rfl) rfl ?_
        rw [hN1.2.2.2.2.1.1]
        first | (guard_target =~ Wp _ _ _ _ _ (Value.int (nI _) :: Value.int (nI _) :: _) _ _ _ _; with_reducible refine x_icmp_geN (pc := 21) (tgt := 136) ?_ ?_ dX1_behindPlan_21 ?_ (fun h21 => ?_) (fun h21 => ?_); (first | omega | exact b2n_31 _); (first | omega | exact b2n_31 _); decide) | refine x_icmp_ge (pc := 21) (tgt := 136) dX1_behindPlan_21 (by decide) (fun h21 => ?_) (fun h21 => ?_)
        · skip
          omega
        · skip
          refine x_iload_n (pc := 24) dX1_behindPlan_24 rfl ?_
          refine x_bipushN (pc := 25) 10 dX1_behindPlan_25 bp_10 ?_
          first | (guard_target =~ Wp _ _ _ _ _ (Value.int (nI _) :: Value.int (nI _) :: _) _ _ _ _; with_reducible refine x_icmp_geN (pc := 27) (tgt := 136) ?_ ?_ dX1_behindPlan_27 ?_ (fun h27 => ?_) (fun h27 => ?_); (first | omega | exact b2n_31 _); (first | omega | exact b2n_31 _); decide) | refine x_icmp_ge (pc := 27) (tgt := 136) dX1_behindPlan_27 (by decide) (fun h27 => ?_) (fun h27 => ?_)
          · skip
            omega
          · skip
            refine x_aload_n (pc := 30) dX1_behindPlan_30 rfl ?_
            refine x_getR (pc := 31) dX1_behindPlan_31 flX1_25 (by first | assumption | rfl) rfl ?_
            refine x_getR (pc := 34) dX1_behindPlan_34 flX1_47 (by first | assumption | rfl) rfl ?_
            refine x_iload_n (pc := 37) dX1_behindPlan_37 rfl ?_
            refine x_ialdN (pc := 38) dX1_behindPlan_38 (by first | assumption | rfl) (by first | with_reducible rfl | (simp only [xlit, nI_add, pk_mul]; with_reducible rfl)) (by omega) (by decide) ?_
            rw [q4]
            refine x_istore_n (pc := 39) dX1_behindPlan_39 (by decide) xs_2 (x_hp rfl) ?_
            refine x_aload_n (pc := 40) dX1_behindPlan_40 rfl ?_
            refine x_getR (pc := 41) dX1_behindPlan_41 flX1_25 (by first | assumption | rfl) rfl ?_
            refine x_getR (pc := 44) dX1_behindPlan_44 flX1_50 (by first | assumption | rfl) rfl ?_
            refine x_iload_n (pc := 47) dX1_behindPlan_47 rfl ?_
            refine x_ialdN (pc := 48) dX1_behindPlan_48 (by first | assumption | rfl) (by first | with_reducible rfl | (simp only [xlit, nI_add, pk_mul]; with_reducible rfl)) (by omega) (by decide) ?_
            rw [q1]
            refine x_tableOut (pc := 49) (tgt := 112) dX1_behindPlan_49 (by decide) (by decide) ?_
            refine x_aload_n (pc := 112) dX1_behindPlan_112 rfl ?_
            refine x_getR (pc := 113) dX1_behindPlan_113 flX1_12 (by first | assumption | rfl) rfl ?_
            refine x_aload_n (pc := 116) dX1_behindPlan_116 rfl ?_
            refine x_getR (pc := 117) dX1_behindPlan_117 flX1_12 (by first | assumption | rfl) rfl ?_
            refine x_getI (pc := 120) dX1_behindPlan_120 flX1_60 (by first | assumption | rfl) rfl ?_
            rw [hR1.furn]
            refine x_iconstN (pc := 123) 1 dX1_behindPlan_123 ic_1 ?_
            refine x_iload_n (pc := 124) dX1_behindPlan_124 rfl ?_
            first | (guard_target =~ Wp _ _ _ _ _ (Value.int (nI _) :: Value.int (nI _) :: _) _ _ _ _; with_reducible refine x_ishlN (pc := 125) ?_ dX1_behindPlan_125 ?_; omega) | refine x_ishl (pc := 125) dX1_behindPlan_125 ?_
            first | (guard_target =~ Wp _ _ _ _ _ (Value.int (nI _) :: Value.int (nI _) :: _) _ _ _ _; with_reducible refine x_ixorN (pc := 126) dX1_behindPlan_126 ?_) | refine x_ixor (pc := 126) dX1_behindPlan_126 ?_
            rw [Nat.one_mul]
            refine x_invV1 (pc := 127) dX1_behindPlan_127 mlX1_63 imX2_furnish seX2_furnish kX2_furnish (by first | assumption | rfl) rfl (Nat.le_of_ble_eq_true rfl) (by decide) ?_
            refine sp_X2_furnish (Nat.xor_lt_two_pow (n := 16) hfb (Nat.pow_lt_pow_right (by decide) q5)) car46 hR1 (fun M2 hs2 hR2 => ?_)
            refine x_cn rfl rfl ?_
            refine nx M2 _ hs2 hR2 (fun j hj => ?_) ?_
            · have := hb j hj
              show (plF N (A, w) k).1 0 j ≤ _
              omega
            · show (plF N (A, w) k).1 11 0 ≤ _
              omega
  refine x_entry kX1_behindPlan (Nat.le_of_ble_eq_true rfl) ?_
  show Wp g _ mX1_behindPlan 0 [some (.ref 45), none, none] [] _ _ _ _
  refine x_aload_n (pc := 0) dX1_behindPlan_0 rfl ?_
  refine x_getR (pc := 1) dX1_behindPlan_1 flX1_12 (by first | assumption | rfl) rfl ?_
  refine x_aload_n (pc := 4) dX1_behindPlan_4 rfl ?_
  refine x_getR (pc := 5) dX1_behindPlan_5 flX1_22 (by first | assumption | rfl) rfl ?_
  refine x_invV1 (pc := 8) dX1_behindPlan_8 mlX1_33 imX2_become seX2_become kX2_become (by first | assumption | rfl) rfl (Nat.le_of_ble_eq_true rfl) (by decide) ?_
  refine sp_X2_become (by decide) car46 car1 hR (fun M1 hs1 hR1 => ?_)
  refine x_cn rfl rfl ?_
  refine x_iconstN (pc := 11) 0 dX1_behindPlan_11 ic_0 ?_
  refine x_istore_n (pc := 12) dX1_behindPlan_12 (by decide) xs_1 (x_hp rfl) ?_
  exact loop (N 8 0) 0 M1 _ (by omega) hs1 hR1 (fun j hj => by have := hs.1 j hj; show A 0 j ≤ _; omega) (by have := hs.2; show A 11 0 ≤ _; omega)
theorem sp_X1_daysUntilBald {c : Nat} (hc : c < 16) (hs : Std A) (hR : CR 1 M A w r) (h : K (some (.int (oI' (dubF A w c 61 0)))) xSF M) : Ex g (d + 3) yX1_daysUntilBald mX1_daysUntilBald [.ref 45, .int (nI c)] xSF M K := by
  have hw := hs.1 c hc
  have hbb := hR.baldB
  have loop : ∀ n k, k + n = 61 → dubF A w c n k = dubF A w c 61 0 → Wp g (d + 3) mX1_daysUntilBald 2 [some (.ref 45), some (.int (nI c)), some (.int (nI k))] [] xSF (0, 0) M K := by
    intro n
    induction n with
    | zero =>
      intro k hk he
      refine x_iload_n (pc := 2) dX1_daysUntilBald_2 rfl ?_
      refine x_bipushN (pc := 3) 60 dX1_daysUntilBald_3 bp_60 ?_
      first | (guard_target =~ Wp _ _ _ _ _ (Value.int (nI _) :: Value.int (nI _) :: _) _ _ _ _; with_reducible refine x_icmp_gtN (pc := 5) (tgt := 45) ?_ ?_ dX1_daysUntilBald_5 ?_ (fun h5 => ?_) (fun h5 => ?_); (first | omega | exact b2n_31 _); (first | omega | exact b2n_31 _); decide) | refine x_icmp_gt (pc := 5) (tgt := 45) dX1_daysUntilBald_5 (by decide) (fun h5 => ?_) (fun h5 => ?_)
      · skip
        refine x_bipush (pc := 45) dX1_daysUntilBald_45 bp_m5 ?_
        refine x_ret (pc := 47) (v := some _) rfl trivial dX1_daysUntilBald_47 (by decide) ?_
        rw [← he] at h; exact h
      · skip
        omega
    | succ n ih =>
      intro k hk he
      have hg := gainA_le (days := k) (w := w) hR hc
      rw [dubF] at he
      refine x_iload_n (pc := 2) dX1_daysUntilBald_2 rfl ?_
      refine x_bipushN (pc := 3) 60 dX1_daysUntilBald_3 bp_60 ?_
      first | (guard_target =~ Wp _ _ _ _ _ (Value.int (nI _) :: Value.int (nI _) :: _) _ _ _ _; with_reducible refine x_icmp_gtN (pc := 5) (tgt := 45) ?_ ?_ dX1_daysUntilBald_5 ?_ (fun h5 => ?_) (fun h5 => ?_); (first | omega | exact b2n_31 _); (first | omega | exact b2n_31 _); decide) | refine x_icmp_gt (pc := 5) (tgt := 45) dX1_daysUntilBald_5 (by decide) (fun h5 => ?_) (fun h5 => ?_)
      · skip
        omega
      · skip
        refine x_aload_n (pc := 8) dX1_daysUntilBald_8 rfl ?_
        refine x_getR (pc := 9) dX1_daysUntilBald_9 flX1_22 (by first | assumption | rfl) rfl ?_
        refine x_getR (pc := 12) dX1_daysUntilBald_12 flX1_57 (by first | assumption | rfl) rfl ?_
        refine x_iload_n (pc := 15) dX1_daysUntilBald_15 rfl ?_
        refine x_ialdN (pc := 16) dX1_daysUntilBald_16 (by first | assumption | rfl) (by first | with_reducible rfl | (simp only [xlit, nI_add, pk_mul]; with_reducible rfl)) (by omega) (by decide) ?_
        rw [hR.wear hc]
        refine x_aload_n (pc := 17) dX1_daysUntilBald_17 rfl ?_
        refine x_getR (pc := 18) dX1_daysUntilBald_18 flX1_22 (by first | assumption | rfl) rfl ?_
        refine x_iload_n (pc := 21) dX1_daysUntilBald_21 rfl ?_
        refine x_iload_n (pc := 22) dX1_daysUntilBald_22 rfl ?_
        refine x_invV2 (pc := 23) dX1_daysUntilBald_23 mlX1_66 imX2_gain seX2_gain kX2_gain (by first | assumption | rfl) rfl (Nat.le_of_ble_eq_true rfl) (by decide) ?_
        refine sp_X2_gain hc (by omega) car1 hR ?_
        refine x_cv rfl rfl ?_
        first | (guard_target =~ Wp _ _ _ _ _ (Value.int (nI _) :: Value.int (nI _) :: _) _ _ _ _; with_reducible refine x_iaddN (pc := 26) dX1_daysUntilBald_26 ?_) | refine x_iadd (pc := 26) dX1_daysUntilBald_26 ?_
        refine x_aload_n (pc := 27) dX1_daysUntilBald_27 rfl ?_
        refine x_getR (pc := 28) dX1_daysUntilBald_28 flX1_22 (by first | assumption | rfl) rfl ?_
        refine x_getI (pc := 31) dX1_daysUntilBald_31 flX1_70 (by first | assumption | rfl) rfl ?_
        rw [hR.bald]
        first | (guard_target =~ Wp _ _ _ _ _ (Value.int (nI _) :: Value.int (nI _) :: _) _ _ _ _; with_reducible refine x_icmp_ltN (pc := 34) (tgt := 39) ?_ ?_ dX1_daysUntilBald_34 ?_ (fun h34 => ?_) (fun h34 => ?_); (first | omega | exact b2n_31 _); (first | omega | exact b2n_31 _); decide) | refine x_icmp_lt (pc := 34) (tgt := 39) dX1_daysUntilBald_34 (by decide) (fun h34 => ?_) (fun h34 => ?_)
        · skip
          first | (guard_target =~ Wp _ _ _ _ (_ :: _ :: some (Value.int (nI _)) :: _) _ _ _ _ _; with_reducible refine x_iincN (pc := 39) 1 ic_1 dX1_daysUntilBald_39 ?_ xg_2 xs_2 ?_ ?_; decide; exact (x_hp rfl)) | refine x_iincC (pc := 39) ic_1 dX1_daysUntilBald_39 (by decide) rfl xs_2 (x_hp rfl) ?_
          refine x_goto (pc := 42) (tgt := 2) dX1_daysUntilBald_42 (by decide) ?_
          exact ih (k + 1) (by omega) (by rw [if_neg (by omega)] at he; exact he)
        · skip
          refine x_iload_n (pc := 37) dX1_daysUntilBald_37 rfl ?_
          refine x_ret (pc := 38) (v := some _) rfl trivial dX1_daysUntilBald_38 (by decide) ?_
          rw [← he, if_pos (by omega)] at h; exact h
  refine x_entry kX1_daysUntilBald (Nat.le_of_ble_eq_true rfl) ?_
  show Wp g _ mX1_daysUntilBald 0 [some (.ref 45), some (.int (nI c)), none] [] _ _ _ _
  refine x_iconstN (pc := 0) 0 dX1_daysUntilBald_0 ic_0 ?_
  refine x_istore_n (pc := 1) dX1_daysUntilBald_1 (by decide) xs_2 (x_hp rfl) ?_
  exact loop 61 0 rfl rfl
theorem baldA_lt {A : XA} : baldA A < 65536 := xset_lt (n := 16)
theorem frsA_lt {k : Nat} : frsA A w k < 65536 := xset_lt (n := 16)
theorem sp_X1_firstWorn (hs : Std A) (hR : CR 1 M A w r) (h : ∀ M', xsame 46 58 M M' → K (some (.int (fwnF A w 60 1))) xSF M') : Ex g (d + 4) yX1_firstWorn mX1_firstWorn [.ref 45] xSF M K := by
  have loop : ∀ n k M1 o3, k + n = 61 → 1 ≤ k → xsame 46 58 M M1 → CR 46 M1 (itS A w (k - 1)) w r → (∀ j, j < 16 → itS A w (k - 1) 0 j ≤ 10000 + 65934 * (k - 1)) → itS A w (k - 1) 11 0 ≤ 10000 + (k - 1) → fwnF A w n k = fwnF A w 60 1 → Wp g (d + 4) mX1_firstWorn 21 [some (.ref 45), some (.int (nI (baldA A))), some (.int (nI k)), o3] [] xSF (0, 0) M1 K := by
    intro n
    induction n with
    | zero =>
      intro k M1 o3 hk h1 hs1 hR1 hb hd he
      refine x_iload_n (pc := 21) dX1_firstWorn_21 rfl ?_
      refine x_bipushN (pc := 22) 60 dX1_firstWorn_22 bp_60 ?_
      first | (guard_target =~ Wp _ _ _ _ _ (Value.int (nI _) :: Value.int (nI _) :: _) _ _ _ _; with_reducible refine x_icmp_gtN (pc := 24) (tgt := 62) ?_ ?_ dX1_firstWorn_24 ?_ (fun h24 => ?_) (fun h24 => ?_); (first | omega | exact b2n_31 _); (first | omega | exact b2n_31 _); decide) | refine x_icmp_gt (pc := 24) (tgt := 62) dX1_firstWorn_24 (by decide) (fun h24 => ?_) (fun h24 => ?_)
      · skip
        refine x_bipush (pc := 62) dX1_firstWorn_62 bp_m5 ?_
        refine x_ret (pc := 64) (v := some _) rfl trivial dX1_firstWorn_64 (by decide) ?_
        have h2 := h M1 hs1; rw [← he] at h2; exact h2
      · skip
        omega
    | succ n ih =>
      intro k M1 o3 hk h1 hs1 hR1 hb hd he
      obtain ⟨k, rfl⟩ : ∃ k', k = k' + 1 := ⟨k - 1, by omega⟩
      rw [Nat.add_sub_cancel] at hR1 hb hd
      rw [fwnF] at he
      refine x_iload_n (pc := 21) dX1_firstWorn_21 rfl ?_
      refine x_bipushN (pc := 22) 60 dX1_firstWorn_22 bp_60 ?_
      first | (guard_target =~ Wp _ _ _ _ _ (Value.int (nI _) :: Value.int (nI _) :: _) _ _ _ _; with_reducible refine x_icmp_gtN (pc := 24) (tgt := 62) ?_ ?_ dX1_firstWorn_24 ?_ (fun h24 => ?_) (fun h24 => ?_); (first | omega | exact b2n_31 _); (first | omega | exact b2n_31 _); decide) | refine x_icmp_gt (pc := 24) (tgt := 62) dX1_firstWorn_24 (by decide) (fun h24 => ?_) (fun h24 => ?_)
      · skip
        omega
      · skip
        refine x_aload_n (pc := 27) dX1_firstWorn_27 rfl ?_
        refine x_getR (pc := 28) dX1_firstWorn_28 flX1_12 (by first | assumption | rfl) rfl ?_
        refine x_iconstN (pc := 31) 1 dX1_firstWorn_31 ic_1 ?_
        refine x_invV1 (pc := 32) dX1_firstWorn_32 mlX1_37 imX2_spend seX2_spend kX2_spend (by first | assumption | rfl) rfl (Nat.le_of_ble_eq_true rfl) (by decide) ?_
        refine sp_X2_spend (by decide) car46 hR1 (fun j hj => by have := hb j hj; omega) (by omega) (fun M2 hs2 hR2 => ?_)
        refine x_cn rfl rfl ?_
        refine x_aload_n (pc := 35) dX1_firstWorn_35 rfl ?_
        refine x_getR (pc := 36) dX1_firstWorn_36 flX1_12 (by first | assumption | rfl) rfl ?_
        refine x_invV0 (pc := 39) dX1_firstWorn_39 mlX1_73 imX2_baldCells seX2_baldCells kX2_baldCells (by first | assumption | rfl) rfl (Nat.le_of_ble_eq_true rfl) (by decide) ?_
        refine sp_X2_baldCells car46 hR2 ?_
        refine x_cv rfl rfl ?_
        refine x_iload_n (pc := 42) dX1_firstWorn_42 rfl ?_
        refine x_iconst (pc := 43) dX1_firstWorn_43 ic_m1 ?_
        refine x_ixor (pc := 44) dX1_firstWorn_44 ?_
        refine x_iand (pc := 45) dX1_firstWorn_45 ?_
        rw [xset_sub baldA_lt, show xset (fun c => (baldA (spA (itS A w k) w 1)).testBit c && !(baldA A).testBit c) 16 = frsA A w (k + 1) from rfl]
        refine x_istore_n (pc := 46) dX1_firstWorn_46 (by decide) xs_3 (x_hp rfl) ?_
        refine x_iload_n (pc := 47) dX1_firstWorn_47 rfl ?_
        have hlt := frsA_lt (A := A) (w := w) (k := k + 1)
        first | (guard_target =~ Wp _ _ _ _ _ (Value.int (nI _) :: _) _ _ _ _; with_reducible refine x_if_eqN (pc := 48) (tgt := 56) ?_ dX1_firstWorn_48 ?_ (fun h48 => ?_) (fun h48 => ?_); (first | omega | exact b2n_32 _ | exact b2n_31 _); decide) | refine x_if_eq (pc := 48) (tgt := 56) dX1_firstWorn_48 (by decide) (fun h48 => ?_) (fun h48 => ?_)
        · skip
          first | (guard_target =~ Wp _ _ _ _ (_ :: _ :: some (Value.int (nI _)) :: _) _ _ _ _ _; with_reducible refine x_iincN (pc := 56) 1 ic_1 dX1_firstWorn_56 ?_ xg_2 xs_2 ?_ ?_; decide; exact (x_hp rfl)) | refine x_iincC (pc := 56) ic_1 dX1_firstWorn_56 (by decide) rfl xs_2 (x_hp rfl) ?_
          refine x_goto (pc := 59) (tgt := 21) dX1_firstWorn_59 (by decide) ?_
          refine ih (k + 1 + 1) M2 _ (by omega) (by omega) (hs1.tr hs2) hR2 (fun j hj => by have := spA_bd (n := 1) hR1 hb j hj; show spA _ _ 1 0 j ≤ _; omega) ?_ (by rw [if_pos h48] at he; exact he)
          show itS A w k 11 0 + 1 ≤ _
          omega
        · skip
          refine x_iload_n (pc := 51) dX1_firstWorn_51 rfl ?_
          refine x_invS1 (pc := 52) dX1_firstWorn_52 mlX1_77 stX3_first kX3_first (Nat.le_of_ble_eq_true rfl) (by decide) ?_
          refine sp_X3_first (by have := frsA_lt (A := A) (w := w) (k := k + 1); omega) ?_
          refine x_cv rfl rfl ?_
          refine x_ret (pc := 55) (v := some _) rfl trivial dX1_firstWorn_55 (by decide) ?_
          have h2 := h M2 (hs1.tr hs2); rw [← he, if_neg h48] at h2; exact h2
  refine x_entry kX1_firstWorn (Nat.le_of_ble_eq_true rfl) ?_
  show Wp g _ mX1_firstWorn 0 [some (.ref 45), none, none, none] [] _ _ _ _
  refine x_aload_n (pc := 0) dX1_firstWorn_0 rfl ?_
  refine x_getR (pc := 1) dX1_firstWorn_1 flX1_22 (by first | assumption | rfl) rfl ?_
  refine x_invV0 (pc := 4) dX1_firstWorn_4 mlX1_73 imX2_baldCells seX2_baldCells kX2_baldCells (by first | assumption | rfl) rfl (Nat.le_of_ble_eq_true rfl) (by decide) ?_
  refine sp_X2_baldCells car1 hR ?_
  refine x_cv rfl rfl ?_
  refine x_istore_n (pc := 7) dX1_firstWorn_7 (by decide) xs_1 (x_hp rfl) ?_
  refine x_aload_n (pc := 8) dX1_firstWorn_8 rfl ?_
  refine x_getR (pc := 9) dX1_firstWorn_9 flX1_12 (by first | assumption | rfl) rfl ?_
  refine x_aload_n (pc := 12) dX1_firstWorn_12 rfl ?_
  refine x_getR (pc := 13) dX1_firstWorn_13 flX1_22 (by first | assumption | rfl) rfl ?_
  refine x_invV1 (pc := 16) dX1_firstWorn_16 mlX1_33 imX2_become seX2_become kX2_become (by first | assumption | rfl) rfl (Nat.le_of_ble_eq_true rfl) (by decide) ?_
  refine sp_X2_become (by decide) car46 car1 hR (fun M1 hs1 hR1 => ?_)
  refine x_cn rfl rfl ?_
  refine x_iconstN (pc := 19) 1 dX1_firstWorn_19 ic_1 ?_
  refine x_istore_n (pc := 20) dX1_firstWorn_20 (by decide) xs_2 (x_hp rfl) ?_
  exact loop 60 1 M1 _ rfl (by decide) hs1 hR1 (fun j hj => by have := hs.1 j hj; show A 0 j ≤ _; omega) (by have := hs.2; show A 11 0 ≤ _; omega) rfl
end P37
