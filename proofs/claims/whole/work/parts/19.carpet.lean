/-! CARPET of the program: what it holds; ways; treads -/
def carFs (a : Nat) : List (Option Value) := [some (.ref (a + 1)), some (.ref (a + 2)), some (.ref (a + 3)), some (.ref (a + 4)), some (.ref (a + 5)), some (.ref (a + 6)), some (.ref (a + 7)), some (.ref (a + 8)), none, none, none, none, none, none, some (.ref (a + 9))]
def Car (a : Nat) : Prop := xSF[a]? = some (.inr (2, carFs a)) ∧ xSF[a + 1]? = some (.inl (0, 16)) ∧ xSF[a + 2]? = some (.inl (0, 6)) ∧ xSF[a + 3]? = some (.inl (0, 6)) ∧ xSF[a + 4]? = some (.inl (0, 6)) ∧ xSF[a + 5]? = some (.inl (0, 6)) ∧ xSF[a + 6]? = some (.inl (0, 24)) ∧ xSF[a + 7]? = some (.inl (0, 6)) ∧ xSF[a + 8]? = some (.inl (0, 96)) ∧ xSF[a + 9]? = some (.inr (7, [some (.ref (a + 10)), some (.ref (a + 11))])) ∧ xSF[a + 10]? = some (.inl (0, 16)) ∧ xSF[a + 11]? = some (.inl (0, 16))
theorem car1 : Car 1 := ⟨rfl, rfl, rfl, rfl, rfl, rfl, rfl, rfl, rfl, rfl, rfl, rfl⟩
theorem car13 : Car 13 := ⟨rfl, rfl, rfl, rfl, rfl, rfl, rfl, rfl, rfl, rfl, rfl, rfl⟩
theorem car46 : Car 46 := ⟨rfl, rfl, rfl, rfl, rfl, rfl, rfl, rfl, rfl, rfl, rfl, rfl⟩
abbrev XA : Type := Nat → Nat → Nat
def clen (k : Nat) : Nat := ([16, 6, 6, 6, 6, 24, 6, 96] : List Nat).getD k 0
def cbd (k : Nat) : Nat := ([67108864, 7, 10, 16, 16, 10, 65536, 1000] : List Nat).getD k 0
/-- what a carpet at a holds: rows 0 wear, 1 kind, 2 v, 3 from, 4 to, 5 rows, 6 ways, 7 yields; 8 goers, 10 furniture, 11 day, 13 bald's number; w who is away, r the room -/
def CR (a : Nat) (M : XM) (A : XA) (w r : Int32) : Prop :=
  (∀ k, k < 8 → ∀ j, j < clen k → M.1 (a + 1 + k) j = nI (A k j) ∧ A k j < cbd k) ∧ M.1 a 8 = nI (A 8 0) ∧ A 8 0 ≤ 6 ∧ M.1 a 9 = w ∧ M.1 a 10 = nI (A 10 0) ∧ A 10 0 < 65536 ∧ M.1 a 11 = nI (A 11 0) ∧ A 11 0 < 1048576 ∧ M.1 a 12 = r ∧ M.1 a 13 = nI (A 13 0) ∧ A 13 0 < 100
def updA (A : XA) (k j v : Nat) : XA := fun k' j' => if k' = k ∧ j' = j then v else A k' j'
section CRS
variable {a : Nat} {M M' : XM} {A : XA} {w r : Int32}
theorem CR.wear (h : CR a M A w r) {j : Nat} (hj : j < 16) : M.1 (a + 1) j = nI (A 0 j) := (h.1 0 (by decide) j hj).1
theorem CR.kind (h : CR a M A w r) {j : Nat} (hj : j < 6) : M.1 (a + 2) j = nI (A 1 j) := (h.1 1 (by decide) j hj).1
theorem CR.v (h : CR a M A w r) {j : Nat} (hj : j < 6) : M.1 (a + 3) j = nI (A 2 j) := (h.1 2 (by decide) j hj).1
theorem CR.from (h : CR a M A w r) {j : Nat} (hj : j < 6) : M.1 (a + 4) j = nI (A 3 j) := (h.1 3 (by decide) j hj).1
theorem CR.to (h : CR a M A w r) {j : Nat} (hj : j < 6) : M.1 (a + 5) j = nI (A 4 j) := (h.1 4 (by decide) j hj).1
theorem CR.rows (h : CR a M A w r) {j : Nat} (hj : j < 24) : M.1 (a + 6) j = nI (A 5 j) := (h.1 5 (by decide) j hj).1
theorem CR.ways (h : CR a M A w r) {j : Nat} (hj : j < 6) : M.1 (a + 7) j = nI (A 6 j) := (h.1 6 (by decide) j hj).1
theorem CR.yields (h : CR a M A w r) {j : Nat} (hj : j < 96) : M.1 (a + 8) j = nI (A 7 j) := (h.1 7 (by decide) j hj).1
theorem CR.wearB (h : CR a M A w r) {j : Nat} (hj : j < 16) : A 0 j < 67108864 := (h.1 0 (by decide) j hj).2
theorem CR.kindB (h : CR a M A w r) {j : Nat} (hj : j < 6) : A 1 j < 7 := (h.1 1 (by decide) j hj).2
theorem CR.vB (h : CR a M A w r) {j : Nat} (hj : j < 6) : A 2 j < 10 := (h.1 2 (by decide) j hj).2
theorem CR.fromB (h : CR a M A w r) {j : Nat} (hj : j < 6) : A 3 j < 16 := (h.1 3 (by decide) j hj).2
theorem CR.toB (h : CR a M A w r) {j : Nat} (hj : j < 6) : A 4 j < 16 := (h.1 4 (by decide) j hj).2
theorem CR.rowsB (h : CR a M A w r) {j : Nat} (hj : j < 24) : A 5 j < 10 := (h.1 5 (by decide) j hj).2
theorem CR.waysB (h : CR a M A w r) {j : Nat} (hj : j < 6) : A 6 j < 65536 := (h.1 6 (by decide) j hj).2
theorem CR.yieldsB (h : CR a M A w r) {j : Nat} (hj : j < 96) : A 7 j < 1000 := (h.1 7 (by decide) j hj).2
theorem CR.goers (h : CR a M A w r) : M.1 a 8 = nI (A 8 0) := h.2.1
theorem CR.goersB (h : CR a M A w r) : A 8 0 ≤ 6 := h.2.2.1
theorem CR.away (h : CR a M A w r) : M.1 a 9 = w := h.2.2.2.1
theorem CR.furn (h : CR a M A w r) : M.1 a 10 = nI (A 10 0) := h.2.2.2.2.1
theorem CR.furnB (h : CR a M A w r) : A 10 0 < 65536 := h.2.2.2.2.2.1
theorem CR.day (h : CR a M A w r) : M.1 a 11 = nI (A 11 0) := h.2.2.2.2.2.2.1
theorem CR.dayB (h : CR a M A w r) : A 11 0 < 1048576 := h.2.2.2.2.2.2.2.1
theorem CR.room (h : CR a M A w r) : M.1 a 12 = r := h.2.2.2.2.2.2.2.2.1
theorem CR.bald (h : CR a M A w r) : M.1 a 13 = nI (A 13 0) := h.2.2.2.2.2.2.2.2.2.1
theorem CR.baldB (h : CR a M A w r) : A 13 0 < 100 := h.2.2.2.2.2.2.2.2.2.2
theorem CR.same (h : CR a M A w r) (hs : ∀ q, a ≤ q → q < a + 9 → M'.1 q = M.1 q) : CR a M' A w r := by
  obtain ⟨h1, h2⟩ := h
  refine ⟨fun k hk j hj => ?_, ?_⟩
  · rw [hs (a + 1 + k) (by omega) (by omega)]; exact h1 k hk j hj
  · rw [hs a (by omega) (by omega)]; exact h2
theorem CR.cong {A' : XA} (h : CR a M A w r) (h1 : ∀ k, k < 8 → ∀ j, j < clen k → A' k j = A k j) (h2 : ∀ k, (k = 8 ∨ k = 10 ∨ k = 11 ∨ k = 13) → A' k 0 = A k 0) : CR a M A' w r := by
  obtain ⟨g1, g2⟩ := h
  refine ⟨fun k hk j hj => ?_, ?_⟩
  · rw [h1 k hk j hj]; exact g1 k hk j hj
  · rw [h2 8 (by omega), h2 10 (by omega), h2 11 (by omega), h2 13 (by omega)]; exact g2
theorem CR.out (h : CR a M A w r) {lo hi : Nat} (hs : xsame lo hi M M') (hd : hi ≤ a ∨ a + 9 ≤ lo) : CR a M' A w r := h.same (fun q h1 h2 => hs.1 q (by omega))
theorem CR.put (h : CR a M A w r) (k : Nat) (hk : k < 8) (j : Nat) {v : Nat} (hv : v < cbd k) : CR a (xput M (a + 1 + k) j (nI v)) (updA A k j v) w r := by
  obtain ⟨h1, h2⟩ := h
  refine ⟨fun k' hk' j' hj' => ?_, ?_⟩
  · by_cases he : k' = k ∧ j' = j
    · obtain ⟨rfl, rfl⟩ := he
      rw [xput_at]; simp [updA, hv]
    · rw [xput_ne (by omega)]; simp only [updA, if_neg he]; exact h1 k' hk' j' hj'
  · have e : ∀ i, (xput M (a + 1 + k) j (nI v)).1 a i = M.1 a i := fun i => xput_ne (Or.inl (by omega))
    have e2 : ∀ i q, 8 ≤ i → updA A k j v i q = A i q := fun i q hi => by
      have : ¬ (i = k ∧ q = j) := by omega
      simp [updA, this]
    rw [e, e, e, e, e, e, e2 8 0 (by decide), e2 10 0 (by decide), e2 11 0 (by decide), e2 13 0 (by decide)]
    exact h2
theorem CR.putS (h : CR a M A w r) (k : Nat) (hk : k = 8 ∨ k = 10 ∨ k = 11 ∨ k = 13) {v : Nat} (hv : (k = 8 → v ≤ 6) ∧ (k = 10 → v < 65536) ∧ (k = 11 → v < 1048576) ∧ (k = 13 → v < 100)) : CR a (xput M a k (nI v)) (updA A k 0 v) w r := by
  obtain ⟨h1, h2, h3, h4, h5, h6, h7, h8, h9, h10, h11⟩ := h
  refine ⟨fun k' hk' j' hj' => ?_, ?_⟩
  · rw [xput_ne (Or.inl (by omega))]
    have : ¬ (k' = k ∧ j' = 0) := by omega
    simp only [updA, if_neg this]; exact h1 k' hk' j' hj'
  · rcases hk with rfl | rfl | rfl | rfl <;> simp [xput, updA, h2, h3, h4, h5, h6, h7, h8, h9, h10, h11] <;> omega
theorem CR.putW (h : CR a M A w r) (x : Int32) : CR a (xput M a 9 x) A x r := by
  obtain ⟨h1, h2, h3, h4, h5, h6, h7, h8, h9, h10, h11⟩ := h
  refine ⟨fun k' hk' j' hj' => ?_, ?_⟩
  · rw [xput_ne (Or.inl (by omega))]; exact h1 k' hk' j' hj'
  · simp [xput, h2, h3, h5, h6, h7, h8, h9, h10, h11]
theorem CR.putR (h : CR a M A w r) (x : Int32) : CR a (xput M a 12 x) A w x := by
  obtain ⟨h1, h2, h3, h4, h5, h6, h7, h8, h9, h10, h11⟩ := h
  refine ⟨fun k' hk' j' hj' => ?_, ?_⟩
  · rw [xput_ne (Or.inl (by omega))]; exact h1 k' hk' j' hj'
  · simp [xput, h2, h3, h4, h5, h6, h7, h8, h10, h11]
end CRS
/-- the free cells for a goer, its way, the way's cells -/
def isBl (A : XA) (g : Nat) : Prop := A 1 g = 2 ∨ A 1 g = 5
def frB (A : XA) (g : Nat) : Nat := if A 1 g = 2 ∨ A 1 g = 5 then 65535 else 65535 &&& (A 10 0 ^^^ 4294967295)
def wayL (A : XA) (g : Nat) : List Nat := wy (fun c => (frB A g).testBit c) (A 3 g) (A 4 g)
def wsetN (l : List Nat) : Nat → Nat
  | 0 => 0
  | n + 1 => wsetN l n ||| 2 ^ (l.getD n 0)
def wbits (l : List Nat) : Nat := wsetN l l.length
theorem frB_lt (A : XA) (g : Nat) : frB A g < 65536 := by
  unfold frB
  split
  · decide
  · exact Nat.lt_of_le_of_lt Nat.and_le_left (by decide)
theorem wsetN_lt {l : List Nat} (hl : ∀ q ∈ l, q < 16) : ∀ {n : Nat}, n ≤ l.length → wsetN l n < 65536 := by
  intro n
  induction n with
  | zero => intro _; exact Nat.zero_lt_succ _
  | succ n ih =>
    intro hn
    refine Nat.or_lt_two_pow (n := 16) (ih (by omega)) (two_lt (hl _ ?_))
    rw [List.getD_eq_getElem?_getD, List.getElem?_eq_getElem (by omega)]
    exact List.getElem_mem _
theorem wayL_lt {A : XA} {g : Nat} (h3 : A 3 g < 16) (h4 : A 4 g < 16) : ∀ q ∈ wayL A g, q < 16 := wy_lt h3 h4
theorem wayL_len (A : XA) (g : Nat) : (wayL A g).length ≤ 16 := wy_len
theorem getD_lt {l : List Nat} {n j : Nat} (hl : ∀ q ∈ l, q < n) (hn : 0 < n) : l.getD j 0 < n := by
  rw [List.getD_eq_getElem?_getD]
  cases h : l[j]? with
  | none => exact hn
  | some q => exact hl q (List.mem_of_getElem? h)
section P19
variable {g : XG} {d : Nat} {M : XM} {K : Option Value → XS → XM → Prop} {q a : Nat} {A : XA} {w r : Int32}
theorem sp_X7_cellsOf {l : List Nat} (hq0 : xSF[q]? = some (.inr (7, [some (.ref (q + 1)), some (.ref (q + 2))]))) (hq2 : xSF[q + 2]? = some (.inl (0, 16)))
    (hl : l.length ≤ 16) (hb : ∀ c ∈ l, c < 16) (hp : ∀ j, j < l.length → M.1 (q + 2) j = nI (l.getD j 0)) (h : K (some (.int (nI (wbits l)))) xSF M) : Ex g d yX7_cellsOf mX7_cellsOf [.ref q, .int (nI l.length)] xSF M K := by
  refine x_entry kX7_cellsOf (Nat.le_of_ble_eq_true rfl) ?_
  show Wp g _ mX7_cellsOf 0 [some (.ref q), some (.int (nI l.length)), none, none] [] _ _ _ _
  have loop : ∀ n k, k + n = l.length → Wp g d mX7_cellsOf 4 [some (.ref q), some (.int (nI l.length)), some (.int (nI (wsetN l k))), some (.int (nI k))] [] xSF (0, 0) M K := by
    intro n
    induction n with
    | zero =>
      intro k hk
      obtain rfl : k = l.length := by omega
      refine x_iload_n (pc := 4) dX7_cellsOf_4 rfl ?_
      refine x_iload_n (pc := 5) dX7_cellsOf_5 rfl ?_
      first | (guard_target =~ Wp _ _ _ _ _ (Value.int (nI _) :: Value.int (nI _) :: _) _ _ _ _; with_reducible refine x_icmp_geN (pc := 6) (tgt := 32) ?_ ?_ dX7_cellsOf_6 ?_ (fun h6 => ?_) (fun h6 => ?_); (first | omega | exact b2n_31 _); (first | omega | exact b2n_31 _); decide) | refine x_icmp_ge (pc := 6) (tgt := 32) dX7_cellsOf_6 (by decide) (fun h6 => ?_) (fun h6 => ?_)
      · skip
        refine x_iload_n (pc := 32) dX7_cellsOf_32 rfl ?_
        refine x_ret (pc := 33) (v := some _) rfl trivial dX7_cellsOf_33 (by decide) ?_
        exact h
      · skip
        omega
    | succ n ih =>
      intro k hk
      have hc : l.getD k 0 < 16 := getD_lt hb (by decide)
      refine x_iload_n (pc := 4) dX7_cellsOf_4 rfl ?_
      refine x_iload_n (pc := 5) dX7_cellsOf_5 rfl ?_
      first | (guard_target =~ Wp _ _ _ _ _ (Value.int (nI _) :: Value.int (nI _) :: _) _ _ _ _; with_reducible refine x_icmp_geN (pc := 6) (tgt := 32) ?_ ?_ dX7_cellsOf_6 ?_ (fun h6 => ?_) (fun h6 => ?_); (first | omega | exact b2n_31 _); (first | omega | exact b2n_31 _); decide) | refine x_icmp_ge (pc := 6) (tgt := 32) dX7_cellsOf_6 (by decide) (fun h6 => ?_) (fun h6 => ?_)
      · skip
        omega
      · skip
        refine x_iload_n (pc := 9) dX7_cellsOf_9 rfl ?_
        refine x_bipushN (pc := 10) 16 dX7_cellsOf_10 bp_16 ?_
        first | (guard_target =~ Wp _ _ _ _ _ (Value.int (nI _) :: Value.int (nI _) :: _) _ _ _ _; with_reducible refine x_icmp_geN (pc := 12) (tgt := 32) ?_ ?_ dX7_cellsOf_12 ?_ (fun h12 => ?_) (fun h12 => ?_); (first | omega | exact b2n_31 _); (first | omega | exact b2n_31 _); decide) | refine x_icmp_ge (pc := 12) (tgt := 32) dX7_cellsOf_12 (by decide) (fun h12 => ?_) (fun h12 => ?_)
        · skip
          omega
        · skip
          refine x_iload_n (pc := 15) dX7_cellsOf_15 rfl ?_
          refine x_iconstN (pc := 16) 1 dX7_cellsOf_16 ic_1 ?_
          refine x_aload_n (pc := 17) dX7_cellsOf_17 rfl ?_
          refine x_getR (pc := 18) dX7_cellsOf_18 flX7_15 (by first | assumption | rfl) rfl ?_
          refine x_iload_n (pc := 21) dX7_cellsOf_21 rfl ?_
          refine x_ialdN (pc := 22) dX7_cellsOf_22 (by first | assumption | rfl) (by first | with_reducible rfl | (simp only [xlit, nI_add, pk_mul]; with_reducible rfl)) (by omega) (by decide) ?_
          rw [hp k (by omega)]
          first | (guard_target =~ Wp _ _ _ _ _ (Value.int (nI _) :: Value.int (nI _) :: _) _ _ _ _; with_reducible refine x_ishlN (pc := 23) ?_ dX7_cellsOf_23 ?_; omega) | refine x_ishl (pc := 23) dX7_cellsOf_23 ?_
          rw [Nat.one_mul]
          first | (guard_target =~ Wp _ _ _ _ _ (Value.int (nI _) :: Value.int (nI _) :: _) _ _ _ _; with_reducible refine x_iorN (pc := 24) dX7_cellsOf_24 ?_) | refine x_ior (pc := 24) dX7_cellsOf_24 ?_
          refine x_istore_n (pc := 25) dX7_cellsOf_25 (by decide) xs_2 (x_hp rfl) ?_
          first | (guard_target =~ Wp _ _ _ _ (_ :: _ :: _ :: some (Value.int (nI _)) :: _) _ _ _ _ _; with_reducible refine x_iincN (pc := 26) 1 ic_1 dX7_cellsOf_26 ?_ xg_3 xs_3 ?_ ?_; decide; exact (x_hp rfl)) | refine x_iincC (pc := 26) ic_1 dX7_cellsOf_26 (by decide) rfl xs_3 (x_hp rfl) ?_
          refine x_goto (pc := 29) (tgt := 4) dX7_cellsOf_29 (by decide) ?_
          exact ih (k + 1) (by omega)
  refine x_iconstN (pc := 0) 0 dX7_cellsOf_0 ic_0 ?_
  refine x_istore_n (pc := 1) dX7_cellsOf_1 (by decide) xs_2 (x_hp rfl) ?_
  refine x_iconstN (pc := 2) 0 dX7_cellsOf_2 ic_0 ?_
  refine x_istore_n (pc := 3) dX7_cellsOf_3 (by decide) xs_3 (x_hp rfl) ?_
  exact loop l.length 0 (by omega)
theorem sp_X7_cellAt {l : List Nat} {k : Nat} (hk : k < 16) (hq0 : xSF[q]? = some (.inr (7, [some (.ref (q + 1)), some (.ref (q + 2))]))) (hq2 : xSF[q + 2]? = some (.inl (0, 16)))
    (hl : l.length ≤ 16) (hp : ∀ j, j < l.length → M.1 (q + 2) j = nI (l.getD j 0)) (h : K (some (.int (if k < l.length then nI (l.getD k 0) else -5))) xSF M) : Ex g d yX7_cellAt mX7_cellAt [.ref q, .int (nI k), .int (nI l.length)] xSF M K := by
  refine x_entry kX7_cellAt (Nat.le_of_ble_eq_true rfl) ?_
  show Wp g _ mX7_cellAt 0 [some (.ref q), some (.int (nI k)), some (.int (nI l.length))] [] _ _ _ _
  refine x_iload_n (pc := 0) dX7_cellAt_0 rfl ?_
  refine x_if_ltN (pc := 1) (by omega) (tgt := 24) dX7_cellAt_1 (by decide) ?_
  refine x_iload_n (pc := 4) dX7_cellAt_4 rfl ?_
  refine x_iload_n (pc := 5) dX7_cellAt_5 rfl ?_
  first | (guard_target =~ Wp _ _ _ _ _ (Value.int (nI _) :: Value.int (nI _) :: _) _ _ _ _; with_reducible refine x_icmp_geN (pc := 6) (tgt := 24) ?_ ?_ dX7_cellAt_6 ?_ (fun h6 => ?_) (fun h6 => ?_); (first | omega | exact b2n_31 _); (first | omega | exact b2n_31 _); decide) | refine x_icmp_ge (pc := 6) (tgt := 24) dX7_cellAt_6 (by decide) (fun h6 => ?_) (fun h6 => ?_)
  · skip
    refine x_bipush (pc := 24) dX7_cellAt_24 bp_m5 ?_
    refine x_ret (pc := 26) (v := some _) rfl trivial dX7_cellAt_26 (by decide) ?_
    rw [if_neg (by omega)] at h; exact h
  · skip
    refine x_iload_n (pc := 9) dX7_cellAt_9 rfl ?_
    refine x_bipushN (pc := 10) 16 dX7_cellAt_10 bp_16 ?_
    first | (guard_target =~ Wp _ _ _ _ _ (Value.int (nI _) :: Value.int (nI _) :: _) _ _ _ _; with_reducible refine x_icmp_geN (pc := 12) (tgt := 24) ?_ ?_ dX7_cellAt_12 ?_ (fun h12 => ?_) (fun h12 => ?_); (first | omega | exact b2n_31 _); (first | omega | exact b2n_31 _); decide) | refine x_icmp_ge (pc := 12) (tgt := 24) dX7_cellAt_12 (by decide) (fun h12 => ?_) (fun h12 => ?_)
    · skip
      omega
    · skip
      refine x_aload_n (pc := 15) dX7_cellAt_15 rfl ?_
      refine x_getR (pc := 16) dX7_cellAt_16 flX7_15 (by first | assumption | rfl) rfl ?_
      refine x_iload_n (pc := 19) dX7_cellAt_19 rfl ?_
      refine x_ialdN (pc := 20) dX7_cellAt_20 (by first | assumption | rfl) (by first | with_reducible rfl | (simp only [xlit, nI_add, pk_mul]; with_reducible rfl)) (by omega) (by decide) ?_
      rw [hp k (by omega)]
      refine x_goto (pc := 21) (tgt := 26) dX7_cellAt_21 (by decide) ?_
      refine x_ret (pc := 26) (v := some _) rfl trivial dX7_cellAt_26 (by decide) ?_
      rw [if_pos (by omega)] at h; exact h
theorem sp_X2_walkTo {gg : Nat} (hg : gg < 6) (hc : Car a) (hR : CR a M A w r)
    (h : ∀ M', xsame (a + 10) (a + 12) M M' → (∀ j, j < (wayL A gg).length → M'.1 (a + 11) j = nI ((wayL A gg).getD j 0)) → K (some (.int (nI (wayL A gg).length))) xSF M') : Ex g (d + 2) yX2_walkTo mX2_walkTo [.ref a, .int (nI gg)] xSF M K := by
  obtain ⟨c0, c1, c2, c3, c4, c5, c6, c7, c8, c9, c10, c11⟩ := hc
  refine x_entry kX2_walkTo (Nat.le_of_ble_eq_true rfl) ?_
  show Wp g _ mX2_walkTo 0 [some (.ref a), some (.int (nI gg)), none] [] _ _ _ _
  have hk7 := hR.kindB hg
  have hf16 := hR.fromB hg
  have ht16 := hR.toB hg
  have hfu := hR.furnB
  have tail : ∀ b : Nat, b < 2 → frB A gg = (if b = 0 then 65535 &&& (A 10 0 ^^^ 4294967295) else 65535) → Wp g (d + 2) mX2_walkTo 25 [some (.ref a), some (.int (nI gg)), none] [.int (nI b)] xSF (0, 0) M K := by
    intro b hb hfr
    refine x_istore_n (pc := 25) dX2_walkTo_25 (by decide) xs_2 (x_hp rfl) ?_
    refine x_aload_n (pc := 26) dX2_walkTo_26 rfl ?_
    refine x_getR (pc := 27) dX2_walkTo_27 flX2_48 (by first | assumption | rfl) rfl ?_
    refine x_aload_n (pc := 30) dX2_walkTo_30 rfl ?_
    refine x_getR (pc := 31) dX2_walkTo_31 flX2_21 (by first | assumption | rfl) rfl ?_
    refine x_iload_n (pc := 34) dX2_walkTo_34 rfl ?_
    refine x_ialdN (pc := 35) dX2_walkTo_35 (by first | assumption | rfl) (by first | with_reducible rfl | (simp only [xlit, nI_add, pk_mul]; with_reducible rfl)) (by omega) (by decide) ?_
    rw [hR.from hg]
    refine x_aload_n (pc := 36) dX2_walkTo_36 rfl ?_
    refine x_getR (pc := 37) dX2_walkTo_37 flX2_24 (by first | assumption | rfl) rfl ?_
    refine x_iload_n (pc := 40) dX2_walkTo_40 rfl ?_
    refine x_ialdN (pc := 41) dX2_walkTo_41 (by first | assumption | rfl) (by first | with_reducible rfl | (simp only [xlit, nI_add, pk_mul]; with_reducible rfl)) (by omega) (by decide) ?_
    rw [hR.to hg]
    refine x_iload_n (pc := 42) dX2_walkTo_42 rfl ?_
    first | (guard_target =~ Wp _ _ _ _ _ (Value.int (nI _) :: _) _ _ _ _; with_reducible refine x_if_eqN (pc := 43) (tgt := 51) ?_ dX2_walkTo_43 ?_ (fun h43 => ?_) (fun h43 => ?_); (first | omega | exact b2n_32 _ | exact b2n_31 _); decide) | refine x_if_eq (pc := 43) (tgt := 51) dX2_walkTo_43 (by decide) (fun h43 => ?_) (fun h43 => ?_)
    · skip
      refine x_ldc (pc := 51) (v := nI 65535) dX2_walkTo_51 ckX2_87 ?_
      refine x_aload_n (pc := 53) dX2_walkTo_53 rfl ?_
      refine x_getI (pc := 54) dX2_walkTo_54 flX2_64 (by first | assumption | rfl) rfl ?_
      rw [hR.furn]
      refine x_iconst (pc := 57) (v := nI 4294967295) dX2_walkTo_57 (by decide +kernel) ?_
      first | (guard_target =~ Wp _ _ _ _ _ (Value.int (nI _) :: Value.int (nI _) :: _) _ _ _ _; with_reducible refine x_ixorN (pc := 58) dX2_walkTo_58 ?_) | refine x_ixor (pc := 58) dX2_walkTo_58 ?_
      first | (guard_target =~ Wp _ _ _ _ _ (Value.int (nI _) :: Value.int (nI _) :: _) _ _ _ _; with_reducible refine x_iandN (pc := 59) dX2_walkTo_59 ?_) | refine x_iand (pc := 59) dX2_walkTo_59 ?_
      rw [if_pos h43] at hfr; rw [← hfr]
      exact x_invV3 (pc := 60) dX2_walkTo_60 mlX2_88 imX7_walk seX7_walk kX7_walk c9 rfl (Nat.le_of_ble_eq_true rfl) (by decide) (sp_X7_walk (frB_lt A gg) hf16 ht16 c9 c10 c11 (fun M' hs hp => x_cv rfl rfl (x_ret (pc := 63) (v := some _) rfl trivial dX2_walkTo_63 (by decide) (h M' hs hp))))
    · skip
      refine x_ldc (pc := 46) (v := nI 65535) dX2_walkTo_46 ckX2_87 ?_
      refine x_goto (pc := 48) (tgt := 60) dX2_walkTo_48 (by decide) ?_
      rw [if_neg h43] at hfr; rw [← hfr]
      exact x_invV3 (pc := 60) dX2_walkTo_60 mlX2_88 imX7_walk seX7_walk kX7_walk c9 rfl (Nat.le_of_ble_eq_true rfl) (by decide) (sp_X7_walk (frB_lt A gg) hf16 ht16 c9 c10 c11 (fun M' hs hp => x_cv rfl rfl (x_ret (pc := 63) (v := some _) rfl trivial dX2_walkTo_63 (by decide) (h M' hs hp))))
  refine x_aload_n (pc := 0) dX2_walkTo_0 rfl ?_
  refine x_getR (pc := 1) dX2_walkTo_1 flX2_15 (by first | assumption | rfl) rfl ?_
  refine x_iload_n (pc := 4) dX2_walkTo_4 rfl ?_
  refine x_ialdN (pc := 5) dX2_walkTo_5 (by first | assumption | rfl) (by first | with_reducible rfl | (simp only [xlit, nI_add, pk_mul]; with_reducible rfl)) (by omega) (by decide) ?_
  rw [hR.kind hg]
  refine x_iconstN (pc := 6) 2 dX2_walkTo_6 ic_2 ?_
  first | (guard_target =~ Wp _ _ _ _ _ (Value.int (nI _) :: Value.int (nI _) :: _) _ _ _ _; with_reducible refine x_icmp_eqN (pc := 7) (tgt := 20) ?_ ?_ dX2_walkTo_7 ?_ (fun h7 => ?_) (fun h7 => ?_); (first | omega | exact b2n_31 _); (first | omega | exact b2n_31 _); decide) | refine x_icmp_eq (pc := 7) (tgt := 20) dX2_walkTo_7 (by decide) (fun h7 => ?_) (fun h7 => ?_)
  · skip
    refine x_iconstN (pc := 20) 1 dX2_walkTo_20 ic_1 ?_
    refine x_goto (pc := 21) (tgt := 25) dX2_walkTo_21 (by decide) ?_
    exact tail 1 (by decide) (by unfold frB; rw [if_pos (Or.inl h7)]; rfl)
  · skip
    refine x_aload_n (pc := 10) dX2_walkTo_10 rfl ?_
    refine x_getR (pc := 11) dX2_walkTo_11 flX2_15 (by first | assumption | rfl) rfl ?_
    refine x_iload_n (pc := 14) dX2_walkTo_14 rfl ?_
    refine x_ialdN (pc := 15) dX2_walkTo_15 (by first | assumption | rfl) (by first | with_reducible rfl | (simp only [xlit, nI_add, pk_mul]; with_reducible rfl)) (by omega) (by decide) ?_
    rw [hR.kind hg]
    refine x_iconstN (pc := 16) 5 dX2_walkTo_16 ic_5 ?_
    first | (guard_target =~ Wp _ _ _ _ _ (Value.int (nI _) :: Value.int (nI _) :: _) _ _ _ _; with_reducible refine x_icmp_neN (pc := 17) (tgt := 24) ?_ ?_ dX2_walkTo_17 ?_ (fun h17 => ?_) (fun h17 => ?_); (first | omega | exact b2n_31 _); (first | omega | exact b2n_31 _); decide) | refine x_icmp_ne (pc := 17) (tgt := 24) dX2_walkTo_17 (by decide) (fun h17 => ?_) (fun h17 => ?_)
    · skip
      refine x_iconstN (pc := 24) 0 dX2_walkTo_24 ic_0 ?_
      exact tail 0 (by decide) (by unfold frB; rw [if_neg (by omega)]; rfl)
    · skip
      refine x_iconstN (pc := 20) 1 dX2_walkTo_20 ic_1 ?_
      refine x_goto (pc := 21) (tgt := 25) dX2_walkTo_21 (by decide) ?_
      exact tail 1 (by decide) (by unfold frB; rw [if_pos (Or.inr h17)]; rfl)
end P19
