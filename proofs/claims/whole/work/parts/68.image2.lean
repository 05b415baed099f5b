/-! the MODEL's calls: image, undo -/
theorem lk_none {P : Nat → Bool} {a : Nat} (ha : P a = false) : ∀ L : List (Nat × Nat), L.all (fun p => P p.1) = true → L.lookup a = none := by
  intro L
  induction L with
  | nil => intro _; rfl
  | cons p t ih =>
    intro h
    simp only [List.all_cons, Bool.and_eq_true] at h
    obtain ⟨p1, p2⟩ := p
    have hne : (a == p1) = false := beq_false_of_ne (fun q => by subst q; rw [ha] at h; cases h.1)
    simp only [List.lookup, hne]
    exact ih h.2
def rwI (a : Nat) : Bool := decide (95 ≤ a) && decide (a ≤ 107)
def rwP (a : Nat) : Bool := (decide (66 ≤ a) && decide (a ≤ 71)) || (decide (88 ≤ a) && decide (a ≤ 94))
theorem cpL_out {P : Nat → Bool} {L : List (Nat × Nat)} {n a : Nat} {M : XM} (h : L.all (fun p => P p.1) = true) (ha : P a = false) : (cpL L n M).1 a = M.1 a := cpL_no (lk_none ha L h)
/-- the image's rows, laid -/
def laidI (M : XM) : XM := cpL [(106, 93), (107, 94)] 8 (cpL [(104, 91), (105, 92)] 10 (cpL [(101, 88), (102, 89), (103, 90)] 5 (cpL [(100, 71)] 24 (cpL [(96, 67), (97, 68), (98, 69), (99, 70)] 6 (cpL [(95, 66)] 16 M)))))
def laidP (M : XM) : XM := cpL [(93, 106), (94, 107)] 8 (cpL [(91, 104), (92, 105)] 10 (cpL [(88, 101), (89, 102), (90, 103)] 5 (cpL [(71, 100)] 24 (cpL [(67, 96), (68, 97), (69, 98), (70, 99)] 6 (cpL [(66, 95)] 16 M)))))
theorem laidI_2 {M : XM} : (laidI M).2 = M.2 := rfl
theorem laidP_2 {M : XM} : (laidP M).2 = M.2 := rfl
theorem laidI_out {M : XM} {a : Nat} (ha : rwI a = false) : (laidI M).1 a = M.1 a := by
  unfold laidI
  rw [cpL_out (P := rwI) rfl ha, cpL_out (P := rwI) rfl ha, cpL_out (P := rwI) rfl ha, cpL_out (P := rwI) rfl ha, cpL_out (P := rwI) rfl ha, cpL_out (P := rwI) rfl ha]
theorem laidP_out {M : XM} {a : Nat} (ha : rwP a = false) : (laidP M).1 a = M.1 a := by
  unfold laidP
  rw [cpL_out (P := rwP) rfl ha, cpL_out (P := rwP) rfl ha, cpL_out (P := rwP) rfl ha, cpL_out (P := rwP) rfl ha, cpL_out (P := rwP) rfl ha, cpL_out (P := rwP) rfl ha]
theorem laidI_r {M : XM} {k j : Nat} (hk : k < 6) (hj : j < clen k) : (laidI M).1 (95 + k) j = M.1 (66 + k) j := by
  have hh : k = 0 ∨ k = 1 ∨ k = 2 ∨ k = 3 ∨ k = 4 ∨ k = 5 := by omega
  rcases hh with rfl | rfl | rfl | rfl | rfl | rfl <;> simp [clen] at hj <;> simp [laidI, cpL, List.lookup, hj]
theorem laidP_r {M : XM} {k j : Nat} (hk : k < 6) (hj : j < clen k) : (laidP M).1 (66 + k) j = M.1 (95 + k) j := by
  have hh : k = 0 ∨ k = 1 ∨ k = 2 ∨ k = 3 ∨ k = 4 ∨ k = 5 := by omega
  rcases hh with rfl | rfl | rfl | rfl | rfl | rfl <;> simp [clen] at hj <;> simp [laidP, cpL, List.lookup, hj]
theorem laidI_n {M : XM} {k j : Nat} (hk : k < 7) (hj : j < ([5, 5, 5, 10, 10, 8, 8] : List Nat).getD k 0) : (laidI M).1 (101 + k) j = M.1 (88 + k) j := by
  have hh : k = 0 ∨ k = 1 ∨ k = 2 ∨ k = 3 ∨ k = 4 ∨ k = 5 ∨ k = 6 := by omega
  rcases hh with rfl | rfl | rfl | rfl | rfl | rfl | rfl <;> simp at hj <;> simp [laidI, cpL, List.lookup, hj]
theorem laidP_n {M : XM} {k j : Nat} (hk : k < 7) (hj : j < ([5, 5, 5, 10, 10, 8, 8] : List Nat).getD k 0) : (laidP M).1 (88 + k) j = M.1 (101 + k) j := by
  have hh : k = 0 ∨ k = 1 ∨ k = 2 ∨ k = 3 ∨ k = 4 ∨ k = 5 ∨ k = 6 := by omega
  rcases hh with rfl | rfl | rfl | rfl | rfl | rfl | rfl <;> simp at hj <;> simp [laidP, cpL, List.lookup, hj]
section P68
variable {g : XG} {d : Nat} {M : XM} {K : Option Value → XS → XM → Prop} {s : XSt}
theorem fM_image (hN : bdN (qN s)) (hC : MC9 M s) (h : ∀ M', high M M' → MC9 M' (opImage s).2 → K (some (.int (opImage s).1)) xSF M') : Ex g d yX10_image mX10_image [.ref 65] xSF M K := by
  unfold opImage at h
  refine x_entry kX10_image (Nat.le_of_ble_eq_true rfl) ?_
  show Wp g _ mX10_image 0 [some (.ref 65), none] [] _ _ _ _
  have fin : ∀ P : XM, (∀ a, a ≠ 65 → P.1 a = M.1 a) → P.2 = M.2 → (∀ k, ¬ (49 ≤ k ∧ k ≤ 57) → P.1 65 k = M.1 65 k) → P.1 65 49 = nI 1 → P.1 65 50 = M.1 65 11 → P.1 65 51 = M.1 65 0 → P.1 65 52 = M.1 65 1 → P.1 65 53 = M.1 65 2 → P.1 65 54 = M.1 65 3 → P.1 65 55 = M.1 65 39 → P.1 65 56 = M.1 65 43 → P.1 65 57 = M.1 65 44 → K (some (.int ((laidI P).1 65 0))) xSF (laidI P) := by
    intro P e e2 e5 p49 p50 p51 p52 p53 p54 p55 p56 p57
    have q65 : (laidI P).1 65 = P.1 65 := laidI_out rfl
    have eo : ∀ a, rwI a = false → a ≠ 65 → (laidI P).1 a = M.1 a := fun a h1 h2 => (laidI_out h1).trans (e a h2)
    have k1 : ∀ w : Nat → Nat → Bool, (∀ a k, w a k = true → rwI a = false ∧ ¬ (a = 65 ∧ 49 ≤ k ∧ k ≤ 57)) → ksm w M (laidI P) := by
      intro w hw a k q
      obtain ⟨z1, z2⟩ := hw a k q
      by_cases a65 : a = 65
      · subst a65; rw [q65]; exact e5 k (fun z => z2 ⟨rfl, z⟩)
      · rw [eo a z1 a65]
    obtain ⟨r1, r2, r3, r4, r5, r6, r7, r8, r9⟩ := hC.1
    obtain ⟨n1, n2, n3, n4, n5, n6⟩ := hN
    suffices hh : MC9 (laidI P) (s.1, some s.1, s.2.2) ∧ high M (laidI P) by
      rw [q65, e5 0 (by decide), r1]; exact h _ hh.2 hh.1
    refine ⟨hC.upI (k1 _ ?_) (k1 _ ?_) (k1 _ ?_) (k1 _ ?_) (k1 _ ?_) (laidI_2.trans e2) ⟨by rw [q65]; exact p49, ?_⟩, fun a ha => ?_, fun a _ => by rw [laidI_2, e2]⟩
    · intro a k q; simp [wP, rwI] at q ⊢; omega
    · intro a k q; simp [wR, rwI] at q ⊢; omega
    · intro a k q; simp [wT, rwI] at q ⊢; omega
    · intro a k q; simp [wA, rwI] at q ⊢; omega
    · intro a k q; simp [wC, rwI] at q ⊢; omega
    · unfold MIq
      rw [q65, p50, p51, p52, p53, p54, p55, p56, p57]
      refine ⟨r1, r2, r3, r4, r5, fun k hk j hj => ?_, ⟨r7.1, fun j hj => ?_⟩, ⟨r8.1, fun j hj => ?_⟩, ⟨r9.1, fun j hj => ?_⟩⟩
      · rw [laidI_r hk hj, e _ (by omega)]; exact r6 k hk j hj
      · have hj5 : j < 5 := Nat.lt_of_lt_of_le hj n4
        rw [laidI_n (k := 0) (by decide) hj5, laidI_n (k := 1) (by decide) hj5, laidI_n (k := 2) (by decide) hj5, e 88 (by decide), e 89 (by decide), e 90 (by decide)]; exact r7.2 j hj
      · have hj5 : j < 10 := Nat.lt_of_lt_of_le hj n5
        rw [laidI_n (k := 3) (by decide) hj5, laidI_n (k := 4) (by decide) hj5, e 91 (by decide), e 92 (by decide)]; exact r8.2 j hj
      · have hj5 : j < 8 := Nat.lt_of_lt_of_le hj n6
        rw [laidI_n (k := 5) (by decide) hj5, laidI_n (k := 6) (by decide) hj5, e 93 (by decide), e 94 (by decide)]; exact r9.2 j hj
    · rw [eo a (by simp [rwI]; omega) (by omega)]
  refine x_aload_n (pc := 0) dX10_image_0 rfl ?_
  refine x_iconstN (pc := 1) 1 dX10_image_1 ic_1 ?_
  refine x_putI (pc := 2) dX10_image_2 flX10_159 (by first | assumption | rfl) rfl (by first | rfl | decide) (by first | rfl | decide) ?_
  refine x_aload_n (pc := 5) dX10_image_5 rfl ?_
  refine x_aload_n (pc := 6) dX10_image_6 rfl ?_
  refine x_getI (pc := 7) dX10_image_7 flX10_44 (by first | assumption | rfl) rfl ?_
  refine x_putI (pc := 10) dX10_image_10 flX10_163 (by first | assumption | rfl) rfl rfl rfl ?_
  refine x_aload_n (pc := 13) dX10_image_13 rfl ?_
  refine x_aload_n (pc := 14) dX10_image_14 rfl ?_
  refine x_getI (pc := 15) dX10_image_15 flX10_7 (by first | assumption | rfl) rfl ?_
  refine x_putI (pc := 18) dX10_image_18 flX10_166 (by first | assumption | rfl) rfl rfl rfl ?_
  refine x_aload_n (pc := 21) dX10_image_21 rfl ?_
  refine x_aload_n (pc := 22) dX10_image_22 rfl ?_
  refine x_getI (pc := 23) dX10_image_23 flX10_13 (by first | assumption | rfl) rfl ?_
  refine x_putI (pc := 26) dX10_image_26 flX10_169 (by first | assumption | rfl) rfl rfl rfl ?_
  refine x_aload_n (pc := 29) dX10_image_29 rfl ?_
  refine x_aload_n (pc := 30) dX10_image_30 rfl ?_
  refine x_getI (pc := 31) dX10_image_31 flX10_16 (by first | assumption | rfl) rfl ?_
  refine x_putI (pc := 34) dX10_image_34 flX10_172 (by first | assumption | rfl) rfl rfl rfl ?_
  refine x_aload_n (pc := 37) dX10_image_37 rfl ?_
  refine x_aload_n (pc := 38) dX10_image_38 rfl ?_
  refine x_getI (pc := 39) dX10_image_39 flX10_19 (by first | assumption | rfl) rfl ?_
  refine x_putI (pc := 42) dX10_image_42 flX10_175 (by first | assumption | rfl) rfl rfl rfl ?_
  refine x_aload_n (pc := 45) dX10_image_45 rfl ?_
  refine x_aload_n (pc := 46) dX10_image_46 rfl ?_
  refine x_getI (pc := 47) dX10_image_47 flX10_129 (by first | assumption | rfl) rfl ?_
  refine x_putI (pc := 50) dX10_image_50 flX10_178 (by first | assumption | rfl) rfl rfl rfl ?_
  refine x_aload_n (pc := 53) dX10_image_53 rfl ?_
  refine x_aload_n (pc := 54) dX10_image_54 rfl ?_
  refine x_getI (pc := 55) dX10_image_55 flX10_141 (by first | assumption | rfl) rfl ?_
  refine x_putI (pc := 58) dX10_image_58 flX10_181 (by first | assumption | rfl) rfl rfl rfl ?_
  refine x_aload_n (pc := 61) dX10_image_61 rfl ?_
  refine x_aload_n (pc := 62) dX10_image_62 rfl ?_
  refine x_getI (pc := 63) dX10_image_63 flX10_144 (by first | assumption | rfl) rfl ?_
  refine x_putI (pc := 66) dX10_image_66 flX10_184 (by first | assumption | rfl) rfl rfl rfl ?_
  refine x_iconstN (pc := 69) 0 dX10_image_69 ic_0 ?_
  refine x_istore_n (pc := 70) dX10_image_70 (by decide) xs_1 (x_hp rfl) ?_
  refine wp_mem cpL_0 (cp_X10_image_0 ?_ 16 0 rfl)
  refine x_iconstN (pc := 95) 0 dX10_image_95 ic_0 ?_
  refine x_istore_n (pc := 96) dX10_image_96 (by decide) xs_1 (x_hp rfl) ?_
  refine wp_mem cpL_0 (cp_X10_image_1 ?_ 6 0 rfl)
  refine x_iconstN (pc := 157) 0 dX10_image_157 ic_0 ?_
  refine x_istore_n (pc := 158) dX10_image_158 (by decide) xs_1 (x_hp rfl) ?_
  refine wp_mem cpL_0 (cp_X10_image_2 ?_ 24 0 rfl)
  refine x_iconstN (pc := 183) 0 dX10_image_183 ic_0 ?_
  refine x_istore_n (pc := 184) dX10_image_184 (by decide) xs_1 (x_hp rfl) ?_
  refine wp_mem cpL_0 (cp_X10_image_3 ?_ 5 0 rfl)
  refine x_iconstN (pc := 232) 0 dX10_image_232 ic_0 ?_
  refine x_istore_n (pc := 233) dX10_image_233 (by decide) xs_1 (x_hp rfl) ?_
  refine wp_mem cpL_0 (cp_X10_image_4 ?_ 10 0 rfl)
  refine x_iconstN (pc := 270) 0 dX10_image_270 ic_0 ?_
  refine x_istore_n (pc := 271) dX10_image_271 (by decide) xs_1 (x_hp rfl) ?_
  refine wp_mem cpL_0 (cp_X10_image_5 ?_ 8 0 rfl)
  refine x_aload_n (pc := 308) dX10_image_308 rfl ?_
  refine x_getI (pc := 309) dX10_image_309 flX10_7 (by first | assumption | rfl) rfl ?_
  refine x_ret (pc := 312) (v := some _) rfl trivial dX10_image_312 (by decide) ?_
  exact fin _ (fun a ha => funext fun k => by simp [xput, ha]) rfl (fun k hk => by simp [xput, show k ≠ 49 by omega, show k ≠ 50 by omega, show k ≠ 51 by omega, show k ≠ 52 by omega, show k ≠ 53 by omega, show k ≠ 54 by omega, show k ≠ 55 by omega, show k ≠ 56 by omega, show k ≠ 57 by omega]) (by simp [xput]) (by simp [xput]) (by simp [xput]) (by simp [xput]) (by simp [xput]) (by simp [xput]) (by simp [xput]) (by simp [xput]) (by simp [xput])
theorem fM_undo (hC : MC9 M s) (hI : ∀ q, s.2.1 = some q → bdN q.2.2.2.1) (h : ∀ M', high M M' → MC9 M' (opUndo s).2 → K (some (.int (opUndo s).1)) xSF M') : Ex g d yX10_undo mX10_undo [.ref 65] xSF M K := by
  unfold opUndo at h
  have fin : ∀ (q : XQ) (P : XM), MIq M q → bdN q.2.2.2.1 → (∀ a, a ≠ 65 → P.1 a = M.1 a) → P.2 = M.2 → (∀ k, wP 65 k = false → P.1 65 k = M.1 65 k) → P.1 65 11 = M.1 65 50 → P.1 65 0 = M.1 65 51 → P.1 65 1 = M.1 65 52 → P.1 65 2 = M.1 65 53 → P.1 65 3 = M.1 65 54 → P.1 65 39 = M.1 65 55 → P.1 65 43 = M.1 65 56 → P.1 65 44 = M.1 65 57 → (∀ M', high M M' → MC9 M' (q, s.2) → K (some (.int (nI (q.1 8 0)))) xSF M') → Wp g d mX10_undo 76 [some (.ref 65), some (.int (nI 0))] [] xSF (0, 0) P K := by
    intro q P hq hN e e2 e5 p50 p51 p52 p53 p54 p55 p56 p57 h
    have q65 : (laidP P).1 65 = P.1 65 := laidP_out rfl
    have eo : ∀ a, rwP a = false → a ≠ 65 → (laidP P).1 a = M.1 a := fun a h1 h2 => (laidP_out h1).trans (e a h2)
    have k1 : ∀ w : Nat → Nat → Bool, (∀ a k, w a k = true → rwP a = false ∧ ¬ (a = 65 ∧ wP 65 k = true)) → ksm w M (laidP P) := by
      intro w hw a k q
      obtain ⟨z1, z2⟩ := hw a k q
      by_cases a65 : a = 65
      · subst a65; rw [q65]; exact e5 k (by cases hz : wP 65 k; rfl; exact absurd ⟨rfl, hz⟩ z2)
      · rw [eo a z1 a65]
    obtain ⟨r1, r2, r3, r4, r5, r6, r7, r8, r9⟩ := hq
    obtain ⟨n1, n2, n3, n4, n5, n6⟩ := hN
    suffices hh : MC9 (laidP P) (q, s.2) ∧ high M (laidP P) by
      have rr : K (some (.int ((laidP P).1 65 0))) xSF (laidP P) := by rw [q65, p51, r1]; exact h _ hh.2 hh.1
      refine wp_mem cpL_0 (cp_X10_undo_0 ?_ 16 0 rfl)
      refine x_iconstN (pc := 100) 0 dX10_undo_100 ic_0 ?_
      refine x_istore_n (pc := 101) dX10_undo_101 (by decide) xs_1 (x_hp rfl) ?_
      refine wp_mem cpL_0 (cp_X10_undo_1 ?_ 6 0 rfl)
      refine x_iconstN (pc := 162) 0 dX10_undo_162 ic_0 ?_
      refine x_istore_n (pc := 163) dX10_undo_163 (by decide) xs_1 (x_hp rfl) ?_
      refine wp_mem cpL_0 (cp_X10_undo_2 ?_ 24 0 rfl)
      refine x_iconstN (pc := 188) 0 dX10_undo_188 ic_0 ?_
      refine x_istore_n (pc := 189) dX10_undo_189 (by decide) xs_1 (x_hp rfl) ?_
      refine wp_mem cpL_0 (cp_X10_undo_3 ?_ 5 0 rfl)
      refine x_iconstN (pc := 237) 0 dX10_undo_237 ic_0 ?_
      refine x_istore_n (pc := 238) dX10_undo_238 (by decide) xs_1 (x_hp rfl) ?_
      refine wp_mem cpL_0 (cp_X10_undo_4 ?_ 10 0 rfl)
      refine x_iconstN (pc := 275) 0 dX10_undo_275 ic_0 ?_
      refine x_istore_n (pc := 276) dX10_undo_276 (by decide) xs_1 (x_hp rfl) ?_
      refine wp_mem cpL_0 (cp_X10_undo_5 ?_ 8 0 rfl)
      refine x_aload_n (pc := 313) dX10_undo_313 rfl ?_
      refine x_getI (pc := 314) dX10_undo_314 flX10_7 (by first | assumption | rfl) rfl ?_
      refine x_ret (pc := 317) (v := some _) rfl trivial dX10_undo_317 (by decide) ?_
      exact rr
    have hh : high M (laidP P) := ⟨fun a ha => by rw [eo a (by simp [rwP]; omega) (by omega)], fun a _ => by rw [laidP_2, e2]⟩
    refine ⟨hC.up ⟨hh, k1 _ ?_, k1 _ ?_, k1 _ ?_, k1 _ ?_, k1 _ ?_, laidP_2.trans e2⟩ ?_, hh⟩
    · intro a k q; simp [wI, wP, rwP] at q ⊢; omega
    · intro a k q; simp [wR, wP, rwP] at q ⊢; omega
    · intro a k q; simp [wT, wP, rwP] at q ⊢; omega
    · intro a k q; simp [wA, wP, rwP] at q ⊢; omega
    · intro a k q; simp [wC, wP, rwP] at q ⊢; omega
    · unfold MPq
      rw [q65, p50, p51, p52, p53, p54, p55, p56, p57]
      refine ⟨r1, r2, r3, r4, r5, fun k hk j hj => ?_, ⟨r7.1, fun j hj => ?_⟩, ⟨r8.1, fun j hj => ?_⟩, ⟨r9.1, fun j hj => ?_⟩⟩
      · rw [laidP_r hk hj, e _ (by omega)]; exact r6 k hk j hj
      · have hj5 : j < 5 := Nat.lt_of_lt_of_le hj n4
        rw [laidP_n (k := 0) (by decide) hj5, laidP_n (k := 1) (by decide) hj5, laidP_n (k := 2) (by decide) hj5, e 101 (by decide), e 102 (by decide), e 103 (by decide)]; exact r7.2 j hj
      · have hj5 : j < 10 := Nat.lt_of_lt_of_le hj n5
        rw [laidP_n (k := 3) (by decide) hj5, laidP_n (k := 4) (by decide) hj5, e 104 (by decide), e 105 (by decide)]; exact r8.2 j hj
      · have hj5 : j < 8 := Nat.lt_of_lt_of_le hj n6
        rw [laidP_n (k := 5) (by decide) hj5, laidP_n (k := 6) (by decide) hj5, e 106 (by decide), e 107 (by decide)]; exact r9.2 j hj
  refine x_entry kX10_undo (Nat.le_of_ble_eq_true rfl) ?_
  show Wp g _ mX10_undo 0 [some (.ref 65), none] [] _ _ _ _
  cases hs : s.2.1 with
  | none =>
    have hm : M.1 65 49 = nI 0 := by have z := hC.2.1; rw [hs] at z; exact z
    rw [hs] at h
    refine x_aload_n (pc := 0) dX10_undo_0 rfl ?_
    refine x_getI (pc := 1) dX10_undo_1 flX10_159 (by first | assumption | rfl) rfl ?_
    rw [hm]
    first | (guard_target =~ Wp _ _ _ _ _ (Value.int (nI _) :: _) _ _ _ _; with_reducible refine x_if_neN (pc := 4) (tgt := 10) ?_ dX10_undo_4 ?_ (fun h4 => ?_) (fun h4 => ?_); (first | omega | exact b2n_32 _ | exact b2n_31 _); decide) | refine x_if_ne (pc := 4) (tgt := 10) dX10_undo_4 (by decide) (fun h4 => ?_) (fun h4 => ?_)
    · skip
      exact absurd rfl h4
    · skip
      refine x_bipush (pc := 7) dX10_undo_7 bp_m3 ?_
      refine x_ret (pc := 9) (v := some _) rfl trivial dX10_undo_9 (by decide) ?_
      exact h M high.rf hC
  | some q =>
    have hm : M.1 65 49 = nI 1 ∧ MIq M q := by have z := hC.2.1; rw [hs] at z; exact z
    rw [hs] at h
    refine x_aload_n (pc := 0) dX10_undo_0 rfl ?_
    refine x_getI (pc := 1) dX10_undo_1 flX10_159 (by first | assumption | rfl) rfl ?_
    rw [hm.1]
    first | (guard_target =~ Wp _ _ _ _ _ (Value.int (nI _) :: _) _ _ _ _; with_reducible refine x_if_neN (pc := 4) (tgt := 10) ?_ dX10_undo_4 ?_ (fun h4 => ?_) (fun h4 => ?_); (first | omega | exact b2n_32 _ | exact b2n_31 _); decide) | refine x_if_ne (pc := 4) (tgt := 10) dX10_undo_4 (by decide) (fun h4 => ?_) (fun h4 => ?_)
    · skip
      refine x_aload_n (pc := 10) dX10_undo_10 rfl ?_
      refine x_aload_n (pc := 11) dX10_undo_11 rfl ?_
      refine x_getI (pc := 12) dX10_undo_12 flX10_163 (by first | assumption | rfl) rfl ?_
      refine x_putI (pc := 15) dX10_undo_15 flX10_44 (by first | assumption | rfl) rfl rfl rfl ?_
      refine x_aload_n (pc := 18) dX10_undo_18 rfl ?_
      refine x_aload_n (pc := 19) dX10_undo_19 rfl ?_
      refine x_getI (pc := 20) dX10_undo_20 flX10_166 (by first | assumption | rfl) rfl ?_
      refine x_putI (pc := 23) dX10_undo_23 flX10_7 (by first | assumption | rfl) rfl rfl rfl ?_
      refine x_aload_n (pc := 26) dX10_undo_26 rfl ?_
      refine x_aload_n (pc := 27) dX10_undo_27 rfl ?_
      refine x_getI (pc := 28) dX10_undo_28 flX10_169 (by first | assumption | rfl) rfl ?_
      refine x_putI (pc := 31) dX10_undo_31 flX10_13 (by first | assumption | rfl) rfl rfl rfl ?_
      refine x_aload_n (pc := 34) dX10_undo_34 rfl ?_
      refine x_aload_n (pc := 35) dX10_undo_35 rfl ?_
      refine x_getI (pc := 36) dX10_undo_36 flX10_172 (by first | assumption | rfl) rfl ?_
      refine x_putI (pc := 39) dX10_undo_39 flX10_16 (by first | assumption | rfl) rfl rfl rfl ?_
      refine x_aload_n (pc := 42) dX10_undo_42 rfl ?_
      refine x_aload_n (pc := 43) dX10_undo_43 rfl ?_
      refine x_getI (pc := 44) dX10_undo_44 flX10_175 (by first | assumption | rfl) rfl ?_
      refine x_putI (pc := 47) dX10_undo_47 flX10_19 (by first | assumption | rfl) rfl rfl rfl ?_
      refine x_aload_n (pc := 50) dX10_undo_50 rfl ?_
      refine x_aload_n (pc := 51) dX10_undo_51 rfl ?_
      refine x_getI (pc := 52) dX10_undo_52 flX10_178 (by first | assumption | rfl) rfl ?_
      refine x_putI (pc := 55) dX10_undo_55 flX10_129 (by first | assumption | rfl) rfl rfl rfl ?_
      refine x_aload_n (pc := 58) dX10_undo_58 rfl ?_
      refine x_aload_n (pc := 59) dX10_undo_59 rfl ?_
      refine x_getI (pc := 60) dX10_undo_60 flX10_181 (by first | assumption | rfl) rfl ?_
      refine x_putI (pc := 63) dX10_undo_63 flX10_141 (by first | assumption | rfl) rfl rfl rfl ?_
      refine x_aload_n (pc := 66) dX10_undo_66 rfl ?_
      refine x_aload_n (pc := 67) dX10_undo_67 rfl ?_
      refine x_getI (pc := 68) dX10_undo_68 flX10_184 (by first | assumption | rfl) rfl ?_
      refine x_putI (pc := 71) dX10_undo_71 flX10_144 (by first | assumption | rfl) rfl rfl rfl ?_
      refine x_iconstN (pc := 74) 0 dX10_undo_74 ic_0 ?_
      refine x_istore_n (pc := 75) dX10_undo_75 (by decide) xs_1 (x_hp rfl) ?_
      exact fin q _ hm.2 (hI q hs) (fun a ha => funext fun k => by simp [xput, ha]) rfl (fun k hk => by simp [wP] at hk; simp [xput, hk]) (by simp [xput]) (by simp [xput]) (by simp [xput]) (by simp [xput]) (by simp [xput]) (by simp [xput]) (by simp [xput]) (by simp [xput]) h
    · skip
      cases h4
end P68
