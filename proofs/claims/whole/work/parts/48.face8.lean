/-! the program's calls: image, undo, act, trace, taken, count -/
def sTr (s : XSt) : List Nat := s.2.2.2.2.2.2.2
def opImage (s : XSt) : Int32 × XSt := (nI (s.1.1 8 0), (s.1, some s.1, s.2.2))
def opUndo (s : XSt) : Int32 × XSt := match s.2.1 with
  | none => (-3, s)
  | some q => (nI (q.1 8 0), (q, s.2))
def trSt (s : XSt) (l : List Nat) : XSt := (s.1, s.2.1, s.2.2.1, s.2.2.2.1, s.2.2.2.2.1, s.2.2.2.2.2.1, s.2.2.2.2.2.2.1, l)
def actA (s : XSt) (x : Nat) (a : Nat) (z : Int32) : Int32 × List Nat := aRun (nI x) (nI (s.1.1 2 x)) (s.1.1 1 x) 13 (s.1.1 1 x) a z
def opAct (s : XSt) (x a z : Int32) : Int32 × XSt := if isR x (nI (s.1.1 8 0)) = true ∧ isR a (nI 3) = true then ((actA s (toN x) (toN a) z).1, trSt s (actA s (toN x) (toN a) z).2) else (0, trSt s [])
def vTrace (s : XSt) (i : Int32) : Int32 := if isR i 20 = true ∧ i < nI (sTr s).length then nI ((sTr s).getD i.toNatClampNeg 0) else -1
def vTaken (s : XSt) (x k : Int32) : Int32 := if isR k (nI 7) = true then (if isR x (nI (s.1.1 8 0)) = true then (if isU7 (s.1.1 1 (toN x)) (toN k) = true then nI (s.1.1 1 (toN x)) else -12) else -11) else -2
def countN (s : XSt) (j : Nat) : Int32 := if j = 0 then nI (s.1.1 8 0) else if j = 1 then nI (sMd s) else if j = 2 then nI (qN s 7 0) else if j = 3 then nI (qN s 8 0) else if j = 4 then nI (qN s 9 0) else if j = 5 then nI (sLn s (sMd s)) else nI (sTr s).length
def vCount (s : XSt) (x : Int32) : Int32 := if isR x (nI 7) = true then countN s (toN x) else -2
section P48
variable {g : XG} {d : Nat} {M : XM} {K : Option Value → XS → XM → Prop} {s : XSt}
theorem fX9_image (hC : XC9 M s) (h : ∀ M', low M M' → XC9 M' (opImage s).2 → K (some (.int (opImage s).1)) xSF M') : Ex g (d + 2) yX9_image mX9_image [.ref 0] xSF M K := by
  have hR := hC.1.1
  refine x_entry kX9_image (Nat.le_of_ble_eq_true rfl) ?_
  show Wp g _ mX9_image 0 [some (.ref 0)] [] _ _ _ _
  refine x_aload_n (pc := 0) dX9_image_0 rfl ?_
  refine x_getR (pc := 1) dX9_image_1 flX9_18 (by first | assumption | rfl) rfl ?_
  refine x_aload_n (pc := 4) dX9_image_4 rfl ?_
  refine x_getR (pc := 5) dX9_image_5 flX9_12 (by first | assumption | rfl) rfl ?_
  refine x_invV1 (pc := 8) dX9_image_8 mlX9_287 imX2_become seX2_become kX2_become (by first | assumption | rfl) rfl (Nat.le_of_ble_eq_true rfl) (by decide) ?_
  refine sp_X2_become (by decide) car13 car1 hR (fun M1 hs1 hR1 => ?_)
  refine x_cn rfl rfl ?_
  refine x_aload_n (pc := 11) dX9_image_11 rfl ?_
  refine x_getR (pc := 12) dX9_image_12 flX9_28 (by first | assumption | rfl) rfl ?_
  refine x_aload_n (pc := 15) dX9_image_15 rfl ?_
  refine x_getR (pc := 16) dX9_image_16 flX9_24 (by first | assumption | rfl) rfl ?_
  refine x_invV1 (pc := 19) dX9_image_19 mlX9_291 imX5_become seX5_become kX5_become (by first | assumption | rfl) rfl (Nat.le_of_ble_eq_true rfl) (by decide) ?_
  refine sp_X5_become (by decide) nots33 nots25 (hC.1.2.out hs1 (by decide)) (fun M2 hs2 hN2 => ?_)
  refine x_cn rfl rfl ?_
  refine x_aload_n (pc := 22) dX9_image_22 rfl ?_
  refine x_iconstN (pc := 23) 1 dX9_image_23 ic_1 ?_
  refine x_putI (pc := 24) dX9_image_24 flX9_294 (by first | assumption | rfl) rfl (by first | rfl | decide) (by first | rfl | decide) ?_
  refine x_aload_n (pc := 27) dX9_image_27 rfl ?_
  refine x_getR (pc := 28) dX9_image_28 flX9_12 (by first | assumption | rfl) rfl ?_
  refine x_getI (pc := 31) dX9_image_31 flX9_76 (by first | assumption | rfl) rfl ?_
  rw [show (xput M2 0 4 (nI 1)).1 1 8 = nI (s.1.1 8 0) from ((hR.out hs1 (by decide)).out hs2 (by decide)).goers]
  refine x_ret (pc := 34) (v := some _) rfl trivial dX9_image_34 (by decide) ?_
  have e : ∀ a, (1 ≤ a ∧ a < 13) ∨ (25 ≤ a ∧ a < 33) ∨ 41 ≤ a → (xput M2 0 4 (nI 1)).1 a = M.1 a := fun a ha => by
    have e1 : (xput M2 0 4 (nI 1)).1 a = M2.1 a := funext fun k => if_neg (by omega)
    rw [e1, hs2.1 a (by omega), hs1.1 a (by omega)]
  have e2 : (xput M2 0 4 (nI 1)).2 = M.2 := hs2.2.trans hs1.2
  have hR3 : CR 13 (xput M2 0 4 (nI 1)) s.1.1 (nI s.1.2.1) s.1.2.2.1 := (hR1.out hs2 (by decide)).eqs (fun q h1 h2 => funext fun k => if_neg (by omega))
  have hN3 : NR 33 (xput M2 0 4 (nI 1)) s.1.2.2.2.1 := hN2.same (fun q h1 h2 => funext fun k => if_neg (by omega))
  refine h _ ⟨fun a ha => e a (by omega), fun a _ => by rw [e2]⟩ ⟨⟨hR.eqs (fun q h1 h2 => e q (by omega)), hC.1.2.same (fun q h1 h2 => e q (by omega))⟩, hC.2.1, ⟨xput_at, ⟨hR3, hN3⟩, hC.2.1⟩, hC.2.2.2.1.eqs (by rw [e 41 (by omega)]) (e 42 (by omega)) (e 43 (by omega)), hC.2.2.2.2.1.eqs (e 63 (by omega)) (e 64 (by omega)) (by rw [e2]), hC.2.2.2.2.2.eqs (e 59 (by omega)) (e 60 (by omega))⟩
theorem fX9_undo (hC : XC9 M s) (h : ∀ M', low M M' → XC9 M' (opUndo s).2 → K (some (.int (opUndo s).1)) xSF M') : Ex g (d + 2) yX9_undo mX9_undo [.ref 0] xSF M K := by
  unfold opUndo at h
  have hI := hC.2.2.1
  rcases hq : s.2.1 with _ | q
  · rw [hq] at h hI
    refine x_entry kX9_undo (Nat.le_of_ble_eq_true rfl) ?_
    show Wp g _ mX9_undo 0 [some (.ref 0)] [] _ _ _ _
    refine x_aload_n (pc := 0) dX9_undo_0 rfl ?_
    refine x_getI (pc := 1) dX9_undo_1 flX9_294 (by first | assumption | rfl) rfl ?_
    rw [show M.1 0 4 = nI 0 from hI]
    first | (guard_target =~ Wp _ _ _ _ _ (Value.int (nI _) :: _) _ _ _ _; with_reducible refine x_if_neN (pc := 4) (tgt := 10) ?_ dX9_undo_4 ?_ (fun h4 => ?_) (fun h4 => ?_); (first | omega | exact b2n_32 _ | exact b2n_31 _); decide) | refine x_if_ne (pc := 4) (tgt := 10) dX9_undo_4 (by decide) (fun h4 => ?_) (fun h4 => ?_)
    · skip
      omega
    · skip
      refine x_bipush (pc := 7) dX9_undo_7 bp_m3 ?_
      refine x_ret (pc := 9) (v := some _) rfl trivial dX9_undo_9 (by decide) ?_
      exact h M csame.rf.low hC
  · rw [hq] at h hI
    obtain ⟨h0, ⟨hR, hN⟩, hok⟩ := hI
    refine x_entry kX9_undo (Nat.le_of_ble_eq_true rfl) ?_
    show Wp g _ mX9_undo 0 [some (.ref 0)] [] _ _ _ _
    refine x_aload_n (pc := 0) dX9_undo_0 rfl ?_
    refine x_getI (pc := 1) dX9_undo_1 flX9_294 (by first | assumption | rfl) rfl ?_
    rw [h0]
    first | (guard_target =~ Wp _ _ _ _ _ (Value.int (nI _) :: _) _ _ _ _; with_reducible refine x_if_neN (pc := 4) (tgt := 10) ?_ dX9_undo_4 ?_ (fun h4 => ?_) (fun h4 => ?_); (first | omega | exact b2n_32 _ | exact b2n_31 _); decide) | refine x_if_ne (pc := 4) (tgt := 10) dX9_undo_4 (by decide) (fun h4 => ?_) (fun h4 => ?_)
    · skip
      refine x_aload_n (pc := 10) dX9_undo_10 rfl ?_
      refine x_getR (pc := 11) dX9_undo_11 flX9_12 (by first | assumption | rfl) rfl ?_
      refine x_aload_n (pc := 14) dX9_undo_14 rfl ?_
      refine x_getR (pc := 15) dX9_undo_15 flX9_18 (by first | assumption | rfl) rfl ?_
      refine x_invV1 (pc := 18) dX9_undo_18 mlX9_287 imX2_become seX2_become kX2_become (by first | assumption | rfl) rfl (Nat.le_of_ble_eq_true rfl) (by decide) ?_
      refine sp_X2_become (by decide) car1 car13 hR (fun M1 hs1 hR1 => ?_)
      refine x_cn rfl rfl ?_
      refine x_aload_n (pc := 21) dX9_undo_21 rfl ?_
      refine x_getR (pc := 22) dX9_undo_22 flX9_24 (by first | assumption | rfl) rfl ?_
      refine x_aload_n (pc := 25) dX9_undo_25 rfl ?_
      refine x_getR (pc := 26) dX9_undo_26 flX9_28 (by first | assumption | rfl) rfl ?_
      refine x_invV1 (pc := 29) dX9_undo_29 mlX9_291 imX5_become seX5_become kX5_become (by first | assumption | rfl) rfl (Nat.le_of_ble_eq_true rfl) (by decide) ?_
      refine sp_X5_become (by decide) nots25 nots33 (hN.out hs1 (by decide)) (fun M2 hs2 hN2 => ?_)
      refine x_cn rfl rfl ?_
      refine x_aload_n (pc := 32) dX9_undo_32 rfl ?_
      refine x_getR (pc := 33) dX9_undo_33 flX9_12 (by first | assumption | rfl) rfl ?_
      refine x_getI (pc := 36) dX9_undo_36 flX9_76 (by first | assumption | rfl) rfl ?_
      rw [show M2.1 1 8 = nI (q.1 8 0) from (hR1.out hs2 (by decide)).goers]
      refine x_ret (pc := 39) (v := some _) rfl trivial dX9_undo_39 (by decide) ?_
      have e : ∀ a, a = 0 ∨ (13 ≤ a ∧ a < 25) ∨ 33 ≤ a → M2.1 a = M.1 a := fun a ha => by rw [hs2.1 a (by omega), hs1.1 a (by omega)]
      have e2 : M2.2 = M.2 := hs2.2.trans hs1.2
      refine h _ ⟨fun a ha => e a (by omega), fun a _ => by rw [e2]⟩ ⟨⟨hR1.out hs2 (by decide), hN2⟩, hok, ?_, hC.2.2.2.1.eqs (by rw [e 41 (by omega)]) (e 42 (by omega)) (e 43 (by omega)), hC.2.2.2.2.1.eqs (e 63 (by omega)) (e 64 (by omega)) (by rw [e2]), hC.2.2.2.2.2.eqs (e 59 (by omega)) (e 60 (by omega))⟩
      show XIm M2 s.2.2.1 s.2.2.2.1 s.2.2.2.2.1 s.2.1
      rw [hq]
      exact ⟨by rw [e 0 (by omega)]; exact h0, ⟨hR.eqs (fun q h1 h2 => e q (by omega)), hN.same (fun q h1 h2 => e q (by omega))⟩, hok⟩
    · skip
      omega
theorem XC9.upT {M M' : XM} {s : XSt} {l : List Nat} (h : XC9 M s) (hs : aSame M M') (hl : aTr M' l) : XC9 M' (trSt s l) := by
  have e : ∀ a, a ≠ 59 → a ≠ 60 → M'.1 a = M.1 a := hs.1
  have e2 : M'.2 = M.2 := hs.2
  exact ⟨⟨h.1.1.eqs (fun q h1 h2 => e q (by omega) (by omega)), h.1.2.same (fun q h1 h2 => e q (by omega) (by omega))⟩, h.2.1, h.2.2.1.same (by rw [e 0 (by decide) (by decide)]) (fun a h1 h2 => e a (by omega) (by omega)), h.2.2.2.1.eqs (by rw [e 41 (by decide) (by decide)]) (e 42 (by decide) (by decide)) (e 43 (by decide) (by decide)), h.2.2.2.2.1.eqs (e 63 (by decide) (by decide)) (e 64 (by decide) (by decide)) (by rw [e2]), hl⟩
theorem lowT {M M' : XM} (h : aSame M M') : low M M' := ⟨fun a ha => h.1 a (by omega) (by omega), fun a _ => by rw [h.2]⟩
theorem fX9_trace {i : Int32} (hC : XC9 M s) (h : ∀ M', low M M' → XC9 M' s → K (some (.int (vTrace s i))) xSF M') : Ex g (d + 1) yX9_trace mX9_trace [.ref 0, .int i] xSF M K := by
  refine x_entry kX9_trace (Nat.le_of_ble_eq_true rfl) ?_
  show Wp g _ mX9_trace 0 [some (.ref 0), some (.int i)] [] _ _ _ _
  refine x_aload_n (pc := 0) dX9_trace_0 rfl ?_
  refine x_getR (pc := 1) dX9_trace_1 flX9_50 (by first | assumption | rfl) rfl ?_
  refine x_iload_n (pc := 4) dX9_trace_4 rfl ?_
  refine x_invV1 (pc := 5) dX9_trace_5 mlX9_308 imX0_bodyAt seX0_bodyAt kX0_bodyAt (by first | assumption | rfl) rfl (Nat.le_of_ble_eq_true rfl) (by decide) ?_
  refine sp_X0_bodyAt hC.2.2.2.2.2 ?_
  refine x_cv rfl rfl ?_
  refine x_ret (pc := 8) (v := some _) rfl trivial dX9_trace_8 (by decide) ?_
  exact h M csame.rf.low hC
theorem fX9_taken {x k : Int32} (hC : XC9 M s) (h : ∀ M', low M M' → XC9 M' s → K (some (.int (vTaken s x k))) xSF M') : Ex g (d + 1) yX9_taken mX9_taken [.ref 0, .int x, .int k] xSF M K := by
  unfold vTaken at h
  have hR := hC.1.1
  have h6 := hR.goersB
  refine x_entry kX9_taken (Nat.le_of_ble_eq_true rfl) ?_
  show Wp g _ mX9_taken 0 [some (.ref 0), some (.int x), some (.int k), none] [] _ _ _ _
  rcases isR_cases (x := k) (n := 7) (by omega) with e | ⟨k, hk, rfl, e⟩
  · simp only [e, Bool.false_eq_true, if_false] at h
    refine x_iload_n (pc := 0) dX9_taken_0 rfl ?_
    refine x_invS1 (pc := 1) dX9_taken_1 mlX9_61 stX4_isKind kX4_isKind (Nat.le_of_ble_eq_true rfl) (by decide) ?_
    refine sp_X4_isKind ?_
    refine x_cv rfl rfl ?_
    rw [show isR k 7 = false from e]
    first | (guard_target =~ Wp _ _ _ _ _ (Value.int (nI _) :: _) _ _ _ _; with_reducible refine x_if_neN (pc := 4) (tgt := 10) ?_ dX9_taken_4 ?_ (fun h4 => ?_) (fun h4 => ?_); (first | omega | exact b2n_32 _ | exact b2n_31 _); decide) | refine x_if_ne (pc := 4) (tgt := 10) dX9_taken_4 (by decide) (fun h4 => ?_) (fun h4 => ?_)
    · skip
      exact absurd rfl h4
    · skip
      refine x_bipush (pc := 7) dX9_taken_7 bp_m2 ?_
      refine x_ret (pc := 9) (v := some _) rfl trivial dX9_taken_9 (by decide) ?_
      exact h M csame.rf.low hC
  simp only [e, if_true] at h
  rw [toN_nI (by omega)] at h
  rcases isR_cases (x := x) (n := s.1.1 8 0) (by omega) with e2 | ⟨j, hj, rfl, e2⟩
  · simp only [e2, Bool.false_eq_true, if_false] at h
    refine x_iload_n (pc := 0) dX9_taken_0 rfl ?_
    refine x_invS1 (pc := 1) dX9_taken_1 mlX9_61 stX4_isKind kX4_isKind (Nat.le_of_ble_eq_true rfl) (by decide) ?_
    refine sp_X4_isKind ?_
    refine x_cv rfl rfl ?_
    rw [show isR (nI k) 7 = true from e]
    first | (guard_target =~ Wp _ _ _ _ _ (Value.int (nI _) :: _) _ _ _ _; with_reducible refine x_if_neN (pc := 4) (tgt := 10) ?_ dX9_taken_4 ?_ (fun h4 => ?_) (fun h4 => ?_); (first | omega | exact b2n_32 _ | exact b2n_31 _); decide) | refine x_if_ne (pc := 4) (tgt := 10) dX9_taken_4 (by decide) (fun h4 => ?_) (fun h4 => ?_)
    · skip
      refine x_aload_n (pc := 10) dX9_taken_10 rfl ?_
      refine x_getR (pc := 11) dX9_taken_11 flX9_12 (by first | assumption | rfl) rfl ?_
      refine x_iload_n (pc := 14) dX9_taken_14 rfl ?_
      refine x_invV1 (pc := 15) dX9_taken_15 mlX9_88 imX2_hasGoer seX2_hasGoer kX2_hasGoer (by first | assumption | rfl) rfl (Nat.le_of_ble_eq_true rfl) (by decide) ?_
      refine sp_X2_hasGoer car1 hR ?_
      refine x_cv rfl rfl ?_
      rw [e2]
      first | (guard_target =~ Wp _ _ _ _ _ (Value.int (nI _) :: _) _ _ _ _; with_reducible refine x_if_neN (pc := 18) (tgt := 24) ?_ dX9_taken_18 ?_ (fun h18 => ?_) (fun h18 => ?_); (first | omega | exact b2n_32 _ | exact b2n_31 _); decide) | refine x_if_ne (pc := 18) (tgt := 24) dX9_taken_18 (by decide) (fun h18 => ?_) (fun h18 => ?_)
      · skip
        exact absurd rfl h18
      · skip
        refine x_bipush (pc := 21) dX9_taken_21 bp_m11 ?_
        refine x_ret (pc := 23) (v := some _) rfl trivial dX9_taken_23 (by decide) ?_
        exact h M csame.rf.low hC
    · skip
      cases h4
  simp only [e2, if_true] at h
  rw [toN_nI (by omega)] at h
  refine x_iload_n (pc := 0) dX9_taken_0 rfl ?_
  refine x_invS1 (pc := 1) dX9_taken_1 mlX9_61 stX4_isKind kX4_isKind (Nat.le_of_ble_eq_true rfl) (by decide) ?_
  refine sp_X4_isKind ?_
  refine x_cv rfl rfl ?_
  rw [show isR (nI k) 7 = true from e]
  first | (guard_target =~ Wp _ _ _ _ _ (Value.int (nI _) :: _) _ _ _ _; with_reducible refine x_if_neN (pc := 4) (tgt := 10) ?_ dX9_taken_4 ?_ (fun h4 => ?_) (fun h4 => ?_); (first | omega | exact b2n_32 _ | exact b2n_31 _); decide) | refine x_if_ne (pc := 4) (tgt := 10) dX9_taken_4 (by decide) (fun h4 => ?_) (fun h4 => ?_)
  · skip
    refine x_aload_n (pc := 10) dX9_taken_10 rfl ?_
    refine x_getR (pc := 11) dX9_taken_11 flX9_12 (by first | assumption | rfl) rfl ?_
    refine x_iload_n (pc := 14) dX9_taken_14 rfl ?_
    refine x_invV1 (pc := 15) dX9_taken_15 mlX9_88 imX2_hasGoer seX2_hasGoer kX2_hasGoer (by first | assumption | rfl) rfl (Nat.le_of_ble_eq_true rfl) (by decide) ?_
    refine sp_X2_hasGoer car1 hR ?_
    refine x_cv rfl rfl ?_
    rw [e2]
    first | (guard_target =~ Wp _ _ _ _ _ (Value.int (nI _) :: _) _ _ _ _; with_reducible refine x_if_neN (pc := 18) (tgt := 24) ?_ dX9_taken_18 ?_ (fun h18 => ?_) (fun h18 => ?_); (first | omega | exact b2n_32 _ | exact b2n_31 _); decide) | refine x_if_ne (pc := 18) (tgt := 24) dX9_taken_18 (by decide) (fun h18 => ?_) (fun h18 => ?_)
    · skip
      refine x_aload_n (pc := 24) dX9_taken_24 rfl ?_
      refine x_getR (pc := 25) dX9_taken_25 flX9_12 (by first | assumption | rfl) rfl ?_
      refine x_getR (pc := 28) dX9_taken_28 flX9_107 (by first | assumption | rfl) rfl ?_
      refine x_iload_n (pc := 31) dX9_taken_31 rfl ?_
      refine x_ialdN (pc := 32) dX9_taken_32 (by first | assumption | rfl) (by first | with_reducible rfl | (simp only [xlit, nI_add, pk_mul]; with_reducible rfl)) (by omega) (by decide) ?_
      rw [hR.kind (by omega)]
      refine x_istore_n (pc := 33) dX9_taken_33 (by decide) xs_3 (x_hp rfl) ?_
      refine x_iload_n (pc := 34) dX9_taken_34 rfl ?_
      refine x_iload_n (pc := 35) dX9_taken_35 rfl ?_
      refine x_invS2 (pc := 36) dX9_taken_36 mlX9_311 stX4_isUnder kX4_isUnder (Nat.le_of_ble_eq_true rfl) (by decide) ?_
      refine sp_X4_isUnder (hR.kindB (by omega)) hk ?_
      refine x_cv rfl rfl ?_
      first | (guard_target =~ Wp _ _ _ _ _ (Value.int (nI _) :: _) _ _ _ _; with_reducible refine x_if_eqN (pc := 39) (tgt := 46) ?_ dX9_taken_39 ?_ (fun h39 => ?_) (fun h39 => ?_); (first | omega | exact b2n_32 _ | exact b2n_31 _); decide) | refine x_if_eq (pc := 39) (tgt := 46) dX9_taken_39 (by decide) (fun h39 => ?_) (fun h39 => ?_)
      · skip
        refine x_bipush (pc := 46) dX9_taken_46 bp_m12 ?_
        refine x_ret (pc := 48) (v := some _) rfl trivial dX9_taken_48 (by decide) ?_
        rw [if_neg (by rw [b2n_0 h39]; decide)] at h; exact h M csame.rf.low hC
      · skip
        refine x_iload_n (pc := 42) dX9_taken_42 rfl ?_
        refine x_goto (pc := 43) (tgt := 48) dX9_taken_43 (by decide) ?_
        refine x_ret (pc := 48) (v := some _) rfl trivial dX9_taken_48 (by decide) ?_
        rw [if_pos (b2n_1 h39)] at h; exact h M csame.rf.low hC
    · skip
      cases h18
  · skip
    cases h4
theorem fX9_count {x : Int32} (hC : XC9 M s) (h : ∀ M', low M M' → XC9 M' s → K (some (.int (vCount s x))) xSF M') : Ex g (d + 1) yX9_count mX9_count [.ref 0, .int x] xSF M K := by
  unfold vCount at h
  have hR := hC.1.1
  have hN := hC.1.2
  refine x_entry kX9_count (Nat.le_of_ble_eq_true rfl) ?_
  show Wp g _ mX9_count 0 [some (.ref 0), some (.int x)] [] _ _ _ _
  rcases isR_cases (x := x) (n := 7) (by omega) with e | ⟨j, hj, rfl, e⟩
  · simp only [e, Bool.false_eq_true, if_false] at h
    refine x_iload_n (pc := 0) dX9_count_0 rfl ?_
    refine x_tableOut (pc := 1) (tgt := 100) dX9_count_1 (isR_out (n := 6) (by decide) e) (by decide) ?_
    refine x_bipush (pc := 100) dX9_count_100 bp_m2 ?_
    refine x_ret (pc := 102) (v := some _) rfl trivial dX9_count_102 (by decide) ?_
    exact h M csame.rf.low hC
  simp only [e, if_true] at h
  rw [toN_nI (by omega)] at h
  have hh : j = 0 ∨ j = 1 ∨ j = 2 ∨ j = 3 ∨ j = 4 ∨ j = 5 ∨ j = 6 := by omega
  rcases hh with rfl | rfl | rfl | rfl | rfl | rfl | rfl
  · skip
    refine x_iload_n (pc := 0) dX9_count_0 rfl ?_
    refine x_tableIn (pc := 1) (off := 43) (tgt := 44) dX9_count_1 (by decide) (by decide) (by decide) (by decide) ?_
    refine x_aload_n (pc := 44) dX9_count_44 rfl ?_
    refine x_getR (pc := 45) dX9_count_45 flX9_12 (by first | assumption | rfl) rfl ?_
    refine x_getI (pc := 48) dX9_count_48 flX9_76 (by first | assumption | rfl) rfl ?_
    rw [hR.goers]
    refine x_ret (pc := 51) (v := some _) rfl trivial dX9_count_51 (by decide) ?_
    exact h M csame.rf.low hC
  · skip
    refine x_iload_n (pc := 0) dX9_count_0 rfl ?_
    refine x_tableIn (pc := 1) (off := 51) (tgt := 52) dX9_count_1 (by decide) (by decide) (by decide) (by decide) ?_
    refine x_aload_n (pc := 52) dX9_count_52 rfl ?_
    refine x_getR (pc := 53) dX9_count_53 flX9_34 (by first | assumption | rfl) rfl ?_
    refine x_invV0 (pc := 56) dX9_count_56 mlX9_314 imX6_howMany seX6_howMany kX6_howMany (by first | assumption | rfl) rfl (Nat.le_of_ble_eq_true rfl) (by decide) ?_
    refine sp_X6_howMany hC.2.2.2.1 ?_
    refine x_cv rfl rfl ?_
    refine x_ret (pc := 59) (v := some _) rfl trivial dX9_count_59 (by decide) ?_
    exact h M csame.rf.low hC
  · skip
    refine x_iload_n (pc := 0) dX9_count_0 rfl ?_
    refine x_tableIn (pc := 1) (off := 59) (tgt := 60) dX9_count_1 (by decide) (by decide) (by decide) (by decide) ?_
    refine x_aload_n (pc := 60) dX9_count_60 rfl ?_
    refine x_getR (pc := 61) dX9_count_61 flX9_24 (by first | assumption | rfl) rfl ?_
    refine x_getI (pc := 64) dX9_count_64 flX9_221 (by first | assumption | rfl) rfl ?_
    rw [hN.2.2.2.1.1]
    refine x_ret (pc := 67) (v := some _) rfl trivial dX9_count_67 (by decide) ?_
    exact h M csame.rf.low hC
  · skip
    refine x_iload_n (pc := 0) dX9_count_0 rfl ?_
    refine x_tableIn (pc := 1) (off := 67) (tgt := 68) dX9_count_1 (by decide) (by decide) (by decide) (by decide) ?_
    refine x_aload_n (pc := 68) dX9_count_68 rfl ?_
    refine x_getR (pc := 69) dX9_count_69 flX9_24 (by first | assumption | rfl) rfl ?_
    refine x_getI (pc := 72) dX9_count_72 flX9_251 (by first | assumption | rfl) rfl ?_
    rw [hN.2.2.2.2.1.1]
    refine x_ret (pc := 75) (v := some _) rfl trivial dX9_count_75 (by decide) ?_
    exact h M csame.rf.low hC
  · skip
    refine x_iload_n (pc := 0) dX9_count_0 rfl ?_
    refine x_tableIn (pc := 1) (off := 75) (tgt := 76) dX9_count_1 (by decide) (by decide) (by decide) (by decide) ?_
    refine x_aload_n (pc := 76) dX9_count_76 rfl ?_
    refine x_getR (pc := 77) dX9_count_77 flX9_24 (by first | assumption | rfl) rfl ?_
    refine x_getI (pc := 80) dX9_count_80 flX9_264 (by first | assumption | rfl) rfl ?_
    rw [hN.2.2.2.2.2.1]
    refine x_ret (pc := 83) (v := some _) rfl trivial dX9_count_83 (by decide) ?_
    exact h M csame.rf.low hC
  · skip
    refine x_iload_n (pc := 0) dX9_count_0 rfl ?_
    refine x_tableIn (pc := 1) (off := 83) (tgt := 84) dX9_count_1 (by decide) (by decide) (by decide) (by decide) ?_
    refine x_aload_n (pc := 84) dX9_count_84 rfl ?_
    refine x_getR (pc := 85) dX9_count_85 flX9_34 (by first | assumption | rfl) rfl ?_
    refine x_invV0 (pc := 88) dX9_count_88 mlX9_159 imX6_textLength seX6_textLength kX6_textLength (by first | assumption | rfl) rfl (Nat.le_of_ble_eq_true rfl) (by decide) ?_
    refine sp_X6_textLength hC.2.2.2.1 ?_
    refine x_cv rfl rfl ?_
    refine x_ret (pc := 91) (v := some _) rfl trivial dX9_count_91 (by decide) ?_
    exact h M csame.rf.low hC
  · skip
    refine x_iload_n (pc := 0) dX9_count_0 rfl ?_
    refine x_tableIn (pc := 1) (off := 91) (tgt := 92) dX9_count_1 (by decide) (by decide) (by decide) (by decide) ?_
    refine x_aload_n (pc := 92) dX9_count_92 rfl ?_
    refine x_getR (pc := 93) dX9_count_93 flX9_50 (by first | assumption | rfl) rfl ?_
    refine x_invV0 (pc := 96) dX9_count_96 mlX9_316 imX0_howManyRan seX0_howManyRan kX0_howManyRan (by first | assumption | rfl) rfl (Nat.le_of_ble_eq_true rfl) (by decide) ?_
    refine sp_X0_howManyRan ?_
    refine x_cv rfl rfl ?_
    rw [show M.1 59 1 = nI (sTr s).length from hC.2.2.2.2.2.1]
    refine x_ret (pc := 99) (v := some _) rfl trivial dX9_count_99 (by decide) ?_
    exact h M csame.rf.low hC
end P48
