/-! the MODEL: save, putBack; what changes for a while -/
def pS (a k : Nat) : Bool := (a == 86 && decide (k < 16)) || (a == 65 && (k == 33 || k == 34 || k == 35 || k == 36))
def pB (a k : Nat) : Bool := (a == 66 && decide (k < 16)) || (a == 65 && (k == 1 || k == 2 || k == 3 || k == 33))
/-- scratch -/
def pZ (a k : Nat) : Bool := pN a k || a == 86 || a == 87 || (a == 65 && (k == 34 || k == 35 || k == 36))
/-- scratch and what is put back -/
def pY (a k : Nat) : Bool := pZ a k || pB a k
theorem pY_N : ∀ a k, pN a k = true → pY a k = true := by intro a k h; simp [pY, pZ, h]
theorem pZ_N : ∀ a k, pN a k = true → pZ a k = true := by intro a k h; simp [pZ, h]
theorem pZ_H : ∀ a k, pH a k = true → pZ a k = true := fun a k h => pZ_N a k (pN_H a k h)
theorem pZ_W : ∀ a k, pW a k = true → pZ a k = true := fun a k h => pZ_N a k (pN_W a k h)
theorem pY_Z : ∀ a k, pZ a k = true → pY a k = true := by intro a k h; simp [pY, h]
theorem pY_S : ∀ a k, pS a k = true → pY a k = true := by intro a k h; simp [pS, pY, pZ, pB] at h ⊢; omega
theorem pY_D : ∀ a k, pD a k = true → pY a k = true := by intro a k h; simp [pD, pY, pB] at h ⊢; omega
theorem pD_Q8 : ∀ k, pD 65 k = true → k = 3 := by intro k h; simp [pD] at h; exact h
theorem pY_L : ∀ a k, wL a k = true → pY a k = false := by intro a k h; simp [wL, pY, pZ, pN, pW, pB] at h ⊢; omega
theorem pZ_L : ∀ a k, wL a k = true → pZ a k = false := by intro a k h; simp [wL, pZ, pN, pW] at h ⊢; omega
theorem pZ_Q : ∀ a k, wQ a k = true → pZ a k = false := by intro a k h; simp [wQ, pZ, pN, pW] at h ⊢; omega
theorem pS_Q : ∀ a k, wQ a k = true → pS a k = false := by intro a k h; simp [wQ, pS] at h ⊢; omega
theorem pS_L : ∀ a k, wL a k = true → pS a k = false := by intro a k h; simp [wL, pS] at h ⊢; omega
theorem only.qsm {M M' : XM} (h : only pZ M M') : qsm M M' := by
  have e : ∀ a k, pZ a k = false → M'.1 a k = M.1 a k := h.1
  refine ⟨⟨⟨fun a ha => funext fun k => e a k (by simp [pZ, pN, pW]; omega), fun a _ => by rw [h.2]⟩, fun a k q => e a k ?_, fun a k q => e a k ?_, fun a k q => e a k ?_, fun a k q => e a k ?_, fun a k q => e a k ?_, h.2⟩, fun a k q => e a k ?_⟩
  · simp [wI, pZ, pN, pW] at q ⊢; omega
  · simp [wR, pZ, pN, pW] at q ⊢; omega
  · simp [wT, pZ, pN, pW] at q ⊢; omega
  · simp [wA, pZ, pN, pW] at q ⊢; omega
  · simp [wC, pZ, pN, pW] at q ⊢; omega
  · simp [wP, pZ, pN, pW] at q ⊢; omega
/-- what is kept aside -/
def kpt (M0 M : XM) : Prop := (∀ c, c < 16 → M.1 86 c = M0.1 66 c) ∧ M.1 65 34 = M0.1 65 1 ∧ M.1 65 35 = M0.1 65 2 ∧ M.1 65 36 = M0.1 65 3
theorem kpt.keep {p : Nat → Nat → Bool} {M0 M M' : XM} (h : kpt M0 M) (hs : only p M M') (hp : ∀ a k, (a = 86 ∨ (a = 65 ∧ (k = 34 ∨ k = 35 ∨ k = 36))) → p a k = false) : kpt M0 M' :=
  ⟨fun c hc => (hs.1 86 c (hp _ _ (by omega))).trans (h.1 c hc), (hs.1 65 34 (hp _ _ (by omega))).trans h.2.1, (hs.1 65 35 (hp _ _ (by omega))).trans h.2.2.1, (hs.1 65 36 (hp _ _ (by omega))).trans h.2.2.2⟩
theorem pD_K : ∀ a k, (a = 86 ∨ (a = 65 ∧ (k = 34 ∨ k = 35 ∨ k = 36))) → pD a k = false := by intro a k h; simp [pD]; omega
theorem pN_K : ∀ a k, (a = 86 ∨ (a = 65 ∧ (k = 34 ∨ k = 35 ∨ k = 36))) → pN a k = false := by intro a k h; simp [pN, pW]; omega
section P80
variable {g : XG} {d : Nat} {M M0 : XM} {K : Option Value → XS → XM → Prop}
theorem sm_save (h : ∀ M', only pS M M' → kpt M M' → M'.1 65 33 = nI 2000000000 → K none xSF M') : Ex g d yX10_save mX10_save [.ref 65] xSF M K := by
  refine x_entry kX10_save (Nat.le_of_ble_eq_true rfl) ?_
  show Wp g _ mX10_save 0 [some (.ref 65), none] [] _ _ _ _
  have loop : ∀ m k M1, k + m = 16 → only pS M M1 → (∀ c, c < k → M1.1 86 c = M.1 66 c) → M1.1 65 33 = nI 2000000000 → M1.1 65 34 = M.1 65 1 → M1.1 65 35 = M.1 65 2 → M1.1 65 36 = M.1 65 3 → Wp g d mX10_save 33 [some (.ref 65), some (.int (nI k))] [] xSF (0, 0) M1 K := by
    intro m
    induction m with
    | zero =>
      intro k M1 hk ho hc h33 h34 e35 e36
      obtain rfl : k = 16 := by omega
      refine x_iload_n (pc := 33) dX10_save_33 rfl ?_
      refine x_bipushN (pc := 34) 16 dX10_save_34 bp_16 ?_
      first | (guard_target =~ Wp _ _ _ _ _ (Value.int (nI _) :: Value.int (nI _) :: _) _ _ _ _; with_reducible refine x_icmp_geN (pc := 36) (tgt := 57) ?_ ?_ dX10_save_36 ?_ (fun h36 => ?_) (fun h36 => ?_); (first | omega | exact b2n_31 _); (first | omega | exact b2n_31 _); decide) | refine x_icmp_ge (pc := 36) (tgt := 57) dX10_save_36 (by decide) (fun h36 => ?_) (fun h36 => ?_)
      · skip
        refine x_ret (pc := 57) (v := none) rfl trivial dX10_save_57 (by decide) ?_
        exact h M1 ho ⟨hc, h34, e35, e36⟩ h33
      · skip
        omega
    | succ m ih =>
      intro k M1 hk ho hc h33 h34 e35 e36
      refine x_iload_n (pc := 33) dX10_save_33 rfl ?_
      refine x_bipushN (pc := 34) 16 dX10_save_34 bp_16 ?_
      first | (guard_target =~ Wp _ _ _ _ _ (Value.int (nI _) :: Value.int (nI _) :: _) _ _ _ _; with_reducible refine x_icmp_geN (pc := 36) (tgt := 57) ?_ ?_ dX10_save_36 ?_ (fun h36 => ?_) (fun h36 => ?_); (first | omega | exact b2n_31 _); (first | omega | exact b2n_31 _); decide) | refine x_icmp_ge (pc := 36) (tgt := 57) dX10_save_36 (by decide) (fun h36 => ?_) (fun h36 => ?_)
      · skip
        omega
      · skip
        refine x_aload_n (pc := 39) dX10_save_39 rfl ?_
        refine x_getR (pc := 40) dX10_save_40 flX10_123 (by first | assumption | rfl) rfl ?_
        refine x_iload_n (pc := 43) dX10_save_43 rfl ?_
        refine x_aload_n (pc := 44) dX10_save_44 rfl ?_
        refine x_getR (pc := 45) dX10_save_45 flX10_22 (by first | assumption | rfl) rfl ?_
        refine x_iload_n (pc := 48) dX10_save_48 rfl ?_
        refine x_ialdN (pc := 49) dX10_save_49 (by first | assumption | rfl) (by first | with_reducible rfl | (simp only [xlit, nI_add, pk_mul]; with_reducible rfl)) (by omega) (by decide) ?_
        refine x_iastN (pc := 50) dX10_save_50 (by first | assumption | rfl) (by first | with_reducible rfl | (simp only [xlit, nI_add, pk_mul]; with_reducible rfl)) (by omega) (by decide) ?_
        first | (guard_target =~ Wp _ _ _ _ (_ :: some (Value.int (nI _)) :: _) _ _ _ _ _; with_reducible refine x_iincN (pc := 51) 1 ic_1 dX10_save_51 ?_ xg_1 xs_1 ?_ ?_; decide; exact (x_hp rfl)) | refine x_iincC (pc := 51) ic_1 dX10_save_51 (by decide) rfl xs_1 (x_hp rfl) ?_
        refine x_goto (pc := 54) (tgt := 33) dX10_save_54 (by decide) ?_
        refine ih (k + 1) _ (by omega) (ho.tr (only.put (by simp [pS]; omega))) (fun c q => ?_) h33 h34 e35 e36
        by_cases z : c = k
        · subst z; exact (if_pos ⟨rfl, rfl⟩).trans (ho.1 66 c rfl)
        · exact (if_neg (fun q => z q.2)).trans (hc c (by omega))
  refine x_aload_n (pc := 0) dX10_save_0 rfl ?_
  refine x_ldcw (pc := 1) (v := nI 2000000000) dX10_save_1 ckX10_374 ?_
  refine x_putI (pc := 4) dX10_save_4 flX10_111 (by first | assumption | rfl) rfl rfl rfl ?_
  refine x_aload_n (pc := 7) dX10_save_7 rfl ?_
  refine x_aload_n (pc := 8) dX10_save_8 rfl ?_
  refine x_getI (pc := 9) dX10_save_9 flX10_13 (by first | assumption | rfl) rfl ?_
  refine x_putI (pc := 12) dX10_save_12 flX10_114 (by first | assumption | rfl) rfl rfl rfl ?_
  refine x_aload_n (pc := 15) dX10_save_15 rfl ?_
  refine x_aload_n (pc := 16) dX10_save_16 rfl ?_
  refine x_getI (pc := 17) dX10_save_17 flX10_16 (by first | assumption | rfl) rfl ?_
  refine x_putI (pc := 20) dX10_save_20 flX10_117 (by first | assumption | rfl) rfl rfl rfl ?_
  refine x_aload_n (pc := 23) dX10_save_23 rfl ?_
  refine x_aload_n (pc := 24) dX10_save_24 rfl ?_
  refine x_getI (pc := 25) dX10_save_25 flX10_19 (by first | assumption | rfl) rfl ?_
  refine x_putI (pc := 28) dX10_save_28 flX10_120 (by first | assumption | rfl) rfl rfl rfl ?_
  refine x_iconstN (pc := 31) 0 dX10_save_31 ic_0 ?_
  refine x_istore_n (pc := 32) dX10_save_32 (by decide) xs_1 (x_hp rfl) ?_
  exact loop 16 0 _ (by omega) ((((only.put rfl).tr (only.put rfl)).tr (only.put rfl)).tr (only.put rfl)) (fun c q => by omega) rfl rfl rfl rfl
theorem sm_putBack (ho : only pY M0 M) (hk : kpt M0 M) (h33 : M0.1 65 33 = nI 9999) (h : ∀ M', only pZ M0 M' → only pB M M' → K none xSF M') : Ex g d yX10_putBack mX10_putBack [.ref 65] xSF M K := by
  refine x_entry kX10_putBack (Nat.le_of_ble_eq_true rfl) ?_
  show Wp g _ mX10_putBack 0 [some (.ref 65), none] [] _ _ _ _
  obtain ⟨k1, k2, k3, k4⟩ := hk
  have loop : ∀ m k M1, k + m = 16 → only pB M M1 → (∀ c, c < k → M1.1 66 c = M0.1 66 c) → M1.1 65 33 = nI 9999 → M1.1 65 1 = M0.1 65 1 → M1.1 65 2 = M0.1 65 2 → M1.1 65 3 = M0.1 65 3 → Wp g d mX10_putBack 33 [some (.ref 65), some (.int (nI k))] [] xSF (0, 0) M1 K := by
    intro m
    induction m with
    | zero =>
      intro k M1 hk hb hc e33 e1 e2 e3
      obtain rfl : k = 16 := by omega
      refine x_iload_n (pc := 33) dX10_putBack_33 rfl ?_
      refine x_bipushN (pc := 34) 16 dX10_putBack_34 bp_16 ?_
      first | (guard_target =~ Wp _ _ _ _ _ (Value.int (nI _) :: Value.int (nI _) :: _) _ _ _ _; with_reducible refine x_icmp_geN (pc := 36) (tgt := 57) ?_ ?_ dX10_putBack_36 ?_ (fun h36 => ?_) (fun h36 => ?_); (first | omega | exact b2n_31 _); (first | omega | exact b2n_31 _); decide) | refine x_icmp_ge (pc := 36) (tgt := 57) dX10_putBack_36 (by decide) (fun h36 => ?_) (fun h36 => ?_)
      · skip
        refine x_ret (pc := 57) (v := none) rfl trivial dX10_putBack_57 (by decide) ?_
        refine h M1 ⟨fun a j q => ?_, hb.2.trans ho.2⟩ hb
        by_cases hp : pB a j = true
        · simp [pB] at hp
          rcases hp with ⟨rfl, hj⟩ | ⟨rfl, ((rfl | rfl) | rfl) | rfl⟩
          · exact hc j hj
          · exact e1
          · exact e2
          · exact e3
          · exact e33.trans h33.symm
        · have hp2 : pB a j = false := by simpa using hp
          exact (hb.1 a j hp2).trans (ho.1 a j (by simp [pY, q, hp2]))
      · skip
        omega
    | succ m ih =>
      intro k M1 hk hb hc e33 e1 e2 e3
      refine x_iload_n (pc := 33) dX10_putBack_33 rfl ?_
      refine x_bipushN (pc := 34) 16 dX10_putBack_34 bp_16 ?_
      first | (guard_target =~ Wp _ _ _ _ _ (Value.int (nI _) :: Value.int (nI _) :: _) _ _ _ _; with_reducible refine x_icmp_geN (pc := 36) (tgt := 57) ?_ ?_ dX10_putBack_36 ?_ (fun h36 => ?_) (fun h36 => ?_); (first | omega | exact b2n_31 _); (first | omega | exact b2n_31 _); decide) | refine x_icmp_ge (pc := 36) (tgt := 57) dX10_putBack_36 (by decide) (fun h36 => ?_) (fun h36 => ?_)
      · skip
        omega
      · skip
        refine x_aload_n (pc := 39) dX10_putBack_39 rfl ?_
        refine x_getR (pc := 40) dX10_putBack_40 flX10_22 (by first | assumption | rfl) rfl ?_
        refine x_iload_n (pc := 43) dX10_putBack_43 rfl ?_
        refine x_aload_n (pc := 44) dX10_putBack_44 rfl ?_
        refine x_getR (pc := 45) dX10_putBack_45 flX10_123 (by first | assumption | rfl) rfl ?_
        refine x_iload_n (pc := 48) dX10_putBack_48 rfl ?_
        refine x_ialdN (pc := 49) dX10_putBack_49 (by first | assumption | rfl) (by first | with_reducible rfl | (simp only [xlit, nI_add, pk_mul]; with_reducible rfl)) (by omega) (by decide) ?_
        refine x_iastN (pc := 50) dX10_putBack_50 (by first | assumption | rfl) (by first | with_reducible rfl | (simp only [xlit, nI_add, pk_mul]; with_reducible rfl)) (by omega) (by decide) ?_
        first | (guard_target =~ Wp _ _ _ _ (_ :: some (Value.int (nI _)) :: _) _ _ _ _ _; with_reducible refine x_iincN (pc := 51) 1 ic_1 dX10_putBack_51 ?_ xg_1 xs_1 ?_ ?_; decide; exact (x_hp rfl)) | refine x_iincC (pc := 51) ic_1 dX10_putBack_51 (by decide) rfl xs_1 (x_hp rfl) ?_
        refine x_goto (pc := 54) (tgt := 33) dX10_putBack_54 (by decide) ?_
        refine ih (k + 1) _ (by omega) (hb.tr (only.put (by simp [pB]; omega))) (fun c q => ?_) e33 e1 e2 e3
        by_cases z : c = k
        · subst z; exact (if_pos ⟨rfl, rfl⟩).trans ((hb.1 86 c rfl).trans (k1 c (by omega)))
        · exact (if_neg (fun q => z q.2)).trans (hc c (by omega))
  refine x_aload_n (pc := 0) dX10_putBack_0 rfl ?_
  refine x_sipushN (pc := 1) 9999 dX10_putBack_1 sp_9999 ?_
  refine x_putI (pc := 4) dX10_putBack_4 flX10_111 (by first | assumption | rfl) rfl rfl rfl ?_
  refine x_aload_n (pc := 7) dX10_putBack_7 rfl ?_
  refine x_aload_n (pc := 8) dX10_putBack_8 rfl ?_
  refine x_getI (pc := 9) dX10_putBack_9 flX10_114 (by first | assumption | rfl) rfl ?_
  refine x_putI (pc := 12) dX10_putBack_12 flX10_13 (by first | assumption | rfl) rfl rfl rfl ?_
  refine x_aload_n (pc := 15) dX10_putBack_15 rfl ?_
  refine x_aload_n (pc := 16) dX10_putBack_16 rfl ?_
  refine x_getI (pc := 17) dX10_putBack_17 flX10_117 (by first | assumption | rfl) rfl ?_
  refine x_putI (pc := 20) dX10_putBack_20 flX10_16 (by first | assumption | rfl) rfl rfl rfl ?_
  refine x_aload_n (pc := 23) dX10_putBack_23 rfl ?_
  refine x_aload_n (pc := 24) dX10_putBack_24 rfl ?_
  refine x_getI (pc := 25) dX10_putBack_25 flX10_120 (by first | assumption | rfl) rfl ?_
  refine x_putI (pc := 28) dX10_putBack_28 flX10_19 (by first | assumption | rfl) rfl rfl rfl ?_
  refine x_iconstN (pc := 31) 0 dX10_putBack_31 ic_0 ?_
  refine x_istore_n (pc := 32) dX10_putBack_32 (by decide) xs_1 (x_hp rfl) ?_
  exact loop 16 0 _ (by omega) ((((only.put rfl).tr (only.put rfl)).tr (only.put rfl)).tr (only.put rfl)) (fun c q => by omega) rfl k2 k3 k4
end P80
