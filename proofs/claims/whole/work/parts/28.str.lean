/-! the words of a TEXT as strings: length, charAt -/
def wl (i : Nat) : List Nat := match i with
  | 0 => wB
  | 1 => wH
  | 2 => wS
  | 3 => [33]
  | _ => [42]
theorem wl_len : ∀ i, i < 5 → xslen.getD i 0 = (wl i).length ∧ (wl i).length ≤ 5 := by decide
theorem wl_by : ∀ i, i < 5 → ∀ k, k < 5 → k < (wl i).length → (xsbyt.getD i []).getD k 0 = nI ((wl i).getD k 0 - 1) ∧ (wl i).getD k 0 - 1 < 128 ∧ (wl i).getD k 0 ≠ 0 := by decide +kernel
theorem ch_255 : ∀ k, k < 128 → (nI k &&& nI 255).toUInt32 % 65536 = (nI k).toUInt32 ∧ (nI k).toUInt32.toInt32 = nI k ∧ narrow .char (.int (nI k)) = .int (nI k) := by decide +kernel
theorem srt_1 {x : Nat} (h : x ≠ 0) : srt x = nI (x - 1) := by
  cases x with
  | zero => exact absurd rfl h
  | succ n => rfl
section P28
variable {g : XG} {d : Nat} {S : XS} {M : XM} {K : Option Value → XS → XM → Prop}
theorem sp_J0_coder {i : Nat} (hi : i < 5) (h : K (some (.int (nI 0))) S M) : Ex g d yJ0_coder_7d493 mJ0_coder_7d493 [.ref (2000 + i)] S M K := by
  refine x_entry kJ0_coder_7d493 (Nat.le_of_ble_eq_true rfl) ?_
  show Wp g _ mJ0_coder_7d493 0 [some (.ref (2000 + i))] [] _ _ _ _
  refine x_getsC (pc := 0) dJ0_coder_7d493_0 flJ0_38 ?_
  refine x_if_eq (pc := 3) (tgt := 13) dJ0_coder_7d493_3 (by decide) (fun h3 => absurd h3 (by decide)) (fun h3 => ?_)
  refine x_aload_n (pc := 6) dJ0_coder_7d493_6 rfl ?_
  refine x_strC (pc := 7) (by omega) dJ0_coder_7d493_7 flJ0_15 ?_
  refine x_goto (pc := 10) (tgt := 14) dJ0_coder_7d493_10 (by decide) ?_
  refine x_ret (pc := 14) (v := some _) rfl (by first | rfl | decide | exact xrt_b) dJ0_coder_7d493_14 (by decide) ?_
  exact h
theorem sp_J0_isLatin1 {i : Nat} (hi : i < 5) (h : K (some (.int (nI 1))) S M) : Ex g d yJ0_isLatin1_aae02 mJ0_isLatin1_aae02 [.ref (2000 + i)] S M K := by
  refine x_entry kJ0_isLatin1_aae02 (Nat.le_of_ble_eq_true rfl) ?_
  show Wp g _ mJ0_isLatin1_aae02 0 [some (.ref (2000 + i))] [] _ _ _ _
  refine x_getsC (pc := 0) dJ0_isLatin1_aae02_0 flJ0_38 ?_
  refine x_if_eq (pc := 3) (tgt := 17) dJ0_isLatin1_aae02_3 (by decide) (fun h3 => absurd h3 (by decide)) (fun h3 => ?_)
  refine x_aload_n (pc := 6) dJ0_isLatin1_aae02_6 rfl ?_
  refine x_strC (pc := 7) (by omega) dJ0_isLatin1_aae02_7 flJ0_15 ?_
  refine x_if_ne (pc := 10) (tgt := 17) dJ0_isLatin1_aae02_10 (by decide) (fun h3 => absurd (by decide) h3) (fun h3 => ?_)
  refine x_iconstN (pc := 13) 1 dJ0_isLatin1_aae02_13 ic_1 ?_
  refine x_goto (pc := 14) (tgt := 18) dJ0_isLatin1_aae02_14 (by decide) ?_
  refine x_ret (pc := 18) (v := some _) rfl (by first | rfl | decide | exact xrt_b) dJ0_isLatin1_aae02_18 (by decide) ?_
  exact h
theorem sp_J0_length {i : Nat} (hi : i < 5) (h : K (some (.int (nI (wl i).length))) S M) : Ex g (d + 1) yJ0_length_8abf5 mJ0_length_8abf5 [.ref (2000 + i)] S M K := by
  have hb := (wl_len i hi).2
  refine x_entry kJ0_length_8abf5 (Nat.le_of_ble_eq_true rfl) ?_
  show Wp g _ mJ0_length_8abf5 0 [some (.ref (2000 + i))] [] _ _ _ _
  refine x_aload_n (pc := 0) dJ0_length_8abf5_0 rfl ?_
  refine x_strV (pc := 1) (by omega) dJ0_length_8abf5_1 flJ0_9 ?_
  refine x_strL (pc := 4) (v := nI _) (by omega) dJ0_length_8abf5_4 rfl ?_
  rw [(wl_len i hi).1]
  refine x_aload_n (pc := 5) dJ0_length_8abf5_5 rfl ?_
  refine x_invT (As := []) (pc := 6) dJ0_length_8abf5_6 mlJ0_335 imJ0_coder_7d493 seJ0_coder_7d493 kJ0_coder_7d493 (by omega) rfl rfl (Nat.le_of_ble_eq_true rfl) (by decide) ?_
  refine sp_J0_coder hi ?_
  refine x_cv rfl rfl ?_
  first | (guard_target =~ Wp _ _ _ _ _ (Value.int (nI _) :: Value.int (nI _) :: _) _ _ _ _; with_reducible refine x_ishrN (pc := 9) ?_ ?_ dJ0_length_8abf5_9 ?_; omega; omega) | refine x_ishr (pc := 9) dJ0_length_8abf5_9 ?_
  rw [Nat.pow_zero, Nat.div_one]
  refine x_ret (pc := 10) (v := some _) rfl trivial dJ0_length_8abf5_10 (by decide) ?_
  exact h
theorem sp_J3_checkIndex {k n o : Nat} (hk : k < n) (hn : n < 2 ^ 31) (h : K (some (.int (nI k))) S M) : Ex g d yJ3_checkIndex_8e157 mJ3_checkIndex_8e157 [.int (nI k), .int (nI n), .ref o] S M K := by
  refine x_entry kJ3_checkIndex_8e157 (Nat.le_of_ble_eq_true rfl) ?_
  show Wp g _ mJ3_checkIndex_8e157 0 [some (.int (nI k)), some (.int (nI n)), some (.ref o)] [] _ _ _ _
  refine x_iload_n (pc := 0) dJ3_checkIndex_8e157_0 rfl ?_
  refine x_if_ltN (pc := 1) (by omega) (tgt := 9) dJ3_checkIndex_8e157_1 (by decide) ?_
  refine x_iload_n (pc := 4) dJ3_checkIndex_8e157_4 rfl ?_
  refine x_iload_n (pc := 5) dJ3_checkIndex_8e157_5 rfl ?_
  first | (guard_target =~ Wp _ _ _ _ _ (Value.int (nI _) :: Value.int (nI _) :: _) _ _ _ _; with_reducible refine x_icmp_ltN (pc := 6) (tgt := 16) ?_ ?_ dJ3_checkIndex_8e157_6 ?_ (fun h6 => ?_) (fun h6 => ?_); (first | omega | exact b2n_31 _); (first | omega | exact b2n_31 _); decide) | refine x_icmp_lt (pc := 6) (tgt := 16) dJ3_checkIndex_8e157_6 (by decide) (fun h6 => ?_) (fun h6 => ?_)
  · skip
    refine x_iload_n (pc := 16) dJ3_checkIndex_8e157_16 rfl ?_
    refine x_ret (pc := 17) (v := some _) rfl trivial dJ3_checkIndex_8e157_17 (by decide) ?_
    exact h
  · skip
    omega
theorem sp_J0_checkIndex {k n : Nat} (hk : k < n) (hn : n < 2 ^ 31) (h : K none S M) : Ex g (d + 1) yJ0_checkIndex_df160 mJ0_checkIndex_df160 [.int (nI k), .int (nI n)] S M K := by
  refine x_entry kJ0_checkIndex_df160 (Nat.le_of_ble_eq_true rfl) ?_
  show Wp g _ mJ0_checkIndex_df160 0 [some (.int (nI k)), some (.int (nI n))] [] _ _ _ _
  refine x_iload_n (pc := 0) dJ0_checkIndex_df160_0 rfl ?_
  refine x_iload_n (pc := 1) dJ0_checkIndex_df160_1 rfl ?_
  refine x_getsF (pc := 2) dJ0_checkIndex_df160_2 flJ0_1053 ?_
  refine x_invS3 (pc := 5) dJ0_checkIndex_df160_5 mlJ0_1059 stJ3_checkIndex_8e157 kJ3_checkIndex_8e157 (Nat.le_of_ble_eq_true rfl) (by decide) ?_
  refine sp_J3_checkIndex hk hn ?_
  refine x_cv rfl rfl ?_
  refine x_pop (pc := 8) dJ0_checkIndex_df160_8 rfl ?_
  refine x_ret (pc := 9) (v := none) rfl trivial dJ0_checkIndex_df160_9 (by decide) ?_
  exact h
theorem sp_J1_charAt {i k : Nat} (hi : i < 5) (hk : k < (wl i).length) (h : K (some (.int (srt ((wl i).getD k 0)))) S M) : Ex g (d + 2) yJ1_charAt_3b067 mJ1_charAt_3b067 [.ref (3000 + i), .int (nI k)] S M K := by
  have hb := (wl_len i hi).2
  obtain ⟨q1, q2, q3⟩ := wl_by i hi k (by omega) hk
  obtain ⟨q4, q5, q6⟩ := ch_255 _ q2
  refine x_entry kJ1_charAt_3b067 (Nat.le_of_ble_eq_true rfl) ?_
  show Wp g _ mJ1_charAt_3b067 0 [some (.ref (3000 + i)), some (.int (nI k))] [] _ _ _ _
  refine x_iload_n (pc := 0) dJ1_charAt_3b067_0 rfl ?_
  refine x_aload_n (pc := 1) dJ1_charAt_3b067_1 rfl ?_
  refine x_strL (pc := 2) (v := nI _) (by omega) dJ1_charAt_3b067_2 rfl ?_
  rw [(wl_len i hi).1]
  refine x_invS2 (pc := 3) dJ1_charAt_3b067_3 mlJ1_9 stJ0_checkIndex_df160 kJ0_checkIndex_df160 (Nat.le_of_ble_eq_true rfl) (by decide) ?_
  refine sp_J0_checkIndex hk (by omega) ?_
  refine x_cn rfl rfl ?_
  refine x_aload_n (pc := 6) dJ1_charAt_3b067_6 rfl ?_
  refine x_iload_n (pc := 7) dJ1_charAt_3b067_7 rfl ?_
  refine x_strB (pc := 8) hi dJ1_charAt_3b067_8 (vp_in_nI (by rw [(wl_len i hi).1]; exact hk) (by rw [(wl_len i hi).1]; omega)) (by rw [nI_clamp (by omega)]) ?_
  rw [q1]
  refine x_sipushN (pc := 9) 255 dJ1_charAt_3b067_9 sp_255 ?_
  refine x_iand (pc := 12) dJ1_charAt_3b067_12 ?_
  refine x_i2c (pc := 13) dJ1_charAt_3b067_13 ?_
  rw [q4, q5]
  refine x_ret (pc := 14) (v := some _) rfl q6 dJ1_charAt_3b067_14 (by decide) ?_
  rw [srt_1 q3] at h; exact h
theorem sp_J0_charAt {i k : Nat} (hi : i < 5) (hk : k < (wl i).length) (h : K (some (.int (srt ((wl i).getD k 0)))) S M) : Ex g (d + 3) yJ0_charAt_5068e mJ0_charAt_5068e [.ref (2000 + i), .int (nI k)] S M K := by
  have hb := (wl_len i hi).2
  obtain ⟨q1, q2, q3⟩ := wl_by i hi k (by omega) hk
  obtain ⟨q4, q5, q6⟩ := ch_255 _ q2
  refine x_entry kJ0_charAt_5068e (Nat.le_of_ble_eq_true rfl) ?_
  show Wp g _ mJ0_charAt_5068e 0 [some (.ref (2000 + i)), some (.int (nI k))] [] _ _ _ _
  refine x_aload_n (pc := 0) dJ0_charAt_5068e_0 rfl ?_
  refine x_invT (As := []) (pc := 1) dJ0_charAt_5068e_1 mlJ0_492 imJ0_isLatin1_aae02 seJ0_isLatin1_aae02 kJ0_isLatin1_aae02 (by omega) rfl rfl (Nat.le_of_ble_eq_true rfl) (by decide) ?_
  refine sp_J0_isLatin1 hi ?_
  refine x_cv rfl rfl ?_
  first | (guard_target =~ Wp _ _ _ _ _ (Value.int (nI _) :: _) _ _ _ _; with_reducible refine x_if_eqN (pc := 4) (tgt := 16) ?_ dJ0_charAt_5068e_4 ?_ (fun h4 => ?_) (fun h4 => ?_); (first | omega | exact b2n_32 _ | exact b2n_31 _); decide) | refine x_if_eq (pc := 4) (tgt := 16) dJ0_charAt_5068e_4 (by decide) (fun h4 => ?_) (fun h4 => ?_)
  · skip
    omega
  · skip
    refine x_aload_n (pc := 7) dJ0_charAt_5068e_7 rfl ?_
    refine x_strV (pc := 8) (by omega) dJ0_charAt_5068e_8 flJ0_9 ?_
    refine x_iload_n (pc := 11) dJ0_charAt_5068e_11 rfl ?_
    refine x_invS2 (pc := 12) dJ0_charAt_5068e_12 mlJ0_495 stJ1_charAt_3b067 kJ1_charAt_3b067 (Nat.le_of_ble_eq_true rfl) (by decide) ?_
    refine sp_J1_charAt hi hk ?_
    refine x_cv rfl rfl ?_
    refine x_ret (pc := 15) (v := some _) rfl (by rw [srt_1 q3]; exact q6) dJ0_charAt_5068e_15 (by decide) ?_
    exact h
end P28
