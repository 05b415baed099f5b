/-! the LAW: its loop -/
section P9A
variable {g : XG} {d : Nat}
theorem law_loop (hn : (xscr g).2.1 ≤ 3072) : ∀ m k M s, (xscr g).2.1 ≤ k + m → k ≤ 4000 → XC9 M s → MC9 M s → okT s → Wp g (d + 31) mL_law 18 [some (.ref 5000), some (.ref 0), some (.ref 65), some (.int (nI k))] [] xSF (113, 4999) M (fun v _ _ => v = some (.int (nI 1))) := by
  intro m
  induction m with
  | zero =>
    intro k M s hm hk4 hC hM hT
    refine x_iload_n (pc := 18) dL_law_18 rfl ?_
    refine x_aload_n (pc := 19) dL_law_19 rfl ?_
    refine x_scrL (pc := 20) (v := nI (xscr g).2.1) dL_law_20 rfl ?_
    refine x_bipushN (pc := 21) 6 dL_law_21 bp_6 ?_
    refine x_isub (pc := 23) dL_law_23 ?_
    refine x_icmp_gt (pc := 24) (tgt := 1428) dL_law_24 (by decide) (fun _ => ?_) (fun z => absurd ((sub_gt (by omega) (by omega) (by decide)).mpr (by omega)) z)
    refine x_iconstN (pc := 1428) 1 dL_law_1428 ic_1 ?_
    exact x_ret (pc := 1429) (v := some _) rfl (by first | rfl | decide) dL_law_1429 (by decide) rfl
  | succ m ih =>
    intro k M s hm hk4 hC hM hT
    refine x_iload_n (pc := 18) dL_law_18 rfl ?_
    refine x_aload_n (pc := 19) dL_law_19 rfl ?_
    refine x_scrL (pc := 20) (v := nI (xscr g).2.1) dL_law_20 rfl ?_
    refine x_bipushN (pc := 21) 6 dL_law_21 bp_6 ?_
    refine x_isub (pc := 23) dL_law_23 ?_
    refine x_icmp_gt (pc := 24) (tgt := 1428) dL_law_24 (by decide) (fun _ => ?_) (fun z => ?_)
    · refine x_iconstN (pc := 1428) 1 dL_law_1428 ic_1 ?_
      exact x_ret (pc := 1429) (v := some _) rfl (by first | rfl | decide) dL_law_1429 (by decide) rfl
    have hk : k + 6 ≤ (xscr g).2.1 := Nat.not_lt.mp (fun q => z ((sub_gt (by omega) (by omega) (by decide)).mpr (by omega)))
    have next : ∀ M' s', XC9 M' s' → MC9 M' s' → okT s' → Wp g (d + 31) mL_law 1422 [some (.ref 5000), some (.ref 0), some (.ref 65), some (.int (nI k))] [] xSF (113, 4999) M' (fun v _ _ => v = some (.int (nI 1))) := by
      intro M' s' hC' hM' hT'
      first | (guard_target =~ Wp _ _ _ _ (_ :: _ :: _ :: some (Value.int (nI _)) :: _) _ _ _ _ _; with_reducible refine x_iincN (pc := 1422) 6 ic_6 dL_law_1422 ?_ xg_3 xs_3 ?_ ?_; decide; exact (x_hp rfl)) | refine x_iincC (pc := 1422) ic_6 dL_law_1422 (by decide) rfl xs_3 (x_hp rfl) ?_
      refine x_goto (pc := 1425) (tgt := 18) dL_law_1425 (by decide) ?_
      exact ih (k + 6) M' s' (by omega) (by omega) hC' hM' hT'
    refine x_aload_n (pc := 27) dL_law_27 rfl ?_
    refine x_iload_n (pc := 28) dL_law_28 rfl ?_
    refine x_scrN (pc := 29) dL_law_29 ⟨by omega, hn⟩ ?_
    refine x_bipushN (pc := 30) 63 dL_law_30 bp_63 ?_
    refine x_iand (pc := 32) dL_law_32 ?_
    obtain ⟨j, hj, e⟩ := pk_andE ((xscr g).2.2 k) (m := nI 63) 6 (by decide)
    rw [e]
    by_cases h37 : 37 ≤ j
    · refine x_tableOut (pc := 33) (tgt := 1422) dL_law_33 (by rw [nI_toInt (by omega)]; omega) (by decide) ?_
      exact next M s hC hM hT
    have hh : j = 0 ∨ j = 1 ∨ j = 2 ∨ j = 3 ∨ j = 4 ∨ j = 5 ∨ j = 6 ∨ j = 7 ∨ j = 8 ∨ j = 9 ∨ j = 10 ∨ j = 11 ∨ j = 12 ∨ j = 13 ∨ j = 14 ∨ j = 15 ∨ j = 16 ∨ j = 17 ∨ j = 18 ∨ j = 19 ∨ j = 20 ∨ j = 21 ∨ j = 22 ∨ j = 23 ∨ j = 24 ∨ j = 25 ∨ j = 26 ∨ j = 27 ∨ j = 28 ∨ j = 29 ∨ j = 30 ∨ j = 31 ∨ j = 32 ∨ j = 33 ∨ j = 34 ∨ j = 35 ∨ j = 36 := by omega
    rcases hh with rfl | rfl | rfl | rfl | rfl | rfl | rfl | rfl | rfl | rfl | rfl | rfl | rfl | rfl | rfl | rfl | rfl | rfl | rfl | rfl | rfl | rfl | rfl | rfl | rfl | rfl | rfl | rfl | rfl | rfl | rfl | rfl | rfl | rfl | rfl | rfl | rfl
    · refine x_tableIn (pc := 33) (off := 163) (tgt := 196) dL_law_33 (by decide) (by decide) (by decide) (by decide) ?_
      exact law_0 hk hn hC hM hT next
    · refine x_tableIn (pc := 33) (off := 216) (tgt := 249) dL_law_33 (by decide) (by decide) (by decide) (by decide) ?_
      exact law_1 hk hn hC hM hT next
    · refine x_tableIn (pc := 33) (off := 249) (tgt := 282) dL_law_33 (by decide) (by decide) (by decide) (by decide) ?_
      exact law_2 hk hn hC hM hT next
    · refine x_tableIn (pc := 33) (off := 282) (tgt := 315) dL_law_33 (by decide) (by decide) (by decide) (by decide) ?_
      exact law_3 hk hn hC hM hT next
    · refine x_tableIn (pc := 33) (off := 325) (tgt := 358) dL_law_33 (by decide) (by decide) (by decide) (by decide) ?_
      exact law_4 hk hn hC hM hT next
    · refine x_tableIn (pc := 33) (off := 374) (tgt := 407) dL_law_33 (by decide) (by decide) (by decide) (by decide) ?_
      exact law_5 hk hn hC hM hT next
    · refine x_tableIn (pc := 33) (off := 423) (tgt := 456) dL_law_33 (by decide) (by decide) (by decide) (by decide) ?_
      exact law_6 hk hn hC hM hT next
    · refine x_tableIn (pc := 33) (off := 466) (tgt := 499) dL_law_33 (by decide) (by decide) (by decide) (by decide) ?_
      exact law_7 hk hn hC hM hT next
    · refine x_tableIn (pc := 33) (off := 489) (tgt := 522) dL_law_33 (by decide) (by decide) (by decide) (by decide) ?_
      exact law_8 hk hn hC hM hT next
    · refine x_tableIn (pc := 33) (off := 502) (tgt := 535) dL_law_33 (by decide) (by decide) (by decide) (by decide) ?_
      exact law_9 hk hn hC hM hT next
    · refine x_tableIn (pc := 33) (off := 525) (tgt := 558) dL_law_33 (by decide) (by decide) (by decide) (by decide) ?_
      exact law_10 hk hn hC hM hT next
    · refine x_tableIn (pc := 33) (off := 548) (tgt := 581) dL_law_33 (by decide) (by decide) (by decide) (by decide) ?_
      exact law_11 hk hn hC hM hT next
    · refine x_tableIn (pc := 33) (off := 581) (tgt := 614) dL_law_33 (by decide) (by decide) (by decide) (by decide) ?_
      exact law_12 hk hn hC hM hT next
    · refine x_tableIn (pc := 33) (off := 604) (tgt := 637) dL_law_33 (by decide) (by decide) (by decide) (by decide) ?_
      exact law_13 hk hn hC hM hT next
    · refine x_tableIn (pc := 33) (off := 637) (tgt := 670) dL_law_33 (by decide) (by decide) (by decide) (by decide) ?_
      exact law_14 hk hn hC hM hT next
    · refine x_tableIn (pc := 33) (off := 680) (tgt := 713) dL_law_33 (by decide) (by decide) (by decide) (by decide) ?_
      exact law_15 hk hn hC hM hT next
    · refine x_tableIn (pc := 33) (off := 703) (tgt := 736) dL_law_33 (by decide) (by decide) (by decide) (by decide) ?_
      exact law_16 hk hn hC hM hT next
    · refine x_tableIn (pc := 33) (off := 746) (tgt := 779) dL_law_33 (by decide) (by decide) (by decide) (by decide) ?_
      exact law_17 hk hn hC hM hT next
    · refine x_tableIn (pc := 33) (off := 769) (tgt := 802) dL_law_33 (by decide) (by decide) (by decide) (by decide) ?_
      exact law_18 hk hn hC hM hT next
    · refine x_tableIn (pc := 33) (off := 802) (tgt := 835) dL_law_33 (by decide) (by decide) (by decide) (by decide) ?_
      exact law_19 hk hn hC hM hT next
    · refine x_tableIn (pc := 33) (off := 815) (tgt := 848) dL_law_33 (by decide) (by decide) (by decide) (by decide) ?_
      exact law_20 hk hn hC hM hT next
    · refine x_tableIn (pc := 33) (off := 859) (tgt := 892) dL_law_33 (by decide) (by decide) (by decide) (by decide) ?_
      exact law_21 hk hn hC hM hT next
    · refine x_tableIn (pc := 33) (off := 893) (tgt := 926) dL_law_33 (by decide) (by decide) (by decide) (by decide) ?_
      exact law_22 hk hn hC hM hT next
    · refine x_tableIn (pc := 33) (off := 926) (tgt := 959) dL_law_33 (by decide) (by decide) (by decide) (by decide) ?_
      exact law_23 hk hn hC hM hT next
    · refine x_tableIn (pc := 33) (off := 949) (tgt := 982) dL_law_33 (by decide) (by decide) (by decide) (by decide) ?_
      exact law_24 hk hn hC hM hT next
    · refine x_tableIn (pc := 33) (off := 982) (tgt := 1015) dL_law_33 (by decide) (by decide) (by decide) (by decide) ?_
      exact law_25 hk hn hC hM hT next
    · refine x_tableIn (pc := 33) (off := 995) (tgt := 1028) dL_law_33 (by decide) (by decide) (by decide) (by decide) ?_
      exact law_26 hk hn hC hM hT next
    · refine x_tableIn (pc := 33) (off := 1028) (tgt := 1061) dL_law_33 (by decide) (by decide) (by decide) (by decide) ?_
      exact law_27 hk hn hC hM hT next
    · refine x_tableIn (pc := 33) (off := 1041) (tgt := 1074) dL_law_33 (by decide) (by decide) (by decide) (by decide) ?_
      exact law_28 hk hn hC hM hT next
    · refine x_tableIn (pc := 33) (off := 1054) (tgt := 1087) dL_law_33 (by decide) (by decide) (by decide) (by decide) ?_
      exact law_29 hk hn hC hM hT next
    · refine x_tableIn (pc := 33) (off := 1097) (tgt := 1130) dL_law_33 (by decide) (by decide) (by decide) (by decide) ?_
      exact law_30 hk hn hC hM hT next
    · refine x_tableIn (pc := 33) (off := 1120) (tgt := 1153) dL_law_33 (by decide) (by decide) (by decide) (by decide) ?_
      exact law_31 hk hn hC hM hT next
    · refine x_tableIn (pc := 33) (off := 1153) (tgt := 1186) dL_law_33 (by decide) (by decide) (by decide) (by decide) ?_
      exact law_32 hk hn hC hM hT next
    · refine x_tableIn (pc := 33) (off := 1176) (tgt := 1209) dL_law_33 (by decide) (by decide) (by decide) (by decide) ?_
      exact law_33 hk hn hC hM hT next
    · refine x_tableIn (pc := 33) (off := 1219) (tgt := 1252) dL_law_33 (by decide) (by decide) (by decide) (by decide) ?_
      exact law_34 hk hn hC hM hT next
    · refine x_tableIn (pc := 33) (off := 1292) (tgt := 1325) dL_law_33 (by decide) (by decide) (by decide) (by decide) ?_
      exact law_35 hk hn hC hM hT next
    · refine x_tableIn (pc := 33) (off := 1326) (tgt := 1359) dL_law_33 (by decide) (by decide) (by decide) (by decide) ?_
      exact law_36 hk hn hC hM hT next
end P9A
