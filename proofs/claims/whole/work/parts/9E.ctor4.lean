/-! CONSTRUCTORS: the program -/
section P9E
variable {g : XG} {d : Nat} {M : XM} {K : Option Value → XS → XM → Prop}
theorem ct_X9 (hg : good M 1) (hK : ∀ M', good M' 65 → K none (xSF.take 65) M') : Ex g (d + 4) yX9_init mX9_init [.ref 0] (xsh [] (.inr (9, zs tyX9 9)) []) M K := by
  refine x_entry kX9_init (Nat.le_of_ble_eq_true rfl) ?_
  show Wp g _ mX9_init 0 [some (.ref 0)] [] _ _ _ _
  refine x_aload_n (pc := 0) dX9_init_0 rfl ?_
  refine x_objH (pc := 1) rfl dX9_init_1 mlX9_3 (Nat.le_of_ble_eq_true rfl) ?_
  refine x_aload_n (pc := 4) dX9_init_4 rfl ?_
  refine x_newH (ci := 2) (pc := 5) tyX2 1 rfl dX9_init_5 clX9_9 insX2 iniX2 rfl xinX2 tyX2_ok (by decide +kernel) (by omega) (by decide) ?_
  refine x_dup (pc := 8) dX9_init_8 rfl ?_
  rw [xsh_new]
  refine x_invIN (As := []) (pc := 9) dX9_init_9 mlX9_11 imX2_init kX2_init rfl rfl (by omega) rfl (Nat.le_of_ble_eq_true rfl) (by decide) ?_
  refine ct_X2 (a := 1) rfl (by omega) (fun M1 hz1 => ?_)
  have hg1 : good M1 13 := hg.x2 (Or.inl rfl) hz1
  rw [xsh_sub]
  refine x_cnB (b1 := _) (b2 := _) rfl rfl ?_
  refine x_putRH (pc := 12) rfl dX9_init_12 flX9_12 (by decide) rfl rfl (by omega) rfl rfl rfl ?_
  refine x_aload_n (pc := 15) dX9_init_15 rfl ?_
  refine x_newH (ci := 2) (pc := 16) tyX2 13 rfl dX9_init_16 clX9_9 insX2 iniX2 rfl xinX2 tyX2_ok (by decide +kernel) (by omega) (by decide) ?_
  refine x_dup (pc := 19) dX9_init_19 rfl ?_
  rw [xsh_new]
  refine x_invIN (As := []) (pc := 20) dX9_init_20 mlX9_11 imX2_init kX2_init rfl rfl (by omega) rfl (Nat.le_of_ble_eq_true rfl) (by decide) ?_
  refine ct_X2 (a := 13) rfl (by omega) (fun M2 hz2 => ?_)
  have hg2 : good M2 25 := hg1.x2 (Or.inr (Or.inl rfl)) hz2
  rw [xsh_sub]
  refine x_cnB (b1 := _) (b2 := _) rfl rfl ?_
  refine x_putRH (pc := 23) rfl dX9_init_23 flX9_18 (by decide) rfl rfl (by omega) rfl rfl rfl ?_
  refine x_aload_n (pc := 26) dX9_init_26 rfl ?_
  refine x_newH (ci := 5) (pc := 27) tyX5 25 rfl dX9_init_27 clX9_21 insX5 iniX5 rfl xinX5 tyX5_ok (by decide +kernel) (by omega) (by decide) ?_
  refine x_dup (pc := 30) dX9_init_30 rfl ?_
  rw [xsh_new]
  refine x_invIN (As := []) (pc := 31) dX9_init_31 mlX9_23 imX5_init kX5_init rfl rfl (by omega) rfl (Nat.le_of_ble_eq_true rfl) (by decide) ?_
  refine ct_X5 (a := 25) rfl (by omega) (fun M3 hz3 => ?_)
  have hg3 : good M3 33 := (hg2.z1 (by omega)).nw hz3 (fun b h1 h2 => by omega)
  rw [xsh_sub]
  refine x_cnB (b1 := _) (b2 := _) rfl rfl ?_
  refine x_putRH (pc := 34) rfl dX9_init_34 flX9_24 (by decide) rfl rfl (by omega) rfl rfl rfl ?_
  refine x_aload_n (pc := 37) dX9_init_37 rfl ?_
  refine x_newH (ci := 5) (pc := 38) tyX5 33 rfl dX9_init_38 clX9_21 insX5 iniX5 rfl xinX5 tyX5_ok (by decide +kernel) (by omega) (by decide) ?_
  refine x_dup (pc := 41) dX9_init_41 rfl ?_
  rw [xsh_new]
  refine x_invIN (As := []) (pc := 42) dX9_init_42 mlX9_23 imX5_init kX5_init rfl rfl (by omega) rfl (Nat.le_of_ble_eq_true rfl) (by decide) ?_
  refine ct_X5 (a := 33) rfl (by omega) (fun M4 hz4 => ?_)
  have hg4 : good M4 41 := (hg3.z1 (by omega)).nw hz4 (fun b h1 h2 => by omega)
  rw [xsh_sub]
  refine x_cnB (b1 := _) (b2 := _) rfl rfl ?_
  refine x_putRH (pc := 45) rfl dX9_init_45 flX9_28 (by decide) rfl rfl (by omega) rfl rfl rfl ?_
  refine x_aload_n (pc := 48) dX9_init_48 rfl ?_
  refine x_newH (ci := 6) (pc := 49) tyX6 41 rfl dX9_init_49 clX9_31 insX6 iniX6 rfl xinX6 tyX6_ok (by decide +kernel) (by omega) (by decide) ?_
  refine x_dup (pc := 52) dX9_init_52 rfl ?_
  rw [xsh_new]
  refine x_invIN (As := []) (pc := 53) dX9_init_53 mlX9_33 imX6_init kX6_init rfl rfl (by omega) rfl (Nat.le_of_ble_eq_true rfl) (by decide) ?_
  refine ct_X6 (a := 41) rfl (by omega) (fun M5 hz5 => ?_)
  have hg5 : good M5 45 := (hg4.z1 (by omega)).nw hz5 (fun b h1 h2 => by omega)
  rw [xsh_sub]
  refine x_cnB (b1 := _) (b2 := _) rfl rfl ?_
  refine x_putRH (pc := 56) rfl dX9_init_56 flX9_34 (by decide) rfl rfl (by omega) rfl rfl rfl ?_
  refine x_aload_n (pc := 59) dX9_init_59 rfl ?_
  refine x_newH (ci := 1) (pc := 60) tyX1 45 rfl dX9_init_60 clX9_38 insX1 iniX1 rfl xinX1 tyX1_ok (by decide +kernel) (by omega) (by decide) ?_
  refine x_dup (pc := 63) dX9_init_63 rfl ?_
  refine x_aload_n (pc := 64) dX9_init_64 rfl ?_
  refine x_getR (pc := 65) dX9_init_65 flX9_12 (xsh_hd rfl) rfl ?_
  refine x_aload_n (pc := 68) dX9_init_68 rfl ?_
  refine x_getR (pc := 69) dX9_init_69 flX9_24 (xsh_hd rfl) rfl ?_
  refine x_aload_n (pc := 72) dX9_init_72 rfl ?_
  refine x_getR (pc := 73) dX9_init_73 flX9_34 (xsh_hd rfl) rfl ?_
  rw [xsh_new]
  refine x_invI (As := [.ref 1, .ref 25, .ref 41]) (pc := 76) dX9_init_76 mlX9_40 imX1_init kX1_init rfl rfl (by omega) rfl (Nat.le_of_ble_eq_true rfl) (by decide) ?_
  refine ct_X1 (a := 45) rfl rfl (hg5.z1 (by omega)) (fun M6 hg6 => ?_)
  rw [xsh_sub]
  refine x_cnB (b1 := _) (b2 := _) rfl rfl ?_
  refine x_putRH (pc := 79) rfl dX9_init_79 flX9_43 (by decide) rfl rfl (by omega) rfl rfl rfl ?_
  refine x_aload_n (pc := 82) dX9_init_82 rfl ?_
  refine x_newH (ci := 0) (pc := 83) tyX0 59 rfl dX9_init_83 clX9_47 insX0 iniX0 rfl xinX0 tyX0_ok (by decide +kernel) (by omega) (by decide) ?_
  refine x_dup (pc := 86) dX9_init_86 rfl ?_
  rw [xsh_new]
  refine x_invIN (As := []) (pc := 87) dX9_init_87 mlX9_49 imX0_init kX0_init rfl rfl (by omega) rfl (Nat.le_of_ble_eq_true rfl) (by decide) ?_
  refine ct_X0 (a := 59) rfl (by omega) (fun M7 hz7 => ?_)
  have hg7 : good M7 61 := (hg6.z1 (by omega)).nw hz7 (fun b h1 h2 => by omega)
  rw [xsh_sub]
  refine x_cnB (b1 := _) (b2 := _) rfl rfl ?_
  refine x_putRH (pc := 90) rfl dX9_init_90 flX9_50 (by decide) rfl rfl (by omega) rfl rfl rfl ?_
  refine x_aload_n (pc := 93) dX9_init_93 rfl ?_
  refine x_newH (ci := 8) (pc := 94) tyX8 61 rfl dX9_init_94 clX9_54 insX8 iniX8 rfl xinX8 tyX8_ok (by decide +kernel) (by omega) (by decide) ?_
  refine x_dup (pc := 97) dX9_init_97 rfl ?_
  rw [xsh_new]
  refine x_invIN (As := []) (pc := 98) dX9_init_98 mlX9_56 imX8_init kX8_init rfl rfl (by omega) rfl (Nat.le_of_ble_eq_true rfl) (by decide) ?_
  refine ct_X8 (a := 61) rfl rfl (hg7.z1 (by omega)) (fun M8 hg8 => ?_)
  rw [xsh_sub]
  refine x_cnB (b1 := _) (b2 := _) rfl rfl ?_
  refine x_putRH (pc := 101) rfl dX9_init_101 flX9_57 (by decide) rfl rfl (by omega) rfl rfl rfl ?_
  refine x_ret (pc := 104) (v := none) rfl trivial dX9_init_104 (by decide) ?_
  exact hK _ hg8
end P9E
