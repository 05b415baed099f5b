/-! MEMORY 3: constructors' calls, statics, strings, the script, arraycopy -/
section XR4
variable {g : XG} {d n : Nat} {m my : XMe} {y : MethodName} {pc idx : Nat} {ls : XL} {st rest As : List Value} {S : XS} {B : Nat × Nat} {M : XM} {K : Option Value → XS → XM → Prop}
theorem x_invI {a : Nat} (hd : decode m.2.1 pc = .ok (.invokespecial idx, 3)) (hl : .methodLink m.1 idx y ∈ xG) (hin : .instanceMethod y ∈ xG) (hY : XY y my n) (hyi : y.name = "<init>") (hrn : my.2.2.2.1 = none) (hal : a < 1000)
    (hn : As.length = n) (hw : (rest.map fun v => v.category).sum ≤ 8) (hB : B.1 + my.2.2.2.2.1 ≤ m.2.2.2.2.1 ∧ B.2 + my.2.2.2.2.2 ≤ m.2.2.2.2.2)
    (h : Ex g d y my (.ref a :: As) S M (fun v S' M' => Wp g (d + 1) m (pc + 3) ls (v.toList ++ rest) S' (B.1 + my.2.2.2.2.1, B.2 + my.2.2.2.2.2) M' K)) : Wp g (d + 1) m pc ls (As.reverse ++ .ref a :: rest) S B M K := by
  intro p e R s mi args below meth c H locs la Q C hR hH hl0 hret
  have hea : xtr g (.ref a) = .ref (xb g + a) := xtr_ref hal
  have C' := id C
  obtain ⟨hx, hb, hml, hown, hts, hK, hO, -⟩ := C'
  have e0 : (As.reverse ++ .ref a :: rest).map (xtr g) = (As.map (xtr g)).reverse ++ .ref (xb g + a) :: rest.map (xtr g) := by
    rw [List.map_append, List.map_reverse, List.map_cons, hea]
  rw [e0]
  have cb := x_callB C hY hR hl
  rw [hrn] at cb
  unfold Ex at h
  rw [hrn] at h
  refine x_back hH (va_runI (Ts := xG) (As := As.map (xtr g)) (rest := rest.map (xtr g)) (b := xb g + a) (n := n) ⟨hx, hb, hml, hown, hts⟩ h ⟨cb, hyi, hts _ hin⟩ ⟨x_blind, fun U hU hW => ⟨?_, x_world C hH hU hW⟩⟩ rfl (by rw [List.length_map]; exact hn) hl0.1 rfl (lv_room (x_rest hw)) hd (x_hB hR hB)) ?_
  · rw [List.map_cons, hea]
  · intro v S' M' H' locs' hk hH'
    have k2 := hk p e R s mi args below meth c H' locs' la Q C hR hH' hl0 hret
    rw [List.map_append] at k2
    exact k2
theorem x_invIN {a : Nat} {host : String} (hd : decode m.2.1 pc = .ok (.invokespecial idx, 3)) (hl : .methodLinkNest m.1 idx y host ∈ xnest) (hin : .instanceMethod y ∈ xG) (hY : XY y my n) (hyi : y.name = "<init>") (hrn : my.2.2.2.1 = none) (hal : a < 1000)
    (hn : As.length = n) (hw : (rest.map fun v => v.category).sum ≤ 8) (hB : B.1 + my.2.2.2.2.1 ≤ m.2.2.2.2.1 ∧ B.2 + my.2.2.2.2.2 ≤ m.2.2.2.2.2)
    (h : Ex g d y my (.ref a :: As) S M (fun v S' M' => Wp g (d + 1) m (pc + 3) ls (v.toList ++ rest) S' (B.1 + my.2.2.2.2.1, B.2 + my.2.2.2.2.2) M' K)) : Wp g (d + 1) m pc ls (As.reverse ++ .ref a :: rest) S B M K := by
  intro p e R s mi args below meth c H locs la Q C hR hH hl0 hret
  have hea : xtr g (.ref a) = .ref (xb g + a) := xtr_ref hal
  have C' := id C
  obtain ⟨hx, hb, hml, hown, hts, hK, hO, -⟩ := C'
  have e0 : (As.reverse ++ .ref a :: rest).map (xtr g) = (As.map (xtr g)).reverse ++ .ref (xb g + a) :: rest.map (xtr g) := by
    rw [List.map_append, List.map_reverse, List.map_cons, hea]
  rw [e0]
  have hO' := id hO
  obtain ⟨-, -, -, -, -, -, -, -, -, -, -, hnest⟩ := hO'
  have hY' := id hY
  obtain ⟨-, -, hcode, hini, hdd, hnl, -⟩ := hY'
  obtain ⟨r1, r2, -, -⟩ := id hR
  have cb : va_CN R s args m.1 idx y host my.2.1 my.2.2.1 my.2.2.2.1 (.code y my.2.1 my.2.2.1 my.2.2.2.1 :: xG) (xrm d my) my.2.2.2.2.1 my.2.2.2.2.2 n := by
    refine va_cnB n hts (xG_good ?_) rfl rfl rfl (hnest _ hl) (hts _ hini) hdd ⟨r1, ?_⟩
    · intro w hw
      rcases List.mem_cons.mp hw with rfl | hw
      · exact hcode
      · exact hw
    · show 8 + (my.2.2.1 + 11) + 60 * d ≤ R.locals
      omega
  rw [hrn] at cb
  unfold Ex at h
  rw [hrn] at h
  refine x_back hH (va_runIN (Ts := xG) (As := As.map (xtr g)) (rest := rest.map (xtr g)) (b := xb g + a) (n := n) ⟨hx, hb, hml, hown, hts⟩ h ⟨cb, hyi, hts _ hin⟩ ⟨x_blind, fun U hU hW => ⟨?_, x_world C hH hU hW⟩⟩ rfl (by rw [List.length_map]; exact hn) hl0.1 rfl (lv_room (x_rest hw)) hd (x_hB hR hB)) ?_
  · rw [List.map_cons, hea]
  · intro v S' M' H' locs' hk hH'
    have k2 := hk p e R s mi args below meth c H' locs' la Q C hR hH' hl0 hret
    rw [List.map_append] at k2
    exact k2
theorem xtr_spn (k : Nat) (h : ¬ k < 1000) : xtr g (.ref k) = va_rf (xsp g k) := by
  show (if k < 1000 then Value.ref (xb g + k) else va_rf (xsp g k)) = _
  rw [if_neg h]
/-- statics: the two tables, what text is made of, what makes the refusal's text -/
theorem x_getsA (k : Nat) (hk : k < 2) (hd : decode m.2.1 pc = .ok (.getstatic idx, 3)) (hl : .fieldLink m.1 idx (if k = 0 then RX0 else RX4) (if k = 0 then "BODIES" else "ABOVE") "[I" ∈ xG)
    (kk : Wp g d m (pc + 3) ls (.ref (1000 + k) :: st) S B M K) : Wp g d m pc ls st S B M K := by
  intro p e R s mi args below meth c H locs la Q C hR hH hl0 hret
  have k2 := kk p e R s mi args below meth c H locs la Q C hR hH hl0 hret
  obtain ⟨hx, hb, hml, hown, hts, hK, hO, -⟩ := C
  obtain ⟨-, -, -, -, -, -, h7, h8, -⟩ := hO
  have he : xtr g (.ref (1000 + k)) = va_rf (xsp g (1000 + k)) := xtr_spn _ (by omega)
  rw [List.map_cons, he] at k2
  have hl2 := hts _ hl
  match k, hk with
  | 0, _ => exact va_gets hx hb h7 hH.2.1 hown hl2 (fun _ h => h) hd k2
  | 1, _ => exact va_gets hx hb h8 hH.2.1 hown hl2 (fun _ h => h) hd k2
theorem x_getsC (hd : decode m.2.1 pc = .ok (.getstatic idx, 3)) (hl : .fieldLink m.1 idx "java/lang/String" "COMPACT_STRINGS" "Z" ∈ xG) (kk : Wp g d m (pc + 3) ls (.int 1 :: st) S B M K) : Wp g d m pc ls st S B M K := by
  intro p e R s mi args below meth c H locs la Q C hR hH hl0 hret
  have k2 := kk p e R s mi args below meth c H locs la Q C hR hH hl0 hret
  obtain ⟨hx, hb, hml, hown, hts, hK, hO, -⟩ := C
  obtain ⟨-, -, -, -, -, -, -, -, h9, -⟩ := hO
  exact va_gets hx hb h9 hH.2.1 hown (hts _ hl) (fun _ h => h) hd k2
theorem x_getsF (hd : decode m.2.1 pc = .ok (.getstatic idx, 3)) (hl : .fieldLink m.1 idx "jdk/internal/util/Preconditions" "SIOOBE_FORMATTER" "Ljava/util/function/BiFunction;" ∈ xG) (kk : Wp g d m (pc + 3) ls (.ref 4000 :: st) S B M K) : Wp g d m pc ls st S B M K := by
  intro p e R s mi args below meth c H locs la Q C hR hH hl0 hret
  have k2 := kk p e R s mi args below meth c H locs la Q C hR hH hl0 hret
  obtain ⟨hx, hb, hml, hown, hts, hK, hO, -⟩ := C
  obtain ⟨-, -, -, -, -, -, -, -, -, h10, -⟩ := hO
  have he : xtr g (.ref 4000) = va_rf (xsp g 4000) := xtr_spn _ (by omega)
  rw [List.map_cons, he] at k2
  exact va_gets hx hb h10 hH.2.1 hown (hts _ hl) (fun _ h => h) hd k2
theorem x_ti {k : Nat} {i v : Int32} (hk : k < 2) (hd : decode m.2.1 pc = .ok (.iaload, 1)) (hin : vp_in i (xtn k)) (hv : xtv k i.toNatClampNeg = v) (kk : Wp g d m (pc + 1) ls (.int v :: st) S B M K) : Wp g d m pc ls (.int i :: .ref (1000 + k) :: st) S B M K := by
  subst hv
  intro p e R s mi args below meth c H locs la Q C hR hH hl0 hret
  have k2 := kk p e R s mi args below meth c H locs la Q C hR hH hl0 hret
  obtain ⟨hx, hb, hml, hown, hts, hK, hO, -⟩ := C
  obtain ⟨-, -, -, -, -, h6, -⟩ := hO
  obtain ⟨t, q1, q2⟩ := h6 k hk
  have he : xtr g (.ref (1000 + k)) = .ref t := xtr_sp (by omega) q1
  have e0 : (Value.int i :: Value.ref (1000 + k) :: st).map (xtr g) = .int i :: .ref t :: st.map (xtr g) := by rw [List.map_cons, List.map_cons, he]; rfl
  rw [e0]
  exact va_ti hx hb q2 hH.2.1 hin rfl hd k2
/-- the table's length -/
theorem x_tlen {k : Nat} {v : Int32} (hk : k < 2) (hd : decode m.2.1 pc = .ok (.arraylength, 1)) (hv : Int32.ofNat (xtn k) = v) (kk : Wp g d m (pc + 1) ls (.int v :: st) S B M K) : Wp g d m pc ls (.ref (1000 + k) :: st) S B M K := by
  intro p e R s mi args below meth c H locs la Q C hR hH hl0 hret
  have k2 := kk p e R s mi args below meth c H locs la Q C hR hH hl0 hret
  obtain ⟨hx, hb, hml, hown, hts, hK, hO, -⟩ := C
  obtain ⟨-, -, -, -, -, h6, -⟩ := hO
  obtain ⟨t, q1, q2⟩ := h6 k hk
  have he : xtr g (.ref (1000 + k)) = .ref t := xtr_sp (by omega) q1
  rw [List.map_cons, he]
  exact va_tlen hx hb q2 hH.2.1 hv hd k2
/-- a text's fields, its bytes -/
theorem x_strV {i : Nat} (hi : i < 5) (hd : decode m.2.1 pc = .ok (.getfield idx, 3)) (hl : .fieldLink m.1 idx "java/lang/String" "value" "[B" ∈ xG) (kk : Wp g d m (pc + 3) ls (.ref (3000 + i) :: st) S B M K) : Wp g d m pc ls (.ref (2000 + i) :: st) S B M K := by
  intro p e R s mi args below meth c H locs la Q C hR hH hl0 hret
  have k2 := kk p e R s mi args below meth c H locs la Q C hR hH hl0 hret
  obtain ⟨hx, hb, hml, hown, hts, hK, hO, -⟩ := C
  obtain ⟨-, -, -, -, -, -, -, -, -, -, ⟨aK, aV, hE, hq⟩, -⟩ := hO
  obtain ⟨q1, q2, q3⟩ := hq i hi
  have h1 : xtr g (.ref (2000 + i)) = .ref (aK i) := xtr_sp (by omega) q1
  have h2 : xtr g (.ref (3000 + i)) = .ref (aV i) := xtr_sp (by omega) q2
  rw [List.map_cons, h2] at k2
  rw [List.map_cons, h1]
  exact vk_getf hx hb (hE.1 i hi).2.2.1 hH.2.1 hown (hts _ hl) (fun _ h => h) hd k2
theorem x_strC {i : Nat} (hi : i < 5) (hd : decode m.2.1 pc = .ok (.getfield idx, 3)) (hl : .fieldLink m.1 idx "java/lang/String" "coder" "B" ∈ xG) (kk : Wp g d m (pc + 3) ls (.int 0 :: st) S B M K) : Wp g d m pc ls (.ref (2000 + i) :: st) S B M K := by
  intro p e R s mi args below meth c H locs la Q C hR hH hl0 hret
  have k2 := kk p e R s mi args below meth c H locs la Q C hR hH hl0 hret
  obtain ⟨hx, hb, hml, hown, hts, hK, hO, -⟩ := C
  obtain ⟨-, -, -, -, -, -, -, -, -, -, ⟨aK, aV, hE, hq⟩, -⟩ := hO
  obtain ⟨q1, q2, q3⟩ := hq i hi
  have h1 : xtr g (.ref (2000 + i)) = .ref (aK i) := xtr_sp (by omega) q1
  rw [List.map_cons, h1]
  exact vk_getf hx hb (hE.1 i hi).2.1 hH.2.1 hown (hts _ hl) (fun _ h => h) hd k2
theorem x_strL {i : Nat} {v : Int32} (hi : i < 5) (hd : decode m.2.1 pc = .ok (.arraylength, 1)) (hv : Int32.ofNat (xslen.getD i 0) = v) (kk : Wp g d m (pc + 1) ls (.int v :: st) S B M K) : Wp g d m pc ls (.ref (3000 + i) :: st) S B M K := by
  intro p e R s mi args below meth c H locs la Q C hR hH hl0 hret
  have k2 := kk p e R s mi args below meth c H locs la Q C hR hH hl0 hret
  obtain ⟨hx, hb, hml, hown, hts, hK, hO, -⟩ := C
  obtain ⟨-, -, -, -, -, -, -, -, -, -, ⟨aK, aV, hE, hq⟩, -⟩ := hO
  obtain ⟨q1, q2, q3⟩ := hq i hi
  have h2 : xtr g (.ref (3000 + i)) = .ref (aV i) := xtr_sp (by omega) q2
  rw [List.map_cons, h2]
  exact va_tlen hx hb (hE.1 i hi).2.2.2 hH.2.1 hv hd k2
theorem x_strB {i : Nat} {j v : Int32} (hi : i < 5) (hd : decode m.2.1 pc = .ok (.baload, 1)) (hin : vp_in j (xslen.getD i 0)) (hv : (xsbyt.getD i []).getD j.toNatClampNeg 0 = v) (kk : Wp g d m (pc + 1) ls (.int v :: st) S B M K) : Wp g d m pc ls (.int j :: .ref (3000 + i) :: st) S B M K := by
  subst hv
  intro p e R s mi args below meth c H locs la Q C hR hH hl0 hret
  have k2 := kk p e R s mi args below meth c H locs la Q C hR hH hl0 hret
  obtain ⟨hx, hb, hml, hown, hts, hK, hO, -⟩ := C
  obtain ⟨-, -, -, -, -, -, -, -, -, -, ⟨aK, aV, hE, hq⟩, -⟩ := hO
  obtain ⟨q1, q2, q3⟩ := hq i hi
  have h2 : xtr g (.ref (3000 + i)) = .ref (aV i) := xtr_sp (by omega) q2
  have e0 : (Value.int j :: Value.ref (3000 + i) :: st).map (xtr g) = .int j :: .ref (aV i) :: st.map (xtr g) := by rw [List.map_cons, List.map_cons, h2]; rfl
  rw [e0]
  exact va_tb hx hb (hE.1 i hi).2.2.2 hH.2.1 hin rfl hd k2
/-- the script -/
theorem x_scrL {v : Int32} (hd : decode m.2.1 pc = .ok (.arraylength, 1)) (hv : Int32.ofNat (xscr g).2.1 = v) (kk : Wp g d m (pc + 1) ls (.int v :: st) S B M K) : Wp g d m pc ls (.ref 5000 :: st) S B M K := by
  subst hv
  intro p e R s mi args below meth c H locs la Q C hR hH hl0 hret
  have k2 := kk p e R s mi args below meth c H locs la Q C hR hH hl0 hret
  obtain ⟨hx, hb, hml, hown, hts, hK, hO, -⟩ := C
  obtain ⟨h1, h2, h3, h4, h5, -⟩ := hO
  have he : xtr g (.ref 5000) = .ref (xscr g).1 := xtr_sp (by omega) h3
  rw [List.map_cons, he]
  exact va_slen hx hb h1 (Nat.lt_of_lt_of_le h2 h5) (Nat.not_le.mpr h2) hH.2.1 hd k2
theorem x_scrI {i : Int32} (hd : decode m.2.1 pc = .ok (.iaload, 1)) (hin : vp_in i (xscr g).2.1) (kk : Wp g d m (pc + 1) ls (.int ((xscr g).2.2 i.toNatClampNeg) :: st) S B M K) : Wp g d m pc ls (.int i :: .ref 5000 :: st) S B M K := by
  intro p e R s mi args below meth c H locs la Q C hR hH hl0 hret
  have k2 := kk p e R s mi args below meth c H locs la Q C hR hH hl0 hret
  obtain ⟨hx, hb, hml, hown, hts, hK, hO, -⟩ := C
  obtain ⟨h1, h2, h3, h4, h5, -⟩ := hO
  have he : xtr g (.ref 5000) = .ref (xscr g).1 := xtr_sp (by omega) h3
  have e0 : (Value.int i :: Value.ref 5000 :: st).map (xtr g) = .int i :: .ref (xscr g).1 :: st.map (xtr g) := by rw [List.map_cons, List.map_cons, he]; rfl
  rw [e0]
  exact va_sld hx hb h1 (Nat.lt_of_lt_of_le h2 h5) (Nat.not_le.mpr h2) hH.2.1 hin hd k2
/-- System.arraycopy among rows of ints, of longs; all is made by then -/
def xcpy (M : XM) (a0 a1 sp dp n : Nat) : XM := xrow M a1 (va_cpy (M.1 a0) (M.1 a1) sp dp n)
def xcpyL (M : XM) (a0 a1 sp dp n : Nat) : XM := xrowL M a1 (va_cpy (M.2 a0) (M.2 a1) sp dp n)
theorem xH_set {s : State} {H H1 : Heap} {locs locs1 : List Loc} {M' : XM} {a : Nat} {e : (Nat × Nat) ⊕ (Nat × List (Option Value))} (hN : S.length = xN) (hH : XH g s H locs S M) (h : S[a]? = some e) (hM : ∀ k, k ≠ a → M'.1 k = M.1 k ∧ M'.2 k = M.2 k)
    (hP : va_P (xD g) xcl ((xws g S M).set a (xb g + a, xE g M' a e)) H1) (hS1 : va_S (fun q => xb g ≤ q) s.heap H1 locs1) : XH g s H1 locs1 S M' := by
  rw [xws_upd (S' := S) h (fun k hk => rfl) h hM] at hP
  exact ⟨hP, hS1, Or.inl hN, hH.2.2.2⟩
theorem x_copyI {a0 a1 n0 n1 : Nat} {sp dp n : Int32} (hN : S.length = xN) (hd : decode m.2.1 pc = .ok (.invokestatic idx, 3)) (hl : .methodLink m.1 idx arraycopyName ∈ xG) (hnat : .native arraycopyName ∈ xG) (hst : .static arraycopyName ∈ xG) (hini : .initialized "java/lang/System" ∈ xG)
    (h0 : S[a0]? = some (.inl (0, n0))) (h1 : S[a1]? = some (.inl (0, n1))) (hs : ¬ sp < 0) (hdp : ¬ dp < 0) (hn : ¬ n < 0) (h4 : sp.toNatClampNeg + n.toNatClampNeg ≤ n0) (h5 : dp.toNatClampNeg + n.toNatClampNeg ≤ n1) (hw : (st.map fun v => v.category).sum ≤ 8)
    (kk : Wp g (d + 1) m (pc + 3) ls st S B (xcpy M a0 a1 sp.toNatClampNeg dp.toNatClampNeg n.toNatClampNeg) K) : Wp g (d + 1) m pc ls (.int n :: .int dp :: .ref a1 :: .int sp :: .ref a0 :: st) S B M K := by
  intro p e R s mi args below meth c H locs la Q C hR hH hl0 hret
  have C' := id C
  obtain ⟨hx, hb, hml, hown, hts, hK, hO, -⟩ := C'
  have e0 : (Value.int n :: .int dp :: .ref a1 :: .int sp :: .ref a0 :: st).map (xtr g) = .int n :: .int dp :: .ref (xb g + a1) :: .int sp :: .ref (xb g + a0) :: st.map (xtr g) := by
    simp only [List.map_cons]
    rw [xtr_ref (x_al hH h0), xtr_ref (x_al hH h1)]
    rfl
  rw [e0]
  have h8 := x_rest (g := g) hw
  have hr1 := hR.1
  have hr2 := hR.2.1
  have hnw : nativeFrameWords "java/lang/System" "arraycopy" 5 ≤ 30 := by decide +kernel
  refine va_copyi (D := xD g) (cl := xcl) (A := fun q => xb g ≤ q) hx hb (by rw [hml]; exact hl0.1.symm) hown (hts _ hl) (hts _ hnat) (hts _ hst) (hts _ hini) hK hH.1 (xws_D g S M) hH.2.1 a0 a1 0 0 (x_wsI (by decide) h0) (x_wsI (by decide) h1) rfl rfl rfl hs hdp hn h4 h5 (fun _ _ => rfl) (by omega) (by omega) hd ?_
  intro H1 locs1 hP hD1 hS1
  refine kk p e R s mi args below meth c H1 locs1 la Q C hR (xH_set hN hH h1 (fun k hk => ⟨by simp [xcpy, xrow, hk], rfl⟩) ?_ hS1) hl0 hret
  rw [xE_int (by decide)]
  simp only [xcpy, xrow, if_true]
  exact hP
theorem x_copyL {a0 a1 n0 n1 : Nat} {sp dp n : Int32} (hN : S.length = xN) (hd : decode m.2.1 pc = .ok (.invokestatic idx, 3)) (hl : .methodLink m.1 idx arraycopyName ∈ xG) (hnat : .native arraycopyName ∈ xG) (hst : .static arraycopyName ∈ xG) (hini : .initialized "java/lang/System" ∈ xG)
    (h0 : S[a0]? = some (.inl (3, n0))) (h1 : S[a1]? = some (.inl (3, n1))) (hs : ¬ sp < 0) (hdp : ¬ dp < 0) (hn : ¬ n < 0) (h4 : sp.toNatClampNeg + n.toNatClampNeg ≤ n0) (h5 : dp.toNatClampNeg + n.toNatClampNeg ≤ n1) (hw : (st.map fun v => v.category).sum ≤ 8)
    (kk : Wp g (d + 1) m (pc + 3) ls st S B (xcpyL M a0 a1 sp.toNatClampNeg dp.toNatClampNeg n.toNatClampNeg) K) : Wp g (d + 1) m pc ls (.int n :: .int dp :: .ref a1 :: .int sp :: .ref a0 :: st) S B M K := by
  intro p e R s mi args below meth c H locs la Q C hR hH hl0 hret
  have C' := id C
  obtain ⟨hx, hb, hml, hown, hts, hK, hO, -⟩ := C'
  have e0 : (Value.int n :: .int dp :: .ref a1 :: .int sp :: .ref a0 :: st).map (xtr g) = .int n :: .int dp :: .ref (xb g + a1) :: .int sp :: .ref (xb g + a0) :: st.map (xtr g) := by
    simp only [List.map_cons]
    rw [xtr_ref (x_al hH h0), xtr_ref (x_al hH h1)]
    rfl
  rw [e0]
  have h8 := x_rest (g := g) hw
  have hr1 := hR.1
  have hr2 := hR.2.1
  have hnw : nativeFrameWords "java/lang/System" "arraycopy" 5 ≤ 30 := by decide +kernel
  refine va_copyl (D := xD g) (cl := xcl) (A := fun q => xb g ≤ q) hx hb (by rw [hml]; exact hl0.1.symm) hown (hts _ hl) (hts _ hnat) (hts _ hst) (hts _ hini) hK hH.1 (xws_D g S M) hH.2.1 a0 a1 3 3 (x_wsL h0) (x_wsL h1) rfl rfl rfl hs hdp hn h4 h5 (fun _ _ => rfl) (by omega) (by omega) hd ?_
  intro H1 locs1 hP hD1 hS1
  refine kk p e R s mi args below meth c H1 locs1 la Q C hR (xH_set hN hH h1 (fun k hk => ⟨rfl, by simp [xcpyL, xrowL, hk]⟩) ?_ hS1) hl0 hret
  rw [xE_long]
  simp only [xcpyL, xrowL, if_true]
  exact hP
/-- calls by the number of arguments -/
theorem x_invV0 {a ci N : Nat} {fs : List (Option Value)} {T : u_T} (hd : decode m.2.1 pc = .ok (.invokevirtual idx, 3)) (hl : .methodLink m.1 idx y ∈ xG) (hin : .instanceMethod y ∈ xG) (hse : .selects y.cls y y ∈ xG) (hY : XY y my 0)
    (ha : S[a]? = some (.inr (ci, fs))) (hc : xcl[ci]? = some (y.cls, T, N)) (hw : (rest.map fun v => v.category).sum ≤ 8) (hB : B.1 + my.2.2.2.2.1 ≤ m.2.2.2.2.1 ∧ B.2 + my.2.2.2.2.2 ≤ m.2.2.2.2.2)
    (h : Ex g d y my [.ref a] S M (fun v S' M' => Wp g (d + 1) m (pc + 3) ls (v.toList ++ rest) S' (B.1 + my.2.2.2.2.1, B.2 + my.2.2.2.2.2) M' K)) : Wp g (d + 1) m pc ls (.ref a :: rest) S B M K := x_invV (As := []) hd hl hin hse hY ha hc rfl hw hB h
theorem x_invV1 {a ci N : Nat} {fs : List (Option Value)} {T : u_T} {v1 : Value} (hd : decode m.2.1 pc = .ok (.invokevirtual idx, 3)) (hl : .methodLink m.1 idx y ∈ xG) (hin : .instanceMethod y ∈ xG) (hse : .selects y.cls y y ∈ xG) (hY : XY y my 1)
    (ha : S[a]? = some (.inr (ci, fs))) (hc : xcl[ci]? = some (y.cls, T, N)) (hw : (rest.map fun v => v.category).sum ≤ 8) (hB : B.1 + my.2.2.2.2.1 ≤ m.2.2.2.2.1 ∧ B.2 + my.2.2.2.2.2 ≤ m.2.2.2.2.2)
    (h : Ex g d y my [.ref a, v1] S M (fun v S' M' => Wp g (d + 1) m (pc + 3) ls (v.toList ++ rest) S' (B.1 + my.2.2.2.2.1, B.2 + my.2.2.2.2.2) M' K)) : Wp g (d + 1) m pc ls (v1 :: .ref a :: rest) S B M K := x_invV (As := [v1]) hd hl hin hse hY ha hc rfl hw hB h
theorem x_invV2 {a ci N : Nat} {fs : List (Option Value)} {T : u_T} {v1 v2 : Value} (hd : decode m.2.1 pc = .ok (.invokevirtual idx, 3)) (hl : .methodLink m.1 idx y ∈ xG) (hin : .instanceMethod y ∈ xG) (hse : .selects y.cls y y ∈ xG) (hY : XY y my 2)
    (ha : S[a]? = some (.inr (ci, fs))) (hc : xcl[ci]? = some (y.cls, T, N)) (hw : (rest.map fun v => v.category).sum ≤ 8) (hB : B.1 + my.2.2.2.2.1 ≤ m.2.2.2.2.1 ∧ B.2 + my.2.2.2.2.2 ≤ m.2.2.2.2.2)
    (h : Ex g d y my [.ref a, v1, v2] S M (fun v S' M' => Wp g (d + 1) m (pc + 3) ls (v.toList ++ rest) S' (B.1 + my.2.2.2.2.1, B.2 + my.2.2.2.2.2) M' K)) : Wp g (d + 1) m pc ls (v2 :: v1 :: .ref a :: rest) S B M K := x_invV (As := [v1, v2]) hd hl hin hse hY ha hc rfl hw hB h
theorem x_invV3 {a ci N : Nat} {fs : List (Option Value)} {T : u_T} {v1 v2 v3 : Value} (hd : decode m.2.1 pc = .ok (.invokevirtual idx, 3)) (hl : .methodLink m.1 idx y ∈ xG) (hin : .instanceMethod y ∈ xG) (hse : .selects y.cls y y ∈ xG) (hY : XY y my 3)
    (ha : S[a]? = some (.inr (ci, fs))) (hc : xcl[ci]? = some (y.cls, T, N)) (hw : (rest.map fun v => v.category).sum ≤ 8) (hB : B.1 + my.2.2.2.2.1 ≤ m.2.2.2.2.1 ∧ B.2 + my.2.2.2.2.2 ≤ m.2.2.2.2.2)
    (h : Ex g d y my [.ref a, v1, v2, v3] S M (fun v S' M' => Wp g (d + 1) m (pc + 3) ls (v.toList ++ rest) S' (B.1 + my.2.2.2.2.1, B.2 + my.2.2.2.2.2) M' K)) : Wp g (d + 1) m pc ls (v3 :: v2 :: v1 :: .ref a :: rest) S B M K := x_invV (As := [v1, v2, v3]) hd hl hin hse hY ha hc rfl hw hB h
theorem x_invV4 {a ci N : Nat} {fs : List (Option Value)} {T : u_T} {v1 v2 v3 v4 : Value} (hd : decode m.2.1 pc = .ok (.invokevirtual idx, 3)) (hl : .methodLink m.1 idx y ∈ xG) (hin : .instanceMethod y ∈ xG) (hse : .selects y.cls y y ∈ xG) (hY : XY y my 4)
    (ha : S[a]? = some (.inr (ci, fs))) (hc : xcl[ci]? = some (y.cls, T, N)) (hw : (rest.map fun v => v.category).sum ≤ 8) (hB : B.1 + my.2.2.2.2.1 ≤ m.2.2.2.2.1 ∧ B.2 + my.2.2.2.2.2 ≤ m.2.2.2.2.2)
    (h : Ex g d y my [.ref a, v1, v2, v3, v4] S M (fun v S' M' => Wp g (d + 1) m (pc + 3) ls (v.toList ++ rest) S' (B.1 + my.2.2.2.2.1, B.2 + my.2.2.2.2.2) M' K)) : Wp g (d + 1) m pc ls (v4 :: v3 :: v2 :: v1 :: .ref a :: rest) S B M K := x_invV (As := [v1, v2, v3, v4]) hd hl hin hse hY ha hc rfl hw hB h
theorem x_invV5 {a ci N : Nat} {fs : List (Option Value)} {T : u_T} {v1 v2 v3 v4 v5 : Value} (hd : decode m.2.1 pc = .ok (.invokevirtual idx, 3)) (hl : .methodLink m.1 idx y ∈ xG) (hin : .instanceMethod y ∈ xG) (hse : .selects y.cls y y ∈ xG) (hY : XY y my 5)
    (ha : S[a]? = some (.inr (ci, fs))) (hc : xcl[ci]? = some (y.cls, T, N)) (hw : (rest.map fun v => v.category).sum ≤ 8) (hB : B.1 + my.2.2.2.2.1 ≤ m.2.2.2.2.1 ∧ B.2 + my.2.2.2.2.2 ≤ m.2.2.2.2.2)
    (h : Ex g d y my [.ref a, v1, v2, v3, v4, v5] S M (fun v S' M' => Wp g (d + 1) m (pc + 3) ls (v.toList ++ rest) S' (B.1 + my.2.2.2.2.1, B.2 + my.2.2.2.2.2) M' K)) : Wp g (d + 1) m pc ls (v5 :: v4 :: v3 :: v2 :: v1 :: .ref a :: rest) S B M K := x_invV (As := [v1, v2, v3, v4, v5]) hd hl hin hse hY ha hc rfl hw hB h
theorem x_invS1 {v1 : Value} (hd : decode m.2.1 pc = .ok (.invokestatic idx, 3)) (hl : .methodLink m.1 idx y ∈ xG) (hin : .static y ∈ xG) (hY : XY y my 1) (hw : (rest.map fun v => v.category).sum ≤ 8) (hB : B.1 + my.2.2.2.2.1 ≤ m.2.2.2.2.1 ∧ B.2 + my.2.2.2.2.2 ≤ m.2.2.2.2.2)
    (h : Ex g d y my [v1] S M (fun v S' M' => Wp g (d + 1) m (pc + 3) ls (v.toList ++ rest) S' (B.1 + my.2.2.2.2.1, B.2 + my.2.2.2.2.2) M' K)) : Wp g (d + 1) m pc ls (v1 :: rest) S B M K := x_invS (As := [v1]) hd hl hin hY rfl hw hB h
theorem x_invS2 {v1 v2 : Value} (hd : decode m.2.1 pc = .ok (.invokestatic idx, 3)) (hl : .methodLink m.1 idx y ∈ xG) (hin : .static y ∈ xG) (hY : XY y my 2) (hw : (rest.map fun v => v.category).sum ≤ 8) (hB : B.1 + my.2.2.2.2.1 ≤ m.2.2.2.2.1 ∧ B.2 + my.2.2.2.2.2 ≤ m.2.2.2.2.2)
    (h : Ex g d y my [v1, v2] S M (fun v S' M' => Wp g (d + 1) m (pc + 3) ls (v.toList ++ rest) S' (B.1 + my.2.2.2.2.1, B.2 + my.2.2.2.2.2) M' K)) : Wp g (d + 1) m pc ls (v2 :: v1 :: rest) S B M K := x_invS (As := [v1, v2]) hd hl hin hY rfl hw hB h
theorem x_invS3 {v1 v2 v3 : Value} (hd : decode m.2.1 pc = .ok (.invokestatic idx, 3)) (hl : .methodLink m.1 idx y ∈ xG) (hin : .static y ∈ xG) (hY : XY y my 3) (hw : (rest.map fun v => v.category).sum ≤ 8) (hB : B.1 + my.2.2.2.2.1 ≤ m.2.2.2.2.1 ∧ B.2 + my.2.2.2.2.2 ≤ m.2.2.2.2.2)
    (h : Ex g d y my [v1, v2, v3] S M (fun v S' M' => Wp g (d + 1) m (pc + 3) ls (v.toList ++ rest) S' (B.1 + my.2.2.2.2.1, B.2 + my.2.2.2.2.2) M' K)) : Wp g (d + 1) m pc ls (v3 :: v2 :: v1 :: rest) S B M K := x_invS (As := [v1, v2, v3]) hd hl hin hY rfl hw hB h
end XR4
