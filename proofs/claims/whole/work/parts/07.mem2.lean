/-! MEMORY 2: rows, making, constructors, what stands outside -/
section XR3
variable {g : XG} {d : Nat} {m : XMe} {pc : Nat} {ls : XL} {st : List Value} {S : XS} {B : Nat × Nat} {M : XM} {K : Option Value → XS → XM → Prop}
theorem x_e1 {a : Nat} {i : Int32} (hal : a < 1000) : (Value.int i :: Value.ref a :: st).map (xtr g) = .int i :: .ref (xb g + a) :: st.map (xtr g) := by rw [List.map_cons, List.map_cons, xtr_ref hal]; rfl
theorem x_e2 {a : Nat} {i x : Int32} (hal : a < 1000) : (Value.int x :: Value.int i :: Value.ref a :: st).map (xtr g) = .int x :: .int i :: .ref (xb g + a) :: st.map (xtr g) := by rw [List.map_cons, List.map_cons, List.map_cons, xtr_ref hal]; rfl
theorem x_al {s : State} {H : Heap} {locs : List Loc} {a : Nat} {e : (Nat × Nat) ⊕ (Nat × List (Option Value))} (hH : XH g s H locs S M) (ha : S[a]? = some e) : a < 1000 := Nat.lt_of_lt_of_le (List.getElem?_eq_some_iff.mp ha).1 hH.2.2.2
theorem x_wsI {a t n : Nat} (h : t ≠ 3) (ha : S[a]? = some (.inl (t, n))) : (xws g S M)[a]? = some (xb g + a, .inl (xcT g t, n, .inl (M.1 a))) := by rw [xws_get ha, xE_int h]
theorem x_wsL {a n : Nat} (ha : S[a]? = some (.inl (3, n))) : (xws g S M)[a]? = some (xb g + a, .inl (xcT g 3, n, .inr (.inl (M.2 a)))) := by rw [xws_get ha, xE_long]
theorem x_iald {a n : Nat} {i : Int32} (hd : decode m.2.1 pc = .ok (.iaload, 1)) (ha : S[a]? = some (.inl (0, n))) (hin : vp_in i n) (kk : Wp g d m (pc + 1) ls (.int (M.1 a i.toNatClampNeg) :: st) S B M K) : Wp g d m pc ls (.int i :: .ref a :: st) S B M K := by
  intro p e R s mi args below meth c H locs la Q C hR hH hl0 hret
  rw [x_e1 (x_al hH ha)]
  exact va_iald (D := xD g) (cl := xcl) (f := M.1 a) C.1 C.2.1 C.2.2.2.2.2.1 hH.1 a 0 (x_wsI (by decide) ha) rfl hin hd (kk p e R s mi args below meth c H locs la Q C hR hH hl0 hret)
theorem x_bald {a n : Nat} {i : Int32} (hd : decode m.2.1 pc = .ok (.baload, 1)) (ha : S[a]? = some (.inl (1, n))) (hin : vp_in i n) (kk : Wp g d m (pc + 1) ls (.int (M.1 a i.toNatClampNeg) :: st) S B M K) : Wp g d m pc ls (.int i :: .ref a :: st) S B M K := by
  intro p e R s mi args below meth c H locs la Q C hR hH hl0 hret
  rw [x_e1 (x_al hH ha)]
  exact va_bald (D := xD g) (cl := xcl) (f := M.1 a) C.1 C.2.1 C.2.2.2.2.2.1 hH.1 a 1 (x_wsI (by decide) ha) rfl hin hd (kk p e R s mi args below meth c H locs la Q C hR hH hl0 hret)
theorem x_zald {a n : Nat} {i : Int32} (hd : decode m.2.1 pc = .ok (.baload, 1)) (ha : S[a]? = some (.inl (2, n))) (hin : vp_in i n) (kk : Wp g d m (pc + 1) ls (.int (M.1 a i.toNatClampNeg) :: st) S B M K) : Wp g d m pc ls (.int i :: .ref a :: st) S B M K := by
  intro p e R s mi args below meth c H locs la Q C hR hH hl0 hret
  rw [x_e1 (x_al hH ha)]
  exact va_zald (D := xD g) (cl := xcl) (f := M.1 a) C.1 C.2.1 C.2.2.2.2.2.1 hH.1 a 2 (x_wsI (by decide) ha) rfl hin hd (kk p e R s mi args below meth c H locs la Q C hR hH hl0 hret)
theorem x_lald {a n : Nat} {i : Int32} (hd : decode m.2.1 pc = .ok (.laload, 1)) (ha : S[a]? = some (.inl (3, n))) (hin : vp_in i n) (kk : Wp g d m (pc + 1) ls (.long (M.2 a i.toNatClampNeg) :: st) S B M K) : Wp g d m pc ls (.int i :: .ref a :: st) S B M K := by
  intro p e R s mi args below meth c H locs la Q C hR hH hl0 hret
  rw [x_e1 (x_al hH ha)]
  exact va_lald (D := xD g) (cl := xcl) (f := M.2 a) C.1 C.2.1 C.2.2.2.2.2.1 hH.1 a 3 (x_wsL ha) rfl hin hd (kk p e R s mi args below meth c H locs la Q C hR hH hl0 hret)
theorem x_alen {a t n : Nat} {v : Int32} (hd : decode m.2.1 pc = .ok (.arraylength, 1)) (ht : t < 3) (ha : S[a]? = some (.inl (t, n))) (hv : Int32.ofNat n = v) (kk : Wp g d m (pc + 1) ls (.int v :: st) S B M K) : Wp g d m pc ls (.ref a :: st) S B M K := by
  intro p e R s mi args below meth c H locs la Q C hR hH hl0 hret
  have e0 : (Value.ref a :: st).map (xtr g) = .ref (xb g + a) :: st.map (xtr g) := by rw [List.map_cons, xtr_ref (x_al hH ha)]
  rw [e0]
  obtain ⟨ty, hty⟩ : ∃ ty, (xtys g)[t]? = some (xcT g t, ty) := by
    match t, ht with
    | 0, _ => exact ⟨.int, rfl⟩
    | 1, _ => exact ⟨.byte, rfl⟩
    | 2, _ => exact ⟨.boolean, rfl⟩
  exact va_alen (D := xD g) (cl := xcl) (x := (n, .inl (M.1 a))) C.1 C.2.1 C.2.2.2.2.2.1 hH.1 a t (x_wsI (by omega) ha) hty hv hd (kk p e R s mi args below meth c H locs la Q C hR hH hl0 hret)
theorem x_ist {s : State} {H1 : Heap} {a n t j : Nat} {x y : Int32} (ht : t ≠ 3) (hxy : y = x) (e1 : H1[xb g + a]? = some ((vp_cell (xcT g t) (n, .inl (M.1 a))).setSlot j (.int y))) : va_at (xD g) xcl (xb g + a, xE g (xput M a j x) a (.inl (t, n))) H1 := by
  subst hxy
  rw [xE_int ht]
  show H1[xb g + a]? = some (vp_cell _ _)
  rw [e1, vp_cell_i, vp_cell_i, arrV_store]
  congr 2
  funext q
  by_cases hq : q = j
  · subst hq; simp [updV, xput]
  · simp [updV, xput, hq]
theorem x_iast {a n : Nat} {i x : Int32} (hd : decode m.2.1 pc = .ok (.iastore, 1)) (ha : S[a]? = some (.inl (0, n))) (hin : vp_in i n) (kk : Wp g d m (pc + 1) ls st S B (xput M a i.toNatClampNeg x) K) : Wp g d m pc ls (.int x :: .int i :: .ref a :: st) S B M K := by
  intro p e R s mi args below meth c H locs la Q C hR hH hl0 hret
  rw [x_e2 (x_al hH ha)]
  refine W.iast C.1 C.2.1 (hH.1 a _ (x_wsI (by decide) ha)) ((C.2.2.2.2.2.1.2 0 _ rfl).1 n (fun j => .int (M.1 a j))) (fun q => by cases q) (by show ¬ (i < 0 ∨ (arrV _ _ _).slots.size ≤ _); rw [arrV_size]; exact hin) rfl rfl hd fun H1 e1 z oq => ?_
  exact kk p e R s mi args below meth c H1 _ la Q C hR (xH_upd hH ha (xS_same ha) xM_put (x_ist (s := s) (by decide) rfl e1) z oq) hl0 hret
theorem x_bast {a n : Nat} {i x y : Int32} (hd : decode m.2.1 pc = .ok (.bastore, 1)) (ha : S[a]? = some (.inl (1, n))) (hin : vp_in i n) (hy : narrow .byte (.int x) = .int y) (kk : Wp g d m (pc + 1) ls st S B (xput M a i.toNatClampNeg y) K) : Wp g d m pc ls (.int x :: .int i :: .ref a :: st) S B M K := by
  intro p e R s mi args below meth c H locs la Q C hR hH hl0 hret
  rw [x_e2 (x_al hH ha)]
  refine W.bast C.1 C.2.1 (hH.1 a _ (x_wsI (by decide) ha)) ((C.2.2.2.2.2.1.2 1 _ rfl).1 n (fun j => .int (M.1 a j))) (fun q => by cases q) (by show ¬ (i < 0 ∨ (arrV _ _ _).slots.size ≤ _); rw [arrV_size]; exact hin) rfl rfl hd fun H1 e1 z oq => ?_
  rw [hy] at e1
  exact kk p e R s mi args below meth c H1 _ la Q C hR (xH_upd hH ha (xS_same ha) xM_put (x_ist (s := s) (by decide) rfl e1) z oq) hl0 hret
theorem x_zast {a n : Nat} {i x y : Int32} (hd : decode m.2.1 pc = .ok (.bastore, 1)) (ha : S[a]? = some (.inl (2, n))) (hin : vp_in i n) (hy : narrow .boolean (.int x) = .int y) (kk : Wp g d m (pc + 1) ls st S B (xput M a i.toNatClampNeg y) K) : Wp g d m pc ls (.int x :: .int i :: .ref a :: st) S B M K := by
  intro p e R s mi args below meth c H locs la Q C hR hH hl0 hret
  rw [x_e2 (x_al hH ha)]
  refine W.zast C.1 C.2.1 (hH.1 a _ (x_wsI (by decide) ha)) ((C.2.2.2.2.2.1.2 2 _ rfl).1 n (fun j => .int (M.1 a j))) (fun q => by cases q) (by show ¬ (i < 0 ∨ (arrV _ _ _).slots.size ≤ _); rw [arrV_size]; exact hin) rfl rfl hd fun H1 e1 z oq => ?_
  rw [hy] at e1
  exact kk p e R s mi args below meth c H1 _ la Q C hR (xH_upd hH ha (xS_same ha) xM_put (x_ist (s := s) (by decide) rfl e1) z oq) hl0 hret
theorem x_last {a n : Nat} {i : Int32} {x : Int64} (hd : decode m.2.1 pc = .ok (.lastore, 1)) (ha : S[a]? = some (.inl (3, n))) (hin : vp_in i n) (kk : Wp g d m (pc + 1) ls st S B (xputL M a i.toNatClampNeg x) K) : Wp g d m pc ls (.long x :: .int i :: .ref a :: st) S B M K := by
  intro p e R s mi args below meth c H locs la Q C hR hH hl0 hret
  have e0 : (Value.long x :: Value.int i :: Value.ref a :: st).map (xtr g) = .long x :: .int i :: .ref (xb g + a) :: st.map (xtr g) := by rw [List.map_cons, List.map_cons, List.map_cons, xtr_ref (x_al hH ha)]; rfl
  rw [e0]
  refine W.last C.1 C.2.1 (hH.1 a _ (x_wsL ha)) ((C.2.2.2.2.2.1.2 3 _ rfl).1 n (fun j => .long (M.2 a j))) (fun q => by cases q) (by show ¬ (i < 0 ∨ (arrV _ _ _).slots.size ≤ _); rw [arrV_size]; exact hin) rfl rfl hd fun H1 e1 z oq => ?_
  refine kk p e R s mi args below meth c H1 _ la Q C hR (xH_upd hH ha (xS_same ha) xM_putL ?_ z oq) hl0 hret
  rw [xE_long]
  show H1[xb g + a]? = some (vp_cell _ _)
  rw [e1, vp_cell_l, vp_cell_l, arrV_store]
  congr 2
  funext q
  by_cases hq : q = i.toNatClampNeg
  · subst hq; simp [updV, xputL]
  · simp [updV, xputL, hq]
/-- a new cell at the end -/
def xzero (M : XM) (a : Nat) : XM := (fun a' k => if a' = a then 0 else M.1 a' k, fun a' k => if a' = a then 0 else M.2 a' k)
theorem xH_push {s : State} {H H1 : Heap} {locs : List Loc} {e' : (Nat × Nat) ⊕ (Nat × List (Option Value))} (hH : XH g s H locs S M) (hS : S.length < xN) (he : va_at (xD g) xcl (xb g + S.length, xE g (xzero M S.length) S.length e') H1) (z : H1.size = H.size + 1) (oq : ∀ q : Nat, q < H.size → H1[q]? = H[q]?) : XH g s H1 locs (S ++ [e']) (xzero M S.length) ∧ H.size = xb g + S.length := by
  have hsz : H.size = xb g + S.length := hH.2.2.1.resolve_left (by omega)
  have hn : xN = 113 := rfl
  refine ⟨⟨fun k q hk => ?_, ⟨Nat.le_trans hH.2.1.1 (by omega), fun q h1 h2 => (oq q (Nat.lt_of_lt_of_le h1 hH.2.1.1)).trans (hH.2.1.2.1 q h1 h2), hH.2.1.2.2⟩, Or.inr (by rw [z, hsz, List.length_append]; rfl), by rw [List.length_append]; show S.length + 1 ≤ 1000; omega⟩, hsz⟩
  obtain ⟨x, hx, rfl⟩ := xws_inv hk
  by_cases hl : k < S.length
  · rw [List.getElem?_append_left hl] at hx
    have hold := hH.1 k _ (xws_get hx)
    have hee : xE g (xzero M S.length) k x = xE g M k x := by
      have hkn : k ≠ S.length := by omega
      rcases x with ⟨t, n⟩ | ⟨ci, fs⟩
      · show Sum.inl _ = Sum.inl _
        simp [xzero, hkn]
      · rw [xE_obj, xE_obj]
        congr 2
        apply List.ext_getElem?
        intro j
        rw [List.getElem?_mapIdx, List.getElem?_mapIdx]
        congr 1
        funext o
        cases o with
        | none => show Value.int _ = Value.int _; simp [xzero, hkn]
        | some v => rfl
    rw [hee]
    exact hold.kept (oq _ (hold.lt))
  · have hk2 : k = S.length := by
      have := (List.getElem?_eq_some_iff.mp hx).1
      rw [List.length_append] at this
      have h1 : ([e'] : List ((Nat × Nat) ⊕ (Nat × List (Option Value)))).length = 1 := rfl
      omega
    subst hk2
    rw [List.getElem?_append_right (Nat.le_refl _), Nat.sub_self] at hx
    cases hx
    exact he
def xdef (ty : FieldType) : Option Value := match ty with
  | .int => none
  | .boolean => none
  | _ => some .null
theorem x_new {idx ci N : Nat} {C0 : String} {T : u_T} (ty : Nat → FieldType) {fs : List (Option Value)} (hd : decode m.2.1 pc = .ok (.new idx, 3)) (hcl : .classLink m.1 idx C0 ∈ xG) (hins : .instantiable C0 N ∈ xG) (hini : .initialized C0 ∈ xG) (hc : xcl[ci]? = some (C0, T, N)) (hin : ∀ w ∈ u_ws C0 T N, w ∈ xG) (hty : ∀ k, k < N → parseFieldDescriptor (T k).2.2.1 = some (ty k))
    (hfs : ∀ j, j < N → fs[j]? = some (xdef (ty j)) ∧ (ty j = .int ∨ ty j = .boolean ∨ (∃ n, ty j = .object n) ∨ ∃ t, ty j = .array t)) (hS : S.length < xN) (hB : B.1 + 1 ≤ m.2.2.2.2.1 ∧ B.2 + N ≤ m.2.2.2.2.2)
    (kk : Wp g d m (pc + 3) ls (.ref S.length :: st) (S ++ [.inr (ci, fs)]) (B.1 + 1, B.2 + N) (xzero M S.length) K) : Wp g d m pc ls st S B M K := by
  intro p e R s mi args below meth c H locs la Q C hR hH hl0 hret
  have C' := id C
  obtain ⟨hx, hb, hml, hown, hts, hK, hO, -⟩ := C'
  have hKn := hK.1 ci _ hc
  have hsz : H.size = xb g + S.length := hH.2.2.1.resolve_left (by omega)
  refine W.newcK hx hb hown (hts _ hcl) (hts _ hins) (hts _ hini) rfl hd (Nat.le_trans hB.1 hR.2.2.1) (Nat.le_trans hB.2 hR.2.2.2) hKn.2.1 hsz fun H1 kC hkC e1 z1 o1 => ?_
  have h1000 : S.length < 1000 := by have : xN = 113 := rfl; omega
  have he : xtr g (.ref S.length) = .ref (xb g + S.length) := xtr_ref h1000
  have hX := xH_push (e' := .inr (ci, fs)) (H1 := H1) hH hS ?_ (by rw [z1, hsz]) (fun q hq => o1 q (by omega))
  · have k2 := kk p e R s mi args below meth c H1 locs la Q C hR hX.1 hl0 hret
    rw [List.map_cons, he] at k2
    exact k2
  · refine ⟨_, hc, (u_born ty hts hin hKn hkC e1 hty).to (fun j hj => ?_)⟩
    obtain ⟨f1, f2⟩ := hfs j hj
    show _ = (fs.mapIdx (xV g _ _)).getD j .null
    rw [List.getD_eq_getElem?_getD, List.getElem?_mapIdx, f1]
    rcases f2 with h | h | ⟨n, h⟩ | ⟨t, h⟩ <;> rw [h] <;> simp [xdef, defaultValue, xV, xzero, xtr]
theorem x_newa {t n : Nat} {atype : ArrayType} {i : Int32} (hd : decode m.2.1 pc = .ok (.newarray atype, 2)) (hty : newarray.typeOf atype = xtyp t) (ht : t < 4) (hw : .arrayClass (xtyp t) ∈ xG) (hi : i = nI n) (hn1 : n ≤ 1000) (hS : S.length < xN) (hB : B.1 + 1 ≤ m.2.2.2.2.1 ∧ B.2 + n ≤ m.2.2.2.2.2)
    (kk : Wp g d m (pc + 2) ls (.ref S.length :: st) (S ++ [.inl (t, n)]) (B.1 + 1, B.2 + n) (xzero M S.length) K) : Wp g d m pc ls (.int i :: st) S B M K := by
  subst hi
  intro p e R s mi args below meth c H locs la Q C hR hH hl0 hret
  have C' := id C
  obtain ⟨hx, hb, hml, hown, hts, hK, hO, -⟩ := C'
  have hsz : H.size = xb g + S.length := hH.2.2.1.resolve_left (by omega)
  have hcb : componentBytes (xtyp t) ≤ 8 := by
    match t, ht with
    | 0, _ => decide
    | 1, _ => decide
    | 2, _ => decide
    | 3, _ => decide
  refine va_newaK (N := n) hx hb (atype := atype) (by rw [hty]; exact hts _ hw) rfl hd rfl (nI_pos (by omega)) (nI_clamp (by omega)) (by rw [hty]; exact Nat.le_trans (Nat.mul_le_mul hn1 hcb) (by decide)) (Nat.le_trans hB.1 hR.2.2.1) (Nat.le_trans hB.2 hR.2.2.2) hsz fun H1 cA e1 z1 o1 hAr hNm => ?_
  have h1000 : S.length < 1000 := by have : xN = 113 := rfl; omega
  have he : xtr g (.ref S.length) = .ref (xb g + S.length) := xtr_ref h1000
  rw [hty] at e1 hNm
  have hcA : cA = xcT g t := by
    have hRA : s.vm.findClass ("[" ++ (xtyp t).toString) = some (xcT g t) := by
      match t, ht with
      | 0, _ => exact (hK.2 0 _ rfl).2
      | 1, _ => exact (hK.2 1 _ rfl).2
      | 2, _ => exact (hK.2 2 _ rfl).2
      | 3, _ => exact (hK.2 3 _ rfl).2
    exact Option.some.inj (hNm.symm.trans hRA)
  subst hcA
  have hX := xH_push (e' := .inl (t, n)) (H1 := H1) hH hS ?_ (by rw [z1, hsz]) (fun q hq => o1 q (by omega))
  · have k2 := kk p e R s mi args below meth c H1 locs la Q C hR hX.1 hl0 hret
    rw [List.map_cons, he] at k2
    exact k2
  · by_cases h3 : t = 3
    · subst h3
      rw [xE_long]
      show H1[xb g + S.length]? = some (vp_cell _ _)
      rw [e1, vp_cell_l]
      congr 2
      funext q
      simp [xzero, xtyp, defaultValue]
    · rw [xE_int h3]
      show H1[xb g + S.length]? = some (vp_cell _ _)
      rw [e1, vp_cell_i]
      congr 2
      funext q
      match t, ht with
      | 0, _ => simp [xzero, xtyp, defaultValue]
      | 1, _ => simp [xzero, xtyp, defaultValue]
      | 2, _ => simp [xzero, xtyp, defaultValue]
      | 3, _ => exact absurd rfl h3
/-- Object.<init> -/
theorem x_obj {a idx ci : Nat} {fs : List (Option Value)} (hd : decode m.2.1 pc = .ok (.invokespecial idx, 3)) (hl : .methodLink m.1 idx Lib.objectInit ∈ xG) (hin : .instanceMethod Lib.objectInit ∈ xG) (hco : .code Lib.objectInit ⟨#[0xb1]⟩ 1 none ∈ xG) (ha : S[a]? = some (.inr (ci, fs))) (hw : (st.map fun v => v.category).sum ≤ 8)
    (kk : Wp g (d + 1) m (pc + 3) ls st S B M K) : Wp g (d + 1) m pc ls (.ref a :: st) S B M K := by
  intro p e R s mi args below meth c H locs la Q C hR hH hl0 hret
  have C' := id C
  obtain ⟨hx, hb, hml, hown, hts, hK, hO, -⟩ := C'
  have e0 : (Value.ref a :: st).map (xtr g) = .ref (xb g + a) :: st.map (xtr g) := by rw [List.map_cons, xtr_ref (x_al hH ha)]
  rw [e0]
  have h8 := x_rest (g := g) hw
  have hr1 := hR.1
  have hr2 := hR.2.1
  exact W.objInit hx hb hown (hts _ hl) (hts _ hin) (hts _ hco) rfl (by show la.size = _; rw [hl0.1]; exact hml.symm) rfl hd (by omega) (by show 2 * 0 + _ + 12 ≤ _; omega) (kk p e R s mi args below meth c H locs la Q C hR hH hl0 hret)
end XR3
