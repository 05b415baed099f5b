/-! MEMORY: rules of fields, rows, calls of constructors, what stands outside -/
section XR2
variable {g : XG} {d : Nat} {m : XMe} {pc : Nat} {ls : XL} {st : List Value} {S : XS} {B : Nat × Nat} {M : XM} {K : Option Value → XS → XM → Prop}
/-- a program of ours whose fields may be used -/
def XF (ci : Nat) : Prop := ∃ (C : String) (T : u_T) (N : Nat) (ty : Nat → FieldType), xcl[ci]? = some (C, T, N) ∧ (∀ w ∈ u_ws C T N, w ∈ xG) ∧ (∀ k, k < N → parseFieldDescriptor (T k).2.2.1 = some (ty k)) ∧ (∀ a, a < N → ∀ b, b < N → a ≠ b → (T a).2.1 ≠ (T b).2.1)
/-- a field link: of the program own, entry idx, to field k of program ci; of type ty, final or not -/
def XFl (own : String) (idx ci k : Nat) (ty : FieldType) (fin : Bool) : Prop := XF ci ∧ ∃ (C : String) (T : u_T) (N : Nat), xcl[ci]? = some (C, T, N) ∧ k < N ∧ .fieldLink own idx (T k).1 (T k).2.1 (T k).2.2.1 ∈ xG ∧ parseFieldDescriptor (T k).2.2.1 = some ty ∧ (T k).2.2.2 = fin ∧ (T k).1 = C
theorem XFl.of {own : String} {idx ci k : Nat} {ty : FieldType} {fin : Bool} (h : XF ci) (C : String) (T : u_T) (N : Nat) (h1 : xcl[ci]? = some (C, T, N)) (h2 : k < N) (h3 : .fieldLink own idx (T k).1 (T k).2.1 (T k).2.2.1 ∈ xG) (h4 : parseFieldDescriptor (T k).2.2.1 = some ty) (h5 : (T k).2.2.2 = fin) (h6 : (T k).1 = C) : XFl own idx ci k ty fin := ⟨h, C, T, N, h1, h2, h3, h4, h5, h6⟩
def xV (g : XG) (M : XM) (a j : Nat) (o : Option Value) : Value := match o with
  | none => .int (M.1 a j)
  | some v => xtr g v
theorem xE_obj {M : XM} {a ci : Nat} {fs : List (Option Value)} : xE g M a (.inr (ci, fs)) = .inr (ci, fs.mapIdx (xV g M a)) := rfl
theorem xE_int {M : XM} {a t n : Nat} (h : t ≠ 3) : xE g M a (.inl (t, n)) = .inl (xcT g t, n, .inl (M.1 a)) := by
  show Sum.inl _ = _
  rw [if_neg h]
theorem xE_long {M : XM} {a n : Nat} : xE g M a (.inl (3, n)) = .inl (xcT g 3, n, .inr (.inl (M.2 a))) := rfl
theorem x_getG {a idx ci k : Nat} {ty : FieldType} {fin : Bool} {fs : List (Option Value)} {o : Option Value} {w : Value} (hd : decode m.2.1 pc = .ok (.getfield idx, 3)) (hf : XFl m.1 idx ci k ty fin) (ha : S[a]? = some (.inr (ci, fs))) (hk : fs[k]? = some o) (hw : xtr g w = xV g M a k o)
    (kk : Wp g d m (pc + 3) ls (w :: st) S B M K) : Wp g d m pc ls (.ref a :: st) S B M K := by
  intro p e R s mi args below meth c H locs la Q C hR hH hl0 hret
  have hal : a < 1000 := Nat.lt_of_lt_of_le (List.getElem?_eq_some_iff.mp ha).1 hH.2.2.2
  have k2 := kk p e R s mi args below meth c H locs la Q C hR hH hl0 hret
  obtain ⟨hx, hb, hml, hown, hts, hK, hO, -⟩ := C
  obtain ⟨⟨C1, T1, N1, ty1, g1, g2, g3, g4⟩, C2, T2, N2, f1, f2, f3, f4, f5, f6⟩ := hf
  cases g1.symm.trans f1
  have e0 : (Value.ref a :: st).map (xtr g) = .ref (xb g + a) :: st.map (xtr g) := by rw [List.map_cons, xtr_ref hal]
  rw [e0]
  refine va_get (D := xD g) (cl := xcl) (ci := ci) (T := T1) (N := N1) (C := C1) (v := xtr g w) (fs := fs.mapIdx (xV g M a)) hx hb hts g2 hown hK hH.1 a (xws_get ha) g1 k f2 (hts _ f3) (fun _ h9 => h9) ?_ hd k2
  rw [List.getElem?_mapIdx, hk, hw]
  rfl
theorem x_getI {a idx ci k : Nat} {ty : FieldType} {fin : Bool} {fs : List (Option Value)} (hd : decode m.2.1 pc = .ok (.getfield idx, 3)) (hf : XFl m.1 idx ci k ty fin) (ha : S[a]? = some (.inr (ci, fs))) (hk : fs[k]? = some none)
    (kk : Wp g d m (pc + 3) ls (.int (M.1 a k) :: st) S B M K) : Wp g d m pc ls (.ref a :: st) S B M K := x_getG hd hf ha hk rfl kk
theorem x_getR {a idx ci k : Nat} {ty : FieldType} {fin : Bool} {fs : List (Option Value)} {v : Value} (hd : decode m.2.1 pc = .ok (.getfield idx, 3)) (hf : XFl m.1 idx ci k ty fin) (ha : S[a]? = some (.inr (ci, fs))) (hk : fs[k]? = some (some v))
    (kk : Wp g d m (pc + 3) ls (v :: st) S B M K) : Wp g d m pc ls (.ref a :: st) S B M K := x_getG hd hf ha hk rfl kk
/-- behind a store the heap is the new world's -/
theorem xH_upd {s : State} {H H1 : Heap} {locs : List Loc} {S' : XS} {M' : XM} {a k : Nat} {e e' : (Nat × Nat) ⊕ (Nat × List (Option Value))} (hH : XH g s H locs S M) (h : S[a]? = some e) (hS : S' = S.set a e') (hM : ∀ k, k ≠ a → M'.1 k = M.1 k ∧ M'.2 k = M.2 k)
    (he : va_at (xD g) xcl (xb g + a, xE g M' a e') H1) (z : H1.size = H.size) (oq : ∀ q : Nat, q ≠ xb g + a → H1[q]? = H[q]?) : XH g s H1 (locs ++ [⟨xb g + a, k⟩]) S' M' := by
  subst hS
  have hl := (List.getElem?_eq_some_iff.mp h).1
  have hP := hH.1.set (xws_D g S M) (xws_get h) he oq
  rw [xws_upd (S' := S.set a e') h (fun k hk => List.getElem?_set_ne (Ne.symm hk)) (List.getElem?_set_self hl) hM] at hP
  exact ⟨hP, hH.2.1.put z oq (Nat.le_add_right _ _), by rw [z, List.length_set]; exact hH.2.2.1, by rw [List.length_set]; exact hH.2.2.2⟩
theorem xM_put {M : XM} {a k : Nat} {x : Int32} : ∀ j, j ≠ a → (xput M a k x).1 j = M.1 j ∧ (xput M a k x).2 j = M.2 j := fun j hj => ⟨by funext q; simp [xput, hj], rfl⟩
theorem xM_putL {M : XM} {a k : Nat} {x : Int64} : ∀ j, j ≠ a → (xputL M a k x).1 j = M.1 j ∧ (xputL M a k x).2 j = M.2 j := fun j hj => ⟨rfl, by funext q; simp [xputL, hj]⟩
theorem xS_same {a : Nat} {e : (Nat × Nat) ⊕ (Nat × List (Option Value))} (h : S[a]? = some e) : S = S.set a e := by
  apply List.ext_getElem?
  intro k
  by_cases hk : k = a
  · subst hk; rw [List.getElem?_set_self (List.getElem?_eq_some_iff.mp h).1, h]
  · rw [List.getElem?_set_ne (Ne.symm hk)]
/-- what a store of value w into field k makes of an object's cell -/
theorem x_objset {s : State} {D : va_G} {a ci k : Nat} {C : String} {T : u_T} {N : Nat} {H1 : Heap} {fs fs' : List Value} {cell : Cell} {w : Value} (hc : xcl[ci]? = some (C, T, N)) (hk : k < N) (hkl : k < fs.length) (hap : ∀ x y, x < N → y < N → x ≠ y → (D.2 ci) x ≠ (D.2 ci) y)
    (q2 : cell.cls = D.1 ci) (q3 : cell.vm = .none) (q4 : ∀ j, j < N → cell.slots[(D.2 ci) j]? = some (vp_V fs j)) (e1 : H1[a]? = some (cell.setSlot ((D.2 ci) k) w)) (hfs : fs' = fs.set k w) : va_at D xcl (a, .inr (ci, fs')) H1 := by
  subst hfs
  exact ⟨_, hc, t_OB.to (V := updV (vp_V fs) k w) ⟨_, e1, q2, q3, t_set q4 hap hk w⟩ (fun j _ => vp_updV_set hkl w j)⟩
theorem x_putI {a idx ci k : Nat} {ty : FieldType} {fs : List (Option Value)} {x : Int32} (hd : decode m.2.1 pc = .ok (.putfield idx, 3)) (hf : XFl m.1 idx ci k ty false) (ha : S[a]? = some (.inr (ci, fs))) (hk : fs[k]? = some none) (hn : narrow ty (.int x) = .int x) (hfit : fits ty (.int x) = true)
    (kk : Wp g d m (pc + 3) ls st S B (xput M a k x) K) : Wp g d m pc ls (.int x :: .ref a :: st) S B M K := by
  intro p e R s mi args below meth c H locs la Q C hR hH hl0 hret
  have hal : a < 1000 := Nat.lt_of_lt_of_le (List.getElem?_eq_some_iff.mp ha).1 hH.2.2.2
  have C' := id C
  obtain ⟨hx, hb, hml, hown, hts, hK, hO, -⟩ := C'
  obtain ⟨⟨C1, T1, N1, ty1, g1, g2, g3, g4⟩, C2, T2, N2, f1, f2, f3, f4, f5, f6⟩ := hf
  cases g1.symm.trans f1
  have e0 : (Value.int x :: Value.ref a :: st).map (xtr g) = .int x :: .ref (xb g + a) :: st.map (xtr g) := by rw [List.map_cons, List.map_cons, xtr_ref hal]; rfl
  rw [e0]
  have hap := va_apart (own := m.1) hts g2 ty1 g3 g4 hK g1
  obtain ⟨r, h1, cell, q1, q2, q3, q4⟩ := hH.1 a _ (xws_get ha)
  obtain rfl : r = (C1, T1, N1) := Option.some.inj (h1.symm.trans g1)
  obtain ⟨hS, hfc, kC, hkC, hkind⟩ := hK.1 ci _ g1
  obtain ⟨cf, kf, fi, f, hi, hsl⟩ := hS k f2
  have hlay := hts _ (g2 _ (u_in_lay f2))
  unfold u_lay at hlay
  rw [if_neg (by rw [f5]; decide)] at hlay
  have hst := (u_facts hfc hkC (u_lays hts g2 f2) hi).1
  have h6 := u_store hfc hkC hkind hlay hi f4 hn hfit
  refine W.putK hx hb (f := f) ⟨hown, hts _ f3, ⟨_, _, _, hi⟩, hst⟩ (by rw [q2]; exact h6) q1 q3 (by rw [hsl]; exact k2_hasslot (q4 k f2)) rfl rfl hd fun H' e1 e2 e3 => ?_
  rw [hsl] at e1 ⊢
  refine kk p e R s mi args below meth c H' _ la Q C hR (xH_upd hH ha (xS_same ha) xM_put ?_ e2 e3) hl0 hret
  refine x_objset (s := s) g1 f2 ?_ hap q2 q3 q4 e1 ?_
  · rw [List.length_mapIdx]; exact (List.getElem?_eq_some_iff.mp hk).1
  · apply List.ext_getElem?
    intro j
    by_cases hj : j = k
    · subst hj
      rw [List.getElem?_set_self (by rw [List.length_mapIdx]; exact (List.getElem?_eq_some_iff.mp hk).1), List.getElem?_mapIdx, hk]
      simp [xput]
    · rw [List.getElem?_set_ne (Ne.symm hj), List.getElem?_mapIdx, List.getElem?_mapIdx]
      congr 1
      funext o
      cases o with
      | none => show Value.int _ = Value.int _; simp [xput, hj]
      | some v => rfl
/-- in a constructor: a final reference -/
theorem x_putR {a idx ci k r0 : Nat} {ty : FieldType} {fs : List (Option Value)} {o : Option Value} (hd : decode m.2.1 pc = .ok (.putfield idx, 3)) (hf : XFl m.1 idx ci k ty true) (hcm : m.2.2.2.2.1 ≠ 0) (hC : (xcl[ci]?).map (fun q => q.1) = some m.1) (ha : S[a]? = some (.inr (ci, fs))) (hk : fs[k]? = some o) (hr : r0 < 1000) (hn : narrow ty (.ref (xb g + r0)) = .ref (xb g + r0)) (hfit : fits ty (.ref (xb g + r0)) = true)
    (kk : Wp g d m (pc + 3) ls st (S.set a (.inr (ci, fs.set k (some (.ref r0))))) B M K) : Wp g d m pc ls (.ref r0 :: .ref a :: st) S B M K := by
  intro p e R s mi args below meth c H locs la Q C hR hH hl0 hret
  have hal : a < 1000 := Nat.lt_of_lt_of_le (List.getElem?_eq_some_iff.mp ha).1 hH.2.2.2
  have C' := id C
  obtain ⟨hx, hb, hml, hown, hts, hK, hO, -, -, hinit⟩ := C'
  have hne : m.1 ≠ RL := fun h => by
    rw [h] at hC
    have hall : ∀ q ∈ xcl, q.1 ≠ RL := by decide +kernel
    cases hxq : xcl[ci]? with
    | none => rw [hxq] at hC; cases hC
    | some q => rw [hxq] at hC; exact hall q (List.mem_of_getElem? hxq) (Option.some.inj hC)
  have hin2 : meth.name = "<init>" := hinit.resolve_right (fun h => h.elim hcm hne)
  obtain ⟨⟨C1, T1, N1, ty1, g1, g2, g3, g4⟩, C2, T2, N2, f1, f2, f3, f4, f5, f6⟩ := hf
  cases g1.symm.trans f1
  have hCm : C1 = m.1 := by rw [g1] at hC; exact Option.some.inj hC
  have e0 : (Value.ref r0 :: Value.ref a :: st).map (xtr g) = .ref (xb g + r0) :: .ref (xb g + a) :: st.map (xtr g) := by rw [List.map_cons, List.map_cons, xtr_ref hal, xtr_ref hr]
  rw [e0]
  have hap := va_apart (own := m.1) hts g2 ty1 g3 g4 hK g1
  obtain ⟨r, h1, cell, q1, q2, q3, q4⟩ := hH.1 a _ (xws_get ha)
  obtain rfl : r = (C1, T1, N1) := Option.some.inj (h1.symm.trans g1)
  obtain ⟨hS, hfc, kC, hkC, hkind⟩ := hK.1 ci _ g1
  obtain ⟨cf, kf, fi, f, hi, hsl⟩ := hS k f2
  have hlay := hts _ (g2 _ (u_in_lay f2))
  unfold u_lay at hlay
  rw [if_pos f5] at hlay
  have hst := (u_facts hfc hkC (u_lays hts g2 f2) hi).1
  have hcf : mi.cls = cf := by
    obtain ⟨_, _, c', _, _, _, -, -, hf', -, -, -, hown2, -⟩ := Cond.laysFinal_spec hlay
    have e1 : c' = cf := by have := hi.symm.trans hf'; simp at this; exact this.1.symm
    rw [f6, hCm] at hown2
    rw [← e1]; exact Option.some.inj (hown.symm.trans hown2)
  have h6 := u_fits hfc hkC hkind (Or.inr hlay) hi f4 hn hfit
  refine W.putFinK hx hb hown (hts _ f3) hi hst hcf hin2 (by rw [q2]; exact h6) q1 q3 (by rw [hsl]; exact k2_hasslot (q4 k f2)) rfl rfl hd fun H' e1 e2 e3 => ?_
  rw [hsl] at e1 ⊢
  refine kk p e R s mi args below meth c H' _ la Q C hR (xH_upd hH ha rfl (fun _ _ => ⟨rfl, rfl⟩) ?_ e2 e3) hl0 hret
  refine x_objset (s := s) g1 f2 ?_ hap q2 q3 q4 e1 ?_
  · rw [List.length_mapIdx]; exact (List.getElem?_eq_some_iff.mp hk).1
  · have hkl := (List.getElem?_eq_some_iff.mp hk).1
    apply List.ext_getElem?
    intro j
    by_cases hj : j = k
    · subst hj
      rw [List.getElem?_set_self (by rw [List.length_mapIdx]; exact hkl), List.getElem?_mapIdx, List.getElem?_set_self hkl]
      show some (xtr g (.ref r0)) = _
      rw [xtr_ref hr]
    · rw [List.getElem?_set_ne (Ne.symm hj), List.getElem?_mapIdx, List.getElem?_mapIdx, List.getElem?_set_ne (Ne.symm hj)]
end XR2
