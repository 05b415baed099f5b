/-! CONSTRUCTORS: an object being made at the head of its own cells -/
def okTy : FieldType → Bool
  | .int => true
  | .boolean => true
  | .object _ => true
  | .array _ => true
  | _ => false
theorem okTy_or {t : FieldType} (h : okTy t = true) : t = .int ∨ t = .boolean ∨ (∃ n, t = .object n) ∨ ∃ u, t = .array u := by
  cases t <;> first | exact Or.inl rfl | exact Or.inr (Or.inl rfl) | exact Or.inr (Or.inr (Or.inl ⟨_, rfl⟩)) | exact Or.inr (Or.inr (Or.inr ⟨_, rfl⟩)) | cases h
def zs (ty : Nat → FieldType) (N : Nat) : List (Option Value) := (List.range N).map (fun j => xdef (ty j))
theorem zs_at {ty : Nat → FieldType} {N j : Nat} (hj : j < N) : (zs ty N)[j]? = some (xdef (ty j)) := by
  unfold zs
  rw [List.getElem?_map, List.getElem?_range hj]; rfl
/-- what is before the head, the head, what was made behind it -/
def xsh (P : XS) (h : (Nat × Nat) ⊕ (Nat × List (Option Value))) (T : XS) : XS := P ++ h :: T
theorem xsh_len {P T : XS} {h : (Nat × Nat) ⊕ (Nat × List (Option Value))} : (xsh P h T).length = P.length + 1 + T.length := by
  unfold xsh; rw [List.length_append, List.length_cons]; omega
theorem xsh_app {P T : XS} {h x : (Nat × Nat) ⊕ (Nat × List (Option Value))} : xsh P h T ++ [x] = xsh P h (T ++ [x]) := by
  unfold xsh; rw [List.append_assoc]; rfl
theorem xsh_new {P T : XS} {h x : (Nat × Nat) ⊕ (Nat × List (Option Value))} : xsh P h (T ++ [x]) = xsh (P ++ h :: T) x [] := by
  unfold xsh; rw [List.append_assoc]; rfl
theorem xsh_sub {P T U : XS} {h : (Nat × Nat) ⊕ (Nat × List (Option Value))} : (P ++ h :: T) ++ U = xsh P h (T ++ U) := by
  unfold xsh; rw [List.append_assoc]; rfl
theorem xsh_hd {P T : XS} {h : (Nat × Nat) ⊕ (Nat × List (Option Value))} {a : Nat} (hP : P.length = a) : (xsh P h T)[a]? = some h := by
  subst hP; unfold xsh
  rw [List.getElem?_append_right (Nat.le_refl _), Nat.sub_self]; rfl
theorem xsh_set {P T : XS} {h h' : (Nat × Nat) ⊕ (Nat × List (Option Value))} {a : Nat} (hP : P.length = a) : (xsh P h T).set a h' = xsh P h' T := by
  subst hP; unfold xsh
  rw [List.set_append_right _ _ (Nat.le_refl _), Nat.sub_self]; rfl
section P9B
variable {g : XG} {d : Nat} {m : XMe} {pc idx a : Nat} {ls : XL} {st : List Value} {P T : XS} {h : (Nat × Nat) ⊕ (Nat × List (Option Value))} {B : Nat × Nat} {M : XM} {K : Option Value → XS → XM → Prop}
theorem x_newH {ci N : Nat} {C0 : String} {U : u_T} (ty : Nat → FieldType) (n : Nat) (hn : P.length + 1 + T.length = n) (hd : decode m.2.1 pc = .ok (.new idx, 3)) (hcl : .classLink m.1 idx C0 ∈ xG) (hins : .instantiable C0 N ∈ xG) (hini : .initialized C0 ∈ xG) (hc : xcl[ci]? = some (C0, U, N)) (hin : ∀ w ∈ u_ws C0 U N, w ∈ xG) (hty : ∀ k, k < N → parseFieldDescriptor (U k).2.2.1 = some (ty k)) (hok : ∀ k, k < N → okTy (ty k) = true) (hS : n < 113) (hB : B.1 + 1 ≤ m.2.2.2.2.1 ∧ B.2 + N ≤ m.2.2.2.2.2)
    (kk : Wp g d m (pc + 3) ls (.ref n :: st) (xsh P h (T ++ [.inr (ci, zs ty N)])) (B.1 + 1, B.2 + N) (xzero M n) K) : Wp g d m pc ls st (xsh P h T) B M K := by
  have hl : (xsh P h T).length = n := xsh_len.trans hn
  refine x_new ty hd hcl hins hini hc hin hty (fun j hj => ⟨zs_at hj, okTy_or (hok j hj)⟩) (by rw [hl]; exact hS) hB ?_
  rw [hl, xsh_app]; exact kk
theorem x_newaH {t k n : Nat} {atype : ArrayType} {i : Int32} (hn : P.length + 1 + T.length = n) (hd : decode m.2.1 pc = .ok (.newarray atype, 2)) (hty : newarray.typeOf atype = xtyp t) (ht : t < 4) (hw : .arrayClass (xtyp t) ∈ xG) (hi : i = nI k) (hn1 : k ≤ 1000) (hS : n < 113) (hB : B.1 + 1 ≤ m.2.2.2.2.1 ∧ B.2 + k ≤ m.2.2.2.2.2)
    (kk : Wp g d m (pc + 2) ls (.ref n :: st) (xsh P h (T ++ [.inl (t, k)])) (B.1 + 1, B.2 + k) (xzero M n) K) : Wp g d m pc ls (.int i :: st) (xsh P h T) B M K := by
  have hl : (xsh P h T).length = n := xsh_len.trans hn
  refine x_newa hd hty ht hw hi hn1 (by rw [hl]; exact hS) hB ?_
  rw [hl, xsh_app]; exact kk
theorem x_putRH {ci k r0 : Nat} {ty : FieldType} {fs fs' : List (Option Value)} {o : Option Value} (hP : P.length = a) (hd : decode m.2.1 pc = .ok (.putfield idx, 3)) (hf : XFl m.1 idx ci k ty true) (hcm : m.2.2.2.2.1 ≠ 0) (hC : (xcl[ci]?).map (fun q => q.1) = some m.1) (hk : fs[k]? = some o) (hr : r0 < 1000) (hn : narrow ty (.ref (xb g + r0)) = .ref (xb g + r0)) (hfit : fits ty (.ref (xb g + r0)) = true) (hfs : fs.set k (some (.ref r0)) = fs')
    (kk : Wp g d m (pc + 3) ls st (xsh P (.inr (ci, fs')) T) B M K) : Wp g d m pc ls (.ref r0 :: .ref a :: st) (xsh P (.inr (ci, fs)) T) B M K := by
  refine x_putR hd hf hcm hC (xsh_hd hP) hk hr hn hfit ?_
  rw [xsh_set hP, hfs]; exact kk
theorem x_putIH {ci k : Nat} {ty : FieldType} {fs : List (Option Value)} {x : Int32} (hP : P.length = a) (hd : decode m.2.1 pc = .ok (.putfield idx, 3)) (hf : XFl m.1 idx ci k ty false) (hk : fs[k]? = some none) (hn : narrow ty (.int x) = .int x) (hfit : fits ty (.int x) = true)
    (kk : Wp g d m (pc + 3) ls st (xsh P (.inr (ci, fs)) T) B (xput M a k x) K) : Wp g d m pc ls (.int x :: .ref a :: st) (xsh P (.inr (ci, fs)) T) B M K := x_putI hd hf (xsh_hd hP) hk hn hfit kk
theorem x_objH {ci : Nat} {fs : List (Option Value)} (hP : P.length = a) (hd : decode m.2.1 pc = .ok (.invokespecial idx, 3)) (hl : .methodLink m.1 idx Lib.objectInit ∈ xG) (hw : (st.map fun v => v.category).sum ≤ 8)
    (kk : Wp g (d + 1) m (pc + 3) ls st (xsh P (.inr (ci, fs)) T) B M K) : Wp g (d + 1) m pc ls (.ref a :: st) (xsh P (.inr (ci, fs)) T) B M K := x_obj hd hl imObj coObj (xsh_hd hP) hw kk
end P9B
/-- rows from lo to hi are new and zero, those before stand -/
def nwz (M M' : XM) (lo hi : Nat) : Prop := (∀ b, b < lo → M'.1 b = M.1 b ∧ M'.2 b = M.2 b) ∧ ∀ b, lo ≤ b → b < hi → (∀ k, M'.1 b k = 0) ∧ ∀ k, M'.2 b k = 0
theorem nwz.rf {M : XM} {lo : Nat} : nwz M M lo lo := ⟨fun _ _ => ⟨rfl, rfl⟩, fun b h1 h2 => by omega⟩
theorem nwz.zero {M M' : XM} {lo hi : Nat} (h : nwz M M' lo hi) (hl : lo ≤ hi) : nwz M (xzero M' hi) lo (hi + 1) := by
  refine ⟨fun b hb => ?_, fun b h1 h2 => ?_⟩
  · have e1 : (xzero M' hi).1 b = M'.1 b := funext fun k => if_neg (by omega)
    have e2 : (xzero M' hi).2 b = M'.2 b := funext fun k => if_neg (by omega)
    exact ⟨e1.trans (h.1 b hb).1, e2.trans (h.1 b hb).2⟩
  · by_cases z : b = hi
    · subst z; exact ⟨fun k => if_pos rfl, fun k => if_pos rfl⟩
    · exact ⟨fun k => (if_neg z).trans ((h.2 b h1 (by omega)).1 k), fun k => (if_neg z).trans ((h.2 b h1 (by omega)).2 k)⟩
theorem nwz.tr {M M1 M2 : XM} {lo mid hi : Nat} (h : nwz M M1 lo mid) (h2 : nwz M1 M2 mid hi) (hl : lo ≤ mid) : nwz M M2 lo hi := by
  refine ⟨fun b hb => ⟨(h2.1 b (by omega)).1.trans (h.1 b hb).1, (h2.1 b (by omega)).2.trans (h.1 b hb).2⟩, fun b h1 h3 => ?_⟩
  by_cases z : b < mid
  · rw [(h2.1 b z).1, (h2.1 b z).2]; exact h.2 b h1 z
  · exact h2.2 b (by omega) h3
