/-! CORE: a compact judgement over the kit's W: addresses relative to the first new cell, shapes and references apart from numbers -/
abbrev XM : Type := (Nat → Nat → Int32) × (Nat → Nat → Int64)
abbrev XS : Type := List ((Nat × Nat) ⊕ (Nat × List (Option Value)))
abbrev XG : Type := Launch × va_G × (Nat → ClassId) × Nat × (Nat → Option Nat) × (Nat × Nat × (Nat → Int32))
abbrev XMe : Type := String × ByteArray × Nat × Option FieldType × Nat × Nat
abbrev XL : Type := List (Option Value)
def xl (g : XG) : Launch := g.1
def xD (g : XG) : va_G := g.2.1
def xcT (g : XG) : Nat → ClassId := g.2.2.1
def xb (g : XG) : Nat := g.2.2.2.1
def xsp (g : XG) : Nat → Option Nat := g.2.2.2.2.1
def xscr (g : XG) : Nat × Nat × (Nat → Int32) := g.2.2.2.2.2
def xtr (g : XG) (v : Value) : Value := match v with
  | .ref k => if k < 1000 then .ref (xb g + k) else va_rf (xsp g k)
  | w => w
theorem xtr_cat (g : XG) (v : Value) : (xtr g v).category = v.category := by
  cases v <;> try rfl
  rename_i k
  show (if k < 1000 then Value.ref (xb g + k) else va_rf (xsp g k)).category = 1
  split
  · rfl
  · cases xsp g k <;> rfl
theorem xtr_ref {g : XG} {k : Nat} (h : k < 1000) : xtr g (.ref k) = .ref (xb g + k) := if_pos h
theorem xtr_sp {g : XG} {k t : Nat} (h : ¬ k < 1000) (ht : xsp g k = some t) : xtr g (.ref k) = .ref t := by
  show (if k < 1000 then Value.ref (xb g + k) else va_rf (xsp g k)) = _
  rw [if_neg h, ht]; rfl
theorem xtr_cats (g : XG) (l : List Value) : ((l.map (xtr g)).map fun v => v.category).sum = (l.map fun v => v.category).sum := by
  rw [List.map_map]
  congr 1
  exact List.map_congr_left fun v _ => xtr_cat g v
abbrev xcl : List vw_C := [(RX0, TX0, 5), (RX1, TX1, 5), (RX2, TX2, 15), (RX0, TX0, 5), (RX0, TX0, 5), (RX5, TX5, 10), (RX6, TX6, 12), (RX7, TX7, 2), (RX8, TX8, 3), (RX9, TX9, 9), (RX10, TX10, 77)]
def xE (g : XG) (M : XM) (k : Nat) : ((Nat × Nat) ⊕ (Nat × List (Option Value))) → va_E
  | .inl (t, n) => .inl (xcT g t, n, if t = 3 then .inr (.inl (M.2 k)) else .inl (M.1 k))
  | .inr (ci, fs) => .inr (ci, fs.mapIdx (fun j o => match o with
    | none => .int (M.1 k j)
    | some v => xtr g v))
def xws (g : XG) (S : XS) (M : XM) : va_W := S.mapIdx (fun k e => (xb g + k, xE g M k e))
def xtyp (t : Nat) : FieldType := match t with
  | 0 => .int
  | 1 => .byte
  | 2 => .boolean
  | _ => .long
def xtys (g : XG) : List (ClassId × FieldType) := [(xcT g 0, .int), (xcT g 1, .byte), (xcT g 2, .boolean), (xcT g 3, .long)]
theorem xws_get {g : XG} {S : XS} {M : XM} {k : Nat} {e : (Nat × Nat) ⊕ (Nat × List (Option Value))} (h : S[k]? = some e) : (xws g S M)[k]? = some (xb g + k, xE g M k e) := by
  unfold xws
  rw [List.getElem?_mapIdx, h]
  rfl
theorem xws_inv {g : XG} {S : XS} {M : XM} {k : Nat} {q : Nat × va_E} (h : (xws g S M)[k]? = some q) : ∃ e, S[k]? = some e ∧ q = (xb g + k, xE g M k e) := by
  unfold xws at h
  rw [List.getElem?_mapIdx] at h
  cases hs : S[k]? with
  | none => rw [hs] at h; cases h
  | some e => rw [hs] at h; exact ⟨e, rfl, (Option.some.inj h).symm⟩
theorem xws_len {g : XG} {S : XS} {M : XM} : (xws g S M).length = S.length := by unfold xws; simp
theorem xws_D (g : XG) (S : XS) (M : XM) : va_D (fun q => xb g ≤ q) (xws g S M) := by
  refine ⟨fun i j p q hi hj hpq => ?_, fun k q hk => ?_⟩
  · obtain ⟨e1, -, rfl⟩ := xws_inv hi
    obtain ⟨e2, -, rfl⟩ := xws_inv hj
    exact Nat.add_left_cancel hpq
  · obtain ⟨e, -, rfl⟩ := xws_inv hk
    exact Nat.le_add_right _ _
/-- the numbers of one cell change -/
def xput (M : XM) (a k : Nat) (x : Int32) : XM := (fun a' k' => if a' = a ∧ k' = k then x else M.1 a' k', M.2)
def xputL (M : XM) (a k : Nat) (x : Int64) : XM := (M.1, fun a' k' => if a' = a ∧ k' = k then x else M.2 a' k')
def xrow (M : XM) (a : Nat) (f : Nat → Int32) : XM := (fun a' => if a' = a then f else M.1 a', M.2)
def xrowL (M : XM) (a : Nat) (f : Nat → Int64) : XM := (M.1, fun a' => if a' = a then f else M.2 a')
theorem xput_row (M : XM) (a k : Nat) (x : Int32) : xput M a k x = xrow M a (upd (M.1 a) k x) := by
  unfold xput xrow
  congr 1
  funext a' k'
  by_cases h : a' = a
  · subst h
    by_cases h2 : k' = k
    · subst h2; simp [upd]
    · simp [h2, upd]
  · simp [h]
theorem xputL_row (M : XM) (a k : Nat) (x : Int64) : xputL M a k x = xrowL M a (vp_updL (M.2 a) k x) := by
  unfold xputL xrowL
  congr 1
  funext a' k'
  by_cases h : a' = a
  · subst h
    by_cases h2 : k' = k
    · subst h2; simp [vp_updL]
    · simp [h2, vp_updL]
  · simp [h]
theorem xws_upd {g : XG} {S S' : XS} {M M' : XM} {a : Nat} {e : (Nat × Nat) ⊕ (Nat × List (Option Value))} (h : S[a]? = some e) (hS : ∀ k, k ≠ a → S'[k]? = S[k]?) {e' : (Nat × Nat) ⊕ (Nat × List (Option Value))} (he : S'[a]? = some e') (hM : ∀ k, k ≠ a → M'.1 k = M.1 k ∧ M'.2 k = M.2 k) :
    (xws g S M).set a (xb g + a, xE g M' a e') = xws g S' M' := by
  apply List.ext_getElem?
  intro k
  by_cases hk : k = a
  · subst hk
    rw [xws_get he, List.getElem?_set_self (by rw [xws_len]; exact (List.getElem?_eq_some_iff.mp h).1)]
  · rw [List.getElem?_set_ne (Ne.symm hk)]
    cases hs : S[k]? with
    | none =>
      have h2 : S'[k]? = none := (hS k hk).trans hs
      rw [List.getElem?_eq_none (by rw [xws_len]; simpa using hs), List.getElem?_eq_none (by rw [xws_len]; simpa using h2)]
    | some x =>
      rw [xws_get hs, xws_get ((hS k hk).trans hs)]
      have hx : xE g M k x = xE g M' k x := by
        obtain ⟨h1, h2⟩ := hM k hk
        rcases x with ⟨t, n⟩ | ⟨ci, fs⟩
        · show Sum.inl _ = Sum.inl _
          rw [h1, h2]
        · show Sum.inr _ = Sum.inr _
          rw [h1]
      rw [hx]
/-! what was there before, and stays -/
def xtn (k : Nat) : Nat := if k = 0 then 21 else 7
def xtv (k j : Nat) : Int32 := if k = 0 then ([10, 11, 12, 0, 20, 0, 30, 0, 0, 0, 0, 40, 50, 51, 0, 0, 0, 60, 71, 70, 0] : List Int32).getD j 0 else ([-1, 0, 0, 0, 1, 2, 3] : List Int32).getD j 0
def xslen : List Nat := [5, 5, 5, 1, 1]
def xsbyt : List (List Int32) := [[98, 97, 108, 100, 32], [104, 97, 114, 100, 32], [115, 111, 102, 116, 32], [32], [41]]
def xsidx (i : Nat) : Nat := [68, 77, 79, 81, 97].getD i 0
def xstxt (i : Nat) : String := ["bald ", "hard ", "soft ", " ", ")"].getD i ""
def xnest : List Cond := [.methodLinkNest RX9 11 yX2_init RX9, .methodLinkNest RX2 47 yX7_init RX9, .methodLinkNest RX9 23 yX5_init RX9, .methodLinkNest RX9 33 yX6_init RX9, .methodLinkNest RX1 11 yX2_init RX9, .methodLinkNest RX9 49 yX0_init RX9, .methodLinkNest RX9 56 yX8_init RX9]
def XO (g : XG) (U : State) (H : Heap) : Prop :=
  va_X (xscr g).1 (xscr g).2.1 (xscr g).2.2 U H ∧ (xscr g).1 < xb g ∧ xsp g 5000 = some (xscr g).1 ∧ (xscr g).2.1 < 2 ^ 31 ∧ xb g ≤ H.size ∧
  (∀ k, k < 2 → ∃ t, xsp g (1000 + k) = some t ∧ va_T .int t (xtn k) (fun j => .int (xtv k j)) (fun q => xb g ≤ q) U H) ∧
  va_Z RX0 "BODIES" "[I" (va_rf (xsp g 1000)) (fun q => xb g ≤ q) U H ∧ va_Z RX4 "ABOVE" "[I" (va_rf (xsp g 1001)) (fun q => xb g ≤ q) U H ∧
  va_Z "java/lang/String" "COMPACT_STRINGS" "Z" (.int 1) (fun q => xb g ≤ q) U H ∧
  va_Z "jdk/internal/util/Preconditions" "SIOOBE_FORMATTER" "Ljava/util/function/BiFunction;" (va_rf (xsp g 4000)) (fun q => xb g ≤ q) U H ∧
  (∃ adK adV : Nat → Nat, vk_S 5 xslen xsbyt adK adV (fun q => xb g ≤ q) U H ∧ ∀ i, i < 5 → xsp g (2000 + i) = some (adK i) ∧ xsp g (3000 + i) = some (adV i) ∧ vk_R RX6 (xsidx i) (xstxt i) (adK i) U) ∧
  ∀ w ∈ xnest, va_Nw w U
theorem XO.kept {g : XG} {U : State} {H H1 : Heap} (h : XO g U H) (hz : H.size ≤ H1.size) (hq : ∀ a : Nat, a < H.size → ¬ xb g ≤ a → H1[a]? = H[a]?) : XO g U H1 := by
  obtain ⟨h1, h2, h3, h4, h5, h6, h7, h8, h9, h10, ⟨aK, aV, h11, h12⟩, h13⟩ := h
  refine ⟨h1.kept (hq _ (Nat.lt_of_lt_of_le h2 h5) (Nat.not_le.mpr h2)), h2, h3, h4, Nat.le_trans h5 hz, fun k hk => ?_, h7.kept hq, h8.kept hq, h9.kept hq, h10.kept hq, ⟨aK, aV, h11.kept hq, h12⟩, h13⟩
  obtain ⟨t, q1, q2⟩ := h6 k hk
  exact ⟨t, q1, q2.kept hq⟩
theorem XO.warm {g : XG} {s U : State} {H : Heap} (hW : s.WarmedH U.vm) (h : XO g s H) : XO g U H := by
  obtain ⟨h1, h2, h3, h4, h5, h6, h7, h8, h9, h10, ⟨aK, aV, h11, h12⟩, h13⟩ := h
  refine ⟨h1.moved hW.alike, h2, h3, h4, h5, fun k hk => ?_, h7.moved hW.alike, h8.moved hW.alike, h9.moved hW.alike, h10.moved hW.alike, ⟨aK, aV, h11.moved hW.alike, fun i hi => ?_⟩, fun w hw => ?_⟩
  · obtain ⟨t, q1, q2⟩ := h6 k hk
    exact ⟨t, q1, q2.moved hW.alike⟩
  · obtain ⟨q1, q2, q3⟩ := h12 i hi
    exact ⟨q1, q2, vk_R.warm hW q3⟩
  · have hw2 := h13 w hw
    simp only [xnest, List.mem_cons, List.not_mem_nil, or_false] at hw
    rcases hw with rfl | rfl | rfl | rfl | rfl | rfl | rfl <;> exact va_Nw.warmM hW hw2
theorem XO.same {g : XG} {s U : State} {H : Heap} (hv : U.vm = s.vm) (h : XO g s H) : XO g U H := by
  obtain ⟨h1, h2, h3, h4, h5, h6, h7, h8, h9, h10, ⟨aK, aV, h11, h12⟩, h13⟩ := h
  have hA : s.vm.Alike U.vm := by rw [hv]; exact Vm.Alike.refl _
  refine ⟨h1.moved hA, h2, h3, h4, h5, fun k hk => ?_, h7.moved hA, h8.moved hA, h9.moved hA, h10.moved hA, ⟨aK, aV, h11.moved hA, fun i hi => ?_⟩, fun w hw => ?_⟩
  · obtain ⟨t, q1, q2⟩ := h6 k hk
    exact ⟨t, q1, q2.moved hA⟩
  · obtain ⟨q1, q2, q3⟩ := h12 i hi
    exact ⟨q1, q2, vk_R.same hv q3⟩
  · have hw2 := h13 w hw
    simp only [xnest, List.mem_cons, List.not_mem_nil, or_false] at hw
    rcases hw with rfl | rfl | rfl | rfl | rfl | rfl | rfl <;> exact va_Nw.same rfl hv.symm hw2
def xG : List Cond := lw_tbl.filter goodWord
theorem xG_in {w : Cond} (h : w ∈ lw_tbl) (hg : goodWord w = true) : w ∈ xG := List.mem_filter.mpr ⟨h, hg⟩
theorem xG_tb {w : Cond} (i : Nat) (h : tables_1[i]? = some w) (hg : goodWord w = true) : w ∈ xG := xG_in (List.mem_append_right _ (List.mem_of_getElem? h)) hg
theorem xG_pv {w : Cond} (i : Nat) (h : (k2_sels lw_privs)[i]? = some w) (hg : goodWord w = true) : w ∈ xG := xG_in (List.mem_append_left _ (List.mem_of_getElem? h)) hg
theorem xG_good {ws : List Cond} (h : ∀ w ∈ ws, w ∈ xG) : GoodIn xG ws := fun w hw => ⟨h w hw, good_of_word (List.mem_filter.mp (h w hw)).2⟩
/-- how many objects and rows there are when all is made -/
def xN : Nat := 113
/-- the state's side of a frame of method m -/
def XC (g : XG) (m : XMe) (p : Program) (s : State) (mi : MethodId) (args : Array Value) (meth : Method) (c : Code) : Prop :=
  p.tables.exec = Jvm.exec ∧ c.code = m.2.1 ∧ c.maxLocals = m.2.2.1 ∧ s.vm.findClass m.1 = some mi.cls ∧ (∀ w ∈ xG, w.before args s = true) ∧ va_K (xD g) xcl (xtys g) s ∧ XO g s s.heap ∧ meth.sig.returnType = m.2.2.2.1 ∧ meth.locks = false ∧ (meth.name = "<init>" ∨ m.2.2.2.2.1 = 0 ∨ m.1 = RL)
def XR (d : Nat) (m : XMe) (R : Room) : Prop := d ≤ R.frames ∧ 60 * d ≤ R.locals ∧ m.2.2.2.2.1 ≤ R.cells ∧ m.2.2.2.2.2 ≤ R.slots
def XH (g : XG) (s : State) (H : Heap) (locs : List Loc) (S : XS) (M : XM) : Prop :=
  va_P (xD g) xcl (xws g S M) H ∧ va_S (fun q => xb g ≤ q) s.heap H locs ∧ (S.length = xN ∨ H.size = xb g + S.length) ∧ S.length ≤ 1000
def xlv (g : XG) (ls : XL) : List (Nat × Value) := ls.zipIdx.filterMap (fun q => q.1.map (fun v => (q.2, xtr g v)))
theorem xlv_mem {g : XG} {ls : XL} {i : Nat} {v : Value} : (i, v) ∈ xlv g ls ↔ ∃ w, ls[i]? = some (some w) ∧ v = xtr g w := by
  unfold xlv
  rw [List.mem_filterMap]
  constructor
  · rintro ⟨⟨o, j⟩, hq, h⟩
    have hj : ls[j]? = some o := by
      have := List.mem_zipIdx_iff_getElem?.mp hq
      simpa using this
    cases o with
    | none => cases h
    | some w =>
      simp only [Option.map_some, Option.some.injEq, Prod.mk.injEq] at h
      obtain ⟨rfl, rfl⟩ := h
      exact ⟨w, hj, rfl⟩
  · rintro ⟨w, h, rfl⟩
    exact ⟨(some w, i), List.mem_zipIdx_iff_getElem?.mpr (by simpa using h), rfl⟩
theorem xlv_at {g : XG} {la : Array Slot} {nL : Nat} {ls : XL} (h : lv_has la nL (xlv g ls)) {i : Nat} {v : Value} (hi : ls[i]? = some (some v)) : la[i]? = some (.val (xtr g v)) :=
  h.2.2 (i, xtr g v) (xlv_mem.mpr ⟨v, hi, rfl⟩)
def xrt (rt : Option FieldType) (v : Option Value) : Prop := match rt, v with
  | none, none => True
  | some .int, some (.int _) => True
  | some .boolean, some (.int x) => narrow .boolean (.int x) = .int x
  | some .byte, some (.int x) => narrow .byte (.int x) = .int x
  | some .char, some (.int x) => narrow .char (.int x) = .int x
  | some .long, some (.long _) => True
  | some (.object _), some (.ref k) => k < 1000
  | _, _ => False
def xri (rt : Option FieldType) : Instr := match rt with
  | none => .return_
  | some .long => .lreturn
  | some (.object _) => .areturn
  | _ => .ireturn
def Wp (g : XG) (d : Nat) (m : XMe) (pc : Nat) (ls : XL) (st : List Value) (S : XS) (B : Nat × Nat) (M : XM) (K : Option Value → XS → XM → Prop) : Prop :=
  ∀ (p : Program) (e : Env) (R : Room) (s : State) (mi : MethodId) (args : Array Value) (below : List Frame) (meth : Method) (c : Code) (H : Heap) (locs : List Loc) (la : Array Slot) (Q : State → Prop),
    XC g m p s mi args meth c → XR d m R → XH g s H locs S M → lv_has la m.2.2.1 (xlv g ls) →
    (∀ (v : Option Value) (pc' : Nat) (la' : Array Slot) (H' : Heap) (locs' : List Loc) (S' : XS) (M' : XM), xrt m.2.2.2.1 v → decode m.2.1 pc' = .ok (xri m.2.2.2.1, 1) → K v S' M' → XH g s H' locs' S' M' →
      W p (xl g) e R s mi args below meth c H' locs' m.2.2.2.2.1 m.2.2.2.2.2 Q (F0 mi pc' la' (v.toList.map (xtr g)))) →
    W p (xl g) e R s mi args below meth c H locs B.1 B.2 Q (F0 mi pc la (st.map (xtr g)))
/-- the world before and behind a method -/
def XU (g : XG) (U : State) (S : XS) (M : XM) : Prop :=
  va_P (xD g) xcl (xws g S M) U.heap ∧ va_K (xD g) xcl (xtys g) U ∧ XO g U U.heap ∧ (S.length = xN ∨ U.heap.size = xb g + S.length) ∧ S.length ≤ 1000
def xrm (d : Nat) (m : XMe) : Room := { frames := d, cells := m.2.2.2.2.1, slots := m.2.2.2.2.2, locals := 60 * d }
def Ex (g : XG) (d : Nat) (y : MethodName) (m : XMe) (args : List Value) (S : XS) (M : XM) (K : Option Value → XS → XM → Prop) : Prop :=
  Met (xl g) y (.code y m.2.1 m.2.2.1 m.2.2.2.1 :: xG) (xrm d m) (va_Pc (args.map (xtr g)) (fun U => XU g U S M))
    (fun _ st o t => (∃ (v : Option Value) (S' : XS) (M' : XM), o = .returned (v.map (xtr g)) ∧ K v S' M' ∧ XU g t S' M') ∧ va_F (fun q => xb g ≤ q) st t) m.2.2.2.2.1 m.2.2.2.2.2 (fun q => xb g ≤ q)
/-- what is known of a method that is called -/
def XY (y : MethodName) (m : XMe) (n : Nat) : Prop :=
  plainName y.cls = true ∧ m.1 = y.cls ∧ .code y m.2.1 m.2.2.1 m.2.2.2.1 ∈ xG ∧ .initialized y.cls ∈ xG ∧ (y.cls ≠ "java/lang/invoke/MethodHandle" ∧ y.cls ≠ "java/lang/invoke/VarHandle" ∧ (parseMethodDescriptor y.desc).map (fun d => d.parameters.length) = some n) ∧ m.2.2.1 ≤ 40 ∧ (y.name = "<init>" ∨ m.2.2.2.2.1 = 0)
def xent (nL : Nat) (args : List Value) : XL := let l := args.flatMap (fun v => if v.category = 2 then [some v, none] else [some v]); l ++ List.replicate (nL - l.length) none
theorem xent_args (g : XG) (vs : List Value) : ∀ (i : Nat) (j : Nat) (w : Value), (vs.flatMap (fun v => if v.category = 2 then [some v, none] else [some v]))[j]? = some (some w) → (i + j, xtr g w) ∈ lv_args i (vs.map (xtr g)) := by
  induction vs with
  | nil => intro i j w h; simp at h
  | cons v vs ih =>
    intro i j w h
    rw [List.flatMap_cons] at h
    rw [List.map_cons]
    show _ ∈ (i, xtr g v) :: lv_args (if (xtr g v).category = 2 then i + 2 else i + 1) (vs.map (xtr g))
    rw [xtr_cat]
    by_cases hc : v.category = 2
    · rw [if_pos hc] at h ⊢
      match j, h with
      | 0, h => simp at h; subst h; exact List.mem_cons_self
      | 1, h => simp at h
      | j + 2, h =>
        have h2 := ih (i + 2) j w (by simpa using h)
        rw [show i + (j + 2) = i + 2 + j by omega]
        exact List.mem_cons_of_mem _ h2
    · rw [if_neg hc] at h ⊢
      match j, h with
      | 0, h => simp at h; subst h; exact List.mem_cons_self
      | j + 1, h =>
        have h2 := ih (i + 1) j w (by simpa using h)
        rw [show i + (j + 1) = i + 1 + j by omega]
        exact List.mem_cons_of_mem _ h2
theorem xsl_len (g : XG) (vs : List Value) : (lg_sl (vs.map (xtr g))).length = (vs.flatMap (fun v => if v.category = 2 then [some v, none] else [some v])).length := by
  induction vs with
  | nil => rfl
  | cons v vs ih =>
    unfold lg_sl at ih ⊢
    rw [List.map_cons, List.flatMap_cons, List.flatMap_cons, List.length_append, List.length_append, ih, xtr_cat]
    by_cases hc : v.category = 2 <;> simp [hc]
theorem xlv_weaken {g : XG} {la : Array Slot} {nL : Nat} {l : List (Nat × Value)} {ls : XL} (h : lv_has la nL l) (hs : ∀ i w, ls[i]? = some (some w) → (i, xtr g w) ∈ l) : lv_has la nL (xlv g ls) := by
  refine ⟨h.1, h.2.1, fun q hq => ?_⟩
  obtain ⟨i, v⟩ := q
  obtain ⟨w, h1, rfl⟩ := xlv_mem.mp hq
  exact h.2.2 _ (hs i w h1)
theorem x_leave {g : XG} {p : Program} {l : Launch} {e : Env} {R : Room} {s : State} {m : MethodId} {args : Array Value} {below : List Frame} {meth : Method} {c : Code} {H : Heap} {locs : List Loc} {cells slots : Nat} {cc : ByteArray} {rt : Option FieldType} {Qc : Array Value → State → Outcome → State → Prop} {free : Addr → Prop} {pc : Nat} {ls : Array Slot}
    (hx : p.tables.exec = Jvm.exec) (hb : c.code = cc) (hr : meth.sig.returnType = rt) (hlocks : meth.locks = false) (v : Option Value) (hrt : xrt rt v) (hdg : decode cc pc = .ok (xri rt, 1))
    (hq : ∀ t : State, t.heap = H → s.WarmedH t.vm → Qc args s (.returned (v.map (xtr g))) t) (hf : ∀ q ∈ locs, free q.base) : W p l e R s m args below meth c H locs cells slots (MQ below Qc args s cells slots free) (F0 m pc ls (v.toList.map (xtr g))) := by
  cases rt with
  | none =>
    cases v with
    | none => exact W.vret hx hb hr hq hf hdg hlocks
    | some v => exact absurd hrt id
  | some ty =>
    cases v with
    | none => cases ty <;> exact absurd hrt id
    | some v =>
      cases ty <;> cases v <;> first | exact absurd hrt id | exact W.iret hx hb hr hq hf hdg hlocks | exact W.lret hx hb hr hq hf hdg hlocks | exact W.zret hx hb hr hrt hq hf hdg hlocks | skip
      rename_i cn k
      have hk : k < 1000 := hrt
      have e1 : xtr g (.ref k) = .ref (xb g + k) := xtr_ref hk
      have hq' := hq
      simp only [Option.map_some, e1] at hq'
      show W p l e R s m args below meth c H locs cells slots _ (F0 m pc ls [xtr g (.ref k)])
      rw [e1]
      exact W.aret hx hb hr (Or.inl ⟨_, rfl⟩) (Or.inr ⟨_, rfl⟩) hq' hf hdg hlocks
theorem x_world {g : XG} {m : XMe} {p : Program} {s : State} {mi : MethodId} {args : Array Value} {meth : Method} {c : Code} {H : Heap} {locs : List Loc} {S : XS} {M : XM} (C : XC g m p s mi args meth c) (hH : XH g s H locs S M) {t : State} (ht : t.heap = H) (hW : s.WarmedH t.vm) : XU g t S M := by
  obtain ⟨-, -, -, -, -, hK, hO, -⟩ := C
  obtain ⟨hP, hS, hz, hk⟩ := hH
  exact ⟨by rw [ht]; exact hP, va_K.moved hW.alike hK, by rw [ht]; exact (hO.kept hS.1 (fun a h1 h2 => hS.2.1 a h1 h2)).warm hW, by rw [ht]; exact hz, hk⟩
theorem x_entry {g : XG} {d n : Nat} {y : MethodName} {m : XMe} {args : List Value} {S : XS} {M : XM} {K : Option Value → XS → XM → Prop} (hY : XY y m n) (hl : (args.flatMap (fun v => if v.category = 2 then [some v, none] else [some v])).length ≤ m.2.2.1)
    (h : Wp g d m 0 (xent m.2.2.1 args) [] S (0, 0) M K) : Ex g d y m args S M K := by
  unfold Ex
  refine Met.ofW (cc := m.2.1) (maxL := m.2.2.1) (ret := m.2.2.2.1) hY.1 rfl ?_
  intro p e s mi args' below meth c s₁ B hml hv
  obtain ⟨rfl, hP, hK, hO, hsz, h1000⟩ := hv
  have hts := atoms_spec B.pre
  have hown : s.vm.findClass y.cls = some mi.cls := findClass_of_methodNamed B.named
  have hnm : meth.name = y.name := (name_of_methodNamed B.named B.method).1
  have C : XC g m p s mi (args.map (xtr g)).toArray meth c := ⟨B.exec, B.bytes, hml, by rw [hY.2.1]; exact hown, fun w hw => hts w (List.mem_cons_of_mem _ hw), hK, hO, B.returns, B.notSynchronized, by rw [hnm]; exact hY.2.2.2.2.2.2.imp id Or.inl⟩
  rw [lg_entry_eq]
  refine h p e _ s mi _ below meth c s.heap [] _ _ C ⟨Nat.le_refl _, Nat.le_refl _, Nat.le_refl _, Nat.le_refl _⟩ ⟨hP, va_S.rf, hsz, h1000⟩ ?_ ?_
  · refine xlv_weaken (lv_entry (args.map (xtr g)) (by rw [xsl_len]; exact hl)) (fun i w hw => ?_)
    have h2 : (args.flatMap (fun v => if v.category = 2 then [some v, none] else [some v]))[i]? = some (some w) := by
      unfold xent at hw
      by_cases hi : i < (args.flatMap (fun v => if v.category = 2 then [some v, none] else [some v])).length
      · rw [List.getElem?_append_left hi] at hw
        exact hw
      · rw [List.getElem?_append_right (Nat.not_lt.mp hi)] at hw
        have := List.eq_of_mem_replicate (List.mem_of_getElem? hw)
        cases this
    have h3 := xent_args g args 0 i w h2
    rw [Nat.zero_add] at h3
    exact h3
  · intro v pc' la' H' locs' S' M' hrt hdec hKv hH
    exact x_leave B.exec B.bytes B.returns B.notSynchronized v hrt hdec (fun t ht hW => ⟨⟨v, S', M', rfl, hKv, x_world C hH ht hW⟩, hH.2.1.F ht⟩) hH.2.1.2.2
section XB
variable {g : XG} {d n : Nat} {m my : XMe} {y : MethodName} {pc idx : Nat} {ls : XL} {st rest As : List Value} {S : XS} {B : Nat × Nat} {M : XM} {K : Option Value → XS → XM → Prop}
theorem x_back {p : Program} {e : Env} {R : Room} {s : State} {mi : MethodId} {args : Array Value} {below : List Frame} {meth : Method} {c : Code} {H : Heap} {locs : List Loc} {cells slots mc ms : Nat} {la : Array Slot} {Q : State → Prop} {st0 rst : List Value} {K' : Option Value → XS → XM → Prop}
    (hH : XH g s H locs S M)
    (hr : va_Run p (xl g) e R s mi args below meth c H locs cells slots mc ms (F0 mi pc la st0) rst (fun st o t => (∃ (v : Option Value) (S' : XS) (M' : XM), o = .returned (v.map (xtr g)) ∧ K' v S' M' ∧ XU g t S' M') ∧ va_F (fun q => xb g ≤ q) st t) (fun q => xb g ≤ q))
    (kk : ∀ (v : Option Value) (S' : XS) (M' : XM) (H' : Heap) (locs' : List Loc), K' v S' M' → XH g s H' locs' S' M' → W p (xl g) e R s mi args below meth c H' locs' (cells + mc) (slots + ms) Q (F0 mi (pc + 3) la ((v.toList.map (xtr g)) ++ rst))) :
    W p (xl g) e R s mi args below meth c H locs cells slots Q (F0 mi pc la st0) := by
  intro T hT X
  obtain ⟨w, st₀, t, T', L, h0, X', hL, e1, e2, ⟨⟨v, S', M', hv, hk, hU⟩, hz, hkp⟩, stp⟩ := hr T hT X
  obtain rfl : w = v.map (xtr g) := by injection hv
  rw [h0] at hz hkp
  obtain ⟨hP, hS, hsz, h1000⟩ := hH
  obtain ⟨hP', -, -, hsz', h1000'⟩ := hU
  have hX : XH g s T'.heap (locs ++ L) S' M' := by
    refine ⟨by rw [e1]; exact hP', ⟨Nat.le_trans hS.1 (by rw [e1]; exact hz), fun q h1 h2 => ?_, fun q hq => ?_⟩, by rw [e1]; exact hsz', h1000'⟩
    · rw [e1, hkp q (Nat.lt_of_lt_of_le h1 hS.1) h2]
      exact hS.2.1 q h1 h2
    · rcases List.mem_append.mp hq with h | h
      · exact hS.2.2 q h
      · exact hL q h
  obtain ⟨t2, a1, b1⟩ := kk v S' M' T'.heap (locs ++ L) hk hX T' rfl X'
  have hst : (v.map (xtr g)).toList = v.toList.map (xtr g) := by cases v <;> rfl
  rw [← hst] at a1
  exact ⟨t2, stp t2 a1, b1⟩
theorem x_blind : FrameBlind (va_Pc (As.map (xtr g)) (fun U => XU g U S M)) := by
  intro a U gf mk q
  obtain ⟨q1, q2, q3, q4, q5, q6⟩ := q
  exact ⟨q1, q2, va_K.moved (u := U) (U := U.calling gf mk a) (Vm.Alike.refl U.vm) q3, XO.same (s := U) (U := U.calling gf mk a) rfl q4, q5, q6⟩
theorem x_callB {p : Program} {R : Room} {s : State} {mi : MethodId} {args : Array Value} {meth : Method} {c : Code} (C : XC g m p s mi args meth c) (hY : XY y my n) (hR : XR (d + 1) m R) (hl : .methodLink m.1 idx y ∈ xG) :
    CallB R s args m.1 idx y my.2.1 my.2.2.1 my.2.2.2.1 (.code y my.2.1 my.2.2.1 my.2.2.2.1 :: xG) (xrm d my) my.2.2.2.2.1 my.2.2.2.2.2 n := by
  obtain ⟨-, -, -, -, hts, -⟩ := C
  obtain ⟨-, -, hcode, hini, hd, hn, -⟩ := hY
  obtain ⟨r1, r2, -, -⟩ := hR
  refine callB_of n hts (xG_good ?_) rfl rfl rfl (hts _ hini) (hts _ hl) hd ⟨r1, ?_⟩
  · intro w hw
    rcases List.mem_cons.mp hw with rfl | hw
    · exact hcode
    · exact hw
  · show 8 + (my.2.2.1 + 11) + 60 * d ≤ R.locals
    omega
theorem x_hB {R : Room} (hR : XR d m R) (hB : B.1 + my.2.2.2.2.1 ≤ m.2.2.2.2.1 ∧ B.2 + my.2.2.2.2.2 ≤ m.2.2.2.2.2) : B.1 + my.2.2.2.2.1 ≤ R.cells ∧ B.2 + my.2.2.2.2.2 ≤ R.slots :=
  ⟨Nat.le_trans hB.1 hR.2.2.1, Nat.le_trans hB.2 hR.2.2.2⟩
theorem x_rest (hw : (rest.map fun v => v.category).sum ≤ 8) : ((rest.map (xtr g)).map fun v => v.category).sum ≤ 8 := by rw [xtr_cats]; exact hw
theorem x_invV {a ci N : Nat} {fs : List (Option Value)} {T : u_T} (hd : decode m.2.1 pc = .ok (.invokevirtual idx, 3)) (hl : .methodLink m.1 idx y ∈ xG) (hin : .instanceMethod y ∈ xG) (hse : .selects y.cls y y ∈ xG) (hY : XY y my n)
    (ha : S[a]? = some (.inr (ci, fs))) (hc : xcl[ci]? = some (y.cls, T, N)) (hn : As.length = n) (hw : (rest.map fun v => v.category).sum ≤ 8) (hB : B.1 + my.2.2.2.2.1 ≤ m.2.2.2.2.1 ∧ B.2 + my.2.2.2.2.2 ≤ m.2.2.2.2.2)
    (h : Ex g d y my (.ref a :: As) S M (fun v S' M' => Wp g (d + 1) m (pc + 3) ls (v.toList ++ rest) S' (B.1 + my.2.2.2.2.1, B.2 + my.2.2.2.2.2) M' K)) : Wp g (d + 1) m pc ls (As.reverse ++ .ref a :: rest) S B M K := by
  intro p e R s mi args below meth c H locs la Q C hR hH hl0 hret
  have hal : a < 1000 := Nat.lt_of_lt_of_le (List.getElem?_eq_some_iff.mp ha).1 hH.2.2.2
  have hea : xtr g (.ref a) = .ref (xb g + a) := xtr_ref hal
  have C' := id C
  obtain ⟨hx, hb, hml, hown, hts, hK, hO, -⟩ := C'
  have e0 : (As.reverse ++ .ref a :: rest).map (xtr g) = (As.map (xtr g)).reverse ++ .ref (xb g + a) :: rest.map (xtr g) := by
    rw [List.map_append, List.map_reverse, List.map_cons, hea]
  rw [e0]
  refine x_back hH (va_runV (Ts := xG) (As := As.map (xtr g)) (rest := rest.map (xtr g)) (b := xb g + a) (C := y.cls) (n := n) ⟨hx, hb, hml, hown, hts⟩ h ⟨x_callB C hY hR hl, hts _ hin, hts _ hse⟩ ⟨x_blind, va_recv hK hH.1 hc (xws_get ha), fun U hU hW => ⟨?_, x_world C hH hU hW⟩⟩ rfl (by rw [List.length_map]; exact hn) hl0.1 rfl (lv_room (x_rest hw)) hd (x_hB hR hB)) ?_
  · rw [List.map_cons, hea]
  · intro v S' M' H' locs' hk hH'
    have k2 := hk p e R s mi args below meth c H' locs' la Q C hR hH' hl0 hret
    rw [List.map_append] at k2
    exact k2
theorem x_invS (hd : decode m.2.1 pc = .ok (.invokestatic idx, 3)) (hl : .methodLink m.1 idx y ∈ xG) (hin : .static y ∈ xG) (hY : XY y my n)
    (hn : As.length = n) (hw : (rest.map fun v => v.category).sum ≤ 8) (hB : B.1 + my.2.2.2.2.1 ≤ m.2.2.2.2.1 ∧ B.2 + my.2.2.2.2.2 ≤ m.2.2.2.2.2)
    (h : Ex g d y my As S M (fun v S' M' => Wp g (d + 1) m (pc + 3) ls (v.toList ++ rest) S' (B.1 + my.2.2.2.2.1, B.2 + my.2.2.2.2.2) M' K)) : Wp g (d + 1) m pc ls (As.reverse ++ rest) S B M K := by
  intro p e R s mi args below meth c H locs la Q C hR hH hl0 hret
  have C' := id C
  obtain ⟨hx, hb, hml, hown, hts, hK, hO, -⟩ := C'
  have e0 : (As.reverse ++ rest).map (xtr g) = (As.map (xtr g)).reverse ++ rest.map (xtr g) := by
    rw [List.map_append, List.map_reverse]
  rw [e0]
  refine x_back hH (va_runS (Ts := xG) (As := As.map (xtr g)) (rest := rest.map (xtr g)) (n := n) ⟨hx, hb, hml, hown, hts⟩ h ⟨x_callB C hY hR hl, hts _ hin⟩ ⟨x_blind, fun U hU hW => ⟨rfl, x_world C hH hU hW⟩⟩ rfl (by rw [List.length_map]; exact hn) hl0.1 rfl (lv_room (x_rest hw)) hd (x_hB hR hB)) ?_
  intro v S' M' H' locs' hk hH'
  have k2 := hk p e R s mi args below meth c H' locs' la Q C hR hH' hl0 hret
  rw [List.map_append] at k2
  exact k2
/-- a String's method: the receiver is one of the constants -/
theorem x_invT {i : Nat} (hd : decode m.2.1 pc = .ok (.invokevirtual idx, 3)) (hl : .methodLink m.1 idx y ∈ xG) (hin : .instanceMethod y ∈ xG) (hse : .selects y.cls y y ∈ xG) (hY : XY y my n)
    (hi : i < 5) (hyc : y.cls = "java/lang/String") (hn : As.length = n) (hw : (rest.map fun v => v.category).sum ≤ 8) (hB : B.1 + my.2.2.2.2.1 ≤ m.2.2.2.2.1 ∧ B.2 + my.2.2.2.2.2 ≤ m.2.2.2.2.2)
    (h : Ex g d y my (.ref (2000 + i) :: As) S M (fun v S' M' => Wp g (d + 1) m (pc + 3) ls (v.toList ++ rest) S' (B.1 + my.2.2.2.2.1, B.2 + my.2.2.2.2.2) M' K)) : Wp g (d + 1) m pc ls (As.reverse ++ .ref (2000 + i) :: rest) S B M K := by
  intro p e R s mi args below meth c H locs la Q C hR hH hl0 hret
  have C' := id C
  obtain ⟨hx, hb, hml, hown, hts, hK, hO, -⟩ := C'
  obtain ⟨-, -, -, -, -, -, -, -, -, -, ⟨aK, aV, hE, hq⟩, -⟩ := id hO
  obtain ⟨q1, q2, q3⟩ := hq i hi
  have hea : xtr g (.ref (2000 + i)) = .ref (aK i) := xtr_sp (by omega) q1
  have e0 : (As.reverse ++ .ref (2000 + i) :: rest).map (xtr g) = (As.map (xtr g)).reverse ++ .ref (aK i) :: rest.map (xtr g) := by
    rw [List.map_append, List.map_reverse, List.map_cons, hea]
  rw [e0]
  refine x_back hH (va_runV (Ts := xG) (As := As.map (xtr g)) (rest := rest.map (xtr g)) (b := aK i) (C := y.cls) (n := n) ⟨hx, hb, hml, hown, hts⟩ h ⟨x_callB C hY hR hl, hts _ hin, hts _ hse⟩ ⟨x_blind, by rw [hyc]; exact vk_recv hE hi hH.2.1, fun U hU hW => ⟨?_, x_world C hH hU hW⟩⟩ rfl (by rw [List.length_map]; exact hn) hl0.1 rfl (lv_room (x_rest hw)) hd (x_hB hR hB)) ?_
  · rw [List.map_cons, hea]
  · intro v S' M' H' locs' hk hH'
    have k2 := hk p e R s mi args below meth c H' locs' la Q C hR hH' hl0 hret
    rw [List.map_append] at k2
    exact k2
end XB
