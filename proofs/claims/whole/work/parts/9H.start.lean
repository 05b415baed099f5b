/-! THE CLAIM OUT OF ONE WALK OF THE LAW'S BODY. Your part is whole_start (and what it stands on); all else here is the same for every law, but numbers. -/
def R_law : String := "CarpetReasonsLaw"
def lw_P (b : Addr) (xs : List Int32) (args : Array Value) (s : State) : Prop := args = #[.ref b] ∧ s.IntsAt b xs ∧ xs.length ≤ 3072 ∧ (Jvm.Cond.and given_1 narrow_1).before args s = true
def lw_Q (_ : Array Value) (s : State) (o : Outcome) (t : State) : Prop := o = .returned (some (.int 1)) ∧ Framed s o t [] 600000 7302250
def lw_Z (below : List Frame) (a : Array Value) (s : State) : State → Prop := fun t => ∃ o, t.status = .running ∧ Ended t below o ∧ lw_Q a s o t
/-- the law's own end, with 1 on the stack, nothing written that was there before, its room as the claim has it -/
theorem lw_ret {p : Program} {l : Launch} {e : Env} {s : State} {m : MethodId} {below : List Frame} {meth : Method} {c : Code} {b : Nat} (hx : p.tables.exec = Jvm.exec) (hb : c.code = code) (hr : meth.sig.returnType = ret) (hlocks : meth.locks = false) {pc : Nat} {H : Heap} {ls : Array Slot} (hdg : decode code pc = .ok (.ireturn, 1)) : W p l e room_1 s m #[Value.ref b] below meth c H [] 600000 7302250 (lw_Z below #[Value.ref b] s) (F0 m pc ls [.int 1]) := by
  intro T hT X
  obtain ⟨fs, hret, hrun, hended, hW, hframe⟩ := X.leave (v := some (.int 1)) (hlocks := hlocks) (fun h => by rw [hr] at h; cases h)
  have hmeth' : T.vm.method? m = some meth := X.method'
  refine ⟨T.setFrames fs, ?_, .returned (some (.int 1)), hrun, hended, rfl, ⟨_, rfl⟩, hW, hframe⟩
  jvm_step X.here [X.here.top, hx, hb, hdg, hmeth', hr, ret, narrow_b1]
  (try refine ⟨rfl, ?_⟩); (try refine ⟨rfl, ?_⟩)
  first | (intro acts; rw [hret _ acts rfl rfl rfl]) | rw [hret _ _ rfl rfl rfl]
  exact Steps.refl _
/-- what holds at the law's entry: the machine, the code, the tables' words (any of lw_tbl by 'hts w (by decide +kernel)'), the script of L ints xs at the cell b, what the Statement gives of the start (any of its parts by flat_of_before) -/
def lw_At (p : Program) (s : State) (m : MethodId) (meth : Method) (c : Code) (b L : Nat) (xs : Nat → Int32) : Prop :=
  p.tables.exec = Jvm.exec ∧ c.code = code ∧ meth.sig.returnType = ret ∧ c.maxLocals = 4 ∧ s.vm.findClass R_law = some m.cls ∧ (∀ w ∈ lw_tbl, w.before #[Value.ref b] s = true) ∧ va_X b L xs s s.heap ∧ b < s.heap.size ∧ meth.locks = false ∧ (Jvm.Cond.and given_1 narrow_1).before #[Value.ref b] s = true
theorem xk_cl {s : State} {args : Array Value} (hts : ∀ w ∈ xG, w.before args s = true) : ∃ D : va_G, ∀ (k : Nat) (q : vw_C), xcl[k]? = some q → u_Kn s q.1 q.2.1 q.2.2 (D.1 k) (D.2 k) := by
  have hall : ∀ q ∈ xcl, ∃ (cC : ClassId) (iS : Nat → Nat), u_Kn s q.1 q.2.1 q.2.2 cC iS := by
    intro q hq
    simp only [xcl, List.mem_cons, List.not_mem_nil, or_false] at hq
    rcases hq with rfl | rfl | rfl | rfl | rfl | rfl | rfl | rfl | rfl | rfl | rfl
    · exact u_known hts xinX0 (hts _ insX0)
    · exact u_known hts xinX1 (hts _ insX1)
    · exact u_known hts xinX2 (hts _ insX2)
    · exact u_known hts xinX0 (hts _ insX0)
    · exact u_known hts xinX0 (hts _ insX0)
    · exact u_known hts xinX5 (hts _ insX5)
    · exact u_known hts xinX6 (hts _ insX6)
    · exact u_known hts xinX7 (hts _ insX7)
    · exact u_known hts xinX8 (hts _ insX8)
    · exact u_known hts xinX9 (hts _ insX9)
    · exact u_known hts xinX10 (hts _ insX10)
  obtain ⟨c0, i0, -⟩ := hall _ List.mem_cons_self
  have h0 : ∀ k : Nat, ∃ q : ClassId × (Nat → Nat), ∀ r, xcl[k]? = some r → u_Kn s r.1 r.2.1 r.2.2 q.1 q.2 := by
    intro k
    cases h : xcl[k]? with
    | none => exact ⟨(c0, i0), fun r hr => by cases hr⟩
    | some r0 =>
      obtain ⟨c, i, hk⟩ := hall r0 (List.mem_of_getElem? h)
      exact ⟨(c, i), fun r hr => by cases hr; exact hk⟩
  obtain ⟨f, hf⟩ := Classical.axiomOfChoice h0
  exact ⟨(fun k => (f k).1, fun k => (f k).2), fun k q hq => hf k q hq⟩
theorem xk_arr {s : State} {args : Array Value} {ty : FieldType} (h : (Cond.arrayClass ty).before args s = true) : ∃ cA : ClassId, ArrOfT s cA ty ∧ s.vm.findClass ("[" ++ ty.toString) = some cA := by
  obtain ⟨c, k, comp, h1, h2, h3⟩ := Cond.arrayClass_spec h
  exact ⟨c, fun n z => ⟨fun k h => (by cases h), k, h2, comp, h3⟩, h1⟩
theorem xk_arrs {s : State} {args : Array Value} (hts : ∀ w ∈ xG, w.before args s = true) : ∃ cT : Nat → ClassId, ∀ (k : Nat) (q : ClassId × FieldType), ([(cT 0, .int), (cT 1, .byte), (cT 2, .boolean), (cT 3, .long)] : List (ClassId × FieldType))[k]? = some q → ArrOfT s q.1 q.2 ∧ va_RA s q.1 q.2 := by
  obtain ⟨c0, a0, b0⟩ := xk_arr (hts _ ac_int)
  obtain ⟨c1, a1, b1⟩ := xk_arr (hts _ ac_byte)
  obtain ⟨c2, a2, b2⟩ := xk_arr (hts _ ac_boolean)
  obtain ⟨c3, a3, b3⟩ := xk_arr (hts _ ac_long)
  refine ⟨fun k => if k = 0 then c0 else if k = 1 then c1 else if k = 2 then c2 else c3, fun k q hq => ?_⟩
  match k, hq with
  | 0, hq => cases hq; exact ⟨a0, b0⟩
  | 1, hq => cases hq; exact ⟨a1, b1⟩
  | 2, hq => cases hq; exact ⟨a2, b2⟩
  | 3, hq => cases hq; exact ⟨a3, b3⟩
  | k + 4, hq => simp at hq
theorem xk_w {w : Cond} {s : State} {args : Array Value} (hts : ∀ w ∈ lw_tbl, w.before args s = true) (i : Nat) (h : tables_1[i]? = some w) : w.before args s = true := hts _ (List.mem_append_right _ (List.mem_of_getElem? h))
abbrev xfl : List Cond := flatC (Jvm.Cond.and given_1 narrow_1)
theorem xm_t0 : Cond.arrayOf (.static RX0 "BODIES" "[I") .int ∈ xfl ∧ Cond.eq (.length (.static RX0 "BODIES" "[I")) (.int (Int32.ofNat 21)) ∈ xfl ∧ ∀ j, j < 21 → Cond.eq (.elem (.static RX0 "BODIES" "[I") (.int (Int32.ofNat j))) (.int (xtv 0 j)) ∈ xfl := by decide +kernel
theorem xm_t1 : Cond.arrayOf (.static RX4 "ABOVE" "[I") .int ∈ xfl ∧ Cond.eq (.length (.static RX4 "ABOVE" "[I")) (.int (Int32.ofNat 7)) ∈ xfl ∧ ∀ j, j < 7 → Cond.eq (.elem (.static RX4 "ABOVE" "[I") (.int (Int32.ofNat j))) (.int (xtv 1 j)) ∈ xfl := by decide +kernel
theorem xm_c : Cond.eq (.static "java/lang/String" "COMPACT_STRINGS" "Z") (.int 1) ∈ xfl ∧ Cond.isRef (.static "jdk/internal/util/Preconditions" "SIOOBE_FORMATTER" "Ljava/util/function/BiFunction;") ∈ xfl := by decide +kernel
def xstm (i : Nat) : Term := .string RX6 (xsidx i)
theorem xm_s1 : ∀ i, i < 5 → Cond.exactly (xstm i) "java/lang/String" ∈ xfl ∧ Cond.eq (.field (xstm i) "java/lang/String" "coder" "B") (.int 0) ∈ xfl ∧ Cond.arrayOf (.field (xstm i) "java/lang/String" "value" "[B") .byte ∈ xfl ∧ Cond.eq (.length (.field (xstm i) "java/lang/String" "value" "[B")) (.int (Int32.ofNat (xslen.getD i 0))) ∈ xfl := by decide +kernel
theorem xm_s2 : ∀ i, i < 5 → ∀ j, j < xslen.getD i 0 → Cond.eq (.elem (.field (xstm i) "java/lang/String" "value" "[B") (.int (Int32.ofNat j))) (.int ((xsbyt.getD i []).getD j 0)) ∈ xfl := by decide +kernel
theorem xm_s3 : ∀ i, i < 5 → ∀ j, j < 5 → i ≠ j → Cond.not (Cond.eq (xstm i) (xstm j)) ∈ xfl ∨ Cond.not (Cond.eq (xstm j) (xstm i)) ∈ xfl := by decide +kernel
theorem xm_r : ∀ i, i < 5 → Cond.stringRef RX6 (xsidx i) (xstxt i) ∈ tables_1 := by decide +kernel
theorem xm_n : ∀ w ∈ xnest, w ∈ tables_1 ∧ w.onTables = true := by decide +kernel
def xspf (b t0 t1 : Nat) (so : Option Nat) (aK aV : Nat → Nat) : Nat → Option Nat := fun k => if k = 5000 then some b else if k = 1000 then some t0 else if k = 1001 then some t1 else if k = 4000 then so else if k < 3000 then some (aK (k - 2000)) else some (aV (k - 3000))
theorem xk_world {s : State} {b L : Nat} {xs : Nat → Int32} (l : Launch) (hL : L ≤ 3072) (hts : ∀ w ∈ lw_tbl, w.before #[Value.ref b] s = true) (hX : va_X b L xs s s.heap) (hbl : b < s.heap.size) (hgv : (Jvm.Cond.and given_1 narrow_1).before #[Value.ref b] s = true) :
    ∃ g : XG, xl g = l ∧ xb g = s.heap.size ∧ xscr g = (b, L, xs) ∧ xsp g 5000 = some b ∧ va_K (xD g) xcl (xtys g) s ∧ XO g s s.heap := by
  have htx : ∀ w ∈ xG, w.before #[Value.ref b] s = true := fun w hw => hts w (List.mem_filter.mp hw).1
  have hs := flat_of_before _ hgv
  obtain ⟨D, hD⟩ := xk_cl htx
  obtain ⟨cT, hT⟩ := xk_arrs htx
  have hA : ∀ a : Nat, a < s.heap.size → ¬ s.heap.size ≤ a := fun a h => Nat.not_le.mpr h
  obtain ⟨t0, e0, q0⟩ := va_Tof (A := fun q => s.heap.size ≤ q) (N := 21) (f := fun j => .int (xtv 0 j)) (by decide) (hs _ xm_t0.1) (va_eqt (hs _ xm_t0.2.1)) (fun j hj => va_eqt (hs _ (xm_t0.2.2 j hj))) hA
  obtain ⟨t1, e1, q1⟩ := va_Tof (A := fun q => s.heap.size ≤ q) (N := 7) (f := fun j => .int (xtv 1 j)) (by decide) (hs _ xm_t1.1) (va_eqt (hs _ xm_t1.2.1)) (fun j hj => va_eqt (hs _ (xm_t1.2.2 j hj))) hA
  obtain ⟨aK, aV, qS, eS⟩ := vk_Sof (A := fun q => s.heap.size ≤ q) (N := 5) (tm := xstm) (len := xslen) (byt := xsbyt) (args := #[Value.ref b]) (s := s) (by decide) (fun i hi => hs _ (xm_s1 i hi).1) (fun i hi => hs _ (xm_s1 i hi).2.1) (fun i hi => hs _ (xm_s1 i hi).2.2.1) (fun i hi => hs _ (xm_s1 i hi).2.2.2) (fun i hi j hj => hs _ (xm_s2 i hi j hj)) (fun i j hi hj hij => (xm_s3 i hi j hj hij).imp (hs _) (hs _)) hA
  have hSo : ∃ so : Option Nat, va_Z "jdk/internal/util/Preconditions" "SIOOBE_FORMATTER" "Ljava/util/function/BiFunction;" (va_rf so) (fun q => s.heap.size ≤ q) s s.heap := by
    rcases va_Zqof (A := fun q => s.heap.size ≤ q) (xk_w hts 386 (by decide +kernel)) (xk_w hts 14 (by decide +kernel)) (hs _ xm_c.2) hA with h | ⟨t, h⟩
    · exact ⟨none, h⟩
    · exact ⟨some t, h⟩
  obtain ⟨so, hSo⟩ := hSo
  refine ⟨(l, D, cT, s.heap.size, xspf b t0 t1 so aK aV, (b, L, xs)), rfl, rfl, rfl, rfl, ⟨hD, hT⟩, ?_⟩
  refine ⟨hX, hbl, rfl, Nat.lt_of_le_of_lt hL (by decide), Nat.le_refl _, fun k hk => ?_, ?_, ?_, ?_, ?_, ⟨aK, aV, qS, fun i hi => ⟨?_, ?_, ?_⟩⟩, fun w hw => va_Nw.of (xm_n w hw).2 (hts _ (List.mem_append_right _ (xm_n w hw).1))⟩
  · match k, hk with
    | 0, _ => exact ⟨t0, rfl, q0⟩
    | 1, _ => exact ⟨t1, rfl, q1⟩
  · exact va_Zref (xk_w hts 831 (by decide +kernel)) (htx _ iniX0) e0 hA
  · exact va_Zref (xk_w hts 837 (by decide +kernel)) (xk_w hts 10 (by decide +kernel)) e1 hA
  · exact va_Zof (xk_w hts 370 (by decide +kernel)) (xk_w hts 12 (by decide +kernel)) (va_eqt (hs _ xm_c.1)) hA
  · exact hSo
  · show xspf b t0 t1 so aK aV (2000 + i) = some (aK i)
    unfold xspf
    rw [if_neg (by omega), if_neg (by omega), if_neg (by omega), if_neg (by omega), if_pos (by omega), show 2000 + i - 2000 = i by omega]
  · show xspf b t0 t1 so aK aV (3000 + i) = some (aV i)
    unfold xspf
    rw [if_neg (by omega), if_neg (by omega), if_neg (by omega), if_neg (by omega), if_neg (by omega), show 3000 + i - 3000 = i by omega]
  · exact vk_R.of (hts _ (List.mem_append_right _ (xm_r i hi))) (eS i hi)
/-- YOUR PART: from the entry, for every script of at most 3072 ints, the law comes to its end with true ('hflags': the launch's flags, for a law that throws: no stack traces) -/
theorem whole_start {p : Program} {e : Env} {s : State} {m : MethodId} {below : List Frame} {meth : Method} {c : Code} (l : Launch) (hflags : l.flags = flags0) {b L : Nat} {xs : Nat → Int32} (hL : L ≤ 3072) (C0 : lw_At p s m meth c b L xs) : W p l e room_1 s m #[Value.ref b] below meth c s.heap [] 0 0 (lw_Z below #[Value.ref b] s) (entryFrame m ([Value.ref b] : List Value).toArray 4) := by
  obtain ⟨hx, hb, hr, hml, hown, hts, hX, hbl, hlocks, hgv⟩ := id C0
  obtain ⟨g, rfl, gb, gs, g5, hK, hO⟩ := xk_world l hL hts hX hbl hgv
  have hl := lv_entry ([.ref b]) (n := 4) (Nat.le_of_ble_eq_true rfl)
  rw [lg_entry_eq]
  generalize (lg_sl ([.ref b]) ++ List.replicate (4 - (lg_sl ([.ref b])).length) Slot.unset).toArray = la at hl ⊢
  have hl : lv_has la 4 [(0, .ref b)] := hl
  have hn : (xscr g).2.1 ≤ 3072 := by rw [gs]; exact hL
  have C : XC g mL_law p s m #[Value.ref b] meth c := ⟨hx, hb, hml, hown, fun w hw => hts w (List.mem_filter.mp hw).1, hK, hO, hr, hlocks, Or.inr (Or.inr rfl)⟩
  refine law_start (g := g) (d := 0) (M := (fun _ _ => 0, fun _ _ => 0)) hn p e room_1 s m #[Value.ref b] below meth c s.heap [] la (lw_Z below #[Value.ref b] s) C ⟨Nat.le_of_ble_eq_true rfl, Nat.le_of_ble_eq_true rfl, Nat.le_of_ble_eq_true rfl, Nat.le_of_ble_eq_true rfl⟩ ⟨fun k q h => ?_, va_S.rf, Or.inr (by rw [gb]; rfl), Nat.zero_le _⟩ ?_ ?_
  · have h' : ([] : va_W)[k]? = some q := h
    simp at h'
  · refine xlv_weaken hl (fun i w hw => ?_)
    match i, hw with
    | 0, hw =>
      cases hw
      rw [xtr_sp (by decide) g5]
      exact List.mem_cons_self
    | 1, hw => cases hw
    | 2, hw => cases hw
    | 3, hw => cases hw
    | i + 4, hw => cases hw
  · intro v pc' la' H' locs' S' M' hrt hdec hKv hH'
    subst hKv
    refine va_forget (fun q hq => by rw [← gb]; exact hH'.2.1.2.2 q hq) ?_
    exact lw_ret hx hb hr hlocks hdec
set_option maxHeartbeats 4000000 in
theorem lw_walk (l : Launch) (hflags : l.flags = flags0) (b : Addr) (xs : List Int32) : MetFree l x (headSpec (Jvm.Cond.code x code maxLocals ret :: tables_1) room_1) (lw_P b xs) (fun _ _ _ _ _ => True) lw_Q := by
  refine MetFree.of_bodyS (code := code) (maxLocals := maxLocals) (ret := ret) (by decide) ?_ ?_
  · intro args s m h hn
    obtain ⟨meth, c, h1, h2, h3, h4, h5, h6, -, -⟩ := Cond.code_spec hn (atoms_spec (ws := Jvm.Cond.code x code maxLocals ret :: tables_1) h _ List.mem_cons_self)
    exact ⟨meth, c, h1, h2, h3, h4, h5, h6⟩
  · intro p e s m args below meth c s₁ B hml0 hP _
    obtain ⟨rfl, hx, hbd, hgv⟩ := hP
    obtain ⟨scr, harrAt, hlist, hof, hsmall⟩ := hx
    obtain ⟨hcb, hkn, -, -⟩ := State.arrayAt?_spec harrAt
    have hown : s.vm.findClass R_law = some m.cls := findClass_of_methodNamed B.named
    have hts0 : ∀ c ∈ (Jvm.Cond.code x code maxLocals ret :: tables_1), c.before #[Value.ref b] s = true := atoms_spec (ws := Jvm.Cond.code x code maxLocals ret :: tables_1) B.pre
    have hts : ∀ w ∈ lw_tbl, w.before #[Value.ref b] s = true := k2_hts_sels lw_privs (fun w hw => hts0 w (List.mem_cons_of_mem _ hw)) lw_privs_ok
    have hml : c.maxLocals = 4 := B.maxLocals_eq (hts0 _ List.mem_cons_self)
    have X₀ : Stand p l e room_1 s m #[Value.ref b] below meth c s₁ [] 0 0 := Stand.of_body B
    have hh0 : s₁.heap = s.heap := by rw [B.state]; rfl
    have hsz : scr.slots.size = xs.length := by rw [← Array.length_toList, hlist, List.length_map]
    have hval : ∀ j : Nat, j < xs.length → scr.slots[j]? = some (.int (xs.getD j 0)) := fun j hj => by
      rw [← Array.getElem?_toList, hlist]
      simp [hj]
    have hbl : b < s.heap.size := (Array.getElem?_eq_some_iff.mp hcb).1
    have hX : va_X b xs.length (fun j => xs.getD j 0) s s.heap := ⟨scr, hcb, hof, hkn, hsz, hval⟩
    have K : W p l e room_1 s m #[Value.ref b] below meth c s₁.heap [] 0 0 (lw_Z below #[Value.ref b] s) (entryFrame m ([Value.ref b] : List Value).toArray 4) := by
      rw [hh0]
      exact whole_start l hflags hbd ⟨B.exec, B.bytes, B.returns, hml, hown, hts, hX, hbl, B.notSynchronized, hgv⟩
    obtain ⟨t, a1, o, b1, b2, b3⟩ := K s₁ rfl X₀
    exact ⟨t, o, a1, b1, b2, b3⟩
theorem lw_pre_spec {args : Array Value} {s : State} (h : (Jvm.Cond.and given_1 narrow_1).before args s = true) (hr : rest_1_c.before args s = true) : ∃ (b : Addr) (xs : List Int32), lw_P b xs args s := by
  have hs := flat_of_before _ h
  have hq := flat_of_before _ hr
  have hc : (Cond.count 1).before args s = true := hs _ (by decide +kernel)
  have harr : (Cond.arrayOf (.arg 0) .int).before args s = true := hs _ (by decide +kernel)
  have hle : (Cond.le (.length (.arg 0)) (.int 3072)).before args s = true := hs _ (by decide +kernel)
  have hlen : (Cond.isInt (.length (.arg 0))).before args s = true := hq _ (by decide +kernel)
  have hall : (Cond.all (.arg 0) (.isInt (.elem (.arg 0) (.index 0)))).before args s = true := hq _ (by decide +kernel)
  obtain ⟨b, xs, hb, hx⟩ := State.ints_of_pre rfl harr hlen hall
  have hsm : xs.length < 2 ^ 31 := hx.choose_spec.2.2.2
  have hev : (Term.length (.arg 0)).eval args s none [] s = some (.int xs.length.toInt32) := hx.length_eval hb
  have hv := Cond.le_ints hev (show (Term.int 3072).eval args s none [] s = some (.int 3072) from rfl)
  have hd : xs.length.toInt32 ≤ 3072 := by
    simpa [Cond.before, Cond.holds, hv] using hle
  have hN : xs.length ≤ 3072 := (Int32.ofNat_le_ofNat hsm (by decide)).mp (show Int32.ofNat xs.length ≤ Int32.ofNat 3072 from hd)
  exact ⟨b, xs, Cond.one_arg hc (show args[0]? = some (.ref b) from hb), hx, hN, h⟩
theorem lw_comes (l : Launch) (hflags : l.flags = flags0) : Comes l x (Jvm.Cond.code x code maxLocals ret :: tables_1) room_1 (fun tb e args s => Calls_1 tb e args s ∧ rest_1 tb e args s ∧ Pre_1 tb e args s)
    (fun _ _ args s o t => lw_Q args s o t) := by
  intro p e ha hc hk s m args below hf hfit hheap happ hpre
  obtain ⟨b, xs, hP⟩ := lw_pre_spec hpre.2.2 hpre.2.1
  obtain ⟨k, o, h1, h2, h3, hQ⟩ := lw_walk l hflags b xs p e ha hc hk s m args below hf ((Spec.applies_iff_loose hf).mp happ).1 hP trivial
  exact ⟨k, o, h1, h2, h3, hQ⟩
theorem lw_frame {s t : State} {o : Outcome} {args : Array Value} (h : Framed s o t [] 600000 7302250) :
    Framed s o t (fieldLocs frame_1_writes args s ++ arrayLocs frame_1_arrays args s ++ staticLocs frame_1_statics s) 600000 7302250 := h
theorem lw_limb (L : Cond) (hL : ∀ (args : Array Value) (s t : State), L.after args s (.returned (some (.int 1))) t = true) :
    ArmFor flags0 classFile x code maxLocals ret World_1 tables_1 room_1 Calls_1 rest_1 Pre_1
      (fun tb e a s o t => postC L tb e a s o t ∧ Framed s o t (fieldLocs frame_1_writes a s ++ arrayLocs frame_1_arrays a s ++ staticLocs frame_1_statics s) 600000 7302250) := by
  intro l hflags _ _ p e ha hc hk s m args below hf hfit hheap happ hpre
  obtain ⟨k, o, h1, h2, h3, rfl, hF⟩ := lw_comes l hflags p e ha hc hk s m args below hf hfit hheap happ hpre
  exact ⟨k, _, h1, h2, h3, hL args s _, lw_frame hF⟩
theorem i_vc : Claimed_1_1 ∧ Claimed_1_2 := ⟨lw_limb limb_1_1 (fun args s t => by simp [limb_1_1, Cond.after, Cond.holds, Cond.value]), lw_limb limb_1_2 (fun args s t => Cond.after_iff.mpr (by
  first | (rw [show limb_1_2 = Cond.eq .result (.int 1) from rfl, Cond.eq_ints (x := 1) (y := 1) rfl rfl]; simp; done) | (simp [limb_1_2, Cond.value, Term.eval]; done)))⟩
