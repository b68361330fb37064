/-! A method's invocation, seen by the small machine -/
def zxc (x : Nat) : String := match x with
  | 0 => "java/lang/IllegalArgumentException"
  | 1 => "java/lang/UnsupportedOperationException"
  | 2 => "java/lang/IllegalStateException"
  | _ => "java/lang/IndexOutOfBoundsException"
abbrev zrm (fr lo mc : Nat) : Room := { frames := fr, cells := mc, slots := 6 * mc, locals := lo }
def ztys (ca : Nat → ClassId) : List (ClassId × FieldType) := [(ca 0, .int), (ca 1, .char), (ca 2, .boolean), (ca 3, .long)]
/-- pairs of exceptions of which the first is none of the second -/
def zNc : List (String × String) := [(zxc 1, zxc 0), (zxc 3, zxc 2), (zxc 1, zxc 2), (zxc 1, zxc 3)]
/-- a static field as the tables lay it -/
def zLs (C n d : String) (A : Nat → Prop) (U : State) (H : Heap) : Prop := ∃ (c : ClassId) (k : Class) (i : Nat) (f : Field) (a : Nat) (cell : Cell), U.vm.findClass C = some c ∧ U.fieldFound? C n d = some (c, k, i, f) ∧ f.isStatic = true ∧ k.statics = some a ∧ H[a]? = some cell ∧ cell.vm.isStatics = true ∧ cell.cls = c ∧ f.slot < cell.slots.size ∧ k.staticTypes[f.slot]? = some f.type ∧ ¬ A a
theorem zLs.moved {C n d : String} {A : Nat → Prop} {u U : State} {H : Heap} (hvm : u.vm.Alike U.vm) (h : zLs C n d A u H) : zLs C n d A U H := by
  obtain ⟨c, k, i, f, a, cell, h0, h1, h2, h3, h4, h5, h6, h7, h8, h9⟩ := h
  obtain ⟨k', hi', he⟩ := State.fieldFound?_setVm hvm h1
  exact ⟨c, k', i, f, a, cell, by rw [hvm.findClass]; exact h0, hi', h2, by rw [he]; exact h3, h4, h5, h6, h7, by rw [he]; exact h8, h9⟩
theorem zLs.kept {C n d : String} {A : Nat → Prop} {U : State} {H H1 : Heap} (h : zLs C n d A U H) (hq : ∀ a : Nat, a < H.size → ¬ A a → H1[a]? = H[a]?) : zLs C n d A U H1 := by
  obtain ⟨c, k, i, f, a, cell, h0, h1, h2, h3, h4, h5, h6, h7, h8, h9⟩ := h
  exact ⟨c, k, i, f, a, cell, h0, h1, h2, h3, by rw [hq a (Array.getElem?_eq_some_iff.mp h4).1 h9]; exact h4, h5, h6, h7, h8, h9⟩
theorem zLs.narrow {C n d : String} {A B : Nat → Prop} {U : State} {H : Heap} (h : zLs C n d A U H) (hAB : ∀ q, B q → A q) : zLs C n d B U H := by
  obtain ⟨c, k, i, f, a, cell, h0, h1, h2, h3, h4, h5, h6, h7, h8, h9⟩ := h
  exact ⟨c, k, i, f, a, cell, h0, h1, h2, h3, h4, h5, h6, h7, h8, fun z => h9 (hAB a z)⟩
theorem zLs.word {args : Array Value} {C n d : String} {A : Nat → Prop} {U : State} (h : zLs C n d A U U.heap) : (Cond.laysStatic C n d).before args U = true := by
  obtain ⟨c, k, i, f, a, cell, h0, h1, h2, h3, h4, h5, h6, h7, h8, h9⟩ := h
  exact Cond.laysStatic_of h0 h1 h2 h3 h4 h5 h6 h7 h8
theorem zLs.of {args : Array Value} {C n d : String} {A : Nat → Prop} {U : State} (h : (Cond.laysStatic C n d).before args U = true) (hA : ∀ a : Nat, a < U.heap.size → ¬ A a) : zLs C n d A U U.heap := by
  obtain ⟨c, k, i, f, a, cell, h0, h1, h2, h3, h4, h5, h6, h7, h8⟩ := Cond.laysStatic_spec h
  exact ⟨c, k, i, f, a, cell, h0, h1, h2, h3, h4, h5, h6, h7, h8, hA a (Array.getElem?_eq_some_iff.mp h4).1⟩
/-- what stays as it is while the world changes: nest mates' links, the table of the guesses, Throwable's two statics -/
def zEn (U : State) (H : Heap) (A : Nat → Prop) (t : Nat) : Prop := (∀ w ∈ zNst, va_Nw w U) ∧ va_Z "PathChecker" "GUESSES_WITH" "[I" (.ref t) A U H ∧ va_T .int t 5 zgw A U H ∧ va_Zq "java/lang/Throwable" "UNASSIGNED_STACK" "[Ljava/lang/StackTraceElement;" A U H ∧ va_Zq "java/lang/Throwable" "SUPPRESSED_SENTINEL" "Ljava/util/List;" A U H ∧ (∀ q ∈ zNc, va_Nc q.1 q.2 U) ∧ zLs "java/lang/Throwable" "UNASSIGNED_STACK" "[Ljava/lang/StackTraceElement;" A U H ∧ zLs "java/lang/Throwable" "SUPPRESSED_SENTINEL" "Ljava/util/List;" A U H
theorem zEn.narrow {U : State} {H : Heap} {A B : Nat → Prop} {t : Nat} (h : zEn U H A t) (hAB : ∀ q, B q → A q) : zEn U H B t := ⟨h.1, h.2.1.narrow hAB, h.2.2.1.narrow hAB, h.2.2.2.1.narrow hAB, h.2.2.2.2.1.narrow hAB, h.2.2.2.2.2.1, h.2.2.2.2.2.2.1.narrow hAB, h.2.2.2.2.2.2.2.narrow hAB⟩
theorem zEn.kept {U : State} {H H1 : Heap} {A : Nat → Prop} {t : Nat} (h : zEn U H A t) (hq : ∀ a : Nat, a < H.size → ¬ A a → H1[a]? = H[a]?) : zEn U H1 A t := ⟨h.1, h.2.1.kept hq, h.2.2.1.kept hq, h.2.2.2.1.kept hq, h.2.2.2.2.1.kept hq, h.2.2.2.2.2.1, h.2.2.2.2.2.2.1.kept hq, h.2.2.2.2.2.2.2.kept hq⟩
/-- the whole world in a state -/
def zW (D : va_G) (ad : Nat → Nat) (ca : Nat → ClassId) (σ : zS) (U : State) : Prop := va_P D vwCl (zws ad ca σ) U.heap ∧ va_K D vwCl (ztys ca) U ∧ va_D (fun _ => True) (zws ad ca σ) ∧ zEn U U.heap (va_A (zws ad ca σ) U.heap.size) (ad 999)
theorem zws_adr {ad : Nat → Nat} {ca : Nat → ClassId} {σ σ2 : zS} {k : Nat} {q : Nat} {e : va_E} (h : (zws ad ca σ)[k]? = some (q, e)) : ∃ e2, (zws ad ca σ2)[k]? = some (q, e2) := by
  by_cases hk : k < zN
  · rw [zws_at hk] at h
    cases h
    exact ⟨_, zws_at hk⟩
  · rw [List.getElem?_eq_none (by simp [zws]; omega)] at h
    cases h
theorem zA_eq {ad : Nat → Nat} {ca : Nat → ClassId} {σ σ2 : zS} {sz : Nat} {q : Nat} (h : va_A (zws ad ca σ) sz q) : va_A (zws ad ca σ2) sz q := by
  rcases h with ⟨k, e, h⟩ | h
  · obtain ⟨e2, h2⟩ := zws_adr (σ2 := σ2) h
    exact Or.inl ⟨k, e2, h2⟩
  · exact Or.inr h
theorem zD_eq {A : Nat → Prop} {ad : Nat → Nat} {ca : Nat → ClassId} {σ : zS} (h : va_D A (zws ad ca σ)) (σ2 : zS) : va_D A (zws ad ca σ2) := by
  refine ⟨fun i j p q hp hq hpq => ?_, fun k q hq => ?_⟩
  · obtain ⟨p1, p2⟩ := p
    obtain ⟨q1, q2⟩ := q
    obtain ⟨e1, h1⟩ := zws_adr (σ2 := σ) hp
    obtain ⟨e2, h2⟩ := zws_adr (σ2 := σ) hq
    exact h.1 i j _ _ h1 h2 hpq
  · obtain ⟨q1, q2⟩ := q
    obtain ⟨e1, h1⟩ := zws_adr (σ2 := σ) hq
    exact h.2 k (q1, e1) h1
theorem zA_none {D : va_G} {ad : Nat → Nat} {ca : Nat → ClassId} {σ : zS} {s : State} (hP : va_P D vwCl (zws ad ca σ) s.heap) : ∀ (q : Nat) (cell : Cell), va_A (zws ad ca σ) s.heap.size q → s.heap[q]? = some cell → cell.vm.isStatics = false := by
  intro q cell h hc
  rcases h with ⟨k, e, h⟩ | h
  · have h1 := hP k _ h
    cases e with
    | inl a =>
      have h2 : s.heap[q]? = some (vp_cell a.1 a.2) := h1
      rw [h2] at hc
      cases hc
      obtain ⟨a1, a2, a3⟩ := a
      rcases a3 with f | f | f | f | f <;> rfl
    | inr o =>
      obtain ⟨r, -, cell2, h3, -, h4, -⟩ := h1
      have h5 : s.heap[q]? = some cell2 := h3
      rw [h5] at hc
      cases hc
      rw [h4]
      rfl
  · have := (Array.getElem?_eq_some_iff.mp hc).1
    omega
def zFE (s t : State) (L : List Loc) (k n : Nat) : Prop := s.WarmedH t.vm ∧ s.sameButNew ({ t with vm := s.vm } : State) L k n
/-- an answer: nothing, or an int -/
def zRv (r : Option Value) : Prop := r = none ∨ ∃ v : Int32, r = some (.int v)
/-- how it may end -/
def zQc (D : va_G) (ad : Nat → Nat) (ca : Nat → ClassId) (A : Nat → Prop) (s : State) (po : Option Value → zS → Prop) (pt : Nat → zS → Prop) (o : Outcome) (t : State) : Prop :=
  va_F A s t ∧ ((∃ (r : Option Value) (σ2 : zS), o = .returned r ∧ zRv r ∧ po r σ2 ∧ va_P D vwCl (zws ad ca σ2) t.heap) ∨
    ∃ (x : Nat) (a : Addr) (cell : Cell) (σ2 : zS), o = .threw a ∧ pt x σ2 ∧ va_P D vwCl (zws ad ca σ2) t.heap ∧ s.heap.size ≤ a ∧ t.heap[a]? = some cell ∧ cell.vm = .none ∧ s.vm.findClass (zxc x) = some cell.cls)
def zQ (below : List Frame) (D : va_G) (ad : Nat → Nat) (ca : Nat → ClassId) (A : Nat → Prop) (s : State) (po : Option Value → zS → Prop) (pt : Nat → zS → Prop) (mc : Nat) : State → Prop := fun t =>
  ∃ o, t.status = .running ∧ Ended t below o ∧ zQc D ad ca A s po pt o t ∧ ∃ L, zFE s t L mc (6 * mc) ∧ ∀ q ∈ L, A q.base
def zR (own : String) (cc : ByteArray) (nL fr lo mc : Nat) (ex : List ExceptionTableEntry) (ret : Option FieldType) (po : Option Value → zS → Prop) (pt : Nat → zS → Prop) (Z : Nat → Nat → List (Option Value) → List Value → zS → Prop) : Prop :=
  ∃ (p : Program) (l : Launch) (e : Env) (R : Room) (s : State) (m : MethodId) (args : Array Value) (below : List Frame) (meth : Method) (c : Code) (D : va_G) (ad : Nat → Nat) (ca : Nat → ClassId) (A : Nat → Prop),
    p.tables.exec = Jvm.exec ∧ c.code = cc ∧ c.maxLocals = nL ∧ s.vm.findClass own = some m.cls ∧ (∀ w ∈ zwd, w.before args s = true) ∧ zEn s s.heap A (ad 999) ∧ va_K D vwCl (ztys ca) s ∧ (∀ σ, va_D A (zws ad ca σ)) ∧ (∀ q, s.heap.size ≤ q → A q) ∧
    meth.sig.returnType = ret ∧ meth.locks = false ∧ fr ≤ R.frames ∧ lo ≤ R.locals ∧ (mc ≤ R.cells ∧ 6 * mc ≤ R.slots) ∧ l.stackTraces = false ∧ c.exceptionTable.toList = ex ∧ (∀ (q : Nat) (cell : Cell), A q → s.heap[q]? = some cell → cell.vm.isStatics = false) ∧
    Z = fun k pc lv st σ => ∀ (ls : Array Slot) (H : Heap) (locs : List Loc), lv_has ls nL (zLv ad 0 lv) → va_P D vwCl (zws ad ca σ) H → va_S A s.heap H locs → W p l e R s m args below meth c H locs k (6 * k) (zQ below D ad ca A s po pt mc) (F0 m pc ls (st.map (zv ad)))
theorem W_mono {p : Program} {l : Launch} {e : Env} {R : Room} {s : State} {m : MethodId} {args : Array Value} {below : List Frame} {meth : Method} {c : Code} {H : Heap} {locs : List Loc} {cells slots : Nat} {Q Q2 : State → Prop} {g : JFrame} (h : ∀ t, Q t → Q2 t) (k : W p l e R s m args below meth c H locs cells slots Q g) : W p l e R s m args below meth c H locs cells slots Q2 g := by
  intro T hT X
  obtain ⟨t, a, b⟩ := k T hT X
  exact ⟨t, a, h t b⟩
section ZE
variable {own : String} {cc : ByteArray} {nL fr lo mc : Nat} {ex : List ExceptionTableEntry} {ret : Option FieldType} {po : Option Value → zS → Prop} {pt : Nat → zS → Prop} {Z : Nat → Nat → List (Option Value) → List Value → zS → Prop}
theorem z_zret (hR : zR own cc nL fr lo mc ex ret po pt Z) {k pc : Nat} {lv : List (Option Value)} {σ : zS} {v : Int32} {ty : FieldType} (d : decode cc pc = .ok (.ireturn, 1)) (hrt : ret = some ty) (hnr : narrow ty (.int v) = .int v) (hk : k ≤ mc) (h : po (some (.int v)) σ) : Z k pc lv [.int v] σ := by
  obtain ⟨p, l, e, R, s, m, args, below, meth, c, D, ad, ca, A, hx, hb, hml, hown, hts, hE, hK, hD, hA, hret, hlk, hfr, hlo, hmc, htr, hex, hAc, rfl⟩ := hR
  intro ls H locs hl hP hS
  refine W.widen (k := mc) (n := 6 * mc) hk (by omega) ?_
  refine W_mono (fun t ht => ?_) (W.zret (Qc := fun _ _ o t => zQc D ad ca A s po pt o t) (free := A) hx hb (hret.trans hrt) hnr (fun t ht hW => ⟨hS.F ht, Or.inl ⟨_, σ, rfl, Or.inr ⟨v, rfl⟩, h, by rw [ht]; exact hP⟩⟩) hS.2.2 d hlk)
  obtain ⟨o, h1, h2, h3, L, ⟨-, h4, h5⟩, h6⟩ := ht
  exact ⟨o, h1, h2, h3, L, ⟨h4, h5⟩, h6⟩
theorem z_vret (hR : zR own cc nL fr lo mc ex ret po pt Z) {k pc : Nat} {lv : List (Option Value)} {σ : zS} (d : decode cc pc = .ok (.return_, 1)) (hrt : ret = none) (hk : k ≤ mc) (h : po none σ) : Z k pc lv [] σ := by
  obtain ⟨p, l, e, R, s, m, args, below, meth, c, D, ad, ca, A, hx, hb, hml, hown, hts, hE, hK, hD, hA, hret, hlk, hfr, hlo, hmc, htr, hex, hAc, rfl⟩ := hR
  intro ls H locs hl hP hS
  refine W.widen (k := mc) (n := 6 * mc) hk (by omega) ?_
  refine W_mono (fun t ht => ?_) (W.vret (Qc := fun _ _ o t => zQc D ad ca A s po pt o t) (free := A) hx hb (hret.trans hrt) (fun t ht hW => ⟨hS.F ht, Or.inl ⟨_, σ, rfl, Or.inl rfl, h, by rw [ht]; exact hP⟩⟩) hS.2.2 d hlk)
  obtain ⟨o, h1, h2, h3, L, ⟨-, h4, h5⟩, h6⟩ := ht
  exact ⟨o, h1, h2, h3, L, ⟨h4, h5⟩, h6⟩
end ZE
/-- a contract: with these arguments, from these numbers -/
def zM (y : MethodName) (cc : ByteArray) (nL : Nat) (ret : Option FieldType) (fr lo mc : Nat) (av : List Value) (σ : zS) (po : Option Value → zS → Prop) (pt : Nat → zS → Prop) : Prop :=
  ∀ (l : Launch), l.stackTraces = false → ∀ (D : va_G) (ad : Nat → Nat) (ca : Nat → ClassId) (sz : Nat), MetFree l y (headSpec (.code y cc nL ret :: zwd) (zrm fr lo mc)) (va_Pc (av.map (zv ad)) (fun U => U.heap.size = sz ∧ zW D ad ca σ U)) (fun _ _ _ _ _ => True)
    (fun _ st o t => zQc D ad ca (va_A (zws ad ca σ) sz) st po pt o t ∧ ∃ L, zFE st t L mc (6 * mc) ∧ ∀ q ∈ L, va_A (zws ad ca σ) sz q.base)
def zarg : List Value → List (Option Value)
  | [] => []
  | .long x :: t => some (.long x) :: none :: zarg t
  | .double x :: t => some (.double x) :: none :: zarg t
  | v :: t => some v :: zarg t
theorem zarg_in (ad : Nat → Nat) : ∀ (av : List Value) (j n : Nat), ∀ q ∈ zLv ad j (zarg av ++ List.replicate n none), q ∈ lv_args j (av.map (zv ad)) := by
  have rep : ∀ (n j : Nat) (q : Nat × Value), q ∈ zLv ad j (List.replicate n none) → False := by
    intro n
    induction n with
    | zero => intro j q h; cases h
    | succ n ih =>
      intro j q h
      rw [List.replicate_succ] at h
      exact ih (j + 1) q h
  intro av
  induction av with
  | nil =>
    intro j n q h
    exact (rep n j q h).elim
  | cons v t ih =>
    intro j n q h
    have one : ∀ (w : Value), w.category = 1 → q ∈ (j, zv ad w) :: zLv ad (j + 1) (zarg t ++ List.replicate n none) → q ∈ lv_args j ((w :: t).map (zv ad)) := by
      intro w hw h1
      rcases List.mem_cons.mp h1 with h2 | h2
      · rw [h2]
        exact List.mem_cons_self
      · refine List.mem_cons_of_mem _ ?_
        rw [if_neg (by rw [zv_cat, hw]; decide)]
        exact ih (j + 1) n q h2
    have two : ∀ (w : Value), w.category = 2 → q ∈ (j, zv ad w) :: zLv ad (j + 1 + 1) (zarg t ++ List.replicate n none) → q ∈ lv_args j ((w :: t).map (zv ad)) := by
      intro w hw h1
      rcases List.mem_cons.mp h1 with h2 | h2
      · rw [h2]
        exact List.mem_cons_self
      · refine List.mem_cons_of_mem _ ?_
        rw [if_pos (by rw [zv_cat, hw])]
        exact ih (j + 2) n q h2
    cases v with
    | long x => exact two (.long x) rfl h
    | double x => exact two (.double x) rfl h
    | int x => exact one (.int x) rfl h
    | float x => exact one (.float x) rfl h
    | null => exact one .null rfl h
    | ref x => exact one (.ref x) rfl h
    | retAddr x => exact one (.retAddr x) rfl h
theorem zM.of {y : MethodName} {cc : ByteArray} {nL : Nat} {ret : Option FieldType} {fr lo mc : Nat} {av : List Value} {σ : zS} {po : Option Value → zS → Prop} {pt : Nat → zS → Prop} (lv : List (Option Value)) (hy : plainName y.cls = true) (n : Nat) (hlv : zarg av ++ List.replicate n none = lv) (hlen : ∀ ad : Nat → Nat, (lg_sl (av.map (zv ad))).length ≤ nL)
    (h : ∀ Z, zR y.cls cc nL fr lo mc [] ret po pt Z → Z 0 0 lv [] σ) : zM y cc nL ret fr lo mc av σ po pt := by
  intro l htr D ad ca sz
  refine MetFree.of_bodyS (code := cc) (maxLocals := nL) (ret := ret) hy ?_ ?_
  · intro args s m h1 hn
    obtain ⟨meth, c, h1, h2, h3, h4, h5, h6, -, -⟩ := Cond.code_spec hn (atoms_spec (ws := .code y cc nL ret :: zwd) h1 _ List.mem_cons_self)
    exact ⟨meth, c, h1, h2, h3, h4, h5, h6⟩
  · intro p e s m args below meth c s₁ B hml hv _
    obtain ⟨rfl, hsz, hP, hK, hD, hE⟩ := hv
    subst hsz
    have hts := atoms_spec (ws := .code y cc nL ret :: zwd) B.pre
    have hh0 : s₁.heap = s.heap := by rw [B.state]; rfl
    have hl := lv_entry (av.map (zv ad)) (n := nL) (hlen ad)
    have hex : c.exceptionTable.toList = [] := by
      have h9 := B.noHandlers (hts _ List.mem_cons_self)
      have h0 : c.exceptionTable.size = 0 := by simpa [Array.isEmpty] using h9
      exact List.eq_nil_of_length_eq_zero (by simpa using h0)
    obtain ⟨t, a1, o, b1, b2, b3, b4⟩ := h _ ⟨p, l, e, (headSpec (.code y cc nL ret :: zwd) (zrm fr lo mc)).room, s, m, _, below, meth, c, D, ad, ca, va_A (zws ad ca σ) s.heap.size, B.exec, B.bytes, hml, findClass_of_methodNamed B.named, fun w hw => hts w (List.mem_cons_of_mem _ hw), hE, hK, fun σ2 => zD_eq (hD.self (sz := s.heap.size)) σ2, fun q hq => Or.inr hq, B.returns, B.notSynchronized, Nat.le_refl _, Nat.le_refl _, ⟨Nat.le_refl _, Nat.le_refl _⟩, htr, hex, zA_none hP, rfl⟩
      _ s.heap [] ⟨hl.1, hl.2.1, fun q hq => hl.2.2 q (zarg_in ad av 0 n q (by rw [hlv]; exact hq))⟩ hP va_S.rf s₁ hh0 (Stand.of_body B)
    rw [lg_entry_eq]
    exact ⟨t, o, a1, b1, b2, b3, b4⟩
/-! Calls -/
theorem zNst_on (w : Cond) (hw : w ∈ zNst) : w.onTables = true := by
  have h1 := zNst_is w hw
  cases w <;> first | rfl | cases h1
theorem zEn.warm {s U : State} {H : Heap} {A : Nat → Prop} {t : Nat} (hW : s.WarmedH U.vm) (h : zEn s H A t) : zEn U H A t := by
  refine ⟨fun w hw => ?_, h.2.1.moved hW.alike, h.2.2.1.moved hW.alike, h.2.2.2.1.moved hW.alike, h.2.2.2.2.1.moved hW.alike, fun q hq => (h.2.2.2.2.2.1 q hq).moved hW.alike, h.2.2.2.2.2.2.1.moved hW.alike, h.2.2.2.2.2.2.2.moved hW.alike⟩
  have h1 := zNst_is w hw
  have h2 := h.1 w hw
  cases w with
  | fieldLinkNest a i b n d h => exact va_Nw.warmF hW h2
  | methodLinkNest a i x h => exact va_Nw.warmM hW h2
  | declares x => exact va_Nw.warmD hW h2
  | castable a b => exact va_Nw.warmC hW h2
  | _ => cases h1
theorem zEn.same {u U : State} {H : Heap} {A : Nat → Prop} {t : Nat} (hv : u.vm = U.vm) (h : zEn u H A t) : zEn U H A t := by
  have ha : u.vm.Alike U.vm := hv ▸ Vm.Alike.refl u.vm
  refine ⟨fun w hw => ?_, h.2.1.moved ha, h.2.2.1.moved ha, h.2.2.2.1.moved ha, h.2.2.2.2.1.moved ha, fun q hq => (h.2.2.2.2.2.1 q hq).moved ha, h.2.2.2.2.2.2.1.moved ha, h.2.2.2.2.2.2.2.moved ha⟩
  have h1 := zNst_is w hw
  have h2 := h.1 w hw
  cases w with
  | fieldLinkNest a i b n d h => exact va_Nw.same rfl hv h2
  | methodLinkNest a i x h => exact va_Nw.same rfl hv h2
  | declares x => exact va_Nw.same rfl hv h2
  | castable a b => exact va_Nw.same rfl hv h2
  | _ => cases h1
theorem zW.blind {av : List Value} {D : va_G} {ad : Nat → Nat} {ca : Nat → ClassId} {σ : zS} {sz : Nat} : FrameBlind (va_Pc av (fun U => U.heap.size = sz ∧ zW D ad ca σ U)) := by
  intro a U g mk h
  obtain ⟨h0, h1, h2, h3, h4, h5⟩ := h
  exact ⟨h0, h1, h2, va_K.moved (u := U) (U := U.calling g mk a) (Vm.Alike.refl U.vm) h3, h4, zEn.same (u := U) (U := U.calling g mk a) rfl h5⟩
theorem zM.met {y : MethodName} {cc : ByteArray} {nL : Nat} {ret : Option FieldType} {fr lo mc : Nat} {av : List Value} {σ : zS} {po : Option Value → zS → Prop} (h : zM y cc nL ret fr lo mc av σ po (fun _ _ => False)) {l : Launch} (htr : l.stackTraces = false) (D : va_G) (ad : Nat → Nat) (ca : Nat → ClassId) (sz : Nat) :
    Met l y (.code y cc nL ret :: zwd) (zrm fr lo mc) (va_Pc (av.map (zv ad)) (fun U => U.heap.size = sz ∧ zW D ad ca σ U)) (fun _ st o t => zQc D ad ca (va_A (zws ad ca σ) sz) st po (fun _ _ => False) o t) mc (6 * mc) (va_A (zws ad ca σ) sz) := by
  intro p e ha hc hk s m args below hf happ hP hK
  obtain ⟨n, o, h1, h2, h3, h4, L, h5, h6⟩ := h l htr D ad ca sz p e ha hc hk s m args below hf happ hP hK
  refine ⟨n, o, h1, h2, h3, h4, L, ⟨?_, h5.1, h5.2⟩, h6⟩
  rcases h4.2 with ⟨r, σ2, e1, -⟩ | ⟨x, a, cell, σ2, -, hf, -⟩
  · exact ⟨r, e1⟩
  · exact hf.elim
section ZC
variable {p : Program} {l : Launch} {e : Env} {R : Room} {s : State} {m : MethodId} {args : Array Value} {below : List Frame} {meth : Method} {c : Code} {H : Heap} {locs : List Loc} {Q : State → Prop} {D : va_G} {ad : Nat → Nat} {ca : Nat → ClassId} {A : Nat → Prop}
theorem zA_sub {σ : zS} (hD : va_D A (zws ad ca σ)) (hA : ∀ q, s.heap.size ≤ q → A q) (hS : va_S A s.heap H locs) : ∀ q, va_A (zws ad ca σ) H.size q → A q := by
  intro q h
  rcases h with ⟨k, e, h⟩ | h
  · exact hD.2 k _ h
  · exact hA q (Nat.le_trans hS.1 h)
theorem zW_at {σ : zS} {U : State} (hE : zEn s s.heap A (ad 999)) (hK : va_K D vwCl (ztys ca) s) (hD : va_D A (zws ad ca σ)) (hA : ∀ q, s.heap.size ≤ q → A q) (hP : va_P D vwCl (zws ad ca σ) H) (hS : va_S A s.heap H locs) (hU : U.heap = H) (hW : s.WarmedH U.vm) : zW D ad ca σ U := by
  refine ⟨by rw [hU]; exact hP, va_K.moved hW.alike hK, hD.weaken (fun _ _ _ _ => trivial), ?_⟩
  rw [hU]
  exact ((hE.kept (fun a h1 h2 => hS.2.1 a h1 h2)).warm hW).narrow (zA_sub hD hA hS)
theorem z_run {σ : zS} {k pc nL : Nat} {ls : Array Slot} {lv : List (Option Value)} {st0 : List Value} {st : List Value} {po2 : Option Value → zS → Prop} (hD : va_D A (zws ad ca σ)) (hA : ∀ q, s.heap.size ≤ q → A q) (hS : va_S A s.heap H locs) (hl : lv_has ls nL (zLv ad 0 lv))
    (hr : va_Run p l e R s m args below meth c H locs k (6 * k) 0 0 (F0 m pc ls st0) (st.map (zv ad)) (fun st o t => zQc D ad ca (va_A (zws ad ca σ) H.size) st po2 (fun _ _ => False) o t) (va_A (zws ad ca σ) H.size))
    (kk : ∀ r σ2, po2 r σ2 → ∀ (ls : Array Slot) (H : Heap) (locs : List Loc), lv_has ls nL (zLv ad 0 lv) → va_P D vwCl (zws ad ca σ2) H → va_S A s.heap H locs → W p l e R s m args below meth c H locs k (6 * k) Q (F0 m (pc + 3) ls ((r.toList ++ st).map (zv ad)))) : W p l e R s m args below meth c H locs k (6 * k) Q (F0 m pc ls st0) := by
  intro T hT X
  obtain ⟨v, st₀, t, T', L, h0, X', hL, e1, e2, hq, stp⟩ := hr T hT X
  obtain ⟨hF, hq⟩ := hq
  rcases hq with ⟨r, σ2, hr, hrv, hpo, hP2⟩ | ⟨x, a, cell, σ2, -, hf, -⟩
  · cases hr
    have hsub := zA_sub hD hA hS
    have hz : H.size ≤ t.heap.size := by have := hF.1; rw [h0] at this; exact this
    have hS2 : va_S A s.heap T'.heap (locs ++ L) := by
      refine ⟨Nat.le_trans hS.1 (by rw [e1]; exact hz), fun q h1 h2 => ?_, fun q hq => ?_⟩
      · have h3 := hF.2 q (by rw [h0]; exact Nat.lt_of_lt_of_le h1 hS.1) (fun z => h2 (hsub q z))
        rw [e1, h3, h0]
        exact hS.2.1 q h1 h2
      · rcases List.mem_append.mp hq with h | h
        · exact hS.2.2 q h
        · exact hsub _ (hL q h)
    obtain ⟨t2, a1, b1⟩ := kk v σ2 hpo ls T'.heap (locs ++ L) hl (by rw [e1]; exact hP2) hS2 T' rfl X'
    refine ⟨t2, stp t2 ?_, b1⟩
    have e3 : (v.toList ++ st).map (zv ad) = v.toList ++ st.map (zv ad) := by
      rcases hrv with rfl | ⟨q, rfl⟩
      · rfl
      · rfl
    rw [e3] at a1
    exact a1
  · exact hf.elim
end ZC
/-- what the tables say of a call -/
def zCo (y : MethodName) (n : Nat) : Prop := Cond.initialized y.cls ∈ zwd ∧ (y.cls ≠ "java/lang/invoke/MethodHandle" ∧ y.cls ≠ "java/lang/invoke/VarHandle" ∧ (parseMethodDescriptor y.desc).map (fun d => d.parameters.length) = some n)
def zCV (own : String) (i : Nat) (y : MethodName) (n : Nat) : Prop := zCo y n ∧ Cond.instanceMethod y ∈ zwd ∧ Cond.selects y.cls y y ∈ zwd ∧ (Cond.methodLink own i y ∈ zwd ∨ ∃ host, Cond.methodLinkNest own i y host ∈ zNst)
def zCS (own : String) (i : Nat) (y : MethodName) (n : Nat) : Prop := zCo y n ∧ Cond.static y ∈ zwd ∧ (Cond.methodLink own i y ∈ zwd ∨ ∃ host, Cond.methodLinkNest own i y host ∈ zNst)
theorem zGoodIn {y : MethodName} {cc : ByteArray} {nL : Nat} {ret : Option FieldType} (h : Cond.code y cc nL ret ∈ zwd) : GoodIn zwd (.code y cc nL ret :: zwd) := by
  intro w hw
  have h1 : w ∈ zwd := by
    rcases List.mem_cons.mp hw with rfl | h2
    · exact h
    · exact h2
  exact ⟨h1, zgood w h1⟩
section ZD
variable {own : String} {cc : ByteArray} {nL fr lo mc : Nat} {ex : List ExceptionTableEntry} {ret : Option FieldType} {po : Option Value → zS → Prop} {pt : Nat → zS → Prop} {Z : Nat → Nat → List (Option Value) → List Value → zS → Prop}
theorem z_callV (hR : zR own cc nL fr lo mc ex ret po pt Z) {k pc n i o ci N nLY frY loY : Nat} {lv : List (Option Value)} {st : List Value} {σ : zS} {y : MethodName} {ccY : ByteArray} {retY : Option FieldType} {T : u_T} {rs : List (Option Nat)} {av : List Value} {po2 : Option Value → zS → Prop}
    (d : decode cc pc = .ok (.invokevirtual i, 3)) (hn : pc + 3 = n) (hC : zCV own i y av.length) (hcd : Cond.code y ccY nLY retY ∈ zwd) (hf : frY + 1 ≤ fr ∧ 8 + (nLY + 11) + loY ≤ lo) (hw : (st.map fun v => v.category).sum ≤ 8) (ho : o < zN) (hs : zsh o = .inr (ci, rs)) (hcl : vwCl[ci]? = some (y.cls, T, N)) (hk : k ≤ mc)
    (hM : zM y ccY nLY retY frY loY 0 (.ref o :: av) σ po2 (fun _ _ => False)) (kk : ∀ r σ2, po2 r σ2 → Z k n lv (r.toList ++ st) σ2) : Z k pc lv (av.reverse ++ .ref o :: st) σ := by
  obtain ⟨p, l, e, R, s, m, args, below, meth, c, D, ad, ca, A, hx, hb, hml, hown, hts, hE, hK, hD, hA, hret, hlk, hfr, hlo, hmc, htr, hex, hAc, rfl⟩ := hR
  intro ls H locs hl hP hS
  subst hn
  have est : (av.reverse ++ .ref o :: st).map (zv ad) = (av.map (zv ad)).reverse ++ .ref (ad o) :: st.map (zv ad) := by simp [zv]
  have hw2 : ((st.map (zv ad)).map fun v => v.category).sum ≤ 8 := by
    rw [List.map_map]
    have e9 : ((fun v : Value => v.category) ∘ zv ad) = fun v => v.category := funext fun v => zv_cat ad v
    rw [e9]
    exact hw
  obtain ⟨⟨hini, hd⟩, hin, hse, hlink⟩ := hC
  have pv : PreV s H y.cls (ad o) (va_Pc ((.ref o :: av).map (zv ad)) (fun U => U.heap.size = H.size ∧ zW D ad ca σ U)) (av.map (zv ad)) :=
    ⟨zW.blind, va_recv hK hP hcl (zws_obj ho hs), fun U hU hW => ⟨rfl, by rw [hU], zW_at hE hK (hD σ) hA hP hS hU hW⟩⟩
  have hfr2 : frY + 1 ≤ R.frames ∧ 8 + (nLY + 11) + loY ≤ R.locals := ⟨by omega, by omega⟩
  rw [est]
  refine z_run (hD σ) hA hS hl ?_ (fun r σ2 h2 => kk r σ2 h2)
  rcases hlink with hlink | ⟨host, hlink⟩
  · exact va_runV (As := av.map (zv ad)) (rest := st.map (zv ad)) (C := y.cls) (n := av.length) ⟨hx, hb, hml, hown, hts⟩ (hM.met htr D ad ca H.size) ⟨callB_of av.length hts (zGoodIn hcd) rfl rfl rfl (hts _ hini) (hts _ hlink) hd hfr2, hts _ hin, hts _ hse⟩ pv rfl (by simp) hl.1 rfl (by show 2 * 0 + _ ≤ 8; omega) d ⟨by omega, by omega⟩
  · exact va_runVN (As := av.map (zv ad)) (rest := st.map (zv ad)) (C := y.cls) (n := av.length) ⟨hx, hb, hml, hown, hts⟩ (hM.met htr D ad ca H.size) ⟨va_cnB av.length hts (zGoodIn hcd) rfl rfl rfl (hE.1 _ hlink) (hts _ hini) hd hfr2, hts _ hin, hts _ hse⟩ pv rfl (by simp) hl.1 rfl (by show 2 * 0 + _ ≤ 8; omega) d ⟨by omega, by omega⟩
theorem z_callS (hR : zR own cc nL fr lo mc ex ret po pt Z) {k pc n i nLY frY loY : Nat} {lv : List (Option Value)} {st : List Value} {σ : zS} {y : MethodName} {ccY : ByteArray} {retY : Option FieldType} {av : List Value} {po2 : Option Value → zS → Prop}
    (d : decode cc pc = .ok (.invokestatic i, 3)) (hn : pc + 3 = n) (hC : zCS own i y av.length) (hcd : Cond.code y ccY nLY retY ∈ zwd) (hf : frY + 1 ≤ fr ∧ 8 + (nLY + 11) + loY ≤ lo) (hw : (st.map fun v => v.category).sum ≤ 8) (hk : k ≤ mc)
    (hM : zM y ccY nLY retY frY loY 0 av σ po2 (fun _ _ => False)) (kk : ∀ r σ2, po2 r σ2 → Z k n lv (r.toList ++ st) σ2) : Z k pc lv (av.reverse ++ st) σ := by
  obtain ⟨p, l, e, R, s, m, args, below, meth, c, D, ad, ca, A, hx, hb, hml, hown, hts, hE, hK, hD, hA, hret, hlk, hfr, hlo, hmc, htr, hex, hAc, rfl⟩ := hR
  intro ls H locs hl hP hS
  subst hn
  have est : (av.reverse ++ st).map (zv ad) = (av.map (zv ad)).reverse ++ st.map (zv ad) := by simp
  have hw2 : ((st.map (zv ad)).map fun v => v.category).sum ≤ 8 := by
    rw [List.map_map]
    have e9 : ((fun v : Value => v.category) ∘ zv ad) = fun v => v.category := funext fun v => zv_cat ad v
    rw [e9]
    exact hw
  obtain ⟨⟨hini, hd⟩, hst, hlink⟩ := hC
  have pv : PreS s H (va_Pc (av.map (zv ad)) (fun U => U.heap.size = H.size ∧ zW D ad ca σ U)) (av.map (zv ad)) :=
    ⟨zW.blind, fun U hU hW => ⟨rfl, by rw [hU], zW_at hE hK (hD σ) hA hP hS hU hW⟩⟩
  have hfr2 : frY + 1 ≤ R.frames ∧ 8 + (nLY + 11) + loY ≤ R.locals := ⟨by omega, by omega⟩
  rw [est]
  refine z_run (hD σ) hA hS hl ?_ (fun r σ2 h2 => kk r σ2 h2)
  rcases hlink with hlink | ⟨host, hlink⟩
  · exact va_runS (As := av.map (zv ad)) (rest := st.map (zv ad)) (n := av.length) ⟨hx, hb, hml, hown, hts⟩ (hM.met htr D ad ca H.size) ⟨callB_of av.length hts (zGoodIn hcd) rfl rfl rfl (hts _ hini) (hts _ hlink) hd hfr2, hts _ hst⟩ pv rfl (by simp) hl.1 rfl (by show 2 * 0 + _ ≤ 8; omega) d ⟨by omega, by omega⟩
  · exact va_runSN (As := av.map (zv ad)) (rest := st.map (zv ad)) (n := av.length) ⟨hx, hb, hml, hown, hts⟩ (hM.met htr D ad ca H.size) ⟨va_cnB av.length hts (zGoodIn hcd) rfl rfl rfl (hE.1 _ hlink) (hts _ hini) hd hfr2, hts _ hst, trivial⟩ pv rfl (by simp) hl.1 rfl (by show 2 * 0 + _ ≤ 8; omega) d ⟨by omega, by omega⟩
end ZD
/-! Fields -/
def zLk (own : String) (i : Nat) (q : String × String × String × Bool) : Prop := Cond.fieldLink own i q.1 q.2.1 q.2.2.1 ∈ zwd ∨ ∃ host, Cond.fieldLinkNest own i q.1 q.2.1 q.2.2.1 host ∈ zNst
def zG (own : String) (i ci j : Nat) : Prop := ∃ (C : String) (T : u_T) (N : Nat), vwCl[ci]? = some (C, T, N) ∧ j < N ∧ (∀ w ∈ u_ws C T N, w ∈ zwd) ∧ zLk own i (T j)
def zPt (own : String) (i ci j : Nat) (ty : FieldType) : Prop := ∃ (C : String) (T : u_T) (N : Nat) (ty0 : Nat → FieldType), vwCl[ci]? = some (C, T, N) ∧ j < N ∧ (∀ w ∈ u_ws C T N, w ∈ zwd) ∧ zLk own i (T j) ∧
  (∀ k, k < N → parseFieldDescriptor (T k).2.2.1 = some (ty0 k)) ∧ (∀ a, a < N → ∀ b, b < N → a ≠ b → (T a).2.1 ≠ (T b).2.1) ∧ (T j).2.2.2 = false ∧ parseFieldDescriptor (T j).2.2.1 = some ty
section ZG
variable {p : Program} {l : Launch} {e : Env} {R : Room} {s : State} {m : MethodId} {args : Array Value} {below : List Frame} {meth : Method} {c : Code} {H : Heap} {locs : List Loc} {cells slots : Nat} {Q : State → Prop} {D : va_G} {ad : Nat → Nat} {ca : Nat → ClassId} {A : Nat → Prop} {cc : ByteArray} {own : String} {pc : Nat} {ls : Array Slot} {rest : List Value} {σ : zS} {t0 : Nat}
theorem zG_get (hx : p.tables.exec = Jvm.exec) (hb : c.code = cc) (hts : ∀ w ∈ zwd, w.before args s = true) (hE : zEn s s.heap A t0) (hown : s.vm.findClass own = some m.cls) (hK : va_K D vwCl (ztys ca) s) (hP : va_P D vwCl (zws ad ca σ) H) {i ci j o a : Nat} (hG : zG own i ci j) {fs : List Value} {v : Value} (he : (zws ad ca σ)[o]? = some (a, .inr (ci, fs))) (hv : fs[j]? = some v) (d : decode cc pc = .ok (.getfield i, 3))
    (kk : W p l e R s m args below meth c H locs cells slots Q (F0 m (pc + 3) ls (v :: rest))) : W p l e R s m args below meth c H locs cells slots Q (F0 m pc ls (.ref a :: rest)) := by
  obtain ⟨C, T, N, hc, hj, hin, hl⟩ := hG
  rcases hl with hl | ⟨host, hl⟩
  · exact va_get hx hb hts hin hown hK hP o he hc j hj (hts _ hl) (fun _ h => h) hv d kk
  · exact va_getN hx hb hts hin hown hK hP o he hc j hj (va_Nw.use rfl (hE.1 _ hl)) (fun _ h => h) hv d kk
theorem zPt_put (hx : p.tables.exec = Jvm.exec) (hb : c.code = cc) (hts : ∀ w ∈ zwd, w.before args s = true) (hE : zEn s s.heap A t0) (hown : s.vm.findClass own = some m.cls) (hK : va_K D vwCl (ztys ca) s) (hP : va_P D vwCl (zws ad ca σ) H) (hD : va_D A (zws ad ca σ)) (hS : va_S A s.heap H locs) {i ci j o : Nat} {ty : FieldType} {rs : List (Option Nat)} {x : Int32} (hG : zPt own i ci j ty) (ho : o < zN) (hs : zsh o = .inr (ci, rs)) (hj : rs[j]? = some none)
    (hn : narrow ty (.int x) = .int x) (hfit : fits ty (.int x) = true) (d : decode cc pc = .ok (.putfield i, 3))
    (kk : ∀ (H1 : Heap) (locs1 : List Loc), va_P D vwCl (zws ad ca (zwA σ o j x)) H1 → va_S A s.heap H1 locs1 → W p l e R s m args below meth c H1 locs1 cells slots Q (F0 m (pc + 3) ls rest)) : W p l e R s m args below meth c H locs cells slots Q (F0 m pc ls (.int x :: .ref (ad o) :: rest)) := by
  obtain ⟨C, T, N, ty0, hc, hjN, hin, hl, hty, hnm, hfin, hd⟩ := hG
  have hlen : j < (zfs ad (σ.1 o) 0 rs).length := by
    rw [zfs_len]
    exact (List.getElem?_eq_some_iff.mp hj).1
  have fin : ∀ (H1 : Heap) (locs1 : List Loc), va_P D vwCl ((zws ad ca σ).set o (ad o, .inr (ci, (zfs ad (σ.1 o) 0 rs).set j (.int x)))) H1 → va_D A ((zws ad ca σ).set o (ad o, .inr (ci, (zfs ad (σ.1 o) 0 rs).set j (.int x)))) → va_S A s.heap H1 locs1 → W p l e R s m args below meth c H1 locs1 cells slots Q (F0 m (pc + 3) ls rest) := by
    intro H1 locs1 h1 _ h3
    rw [zws_setF ho hs hj] at h1
    exact kk H1 locs1 h1 h3
  rcases hl with hl | ⟨host, hl⟩
  · exact va_put hx hb hts hin ty0 hty hnm hown hK hP hD hS o (zws_obj ho hs) hc j hjN (hts _ hl) (fun _ h => h) hfin hd hn hfit hlen d fin
  · exact va_putN hx hb hts hin ty0 hty hnm hown hK hP hD hS o (zws_obj ho hs) hc j hjN (va_Nw.use rfl (hE.1 _ hl)) (fun _ h => h) hfin hd hn hfit hlen d fin
end ZG
