/-! HOW THE WORLD IS MADE: constructors. A world under construction: cells by place, arrays of zeros, objects with their fields. -/
abbrev yE : Type := (Nat × Nat) ⊕ (Nat × List Value)
abbrev yW : Type := List (Nat × yE)
def ycell (ad : Nat → Nat) (ca : Nat → ClassId) (e : yE) : va_E := match e with
  | .inl q => if q.1 = 3 then .inl (ca q.1, q.2, .inr (.inl (fun _ => 0))) else .inl (ca q.1, q.2, .inl (fun _ => 0))
  | .inr q => .inr (q.1, q.2.map (zv ad))
def yws (ad : Nat → Nat) (ca : Nat → ClassId) (w : yW) : va_W := w.map (fun q => (ad q.1, ycell ad ca q.2))
def yrefs (v : Value) : List Nat := match v with
  | .ref a => [a]
  | _ => []
def ycr (e : yE) : List Nat := match e with
  | .inl _ => []
  | .inr r => r.2.flatMap yrefs
/-- the places that are named -/
def yall (lv : List (Option Value)) (st : List Value) (w : yW) : List Nat := lv.flatMap (fun q => match q with | some v => yrefs v | none => []) ++ (st.flatMap yrefs ++ w.flatMap (fun q => q.1 :: ycr q.2))
theorem zv_same {ad ad2 : Nat → Nat} {v : Value} (h : ∀ a ∈ yrefs v, ad2 a = ad a) : zv ad2 v = zv ad v := by
  cases v with
  | ref a =>
    show Value.ref _ = Value.ref _
    rw [h a List.mem_cons_self]
  | _ => rfl
theorem zvs_same {ad ad2 : Nat → Nat} : ∀ {st : List Value}, (∀ a ∈ st.flatMap yrefs, ad2 a = ad a) → st.map (zv ad2) = st.map (zv ad)
  | [], _ => rfl
  | v :: t, h => by
    rw [List.map_cons, List.map_cons, zv_same (fun a ha => h a (by simp [ha])), zvs_same (fun a ha => h a (by
      rw [List.flatMap_cons]
      exact List.mem_append_right _ ha))]
theorem zLv_same {ad ad2 : Nat → Nat} : ∀ (lv : List (Option Value)) (i : Nat), (∀ a ∈ lv.flatMap (fun q => match q with | some v => yrefs v | none => []), ad2 a = ad a) → zLv ad2 i lv = zLv ad i lv
  | [], _, _ => rfl
  | none :: t, i, h => zLv_same t (i + 1) (fun a ha => h a (by rw [List.flatMap_cons]; exact List.mem_append_right _ ha))
  | some v :: t, i, h => by
    have h1 := zLv_same (ad := ad) (ad2 := ad2) t (i + 1) (fun a ha => h a (by rw [List.flatMap_cons]; exact List.mem_append_right _ ha))
    have h2 : zv ad2 v = zv ad v := zv_same (fun a ha => h a (by rw [List.flatMap_cons]; exact List.mem_append_left _ ha))
    simp only [zLv, h1, h2]
theorem yws_same {ad ad2 : Nat → Nat} {ca : Nat → ClassId} : ∀ {w : yW}, (∀ a ∈ w.flatMap (fun q => q.1 :: ycr q.2), ad2 a = ad a) → yws ad2 ca w = yws ad ca w
  | [], _ => rfl
  | q :: t, h => by
    have h1 : yws ad2 ca t = yws ad ca t := yws_same (fun a ha => h a (by rw [List.flatMap_cons]; exact List.mem_append_right _ ha))
    have h2 : ad2 q.1 = ad q.1 := h q.1 (by rw [List.flatMap_cons]; exact List.mem_append_left _ List.mem_cons_self)
    have h3 : ycell ad2 ca q.2 = ycell ad ca q.2 := by
      obtain ⟨o, e⟩ := q
      cases e with
      | inl r => rfl
      | inr r =>
        show (Sum.inr (r.1, r.2.map (zv ad2)) : va_E) = Sum.inr (r.1, r.2.map (zv ad))
        rw [zvs_same (fun a ha => h a (by
          rw [List.flatMap_cons]
          exact List.mem_append_left _ (List.mem_cons_of_mem _ ha)))]
    show (ad2 q.1, ycell ad2 ca q.2) :: yws ad2 ca t = (ad q.1, ycell ad ca q.2) :: yws ad ca t
    rw [h1, h2, h3]
theorem yws_at {ad : Nat → Nat} {ca : Nat → ClassId} {w : yW} {i : Nat} {q : Nat × yE} (h : w[i]? = some q) : (yws ad ca w)[i]? = some (ad q.1, ycell ad ca q.2) := by
  rw [yws, List.getElem?_map, h]
  rfl
/-- the world in a state, while it is made -/
def yU (D : va_G) (ca : Nat → ClassId) (ad : Nat → Nat) (w : yW) (U : State) : Prop := va_P D vwCl (yws ad ca w) U.heap ∧ va_K D vwCl (ztys ca) U ∧ va_D (fun _ => True) (yws ad ca w) ∧ ∀ x ∈ zNst, va_Nw x U
abbrev yrm (fr lo mc ms : Nat) : Room := { frames := fr, cells := mc, slots := ms, locals := lo }
def yQ (D : va_G) (ca : Nat → ClassId) (ad : Nat → Nat) (sz : Nat) (w w1 : yW) : Array Value → State → Outcome → State → Prop :=
  va_Qv (fun ad2 : Nat → Nat => ∀ q ∈ w, ad2 q.1 = ad q.1) (fun ad2 t => va_P D vwCl (yws ad2 ca w1) t.heap ∧ va_D (va_A (yws ad ca w) sz) (yws ad2 ca w1)) (va_A (yws ad ca w) sz)
def yM (y : MethodName) (cc : ByteArray) (nL fr lo mc ms : Nat) (av : List Value) (w w1 : yW) : Prop := ∀ (l : Launch) (D : va_G) (ca : Nat → ClassId) (ad : Nat → Nat) (sz : Nat),
  Met l y (.code y cc nL none :: zwd) (yrm fr lo mc ms) (va_Pc (av.map (zv ad)) (fun U => U.heap.size = sz ∧ yU D ca ad w U)) (yQ D ca ad sz w w1) mc ms (va_A (yws ad ca w) sz)
def yR (own : String) (cc : ByteArray) (nL fr lo mc ms : Nat) (w0 w1 : yW) (Y : Nat → Nat → Nat → List (Option Value) → List Value → yW → Prop) : Prop :=
  ∃ (p : Program) (l : Launch) (e : Env) (R : Room) (s : State) (m : MethodId) (args : Array Value) (below : List Frame) (meth : Method) (c : Code) (D : va_G) (ca : Nat → ClassId) (ad0 : Nat → Nat),
    p.tables.exec = Jvm.exec ∧ c.code = cc ∧ c.maxLocals = nL ∧ s.vm.findClass own = some m.cls ∧ (∀ w ∈ zwd, w.before args s = true) ∧ (∀ w ∈ zNst, va_Nw w s) ∧ va_K D vwCl (ztys ca) s ∧ meth.sig.returnType = none ∧ meth.locks = false ∧ meth.name = "<init>" ∧ fr ≤ R.frames ∧ lo ≤ R.locals ∧ (mc ≤ R.cells ∧ ms ≤ R.slots) ∧
    Y = fun k n pc lv st w => ∀ (ad : Nat → Nat), (∀ q ∈ w0, ad q.1 = ad0 q.1) → ∀ (ls : Array Slot) (H : Heap) (locs : List Loc), lv_has ls nL (zLv ad 0 lv) → va_P D vwCl (yws ad ca w) H → va_D (va_A (yws ad0 ca w0) s.heap.size) (yws ad ca w) → va_S (va_A (yws ad0 ca w0) s.heap.size) s.heap H locs →
      W p l e R s m args below meth c H locs k n (MQ below (yQ D ca ad0 s.heap.size w0 w1) args s mc ms (va_A (yws ad0 ca w0) s.heap.size)) (F0 m pc ls (st.map (zv ad)))
theorem yM.of {y : MethodName} {cc : ByteArray} {nL fr lo mc ms : Nat} {av : List Value} {w w1 : yW} (lv : List (Option Value)) (hy : plainName y.cls = true) (hyn : y.name = "<init>") (n : Nat) (hlv : zarg av ++ List.replicate n none = lv) (hlen : ∀ ad : Nat → Nat, (lg_sl (av.map (zv ad))).length ≤ nL)
    (h : ∀ Y, yR y.cls cc nL fr lo mc ms w w1 Y → Y 0 0 0 lv [] w) : yM y cc nL fr lo mc ms av w w1 := by
  intro l D ca ad sz
  refine Met.ofW (cc := cc) (maxL := nL) (ret := none) hy rfl ?_
  intro p e s m args below meth c s₁ B hml hv
  obtain ⟨rfl, hsz, hP, hK, hD, hN⟩ := hv
  subst hsz
  have hts := atoms_spec (ws := .code y cc nL none :: zwd) B.pre
  have hl := lv_entry (av.map (zv ad)) (n := nL) (hlen ad)
  have hnm : meth.name = "<init>" := by rw [(name_of_methodNamed B.named B.method).1]; exact hyn
  rw [lg_entry_eq]
  exact h _ ⟨p, l, e, (headSpec (.code y cc nL none :: zwd) (yrm fr lo mc ms)).room, s, m, _, below, meth, c, D, ca, ad, B.exec, B.bytes, hml, findClass_of_methodNamed B.named, fun w hw => hts w (List.mem_cons_of_mem _ hw), hN, hK, B.returns, B.notSynchronized, hnm, Nat.le_refl _, Nat.le_refl _, ⟨Nat.le_refl _, Nat.le_refl _⟩, rfl⟩
    ad (fun _ _ => rfl) _ s.heap [] ⟨hl.1, hl.2.1, fun q hq => hl.2.2 q (zarg_in ad av 0 n q (by rw [hlv]; exact hq))⟩ hP hD.self va_S.rf
/-- a field that a constructor sets -/
def yPt (own : String) (i ci j : Nat) (ty : FieldType) (fin : Bool) : Prop := ∃ (C : String) (T : u_T) (N : Nat) (ty0 : Nat → FieldType), vwCl[ci]? = some (C, T, N) ∧ j < N ∧ (∀ w ∈ u_ws C T N, w ∈ zwd) ∧ Cond.fieldLink own i (T j).1 (T j).2.1 (T j).2.2.1 ∈ zwd ∧
  (∀ k, k < N → parseFieldDescriptor (T k).2.2.1 = some (ty0 k)) ∧ (∀ a, a < N → ∀ b, b < N → a ≠ b → (T a).2.1 ≠ (T b).2.1) ∧ (T j).2.2.2 = fin ∧ (T j).1 = own ∧ parseFieldDescriptor (T j).2.2.1 = some ty
section YR
variable {own : String} {cc : ByteArray} {nL fr lo mc ms : Nat} {w0 w1 : yW} {Y : Nat → Nat → Nat → List (Option Value) → List Value → yW → Prop} {k n pc : Nat} {lv : List (Option Value)} {st : List Value} {w : yW}
theorem y_aload (hR : yR own cc nL fr lo mc ms w0 w1 Y) {i : Fin 4} {x : Nat} (d : decode cc pc = .ok (.aload_n i, 1)) (hv : lv[(i : Nat)]? = some (some (.ref x))) (kk : Y k n (pc + 1) lv (.ref x :: st) w) : Y k n pc lv st w := by
  obtain ⟨p, l, e, R, s, m, args, below, meth, c, D, ca, ad0, hx, hb, hml, hown, hts, hN, hK, hret, hlk, hin, hfr, hlo, hmc, rfl⟩ := hR
  intro ad had ls H locs hl hP hD hS
  exact lv_aload_n hx hb d rfl (zLv_at hl hv) (kk ad had ls H locs hl hP hD hS)
theorem y_iload (hR : yR own cc nL fr lo mc ms w0 w1 Y) {i : Fin 4} {x : Int32} (d : decode cc pc = .ok (.iload_n i, 1)) (hv : lv[(i : Nat)]? = some (some (.int x))) (kk : Y k n (pc + 1) lv (.int x :: st) w) : Y k n pc lv st w := by
  obtain ⟨p, l, e, R, s, m, args, below, meth, c, D, ca, ad0, hx, hb, hml, hown, hts, hN, hK, hret, hlk, hin, hfr, hlo, hmc, rfl⟩ := hR
  intro ad had ls H locs hl hP hD hS
  exact lv_iload_n hx hb d rfl (zLv_at hl hv) (kk ad had ls H locs hl hP hD hS)
theorem y_iconst (hR : yR own cc nL fr lo mc ms w0 w1 Y) {i : Int} {v : Int32} (d : decode cc pc = .ok (.iconst i, 1)) (hv : Int32.ofInt i = v) (kk : Y k n (pc + 1) lv (.int v :: st) w) : Y k n pc lv st w := by
  obtain ⟨p, l, e, R, s, m, args, below, meth, c, D, ca, ad0, hx, hb, hml, hown, hts, hN, hK, hret, hlk, hin, hfr, hlo, hmc, rfl⟩ := hR
  intro ad had ls H locs hl hP hD hS
  exact lv_iconst hx hb d hv (kk ad had ls H locs hl hP hD hS)
theorem y_bipush (hR : yR own cc nL fr lo mc ms w0 w1 Y) {i : Int} {v : Int32} (d : decode cc pc = .ok (.bipush i, 2)) (hv : (Int8.ofInt i).toInt32 = v) (kk : Y k n (pc + 2) lv (.int v :: st) w) : Y k n pc lv st w := by
  obtain ⟨p, l, e, R, s, m, args, below, meth, c, D, ca, ad0, hx, hb, hml, hown, hts, hN, hK, hret, hlk, hin, hfr, hlo, hmc, rfl⟩ := hR
  intro ad had ls H locs hl hP hD hS
  exact lv_bipush hx hb d hv (kk ad had ls H locs hl hP hD hS)
theorem y_sipush (hR : yR own cc nL fr lo mc ms w0 w1 Y) {i : Int} {v : Int32} (d : decode cc pc = .ok (.sipush i, 3)) (hv : (Int16.ofInt i).toInt32 = v) (kk : Y k n (pc + 3) lv (.int v :: st) w) : Y k n pc lv st w := by
  obtain ⟨p, l, e, R, s, m, args, below, meth, c, D, ca, ad0, hx, hb, hml, hown, hts, hN, hK, hret, hlk, hin, hfr, hlo, hmc, rfl⟩ := hR
  intro ad had ls H locs hl hP hD hS
  exact lv_sipush hx hb d hv (kk ad had ls H locs hl hP hD hS)
theorem y_dup (hR : yR own cc nL fr lo mc ms w0 w1 Y) {x : Nat} (d : decode cc pc = .ok (.dup, 1)) (kk : Y k n (pc + 1) lv (.ref x :: .ref x :: st) w) : Y k n pc lv (.ref x :: st) w := by
  obtain ⟨p, l, e, R, s, m, args, below, meth, c, D, ca, ad0, hx, hb, hml, hown, hts, hN, hK, hret, hlk, hin, hfr, hlo, hmc, rfl⟩ := hR
  intro ad had ls H locs hl hP hD hS
  exact lv_dup hx hb d rfl (kk ad had ls H locs hl hP hD hS)
theorem y_objInit (hR : yR own cc nL fr lo mc ms w0 w1 Y) {i x : Nat} (d : decode cc pc = .ok (.invokespecial i, 3)) (h1 : Cond.methodLink own i objectInit ∈ zwd) (h2 : Cond.instanceMethod objectInit ∈ zwd) (h3 : Cond.code objectInit ⟨#[0xb1]⟩ 1 none ∈ zwd) (hst : st = []) (hf : 1 ≤ fr ∧ 12 ≤ lo) (kk : Y k n (pc + 3) lv st w) : Y k n pc lv (.ref x :: st) w := by
  obtain ⟨p, l, e, R, s, m, args, below, meth, c, D, ca, ad0, hx, hb, hml, hown, hts, hN, hK, hret, hlk, hin, hfr, hlo, hmc, rfl⟩ := hR
  intro ad had ls H locs hl hP hD hS
  subst hst
  exact W.objInit hx hb hown (hts _ h1) (hts _ h2) (hts _ h3) rfl (by rw [hml]; exact hl.1) rfl d (by omega) (by show 2 * 0 + 0 + 12 ≤ _; omega) (kk ad had ls H locs hl hP hD hS)
theorem y_ret (hR : yR own cc nL fr lo mc ms w0 w1 Y) (d : decode cc pc = .ok (.return_, 1)) (hk : k ≤ mc) (hn : n ≤ ms) (hw : w = w1) : Y k n pc lv [] w := by
  obtain ⟨p, l, e, R, s, m, args, below, meth, c, D, ca, ad0, hx, hb, hml, hown, hts, hN, hK, hret, hlk, hin, hfr, hlo, hmc, rfl⟩ := hR
  intro ad had ls H locs hl hP hD hS
  subst hw
  refine W.widen (k := mc) (n := ms) hk hn ?_
  exact W.vret hx hb hret (fun t ht hW => ⟨⟨ad, rfl, had, by rw [ht]; exact hP, hD⟩, hS.F ht⟩) hS.2.2 d hlk
theorem y_getR (hR : yR own cc nL fr lo mc ms w0 w1 Y) {i ci j o q x : Nat} {fs : List Value} (d : decode cc pc = .ok (.getfield i, 3)) (hG : zG own i ci j) (hq : w[q]? = some (o, .inr (ci, fs))) (hj : fs[j]? = some (.ref x)) (kk : Y k n (pc + 3) lv (.ref x :: st) w) : Y k n pc lv (.ref o :: st) w := by
  obtain ⟨p, l, e, R, s, m, args, below, meth, c, D, ca, ad0, hx, hb, hml, hown, hts, hN, hK, hret, hlk, hin, hfr, hlo, hmc, rfl⟩ := hR
  intro ad had ls H locs hl hP hD hS
  obtain ⟨C, T, N, hc, hj2, hin2, hl2⟩ := hG
  have he : (yws ad ca w)[q]? = some (ad o, .inr (ci, fs.map (zv ad))) := yws_at hq
  have hv : (fs.map (zv ad))[j]? = some (.ref (ad x)) := by rw [List.getElem?_map, hj]; rfl
  rcases hl2 with hl2 | ⟨host, hl2⟩
  · exact va_get hx hb hts hin2 hown hK hP q he hc j hj2 (hts _ hl2) (fun _ h => h) hv d (kk ad had ls H locs hl hP hD hS)
  · exact va_getN hx hb hts hin2 hown hK hP q he hc j hj2 (va_Nw.use rfl (hN _ hl2)) (fun _ h => h) hv d (kk ad had ls H locs hl hP hD hS)
theorem y_putF (hR : yR own cc nL fr lo mc ms w0 w1 Y) {i ci j o q : Nat} {fs : List Value} {v : Value} {ty : FieldType} (d : decode cc pc = .ok (.putfield i, 3)) (hG : yPt own i ci j ty true) (hq : w[q]? = some (o, .inr (ci, fs))) (hj : j < fs.length) (hvn : ∀ ad, narrow ty (zv ad v) = zv ad v) (hvf : ∀ ad, fits ty (zv ad v) = true) (kk : Y k n (pc + 3) lv st (w.set q (o, .inr (ci, fs.set j v)))) : Y k n pc lv (v :: .ref o :: st) w := by
  obtain ⟨p, l, e, R, s, m, args, below, meth, c, D, ca, ad0, hx, hb, hml, hown, hts, hN, hK, hret, hlk, hin, hfr, hlo, hmc, rfl⟩ := hR
  intro ad had ls H locs hl hP hD hS
  obtain ⟨C, T, N, ty0, hc, hjN, hin2, hl2, hty, hnm, hfin, hdecl, hd⟩ := hG
  have he : (yws ad ca w)[q]? = some (ad o, .inr (ci, fs.map (zv ad))) := yws_at hq
  have hlen : j < (fs.map (zv ad)).length := by simpa using hj
  have e1 : (yws ad ca w).set q (ad o, .inr (ci, (fs.map (zv ad)).set j (zv ad v))) = yws ad ca (w.set q (o, .inr (ci, fs.set j v))) := by
    rw [yws, yws, List.map_set, ← List.map_set]
    rfl
  have h1 : narrow ty (zv ad v) = zv ad v := hvn ad
  have h2 : fits ty (zv ad v) = true := hvf ad
  refine va_putF hx hb hts hin2 ty0 hty hnm hown hK hP hD hS q he hc j hjN (hts _ hl2) (fun _ h => h) hfin hin hdecl hd h1 h2 hlen d (fun H1 locs1 g1 g2 g3 => ?_)
  rw [e1] at g1 g2
  exact kk ad had ls H1 locs1 hl g1 g2 g3
theorem y_put (hR : yR own cc nL fr lo mc ms w0 w1 Y) {i ci j o q : Nat} {fs : List Value} {v : Value} {ty : FieldType} (d : decode cc pc = .ok (.putfield i, 3)) (hG : yPt own i ci j ty false) (hq : w[q]? = some (o, .inr (ci, fs))) (hj : j < fs.length) (hvn : ∀ ad, narrow ty (zv ad v) = zv ad v) (hvf : ∀ ad, fits ty (zv ad v) = true) (kk : Y k n (pc + 3) lv st (w.set q (o, .inr (ci, fs.set j v)))) : Y k n pc lv (v :: .ref o :: st) w := by
  obtain ⟨p, l, e, R, s, m, args, below, meth, c, D, ca, ad0, hx, hb, hml, hown, hts, hN, hK, hret, hlk, hin, hfr, hlo, hmc, rfl⟩ := hR
  intro ad had ls H locs hl hP hD hS
  obtain ⟨C, T, N, ty0, hc, hjN, hin2, hl2, hty, hnm, hfin, hdecl, hd⟩ := hG
  have he : (yws ad ca w)[q]? = some (ad o, .inr (ci, fs.map (zv ad))) := yws_at hq
  have hlen : j < (fs.map (zv ad)).length := by simpa using hj
  have e1 : (yws ad ca w).set q (ad o, .inr (ci, (fs.map (zv ad)).set j (zv ad v))) = yws ad ca (w.set q (o, .inr (ci, fs.set j v))) := by
    rw [yws, yws, List.map_set, ← List.map_set]
    rfl
  have h1 : narrow ty (zv ad v) = zv ad v := hvn ad
  have h2 : fits ty (zv ad v) = true := hvf ad
  refine va_put hx hb hts hin2 ty0 hty hnm hown hK hP hD hS q he hc j hjN (hts _ hl2) (fun _ h => h) hfin hd h1 h2 hlen d (fun H1 locs1 g1 g2 g3 => ?_)
  rw [e1] at g1 g2
  exact kk ad had ls H1 locs1 hl g1 g2 g3
theorem y_newa (hR : yR own cc nL fr lo mc ms w0 w1 Y) {kd N : Nat} {x : Int32} {at9 : ArrayType} (o : Nat) (d : decode cc pc = .ok (.newarray at9, 2)) (hat : (kd, newarray.typeOf at9) ∈ [(0, FieldType.int), (1, .char), (2, .boolean), (3, .long)]) (harr : Cond.arrayClass (newarray.typeOf at9) ∈ zwd) (hx0 : x = nI N) (hN : N ≤ 4096) (hfr2 : (yall lv st w).contains o = false) (hno : (w0.map (fun q => q.1)).contains o = false) (hk : k + 1 ≤ mc) (hn : n + N ≤ ms) (kk : Y (k + 1) (n + N) (pc + 2) lv (.ref o :: st) (w ++ [(o, .inl (kd, N))])) : Y k n pc lv (.int x :: st) w := by
  obtain ⟨p, l, e, R, s, m, args, below, meth, c, D, ca, ad0, hx, hb, hml, hown, hts, hN, hK, hret, hlk, hin, hfr, hlo, hmc, rfl⟩ := hR
  intro ad had ls H locs hl hP hD hS
  subst hx0
  have hfr3 : ∀ a ∈ yall lv st w, va_up ad o H.size a = ad a := fun a ha => va_up_ne ad _ (fun e => by
    subst e
    rw [List.contains_iff_mem.mpr ha] at hfr2
    cases hfr2)
  have main : ∀ (ty : FieldType) (a0 : vp_A), newarray.typeOf at9 = ty → (∀ cA : ClassId, vp_cell cA a0 = arrV cA N (fun _ => defaultValue ty)) → (∀ ad2 : Nat → Nat, ycell ad2 ca (.inl (kd, N)) = .inl (ca kd, a0)) → (ztys ca)[kd]? = some (ca kd, ty) → N * componentBytes ty ≤ 536870912 → (∀ (cA : ClassId), va_RA s cA ty → va_RA s (ca kd) ty → cA = ca kd) → W p l e R s m args below meth c H locs k n (MQ below (yQ D ca ad0 s.heap.size w0 w1) args s mc ms (va_A (yws ad0 ca w0) s.heap.size)) (F0 m pc ls (.int (nI N) :: st.map (zv ad))) := by
    intro ty a0 hty ha0 hcell htk hby heq
    refine va_newaK hx hb (hts _ harr) rfl d rfl (nI_pos (by omega)) (nI_clamp (by omega)) (by rw [hty]; exact hby) (by omega) (by omega) rfl (fun H1 cA e1 z1 o1 hAr hNm => ?_)
    rw [hty] at e1 hAr
    have hRA : va_RA s cA ty := by
      rw [← hty]
      cases at9 <;> exact hNm
    have hcA : cA = ca kd := heq cA hRA (hK.2 kd _ htk).2
    subst hcA
    have hk2 : ∀ (k2 : Nat) (x : Nat × va_E), (yws ad ca w)[k2]? = some x → H1[x.1]? = H[x.1]? := fun k2 x hx2 => o1 x.1 ((hP k2 x hx2).lt)
    have ew : yws (va_up ad o H.size) ca w = yws ad ca w := yws_same (fun a ha => hfr3 a (List.mem_append_right _ (List.mem_append_right _ ha)))
    have ew2 : yws (va_up ad o H.size) ca (w ++ [(o, .inl (kd, N))]) = yws ad ca w ++ [(H.size, .inl (ca kd, a0))] := by
      rw [yws, List.map_append]
      show yws (va_up ad o H.size) ca w ++ [(va_up ad o H.size o, ycell (va_up ad o H.size) ca (.inl (kd, N)))] = _
      rw [ew, va_up_self, hcell]
    have eS : ((Value.ref o :: st)).map (zv (va_up ad o H.size)) = .ref H.size :: st.map (zv ad) := by
      rw [List.map_cons, zvs_same (fun a ha => hfr3 a (List.mem_append_right _ (List.mem_append_left _ ha)))]
      show Value.ref (va_up ad o H.size o) :: _ = _
      rw [va_up_self]
    have kk2 := kk (va_up ad o H.size) (fun q hq => by
      rw [va_up_ne ad _ (fun e => by
        have h9 : (w0.map (fun q => q.1)).contains o = true := List.contains_iff_mem.mpr (e ▸ List.mem_map_of_mem hq)
        rw [h9] at hno
        cases hno)]
      exact had q hq) ls H1 locs (by rw [zLv_same lv 0 (fun a ha => hfr3 a (List.mem_append_left _ ha))]; exact hl)
      (by
        rw [ew2]
        refine (hP.kept hk2).app (fun k3 x hx3 => ?_)
        have hz : k3 < 1 := (List.getElem?_eq_some_iff.mp hx3).1
        rw [show k3 = 0 by omega] at hx3
        cases hx3
        show H1[H.size]? = some (vp_cell _ _)
        rw [ha0]
        exact e1)
      (by rw [ew2]; exact hD.push hP rfl (Or.inr hS.1))
      ⟨Nat.le_trans hS.1 (by omega), fun x h1 h2 => (o1 x (Nat.lt_of_lt_of_le h1 hS.1)).trans (hS.2.1 x h1 h2), hS.2.2⟩
    rw [eS] at kk2
    exact kk2
  simp only [List.mem_cons, Prod.mk.injEq, List.not_mem_nil, or_false] at hat
  rcases hat with ⟨rfl, e9⟩ | ⟨rfl, e9⟩ | ⟨rfl, e9⟩ | ⟨rfl, e9⟩
  · exact main .int (N, .inl (fun _ => 0)) e9 (fun _ => rfl) (fun _ => rfl) rfl (by show N * 4 ≤ _; omega) (fun cA h1 h2 => Option.some.inj (h1.symm.trans h2))
  · exact main .char (N, .inl (fun _ => 0)) e9 (fun _ => rfl) (fun _ => rfl) rfl (by show N * 2 ≤ _; omega) (fun cA h1 h2 => Option.some.inj (h1.symm.trans h2))
  · exact main .boolean (N, .inl (fun _ => 0)) e9 (fun _ => rfl) (fun _ => rfl) rfl (by show N * 1 ≤ _; omega) (fun cA h1 h2 => Option.some.inj (h1.symm.trans h2))
  · exact main .long (N, .inr (.inl (fun _ => 0))) e9 (fun _ => rfl) (fun _ => rfl) rfl (by show N * 8 ≤ _; omega) (fun cA h1 h2 => Option.some.inj (h1.symm.trans h2))
end YR
