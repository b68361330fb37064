/-! Calls of methods that may throw; methods with handlers -/
section ZI
variable {p : Program} {l : Launch} {e : Env} {R : Room} {s : State} {m : MethodId} {args : Array Value} {below : List Frame} {meth : Method} {c : Code} {U : State} {Ls : List Loc} {c0 s0 : Nat} {D : va_G} {ad : Nat → Nat} {ca : Nat → ClassId}
abbrev zAft (U t : State) : State := ({ U with heap := t.heap, slotsUsed := t.slotsUsed } : State).setVm t.vm
theorem z_invoke (X : Stand p l e R s m args below meth c U Ls c0 s0) {y : MethodName} {nLY frY loY mcY len : Nat} {av : List Value} {σ : zS} {po2 : Option Value → zS → Prop} {pt2 : Nat → zS → Prop} {hd : Cond} (hM : ∀ sz, MetFree l y (headSpec (hd :: zwd) (zrm frY loY mcY)) (va_Pc (av.map (zv ad)) (fun U => U.heap.size = sz ∧ zW D ad ca σ U)) (fun _ _ _ _ _ => True) (fun _ st o t => zQc D ad ca (va_A (zws ad ca σ) sz) st po2 pt2 o t ∧ ∃ L, zFE st t L mcY (6 * mcY) ∧ ∀ q ∈ L, va_A (zws ad ca σ) sz q.base)) {g : JFrame} {ig : Instr} {mk : MethodId} (hmk : ∃ methY cY, U.vm.method? mk = some methY ∧ methY.code = some cY ∧ cY.maxLocals = nLY) (hg : g.method = m) (hsize : g.locals.size = c.maxLocals) (hdg : decode c.code g.pc = .ok (ig, len)) (hw : 2 * g.monitorRoom + (g.stack.map fun v => v.category).sum ≤ 8) (hn : U.methodNamed? y = some mk)
    (hws : ∀ w ∈ hd :: zwd, w.before (av.map (zv ad)).toArray U = true) (hini : (Cond.initialized y.cls).before (av.map (zv ad)).toArray U = true) (hfr : frY + 1 ≤ R.frames ∧ 8 + (nLY + 11) + loY ≤ R.locals) (hcs : c0 + mcY ≤ R.cells ∧ s0 + 6 * mcY ≤ R.slots) (hz : zW D ad ca σ U) :
    ∃ (t : State) (L : List Loc), (∀ q ∈ L, va_A (zws ad ca σ) U.heap.size q.base) ∧ va_F (va_A (zws ad ca σ) U.heap.size) U t ∧ Stand p l e R s m args below meth c (zAft U t) (Ls ++ L) (c0 + mcY) (s0 + 6 * mcY) ∧
      ((∃ (r : Option Value) (σ2 : zS), zRv r ∧ po2 r σ2 ∧ va_P D vwCl (zws ad ca σ2) t.heap ∧ Steps p.tables e below (doInvoke e (U.setTop g) [] mk (av.map (zv ad)).toArray).1 ((zAft U t).setTop { g with pc := g.pc + len, stack := r.toList ++ g.stack })) ∨
       ∃ (x : Nat) (b : Addr) (cell : Cell) (σ2 : zS), pt2 x σ2 ∧ va_P D vwCl (zws ad ca σ2) t.heap ∧ U.heap.size ≤ b ∧ t.heap[b]? = some cell ∧ cell.vm = .none ∧ U.vm.findClass (zxc x) = some cell.cls ∧ Steps p.tables e below (doInvoke e (U.setTop g) [] mk (av.map (zv ad)).toArray).1 (((zAft U t).setTop g).pushFrame (.throwing b))) := by
  obtain ⟨methY, cY, hmY, hcY, hlY⟩ := hmk
  obtain ⟨kY, hkY, -⟩ := className_of_methodNamed hn
  have hinitY : kY.init = .initialized := Cond.initialized_spec (findClass_of_methodNamed hn) hkY hini
  have h : At U g.method c below := by rw [hg]; exact X.here
  have happ : (headSpec (hd :: zwd) (zrm frY loY mcY)).appliesLoose y e.platform (U.calling g mk (av.map (zv ad)).toArray) = true :=
    Spec.appliesLoose_calling (g := g) h hdg hn hkY hinitY (X.room_calling (g := g) (R' := zrm frY loY mcY) hsize hmY hcY hfr.1 (by rw [hlY]; have := hfr.2; show _ + (nLY + 11) + loY ≤ _; omega) hcs.1 hcs.2) (atoms_intro hws)
  obtain ⟨mid, hmid⟩ := h.above
  have hfrm : (U.setTop g).frames = (.java g :: mid) ++ below := by rw [State.frames_setTop' g h.top, hmid]; rfl
  obtain ⟨o, s₂, hsteps, -, hend, hq⟩ := Steps.callFree (hM U.heap.size) p X.admits X.cas X.clock (acts := []) hfrm happ (zW.blind (ad := ad) (av := av.map (zv ad)) (σ := σ) (D := D) (ca := ca) (sz := U.heap.size) _ U g mk ⟨rfl, rfl, hz⟩) trivial
  rw [State.frames_setTop' g h.top] at hend
  have hq' : zQc D ad ca (va_A (zws ad ca σ) U.heap.size) (U.calling g mk (av.map (zv ad)).toArray) po2 pt2 o s₂ ∧ ∃ L, zFE (U.calling g mk (av.map (zv ad)).toArray) s₂ L mcY (6 * mcY) ∧ ∀ q ∈ L, va_A (zws ad ca σ) U.heap.size q.base := hq
  obtain ⟨⟨hF, hq⟩, L, ⟨hW₂, e2, q2, q3, q4, q5, q6⟩, hL⟩ := hq'
  have e3 : s₂ = ({ (U.calling g mk (av.map (zv ad)).toArray).setFrames s₂.frames with heap := s₂.heap, slotsUsed := s₂.slotsUsed } : State).setVm s₂.vm := by
    have : s₂ = ({ s₂ with vm := (U.calling g mk (av.map (zv ad)).toArray).vm } : State).setVm s₂.vm := rfl
    rw [e2] at this
    exact this
  have hW' : U.WarmedH s₂.vm := hW₂
  obtain ⟨g₀, hg0⟩ := Option.isSome_iff_exists.mp h.top
  obtain ⟨r0, hr0⟩ := State.topJava?_eq_some.mp hg0
  have hsame : U.sameButNew ({ U with heap := s₂.heap, slotsUsed := s₂.slotsUsed } : State) L mcY (6 * mcY) := by
    refine ⟨?_, q2, q3, q4, q5, q6⟩
    obtain ⟨t, ht, -⟩ := State.frames_cons hr0
    show ({ U with heap := s₂.heap, slotsUsed := s₂.slotsUsed } : State) = { U.setFrames U.frames with heap := s₂.heap, slotsUsed := s₂.slotsUsed }
    rw [State.setFrames_self ht]
  have hr' : (zAft U s₂).frames = .java g₀ :: r0 := hr0
  have hX : Stand p l e R s m args below meth c (zAft U s₂) (Ls ++ L) (c0 + mcY) (s0 + 6 * mcY) :=
    ⟨X.admits, X.cas, X.clock, X.frames, X.room, X.hears, X.method, X.code, (X.here.setHeapUsed s₂.heap s₂.slotsUsed).setVm hW'.alike, X.tail, State.WarmedH.trans X.warmed hW', X.limits, X.bytes, X.same.trans (hsame.setVm s.vm)⟩
  refine ⟨s₂, L, hL, hF, hX, ?_⟩
  rcases hq with ⟨r, σ2, ho, hrv, hpo, hP2⟩ | ⟨x, b, cell, σ2, ho, hpt, hP2, hb, hcell, hvm, hcls⟩
  · subst ho
    obtain ⟨c₂, i₂, len₂, hc₂, hd₂, hf₂⟩ := hend
    have hcc : c₂ = c := by
      have h1 : s₂.code? g.method = U.code? g.method := by
        rw [State.code?_eq, State.code?_eq, hW'.alike.method?]
      exact Option.some.inj (hc₂.symm.trans (h1.trans h.code))
    subst hcc
    have hlen : len₂ = len := by rw [hdg] at hd₂; cases hd₂; rfl
    subst hlen
    have hs₂ : s₂ = (zAft U s₂).setTop { g with pc := g.pc + len₂, stack := r.toList ++ g.stack } := by
      refine e3.trans ?_
      rw [hf₂, State.calling_eq h.top, State.setFrames_setFrames, State.setTop_of_frames _ hr', hr0]
      rfl
    refine Or.inl ⟨r, σ2, hrv, hpo, hP2, ?_⟩
    rw [← hs₂]
    exact hsteps
  · subst ho
    have hf₂ : s₂.frames = .throwing b :: .java g :: U.frames.tail := hend
    have hs₂ : s₂ = ((zAft U s₂).setTop g).pushFrame (.throwing b) := by
      refine e3.trans ?_
      rw [hf₂, State.calling_eq h.top, State.setFrames_setFrames, State.pushFrame, State.frames_setTop _ hr', State.setTop_of_frames _ hr', State.setFrames_setFrames, hr0]
      rfl
    refine Or.inr ⟨x, b, cell, σ2, hpt, hP2, hb, hcell, hvm, hcls, ?_⟩
    rw [← hs₂]
    exact hsteps
end ZI
section ZV
variable {own : String} {cc : ByteArray} {nL fr lo mc : Nat} {ex : List ExceptionTableEntry} {ret : Option FieldType} {po : Option Value → zS → Prop} {pt : Nat → zS → Prop} {Z : Nat → Nat → List (Option Value) → List Value → zS → Prop}
/-- which handler takes the exception x at this pc: the entries before it are passed -/
def zTk (own : String) (pc : Nat) : List ExceptionTableEntry → Nat → Nat → Prop
  | [], _, _ => False
  | h :: t, x, hp => covers h pc = true ∧ h.catchType ≠ 0 ∧ ∃ y : Nat, Cond.classLink own h.catchType (zxc y) ∈ zwd ∧ ((y = x ∧ Cond.castable (zxc x) (zxc x) ∈ zNst ∧ h.handlerPc = hp) ∨ ((zxc x, zxc y) ∈ zNc ∧ zTk own pc t x hp))
theorem zTk_find {e : Env} {s : State} {args : Array Value} {f : JFrame} {b : Addr} {cell : Cell} {A : Nat → Prop} {H : Heap} {t0 : Nat} (hpl : e.platform.magicAccessors = ({} : Platform).magicAccessors) (hown : s.vm.findClass own = some f.method.cls) (hts : ∀ w ∈ zwd, w.before args s = true) (hE : zEn s H A t0) {x : Nat} (hvm : cell.vm = .none) (hcls : s.vm.findClass (zxc x) = some cell.cls) :
    ∀ (t : List ExceptionTableEntry) (hp : Nat) (U : State), zTk own f.pc t x hp → s.WarmedH U.vm → U.heap[b]? = some cell → ∃ vm2 : Vm, s.WarmedH vm2 ∧ zFi e U f b t (.found hp) vm2 := by
  intro t
  induction t with
  | nil => intro hp U h; exact h.elim
  | cons h t ih =>
    intro hp U hk hW hcell
    obtain ⟨h1, h2, y, h3, h4⟩ := hk
    rcases h4 with ⟨rfl, h5, rfl⟩ | ⟨h5, h6⟩
    · exact zc_take hpl hW hown (hts _ h3) h1 h2 hcell hvm hcls (va_Nw.use rfl (hE.1 _ h5))
    · exact zc_pass hpl hW hown (hts _ h3) h1 h2 hcell hvm hcls (hE.2.2.2.2.2.1 _ h5) (fun U2 e1 w => ih hp U2 h6 w (by rw [e1]; exact hcell))
theorem zLv_none {ls : Array Slot} {nL : Nat} {ad : Nat → Nat} {lv : List (Option Value)} {i : Nat} {v : Value} (h : lv_has ls nL ((i, v) :: (zLv ad 0 lv).filter (fun q => !(q.1 == i) && !(q.1 + 1 == i && q.2.category == 2)))) (ho : zLok lv i = true) : lv_has ls nL (zLv ad 0 (lv.set i none)) := by
  refine ⟨h.1, h.2.1, fun q hq => ?_⟩
  obtain ⟨j, w, rfl, hw⟩ := zLv_of ad _ _ _ hq
  apply h.2.2
  rw [List.getElem?_set] at hw
  by_cases e : i = j
  · subst e
    rw [if_pos rfl] at hw
    split at hw
    · cases hw
    · cases hw
  · rw [if_neg e] at hw
    refine List.mem_cons_of_mem _ (List.mem_filter.mpr ⟨zLv_mem ad _ 0 _ _ hw, ?_⟩)
    have h1 : (0 + j == i) = false := by simp; omega
    by_cases e2 : j + 1 = i
    · subst e2
      rw [h1, zLok_cat (ad := ad) ho hw, Bool.and_false]
      rfl
    · have h2 : (0 + j + 1 == i) = false := by simp; omega
      rw [h1, h2]
      rfl
/-- a call of a method that may throw what this method's handlers take: 'astore' is each handler's first row -/
theorem z_callVT (hR : zR own cc nL fr lo mc ex ret po pt Z) {k pc n i o ci N nLY frY loY mcY : Nat} {lv : List (Option Value)} {st : List Value} {σ : zS} {y : MethodName} {ccY : ByteArray} {retY : Option FieldType} {T : u_T} {rs : List (Option Nat)} {av : List Value} {po2 : Option Value → zS → Prop} {pt2 : Nat → zS → Prop}
    (d : decode cc pc = .ok (.invokevirtual i, 3)) (hn : pc + 3 = n) (hC : zCV own i y av.length) (hcd : Cond.code y ccY nLY retY ∈ zwd) (hf : frY + 1 ≤ fr ∧ 8 + (nLY + 11) + loY ≤ lo) (hw : (st.map fun v => v.category).sum ≤ 8) (ho : o < zN) (hs : zsh o = .inr (ci, rs)) (hcl : vwCl[ci]? = some (y.cls, T, N)) (hk : k + mcY ≤ mc)
    (hM : zM y ccY nLY retY frY loY mcY (.ref o :: av) σ po2 pt2) (kk : ∀ r σ2, po2 r σ2 → Z (k + mcY) n lv (r.toList ++ st) σ2)
    (kt : ∀ x σ2, pt2 x σ2 → ∃ (hp np j : Nat), zTk own pc ex x hp ∧ ((∃ jf : Fin 4, (jf : Nat) = j ∧ decode cc hp = .ok (.astore_n jf, 1) ∧ hp + 1 = np) ∨ (decode cc hp = .ok (.astore j, 2) ∧ hp + 2 = np)) ∧ j < nL ∧ zLok lv j = true ∧ Z (k + mcY) np (lv.set j none) [] σ2) : Z k pc lv (av.reverse ++ .ref o :: st) σ := by
  obtain ⟨p, l, e, R, s, m, args, below, meth, c, D, ad, ca, A, hx, hb, hml, hown, hts, hE, hK, hD, hA, hret, hlk, hfr, hlo, hmc, htr, hex, hAc, rfl⟩ := hR
  intro ls H locs hl hP hS
  subst hn
  have est : (av.reverse ++ .ref o :: st).map (zv ad) = (av.map (zv ad)).reverse ++ .ref (ad o) :: st.map (zv ad) := by simp [zv]
  have hw2 : ((st.map (zv ad)).map fun v => v.category).sum ≤ 8 := by
    rw [List.map_map]
    have e9 : ((fun v : Value => v.category) ∘ zv ad) = fun v => v.category := funext fun v => zv_cat ad v
    rw [e9]
    exact hw
  obtain ⟨⟨hini, hd⟩, hin, hse, hlink⟩ := hC
  rw [est]
  intro T0 hT0 X
  have hpl : e.platform.magicAccessors = ({} : Platform).magicAccessors := by rw [X.admits.platform]
  have hgd : ∀ w ∈ Cond.code y ccY nLY retY :: zwd, ∀ (a2 : Array Value) (U : State), s.WarmedH U.vm → w.before a2 U = true := pay_in hts (zGoodIn hcd)
  obtain ⟨cellB, hcB, hoB, hclB⟩ := va_recv hK hP hcl (zws_obj ho hs)
  -- the instruction's own step
  have hgo : ∃ (mk : MethodId) (vm₁ : Vm), s.methodNamed? y = some mk ∧ s.WarmedH vm₁ ∧ (∀ target, (∀ acts, Steps p.tables e below (doInvoke e ((T0.setVm vm₁).setTop (F0 m pc ls (st.map (zv ad)))) acts mk (Value.ref (ad o) :: av.map (zv ad)).toArray).1 target) → Steps p.tables e below (T0.setTop (F0 m pc ls ((av.map (zv ad)).reverse ++ .ref (ad o) :: st.map (zv ad)))) target) := by
    obtain ⟨mk, methM, hnamed, hmethM, hstM, habM⟩ := Cond.instanceMethod_spec (hts _ hin)
    obtain ⟨methM', cM, hmethM', -, -, -, -, -, -, hsigM⟩ := Cond.code_spec hnamed (hts _ hcd)
    cases hmethM.symm.trans hmethM'
    obtain ⟨c2, r2, m2, q1, q2, q3, q4, kP, hkP, hkPi⟩ := Cond.selects_spec (hts _ hse)
    cases hclB.symm.trans q1
    cases (State.methodFound?_of_named hnamed ⟨hd.1, hd.2.1⟩).symm.trans q2
    cases hnamed.symm.trans q3
    have hselP : selectMethod e.platform s.vm cellB.cls mk = .method mk := by rw [Launch.admits_selectMethod X.admits]; exact q4
    have hlen : (av.map (zv ad)).length = methM.sig.parameters.length := by
      have h2 := hd.2.2
      rw [hsigM] at h2
      simp at h2
      simp [h2]
    rcases hlink with hlink | ⟨host, hlink⟩
    · obtain ⟨vm₁, X₁, hstep₁⟩ := X.invokevirtual hx hown (hts _ hlink) hnamed hmethM hstM hkP hkPi ⟨hd.1, hd.2.1⟩ (a := ad o) (cell := cellB) (by rw [hT0]; exact hcB)
        (fun z h => by rw [h] at hoB; cases hoB) hselP hmethM habM hkP hkPi (g := F0 m pc ls ((av.map (zv ad)).reverse ++ .ref (ad o) :: st.map (zv ad))) rfl (argsL := av.map (zv ad)) (rest := st.map (zv ad)) hlen rfl (by rw [hb]; exact d)
      exact ⟨mk, vm₁, hnamed, X₁.warmed, fun target h => hstep₁ target h⟩
    · obtain ⟨vm₁, X₁, hstep₁⟩ := X.invokevirtualNest hx hown (va_Nw.use rfl (hE.1 _ hlink)) hnamed hmethM hstM hkP hkPi ⟨hd.1, hd.2.1⟩ (a := ad o) (cell := cellB) (by rw [hT0]; exact hcB)
        (fun z h => by rw [h] at hoB; cases hoB) hselP hmethM habM hkP hkPi (g := F0 m pc ls ((av.map (zv ad)).reverse ++ .ref (ad o) :: st.map (zv ad))) rfl (argsL := av.map (zv ad)) (rest := st.map (zv ad)) hlen rfl (by rw [hb]; exact d)
      exact ⟨mk, vm₁, hnamed, X₁.warmed, fun target h => hstep₁ target h⟩
  obtain ⟨mk, vm₁, hnamed, hW1, hstep⟩ := hgo
  have X₁ := X.noted hW1
  have hmk1 : ∃ methY cY, (T0.setVm vm₁).vm.method? mk = some methY ∧ methY.code = some cY ∧ cY.maxLocals = nLY := by
    obtain ⟨methY, cY, hmY, hcY, -, hlY, -, -, -, -⟩ := Cond.code_spec (X₁.named hnamed) (hgd _ List.mem_cons_self #[] _ hW1)
    exact ⟨methY, cY, hmY, hcY, hlY⟩
  have hzW : zW D ad ca σ (T0.setVm vm₁) := zW_at hE hK (hD σ) hA hP hS hT0 hW1
  obtain ⟨t, L, hL, hF, X₂, hcase⟩ := z_invoke X₁ (fun sz => hM l htr D ad ca sz) (nLY := nLY) (g := F0 m pc ls (st.map (zv ad))) (ig := .invokevirtual i) (len := 3) (mk := mk) hmk1 rfl (by rw [hml]; exact hl.1) (by rw [hb]; exact d) (by show 2 * 0 + ((st.map (zv ad)).map fun v => v.category).sum ≤ 8; omega) (X₁.named hnamed) (fun w h => hgd w h _ _ hW1) (hgd _ (List.mem_cons_of_mem _ hini) _ _ hW1) ⟨by omega, by omega⟩ ⟨by omega, by omega⟩ hzW
  have hsz0 : (T0.setVm vm₁).heap = H := hT0
  have hsub := zA_sub (hD σ) hA hS
  rw [hsz0] at hL hF
  have hz : H.size ≤ t.heap.size := by have := hF.1; rw [hsz0] at this; exact this
  have hS2 : va_S A s.heap (zAft (T0.setVm vm₁) t).heap (locs ++ L) := by
    refine ⟨Nat.le_trans hS.1 hz, fun q h1 h2 => ?_, fun q hq => ?_⟩
    · have h3 := hF.2 q (by rw [hsz0]; exact Nat.lt_of_lt_of_le h1 hS.1) (fun z => h2 (hsub q z))
      show t.heap[q]? = _
      rw [h3, hsz0]
      exact hS.2.1 q h1 h2
    · rcases List.mem_append.mp hq with h | h
      · exact hS.2.2 q h
      · exact hsub _ (hL q h)
  have e6 : 6 * k + 6 * mcY = 6 * (k + mcY) := by omega
  rw [e6] at X₂
  rcases hcase with ⟨r, σ2, hrv, hpo, hP2, hst⟩ | ⟨x, b, cell, σ2, hpt, hP2, hbn, hcell, hcvm, hcls, hst⟩
  · obtain ⟨t2, a1, b1⟩ := kk r σ2 hpo ls (zAft (T0.setVm vm₁) t).heap (locs ++ L) hl hP2 hS2 (zAft (T0.setVm vm₁) t) rfl X₂
    refine ⟨t2, hstep t2 (fun acts => ?_), b1⟩
    rw [doInvoke_state]
    refine hst.trans ?_
    have e3 : (r.toList ++ st).map (zv ad) = r.toList ++ st.map (zv ad) := by
      rcases hrv with rfl | ⟨q, rfl⟩
      · rfl
      · rfl
    rw [e3] at a1
    exact a1
  · obtain ⟨hp, np, j, htk, hda, hj, hok, hZ⟩ := kt x σ2 hpt
    have hcls2 : s.vm.findClass (zxc x) = some cell.cls := by rw [← hW1.alike.findClass]; exact hcls
    obtain ⟨vm2, hW2, hfi⟩ := zTk_find (f := F0 m pc ls (st.map (zv ad))) (b := b) hpl hown hts hE hcvm hcls2 ex hp (((zAft (T0.setVm vm₁) t).setTop (F0 m pc ls (st.map (zv ad)))).pushFrame (.throwing b)) htk (by rw [Stand.throwing_vm]; exact X₂.warmed) (by rw [Stand.throwing_heap]; exact hcell)
    have X₃ := X₂.noted hW2
    have key : W p l e R s m args below meth c ((zAft (T0.setVm vm₁) t).setVm vm2).heap (locs ++ L) (k + mcY) (6 * (k + mcY)) (zQ below D ad ca A s po pt mc) (F0 m hp ls [.ref b]) := by
      rcases hda with ⟨jf, rfl, hda, rfl⟩ | ⟨hda, rfl⟩
      · refine lv_astore_n hx hb hda rfl hl hj rfl (fun ls1 h1 => ?_)
        exact hZ ls1 _ (locs ++ L) (zLv_none h1 hok) hP2 hS2
      · refine lv_astore hx hb hda hl hj rfl (fun ls1 h1 => ?_)
        exact hZ ls1 _ (locs ++ L) (zLv_none h1 hok) hP2 hS2
    obtain ⟨t2, a1, b1⟩ := key ((zAft (T0.setVm vm₁) t).setVm vm2) rfl X₃
    refine ⟨t2, hstep t2 (fun acts => ?_), b1⟩
    rw [doInvoke_state]
    refine hst.trans ?_
    rw [← hex] at hfi
    exact zc_caught (T := zAft (T0.setVm vm₁) t) X₂.here X₂.method' X₂.code hfi a1
end ZV
/-- a contract of a method with handlers; it never throws -/
def zMW (y : MethodName) (cc : ByteArray) (nL : Nat) (ret : Option FieldType) (hh : List (Nat × Nat × Nat × Nat)) (fr lo mc : Nat) (av : List Value) (σ : zS) (po : Option Value → zS → Prop) : Prop :=
  ∀ (l : Launch), l.stackTraces = false → ∀ (D : va_G) (ad : Nat → Nat) (ca : Nat → ClassId) (sz : Nat), MetFree l y (headSpec (.codeWith y cc nL ret hh :: zwd) (zrm fr lo mc)) (va_Pc (av.map (zv ad)) (fun U => U.heap.size = sz ∧ zW D ad ca σ U)) (fun _ _ _ _ _ => True)
    (fun _ st o t => zQc D ad ca (va_A (zws ad ca σ) sz) st po (fun _ _ => False) o t ∧ ∃ L, zFE st t L mc (6 * mc) ∧ ∀ q ∈ L, va_A (zws ad ca σ) sz q.base)
def zEx (q : Nat × Nat × Nat × Nat) : ExceptionTableEntry := ⟨q.1, q.2.1, q.2.2.1, q.2.2.2⟩
theorem zMW.of {y : MethodName} {cc : ByteArray} {nL : Nat} {ret : Option FieldType} {hh : List (Nat × Nat × Nat × Nat)} {fr lo mc : Nat} {av : List Value} {σ : zS} {po : Option Value → zS → Prop} (lv : List (Option Value)) (hy : plainName y.cls = true) (n : Nat) (hlv : zarg av ++ List.replicate n none = lv) (hlen : ∀ ad : Nat → Nat, (lg_sl (av.map (zv ad))).length ≤ nL)
    (h : ∀ Z, zR y.cls cc nL fr lo mc (hh.map zEx) ret po (fun _ _ => False) Z → Z 0 0 lv [] σ) : zMW y cc nL ret hh fr lo mc av σ po := by
  intro l htr D ad ca sz
  refine MetFree.of_bodyS (code := cc) (maxLocals := nL) (ret := ret) hy ?_ ?_
  · intro args s m h1 hn
    obtain ⟨m9, meth, c, hn9, h1, h2, h3, h4, -, h5, h6, -⟩ := Cond.codeWith_spec (atoms_spec (ws := .codeWith y cc nL ret hh :: zwd) h1 _ List.mem_cons_self)
    cases hn.symm.trans hn9
    exact ⟨meth, c, h1, h2, h3, h4, h5, h6⟩
  · intro p e s m args below meth c s₁ B hml hv _
    obtain ⟨rfl, hsz, hP, hK, hD, hE⟩ := hv
    subst hsz
    have hts := atoms_spec (ws := .codeWith y cc nL ret hh :: zwd) B.pre
    have hh0 : s₁.heap = s.heap := by rw [B.state]; rfl
    have hl := lv_entry (av.map (zv ad)) (n := nL) (hlen ad)
    have hex : c.exceptionTable.toList = hh.map zEx := by
      obtain ⟨m9, meth9, c9, hn9, h1, h2, h3, h4, h5, -, -, -⟩ := Cond.codeWith_spec (hts _ List.mem_cons_self)
      cases B.named.symm.trans hn9
      cases B.method.symm.trans h1
      cases (Stand.of_body B).code.symm.trans h2
      rw [← h5, List.map_map]
      have e1 : (zEx ∘ fun h : ExceptionTableEntry => (h.startPc, h.endPc, h.handlerPc, h.catchType)) = id := funext fun h => rfl
      rw [e1, List.map_id]
    obtain ⟨t, a1, o, b1, b2, b3, b4⟩ := h _ ⟨p, l, e, (headSpec (.codeWith y cc nL ret hh :: zwd) (zrm fr lo mc)).room, s, m, _, below, meth, c, D, ad, ca, va_A (zws ad ca σ) s.heap.size, B.exec, B.bytes, hml, findClass_of_methodNamed B.named, fun w hw => hts w (List.mem_cons_of_mem _ hw), hE, hK, fun σ2 => zD_eq (hD.self (sz := s.heap.size)) σ2, fun q hq => Or.inr hq, B.returns, B.notSynchronized, Nat.le_refl _, Nat.le_refl _, ⟨Nat.le_refl _, Nat.le_refl _⟩, htr, hex, zA_none hP, rfl⟩
      _ s.heap [] ⟨hl.1, hl.2.1, fun q hq => hl.2.2 q (zarg_in ad av 0 n q (by rw [hlv]; exact hq))⟩ hP va_S.rf s₁ hh0 (Stand.of_body B)
    rw [lg_entry_eq]
    exact ⟨t, o, a1, b1, b2, b3, b4⟩
section ZQ2
variable {own : String} {cc : ByteArray} {nL fr lo mc : Nat} {ex : List ExceptionTableEntry} {ret : Option FieldType} {po : Option Value → zS → Prop} {pt : Nat → zS → Prop} {Z : Nat → Nat → List (Option Value) → List Value → zS → Prop}
/-- a static call of a method with handlers -/
theorem z_callSW (hR : zR own cc nL fr lo mc ex ret po pt Z) {k pc n i nLY frY loY mcY : Nat} {lv : List (Option Value)} {st : List Value} {σ : zS} {y : MethodName} {ccY : ByteArray} {retY : Option FieldType} {hh : List (Nat × Nat × Nat × Nat)} {av : List Value} {po2 : Option Value → zS → Prop}
    (d : decode cc pc = .ok (.invokestatic i, 3)) (hn : pc + 3 = n) (hC : zCS own i y av.length) (hcd : Cond.codeWith y ccY nLY retY hh ∈ zwd) (hf : frY + 1 ≤ fr ∧ 8 + (nLY + 11) + loY ≤ lo) (hw : (st.map fun v => v.category).sum ≤ 8) (hk : k + mcY ≤ mc)
    (hM : zMW y ccY nLY retY hh frY loY mcY av σ po2) (kk : ∀ r σ2, po2 r σ2 → Z (k + mcY) n lv (r.toList ++ st) σ2) : Z k pc lv (av.reverse ++ st) σ := by
  obtain ⟨p, l, e, R, s, m, args, below, meth, c, D, ad, ca, A, hx, hb, hml, hown, hts, hE, hK, hD, hA, hret, hlk, hfr, hlo, hmc, htr, hex, hAc, rfl⟩ := hR
  intro ls H locs hl hP hS
  subst hn
  have est : (av.reverse ++ st).map (zv ad) = (av.map (zv ad)).reverse ++ st.map (zv ad) := by simp
  have hw2 : ((st.map (zv ad)).map fun v => v.category).sum ≤ 8 := by
    rw [List.map_map]
    have e9 : ((fun v : Value => v.category) ∘ zv ad) = fun v => v.category := funext fun v => zv_cat ad v
    rw [e9]
    exact hw
  obtain ⟨⟨hini, hd⟩, hst, hlink⟩ := hC
  rw [est]
  intro T0 hT0 X
  have hgd : ∀ w ∈ Cond.codeWith y ccY nLY retY hh :: zwd, ∀ (a2 : Array Value) (U : State), s.WarmedH U.vm → w.before a2 U = true := by
    refine pay_in hts (fun w hw => ?_)
    have h1 : w ∈ zwd := by
      rcases List.mem_cons.mp hw with rfl | h2
      · exact hcd
      · exact h2
    exact ⟨h1, zgood w h1⟩
  have hgo : ∃ (mk : MethodId) (vm₁ : Vm), s.methodNamed? y = some mk ∧ s.WarmedH vm₁ ∧ (∀ target, (∀ acts, Steps p.tables e below (doInvoke e ((T0.setVm vm₁).setTop (F0 m pc ls (st.map (zv ad)))) acts mk (av.map (zv ad)).toArray).1 target) → Steps p.tables e below (T0.setTop (F0 m pc ls ((av.map (zv ad)).reverse ++ st.map (zv ad)))) target) := by
    obtain ⟨mk, methM, cM, hnamed, hmethM, -, -, -, -, -, -, hsigM⟩ := Cond.codeWith_spec (hts _ hcd)
    have hstatic : methM.isStatic = true := Cond.static_spec hnamed hmethM (hts _ hst)
    obtain ⟨kP, hkP, -⟩ := className_of_methodNamed hnamed
    have hinitP : kP.init = .initialized := Cond.initialized_spec (findClass_of_methodNamed hnamed) hkP (hts _ hini)
    have hlen : (av.map (zv ad)).length = methM.sig.parameters.length := by
      have h2 := hd.2.2
      rw [hsigM] at h2
      simp at h2
      simp [h2]
    rcases hlink with hlink | ⟨host, hlink⟩
    · obtain ⟨vm₁, X₁, hstep₁⟩ := X.invokestatic hx hown (hts _ hlink) hnamed hmethM hstatic hkP hinitP ⟨hd.1, hd.2.1⟩ (g := F0 m pc ls ((av.map (zv ad)).reverse ++ st.map (zv ad))) rfl (argsL := av.map (zv ad)) (rest := st.map (zv ad)) hlen rfl (by rw [hb]; exact d)
      exact ⟨mk, vm₁, hnamed, X₁.warmed, fun target h => hstep₁ target h⟩
    · obtain ⟨vm₁, X₁, hstep₁⟩ := X.invokestaticNest hx hown (va_Nw.use rfl (hE.1 _ hlink)) hnamed hmethM hstatic hkP hinitP ⟨hd.1, hd.2.1⟩ (g := F0 m pc ls ((av.map (zv ad)).reverse ++ st.map (zv ad))) rfl (argsL := av.map (zv ad)) (rest := st.map (zv ad)) hlen rfl (by rw [hb]; exact d)
      exact ⟨mk, vm₁, hnamed, X₁.warmed, fun target h => hstep₁ target h⟩
  obtain ⟨mk, vm₁, hnamed, hW1, hstep⟩ := hgo
  have X₁ := X.noted hW1
  have hmk1 : ∃ methY cY, (T0.setVm vm₁).vm.method? mk = some methY ∧ methY.code = some cY ∧ cY.maxLocals = nLY := by
    obtain ⟨m9, methY, cY, hn9, hmY, hcY, -, hlY, -⟩ := Cond.codeWith_spec (hgd _ List.mem_cons_self #[] (T0.setVm vm₁) hW1)
    cases (X₁.named hnamed).symm.trans hn9
    exact ⟨methY, cY, hmY, hcY, hlY⟩
  have hzW : zW D ad ca σ (T0.setVm vm₁) := zW_at hE hK (hD σ) hA hP hS hT0 hW1
  obtain ⟨t, L, hL, hF, X₂, hcase⟩ := z_invoke X₁ (fun sz => hM l htr D ad ca sz) (nLY := nLY) (g := F0 m pc ls (st.map (zv ad))) (ig := .invokestatic i) (len := 3) (mk := mk) hmk1 rfl (by rw [hml]; exact hl.1) (by rw [hb]; exact d) (by show 2 * 0 + ((st.map (zv ad)).map fun v => v.category).sum ≤ 8; omega) (X₁.named hnamed) (fun w h => hgd w h _ _ hW1) (hgd _ (List.mem_cons_of_mem _ hini) _ _ hW1) ⟨by omega, by omega⟩ ⟨by omega, by omega⟩ hzW
  have hsz0 : (T0.setVm vm₁).heap = H := hT0
  have hsub := zA_sub (hD σ) hA hS
  rw [hsz0] at hL hF
  have hz : H.size ≤ t.heap.size := by have := hF.1; rw [hsz0] at this; exact this
  have hS2 : va_S A s.heap (zAft (T0.setVm vm₁) t).heap (locs ++ L) := by
    refine ⟨Nat.le_trans hS.1 hz, fun q h1 h2 => ?_, fun q hq => ?_⟩
    · have h3 := hF.2 q (by rw [hsz0]; exact Nat.lt_of_lt_of_le h1 hS.1) (fun z => h2 (hsub q z))
      show t.heap[q]? = _
      rw [h3, hsz0]
      exact hS.2.1 q h1 h2
    · rcases List.mem_append.mp hq with h | h
      · exact hS.2.2 q h
      · exact hsub _ (hL q h)
  have e6 : 6 * k + 6 * mcY = 6 * (k + mcY) := by omega
  rw [e6] at X₂
  rcases hcase with ⟨r, σ2, hrv, hpo, hP2, hst⟩ | ⟨x, b, cell, σ2, hpt, -⟩
  · obtain ⟨t2, a1, b1⟩ := kk r σ2 hpo ls (zAft (T0.setVm vm₁) t).heap (locs ++ L) hl hP2 hS2 (zAft (T0.setVm vm₁) t) rfl X₂
    refine ⟨t2, hstep t2 (fun acts => ?_), b1⟩
    rw [doInvoke_state]
    refine hst.trans ?_
    have e3 : (r.toList ++ st).map (zv ad) = r.toList ++ st.map (zv ad) := by
      rcases hrv with rfl | ⟨q, rfl⟩
      · rfl
      · rfl
    rw [e3] at a1
    exact a1
  · exact hpt.elim
end ZQ2
