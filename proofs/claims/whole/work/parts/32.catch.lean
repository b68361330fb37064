/-! A method with handlers: a call that may throw, and what is caught. The handlers' classes may be linked by the search itself. -/
section ZX
variable {E : CtlPost} {e : Env} {d : Bool} {acts : List Action} {s U : State} {f : JFrame} {b : Addr} {Q : Handler → Pre}
theorem zc_cold {x : ExceptionTableEntry} {t : List ExceptionTableEntry} {c : ClassId} {vm2 : Vm} {cell : Cell} (hx : covers x f.pc = true) (h0 : x.catchType ≠ 0) (hg : (Jvm.resolveClass f.method.cls x.catchType).Gives e.toSetting U.vm (.ok c) vm2) (hr : vm2.classReady f.method.cls x.catchType c) (hsz : vm2.classes.size ≤ U.vm.classes.size)
    (hcell : U.heap[b]? = some cell) (hobj : ∀ k, cell.vm ≠ .statics k) (hk : ∃ k, vm2.classes[cell.cls]? = some k) (hc : ∃ k, vm2.classes[c]? = some k) :
    wp (findHandler.go f b (x :: t)) Q E e d acts U ↔ if vm2.assignable cell.cls c = true then Q (.found x.handlerPc) d acts (U.setVm vm2) else wp (findHandler.go f b t) Q E e d acts (U.setVm vm2) := by
  obtain ⟨ha, ht⟩ := hg.op (op := VmOp.resolveClass f.method.cls x.catchType) rfl
  simp only [covers] at hx
  cases hfit : vm2.assignable cell.cls c <;>
    simp [findHandler.go, hx, h0, ha, ht, hsz, hcell, hobj, hk, hc, hfit, VmOp.dirties, VmOp.acts]
end ZX
def zFi (e : Env) (U : State) (f : JFrame) (b : Addr) (t : List ExceptionTableEntry) (h : Handler) (vm2 : Vm) : Prop := ∀ (Q : Handler → Pre) (E : CtlPost) (d : Bool) (acts : List Action), wp (findHandler.go f b t) Q E e d acts U ↔ Q h d acts (U.setVm vm2)
section ZY
variable {e : Env} {s U : State} {f : JFrame} {b : Addr} {args : Array Value} {own C C2 : String} {x : ExceptionTableEntry} {t : List ExceptionTableEntry} {cell : Cell}
theorem zc_one (hpl : e.platform.magicAccessors = ({} : Platform).magicAccessors) (hW : s.WarmedH U.vm) (hown : s.vm.findClass own = some f.method.cls) (hl : (Cond.classLink own x.catchType C).before args s = true) (hx : covers x f.pc = true) (h0 : x.catchType ≠ 0) (hcell : U.heap[b]? = some cell) (hvm : cell.vm = .none) (hcls : s.vm.findClass C2 = some cell.cls) :
    ∃ (c : ClassId) (vm2 : Vm), s.vm.findClass C = some c ∧ s.WarmedH vm2 ∧ ∀ (Q : Handler → Pre) (E : CtlPost) (d : Bool) (acts : List Action), wp (findHandler.go f b (x :: t)) Q E e d acts U ↔ if s.vm.assignable cell.cls c = true then Q (.found x.handlerPc) d acts (U.setVm vm2) else wp (findHandler.go f b t) Q E e d acts (U.setVm vm2) := by
  obtain ⟨c, hfc, hcl⟩ := Cond.classLink_spec hown hl e.platform hpl
  obtain ⟨hg₁, hwarm₁, hready₁⟩ := State.classEntry (e := e) hW hcl
  generalize U.vm.noted f.method.cls x.catchType (.cls c) = vm₁ at hg₁ hwarm₁ hready₁
  refine ⟨c, vm₁, hfc, hwarm₁, fun Q E d acts => ?_⟩
  have h1 := zc_cold (E := E) (d := d) (acts := acts) (Q := Q) (t := t) hx h0 hg₁ hready₁ (by rw [hwarm₁.2.1, hW.2.1]; exact Nat.le_refl _) hcell (fun k h => by rw [hvm] at h; cases h) (Vm.classAt_of_findClass (by rw [hwarm₁.alike.findClass]; exact hcls)) (Vm.classAt_of_findClass (by rw [hwarm₁.alike.findClass]; exact hfc))
  rw [hwarm₁.alike.assignable] at h1
  exact h1
theorem zc_take (hpl : e.platform.magicAccessors = ({} : Platform).magicAccessors) (hW : s.WarmedH U.vm) (hown : s.vm.findClass own = some f.method.cls) (hl : (Cond.classLink own x.catchType C).before args s = true) (hx : covers x f.pc = true) (h0 : x.catchType ≠ 0) (hcell : U.heap[b]? = some cell) (hvm : cell.vm = .none) (hcls : s.vm.findClass C = some cell.cls) (hca : (Cond.castable C C).before args s = true) :
    ∃ vm2 : Vm, s.WarmedH vm2 ∧ zFi e U f b (x :: t) (.found x.handlerPc) vm2 := by
  obtain ⟨c, vm2, hfc, hw, h1⟩ := zc_one (t := t) hpl hW hown hl hx h0 hcell hvm hcls
  obtain ⟨c3, c4, hc3, hc4, hasg⟩ := Cond.castable_spec hca
  cases hc3.symm.trans hc4
  cases hc3.symm.trans hfc
  cases hc3.symm.trans hcls
  refine ⟨vm2, hw, fun Q E d acts => ?_⟩
  rw [h1, if_pos hasg]
theorem zc_pass {h : Handler} (hpl : e.platform.magicAccessors = ({} : Platform).magicAccessors) (hW : s.WarmedH U.vm) (hown : s.vm.findClass own = some f.method.cls) (hl : (Cond.classLink own x.catchType C).before args s = true) (hx : covers x f.pc = true) (h0 : x.catchType ≠ 0) (hcell : U.heap[b]? = some cell) (hvm : cell.vm = .none) (hcls : s.vm.findClass C2 = some cell.cls) (hnc : va_Nc C2 C s)
    (rest : ∀ U2 : State, U2.heap = U.heap → s.WarmedH U2.vm → ∃ vm2 : Vm, s.WarmedH vm2 ∧ zFi e U2 f b t h vm2) : ∃ vm2 : Vm, s.WarmedH vm2 ∧ zFi e U f b (x :: t) h vm2 := by
  obtain ⟨c, vm1, hfc, hw, h1⟩ := zc_one (t := t) hpl hW hown hl hx h0 hcell hvm hcls
  obtain ⟨c3, c4, hc3, hc4, hasg⟩ := hnc
  cases hc3.symm.trans hcls
  cases hc4.symm.trans hfc
  obtain ⟨vm2, hw2, h2⟩ := rest (U.setVm vm1) rfl hw
  refine ⟨vm2, hw2, fun Q E d acts => ?_⟩
  rw [h1, if_neg (by rw [hasg]; decide)]
  exact h2 Q E d acts
theorem zc_step {r : List Frame} {vm2 : Vm} {pc : Nat} (hfind : ∀ (Q : Handler → Pre) (E : CtlPost) (d : Bool) (acts : List Action), wp (findHandler f b) Q E e d acts s ↔ Q (.found pc) d acts (s.setVm vm2)) :
    (stepThrowing e s b (.java f :: r)).Is ((s.setVm vm2).setFrames (.java { f with pc := pc, stack := [.ref b] } :: r)) [] := by
  simp only [stepThrowing, searchFrame, vmDo]
  generalize hr : Sem.go _ e false [] s = res
  obtain ⟨as, rfl, ha⟩ := Sem.eq_ok_of hr (a := Handler.found pc) (s' := s.setVm vm2) (acts' := []) (by simp [hfind _ _ _ _])
  exact ⟨rfl, ha⟩
theorem zc_caught {tb : Tables} {T target : State} {g : JFrame} {c : Code} {below : List Frame} {meth : Method} {vm2 : Vm} {pc : Nat} (h : At T g.method c below) (hm : T.vm.method? g.method = some meth) (hc : meth.code = some c) (hfind : zFi e ((T.setTop g).pushFrame (.throwing b)) g b c.exceptionTable.toList (.found pc) vm2)
    (hrest : Steps tb e below ((T.setVm vm2).setTop { g with pc := pc, stack := [.ref b] }) target) : Steps tb e below ((T.setTop g).pushFrame (.throwing b)) target := by
  obtain ⟨hgo, hw⟩ := h.throwing b
  refine Steps.head hgo hw ?_
  have hf2 : ∀ (Q : Handler → Pre) (E : CtlPost) (d : Bool) (acts : List Action), wp (findHandler g b) Q E e d acts ((T.setTop g).pushFrame (.throwing b)) ↔ Q (.found pc) d acts (((T.setTop g).pushFrame (.throwing b)).setVm vm2) := fun Q E d acts =>
    (W.findHandler_eq (by simpa [State.pushFrame, State.setFrames] using hm) hc).trans (hfind Q E d acts)
  rw [stepThread_throwing (frames_entered h.top _), (zc_step (s := (T.setTop g).pushFrame (.throwing b)) hf2).1]
  obtain ⟨g₀, hg⟩ := Option.isSome_iff_exists.mp h.top
  obtain ⟨r, hr⟩ := State.topJava?_eq_some.mp hg
  have hr2 : (T.setVm vm2).frames = .java g₀ :: r := hr
  rw [State.setTop_of_frames _ hr2] at hrest
  rw [State.pushFrame, State.setTop_of_frames _ hr, State.setFrames_setFrames]
  show Steps tb e below (((T.setVm vm2).setFrames _).setFrames _) target
  rw [State.setFrames_setFrames, hr]
  exact hrest
end ZY
