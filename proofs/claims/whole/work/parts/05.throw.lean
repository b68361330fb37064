/-! An exception of the class's own: made, and thrown out of the method -/
section ZT
variable {p : Program} {l : Launch} {e : Env} {R : Room} {s : State} {m : MethodId} {args : Array Value} {below : List Frame} {meth : Method} {c : Code} {T : State} {locs : List Loc} {cells slots : Nat}
/-- the same point, told from now on -/
theorem zRebase (X : Stand p l e R s m args below meth c T locs cells slots) (hc : cells ≤ R.cells) (hs : slots ≤ R.slots) :
    Stand p l e { R with cells := R.cells - cells, slots := R.slots - slots } ({ s with heap := T.heap, slotsUsed := T.slotsUsed } : State) m args below meth c T [] 0 0 := by
  have hr := X.room
  have h1 := X.heapSize
  have h2 := X.used
  have h3 := X.book
  refine ⟨X.admits, X.cas, X.clock, X.frames, ?_, X.hears, X.method, X.code, X.here, X.tail, State.WarmedH.of_rootvm (s := s) rfl X.warmed, X.limits, X.bytes, ?_⟩
  · simp only [State.hasRoom, Bool.and_eq_true, decide_eq_true_eq] at hr ⊢
    obtain ⟨⟨⟨⟨r1, r2⟩, r3⟩, r4⟩, r5⟩ := hr
    refine ⟨⟨⟨⟨r1, r2⟩, ?_⟩, ?_⟩, h3⟩
    · show T.heap.size + (R.cells - cells) ≤ _
      omega
    · show T.slotsUsed + (R.slots - slots) ≤ _
      omega
  · refine ⟨?_, Nat.le_refl _, Nat.le_refl _, ?_, ?_, fun a c h => ⟨c, h, rfl, rfl, fun _ _ => rfl⟩⟩
    · have h4 := X.same.1
      exact h4
    · show T.slotsUsed = T.slotsUsed + ((T.heap.toList.drop T.heap.size).map (·.slots.size)).sum
      rw [List.drop_eq_nil_of_le (by simp)]
      rfl
    · show ((T.heap.toList.drop T.heap.size).map (·.slots.size)).sum ≤ 0
      rw [List.drop_eq_nil_of_le (by simp)]
      exact Nat.le_refl _
end ZT
theorem zq_isRef {args : Array Value} {s : State} {C n d : String} {A : Nat → Prop} (h : va_Zq C n d A s s.heap) : (Cond.isRef (.static C n d)).before args s = true := by
  rcases h with h | ⟨t, h⟩
  · obtain ⟨cf, kf, fi, f, a, cell, h1, h2, h3, h4, h5, h6, h7, h8⟩ := h
    simp [Cond.before, Cond.holds, Cond.value, Term.eval, State.fieldNamed?, h1, h2, h4, h5, h6, h7]
  · obtain ⟨cf, kf, fi, f, a, cell, h1, h2, h3, h4, h5, h6, h7, h8⟩ := h
    simp [Cond.before, Cond.holds, Cond.value, Term.eval, State.fieldNamed?, h1, h2, h4, h5, h6, h7]
/-- the words of a throw that the tables hold -/
def zTh (own : String) (i ic x : Nat) : Prop := Cond.classLink own i (zxc x) ∈ zwd ∧ Cond.instantiable (zxc x) 6 ∈ zwd ∧ Cond.initialized (zxc x) ∈ zwd ∧
  ∀ a ∈ Bundle.ownAtoms0 own ic (zxc x) ["java/lang/RuntimeException", "java/lang/Exception"], (a ∈ zwd ∧ a.onTables = true) ∨ a ∈ zNst ∨ a = .isRef (.static Bundle.tN "UNASSIGNED_STACK" Bundle.steD) ∨ a = .isRef (.static Bundle.tN "SUPPRESSED_SENTINEL" Bundle.listD) ∨ a = .laysStatic Bundle.tN "UNASSIGNED_STACK" Bundle.steD ∨ a = .laysStatic Bundle.tN "SUPPRESSED_SENTINEL" Bundle.listD
theorem zTh_of {own : String} {ic : Nat} {C : String} (h : (Bundle.ownAtoms0 own ic C ["java/lang/RuntimeException", "java/lang/Exception"]).all (fun a => (decide (a ∈ lw_tbl) && goodWord a && a.onTables) || decide (a ∈ zNst) || decide (a = .isRef (.static Bundle.tN "UNASSIGNED_STACK" Bundle.steD)) || decide (a = .isRef (.static Bundle.tN "SUPPRESSED_SENTINEL" Bundle.listD)) || decide (a = .laysStatic Bundle.tN "UNASSIGNED_STACK" Bundle.steD) || decide (a = .laysStatic Bundle.tN "SUPPRESSED_SENTINEL" Bundle.listD)) = true) :
    ∀ a ∈ Bundle.ownAtoms0 own ic C ["java/lang/RuntimeException", "java/lang/Exception"], (a ∈ zwd ∧ a.onTables = true) ∨ a ∈ zNst ∨ a = .isRef (.static Bundle.tN "UNASSIGNED_STACK" Bundle.steD) ∨ a = .isRef (.static Bundle.tN "SUPPRESSED_SENTINEL" Bundle.listD) ∨ a = .laysStatic Bundle.tN "UNASSIGNED_STACK" Bundle.steD ∨ a = .laysStatic Bundle.tN "SUPPRESSED_SENTINEL" Bundle.listD := by
  intro a ha
  have h1 := List.all_eq_true.mp h a ha
  simp only [Bool.or_eq_true, Bool.and_eq_true, decide_eq_true_eq] at h1
  rcases h1 with ((((⟨⟨h1, h2⟩, h3⟩ | h1) | h1) | h1) | h1) | h1
  · exact Or.inl ⟨List.mem_filter.mpr ⟨h1, h2⟩, h3⟩
  · exact Or.inr (Or.inl h1)
  · exact Or.inr (Or.inr (Or.inl h1))
  · exact Or.inr (Or.inr (Or.inr (Or.inl h1)))
  · exact Or.inr (Or.inr (Or.inr (Or.inr (Or.inl h1))))
  · exact Or.inr (Or.inr (Or.inr (Or.inr (Or.inr h1))))
section ZU
variable {own : String} {cc : ByteArray} {nL fr lo mc : Nat} {ret : Option FieldType} {po : Option Value → zS → Prop} {pt : Nat → zS → Prop} {Z : Nat → Nat → List (Option Value) → List Value → zS → Prop}
theorem zxc_fit (x : Nat) : Bundle.fit (zxc x) = true := by
  unfold zxc
  split <;> decide +kernel
theorem z_throw (hR : zR own cc nL fr lo mc [] ret po pt Z) {k pc i ic x : Nat} {lv : List (Option Value)} {σ : zS} (d0 : decode cc pc = .ok (.new i, 3)) (d3 : decode cc (pc + 3) = .ok (.dup, 1)) (d4 : decode cc (pc + 4) = .ok (.invokespecial ic, 3)) (d7 : decode cc (pc + 7) = .ok (.athrow, 1)) (hT : zTh own i ic x) (hk : k + 1 ≤ mc) (hf6 : 6 ≤ fr) (hl81 : 81 ≤ lo) (h : pt x σ) : Z k pc lv [] σ := by
  obtain ⟨p, l, e, R, s, m, args, below, meth, c, D, ad, ca, A, hx, hb, hml, hown, hts, hE, hK, hD, hA, hret, hlk, hfr, hlo, hmc, htr, hex, hAc, rfl⟩ := hR
  intro ls H locs hl hP hS T hT0 X0
  obtain ⟨hcl, hins, hini, hat⟩ := hT
  have X := zRebase X0 (by omega) (by omega)
  have htr2 : e.platform.stackTraces = false := by rw [show e.platform.stackTraces = l.stackTraces by rw [X.admits.platform]]; exact htr
  -- the words at the point from which the rest is told
  have hE2 : zEn ({ s with heap := T.heap, slotsUsed := T.slotsUsed } : State) T.heap A (ad 999) := by
    have h1 := hE.kept (H1 := T.heap) (fun a h1 h2 => by rw [hT0]; exact hS.2.1 a h1 h2)
    exact zEn.same (u := s) (U := ({ s with heap := T.heap, slotsUsed := T.slotsUsed } : State)) rfl h1
  have htab : ∀ w, w ∈ zwd → w.onTables = true → w.before args ({ s with heap := T.heap, slotsUsed := T.slotsUsed } : State) = true := fun w hw ho => va_tabs ho (u := s) (U := ({ s with heap := T.heap, slotsUsed := T.slotsUsed } : State)) rfl (hts w hw)
  have hatoms : ∀ a ∈ Bundle.ownAtoms0 own ic (zxc x) ["java/lang/RuntimeException", "java/lang/Exception"], a.before args ({ s with heap := T.heap, slotsUsed := T.slotsUsed } : State) = true := by
    intro a ha
    rcases hat a ha with ⟨h1, h2⟩ | h1 | h1 | h1 | h1 | h1
    · exact htab a h1 h2
    · exact va_Nw.use (zNst_on a h1) (hE2.1 a h1)
    · rw [h1]
      exact zq_isRef hE2.2.2.2.1
    · rw [h1]
      exact zq_isRef hE2.2.2.2.2.1
    · rw [h1]
      exact zLs.word hE2.2.2.2.2.2.2.1
    · rw [h1]
      exact zLs.word hE2.2.2.2.2.2.2.2
  obtain ⟨vm₁, cX, kX, hfX, hkX, -, -, X₁, st1⟩ := X.newCold hx (own := own) (C := zxc x) (index := i) (n := 6) hown (htab _ hcl rfl) (htab _ hins rfl) (htab _ hini rfl) (g := F0 m pc ls []) rfl (by rw [hb]; exact d0) (by show 0 + 1 ≤ R.cells - k; omega) (by show 0 + 6 ≤ R.slots - 6 * k; omega)
  generalize hT1 : (T.setVm vm₁).pushCell { cls := cX, slots := kX.instanceTypes.map defaultValue, vm := .none } = T1 at X₁ st1
  have hcellA : T1.heap[T.heap.size]? = some (freshCell cX kX) := by rw [← hT1]; exact State.heap_pushCell_size _ _
  obtain ⟨U, hsteps, hrun, hend, hW, hsame, ce, hce, K⟩ := X₁.ctorThrow0 hx htr2 (own := own) (cls := zxc x) (names := ["java/lang/RuntimeException", "java/lang/Exception"]) (ic := ic) hown (zxc_fit x) (by decide +kernel) hatoms (fun y hy => by cases hy) hfX hkX hcellA (Nat.le_refl _)
    (g := F0 m (pc + 4) ls [.ref T.heap.size, .ref T.heap.size]) rfl (by rw [hml]; exact hl.1) rfl rfl (rest := []) rfl (by rw [hb]; exact d4) (by rw [hb]; exact d7) (fun y hy => by rw [hex] at hy; cases hy) (by show 2 + 3 < R.frames; omega) (by show 2 * 0 + 1 + (13 * (2 + 1) + 41) ≤ R.locals; omega) hlk
  obtain ⟨q1, q2, q3, q4, q5, q6⟩ := hsame
  have kept : ∀ q : Nat, q < T.heap.size → U.heap[q]? = T.heap[q]? := by
    intro q hq
    have hq2 : T.heap[q]? = some T.heap[q] := Array.getElem?_eq_getElem hq
    obtain ⟨c2, e1, e2, e3, e4⟩ := q6 q _ hq2
    have e5 : c2.slots = (T.heap[q]).slots := Array.ext_getElem? (fun i => e4 i (fun z => by cases z))
    have e6 : c2 = T.heap[q] := by rw [e2, e5]
    rw [hq2]
    rw [e6] at e1
    exact e1
  have hsz : H.size ≤ U.heap.size := by
    have : T.heap.size ≤ U.heap.size := q2
    rw [hT0] at this
    exact this
  have hP2 : va_P D vwCl (zws ad ca σ) U.heap := hP.kept (fun k2 q hq => by
    have h1 : q.1 < T.heap.size := by rw [hT0]; exact (hP k2 q hq).lt
    rw [kept q.1 h1, hT0])
  refine ⟨U, st1 _ ?_, .threw T.heap.size, hrun, hend, ⟨⟨Nat.le_trans hS.1 hsz, fun q h1 h2 => ?_⟩, Or.inr ⟨x, T.heap.size, ce, σ, rfl, h, hP2, ?_, hce, K.vm, K.cls⟩⟩, locs, ⟨State.WarmedH.of_rootvm (s := ({ s with heap := T.heap, slotsUsed := T.slotsUsed } : State)) rfl hW, ?_⟩, hS.2.2⟩
  · jvm_step X₁.here [X₁.here.top, hx, hb, d3, Value.category]
    exact hsteps
  · have h3 : q < T.heap.size := by rw [hT0]; exact Nat.lt_of_lt_of_le h1 hS.1
    rw [kept q h3, hT0]
    exact hS.2.1 q h1 h2
  · rw [hT0]
    exact hS.1
  · have e1 : T.setVm s.vm = { s.setFrames T.frames with heap := T.heap, slotsUsed := T.slotsUsed } := X0.same.1
    have e2 : ({ (T.setVm s.vm).setFrames U.frames with heap := U.heap, slotsUsed := U.slotsUsed } : State) = { s.setFrames U.frames with heap := U.heap, slotsUsed := U.slotsUsed } := by
      rw [e1]
      show ({ (s.setFrames T.frames).setFrames U.frames with heap := U.heap, slotsUsed := U.slotsUsed } : State) = _
      rw [State.setFrames_setFrames]
    have e3 : (T.setVm s.vm).sameButNew ({ U with vm := s.vm } : State) [] (0 + 1) (0 + 6) := ⟨by
      show ({ U with vm := s.vm } : State) = ({ (T.setVm s.vm).setFrames U.frames with heap := U.heap, slotsUsed := U.slotsUsed } : State)
      rw [e2]
      exact q1, q2, q3, q4, q5, q6⟩
    exact (X0.same.trans e3).weaken (fun y hy _ => by simpa using hy) (by omega) (by omega)
end ZU
