/-! Making: new objects, calls of constructors -/
theorem yws_app (ad : Nat → Nat) (ca : Nat → ClassId) (a b : yW) : yws ad ca (a ++ b) = yws ad ca a ++ yws ad ca b := List.map_append
section YN
variable {own : String} {cc : ByteArray} {nL fr lo mc ms : Nat} {w0 w1 : yW} {Y : Nat → Nat → Nat → List (Option Value) → List Value → yW → Prop} {k n pc : Nat} {lv : List (Option Value)} {st : List Value} {w : yW}
/-- what the tables say of a class whose objects are made -/
def yNw (own : String) (i ci N : Nat) (fs : List Value) : Prop := ∃ (C : String) (T : u_T) (ty : Nat → FieldType), vwCl[ci]? = some (C, T, N) ∧ Cond.classLink own i C ∈ zwd ∧ Cond.instantiable C N ∈ zwd ∧ Cond.initialized C ∈ zwd ∧ (∀ w ∈ u_ws C T N, w ∈ zwd) ∧ (∀ k, k < N → parseFieldDescriptor (T k).2.2.1 = some (ty k)) ∧ (∀ j, j < N → defaultValue (ty j) = vp_V fs j) ∧ (∀ ad, fs.map (zv ad) = fs)
theorem y_new (hR : yR own cc nL fr lo mc ms w0 w1 Y) {i ci N : Nat} {fs : List Value} (o : Nat) (d : decode cc pc = .ok (.new i, 3)) (hG : yNw own i ci N fs) (hfr2 : (yall lv st w).contains o = false) (hno : (w0.map (fun q => q.1)).contains o = false) (hk : k + 1 ≤ mc) (hn : n + N ≤ ms) (kk : Y (k + 1) (n + N) (pc + 3) lv (.ref o :: st) (w ++ [(o, .inr (ci, fs))])) : Y k n pc lv st w := by
  obtain ⟨p, l, e, R, s, m, args, below, meth, c, D, ca, ad0, hx, hb, hml, hown, hts, hN, hK, hret, hlk, hin, hfr, hlo, hmc, rfl⟩ := hR
  intro ad had ls H locs hl hP hD hS
  obtain ⟨C, T, ty, hc, h1, h2, h3, hin2, hty, hfs, hz⟩ := hG
  refine va_new hx hb hts hin2 ty hty hown (hts _ h1) (hts _ h2) (hts _ h3) hK hP hD hS (fun q hq => Or.inr hq) hc hfs (by omega) (by omega) d (fun q H1 g1 g2 g3 => ?_)
  have hfr3 : ∀ a ∈ yall lv st w, va_up ad o q a = ad a := fun a ha => va_up_ne ad _ (fun e => by
    subst e
    rw [List.contains_iff_mem.mpr ha] at hfr2
    cases hfr2)
  have ew : yws (va_up ad o q) ca w = yws ad ca w := yws_same (fun a ha => hfr3 a (List.mem_append_right _ (List.mem_append_right _ ha)))
  have ew2 : yws (va_up ad o q) ca (w ++ [(o, .inr (ci, fs))]) = yws ad ca w ++ [(q, .inr (ci, fs))] := by
    rw [yws, List.map_append]
    show yws (va_up ad o q) ca w ++ [(va_up ad o q o, (Sum.inr (ci, fs.map (zv (va_up ad o q))) : va_E))] = _
    rw [ew, va_up_self, hz]
  have eS : ((Value.ref o :: st)).map (zv (va_up ad o q)) = .ref q :: st.map (zv ad) := by
    rw [List.map_cons, zvs_same (fun a ha => hfr3 a (List.mem_append_right _ (List.mem_append_left _ ha)))]
    show Value.ref (va_up ad o q o) :: _ = _
    rw [va_up_self]
  have kk2 := kk (va_up ad o q) (fun q2 hq => by
    rw [va_up_ne ad _ (fun e => by
      have h9 : (w0.map (fun q => q.1)).contains o = true := List.contains_iff_mem.mpr (e ▸ List.mem_map_of_mem hq)
      rw [h9] at hno
      cases hno)]
    exact had q2 hq) ls H1 locs (by rw [zLv_same lv 0 (fun a ha => hfr3 a (List.mem_append_left _ ha))]; exact hl) (by rw [ew2]; exact g1) (by rw [ew2]; exact g2) g3
  rw [eS] at kk2
  exact kk2
/-- what the tables say of a constructor's call -/
def yCo (own : String) (i : Nat) (y : MethodName) (n : Nat) : Prop := y.name = "<init>" ∧ zCo y n ∧ Cond.instanceMethod y ∈ zwd ∧ (Cond.methodLink own i y ∈ zwd ∨ ∃ host, Cond.methodLinkNest own i y host ∈ zNst)
theorem yU.blind {av : List Value} {D : va_G} {ad : Nat → Nat} {ca : Nat → ClassId} {w : yW} {sz : Nat} : FrameBlind (va_Pc av (fun U => U.heap.size = sz ∧ yU D ca ad w U)) := by
  intro a U g mk h
  obtain ⟨h0, h1, h2, h3, h4, h5⟩ := h
  exact ⟨h0, h1, h2, va_K.moved (u := U) (U := U.calling g mk a) (Vm.Alike.refl U.vm) h3, h4, fun x hx => va_Nw.same (u := U) (U := U.calling g mk a) (zNst_on x hx) rfl (h5 x hx)⟩
theorem zNw_warm {s U : State} (hW : s.WarmedH U.vm) (h : ∀ x ∈ zNst, va_Nw x s) : ∀ x ∈ zNst, va_Nw x U := by
  intro w hw
  have h1 := zNst_is w hw
  have h2 := h w hw
  cases w with
  | fieldLinkNest a i b n d h => exact va_Nw.warmF hW h2
  | methodLinkNest a i x h => exact va_Nw.warmM hW h2
  | declares x => exact va_Nw.warmD hW h2
  | castable a b => exact va_Nw.warmC hW h2
  | _ => cases h1
/-- a constructor's call: the object stands at q in the world; the rest (at the places isR) stays; what comes back stands behind it -/
theorem y_call (hR : yR own cc nL fr lo mc ms w0 w1 Y) {i o q nLY frY loY mcY msY : Nat} {y : MethodName} {ccY : ByteArray} {av : List Value} {eo : yE} {wr w2 : yW} (isR : List Nat) (d : decode cc pc = .ok (.invokespecial i, 3)) (hC : yCo own i y av.length) (hcd : Cond.code y ccY nLY none ∈ zwd) (hM : yM y ccY nLY frY loY mcY msY (.ref o :: av) [(o, eo)] w2) (hf : frY + 1 ≤ fr ∧ 8 + (nLY + 11) + loY ≤ lo) (hw8 : (st.map fun v => v.category).sum ≤ 8)
    (hq : w[q]? = some (o, eo)) (hwr : isR.map (fun j => w[j]?) = wr.map some) (hnd : va_nd isR = true) (hdis : ∀ j ∈ isR, j ∉ [q])
    (hfr2 : (yall lv st wr).all (fun a => a == o || !(w2.map (fun z => z.1)).contains a) = true) (hcl2 : (w2.flatMap (fun z => z.1 :: ycr z.2)).all (fun a => (w2.map (fun z => z.1)).contains a) = true) (hw0 : (w0.map (fun z => z.1)).all (fun a => a == o || !(w2.map (fun z => z.1)).contains a) = true)
    (hk : k + mcY ≤ mc) (hn : n + msY ≤ ms) (kk : Y (k + mcY) (n + msY) (pc + 3) lv st (wr ++ w2)) : Y k n pc lv (av.reverse ++ .ref o :: st) w := by
  obtain ⟨p, l, e, R, s, m, args, below, meth, c, D, ca, ad0, hx, hb, hml, hown, hts, hN, hK, hret, hlk, hin, hfr, hlo, hmc, rfl⟩ := hR
  intro ad had ls H locs hl hP hD hS
  have est : (av.reverse ++ .ref o :: st).map (zv ad) = (av.map (zv ad)).reverse ++ .ref (ad o) :: st.map (zv ad) := by simp [zv]
  have hw9 : ((st.map (zv ad)).map fun v => v.category).sum ≤ 8 := by
    rw [List.map_map]
    have e9 : ((fun v : Value => v.category) ∘ zv ad) = fun v => v.category := funext fun v => zv_cat ad v
    rw [e9]
    exact hw8
  obtain ⟨hyn, ⟨hini, hd⟩, hinst, hlink⟩ := hC
  have hCq : [q].map (fun j => (yws ad ca w)[j]?) = (yws ad ca [(o, eo)]).map some := by
    show [(yws ad ca w)[q]?] = [some _]
    rw [yws_at hq]
  have hRr : isR.map (fun j => (yws ad ca w)[j]?) = (yws ad ca wr).map some := by
    have h1 : (fun j => (yws ad ca w)[j]?) = fun j => (w[j]?).map (fun z : Nat × yE => (ad z.1, ycell ad ca z.2)) := funext fun j => by rw [yws, List.getElem?_map]
    have h2 : isR.map (fun j => (w[j]?).map (fun z : Nat × yE => (ad z.1, ycell ad ca z.2))) = (isR.map (fun j => w[j]?)).map (fun z => z.map (fun z : Nat × yE => (ad z.1, ycell ad ca z.2))) := by rw [List.map_map]; rfl
    rw [h1, h2, hwr, List.map_map, yws, List.map_map]
    rfl
  have hPc := hP.sub (ws' := yws ad ca [(o, eo)]) [q] (by
    show [q].filterMap (fun i => (yws ad ca w)[i]?) = _
    simp only [List.filterMap_cons, List.filterMap_nil, yws_at hq]
    rfl)
  have hDc := hD.sub (ws' := yws ad ca [(o, eo)]) [q] rfl hCq
  have hFc := va_free (wc := yws ad ca [(o, eo)]) hD hS (fun q hq => Or.inr hq) [q] hCq
  have pv : PreS s H (va_Pc ((.ref o :: av).map (zv ad)) (fun U => U.heap.size = H.size ∧ yU D ca ad [(o, eo)] U)) (.ref (ad o) :: av.map (zv ad)) :=
    ⟨yU.blind, fun U hU hW => ⟨rfl, by rw [hU], by rw [hU]; exact hPc, va_K.moved hW.alike hK, hDc.weaken (fun _ _ _ _ => trivial), zNw_warm hW hN⟩⟩
  have hfr2' : frY + 1 ≤ R.frames ∧ 8 + (nLY + 11) + loY ≤ R.locals := ⟨by omega, by omega⟩
  have hrun : va_Run p l e R s m args below meth c H locs k n mcY msY (F0 m pc ls ((av.map (zv ad)).reverse ++ .ref (ad o) :: st.map (zv ad))) (st.map (zv ad)) (yQ D ca ad H.size [(o, eo)] w2 (Value.ref (ad o) :: av.map (zv ad)).toArray) (va_A (yws ad ca [(o, eo)]) H.size) := by
    rcases hlink with hlink | ⟨host, hlink⟩
    · exact va_runI (As := av.map (zv ad)) (rest := st.map (zv ad)) (n := av.length) ⟨hx, hb, hml, hown, hts⟩ (hM l D ca ad H.size) (cwI av.length hts (zGoodIn hcd) rfl rfl rfl (hts _ hini) (hts _ hlink) (hts _ hinst) hyn hd hfr2') pv rfl (by simp) hl.1 rfl (by show 2 * 0 + _ ≤ 8; omega) d ⟨by omega, by omega⟩
    · exact va_runIN (As := av.map (zv ad)) (rest := st.map (zv ad)) (n := av.length) ⟨hx, hb, hml, hown, hts⟩ (hM l D ca ad H.size) ⟨va_cnB av.length hts (zGoodIn hcd) rfl rfl rfl (hN _ hlink) (hts _ hini) hd hfr2', hyn, hts _ hinst⟩ pv rfl (by simp) hl.1 rfl (by show 2 * 0 + _ ≤ 8; omega) d ⟨by omega, by omega⟩
  rw [est]
  refine va_callv hrun hS (fun q _ h => hFc q h) hFc (fun ad2 t H1 locs1 ht hvm h5 hB hz1 hk1 hS1 => ?_)
  obtain ⟨hP1, hD1⟩ := hB
  rw [ht] at hP1
  obtain ⟨hPj, hDj⟩ := va_join (wr := yws ad ca wr) (w1 := yws ad2 ca w2) hP hD [q] isR hCq hRr hnd hdis hk1 hFc hP1 hD1
  -- the addresses of both
  have e0 : ad2 o = ad o := h5 (o, eo) List.mem_cons_self
  have agR : ∀ a ∈ yall lv st wr, (if (w2.map (fun z => z.1)).contains a then ad2 a else ad a) = ad a := by
    intro a ha
    have h1 := List.all_eq_true.mp hfr2 a ha
    by_cases h2 : a = o
    · subst h2
      split
      · exact e0
      · rfl
    · simp only [Bool.or_eq_true, beq_iff_eq, h2, false_or, Bool.not_eq_true'] at h1
      rw [h1]
      rfl
  have ag2 : ∀ a ∈ w2.flatMap (fun z => z.1 :: ycr z.2), (if (w2.map (fun z => z.1)).contains a then ad2 a else ad a) = ad2 a := by
    intro a ha
    have h1 := List.all_eq_true.mp hcl2 a ha
    rw [if_pos h1]
  have ag0 : ∀ z ∈ w0, (if (w2.map (fun z => z.1)).contains z.1 then ad2 z.1 else ad z.1) = ad0 z.1 := by
    intro z hz
    have h1 := List.all_eq_true.mp hw0 z.1 (List.mem_map_of_mem hz)
    by_cases h2 : z.1 = o
    · rw [h2]
      have h3 := had z hz
      rw [h2] at h3
      split
      · rw [e0]; exact h3
      · exact h3
    · simp only [Bool.or_eq_true, beq_iff_eq, h2, false_or, Bool.not_eq_true'] at h1
      rw [h1]
      exact had z hz
  have eW : yws (fun a => if (w2.map (fun z => z.1)).contains a then ad2 a else ad a) ca (wr ++ w2) = yws ad ca wr ++ yws ad2 ca w2 := by
    rw [yws_app, yws_same (ad := ad) (fun a ha => agR a (List.mem_append_right _ (List.mem_append_right _ ha))), yws_same (ad := ad2) ag2]
  have kk2 := kk (fun a => if (w2.map (fun z => z.1)).contains a then ad2 a else ad a) ag0 ls H1 locs1 (by rw [zLv_same (ad := ad) lv 0 (fun a ha => agR a (List.mem_append_left _ ha))]; exact hl) (by rw [eW]; exact hPj) (by rw [eW]; exact hDj) hS1
  rw [zvs_same (ad := ad) (fun a ha => agR a (List.mem_append_right _ (List.mem_append_left _ ha)))] at kk2
  exact kk2
end YN
