/-! Making in the law's own body: any end, some places fixed -/
def yX (own : String) (cc : ByteArray) (nL fr lo mc ms : Nat) (fx : List Nat) (Y : Nat → Nat → Nat → List (Option Value) → List Value → yW → Prop) : Prop :=
  ∃ (p : Program) (l : Launch) (e : Env) (R : Room) (s : State) (m : MethodId) (args : Array Value) (below : List Frame) (meth : Method) (c : Code) (D : va_G) (ca : Nat → ClassId) (ad0 : Nat → Nat) (A : Nat → Prop) (Q : State → Prop),
    p.tables.exec = Jvm.exec ∧ c.code = cc ∧ c.maxLocals = nL ∧ s.vm.findClass own = some m.cls ∧ (∀ w ∈ zwd, w.before args s = true) ∧ (∀ w ∈ zNst, va_Nw w s) ∧ va_K D vwCl (ztys ca) s ∧ (∀ q, s.heap.size ≤ q → A q) ∧ fr ≤ R.frames ∧ lo ≤ R.locals ∧ (mc ≤ R.cells ∧ ms ≤ R.slots) ∧
    Y = fun k n pc lv st w => ∀ (ad : Nat → Nat), (∀ a ∈ fx, ad a = ad0 a) → ∀ (ls : Array Slot) (H : Heap) (locs : List Loc), lv_has ls nL (zLv ad 0 lv) → va_P D vwCl (yws ad ca w) H → va_D A (yws ad ca w) → va_S A s.heap H locs → W p l e R s m args below meth c H locs k n Q (F0 m pc ls (st.map (zv ad)))
section YX
variable {own : String} {cc : ByteArray} {nL fr lo mc ms : Nat} {fx : List Nat} {Y : Nat → Nat → Nat → List (Option Value) → List Value → yW → Prop} {k n pc : Nat} {lv : List (Option Value)} {st : List Value} {w : yW}
theorem x_iconst (hR : yX own cc nL fr lo mc ms fx Y) {i : Int} {v : Int32} (d : decode cc pc = .ok (.iconst i, 1)) (hv : Int32.ofInt i = v) (kk : Y k n (pc + 1) lv (.int v :: st) w) : Y k n pc lv st w := by
  obtain ⟨p, l, e, R, s, m, args, below, meth, c, D, ca, ad0, A, Q, hx, hb, hml, hown, hts, hN, hK, hA, hfr, hlo, hmc, rfl⟩ := hR
  intro ad had ls H locs hl hP hD hS
  exact lv_iconst hx hb d hv (kk ad had ls H locs hl hP hD hS)
theorem x_dup (hR : yX own cc nL fr lo mc ms fx Y) {x : Nat} (d : decode cc pc = .ok (.dup, 1)) (kk : Y k n (pc + 1) lv (.ref x :: .ref x :: st) w) : Y k n pc lv (.ref x :: st) w := by
  obtain ⟨p, l, e, R, s, m, args, below, meth, c, D, ca, ad0, A, Q, hx, hb, hml, hown, hts, hN, hK, hA, hfr, hlo, hmc, rfl⟩ := hR
  intro ad had ls H locs hl hP hD hS
  exact lv_dup hx hb d rfl (kk ad had ls H locs hl hP hD hS)
theorem x_newa (hR : yX own cc nL fr lo mc ms fx Y) {kd N : Nat} {x : Int32} {at9 : ArrayType} (o : Nat) (d : decode cc pc = .ok (.newarray at9, 2)) (hat : (kd, newarray.typeOf at9) ∈ [(0, FieldType.int), (1, .char), (2, .boolean), (3, .long)]) (harr : Cond.arrayClass (newarray.typeOf at9) ∈ zwd) (hx0 : x = nI N) (hN : N ≤ 4096) (hfr2 : (yall lv st w).contains o = false) (hno : fx.contains o = false) (hk : k + 1 ≤ mc) (hn : n + N ≤ ms) (kk : Y (k + 1) (n + N) (pc + 2) lv (.ref o :: st) (w ++ [(o, .inl (kd, N))])) : Y k n pc lv (.int x :: st) w := by
  obtain ⟨p, l, e, R, s, m, args, below, meth, c, D, ca, ad0, A, Q, hx, hb, hml, hown, hts, hN, hK, hA, hfr, hlo, hmc, rfl⟩ := hR
  intro ad had ls H locs hl hP hD hS
  subst hx0
  have hfr3 : ∀ a ∈ yall lv st w, va_up ad o H.size a = ad a := fun a ha => va_up_ne ad _ (fun e => by
    subst e
    rw [List.contains_iff_mem.mpr ha] at hfr2
    cases hfr2)
  have main : ∀ (ty : FieldType) (a0 : vp_A), newarray.typeOf at9 = ty → (∀ cA : ClassId, vp_cell cA a0 = arrV cA N (fun _ => defaultValue ty)) → (∀ ad2 : Nat → Nat, ycell ad2 ca (.inl (kd, N)) = .inl (ca kd, a0)) → (ztys ca)[kd]? = some (ca kd, ty) → N * componentBytes ty ≤ 536870912 → (∀ (cA : ClassId), va_RA s cA ty → va_RA s (ca kd) ty → cA = ca kd) → W p l e R s m args below meth c H locs k n Q (F0 m pc ls (.int (nI N) :: st.map (zv ad))) := by
    intro ty a0 hty ha0 hcell htk hby heq
    refine va_newaK hx hb (hts _ harr) rfl d rfl (nI_pos (by omega)) (nI_clamp (by omega)) (by rw [hty]; exact hby) (by omega) (by omega) rfl (fun H1 cA e1 z1 o1 hAr hNm => ?_)
    rw [hty] at e1 hAr
    have hRA : va_RA s cA ty := by
      rw [← hty]
      cases at9 <;> exact hNm
    have hcA : cA = ca kd := heq cA hRA (hK.2 kd _ htk).2
    subst hcA
    have hk2 : ∀ (k2 : Nat) (x : Nat × va_E), (yws ad ca w)[k2]? = some x → H1[x.1]? = H[x.1]? := fun k2 x hx2 => o1 x.1 ((hP k2 x hx2).lt)
    have ew : yws (va_up ad o H.size) ca w = yws ad ca w := yws_same (fun a ha => hfr3 a (List.mem_append_right _ (List.mem_append_right _ ha)))
    have ew2 : yws (va_up ad o H.size) ca (w ++ [(o, .inl (kd, N))]) = yws ad ca w ++ [(H.size, .inl (ca kd, a0))] := by
      rw [yws, List.map_append]
      show yws (va_up ad o H.size) ca w ++ [(va_up ad o H.size o, ycell (va_up ad o H.size) ca (.inl (kd, N)))] = _
      rw [ew, va_up_self, hcell]
    have eS : ((Value.ref o :: st)).map (zv (va_up ad o H.size)) = .ref H.size :: st.map (zv ad) := by
      rw [List.map_cons, zvs_same (fun a ha => hfr3 a (List.mem_append_right _ (List.mem_append_left _ ha)))]
      show Value.ref (va_up ad o H.size o) :: _ = _
      rw [va_up_self]
    have kk2 := kk (va_up ad o H.size) (fun q hq => by
      rw [va_up_ne ad _ (fun e => by
        have h9 : fx.contains o = true := List.contains_iff_mem.mpr (e ▸ hq)
        rw [h9] at hno
        cases hno)]
      exact had q hq) ls H1 locs (by rw [zLv_same lv 0 (fun a ha => hfr3 a (List.mem_append_left _ ha))]; exact hl)
      (by
        rw [ew2]
        refine (hP.kept hk2).app (fun k3 x hx3 => ?_)
        have hz : k3 < 1 := (List.getElem?_eq_some_iff.mp hx3).1
        rw [show k3 = 0 by omega] at hx3
        cases hx3
        show H1[H.size]? = some (vp_cell _ _)
        rw [ha0]
        exact e1)
      (by rw [ew2]; exact hD.push hP rfl (hA _ hS.1))
      ⟨Nat.le_trans hS.1 (by omega), fun x h1 h2 => (o1 x (Nat.lt_of_lt_of_le h1 hS.1)).trans (hS.2.1 x h1 h2), hS.2.2⟩
    rw [eS] at kk2
    exact kk2
  simp only [List.mem_cons, Prod.mk.injEq, List.not_mem_nil, or_false] at hat
  rcases hat with ⟨rfl, e9⟩ | ⟨rfl, e9⟩ | ⟨rfl, e9⟩ | ⟨rfl, e9⟩
  · exact main .int (N, .inl (fun _ => 0)) e9 (fun _ => rfl) (fun _ => rfl) rfl (by show N * 4 ≤ _; omega) (fun cA h1 h2 => Option.some.inj (h1.symm.trans h2))
  · exact main .char (N, .inl (fun _ => 0)) e9 (fun _ => rfl) (fun _ => rfl) rfl (by show N * 2 ≤ _; omega) (fun cA h1 h2 => Option.some.inj (h1.symm.trans h2))
  · exact main .boolean (N, .inl (fun _ => 0)) e9 (fun _ => rfl) (fun _ => rfl) rfl (by show N * 1 ≤ _; omega) (fun cA h1 h2 => Option.some.inj (h1.symm.trans h2))
  · exact main .long (N, .inr (.inl (fun _ => 0))) e9 (fun _ => rfl) (fun _ => rfl) rfl (by show N * 8 ≤ _; omega) (fun cA h1 h2 => Option.some.inj (h1.symm.trans h2))
theorem x_new (hR : yX own cc nL fr lo mc ms fx Y) {i ci N : Nat} {fs : List Value} (o : Nat) (d : decode cc pc = .ok (.new i, 3)) (hG : yNw own i ci N fs) (hfr2 : (yall lv st w).contains o = false) (hno : fx.contains o = false) (hk : k + 1 ≤ mc) (hn : n + N ≤ ms) (kk : Y (k + 1) (n + N) (pc + 3) lv (.ref o :: st) (w ++ [(o, .inr (ci, fs))])) : Y k n pc lv st w := by
  obtain ⟨p, l, e, R, s, m, args, below, meth, c, D, ca, ad0, A, Q, hx, hb, hml, hown, hts, hN, hK, hA, hfr, hlo, hmc, rfl⟩ := hR
  intro ad had ls H locs hl hP hD hS
  obtain ⟨C, T, ty, hc, h1, h2, h3, hin2, hty, hfs, hz⟩ := hG
  refine va_new hx hb hts hin2 ty hty hown (hts _ h1) (hts _ h2) (hts _ h3) hK hP hD hS hA hc hfs (by omega) (by omega) d (fun q H1 g1 g2 g3 => ?_)
  have hfr3 : ∀ a ∈ yall lv st w, va_up ad o q a = ad a := fun a ha => va_up_ne ad _ (fun e => by
    subst e
    rw [List.contains_iff_mem.mpr ha] at hfr2
    cases hfr2)
  have ew : yws (va_up ad o q) ca w = yws ad ca w := yws_same (fun a ha => hfr3 a (List.mem_append_right _ (List.mem_append_right _ ha)))
  have ew2 : yws (va_up ad o q) ca (w ++ [(o, .inr (ci, fs))]) = yws ad ca w ++ [(q, .inr (ci, fs))] := by
    rw [yws, List.map_append]
    show yws (va_up ad o q) ca w ++ [(va_up ad o q o, (Sum.inr (ci, fs.map (zv (va_up ad o q))) : va_E))] = _
    rw [ew, va_up_self, hz]
  have eS : ((Value.ref o :: st)).map (zv (va_up ad o q)) = .ref q :: st.map (zv ad) := by
    rw [List.map_cons, zvs_same (fun a ha => hfr3 a (List.mem_append_right _ (List.mem_append_left _ ha)))]
    show Value.ref (va_up ad o q o) :: _ = _
    rw [va_up_self]
  have kk2 := kk (va_up ad o q) (fun q2 hq => by
    rw [va_up_ne ad _ (fun e => by
      have h9 : fx.contains o = true := List.contains_iff_mem.mpr (e ▸ hq)
      rw [h9] at hno
      cases hno)]
    exact had q2 hq) ls H1 locs (by rw [zLv_same lv 0 (fun a ha => hfr3 a (List.mem_append_left _ ha))]; exact hl) (by rw [ew2]; exact g1) (by rw [ew2]; exact g2) g3
  rw [eS] at kk2
  exact kk2
theorem x_call (hR : yX own cc nL fr lo mc ms fx Y) {i o q nLY frY loY mcY msY : Nat} {y : MethodName} {ccY : ByteArray} {av : List Value} {eo : yE} {wr w2 : yW} (isR : List Nat) (d : decode cc pc = .ok (.invokespecial i, 3)) (hC : yCo own i y av.length) (hcd : Cond.code y ccY nLY none ∈ zwd) (hM : yM y ccY nLY frY loY mcY msY (.ref o :: av) [(o, eo)] w2) (hf : frY + 1 ≤ fr ∧ 8 + (nLY + 11) + loY ≤ lo) (hw8 : (st.map fun v => v.category).sum ≤ 8)
    (hq : w[q]? = some (o, eo)) (hwr : isR.map (fun j => w[j]?) = wr.map some) (hnd : va_nd isR = true) (hdis : ∀ j ∈ isR, j ∉ [q])
    (hfr2 : (yall lv st wr).all (fun a => a == o || !(w2.map (fun z => z.1)).contains a) = true) (hcl2 : (w2.flatMap (fun z => z.1 :: ycr z.2)).all (fun a => (w2.map (fun z => z.1)).contains a) = true) (hw0 : fx.all (fun a => a == o || !(w2.map (fun z => z.1)).contains a) = true)
    (hk : k + mcY ≤ mc) (hn : n + msY ≤ ms) (kk : Y (k + mcY) (n + msY) (pc + 3) lv st (wr ++ w2)) : Y k n pc lv (av.reverse ++ .ref o :: st) w := by
  obtain ⟨p, l, e, R, s, m, args, below, meth, c, D, ca, ad0, A, Q, hx, hb, hml, hown, hts, hN, hK, hA, hfr, hlo, hmc, rfl⟩ := hR
  intro ad had ls H locs hl hP hD hS
  have est : (av.reverse ++ .ref o :: st).map (zv ad) = (av.map (zv ad)).reverse ++ .ref (ad o) :: st.map (zv ad) := by simp [zv]
  have hw9 : ((st.map (zv ad)).map fun v => v.category).sum ≤ 8 := by
    rw [List.map_map]
    have e9 : ((fun v : Value => v.category) ∘ zv ad) = fun v => v.category := funext fun v => zv_cat ad v
    rw [e9]
    exact hw8
  obtain ⟨hyn, ⟨hini, hd⟩, hinst, hlink⟩ := hC
  have hCq : [q].map (fun j => (yws ad ca w)[j]?) = (yws ad ca [(o, eo)]).map some := by
    show [(yws ad ca w)[q]?] = [some _]
    rw [yws_at hq]
  have hRr : isR.map (fun j => (yws ad ca w)[j]?) = (yws ad ca wr).map some := by
    have h1 : (fun j => (yws ad ca w)[j]?) = fun j => (w[j]?).map (fun z : Nat × yE => (ad z.1, ycell ad ca z.2)) := funext fun j => by rw [yws, List.getElem?_map]
    have h2 : isR.map (fun j => (w[j]?).map (fun z : Nat × yE => (ad z.1, ycell ad ca z.2))) = (isR.map (fun j => w[j]?)).map (fun z => z.map (fun z : Nat × yE => (ad z.1, ycell ad ca z.2))) := by rw [List.map_map]; rfl
    rw [h1, h2, hwr, List.map_map, yws, List.map_map]
    rfl
  have hPc := hP.sub (ws' := yws ad ca [(o, eo)]) [q] (by
    show [q].filterMap (fun i => (yws ad ca w)[i]?) = _
    simp only [List.filterMap_cons, List.filterMap_nil, yws_at hq]
    rfl)
  have hDc := hD.sub (ws' := yws ad ca [(o, eo)]) [q] rfl hCq
  have hFc := va_free (wc := yws ad ca [(o, eo)]) hD hS hA [q] hCq
  have pv : PreS s H (va_Pc ((.ref o :: av).map (zv ad)) (fun U => U.heap.size = H.size ∧ yU D ca ad [(o, eo)] U)) (.ref (ad o) :: av.map (zv ad)) :=
    ⟨yU.blind, fun U hU hW => ⟨rfl, by rw [hU], by rw [hU]; exact hPc, va_K.moved hW.alike hK, hDc.weaken (fun _ _ _ _ => trivial), zNw_warm hW hN⟩⟩
  have hfr2' : frY + 1 ≤ R.frames ∧ 8 + (nLY + 11) + loY ≤ R.locals := ⟨by omega, by omega⟩
  have hrun : va_Run p l e R s m args below meth c H locs k n mcY msY (F0 m pc ls ((av.map (zv ad)).reverse ++ .ref (ad o) :: st.map (zv ad))) (st.map (zv ad)) (yQ D ca ad H.size [(o, eo)] w2 (Value.ref (ad o) :: av.map (zv ad)).toArray) (va_A (yws ad ca [(o, eo)]) H.size) := by
    rcases hlink with hlink | ⟨host, hlink⟩
    · exact va_runI (As := av.map (zv ad)) (rest := st.map (zv ad)) (n := av.length) ⟨hx, hb, hml, hown, hts⟩ (hM l D ca ad H.size) (cwI av.length hts (zGoodIn hcd) rfl rfl rfl (hts _ hini) (hts _ hlink) (hts _ hinst) hyn hd hfr2') pv rfl (by simp) hl.1 rfl (by show 2 * 0 + _ ≤ 8; omega) d ⟨by omega, by omega⟩
    · exact va_runIN (As := av.map (zv ad)) (rest := st.map (zv ad)) (n := av.length) ⟨hx, hb, hml, hown, hts⟩ (hM l D ca ad H.size) ⟨va_cnB av.length hts (zGoodIn hcd) rfl rfl rfl (hN _ hlink) (hts _ hini) hd hfr2', hyn, hts _ hinst⟩ pv rfl (by simp) hl.1 rfl (by show 2 * 0 + _ ≤ 8; omega) d ⟨by omega, by omega⟩
  rw [est]
  refine va_callv hrun hS (fun q _ h => hFc q h) hFc (fun ad2 t H1 locs1 ht hvm h5 hB hz1 hk1 hS1 => ?_)
  obtain ⟨hP1, hD1⟩ := hB
  rw [ht] at hP1
  obtain ⟨hPj, hDj⟩ := va_join (wr := yws ad ca wr) (w1 := yws ad2 ca w2) hP hD [q] isR hCq hRr hnd hdis hk1 hFc hP1 hD1
  -- the addresses of both
  have e0 : ad2 o = ad o := h5 (o, eo) List.mem_cons_self
  have agR : ∀ a ∈ yall lv st wr, (if (w2.map (fun z => z.1)).contains a then ad2 a else ad a) = ad a := by
    intro a ha
    have h1 := List.all_eq_true.mp hfr2 a ha
    by_cases h2 : a = o
    · subst h2
      split
      · exact e0
      · rfl
    · simp only [Bool.or_eq_true, beq_iff_eq, h2, false_or, Bool.not_eq_true'] at h1
      rw [h1]
      rfl
  have ag2 : ∀ a ∈ w2.flatMap (fun z => z.1 :: ycr z.2), (if (w2.map (fun z => z.1)).contains a then ad2 a else ad a) = ad2 a := by
    intro a ha
    have h1 := List.all_eq_true.mp hcl2 a ha
    rw [if_pos h1]
  have ag0 : ∀ z ∈ fx, (if (w2.map (fun z => z.1)).contains z then ad2 z else ad z) = ad0 z := by
    intro z hz
    have h1 := List.all_eq_true.mp hw0 z hz
    by_cases h2 : z = o
    · rw [h2]
      have h3 := had z hz
      rw [h2] at h3
      split
      · rw [e0]; exact h3
      · exact h3
    · simp only [Bool.or_eq_true, beq_iff_eq, h2, false_or, Bool.not_eq_true'] at h1
      rw [h1]
      exact had z hz
  have eW : yws (fun a => if (w2.map (fun z => z.1)).contains a then ad2 a else ad a) ca (wr ++ w2) = yws ad ca wr ++ yws ad2 ca w2 := by
    rw [yws_app, yws_same (ad := ad) (fun a ha => agR a (List.mem_append_right _ (List.mem_append_right _ ha))), yws_same (ad := ad2) ag2]
  have kk2 := kk (fun a => if (w2.map (fun z => z.1)).contains a then ad2 a else ad a) ag0 ls H1 locs1 (by rw [zLv_same (ad := ad) lv 0 (fun a ha => agR a (List.mem_append_left _ ha))]; exact hl) (by rw [eW]; exact hPj) (by rw [eW]; exact hDj) hS1
  rw [zvs_same (ad := ad) (fun a ha => agR a (List.mem_append_right _ (List.mem_append_left _ ha)))] at kk2
  exact kk2
theorem x_astore (hR : yX own cc nL fr lo mc ms fx Y) {i : Fin 4} {x : Nat} (d : decode cc pc = .ok (.astore_n i, 1)) (hi : (i : Nat) < nL) (ho : zLok lv i = true) (kk : Y k n (pc + 1) (lv.set i (some (.ref x))) st w) : Y k n pc lv (.ref x :: st) w := by
  obtain ⟨p, l, e, R, s, m, args, below, meth, c, D, ca, ad0, A, Q, hx, hb, hml, hown, hts, hN, hK, hA, hfr, hlo, hmc, rfl⟩ := hR
  intro ad had ls H locs hl hP hD hS
  exact lv_astore_n hx hb d rfl hl hi rfl (fun ls1 h1 => kk ad had ls1 H locs (zLv_set1 (v := .ref x) h1 ho) hP hD hS)
end YX
