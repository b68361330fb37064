/-! Each call keeps both alike: the calls that rest on a formula -/
theorem zno_same {f f2 : Nat → Int32} {n : Nat} (h : ∀ j, j < n → f j = f2 j) (hn : n < 2 ^ 31) (k : Int32) : zno f n k = zno f2 n k := by
  unfold zno
  by_cases h1 : k = -1
  · rw [if_pos h1, if_pos h1]
  rw [if_neg h1, if_neg h1]
  by_cases h2 : k < 0
  · rw [if_pos h2, if_pos h2]
  rw [if_neg h2, if_neg h2]
  by_cases h3 : nI n ≤ k
  · rw [if_pos h3, if_pos h3]
  rw [if_neg h3, if_neg h3]
  rcases pk_ix k hn with q | q | ⟨j, hj, rfl⟩
  · exact absurd q h2
  · exact absurd q h3
  · rw [nI_clamp (by omega), h j hj]
theorem nfx_nar {g : Nat → Int32 × Int32 × Int32} : ∀ (n x a : Nat) (neg : Bool), x < n → tTT g a x → x < 2 ^ 31 → ∀ s ∈ nfx g x neg, vp_nar .char s = s
  | 0, _, _, _, h, _, _ => absurd h (by omega)
  | n + 1, x, a, neg, hn, h, hx => by
    rcases nfx_tree h hx neg with ⟨h1, h2, e1, e2, e3⟩ | ⟨h1, l, e1, e2, t1, e3⟩ | ⟨h1, h2, m, l1, l2, e1, e2, t1, t2, e3⟩
    · rw [e3]
      exact hs_nar (nd_in (Or.inl h1)) neg
    · intro s hs'
      rw [e3] at hs'
      rcases List.mem_append.mp hs' with q | q
      · exact hs_nar (nd_in (Or.inr (by omega))) neg s q
      · exact nfx_nar n (x - 1) a _ (by omega) t1 (by omega) s q
    · intro s hs'
      rw [e3] at hs'
      rcases List.mem_append.mp hs' with q | q
      · exact hs_nar (nd_in (Or.inr h1)) neg s q
      · rcases List.mem_append.mp q with q | q
        · exact nfx_nar n m a _ (by omega) t1 (by omega) s q
        · exact nfx_nar n (x - 1) (m + 1) _ (by omega) t2 (by omega) s q
theorem s_normal {σ : zS} (h : Inv σ) (a : Int32) : sp_normal Inv σ a := by
  have h0 := h
  obtain ⟨hT, hS, hR, hF⟩ := h
  rcases hF with ⟨m1, m2⟩ | ⟨g, n, hG, _, _, _⟩
  · refine ⟨6, 90, _, _, m_PC_nm0 a σ m1, by decide, by decide, fun _ _ q => q.elim, ?_⟩
    rintro x σ1 ⟨rfl, rfl⟩
    refine ⟨rfl, 0, 0, _, m_MO_nm0 a σ1 m2, by decide, by decide, ?_⟩
    rintro r σ2 ⟨rfl, rfl⟩
    exact ⟨⟨_, rfl⟩, by rw [zwA_ss]; rfl, by decide, Inv_t 1 zfr.rf h0⟩
  · obtain ⟨f1, _, _⟩ := iG_f hG
    obtain ⟨g1, g2, g3, g4, ⟨⟨o1, o2⟩, _, _⟩, ⟨_, _, _, _, q1, q2⟩, g7⟩ := hG
    have hz0 := f1.2.2.2.1
    have hz7 := f1.2.2.2.2.1
    refine ⟨6, 90, _, _, m_PC_nm1 a σ o1 hz0 hz7 (fun j hj => ?_), by decide, by decide, ?_, fun _ _ q => q.elim⟩
    · have e : vp_nar .char (σ.1 35 j) = σ.1 35 j := by
        rw [o2 j hj, show (nfx g (n - 1) false).getD j 0 = (nfx g (n - 1) false)[j] by simp [List.getD, hj]]
        exact nfx_nar n (n - 1) 0 false (by omega) g3 (by omega) _ (List.getElem_mem hj)
      exact congrArg Value.int e
    · rintro r σ1 ⟨rfl, rfl⟩
      refine ⟨_, rfl, 0, 0, _, m_MO_nm1 a (zwL σ1 73 0 (zno (σ1.1 35) (iZ g n) a).toInt64) g7 q1 (Nat.le_trans hz7 (by decide)), by decide, by decide, ?_⟩
      rintro r σ2 ⟨rfl, rfl⟩
      refine ⟨_, rfl, by rw [zwA_ss], ?_, Inv_t 0 zfr.l73 h0⟩
      show (zwL σ1 73 0 _).2 73 0 = _
      rw [zwL_ss, zno_same (f := σ1.1 35) (f2 := σ1.1 56) (fun j hj => by rw [o2 j hj, q2 j hj]) (by omega) a]
      rfl
def okC (o : Nat) : Bool := decide (o = 0 ∨ (11 ≤ o ∧ o ≤ 33) ∨ o = 45 ∨ (60 ≤ o ∧ o ≤ 73))
/-- new answers are kept -/
theorem Inv_ca {l : List Nat} {σ σ2 : zS} {g : Nat → Int32 × Int32 × Int32} {n : Nat} (hf : zfr l σ σ2) (hl : l.all okC = true) (k0 : σ2.1 0 1 = σ.1 0 1) (k45 : ∀ j ∈ [1, 3, 4, 9, 19, 23], σ2.1 45 j = σ.1 45 j) (hG : iG σ g n) (c : σ2.1 0 10 = 0 ∨ (σ2.1 0 10 = 1 ∧ cC σ2 (iZ g n) (tcn g n))) (m : σ2.1 45 25 = 0 ∨ (σ2.1 45 25 = 1 ∧ mD σ2 g n (jn σ))) (hQ : mQ (cB σ (iZ g n)) σ2) (h : Inv σ) : Inv σ2 ∧ iG σ2 g n ∧ jn σ2 = jn σ ∧ cB σ2 (iZ g n) = cB σ (iZ g n) ∧ σ2.1 57 = σ.1 43 ∧ σ2.1 43 = σ.1 43 := by
  obtain ⟨a1, a2, a3, a4⟩ := h
  have hd : ∀ o, ¬ (o = 0 ∨ (11 ≤ o ∧ o ≤ 33) ∨ o = 45 ∨ (60 ≤ o ∧ o ≤ 73)) → o ∉ l := fun o ho => ok_n hl (decide_eq_false ho)
  have hS : iSame σ σ2 := iSame_z hf (List.all_eq_true.mpr (fun o ho => by
    have := List.all_eq_true.mp hl o ho
    simp only [okC, okS, decide_eq_true_iff] at this ⊢
    omega)) (fun j hj => k45 j (by simp at hj ⊢; omega))
  have hj : jn σ2 = jn σ := jn_fr hf (hd 44 (by decide))
  have hB : cB σ2 (iZ g n) = cB σ (iZ g n) := by
    unfold cB
    rw [hj, hf.1 35 (hd 35 (by decide)), hf.1 36 (hd 36 (by decide)), hf.1 43 (hd 43 (by decide))]
  have hG2 := iG_fr hS hG
  refine ⟨⟨iT_z k0 (k45 1 (by decide)) (hf.1 1 (hd 1 (by decide))) (hf.1 46 (hd 46 (by decide))) a1, iS_z hf (hd 43 (by decide)) (hd 44 (by decide)) (hd 57 (by decide)) (hd 58 (by decide)) a2, iR_z (by rw [hf.1 8 (hd 8 (by decide))]) (k45 23 (by decide)) (hf.1 9 (hd 9 (by decide))) (hf.1 59 (hd 59 (by decide))) a3, Or.inr ⟨g, n, hG2, c, ?_, ?_⟩⟩, hG2, hj, hB, by rw [hf.1 57 (hd 57 (by decide))]; exact a2.1, hf.1 43 (hd 43 (by decide))⟩
  · rw [hj]
    exact m
  · rw [hB]
    exact hQ
/-- both find the same of all paths -/
theorem up_both {σ σ1 σ2 : zS} {v : Int64} {g : Nat → Int32 × Int32 × Int32} {n : Nat} (h : Inv σ) (hG : iG σ g n) (hQ : mQ (cB σ (iZ g n)) σ) (f1 : zfr upL σ σ1) (u1 : ∀ j, j ≠ 10 → σ1.1 0 j = σ.1 0 j) (u2 : σ1.1 0 10 = 1) (u3 : cC σ1 (iZ g n) (tcn g n)) (f2 : zfr stL (zwL σ1 73 0 v) σ2) (d2 : zfd [0, 25] (zwL σ1 73 0 v) σ2) (w25 : σ2.1 45 25 = 1) (wD : mD σ2 g n (jn σ)) : Inv σ2 ∧ (∀ b q, q < 6 → (pS σ1 b q ↔ mS σ2 (tcn g n) b q)) ∧ σ2.2 73 0 = v := by
  have ff : zfr [0, 11, 17, 18, 19, 20, 21, 22, 23, 24, 25, 26, 27, 28, 29, 30, 31, 32, 33, 45, 60, 61, 62, 63, 65, 66, 67, 73] σ σ2 := ((f1.mo (by decide)).tr (zfr.rf.wL _ (by decide))).tr (f2.mo (by decide))
  have e : ∀ o, o ∉ stL → σ2.1 o = σ1.1 o := fun o ho => f2.1 o ho
  have k45 : ∀ j, j ≠ 0 → j ≠ 25 → σ2.1 45 j = σ.1 45 j := fun j j0 j1 => by
    rw [d2 j (by simp; exact ⟨j0, j1⟩)]
    exact congrFun (f1.1 45 (by decide)) j
  have c2 : cC σ2 (iZ g n) (tcn g n) := cC_lo (fun o h1 h2 => e o (by
    intro hm
    simp only [List.mem_cons, List.not_mem_nil, or_false] at hm
    omega)) u3
  obtain ⟨i1, i2, i3, i4, i5, i6⟩ := Inv_ca ff (by decide) (by rw [e 0 (by decide)]; exact u1 1 (by decide)) (fun j hj => k45 j (by rintro rfl; revert hj; decide) (by rintro rfl; revert hj; decide)) hG (Or.inr ⟨by rw [e 0 (by decide)]; exact u2, c2⟩) (Or.inr ⟨w25, wD⟩) (mQ_fr (fun o h1 h2 => ff.1 o (by
    intro hm
    simp only [List.mem_cons, List.not_mem_nil, or_false] at hm
    omega)) hQ) h
  refine ⟨i1, fun b q hq => ?_, by rw [f2.2 73 (by decide), zwL_ss]⟩
  rw [← iG_some i2 (by rw [i5, i6]) c2 (by rw [i3]; exact wD) b hq]
  unfold pS
  rw [e 18 (by decide), e 32 (by decide)]
theorem mF_up {σ τ : zS} {g : Nat → Int32 × Int32 × Int32} {n : Nat} (h : Inv σ) (hG : iG σ g n) (hm : σ.1 45 25 = 0 ∨ (σ.1 45 25 = 1 ∧ mD σ g n (jn σ))) (e1 : ∀ o, 45 ≤ o → τ.1 o = σ.1 o) (e2 : ∀ o, o = 63 ∨ o = 67 → τ.2 o = σ.2 o) : mF τ g n (jn σ) ∧ (τ.1 45 25 = 0 ∨ (τ.1 45 25 = 1 ∧ mD τ g n (jn σ))) ∧ τ.1 45 3 = 1 := by
  have hF := iG_m hG h.2.1.2
  refine ⟨?_, ?_, by rw [e1 45 (by decide)]; exact hG.2.2.2.2.2.2⟩
  · unfold mF mT3 at *
    rw [e1 45 (by decide), e1 47 (by decide), e1 48 (by decide), e1 49 (by decide), e1 50 (by decide), e1 58 (by decide)]
    exact hF
  · rw [e1 45 (by decide)]
    rcases hm with q | ⟨q1, q2⟩
    · exact Or.inl q
    · exact Or.inr ⟨q1, mD_hi (fun o ho => e1 o (by omega)) e2 q2⟩
theorem up_hi {σ σ1 : zS} {l : List Nat} {v : Int64} (f1 : zfr l σ σ1) (hl : l.all (fun o => decide (o < 45)) = true) : (∀ o, 45 ≤ o → (zwL σ1 73 0 v).1 o = σ.1 o) ∧ ∀ o, o = 63 ∨ o = 67 → (zwL σ1 73 0 v).2 o = σ.2 o := by
  have hn : ∀ o, 45 ≤ o → o ∉ l := fun o ho hm => by
    have := List.all_eq_true.mp hl o hm
    simp at this
    omega
  refine ⟨fun o ho => f1.1 o (hn o ho), fun o ho => ?_⟩
  rw [zwL_n _ _ _ _ (by omega), f1.2 o (hn o (by omega))]
theorem s_keeps {σ : zS} (h : Inv σ) (a : Int32) : sp_keeps Inv σ a := by
  have h0 := h
  obtain ⟨hT, hS, hR, hF⟩ := h
  rcases hF with ⟨m1, m2⟩ | ⟨g, n, hG, hc, hm, hQ⟩
  · refine ⟨6, 190, _, _, m_PC_kp0 a σ m1, by decide, by decide, fun _ _ q => q.elim, ?_⟩
    rintro x σ1 ⟨rfl, rfl⟩
    refine ⟨Or.inl rfl, 6, 190, _, m_MO_kp0 a σ1 m2, by decide, by decide, ?_⟩
    rintro r σ2 ⟨rfl, rfl⟩
    exact ⟨⟨_, rfl⟩, by rw [zwA_ss]; rfl, by decide, Inv_t 1 zfr.rf h0⟩
  obtain ⟨f1, _, _⟩ := iG_f hG
  have hl : σ.1 45 3 = 1 := hG.2.2.2.2.2.2
  rcases zNo_or a with ⟨s, hs, rfl⟩ | q
  · refine ⟨6, 190, _, _, m_PC_kp2 hs σ f1 hc, by decide, by decide, ?_, fun _ _ q => q.elim⟩
    rintro r σ1 ⟨uf, u1, u2, u3, p, rfl, hp⟩
    obtain ⟨e1, e2⟩ := up_hi (v := if zb p = 0 then 0 else 1) uf (by decide)
    obtain ⟨F1, F2, F3⟩ := mF_up h0 hG hm e1 e2
    refine ⟨_, rfl, 6, 190, _, m_MO_kp2 hs (zwL σ1 73 0 (if zb p = 0 then 0 else 1)) F3 F1 F2, by decide, by decide, ?_⟩
    rintro r σ2 ⟨wf, wd, w0, w25, wD, p2, rfl, hp2⟩
    obtain ⟨i1, i2, i3⟩ := up_both h0 hG hQ uf u1 u2 u3 wf wd w25 wD
    have ep : p = p2 := by
      have := i2 false s hs
      rw [← hp, ← hp2] at this
      cases p <;> cases p2 <;> simp_all
    exact ⟨_, rfl, w0, by rw [i3, ep], i1⟩
  · refine ⟨6, 190, _, _, m_PC_kp1 q σ f1, by decide, by decide, fun _ _ q => q.elim, ?_⟩
    rintro x σ1 ⟨rfl, rfl⟩
    refine ⟨Or.inr rfl, 6, 190, _, m_MO_kp1 q σ1 hl, by decide, by decide, ?_⟩
    rintro r σ2 ⟨rfl, rfl⟩
    exact ⟨⟨_, rfl⟩, by rw [zwA_ss]; rfl, by decide, Inv_t 2 zfr.rf h0⟩
theorem s_breaking {σ : zS} (h : Inv σ) : sp_breaking Inv σ := by
  have h0 := h
  obtain ⟨hT, hS, hR, hF⟩ := h
  rcases hF with ⟨m1, m2⟩ | ⟨g, n, hG, hc, hm, hQ⟩
  · refine ⟨6, 190, _, _, m_PC_br0 σ m1, by decide, by decide, fun _ _ q => q.elim, ?_⟩
    rintro x σ1 ⟨rfl, rfl⟩
    refine ⟨rfl, 6, 190, _, m_MO_br0 σ1 m2, by decide, by decide, ?_⟩
    rintro r σ2 ⟨rfl, rfl⟩
    exact ⟨⟨_, rfl⟩, by rw [zwA_ss]; rfl, by decide, Inv_t 1 zfr.rf h0⟩
  obtain ⟨f1, _, _⟩ := iG_f hG
  refine ⟨6, 190, _, _, m_PC_br2 σ f1 hc, by decide, by decide, ?_, fun _ _ q => q.elim⟩
  rintro r σ1 ⟨uf, u1, u2, u3, y, rfl, hy⟩
  obtain ⟨e1, e2⟩ := up_hi (v := y.toInt64) uf (by decide)
  obtain ⟨F1, F2, F3⟩ := mF_up h0 hG hm e1 e2
  refine ⟨_, rfl, 6, 190, _, m_MO_br2 (zwL σ1 73 0 y.toInt64) F3 F1 F2, by decide, by decide, ?_⟩
  rintro r σ2 ⟨wf, wd, w0, w25, wD, y2, rfl, hy2⟩
  obtain ⟨i1, i2, i3⟩ := up_both h0 hG hQ uf u1 u2 u3 wf wd w25 wD
  have ep : y = y2 := tb_ext (fun q hq => by
    have q1 := hy q hq
    have q2 := hy2 q hq
    have q3 : (q < 6 ∧ pS σ1 false q) ↔ (q < 6 ∧ mS σ2 (tcn g n) false q) := ⟨fun w => ⟨w.1, (i2 false q w.1).mp w.2⟩, fun w => ⟨w.1, (i2 false q w.1).mpr w.2⟩⟩
    rw [q3, ← q2] at q1
    cases e1 : tb y q <;> cases e2 : tb y2 q <;> simp_all)
  exact ⟨_, rfl, w0, by rw [i3, ep], i1⟩
theorem s_keeping {σ : zS} (h : Inv σ) : sp_keeping Inv σ := by
  have h0 := h
  obtain ⟨hT, hS, hR, hF⟩ := h
  rcases hF with ⟨m1, m2⟩ | ⟨g, n, hG, hc, hm, hQ⟩
  · refine ⟨6, 190, _, _, m_PC_ke0 σ m1, by decide, by decide, fun _ _ q => q.elim, ?_⟩
    rintro x σ1 ⟨rfl, rfl⟩
    refine ⟨rfl, 6, 190, _, m_MO_ke0 σ1 m2, by decide, by decide, ?_⟩
    rintro r σ2 ⟨rfl, rfl⟩
    exact ⟨⟨_, rfl⟩, by rw [zwA_ss]; rfl, by decide, Inv_t 1 zfr.rf h0⟩
  obtain ⟨f1, _, _⟩ := iG_f hG
  refine ⟨6, 190, _, _, m_PC_ke2 σ f1 hc, by decide, by decide, ?_, fun _ _ q => q.elim⟩
  rintro r σ1 ⟨uf, u1, u2, u3, y, rfl, hy⟩
  obtain ⟨e1, e2⟩ := up_hi (v := y.toInt64) uf (by decide)
  obtain ⟨F1, F2, F3⟩ := mF_up h0 hG hm e1 e2
  refine ⟨_, rfl, 6, 190, _, m_MO_ke2 (zwL σ1 73 0 y.toInt64) F3 F1 F2, by decide, by decide, ?_⟩
  rintro r σ2 ⟨wf, wd, w0, w25, wD, y2, rfl, hy2⟩
  obtain ⟨i1, i2, i3⟩ := up_both h0 hG hQ uf u1 u2 u3 wf wd w25 wD
  have ep : y = y2 := tb_ext (fun q hq => by
    have q1 := hy q hq
    have q2 := hy2 q hq
    have q3 : (q < 6 ∧ pS σ1 true q) ↔ (q < 6 ∧ mS σ2 (tcn g n) true q) := ⟨fun w => ⟨w.1, (i2 true q w.1).mp w.2⟩, fun w => ⟨w.1, (i2 true q w.1).mpr w.2⟩⟩
    rw [q3, ← q2] at q1
    cases e1 : tb y q <;> cases e2 : tb y2 q <;> simp_all)
  exact ⟨_, rfl, w0, by rw [i3, ep], i1⟩
theorem wit_low {B : Nat → (Nat → Nat) → Nat → Prop} {s : Nat} {kk x : Int32} (hk : kk < -2) (h : wit B s kk x) : x = -1 := by
  rcases h with ⟨h, _⟩ | ⟨k, r, j, h1, _, _, _, h5⟩
  · exact h
  · have hk6 := h1.2.1
    refine h5 (fun e => ?_) (fun e => ?_) (fun i hi e => ?_)
    · rw [e] at hk
      exact absurd hk (by decide)
    · rw [e] at hk
      exact absurd hk (by decide)
    · rw [e] at hk
      exact nI_pos (show i < 2 ^ 31 by omega) (Int32.lt_trans hk (by decide))
theorem s_witness {σ : zS} (h : Inv σ) (a b : Int32) : sp_witness Inv σ a b := by
  have h0 := h
  obtain ⟨hT, hS, hR, hF⟩ := h
  rcases hF with ⟨m1, m2⟩ | ⟨g, n, hG, hc, hm, hQ⟩
  · refine ⟨12, 400, _, _, m_PC_wi0 a b σ m1, by decide, by decide, fun _ _ q => q.elim, ?_⟩
    rintro x σ1 ⟨rfl, rfl⟩
    refine ⟨rfl, 7, 240, _, m_MO_wi0 a b σ1 m2, by decide, by decide, ?_⟩
    rintro r σ2 ⟨rfl, rfl⟩
    exact ⟨⟨_, rfl⟩, by rw [zwA_ss]; rfl, by decide, Inv_t 1 zfr.rf h0⟩
  obtain ⟨f1, f2, f3⟩ := iG_f hG
  have hl : σ.1 45 3 = 1 := hG.2.2.2.2.2.2
  rcases zNo_or a with ⟨s, hs, rfl⟩ | q
  · refine ⟨12, 400, _, _, m_PC_wi2 hs b σ f1 f2 f3 hc, by decide, by decide, ?_, fun _ _ q => q.elim⟩
    rintro r σ1 ⟨uf, u1, u2, u3, x, rfl, hx⟩
    obtain ⟨e1, e2⟩ := up_hi (v := x.toInt64) uf (by decide)
    obtain ⟨F1, F2, F3⟩ := mF_up h0 hG hm e1 e2
    obtain ⟨i1, i2, i3, i4, i5, i6⟩ := Inv_ca uf (by decide) (u1 1 (by decide)) (fun j hj => by rw [uf.1 45 (by decide)]) hG (Or.inr ⟨u2, u3⟩) (by
      rw [uf.1 45 (by decide)]
      rcases hm with q | ⟨q1, q2⟩
      · exact Or.inl q
      · exact Or.inr ⟨q1, mD_hi (fun o ho => uf.1 o (by rcases ho with rfl | rfl | rfl <;> decide)) (fun o ho => uf.2 o (by rcases ho with rfl | rfl <;> decide)) q2⟩) (mQ_fr (fun o o1 o2 => uf.1 o (by
      intro hm
      simp only [List.mem_cons, List.not_mem_nil, or_false] at hm
      omega)) hQ) h0
    by_cases hk : b < -2
    · refine ⟨_, rfl, 7, 240, _, m_MO_wi1 (s := nI s) (k := b) (Or.inr ⟨⟨s, hs, rfl⟩, hk⟩) (zwL σ1 73 0 x.toInt64) F3, by decide, by decide, ?_⟩
      rintro r σ2 ⟨rfl, rfl⟩
      refine ⟨_, rfl, by rw [zwA_ss], ?_, Inv_t 0 zfr.l73 i1⟩
      exact (zwL_ss σ1 73 0 x.toInt64).trans (by rw [wit_low hk hx])
    · have hmk : (zwL σ1 73 0 x.toInt64).1 57 = σ1.1 43 := by
        show σ1.1 57 = σ1.1 43
        rw [i5, i6]
      have hcw := m_MO_wi2 hs hk (zwL σ1 73 0 x.toInt64) F3 F1 F2 (val := iV σ1 (iZ g n)) (iG_ev i2 hmk) (iG_vs i2) (fun τ d1 d2 d3 => by
        have := iG_wit (τ := τ) i2 (d2.trans hmk) u3 hs (by rw [i3]; exact d1) d3
        rw [← i3]
        exact this) (by
        have := hQ
        rw [← i4] at this
        unfold cB Brk at this
        rw [i3] at this
        refine mQ_fr (fun o o1 o2 => ?_) this
        show σ1.1 o = σ.1 o
        exact uf.1 o (by
          intro hm
          simp only [List.mem_cons, List.not_mem_nil, or_false] at hm
          omega))
      refine ⟨_, rfl, 7, 240, _, hcw, by decide, by decide, ?_⟩
      rintro r σ2 ⟨wf, wd, w0, w25, wQ, x2, rfl, hx2⟩
      have hBe : (fun (k : Nat) (r : Nat → Nat) (j : Nat) => (∀ i, i < k → jn σ (r i) (r (nx k j i)) = true) ∧ iV σ1 (iZ g n) k r j = false) = cB σ1 (iZ g n) := by
        funext k r j
        unfold cB Brk
        rw [i3]
      rw [hBe] at wQ hx2
      have ff : zfr [45, 60, 61, 62, 63, 65, 66, 67, 68, 69, 70, 71, 72, 73] σ1 σ2 := (zfr.rf.wL _ (by decide)).tr (wf.mo (by decide))
      have c2 : cC σ2 (iZ g n) (tcn g n) := cC_lo (fun o h1 h2 => ff.1 o (by
        intro hm
        simp only [List.mem_cons, List.not_mem_nil, or_false] at hm
        omega)) u3
      have k45 : ∀ j, j ≠ 0 → j ≠ 25 → j ≠ 34 → j ≠ 35 → σ2.1 45 j = σ1.1 45 j := fun j j0 j1 j2 j3 => by
        rw [wd j (by simp; exact ⟨j0, j1, j2, j3⟩)]
        rfl
      obtain ⟨v1, _⟩ := Inv_ca ff (by decide) (by rw [ff.1 0 (by decide)]) (fun j hj => k45 j (by rintro rfl; revert hj; decide) (by rintro rfl; revert hj; decide) (by rintro rfl; revert hj; decide) (by rintro rfl; revert hj; decide)) i2 (Or.inr ⟨by rw [ff.1 0 (by decide)]; exact u2, c2⟩) (by rw [i3]; exact w25) wQ i1
      refine ⟨_, rfl, w0, ?_, v1⟩
      rw [wf.2 73 (by decide), zwL_ss, wit_un (iG_B i2) hx hx2]
  · refine ⟨12, 400, _, _, m_PC_wi1 q b σ f1, by decide, by decide, ?_, fun _ _ q => q.elim⟩
    rintro r σ1 ⟨rfl, rfl⟩
    refine ⟨_, rfl, 7, 240, _, m_MO_wi1 (Or.inl q) (zwL σ1 73 0 ((-1 : Int32)).toInt64) hl, by decide, by decide, ?_⟩
    rintro r σ2 ⟨rfl, rfl⟩
    refine ⟨_, rfl, by rw [zwA_ss], ?_, Inv_t 0 zfr.l73 h0⟩
    exact zwL_ss σ1 73 0 ((-1 : Int32)).toInt64
theorem s_judge {σ : zS} (h : Inv σ) (a b : Int32) : sp_judge Inv σ a b := by
  have h0 := h
  obtain ⟨hT, hS, ⟨k, st, hk, r1, r2, r3⟩, hF⟩ := h
  have bad : ∀ (n : Nat) (q : Bool), σ.1 34 1 = nI n → n ≤ 37 → σ.1 45 3 = zb q → (n = 0 ∨ k = 0) → (q = false ∨ k = 0) → sp_judge Inv σ a b := by
    intro n q n1 n2 n3 n4 n5
    refine ⟨6, 110, _, _, m_PC_ju0 a b σ n1 n2 r1 hk n4, by decide, by decide, fun _ _ q => q.elim, ?_⟩
    rintro x σ1 ⟨rfl, rfl⟩
    refine ⟨Or.inl rfl, 3, 90, _, m_MO_ju0 a b σ1 n3 r2 hk n5, by decide, by decide, ?_⟩
    rintro r σ2 ⟨rfl, rfl⟩
    exact ⟨⟨_, rfl⟩, by rw [zwA_ss]; rfl, by decide, Inv_t 1 zfr.rf h0⟩
  rcases hF with ⟨m1, m2⟩ | ⟨g, n, hG, hc, hm, hQ⟩
  · exact bad 0 false m1 (by omega) m2 (Or.inl rfl) (Or.inl rfl)
  obtain ⟨f1, f2, f3⟩ := iG_f hG
  have hl : σ.1 45 3 = 1 := hG.2.2.2.2.2.2
  have hz0 := f1.2.2.2.1
  have hz7 := f1.2.2.2.2.1
  by_cases hk0 : k = 0
  · exact bad (iZ g n) true f1.1 hz7 hl (Or.inr hk0) (Or.inr hk0)
  by_cases hbad : (∀ q : Nat, q < k → b ≠ nI q) ∨ ((∃ q : Nat, q < k ∧ b = nI q) ∧ ∀ q : Nat, q < k → a ≠ nI q)
  · refine ⟨6, 110, _, _, m_PC_ju1 a b σ f1.1 hz0 hz7 r1 (by omega) hk hbad, by decide, by decide, fun _ _ q => q.elim, ?_⟩
    rintro x σ1 ⟨rfl, rfl⟩
    refine ⟨Or.inr (Or.inl rfl), 3, 90, _, m_MO_ju1 a b σ1 hl r2 (by omega) hk hbad, by decide, by decide, ?_⟩
    rintro r σ2 ⟨rfl, rfl⟩
    exact ⟨⟨_, rfl⟩, by rw [zwA_ss]; rfl, by decide, Inv_t 2 zfr.rf h0⟩
  obtain ⟨i, hi, rfl⟩ : ∃ q : Nat, q < k ∧ b = nI q := Classical.byContradiction (fun hn => hbad (Or.inl (fun q hq e => hn ⟨q, hq, e⟩)))
  obtain ⟨j, hj, rfl⟩ : ∃ q : Nat, q < k ∧ a = nI q := Classical.byContradiction (fun hn => hbad (Or.inr ⟨⟨i, hi, rfl⟩, fun q hq e => hn ⟨q, hq, e⟩⟩))
  have hsh := iG_sh hG
  have hmo := hG.2.2.2.2.2.1
  refine ⟨6, 110, _, _, m_PC_ju2 hz7 hz0 hj hi hk σ r1 (fun p hp => ⟨(r3 p hp).1, (r3 p hp).2.2⟩) f1.1 f2 f3, by decide, by decide, ?_, ?_⟩
  · rintro r σ1 ⟨uf, u1, rfl, u2⟩
    have e : ∀ o, o ≠ 10 → (zwL σ1 73 0 (if zb (tb (σ1.1 10 0) i) = 0 then 0 else 1)).1 o = σ.1 o := fun o ho => uf.1 o (by simp [ho])
    refine ⟨_, rfl, 3, 90, _, m_MO_ju2 (g := g) (n := n) (L := jn σ) (st := st) hG.1 hG.2.1 hk hj hi hsh (zwL σ1 73 0 (if zb (tb (σ1.1 10 0) i) = 0 then 0 else 1)) (by rw [e 45 (by decide)]; exact hl) (by rw [e 45 (by decide)]; exact r2) (by rw [e 45 (by decide)]; exact hmo.1) (by rw [e 47 (by decide), e 48 (by decide), e 49 (by decide)]; exact hmo.2.1) (by rw [e 59 (by decide)]; exact fun p hp => (r3 p hp).2) (by rw [e 58 (by decide)]; exact hS.2), by decide, by decide, ?_⟩
    rintro r σ2 ⟨wf, wd, hh⟩
    have hI : Inv σ2 := Inv_z (l := [10, 45, 68, 69, 73]) (((uf.mo (by decide)).tr (zfr.rf.wL _ (by decide))).tr (wf.mo (by decide))) (by decide) (fun q hq => by
      rw [wd q (by intro hm; simp at hq hm; omega), e 45 (by decide)]) h0
    rcases hh with ⟨_, _, p, p1, p2⟩ | ⟨w0, w1, V, rfl, wV⟩
    · rw [u1 p p1] at p2
      exact absurd p2 (by decide)
    · refine ⟨_, rfl, w0, ?_, hI⟩
      rw [e 57 (by decide), hS.1] at wV
      have := iG_val hG hj (mk := fun p => σ.1 43 (st p)) (H := fun q p => tb (σ1.1 10 q) p) (fun r hr p hp => (u2 r hr).2 p hp) wV i hi
      rw [wf.2 73 (by decide), zwL_ss, ← this]
  · rintro x σ1 ⟨rfl, rfl, p, p1, p2⟩
    refine ⟨Or.inr (Or.inr rfl), 3, 90, _, m_MO_ju2 (g := g) (n := n) (L := jn σ1) (st := st) hG.1 hG.2.1 hk hj hi hsh σ1 hl r2 hmo.1 hmo.2.1 (fun p hp => (r3 p hp).2) hS.2, by decide, by decide, ?_⟩
    rintro r σ2 ⟨wf, wd, hh⟩
    have hI : Inv σ2 := Inv_z (l := [45, 68, 69]) wf (by decide) (fun q hq => by
      rw [wd q (by intro hm; simp at hq hm; omega)]) h0
    rcases hh with ⟨w0, rfl, _⟩ | ⟨w0, w1, _⟩
    · exact ⟨⟨_, rfl⟩, by rw [w0]; rfl, by decide, hI⟩
    · rw [w1 p p1] at p2
      exact absurd p2 (by decide)
theorem Inv_all : lwAll Inv Inv := fun σ h => ⟨s_type h, s_wipe h, s_length h, s_formula h, s_normal h, s_mark h, fun a b => ⟨s_link h a b false, s_link h a b true⟩, s_state h, s_endless h, s_keeps h, s_breaking h, s_keeping h, s_witness h, s_go h, s_clear h, s_judge h⟩
