/-! Each call keeps both alike -/
def okk (o : Nat) : Bool := decide ((2 ≤ o ∧ o ≤ 7) ∨ o = 10 ∨ o = 45 ∨ (51 ≤ o ∧ o ≤ 55) ∨ o = 68 ∨ o = 69 ∨ o = 73)
/-- a place that iF does not rest on, but for fields of 0 and 45 -/
def okF (o : Nat) : Bool := decide (o ≤ 10 ∨ o = 45 ∨ o = 46 ∨ (51 ≤ o ∧ o ≤ 55) ∨ o = 59 ∨ o = 68 ∨ o = 69 ∨ o = 73)
/-- a place that the form does not rest on, but for fields of 45 -/
def okS (o : Nat) : Bool := decide (¬ (34 ≤ o ∧ o ≤ 39) ∧ ¬ (47 ≤ o ∧ o ≤ 50) ∧ o ≠ 56)
theorem ok_n {p : Nat → Bool} {l : List Nat} (hl : l.all p = true) {o : Nat} (h : p o = false) : o ∉ l := fun hm => by
  rw [List.all_eq_true.mp hl o hm] at h
  exact absurd h (by decide)
theorem iSame_z {l : List Nat} {σ σ2 : zS} (hf : zfr l σ σ2) (hl : l.all okS = true) (h : ∀ j ∈ [3, 4, 9, 19], σ2.1 45 j = σ.1 45 j) : iSame σ σ2 := by
  refine ⟨fun o h1 h2 => hf.1 o (ok_n hl (decide_eq_false (fun q => q.1 ⟨h1, h2⟩))), fun o h1 h2 => hf.1 o (ok_n hl (decide_eq_false (fun q => q.2.1 ⟨h1, h2⟩))), hf.1 56 (ok_n hl (by decide)), h 3 (by decide), h 4 (by decide), h 9 (by decide), h 19 (by decide)⟩
theorem okF_S {l : List Nat} (hl : l.all okF = true) : l.all okS = true := List.all_eq_true.mpr (fun o ho => by
  have := List.all_eq_true.mp hl o ho
  simp only [okF, okS, decide_eq_true_iff] at this ⊢
  omega)
theorem iF_z {l : List Nat} {σ σ2 : zS} (hf : zfr l σ σ2) (hl : l.all okF = true) (h0 : σ2.1 0 10 = σ.1 0 10) (h : ∀ j ∈ [3, 4, 9, 19, 25], σ2.1 45 j = σ.1 45 j) (hF : iF σ) : iF σ2 := by
  have hn : ∀ o, okF o = false → o ∉ l := fun o ho => ok_n hl ho
  have hd : ∀ o, ¬ (o ≤ 10 ∨ o = 45 ∨ o = 46 ∨ (51 ≤ o ∧ o ≤ 55) ∨ o = 59 ∨ o = 68 ∨ o = 69 ∨ o = 73) → o ∉ l := fun o ho => hn o (decide_eq_false ho)
  refine iF_keep (iSame_z hf (okF_S hl) (fun j hj => h j (by simp at hj ⊢; omega))) (fun o h1 h2 => hf.1 o (hd o (by omega))) (fun o ho => hf.1 o (hd o (by omega))) (fun o ho => hf.2 o (hd o (by omega))) (fun o h1 h2 => hf.1 o (hd o (by omega))) h0 (h 25 (by decide)) hF
theorem iS_z {l : List Nat} {σ σ2 : zS} (hf : zfr l σ σ2) (h1 : 43 ∉ l) (h2 : 44 ∉ l) (h3 : 57 ∉ l) (h4 : 58 ∉ l) (h : iS σ) : iS σ2 := by
  unfold iS
  rw [jn_fr hf h2, hf.1 43 h1, hf.1 57 h3, hf.1 58 h4]
  exact h
theorem iT_z {σ σ2 : zS} (h1 : σ2.1 0 1 = σ.1 0 1) (h2 : σ2.1 45 1 = σ.1 45 1) (h3 : σ2.1 1 = σ.1 1) (h4 : σ2.1 46 = σ.1 46) (h : iT σ) : iT σ2 := by
  unfold iT
  rw [h1, h2, h3, h4]
  exact h
theorem iR_z {σ σ2 : zS} (h1 : σ2.1 8 1 = σ.1 8 1) (h2 : σ2.1 45 23 = σ.1 45 23) (h3 : σ2.1 9 = σ.1 9) (h4 : σ2.1 59 = σ.1 59) (h : iR σ) : iR σ2 := by
  unfold iR
  rw [h1, h2, h3, h4]
  exact h
theorem Inv_z {l : List Nat} {σ σ2 : zS} (hf : zfr l σ σ2) (hl : l.all okk = true) (h45 : ∀ j ∈ [1, 3, 4, 9, 19, 23, 25], σ2.1 45 j = σ.1 45 j) (h : Inv σ) : Inv σ2 := by
  obtain ⟨a, b, c, d⟩ := h
  have hn : ∀ o, ¬ ((2 ≤ o ∧ o ≤ 7) ∨ o = 10 ∨ o = 45 ∨ (51 ≤ o ∧ o ≤ 55) ∨ o = 68 ∨ o = 69 ∨ o = 73) → o ∉ l := fun o ho => ok_n hl (decide_eq_false ho)
  refine ⟨iT_z ?_ (h45 1 (by decide)) (hf.1 1 (hn 1 (by decide))) (hf.1 46 (hn 46 (by decide))) a, iS_z hf (hn 43 (by decide)) (hn 44 (by decide)) (hn 57 (by decide)) (hn 58 (by decide)) b, iR_z ?_ (h45 23 (by decide)) (hf.1 9 (hn 9 (by decide))) (hf.1 59 (hn 59 (by decide))) c, iF_z hf (List.all_eq_true.mpr (fun o ho => ?_)) ?_ (fun j hj => h45 j (by simp at hj ⊢; omega)) d⟩
  · rw [hf.1 0 (hn 0 (by decide))]
  · rw [hf.1 8 (hn 8 (by decide))]
  · have := List.all_eq_true.mp hl o ho
    simp only [okk, okF, decide_eq_true_iff] at this ⊢
    omega
  · rw [hf.1 0 (hn 0 (by decide))]
/-- the field thrown alone -/
theorem Inv_t {σ τ : zS} (x : Int32) (hf : zfr [73] σ τ) (h : Inv σ) : Inv (zwA τ 45 0 x) := by
  refine Inv_z (l := [45, 73]) ((hf.mo (by decide)).wA _ (by decide)) (by decide) (fun j hj => ?_) h
  rw [zwA_sn _ _ _ _ (by rintro rfl; revert hj; decide), hf.1 45 (by decide)]
theorem zfr.l73 {σ : zS} {x : Int64} : zfr [73] σ (zwL σ 73 0 x) := zfr.rf.wL x (by decide)
theorem s_length {σ : zS} (h : Inv σ) : sp_length Inv σ := by
  obtain ⟨n, hn, a1, a2, a3⟩ := h.1
  refine ⟨0, 0, _, m_PC_length σ, by decide, by decide, ?_⟩
  rintro r σ1 ⟨rfl, rfl⟩
  refine ⟨_, rfl, 0, 0, _, m_MO_length σ1, by decide, by decide, ?_⟩
  rintro r σ2 ⟨rfl, rfl⟩
  exact ⟨by rw [a1, a2], Inv_t 0 zfr.rf h⟩
theorem tyc_ch (x : Int64) (k : Nat) : vp_nar .char (tyc x k) = tyc x k := by
  have h1 := tyc_i2c x k
  have h2 := pk_vc (tyc x k)
  rw [h1] at h2
  rw [← h2] at h1
  exact h1
theorem tyF_ch {c : Nat → Int32} (hc : ∀ k, vp_nar .char (c k) = c k) : ∀ (k n : Nat) (T : Nat → Int32), (∀ j, j < n → vp_nar .char (T j) = T j) → ∀ m, (tyF c k n T).1 = some m → ∀ j, j < m → vp_nar .char ((tyF c k n T).2 j) = (tyF c k n T).2 j
  | 0, n, T, h, m, hm, j, hj => by
    simp [tyF] at hm
    exact h j (by omega)
  | k + 1, n, T, h, m, hm, j, hj => by
    rw [tyF] at hm ⊢
    split at hm
    · rename_i h1
      rw [if_pos h1]
      exact tyF_ch hc k n T h m hm j hj
    · rename_i h1
      rw [if_neg h1]
      split at hm
      · simp at hm
      · rename_i h2
        rw [if_neg h2]
        refine tyF_ch hc k (n + 1) _ (fun i hi => ?_) m hm j hj
        by_cases e : i = n
        · subst e
          rw [pk_us]
          exact hc k
        · rw [pk_un e]
          exact h i (by omega)
theorem s_type {σ : zS} (h : Inv σ) (x : Int64) : sp_type Inv σ x := by
  obtain ⟨⟨n, hn, a1, a2, a3⟩, hS, hR, hF⟩ := h
  refine ⟨0, 0, _, m_PC_type x hn σ a1, by decide, by decide, ?_⟩
  rintro r σ1 ⟨f1, e1, h1⟩
  have hsame := tyF_same (tyc x) 8 n (σ.1 1) (σ.1 46) (fun j hj => (a3 j hj).1)
  have e46 : σ1.1 46 = σ.1 46 := f1.1 46 (by decide)
  have e45 : σ1.1 45 = σ.1 45 := f1.1 45 (by decide)
  have fin : ∀ (σ2 : zS) (m : Nat), zfr [45, 46] σ1 σ2 → (∀ j, j ≠ 1 → σ1.1 0 j = σ.1 0 j) → (∀ j, j ≠ 0 → j ≠ 1 → σ2.1 45 j = σ.1 45 j) → m ≤ 32 → σ1.1 0 1 = nI m → σ2.1 45 1 = nI m → (∀ j, j < m → σ1.1 1 j = σ2.1 46 j ∧ vp_nar .char (σ1.1 1 j) = σ1.1 1 j) → Inv σ2 := by
    intro σ2 m f2 k0 k1 k2 k3 k4 k5
    have ff : zfr [0, 1, 45, 46] σ σ2 := (f1.mo (by decide)).tr (f2.mo (by decide))
    have e0 : σ2.1 0 = σ1.1 0 := f2.1 0 (by decide)
    refine ⟨⟨m, k2, by rw [e0]; exact k3, k4, fun j hj => by rw [f2.1 1 (by decide)]; exact k5 j hj⟩, iS_z ff (by decide) (by decide) (by decide) (by decide) hS, iR_z (by rw [ff.1 8 (by decide)]) (k1 23 (by decide) (by decide)) (ff.1 9 (by decide)) (ff.1 59 (by decide)) hR, iF_z ff (by decide) (by rw [e0]; exact k0 10 (by decide)) (fun j hj => k1 j (by rintro rfl; revert hj; decide) (by rintro rfl; revert hj; decide)) hF⟩
  rcases h1 with ⟨q1, rfl, q3⟩ | ⟨m, q1, rfl, q3⟩
  · refine ⟨0, rfl, 0, 0, _, m_MO_type x hn σ1 (by rw [e45]; exact a2), by decide, by decide, ?_⟩
    rintro r σ2 ⟨f2, e2, h2⟩
    rw [e46] at e2 h2
    rcases h2 with ⟨p1, rfl, p3⟩ | ⟨m, p1, rfl, p3⟩
    · refine ⟨rfl, fin σ2 n f2 (fun j _ => by rw [q3]) (fun j j0 j1 => by rw [p3, zwA_sn _ _ _ _ j0, e45]) hn (by rw [q3]; exact a1) (by rw [p3, zwA_sn _ _ _ _ (by decide), e45]; exact a2) (fun j hj => ?_)⟩
      rw [e1, e2, tyF_keep _ _ _ _ _ hj, tyF_keep _ _ _ _ _ hj]
      exact a3 j hj
    · rw [← hsame.1, q1] at p1
      exact absurd p1 (by simp)
  · have hm := tyF_n (tyc x) 8 n (σ.1 1) m hn q1
    refine ⟨1, rfl, 0, 0, _, m_MO_type x hn σ1 (by rw [e45]; exact a2), by decide, by decide, ?_⟩
    rintro r σ2 ⟨f2, e2, h2⟩
    rw [e46] at e2 h2
    rcases h2 with ⟨p1, rfl, p3⟩ | ⟨m2, p1, rfl, p3⟩
    · rw [← hsame.1, q1] at p1
      exact absurd p1 (by simp)
    · obtain rfl : m2 = m := by
        rw [← hsame.1, q1] at p1
        injection p1 with p1
        exact p1.symm
      refine ⟨rfl, fin σ2 m2 f2 (fun j hj => by rw [q3, pk_un hj]) (fun j j0 j1 => by rw [p3, pk_un j1, zwA_sn _ _ _ _ j0, e45]) hm.2 (by rw [q3, pk_us]) (by rw [p3, pk_us]) (fun j hj => ?_)⟩
      rw [e1, e2]
      exact ⟨hsame.2 m2 q1 j hj, tyF_ch (tyc_ch x) 8 n (σ.1 1) (fun j hj => (a3 j hj).2) m2 q1 j hj⟩
theorem s_wipe {σ : zS} (h : Inv σ) : sp_wipe Inv σ := by
  obtain ⟨_, hS, hR, hF⟩ := h
  refine ⟨0, 0, _, m_PC_wipe1 σ, by decide, by decide, ?_⟩
  rintro r σ1 ⟨rfl, rfl⟩
  refine ⟨rfl, 0, 0, _, m_MO_wipe _, by decide, by decide, ?_⟩
  rintro r σ2 ⟨rfl, rfl⟩
  have ff : zfr [0, 45] σ (zwA (zwA (zwA σ 0 1 0) 45 0 0) 45 1 0) := ((zfr.rf.wA _ (by decide)).wA _ (by decide)).wA _ (by decide)
  have k1 : ∀ j, j ≠ 0 → j ≠ 1 → (zwA (zwA (zwA σ 0 1 0) 45 0 0) 45 1 0).1 45 j = σ.1 45 j := fun j j0 j1 => by rw [zwA_sn _ _ _ _ j1, zwA_sn _ _ _ _ j0, zwA_n _ _ _ _ (by decide)]
  refine ⟨rfl, ⟨0, by omega, by simp [zwA_1]; rfl, by simp [zwA_1]; rfl, fun j hj => absurd hj (by omega)⟩, iS_z ff (by decide) (by decide) (by decide) (by decide) hS, iR_z (by rw [ff.1 8 (by decide)]) (k1 23 (by decide) (by decide)) (ff.1 9 (by decide)) (ff.1 59 (by decide)) hR, iF_z ff (by decide) (by simp [zwA_1]) (fun j hj => k1 j (by rintro rfl; revert hj; decide) (by rintro rfl; revert hj; decide)) hF⟩
theorem s_clear {σ : zS} (h : Inv σ) : sp_clear Inv σ := by
  obtain ⟨hT, hS, _, hF⟩ := h
  refine ⟨0, 0, _, m_PC_clear1 σ, by decide, by decide, ?_⟩
  rintro r σ1 ⟨rfl, rfl⟩
  refine ⟨rfl, 0, 0, _, m_MO_clear _, by decide, by decide, ?_⟩
  rintro r σ2 ⟨rfl, rfl⟩
  have ff : zfr [8, 45] σ (zwA (zwA (zwA σ 8 1 0) 45 0 0) 45 23 0) := ((zfr.rf.wA _ (by decide)).wA _ (by decide)).wA _ (by decide)
  have k1 : ∀ j, j ≠ 0 → j ≠ 23 → (zwA (zwA (zwA σ 8 1 0) 45 0 0) 45 23 0).1 45 j = σ.1 45 j := fun j j0 j1 => by rw [zwA_sn _ _ _ _ j1, zwA_sn _ _ _ _ j0, zwA_n _ _ _ _ (by decide)]
  refine ⟨rfl, iT_z (by rw [ff.1 0 (by decide)]) (k1 1 (by decide) (by decide)) (ff.1 1 (by decide)) (ff.1 46 (by decide)) hT, iS_z ff (by decide) (by decide) (by decide) (by decide) hS, ⟨0, fun _ => 0, by omega, by simp [zwA_1]; rfl, by simp [zwA_1]; rfl, fun p hp => absurd hp (by omega)⟩, iF_z ff (by decide) (by rw [ff.1 0 (by decide)]) (fun j hj => k1 j (by rintro rfl; revert hj; decide) (by rintro rfl; revert hj; decide)) hF⟩
theorem s_go {σ : zS} (h : Inv σ) (a : Int32) : sp_go Inv σ a := by
  have h0 := h
  obtain ⟨hT, hS, ⟨k, st, hk, r1, r2, r3⟩, hF⟩ := h
  by_cases hb : zNo a ∨ k = 8
  · refine ⟨1, 20, _, m_PC_go0 σ r1 hk hb, by decide, by decide, ?_⟩
    rintro r σ1 ⟨rfl, rfl⟩
    refine ⟨_, rfl, 1, 20, _, m_MO_go0 σ1 r2 hk hb, by decide, by decide, ?_⟩
    rintro r σ2 ⟨rfl, rfl⟩
    exact ⟨rfl, Inv_t 0 zfr.rf h0⟩
  · obtain ⟨j, hj, rfl⟩ : ∃ j : Nat, j < 6 ∧ a = nI j := by
      rcases zNo_or a with q | q
      · exact q
      · exact absurd (Or.inl q) hb
    have hk8 : k < 8 := by
      have : k ≠ 8 := fun e => hb (Or.inr e)
      omega
    refine ⟨1, 20, _, m_PC_go1 hj σ r1 hk8, by decide, by decide, ?_⟩
    rintro r σ1 ⟨rfl, rfl⟩
    refine ⟨_, rfl, 1, 20, _, m_MO_go1 hj (zwA (zwA σ 9 k (nI j)) 8 1 (nI (k + 1))) (by rw [zwA_n _ _ _ _ (by decide), zwA_n _ _ _ _ (by decide)]; exact r2) hk8, by decide, by decide, ?_⟩
    rintro r σ2 ⟨rfl, rfl⟩
    generalize hg : zwA (zwA (zwA (zwA (zwA σ 9 k (nI j)) 8 1 (nI (k + 1))) 45 0 0) 59 k (nI j)) 45 23 (nI (k + 1)) = σ2
    have ff : zfr [8, 9, 45, 59] σ σ2 := by
      rw [← hg]
      exact ((((zfr.rf.wA _ (by decide)).wA _ (by decide)).wA _ (by decide)).wA _ (by decide)).wA _ (by decide)
    have k1 : ∀ j, j ≠ 0 → j ≠ 23 → σ2.1 45 j = σ.1 45 j := fun j j0 j1 => by rw [← hg, zwA_sn _ _ _ _ j1, zwA_n _ _ _ _ (by decide), zwA_sn _ _ _ _ j0, zwA_n _ _ _ _ (by decide), zwA_n _ _ _ _ (by decide)]
    refine ⟨rfl, iT_z (by rw [ff.1 0 (by decide)]) (k1 1 (by decide) (by decide)) (ff.1 1 (by decide)) (ff.1 46 (by decide)) hT, iS_z ff (by decide) (by decide) (by decide) (by decide) hS, ⟨k + 1, fun p => if p = k then j else st p, by omega, by rw [← hg]; simp [zwA_1], by rw [← hg]; simp [zwA_1], fun p hp => ?_⟩, iF_z ff (by decide) (by rw [ff.1 0 (by decide)]) (fun j hj => k1 j (by rintro rfl; revert hj; decide) (by rintro rfl; revert hj; decide)) hF⟩
    rw [← hg]
    by_cases e : p = k
    · subst e
      simp [zwA_1, hj]
    · obtain ⟨w1, w2, w3⟩ := r3 p (by omega)
      simp [zwA_1, e, w1, w2, w3]
theorem s_endless {σ : zS} (h : Inv σ) (a : Int32) : sp_endless Inv σ a := by
  have h0 := h
  obtain ⟨hT, ⟨hS1, hS2⟩, hR, hF⟩ := h
  rcases zNo_or a with ⟨j, hj, rfl⟩ | q
  · refine ⟨1, 40, _, m_PC_en1 hj σ, by decide, by decide, ?_⟩
    rintro r σ1 ⟨rfl, x, rfl, x1, x2⟩
    refine ⟨_, rfl, 1, 40, _, m_MO_en1 hj σ1 hS2, by decide, by decide, ?_⟩
    rintro r σ2 ⟨rfl, y, rfl, y1, y2⟩
    exact ⟨by rw [e_same x1 x2 y1 y2 hj], Inv_t 0 zfr.rf h0⟩
  · refine ⟨1, 40, _, m_PC_en0 q σ, by decide, by decide, ?_⟩
    rintro r σ1 ⟨rfl, rfl⟩
    refine ⟨_, rfl, 1, 40, _, m_MO_en0 q σ1, by decide, by decide, ?_⟩
    rintro r σ2 ⟨rfl, rfl⟩
    exact ⟨rfl, Inv_t 0 zfr.rf h0⟩
theorem s_state {σ : zS} (h : Inv σ) (a b : Int32) : sp_state Inv σ a b := by
  have h0 := h
  obtain ⟨hT, ⟨hS1, hS2⟩, hR, hF⟩ := h
  by_cases hb : zNo a ∨ (b ≠ -1 ∧ zNo b)
  · refine ⟨1, 30, _, m_PC_st0 hb σ, by decide, by decide, ?_⟩
    rintro r σ1 ⟨rfl, rfl⟩
    refine ⟨_, rfl, 1, 30, _, m_MO_st0 hb σ1, by decide, by decide, ?_⟩
    rintro r σ2 ⟨rfl, rfl⟩
    exact ⟨rfl, Inv_t 0 zfr.rf h0⟩
  · obtain ⟨j, hj, rfl⟩ : ∃ j : Nat, j < 6 ∧ a = nI j := by
      rcases zNo_or a with q | q
      · exact q
      · exact absurd (Or.inl q) hb
    by_cases hm : b = -1
    · subst hm
      refine ⟨1, 30, _, m_PC_st2 hj σ, by decide, by decide, ?_⟩
      rintro r σ1 ⟨rfl, rfl⟩
      refine ⟨_, rfl, 1, 30, _, m_MO_st2 hj σ1, by decide, by decide, ?_⟩
      rintro r σ2 ⟨rfl, rfl⟩
      exact ⟨by rw [hS1], Inv_t 0 zfr.rf h0⟩
    · obtain ⟨i, hi, rfl⟩ : ∃ j : Nat, j < 6 ∧ b = nI j := by
        rcases zNo_or b with q | q
        · exact q
        · exact absurd (Or.inr ⟨hm, q⟩) hb
      refine ⟨1, 30, _, m_PC_st1 hj hi σ, by decide, by decide, ?_⟩
      rintro r σ1 ⟨rfl, rfl⟩
      refine ⟨_, rfl, 1, 30, _, m_MO_st1 hj hi σ1 (hS2 j i hj hi), by decide, by decide, ?_⟩
      rintro r σ2 ⟨rfl, rfl⟩
      exact ⟨rfl, Inv_t 0 zfr.rf h0⟩
theorem s_mark {σ : zS} (h : Inv σ) (a b : Int32) : sp_mark Inv σ a b := by
  have h0 := h
  obtain ⟨hT, ⟨hS1, hS2⟩, hR, hF⟩ := h
  by_cases hb : zNo a ∨ b < 0 ∨ nI 16 ≤ b
  · refine ⟨1, 20, _, m_PC_mk0 hb σ, by decide, by decide, ?_⟩
    rintro r σ1 ⟨rfl, rfl⟩
    refine ⟨_, rfl, 1, 30, _, m_MO_mk0 hb σ1, by decide, by decide, ?_⟩
    rintro r σ2 ⟨rfl, rfl⟩
    exact ⟨rfl, Inv_t 0 zfr.rf h0⟩
  · obtain ⟨j, hj, rfl⟩ : ∃ j : Nat, j < 6 ∧ a = nI j := by
      rcases zNo_or a with q | q
      · exact q
      · exact absurd (Or.inl q) hb
    obtain ⟨i, hi, rfl⟩ : ∃ j : Nat, j < 16 ∧ b = nI j := by
      rcases z15_or b with q | q
      · exact q
      · exact absurd (Or.inr q) hb
    refine ⟨1, 20, _, m_PC_mk1 hj hi σ, by decide, by decide, ?_⟩
    rintro r σ1 ⟨rfl, rfl⟩
    refine ⟨_, rfl, 1, 30, _, m_MO_mk1 hj hi (zwA (zwA σ 43 j (nI i)) 0 10 0), by decide, by decide, ?_⟩
    rintro r σ2 ⟨rfl, rfl⟩
    obtain ⟨q1, q2, q3, q4⟩ := zfg_1 (zwA (zwA (zwA (zwA σ 43 j (nI i)) 0 10 0) 45 0 0) 57 j (nI i))
    generalize zfg (zwA (zwA (zwA (zwA σ 43 j (nI i)) 0 10 0) 45 0 0) 57 j (nI i)) 6 = σ2 at q1 q2 q3 q4
    have ff : zfr [0, 43, 45, 57, 70] σ σ2 := ((((zfr.rf.wA _ (by decide)).wA _ (by decide)).wA _ (by decide)).wA _ (by decide)).tr (q1.mo (by decide))
    have k1 : ∀ j, j ≠ 0 → j ≠ 25 → σ2.1 45 j = σ.1 45 j := fun j j0 j1 => by rw [q2 j (fun e => j1 (by simpa using e)), zwA_n _ _ _ _ (by decide), zwA_sn _ _ _ _ j0, zwA_n _ _ _ _ (by decide), zwA_n _ _ _ _ (by decide)]
    have e0 : σ2.1 0 = (zwA (zwA σ 43 j (nI i)) 0 10 0).1 0 := by rw [q1.1 0 (by decide), zwA_n _ _ _ _ (by decide), zwA_n _ _ _ _ (by decide)]
    refine ⟨rfl, iT_z (by rw [e0, zwA_sn _ _ _ _ (by decide), zwA_n _ _ _ _ (by decide)]) (k1 1 (by decide) (by decide)) (ff.1 1 (by decide)) (ff.1 46 (by decide)) hT, ⟨?_, ?_⟩, iR_z (by rw [ff.1 8 (by decide)]) (k1 23 (by decide) (by decide)) (ff.1 9 (by decide)) (ff.1 59 (by decide)) hR, iF_new (iSame_z ff (by decide) (fun j hj => k1 j (by rintro rfl; revert hj; decide) (by rintro rfl; revert hj; decide))) (by rw [e0, zwA_ss]) q3 q4 hF⟩
    · rw [q1.1 57 (by decide), q1.1 43 (by decide)]
      funext p
      simp [zwA_1, hS1]
    · rw [jn_fr ff (by decide), ff.1 58 (by decide)]
      exact hS2
theorem s_link {σ : zS} (h : Inv σ) (a b : Int32) (p : Bool) : sp_link Inv σ a b (zb p) := by
  have h0 := h
  obtain ⟨hT, ⟨hS1, hS2⟩, hR, hF⟩ := h
  by_cases hb : zNo a ∨ zNo b
  · refine ⟨1, 30, _, m_PC_lk0 hb σ, by decide, by decide, ?_⟩
    rintro r σ1 ⟨rfl, rfl⟩
    refine ⟨_, rfl, 1, 30, _, m_MO_lk0 hb σ1, by decide, by decide, ?_⟩
    rintro r σ2 ⟨rfl, rfl⟩
    exact ⟨rfl, Inv_t 0 zfr.rf h0⟩
  obtain ⟨j, hj, rfl⟩ : ∃ j : Nat, j < 6 ∧ a = nI j := by
    rcases zNo_or a with q | q
    · exact q
    · exact absurd (Or.inl q) hb
  obtain ⟨i, hi, rfl⟩ : ∃ j : Nat, j < 6 ∧ b = nI j := by
    rcases zNo_or b with q | q
    · exact q
    · exact absurd (Or.inr q) hb
  by_cases hp : jn σ j i = p
  · refine ⟨1, 30, _, m_PC_lk2 hj hi σ hp, by decide, by decide, ?_⟩
    rintro r σ1 ⟨rfl, rfl⟩
    refine ⟨_, rfl, 1, 30, _, m_MO_lk2 hj hi σ1 (hS2 j i hj hi) hp, by decide, by decide, ?_⟩
    rintro r σ2 ⟨rfl, rfl⟩
    exact ⟨rfl, Inv_t 0 zfr.rf h0⟩
  · refine ⟨1, 30, _, m_PC_lk1 hj hi σ hp, by decide, by decide, ?_⟩
    rintro r σ1 ⟨rfl, rfl⟩
    generalize hx : σ.1 44 j ^^^ ((1 : Int32) <<< (nI i &&& 31)) = x
    refine ⟨_, rfl, 1, 30, _, m_MO_lk1 hj hi (zwA (zwA σ 44 j x) 0 10 0) (q := jn σ j i) (by rw [zwA_n _ _ _ _ (by decide), zwA_n _ _ _ _ (by decide)]; exact hS2 j i hj hi) hp, by decide, by decide, ?_⟩
    rintro r σ2 ⟨rfl, rfl⟩
    obtain ⟨q1, q2, q3, q4⟩ := zfg_1 (zwA (zwA (zwA (zwA σ 44 j x) 0 10 0) 45 0 0) 58 (6 * j + i) (zb p))
    generalize zfg (zwA (zwA (zwA (zwA σ 44 j x) 0 10 0) 45 0 0) 58 (6 * j + i) (zb p)) 6 = σ2 at q1 q2 q3 q4
    have ff : zfr [0, 44, 45, 58, 70] σ σ2 := ((((zfr.rf.wA _ (by decide)).wA _ (by decide)).wA _ (by decide)).wA _ (by decide)).tr (q1.mo (by decide))
    have k1 : ∀ j, j ≠ 0 → j ≠ 25 → σ2.1 45 j = σ.1 45 j := fun j j0 j1 => by rw [q2 j (fun e => j1 (by simpa using e)), zwA_n _ _ _ _ (by decide), zwA_sn _ _ _ _ j0, zwA_n _ _ _ _ (by decide), zwA_n _ _ _ _ (by decide)]
    have e0 : σ2.1 0 = (zwA (zwA σ 44 j x) 0 10 0).1 0 := by rw [q1.1 0 (by decide), zwA_n _ _ _ _ (by decide), zwA_n _ _ _ _ (by decide)]
    refine ⟨rfl, iT_z (by rw [e0, zwA_sn _ _ _ _ (by decide), zwA_n _ _ _ _ (by decide)]) (k1 1 (by decide) (by decide)) (ff.1 1 (by decide)) (ff.1 46 (by decide)) hT, ⟨?_, fun c d hc hd => ?_⟩, iR_z (by rw [ff.1 8 (by decide)]) (k1 23 (by decide) (by decide)) (ff.1 9 (by decide)) (ff.1 59 (by decide)) hR, iF_new (iSame_z ff (by decide) (fun j hj => k1 j (by rintro rfl; revert hj; decide) (by rintro rfl; revert hj; decide))) (by rw [e0, zwA_ss]) q3 q4 hF⟩
    · rw [ff.1 57 (by decide), ff.1 43 (by decide)]
      exact hS1
    · have e44 : σ2.1 44 c = if c = j then x else σ.1 44 c := by
        rw [q1.1 44 (by decide), zwA_n _ _ _ _ (by decide), zwA_n _ _ _ _ (by decide), zwA_n _ _ _ _ (by decide), zwA_1, if_pos rfl]
      have e58 : σ2.1 58 (6 * c + d) = if 6 * c + d = 6 * j + i then zb p else σ.1 58 (6 * c + d) := by
        rw [q1.1 58 (by decide), zwA_1, if_pos rfl, zwA_n _ _ _ _ (by decide), zwA_n _ _ _ _ (by decide), zwA_n _ _ _ _ (by decide)]
      rw [e58, jn, e44]
      have hbit : ∀ d, d < 6 → tb x d = (jn σ j d ^^ decide (d = i)) := fun d hd => by
        rw [← hx, tb_xor, tb_shl1 (by omega) d (by omega)]
        rfl
      by_cases ec : c = j
      · subst ec
        rw [if_pos rfl, hbit d hd]
        by_cases ed : d = i
        · subst ed
          rw [if_pos rfl]
          congr 1
          cases e1 : jn σ c d <;> cases p <;> simp_all
        · rw [if_neg (by omega), hS2 c d hc hd]
          simp [ed]
      · rw [if_neg ec, if_neg (by omega), hS2 c d hc hd]
        rfl
theorem aRd_det {T : Nat → Int32} {n : Nat} {nd nd2 : nL3} (h : aRd T n nd) (h2 : aRd T n nd2) : nd = nd2 := by
  obtain ⟨m1, _, a⟩ := aRd_rm h
  obtain ⟨m2, _, b⟩ := aRd_rm h2
  exact (aRm_det a b).2
theorem s_formula {σ : zS} (h : Inv σ) : sp_formula Inv σ := by
  have h0 := h
  obtain ⟨⟨n, hn, a1, a2, a3⟩, hS, hR, hF⟩ := h
  have hsame : ∀ nd, aRd (σ.1 46) n nd ↔ aRd (σ.1 1) n nd := fun nd => aRd_same (fun j hj => ((a3 j hj).1).symm)
  refine ⟨6, 160, _, _, m_PC_formula hn σ a1 (fun j hj => (a3 j hj).2), by decide, by decide, ?_, ?_⟩
  · rintro r σ1 ⟨nd, r1, r2, rfl, f1, r4, r5, r6⟩
    refine ⟨_, rfl, 4, 130, _, m_MO_formula hn (zwL σ1 73 0 (nI (ntn nd)).toInt64) (by
      show σ1.1 45 1 = nI n
      rw [f1.1 45 (by decide)]
      exact a2), by decide, by decide, ?_⟩
    rintro r σ2 ⟨_, f2, d2, hh⟩
    have e46 : (zwL σ1 73 0 (nI (ntn nd)).toInt64).1 46 = σ.1 46 := f1.1 46 (by decide)
    rw [e46] at hh
    rcases hh with ⟨_, hno, _⟩ | ⟨_, ⟨nd2, n1, n2⟩, _⟩ | ⟨t0, nd2, n1, n2, rfl, m1, m2, m3, m4, m5⟩
    · exact absurd ((hsame nd).mpr r1) (hno nd)
    · have e := aRd_det ((hsame nd2).mp n1) r1
      subst e
      omega
    · have e := aRd_det ((hsame nd2).mp n1) r1
      subst e
      obtain ⟨b1, b2, b3, b4⟩ := aRd_ok r1
      have ff : zfr [0, 2, 3, 4, 5, 6, 7, 34, 35, 36, 37, 38, 39, 40, 41, 45, 47, 48, 49, 50, 51, 52, 53, 54, 55, 56, 70, 73] σ σ2 := ((f1.mo (by decide)).tr ((zfr.rf.wL _ (by decide)))).tr (f2.mo (by decide))
      have e0 : σ2.1 0 = σ1.1 0 := f2.1 0 (by decide)
      refine ⟨_, rfl, t0, ?_, ⟨0, by omega, by rw [e0]; exact r4, m3, fun j hj => absurd hj (by omega)⟩, iS_z ff (by decide) (by decide) (by decide) (by decide) hS, iR_z (by rw [ff.1 8 (by decide)]) ?_ (ff.1 9 (by decide)) (ff.1 59 (by decide)) hR, Or.inr ⟨ndg nd2, nd2.length, ⟨by omega, b1, b3, by rw [tcn_ndg]; exact r2, ?_, m1, m2⟩, Or.inl (by rw [e0]; exact r5), Or.inl m4, fun s hs => Or.inl (m5 s hs)⟩⟩
      · rw [f2.2 73 (by decide), zwL_ss]
      · rw [d2 23 (by decide)]
        exact congrFun (f1.1 45 (by decide)) 23
      · have q : ∀ o, 34 ≤ o → o ≤ 39 → σ2.1 o = σ1.1 o := fun o o1 o2 => f2.1 o (by
          intro hm
          simp only [List.mem_cons, List.not_mem_nil, or_false] at hm
          omega)
        unfold fOk nO at *
        rw [q 34 (by decide) (by decide), q 35 (by decide) (by decide), q 36 (by decide) (by decide), q 37 (by decide) (by decide), q 38 (by decide) (by decide), q 39 (by decide) (by decide)]
        exact r6
  · rintro x σ1 ⟨f1, hx⟩
    refine ⟨by rcases hx with ⟨e, _⟩ | ⟨e, _⟩ <;> simp [e], 4, 130, _, m_MO_formula hn σ1 (by rw [f1.1 45 (by decide)]; exact a2), by decide, by decide, ?_⟩
    rintro r σ2 ⟨hr, f2, d2, hh⟩
    rw [f1.1 46 (by decide)] at hh
    have keep : ∀ (f3 : zfr [45, 51, 52, 53, 54, 55] σ1 σ2) (d3 : zfd [0, 10, 14, 16, 18] σ1 σ2), Inv σ2 := fun f3 d3 => Inv_z (l := [2, 3, 4, 5, 6, 7, 45, 51, 52, 53, 54, 55]) ((f1.mo (by decide)).tr (f3.mo (by decide))) (by decide) (fun j hj => by
      rw [d3 j (by intro hm; simp at hj hm; omega), f1.1 45 (by decide)]) h0
    rcases hh with ⟨t0, hno, f3, d3⟩ | ⟨t0, ⟨nd2, n1, n2⟩, f3, d3⟩ | ⟨t0, nd2, n1, n2, _⟩
    · rcases hx with ⟨rfl, _⟩ | ⟨rfl, nd, w1, w2⟩
      · exact ⟨hr, t0, by decide, keep f3 d3⟩
      · exact absurd ((hsame nd).mpr w1) (hno nd)
    · rcases hx with ⟨rfl, w⟩ | ⟨rfl, nd, w1, w2⟩
      · exact absurd ((hsame nd2).mp n1) (w nd2)
      · exact ⟨hr, t0, by decide, keep f3 d3⟩
    · rcases hx with ⟨rfl, w⟩ | ⟨rfl, nd, w1, w2⟩
      · exact absurd ((hsame nd2).mp n1) (w nd2)
      · have e := aRd_det ((hsame nd2).mp n1) w1
        subst e
        omega
