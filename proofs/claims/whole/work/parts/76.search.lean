/-! The class's search -/
abbrev cB (σ : zS) (z : Nat) : Nat → (Nat → Nat) → Nat → Prop := Brk (σ.1 35) (sec (σ.1 36)) z (σ.1 43) (jn σ)
/-- all that the search needs -/
def sD (σ : zS) (z T : Nat) : Prop := fM σ z T ∧ σ.1 28 2 = nI (2 ^ T) ∧ gD (σ.1 35) (σ.1 36) z T (σ.1 43) (jn σ) (σ.1 31) (σ.1 32) (σ.1 33) ∧ nD σ σ T
abbrev seL : List Nat := [11, 12, 13, 14, 15]
theorem sD_fr {σ τ : zS} {z T : Nat} (hf : zfr seL σ τ) (h : sD σ z T) : sD τ z T := by
  unfold sD nD cE cG
  rw [jn_fr hf (by decide), hf.1 35 (by decide), hf.1 36 (by decide), hf.1 43 (by decide), hf.1 31 (by decide), hf.1 32 (by decide), hf.1 33 (by decide), hf.1 28 (by decide), hf.1 17 (by decide), hf.1 18 (by decide)]
  exact ⟨fM_fr hf (by decide) h.1, h.2⟩
theorem cB_fr {σ τ : zS} {z : Nat} (hf : zfr seL σ τ) : cB τ z = cB σ z := by
  unfold cB
  rw [jn_fr hf (by decide), hf.1 35 (by decide), hf.1 36 (by decide), hf.1 43 (by decide)]
/-- guesses that are true along a lasso -/
def tru (σ : zS) (T k : Nat) (q : Nat → Nat) (j : Nat) (G : Nat → Nat) : Prop := (∀ i, i < k → G i < 2 ^ T ∧ tb (σ.1 17 ((k - 1 - i) * 6 + q i)) (G i) = true) ∧ (∀ i, i < k → preA (σ.1 31) (q i) (q (nx k j i)) (G (nx k j i)) = G i) ∧ tb (σ.1 32 (q 0)) (G 0) = false
theorem tru_fr {σ τ : zS} {T k : Nat} {q : Nat → Nat} {j : Nat} {G : Nat → Nat} (hf : zfr seL σ τ) : tru τ T k q j G = tru σ T k q j G := by
  unfold tru
  rw [hf.1 17 (by decide), hf.1 31 (by decide), hf.1 32 (by decide)]
theorem sD_pr {σ : zS} {z T : Nat} (h : sD σ z T) : T ≤ 5 ∧ gP σ T := by
  obtain ⟨hM, _, hG, _⟩ := h
  exact ⟨by have := hM.2.2.1; have := hM.2.2.2.2.2.1; omega, hG.1⟩
theorem tru_ex {σ : zS} {z T k j : Nat} {q : Nat → Nat} (h : sD σ z T) (hk : k ≤ 6) (hj : j < k) (hq : ∀ i, i < k → q i < 6) (hB : cB σ z k q j) : ∃ G, tru σ T k q j G := by
  have hp := sD_pr h
  have p2 := p2_le hp.1
  obtain ⟨⟨m1, m2, m3, c1, c2, c3, c4, c5, c6, c7, c8⟩, h28, ⟨_, Hs, gO1, gH, gP1⟩, n1, n2⟩ := h
  have hP : ∀ r, r < z → tmd (σ.1 35 r) = true → (fun k => (σ.1 38 k).toNatClampNeg) (nuF (σ.1 35) z r) = r := fun r hr ht => by
    show (σ.1 38 (nuF (σ.1 35) z r)).toNatClampNeg = r
    rw [(c7 r hr ht).2, nI_clamp (by omega)]
  have hL := lsV_O c4 (σ.1 43) q hj
  refine ⟨tG T (fun k => (σ.1 38 k).toNatClampNeg) (lsV (σ.1 35) (sec (σ.1 36)) (σ.1 43) q k j z), fun i hi => ⟨bN_lt _ _, ?_⟩, fun i hi => ?_, ?_⟩
  · have hlt := bN_lt (fun k_1 => lsV (σ.1 35) (sec (σ.1 36)) (σ.1 43) q k j z ((fun k => (σ.1 38 k).toNatClampNeg) k_1) i) T
    refine (n1 (k - 1 - i) (by omega) (q i) (hq i hi) _ (by unfold tG; omega)).mpr ⟨hlt, ?_⟩
    exact ls_N m3 c5 gO1 c4 gP1 hP hj hL hq hB.1 i hi
  · exact ls_pre m3 c5 gO1 c4 hP hj hL hq hi (hB.1 i hi)
  · have hlt0 : tG T (fun k => (σ.1 38 k).toNatClampNeg) (lsV (σ.1 35) (sec (σ.1 36)) (σ.1 43) q k j z) 0 < 2 ^ T := bN_lt _ _
    rw [gH (q 0) (hq 0 (by omega)) _ hlt0, ls_H m3 gO1 c4 hP hL hq (by omega : 0 < k) 0 c1]
    exact hB.2
def stp (st : Nat → Nat) (m t : Nat) : Nat → Nat := fun i => if i = m then t else st i
theorem stp_s (st : Nat → Nat) (m t : Nat) : stp st m t m = t := if_pos rfl
theorem stp_n (st : Nat → Nat) {m t i : Nat} (h : i ≠ m) : stp st m t i = st i := if_neg h
def agr (p : Nat) (q st : Nat → Nat) : Prop := ∀ i, i ≤ p → q i = st i
/-- the guesses that stay open along the row -/
def opI (σ : zS) (z T k p : Nat) (st : Nat → Nat) (A : Nat → Int32) : Prop := ∀ q j, agr p q st → (∀ i, i < k → q i < 6) → j < k → cB σ z k q j → ∀ G, tru σ T k q j G → ∀ i, i ≤ p → tb (A i) (G i) = true
def eRes (B : Nat → (Nat → Nat) → Nat → Prop) (k p : Nat) (st : Nat → Nat) (A : Nat → Int32) (x : Int32) : Prop := (x = -1 ∧ ∀ q, agr p q st → (∀ i, i < k → q i < 6) → ∀ j, j < k → ¬ B k q j) ∨ ∃ r j, x = nI j ∧ (∀ i, i < k → A i = nI (r i)) ∧ agr p r st ∧ (∀ i, i < k → r i < 6) ∧ j < k ∧ B k r j ∧ (∀ q, agr p q st → (∀ i, i < k → q i < 6) → lxt k q r → ∀ i, i < k → ¬ B k q i) ∧ ∀ i, i < j → ¬ B k r i
theorem m_SE_may {z T k i : Nat} (hk : k ≤ 6) (hi : i < k) (σ : zS) (hD : sD σ z T) {st : Nat → Nat} (hst : ∀ p, p < k → σ.1 14 p = nI (st p) ∧ st p < 6) : zM ySE_mayGoOnAt cSE_mayGoOnAt 5 (some .boolean) 2 60 0 [.ref 11, .int (nI i), .int (nI (k - 1))] σ (fun r σ2 => σ2 = σ ∧ ∃ b : Bool, r = some (.int (zb b)) ∧ (b = true → jn σ (st (k - 1)) (st i) = true) ∧ (jn σ (st (k - 1)) (st i) = true → ∀ g, g < 2 ^ T → tb (σ.1 12 i) g = true → tb (σ.1 12 (k - 1)) (preA (σ.1 31) (st (k - 1)) (st i) g) = true → b = true)) (fun _ _ => False) := by
  refine zM.of [some (.ref 11), some (.int (nI i)), some (.int (nI (k - 1))), none, none] (by decide) 2 rfl (fun _ => Nat.le_of_ble_eq_true rfl) (fun Z hR => ?_)
  obtain ⟨hT5, hg⟩ := sD_pr hD
  have p2 := p2_le hT5
  obtain ⟨a1, a2⟩ := hst (k - 1) (by omega)
  obtain ⟨b1, b2⟩ := hst i hi
  cases ej : jn σ (st (k - 1)) (st i) with
  | false =>
    refine z_aload_n hR dSE_mayGoOnAt_0 (n := 1) rfl rfl ?_
    refine z_getR hR dSE_mayGoOnAt_1 (n := 4) rfl zgSE_28 (by decide) rfl rfl ?_
    refine z_getR hR dSE_mayGoOnAt_4 (n := 7) rfl zgSE_46 (by decide) rfl rfl ?_
    refine z_iload_n hR dSE_mayGoOnAt_7 (n := 8) rfl rfl ?_
    refine z_iald hR (_) dSE_mayGoOnAt_8 (n := 9) rfl (by decide) rfl (by decide) rfl (by omega) ?_
    rw [a1]
    refine z_istore_n hR dSE_mayGoOnAt_9 (n := 10) rfl (by decide) rfl ?_
    refine z_aload_n hR dSE_mayGoOnAt_10 (n := 11) rfl rfl ?_
    refine z_getR hR dSE_mayGoOnAt_11 (n := 14) rfl zgSE_28 (by decide) rfl rfl ?_
    refine z_getR hR dSE_mayGoOnAt_14 (n := 17) rfl zgSE_46 (by decide) rfl rfl ?_
    refine z_iload_n hR dSE_mayGoOnAt_17 (n := 18) rfl rfl ?_
    refine z_iald hR (_) dSE_mayGoOnAt_18 (n := 19) rfl (by decide) rfl (by decide) rfl (by omega) ?_
    rw [b1]
    refine z_istore hR dSE_mayGoOnAt_19 (n := 21) rfl (by decide) rfl ?_
    refine z_aload_n hR dSE_mayGoOnAt_21 (n := 22) rfl rfl ?_
    refine z_getR hR dSE_mayGoOnAt_22 (n := 25) rfl zgSE_22 (by decide) rfl rfl ?_
    refine z_getR hR dSE_mayGoOnAt_25 (n := 28) rfl zgSE_64 (by decide) rfl rfl ?_
    refine z_iload_n hR dSE_mayGoOnAt_28 (n := 29) rfl rfl ?_
    refine z_iload hR dSE_mayGoOnAt_29 (n := 31) rfl rfl ?_
    refine z_callV2 hR dSE_mayGoOnAt_31 (n := 34) rfl zcSE_68 zkST_joins (by decide) (Nat.le_of_ble_eq_true rfl) (by decide) rfl rfl (Nat.zero_le _) (m_ST_jn a2 b2 σ) (fun r31 s31 h31 => ?_)
    obtain ⟨rfl, e31⟩ := h31
    subst s31
    rw [ej]
    refine z_if_eqB hR dSE_mayGoOnAt_34 (t := 66) (n := 37) rfl rfl (fun h34 => ?_) (fun h34 => absurd h34 (by decide))
    refine z_iconst hR dSE_mayGoOnAt_66 (v := 0) (n := 67) rfl rfl ?_
    refine z_zret hR dSE_mayGoOnAt_67 rfl rfl (Nat.zero_le _) ?_
    exact ⟨rfl, false, rfl, fun h => absurd h (by decide), fun h => absurd (ej.symm.trans h) (by decide)⟩
  | true =>
    refine z_aload_n hR dSE_mayGoOnAt_0 (n := 1) rfl rfl ?_
    refine z_getR hR dSE_mayGoOnAt_1 (n := 4) rfl zgSE_28 (by decide) rfl rfl ?_
    refine z_getR hR dSE_mayGoOnAt_4 (n := 7) rfl zgSE_46 (by decide) rfl rfl ?_
    refine z_iload_n hR dSE_mayGoOnAt_7 (n := 8) rfl rfl ?_
    refine z_iald hR (_) dSE_mayGoOnAt_8 (n := 9) rfl (by decide) rfl (by decide) rfl (by omega) ?_
    rw [a1]
    refine z_istore_n hR dSE_mayGoOnAt_9 (n := 10) rfl (by decide) rfl ?_
    refine z_aload_n hR dSE_mayGoOnAt_10 (n := 11) rfl rfl ?_
    refine z_getR hR dSE_mayGoOnAt_11 (n := 14) rfl zgSE_28 (by decide) rfl rfl ?_
    refine z_getR hR dSE_mayGoOnAt_14 (n := 17) rfl zgSE_46 (by decide) rfl rfl ?_
    refine z_iload_n hR dSE_mayGoOnAt_17 (n := 18) rfl rfl ?_
    refine z_iald hR (_) dSE_mayGoOnAt_18 (n := 19) rfl (by decide) rfl (by decide) rfl (by omega) ?_
    rw [b1]
    refine z_istore hR dSE_mayGoOnAt_19 (n := 21) rfl (by decide) rfl ?_
    refine z_aload_n hR dSE_mayGoOnAt_21 (n := 22) rfl rfl ?_
    refine z_getR hR dSE_mayGoOnAt_22 (n := 25) rfl zgSE_22 (by decide) rfl rfl ?_
    refine z_getR hR dSE_mayGoOnAt_25 (n := 28) rfl zgSE_64 (by decide) rfl rfl ?_
    refine z_iload_n hR dSE_mayGoOnAt_28 (n := 29) rfl rfl ?_
    refine z_iload hR dSE_mayGoOnAt_29 (n := 31) rfl rfl ?_
    refine z_callV2 hR dSE_mayGoOnAt_31 (n := 34) rfl zcSE_68 zkST_joins (by decide) (Nat.le_of_ble_eq_true rfl) (by decide) rfl rfl (Nat.zero_le _) (m_ST_jn a2 b2 σ) (fun r31 s31 h31 => ?_)
    obtain ⟨rfl, e31⟩ := h31
    subst s31
    rw [ej]
    refine z_if_eqB hR dSE_mayGoOnAt_34 (t := 66) (n := 37) rfl rfl (fun h34 => absurd h34 (by decide)) (fun h34 => ?_)
    refine z_aload_n hR dSE_mayGoOnAt_37 (n := 38) rfl rfl ?_
    refine z_getR hR dSE_mayGoOnAt_38 (n := 41) rfl zgSE_22 (by decide) rfl rfl ?_
    refine z_iload_n hR dSE_mayGoOnAt_41 (n := 42) rfl rfl ?_
    refine z_iload hR dSE_mayGoOnAt_42 (n := 44) rfl rfl ?_
    refine z_aload_n hR dSE_mayGoOnAt_44 (n := 45) rfl rfl ?_
    refine z_getR hR dSE_mayGoOnAt_45 (n := 48) rfl zgSE_32 (by decide) rfl rfl ?_
    refine z_iload_n hR dSE_mayGoOnAt_48 (n := 49) rfl rfl ?_
    refine z_iald hR (_) dSE_mayGoOnAt_49 (n := 50) rfl (by decide) rfl (by decide) rfl (by omega) ?_
    refine z_aload_n hR dSE_mayGoOnAt_50 (n := 51) rfl rfl ?_
    refine z_getR hR dSE_mayGoOnAt_51 (n := 54) rfl zgSE_32 (by decide) rfl rfl ?_
    refine z_iload_n hR dSE_mayGoOnAt_54 (n := 55) rfl rfl ?_
    refine z_iald hR (_) dSE_mayGoOnAt_55 (n := 56) rfl (by decide) rfl (by decide) rfl (by omega) ?_
    refine z_callV4 hR dSE_mayGoOnAt_56 (n := 59) rfl zcSE_74 zkGR_guessesAfter (by decide) (Nat.le_of_ble_eq_true rfl) (by decide) rfl rfl (Nat.zero_le _) (m_GR_guessesAfter hT5 a2 b2 (σ.1 12 (k - 1)) (σ.1 12 i) σ hD.2.1 (p := preA (σ.1 31) (st (k - 1)) (st i)) (fun g hgg => ⟨(hg _ _ a2 b2 ej g hgg).1, by have := (hg _ _ a2 b2 ej g hgg).2; omega⟩)) (fun r56 s56 h56 => ?_)
    obtain ⟨e56, w, rfl, hw⟩ := h56
    subst s56
    refine z_if_eq hR dSE_mayGoOnAt_59 (t := 66) (n := 62) rfl rfl (fun h59 => ?_) (fun h59 => ?_)
    · refine z_iconst hR dSE_mayGoOnAt_66 (v := 0) (n := 67) rfl rfl ?_
      refine z_zret hR dSE_mayGoOnAt_67 rfl rfl (Nat.zero_le _) ?_
      first
        | exact ⟨rfl, false, rfl, fun h => absurd h (by decide), fun _ g g1 g2 g3 => by
            have := (hw g (by omega)).mpr ⟨g1, g2, g3⟩
            rw [h59, tb_0] at this
            exact absurd this (by decide)⟩
        | exact ⟨rfl, true, rfl, fun _ => ej, fun _ _ _ _ _ => rfl⟩
    · refine z_iconst hR dSE_mayGoOnAt_62 (v := 1) (n := 63) rfl rfl ?_
      refine z_goto hR dSE_mayGoOnAt_63 (t := 67) rfl ?_
      refine z_zret hR dSE_mayGoOnAt_67 rfl rfl (Nat.zero_le _) ?_
      first
        | exact ⟨rfl, false, rfl, fun h => absurd h (by decide), fun _ g g1 g2 g3 => by
            have := (hw g (by omega)).mpr ⟨g1, g2, g3⟩
            rw [h59, tb_0] at this
            exact absurd this (by decide)⟩
        | exact ⟨rfl, true, rfl, fun _ => ej, fun _ _ _ _ _ => rfl⟩
theorem m_SE_close {z T k : Nat} (hk : k ≤ 6) (hk0 : 0 < k) (σ : zS) (hD : sD σ z T) (hc : σ.1 13 1 = nI k) {st : Nat → Nat} (hst : ∀ p, p < k → σ.1 14 p = nI (st p) ∧ st p < 6) (h5 : σ.1 11 5 = -1) (hlk : ∀ i, i + 1 < k → jn σ (st i) (st (i + 1)) = true) (hT : tmP (σ.1 35) 0 z) (hC : nCf (σ.1 35) (σ.1 36) (σ.1 37) (σ.1 39) (σ.1 38) z 0) (hop : opI σ z T k (k - 1) st (σ.1 12)) : zM ySE_closeLoop cSE_closeLoop 3 none 3 110 0 [.ref 11, .int (nI (k - 1))] σ (fun r σ2 => r = none ∧ zfr [11, 15] σ σ2 ∧ (∀ j, j ≠ 5 → σ2.1 11 j = σ.1 11 j) ∧ ((σ2.1 11 5 = -1 ∧ ∀ j, j < k → ¬ cB σ z k st j) ∨ ∃ j, σ2.1 11 5 = nI j ∧ j < k ∧ cB σ z k st j ∧ ∀ i, i < j → ¬ cB σ z k st i)) (fun _ _ => False) := by
  refine zM.of [some (.ref 11), some (.int (nI (k - 1))), none] (by decide) 1 rfl (fun _ => Nat.le_of_ble_eq_true rfl) (fun Z hR => ?_)
  have hM := hD.1
  obtain ⟨m1, m2, m3, c1, c2, c3, c4, c5, c6, c7, c8⟩ := hM
  have ret : ∀ (l2 : Option Value) (τ : zS), zfr [11, 15] σ τ → (∀ j, j ≠ 5 → τ.1 11 j = σ.1 11 j) → ((τ.1 11 5 = -1 ∧ ∀ j, j < k → ¬ cB σ z k st j) ∨ ∃ j, τ.1 11 5 = nI j ∧ j < k ∧ cB σ z k st j ∧ ∀ i, i < j → ¬ cB σ z k st i) → Z 0 62 [some (.ref 11), some (.int (nI (k - 1))), l2] [] τ := by
    intro l2 τ hf h1 h2
    refine z_vret hR dSE_closeLoop_62 rfl (Nat.zero_le _) ?_
    exact ⟨rfl, hf, h1, h2⟩
  have key : ∀ (m i : Nat) (τ : zS), i + m = k → zfr [11, 15] σ τ → (∀ j, j ≠ 5 → τ.1 11 j = σ.1 11 j) → τ.1 11 5 = -1 → (∀ j, j < i → ¬ cB σ z k st j) → Z 0 2 [some (.ref 11), some (.int (nI (k - 1))), some (.int (nI i))] [] τ := by
    intro m
    induction m with
    | zero =>
      intro i τ hi hf h1 h2 h3
      obtain rfl : i = k := by omega
      refine z_iload_n hR dSE_closeLoop_2 (n := 3) rfl rfl ?_
      refine z_iload_n hR dSE_closeLoop_3 (n := 4) rfl rfl ?_
      refine z_icmp_gtN hR dSE_closeLoop_4 (t := 62) (n := 7) rfl rfl (by omega) (by omega) (fun h4 => ?_) (fun h4 => absurd h4 (by omega))
      exact ret _ τ hf h1 (Or.inl ⟨h2, h3⟩)
    | succ m ih =>
      intro i τ hi hf h1 h2 h3
      have hik : i < k := by omega
      have hf5 : zfr seL σ τ := hf.mo (by decide)
      have hDt := sD_fr hf5 hD
      have hst2 : ∀ p, p < k → τ.1 14 p = nI (st p) ∧ st p < 6 := fun p hp => by
        rw [hf.1 14 (by decide)]
        exact hst p hp
      have hcm := m_SE_may hk hik τ hDt hst2
      rw [jn_fr hf (by decide), hf.1 12 (by decide), hf.1 31 (by decide)] at hcm
      have hcp := m_PA_places13 c2 c1 hik hk τ (by rw [hf.1 13 (by decide)]; exact hc) hst2 hDt.1.1 (by rw [hf.1 35 (by decide)]; exact hT) (by rw [hf.1 35 (by decide), hf.1 36 (by decide), hf.1 37 (by decide), hf.1 39 (by decide), hf.1 38 (by decide)]; exact hC)
      rw [hf.1 35 (by decide), hf.1 36 (by decide), hf.1 43 (by decide)] at hcp
      refine z_iload_n hR dSE_closeLoop_2 (n := 3) rfl rfl ?_
      refine z_iload_n hR dSE_closeLoop_3 (n := 4) rfl rfl ?_
      refine z_icmp_gtN hR dSE_closeLoop_4 (t := 62) (n := 7) rfl rfl (by omega) (by omega) (fun h4 => absurd h4 (by omega)) (fun h4 => ?_)
      refine z_aload_n hR dSE_closeLoop_7 (n := 8) rfl rfl ?_
      refine z_getI hR dSE_closeLoop_8 (n := 11) rfl zgSE_40 (by decide) rfl rfl ?_
      rw [h2]
      refine z_iconst hR dSE_closeLoop_11 (v := (-1)) (n := 12) rfl rfl ?_
      refine z_icmp_ne hR dSE_closeLoop_12 (t := 62) (n := 15) rfl rfl (fun h12 => absurd h12 (fun q => q rfl)) (fun _ => ?_)
      refine z_aload_n hR dSE_closeLoop_15 (n := 16) rfl rfl ?_
      refine z_iload_n hR dSE_closeLoop_16 (n := 17) rfl rfl ?_
      refine z_iload_n hR dSE_closeLoop_17 (n := 18) rfl rfl ?_
      refine z_callV2 hR dSE_closeLoop_18 (n := 21) rfl zcSE_78 zkSE_mayGoOnAt (by decide) (Nat.le_of_ble_eq_true rfl) (by decide) rfl rfl (Nat.zero_le _) hcm (fun r18 s18 h18 => ?_)
      obtain ⟨e18, b, rfl, hb1, hb2⟩ := h18
      subst s18
      refine z_if_eqB hR dSE_closeLoop_21 (t := 56) (n := 24) rfl rfl (fun h21 => ?_) (fun h21 => ?_)
      · have hno : ¬ cB σ z k st i := fun hB => by
          have hl : jn σ (st (k - 1)) (st i) = true := by
            have := hB.1 (k - 1) (by omega)
            rw [show nx k i (k - 1) = i from if_neg (by omega)] at this
            exact this
          obtain ⟨G, hG⟩ := tru_ex hD hk hik (fun p hp => (hst p hp).2) hB
          have ho := hop st i (fun _ _ => rfl) (fun p hp => (hst p hp).2) hik hB G hG
          have hp := hG.2.1 (k - 1) (by omega)
          rw [show nx k i (k - 1) = i from if_neg (by omega)] at hp
          have := hb2 hl (G i) (hG.1 i hik).1 (ho i (by omega)) (by rw [hp]; exact ho (k - 1) (Nat.le_refl _))
          rw [h21] at this
          exact absurd this (by decide)
        have go := ih (i + 1) τ (by omega) hf h1 h2 (fun j hj => by
          by_cases e : j = i
          · exact e ▸ hno
          · exact h3 j (by omega))
        refine z_iincN hR 1 dSE_closeLoop_56 (n := 59) rfl rfl (by decide) rfl rfl ?_
        refine z_goto hR dSE_closeLoop_59 (t := 2) rfl ?_
        exact go
      · skip
        refine z_aload_n hR dSE_closeLoop_24 (n := 25) rfl rfl ?_
        refine z_getR hR dSE_closeLoop_25 (n := 28) rfl zgSE_28 (by decide) rfl rfl ?_
        refine z_aload_n hR dSE_closeLoop_28 (n := 29) rfl rfl ?_
        refine z_getR hR dSE_closeLoop_29 (n := 32) rfl zgSE_22 (by decide) rfl rfl ?_
        refine z_getR hR dSE_closeLoop_32 (n := 35) rfl zgSE_81 (by decide) rfl rfl ?_
        refine z_aload_n hR dSE_closeLoop_35 (n := 36) rfl rfl ?_
        refine z_getR hR dSE_closeLoop_36 (n := 39) rfl zgSE_22 (by decide) rfl rfl ?_
        refine z_getR hR dSE_closeLoop_39 (n := 42) rfl zgSE_64 (by decide) rfl rfl ?_
        refine z_iload_n hR dSE_closeLoop_42 (n := 43) rfl rfl ?_
        refine z_callV3 hR dSE_closeLoop_43 (n := 46) rfl zcSE_85 zkPA_placesOf (by decide) (Nat.le_of_ble_eq_true rfl) (by decide) rfl rfl (Nat.zero_le _) hcp (fun r43 s43 h43 => ?_)
        obtain ⟨pf, rfl, pH⟩ := h43
        have hlinks : ∀ p, p < k → jn σ (st p) (st (nx k i p)) = true := fun p hp => by
          by_cases e : p + 1 < k
          · rw [show nx k i p = p + 1 from if_pos e]
            exact hlk p e
          · rw [show nx k i p = i from if_neg e, show p = k - 1 by omega]
            exact hb1 h21
        have hval : tb (s43.1 15 0) 0 = lsV (σ.1 35) (sec (σ.1 36)) (σ.1 43) st k i z 0 0 := lsO_un c4 hik (fun _ _ => rfl) (H := fun q p => tb (s43.1 15 q) p) (fun r hr p hp => (pH r hr).2 p hp) (lsV_O c4 (σ.1 43) st hik) 0 c1 0 (by omega)
        have hf3 : zfr [11, 15] σ s43 := hf.tr (pf.mo (by decide))
        have e5 : s43.1 11 = τ.1 11 := pf.1 11 (by decide)
        refine z_iconst hR dSE_closeLoop_46 (v := 1) (n := 47) rfl rfl ?_
        refine z_iand hR dSE_closeLoop_47 (n := 48) rfl ?_
        rw [tb_lo]
        refine z_if_ne hR dSE_closeLoop_48 (t := 56) (n := 51) rfl rfl (fun h48 => ?_) (fun h48 => ?_)
        · have go := ih (i + 1) s43 (by omega) hf3 (by rw [e5]; exact h1) (by rw [e5]; exact h2) (fun j hj => by
            by_cases e : j = i
            · subst e
              intro hB
              have := hB.2
              rw [← hval] at this
              rw [this] at h48
              exact h48 rfl
            · exact h3 j (by omega))
          refine z_iincN hR 1 dSE_closeLoop_56 (n := 59) rfl rfl (by decide) rfl rfl ?_
          refine z_goto hR dSE_closeLoop_59 (t := 2) rfl ?_
          exact go
        · have hB : cB σ z k st i := ⟨hlinks, by
            rw [← hval]
            exact zb_0.mp h48⟩
          have hend : ∀ l2, Z 0 62 [some (.ref 11), some (.int (nI (k - 1))), l2] [] (zwA s43 11 5 (nI i)) := fun l2 => ret _ _ (hf3.wA _ (by decide)) (fun j hj => by rw [zwA_sn _ _ _ _ hj, e5]; exact h1 j hj) (Or.inr ⟨i, by rw [zwA_ss], hik, hB, h3⟩)
          have go : Z 0 2 [some (.ref 11), some (.int (nI (k - 1))), some (.int (nI (i + 1)))] [] (zwA s43 11 5 (nI i)) := by
            have hne : nI i ≠ -1 := nI_m1 (by omega)
            refine z_iload_n hR dSE_closeLoop_2 (n := 3) rfl rfl ?_
            refine z_iload_n hR dSE_closeLoop_3 (n := 4) rfl rfl ?_
            refine z_icmp_gtN hR dSE_closeLoop_4 (t := 62) (n := 7) rfl rfl (by omega) (by omega) (fun h4 => ?_) (fun h4 => ?_)
            · exact hend _
            · refine z_aload_n hR dSE_closeLoop_7 (n := 8) rfl rfl ?_
              refine z_getI hR dSE_closeLoop_8 (n := 11) rfl zgSE_40 (by decide) rfl rfl ?_
              rw [zwA_ss]
              refine z_iconst hR dSE_closeLoop_11 (v := (-1)) (n := 12) rfl rfl ?_
              refine z_icmp_ne hR dSE_closeLoop_12 (t := 62) (n := 15) rfl rfl (fun _ => ?_) (fun h12 => absurd h12 hne)
              exact hend _
          refine z_aload_n hR dSE_closeLoop_51 (n := 52) rfl rfl ?_
          refine z_iload_n hR dSE_closeLoop_52 (n := 53) rfl rfl ?_
          refine z_putI hR dSE_closeLoop_53 (n := 56) rfl zpSE_40 (by decide) rfl rfl ?_
          refine z_iincN hR 1 dSE_closeLoop_56 (n := 59) rfl rfl (by decide) rfl rfl ?_
          refine z_goto hR dSE_closeLoop_59 (t := 2) rfl ?_
          exact go
  refine z_iconst hR dSE_closeLoop_0 (v := nI 0) (n := 1) rfl rfl ?_
  refine z_istore_n hR dSE_closeLoop_1 (n := 2) rfl (by decide) rfl ?_
  exact key k 0 _ (by omega) zfr.rf (fun _ _ => rfl) h5 (fun j hj => absurd hj (by omega))
theorem m_SE_extend {z T k : Nat} (hk : k ≤ 6) (d : Nat) : ∀ (p : Nat) (σ : zS) (st : Nat → Nat), p + d + 1 = k → sD σ z T → σ.1 13 1 = nI k → (∀ i, i ≤ p → σ.1 14 i = nI (st i) ∧ st i < 6) → σ.1 11 5 = -1 → (∀ i, i < p → jn σ (st i) (st (i + 1)) = true) → tmP (σ.1 35) 0 z → nCf (σ.1 35) (σ.1 36) (σ.1 37) (σ.1 39) (σ.1 38) z 0 → opI σ z T k p st (σ.1 12) → zM ySE_extend cSE_extend 6 none (4 + d) (150 + 30 * d) 0 [.ref 11, .int (nI p)] σ (fun r σ2 => r = none ∧ zfr [11, 12, 14, 15] σ σ2 ∧ (∀ j, j ≠ 5 → σ2.1 11 j = σ.1 11 j) ∧ (∀ i, i ≤ p → σ2.1 14 i = σ.1 14 i ∧ σ2.1 12 i = σ.1 12 i) ∧ eRes (cB σ z) k p st (σ2.1 14) (σ2.1 11 5)) (fun _ _ => False) := by
  induction d with
  | zero =>
    intro p σ st hp hD hc hst h5 hlk hT hC hop
    obtain rfl : p = k - 1 := by omega
    refine zM.of [some (.ref 11), some (.int (nI (k - 1))), none, none, none, none] (by decide) 4 rfl (fun _ => Nat.le_of_ble_eq_true rfl) (fun Z hR => ?_)
    have hcc := m_SE_close hk (by omega) σ hD hc (fun i hi => hst i (by omega)) h5 (fun i hi => hlk i (by omega)) hT hC hop
    refine z_aload_n hR dSE_extend_0 (n := 1) rfl rfl ?_
    refine z_getR hR dSE_extend_1 (n := 4) rfl zgSE_28 (by decide) rfl rfl ?_
    refine z_getI hR dSE_extend_4 (n := 7) rfl zgSE_43 (by decide) rfl rfl ?_
    rw [hc]
    refine z_iconst hR dSE_extend_7 (v := nI 1) (n := 8) rfl rfl ?_
    refine z_isubN hR dSE_extend_8 (n := 9) rfl (by omega) ?_
    refine z_istore_n hR dSE_extend_9 (n := 10) rfl (by decide) rfl ?_
    refine z_iload_n hR dSE_extend_10 (n := 11) rfl rfl ?_
    refine z_iload_n hR dSE_extend_11 (n := 12) rfl rfl ?_
    refine z_icmp_ltN hR dSE_extend_12 (t := 21) (n := 15) rfl rfl (by omega) (by omega) (fun h12 => absurd h12 (by omega)) (fun h12 => ?_)
    refine z_aload_n hR dSE_extend_15 (n := 16) rfl rfl ?_
    refine z_iload_n hR dSE_extend_16 (n := 17) rfl rfl ?_
    refine z_callV1 hR dSE_extend_17 (n := 20) rfl zcSE_61 zkSE_closeLoop (by omega) (Nat.le_of_ble_eq_true rfl) (by decide) rfl rfl (Nat.zero_le _) hcc (fun r17 s17 h17 => ?_)
    obtain ⟨rfl, cf, c1, c2⟩ := h17
    refine z_vret hR dSE_extend_20 rfl (Nat.zero_le _) ?_
    refine ⟨rfl, cf.mo (by decide), c1, fun i _ => by rw [cf.1 14 (by decide), cf.1 12 (by decide)]; exact ⟨rfl, rfl⟩, ?_⟩
    have hsame : ∀ q : Nat → Nat, agr (k - 1) q st → ∀ i, i < k → q i = st i := fun q hq i hi => hq i (by omega)
    have hz0 : 0 < z := hD.1.2.2.2.1
    have hK := hD.1.2.2.2.2.2.2.1
    rcases c2 with ⟨e, h⟩ | ⟨j, e, hj, hB, hmin⟩
    · exact Or.inl ⟨e, fun q hq hq6 j hj hB => h j hj (Brk_same hz0 hK hj (hsame q hq) hB)⟩
    · refine Or.inr ⟨st, j, e, fun i hi => ?_, fun _ _ => rfl, fun i hi => (hst i (by omega)).2, hj, hB, fun q hq hq6 hl => ?_, hmin⟩
      · rw [cf.1 14 (by decide)]
        exact (hst i (by omega)).1
      · obtain ⟨i, i1, _, i3⟩ := hl
        have := hsame q hq i i1
        omega
  | succ d ih =>
    intro p σ st hp hD hc hst h5 hlk hT hC hop
    refine zM.of [some (.ref 11), some (.int (nI p)), none, none, none, none] (by decide) 4 rfl (fun _ => Nat.le_of_ble_eq_true rfl) (fun Z hR => ?_)
    obtain ⟨hT5, hg⟩ := sD_pr hD
    have p2 := p2_le hT5
    have ret : ∀ (l2 l3 l4 l5 : Option Value) (τ : zS), zfr [11, 12, 14, 15] σ τ → (∀ j, j ≠ 5 → τ.1 11 j = σ.1 11 j) → (∀ i, i ≤ p → τ.1 14 i = σ.1 14 i ∧ τ.1 12 i = σ.1 12 i) → eRes (cB σ z) k p st (τ.1 14) (τ.1 11 5) → Z 0 144 [some (.ref 11), some (.int (nI p)), l2, l3, l4, l5] [] τ := by
      intro l2 l3 l4 l5 τ h1 h2 h3 h4
      refine z_vret hR dSE_extend_144 rfl (Nat.zero_le _) ?_
      exact ⟨rfl, h1, h2, h3, h4⟩
    have hp6 := (hst p (Nat.le_refl _)).2
    have key : ∀ (m t : Nat) (l5 : Option Value) (τ : zS), t + m = 6 → zfr [11, 12, 14, 15] σ τ → (∀ j, j ≠ 5 → τ.1 11 j = σ.1 11 j) → (∀ i, i ≤ p → τ.1 14 i = σ.1 14 i ∧ τ.1 12 i = σ.1 12 i) → τ.1 11 5 = -1 → (∀ q, agr p q st → (∀ i, i < k → q i < 6) → q (p + 1) < t → ∀ j, j < k → ¬ cB σ z k q j) → Z 0 34 [some (.ref 11), some (.int (nI p)), some (.int (nI (k - 1))), some (.int (nI (st p))), some (.int (nI t)), l5] [] τ := by
      intro m
      induction m with
      | zero =>
        intro t l5 τ ht hf g1 g2 g3 g4
        obtain rfl : t = 6 := by omega
        refine z_iload hR dSE_extend_34 (n := 36) rfl rfl ?_
        refine z_bipush hR dSE_extend_36 (v := nI 6) (n := 38) rfl rfl ?_
        refine z_icmp_geN hR dSE_extend_38 (t := 144) (n := 41) rfl rfl (by omega) (by omega) (fun h38 => ?_) (fun h38 => absurd h38 (by omega))
        exact ret _ _ _ _ τ hf g1 g2 (Or.inl ⟨g3, fun q h1 h2 => g4 q h1 h2 (h2 (p + 1) (by omega))⟩)
      | succ m ihm =>
        intro t l5 τ ht hf g1 g2 g3 g4
        have ht6 : t < 6 := by omega
        have hf5 : zfr seL σ τ := hf.mo (by decide)
        have hDt := sD_fr hf5 hD
        have ej : jn τ = jn σ := jn_fr hf (by decide)
        have e31 : τ.1 31 = σ.1 31 := hf.1 31 (by decide)
        have e17 : τ.1 17 = σ.1 17 := hf.1 17 (by decide)
        have hcj := m_ST_jn hp6 ht6 τ
        rw [ej] at hcj
        -- no lasso goes on with t
        have skip : ∀ (l5 : Option Value) (τ2 : zS), zfr [11, 12, 14, 15] σ τ2 → (∀ j, j ≠ 5 → τ2.1 11 j = σ.1 11 j) → (∀ i, i ≤ p → τ2.1 14 i = σ.1 14 i ∧ τ2.1 12 i = σ.1 12 i) → τ2.1 11 5 = -1 → (∀ q, agr p q st → (∀ i, i < k → q i < 6) → q (p + 1) = t → ∀ j, j < k → ¬ cB σ z k q j) → Z 0 138 [some (.ref 11), some (.int (nI p)), some (.int (nI (k - 1))), some (.int (nI (st p))), some (.int (nI t)), l5] [] τ2 := by
          intro l5 τ2 f2 k1 k2 k3 k4
          refine z_iincN hR 1 dSE_extend_138 (n := 141) rfl rfl (by decide) rfl rfl ?_
          refine z_goto hR dSE_extend_141 (t := 34) rfl ?_
          refine ihm (t + 1) _ τ2 (by omega) f2 k1 k2 k3 (fun q h1 h2 h3 => ?_)
          by_cases e : q (p + 1) = t
          · exact k4 q h1 h2 e
          · exact g4 q h1 h2 (by omega)
        cases el : jn σ (st p) t with
        | false =>
          refine z_iload hR dSE_extend_34 (n := 36) rfl rfl ?_
          refine z_bipush hR dSE_extend_36 (v := nI 6) (n := 38) rfl rfl ?_
          refine z_icmp_geN hR dSE_extend_38 (t := 144) (n := 41) rfl rfl (by omega) (by omega) (fun h38 => absurd h38 (by omega)) (fun h38 => ?_)
          refine z_aload_n hR dSE_extend_41 (n := 42) rfl rfl ?_
          refine z_getI hR dSE_extend_42 (n := 45) rfl zgSE_40 (by decide) rfl rfl ?_
          rw [g3]
          refine z_iconst hR dSE_extend_45 (v := (-1)) (n := 46) rfl rfl ?_
          refine z_icmp_ne hR dSE_extend_46 (t := 144) (n := 49) rfl rfl (fun h46 => absurd h46 (fun q => q rfl)) (fun _ => ?_)
          refine z_aload_n hR dSE_extend_49 (n := 50) rfl rfl ?_
          refine z_getR hR dSE_extend_50 (n := 53) rfl zgSE_22 (by decide) rfl rfl ?_
          refine z_getR hR dSE_extend_53 (n := 56) rfl zgSE_64 (by decide) rfl rfl ?_
          refine z_iload_n hR dSE_extend_56 (n := 57) rfl rfl ?_
          refine z_iload hR dSE_extend_57 (n := 59) rfl rfl ?_
          refine z_callV2 hR dSE_extend_59 (n := 62) rfl zcSE_68 zkST_joins (by omega) (Nat.le_of_ble_eq_true rfl) (by decide) rfl rfl (Nat.zero_le _) hcj (fun r59 s59 h59 => ?_)
          obtain ⟨rfl, e59⟩ := h59
          subst s59
          rw [el]
          refine z_if_eqB hR dSE_extend_62 (t := 138) (n := 65) rfl rfl (fun h62 => ?_) (fun h62 => absurd h62 (by decide))
          refine skip _ τ hf g1 g2 g3 (fun q h1 h2 h3 j hj hB => ?_)
          have := hB.1 p (by omega)
          rw [show nx k j p = p + 1 from if_pos (by omega), h1 p (Nat.le_refl _), h3, el] at this
          exact absurd this (by decide)
        | true =>
          have hcw := m_NE_within (d := k - 1 - p - 1) (s := t) (by omega) ht6 τ
          have hca := m_GR_guessesAfter hT5 hp6 ht6 (τ.1 12 p) (τ.1 17 ((k - 1 - p - 1) * 6 + t)) τ hDt.2.1 (p := preA (σ.1 31) (st p) t) (fun g hgg => by
            rw [e31]
            exact ⟨(hg _ _ hp6 ht6 el g hgg).1, by have := (hg _ _ hp6 ht6 el g hgg).2; omega⟩)
          refine z_iload hR dSE_extend_34 (n := 36) rfl rfl ?_
          refine z_bipush hR dSE_extend_36 (v := nI 6) (n := 38) rfl rfl ?_
          refine z_icmp_geN hR dSE_extend_38 (t := 144) (n := 41) rfl rfl (by omega) (by omega) (fun h38 => absurd h38 (by omega)) (fun h38 => ?_)
          refine z_aload_n hR dSE_extend_41 (n := 42) rfl rfl ?_
          refine z_getI hR dSE_extend_42 (n := 45) rfl zgSE_40 (by decide) rfl rfl ?_
          rw [g3]
          refine z_iconst hR dSE_extend_45 (v := (-1)) (n := 46) rfl rfl ?_
          refine z_icmp_ne hR dSE_extend_46 (t := 144) (n := 49) rfl rfl (fun h46 => absurd h46 (fun q => q rfl)) (fun _ => ?_)
          refine z_aload_n hR dSE_extend_49 (n := 50) rfl rfl ?_
          refine z_getR hR dSE_extend_50 (n := 53) rfl zgSE_22 (by decide) rfl rfl ?_
          refine z_getR hR dSE_extend_53 (n := 56) rfl zgSE_64 (by decide) rfl rfl ?_
          refine z_iload_n hR dSE_extend_56 (n := 57) rfl rfl ?_
          refine z_iload hR dSE_extend_57 (n := 59) rfl rfl ?_
          refine z_callV2 hR dSE_extend_59 (n := 62) rfl zcSE_68 zkST_joins (by omega) (Nat.le_of_ble_eq_true rfl) (by decide) rfl rfl (Nat.zero_le _) hcj (fun r59 s59 h59 => ?_)
          obtain ⟨rfl, e59⟩ := h59
          subst s59
          rw [el]
          refine z_if_eqB hR dSE_extend_62 (t := 138) (n := 65) rfl rfl (fun h62 => absurd h62 (by decide)) (fun h62 => ?_)
          refine z_aload_n hR dSE_extend_65 (n := 66) rfl rfl ?_
          refine z_getR hR dSE_extend_66 (n := 69) rfl zgSE_12 (by decide) rfl rfl ?_
          refine z_iload_n hR dSE_extend_69 (n := 70) rfl rfl ?_
          refine z_iload_n hR dSE_extend_70 (n := 71) rfl rfl ?_
          refine z_isubN hR dSE_extend_71 (n := 72) rfl (by omega) ?_
          refine z_iconst hR dSE_extend_72 (v := nI 1) (n := 73) rfl rfl ?_
          refine z_isubN hR dSE_extend_73 (n := 74) rfl (by omega) ?_
          refine z_iload hR dSE_extend_74 (n := 76) rfl rfl ?_
          refine z_callV2 hR dSE_extend_76 (n := 79) rfl zcSE_49 zkNE_within (by omega) (Nat.le_of_ble_eq_true rfl) (by decide) rfl rfl (Nat.zero_le _) hcw (fun r76 s76 h76 => ?_)
          obtain ⟨rfl, e76⟩ := h76
          subst s76
          refine z_istore hR dSE_extend_79 (n := 81) rfl (by decide) rfl ?_
          refine z_aload_n hR dSE_extend_81 (n := 82) rfl rfl ?_
          refine z_getR hR dSE_extend_82 (n := 85) rfl zgSE_32 (by decide) rfl rfl ?_
          refine z_iload_n hR dSE_extend_85 (n := 86) rfl rfl ?_
          refine z_iconst hR dSE_extend_86 (v := nI 1) (n := 87) rfl rfl ?_
          refine z_iaddN hR dSE_extend_87 (n := 88) rfl ?_
          refine z_aload_n hR dSE_extend_88 (n := 89) rfl rfl ?_
          refine z_getR hR dSE_extend_89 (n := 92) rfl zgSE_22 (by decide) rfl rfl ?_
          refine z_iload_n hR dSE_extend_92 (n := 93) rfl rfl ?_
          refine z_iload hR dSE_extend_93 (n := 95) rfl rfl ?_
          refine z_aload_n hR dSE_extend_95 (n := 96) rfl rfl ?_
          refine z_getR hR dSE_extend_96 (n := 99) rfl zgSE_32 (by decide) rfl rfl ?_
          refine z_iload_n hR dSE_extend_99 (n := 100) rfl rfl ?_
          refine z_iald hR (_) dSE_extend_100 (n := 101) rfl (by decide) rfl (by decide) rfl (by omega) ?_
          refine z_iload hR dSE_extend_101 (n := 103) rfl rfl ?_
          refine z_callV4 hR dSE_extend_103 (n := 106) rfl zcSE_74 zkGR_guessesAfter (by omega) (Nat.le_of_ble_eq_true rfl) (by decide) rfl rfl (Nat.zero_le _) hca (fun r103 s103 h103 => ?_)
          obtain ⟨e103, w, rfl, hw⟩ := h103
          subst s103
          have hwt : ∀ q, agr p q st → (∀ i, i < k → q i < 6) → q (p + 1) = t → ∀ j, j < k → cB σ z k q j → ∀ G, tru σ T k q j G → tb w (G (p + 1)) = true := by
            intro q h1 h2 h3 j hj hB G hG
            obtain ⟨a1, a2⟩ := hG.1 (p + 1) (by omega)
            refine (hw (G (p + 1)) (by omega)).mpr ⟨a1, ?_, ?_⟩
            · rw [e17]
              rw [h3, show k - 1 - (p + 1) = k - 1 - p - 1 by omega] at a2
              exact a2
            · have a3 := hG.2.1 p (by omega)
              rw [show nx k j p = p + 1 from if_pos (by omega), h1 p (Nat.le_refl _), h3] at a3
              rw [a3, (g2 p (Nat.le_refl _)).2]
              exact hop q j h1 h2 hj hB G hG p (Nat.le_refl _)
          have hfw : zfr [11, 12, 14, 15] σ (zwA τ 12 (p + 1) w) := hf.wA _ (by decide)
          have kw : ∀ i, i ≤ p → (zwA τ 12 (p + 1) w).1 14 i = σ.1 14 i ∧ (zwA τ 12 (p + 1) w).1 12 i = σ.1 12 i := fun i hi => by
            rw [zwA_n _ _ _ _ (by decide), zwA_sn _ _ _ _ (by omega)]
            exact g2 i hi
          refine z_iast hR (_) dSE_extend_106 (n := 107) rfl (by decide) rfl (by decide) rfl (by omega) ?_
          refine z_aload_n hR dSE_extend_107 (n := 108) rfl rfl ?_
          refine z_getR hR dSE_extend_108 (n := 111) rfl zgSE_32 (by decide) rfl rfl ?_
          refine z_iload_n hR dSE_extend_111 (n := 112) rfl rfl ?_
          refine z_iconst hR dSE_extend_112 (v := nI 1) (n := 113) rfl rfl ?_
          refine z_iaddN hR dSE_extend_113 (n := 114) rfl ?_
          refine z_iald hR (_) dSE_extend_114 (n := 115) rfl (by decide) rfl (by decide) rfl (by omega) ?_
          rw [zwA_ss]
          refine z_if_eq hR dSE_extend_115 (t := 138) (n := 118) rfl rfl (fun h115 => ?_) (fun h115 => ?_)
          · have go := fun l5 => skip l5 (zwA τ 12 (p + 1) w) hfw (fun j hj => by rw [zwA_n _ _ _ _ (by decide)]; exact g1 j hj) kw (by rw [zwA_n _ _ _ _ (by decide)]; exact g3) (fun q h1 h2 h3 j hj hB => by
              obtain ⟨G, hG⟩ := tru_ex hD hk hj h2 hB
              have := hwt q h1 h2 h3 j hj hB G hG
              rw [h115, tb_0] at this
              exact absurd this (by decide))
            exact go _
          · have hf4 : zfr [11, 12, 14, 15] σ (zwA (zwA τ 12 (p + 1) w) 14 (p + 1) (nI t)) := hfw.wA _ (by decide)
            have hfs : zfr seL σ (zwA (zwA τ 12 (p + 1) w) 14 (p + 1) (nI t)) := hf4.mo (by decide)
            have hce := ih (p + 1) (zwA (zwA τ 12 (p + 1) w) 14 (p + 1) (nI t)) (stp st (p + 1) t) (by omega) (sD_fr hfs hD) (by rw [zwA_n _ _ _ _ (by decide), zwA_n _ _ _ _ (by decide), hf.1 13 (by decide)]; exact hc) (fun i hi => by
              by_cases e : i = p + 1
              · subst e
                rw [zwA_ss, stp_s]
                exact ⟨rfl, ht6⟩
              · rw [zwA_sn _ _ _ _ e, stp_n _ e, zwA_n _ _ _ _ (by decide), (g2 i (by omega)).1]
                exact hst i (by omega)) (by rw [zwA_n _ _ _ _ (by decide), zwA_n _ _ _ _ (by decide)]; exact g3) (fun i hi => by
              rw [jn_fr hf4 (by decide), stp_n _ (by omega : i ≠ p + 1)]
              by_cases e : i = p
              · subst e
                rw [stp_s]
                exact el
              · rw [stp_n _ (by omega : i + 1 ≠ p + 1)]
                exact hlk i (by omega)) (by rw [hf4.1 35 (by decide)]; exact hT) (by rw [hf4.1 35 (by decide), hf4.1 36 (by decide), hf4.1 37 (by decide), hf4.1 39 (by decide), hf4.1 38 (by decide)]; exact hC) (by
              intro q j h1 h2 hj hB G hG i hi
              rw [cB_fr hfs] at hB
              rw [tru_fr hfs] at hG
              have h1p : agr p q st := fun i hi => by
                have := h1 i (by omega)
                rw [stp_n _ (by omega)] at this
                exact this
              have h1t : q (p + 1) = t := by
                have := h1 (p + 1) (Nat.le_refl _)
                rw [stp_s] at this
                exact this
              rw [zwA_n _ _ _ _ (by decide)]
              by_cases e : i = p + 1
              · subst e
                rw [zwA_ss]
                exact hwt q h1p h2 h1t j hj hB G hG
              · rw [zwA_sn _ _ _ _ e, (g2 i (by omega)).2]
                exact hop q j h1p h2 hj hB G hG i (by omega))
            rw [cB_fr hfs] at hce
            refine z_aload_n hR dSE_extend_118 (n := 119) rfl rfl ?_
            refine z_getR hR dSE_extend_119 (n := 122) rfl zgSE_28 (by decide) rfl rfl ?_
            refine z_getR hR dSE_extend_122 (n := 125) rfl zgSE_46 (by decide) rfl rfl ?_
            refine z_iload_n hR dSE_extend_125 (n := 126) rfl rfl ?_
            refine z_iconst hR dSE_extend_126 (v := nI 1) (n := 127) rfl rfl ?_
            refine z_iaddN hR dSE_extend_127 (n := 128) rfl ?_
            refine z_iload hR dSE_extend_128 (n := 130) rfl rfl ?_
            refine z_iast hR (_) dSE_extend_130 (n := 131) rfl (by decide) rfl (by decide) rfl (by omega) ?_
            refine z_aload_n hR dSE_extend_131 (n := 132) rfl rfl ?_
            refine z_iload_n hR dSE_extend_132 (n := 133) rfl rfl ?_
            refine z_iconst hR dSE_extend_133 (v := nI 1) (n := 134) rfl rfl ?_
            refine z_iaddN hR dSE_extend_134 (n := 135) rfl ?_
            refine z_callV1 hR dSE_extend_135 (n := 138) rfl zcSE_58 zkSE_extend (by omega) (Nat.le_of_ble_eq_true rfl) (by decide) rfl rfl (Nat.zero_le _) hce (fun r135 s135 h135 => ?_)
            obtain ⟨rfl, xf, x1, x2, x3⟩ := h135
            have hf6 : zfr [11, 12, 14, 15] σ s135 := hf4.tr xf
            have y1 : ∀ j, j ≠ 5 → s135.1 11 j = σ.1 11 j := fun j hj => by rw [x1 j hj, zwA_n _ _ _ _ (by decide), zwA_n _ _ _ _ (by decide)]; exact g1 j hj
            have y2 : ∀ i, i ≤ p → s135.1 14 i = σ.1 14 i ∧ s135.1 12 i = σ.1 12 i := fun i hi => by
              obtain ⟨z1, z2⟩ := x2 i (by omega)
              rw [z1, z2, zwA_sn _ _ _ _ (by omega), zwA_n _ _ _ _ (by decide : (12 : Nat) ≠ 14)]
              exact kw i hi
            have hag : ∀ q : Nat → Nat, agr p q st → q (p + 1) = t → agr (p + 1) q (stp st (p + 1) t) := fun q h1 h2 i hi => by
              by_cases e : i = p + 1
              · rw [e, stp_s]
                exact h2
              · rw [stp_n _ e]
                exact h1 i (by omega)
            have go : ∀ l5, Z 0 138 [some (.ref 11), some (.int (nI p)), some (.int (nI (k - 1))), some (.int (nI (st p))), some (.int (nI t)), l5] [] s135 := by
              intro l5
              rcases x3 with ⟨x4, x5⟩ | ⟨r, j, x4, x5, x6, x7, x8, x9, x10, x11⟩
              · exact skip l5 s135 hf6 y1 y2 x4 (fun q h1 h2 h3 => x5 q (hag q h1 h3) h2)
              · have hres : eRes (cB σ z) k p st (s135.1 14) (s135.1 11 5) := by
                  refine Or.inr ⟨r, j, x4, x5, fun i hi => ?_, x7, x8, x9, fun q h1 h2 h3 => ?_, x11⟩
                  · have := x6 i (by omega)
                    rw [stp_n _ (by omega)] at this
                    exact this
                  · have hrt : r (p + 1) = t := by
                      have := x6 (p + 1) (Nat.le_refl _)
                      rw [stp_s] at this
                      exact this
                    obtain ⟨i, i1, i2, i3⟩ := h3
                    rcases Nat.lt_trichotomy i (p + 1) with e | e | e
                    · have u1 := h1 i (by omega)
                      have u2 := x6 i (by omega)
                      rw [stp_n _ (by omega)] at u2
                      omega
                    · subst e
                      exact g4 q h1 h2 (by omega)
                    · exact x10 q (hag q h1 (by rw [i2 (p + 1) e, hrt])) h2 ⟨i, i1, i2, i3⟩
                have hne : s135.1 11 5 ≠ -1 := by
                  rw [x4]
                  exact nI_m1 (by omega)
                have hrt : ∀ l2 l3 l4 l5, Z 0 144 [some (.ref 11), some (.int (nI p)), l2, l3, l4, l5] [] s135 := fun l2 l3 l4 l5 => ret l2 l3 l4 l5 s135 hf6 y1 y2 hres
                refine z_iincN hR 1 dSE_extend_138 (n := 141) rfl rfl (by decide) rfl rfl ?_
                refine z_goto hR dSE_extend_141 (t := 34) rfl ?_
                refine z_iload hR dSE_extend_34 (n := 36) rfl rfl ?_
                refine z_bipush hR dSE_extend_36 (v := nI 6) (n := 38) rfl rfl ?_
                refine z_icmp_geN hR dSE_extend_38 (t := 144) (n := 41) rfl rfl (by omega) (by omega) (fun h38 => ?_) (fun h38 => ?_)
                · exact hrt _ _ _ _
                · refine z_aload_n hR dSE_extend_41 (n := 42) rfl rfl ?_
                  refine z_getI hR dSE_extend_42 (n := 45) rfl zgSE_40 (by decide) rfl rfl ?_
                  refine z_iconst hR dSE_extend_45 (v := (-1)) (n := 46) rfl rfl ?_
                  refine z_icmp_ne hR dSE_extend_46 (t := 144) (n := 49) rfl rfl (fun _ => ?_) (fun h46 => absurd h46 hne)
                  exact hrt _ _ _ _
            exact go _
    refine z_aload_n hR dSE_extend_0 (n := 1) rfl rfl ?_
    refine z_getR hR dSE_extend_1 (n := 4) rfl zgSE_28 (by decide) rfl rfl ?_
    refine z_getI hR dSE_extend_4 (n := 7) rfl zgSE_43 (by decide) rfl rfl ?_
    rw [hc]
    refine z_iconst hR dSE_extend_7 (v := nI 1) (n := 8) rfl rfl ?_
    refine z_isubN hR dSE_extend_8 (n := 9) rfl (by omega) ?_
    refine z_istore_n hR dSE_extend_9 (n := 10) rfl (by decide) rfl ?_
    refine z_iload_n hR dSE_extend_10 (n := 11) rfl rfl ?_
    refine z_iload_n hR dSE_extend_11 (n := 12) rfl rfl ?_
    refine z_icmp_ltN hR dSE_extend_12 (t := 21) (n := 15) rfl rfl (by omega) (by omega) (fun h12 => ?_) (fun h12 => absurd h12 (by omega))
    refine z_aload_n hR dSE_extend_21 (n := 22) rfl rfl ?_
    refine z_getR hR dSE_extend_22 (n := 25) rfl zgSE_28 (by decide) rfl rfl ?_
    refine z_getR hR dSE_extend_25 (n := 28) rfl zgSE_46 (by decide) rfl rfl ?_
    refine z_iload_n hR dSE_extend_28 (n := 29) rfl rfl ?_
    refine z_iald hR (_) dSE_extend_29 (n := 30) rfl (by decide) rfl (by decide) rfl (by omega) ?_
    rw [(hst p (Nat.le_refl _)).1]
    refine z_istore_n hR dSE_extend_30 (n := 31) rfl (by decide) rfl ?_
    refine z_iconst hR dSE_extend_31 (v := nI 0) (n := 32) rfl rfl ?_
    refine z_istore hR dSE_extend_32 (n := 34) rfl (by decide) rfl ?_
    exact key 6 0 _ σ (by omega) zfr.rf (fun _ _ => rfl) (fun _ _ => ⟨rfl, rfl⟩) h5 (fun q h1 h2 h3 => absurd h3 (by omega))
/-- what the search found from s -/
def seR (B : Nat → (Nat → Nat) → Nat → Prop) (τ : zS) (s : Nat) : Prop := (τ.1 11 5 = -1 ∧ ∀ k, 1 ≤ k → k ≤ 6 → nob B s k) ∨ ∃ k r j, τ.1 11 5 = nI j ∧ τ.1 13 1 = nI k ∧ (∀ i, i < k → τ.1 14 i = nI (r i)) ∧ fnd B s k r j
theorem m_SE_look {z T s : Nat} (hs : s < 6) (σ : zS) (hD : sD σ z T) (hT : tmP (σ.1 35) 0 z) (hC : nCf (σ.1 35) (σ.1 36) (σ.1 37) (σ.1 39) (σ.1 38) z 0) (hc : σ.1 11 4 = -1 ∨ ∃ s2, s2 < 6 ∧ σ.1 11 4 = nI s2 ∧ seR (cB σ z) σ s2) : zM ySE_lookFrom cSE_lookFrom 3 none 10 340 0 [.ref 11, .int (nI s)] σ (fun r σ2 => r = none ∧ zfr seL σ σ2 ∧ σ2.1 11 4 = nI s ∧ seR (cB σ z) σ2 s) (fun _ _ => False) := by
  refine zM.of [some (.ref 11), some (.int (nI s)), none] (by decide) 1 rfl (fun _ => Nat.le_of_ble_eq_true rfl) (fun Z hR => ?_)
  by_cases h4 : σ.1 11 4 = nI s
  ·
    have hres : seR (cB σ z) σ s := by
      rcases hc with e | ⟨s2, e1, e2, e3⟩
      · rw [e] at h4
        exact absurd h4.symm (nI_m1 (by omega))
      · rw [e2] at h4
        have := (nI_eq (by omega) (by omega)).mp h4
        exact this ▸ e3
    refine z_aload_n hR dSE_lookFrom_0 (n := 1) rfl rfl ?_
    refine z_getI hR dSE_lookFrom_1 (n := 4) rfl zgSE_36 (by decide) rfl rfl ?_
    rw [h4]
    refine z_iload_n hR dSE_lookFrom_4 (n := 5) rfl rfl ?_
    refine z_icmp_ne hR dSE_lookFrom_5 (t := 9) (n := 8) rfl rfl (fun h5 => absurd h5 (fun q => q rfl)) (fun _ => ?_)
    refine z_vret hR dSE_lookFrom_8 rfl (Nat.zero_le _) ?_
    exact ⟨rfl, zfr.rf, h4, hres⟩
  have hz0 : 0 < z := hD.1.2.2.2.1
  have hK := hD.1.2.2.2.2.2.2.1
  have ret : ∀ (l2 : Option Value) (τ : zS), zfr seL σ τ → τ.1 11 4 = nI s → seR (cB σ z) τ s → Z 0 102 [some (.ref 11), some (.int (nI s)), l2] [] τ := by
    intro l2 τ h1 h2 h3
    refine z_vret hR dSE_lookFrom_102 rfl (Nat.zero_le _) ?_
    exact ⟨rfl, h1, h2, h3⟩
  have key : ∀ (m k : Nat) (τ : zS), k + m = 7 → 1 ≤ k → zfr seL σ τ → τ.1 11 4 = nI s → τ.1 11 5 = -1 → (∀ e, 1 ≤ e → e < k → nob (cB σ z) s e) → Z 0 21 [some (.ref 11), some (.int (nI s)), some (.int (nI k))] [] τ := by
    intro m
    induction m with
    | zero =>
      intro k τ hm hk1 hf h1 h2 h3
      obtain rfl : k = 7 := by omega
      refine z_iload_n hR dSE_lookFrom_21 (n := 22) rfl rfl ?_
      refine z_bipush hR dSE_lookFrom_22 (v := nI 6) (n := 24) rfl rfl ?_
      refine z_icmp_gtN hR dSE_lookFrom_24 (t := 102) (n := 27) rfl rfl (by omega) (by omega) (fun h24 => ?_) (fun h24 => absurd h24 (by omega))
      exact ret _ τ hf h1 (Or.inl ⟨h2, fun e e1 e2 => h3 e e1 (by omega)⟩)
    | succ m ih =>
      intro k τ hm hk1 hf h1 h2 h3
      have hk6 : k ≤ 6 := by omega
      have hcw := m_NE_within (d := k - 1) (s := s) (by omega) hs (zwA (zwA τ 13 1 (nI k)) 14 0 (nI s))
      have nxt : ∀ (τ2 : zS), zfr seL σ τ2 → τ2.1 11 4 = nI s → τ2.1 13 1 = nI k → eRes (cB σ z) k 0 (fun _ => s) (τ2.1 14) (τ2.1 11 5) → Z 0 96 [some (.ref 11), some (.int (nI s)), some (.int (nI k))] [] τ2 := by
        intro τ2 f2 k1 k2 k3
        have hag : ∀ q : Nat → Nat, rOk s k q → agr 0 q (fun _ => s) := fun q hq i hi => by
          obtain rfl : i = 0 := by omega
          exact hq.1
        rcases k3 with ⟨k3, k4⟩ | ⟨r, j, k3, k4, k5, k6, k7, k8, k9, k10⟩
        ·
          have go := ih (k + 1) τ2 (by omega) (by omega) f2 k1 k3 (fun e e1 e2 => by
            by_cases e3 : e = k
            · subst e3
              exact fun q hq j hj => k4 q (hag q hq) hq.2 j hj
            · exact h3 e e1 (by omega))
          refine z_iincN hR 1 dSE_lookFrom_96 (n := 99) rfl rfl (by decide) rfl rfl ?_
          refine z_goto hR dSE_lookFrom_99 (t := 21) rfl ?_
          exact go
        ·
          have hres : seR (cB σ z) τ2 s := Or.inr ⟨k, r, j, k3, k2, k4, hk1, hk6, ⟨k5 0 (Nat.le_refl _), k6⟩, k7, k8, h3, fun q hq hl i hi => k9 q (hag q hq) hq.2 hl i hi, k10⟩
          have hne : τ2.1 11 5 ≠ -1 := by
            rw [k3]
            exact nI_m1 (by omega)
          refine z_iincN hR 1 dSE_lookFrom_96 (n := 99) rfl rfl (by decide) rfl rfl ?_
          refine z_goto hR dSE_lookFrom_99 (t := 21) rfl ?_
          refine z_iload_n hR dSE_lookFrom_21 (n := 22) rfl rfl ?_
          refine z_bipush hR dSE_lookFrom_22 (v := nI 6) (n := 24) rfl rfl ?_
          refine z_icmp_gtN hR dSE_lookFrom_24 (t := 102) (n := 27) rfl rfl (by omega) (by omega) (fun h24 => ?_) (fun h24 => ?_)
          · exact ret _ τ2 f2 k1 hres
          · refine z_aload_n hR dSE_lookFrom_27 (n := 28) rfl rfl ?_
            refine z_getI hR dSE_lookFrom_28 (n := 31) rfl zgSE_40 (by decide) rfl rfl ?_
            refine z_iconst hR dSE_lookFrom_31 (v := (-1)) (n := 32) rfl rfl ?_
            refine z_icmp_ne hR dSE_lookFrom_32 (t := 102) (n := 35) rfl rfl (fun _ => ?_) (fun h32 => absurd h32 hne)
            exact ret _ τ2 f2 k1 hres
      have f3 : zfr seL σ (zwA (zwA τ 13 1 (nI k)) 14 0 (nI s)) := (hf.wA _ (by decide)).wA _ (by decide)
      refine z_iload_n hR dSE_lookFrom_21 (n := 22) rfl rfl ?_
      refine z_bipush hR dSE_lookFrom_22 (v := nI 6) (n := 24) rfl rfl ?_
      refine z_icmp_gtN hR dSE_lookFrom_24 (t := 102) (n := 27) rfl rfl (by omega) (by omega) (fun h24 => absurd h24 (by omega)) (fun h24 => ?_)
      refine z_aload_n hR dSE_lookFrom_27 (n := 28) rfl rfl ?_
      refine z_getI hR dSE_lookFrom_28 (n := 31) rfl zgSE_40 (by decide) rfl rfl ?_
      rw [h2]
      refine z_iconst hR dSE_lookFrom_31 (v := (-1)) (n := 32) rfl rfl ?_
      refine z_icmp_ne hR dSE_lookFrom_32 (t := 102) (n := 35) rfl rfl (fun h32 => absurd h32 (fun q => q rfl)) (fun _ => ?_)
      refine z_aload_n hR dSE_lookFrom_35 (n := 36) rfl rfl ?_
      refine z_getR hR dSE_lookFrom_36 (n := 39) rfl zgSE_28 (by decide) rfl rfl ?_
      refine z_iload_n hR dSE_lookFrom_39 (n := 40) rfl rfl ?_
      refine z_putI hR dSE_lookFrom_40 (n := 43) rfl zpSE_43 (by decide) rfl rfl ?_
      refine z_aload_n hR dSE_lookFrom_43 (n := 44) rfl rfl ?_
      refine z_getR hR dSE_lookFrom_44 (n := 47) rfl zgSE_28 (by decide) rfl rfl ?_
      refine z_getR hR dSE_lookFrom_47 (n := 50) rfl zgSE_46 (by decide) rfl rfl ?_
      refine z_iconst hR dSE_lookFrom_50 (v := 0) (n := 51) rfl rfl ?_
      refine z_iload_n hR dSE_lookFrom_51 (n := 52) rfl rfl ?_
      refine z_iast hR (0) dSE_lookFrom_52 (n := 53) rfl (by decide) rfl (by decide) rfl (by omega) ?_
      refine z_aload_n hR dSE_lookFrom_53 (n := 54) rfl rfl ?_
      refine z_getR hR dSE_lookFrom_54 (n := 57) rfl zgSE_32 (by decide) rfl rfl ?_
      refine z_iconst hR dSE_lookFrom_57 (v := 0) (n := 58) rfl rfl ?_
      refine z_aload_n hR dSE_lookFrom_58 (n := 59) rfl rfl ?_
      refine z_getR hR dSE_lookFrom_59 (n := 62) rfl zgSE_12 (by decide) rfl rfl ?_
      refine z_iload_n hR dSE_lookFrom_62 (n := 63) rfl rfl ?_
      refine z_iconst hR dSE_lookFrom_63 (v := nI 1) (n := 64) rfl rfl ?_
      refine z_isubN hR dSE_lookFrom_64 (n := 65) rfl (by omega) ?_
      refine z_iload_n hR dSE_lookFrom_65 (n := 66) rfl rfl ?_
      refine z_callV2 hR dSE_lookFrom_66 (n := 69) rfl zcSE_49 zkNE_within (by omega) (Nat.le_of_ble_eq_true rfl) (by decide) rfl rfl (Nat.zero_le _) hcw (fun r66 s66 h66 => ?_)
      obtain ⟨rfl, e66⟩ := h66
      subst s66
      refine z_aload_n hR dSE_lookFrom_69 (n := 70) rfl rfl ?_
      refine z_getR hR dSE_lookFrom_70 (n := 73) rfl zgSE_22 (by decide) rfl rfl ?_
      refine z_getR hR dSE_lookFrom_73 (n := 76) rfl zgSE_53 (by decide) rfl rfl ?_
      refine z_iload_n hR dSE_lookFrom_76 (n := 77) rfl rfl ?_
      refine z_iald hR (_) dSE_lookFrom_77 (n := 78) rfl (by decide) rfl (by decide) rfl (by omega) ?_
      refine z_iconst hR dSE_lookFrom_78 (v := (-1)) (n := 79) rfl rfl ?_
      refine z_ixor hR dSE_lookFrom_79 (n := 80) rfl ?_
      refine z_iand hR dSE_lookFrom_80 (n := 81) rfl ?_
      refine z_iast hR (0) dSE_lookFrom_81 (n := 82) rfl (by decide) rfl (by decide) rfl (by omega) ?_
      refine z_aload_n hR dSE_lookFrom_82 (n := 83) rfl rfl ?_
      refine z_getR hR dSE_lookFrom_83 (n := 86) rfl zgSE_32 (by decide) rfl rfl ?_
      refine z_iconst hR dSE_lookFrom_86 (v := 0) (n := 87) rfl rfl ?_
      refine z_iald hR (0) dSE_lookFrom_87 (n := 88) rfl (by decide) rfl (by decide) rfl (by omega) ?_
      rw [zwA_ss]
      refine z_if_eq hR dSE_lookFrom_88 (t := 96) (n := 91) rfl rfl (fun h88 => ?_) (fun h88 => ?_)
      · have go := nxt (zwA (zwA (zwA τ 13 1 (nI k)) 14 0 (nI s)) 12 0 ((zwA (zwA τ 13 1 (nI k)) 14 0 (nI s)).1 17 ((k - 1) * 6 + s) &&& ((zwA (zwA τ 13 1 (nI k)) 14 0 (nI s)).1 32 s ^^^ (-1)))) (f3.wA _ (by decide)) (by simpa [zwA_1] using h1) (by simp [zwA_1]) (Or.inl ⟨by simpa [zwA_1] using h2, fun q hq hq6 j hj hB => by
          obtain ⟨G, hG⟩ := tru_ex hD hk6 hj hq6 hB
          have hq0 : q 0 = s := hq 0 (Nat.le_refl _)
          obtain ⟨a1, a2⟩ := hG.1 0 (by omega)
          have a3 := hG.2.2
          rw [hq0] at a2 a3
          have p2 := p2_le (sD_pr hD).1
          have : tb ((zwA (zwA τ 13 1 (nI k)) 14 0 (nI s)).1 17 ((k - 1) * 6 + s) &&& ((zwA (zwA τ 13 1 (nI k)) 14 0 (nI s)).1 32 s ^^^ (-1))) (G 0) = true := by
            rw [tb_and, tb_not _ (by omega), f3.1 17 (by decide), f3.1 32 (by decide), a3]
            rw [Nat.sub_zero] at a2
            rw [a2]
            rfl
          rw [h88, tb_0] at this
          exact absurd this (by decide)⟩)
        exact go
      · have hce := m_SE_extend hk6 (k - 1) 0 (zwA (zwA (zwA τ 13 1 (nI k)) 14 0 (nI s)) 12 0 ((zwA (zwA τ 13 1 (nI k)) 14 0 (nI s)).1 17 ((k - 1) * 6 + s) &&& ((zwA (zwA τ 13 1 (nI k)) 14 0 (nI s)).1 32 s ^^^ (-1)))) (fun _ => s) (by omega) (sD_fr (f3.wA _ (by decide)) hD) (by simp [zwA_1]) (fun i hi => by
          obtain rfl : i = 0 := by omega
          exact ⟨by simp [zwA_1], hs⟩) (by simpa [zwA_1] using h2) (fun i hi => absurd hi (by omega)) (by rw [(f3.wA _ (by decide)).1 35 (by decide)]; exact hT) (by rw [(f3.wA _ (by decide)).1 35 (by decide), (f3.wA _ (by decide)).1 36 (by decide), (f3.wA _ (by decide)).1 37 (by decide), (f3.wA _ (by decide)).1 39 (by decide), (f3.wA _ (by decide)).1 38 (by decide)]; exact hC) (by
          intro q j hq hq6 hj hB G hG i hi
          obtain rfl : i = 0 := by omega
          rw [tru_fr (f3.wA _ (by decide))] at hG
          have hq0 : q 0 = s := hq 0 (Nat.le_refl _)
          obtain ⟨a1, a2⟩ := hG.1 0 (by omega)
          have a3 := hG.2.2
          rw [hq0] at a2 a3
          have p2 := p2_le (sD_pr hD).1
          rw [zwA_ss, tb_and, tb_not _ (by omega), f3.1 17 (by decide), f3.1 32 (by decide), a3]
          rw [Nat.sub_zero] at a2
          rw [a2]
          rfl)
        rw [cB_fr (f3.wA _ (by decide))] at hce
        refine z_aload_n hR dSE_lookFrom_91 (n := 92) rfl rfl ?_
        refine z_iconst hR dSE_lookFrom_92 (v := 0) (n := 93) rfl rfl ?_
        refine z_callV1 hR dSE_lookFrom_93 (n := 96) rfl zcSE_58 zkSE_extend (by omega) (Nat.le_of_ble_eq_true rfl) (by decide) rfl rfl (Nat.zero_le _) hce (fun r93 s93 h93 => ?_)
        obtain ⟨rfl, xf, x1, x2, x3⟩ := h93
        have go := nxt s93 ((f3.wA _ (by decide)).tr (xf.mo (by decide))) (by rw [x1 4 (by decide)]; simpa [zwA_1] using h1) (by rw [xf.1 13 (by decide)]; simp [zwA_1]) x3
        exact go
  refine z_aload_n hR dSE_lookFrom_0 (n := 1) rfl rfl ?_
  refine z_getI hR dSE_lookFrom_1 (n := 4) rfl zgSE_36 (by decide) rfl rfl ?_
  refine z_iload_n hR dSE_lookFrom_4 (n := 5) rfl rfl ?_
  refine z_icmp_ne hR dSE_lookFrom_5 (t := 9) (n := 8) rfl rfl (fun _ => ?_) (fun h5 => absurd h5 h4)
  refine z_aload_n hR dSE_lookFrom_9 (n := 10) rfl rfl ?_
  refine z_iload_n hR dSE_lookFrom_10 (n := 11) rfl rfl ?_
  refine z_putI hR dSE_lookFrom_11 (n := 14) rfl zpSE_36 (by decide) rfl rfl ?_
  refine z_aload_n hR dSE_lookFrom_14 (n := 15) rfl rfl ?_
  refine z_iconst hR dSE_lookFrom_15 (v := (-1)) (n := 16) rfl rfl ?_
  refine z_putI hR dSE_lookFrom_16 (n := 19) rfl zpSE_40 (by decide) rfl rfl ?_
  refine z_iconst hR dSE_lookFrom_19 (v := nI 1) (n := 20) rfl rfl ?_
  refine z_istore_n hR dSE_lookFrom_20 (n := 21) rfl (by decide) rfl ?_
  exact key 6 1 _ (by omega) (by omega) ((zfr.rf.wA _ (by decide)).wA _ (by decide)) (by simp [zwA_1]) (by simp [zwA_1]) (fun e e1 e2 => absurd e2 (by omega))
