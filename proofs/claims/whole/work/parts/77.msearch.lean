/-! The reference's search -/
theorem m_MO_advance {k : Nat} (hk0 : 0 < k) (hk : k ≤ 8) (σ : zS) (hs : σ.1 45 34 = nI k) {st : Nat → Nat} (hst : ∀ p, p < k → σ.1 68 p = nI (st p) ∧ st p < 6) : zM yMO_advance cMO_advance 2 (some .boolean) 0 0 0 [.ref 45] σ (fun r σ2 => zfr [68] σ σ2 ∧ ((r = some (.int 1) ∧ ∃ (p : Nat) (st2 : Nat → Nat), 0 < p ∧ p < k ∧ (∀ i, i < k → σ2.1 68 i = nI (st2 i) ∧ st2 i < 6) ∧ (∀ i, i < p → st2 i = st i) ∧ st2 p = st p + 1 ∧ ∀ i, p < i → i < k → st i = 5 ∧ st2 i = 0) ∨ (r = some (.int 0) ∧ ∀ i, 0 < i → i < k → st i = 5))) (fun _ _ => False) := by
  refine zM.of [some (.ref 45), none] (by decide) 1 rfl (fun _ => Nat.le_of_ble_eq_true rfl) (fun Z hR => ?_)
  have key : ∀ (p : Nat) (τ : zS), p < k → zfr [68] σ τ → (∀ i, i ≤ p → τ.1 68 i = nI (st i)) → (∀ i, p < i → i < k → st i = 5 ∧ τ.1 68 i = nI 0) → Z 0 7 [some (.ref 45), some (.int (nI p))] [] τ := by
    intro p
    induction p with
    | zero =>
      intro τ hp hf h1 h2
      refine z_iload_n hR dMO_advance_7 (n := 8) rfl rfl ?_
      refine z_if_leN hR dMO_advance_8 (t := 34) (n := 11) rfl rfl (by omega) (fun h8 => ?_) (fun h8 => absurd h8 (by omega))
      refine z_iload_n hR dMO_advance_34 (n := 35) rfl rfl ?_
      refine z_if_leN hR dMO_advance_35 (t := 48) (n := 38) rfl rfl (by omega) (fun h35 => ?_) (fun h35 => absurd h35 (by omega))
      refine z_iload_n hR dMO_advance_48 (n := 49) rfl rfl ?_
      refine z_if_leN hR dMO_advance_49 (t := 56) (n := 52) rfl rfl (by omega) (fun h49 => ?_) (fun h49 => absurd h49 (by omega))
      refine z_iconst hR dMO_advance_56 (v := 0) (n := 57) rfl rfl ?_
      refine z_zret hR dMO_advance_57 rfl rfl (Nat.zero_le _) ?_
      exact ⟨hf, Or.inr ⟨rfl, fun i h0 hi => (h2 i h0 hi).1⟩⟩
    | succ p ih =>
      intro τ hp hf h1 h2
      have e1 := h1 (p + 1) (Nat.le_refl _)
      have hb := (hst (p + 1) hp).2
      by_cases h5 : st (p + 1) = 5
      ·
        rw [h5] at e1
        refine z_iload_n hR dMO_advance_7 (n := 8) rfl rfl ?_
        refine z_if_leN hR dMO_advance_8 (t := 34) (n := 11) rfl rfl (by omega) (fun h8 => absurd h8 (by omega)) (fun h8 => ?_)
        refine z_aload_n hR dMO_advance_11 (n := 12) rfl rfl ?_
        refine z_getR hR dMO_advance_12 (n := 15) rfl zgMO_78 (by decide) rfl rfl ?_
        refine z_iload_n hR dMO_advance_15 (n := 16) rfl rfl ?_
        refine z_iald hR (_) dMO_advance_16 (n := 17) rfl (by decide) rfl (by decide) rfl (by omega) ?_
        rw [e1]
        refine z_iconst hR dMO_advance_17 (v := 5) (n := 18) rfl rfl ?_
        refine z_icmp_ne hR dMO_advance_18 (t := 34) (n := 21) rfl rfl (fun h18 => absurd h18 (fun q => q rfl)) (fun _ => ?_)
        refine z_aload_n hR dMO_advance_21 (n := 22) rfl rfl ?_
        refine z_getR hR dMO_advance_22 (n := 25) rfl zgMO_78 (by decide) rfl rfl ?_
        refine z_iload_n hR dMO_advance_25 (n := 26) rfl rfl ?_
        refine z_iconst hR dMO_advance_26 (v := nI 0) (n := 27) rfl rfl ?_
        refine z_iast hR (_) dMO_advance_27 (n := 28) rfl (by decide) rfl (by decide) rfl (by omega) ?_
        refine z_iincD hR dMO_advance_28 (n := 31) rfl (by decide) rfl rfl (by omega) ?_
        refine z_goto hR dMO_advance_31 (t := 7) rfl ?_
        refine ih _ (by omega) (hf.wA _ (by decide)) (fun i hi => ?_) (fun i h3 h4 => ?_)
        · rw [zwA_sn _ _ _ _ (by omega)]
          exact h1 i (by omega)
        · by_cases e : i = p + 1
          · subst e
            rw [zwA_ss]
            exact ⟨h5, rfl⟩
          · rw [zwA_sn _ _ _ _ e]
            exact h2 i (by omega) h4
      ·
        have hne : ¬ nI (st (p + 1)) = 5 := fun q => h5 ((nI_eq (b := 5) (by omega) (by omega)).mp q)
        refine z_iload_n hR dMO_advance_7 (n := 8) rfl rfl ?_
        refine z_if_leN hR dMO_advance_8 (t := 34) (n := 11) rfl rfl (by omega) (fun h8 => absurd h8 (by omega)) (fun h8 => ?_)
        refine z_aload_n hR dMO_advance_11 (n := 12) rfl rfl ?_
        refine z_getR hR dMO_advance_12 (n := 15) rfl zgMO_78 (by decide) rfl rfl ?_
        refine z_iload_n hR dMO_advance_15 (n := 16) rfl rfl ?_
        refine z_iald hR (_) dMO_advance_16 (n := 17) rfl (by decide) rfl (by decide) rfl (by omega) ?_
        rw [e1]
        refine z_iconst hR dMO_advance_17 (v := 5) (n := 18) rfl rfl ?_
        refine z_icmp_ne hR dMO_advance_18 (t := 34) (n := 21) rfl rfl (fun _ => ?_) (fun h18 => absurd h18 hne)
        refine z_iload_n hR dMO_advance_34 (n := 35) rfl rfl ?_
        refine z_if_leN hR dMO_advance_35 (t := 48) (n := 38) rfl rfl (by omega) (fun h35 => absurd h35 (by omega)) (fun h35 => ?_)
        refine z_aload_n hR dMO_advance_38 (n := 39) rfl rfl ?_
        refine z_getR hR dMO_advance_39 (n := 42) rfl zgMO_78 (by decide) rfl rfl ?_
        refine z_iload_n hR dMO_advance_42 (n := 43) rfl rfl ?_
        refine z_dup2_11 hR dMO_advance_43 (n := 44) rfl rfl rfl ?_
        refine z_iald hR (_) dMO_advance_44 (n := 45) rfl (by decide) rfl (by decide) rfl (by omega) ?_
        rw [e1]
        refine z_iconst hR dMO_advance_45 (v := nI 1) (n := 46) rfl rfl ?_
        refine z_iaddN hR dMO_advance_46 (n := 47) rfl ?_
        refine z_iast hR (_) dMO_advance_47 (n := 48) rfl (by decide) rfl (by decide) rfl (by omega) ?_
        refine z_iload_n hR dMO_advance_48 (n := 49) rfl rfl ?_
        refine z_if_leN hR dMO_advance_49 (t := 56) (n := 52) rfl rfl (by omega) (fun h49 => absurd h49 (by omega)) (fun h49 => ?_)
        refine z_iconst hR dMO_advance_52 (v := 1) (n := 53) rfl rfl ?_
        refine z_goto hR dMO_advance_53 (t := 57) rfl ?_
        refine z_zret hR dMO_advance_57 rfl rfl (Nat.zero_le _) ?_
        refine ⟨hf.wA _ (by decide), Or.inl ⟨rfl, p + 1, fun i => if i = p + 1 then st (p + 1) + 1 else if p + 1 < i then 0 else st i, by omega, hp, fun i hi => ?_, fun i hi => ?_, if_pos rfl, fun i h3 h4 => ⟨(h2 i h3 h4).1, ?_⟩⟩⟩
        · by_cases e : i = p + 1
          · subst e
            rw [zwA_ss]
            simp
            omega
          · rw [zwA_sn _ _ _ _ e]
            simp only [if_neg e]
            by_cases e2 : p + 1 < i
            · simp only [if_pos e2]
              exact ⟨(h2 i e2 hi).2, by omega⟩
            · simp only [if_neg e2]
              exact ⟨h1 i (by omega), (hst i hi).2⟩
        · simp only [if_neg (show ¬ i = p + 1 by omega), if_neg (show ¬ p + 1 < i by omega)]
        · simp only [if_neg (show ¬ i = p + 1 by omega), if_pos h3]
  refine z_aload_n hR dMO_advance_0 (n := 1) rfl rfl ?_
  refine z_getI hR dMO_advance_1 (n := 4) rfl zgMO_208 (by decide) rfl rfl ?_
  rw [hs]
  refine z_iconst hR dMO_advance_4 (v := nI 1) (n := 5) rfl rfl ?_
  refine z_isubN hR dMO_advance_5 (n := 6) rfl (by omega) ?_
  refine z_istore_n hR dMO_advance_6 (n := 7) rfl (by decide) rfl ?_
  exact key (k - 1) σ (by omega) zfr.rf (fun i hi => (hst i (by omega)).1) (fun i h1 h2 => absurd h2 (by omega))
abbrev srL : List Nat := [45, 60, 61, 62, 63, 65, 66, 67, 68, 69, 70, 71, 72]
/-- what the reference has found from s -/
def mR (B : Nat → (Nat → Nat) → Nat → Prop) (A0 A1 A2 : Nat → Int32) (s : Nat) : Prop := (A0 s = -1 ∧ ∀ k, 1 ≤ k → k ≤ 6 → nob B s k) ∨ ∃ k r j, A0 s = nI k ∧ A1 s = nI j ∧ (∀ i, i < k → A2 (6 * s + i) = nI (r i)) ∧ fnd B s k r j
theorem m_MO_search {g : Nat → Int32 × Int32 × Int32} {n s : Nat} {L : Nat → Nat → Bool} (hs6 : s < 6) (σ : zS) (hF : mF σ g n L) (hk : σ.1 45 25 = 0 ∨ (σ.1 45 25 = 1 ∧ mD σ g n L)) {val : Nat → (Nat → Nat) → Nat → Bool} (hEv : ∀ k j r V, j < k → k ≤ 6 → (∀ i, i < k → r i < 6) → (∀ x, x < n → ∀ p, p < k → V x p = hvl g k j (fun p => σ.1 57 (r p)) V x p) → V (n - 1) 0 = val k r j) (hvs : ∀ k q r j, j < k → k ≤ 6 → (∀ i, i < k → q i < 6) → (∀ i, i < k → q i = r i) → val k q j = false → val k r j = false) (hPr : ∀ τ : zS, mD τ g n L → τ.1 57 = σ.1 57 → (¬ ∃ b, b < 2 ^ tcn g n ∧ lB (τ.2 63) s b ∧ tpA (τ.1 61) s b = false) → ∀ k, 1 ≤ k → k ≤ 6 → nob (fun k r j => (∀ i, i < k → L (r i) (r (nx k j i)) = true) ∧ val k r j = false) s k) : zM yMO_search cMO_search 5 none 6 200 0 [.ref 45, .int (nI s)] σ (fun r σ2 => r = none ∧ zfr srL σ σ2 ∧ zfd [25, 34, 35] σ σ2 ∧ σ2.1 45 25 = 1 ∧ mD σ2 g n L ∧ mR (fun k r j => (∀ i, i < k → L (r i) (r (nx k j i)) = true) ∧ val k r j = false) (σ2.1 70) (σ2.1 71) (σ2.1 72) s ∧ ∀ s2, s2 < 6 → s2 ≠ s → σ2.1 70 s2 = σ.1 70 s2 ∧ σ2.1 71 s2 = σ.1 71 s2 ∧ ∀ i, i < 6 → σ2.1 72 (6 * s2 + i) = σ.1 72 (6 * s2 + i)) (fun _ _ => False) := by
  refine zM.of [some (.ref 45), some (.int (nI s)), none, none, none] (by decide) 3 rfl (fun _ => Nat.le_of_ble_eq_true rfl) (fun Z hR => ?_)
  obtain ⟨hn, hn0, hsh, hT5, hN, hT, ha, hb, hL⟩ := hF
  generalize hBd : (fun (k : Nat) (r : Nat → Nat) (j : Nat) => (∀ i, i < k → L (r i) (r (nx k j i)) = true) ∧ val k r j = false) = B at hR hPr
  have hB : ∀ k r j, B k r j ↔ ((∀ i, i < k → L (r i) (r (nx k j i)) = true) ∧ val k r j = false) := fun k r j => by rw [← hBd]
  -- behind the question for a breaking path
  have main : ∀ (t0 : zS), zfr srL σ t0 → zfd [25] σ t0 → t0.1 45 25 = 1 → mD t0 g n L → t0.1 70 s = -1 → (∀ s2, s2 < 6 → s2 ≠ s → t0.1 70 s2 = σ.1 70 s2 ∧ t0.1 71 s2 = σ.1 71 s2 ∧ ∀ i, i < 6 → t0.1 72 (6 * s2 + i) = σ.1 72 (6 * s2 + i)) → t0.1 57 = σ.1 57 → t0.1 58 = σ.1 58 → mT3 t0 g n → Z 0 20 [some (.ref 45), some (.int (nI s)), none, none, none] [] t0 := by
    intro t0 f0 d0 h25 hD h70 hoth h57 h58 hT3
    have keep : ∀ τ : zS, zfr [45, 68, 69] t0 τ → zfd [34, 35] t0 τ → zfr srL σ τ ∧ zfd [25, 34, 35] σ τ ∧ τ.1 45 25 = 1 ∧ mD τ g n L ∧ τ.1 70 s = -1 ∧ ∀ s2, s2 < 6 → s2 ≠ s → τ.1 70 s2 = σ.1 70 s2 ∧ τ.1 71 s2 = σ.1 71 s2 ∧ ∀ i, i < 6 → τ.1 72 (6 * s2 + i) = σ.1 72 (6 * s2 + i) := fun τ hf hd => by
      refine ⟨f0.tr (hf.mo (by decide)), (d0.mo (by decide)).tr (hd.mo (by decide)), by rw [hd 25 (by decide)]; exact h25, ?_, by rw [hf.1 70 (by decide)]; exact h70, fun s2 h1 h2 => by rw [hf.1 70 (by decide), hf.1 71 (by decide), hf.1 72 (by decide)]; exact hoth s2 h1 h2⟩
      unfold mD
      rw [hf.1 57 (by decide), hf.1 60 (by decide), hf.1 61 (by decide), hf.2 67 (by decide), hf.2 63 (by decide)]
      exact hD
    -- the sizes; a row of k is gone through by 'rows'
    have sizes : ∀ (m k : Nat) (l2 l3 l4 : Option Value) (τ : zS), k + m = 7 → 1 ≤ k → zfr [45, 68, 69] t0 τ → zfd [34, 35] t0 τ → τ.1 45 34 = nI k → (∀ e, 1 ≤ e → e < k → nob B s e) → Z 0 25 [some (.ref 45), some (.int (nI s)), l2, l3, l4] [] τ := by
      intro m
      induction m with
      | zero =>
        intro k l2 l3 l4 τ hm hk1 hf hd h34 hno
        obtain rfl : k = 7 := by omega
        obtain ⟨k1, k2, k3, k4, k5, k6⟩ := keep τ hf hd
        refine z_aload_n hR dMO_search_25 (n := 26) rfl rfl ?_
        refine z_getI hR dMO_search_26 (n := 29) rfl zgMO_208 (by decide) rfl rfl ?_
        rw [h34]
        refine z_bipush hR dMO_search_29 (v := nI 7) (n := 31) rfl rfl ?_
        refine z_icmp_geN hR dMO_search_31 (t := 228) (n := 34) rfl rfl (by omega) (by omega) (fun h31 => ?_) (fun h31 => absurd h31 (by omega))
        refine z_vret hR dMO_search_228 rfl (Nat.zero_le _) ?_
        exact ⟨rfl, k1, k2, k3, k4, Or.inl ⟨k5, fun e e1 e2 => hno e e1 (by omega)⟩, k6⟩
      | succ m ih =>
        intro k l2 l3 l4 τ hm hk1 hf hd h34 hno
        have hk6 : k ≤ 6 := by omega
        -- the rows
        have rows : ∀ (N : Nat) (r : Nat → Nat) (l3 l4 : Option Value) (τ : zS), 6 ^ k ≤ N + cod r k → zfr [45, 68, 69] t0 τ → zfd [34, 35] t0 τ → τ.1 45 34 = nI k → rOk s k r → (∀ p, p < k → τ.1 68 p = nI (r p)) → (∀ q, rOk s k q → lxt k q r → ∀ j, j < k → ¬ B k q j) → Z 0 67 [some (.ref 45), some (.int (nI s)), some (.int 1), l3, l4] [] τ := by
          intro N
          induction N with
          | zero =>
            intro r l3 l4 τ hc hf hd h34 hr hrow hq
            have := cod_lt hr.2
            omega
          | succ N ihN =>
            intro r l3 l4 τ hc hf hd h34 hr hrow hq
            -- the row breaks nothing: the next one
            have next : ∀ (x3 : Int32) (l4 : Option Value) (τ : zS), zfr [45, 68, 69] t0 τ → zfd [34, 35] t0 τ → τ.1 45 34 = nI k → (∀ p, p < k → τ.1 68 p = nI (r p)) → (∀ j, j < k → ¬ B k r j) → Z 0 207 [some (.ref 45), some (.int (nI s)), some (.int 1), some (.int x3), l4] [] τ := by
              intro x3 l4 τ hf hd h34 hrow hnr
              have hBs : ∀ q, rOk s k q → (∀ i, i < k → q i = r i) → ∀ j, j < k → ¬ B k q j := fun q hq0 he j hj hBq => hnr j hj (by
                rw [hB] at hBq ⊢
                refine ⟨fun i hi => ?_, ?_⟩
                · rw [← he i hi, ← he _ (nx_lt hj)]
                  exact hBq.1 i hi
                · exact hvs k q r j hj hk6 hq0.2 he hBq.2)
              have hca := m_MO_advance (by omega) (by omega) τ h34 (fun p hp => ⟨hrow p hp, hr.2 p hp⟩)
              refine z_aload_n hR dMO_search_207 (n := 208) rfl rfl ?_
              refine z_callV0 hR dMO_search_208 (n := 211) rfl zcMO_220 zkMO_advance (by decide) (Nat.le_of_ble_eq_true rfl) (by decide) rfl rfl (Nat.zero_le _) hca (fun r208 s208 h208 => ?_)
              obtain ⟨af, ⟨rfl, p, st2, a0, a1, a2, a3, a4, a5⟩ | ⟨rfl, a1⟩⟩ := h208
              ·
                have go := fun l3 l4 => ihN st2 l3 l4 s208 (by
                  have := cod_next (d := k - (p + 1)) a3 a4 (fun i h1 h2 => a5 i h1 (by omega))
                  rw [show p + 1 + (k - (p + 1)) = k by omega] at this
                  omega) (hf.tr (af.mo (by decide))) (fun j hj => by rw [af.1 45 (by decide)]; exact hd j hj) (by rw [af.1 45 (by decide)]; exact h34) ⟨by rw [a3 0 a0]; exact hr.1, fun i hi => (a2 i hi).2⟩ (fun i hi => (a2 i hi).1) (fun q hq0 hl j hj => by
                  rcases lxt_next a3 a4 a5 hq0.2 hl with h | h
                  · exact hq q hq0 h j hj
                  · exact hBs q hq0 h j hj)
                refine z_istore_n hR dMO_search_211 (n := 212) rfl (by decide) rfl ?_
                refine z_goto hR dMO_search_212 (t := 67) rfl ?_
                exact go _ _
              have hnob : nob B s k := fun q hq0 j hj => by
                rcases lxt_or k q r with h | h | h
                · exact hq q hq0 h j hj
                · obtain ⟨i, i1, i2, i3⟩ := h
                  have := hq0.2 i i1
                  by_cases e : i = 0
                  · subst e
                    rw [hr.1, hq0.1] at i3
                    omega
                  · have := a1 i (by omega) i1
                    omega
                · exact hBs q hq0 h j hj
              have go := fun l2 l3 l4 => ih (k + 1) l2 l3 l4 (zwA s208 45 34 (nI (k + 1))) (by omega) (by omega) ((hf.tr (af.mo (by decide))).wA _ (by decide)) (fun j hj => by
                rw [zwA_sn _ _ _ _ (fun e => hj (by simp [e])), af.1 45 (by decide)]
                exact hd j hj) (by rw [zwA_ss]) (fun e e1 e2 => by
                by_cases e3 : e = k
                · exact e3 ▸ hnob
                · exact hno e e1 (by omega))
              have e34 : s208.1 45 34 = nI k := by rw [af.1 45 (by decide)]; exact h34
              refine z_istore_n hR dMO_search_211 (n := 212) rfl (by decide) rfl ?_
              refine z_goto hR dMO_search_212 (t := 67) rfl ?_
              refine z_iload_n hR dMO_search_67 (n := 68) rfl rfl ?_
              refine z_if_eq hR dMO_search_68 (t := 215) (n := 71) rfl rfl (fun _ => ?_) (fun h68 => absurd rfl h68)
              refine z_aload_n hR dMO_search_215 (n := 216) rfl rfl ?_
              refine z_dup hR dMO_search_216 (n := 217) rfl rfl ?_
              refine z_getI hR dMO_search_217 (n := 220) rfl zgMO_208 (by decide) rfl rfl ?_
              rw [e34]
              refine z_iconst hR dMO_search_220 (v := nI 1) (n := 221) rfl rfl ?_
              refine z_iaddN hR dMO_search_221 (n := 222) rfl ?_
              refine z_putI hR dMO_search_222 (n := 225) rfl zpMO_208 (by decide) rfl rfl ?_
              refine z_goto hR dMO_search_225 (t := 25) rfl ?_
              exact go _ _ _
            have hst2 : ∀ p, p < k → τ.1 68 p = nI (r p) ∧ r p < 6 := fun p hp => ⟨hrow p hp, hr.2 p hp⟩
            have hL2 : ∀ a b, a < 6 → b < 6 → τ.1 58 (6 * a + b) = zb (L a b) := fun a b h1 h2 => by
              rw [hf.1 58 (by decide), h58]
              exact hL a b h1 h2
            -- the turns
            have turns : ∀ (w j : Nat) (l4 : Option Value) (τ : zS), j + w = k → zfr [45, 68, 69] t0 τ → zfd [34, 35] t0 τ → τ.1 45 34 = nI k → τ.1 45 35 = nI j → (∀ p, p < k → τ.1 68 p = nI (r p)) → (∀ p, p + 1 < k → L (r p) (r (p + 1)) = true) → (∀ i, i < j → ¬ B k r i) → Z 0 81 [some (.ref 45), some (.int (nI s)), some (.int 1), some (.int 1), l4] [] τ := by
              intro w
              induction w with
              | zero =>
                intro j l4 τ hw hf hd h34 h35 hrow hlk hnr
                obtain rfl : j = k := by omega
                refine z_aload_n hR dMO_search_81 (n := 82) rfl rfl ?_
                refine z_getI hR dMO_search_82 (n := 85) rfl zgMO_211 (by decide) rfl rfl ?_
                rw [h35]
                refine z_aload_n hR dMO_search_85 (n := 86) rfl rfl ?_
                refine z_getI hR dMO_search_86 (n := 89) rfl zgMO_208 (by decide) rfl rfl ?_
                rw [h34]
                refine z_icmp_geN hR dMO_search_89 (t := 207) (n := 92) rfl rfl (by omega) (by omega) (fun h89 => ?_) (fun h89 => absurd h89 (by omega))
                exact next _ _ τ hf hd h34 hrow hnr
              | succ w ihw =>
                intro j l4 τ hw hf hd h34 h35 hrow hlk hnr
                have hj : j < k := by omega
                have q1 := hr.2 (k - 1) (by omega)
                have q2 := hr.2 j hj
                have el : τ.1 58 (6 * r (k - 1) + r j) = zb (L (r (k - 1)) (r j)) := by
                  rw [hf.1 58 (by decide), h58]
                  exact hL _ _ q1 q2
                -- not here: the next turn
                have nxt : ∀ (l4 : Option Value) (τ2 : zS), zfr [45, 68, 69] t0 τ2 → zfd [34, 35] t0 τ2 → τ2.1 45 34 = nI k → τ2.1 45 35 = nI j → (∀ p, p < k → τ2.1 68 p = nI (r p)) → ¬ B k r j → Z 0 194 [some (.ref 45), some (.int (nI s)), some (.int 1), some (.int 1), l4] [] τ2 := by
                  intro l4 τ2 hf2 hd2 g34 g35 grow hnB
                  refine z_aload_n hR dMO_search_194 (n := 195) rfl rfl ?_
                  refine z_dup hR dMO_search_195 (n := 196) rfl rfl ?_
                  refine z_getI hR dMO_search_196 (n := 199) rfl zgMO_211 (by decide) rfl rfl ?_
                  rw [g35]
                  refine z_iconst hR dMO_search_199 (v := nI 1) (n := 200) rfl rfl ?_
                  refine z_iaddN hR dMO_search_200 (n := 201) rfl ?_
                  refine z_putI hR dMO_search_201 (n := 204) rfl zpMO_211 (by decide) rfl rfl ?_
                  refine z_goto hR dMO_search_204 (t := 81) rfl ?_
                  refine ihw (j + 1) _ _ (by omega) (hf2.wA _ (by decide)) (fun i hi => ?_) ?_ (by rw [zwA_ss]) (fun p hp => ?_) hlk (fun i hi => ?_)
                  · rw [zwA_sn _ _ _ _ (fun e => hi (by simp [e]))]
                    exact hd2 i hi
                  · rw [zwA_sn _ _ _ _ (by decide)]
                    exact g34
                  · rw [zwA_n _ _ _ _ (by decide)]
                    exact grow p hp
                  · by_cases e : i = j
                    · exact e ▸ hnB
                    · exact hnr i (by omega)
                cases ec : L (r (k - 1)) (r j) with
                | false =>
                  rw [ec] at el
                  refine z_aload_n hR dMO_search_81 (n := 82) rfl rfl ?_
                  refine z_getI hR dMO_search_82 (n := 85) rfl zgMO_211 (by decide) rfl rfl ?_
                  rw [h35]
                  refine z_aload_n hR dMO_search_85 (n := 86) rfl rfl ?_
                  refine z_getI hR dMO_search_86 (n := 89) rfl zgMO_208 (by decide) rfl rfl ?_
                  rw [h34]
                  refine z_icmp_geN hR dMO_search_89 (t := 207) (n := 92) rfl rfl (by omega) (by omega) (fun h89 => absurd h89 (by omega)) (fun h89 => ?_)
                  refine z_iload_n hR dMO_search_92 (n := 93) rfl rfl ?_
                  refine z_if_eq hR dMO_search_93 (t := 207) (n := 96) rfl rfl (fun h93 => absurd h93 (by decide)) (fun _ => ?_)
                  refine z_aload_n hR dMO_search_96 (n := 97) rfl rfl ?_
                  refine z_getR hR dMO_search_97 (n := 100) rfl zgMO_46 (by decide) rfl rfl ?_
                  refine z_bipush hR dMO_search_100 (v := nI 6) (n := 102) rfl rfl ?_
                  refine z_aload_n hR dMO_search_102 (n := 103) rfl rfl ?_
                  refine z_getR hR dMO_search_103 (n := 106) rfl zgMO_78 (by decide) rfl rfl ?_
                  refine z_aload_n hR dMO_search_106 (n := 107) rfl rfl ?_
                  refine z_getI hR dMO_search_107 (n := 110) rfl zgMO_208 (by decide) rfl rfl ?_
                  rw [h34]
                  refine z_iconst hR dMO_search_110 (v := nI 1) (n := 111) rfl rfl ?_
                  refine z_isubN hR dMO_search_111 (n := 112) rfl (by omega) ?_
                  refine z_iald hR (_) dMO_search_112 (n := 113) rfl (by decide) rfl (by decide) rfl (by omega) ?_
                  rw [hrow (k - 1) (by omega)]
                  refine z_imulN hR dMO_search_113 (n := 114) rfl ?_
                  refine z_aload_n hR dMO_search_114 (n := 115) rfl rfl ?_
                  refine z_getR hR dMO_search_115 (n := 118) rfl zgMO_78 (by decide) rfl rfl ?_
                  refine z_aload_n hR dMO_search_118 (n := 119) rfl rfl ?_
                  refine z_getI hR dMO_search_119 (n := 122) rfl zgMO_211 (by decide) rfl rfl ?_
                  rw [h35]
                  refine z_iald hR (_) dMO_search_122 (n := 123) rfl (by decide) rfl (by decide) rfl (by omega) ?_
                  rw [hrow j hj]
                  refine z_iaddN hR dMO_search_123 (n := 124) rfl ?_
                  refine z_zald hR (_) dMO_search_124 (n := 125) rfl (by decide) rfl (by decide) rfl (by omega) ?_
                  rw [el]
                  refine z_if_eqB hR dMO_search_125 (t := 194) (n := 128) rfl rfl (fun h125 => ?_) (fun h125 => absurd h125 (by decide))
                  refine nxt _ τ hf hd h34 h35 hrow (fun hBq => ?_)
                  have := ((hB _ _ _).mp hBq).1 (k - 1) (by omega)
                  rw [show nx k j (k - 1) = j from if_neg (by omega), ec] at this
                  exact absurd this (by decide)
                | true =>
                  rw [ec] at el
                  have hlinks : ∀ i, i < k → L (r i) (r (nx k j i)) = true := fun i hi => by
                    by_cases e : i + 1 < k
                    · rw [show nx k j i = i + 1 from if_pos e]
                      exact hlk i e
                    · rw [show nx k j i = j from if_neg e, show i = k - 1 by omega]
                      exact ec
                  have hch := m_MO_holds (i := 0) hn hn0 (by omega : k ≤ 8) hj (by omega) hsh τ (by rw [hd 4 (by decide), d0 4 (by decide)]; exact hN) (mT3_fr hf (by decide) (by decide) (by decide) hT3) (st := r) ⟨h34, h35, fun p hp => ⟨hrow p hp, hr.2 p hp⟩⟩
                  rw [hf.1 57 (by decide), h57] at hch
                  refine z_aload_n hR dMO_search_81 (n := 82) rfl rfl ?_
                  refine z_getI hR dMO_search_82 (n := 85) rfl zgMO_211 (by decide) rfl rfl ?_
                  rw [h35]
                  refine z_aload_n hR dMO_search_85 (n := 86) rfl rfl ?_
                  refine z_getI hR dMO_search_86 (n := 89) rfl zgMO_208 (by decide) rfl rfl ?_
                  rw [h34]
                  refine z_icmp_geN hR dMO_search_89 (t := 207) (n := 92) rfl rfl (by omega) (by omega) (fun h89 => absurd h89 (by omega)) (fun h89 => ?_)
                  refine z_iload_n hR dMO_search_92 (n := 93) rfl rfl ?_
                  refine z_if_eq hR dMO_search_93 (t := 207) (n := 96) rfl rfl (fun h93 => absurd h93 (by decide)) (fun _ => ?_)
                  refine z_aload_n hR dMO_search_96 (n := 97) rfl rfl ?_
                  refine z_getR hR dMO_search_97 (n := 100) rfl zgMO_46 (by decide) rfl rfl ?_
                  refine z_bipush hR dMO_search_100 (v := nI 6) (n := 102) rfl rfl ?_
                  refine z_aload_n hR dMO_search_102 (n := 103) rfl rfl ?_
                  refine z_getR hR dMO_search_103 (n := 106) rfl zgMO_78 (by decide) rfl rfl ?_
                  refine z_aload_n hR dMO_search_106 (n := 107) rfl rfl ?_
                  refine z_getI hR dMO_search_107 (n := 110) rfl zgMO_208 (by decide) rfl rfl ?_
                  rw [h34]
                  refine z_iconst hR dMO_search_110 (v := nI 1) (n := 111) rfl rfl ?_
                  refine z_isubN hR dMO_search_111 (n := 112) rfl (by omega) ?_
                  refine z_iald hR (_) dMO_search_112 (n := 113) rfl (by decide) rfl (by decide) rfl (by omega) ?_
                  rw [hrow (k - 1) (by omega)]
                  refine z_imulN hR dMO_search_113 (n := 114) rfl ?_
                  refine z_aload_n hR dMO_search_114 (n := 115) rfl rfl ?_
                  refine z_getR hR dMO_search_115 (n := 118) rfl zgMO_78 (by decide) rfl rfl ?_
                  refine z_aload_n hR dMO_search_118 (n := 119) rfl rfl ?_
                  refine z_getI hR dMO_search_119 (n := 122) rfl zgMO_211 (by decide) rfl rfl ?_
                  rw [h35]
                  refine z_iald hR (_) dMO_search_122 (n := 123) rfl (by decide) rfl (by decide) rfl (by omega) ?_
                  rw [hrow j hj]
                  refine z_iaddN hR dMO_search_123 (n := 124) rfl ?_
                  refine z_zald hR (_) dMO_search_124 (n := 125) rfl (by decide) rfl (by decide) rfl (by omega) ?_
                  rw [el]
                  refine z_if_eqB hR dMO_search_125 (t := 194) (n := 128) rfl rfl (fun h125 => absurd h125 (by decide)) (fun h125 => ?_)
                  refine z_aload_n hR dMO_search_128 (n := 129) rfl rfl ?_
                  refine z_iconst hR dMO_search_129 (v := 0) (n := 130) rfl rfl ?_
                  refine z_callV1 hR dMO_search_130 (n := 133) rfl zcMO_217 zkMO_holds (by decide) (Nat.le_of_ble_eq_true rfl) (by decide) rfl rfl (Nat.zero_le _) hch (fun r130 s130 h130 => ?_)
                  obtain ⟨wf, V, rfl, hV⟩ := h130
                  have hval := hEv k j r V hj hk6 hr.2 hV
                  have wf2 : zfr [45, 68, 69] t0 s130 := hf.tr (wf.mo (by decide))
                  have e45 : s130.1 45 = τ.1 45 := wf.1 45 (by decide)
                  have e68 : s130.1 68 = τ.1 68 := wf.1 68 (by decide)
                  have wd : zfd [34, 35] t0 s130 := fun i hi => by rw [e45]; exact hd i hi
                  rw [hval]
                  refine z_if_neB hR dMO_search_133 (t := 194) (n := 136) rfl rfl (fun h133 => ?_) (fun h133 => ?_)
                  · have go := fun l4 => nxt l4 s130 wf2 wd (by rw [e45]; exact h34) (by rw [e45]; exact h35) (by rw [e68]; exact hrow) (fun hBq => by
                      have := ((hB _ _ _).mp hBq).2
                      rw [h133] at this
                      exact absurd this (by decide))
                    exact go _
                  · have hBq : B k r j := (hB _ _ _).mpr ⟨hlinks, h133⟩
                    have hfnd : fnd B s k r j := ⟨hk1, hk6, hr, hj, hBq, hno, hq, hnr⟩
                    obtain ⟨k1, k2, k3, k4, k5, k6⟩ := keep s130 wf2 wd
                    have e34 : s130.1 45 34 = nI k := by rw [e45]; exact h34
                    have e35 : s130.1 45 35 = nI j := by rw [e45]; exact h35
                    -- it is noted
                    have note : ∀ (v p : Nat) (τ2 : zS), p + v = k → zfr [70, 71, 72] s130 τ2 → τ2.1 70 = upd (s130.1 70) s (nI k) → τ2.1 71 = upd (s130.1 71) s (nI j) → (∀ i, i < p → τ2.1 72 (6 * s + i) = nI (r i)) → (∀ s2, s2 < 6 → s2 ≠ s → ∀ i, i < 6 → τ2.1 72 (6 * s2 + i) = s130.1 72 (6 * s2 + i)) → Z 0 159 [some (.ref 45), some (.int (nI s)), some (.int 1), some (.int 1), some (.int (nI p))] [] τ2 := by
                      intro v
                      induction v with
                      | zero =>
                        intro p τ2 hv f2 n0 n1 n2 n3
                        obtain rfl : p = k := by omega
                        have x34 : τ2.1 45 34 = nI p := by rw [f2.1 45 (by decide)]; exact e34
                        refine z_iload hR dMO_search_159 (n := 161) rfl rfl ?_
                        refine z_aload_n hR dMO_search_161 (n := 162) rfl rfl ?_
                        refine z_getI hR dMO_search_162 (n := 165) rfl zgMO_208 (by decide) rfl rfl ?_
                        rw [x34]
                        refine z_icmp_geN hR dMO_search_165 (t := 193) (n := 168) rfl rfl (by omega) (by omega) (fun h165 => ?_) (fun h165 => absurd h165 (by omega))
                        refine z_vret hR dMO_search_193 rfl (Nat.zero_le _) ?_
                        refine ⟨rfl, k1.tr (f2.mo (by decide)), fun i hi => by rw [f2.1 45 (by decide)]; exact k2 i hi, by rw [f2.1 45 (by decide)]; exact k3, ?_, Or.inr ⟨p, r, j, by rw [n0, pk_us], by rw [n1, pk_us], n2, hfnd⟩, fun s2 h1 h2 => ?_⟩
                        · unfold mD at k4 ⊢
                          rw [f2.1 57 (by decide), f2.1 60 (by decide), f2.1 61 (by decide), f2.2 67 (by decide), f2.2 63 (by decide)]
                          exact k4
                        · obtain ⟨o1, o2, o3⟩ := k6 s2 h1 h2
                          refine ⟨by rw [n0, pk_un h2]; exact o1, by rw [n1, pk_un h2]; exact o2, fun i hi => by rw [n3 s2 h1 h2 i hi]; exact o3 i hi⟩
                      | succ v ihv =>
                        intro p τ2 hv f2 n0 n1 n2 n3
                        have x34 : τ2.1 45 34 = nI k := by rw [f2.1 45 (by decide)]; exact e34
                        have x68 : τ2.1 68 p = nI (r p) := by rw [f2.1 68 (by decide), e68]; exact hrow p (by omega)
                        refine z_iload hR dMO_search_159 (n := 161) rfl rfl ?_
                        refine z_aload_n hR dMO_search_161 (n := 162) rfl rfl ?_
                        refine z_getI hR dMO_search_162 (n := 165) rfl zgMO_208 (by decide) rfl rfl ?_
                        rw [x34]
                        refine z_icmp_geN hR dMO_search_165 (t := 193) (n := 168) rfl rfl (by omega) (by omega) (fun h165 => absurd h165 (by omega)) (fun h165 => ?_)
                        refine z_aload_n hR dMO_search_168 (n := 169) rfl rfl ?_
                        refine z_getR hR dMO_search_169 (n := 172) rfl zgMO_90 (by decide) rfl rfl ?_
                        refine z_bipush hR dMO_search_172 (v := nI 6) (n := 174) rfl rfl ?_
                        refine z_iload_n hR dMO_search_174 (n := 175) rfl rfl ?_
                        refine z_imulN hR dMO_search_175 (n := 176) rfl ?_
                        refine z_iload hR dMO_search_176 (n := 178) rfl rfl ?_
                        refine z_iaddN hR dMO_search_178 (n := 179) rfl ?_
                        refine z_aload_n hR dMO_search_179 (n := 180) rfl rfl ?_
                        refine z_getR hR dMO_search_180 (n := 183) rfl zgMO_78 (by decide) rfl rfl ?_
                        refine z_iload hR dMO_search_183 (n := 185) rfl rfl ?_
                        refine z_iald hR (_) dMO_search_185 (n := 186) rfl (by decide) rfl (by decide) rfl (by omega) ?_
                        rw [x68]
                        refine z_iast hR (_) dMO_search_186 (n := 187) rfl (by decide) rfl (by decide) rfl (by omega) ?_
                        refine z_iincN hR 1 dMO_search_187 (n := 190) rfl rfl (by decide) rfl rfl ?_
                        refine z_goto hR dMO_search_190 (t := 159) rfl ?_
                        refine ihv (p + 1) _ (by omega) (f2.wA _ (by decide)) (by rw [zwA_n _ _ _ _ (by decide)]; exact n0) (by rw [zwA_n _ _ _ _ (by decide)]; exact n1) (fun i hi => ?_) (fun s2 h1 h2 i hi => ?_)
                        · by_cases e : i = p
                          · subst e
                            rw [zwA_ss]
                          · rw [zwA_sn _ _ _ _ (by omega)]
                            exact n2 i (by omega)
                        · rw [zwA_sn _ _ _ _ (by omega)]
                          exact n3 s2 h1 h2 i hi
                    refine z_aload_n hR dMO_search_136 (n := 137) rfl rfl ?_
                    refine z_getR hR dMO_search_137 (n := 140) rfl zgMO_84 (by decide) rfl rfl ?_
                    refine z_iload_n hR dMO_search_140 (n := 141) rfl rfl ?_
                    refine z_aload_n hR dMO_search_141 (n := 142) rfl rfl ?_
                    refine z_getI hR dMO_search_142 (n := 145) rfl zgMO_208 (by decide) rfl rfl ?_
                    rw [e34]
                    refine z_iast hR (_) dMO_search_145 (n := 146) rfl (by decide) rfl (by decide) rfl (by omega) ?_
                    refine z_aload_n hR dMO_search_146 (n := 147) rfl rfl ?_
                    refine z_getR hR dMO_search_147 (n := 150) rfl zgMO_87 (by decide) rfl rfl ?_
                    refine z_iload_n hR dMO_search_150 (n := 151) rfl rfl ?_
                    refine z_aload_n hR dMO_search_151 (n := 152) rfl rfl ?_
                    refine z_getI hR dMO_search_152 (n := 155) rfl zgMO_211 (by decide) rfl rfl ?_
                    rw [zwA_n _ _ _ _ (by decide), e35]
                    refine z_iast hR (_) dMO_search_155 (n := 156) rfl (by decide) rfl (by decide) rfl (by omega) ?_
                    refine z_iconst hR dMO_search_156 (v := nI 0) (n := 157) rfl rfl ?_
                    refine z_istore hR dMO_search_157 (n := 159) rfl (by decide) rfl ?_
                    refine note k 0 _ (by omega) ((zfr.rf.wA _ (by decide)).wA _ (by decide)) ?_ ?_ (fun i hi => absurd hi (by omega)) (fun s2 _ _ i _ => by rw [zwA_n _ _ _ _ (by decide), zwA_n _ _ _ _ (by decide)])
                    · funext q
                      rw [zwA_n _ _ _ _ (by decide), zwA_1, if_pos rfl]
                      rfl
                    · funext q
                      rw [zwA_1, if_pos rfl, zwA_n _ _ _ _ (by decide)]
                      rfl
            cases elk : lk2 L r (k - 1) with
            | false =>
              have hnr : ∀ j, j < k → ¬ B k r j := fun j hj hBq => by
                have : lk2 L r (k - 1) = true := lk2_iff.mpr (fun p hp => by
                  have := ((hB _ _ _).mp hBq).1 p (by omega)
                  rw [show nx k j p = p + 1 from if_pos (by omega)] at this
                  exact this)
                rw [elk] at this
                exact absurd this (by decide)
              refine z_iload_n hR dMO_search_67 (n := 68) rfl rfl ?_
              refine z_if_eq hR dMO_search_68 (t := 215) (n := 71) rfl rfl (fun h68 => absurd h68 (by decide)) (fun _ => ?_)
              refine z_aload_n hR dMO_search_71 (n := 72) rfl rfl ?_
              refine z_callV0 hR dMO_search_72 (n := 75) rfl zcMO_214 zkMO_linked (by decide) (Nat.le_of_ble_eq_true rfl) (by decide) rfl rfl (Nat.zero_le _) (m_MO_linked (by omega) (by omega) τ h34 hst2 hL2) (fun r72 s72 h72 => ?_)
              obtain ⟨rfl, e72⟩ := h72
              subst s72
              rw [elk]
              refine z_istore_n hR dMO_search_75 (n := 76) rfl (by decide) rfl ?_
              refine z_aload_n hR dMO_search_76 (n := 77) rfl rfl ?_
              refine z_iconst hR dMO_search_77 (v := nI 0) (n := 78) rfl rfl ?_
              refine z_putI hR dMO_search_78 (n := 81) rfl zpMO_211 (by decide) rfl rfl ?_
              refine z_aload_n hR dMO_search_81 (n := 82) rfl rfl ?_
              refine z_getI hR dMO_search_82 (n := 85) rfl zgMO_211 (by decide) rfl rfl ?_
              rw [zwA_ss]
              refine z_aload_n hR dMO_search_85 (n := 86) rfl rfl ?_
              refine z_getI hR dMO_search_86 (n := 89) rfl zgMO_208 (by decide) rfl rfl ?_
              rw [zwA_sn _ _ _ _ (by decide), h34]
              refine z_icmp_geN hR dMO_search_89 (t := 207) (n := 92) rfl rfl (by omega) (by omega) (fun h89 => absurd h89 (by omega)) (fun h89 => ?_)
              refine z_iload_n hR dMO_search_92 (n := 93) rfl rfl ?_
              refine z_if_eqB hR dMO_search_93 (t := 207) (n := 96) rfl rfl (fun h93 => ?_) (fun h93 => absurd h93 (by decide))
              exact next _ _ _ (hf.wA _ (by decide)) (fun i hi => by
                rw [zwA_sn _ _ _ _ (fun e => hi (by simp [e]))]
                exact hd i hi) (by rw [zwA_sn _ _ _ _ (by decide)]; exact h34) (by rw [zwA_n _ _ _ _ (by decide)]; exact hrow) hnr
            | true =>
              have hup := lk2_iff.mp elk
              refine z_iload_n hR dMO_search_67 (n := 68) rfl rfl ?_
              refine z_if_eq hR dMO_search_68 (t := 215) (n := 71) rfl rfl (fun h68 => absurd h68 (by decide)) (fun _ => ?_)
              refine z_aload_n hR dMO_search_71 (n := 72) rfl rfl ?_
              refine z_callV0 hR dMO_search_72 (n := 75) rfl zcMO_214 zkMO_linked (by decide) (Nat.le_of_ble_eq_true rfl) (by decide) rfl rfl (Nat.zero_le _) (m_MO_linked (by omega) (by omega) τ h34 hst2 hL2) (fun r72 s72 h72 => ?_)
              obtain ⟨rfl, e72⟩ := h72
              subst s72
              rw [elk]
              refine z_istore_n hR dMO_search_75 (n := 76) rfl (by decide) rfl ?_
              refine z_aload_n hR dMO_search_76 (n := 77) rfl rfl ?_
              refine z_iconst hR dMO_search_77 (v := nI 0) (n := 78) rfl rfl ?_
              refine z_putI hR dMO_search_78 (n := 81) rfl zpMO_211 (by decide) rfl rfl ?_
              exact turns k 0 _ _ (by omega) (hf.wA _ (by decide)) (fun i hi => by
                rw [zwA_sn _ _ _ _ (fun e => hi (by simp [e]))]
                exact hd i hi) (by rw [zwA_sn _ _ _ _ (by decide)]; exact h34) (by rw [zwA_ss]) (by rw [zwA_n _ _ _ _ (by decide)]; exact hrow) (fun p hp => hup p (by omega)) (fun i hi => absurd hi (by omega))
        -- the first row
        have init : ∀ (w p : Nat) (l3 l4 : Option Value) (τ : zS), p + w = k → zfr [45, 68, 69] t0 τ → zfd [34, 35] t0 τ → τ.1 45 34 = nI k → (∀ i, i < p → τ.1 68 i = nI (if i = 0 then s else 0)) → Z 0 36 [some (.ref 45), some (.int (nI s)), some (.int (nI p)), l3, l4] [] τ := by
          intro w
          induction w with
          | zero =>
            intro p l3 l4 τ hw hf hd h34 hrow
            obtain rfl : p = k := by omega
            refine z_iload_n hR dMO_search_36 (n := 37) rfl rfl ?_
            refine z_aload_n hR dMO_search_37 (n := 38) rfl rfl ?_
            refine z_getI hR dMO_search_38 (n := 41) rfl zgMO_208 (by decide) rfl rfl ?_
            rw [h34]
            refine z_icmp_geN hR dMO_search_41 (t := 65) (n := 44) rfl rfl (by omega) (by omega) (fun h41 => ?_) (fun h41 => absurd h41 (by omega))
            refine z_iconst hR dMO_search_65 (v := 1) (n := 66) rfl rfl ?_
            refine z_istore_n hR dMO_search_66 (n := 67) rfl (by decide) rfl ?_
            refine rows (6 ^ p) (fun i => if i = 0 then s else 0) _ _ τ (by omega) hf hd h34 ⟨if_pos rfl, fun i hi => ?_⟩ hrow (fun q hq0 hl => ?_)
            · show (if i = 0 then s else 0) < 6
              split <;> omega
            · obtain ⟨i, i1, i2, i3⟩ := hl
              by_cases e : i = 0
              · subst e
                simp only [if_true] at i3
                have := hq0.1
                omega
              · simp only [if_neg e] at i3
                omega
          | succ w ihw =>
            intro p l3 l4 τ hw hf hd h34 hrow
            have go : ∀ (x : Nat) (l3 l4 : Option Value), x = (if p = 0 then s else 0) → Z 0 36 [some (.ref 45), some (.int (nI s)), some (.int (nI (p + 1))), l3, l4] [] (zwA τ 68 p (nI x)) := fun x l3 l4 hx => ihw (p + 1) _ _ _ (by omega) (hf.wA _ (by decide)) (fun i hi => by
              rw [zwA_n _ _ _ _ (by decide)]
              exact hd i hi) (by rw [zwA_n _ _ _ _ (by decide)]; exact h34) (fun i hi => by
              by_cases e : i = p
              · subst e
                rw [zwA_ss, hx]
              · rw [zwA_sn _ _ _ _ e]
                exact hrow i (by omega))
            by_cases hp0 : p = 0
            ·
              have go2 := fun l3 l4 => go s l3 l4 (by rw [if_pos hp0])
              refine z_iload_n hR dMO_search_36 (n := 37) rfl rfl ?_
              refine z_aload_n hR dMO_search_37 (n := 38) rfl rfl ?_
              refine z_getI hR dMO_search_38 (n := 41) rfl zgMO_208 (by decide) rfl rfl ?_
              rw [h34]
              refine z_icmp_geN hR dMO_search_41 (t := 65) (n := 44) rfl rfl (by omega) (by omega) (fun h41 => absurd h41 (by omega)) (fun h41 => ?_)
              refine z_aload_n hR dMO_search_44 (n := 45) rfl rfl ?_
              refine z_getR hR dMO_search_45 (n := 48) rfl zgMO_78 (by decide) rfl rfl ?_
              refine z_iload_n hR dMO_search_48 (n := 49) rfl rfl ?_
              refine z_iload_n hR dMO_search_49 (n := 50) rfl rfl ?_
              refine z_if_neN hR dMO_search_50 (t := 57) (n := 53) rfl rfl (by omega) (fun h50 => absurd h50 (by omega)) (fun h50 => ?_)
              refine z_iload_n hR dMO_search_53 (n := 54) rfl rfl ?_
              refine z_goto hR dMO_search_54 (t := 58) rfl ?_
              refine z_iast hR (_) dMO_search_58 (n := 59) rfl (by decide) rfl (by decide) rfl (by omega) ?_
              refine z_iincN hR 1 dMO_search_59 (n := 62) rfl rfl (by decide) rfl rfl ?_
              refine z_goto hR dMO_search_62 (t := 36) rfl ?_
              exact go2 _ _
            ·
              have go2 := fun l3 l4 => go 0 l3 l4 (by rw [if_neg hp0])
              refine z_iload_n hR dMO_search_36 (n := 37) rfl rfl ?_
              refine z_aload_n hR dMO_search_37 (n := 38) rfl rfl ?_
              refine z_getI hR dMO_search_38 (n := 41) rfl zgMO_208 (by decide) rfl rfl ?_
              rw [h34]
              refine z_icmp_geN hR dMO_search_41 (t := 65) (n := 44) rfl rfl (by omega) (by omega) (fun h41 => absurd h41 (by omega)) (fun h41 => ?_)
              refine z_aload_n hR dMO_search_44 (n := 45) rfl rfl ?_
              refine z_getR hR dMO_search_45 (n := 48) rfl zgMO_78 (by decide) rfl rfl ?_
              refine z_iload_n hR dMO_search_48 (n := 49) rfl rfl ?_
              refine z_iload_n hR dMO_search_49 (n := 50) rfl rfl ?_
              refine z_if_neN hR dMO_search_50 (t := 57) (n := 53) rfl rfl (by omega) (fun h50 => ?_) (fun h50 => absurd h50 (by omega))
              refine z_iconst hR dMO_search_57 (v := nI 0) (n := 58) rfl rfl ?_
              refine z_iast hR (_) dMO_search_58 (n := 59) rfl (by decide) rfl (by decide) rfl (by omega) ?_
              refine z_iincN hR 1 dMO_search_59 (n := 62) rfl rfl (by decide) rfl rfl ?_
              refine z_goto hR dMO_search_62 (t := 36) rfl ?_
              exact go2 _ _
        refine z_aload_n hR dMO_search_25 (n := 26) rfl rfl ?_
        refine z_getI hR dMO_search_26 (n := 29) rfl zgMO_208 (by decide) rfl rfl ?_
        rw [h34]
        refine z_bipush hR dMO_search_29 (v := nI 7) (n := 31) rfl rfl ?_
        refine z_icmp_geN hR dMO_search_31 (t := 228) (n := 34) rfl rfl (by omega) (by omega) (fun h31 => absurd h31 (by omega)) (fun h31 => ?_)
        refine z_iconst hR dMO_search_34 (v := nI 0) (n := 35) rfl rfl ?_
        refine z_istore_n hR dMO_search_35 (n := 36) rfl (by decide) rfl ?_
        exact init k 0 _ _ τ (by omega) hf hd h34 (fun i hi => absurd hi (by omega))
    refine z_aload_n hR dMO_search_20 (n := 21) rfl rfl ?_
    refine z_iconst hR dMO_search_21 (v := nI 1) (n := 22) rfl rfl ?_
    refine z_putI hR dMO_search_22 (n := 25) rfl zpMO_208 (by decide) rfl rfl ?_
    exact sizes 6 1 _ _ _ _ (by omega) (by omega) (zfr.rf.wA _ (by decide)) (fun i hi => by
      rw [zwA_sn _ _ _ _ (fun e => hi (by simp [e]))]) (by rw [zwA_ss]) (fun e e1 e2 => absurd e2 (by omega))
  have hF1 : mF (zwA σ 70 s (-1)) g n L := by
    unfold mF mT3
    rw [zwA_n _ _ _ _ (by decide : (45 : Nat) ≠ 70), zwA_n _ _ _ _ (by decide : (47 : Nat) ≠ 70), zwA_n _ _ _ _ (by decide : (48 : Nat) ≠ 70), zwA_n _ _ _ _ (by decide : (49 : Nat) ≠ 70), zwA_n _ _ _ _ (by decide : (50 : Nat) ≠ 70), zwA_n _ _ _ _ (by decide : (58 : Nat) ≠ 70)]
    exact ⟨hn, hn0, hsh, hT5, hN, hT, ha, hb, hL⟩
  have hk1 : (zwA σ 70 s (-1)).1 45 25 = 0 ∨ ((zwA σ 70 s (-1)).1 45 25 = 1 ∧ mD (zwA σ 70 s (-1)) g n L) := by
    unfold mD
    rw [zwA_n _ _ _ _ (by decide : (45 : Nat) ≠ 70), zwA_n _ _ _ _ (by decide : (57 : Nat) ≠ 70), zwA_n _ _ _ _ (by decide : (60 : Nat) ≠ 70), zwA_n _ _ _ _ (by decide : (61 : Nat) ≠ 70)]
    exact hk
  have hcs := m_MO_someone false (zwA σ 70 s (-1)) hF1 hk1
  refine z_aload_n hR dMO_search_0 (n := 1) rfl rfl ?_
  refine z_getR hR dMO_search_1 (n := 4) rfl zgMO_84 (by decide) rfl rfl ?_
  refine z_iload_n hR dMO_search_4 (n := 5) rfl rfl ?_
  refine z_iconst hR dMO_search_5 (v := (-1)) (n := 6) rfl rfl ?_
  refine z_iast hR (_) dMO_search_6 (n := 7) rfl (by decide) rfl (by decide) rfl (by omega) ?_
  refine z_aload_n hR dMO_search_7 (n := 8) rfl rfl ?_
  refine z_iconst hR dMO_search_8 (v := 0) (n := 9) rfl rfl ?_
  refine z_callV1 hR dMO_search_9 (n := 12) rfl zcMO_204 zkMO_someone (by decide) (Nat.le_of_ble_eq_true rfl) (by decide) rfl rfl (Nat.zero_le _) hcs (fun r9 s9 h9 => ?_)
  obtain ⟨wf, wd, w25, wD, y, rfl, hy⟩ := h9
  have f0 : zfr srL σ s9 := (zfr.rf.wA _ (by decide)).tr (wf.mo (by decide))
  have d0 : zfd [25] σ s9 := fun i hi => by
    rw [wd i hi, zwA_n _ _ _ _ (by decide)]
  have h57 : s9.1 57 = σ.1 57 := by rw [wf.1 57 (by decide), zwA_n _ _ _ _ (by decide)]
  have h58 : s9.1 58 = σ.1 58 := by rw [wf.1 58 (by decide), zwA_n _ _ _ _ (by decide)]
  have h70 : s9.1 70 s = -1 := by rw [wf.1 70 (by decide), zwA_ss]
  have hoth : ∀ s2, s2 < 6 → s2 ≠ s → s9.1 70 s2 = σ.1 70 s2 ∧ s9.1 71 s2 = σ.1 71 s2 ∧ ∀ i, i < 6 → s9.1 72 (6 * s2 + i) = σ.1 72 (6 * s2 + i) := fun s2 h1 h2 => by
    rw [wf.1 70 (by decide), wf.1 71 (by decide), wf.1 72 (by decide), zwA_sn _ _ _ _ h2, zwA_n _ _ _ _ (by decide), zwA_n _ _ _ _ (by decide)]
    exact ⟨rfl, rfl, fun _ _ => rfl⟩
  refine z_iload_n hR dMO_search_12 (n := 13) rfl rfl ?_
  refine z_ishr hR dMO_search_13 (n := 14) rfl ?_
  refine z_iconst hR dMO_search_14 (v := 1) (n := 15) rfl rfl ?_
  refine z_iand hR dMO_search_15 (n := 16) rfl ?_
  rw [tb_sr1 _ (by omega : s < 32)]
  refine z_if_neB hR dMO_search_16 (t := 20) (n := 19) rfl rfl (fun h16 => ?_) (fun h16 => ?_)
  · exact main s9 f0 d0 w25 wD h70 hoth h57 h58 (fun i hi => by
      rw [wf.1 47 (by decide), wf.1 48 (by decide), wf.1 49 (by decide), zwA_n _ _ _ _ (by decide), zwA_n _ _ _ _ (by decide), zwA_n _ _ _ _ (by decide)]
      exact ha i hi)
  · refine z_vret hR dMO_search_19 rfl (Nat.zero_le _) ?_
    refine ⟨rfl, f0, d0.mo (by decide), w25, wD, Or.inl ⟨h70, hPr s9 wD h57 (fun hex => ?_)⟩, hoth⟩
    rw [(hy s (by omega)).mpr ⟨hs6, hex⟩] at h16
    exact absurd h16 (by decide)
