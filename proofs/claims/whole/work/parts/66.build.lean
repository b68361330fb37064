/-! The class's graph is built -/
theorem p2_shl {T : Nat} (h : T ≤ 5) : (1 : Int32) <<< (nI T &&& 31) = nI (2 ^ T) := by
  rcases (by omega : T = 0 ∨ T = 1 ∨ T = 2 ∨ T = 3 ∨ T = 4 ∨ T = 5) with h | h | h | h | h | h <;> subst h <;> decide
/-- what is kept of a state, with the states below f that may go before it -/
def stO (F S P : Nat → Int32) (z T : Nat) (mk : Nat → Int32) (J : Nat → Nat → Bool) (A1 A2 A3 : Nat → Int32) (s fm : Nat) : Prop := ∃ A : Nat → Int32, hrE F S z (mk s) A 0 ∧ A2 s = A 0 ∧ (∀ r, r < z → tmd (F r) = true → ∀ g, g < 32 → tb (A3 (s * 5 + nuF F z r)) g = pP F (sec S) (fun q => tb (A q) g) (g.testBit (nuF F z r)) r) ∧ ∀ f, f < fm → J f s = true → ∃ B : Nat → Int32, bfE F S z (mk f) A B 0 ∧ ∀ g, g < 2 ^ T → A1 ((f * 6 + s) * 32 + g) = nI (bN (fun k => tb (B (P k).toNatClampNeg) g) T)
theorem stO_mo {F S P : Nat → Int32} {z T : Nat} {mk : Nat → Int32} {J : Nat → Nat → Bool} {A1 A2 A3 B1 B2 B3 : Nat → Int32} {s fm : Nat} (h5 : ddF F z 0 ≤ 5) (h1 : ∀ f, f < fm → ∀ g, g < 2 ^ T → B1 ((f * 6 + s) * 32 + g) = A1 ((f * 6 + s) * 32 + g)) (h2 : B2 s = A2 s) (h3 : ∀ k, k < 5 → B3 (s * 5 + k) = A3 (s * 5 + k)) (h : stO F S P z T mk J A1 A2 A3 s fm) : stO F S P z T mk J B1 B2 B3 s fm := by
  obtain ⟨A, a1, a2, a3, a4⟩ := h
  refine ⟨A, a1, h2.trans a2, fun r hr ht g hg => ?_, fun f hf hj => ?_⟩
  · rw [h3 _ (by have := nuF_lt hr ht; omega)]
    exact a3 r hr ht g hg
  · obtain ⟨B, b1, b2⟩ := a4 f hf hj
    exact ⟨B, b1, fun g hg => (h1 f hf g hg).trans (b2 g hg)⟩
theorem jn_fr {l : List Nat} {σ σ2 : zS} (hf : zfr l σ σ2) (h : 44 ∉ l) : jn σ2 = jn σ := by
  funext a b
  rw [jn, jn, hf.1 44 h]
abbrev bdL : List Nat := [28, 29, 30, 31, 32, 33]
theorem m_GR_build {z T : Nat} (σ : zS) (hM : fM σ z T) : zM yGR_build cGR_build 3 none 3 90 0 [.ref 28] σ (fun r2 σ2 => r2 = none ∧ zfr bdL σ σ2 ∧ (∀ j, j ≠ 2 → σ2.1 28 j = σ.1 28 j) ∧ σ2.1 28 2 = nI (2 ^ T) ∧ ∀ s, s < 6 → stO (σ.1 35) (σ.1 36) (σ.1 38) z T (σ.1 43) (jn σ) (σ2.1 31) (σ2.1 32) (σ2.1 33) s 6) (fun _ _ => False) := by
  refine zM.of [some (.ref 28), none, none] (by decide) 2 rfl (fun _ => Nat.le_of_ble_eq_true rfl) (fun Z hR => ?_)
  have hM0 := hM
  obtain ⟨hs, hT, hTd, c1, c2, c3, c4, c5, c6, c7, c8⟩ := hM
  have hT5 : T ≤ 5 := by omega
  have p2 := p2_le hT5
  have key : ∀ (m i : Nat) (l2 : Option Value) (τ : zS), i + m = 6 → zfr bdL σ τ → (∀ j, j ≠ 2 → τ.1 28 j = σ.1 28 j) → τ.1 28 2 = nI (2 ^ T) → (∀ s, s < i → stO (σ.1 35) (σ.1 36) (σ.1 38) z T (σ.1 43) (jn σ) (τ.1 31) (τ.1 32) (τ.1 33) s 6) → Z 0 15 [some (.ref 28), some (.int (nI i)), l2] [] τ := by
    intro m
    induction m with
    | zero =>
      intro i l2 τ hi hf h1 h2 h3
      refine z_iload_n hR dGR_build_15 (n := 16) rfl rfl ?_
      refine z_bipush hR dGR_build_16 (v := nI 6) (n := 18) rfl rfl ?_
      refine z_icmp_geN hR dGR_build_18 (t := 69) (n := 21) rfl rfl (by omega) (by omega) (fun h18 => ?_) (fun h18 => absurd h18 (by omega))
      refine z_vret hR dGR_build_69 rfl (Nat.zero_le _) ?_
      exact ⟨rfl, hf, h1, h2, fun s hs => h3 s (by omega)⟩
    | succ m ih =>
      intro i l2 τ hi hf h1 h2 h3
      have hi6 : i < 6 := by omega
      have hMt : fM τ z T := fM_fr hf (by decide) hM0
      have e35 : τ.1 35 = σ.1 35 := hf.1 35 (by decide)
      have e36 : τ.1 36 = σ.1 36 := hf.1 36 (by decide)
      have e43 : τ.1 43 = σ.1 43 := hf.1 43 (by decide)
      have hc := m_GR_weighHere hi6 τ hMt
      rw [e35, e36, e43] at hc
      have key2 : ∀ (w f : Nat) (τ2 : zS), f + w = 6 → zfr bdL σ τ2 → (∀ j, j ≠ 2 → τ2.1 28 j = σ.1 28 j) → τ2.1 28 2 = nI (2 ^ T) → (∀ s, s < i → stO (σ.1 35) (σ.1 36) (σ.1 38) z T (σ.1 43) (jn σ) (τ2.1 31) (τ2.1 32) (τ2.1 33) s 6) → hrE (σ.1 35) (σ.1 36) z (σ.1 43 i) (τ2.1 29) 0 → τ2.1 32 i = τ2.1 29 0 → (∀ r, r < z → tmd (σ.1 35 r) = true → ∀ g, g < 32 → tb (τ2.1 33 (i * 5 + nuF (σ.1 35) z r)) g = pP (σ.1 35) (sec (σ.1 36)) (fun q => tb (τ2.1 29 q) g) (g.testBit (nuF (σ.1 35) z r)) r) → (∀ f2, f2 < f → jn σ f2 i = true → ∃ B : Nat → Int32, bfE (σ.1 35) (σ.1 36) z (σ.1 43 f2) (τ2.1 29) B 0 ∧ ∀ g, g < 2 ^ T → τ2.1 31 ((f2 * 6 + i) * 32 + g) = nI (bN (fun k => tb (B (σ.1 38 k).toNatClampNeg) g) T)) → Z 0 28 [some (.ref 28), some (.int (nI i)), some (.int (nI f))] [] τ2 := by
        intro w
        induction w with
        | zero =>
          intro f τ2 hw gf g1 g2 g3 g4 g5 g6 g7
          obtain rfl : f = 6 := by omega
          refine z_iload_n hR dGR_build_28 (n := 29) rfl rfl ?_
          refine z_bipush hR dGR_build_29 (v := nI 6) (n := 31) rfl rfl ?_
          refine z_icmp_geN hR dGR_build_31 (t := 63) (n := 34) rfl rfl (by omega) (by omega) (fun h31 => ?_) (fun h31 => absurd h31 (by omega))
          refine z_iincN hR 1 dGR_build_63 (n := 66) rfl rfl (by decide) rfl rfl ?_
          refine z_goto hR dGR_build_66 (t := 15) rfl ?_
          refine ih (i + 1) _ _ (by omega) gf g1 g2 (fun s hs => ?_)
          by_cases e : s = i
          · subst e
            exact ⟨_, g4, g5, g6, g7⟩
          · exact g3 s (by omega)
        | succ w ihw =>
          intro f τ2 hw gf g1 g2 g3 g4 g5 g6 g7
          have hf6 : f < 6 := by omega
          have hM2 : fM τ2 z T := fM_fr gf (by decide) hM0
          have ej : jn τ2 = jn σ := jn_fr gf (by decide)
          have d35 : τ2.1 35 = σ.1 35 := gf.1 35 (by decide)
          have d36 : τ2.1 36 = σ.1 36 := gf.1 36 (by decide)
          have d43 : τ2.1 43 = σ.1 43 := gf.1 43 (by decide)
          have hcj := m_ST_jn hf6 hi6 τ2
          rw [ej] at hcj
          have hcb := m_GR_weighBefore hf6 τ2 hM2
          rw [d35, d36, d43] at hcb
          refine z_iload_n hR dGR_build_28 (n := 29) rfl rfl ?_
          refine z_bipush hR dGR_build_29 (v := nI 6) (n := 31) rfl rfl ?_
          refine z_icmp_geN hR dGR_build_31 (t := 63) (n := 34) rfl rfl (by omega) (by omega) (fun h31 => absurd h31 (by omega)) (fun h31 => ?_)
          refine z_aload_n hR dGR_build_34 (n := 35) rfl rfl ?_
          refine z_getR hR dGR_build_35 (n := 38) rfl zgGR_21 (by decide) rfl rfl ?_
          refine z_iload_n hR dGR_build_38 (n := 39) rfl rfl ?_
          refine z_iload_n hR dGR_build_39 (n := 40) rfl rfl ?_
          refine z_callV2 hR dGR_build_40 (n := 43) rfl zcGR_52 zkST_joins (by decide) (Nat.le_of_ble_eq_true rfl) (by decide) rfl rfl (Nat.zero_le _) hcj (fun r40 s40 h40 => ?_)
          obtain ⟨rfl, e40⟩ := h40
          subst s40
          refine z_if_eqB hR dGR_build_43 (t := 57) (n := 46) rfl rfl (fun h43 => ?_) (fun h43 => ?_)
          · have go : Z 0 28 [some (.ref 28), some (.int (nI i)), some (.int (nI (f + 1)))] [] τ2 := ihw (f + 1) τ2 (by omega) gf g1 g2 g3 g4 g5 g6 (fun f2 h2 hj => by
              by_cases e : f2 = f
              · subst e
                rw [h43] at hj
                exact absurd hj (by decide)
              · exact g7 f2 (by omega) hj)
            refine z_iincN hR 1 dGR_build_57 (n := 60) rfl rfl (by decide) rfl rfl ?_
            refine z_goto hR dGR_build_60 (t := 28) rfl ?_
            exact go
          · skip
            refine z_aload_n hR dGR_build_46 (n := 47) rfl rfl ?_
            refine z_iload_n hR dGR_build_47 (n := 48) rfl rfl ?_
            refine z_callV1 hR dGR_build_48 (n := 51) rfl zcGR_56 zkGR_weighBefore (by decide) (Nat.le_of_ble_eq_true rfl) (by decide) rfl rfl (Nat.zero_le _) hcb (fun r48 s48 h48 => ?_)
            obtain ⟨rfl, bf, bE⟩ := h48
            have hM3 : fM s48 z T := fM_fr bf (by decide) hM2
            have b38 : s48.1 38 = σ.1 38 := (bf.1 38 (by decide)).trans (gf.1 38 (by decide))
            have hcw := m_GR_writeGuesses hf6 hi6 s48 hM3 (by rw [bf.1 28 (by decide)]; exact g2)
            rw [b38] at hcw
            refine z_aload_n hR dGR_build_51 (n := 52) rfl rfl ?_
            refine z_iload_n hR dGR_build_52 (n := 53) rfl rfl ?_
            refine z_iload_n hR dGR_build_53 (n := 54) rfl rfl ?_
            refine z_callV2 hR dGR_build_54 (n := 57) rfl zcGR_59 zkGR_writeGuesses (by decide) (Nat.le_of_ble_eq_true rfl) (by decide) rfl rfl (Nat.zero_le _) hcw (fun r54 s54 h54 => ?_)
            obtain ⟨rfl, wf, w1, w2⟩ := h54
            have x29 : s54.1 29 = τ2.1 29 := (wf.1 29 (by decide)).trans (bf.1 29 (by decide))
            have x32 : s54.1 32 = τ2.1 32 := (wf.1 32 (by decide)).trans (bf.1 32 (by decide))
            have x33 : s54.1 33 = τ2.1 33 := (wf.1 33 (by decide)).trans (bf.1 33 (by decide))
            have x28 : s54.1 28 = τ2.1 28 := (wf.1 28 (by decide)).trans (bf.1 28 (by decide))
            have x31 : ∀ q, (∀ g, g < 2 ^ T → q ≠ (f * 6 + i) * 32 + g) → s54.1 31 q = τ2.1 31 q := fun q hq => by rw [w1 q hq, bf.1 31 (by decide)]
            have go : Z 0 28 [some (.ref 28), some (.int (nI i)), some (.int (nI (f + 1)))] [] s54 := by
              refine ihw (f + 1) s54 (by omega) ((gf.tr (bf.mo (by decide))).tr (wf.mo (by decide))) (fun j hj => by rw [x28]; exact g1 j hj) (by rw [x28]; exact g2) (fun s hs => ?_) (by rw [x29]; exact g4) (by rw [x29, x32]; exact g5) (by rw [x29, x33]; exact g6) (fun f2 h2 hj => ?_)
              · refine stO_mo c3 (fun f2 h2 g hg => x31 _ (fun g2 hg2 => by omega)) (by rw [x32]) (fun k _ => by rw [x33]) (g3 s hs)
              · by_cases e : f2 = f
                · subst e
                  refine ⟨s48.1 30, by rw [x29]; exact bE, w2⟩
                · obtain ⟨B, b1, b2⟩ := g7 f2 (by omega) hj
                  refine ⟨B, by rw [x29]; exact b1, fun g hg => ?_⟩
                  rw [x31 _ (fun g2 hg2 => by omega)]
                  exact b2 g hg
            refine z_iincN hR 1 dGR_build_57 (n := 60) rfl rfl (by decide) rfl rfl ?_
            refine z_goto hR dGR_build_60 (t := 28) rfl ?_
            exact go
      refine z_iload_n hR dGR_build_15 (n := 16) rfl rfl ?_
      refine z_bipush hR dGR_build_16 (v := nI 6) (n := 18) rfl rfl ?_
      refine z_icmp_geN hR dGR_build_18 (t := 69) (n := 21) rfl rfl (by omega) (by omega) (fun h18 => absurd h18 (by omega)) (fun h18 => ?_)
      refine z_aload_n hR dGR_build_21 (n := 22) rfl rfl ?_
      refine z_iload_n hR dGR_build_22 (n := 23) rfl rfl ?_
      refine z_callV1 hR dGR_build_23 (n := 26) rfl zcGR_48 zkGR_weighHere (by decide) (Nat.le_of_ble_eq_true rfl) (by decide) rfl rfl (Nat.zero_le _) hc (fun r23 s23 h23 => ?_)
      obtain ⟨rfl, wf, w1, w2, w3, w4⟩ := h23
      refine z_iconst hR dGR_build_26 (v := nI 0) (n := 27) rfl rfl ?_
      refine z_istore_n hR dGR_build_27 (n := 28) rfl (by decide) rfl ?_
      refine key2 6 0 s23 (by omega) (hf.tr (wf.mo (by decide))) (fun j hj => by rw [wf.1 28 (by decide)]; exact h1 j hj) (by rw [wf.1 28 (by decide)]; exact h2) (fun s hs => ?_) w1 (by rw [w2, pk_us]) w4 (fun f2 hf2 => absurd hf2 (by omega))
      refine stO_mo c3 (fun f _ g _ => by rw [wf.1 31 (by decide)]) (by rw [w2, pk_un (by omega)]) (fun k hk => w3 _ (fun k2 hk2 => by omega)) (h3 s hs)
  refine z_aload_n hR dGR_build_0 (n := 1) rfl rfl ?_
  refine z_iconst hR dGR_build_1 (v := 1) (n := 2) rfl rfl ?_
  refine z_aload_n hR dGR_build_2 (n := 3) rfl rfl ?_
  refine z_getR hR dGR_build_3 (n := 6) rfl zgGR_12 (by decide) rfl rfl ?_
  refine z_getI hR dGR_build_6 (n := 9) rfl zgGR_41 (by decide) rfl rfl ?_
  rw [hT]
  refine z_ishl hR dGR_build_9 (n := 10) rfl ?_
  rw [p2_shl hT5]
  refine z_putI hR dGR_build_10 (n := 13) rfl zpGR_45 (by decide) rfl rfl ?_
  refine z_iconst hR dGR_build_13 (v := nI 0) (n := 14) rfl rfl ?_
  refine z_istore_n hR dGR_build_14 (n := 15) rfl (by decide) rfl ?_
  exact key 6 0 _ _ (by omega) (zfr.rf.wA _ (by decide)) (fun j hj => by rw [zwA_sn _ _ _ _ hj]) (by rw [zwA_ss]) (fun s hs => absurd hs (by omega))
/-- the guess before and the prompt guesses, by the rows -/
def preA (A : Nat → Int32) (s t g : Nat) : Nat := (A ((s * 6 + t) * 32 + g)).toNatClampNeg
def prA (A : Nat → Int32) (k s g : Nat) : Bool := tb (A (s * 5 + k)) g
/-- the rows of the graph are right -/
def gD (F S : Nat → Int32) (z T : Nat) (mk : Nat → Int32) (J : Nat → Nat → Bool) (A1 A2 A3 : Nat → Int32) : Prop := (∀ s t, s < 6 → t < 6 → J s t = true → ∀ g, g < 2 ^ T → A1 ((s * 6 + t) * 32 + g) = nI (preA A1 s t g) ∧ preA A1 s t g < 2 ^ T) ∧ ∃ Hs, gO F (sec S) z T mk J Hs (preA A1) ∧ (∀ s, s < 6 → ∀ g, g < 2 ^ T → tb (A2 s) g = Hs s g 0) ∧ ∀ s, s < 6 → ∀ g, g < 2 ^ T → ∀ r, r < z → tmd (F r) = true → prA A3 (nuF F z r) s g = pP F (sec S) (Hs s g) (g.testBit (nuF F z r)) r
theorem gD_of {F S N P : Nat → Int32} {z T : Nat} {mk : Nat → Int32} {J : Nat → Nat → Bool} {A1 A2 A3 : Nat → Int32} (hT : T = ddF F z 0) (hC : fC F S N P z) (h : ∀ s, s < 6 → stO F S P z T mk J A1 A2 A3 s 6) : gD F S z T mk J A1 A2 A3 := by
  obtain ⟨c1, c2, c3, c4, c5, c6, c7, c8⟩ := hC
  have p2 := p2_le (T := T) (by omega)
  obtain ⟨As, hA⟩ := Classical.axiomOfChoice (r := fun (s : Nat) (A : Nat → Int32) => s < 6 → hrE F S z (mk s) A 0 ∧ A2 s = A 0 ∧ (∀ r, r < z → tmd (F r) = true → ∀ g, g < 32 → tb (A3 (s * 5 + nuF F z r)) g = pP F (sec S) (fun q => tb (A q) g) (g.testBit (nuF F z r)) r) ∧ ∀ f, f < 6 → J f s = true → ∃ B : Nat → Int32, bfE F S z (mk f) A B 0 ∧ ∀ g, g < 2 ^ T → A1 ((f * 6 + s) * 32 + g) = nI (bN (fun k => tb (B (P k).toNatClampNeg) g) T)) (fun s => by
    by_cases hs : s < 6
    · obtain ⟨A, hA⟩ := h s hs
      exact ⟨A, fun _ => hA⟩
    · exact ⟨fun _ => 0, fun q => absurd q hs⟩)
  have hpre : ∀ s t, s < 6 → t < 6 → J s t = true → ∀ g, g < 2 ^ T → ∃ B : Nat → Int32, bfE F S z (mk s) (As t) B 0 ∧ preA A1 s t g = bN (fun k => tb (B (P k).toNatClampNeg) g) T ∧ A1 ((s * 6 + t) * 32 + g) = nI (preA A1 s t g) := by
    intro s t h1 h2 hJ g hg
    obtain ⟨B, b1, b2⟩ := (hA t h2).2.2.2 s h1 hJ
    have hb := bN_lt (fun k => tb (B (P k).toNatClampNeg) g) T
    have e : preA A1 s t g = bN (fun k => tb (B (P k).toNatClampNeg) g) T := by rw [preA, b2 g hg, nI_clamp (by omega)]
    exact ⟨B, b1, e, by rw [e]; exact b2 g hg⟩
  refine ⟨fun s t h1 h2 hJ g hg => ?_, fun s g r => tb (As s r) g, ⟨fun s hs g hg r hr => ?_, fun s t h1 h2 hJ g hg => ?_⟩, fun s hs g hg => ?_, fun s hs g hg r hr ht => ?_⟩
  · obtain ⟨B, b1, b2, b3⟩ := hpre s t h1 h2 hJ g hg
    exact ⟨b3, by rw [b2]; exact bN_lt _ _⟩
  · exact (hA s hs).1 r (Nat.zero_le _) hr g (by omega)
  · obtain ⟨B, b1, b2, b3⟩ := hpre s t h1 h2 hJ g hg
    refine ⟨by rw [b2]; exact bN_lt _ _, fun r => tb (B r) g, fun r hr => b1 r (Nat.zero_le _) hr g (by omega), fun r hr ht => ?_⟩
    have := nuF_lt hr ht
    rw [b2, bN_bit _ (by omega), (c7 r hr ht).2, nI_clamp (by omega)]
  · rw [(hA s hs).2.1]
  · exact (hA s hs).2.2.1 r hr ht g (by omega)
theorem m_GR_guessBefore {s t g : Nat} (hs : s < 6) (ht : t < 6) (hg : g < 32) (σ : zS) : zM yGR_guessBefore cGR_guessBefore 4 (some .int) 0 0 0 [.ref 28, .int (nI s), .int (nI t), .int (nI g)] σ (fun r σ2 => r = some (.int (σ.1 31 ((s * 6 + t) * 32 + g))) ∧ σ2 = σ) (fun _ _ => False) := by
  refine zM.of [some (.ref 28), some (.int (nI s)), some (.int (nI t)), some (.int (nI g))] (by decide) 0 rfl (fun _ => Nat.le_of_ble_eq_true rfl) (fun Z hR => ?_)
  refine z_aload_n hR dGR_guessBefore_0 (n := 1) rfl rfl ?_
  refine z_getR hR dGR_guessBefore_1 (n := 4) rfl zgGR_32 (by decide) rfl rfl ?_
  refine z_iload_n hR dGR_guessBefore_4 (n := 5) rfl rfl ?_
  refine z_bipush hR dGR_guessBefore_5 (v := nI 6) (n := 7) rfl rfl ?_
  refine z_imulN hR dGR_guessBefore_7 (n := 8) rfl ?_
  refine z_iload_n hR dGR_guessBefore_8 (n := 9) rfl rfl ?_
  refine z_iaddN hR dGR_guessBefore_9 (n := 10) rfl ?_
  refine z_bipush hR dGR_guessBefore_10 (v := nI 32) (n := 12) rfl rfl ?_
  refine z_imulN hR dGR_guessBefore_12 (n := 13) rfl ?_
  refine z_iload_n hR dGR_guessBefore_13 (n := 14) rfl rfl ?_
  refine z_iaddN hR dGR_guessBefore_14 (n := 15) rfl ?_
  refine z_iald hR (_) dGR_guessBefore_15 (n := 16) rfl (by decide) rfl (by decide) rfl (by omega) ?_
  refine z_zret hR dGR_guessBefore_16 rfl rfl (Nat.zero_le _) ?_
  exact ⟨rfl, rfl⟩
theorem m_GR_guessesBefore {T s t : Nat} (hT : T ≤ 5) (hs : s < 6) (ht : t < 6) (x : Int32) (σ : zS) (hg : σ.1 28 2 = nI (2 ^ T)) {p : Nat → Nat} (hp : ∀ g, g < 2 ^ T → σ.1 31 ((s * 6 + t) * 32 + g) = nI (p g) ∧ p g < 32) : zM yGR_guessesBefore cGR_guessesBefore 6 (some .int) 1 30 0 [.ref 28, .int (nI s), .int (nI t), .int x] σ (fun r σ2 => σ2 = σ ∧ ∃ y, r = some (.int y) ∧ ∀ q, q < 32 → (tb y q = true ↔ ∃ g, g < 2 ^ T ∧ tb x g = true ∧ p g = q)) (fun _ _ => False) := by
  refine zM.of [some (.ref 28), some (.int (nI s)), some (.int (nI t)), some (.int x), none, none] (by decide) 2 rfl (fun _ => Nat.le_of_ble_eq_true rfl) (fun Z hR => ?_)
  have p2 := p2_le hT
  have key : ∀ (m i : Nat) (e : Int32), i + m = 2 ^ T → (∀ q, q < 32 → (tb e q = true ↔ ∃ g, g < i ∧ tb x g = true ∧ p g = q)) → Z 0 6 [some (.ref 28), some (.int (nI s)), some (.int (nI t)), some (.int x), some (.int e), some (.int (nI i))] [] σ := by
    intro m
    induction m with
    | zero =>
      intro i e hi he
      obtain rfl : i = 2 ^ T := by omega
      refine z_iload hR dGR_guessesBefore_6 (n := 8) rfl rfl ?_
      refine z_aload_n hR dGR_guessesBefore_8 (n := 9) rfl rfl ?_
      refine z_getI hR dGR_guessesBefore_9 (n := 12) rfl zgGR_45 (by decide) rfl rfl ?_
      rw [hg]
      refine z_icmp_geN hR dGR_guessesBefore_12 (t := 46) (n := 15) rfl rfl (by omega) (by omega) (fun h12 => ?_) (fun h12 => absurd h12 (by omega))
      refine z_iload hR dGR_guessesBefore_46 (n := 48) rfl rfl ?_
      refine z_zret hR dGR_guessesBefore_48 rfl rfl (Nat.zero_le _) ?_
      exact ⟨rfl, _, rfl, he⟩
    | succ m ih =>
      intro i e hi he
      obtain ⟨a1, a2⟩ := hp i (by omega)
      cases eb : tb x i with
      | false =>
        refine z_iload hR dGR_guessesBefore_6 (n := 8) rfl rfl ?_
        refine z_aload_n hR dGR_guessesBefore_8 (n := 9) rfl rfl ?_
        refine z_getI hR dGR_guessesBefore_9 (n := 12) rfl zgGR_45 (by decide) rfl rfl ?_
        rw [hg]
        refine z_icmp_geN hR dGR_guessesBefore_12 (t := 46) (n := 15) rfl rfl (by omega) (by omega) (fun h12 => absurd h12 (by omega)) (fun h12 => ?_)
        refine z_iload_n hR dGR_guessesBefore_15 (n := 16) rfl rfl ?_
        refine z_iload hR dGR_guessesBefore_16 (n := 18) rfl rfl ?_
        refine z_iushr hR dGR_guessesBefore_18 (n := 19) rfl ?_
        refine z_iconst hR dGR_guessesBefore_19 (v := 1) (n := 20) rfl rfl ?_
        refine z_iand hR dGR_guessesBefore_20 (n := 21) rfl ?_
        rw [tb_us1 _ (by omega : i < 32), eb]
        refine z_iconst hR dGR_guessesBefore_21 (v := 1) (n := 22) rfl rfl ?_
        refine z_icmp_ne hR dGR_guessesBefore_22 (t := 40) (n := 25) rfl rfl (fun _ => ?_) (fun h22 => absurd h22 (by decide))
        refine z_iincN hR 1 dGR_guessesBefore_40 (n := 43) rfl rfl (by decide) rfl rfl ?_
        refine z_goto hR dGR_guessesBefore_43 (t := 6) rfl ?_
        refine ih (i + 1) _ (by omega) (fun q hq => ?_)
        rw [he q hq]
        constructor
        · rintro ⟨g, b1, b2⟩
          exact ⟨g, by omega, b2⟩
        · rintro ⟨g, b1, b2, b3⟩
          by_cases e2 : g = i
          · subst e2
            rw [eb] at b2
            exact absurd b2 (by decide)
          · exact ⟨g, by omega, b2, b3⟩
      | true =>
        refine z_iload hR dGR_guessesBefore_6 (n := 8) rfl rfl ?_
        refine z_aload_n hR dGR_guessesBefore_8 (n := 9) rfl rfl ?_
        refine z_getI hR dGR_guessesBefore_9 (n := 12) rfl zgGR_45 (by decide) rfl rfl ?_
        rw [hg]
        refine z_icmp_geN hR dGR_guessesBefore_12 (t := 46) (n := 15) rfl rfl (by omega) (by omega) (fun h12 => absurd h12 (by omega)) (fun h12 => ?_)
        refine z_iload_n hR dGR_guessesBefore_15 (n := 16) rfl rfl ?_
        refine z_iload hR dGR_guessesBefore_16 (n := 18) rfl rfl ?_
        refine z_iushr hR dGR_guessesBefore_18 (n := 19) rfl ?_
        refine z_iconst hR dGR_guessesBefore_19 (v := 1) (n := 20) rfl rfl ?_
        refine z_iand hR dGR_guessesBefore_20 (n := 21) rfl ?_
        rw [tb_us1 _ (by omega : i < 32), eb]
        refine z_iconst hR dGR_guessesBefore_21 (v := 1) (n := 22) rfl rfl ?_
        refine z_icmp_ne hR dGR_guessesBefore_22 (t := 40) (n := 25) rfl rfl (fun h22 => absurd h22 (fun w => w rfl)) (fun _ => ?_)
        refine z_iload hR dGR_guessesBefore_25 (n := 27) rfl rfl ?_
        refine z_iconst hR dGR_guessesBefore_27 (v := 1) (n := 28) rfl rfl ?_
        refine z_aload_n hR dGR_guessesBefore_28 (n := 29) rfl rfl ?_
        refine z_iload_n hR dGR_guessesBefore_29 (n := 30) rfl rfl ?_
        refine z_iload_n hR dGR_guessesBefore_30 (n := 31) rfl rfl ?_
        refine z_iload hR dGR_guessesBefore_31 (n := 33) rfl rfl ?_
        refine z_callV3 hR dGR_guessesBefore_33 (n := 36) rfl zcGR_100 zkGR_guessBefore (by decide) (Nat.le_of_ble_eq_true rfl) (by decide) rfl rfl (Nat.zero_le _) (m_GR_guessBefore hs ht (by omega : i < 32) σ) (fun r33 s33 h33 => ?_)
        obtain ⟨rfl, e33⟩ := h33
        subst s33
        rw [a1]
        refine z_ishl hR dGR_guessesBefore_36 (n := 37) rfl ?_
        refine z_ior hR dGR_guessesBefore_37 (n := 38) rfl ?_
        refine z_istore hR dGR_guessesBefore_38 (n := 40) rfl (by decide) rfl ?_
        refine z_iincN hR 1 dGR_guessesBefore_40 (n := 43) rfl rfl (by decide) rfl rfl ?_
        refine z_goto hR dGR_guessesBefore_43 (t := 6) rfl ?_
        refine ih (i + 1) _ (by omega) (fun q hq => ?_)
        rw [tb_or, tb_shl1 a2 q hq, Bool.or_eq_true, he q hq, decide_eq_true_iff]
        constructor
        · rintro (⟨g, b1, b2⟩ | b)
          · exact ⟨g, by omega, b2⟩
          · exact ⟨i, by omega, eb, b.symm⟩
        · rintro ⟨g, b1, b2, b3⟩
          by_cases e2 : g = i
          · subst e2
            exact Or.inr b3.symm
          · exact Or.inl ⟨g, by omega, b2, b3⟩
  refine z_iconst hR dGR_guessesBefore_0 (v := 0) (n := 1) rfl rfl ?_
  refine z_istore hR dGR_guessesBefore_1 (n := 3) rfl (by decide) rfl ?_
  refine z_iconst hR dGR_guessesBefore_3 (v := nI 0) (n := 4) rfl rfl ?_
  refine z_istore hR dGR_guessesBefore_4 (n := 6) rfl (by decide) rfl ?_
  exact key (2 ^ T) 0 0 (by omega) (fun q hq => ⟨fun h => by rw [tb_0] at h; exact absurd h (by decide), fun ⟨g, h, _⟩ => absurd h (by omega)⟩)
theorem m_GR_guessesAfter {T s t : Nat} (hT : T ≤ 5) (hs : s < 6) (ht : t < 6) (x y : Int32) (σ : zS) (hg : σ.1 28 2 = nI (2 ^ T)) {p : Nat → Nat} (hp : ∀ g, g < 2 ^ T → σ.1 31 ((s * 6 + t) * 32 + g) = nI (p g) ∧ p g < 32) : zM yGR_guessesAfter cGR_guessesAfter 8 (some .int) 1 30 0 [.ref 28, .int (nI s), .int (nI t), .int x, .int y] σ (fun r σ2 => σ2 = σ ∧ ∃ w, r = some (.int w) ∧ ∀ q, q < 32 → (tb w q = true ↔ q < 2 ^ T ∧ tb y q = true ∧ tb x (p q) = true)) (fun _ _ => False) := by
  refine zM.of [some (.ref 28), some (.int (nI s)), some (.int (nI t)), some (.int x), some (.int y), none, none, none] (by decide) 3 rfl (fun _ => Nat.le_of_ble_eq_true rfl) (fun Z hR => ?_)
  have p2 := p2_le hT
  have key : ∀ (m i : Nat) (e : Int32) (l7 : Option Value), i + m = 2 ^ T → (∀ q, q < 32 → (tb e q = true ↔ q < i ∧ tb y q = true ∧ tb x (p q) = true)) → Z 0 6 [some (.ref 28), some (.int (nI s)), some (.int (nI t)), some (.int x), some (.int y), some (.int e), some (.int (nI i)), l7] [] σ := by
    intro m
    induction m with
    | zero =>
      intro i e l7 hi he
      obtain rfl : i = 2 ^ T := by omega
      refine z_iload hR dGR_guessesAfter_6 (n := 8) rfl rfl ?_
      refine z_aload_n hR dGR_guessesAfter_8 (n := 9) rfl rfl ?_
      refine z_getI hR dGR_guessesAfter_9 (n := 12) rfl zgGR_45 (by decide) rfl rfl ?_
      rw [hg]
      refine z_icmp_geN hR dGR_guessesAfter_12 (t := 69) (n := 15) rfl rfl (by omega) (by omega) (fun h12 => ?_) (fun h12 => absurd h12 (by omega))
      refine z_iload hR dGR_guessesAfter_69 (n := 71) rfl rfl ?_
      refine z_zret hR dGR_guessesAfter_71 rfl rfl (Nat.zero_le _) ?_
      exact ⟨rfl, _, rfl, he⟩
    | succ m ih =>
      intro i e l7 hi he
      obtain ⟨a1, a2⟩ := hp i (by omega)
      have no : ¬ (tb y i = true ∧ tb x (p i) = true) → ∀ l7, Z 0 6 [some (.ref 28), some (.int (nI s)), some (.int (nI t)), some (.int x), some (.int y), some (.int e), some (.int (nI (i + 1))), l7] [] σ := by
        intro hn l7
        refine ih (i + 1) _ _ (by omega) (fun q hq => ?_)
        rw [he q hq]
        constructor
        · rintro ⟨b1, b2⟩
          exact ⟨by omega, b2⟩
        · rintro ⟨b1, b2⟩
          by_cases e2 : q = i
          · exact absurd (e2 ▸ b2) hn
          · exact ⟨by omega, b2⟩
      cases eb : tb y i with
      | false =>
        refine z_iload hR dGR_guessesAfter_6 (n := 8) rfl rfl ?_
        refine z_aload_n hR dGR_guessesAfter_8 (n := 9) rfl rfl ?_
        refine z_getI hR dGR_guessesAfter_9 (n := 12) rfl zgGR_45 (by decide) rfl rfl ?_
        rw [hg]
        refine z_icmp_geN hR dGR_guessesAfter_12 (t := 69) (n := 15) rfl rfl (by omega) (by omega) (fun h12 => absurd h12 (by omega)) (fun h12 => ?_)
        refine z_iload hR dGR_guessesAfter_15 (n := 17) rfl rfl ?_
        refine z_iload hR dGR_guessesAfter_17 (n := 19) rfl rfl ?_
        refine z_iushr hR dGR_guessesAfter_19 (n := 20) rfl ?_
        refine z_iconst hR dGR_guessesAfter_20 (v := 1) (n := 21) rfl rfl ?_
        refine z_iand hR dGR_guessesAfter_21 (n := 22) rfl ?_
        rw [tb_us1 _ (by omega : i < 32), eb]
        refine z_iconst hR dGR_guessesAfter_22 (v := 1) (n := 23) rfl rfl ?_
        refine z_icmp_ne hR dGR_guessesAfter_23 (t := 30) (n := 26) rfl rfl (fun _ => ?_) (fun h23 => absurd h23 (by decide))
        refine z_iconst hR dGR_guessesAfter_30 (v := 0) (n := 31) rfl rfl ?_
        refine z_istore hR dGR_guessesAfter_31 (n := 33) rfl (by decide) rfl ?_
        refine z_iload hR dGR_guessesAfter_33 (n := 35) rfl rfl ?_
        refine z_if_eq hR dGR_guessesAfter_35 (t := 63) (n := 38) rfl rfl (fun _ => ?_) (fun h35 => absurd rfl h35)
        refine z_iincN hR 1 dGR_guessesAfter_63 (n := 66) rfl rfl (by decide) rfl rfl ?_
        refine z_goto hR dGR_guessesAfter_66 (t := 6) rfl ?_
        exact no (fun h => by rw [eb] at h; exact absurd h.1 (by decide)) _
      | true =>
        cases ec : tb x (p i) with
        | false =>
          refine z_iload hR dGR_guessesAfter_6 (n := 8) rfl rfl ?_
          refine z_aload_n hR dGR_guessesAfter_8 (n := 9) rfl rfl ?_
          refine z_getI hR dGR_guessesAfter_9 (n := 12) rfl zgGR_45 (by decide) rfl rfl ?_
          rw [hg]
          refine z_icmp_geN hR dGR_guessesAfter_12 (t := 69) (n := 15) rfl rfl (by omega) (by omega) (fun h12 => absurd h12 (by omega)) (fun h12 => ?_)
          refine z_iload hR dGR_guessesAfter_15 (n := 17) rfl rfl ?_
          refine z_iload hR dGR_guessesAfter_17 (n := 19) rfl rfl ?_
          refine z_iushr hR dGR_guessesAfter_19 (n := 20) rfl ?_
          refine z_iconst hR dGR_guessesAfter_20 (v := 1) (n := 21) rfl rfl ?_
          refine z_iand hR dGR_guessesAfter_21 (n := 22) rfl ?_
          rw [tb_us1 _ (by omega : i < 32), eb]
          refine z_iconst hR dGR_guessesAfter_22 (v := 1) (n := 23) rfl rfl ?_
          refine z_icmp_ne hR dGR_guessesAfter_23 (t := 30) (n := 26) rfl rfl (fun h23 => absurd h23 (fun w => w rfl)) (fun _ => ?_)
          refine z_iconst hR dGR_guessesAfter_26 (v := 1) (n := 27) rfl rfl ?_
          refine z_goto hR dGR_guessesAfter_27 (t := 31) rfl ?_
          refine z_istore hR dGR_guessesAfter_31 (n := 33) rfl (by decide) rfl ?_
          refine z_iload hR dGR_guessesAfter_33 (n := 35) rfl rfl ?_
          refine z_if_eq hR dGR_guessesAfter_35 (t := 63) (n := 38) rfl rfl (fun h35 => absurd h35 (by decide)) (fun _ => ?_)
          refine z_iload_n hR dGR_guessesAfter_38 (n := 39) rfl rfl ?_
          refine z_aload_n hR dGR_guessesAfter_39 (n := 40) rfl rfl ?_
          refine z_iload_n hR dGR_guessesAfter_40 (n := 41) rfl rfl ?_
          refine z_iload_n hR dGR_guessesAfter_41 (n := 42) rfl rfl ?_
          refine z_iload hR dGR_guessesAfter_42 (n := 44) rfl rfl ?_
          refine z_callV3 hR dGR_guessesAfter_44 (n := 47) rfl zcGR_100 zkGR_guessBefore (by decide) (Nat.le_of_ble_eq_true rfl) (by decide) rfl rfl (Nat.zero_le _) (m_GR_guessBefore hs ht (by omega : i < 32) σ) (fun r44 s44 h44 => ?_)
          obtain ⟨rfl, e44⟩ := h44
          subst s44
          rw [a1]
          refine z_iushr hR dGR_guessesAfter_47 (n := 48) rfl ?_
          refine z_iconst hR dGR_guessesAfter_48 (v := 1) (n := 49) rfl rfl ?_
          refine z_iand hR dGR_guessesAfter_49 (n := 50) rfl ?_
          rw [tb_us1 _ a2, ec]
          refine z_iconst hR dGR_guessesAfter_50 (v := 1) (n := 51) rfl rfl ?_
          refine z_icmp_ne hR dGR_guessesAfter_51 (t := 63) (n := 54) rfl rfl (fun _ => ?_) (fun h51 => absurd h51 (by decide))
          refine z_iincN hR 1 dGR_guessesAfter_63 (n := 66) rfl rfl (by decide) rfl rfl ?_
          refine z_goto hR dGR_guessesAfter_66 (t := 6) rfl ?_
          exact no (fun h => by rw [ec] at h; exact absurd h.2 (by decide)) _
        | true =>
          refine z_iload hR dGR_guessesAfter_6 (n := 8) rfl rfl ?_
          refine z_aload_n hR dGR_guessesAfter_8 (n := 9) rfl rfl ?_
          refine z_getI hR dGR_guessesAfter_9 (n := 12) rfl zgGR_45 (by decide) rfl rfl ?_
          rw [hg]
          refine z_icmp_geN hR dGR_guessesAfter_12 (t := 69) (n := 15) rfl rfl (by omega) (by omega) (fun h12 => absurd h12 (by omega)) (fun h12 => ?_)
          refine z_iload hR dGR_guessesAfter_15 (n := 17) rfl rfl ?_
          refine z_iload hR dGR_guessesAfter_17 (n := 19) rfl rfl ?_
          refine z_iushr hR dGR_guessesAfter_19 (n := 20) rfl ?_
          refine z_iconst hR dGR_guessesAfter_20 (v := 1) (n := 21) rfl rfl ?_
          refine z_iand hR dGR_guessesAfter_21 (n := 22) rfl ?_
          rw [tb_us1 _ (by omega : i < 32), eb]
          refine z_iconst hR dGR_guessesAfter_22 (v := 1) (n := 23) rfl rfl ?_
          refine z_icmp_ne hR dGR_guessesAfter_23 (t := 30) (n := 26) rfl rfl (fun h23 => absurd h23 (fun w => w rfl)) (fun _ => ?_)
          refine z_iconst hR dGR_guessesAfter_26 (v := 1) (n := 27) rfl rfl ?_
          refine z_goto hR dGR_guessesAfter_27 (t := 31) rfl ?_
          refine z_istore hR dGR_guessesAfter_31 (n := 33) rfl (by decide) rfl ?_
          refine z_iload hR dGR_guessesAfter_33 (n := 35) rfl rfl ?_
          refine z_if_eq hR dGR_guessesAfter_35 (t := 63) (n := 38) rfl rfl (fun h35 => absurd h35 (by decide)) (fun _ => ?_)
          refine z_iload_n hR dGR_guessesAfter_38 (n := 39) rfl rfl ?_
          refine z_aload_n hR dGR_guessesAfter_39 (n := 40) rfl rfl ?_
          refine z_iload_n hR dGR_guessesAfter_40 (n := 41) rfl rfl ?_
          refine z_iload_n hR dGR_guessesAfter_41 (n := 42) rfl rfl ?_
          refine z_iload hR dGR_guessesAfter_42 (n := 44) rfl rfl ?_
          refine z_callV3 hR dGR_guessesAfter_44 (n := 47) rfl zcGR_100 zkGR_guessBefore (by decide) (Nat.le_of_ble_eq_true rfl) (by decide) rfl rfl (Nat.zero_le _) (m_GR_guessBefore hs ht (by omega : i < 32) σ) (fun r44 s44 h44 => ?_)
          obtain ⟨rfl, e44⟩ := h44
          subst s44
          rw [a1]
          refine z_iushr hR dGR_guessesAfter_47 (n := 48) rfl ?_
          refine z_iconst hR dGR_guessesAfter_48 (v := 1) (n := 49) rfl rfl ?_
          refine z_iand hR dGR_guessesAfter_49 (n := 50) rfl ?_
          rw [tb_us1 _ a2, ec]
          refine z_iconst hR dGR_guessesAfter_50 (v := 1) (n := 51) rfl rfl ?_
          refine z_icmp_ne hR dGR_guessesAfter_51 (t := 63) (n := 54) rfl rfl (fun h51 => absurd h51 (fun w => w rfl)) (fun _ => ?_)
          refine z_iload hR dGR_guessesAfter_54 (n := 56) rfl rfl ?_
          refine z_iconst hR dGR_guessesAfter_56 (v := 1) (n := 57) rfl rfl ?_
          refine z_iload hR dGR_guessesAfter_57 (n := 59) rfl rfl ?_
          refine z_ishl hR dGR_guessesAfter_59 (n := 60) rfl ?_
          refine z_ior hR dGR_guessesAfter_60 (n := 61) rfl ?_
          refine z_istore hR dGR_guessesAfter_61 (n := 63) rfl (by decide) rfl ?_
          refine z_iincN hR 1 dGR_guessesAfter_63 (n := 66) rfl rfl (by decide) rfl rfl ?_
          refine z_goto hR dGR_guessesAfter_66 (t := 6) rfl ?_
          refine ih (i + 1) _ _ (by omega) (fun q hq => ?_)
          rw [tb_or, tb_shl1 (by omega : i < 32) q hq, Bool.or_eq_true, he q hq, decide_eq_true_iff]
          constructor
          · rintro (⟨b1, b2⟩ | b)
            · exact ⟨by omega, b2⟩
            · subst b
              exact ⟨by omega, eb, ec⟩
          · rintro ⟨b1, b2⟩
            by_cases e2 : q = i
            · exact Or.inr e2
            · exact Or.inl ⟨by omega, b2⟩
  refine z_iconst hR dGR_guessesAfter_0 (v := 0) (n := 1) rfl rfl ?_
  refine z_istore hR dGR_guessesAfter_1 (n := 3) rfl (by decide) rfl ?_
  refine z_iconst hR dGR_guessesAfter_3 (v := nI 0) (n := 4) rfl rfl ?_
  refine z_istore hR dGR_guessesAfter_4 (n := 6) rfl (by decide) rfl ?_
  exact key (2 ^ T) 0 0 _ (by omega) (fun q hq => ⟨fun h => by rw [tb_0] at h; exact absurd h (by decide), fun ⟨h, _⟩ => absurd h (by omega)⟩)
