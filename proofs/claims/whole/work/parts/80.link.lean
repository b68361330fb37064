/-! The two forms belong together -/
/-- a formula is there, the same in both -/
def iG (σ : zS) (g : Nat → Int32 × Int32 × Int32) (n : Nat) : Prop := n ≤ 32 ∧ 0 < n ∧ tTT g 0 (n - 1) ∧ tcn g n ≤ 5 ∧ fOk σ g n ∧ mOk σ g n ∧ σ.1 45 3 = 1
abbrev iZ (g : Nat → Int32 × Int32 × Int32) (n : Nat) : Nat := (nfx g (n - 1) false).length
theorem lst_slc {f : Nat → Int32} {l : List Int32} (h : lst f l) : slc f 0 l := fun i hi => by rw [Nat.zero_add]; exact h i hi
theorem iG_f {σ : zS} {g : Nat → Int32 × Int32 × Int32} {n : Nat} (h : iG σ g n) : fM σ (iZ g n) (tcn g n) ∧ tmP (σ.1 35) 0 (iZ g n) ∧ nCf (σ.1 35) (σ.1 36) (σ.1 37) (σ.1 39) (σ.1 38) (iZ g n) 0 := by
  obtain ⟨h1, h2, h3, h4, ⟨⟨f1, f2⟩, f3, f4⟩, _, _⟩ := h
  have hs := lst_slc f2
  have hl := (nfx_len n (n - 1) 0 false (by omega) h3 (by omega)).1
  rw [show n - 1 + 1 = n by omega] at hl
  have hT := tm_nfx n (n - 1) 0 0 false (by omega) h3 (by omega) hs
  rw [Nat.zero_add] at hT
  have h0 : 0 < (nfx g (n - 1) false).length := by
    obtain ⟨k, q⟩ := hT
    exact tmF_lt q
  have hd : ddF (σ.1 35) (nfx g (n - 1) false).length 0 = tcn g n := by
    have q := ntm_nfx n (n - 1) 0 false (by omega) h3 (by omega)
    rw [show n - 1 + 1 = n by omega] at q
    rw [ddF_ntm hs, ← q]
    rfl
  have h0t : tcn g 0 = 0 := rfl
  refine ⟨⟨f1, f3, hd.symm, fC_of h0 (by omega) f2 (nfx_FG n (n - 1) 0 false (by omega) h3 (by omega)) (by rw [hd]; exact h4) hT f4⟩, hT, f4⟩
theorem iG_sh {σ : zS} {g : Nat → Int32 × Int32 × Int32} {n : Nat} (h : iG σ g n) : ∀ x, x < n → shp g x := fun x hx => by
  obtain ⟨f, hf⟩ := h.2.2.1
  exact tT_shp hf (Nat.zero_le _) (by omega)
theorem iG_m {σ : zS} {g : Nat → Int32 × Int32 × Int32} {n : Nat} (h : iG σ g n) {L : Nat → Nat → Bool} (hL : ∀ a b, a < 6 → b < 6 → σ.1 58 (6 * a + b) = zb (L a b)) : mF σ g n L := by
  have hs := iG_sh h
  obtain ⟨h1, h2, h3, h4, _, ⟨m1, m2, m3, m4, m5⟩, _⟩ := h
  exact ⟨h1, h2, hs, h4, m1, m3, m2, m4, hL⟩
theorem iG_o {σ : zS} {g : Nat → Int32 × Int32 × Int32} {n : Nat} (h : iG σ g n) : oK (σ.1 35) g n (iZ g n) (oc g n (n - 1) 0 false) ∧ oc g n (n - 1) 0 false (n - 1) 0 false := by
  obtain ⟨h1, h2, h3, h4, ⟨⟨f1, f2⟩, f3, f4⟩, _, _⟩ := h
  exact oK_of h1 h2 h3 (lst_slc f2)
theorem fC_z {F S N P : Nat → Int32} {z : Nat} (h : fC F S N P z) : ∀ r, r < z → tmd (F r) = true → r + 1 < z := fun r hr ht => by
  obtain ⟨c1, c2, c3, c4, c5, _⟩ := h
  rcases tmd_bn ht (c5 r hr).1 (c5 r hr).2 with e | e | e
  · exact (c4 r hr).2 e
  · exact ((c4 r hr).1 (by rw [e]; decide)).1
  · exact ((c4 r hr).1 (by rw [e]; decide)).1
/-- a lasso's value, by both -/
theorem iG_val {σ : zS} {g : Nat → Int32 × Int32 × Int32} {n : Nat} (h : iG σ g n) {k j : Nat} (hj : j < k) {mk : Nat → Int32} {H V : Nat → Nat → Bool} (hH : ∀ r, r < iZ g n → ∀ i, i < k → H r i = ev (σ.1 35 r) (H (r + 1)) (H (sec (σ.1 36) r)) k j (fun s p => lh s (mk p)) i) (hV : ∀ x, x < n → ∀ p, p < k → V x p = hvl g k j mk V x p) : ∀ i, i < k → H 0 i = V (n - 1) i := by
  obtain ⟨f1, f2, f3⟩ := iG_f h
  obtain ⟨o1, o2⟩ := iG_o h
  intro i hi
  rw [ev_lasso h.1 o1 (sK_b f1.2.2.2.2.2.2.1) (fC_z f1.2.2.2) hj (iG_sh h) hH hV (n - 1) 0 false o2 i hi, Bool.xor_false]
/-- what one finds of all paths the other finds too -/
theorem iG_some {σ τ : zS} {g : Nat → Int32 × Int32 × Int32} {n : Nat} (h : iG σ g n) (hmk : τ.1 57 = σ.1 43) (hC : cC σ (iZ g n) (tcn g n)) (hD : mD τ g n (jn σ)) (b : Bool) {q : Nat} (hq : q < 6) : pS σ b q ↔ mS τ (tcn g n) b q := by
  obtain ⟨f1, f2, f3⟩ := iG_f h
  obtain ⟨o1, o2⟩ := iG_o h
  obtain ⟨⟨_, _, ⟨gp, Hs, gO1, gH, gPr⟩, n1, n2⟩, _⟩ := hC
  obtain ⟨d1, d2⟩ := hD
  have hT5 := h.2.2.2.1
  have p2 := p2_le hT5
  have hTd : tcn g n = ddF (σ.1 35) (iZ g n) 0 := f1.2.2.1
  obtain ⟨t1, t2, t3⟩ := tO_of hT5 d1
  rw [hmk] at t1
  have all := fun {G c : Nat} (hG : G < 2 ^ tcn g n) (hc : c < 2 ^ tcn g n) (hR : gR (σ.1 35) (iZ g n) g (oc g n (n - 1) 0 false) G c) => tr_all h.1 hT5 hTd o1 o2 (sK_b f1.2.2.2.2.2.2.1) (fC_z f1.2.2.2) gO1 t1 (pr := prA (σ.1 33)) gPr hq hG hc hR
  constructor
  · rintro ⟨G, a1, a2, a3⟩
    obtain ⟨b1, b2⟩ := (n2 q hq G a1).mp a2
    obtain ⟨c, c1, c2⟩ := gR_1 o1 G
    obtain ⟨e1, e2⟩ := all b1 c1 c2
    refine ⟨c, c1, (d2 q hq c (by omega)).mpr ⟨c1, e2.mp b2⟩, ?_⟩
    rw [← e1, ← gH q hq G b1]
    exact a3
  · rintro ⟨c, a1, a2, a3⟩
    obtain ⟨b1, b2⟩ := (d2 q hq c (by omega)).mp a2
    obtain ⟨G, c1, c2⟩ := gR_2 o1 c
    rw [← hTd] at c1
    obtain ⟨e1, e2⟩ := all c1 a1 c2
    refine ⟨G, by omega, (n2 q hq G (by omega)).mpr ⟨c1, e2.mpr b2⟩, ?_⟩
    rw [gH q hq G c1, e1]
    exact a3
/-- a breaking lasso shows in the answers about all paths -/
theorem iG_wit {σ τ : zS} {g : Nat → Int32 × Int32 × Int32} {n : Nat} (h : iG σ g n) (hmk : τ.1 57 = σ.1 43) (hC : cC σ (iZ g n) (tcn g n)) {s : Nat} (hs : s < 6) (hD : mD τ g n (jn σ)) (hno : ¬ ∃ b, b < 2 ^ tcn g n ∧ lB (τ.2 63) s b ∧ tpA (τ.1 61) s b = false) : ∀ k, 1 ≤ k → k ≤ 6 → nob (cB σ (iZ g n)) s k := by
  intro k k1 k2 r hr j hj hB
  have hn : ¬ pS σ false s := fun q => hno ((iG_some h hmk hC hD false hs).mp q)
  have p2 := p2_le h.2.2.2.1
  obtain ⟨G, hG⟩ := tru_ex hC.1 k2 hj hr.2 hB
  obtain ⟨a1, a2⟩ := hG.1 0 (by omega)
  have a3 := hG.2.2
  rw [hr.1] at a2 a3
  rw [Nat.sub_zero] at a2
  have a4 := (hC.1.2.2.2.1 (k - 1) (by omega) s hs (G 0) (by omega)).mp a2
  exact hn ⟨G 0, by omega, (hC.1.2.2.2.2 s hs (G 0) (by omega)).mpr ⟨a4.1, kN_B a4.2⟩, a3⟩
theorem iG_B {σ : zS} {g : Nat → Int32 × Int32 × Int32} {n : Nat} (h : iG σ g n) : ∀ k r q j, j < k → (∀ i, i < k → r i = q i) → cB σ (iZ g n) k r j → cB σ (iZ g n) k q j := fun k r q j hj he hB => by
  obtain ⟨f1, _, _⟩ := iG_f h
  exact Brk_same f1.2.2.2.1 f1.2.2.2.2.2.2.1 hj he hB
/-- the value of a lasso is a matter of its row -/
abbrev iV (σ : zS) (z : Nat) (k : Nat) (r : Nat → Nat) (j : Nat) : Bool := lsV (σ.1 35) (sec (σ.1 36)) (σ.1 43) r k j z 0 0
theorem iG_ev {σ : zS} {g : Nat → Int32 × Int32 × Int32} {n : Nat} (h : iG σ g n) (hmk : σ.1 57 = σ.1 43) : ∀ k j r V, j < k → k ≤ 6 → (∀ i, i < k → r i < 6) → (∀ x, x < n → ∀ p, p < k → V x p = hvl g k j (fun p => σ.1 57 (r p)) V x p) → V (n - 1) 0 = iV σ (iZ g n) k r j := by
  intro k j r V hj _ _ hV
  obtain ⟨f1, _, _⟩ := iG_f h
  rw [hmk] at hV
  exact (iG_val h hj (lsV_O f1.2.2.2.2.2.2.1 (σ.1 43) r hj) hV 0 (by omega)).symm
theorem iG_vs {σ : zS} {g : Nat → Int32 × Int32 × Int32} {n : Nat} (h : iG σ g n) : ∀ k q r j, j < k → k ≤ 6 → (∀ i, i < k → q i < 6) → (∀ i, i < k → q i = r i) → iV σ (iZ g n) k q j = false → iV σ (iZ g n) k r j = false := by
  intro k q r j hj _ _ he hv
  obtain ⟨f1, _, _⟩ := iG_f h
  rw [← hv]
  exact (lsO_un f1.2.2.2.2.2.2.1 hj he (lsV_O f1.2.2.2.2.2.2.1 (σ.1 43) q hj) (lsV_O f1.2.2.2.2.2.2.1 (σ.1 43) r hj) 0 f1.2.2.2.1 0 (by omega)).symm
/-! The invariant -/
def iT (σ : zS) : Prop := ∃ n : Nat, n ≤ 32 ∧ σ.1 0 1 = nI n ∧ σ.1 45 1 = nI n ∧ ∀ j, j < n → σ.1 1 j = σ.1 46 j ∧ vp_nar .char (σ.1 1 j) = σ.1 1 j
def iS (σ : zS) : Prop := σ.1 57 = σ.1 43 ∧ ∀ a b, a < 6 → b < 6 → σ.1 58 (6 * a + b) = zb (jn σ a b)
def iR (σ : zS) : Prop := ∃ (k : Nat) (st : Nat → Nat), k ≤ 8 ∧ σ.1 8 1 = nI k ∧ σ.1 45 23 = nI k ∧ ∀ p, p < k → σ.1 9 p = nI (st p) ∧ σ.1 59 p = nI (st p) ∧ st p < 6
def iF (σ : zS) : Prop := (σ.1 34 1 = nI 0 ∧ σ.1 45 3 = 0) ∨ ∃ g n, iG σ g n ∧ (σ.1 0 10 = 0 ∨ (σ.1 0 10 = 1 ∧ cC σ (iZ g n) (tcn g n))) ∧ (σ.1 45 25 = 0 ∨ (σ.1 45 25 = 1 ∧ mD σ g n (jn σ))) ∧ mQ (cB σ (iZ g n)) σ
def Inv (σ : zS) : Prop := iT σ ∧ iS σ ∧ iR σ ∧ iF σ
/-- places and fields that a formula rests on -/
def iSame (σ σ2 : zS) : Prop := (∀ o, 34 ≤ o → o ≤ 39 → σ2.1 o = σ.1 o) ∧ (∀ o, 47 ≤ o → o ≤ 50 → σ2.1 o = σ.1 o) ∧ σ2.1 56 = σ.1 56 ∧ σ2.1 45 3 = σ.1 45 3 ∧ σ2.1 45 4 = σ.1 45 4 ∧ σ2.1 45 9 = σ.1 45 9 ∧ σ2.1 45 19 = σ.1 45 19
theorem iG_fr {σ σ2 : zS} {g : Nat → Int32 × Int32 × Int32} {n : Nat} (hs : iSame σ σ2) (h : iG σ g n) : iG σ2 g n := by
  obtain ⟨s1, s2, s3, s4, s5, s6, s7⟩ := hs
  obtain ⟨h1, h2, h3, h4, h5, h6, h7⟩ := h
  refine ⟨h1, h2, h3, h4, ?_, ?_, s4.trans h7⟩
  · unfold fOk nO at *
    rw [s1 34 (by decide) (by decide), s1 35 (by decide) (by decide), s1 36 (by decide) (by decide), s1 37 (by decide) (by decide), s1 38 (by decide) (by decide), s1 39 (by decide) (by decide)]
    exact h5
  · unfold mOk mO at *
    rw [s2 47 (by decide) (by decide), s2 48 (by decide) (by decide), s2 49 (by decide) (by decide), s2 50 (by decide) (by decide), s3, s5, s6, s7]
    exact h6
/-- the class's rows are the same -/
theorem cC_lo {σ σ2 : zS} {z T : Nat} (h : ∀ o, 11 ≤ o → o < 45 → σ2.1 o = σ.1 o) (hc : cC σ z T) : cC σ2 z T := by
  have hj : jn σ2 = jn σ := by
    funext a b
    rw [jn, jn, h 44 (by decide) (by decide)]
  unfold cC sD fM nD cE cG seR cB at *
  rw [hj, h 11 (by decide) (by decide), h 13 (by decide) (by decide), h 14 (by decide) (by decide), h 17 (by decide) (by decide), h 18 (by decide) (by decide), h 28 (by decide) (by decide), h 31 (by decide) (by decide), h 32 (by decide) (by decide), h 33 (by decide) (by decide), h 34 (by decide) (by decide), h 35 (by decide) (by decide), h 36 (by decide) (by decide), h 38 (by decide) (by decide), h 39 (by decide) (by decide), h 43 (by decide) (by decide)]
  exact hc
theorem mD_hi {σ σ2 : zS} {g : Nat → Int32 × Int32 × Int32} {n : Nat} {L : Nat → Nat → Bool} (h : ∀ o, o = 57 ∨ o = 60 ∨ o = 61 → σ2.1 o = σ.1 o) (h2 : ∀ o, o = 63 ∨ o = 67 → σ2.2 o = σ.2 o) (hd : mD σ g n L) : mD σ2 g n L := by
  unfold mD at *
  rw [h 57 (by decide), h 60 (by decide), h 61 (by decide), h2 63 (by decide), h2 67 (by decide)]
  exact hd
theorem mQ_fr {B : Nat → (Nat → Nat) → Nat → Prop} {σ σ2 : zS} (h : ∀ o, 70 ≤ o → o ≤ 72 → σ2.1 o = σ.1 o) (hq : mQ B σ) : mQ B σ2 := by
  unfold mQ at *
  rw [h 70 (by decide) (by decide), h 71 (by decide) (by decide), h 72 (by decide) (by decide)]
  exact hq
/-- nothing of what the answers rest on has changed -/
theorem iF_keep {σ σ2 : zS} (hs : iSame σ σ2) (h1 : ∀ o, 11 ≤ o → o < 45 → σ2.1 o = σ.1 o) (h2 : ∀ o, o = 57 ∨ o = 60 ∨ o = 61 → σ2.1 o = σ.1 o) (h3 : ∀ o, o = 63 ∨ o = 67 → σ2.2 o = σ.2 o) (h4 : ∀ o, 70 ≤ o → o ≤ 72 → σ2.1 o = σ.1 o) (h5 : σ2.1 0 10 = σ.1 0 10) (h6 : σ2.1 45 25 = σ.1 45 25) (h : iF σ) : iF σ2 := by
  rcases h with ⟨a1, a2⟩ | ⟨g, n, a1, a2, a3, a4⟩
  · exact Or.inl ⟨by rw [hs.1 34 (by decide) (by decide)]; exact a1, by rw [hs.2.2.2.1]; exact a2⟩
  · refine Or.inr ⟨g, n, iG_fr hs a1, ?_, ?_, ?_⟩
    · rw [h5]
      rcases a2 with a2 | ⟨a2, a5⟩
      · exact Or.inl a2
      · exact Or.inr ⟨a2, cC_lo h1 a5⟩
    · rw [h6]
      have hj : jn σ2 = jn σ := by
        funext a b
        rw [jn, jn, h1 44 (by decide) (by decide)]
      rw [hj]
      rcases a3 with a3 | ⟨a3, a5⟩
      · exact Or.inl a3
      · exact Or.inr ⟨a3, mD_hi h2 h3 a5⟩
    · have hB : cB σ2 (iZ g n) = cB σ (iZ g n) := by
        unfold cB
        have hj : jn σ2 = jn σ := by
          funext a b
          rw [jn, jn, h1 44 (by decide) (by decide)]
        rw [hj, h1 35 (by decide) (by decide), h1 36 (by decide) (by decide), h1 43 (by decide) (by decide)]
      rw [hB]
      exact mQ_fr h4 a4
/-- all that was kept is forgotten -/
theorem iF_new {σ σ2 : zS} (hs : iSame σ σ2) (h5 : σ2.1 0 10 = 0) (h6 : σ2.1 45 25 = 0) (h7 : ∀ s, s < 6 → σ2.1 70 s = 0) (h : iF σ) : iF σ2 := by
  rcases h with ⟨a1, a2⟩ | ⟨g, n, a1, a2, a3, a4⟩
  · exact Or.inl ⟨by rw [hs.1 34 (by decide) (by decide)]; exact a1, by rw [hs.2.2.2.1]; exact a2⟩
  · exact Or.inr ⟨g, n, iG_fr hs a1, Or.inl h5, Or.inl h6, fun s hs => Or.inl (h7 s hs)⟩
theorem Inv_0 : Inv zs0 := ⟨⟨0, by omega, rfl, rfl, fun j hj => absurd hj (by omega)⟩, ⟨rfl, fun a b _ _ => by
  show (0 : Int32) = zb (tb 0 b)
  rw [tb_0]
  rfl⟩, ⟨0, fun _ => 0, by omega, rfl, rfl, fun p hp => absurd hp (by omega)⟩, Or.inl ⟨rfl, rfl⟩⟩
/-- the text is read alike -/
theorem aGo_same {T U : Nat → Int32} : ∀ {m i : Nat} (s : aS), (∀ j, i ≤ j → j < i + m → T j = U j) → aGo T m i s = aGo U m i s
  | 0, _, _, _ => rfl
  | m + 1, i, s, h => by
    rw [aGo, aGo, h i (Nat.le_refl _) (by omega)]
    cases aStep s (U i) with
    | none => rfl
    | some s2 => exact aGo_same s2 (fun j h1 h2 => h j (by omega) (by omega))
theorem aRd_same {T U : Nat → Int32} {n : Nat} {nd : nL3} (h : ∀ j, j < n → T j = U j) : aRd T n nd ↔ aRd U n nd := by
  unfold aRd
  rw [aGo_same _ (fun j _ hj => h j (by omega))]
