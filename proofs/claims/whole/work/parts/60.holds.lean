/-! The reference's lassos -/
/-- the shape of a node -/
def shp (g : Nat → Int32 × Int32 × Int32) (x : Nat) : Prop := (atm (g x).1 = true ∧ (g x).2.1 = -1 ∧ (g x).2.2 = -1) ∨ (rk (g x).1 = 5 ∧ 0 < x ∧ (g x).2.1 = nI (x - 1) ∧ (g x).2.2 = -1) ∨ (1 ≤ rk (g x).1 ∧ rk (g x).1 ≤ 4 ∧ ∃ m, m + 1 < x ∧ (g x).2.1 = nI m ∧ (g x).2.2 = nI (x - 1))
theorem tT_shp {g : Nat → Int32 × Int32 × Int32} : ∀ {f a x y : Nat}, tT g f a x → a ≤ y → y ≤ x → shp g y
  | 0, _, _, _, h, _, _ => absurd h (by simp [tT])
  | f + 1, a, x, y, h, h1, h2 => by
    rcases h with ⟨g1, g2, g3, g4⟩ | ⟨g1, g2, g3, g4, g5⟩ | ⟨g1, g2, m, g3, g4, g5, g6, g7, g8⟩
    · obtain rfl : y = x := by omega
      exact Or.inl ⟨g1, g3, g4⟩
    · by_cases e : y = x
      · subst e
        exact Or.inr (Or.inl ⟨g1, by omega, g3, g4⟩)
      · exact tT_shp g5 h1 (by omega)
    · by_cases e : y = x
      · subst e
        exact Or.inr (Or.inr ⟨g1, g2, m, g4, g5, g6⟩)
      · by_cases h3 : y ≤ m
        · exact tT_shp g7 h1 h3
        · exact tT_shp g8 (by omega) (by omega)
def upv (c : Int32) (a b y x : Bool) : Bool := if tmd c then (if c = 88 then x else if c = 85 ∨ c = 70 then b || (a && y) else b && (a || y)) else if c = 33 then !b else if c = 38 then a && b else if c = 124 then a || b else !a || b
def cf (f : Nat → Bool → Bool) (c : Bool) : Nat → Nat → Bool
  | 0, _ => c
  | d + 1, q => f q (cf f c d (q + 1))
def nA (g : Nat → Int32 × Int32 × Int32) (V : Nat → Nat → Bool) (x q : Nat) : Bool := if (g x).2.2 = -1 then decide ((g x).1 = 70) else V (g x).2.1.toNatClampNeg q
def nB (g : Nat → Int32 × Int32 × Int32) (V : Nat → Nat → Bool) (x q : Nat) : Bool := if (g x).2.2 = -1 then V (g x).2.1.toNatClampNeg q else V (g x).2.2.toNatClampNeg q
def nfn (g : Nat → Int32 × Int32 × Int32) (k j : Nat) (V : Nat → Nat → Bool) (x q : Nat) (y : Bool) : Bool := upv (g x).1 (nA g V x q) (nB g V x q) y (V (g x).2.1.toNatClampNeg (nx k j q))
def rel (c : Int32) : Bool := decide (c = 82 ∨ c = 71)
/-- what the reference finds at a node and a place -/
def hvl (g : Nat → Int32 × Int32 × Int32) (k j : Nat) (mk : Nat → Int32) (V : Nat → Nat → Bool) (x p : Nat) : Bool := if atm (g x).1 = true then la (g x).1 (mk p) else cf (nfn g k j V x) (cf (nfn g k j V x) (rel (g x).1) (k - j) j) (k - p) p
theorem cf_same {f f2 : Nat → Bool → Bool} (h : ∀ q y, f q y = f2 q y) (c : Bool) : ∀ d q, cf f c d q = cf f2 c d q
  | 0, _ => rfl
  | d + 1, q => by rw [cf, cf, cf_same h c d, h]
theorem hvl_same {g : Nat → Int32 × Int32 × Int32} {k j : Nat} {mk : Nat → Int32} {V V2 : Nat → Nat → Bool} {x : Nat} (h : ∀ y, y < x → ∀ q, V2 y q = V y q) (hs : shp g x) (hx : x < 2 ^ 31) (p : Nat) : hvl g k j mk V x p = hvl g k j mk V2 x p := by
  by_cases ha : atm (g x).1 = true
  · rw [hvl, hvl, if_pos ha, if_pos ha]
  · have hn : ∀ q y, nfn g k j V x q y = nfn g k j V2 x q y := by
      intro q y
      rcases hs with ⟨q1, _⟩ | ⟨_, q1, q2, q3⟩ | ⟨_, _, m, q1, q2, q3⟩
      · exact absurd q1 ha
      · rw [nfn, nfn, nA, nA, nB, nB, if_pos q3, if_pos q3, if_pos q3, if_pos q3, q2, nI_clamp (by omega), h _ (by omega), h _ (by omega)]
      · rw [nfn, nfn, nA, nA, nB, nB, if_neg (by rw [q3]; exact nI_m1 (by omega)), if_neg (by rw [q3]; exact nI_m1 (by omega)), if_neg (by rw [q3]; exact nI_m1 (by omega)), if_neg (by rw [q3]; exact nI_m1 (by omega)), q2, q3, nI_clamp (by omega), nI_clamp (by omega), h _ (by omega), h _ (by omega), h _ (by omega)]
    rw [hvl, hvl, if_neg ha, if_neg ha, cf_same hn, cf_same hn]
theorem m_MO_decider {g : Nat → Int32 × Int32 × Int32} {n x : Nat} (hn : n ≤ 32) (hx : x < n) (hs : shp g x) (σ : zS) (ha : ∀ i, i < n → σ.1 47 i = (g i).1 ∧ σ.1 48 i = (g i).2.1 ∧ σ.1 49 i = (g i).2.2) : zM yMO_decider cMO_decider 2 (some .int) 0 0 0 [.ref 45, .int (nI x)] σ (fun r σ2 => r = some (.int (if (g x).2.2 = -1 then (g x).2.1 else (g x).2.2)) ∧ σ2 = σ) (fun _ _ => False) := by
  refine zM.of [some (.ref 45), some (.int (nI x))] (by decide) 0 rfl (fun _ => Nat.le_of_ble_eq_true rfl) (fun Z hR => ?_)
  obtain ⟨a1, a2, a3⟩ := ha x hx
  by_cases h : (g x).2.2 = -1
  ·
    refine z_aload_n hR dMO_decider_0 (n := 1) rfl rfl ?_
    refine z_getR hR dMO_decider_1 (n := 4) rfl zgMO_19 (by decide) rfl rfl ?_
    refine z_iload_n hR dMO_decider_4 (n := 5) rfl rfl ?_
    refine z_iald hR (_) dMO_decider_5 (n := 6) rfl (by decide) rfl (by decide) rfl (by omega) ?_
    rw [a3, h]
    refine z_if_ge hR dMO_decider_6 (t := 18) (n := 9) rfl rfl (fun h6 => absurd h6 (by decide)) (fun _ => ?_)
    refine z_aload_n hR dMO_decider_9 (n := 10) rfl rfl ?_
    refine z_getR hR dMO_decider_10 (n := 13) rfl zgMO_16 (by decide) rfl rfl ?_
    refine z_iload_n hR dMO_decider_13 (n := 14) rfl rfl ?_
    refine z_iald hR (_) dMO_decider_14 (n := 15) rfl (by decide) rfl (by decide) rfl (by omega) ?_
    rw [a2]
    refine z_goto hR dMO_decider_15 (t := 24) rfl ?_
    refine z_zret hR dMO_decider_24 rfl rfl (Nat.zero_le _) ?_
    exact ⟨by rw [if_pos h], rfl⟩
  ·
    have h2 : 0 ≤ (g x).2.2 := by
      rcases hs with ⟨_, _, q⟩ | ⟨_, _, _, q⟩ | ⟨_, _, m, _, _, q⟩
      · exact absurd q h
      · exact absurd q h
      · rw [q]
        exact nI_pos' (by omega)
    refine z_aload_n hR dMO_decider_0 (n := 1) rfl rfl ?_
    refine z_getR hR dMO_decider_1 (n := 4) rfl zgMO_19 (by decide) rfl rfl ?_
    refine z_iload_n hR dMO_decider_4 (n := 5) rfl rfl ?_
    refine z_iald hR (_) dMO_decider_5 (n := 6) rfl (by decide) rfl (by decide) rfl (by omega) ?_
    rw [a3]
    refine z_if_ge hR dMO_decider_6 (t := 18) (n := 9) rfl rfl (fun _ => ?_) (fun h6 => absurd h2 h6)
    refine z_aload_n hR dMO_decider_18 (n := 19) rfl rfl ?_
    refine z_getR hR dMO_decider_19 (n := 22) rfl zgMO_19 (by decide) rfl rfl ?_
    refine z_iload_n hR dMO_decider_22 (n := 23) rfl rfl ?_
    refine z_iald hR (_) dMO_decider_23 (n := 24) rfl (by decide) rfl (by decide) rfl (by omega) ?_
    rw [a3]
    refine z_zret hR dMO_decider_24 rfl rfl (Nat.zero_le _) ?_
    exact ⟨by rw [if_neg h], rfl⟩
/-- the lasso of the reference -/
def mLs (σ : zS) (k j : Nat) (st : Nat → Nat) : Prop := σ.1 45 34 = nI k ∧ σ.1 45 35 = nI j ∧ ∀ p, p < k → σ.1 68 p = nI (st p) ∧ st p < 6
theorem ini_at {c : Int32} (h : atm c = true) : c ≠ 82 ∧ c ≠ 71 := by
  have q : ∀ c ∈ ([48, 49, 112, 113, 114, 115] : List Int32), c ≠ 82 ∧ c ≠ 71 := by decide
  exact q c (atm_in h)
theorem ini_rk {c : Int32} (h : 1 ≤ rk c) : c ≠ 49 ∧ ¬ (112 ≤ c ∧ c ≤ 115) ∧ atm c = false := by
  have q : ∀ c ∈ ([33, 70, 71, 88, 82, 85, 38, 124, 62] : List Int32), c ≠ 49 ∧ ¬ (112 ≤ c ∧ c ≤ 115) ∧ atm c = false := by decide
  exact q c (rk_in h)
set_option maxRecDepth 10000 in
theorem m_MO_holds {g : Nat → Int32 × Int32 × Int32} {n k j i : Nat} (hn : n ≤ 32) (hn0 : 0 < n) (hk : k ≤ 8) (hj : j < k) (hi : i < k) (hsh : ∀ x, x < n → shp g x) (σ : zS) (hN : σ.1 45 4 = nI n) (ha : ∀ i, i < n → σ.1 47 i = (g i).1 ∧ σ.1 48 i = (g i).2.1 ∧ σ.1 49 i = (g i).2.2) {st : Nat → Nat} (hL : mLs σ k j st) : zM yMO_holds cMO_holds 11 (some .boolean) 1 40 0 [.ref 45, .int (nI i)] σ (fun r σ2 => zfr [69] σ σ2 ∧ ∃ V : Nat → Nat → Bool, r = some (.int (zb (V (n - 1) i))) ∧ ∀ x, x < n → ∀ p, p < k → V x p = hvl g k j (fun p => σ.1 57 (st p)) V x p) (fun _ _ => False) := by
  refine zM.of [some (.ref 45), some (.int (nI i)), none, none, none, none, none, none, none, none, none] (by decide) 9 rfl (fun _ => Nat.le_of_ble_eq_true rfl) (fun Z hR => ?_)
  obtain ⟨L1, L2, L3⟩ := hL
  have key : ∀ (m x : Nat) (V : Nat → Nat → Bool) (τ : zS) (l3 l4 l5 l6 l7 l8 l9 l10 : Option Value), x + m = n → zfr [69] σ τ → (∀ y, y < x → ∀ p, p < k → τ.1 69 (8 * y + p) = zb (V y p)) → (∀ y, y < x → ∀ p, p < k → V y p = hvl g k j (fun p => σ.1 57 (st p)) V y p) → Z 0 2 [some (.ref 45), some (.int (nI i)), some (.int (nI x)), l3, l4, l5, l6, l7, l8, l9, l10] [] τ := by
    intro m
    induction m with
    | zero =>
      intro x V τ l3 l4 l5 l6 l7 l8 l9 l10 hx hf hV hE
      obtain rfl : x = n := by omega
      refine z_iload_n hR dMO_holds_2 (n := 3) rfl rfl ?_
      refine z_aload_n hR dMO_holds_3 (n := 4) rfl rfl ?_
      refine z_getI hR dMO_holds_4 (n := 7) rfl zgMO_145 (by decide) rfl rfl ?_
      rw [hf.1 45 (by decide), hN]
      refine z_icmp_geN hR dMO_holds_7 (t := 439) (n := 10) rfl rfl (by omega) (by omega) (fun h7 => ?_) (fun h7 => absurd h7 (by omega))
      refine z_aload_n hR dMO_holds_439 (n := 440) rfl rfl ?_
      refine z_getR hR dMO_holds_440 (n := 443) rfl zgMO_81 (by decide) rfl rfl ?_
      refine z_bipush hR dMO_holds_443 (v := nI 8) (n := 445) rfl rfl ?_
      refine z_aload_n hR dMO_holds_445 (n := 446) rfl rfl ?_
      refine z_getI hR dMO_holds_446 (n := 449) rfl zgMO_145 (by decide) rfl rfl ?_
      rw [hf.1 45 (by decide), hN]
      refine z_iconst hR dMO_holds_449 (v := nI 1) (n := 450) rfl rfl ?_
      refine z_isubN hR dMO_holds_450 (n := 451) rfl (by omega) ?_
      refine z_imulN hR dMO_holds_451 (n := 452) rfl ?_
      refine z_iload_n hR dMO_holds_452 (n := 453) rfl rfl ?_
      refine z_iaddN hR dMO_holds_453 (n := 454) rfl ?_
      refine z_zald hR (_) dMO_holds_454 (n := 455) rfl (by decide) rfl (by decide) rfl (by omega) ?_
      rw [hV (x - 1) (by omega) i hi]
      refine z_zret hR dMO_holds_455 rfl (zb_nar _) (Nat.zero_le _) ?_
      exact ⟨hf, V, rfl, hE⟩
    | succ m ih =>
      intro x V τ l3 l4 l5 l6 l7 l8 l9 l10 hx hf hV hE
      have hxn : x < n := by omega
      obtain ⟨a1, a2, a3⟩ := ha x hxn
      have hshx := hsh x hxn
      generalize hc : (g x).1 = c at a1
      have hfa : ∀ τ2 : zS, zfr [69] σ τ2 → ∀ i, i < n → τ2.1 47 i = (g i).1 ∧ τ2.1 48 i = (g i).2.1 ∧ τ2.1 49 i = (g i).2.2 := fun τ2 h i hi => by
        rw [h.1 47 (by decide), h.1 48 (by decide), h.1 49 (by decide)]
        exact ha i hi
      -- the node is done
      have done : ∀ (R : Nat → Bool) (τ2 : zS) (l3 l4 l5 l6 l7 l8 l9 l10 : Option Value), zfr [69] σ τ2 → (∀ y, y < x → ∀ p, p < k → τ2.1 69 (8 * y + p) = zb (V y p)) → (∀ p, p < k → τ2.1 69 (8 * x + p) = zb (R p)) → (∀ p, p < k → R p = hvl g k j (fun p => σ.1 57 (st p)) V x p) → Z 0 433 [some (.ref 45), some (.int (nI i)), some (.int (nI x)), l3, l4, l5, l6, l7, l8, l9, l10] [] τ2 := by
        intro R τ2 l3 l4 l5 l6 l7 l8 l9 l10 hf2 hV2 hR2 hE2
        refine z_iincN hR 1 dMO_holds_433 (n := 436) rfl rfl (by decide) rfl rfl ?_
        refine z_goto hR dMO_holds_436 (t := 2) rfl ?_
        refine ih (x + 1) (fun y p => if y = x then R p else V y p) τ2 _ _ _ _ _ _ _ _ (by omega) hf2 (fun y hy p hp => ?_) (fun y hy p hp => ?_)
        · by_cases e : y = x
          · subst e
            simp only [if_true]
            exact hR2 p hp
          · simp only [if_neg e]
            exact hV2 y (by omega) p hp
        · by_cases e : y = x
          · subst e
            simp only [if_true]
            rw [hE2 p hp]
            exact hvl_same (fun z hz q => by simp only [if_neg (show z ≠ y by omega)]) (hsh y hxn) (by omega) p
          · simp only [if_neg e]
            rw [hE y (by omega) p hp]
            exact hvl_same (fun z hz q => by simp only [if_neg (show z ≠ x by omega)]) (hsh y (by omega)) (by omega) p
      -- the two passes
      have passes : 1 ≤ rk c → ∀ (u t : Nat) (W : Nat → Bool) (τ2 : zS) (l5 l6 l7 l8 l9 l10 : Option Value), t + u = 2 → zfr [69] σ τ2 → (∀ y, y < x → ∀ p, p < k → τ2.1 69 (8 * y + p) = zb (V y p)) → (∀ q, q < k → τ2.1 69 (8 * x + q) = zb (W q)) → (u = 2 → ∀ q, q < k → W q = rel c) → (u = 1 → ∀ q, q < k → W q = cf (nfn g k j V x) (rel c) (k - q) q) → (u = 0 → ∀ q, q < k → W q = cf (nfn g k j V x) (cf (nfn g k j V x) (rel c) (k - j) j) (k - q) q) → Z 0 108 [some (.ref 45), some (.int (nI i)), some (.int (nI x)), some (.int c), some (.int (nI t)), l5, l6, l7, l8, l9, l10] [] τ2 := by
        intro hrk
        have hat := (ini_rk hrk).2.2
        intro u
        induction u with
        | zero =>
          intro t W τ2 l5 l6 l7 l8 l9 l10 ht hf2 hV2 hW _ _ h0
          refine z_iload hR dMO_holds_108 (n := 110) rfl rfl ?_
          refine z_iconst hR dMO_holds_110 (v := nI 2) (n := 111) rfl rfl ?_
          refine z_icmp_geN hR dMO_holds_111 (t := 433) (n := 114) rfl rfl (by omega) (by omega) (fun h111 => ?_) (fun h111 => absurd h111 (by omega))
          exact done W τ2 _ _ _ _ _ _ _ _ hf2 hV2 hW (fun p hp => by rw [h0 rfl p hp, hvl, hc, hat, if_neg (by decide)])
        | succ u ihu =>
          intro t W τ2 l5 l6 l7 l8 l9 l10 ht hf2 hV2 hW h2 h1 _
          have sweep : ∀ (m2 : Nat) (y5 : Int32) (τ3 : zS) (l6 l7 l8 l9 l10 : Option Value), m2 ≤ k → (m2 = 0 → y5 < 0) → (∀ p, m2 = p + 1 → y5 = nI p) → zfr [69] σ τ3 → (∀ y, y < x → ∀ p, p < k → τ3.1 69 (8 * y + p) = zb (V y p)) → (∀ q, q < k → τ3.1 69 (8 * x + q) = zb (if m2 ≤ q then cf (nfn g k j V x) (W j) (k - q) q else W q)) → Z 0 129 [some (.ref 45), some (.int (nI i)), some (.int (nI x)), some (.int c), some (.int (nI t)), some (.int y5), l6, l7, l8, l9, l10] [] τ3 := by
            intro m2
            induction m2 with
            | zero =>
              intro y5 τ3 l6 l7 l8 l9 l10 hm2 hy0 _ hf3 hV3 hW3
              refine z_iload hR dMO_holds_129 (n := 131) rfl rfl ?_
              refine z_if_lt hR dMO_holds_131 (t := 427) (n := 134) rfl rfl (fun _ => ?_) (fun h131 => absurd (hy0 rfl) h131)
              refine z_iincN hR 1 dMO_holds_427 (n := 430) rfl rfl (by decide) rfl rfl ?_
              refine z_goto hR dMO_holds_430 (t := 108) rfl ?_
              refine ihu (t + 1) (fun q => cf (nfn g k j V x) (W j) (k - q) q) τ3 _ _ _ _ _ _ (by omega) hf3 hV3 (fun q hq => by rw [hW3 q hq, if_pos (Nat.zero_le _)]) (fun e => absurd e (by omega)) (fun e q hq => ?_) (fun e q hq => ?_)
              · rw [h2 (by omega) j hj]
              · rw [h1 (by omega) j hj]
            | succ p ihp =>
              intro y5 τ3 l6 l7 l8 l9 l10 hm2 _ hy1 hf3 hV3 hW3
              obtain rfl := hy1 p rfl
              have hpk : p < k := by omega
              have hnx := nx_lt (p := p) hj
              have hdec : ∀ p2, p = p2 + 1 → nI p + (-1) = nI p2 := fun p2 e => by
                subst e
                exact pk_m1 p2
              have hdz : p = 0 → nI p + (-1) < 0 := fun e => by
                subst e
                decide
              have hlater : τ3.1 69 (8 * x + nx k j p) = zb (cf (nfn g k j V x) (W j) (k - (p + 1)) (p + 1)) := by
                rw [hW3 _ hnx]
                by_cases e : p + 1 < k
                · rw [show nx k j p = p + 1 from if_pos e, if_pos (Nat.le_refl _)]
                · rw [show nx k j p = j from if_neg e, if_neg (by omega), show k - (p + 1) = 0 by omega, cf]
              generalize hyl : cf (nfn g k j V x) (W j) (k - (p + 1)) (p + 1) = yl at hlater
              have put : ∀ (v : Bool) (l6 l7 l8 l9 l10 : Option Value), v = nfn g k j V x p yl → Z 0 420 [some (.ref 45), some (.int (nI i)), some (.int (nI x)), some (.int c), some (.int (nI t)), some (.int (nI p)), l6, l7, l8, l9, l10] [.int (zb v), .int (nI (8 * x + p)), .ref 69] τ3 := by
                intro v l6 l7 l8 l9 l10 hv
                refine z_zast hR (_) dMO_holds_420 (n := 421) rfl (by decide) rfl (by decide) rfl (by omega) ?_
                rw [zb_vn]
                refine z_iinc hR dMO_holds_421 (q32 := (-1)) (n := 424) rfl rfl (by decide) rfl rfl ?_
                refine z_goto hR dMO_holds_424 (t := 129) rfl ?_
                refine ihp _ (zwA τ3 69 (8 * x + p) (zb v)) _ _ _ _ _ (by omega) hdz hdec (hf3.wA _ (by decide)) (fun y hy q hq => ?_) (fun q hq => ?_)
                · rw [zwA_sn _ _ _ _ (by omega)]
                  exact hV3 y hy q hq
                · by_cases e : q = p
                  · subst e
                    rw [zwA_ss, if_pos (Nat.le_refl _), hv, ← hyl, show k - q = (k - (q + 1)) + 1 by omega, cf]
                  · rw [zwA_sn _ _ _ _ (by omega), hW3 q hq]
                    by_cases e2 : p + 1 ≤ q
                    · rw [if_pos e2, if_pos (by omega)]
                    · rw [if_neg e2, if_neg (by omega)]
              -- the place that comes next, what holds there later, what decides
              have mid : ∀ l6 l7 l8 l9 l10 : Option Value, (∀ d : Nat, (if (g x).2.2 = -1 then (g x).2.1 else (g x).2.2) = nI d → d < x → τ3.1 69 (8 * d + p) = zb (nB g V x p) → Z 0 190 [some (.ref 45), some (.int (nI i)), some (.int (nI x)), some (.int c), some (.int (nI t)), some (.int (nI p)), some (.int (nI (nx k j p))), some (.int (zb yl)), some (.int (zb (nB g V x p))), l9, l10] [] τ3) → Z 0 156 [some (.ref 45), some (.int (nI i)), some (.int (nI x)), some (.int c), some (.int (nI t)), some (.int (nI p)), l6, l7, l8, l9, l10] [.int (nI (nx k j p))] τ3 := by
                intro l6 l7 l8 l9 l10 hgo
                obtain ⟨d, hd1, hd2, hd3⟩ : ∃ d : Nat, (if (g x).2.2 = -1 then (g x).2.1 else (g x).2.2) = nI d ∧ d < x ∧ nB g V x p = V d p := by
                  rcases hshx with ⟨q1, _, _⟩ | ⟨_, q1, q2, q3⟩ | ⟨_, _, m3, q1, q2, q3⟩
                  · rw [hc, hat] at q1
                    exact absurd q1 (by decide)
                  · exact ⟨x - 1, by rw [if_pos q3]; exact q2, by omega, by rw [nB, if_pos q3, q2, nI_clamp (by omega)]⟩
                  · exact ⟨x - 1, by rw [if_neg (by rw [q3]; exact nI_m1 (by omega))]; exact q3, by omega, by rw [nB, if_neg (by rw [q3]; exact nI_m1 (by omega)), q3, nI_clamp (by omega)]⟩
                have hdv : τ3.1 69 (8 * d + p) = zb (nB g V x p) := by rw [hd3]; exact hV3 d hd2 p hpk
                refine z_istore hR dMO_holds_156 (n := 158) rfl (by decide) rfl ?_
                refine z_aload_n hR dMO_holds_158 (n := 159) rfl rfl ?_
                refine z_getR hR dMO_holds_159 (n := 162) rfl zgMO_81 (by decide) rfl rfl ?_
                refine z_bipush hR dMO_holds_162 (v := nI 8) (n := 164) rfl rfl ?_
                refine z_iload_n hR dMO_holds_164 (n := 165) rfl rfl ?_
                refine z_imulN hR dMO_holds_165 (n := 166) rfl ?_
                refine z_iload hR dMO_holds_166 (n := 168) rfl rfl ?_
                refine z_iaddN hR dMO_holds_168 (n := 169) rfl ?_
                refine z_zald hR (_) dMO_holds_169 (n := 170) rfl (by decide) rfl (by decide) rfl (by omega) ?_
                rw [hlater]
                refine z_istore hR dMO_holds_170 (n := 172) rfl (by decide) rfl ?_
                refine z_aload_n hR dMO_holds_172 (n := 173) rfl rfl ?_
                refine z_getR hR dMO_holds_173 (n := 176) rfl zgMO_81 (by decide) rfl rfl ?_
                refine z_bipush hR dMO_holds_176 (v := nI 8) (n := 178) rfl rfl ?_
                refine z_aload_n hR dMO_holds_178 (n := 179) rfl rfl ?_
                refine z_iload_n hR dMO_holds_179 (n := 180) rfl rfl ?_
                refine z_callV1 hR dMO_holds_180 (n := 183) rfl zcMO_181 zkMO_decider (by decide) (Nat.le_of_ble_eq_true rfl) (by decide) rfl rfl (Nat.zero_le _) (m_MO_decider hn hxn hshx τ3 (hfa τ3 hf3)) (fun r180 s180 h180 => ?_)
                obtain ⟨rfl, e180⟩ := h180
                subst s180
                rw [hd1]
                refine z_imulN hR dMO_holds_183 (n := 184) rfl ?_
                refine z_iload hR dMO_holds_184 (n := 186) rfl rfl ?_
                refine z_iaddN hR dMO_holds_186 (n := 187) rfl ?_
                refine z_zald hR (_) dMO_holds_187 (n := 188) rfl (by decide) rfl (by decide) rfl (by omega) ?_
                rw [hdv]
                refine z_istore hR dMO_holds_188 (n := 190) rfl (by decide) rfl ?_
                exact hgo d hd1 hd2 hdv
              have start : (∀ l6 l7 l8 l9 l10 : Option Value, Z 0 156 [some (.ref 45), some (.int (nI i)), some (.int (nI x)), some (.int c), some (.int (nI t)), some (.int (nI p)), l6, l7, l8, l9, l10] [.int (nI (nx k j p))] τ3) → Z 0 129 [some (.ref 45), some (.int (nI i)), some (.int (nI x)), some (.int c), some (.int (nI t)), some (.int (nI p)), l6, l7, l8, l9, l10] [] τ3 := by
                intro hgo
                by_cases e : p + 1 < k
                ·
                  rw [show nx k j p = p + 1 from if_pos e] at hgo
                  refine z_iload hR dMO_holds_129 (n := 131) rfl rfl ?_
                  refine z_if_ltN hR dMO_holds_131 (t := 427) (n := 134) rfl rfl (by omega) ?_
                  refine z_iload hR dMO_holds_134 (n := 136) rfl rfl ?_
                  refine z_iconst hR dMO_holds_136 (v := nI 1) (n := 137) rfl rfl ?_
                  refine z_iaddN hR dMO_holds_137 (n := 138) rfl ?_
                  refine z_aload_n hR dMO_holds_138 (n := 139) rfl rfl ?_
                  refine z_getI hR dMO_holds_139 (n := 142) rfl zgMO_208 (by decide) rfl rfl ?_
                  rw [hf3.1 45 (by decide), L1]
                  refine z_icmp_geN hR dMO_holds_142 (t := 152) (n := 145) rfl rfl (by omega) (by omega) (fun h142 => absurd h142 (by omega)) (fun h142 => ?_)
                  refine z_iload hR dMO_holds_145 (n := 147) rfl rfl ?_
                  refine z_iconst hR dMO_holds_147 (v := nI 1) (n := 148) rfl rfl ?_
                  refine z_iaddN hR dMO_holds_148 (n := 149) rfl ?_
                  refine z_goto hR dMO_holds_149 (t := 156) rfl ?_
                  exact hgo _ _ _ _ _
                ·
                  rw [show nx k j p = j from if_neg e] at hgo
                  refine z_iload hR dMO_holds_129 (n := 131) rfl rfl ?_
                  refine z_if_ltN hR dMO_holds_131 (t := 427) (n := 134) rfl rfl (by omega) ?_
                  refine z_iload hR dMO_holds_134 (n := 136) rfl rfl ?_
                  refine z_iconst hR dMO_holds_136 (v := nI 1) (n := 137) rfl rfl ?_
                  refine z_iaddN hR dMO_holds_137 (n := 138) rfl ?_
                  refine z_aload_n hR dMO_holds_138 (n := 139) rfl rfl ?_
                  refine z_getI hR dMO_holds_139 (n := 142) rfl zgMO_208 (by decide) rfl rfl ?_
                  rw [hf3.1 45 (by decide), L1]
                  refine z_icmp_geN hR dMO_holds_142 (t := 152) (n := 145) rfl rfl (by omega) (by omega) (fun h142 => ?_) (fun h142 => absurd h142 (by omega))
                  refine z_aload_n hR dMO_holds_152 (n := 153) rfl rfl ?_
                  refine z_getI hR dMO_holds_153 (n := 156) rfl zgMO_211 (by decide) rfl rfl ?_
                  rw [hf3.1 45 (by decide), L2]
                  exact hgo _ _ _ _ _
              refine start (fun l6 l7 l8 l9 l10 => mid _ _ _ _ _ (fun d hd1 hd2 hd3 => ?_))
              have hfx := hfa τ3 hf3 x hxn
              rcases hshx with ⟨q1, _, _⟩ | ⟨q0, q1, q2, q3⟩ | ⟨q0, q4, m3, q1, q2, q3⟩
              · rw [hc, hat] at q1
                exact absurd q1 (by decide)
              ·
                have hA : nA g V x p = decide (c = 70) := by rw [nA, if_pos q3, hc]
                have hX : V (g x).2.1.toNatClampNeg (nx k j p) = V (x - 1) (nx k j p) := by rw [q2, nI_clamp (by omega)]
                have hXr := hV3 (x - 1) (by omega) _ hnx
                have hfn : nfn g k j V x p yl = upv c (decide (c = 70)) (nB g V x p) yl (V (x - 1) (nx k j p)) := by rw [nfn, hA, hX, hc]
                rw [hfn] at put
                generalize nB g V x p = bv at put hd3 ⊢
                generalize V (x - 1) (nx k j p) = xv at put hXr
                rw [hc] at q0
                clear hlater hyl hfn hA hX hW3 ihp start mid h2 h1 hd1
                rcases (rk5_iff c).mp q0 with hcc | hcc | hcc | hcc <;> subst hcc
                ·
                  refine z_aload_n hR dMO_holds_190 (n := 191) rfl rfl ?_
                  refine z_getR hR dMO_holds_191 (n := 194) rfl zgMO_19 (by decide) rfl rfl ?_
                  refine z_iload_n hR dMO_holds_194 (n := 195) rfl rfl ?_
                  refine z_iald hR (_) dMO_holds_195 (n := 196) rfl (by decide) rfl (by decide) rfl (by omega) ?_
                  rw [hfx.2.2, q3]
                  refine z_if_ge hR dMO_holds_196 (t := 213) (n := 199) rfl rfl (fun h196 => absurd h196 (by decide)) (fun _ => ?_)
                  refine z_iload_n hR dMO_holds_199 (n := 200) rfl rfl ?_
                  refine z_bipush hR dMO_holds_200 (v := 70) (n := 202) rfl rfl ?_
                  refine z_icmp_ne hR dMO_holds_202 (t := 209) (n := 205) rfl rfl (fun _ => ?_) (fun h202 => absurd h202 (by decide))
                  refine z_iconst hR dMO_holds_209 (v := 0) (n := 210) rfl rfl ?_
                  refine z_goto hR dMO_holds_210 (t := 230) rfl ?_
                  refine z_istore hR dMO_holds_230 (n := 232) rfl (by decide) rfl ?_
                  refine z_iload_n hR dMO_holds_232 (n := 233) rfl rfl ?_
                  refine z_bipush hR dMO_holds_233 (v := 88) (n := 235) rfl rfl ?_
                  refine z_icmp_ne hR dMO_holds_235 (t := 258) (n := 238) rfl rfl (fun _ => ?_) (fun h235 => absurd h235 (by decide))
                  refine z_iload_n hR dMO_holds_258 (n := 259) rfl rfl ?_
                  refine z_bipush hR dMO_holds_259 (v := 85) (n := 261) rfl rfl ?_
                  refine z_icmp_eq hR dMO_holds_261 (t := 270) (n := 264) rfl rfl (fun h261 => absurd h261 (by decide)) (fun _ => ?_)
                  refine z_iload_n hR dMO_holds_264 (n := 265) rfl rfl ?_
                  refine z_bipush hR dMO_holds_265 (v := 70) (n := 267) rfl rfl ?_
                  refine z_icmp_ne hR dMO_holds_267 (t := 293) (n := 270) rfl rfl (fun _ => ?_) (fun h267 => absurd h267 (by decide))
                  refine z_iload hR dMO_holds_293 (n := 295) rfl rfl ?_
                  refine z_if_eqB hR dMO_holds_295 (t := 312) (n := 298) rfl rfl (fun h295 => ?_) (fun h295 => ?_)
                  · refine z_iconst hR dMO_holds_312 (v := 0) (n := 313) rfl rfl ?_
                    refine z_istore hR dMO_holds_313 (n := 315) rfl (by decide) rfl ?_
                    refine z_aload_n hR dMO_holds_315 (n := 316) rfl rfl ?_
                    refine z_getR hR dMO_holds_316 (n := 319) rfl zgMO_81 (by decide) rfl rfl ?_
                    refine z_bipush hR dMO_holds_319 (v := nI 8) (n := 321) rfl rfl ?_
                    refine z_iload_n hR dMO_holds_321 (n := 322) rfl rfl ?_
                    refine z_imulN hR dMO_holds_322 (n := 323) rfl ?_
                    refine z_iload hR dMO_holds_323 (n := 325) rfl rfl ?_
                    refine z_iaddN hR dMO_holds_325 (n := 326) rfl ?_
                    refine z_iload_n hR dMO_holds_326 (n := 327) rfl rfl ?_
                    refine z_callS1 hR dMO_holds_327 (n := 330) rfl zcMO_134 zkMO_isTimed (by decide) (Nat.le_of_ble_eq_true rfl) (Nat.zero_le _) (m_MO_isTimed _ _) (fun r327 s327 h327 => ?_)
                    obtain ⟨rfl, e327⟩ := h327
                    subst s327
                    refine z_if_eqB hR dMO_holds_330 (t := 338) (n := 333) rfl rfl (fun h330 => ?_) (fun h330 => absurd h330 (by decide))
                    refine z_iload_n hR dMO_holds_338 (n := 339) rfl rfl ?_
                    refine z_bipush hR dMO_holds_339 (v := 33) (n := 341) rfl rfl ?_
                    refine z_icmp_ne hR dMO_holds_341 (t := 357) (n := 344) rfl rfl (fun h341 => absurd h341 (by decide)) (fun _ => ?_)
                    refine z_iload hR dMO_holds_344 (n := 346) rfl rfl ?_
                    refine z_if_neB hR dMO_holds_346 (t := 353) (n := 349) rfl rfl (fun h346 => ?_) (fun h346 => ?_)
                    · refine z_iconst hR dMO_holds_353 (v := 0) (n := 354) rfl rfl ?_
                      refine z_goto hR dMO_holds_354 (t := 420) rfl ?_
                      first | exact put _ _ _ _ _ _ (show true = _ by cases bv <;> cases yl <;> cases xv <;> first | rfl | contradiction) | exact put _ _ _ _ _ _ (show false = _ by cases bv <;> cases yl <;> cases xv <;> first | rfl | contradiction) | exact put xv _ _ _ _ _ rfl
                    · refine z_iconst hR dMO_holds_349 (v := 1) (n := 350) rfl rfl ?_
                      refine z_goto hR dMO_holds_350 (t := 420) rfl ?_
                      first | exact put _ _ _ _ _ _ (show true = _ by cases bv <;> cases yl <;> cases xv <;> first | rfl | contradiction) | exact put _ _ _ _ _ _ (show false = _ by cases bv <;> cases yl <;> cases xv <;> first | rfl | contradiction) | exact put xv _ _ _ _ _ rfl
                  · refine z_iload hR dMO_holds_298 (n := 300) rfl rfl ?_
                    refine z_if_ne hR dMO_holds_300 (t := 308) (n := 303) rfl rfl (fun h300 => absurd h300 (by decide)) (fun _ => ?_)
                    refine z_iload hR dMO_holds_303 (n := 305) rfl rfl ?_
                    refine z_if_eqB hR dMO_holds_305 (t := 312) (n := 308) rfl rfl (fun h305 => ?_) (fun h305 => ?_)
                    · refine z_iconst hR dMO_holds_312 (v := 0) (n := 313) rfl rfl ?_
                      refine z_istore hR dMO_holds_313 (n := 315) rfl (by decide) rfl ?_
                      refine z_aload_n hR dMO_holds_315 (n := 316) rfl rfl ?_
                      refine z_getR hR dMO_holds_316 (n := 319) rfl zgMO_81 (by decide) rfl rfl ?_
                      refine z_bipush hR dMO_holds_319 (v := nI 8) (n := 321) rfl rfl ?_
                      refine z_iload_n hR dMO_holds_321 (n := 322) rfl rfl ?_
                      refine z_imulN hR dMO_holds_322 (n := 323) rfl ?_
                      refine z_iload hR dMO_holds_323 (n := 325) rfl rfl ?_
                      refine z_iaddN hR dMO_holds_325 (n := 326) rfl ?_
                      refine z_iload_n hR dMO_holds_326 (n := 327) rfl rfl ?_
                      refine z_callS1 hR dMO_holds_327 (n := 330) rfl zcMO_134 zkMO_isTimed (by decide) (Nat.le_of_ble_eq_true rfl) (Nat.zero_le _) (m_MO_isTimed _ _) (fun r327 s327 h327 => ?_)
                      obtain ⟨rfl, e327⟩ := h327
                      subst s327
                      refine z_if_eqB hR dMO_holds_330 (t := 338) (n := 333) rfl rfl (fun h330 => ?_) (fun h330 => absurd h330 (by decide))
                      refine z_iload_n hR dMO_holds_338 (n := 339) rfl rfl ?_
                      refine z_bipush hR dMO_holds_339 (v := 33) (n := 341) rfl rfl ?_
                      refine z_icmp_ne hR dMO_holds_341 (t := 357) (n := 344) rfl rfl (fun h341 => absurd h341 (by decide)) (fun _ => ?_)
                      refine z_iload hR dMO_holds_344 (n := 346) rfl rfl ?_
                      refine z_if_neB hR dMO_holds_346 (t := 353) (n := 349) rfl rfl (fun h346 => ?_) (fun h346 => ?_)
                      · refine z_iconst hR dMO_holds_353 (v := 0) (n := 354) rfl rfl ?_
                        refine z_goto hR dMO_holds_354 (t := 420) rfl ?_
                        first | exact put _ _ _ _ _ _ (show true = _ by cases bv <;> cases yl <;> cases xv <;> first | rfl | contradiction) | exact put _ _ _ _ _ _ (show false = _ by cases bv <;> cases yl <;> cases xv <;> first | rfl | contradiction) | exact put xv _ _ _ _ _ rfl
                      · refine z_iconst hR dMO_holds_349 (v := 1) (n := 350) rfl rfl ?_
                        refine z_goto hR dMO_holds_350 (t := 420) rfl ?_
                        first | exact put _ _ _ _ _ _ (show true = _ by cases bv <;> cases yl <;> cases xv <;> first | rfl | contradiction) | exact put _ _ _ _ _ _ (show false = _ by cases bv <;> cases yl <;> cases xv <;> first | rfl | contradiction) | exact put xv _ _ _ _ _ rfl
                    · refine z_iconst hR dMO_holds_308 (v := 1) (n := 309) rfl rfl ?_
                      refine z_goto hR dMO_holds_309 (t := 313) rfl ?_
                      refine z_istore hR dMO_holds_313 (n := 315) rfl (by decide) rfl ?_
                      refine z_aload_n hR dMO_holds_315 (n := 316) rfl rfl ?_
                      refine z_getR hR dMO_holds_316 (n := 319) rfl zgMO_81 (by decide) rfl rfl ?_
                      refine z_bipush hR dMO_holds_319 (v := nI 8) (n := 321) rfl rfl ?_
                      refine z_iload_n hR dMO_holds_321 (n := 322) rfl rfl ?_
                      refine z_imulN hR dMO_holds_322 (n := 323) rfl ?_
                      refine z_iload hR dMO_holds_323 (n := 325) rfl rfl ?_
                      refine z_iaddN hR dMO_holds_325 (n := 326) rfl ?_
                      refine z_iload_n hR dMO_holds_326 (n := 327) rfl rfl ?_
                      refine z_callS1 hR dMO_holds_327 (n := 330) rfl zcMO_134 zkMO_isTimed (by decide) (Nat.le_of_ble_eq_true rfl) (Nat.zero_le _) (m_MO_isTimed _ _) (fun r327 s327 h327 => ?_)
                      obtain ⟨rfl, e327⟩ := h327
                      subst s327
                      refine z_if_eqB hR dMO_holds_330 (t := 338) (n := 333) rfl rfl (fun h330 => ?_) (fun h330 => absurd h330 (by decide))
                      refine z_iload_n hR dMO_holds_338 (n := 339) rfl rfl ?_
                      refine z_bipush hR dMO_holds_339 (v := 33) (n := 341) rfl rfl ?_
                      refine z_icmp_ne hR dMO_holds_341 (t := 357) (n := 344) rfl rfl (fun h341 => absurd h341 (by decide)) (fun _ => ?_)
                      refine z_iload hR dMO_holds_344 (n := 346) rfl rfl ?_
                      refine z_if_neB hR dMO_holds_346 (t := 353) (n := 349) rfl rfl (fun h346 => ?_) (fun h346 => ?_)
                      · refine z_iconst hR dMO_holds_353 (v := 0) (n := 354) rfl rfl ?_
                        refine z_goto hR dMO_holds_354 (t := 420) rfl ?_
                        first | exact put _ _ _ _ _ _ (show true = _ by cases bv <;> cases yl <;> cases xv <;> first | rfl | contradiction) | exact put _ _ _ _ _ _ (show false = _ by cases bv <;> cases yl <;> cases xv <;> first | rfl | contradiction) | exact put xv _ _ _ _ _ rfl
                      · refine z_iconst hR dMO_holds_349 (v := 1) (n := 350) rfl rfl ?_
                        refine z_goto hR dMO_holds_350 (t := 420) rfl ?_
                        first | exact put _ _ _ _ _ _ (show true = _ by cases bv <;> cases yl <;> cases xv <;> first | rfl | contradiction) | exact put _ _ _ _ _ _ (show false = _ by cases bv <;> cases yl <;> cases xv <;> first | rfl | contradiction) | exact put xv _ _ _ _ _ rfl
                ·
                  refine z_aload_n hR dMO_holds_190 (n := 191) rfl rfl ?_
                  refine z_getR hR dMO_holds_191 (n := 194) rfl zgMO_19 (by decide) rfl rfl ?_
                  refine z_iload_n hR dMO_holds_194 (n := 195) rfl rfl ?_
                  refine z_iald hR (_) dMO_holds_195 (n := 196) rfl (by decide) rfl (by decide) rfl (by omega) ?_
                  rw [hfx.2.2, q3]
                  refine z_if_ge hR dMO_holds_196 (t := 213) (n := 199) rfl rfl (fun h196 => absurd h196 (by decide)) (fun _ => ?_)
                  refine z_iload_n hR dMO_holds_199 (n := 200) rfl rfl ?_
                  refine z_bipush hR dMO_holds_200 (v := 70) (n := 202) rfl rfl ?_
                  refine z_icmp_ne hR dMO_holds_202 (t := 209) (n := 205) rfl rfl (fun _ => ?_) (fun h202 => absurd h202 (by decide))
                  refine z_iconst hR dMO_holds_209 (v := 0) (n := 210) rfl rfl ?_
                  refine z_goto hR dMO_holds_210 (t := 230) rfl ?_
                  refine z_istore hR dMO_holds_230 (n := 232) rfl (by decide) rfl ?_
                  refine z_iload_n hR dMO_holds_232 (n := 233) rfl rfl ?_
                  refine z_bipush hR dMO_holds_233 (v := 88) (n := 235) rfl rfl ?_
                  refine z_icmp_ne hR dMO_holds_235 (t := 258) (n := 238) rfl rfl (fun h235 => absurd h235 (by decide)) (fun _ => ?_)
                  refine z_aload_n hR dMO_holds_238 (n := 239) rfl rfl ?_
                  refine z_getR hR dMO_holds_239 (n := 242) rfl zgMO_81 (by decide) rfl rfl ?_
                  refine z_bipush hR dMO_holds_242 (v := nI 8) (n := 244) rfl rfl ?_
                  refine z_aload_n hR dMO_holds_244 (n := 245) rfl rfl ?_
                  refine z_getR hR dMO_holds_245 (n := 248) rfl zgMO_16 (by decide) rfl rfl ?_
                  refine z_iload_n hR dMO_holds_248 (n := 249) rfl rfl ?_
                  refine z_iald hR (_) dMO_holds_249 (n := 250) rfl (by decide) rfl (by decide) rfl (by omega) ?_
                  rw [hfx.2.1, q2]
                  refine z_imulN hR dMO_holds_250 (n := 251) rfl ?_
                  refine z_iload hR dMO_holds_251 (n := 253) rfl rfl ?_
                  refine z_iaddN hR dMO_holds_253 (n := 254) rfl ?_
                  refine z_zald hR (_) dMO_holds_254 (n := 255) rfl (by decide) rfl (by decide) rfl (by omega) ?_
                  rw [hXr]
                  refine z_goto hR dMO_holds_255 (t := 313) rfl ?_
                  refine z_istore hR dMO_holds_313 (n := 315) rfl (by decide) rfl ?_
                  refine z_aload_n hR dMO_holds_315 (n := 316) rfl rfl ?_
                  refine z_getR hR dMO_holds_316 (n := 319) rfl zgMO_81 (by decide) rfl rfl ?_
                  refine z_bipush hR dMO_holds_319 (v := nI 8) (n := 321) rfl rfl ?_
                  refine z_iload_n hR dMO_holds_321 (n := 322) rfl rfl ?_
                  refine z_imulN hR dMO_holds_322 (n := 323) rfl ?_
                  refine z_iload hR dMO_holds_323 (n := 325) rfl rfl ?_
                  refine z_iaddN hR dMO_holds_325 (n := 326) rfl ?_
                  refine z_iload_n hR dMO_holds_326 (n := 327) rfl rfl ?_
                  refine z_callS1 hR dMO_holds_327 (n := 330) rfl zcMO_134 zkMO_isTimed (by decide) (Nat.le_of_ble_eq_true rfl) (Nat.zero_le _) (m_MO_isTimed _ _) (fun r327 s327 h327 => ?_)
                  obtain ⟨rfl, e327⟩ := h327
                  subst s327
                  refine z_if_eqB hR dMO_holds_330 (t := 338) (n := 333) rfl rfl (fun h330 => absurd h330 (by decide)) (fun h330 => ?_)
                  refine z_iload hR dMO_holds_333 (n := 335) rfl rfl ?_
                  refine z_goto hR dMO_holds_335 (t := 420) rfl ?_
                  first | exact put _ _ _ _ _ _ (show true = _ by cases bv <;> cases yl <;> cases xv <;> first | rfl | contradiction) | exact put _ _ _ _ _ _ (show false = _ by cases bv <;> cases yl <;> cases xv <;> first | rfl | contradiction) | exact put xv _ _ _ _ _ rfl
                ·
                  refine z_aload_n hR dMO_holds_190 (n := 191) rfl rfl ?_
                  refine z_getR hR dMO_holds_191 (n := 194) rfl zgMO_19 (by decide) rfl rfl ?_
                  refine z_iload_n hR dMO_holds_194 (n := 195) rfl rfl ?_
                  refine z_iald hR (_) dMO_holds_195 (n := 196) rfl (by decide) rfl (by decide) rfl (by omega) ?_
                  rw [hfx.2.2, q3]
                  refine z_if_ge hR dMO_holds_196 (t := 213) (n := 199) rfl rfl (fun h196 => absurd h196 (by decide)) (fun _ => ?_)
                  refine z_iload_n hR dMO_holds_199 (n := 200) rfl rfl ?_
                  refine z_bipush hR dMO_holds_200 (v := 70) (n := 202) rfl rfl ?_
                  refine z_icmp_ne hR dMO_holds_202 (t := 209) (n := 205) rfl rfl (fun h202 => absurd h202 (by decide)) (fun _ => ?_)
                  refine z_iconst hR dMO_holds_205 (v := 1) (n := 206) rfl rfl ?_
                  refine z_goto hR dMO_holds_206 (t := 230) rfl ?_
                  refine z_istore hR dMO_holds_230 (n := 232) rfl (by decide) rfl ?_
                  refine z_iload_n hR dMO_holds_232 (n := 233) rfl rfl ?_
                  refine z_bipush hR dMO_holds_233 (v := 88) (n := 235) rfl rfl ?_
                  refine z_icmp_ne hR dMO_holds_235 (t := 258) (n := 238) rfl rfl (fun _ => ?_) (fun h235 => absurd h235 (by decide))
                  refine z_iload_n hR dMO_holds_258 (n := 259) rfl rfl ?_
                  refine z_bipush hR dMO_holds_259 (v := 85) (n := 261) rfl rfl ?_
                  refine z_icmp_eq hR dMO_holds_261 (t := 270) (n := 264) rfl rfl (fun h261 => absurd h261 (by decide)) (fun _ => ?_)
                  refine z_iload_n hR dMO_holds_264 (n := 265) rfl rfl ?_
                  refine z_bipush hR dMO_holds_265 (v := 70) (n := 267) rfl rfl ?_
                  refine z_icmp_ne hR dMO_holds_267 (t := 293) (n := 270) rfl rfl (fun h267 => absurd h267 (by decide)) (fun _ => ?_)
                  refine z_iload hR dMO_holds_270 (n := 272) rfl rfl ?_
                  refine z_if_neB hR dMO_holds_272 (t := 285) (n := 275) rfl rfl (fun h272 => ?_) (fun h272 => ?_)
                  · refine z_iconst hR dMO_holds_285 (v := 1) (n := 286) rfl rfl ?_
                    refine z_goto hR dMO_holds_286 (t := 313) rfl ?_
                    refine z_istore hR dMO_holds_313 (n := 315) rfl (by decide) rfl ?_
                    refine z_aload_n hR dMO_holds_315 (n := 316) rfl rfl ?_
                    refine z_getR hR dMO_holds_316 (n := 319) rfl zgMO_81 (by decide) rfl rfl ?_
                    refine z_bipush hR dMO_holds_319 (v := nI 8) (n := 321) rfl rfl ?_
                    refine z_iload_n hR dMO_holds_321 (n := 322) rfl rfl ?_
                    refine z_imulN hR dMO_holds_322 (n := 323) rfl ?_
                    refine z_iload hR dMO_holds_323 (n := 325) rfl rfl ?_
                    refine z_iaddN hR dMO_holds_325 (n := 326) rfl ?_
                    refine z_iload_n hR dMO_holds_326 (n := 327) rfl rfl ?_
                    refine z_callS1 hR dMO_holds_327 (n := 330) rfl zcMO_134 zkMO_isTimed (by decide) (Nat.le_of_ble_eq_true rfl) (Nat.zero_le _) (m_MO_isTimed _ _) (fun r327 s327 h327 => ?_)
                    obtain ⟨rfl, e327⟩ := h327
                    subst s327
                    refine z_if_eqB hR dMO_holds_330 (t := 338) (n := 333) rfl rfl (fun h330 => absurd h330 (by decide)) (fun h330 => ?_)
                    refine z_iload hR dMO_holds_333 (n := 335) rfl rfl ?_
                    refine z_goto hR dMO_holds_335 (t := 420) rfl ?_
                    first | exact put _ _ _ _ _ _ (show true = _ by cases bv <;> cases yl <;> cases xv <;> first | rfl | contradiction) | exact put _ _ _ _ _ _ (show false = _ by cases bv <;> cases yl <;> cases xv <;> first | rfl | contradiction) | exact put xv _ _ _ _ _ rfl
                  · refine z_iload hR dMO_holds_275 (n := 277) rfl rfl ?_
                    refine z_if_eq hR dMO_holds_277 (t := 289) (n := 280) rfl rfl (fun h277 => absurd h277 (by decide)) (fun _ => ?_)
                    refine z_iload hR dMO_holds_280 (n := 282) rfl rfl ?_
                    refine z_if_eqB hR dMO_holds_282 (t := 289) (n := 285) rfl rfl (fun h282 => ?_) (fun h282 => ?_)
                    · refine z_iconst hR dMO_holds_289 (v := 0) (n := 290) rfl rfl ?_
                      refine z_goto hR dMO_holds_290 (t := 313) rfl ?_
                      refine z_istore hR dMO_holds_313 (n := 315) rfl (by decide) rfl ?_
                      refine z_aload_n hR dMO_holds_315 (n := 316) rfl rfl ?_
                      refine z_getR hR dMO_holds_316 (n := 319) rfl zgMO_81 (by decide) rfl rfl ?_
                      refine z_bipush hR dMO_holds_319 (v := nI 8) (n := 321) rfl rfl ?_
                      refine z_iload_n hR dMO_holds_321 (n := 322) rfl rfl ?_
                      refine z_imulN hR dMO_holds_322 (n := 323) rfl ?_
                      refine z_iload hR dMO_holds_323 (n := 325) rfl rfl ?_
                      refine z_iaddN hR dMO_holds_325 (n := 326) rfl ?_
                      refine z_iload_n hR dMO_holds_326 (n := 327) rfl rfl ?_
                      refine z_callS1 hR dMO_holds_327 (n := 330) rfl zcMO_134 zkMO_isTimed (by decide) (Nat.le_of_ble_eq_true rfl) (Nat.zero_le _) (m_MO_isTimed _ _) (fun r327 s327 h327 => ?_)
                      obtain ⟨rfl, e327⟩ := h327
                      subst s327
                      refine z_if_eqB hR dMO_holds_330 (t := 338) (n := 333) rfl rfl (fun h330 => absurd h330 (by decide)) (fun h330 => ?_)
                      refine z_iload hR dMO_holds_333 (n := 335) rfl rfl ?_
                      refine z_goto hR dMO_holds_335 (t := 420) rfl ?_
                      first | exact put _ _ _ _ _ _ (show true = _ by cases bv <;> cases yl <;> cases xv <;> first | rfl | contradiction) | exact put _ _ _ _ _ _ (show false = _ by cases bv <;> cases yl <;> cases xv <;> first | rfl | contradiction) | exact put xv _ _ _ _ _ rfl
                    · refine z_iconst hR dMO_holds_285 (v := 1) (n := 286) rfl rfl ?_
                      refine z_goto hR dMO_holds_286 (t := 313) rfl ?_
                      refine z_istore hR dMO_holds_313 (n := 315) rfl (by decide) rfl ?_
                      refine z_aload_n hR dMO_holds_315 (n := 316) rfl rfl ?_
                      refine z_getR hR dMO_holds_316 (n := 319) rfl zgMO_81 (by decide) rfl rfl ?_
                      refine z_bipush hR dMO_holds_319 (v := nI 8) (n := 321) rfl rfl ?_
                      refine z_iload_n hR dMO_holds_321 (n := 322) rfl rfl ?_
                      refine z_imulN hR dMO_holds_322 (n := 323) rfl ?_
                      refine z_iload hR dMO_holds_323 (n := 325) rfl rfl ?_
                      refine z_iaddN hR dMO_holds_325 (n := 326) rfl ?_
                      refine z_iload_n hR dMO_holds_326 (n := 327) rfl rfl ?_
                      refine z_callS1 hR dMO_holds_327 (n := 330) rfl zcMO_134 zkMO_isTimed (by decide) (Nat.le_of_ble_eq_true rfl) (Nat.zero_le _) (m_MO_isTimed _ _) (fun r327 s327 h327 => ?_)
                      obtain ⟨rfl, e327⟩ := h327
                      subst s327
                      refine z_if_eqB hR dMO_holds_330 (t := 338) (n := 333) rfl rfl (fun h330 => absurd h330 (by decide)) (fun h330 => ?_)
                      refine z_iload hR dMO_holds_333 (n := 335) rfl rfl ?_
                      refine z_goto hR dMO_holds_335 (t := 420) rfl ?_
                      first | exact put _ _ _ _ _ _ (show true = _ by cases bv <;> cases yl <;> cases xv <;> first | rfl | contradiction) | exact put _ _ _ _ _ _ (show false = _ by cases bv <;> cases yl <;> cases xv <;> first | rfl | contradiction) | exact put xv _ _ _ _ _ rfl
                ·
                  refine z_aload_n hR dMO_holds_190 (n := 191) rfl rfl ?_
                  refine z_getR hR dMO_holds_191 (n := 194) rfl zgMO_19 (by decide) rfl rfl ?_
                  refine z_iload_n hR dMO_holds_194 (n := 195) rfl rfl ?_
                  refine z_iald hR (_) dMO_holds_195 (n := 196) rfl (by decide) rfl (by decide) rfl (by omega) ?_
                  rw [hfx.2.2, q3]
                  refine z_if_ge hR dMO_holds_196 (t := 213) (n := 199) rfl rfl (fun h196 => absurd h196 (by decide)) (fun _ => ?_)
                  refine z_iload_n hR dMO_holds_199 (n := 200) rfl rfl ?_
                  refine z_bipush hR dMO_holds_200 (v := 70) (n := 202) rfl rfl ?_
                  refine z_icmp_ne hR dMO_holds_202 (t := 209) (n := 205) rfl rfl (fun _ => ?_) (fun h202 => absurd h202 (by decide))
                  refine z_iconst hR dMO_holds_209 (v := 0) (n := 210) rfl rfl ?_
                  refine z_goto hR dMO_holds_210 (t := 230) rfl ?_
                  refine z_istore hR dMO_holds_230 (n := 232) rfl (by decide) rfl ?_
                  refine z_iload_n hR dMO_holds_232 (n := 233) rfl rfl ?_
                  refine z_bipush hR dMO_holds_233 (v := 88) (n := 235) rfl rfl ?_
                  refine z_icmp_ne hR dMO_holds_235 (t := 258) (n := 238) rfl rfl (fun _ => ?_) (fun h235 => absurd h235 (by decide))
                  refine z_iload_n hR dMO_holds_258 (n := 259) rfl rfl ?_
                  refine z_bipush hR dMO_holds_259 (v := 85) (n := 261) rfl rfl ?_
                  refine z_icmp_eq hR dMO_holds_261 (t := 270) (n := 264) rfl rfl (fun h261 => absurd h261 (by decide)) (fun _ => ?_)
                  refine z_iload_n hR dMO_holds_264 (n := 265) rfl rfl ?_
                  refine z_bipush hR dMO_holds_265 (v := 70) (n := 267) rfl rfl ?_
                  refine z_icmp_ne hR dMO_holds_267 (t := 293) (n := 270) rfl rfl (fun _ => ?_) (fun h267 => absurd h267 (by decide))
                  refine z_iload hR dMO_holds_293 (n := 295) rfl rfl ?_
                  refine z_if_eqB hR dMO_holds_295 (t := 312) (n := 298) rfl rfl (fun h295 => ?_) (fun h295 => ?_)
                  · refine z_iconst hR dMO_holds_312 (v := 0) (n := 313) rfl rfl ?_
                    refine z_istore hR dMO_holds_313 (n := 315) rfl (by decide) rfl ?_
                    refine z_aload_n hR dMO_holds_315 (n := 316) rfl rfl ?_
                    refine z_getR hR dMO_holds_316 (n := 319) rfl zgMO_81 (by decide) rfl rfl ?_
                    refine z_bipush hR dMO_holds_319 (v := nI 8) (n := 321) rfl rfl ?_
                    refine z_iload_n hR dMO_holds_321 (n := 322) rfl rfl ?_
                    refine z_imulN hR dMO_holds_322 (n := 323) rfl ?_
                    refine z_iload hR dMO_holds_323 (n := 325) rfl rfl ?_
                    refine z_iaddN hR dMO_holds_325 (n := 326) rfl ?_
                    refine z_iload_n hR dMO_holds_326 (n := 327) rfl rfl ?_
                    refine z_callS1 hR dMO_holds_327 (n := 330) rfl zcMO_134 zkMO_isTimed (by decide) (Nat.le_of_ble_eq_true rfl) (Nat.zero_le _) (m_MO_isTimed _ _) (fun r327 s327 h327 => ?_)
                    obtain ⟨rfl, e327⟩ := h327
                    subst s327
                    refine z_if_eqB hR dMO_holds_330 (t := 338) (n := 333) rfl rfl (fun h330 => absurd h330 (by decide)) (fun h330 => ?_)
                    refine z_iload hR dMO_holds_333 (n := 335) rfl rfl ?_
                    refine z_goto hR dMO_holds_335 (t := 420) rfl ?_
                    first | exact put _ _ _ _ _ _ (show true = _ by cases bv <;> cases yl <;> cases xv <;> first | rfl | contradiction) | exact put _ _ _ _ _ _ (show false = _ by cases bv <;> cases yl <;> cases xv <;> first | rfl | contradiction) | exact put xv _ _ _ _ _ rfl
                  · refine z_iload hR dMO_holds_298 (n := 300) rfl rfl ?_
                    refine z_if_ne hR dMO_holds_300 (t := 308) (n := 303) rfl rfl (fun h300 => absurd h300 (by decide)) (fun _ => ?_)
                    refine z_iload hR dMO_holds_303 (n := 305) rfl rfl ?_
                    refine z_if_eqB hR dMO_holds_305 (t := 312) (n := 308) rfl rfl (fun h305 => ?_) (fun h305 => ?_)
                    · refine z_iconst hR dMO_holds_312 (v := 0) (n := 313) rfl rfl ?_
                      refine z_istore hR dMO_holds_313 (n := 315) rfl (by decide) rfl ?_
                      refine z_aload_n hR dMO_holds_315 (n := 316) rfl rfl ?_
                      refine z_getR hR dMO_holds_316 (n := 319) rfl zgMO_81 (by decide) rfl rfl ?_
                      refine z_bipush hR dMO_holds_319 (v := nI 8) (n := 321) rfl rfl ?_
                      refine z_iload_n hR dMO_holds_321 (n := 322) rfl rfl ?_
                      refine z_imulN hR dMO_holds_322 (n := 323) rfl ?_
                      refine z_iload hR dMO_holds_323 (n := 325) rfl rfl ?_
                      refine z_iaddN hR dMO_holds_325 (n := 326) rfl ?_
                      refine z_iload_n hR dMO_holds_326 (n := 327) rfl rfl ?_
                      refine z_callS1 hR dMO_holds_327 (n := 330) rfl zcMO_134 zkMO_isTimed (by decide) (Nat.le_of_ble_eq_true rfl) (Nat.zero_le _) (m_MO_isTimed _ _) (fun r327 s327 h327 => ?_)
                      obtain ⟨rfl, e327⟩ := h327
                      subst s327
                      refine z_if_eqB hR dMO_holds_330 (t := 338) (n := 333) rfl rfl (fun h330 => absurd h330 (by decide)) (fun h330 => ?_)
                      refine z_iload hR dMO_holds_333 (n := 335) rfl rfl ?_
                      refine z_goto hR dMO_holds_335 (t := 420) rfl ?_
                      first | exact put _ _ _ _ _ _ (show true = _ by cases bv <;> cases yl <;> cases xv <;> first | rfl | contradiction) | exact put _ _ _ _ _ _ (show false = _ by cases bv <;> cases yl <;> cases xv <;> first | rfl | contradiction) | exact put xv _ _ _ _ _ rfl
                    · refine z_iconst hR dMO_holds_308 (v := 1) (n := 309) rfl rfl ?_
                      refine z_goto hR dMO_holds_309 (t := 313) rfl ?_
                      refine z_istore hR dMO_holds_313 (n := 315) rfl (by decide) rfl ?_
                      refine z_aload_n hR dMO_holds_315 (n := 316) rfl rfl ?_
                      refine z_getR hR dMO_holds_316 (n := 319) rfl zgMO_81 (by decide) rfl rfl ?_
                      refine z_bipush hR dMO_holds_319 (v := nI 8) (n := 321) rfl rfl ?_
                      refine z_iload_n hR dMO_holds_321 (n := 322) rfl rfl ?_
                      refine z_imulN hR dMO_holds_322 (n := 323) rfl ?_
                      refine z_iload hR dMO_holds_323 (n := 325) rfl rfl ?_
                      refine z_iaddN hR dMO_holds_325 (n := 326) rfl ?_
                      refine z_iload_n hR dMO_holds_326 (n := 327) rfl rfl ?_
                      refine z_callS1 hR dMO_holds_327 (n := 330) rfl zcMO_134 zkMO_isTimed (by decide) (Nat.le_of_ble_eq_true rfl) (Nat.zero_le _) (m_MO_isTimed _ _) (fun r327 s327 h327 => ?_)
                      obtain ⟨rfl, e327⟩ := h327
                      subst s327
                      refine z_if_eqB hR dMO_holds_330 (t := 338) (n := 333) rfl rfl (fun h330 => absurd h330 (by decide)) (fun h330 => ?_)
                      refine z_iload hR dMO_holds_333 (n := 335) rfl rfl ?_
                      refine z_goto hR dMO_holds_335 (t := 420) rfl ?_
                      first | exact put _ _ _ _ _ _ (show true = _ by cases bv <;> cases yl <;> cases xv <;> first | rfl | contradiction) | exact put _ _ _ _ _ _ (show false = _ by cases bv <;> cases yl <;> cases xv <;> first | rfl | contradiction) | exact put xv _ _ _ _ _ rfl
              ·
                have hl : τ3.1 69 (8 * m3 + p) = zb (V m3 p) := hV3 m3 (by omega) p hpk
                have hr1 : (g x).2.2 ≠ -1 := by rw [q3]; exact nI_m1 (by omega)
                have hA : nA g V x p = V m3 p := by rw [nA, if_neg hr1, q2, nI_clamp (by omega)]
                have hfn : nfn g k j V x p yl = upv c (V m3 p) (nB g V x p) yl (V (g x).2.1.toNatClampNeg (nx k j p)) := by rw [nfn, hA, hc]
                rw [hfn] at put
                generalize nB g V x p = bv at put hd3 ⊢
                generalize V m3 p = av at put hl
                generalize V (g x).2.1.toNatClampNeg (nx k j p) = xv at put
                have hcc : c = 82 ∨ c = 85 ∨ c = 38 ∨ c = 124 ∨ c = 62 := by
                  have q5 := rk_in hrk
                  simp only [List.mem_cons, List.not_mem_nil, or_false] at q5
                  rw [hc] at q4
                  rcases q5 with q | q | q | q | q
                  · rw [q] at q4; exact absurd q4 (by decide)
                  · rw [q] at q4; exact absurd q4 (by decide)
                  · rw [q] at q4; exact absurd q4 (by decide)
                  · rw [q] at q4; exact absurd q4 (by decide)
                  · exact q
                clear hlater hyl hfn hA hW3 ihp start mid h2 h1 hd1
                rcases hcc with hcc | hcc | hcc | hcc | hcc <;> subst hcc
                ·
                  refine z_aload_n hR dMO_holds_190 (n := 191) rfl rfl ?_
                  refine z_getR hR dMO_holds_191 (n := 194) rfl zgMO_19 (by decide) rfl rfl ?_
                  refine z_iload_n hR dMO_holds_194 (n := 195) rfl rfl ?_
                  refine z_iald hR (_) dMO_holds_195 (n := 196) rfl (by decide) rfl (by decide) rfl (by omega) ?_
                  rw [hfx.2.2, q3]
                  refine z_if_geN hR dMO_holds_196 (t := 213) (n := 199) rfl rfl (by omega) ?_
                  refine z_aload_n hR dMO_holds_213 (n := 214) rfl rfl ?_
                  refine z_getR hR dMO_holds_214 (n := 217) rfl zgMO_81 (by decide) rfl rfl ?_
                  refine z_bipush hR dMO_holds_217 (v := nI 8) (n := 219) rfl rfl ?_
                  refine z_aload_n hR dMO_holds_219 (n := 220) rfl rfl ?_
                  refine z_getR hR dMO_holds_220 (n := 223) rfl zgMO_16 (by decide) rfl rfl ?_
                  refine z_iload_n hR dMO_holds_223 (n := 224) rfl rfl ?_
                  refine z_iald hR (_) dMO_holds_224 (n := 225) rfl (by decide) rfl (by decide) rfl (by omega) ?_
                  rw [hfx.2.1, q2]
                  refine z_imulN hR dMO_holds_225 (n := 226) rfl ?_
                  refine z_iload hR dMO_holds_226 (n := 228) rfl rfl ?_
                  refine z_iaddN hR dMO_holds_228 (n := 229) rfl ?_
                  refine z_zald hR (_) dMO_holds_229 (n := 230) rfl (by decide) rfl (by decide) rfl (by omega) ?_
                  rw [hl]
                  refine z_istore hR dMO_holds_230 (n := 232) rfl (by decide) rfl ?_
                  refine z_iload_n hR dMO_holds_232 (n := 233) rfl rfl ?_
                  refine z_bipush hR dMO_holds_233 (v := 88) (n := 235) rfl rfl ?_
                  refine z_icmp_ne hR dMO_holds_235 (t := 258) (n := 238) rfl rfl (fun _ => ?_) (fun h235 => absurd h235 (by decide))
                  refine z_iload_n hR dMO_holds_258 (n := 259) rfl rfl ?_
                  refine z_bipush hR dMO_holds_259 (v := 85) (n := 261) rfl rfl ?_
                  refine z_icmp_eq hR dMO_holds_261 (t := 270) (n := 264) rfl rfl (fun h261 => absurd h261 (by decide)) (fun _ => ?_)
                  refine z_iload_n hR dMO_holds_264 (n := 265) rfl rfl ?_
                  refine z_bipush hR dMO_holds_265 (v := 70) (n := 267) rfl rfl ?_
                  refine z_icmp_ne hR dMO_holds_267 (t := 293) (n := 270) rfl rfl (fun _ => ?_) (fun h267 => absurd h267 (by decide))
                  refine z_iload hR dMO_holds_293 (n := 295) rfl rfl ?_
                  refine z_if_eqB hR dMO_holds_295 (t := 312) (n := 298) rfl rfl (fun h295 => ?_) (fun h295 => ?_)
                  · refine z_iconst hR dMO_holds_312 (v := 0) (n := 313) rfl rfl ?_
                    refine z_istore hR dMO_holds_313 (n := 315) rfl (by decide) rfl ?_
                    refine z_aload_n hR dMO_holds_315 (n := 316) rfl rfl ?_
                    refine z_getR hR dMO_holds_316 (n := 319) rfl zgMO_81 (by decide) rfl rfl ?_
                    refine z_bipush hR dMO_holds_319 (v := nI 8) (n := 321) rfl rfl ?_
                    refine z_iload_n hR dMO_holds_321 (n := 322) rfl rfl ?_
                    refine z_imulN hR dMO_holds_322 (n := 323) rfl ?_
                    refine z_iload hR dMO_holds_323 (n := 325) rfl rfl ?_
                    refine z_iaddN hR dMO_holds_325 (n := 326) rfl ?_
                    refine z_iload_n hR dMO_holds_326 (n := 327) rfl rfl ?_
                    refine z_callS1 hR dMO_holds_327 (n := 330) rfl zcMO_134 zkMO_isTimed (by decide) (Nat.le_of_ble_eq_true rfl) (Nat.zero_le _) (m_MO_isTimed _ _) (fun r327 s327 h327 => ?_)
                    obtain ⟨rfl, e327⟩ := h327
                    subst s327
                    refine z_if_eqB hR dMO_holds_330 (t := 338) (n := 333) rfl rfl (fun h330 => absurd h330 (by decide)) (fun h330 => ?_)
                    refine z_iload hR dMO_holds_333 (n := 335) rfl rfl ?_
                    refine z_goto hR dMO_holds_335 (t := 420) rfl ?_
                    first | exact put _ _ _ _ _ _ (show true = _ by cases av <;> cases bv <;> cases yl <;> first | rfl | contradiction) | exact put _ _ _ _ _ _ (show false = _ by cases av <;> cases bv <;> cases yl <;> first | rfl | contradiction)
                  · refine z_iload hR dMO_holds_298 (n := 300) rfl rfl ?_
                    refine z_if_neB hR dMO_holds_300 (t := 308) (n := 303) rfl rfl (fun h300 => ?_) (fun h300 => ?_)
                    · refine z_iconst hR dMO_holds_308 (v := 1) (n := 309) rfl rfl ?_
                      refine z_goto hR dMO_holds_309 (t := 313) rfl ?_
                      refine z_istore hR dMO_holds_313 (n := 315) rfl (by decide) rfl ?_
                      refine z_aload_n hR dMO_holds_315 (n := 316) rfl rfl ?_
                      refine z_getR hR dMO_holds_316 (n := 319) rfl zgMO_81 (by decide) rfl rfl ?_
                      refine z_bipush hR dMO_holds_319 (v := nI 8) (n := 321) rfl rfl ?_
                      refine z_iload_n hR dMO_holds_321 (n := 322) rfl rfl ?_
                      refine z_imulN hR dMO_holds_322 (n := 323) rfl ?_
                      refine z_iload hR dMO_holds_323 (n := 325) rfl rfl ?_
                      refine z_iaddN hR dMO_holds_325 (n := 326) rfl ?_
                      refine z_iload_n hR dMO_holds_326 (n := 327) rfl rfl ?_
                      refine z_callS1 hR dMO_holds_327 (n := 330) rfl zcMO_134 zkMO_isTimed (by decide) (Nat.le_of_ble_eq_true rfl) (Nat.zero_le _) (m_MO_isTimed _ _) (fun r327 s327 h327 => ?_)
                      obtain ⟨rfl, e327⟩ := h327
                      subst s327
                      refine z_if_eqB hR dMO_holds_330 (t := 338) (n := 333) rfl rfl (fun h330 => absurd h330 (by decide)) (fun h330 => ?_)
                      refine z_iload hR dMO_holds_333 (n := 335) rfl rfl ?_
                      refine z_goto hR dMO_holds_335 (t := 420) rfl ?_
                      first | exact put _ _ _ _ _ _ (show true = _ by cases av <;> cases bv <;> cases yl <;> first | rfl | contradiction) | exact put _ _ _ _ _ _ (show false = _ by cases av <;> cases bv <;> cases yl <;> first | rfl | contradiction)
                    · refine z_iload hR dMO_holds_303 (n := 305) rfl rfl ?_
                      refine z_if_eqB hR dMO_holds_305 (t := 312) (n := 308) rfl rfl (fun h305 => ?_) (fun h305 => ?_)
                      · refine z_iconst hR dMO_holds_312 (v := 0) (n := 313) rfl rfl ?_
                        refine z_istore hR dMO_holds_313 (n := 315) rfl (by decide) rfl ?_
                        refine z_aload_n hR dMO_holds_315 (n := 316) rfl rfl ?_
                        refine z_getR hR dMO_holds_316 (n := 319) rfl zgMO_81 (by decide) rfl rfl ?_
                        refine z_bipush hR dMO_holds_319 (v := nI 8) (n := 321) rfl rfl ?_
                        refine z_iload_n hR dMO_holds_321 (n := 322) rfl rfl ?_
                        refine z_imulN hR dMO_holds_322 (n := 323) rfl ?_
                        refine z_iload hR dMO_holds_323 (n := 325) rfl rfl ?_
                        refine z_iaddN hR dMO_holds_325 (n := 326) rfl ?_
                        refine z_iload_n hR dMO_holds_326 (n := 327) rfl rfl ?_
                        refine z_callS1 hR dMO_holds_327 (n := 330) rfl zcMO_134 zkMO_isTimed (by decide) (Nat.le_of_ble_eq_true rfl) (Nat.zero_le _) (m_MO_isTimed _ _) (fun r327 s327 h327 => ?_)
                        obtain ⟨rfl, e327⟩ := h327
                        subst s327
                        refine z_if_eqB hR dMO_holds_330 (t := 338) (n := 333) rfl rfl (fun h330 => absurd h330 (by decide)) (fun h330 => ?_)
                        refine z_iload hR dMO_holds_333 (n := 335) rfl rfl ?_
                        refine z_goto hR dMO_holds_335 (t := 420) rfl ?_
                        first | exact put _ _ _ _ _ _ (show true = _ by cases av <;> cases bv <;> cases yl <;> first | rfl | contradiction) | exact put _ _ _ _ _ _ (show false = _ by cases av <;> cases bv <;> cases yl <;> first | rfl | contradiction)
                      · refine z_iconst hR dMO_holds_308 (v := 1) (n := 309) rfl rfl ?_
                        refine z_goto hR dMO_holds_309 (t := 313) rfl ?_
                        refine z_istore hR dMO_holds_313 (n := 315) rfl (by decide) rfl ?_
                        refine z_aload_n hR dMO_holds_315 (n := 316) rfl rfl ?_
                        refine z_getR hR dMO_holds_316 (n := 319) rfl zgMO_81 (by decide) rfl rfl ?_
                        refine z_bipush hR dMO_holds_319 (v := nI 8) (n := 321) rfl rfl ?_
                        refine z_iload_n hR dMO_holds_321 (n := 322) rfl rfl ?_
                        refine z_imulN hR dMO_holds_322 (n := 323) rfl ?_
                        refine z_iload hR dMO_holds_323 (n := 325) rfl rfl ?_
                        refine z_iaddN hR dMO_holds_325 (n := 326) rfl ?_
                        refine z_iload_n hR dMO_holds_326 (n := 327) rfl rfl ?_
                        refine z_callS1 hR dMO_holds_327 (n := 330) rfl zcMO_134 zkMO_isTimed (by decide) (Nat.le_of_ble_eq_true rfl) (Nat.zero_le _) (m_MO_isTimed _ _) (fun r327 s327 h327 => ?_)
                        obtain ⟨rfl, e327⟩ := h327
                        subst s327
                        refine z_if_eqB hR dMO_holds_330 (t := 338) (n := 333) rfl rfl (fun h330 => absurd h330 (by decide)) (fun h330 => ?_)
                        refine z_iload hR dMO_holds_333 (n := 335) rfl rfl ?_
                        refine z_goto hR dMO_holds_335 (t := 420) rfl ?_
                        first | exact put _ _ _ _ _ _ (show true = _ by cases av <;> cases bv <;> cases yl <;> first | rfl | contradiction) | exact put _ _ _ _ _ _ (show false = _ by cases av <;> cases bv <;> cases yl <;> first | rfl | contradiction)
                ·
                  refine z_aload_n hR dMO_holds_190 (n := 191) rfl rfl ?_
                  refine z_getR hR dMO_holds_191 (n := 194) rfl zgMO_19 (by decide) rfl rfl ?_
                  refine z_iload_n hR dMO_holds_194 (n := 195) rfl rfl ?_
                  refine z_iald hR (_) dMO_holds_195 (n := 196) rfl (by decide) rfl (by decide) rfl (by omega) ?_
                  rw [hfx.2.2, q3]
                  refine z_if_geN hR dMO_holds_196 (t := 213) (n := 199) rfl rfl (by omega) ?_
                  refine z_aload_n hR dMO_holds_213 (n := 214) rfl rfl ?_
                  refine z_getR hR dMO_holds_214 (n := 217) rfl zgMO_81 (by decide) rfl rfl ?_
                  refine z_bipush hR dMO_holds_217 (v := nI 8) (n := 219) rfl rfl ?_
                  refine z_aload_n hR dMO_holds_219 (n := 220) rfl rfl ?_
                  refine z_getR hR dMO_holds_220 (n := 223) rfl zgMO_16 (by decide) rfl rfl ?_
                  refine z_iload_n hR dMO_holds_223 (n := 224) rfl rfl ?_
                  refine z_iald hR (_) dMO_holds_224 (n := 225) rfl (by decide) rfl (by decide) rfl (by omega) ?_
                  rw [hfx.2.1, q2]
                  refine z_imulN hR dMO_holds_225 (n := 226) rfl ?_
                  refine z_iload hR dMO_holds_226 (n := 228) rfl rfl ?_
                  refine z_iaddN hR dMO_holds_228 (n := 229) rfl ?_
                  refine z_zald hR (_) dMO_holds_229 (n := 230) rfl (by decide) rfl (by decide) rfl (by omega) ?_
                  rw [hl]
                  refine z_istore hR dMO_holds_230 (n := 232) rfl (by decide) rfl ?_
                  refine z_iload_n hR dMO_holds_232 (n := 233) rfl rfl ?_
                  refine z_bipush hR dMO_holds_233 (v := 88) (n := 235) rfl rfl ?_
                  refine z_icmp_ne hR dMO_holds_235 (t := 258) (n := 238) rfl rfl (fun _ => ?_) (fun h235 => absurd h235 (by decide))
                  refine z_iload_n hR dMO_holds_258 (n := 259) rfl rfl ?_
                  refine z_bipush hR dMO_holds_259 (v := 85) (n := 261) rfl rfl ?_
                  refine z_icmp_eq hR dMO_holds_261 (t := 270) (n := 264) rfl rfl (fun _ => ?_) (fun h261 => absurd (by decide) h261)
                  refine z_iload hR dMO_holds_270 (n := 272) rfl rfl ?_
                  refine z_if_neB hR dMO_holds_272 (t := 285) (n := 275) rfl rfl (fun h272 => ?_) (fun h272 => ?_)
                  · refine z_iconst hR dMO_holds_285 (v := 1) (n := 286) rfl rfl ?_
                    refine z_goto hR dMO_holds_286 (t := 313) rfl ?_
                    refine z_istore hR dMO_holds_313 (n := 315) rfl (by decide) rfl ?_
                    refine z_aload_n hR dMO_holds_315 (n := 316) rfl rfl ?_
                    refine z_getR hR dMO_holds_316 (n := 319) rfl zgMO_81 (by decide) rfl rfl ?_
                    refine z_bipush hR dMO_holds_319 (v := nI 8) (n := 321) rfl rfl ?_
                    refine z_iload_n hR dMO_holds_321 (n := 322) rfl rfl ?_
                    refine z_imulN hR dMO_holds_322 (n := 323) rfl ?_
                    refine z_iload hR dMO_holds_323 (n := 325) rfl rfl ?_
                    refine z_iaddN hR dMO_holds_325 (n := 326) rfl ?_
                    refine z_iload_n hR dMO_holds_326 (n := 327) rfl rfl ?_
                    refine z_callS1 hR dMO_holds_327 (n := 330) rfl zcMO_134 zkMO_isTimed (by decide) (Nat.le_of_ble_eq_true rfl) (Nat.zero_le _) (m_MO_isTimed _ _) (fun r327 s327 h327 => ?_)
                    obtain ⟨rfl, e327⟩ := h327
                    subst s327
                    refine z_if_eqB hR dMO_holds_330 (t := 338) (n := 333) rfl rfl (fun h330 => absurd h330 (by decide)) (fun h330 => ?_)
                    refine z_iload hR dMO_holds_333 (n := 335) rfl rfl ?_
                    refine z_goto hR dMO_holds_335 (t := 420) rfl ?_
                    first | exact put _ _ _ _ _ _ (show true = _ by cases av <;> cases bv <;> cases yl <;> first | rfl | contradiction) | exact put _ _ _ _ _ _ (show false = _ by cases av <;> cases bv <;> cases yl <;> first | rfl | contradiction)
                  · refine z_iload hR dMO_holds_275 (n := 277) rfl rfl ?_
                    refine z_if_eqB hR dMO_holds_277 (t := 289) (n := 280) rfl rfl (fun h277 => ?_) (fun h277 => ?_)
                    · refine z_iconst hR dMO_holds_289 (v := 0) (n := 290) rfl rfl ?_
                      refine z_goto hR dMO_holds_290 (t := 313) rfl ?_
                      refine z_istore hR dMO_holds_313 (n := 315) rfl (by decide) rfl ?_
                      refine z_aload_n hR dMO_holds_315 (n := 316) rfl rfl ?_
                      refine z_getR hR dMO_holds_316 (n := 319) rfl zgMO_81 (by decide) rfl rfl ?_
                      refine z_bipush hR dMO_holds_319 (v := nI 8) (n := 321) rfl rfl ?_
                      refine z_iload_n hR dMO_holds_321 (n := 322) rfl rfl ?_
                      refine z_imulN hR dMO_holds_322 (n := 323) rfl ?_
                      refine z_iload hR dMO_holds_323 (n := 325) rfl rfl ?_
                      refine z_iaddN hR dMO_holds_325 (n := 326) rfl ?_
                      refine z_iload_n hR dMO_holds_326 (n := 327) rfl rfl ?_
                      refine z_callS1 hR dMO_holds_327 (n := 330) rfl zcMO_134 zkMO_isTimed (by decide) (Nat.le_of_ble_eq_true rfl) (Nat.zero_le _) (m_MO_isTimed _ _) (fun r327 s327 h327 => ?_)
                      obtain ⟨rfl, e327⟩ := h327
                      subst s327
                      refine z_if_eqB hR dMO_holds_330 (t := 338) (n := 333) rfl rfl (fun h330 => absurd h330 (by decide)) (fun h330 => ?_)
                      refine z_iload hR dMO_holds_333 (n := 335) rfl rfl ?_
                      refine z_goto hR dMO_holds_335 (t := 420) rfl ?_
                      first | exact put _ _ _ _ _ _ (show true = _ by cases av <;> cases bv <;> cases yl <;> first | rfl | contradiction) | exact put _ _ _ _ _ _ (show false = _ by cases av <;> cases bv <;> cases yl <;> first | rfl | contradiction)
                    · refine z_iload hR dMO_holds_280 (n := 282) rfl rfl ?_
                      refine z_if_eqB hR dMO_holds_282 (t := 289) (n := 285) rfl rfl (fun h282 => ?_) (fun h282 => ?_)
                      · refine z_iconst hR dMO_holds_289 (v := 0) (n := 290) rfl rfl ?_
                        refine z_goto hR dMO_holds_290 (t := 313) rfl ?_
                        refine z_istore hR dMO_holds_313 (n := 315) rfl (by decide) rfl ?_
                        refine z_aload_n hR dMO_holds_315 (n := 316) rfl rfl ?_
                        refine z_getR hR dMO_holds_316 (n := 319) rfl zgMO_81 (by decide) rfl rfl ?_
                        refine z_bipush hR dMO_holds_319 (v := nI 8) (n := 321) rfl rfl ?_
                        refine z_iload_n hR dMO_holds_321 (n := 322) rfl rfl ?_
                        refine z_imulN hR dMO_holds_322 (n := 323) rfl ?_
                        refine z_iload hR dMO_holds_323 (n := 325) rfl rfl ?_
                        refine z_iaddN hR dMO_holds_325 (n := 326) rfl ?_
                        refine z_iload_n hR dMO_holds_326 (n := 327) rfl rfl ?_
                        refine z_callS1 hR dMO_holds_327 (n := 330) rfl zcMO_134 zkMO_isTimed (by decide) (Nat.le_of_ble_eq_true rfl) (Nat.zero_le _) (m_MO_isTimed _ _) (fun r327 s327 h327 => ?_)
                        obtain ⟨rfl, e327⟩ := h327
                        subst s327
                        refine z_if_eqB hR dMO_holds_330 (t := 338) (n := 333) rfl rfl (fun h330 => absurd h330 (by decide)) (fun h330 => ?_)
                        refine z_iload hR dMO_holds_333 (n := 335) rfl rfl ?_
                        refine z_goto hR dMO_holds_335 (t := 420) rfl ?_
                        first | exact put _ _ _ _ _ _ (show true = _ by cases av <;> cases bv <;> cases yl <;> first | rfl | contradiction) | exact put _ _ _ _ _ _ (show false = _ by cases av <;> cases bv <;> cases yl <;> first | rfl | contradiction)
                      · refine z_iconst hR dMO_holds_285 (v := 1) (n := 286) rfl rfl ?_
                        refine z_goto hR dMO_holds_286 (t := 313) rfl ?_
                        refine z_istore hR dMO_holds_313 (n := 315) rfl (by decide) rfl ?_
                        refine z_aload_n hR dMO_holds_315 (n := 316) rfl rfl ?_
                        refine z_getR hR dMO_holds_316 (n := 319) rfl zgMO_81 (by decide) rfl rfl ?_
                        refine z_bipush hR dMO_holds_319 (v := nI 8) (n := 321) rfl rfl ?_
                        refine z_iload_n hR dMO_holds_321 (n := 322) rfl rfl ?_
                        refine z_imulN hR dMO_holds_322 (n := 323) rfl ?_
                        refine z_iload hR dMO_holds_323 (n := 325) rfl rfl ?_
                        refine z_iaddN hR dMO_holds_325 (n := 326) rfl ?_
                        refine z_iload_n hR dMO_holds_326 (n := 327) rfl rfl ?_
                        refine z_callS1 hR dMO_holds_327 (n := 330) rfl zcMO_134 zkMO_isTimed (by decide) (Nat.le_of_ble_eq_true rfl) (Nat.zero_le _) (m_MO_isTimed _ _) (fun r327 s327 h327 => ?_)
                        obtain ⟨rfl, e327⟩ := h327
                        subst s327
                        refine z_if_eqB hR dMO_holds_330 (t := 338) (n := 333) rfl rfl (fun h330 => absurd h330 (by decide)) (fun h330 => ?_)
                        refine z_iload hR dMO_holds_333 (n := 335) rfl rfl ?_
                        refine z_goto hR dMO_holds_335 (t := 420) rfl ?_
                        first | exact put _ _ _ _ _ _ (show true = _ by cases av <;> cases bv <;> cases yl <;> first | rfl | contradiction) | exact put _ _ _ _ _ _ (show false = _ by cases av <;> cases bv <;> cases yl <;> first | rfl | contradiction)
                ·
                  refine z_aload_n hR dMO_holds_190 (n := 191) rfl rfl ?_
                  refine z_getR hR dMO_holds_191 (n := 194) rfl zgMO_19 (by decide) rfl rfl ?_
                  refine z_iload_n hR dMO_holds_194 (n := 195) rfl rfl ?_
                  refine z_iald hR (_) dMO_holds_195 (n := 196) rfl (by decide) rfl (by decide) rfl (by omega) ?_
                  rw [hfx.2.2, q3]
                  refine z_if_geN hR dMO_holds_196 (t := 213) (n := 199) rfl rfl (by omega) ?_
                  refine z_aload_n hR dMO_holds_213 (n := 214) rfl rfl ?_
                  refine z_getR hR dMO_holds_214 (n := 217) rfl zgMO_81 (by decide) rfl rfl ?_
                  refine z_bipush hR dMO_holds_217 (v := nI 8) (n := 219) rfl rfl ?_
                  refine z_aload_n hR dMO_holds_219 (n := 220) rfl rfl ?_
                  refine z_getR hR dMO_holds_220 (n := 223) rfl zgMO_16 (by decide) rfl rfl ?_
                  refine z_iload_n hR dMO_holds_223 (n := 224) rfl rfl ?_
                  refine z_iald hR (_) dMO_holds_224 (n := 225) rfl (by decide) rfl (by decide) rfl (by omega) ?_
                  rw [hfx.2.1, q2]
                  refine z_imulN hR dMO_holds_225 (n := 226) rfl ?_
                  refine z_iload hR dMO_holds_226 (n := 228) rfl rfl ?_
                  refine z_iaddN hR dMO_holds_228 (n := 229) rfl ?_
                  refine z_zald hR (_) dMO_holds_229 (n := 230) rfl (by decide) rfl (by decide) rfl (by omega) ?_
                  rw [hl]
                  refine z_istore hR dMO_holds_230 (n := 232) rfl (by decide) rfl ?_
                  refine z_iload_n hR dMO_holds_232 (n := 233) rfl rfl ?_
                  refine z_bipush hR dMO_holds_233 (v := 88) (n := 235) rfl rfl ?_
                  refine z_icmp_ne hR dMO_holds_235 (t := 258) (n := 238) rfl rfl (fun _ => ?_) (fun h235 => absurd h235 (by decide))
                  refine z_iload_n hR dMO_holds_258 (n := 259) rfl rfl ?_
                  refine z_bipush hR dMO_holds_259 (v := 85) (n := 261) rfl rfl ?_
                  refine z_icmp_eq hR dMO_holds_261 (t := 270) (n := 264) rfl rfl (fun h261 => absurd h261 (by decide)) (fun _ => ?_)
                  refine z_iload_n hR dMO_holds_264 (n := 265) rfl rfl ?_
                  refine z_bipush hR dMO_holds_265 (v := 70) (n := 267) rfl rfl ?_
                  refine z_icmp_ne hR dMO_holds_267 (t := 293) (n := 270) rfl rfl (fun _ => ?_) (fun h267 => absurd h267 (by decide))
                  refine z_iload hR dMO_holds_293 (n := 295) rfl rfl ?_
                  refine z_if_eqB hR dMO_holds_295 (t := 312) (n := 298) rfl rfl (fun h295 => ?_) (fun h295 => ?_)
                  · refine z_iconst hR dMO_holds_312 (v := 0) (n := 313) rfl rfl ?_
                    refine z_istore hR dMO_holds_313 (n := 315) rfl (by decide) rfl ?_
                    refine z_aload_n hR dMO_holds_315 (n := 316) rfl rfl ?_
                    refine z_getR hR dMO_holds_316 (n := 319) rfl zgMO_81 (by decide) rfl rfl ?_
                    refine z_bipush hR dMO_holds_319 (v := nI 8) (n := 321) rfl rfl ?_
                    refine z_iload_n hR dMO_holds_321 (n := 322) rfl rfl ?_
                    refine z_imulN hR dMO_holds_322 (n := 323) rfl ?_
                    refine z_iload hR dMO_holds_323 (n := 325) rfl rfl ?_
                    refine z_iaddN hR dMO_holds_325 (n := 326) rfl ?_
                    refine z_iload_n hR dMO_holds_326 (n := 327) rfl rfl ?_
                    refine z_callS1 hR dMO_holds_327 (n := 330) rfl zcMO_134 zkMO_isTimed (by decide) (Nat.le_of_ble_eq_true rfl) (Nat.zero_le _) (m_MO_isTimed _ _) (fun r327 s327 h327 => ?_)
                    obtain ⟨rfl, e327⟩ := h327
                    subst s327
                    refine z_if_eqB hR dMO_holds_330 (t := 338) (n := 333) rfl rfl (fun h330 => ?_) (fun h330 => absurd h330 (by decide))
                    refine z_iload_n hR dMO_holds_338 (n := 339) rfl rfl ?_
                    refine z_bipush hR dMO_holds_339 (v := 33) (n := 341) rfl rfl ?_
                    refine z_icmp_ne hR dMO_holds_341 (t := 357) (n := 344) rfl rfl (fun _ => ?_) (fun h341 => absurd h341 (by decide))
                    refine z_iload_n hR dMO_holds_357 (n := 358) rfl rfl ?_
                    refine z_bipush hR dMO_holds_358 (v := 38) (n := 360) rfl rfl ?_
                    refine z_icmp_ne hR dMO_holds_360 (t := 381) (n := 363) rfl rfl (fun h360 => absurd h360 (by decide)) (fun _ => ?_)
                    refine z_iload hR dMO_holds_363 (n := 365) rfl rfl ?_
                    refine z_if_eqB hR dMO_holds_365 (t := 377) (n := 368) rfl rfl (fun h365 => ?_) (fun h365 => ?_)
                    · refine z_iconst hR dMO_holds_377 (v := 0) (n := 378) rfl rfl ?_
                      refine z_goto hR dMO_holds_378 (t := 420) rfl ?_
                      first | exact put _ _ _ _ _ _ (show true = _ by cases av <;> cases bv <;> cases yl <;> first | rfl | contradiction) | exact put _ _ _ _ _ _ (show false = _ by cases av <;> cases bv <;> cases yl <;> first | rfl | contradiction)
                    · refine z_iload hR dMO_holds_368 (n := 370) rfl rfl ?_
                      refine z_if_eqB hR dMO_holds_370 (t := 377) (n := 373) rfl rfl (fun h370 => ?_) (fun h370 => ?_)
                      · refine z_iconst hR dMO_holds_377 (v := 0) (n := 378) rfl rfl ?_
                        refine z_goto hR dMO_holds_378 (t := 420) rfl ?_
                        first | exact put _ _ _ _ _ _ (show true = _ by cases av <;> cases bv <;> cases yl <;> first | rfl | contradiction) | exact put _ _ _ _ _ _ (show false = _ by cases av <;> cases bv <;> cases yl <;> first | rfl | contradiction)
                      · refine z_iconst hR dMO_holds_373 (v := 1) (n := 374) rfl rfl ?_
                        refine z_goto hR dMO_holds_374 (t := 420) rfl ?_
                        first | exact put _ _ _ _ _ _ (show true = _ by cases av <;> cases bv <;> cases yl <;> first | rfl | contradiction) | exact put _ _ _ _ _ _ (show false = _ by cases av <;> cases bv <;> cases yl <;> first | rfl | contradiction)
                  · refine z_iload hR dMO_holds_298 (n := 300) rfl rfl ?_
                    refine z_if_neB hR dMO_holds_300 (t := 308) (n := 303) rfl rfl (fun h300 => ?_) (fun h300 => ?_)
                    · refine z_iconst hR dMO_holds_308 (v := 1) (n := 309) rfl rfl ?_
                      refine z_goto hR dMO_holds_309 (t := 313) rfl ?_
                      refine z_istore hR dMO_holds_313 (n := 315) rfl (by decide) rfl ?_
                      refine z_aload_n hR dMO_holds_315 (n := 316) rfl rfl ?_
                      refine z_getR hR dMO_holds_316 (n := 319) rfl zgMO_81 (by decide) rfl rfl ?_
                      refine z_bipush hR dMO_holds_319 (v := nI 8) (n := 321) rfl rfl ?_
                      refine z_iload_n hR dMO_holds_321 (n := 322) rfl rfl ?_
                      refine z_imulN hR dMO_holds_322 (n := 323) rfl ?_
                      refine z_iload hR dMO_holds_323 (n := 325) rfl rfl ?_
                      refine z_iaddN hR dMO_holds_325 (n := 326) rfl ?_
                      refine z_iload_n hR dMO_holds_326 (n := 327) rfl rfl ?_
                      refine z_callS1 hR dMO_holds_327 (n := 330) rfl zcMO_134 zkMO_isTimed (by decide) (Nat.le_of_ble_eq_true rfl) (Nat.zero_le _) (m_MO_isTimed _ _) (fun r327 s327 h327 => ?_)
                      obtain ⟨rfl, e327⟩ := h327
                      subst s327
                      refine z_if_eqB hR dMO_holds_330 (t := 338) (n := 333) rfl rfl (fun h330 => ?_) (fun h330 => absurd h330 (by decide))
                      refine z_iload_n hR dMO_holds_338 (n := 339) rfl rfl ?_
                      refine z_bipush hR dMO_holds_339 (v := 33) (n := 341) rfl rfl ?_
                      refine z_icmp_ne hR dMO_holds_341 (t := 357) (n := 344) rfl rfl (fun _ => ?_) (fun h341 => absurd h341 (by decide))
                      refine z_iload_n hR dMO_holds_357 (n := 358) rfl rfl ?_
                      refine z_bipush hR dMO_holds_358 (v := 38) (n := 360) rfl rfl ?_
                      refine z_icmp_ne hR dMO_holds_360 (t := 381) (n := 363) rfl rfl (fun h360 => absurd h360 (by decide)) (fun _ => ?_)
                      refine z_iload hR dMO_holds_363 (n := 365) rfl rfl ?_
                      refine z_if_eqB hR dMO_holds_365 (t := 377) (n := 368) rfl rfl (fun h365 => ?_) (fun h365 => ?_)
                      · refine z_iconst hR dMO_holds_377 (v := 0) (n := 378) rfl rfl ?_
                        refine z_goto hR dMO_holds_378 (t := 420) rfl ?_
                        first | exact put _ _ _ _ _ _ (show true = _ by cases av <;> cases bv <;> cases yl <;> first | rfl | contradiction) | exact put _ _ _ _ _ _ (show false = _ by cases av <;> cases bv <;> cases yl <;> first | rfl | contradiction)
                      · refine z_iload hR dMO_holds_368 (n := 370) rfl rfl ?_
                        refine z_if_eqB hR dMO_holds_370 (t := 377) (n := 373) rfl rfl (fun h370 => ?_) (fun h370 => ?_)
                        · refine z_iconst hR dMO_holds_377 (v := 0) (n := 378) rfl rfl ?_
                          refine z_goto hR dMO_holds_378 (t := 420) rfl ?_
                          first | exact put _ _ _ _ _ _ (show true = _ by cases av <;> cases bv <;> cases yl <;> first | rfl | contradiction) | exact put _ _ _ _ _ _ (show false = _ by cases av <;> cases bv <;> cases yl <;> first | rfl | contradiction)
                        · refine z_iconst hR dMO_holds_373 (v := 1) (n := 374) rfl rfl ?_
                          refine z_goto hR dMO_holds_374 (t := 420) rfl ?_
                          first | exact put _ _ _ _ _ _ (show true = _ by cases av <;> cases bv <;> cases yl <;> first | rfl | contradiction) | exact put _ _ _ _ _ _ (show false = _ by cases av <;> cases bv <;> cases yl <;> first | rfl | contradiction)
                    · refine z_iload hR dMO_holds_303 (n := 305) rfl rfl ?_
                      refine z_if_eqB hR dMO_holds_305 (t := 312) (n := 308) rfl rfl (fun h305 => ?_) (fun h305 => ?_)
                      · refine z_iconst hR dMO_holds_312 (v := 0) (n := 313) rfl rfl ?_
                        refine z_istore hR dMO_holds_313 (n := 315) rfl (by decide) rfl ?_
                        refine z_aload_n hR dMO_holds_315 (n := 316) rfl rfl ?_
                        refine z_getR hR dMO_holds_316 (n := 319) rfl zgMO_81 (by decide) rfl rfl ?_
                        refine z_bipush hR dMO_holds_319 (v := nI 8) (n := 321) rfl rfl ?_
                        refine z_iload_n hR dMO_holds_321 (n := 322) rfl rfl ?_
                        refine z_imulN hR dMO_holds_322 (n := 323) rfl ?_
                        refine z_iload hR dMO_holds_323 (n := 325) rfl rfl ?_
                        refine z_iaddN hR dMO_holds_325 (n := 326) rfl ?_
                        refine z_iload_n hR dMO_holds_326 (n := 327) rfl rfl ?_
                        refine z_callS1 hR dMO_holds_327 (n := 330) rfl zcMO_134 zkMO_isTimed (by decide) (Nat.le_of_ble_eq_true rfl) (Nat.zero_le _) (m_MO_isTimed _ _) (fun r327 s327 h327 => ?_)
                        obtain ⟨rfl, e327⟩ := h327
                        subst s327
                        refine z_if_eqB hR dMO_holds_330 (t := 338) (n := 333) rfl rfl (fun h330 => ?_) (fun h330 => absurd h330 (by decide))
                        refine z_iload_n hR dMO_holds_338 (n := 339) rfl rfl ?_
                        refine z_bipush hR dMO_holds_339 (v := 33) (n := 341) rfl rfl ?_
                        refine z_icmp_ne hR dMO_holds_341 (t := 357) (n := 344) rfl rfl (fun _ => ?_) (fun h341 => absurd h341 (by decide))
                        refine z_iload_n hR dMO_holds_357 (n := 358) rfl rfl ?_
                        refine z_bipush hR dMO_holds_358 (v := 38) (n := 360) rfl rfl ?_
                        refine z_icmp_ne hR dMO_holds_360 (t := 381) (n := 363) rfl rfl (fun h360 => absurd h360 (by decide)) (fun _ => ?_)
                        refine z_iload hR dMO_holds_363 (n := 365) rfl rfl ?_
                        refine z_if_eqB hR dMO_holds_365 (t := 377) (n := 368) rfl rfl (fun h365 => ?_) (fun h365 => ?_)
                        · refine z_iconst hR dMO_holds_377 (v := 0) (n := 378) rfl rfl ?_
                          refine z_goto hR dMO_holds_378 (t := 420) rfl ?_
                          first | exact put _ _ _ _ _ _ (show true = _ by cases av <;> cases bv <;> cases yl <;> first | rfl | contradiction) | exact put _ _ _ _ _ _ (show false = _ by cases av <;> cases bv <;> cases yl <;> first | rfl | contradiction)
                        · refine z_iload hR dMO_holds_368 (n := 370) rfl rfl ?_
                          refine z_if_eqB hR dMO_holds_370 (t := 377) (n := 373) rfl rfl (fun h370 => ?_) (fun h370 => ?_)
                          · refine z_iconst hR dMO_holds_377 (v := 0) (n := 378) rfl rfl ?_
                            refine z_goto hR dMO_holds_378 (t := 420) rfl ?_
                            first | exact put _ _ _ _ _ _ (show true = _ by cases av <;> cases bv <;> cases yl <;> first | rfl | contradiction) | exact put _ _ _ _ _ _ (show false = _ by cases av <;> cases bv <;> cases yl <;> first | rfl | contradiction)
                          · refine z_iconst hR dMO_holds_373 (v := 1) (n := 374) rfl rfl ?_
                            refine z_goto hR dMO_holds_374 (t := 420) rfl ?_
                            first | exact put _ _ _ _ _ _ (show true = _ by cases av <;> cases bv <;> cases yl <;> first | rfl | contradiction) | exact put _ _ _ _ _ _ (show false = _ by cases av <;> cases bv <;> cases yl <;> first | rfl | contradiction)
                      · refine z_iconst hR dMO_holds_308 (v := 1) (n := 309) rfl rfl ?_
                        refine z_goto hR dMO_holds_309 (t := 313) rfl ?_
                        refine z_istore hR dMO_holds_313 (n := 315) rfl (by decide) rfl ?_
                        refine z_aload_n hR dMO_holds_315 (n := 316) rfl rfl ?_
                        refine z_getR hR dMO_holds_316 (n := 319) rfl zgMO_81 (by decide) rfl rfl ?_
                        refine z_bipush hR dMO_holds_319 (v := nI 8) (n := 321) rfl rfl ?_
                        refine z_iload_n hR dMO_holds_321 (n := 322) rfl rfl ?_
                        refine z_imulN hR dMO_holds_322 (n := 323) rfl ?_
                        refine z_iload hR dMO_holds_323 (n := 325) rfl rfl ?_
                        refine z_iaddN hR dMO_holds_325 (n := 326) rfl ?_
                        refine z_iload_n hR dMO_holds_326 (n := 327) rfl rfl ?_
                        refine z_callS1 hR dMO_holds_327 (n := 330) rfl zcMO_134 zkMO_isTimed (by decide) (Nat.le_of_ble_eq_true rfl) (Nat.zero_le _) (m_MO_isTimed _ _) (fun r327 s327 h327 => ?_)
                        obtain ⟨rfl, e327⟩ := h327
                        subst s327
                        refine z_if_eqB hR dMO_holds_330 (t := 338) (n := 333) rfl rfl (fun h330 => ?_) (fun h330 => absurd h330 (by decide))
                        refine z_iload_n hR dMO_holds_338 (n := 339) rfl rfl ?_
                        refine z_bipush hR dMO_holds_339 (v := 33) (n := 341) rfl rfl ?_
                        refine z_icmp_ne hR dMO_holds_341 (t := 357) (n := 344) rfl rfl (fun _ => ?_) (fun h341 => absurd h341 (by decide))
                        refine z_iload_n hR dMO_holds_357 (n := 358) rfl rfl ?_
                        refine z_bipush hR dMO_holds_358 (v := 38) (n := 360) rfl rfl ?_
                        refine z_icmp_ne hR dMO_holds_360 (t := 381) (n := 363) rfl rfl (fun h360 => absurd h360 (by decide)) (fun _ => ?_)
                        refine z_iload hR dMO_holds_363 (n := 365) rfl rfl ?_
                        refine z_if_eqB hR dMO_holds_365 (t := 377) (n := 368) rfl rfl (fun h365 => ?_) (fun h365 => ?_)
                        · refine z_iconst hR dMO_holds_377 (v := 0) (n := 378) rfl rfl ?_
                          refine z_goto hR dMO_holds_378 (t := 420) rfl ?_
                          first | exact put _ _ _ _ _ _ (show true = _ by cases av <;> cases bv <;> cases yl <;> first | rfl | contradiction) | exact put _ _ _ _ _ _ (show false = _ by cases av <;> cases bv <;> cases yl <;> first | rfl | contradiction)
                        · refine z_iload hR dMO_holds_368 (n := 370) rfl rfl ?_
                          refine z_if_eqB hR dMO_holds_370 (t := 377) (n := 373) rfl rfl (fun h370 => ?_) (fun h370 => ?_)
                          · refine z_iconst hR dMO_holds_377 (v := 0) (n := 378) rfl rfl ?_
                            refine z_goto hR dMO_holds_378 (t := 420) rfl ?_
                            first | exact put _ _ _ _ _ _ (show true = _ by cases av <;> cases bv <;> cases yl <;> first | rfl | contradiction) | exact put _ _ _ _ _ _ (show false = _ by cases av <;> cases bv <;> cases yl <;> first | rfl | contradiction)
                          · refine z_iconst hR dMO_holds_373 (v := 1) (n := 374) rfl rfl ?_
                            refine z_goto hR dMO_holds_374 (t := 420) rfl ?_
                            first | exact put _ _ _ _ _ _ (show true = _ by cases av <;> cases bv <;> cases yl <;> first | rfl | contradiction) | exact put _ _ _ _ _ _ (show false = _ by cases av <;> cases bv <;> cases yl <;> first | rfl | contradiction)
                ·
                  refine z_aload_n hR dMO_holds_190 (n := 191) rfl rfl ?_
                  refine z_getR hR dMO_holds_191 (n := 194) rfl zgMO_19 (by decide) rfl rfl ?_
                  refine z_iload_n hR dMO_holds_194 (n := 195) rfl rfl ?_
                  refine z_iald hR (_) dMO_holds_195 (n := 196) rfl (by decide) rfl (by decide) rfl (by omega) ?_
                  rw [hfx.2.2, q3]
                  refine z_if_geN hR dMO_holds_196 (t := 213) (n := 199) rfl rfl (by omega) ?_
                  refine z_aload_n hR dMO_holds_213 (n := 214) rfl rfl ?_
                  refine z_getR hR dMO_holds_214 (n := 217) rfl zgMO_81 (by decide) rfl rfl ?_
                  refine z_bipush hR dMO_holds_217 (v := nI 8) (n := 219) rfl rfl ?_
                  refine z_aload_n hR dMO_holds_219 (n := 220) rfl rfl ?_
                  refine z_getR hR dMO_holds_220 (n := 223) rfl zgMO_16 (by decide) rfl rfl ?_
                  refine z_iload_n hR dMO_holds_223 (n := 224) rfl rfl ?_
                  refine z_iald hR (_) dMO_holds_224 (n := 225) rfl (by decide) rfl (by decide) rfl (by omega) ?_
                  rw [hfx.2.1, q2]
                  refine z_imulN hR dMO_holds_225 (n := 226) rfl ?_
                  refine z_iload hR dMO_holds_226 (n := 228) rfl rfl ?_
                  refine z_iaddN hR dMO_holds_228 (n := 229) rfl ?_
                  refine z_zald hR (_) dMO_holds_229 (n := 230) rfl (by decide) rfl (by decide) rfl (by omega) ?_
                  rw [hl]
                  refine z_istore hR dMO_holds_230 (n := 232) rfl (by decide) rfl ?_
                  refine z_iload_n hR dMO_holds_232 (n := 233) rfl rfl ?_
                  refine z_bipush hR dMO_holds_233 (v := 88) (n := 235) rfl rfl ?_
                  refine z_icmp_ne hR dMO_holds_235 (t := 258) (n := 238) rfl rfl (fun _ => ?_) (fun h235 => absurd h235 (by decide))
                  refine z_iload_n hR dMO_holds_258 (n := 259) rfl rfl ?_
                  refine z_bipush hR dMO_holds_259 (v := 85) (n := 261) rfl rfl ?_
                  refine z_icmp_eq hR dMO_holds_261 (t := 270) (n := 264) rfl rfl (fun h261 => absurd h261 (by decide)) (fun _ => ?_)
                  refine z_iload_n hR dMO_holds_264 (n := 265) rfl rfl ?_
                  refine z_bipush hR dMO_holds_265 (v := 70) (n := 267) rfl rfl ?_
                  refine z_icmp_ne hR dMO_holds_267 (t := 293) (n := 270) rfl rfl (fun _ => ?_) (fun h267 => absurd h267 (by decide))
                  refine z_iload hR dMO_holds_293 (n := 295) rfl rfl ?_
                  refine z_if_eqB hR dMO_holds_295 (t := 312) (n := 298) rfl rfl (fun h295 => ?_) (fun h295 => ?_)
                  · refine z_iconst hR dMO_holds_312 (v := 0) (n := 313) rfl rfl ?_
                    refine z_istore hR dMO_holds_313 (n := 315) rfl (by decide) rfl ?_
                    refine z_aload_n hR dMO_holds_315 (n := 316) rfl rfl ?_
                    refine z_getR hR dMO_holds_316 (n := 319) rfl zgMO_81 (by decide) rfl rfl ?_
                    refine z_bipush hR dMO_holds_319 (v := nI 8) (n := 321) rfl rfl ?_
                    refine z_iload_n hR dMO_holds_321 (n := 322) rfl rfl ?_
                    refine z_imulN hR dMO_holds_322 (n := 323) rfl ?_
                    refine z_iload hR dMO_holds_323 (n := 325) rfl rfl ?_
                    refine z_iaddN hR dMO_holds_325 (n := 326) rfl ?_
                    refine z_iload_n hR dMO_holds_326 (n := 327) rfl rfl ?_
                    refine z_callS1 hR dMO_holds_327 (n := 330) rfl zcMO_134 zkMO_isTimed (by decide) (Nat.le_of_ble_eq_true rfl) (Nat.zero_le _) (m_MO_isTimed _ _) (fun r327 s327 h327 => ?_)
                    obtain ⟨rfl, e327⟩ := h327
                    subst s327
                    refine z_if_eqB hR dMO_holds_330 (t := 338) (n := 333) rfl rfl (fun h330 => ?_) (fun h330 => absurd h330 (by decide))
                    refine z_iload_n hR dMO_holds_338 (n := 339) rfl rfl ?_
                    refine z_bipush hR dMO_holds_339 (v := 33) (n := 341) rfl rfl ?_
                    refine z_icmp_ne hR dMO_holds_341 (t := 357) (n := 344) rfl rfl (fun _ => ?_) (fun h341 => absurd h341 (by decide))
                    refine z_iload_n hR dMO_holds_357 (n := 358) rfl rfl ?_
                    refine z_bipush hR dMO_holds_358 (v := 38) (n := 360) rfl rfl ?_
                    refine z_icmp_ne hR dMO_holds_360 (t := 381) (n := 363) rfl rfl (fun _ => ?_) (fun h360 => absurd h360 (by decide))
                    refine z_iload_n hR dMO_holds_381 (n := 382) rfl rfl ?_
                    refine z_bipush hR dMO_holds_382 (v := 124) (n := 384) rfl rfl ?_
                    refine z_icmp_ne hR dMO_holds_384 (t := 405) (n := 387) rfl rfl (fun h384 => absurd h384 (by decide)) (fun _ => ?_)
                    refine z_iload hR dMO_holds_387 (n := 389) rfl rfl ?_
                    refine z_if_neB hR dMO_holds_389 (t := 397) (n := 392) rfl rfl (fun h389 => ?_) (fun h389 => ?_)
                    · refine z_iconst hR dMO_holds_397 (v := 1) (n := 398) rfl rfl ?_
                      refine z_goto hR dMO_holds_398 (t := 420) rfl ?_
                      first | exact put _ _ _ _ _ _ (show true = _ by cases av <;> cases bv <;> cases yl <;> first | rfl | contradiction) | exact put _ _ _ _ _ _ (show false = _ by cases av <;> cases bv <;> cases yl <;> first | rfl | contradiction)
                    · refine z_iload hR dMO_holds_392 (n := 394) rfl rfl ?_
                      refine z_if_eqB hR dMO_holds_394 (t := 401) (n := 397) rfl rfl (fun h394 => ?_) (fun h394 => ?_)
                      · refine z_iconst hR dMO_holds_401 (v := 0) (n := 402) rfl rfl ?_
                        refine z_goto hR dMO_holds_402 (t := 420) rfl ?_
                        first | exact put _ _ _ _ _ _ (show true = _ by cases av <;> cases bv <;> cases yl <;> first | rfl | contradiction) | exact put _ _ _ _ _ _ (show false = _ by cases av <;> cases bv <;> cases yl <;> first | rfl | contradiction)
                      · refine z_iconst hR dMO_holds_397 (v := 1) (n := 398) rfl rfl ?_
                        refine z_goto hR dMO_holds_398 (t := 420) rfl ?_
                        first | exact put _ _ _ _ _ _ (show true = _ by cases av <;> cases bv <;> cases yl <;> first | rfl | contradiction) | exact put _ _ _ _ _ _ (show false = _ by cases av <;> cases bv <;> cases yl <;> first | rfl | contradiction)
                  · refine z_iload hR dMO_holds_298 (n := 300) rfl rfl ?_
                    refine z_if_neB hR dMO_holds_300 (t := 308) (n := 303) rfl rfl (fun h300 => ?_) (fun h300 => ?_)
                    · refine z_iconst hR dMO_holds_308 (v := 1) (n := 309) rfl rfl ?_
                      refine z_goto hR dMO_holds_309 (t := 313) rfl ?_
                      refine z_istore hR dMO_holds_313 (n := 315) rfl (by decide) rfl ?_
                      refine z_aload_n hR dMO_holds_315 (n := 316) rfl rfl ?_
                      refine z_getR hR dMO_holds_316 (n := 319) rfl zgMO_81 (by decide) rfl rfl ?_
                      refine z_bipush hR dMO_holds_319 (v := nI 8) (n := 321) rfl rfl ?_
                      refine z_iload_n hR dMO_holds_321 (n := 322) rfl rfl ?_
                      refine z_imulN hR dMO_holds_322 (n := 323) rfl ?_
                      refine z_iload hR dMO_holds_323 (n := 325) rfl rfl ?_
                      refine z_iaddN hR dMO_holds_325 (n := 326) rfl ?_
                      refine z_iload_n hR dMO_holds_326 (n := 327) rfl rfl ?_
                      refine z_callS1 hR dMO_holds_327 (n := 330) rfl zcMO_134 zkMO_isTimed (by decide) (Nat.le_of_ble_eq_true rfl) (Nat.zero_le _) (m_MO_isTimed _ _) (fun r327 s327 h327 => ?_)
                      obtain ⟨rfl, e327⟩ := h327
                      subst s327
                      refine z_if_eqB hR dMO_holds_330 (t := 338) (n := 333) rfl rfl (fun h330 => ?_) (fun h330 => absurd h330 (by decide))
                      refine z_iload_n hR dMO_holds_338 (n := 339) rfl rfl ?_
                      refine z_bipush hR dMO_holds_339 (v := 33) (n := 341) rfl rfl ?_
                      refine z_icmp_ne hR dMO_holds_341 (t := 357) (n := 344) rfl rfl (fun _ => ?_) (fun h341 => absurd h341 (by decide))
                      refine z_iload_n hR dMO_holds_357 (n := 358) rfl rfl ?_
                      refine z_bipush hR dMO_holds_358 (v := 38) (n := 360) rfl rfl ?_
                      refine z_icmp_ne hR dMO_holds_360 (t := 381) (n := 363) rfl rfl (fun _ => ?_) (fun h360 => absurd h360 (by decide))
                      refine z_iload_n hR dMO_holds_381 (n := 382) rfl rfl ?_
                      refine z_bipush hR dMO_holds_382 (v := 124) (n := 384) rfl rfl ?_
                      refine z_icmp_ne hR dMO_holds_384 (t := 405) (n := 387) rfl rfl (fun h384 => absurd h384 (by decide)) (fun _ => ?_)
                      refine z_iload hR dMO_holds_387 (n := 389) rfl rfl ?_
                      refine z_if_neB hR dMO_holds_389 (t := 397) (n := 392) rfl rfl (fun h389 => ?_) (fun h389 => ?_)
                      · refine z_iconst hR dMO_holds_397 (v := 1) (n := 398) rfl rfl ?_
                        refine z_goto hR dMO_holds_398 (t := 420) rfl ?_
                        first | exact put _ _ _ _ _ _ (show true = _ by cases av <;> cases bv <;> cases yl <;> first | rfl | contradiction) | exact put _ _ _ _ _ _ (show false = _ by cases av <;> cases bv <;> cases yl <;> first | rfl | contradiction)
                      · refine z_iload hR dMO_holds_392 (n := 394) rfl rfl ?_
                        refine z_if_eqB hR dMO_holds_394 (t := 401) (n := 397) rfl rfl (fun h394 => ?_) (fun h394 => ?_)
                        · refine z_iconst hR dMO_holds_401 (v := 0) (n := 402) rfl rfl ?_
                          refine z_goto hR dMO_holds_402 (t := 420) rfl ?_
                          first | exact put _ _ _ _ _ _ (show true = _ by cases av <;> cases bv <;> cases yl <;> first | rfl | contradiction) | exact put _ _ _ _ _ _ (show false = _ by cases av <;> cases bv <;> cases yl <;> first | rfl | contradiction)
                        · refine z_iconst hR dMO_holds_397 (v := 1) (n := 398) rfl rfl ?_
                          refine z_goto hR dMO_holds_398 (t := 420) rfl ?_
                          first | exact put _ _ _ _ _ _ (show true = _ by cases av <;> cases bv <;> cases yl <;> first | rfl | contradiction) | exact put _ _ _ _ _ _ (show false = _ by cases av <;> cases bv <;> cases yl <;> first | rfl | contradiction)
                    · refine z_iload hR dMO_holds_303 (n := 305) rfl rfl ?_
                      refine z_if_eqB hR dMO_holds_305 (t := 312) (n := 308) rfl rfl (fun h305 => ?_) (fun h305 => ?_)
                      · refine z_iconst hR dMO_holds_312 (v := 0) (n := 313) rfl rfl ?_
                        refine z_istore hR dMO_holds_313 (n := 315) rfl (by decide) rfl ?_
                        refine z_aload_n hR dMO_holds_315 (n := 316) rfl rfl ?_
                        refine z_getR hR dMO_holds_316 (n := 319) rfl zgMO_81 (by decide) rfl rfl ?_
                        refine z_bipush hR dMO_holds_319 (v := nI 8) (n := 321) rfl rfl ?_
                        refine z_iload_n hR dMO_holds_321 (n := 322) rfl rfl ?_
                        refine z_imulN hR dMO_holds_322 (n := 323) rfl ?_
                        refine z_iload hR dMO_holds_323 (n := 325) rfl rfl ?_
                        refine z_iaddN hR dMO_holds_325 (n := 326) rfl ?_
                        refine z_iload_n hR dMO_holds_326 (n := 327) rfl rfl ?_
                        refine z_callS1 hR dMO_holds_327 (n := 330) rfl zcMO_134 zkMO_isTimed (by decide) (Nat.le_of_ble_eq_true rfl) (Nat.zero_le _) (m_MO_isTimed _ _) (fun r327 s327 h327 => ?_)
                        obtain ⟨rfl, e327⟩ := h327
                        subst s327
                        refine z_if_eqB hR dMO_holds_330 (t := 338) (n := 333) rfl rfl (fun h330 => ?_) (fun h330 => absurd h330 (by decide))
                        refine z_iload_n hR dMO_holds_338 (n := 339) rfl rfl ?_
                        refine z_bipush hR dMO_holds_339 (v := 33) (n := 341) rfl rfl ?_
                        refine z_icmp_ne hR dMO_holds_341 (t := 357) (n := 344) rfl rfl (fun _ => ?_) (fun h341 => absurd h341 (by decide))
                        refine z_iload_n hR dMO_holds_357 (n := 358) rfl rfl ?_
                        refine z_bipush hR dMO_holds_358 (v := 38) (n := 360) rfl rfl ?_
                        refine z_icmp_ne hR dMO_holds_360 (t := 381) (n := 363) rfl rfl (fun _ => ?_) (fun h360 => absurd h360 (by decide))
                        refine z_iload_n hR dMO_holds_381 (n := 382) rfl rfl ?_
                        refine z_bipush hR dMO_holds_382 (v := 124) (n := 384) rfl rfl ?_
                        refine z_icmp_ne hR dMO_holds_384 (t := 405) (n := 387) rfl rfl (fun h384 => absurd h384 (by decide)) (fun _ => ?_)
                        refine z_iload hR dMO_holds_387 (n := 389) rfl rfl ?_
                        refine z_if_neB hR dMO_holds_389 (t := 397) (n := 392) rfl rfl (fun h389 => ?_) (fun h389 => ?_)
                        · refine z_iconst hR dMO_holds_397 (v := 1) (n := 398) rfl rfl ?_
                          refine z_goto hR dMO_holds_398 (t := 420) rfl ?_
                          first | exact put _ _ _ _ _ _ (show true = _ by cases av <;> cases bv <;> cases yl <;> first | rfl | contradiction) | exact put _ _ _ _ _ _ (show false = _ by cases av <;> cases bv <;> cases yl <;> first | rfl | contradiction)
                        · refine z_iload hR dMO_holds_392 (n := 394) rfl rfl ?_
                          refine z_if_eqB hR dMO_holds_394 (t := 401) (n := 397) rfl rfl (fun h394 => ?_) (fun h394 => ?_)
                          · refine z_iconst hR dMO_holds_401 (v := 0) (n := 402) rfl rfl ?_
                            refine z_goto hR dMO_holds_402 (t := 420) rfl ?_
                            first | exact put _ _ _ _ _ _ (show true = _ by cases av <;> cases bv <;> cases yl <;> first | rfl | contradiction) | exact put _ _ _ _ _ _ (show false = _ by cases av <;> cases bv <;> cases yl <;> first | rfl | contradiction)
                          · refine z_iconst hR dMO_holds_397 (v := 1) (n := 398) rfl rfl ?_
                            refine z_goto hR dMO_holds_398 (t := 420) rfl ?_
                            first | exact put _ _ _ _ _ _ (show true = _ by cases av <;> cases bv <;> cases yl <;> first | rfl | contradiction) | exact put _ _ _ _ _ _ (show false = _ by cases av <;> cases bv <;> cases yl <;> first | rfl | contradiction)
                      · refine z_iconst hR dMO_holds_308 (v := 1) (n := 309) rfl rfl ?_
                        refine z_goto hR dMO_holds_309 (t := 313) rfl ?_
                        refine z_istore hR dMO_holds_313 (n := 315) rfl (by decide) rfl ?_
                        refine z_aload_n hR dMO_holds_315 (n := 316) rfl rfl ?_
                        refine z_getR hR dMO_holds_316 (n := 319) rfl zgMO_81 (by decide) rfl rfl ?_
                        refine z_bipush hR dMO_holds_319 (v := nI 8) (n := 321) rfl rfl ?_
                        refine z_iload_n hR dMO_holds_321 (n := 322) rfl rfl ?_
                        refine z_imulN hR dMO_holds_322 (n := 323) rfl ?_
                        refine z_iload hR dMO_holds_323 (n := 325) rfl rfl ?_
                        refine z_iaddN hR dMO_holds_325 (n := 326) rfl ?_
                        refine z_iload_n hR dMO_holds_326 (n := 327) rfl rfl ?_
                        refine z_callS1 hR dMO_holds_327 (n := 330) rfl zcMO_134 zkMO_isTimed (by decide) (Nat.le_of_ble_eq_true rfl) (Nat.zero_le _) (m_MO_isTimed _ _) (fun r327 s327 h327 => ?_)
                        obtain ⟨rfl, e327⟩ := h327
                        subst s327
                        refine z_if_eqB hR dMO_holds_330 (t := 338) (n := 333) rfl rfl (fun h330 => ?_) (fun h330 => absurd h330 (by decide))
                        refine z_iload_n hR dMO_holds_338 (n := 339) rfl rfl ?_
                        refine z_bipush hR dMO_holds_339 (v := 33) (n := 341) rfl rfl ?_
                        refine z_icmp_ne hR dMO_holds_341 (t := 357) (n := 344) rfl rfl (fun _ => ?_) (fun h341 => absurd h341 (by decide))
                        refine z_iload_n hR dMO_holds_357 (n := 358) rfl rfl ?_
                        refine z_bipush hR dMO_holds_358 (v := 38) (n := 360) rfl rfl ?_
                        refine z_icmp_ne hR dMO_holds_360 (t := 381) (n := 363) rfl rfl (fun _ => ?_) (fun h360 => absurd h360 (by decide))
                        refine z_iload_n hR dMO_holds_381 (n := 382) rfl rfl ?_
                        refine z_bipush hR dMO_holds_382 (v := 124) (n := 384) rfl rfl ?_
                        refine z_icmp_ne hR dMO_holds_384 (t := 405) (n := 387) rfl rfl (fun h384 => absurd h384 (by decide)) (fun _ => ?_)
                        refine z_iload hR dMO_holds_387 (n := 389) rfl rfl ?_
                        refine z_if_neB hR dMO_holds_389 (t := 397) (n := 392) rfl rfl (fun h389 => ?_) (fun h389 => ?_)
                        · refine z_iconst hR dMO_holds_397 (v := 1) (n := 398) rfl rfl ?_
                          refine z_goto hR dMO_holds_398 (t := 420) rfl ?_
                          first | exact put _ _ _ _ _ _ (show true = _ by cases av <;> cases bv <;> cases yl <;> first | rfl | contradiction) | exact put _ _ _ _ _ _ (show false = _ by cases av <;> cases bv <;> cases yl <;> first | rfl | contradiction)
                        · refine z_iload hR dMO_holds_392 (n := 394) rfl rfl ?_
                          refine z_if_eqB hR dMO_holds_394 (t := 401) (n := 397) rfl rfl (fun h394 => ?_) (fun h394 => ?_)
                          · refine z_iconst hR dMO_holds_401 (v := 0) (n := 402) rfl rfl ?_
                            refine z_goto hR dMO_holds_402 (t := 420) rfl ?_
                            first | exact put _ _ _ _ _ _ (show true = _ by cases av <;> cases bv <;> cases yl <;> first | rfl | contradiction) | exact put _ _ _ _ _ _ (show false = _ by cases av <;> cases bv <;> cases yl <;> first | rfl | contradiction)
                          · refine z_iconst hR dMO_holds_397 (v := 1) (n := 398) rfl rfl ?_
                            refine z_goto hR dMO_holds_398 (t := 420) rfl ?_
                            first | exact put _ _ _ _ _ _ (show true = _ by cases av <;> cases bv <;> cases yl <;> first | rfl | contradiction) | exact put _ _ _ _ _ _ (show false = _ by cases av <;> cases bv <;> cases yl <;> first | rfl | contradiction)
                ·
                  refine z_aload_n hR dMO_holds_190 (n := 191) rfl rfl ?_
                  refine z_getR hR dMO_holds_191 (n := 194) rfl zgMO_19 (by decide) rfl rfl ?_
                  refine z_iload_n hR dMO_holds_194 (n := 195) rfl rfl ?_
                  refine z_iald hR (_) dMO_holds_195 (n := 196) rfl (by decide) rfl (by decide) rfl (by omega) ?_
                  rw [hfx.2.2, q3]
                  refine z_if_geN hR dMO_holds_196 (t := 213) (n := 199) rfl rfl (by omega) ?_
                  refine z_aload_n hR dMO_holds_213 (n := 214) rfl rfl ?_
                  refine z_getR hR dMO_holds_214 (n := 217) rfl zgMO_81 (by decide) rfl rfl ?_
                  refine z_bipush hR dMO_holds_217 (v := nI 8) (n := 219) rfl rfl ?_
                  refine z_aload_n hR dMO_holds_219 (n := 220) rfl rfl ?_
                  refine z_getR hR dMO_holds_220 (n := 223) rfl zgMO_16 (by decide) rfl rfl ?_
                  refine z_iload_n hR dMO_holds_223 (n := 224) rfl rfl ?_
                  refine z_iald hR (_) dMO_holds_224 (n := 225) rfl (by decide) rfl (by decide) rfl (by omega) ?_
                  rw [hfx.2.1, q2]
                  refine z_imulN hR dMO_holds_225 (n := 226) rfl ?_
                  refine z_iload hR dMO_holds_226 (n := 228) rfl rfl ?_
                  refine z_iaddN hR dMO_holds_228 (n := 229) rfl ?_
                  refine z_zald hR (_) dMO_holds_229 (n := 230) rfl (by decide) rfl (by decide) rfl (by omega) ?_
                  rw [hl]
                  refine z_istore hR dMO_holds_230 (n := 232) rfl (by decide) rfl ?_
                  refine z_iload_n hR dMO_holds_232 (n := 233) rfl rfl ?_
                  refine z_bipush hR dMO_holds_233 (v := 88) (n := 235) rfl rfl ?_
                  refine z_icmp_ne hR dMO_holds_235 (t := 258) (n := 238) rfl rfl (fun _ => ?_) (fun h235 => absurd h235 (by decide))
                  refine z_iload_n hR dMO_holds_258 (n := 259) rfl rfl ?_
                  refine z_bipush hR dMO_holds_259 (v := 85) (n := 261) rfl rfl ?_
                  refine z_icmp_eq hR dMO_holds_261 (t := 270) (n := 264) rfl rfl (fun h261 => absurd h261 (by decide)) (fun _ => ?_)
                  refine z_iload_n hR dMO_holds_264 (n := 265) rfl rfl ?_
                  refine z_bipush hR dMO_holds_265 (v := 70) (n := 267) rfl rfl ?_
                  refine z_icmp_ne hR dMO_holds_267 (t := 293) (n := 270) rfl rfl (fun _ => ?_) (fun h267 => absurd h267 (by decide))
                  refine z_iload hR dMO_holds_293 (n := 295) rfl rfl ?_
                  refine z_if_eqB hR dMO_holds_295 (t := 312) (n := 298) rfl rfl (fun h295 => ?_) (fun h295 => ?_)
                  · refine z_iconst hR dMO_holds_312 (v := 0) (n := 313) rfl rfl ?_
                    refine z_istore hR dMO_holds_313 (n := 315) rfl (by decide) rfl ?_
                    refine z_aload_n hR dMO_holds_315 (n := 316) rfl rfl ?_
                    refine z_getR hR dMO_holds_316 (n := 319) rfl zgMO_81 (by decide) rfl rfl ?_
                    refine z_bipush hR dMO_holds_319 (v := nI 8) (n := 321) rfl rfl ?_
                    refine z_iload_n hR dMO_holds_321 (n := 322) rfl rfl ?_
                    refine z_imulN hR dMO_holds_322 (n := 323) rfl ?_
                    refine z_iload hR dMO_holds_323 (n := 325) rfl rfl ?_
                    refine z_iaddN hR dMO_holds_325 (n := 326) rfl ?_
                    refine z_iload_n hR dMO_holds_326 (n := 327) rfl rfl ?_
                    refine z_callS1 hR dMO_holds_327 (n := 330) rfl zcMO_134 zkMO_isTimed (by decide) (Nat.le_of_ble_eq_true rfl) (Nat.zero_le _) (m_MO_isTimed _ _) (fun r327 s327 h327 => ?_)
                    obtain ⟨rfl, e327⟩ := h327
                    subst s327
                    refine z_if_eqB hR dMO_holds_330 (t := 338) (n := 333) rfl rfl (fun h330 => ?_) (fun h330 => absurd h330 (by decide))
                    refine z_iload_n hR dMO_holds_338 (n := 339) rfl rfl ?_
                    refine z_bipush hR dMO_holds_339 (v := 33) (n := 341) rfl rfl ?_
                    refine z_icmp_ne hR dMO_holds_341 (t := 357) (n := 344) rfl rfl (fun _ => ?_) (fun h341 => absurd h341 (by decide))
                    refine z_iload_n hR dMO_holds_357 (n := 358) rfl rfl ?_
                    refine z_bipush hR dMO_holds_358 (v := 38) (n := 360) rfl rfl ?_
                    refine z_icmp_ne hR dMO_holds_360 (t := 381) (n := 363) rfl rfl (fun _ => ?_) (fun h360 => absurd h360 (by decide))
                    refine z_iload_n hR dMO_holds_381 (n := 382) rfl rfl ?_
                    refine z_bipush hR dMO_holds_382 (v := 124) (n := 384) rfl rfl ?_
                    refine z_icmp_ne hR dMO_holds_384 (t := 405) (n := 387) rfl rfl (fun _ => ?_) (fun h384 => absurd h384 (by decide))
                    refine z_iload hR dMO_holds_405 (n := 407) rfl rfl ?_
                    refine z_if_eqB hR dMO_holds_407 (t := 415) (n := 410) rfl rfl (fun h407 => ?_) (fun h407 => ?_)
                    · refine z_iconst hR dMO_holds_415 (v := 1) (n := 416) rfl rfl ?_
                      refine z_goto hR dMO_holds_416 (t := 420) rfl ?_
                      first | exact put _ _ _ _ _ _ (show true = _ by cases av <;> cases bv <;> cases yl <;> first | rfl | contradiction) | exact put _ _ _ _ _ _ (show false = _ by cases av <;> cases bv <;> cases yl <;> first | rfl | contradiction)
                    · refine z_iload hR dMO_holds_410 (n := 412) rfl rfl ?_
                      refine z_if_eqB hR dMO_holds_412 (t := 419) (n := 415) rfl rfl (fun h412 => ?_) (fun h412 => ?_)
                      · refine z_iconst hR dMO_holds_419 (v := 0) (n := 420) rfl rfl ?_
                        first | exact put _ _ _ _ _ _ (show true = _ by cases av <;> cases bv <;> cases yl <;> first | rfl | contradiction) | exact put _ _ _ _ _ _ (show false = _ by cases av <;> cases bv <;> cases yl <;> first | rfl | contradiction)
                      · refine z_iconst hR dMO_holds_415 (v := 1) (n := 416) rfl rfl ?_
                        refine z_goto hR dMO_holds_416 (t := 420) rfl ?_
                        first | exact put _ _ _ _ _ _ (show true = _ by cases av <;> cases bv <;> cases yl <;> first | rfl | contradiction) | exact put _ _ _ _ _ _ (show false = _ by cases av <;> cases bv <;> cases yl <;> first | rfl | contradiction)
                  · refine z_iload hR dMO_holds_298 (n := 300) rfl rfl ?_
                    refine z_if_neB hR dMO_holds_300 (t := 308) (n := 303) rfl rfl (fun h300 => ?_) (fun h300 => ?_)
                    · refine z_iconst hR dMO_holds_308 (v := 1) (n := 309) rfl rfl ?_
                      refine z_goto hR dMO_holds_309 (t := 313) rfl ?_
                      refine z_istore hR dMO_holds_313 (n := 315) rfl (by decide) rfl ?_
                      refine z_aload_n hR dMO_holds_315 (n := 316) rfl rfl ?_
                      refine z_getR hR dMO_holds_316 (n := 319) rfl zgMO_81 (by decide) rfl rfl ?_
                      refine z_bipush hR dMO_holds_319 (v := nI 8) (n := 321) rfl rfl ?_
                      refine z_iload_n hR dMO_holds_321 (n := 322) rfl rfl ?_
                      refine z_imulN hR dMO_holds_322 (n := 323) rfl ?_
                      refine z_iload hR dMO_holds_323 (n := 325) rfl rfl ?_
                      refine z_iaddN hR dMO_holds_325 (n := 326) rfl ?_
                      refine z_iload_n hR dMO_holds_326 (n := 327) rfl rfl ?_
                      refine z_callS1 hR dMO_holds_327 (n := 330) rfl zcMO_134 zkMO_isTimed (by decide) (Nat.le_of_ble_eq_true rfl) (Nat.zero_le _) (m_MO_isTimed _ _) (fun r327 s327 h327 => ?_)
                      obtain ⟨rfl, e327⟩ := h327
                      subst s327
                      refine z_if_eqB hR dMO_holds_330 (t := 338) (n := 333) rfl rfl (fun h330 => ?_) (fun h330 => absurd h330 (by decide))
                      refine z_iload_n hR dMO_holds_338 (n := 339) rfl rfl ?_
                      refine z_bipush hR dMO_holds_339 (v := 33) (n := 341) rfl rfl ?_
                      refine z_icmp_ne hR dMO_holds_341 (t := 357) (n := 344) rfl rfl (fun _ => ?_) (fun h341 => absurd h341 (by decide))
                      refine z_iload_n hR dMO_holds_357 (n := 358) rfl rfl ?_
                      refine z_bipush hR dMO_holds_358 (v := 38) (n := 360) rfl rfl ?_
                      refine z_icmp_ne hR dMO_holds_360 (t := 381) (n := 363) rfl rfl (fun _ => ?_) (fun h360 => absurd h360 (by decide))
                      refine z_iload_n hR dMO_holds_381 (n := 382) rfl rfl ?_
                      refine z_bipush hR dMO_holds_382 (v := 124) (n := 384) rfl rfl ?_
                      refine z_icmp_ne hR dMO_holds_384 (t := 405) (n := 387) rfl rfl (fun _ => ?_) (fun h384 => absurd h384 (by decide))
                      refine z_iload hR dMO_holds_405 (n := 407) rfl rfl ?_
                      refine z_if_eqB hR dMO_holds_407 (t := 415) (n := 410) rfl rfl (fun h407 => ?_) (fun h407 => ?_)
                      · refine z_iconst hR dMO_holds_415 (v := 1) (n := 416) rfl rfl ?_
                        refine z_goto hR dMO_holds_416 (t := 420) rfl ?_
                        first | exact put _ _ _ _ _ _ (show true = _ by cases av <;> cases bv <;> cases yl <;> first | rfl | contradiction) | exact put _ _ _ _ _ _ (show false = _ by cases av <;> cases bv <;> cases yl <;> first | rfl | contradiction)
                      · refine z_iload hR dMO_holds_410 (n := 412) rfl rfl ?_
                        refine z_if_eqB hR dMO_holds_412 (t := 419) (n := 415) rfl rfl (fun h412 => ?_) (fun h412 => ?_)
                        · refine z_iconst hR dMO_holds_419 (v := 0) (n := 420) rfl rfl ?_
                          first | exact put _ _ _ _ _ _ (show true = _ by cases av <;> cases bv <;> cases yl <;> first | rfl | contradiction) | exact put _ _ _ _ _ _ (show false = _ by cases av <;> cases bv <;> cases yl <;> first | rfl | contradiction)
                        · refine z_iconst hR dMO_holds_415 (v := 1) (n := 416) rfl rfl ?_
                          refine z_goto hR dMO_holds_416 (t := 420) rfl ?_
                          first | exact put _ _ _ _ _ _ (show true = _ by cases av <;> cases bv <;> cases yl <;> first | rfl | contradiction) | exact put _ _ _ _ _ _ (show false = _ by cases av <;> cases bv <;> cases yl <;> first | rfl | contradiction)
                    · refine z_iload hR dMO_holds_303 (n := 305) rfl rfl ?_
                      refine z_if_eqB hR dMO_holds_305 (t := 312) (n := 308) rfl rfl (fun h305 => ?_) (fun h305 => ?_)
                      · refine z_iconst hR dMO_holds_312 (v := 0) (n := 313) rfl rfl ?_
                        refine z_istore hR dMO_holds_313 (n := 315) rfl (by decide) rfl ?_
                        refine z_aload_n hR dMO_holds_315 (n := 316) rfl rfl ?_
                        refine z_getR hR dMO_holds_316 (n := 319) rfl zgMO_81 (by decide) rfl rfl ?_
                        refine z_bipush hR dMO_holds_319 (v := nI 8) (n := 321) rfl rfl ?_
                        refine z_iload_n hR dMO_holds_321 (n := 322) rfl rfl ?_
                        refine z_imulN hR dMO_holds_322 (n := 323) rfl ?_
                        refine z_iload hR dMO_holds_323 (n := 325) rfl rfl ?_
                        refine z_iaddN hR dMO_holds_325 (n := 326) rfl ?_
                        refine z_iload_n hR dMO_holds_326 (n := 327) rfl rfl ?_
                        refine z_callS1 hR dMO_holds_327 (n := 330) rfl zcMO_134 zkMO_isTimed (by decide) (Nat.le_of_ble_eq_true rfl) (Nat.zero_le _) (m_MO_isTimed _ _) (fun r327 s327 h327 => ?_)
                        obtain ⟨rfl, e327⟩ := h327
                        subst s327
                        refine z_if_eqB hR dMO_holds_330 (t := 338) (n := 333) rfl rfl (fun h330 => ?_) (fun h330 => absurd h330 (by decide))
                        refine z_iload_n hR dMO_holds_338 (n := 339) rfl rfl ?_
                        refine z_bipush hR dMO_holds_339 (v := 33) (n := 341) rfl rfl ?_
                        refine z_icmp_ne hR dMO_holds_341 (t := 357) (n := 344) rfl rfl (fun _ => ?_) (fun h341 => absurd h341 (by decide))
                        refine z_iload_n hR dMO_holds_357 (n := 358) rfl rfl ?_
                        refine z_bipush hR dMO_holds_358 (v := 38) (n := 360) rfl rfl ?_
                        refine z_icmp_ne hR dMO_holds_360 (t := 381) (n := 363) rfl rfl (fun _ => ?_) (fun h360 => absurd h360 (by decide))
                        refine z_iload_n hR dMO_holds_381 (n := 382) rfl rfl ?_
                        refine z_bipush hR dMO_holds_382 (v := 124) (n := 384) rfl rfl ?_
                        refine z_icmp_ne hR dMO_holds_384 (t := 405) (n := 387) rfl rfl (fun _ => ?_) (fun h384 => absurd h384 (by decide))
                        refine z_iload hR dMO_holds_405 (n := 407) rfl rfl ?_
                        refine z_if_eqB hR dMO_holds_407 (t := 415) (n := 410) rfl rfl (fun h407 => ?_) (fun h407 => ?_)
                        · refine z_iconst hR dMO_holds_415 (v := 1) (n := 416) rfl rfl ?_
                          refine z_goto hR dMO_holds_416 (t := 420) rfl ?_
                          first | exact put _ _ _ _ _ _ (show true = _ by cases av <;> cases bv <;> cases yl <;> first | rfl | contradiction) | exact put _ _ _ _ _ _ (show false = _ by cases av <;> cases bv <;> cases yl <;> first | rfl | contradiction)
                        · refine z_iload hR dMO_holds_410 (n := 412) rfl rfl ?_
                          refine z_if_eqB hR dMO_holds_412 (t := 419) (n := 415) rfl rfl (fun h412 => ?_) (fun h412 => ?_)
                          · refine z_iconst hR dMO_holds_419 (v := 0) (n := 420) rfl rfl ?_
                            first | exact put _ _ _ _ _ _ (show true = _ by cases av <;> cases bv <;> cases yl <;> first | rfl | contradiction) | exact put _ _ _ _ _ _ (show false = _ by cases av <;> cases bv <;> cases yl <;> first | rfl | contradiction)
                          · refine z_iconst hR dMO_holds_415 (v := 1) (n := 416) rfl rfl ?_
                            refine z_goto hR dMO_holds_416 (t := 420) rfl ?_
                            first | exact put _ _ _ _ _ _ (show true = _ by cases av <;> cases bv <;> cases yl <;> first | rfl | contradiction) | exact put _ _ _ _ _ _ (show false = _ by cases av <;> cases bv <;> cases yl <;> first | rfl | contradiction)
                      · refine z_iconst hR dMO_holds_308 (v := 1) (n := 309) rfl rfl ?_
                        refine z_goto hR dMO_holds_309 (t := 313) rfl ?_
                        refine z_istore hR dMO_holds_313 (n := 315) rfl (by decide) rfl ?_
                        refine z_aload_n hR dMO_holds_315 (n := 316) rfl rfl ?_
                        refine z_getR hR dMO_holds_316 (n := 319) rfl zgMO_81 (by decide) rfl rfl ?_
                        refine z_bipush hR dMO_holds_319 (v := nI 8) (n := 321) rfl rfl ?_
                        refine z_iload_n hR dMO_holds_321 (n := 322) rfl rfl ?_
                        refine z_imulN hR dMO_holds_322 (n := 323) rfl ?_
                        refine z_iload hR dMO_holds_323 (n := 325) rfl rfl ?_
                        refine z_iaddN hR dMO_holds_325 (n := 326) rfl ?_
                        refine z_iload_n hR dMO_holds_326 (n := 327) rfl rfl ?_
                        refine z_callS1 hR dMO_holds_327 (n := 330) rfl zcMO_134 zkMO_isTimed (by decide) (Nat.le_of_ble_eq_true rfl) (Nat.zero_le _) (m_MO_isTimed _ _) (fun r327 s327 h327 => ?_)
                        obtain ⟨rfl, e327⟩ := h327
                        subst s327
                        refine z_if_eqB hR dMO_holds_330 (t := 338) (n := 333) rfl rfl (fun h330 => ?_) (fun h330 => absurd h330 (by decide))
                        refine z_iload_n hR dMO_holds_338 (n := 339) rfl rfl ?_
                        refine z_bipush hR dMO_holds_339 (v := 33) (n := 341) rfl rfl ?_
                        refine z_icmp_ne hR dMO_holds_341 (t := 357) (n := 344) rfl rfl (fun _ => ?_) (fun h341 => absurd h341 (by decide))
                        refine z_iload_n hR dMO_holds_357 (n := 358) rfl rfl ?_
                        refine z_bipush hR dMO_holds_358 (v := 38) (n := 360) rfl rfl ?_
                        refine z_icmp_ne hR dMO_holds_360 (t := 381) (n := 363) rfl rfl (fun _ => ?_) (fun h360 => absurd h360 (by decide))
                        refine z_iload_n hR dMO_holds_381 (n := 382) rfl rfl ?_
                        refine z_bipush hR dMO_holds_382 (v := 124) (n := 384) rfl rfl ?_
                        refine z_icmp_ne hR dMO_holds_384 (t := 405) (n := 387) rfl rfl (fun _ => ?_) (fun h384 => absurd h384 (by decide))
                        refine z_iload hR dMO_holds_405 (n := 407) rfl rfl ?_
                        refine z_if_eqB hR dMO_holds_407 (t := 415) (n := 410) rfl rfl (fun h407 => ?_) (fun h407 => ?_)
                        · refine z_iconst hR dMO_holds_415 (v := 1) (n := 416) rfl rfl ?_
                          refine z_goto hR dMO_holds_416 (t := 420) rfl ?_
                          first | exact put _ _ _ _ _ _ (show true = _ by cases av <;> cases bv <;> cases yl <;> first | rfl | contradiction) | exact put _ _ _ _ _ _ (show false = _ by cases av <;> cases bv <;> cases yl <;> first | rfl | contradiction)
                        · refine z_iload hR dMO_holds_410 (n := 412) rfl rfl ?_
                          refine z_if_eqB hR dMO_holds_412 (t := 419) (n := 415) rfl rfl (fun h412 => ?_) (fun h412 => ?_)
                          · refine z_iconst hR dMO_holds_419 (v := 0) (n := 420) rfl rfl ?_
                            first | exact put _ _ _ _ _ _ (show true = _ by cases av <;> cases bv <;> cases yl <;> first | rfl | contradiction) | exact put _ _ _ _ _ _ (show false = _ by cases av <;> cases bv <;> cases yl <;> first | rfl | contradiction)
                          · refine z_iconst hR dMO_holds_415 (v := 1) (n := 416) rfl rfl ?_
                            refine z_goto hR dMO_holds_416 (t := 420) rfl ?_
                            first | exact put _ _ _ _ _ _ (show true = _ by cases av <;> cases bv <;> cases yl <;> first | rfl | contradiction) | exact put _ _ _ _ _ _ (show false = _ by cases av <;> cases bv <;> cases yl <;> first | rfl | contradiction)
          refine z_iload hR dMO_holds_108 (n := 110) rfl rfl ?_
          refine z_iconst hR dMO_holds_110 (v := nI 2) (n := 111) rfl rfl ?_
          refine z_icmp_geN hR dMO_holds_111 (t := 433) (n := 114) rfl rfl (by omega) (by omega) (fun h111 => absurd h111 (by omega)) (fun h111 => ?_)
          refine z_iload_n hR dMO_holds_114 (n := 115) rfl rfl ?_
          refine z_callS1 hR dMO_holds_115 (n := 118) rfl zcMO_127 zkMO_isAtom (by decide) (Nat.le_of_ble_eq_true rfl) (Nat.zero_le _) (m_MO_isAtom c τ2) (fun r115 s115 h115 => ?_)
          obtain ⟨rfl, e115⟩ := h115
          subst s115
          refine z_if_neB hR dMO_holds_118 (t := 433) (n := 121) rfl rfl (fun h118 => absurd h118 (by rw [hat]; decide)) (fun h118 => ?_)
          refine z_aload_n hR dMO_holds_121 (n := 122) rfl rfl ?_
          refine z_getI hR dMO_holds_122 (n := 125) rfl zgMO_208 (by decide) rfl rfl ?_
          rw [hf2.1 45 (by decide), L1]
          refine z_iconst hR dMO_holds_125 (v := nI 1) (n := 126) rfl rfl ?_
          refine z_isubN hR dMO_holds_126 (n := 127) rfl (by omega) ?_
          refine z_istore hR dMO_holds_127 (n := 129) rfl (by decide) rfl ?_
          exact sweep k _ τ2 _ _ _ _ _ (Nat.le_refl _) (fun e => absurd e (by omega)) (fun p e => by subst e; rfl) hf2 hV2 (fun q hq => by rw [hW q hq, if_neg (by omega)])
      -- the first values
      have hin : ∀ (m2 p : Nat) (τ2 : zS) (l5 l6 l7 l8 l9 l10 : Option Value), p + m2 = k → zfr [69] σ τ2 → (∀ y, y < x → ∀ p, p < k → τ2.1 69 (8 * y + p) = zb (V y p)) → (∀ q, q < p → τ2.1 69 (8 * x + q) = zb (rel c || la c (σ.1 57 (st q)))) → Z 0 20 [some (.ref 45), some (.int (nI i)), some (.int (nI x)), some (.int c), some (.int (nI p)), l5, l6, l7, l8, l9, l10] [] τ2 := by
        intro m2
        induction m2 with
        | zero =>
          intro p τ2 l5 l6 l7 l8 l9 l10 hp hf2 hV2 hI
          obtain rfl : p = k := by omega
          refine z_iload hR dMO_holds_20 (n := 22) rfl rfl ?_
          refine z_aload_n hR dMO_holds_22 (n := 23) rfl rfl ?_
          refine z_getI hR dMO_holds_23 (n := 26) rfl zgMO_208 (by decide) rfl rfl ?_
          rw [hf2.1 45 (by decide), L1]
          refine z_icmp_geN hR dMO_holds_26 (t := 105) (n := 29) rfl rfl (by omega) (by omega) (fun h26 => ?_) (fun h26 => absurd h26 (by omega))
          refine z_iconst hR dMO_holds_105 (v := nI 0) (n := 106) rfl rfl ?_
          refine z_istore hR dMO_holds_106 (n := 108) rfl (by decide) rfl ?_
          first | skip
          by_cases hat : atm c = true
          ·
            refine z_iload hR dMO_holds_108 (n := 110) rfl rfl ?_
            refine z_iconst hR dMO_holds_110 (v := nI 2) (n := 111) rfl rfl ?_
            refine z_icmp_geN hR dMO_holds_111 (t := 433) (n := 114) rfl rfl (by omega) (by omega) (fun h111 => absurd h111 (by omega)) (fun h111 => ?_)
            refine z_iload_n hR dMO_holds_114 (n := 115) rfl rfl ?_
            refine z_callS1 hR dMO_holds_115 (n := 118) rfl zcMO_127 zkMO_isAtom (by decide) (Nat.le_of_ble_eq_true rfl) (Nat.zero_le _) (m_MO_isAtom c τ2) (fun r115 s115 h115 => ?_)
            obtain ⟨rfl, e115⟩ := h115
            subst s115
            refine z_if_neB hR dMO_holds_118 (t := 433) (n := 121) rfl rfl (fun h118 => ?_) (fun h118 => absurd h118 (by rw [hat]; decide))
            exact done (fun q => la c (σ.1 57 (st q))) τ2 _ _ _ _ _ _ _ _ hf2 hV2 (fun q hq => by rw [hI q hq, rel, decide_eq_false (fun e => by rcases e with e | e; exact (ini_at hat).1 e; exact (ini_at hat).2 e), Bool.false_or]) (fun q hq => by rw [hvl, hc, if_pos hat])
          ·
            have hrk : 1 ≤ rk c := by
              rcases hshx with ⟨q1, _, _⟩ | ⟨q1, _⟩ | ⟨q1, _⟩
              · rw [hc] at q1
                exact absurd q1 hat
              · rw [hc] at q1
                omega
              · rw [hc] at q1
                exact q1
            exact passes hrk 2 0 (fun _ => rel c) τ2 _ _ _ _ _ _ (by omega) hf2 hV2 (fun q hq => by
              rw [hI q hq, la, decide_eq_false (ini_rk hrk).1, decide_eq_false (ini_rk hrk).2.1, Bool.false_and, Bool.or_false, Bool.or_false]) (fun _ q hq => rfl) (fun e => absurd e (by omega)) (fun e => absurd e (by omega))
        | succ m2 ih2 =>
          intro p τ2 l5 l6 l7 l8 l9 l10 hp hf2 hV2 hI
          obtain ⟨s1, s2⟩ := L3 p (by omega)
          have put : ∀ (v : Bool), v = (rel c || la c (σ.1 57 (st p))) → Z 0 98 [some (.ref 45), some (.int (nI i)), some (.int (nI x)), some (.int c), some (.int (nI p)), l5, l6, l7, l8, l9, l10] [.int (zb v), .int (nI (8 * x + p)), .ref 69] τ2 := by
            intro v hv
            refine z_zast hR (_) dMO_holds_98 (n := 99) rfl (by decide) rfl (by decide) rfl (by omega) ?_
            rw [zb_vn]
            refine z_iincN hR 1 dMO_holds_99 (n := 102) rfl rfl (by decide) rfl rfl ?_
            refine z_goto hR dMO_holds_102 (t := 20) rfl ?_
            refine ih2 (p + 1) _ _ _ _ _ _ _ (by omega) (hf2.wA _ (by decide)) (fun y hy q hq => ?_) (fun q hq => ?_)
            · rw [zwA_sn _ _ _ _ (by omega)]
              exact hV2 y hy q hq
            · by_cases e : q = p
              · subst e
                rw [zwA_ss, hv]
              · rw [zwA_sn _ _ _ _ (by omega)]
                exact hI q (by omega)
          refine z_iload hR dMO_holds_20 (n := 22) rfl rfl ?_
          refine z_aload_n hR dMO_holds_22 (n := 23) rfl rfl ?_
          refine z_getI hR dMO_holds_23 (n := 26) rfl zgMO_208 (by decide) rfl rfl ?_
          rw [hf2.1 45 (by decide), L1]
          refine z_icmp_geN hR dMO_holds_26 (t := 105) (n := 29) rfl rfl (by omega) (by omega) (fun h26 => absurd h26 (by omega)) (fun h26 => ?_)
          refine z_aload_n hR dMO_holds_29 (n := 30) rfl rfl ?_
          refine z_getR hR dMO_holds_30 (n := 33) rfl zgMO_81 (by decide) rfl rfl ?_
          refine z_bipush hR dMO_holds_33 (v := nI 8) (n := 35) rfl rfl ?_
          refine z_iload_n hR dMO_holds_35 (n := 36) rfl rfl ?_
          refine z_imulN hR dMO_holds_36 (n := 37) rfl ?_
          refine z_iload hR dMO_holds_37 (n := 39) rfl rfl ?_
          refine z_iaddN hR dMO_holds_39 (n := 40) rfl ?_
          refine z_iload_n hR dMO_holds_40 (n := 41) rfl rfl ?_
          refine z_bipush hR dMO_holds_41 (v := 82) (n := 43) rfl rfl ?_
          refine z_icmp_eq hR dMO_holds_43 (t := 93) (n := 46) rfl rfl (fun h43 => ?_) (fun h43 => ?_)
          · refine z_iconst hR dMO_holds_93 (v := 1) (n := 94) rfl rfl ?_
            refine z_goto hR dMO_holds_94 (t := 98) rfl ?_
            first
              | exact put true (by rw [h43]; rfl)
              | exact put true (by rw [h49]; rfl)
              | exact put true (by rw [h55]; rfl)
              | exact put true (by rw [w5, zb_1.mp h90]; simp)
              | exact put false (by
                  have e1 : rel c = false := by simp [rel, h43, h49]
                  have e2 : tb (σ.1 57 (st p)) (w - 112) = false := by
                    cases e3 : tb (σ.1 57 (st p)) (w - 112)
                    · rfl
                    · exact absurd (by rw [e3]; rfl) h90
                  rw [w5, e1, e2]
                  simp [h55])
              | exact put false (by
                  have e1 : rel c = false := by simp [rel, h43, h49]
                  rw [e1, la, decide_eq_false h55, decide_eq_false (fun q => Int32.not_lt.mpr q.1 h61)]
                  rfl)
              | exact put false (by
                  have e1 : rel c = false := by simp [rel, h43, h49]
                  rw [e1, la, decide_eq_false h55, decide_eq_false (fun q => Int32.not_lt.mpr q.2 h67)]
                  rfl)
          · refine z_iload_n hR dMO_holds_46 (n := 47) rfl rfl ?_
            refine z_bipush hR dMO_holds_47 (v := 71) (n := 49) rfl rfl ?_
            refine z_icmp_eq hR dMO_holds_49 (t := 93) (n := 52) rfl rfl (fun h49 => ?_) (fun h49 => ?_)
            · refine z_iconst hR dMO_holds_93 (v := 1) (n := 94) rfl rfl ?_
              refine z_goto hR dMO_holds_94 (t := 98) rfl ?_
              first
                | exact put true (by rw [h43]; rfl)
                | exact put true (by rw [h49]; rfl)
                | exact put true (by rw [h55]; rfl)
                | exact put true (by rw [w5, zb_1.mp h90]; simp)
                | exact put false (by
                    have e1 : rel c = false := by simp [rel, h43, h49]
                    have e2 : tb (σ.1 57 (st p)) (w - 112) = false := by
                      cases e3 : tb (σ.1 57 (st p)) (w - 112)
                      · rfl
                      · exact absurd (by rw [e3]; rfl) h90
                    rw [w5, e1, e2]
                    simp [h55])
                | exact put false (by
                    have e1 : rel c = false := by simp [rel, h43, h49]
                    rw [e1, la, decide_eq_false h55, decide_eq_false (fun q => Int32.not_lt.mpr q.1 h61)]
                    rfl)
                | exact put false (by
                    have e1 : rel c = false := by simp [rel, h43, h49]
                    rw [e1, la, decide_eq_false h55, decide_eq_false (fun q => Int32.not_lt.mpr q.2 h67)]
                    rfl)
            · refine z_iload_n hR dMO_holds_52 (n := 53) rfl rfl ?_
              refine z_bipush hR dMO_holds_53 (v := 49) (n := 55) rfl rfl ?_
              refine z_icmp_eq hR dMO_holds_55 (t := 93) (n := 58) rfl rfl (fun h55 => ?_) (fun h55 => ?_)
              · refine z_iconst hR dMO_holds_93 (v := 1) (n := 94) rfl rfl ?_
                refine z_goto hR dMO_holds_94 (t := 98) rfl ?_
                first
                  | exact put true (by rw [h43]; rfl)
                  | exact put true (by rw [h49]; rfl)
                  | exact put true (by rw [h55]; rfl)
                  | exact put true (by rw [w5, zb_1.mp h90]; simp)
                  | exact put false (by
                      have e1 : rel c = false := by simp [rel, h43, h49]
                      have e2 : tb (σ.1 57 (st p)) (w - 112) = false := by
                        cases e3 : tb (σ.1 57 (st p)) (w - 112)
                        · rfl
                        · exact absurd (by rw [e3]; rfl) h90
                      rw [w5, e1, e2]
                      simp [h55])
                  | exact put false (by
                      have e1 : rel c = false := by simp [rel, h43, h49]
                      rw [e1, la, decide_eq_false h55, decide_eq_false (fun q => Int32.not_lt.mpr q.1 h61)]
                      rfl)
                  | exact put false (by
                      have e1 : rel c = false := by simp [rel, h43, h49]
                      rw [e1, la, decide_eq_false h55, decide_eq_false (fun q => Int32.not_lt.mpr q.2 h67)]
                      rfl)
              · refine z_iload_n hR dMO_holds_58 (n := 59) rfl rfl ?_
                refine z_bipush hR dMO_holds_59 (v := 112) (n := 61) rfl rfl ?_
                refine z_icmp_lt hR dMO_holds_61 (t := 97) (n := 64) rfl rfl (fun h61 => ?_) (fun h61 => ?_)
                · refine z_iconst hR dMO_holds_97 (v := 0) (n := 98) rfl rfl ?_
                  first
                    | exact put true (by rw [h43]; rfl)
                    | exact put true (by rw [h49]; rfl)
                    | exact put true (by rw [h55]; rfl)
                    | exact put true (by rw [w5, zb_1.mp h90]; simp)
                    | exact put false (by
                        have e1 : rel c = false := by simp [rel, h43, h49]
                        have e2 : tb (σ.1 57 (st p)) (w - 112) = false := by
                          cases e3 : tb (σ.1 57 (st p)) (w - 112)
                          · rfl
                          · exact absurd (by rw [e3]; rfl) h90
                        rw [w5, e1, e2]
                        simp [h55])
                    | exact put false (by
                        have e1 : rel c = false := by simp [rel, h43, h49]
                        rw [e1, la, decide_eq_false h55, decide_eq_false (fun q => Int32.not_lt.mpr q.1 h61)]
                        rfl)
                    | exact put false (by
                        have e1 : rel c = false := by simp [rel, h43, h49]
                        rw [e1, la, decide_eq_false h55, decide_eq_false (fun q => Int32.not_lt.mpr q.2 h67)]
                        rfl)
                · refine z_iload_n hR dMO_holds_64 (n := 65) rfl rfl ?_
                  refine z_bipush hR dMO_holds_65 (v := 115) (n := 67) rfl rfl ?_
                  refine z_icmp_gt hR dMO_holds_67 (t := 97) (n := 70) rfl rfl (fun h67 => ?_) (fun h67 => ?_)
                  · refine z_iconst hR dMO_holds_97 (v := 0) (n := 98) rfl rfl ?_
                    first
                      | exact put true (by rw [h43]; rfl)
                      | exact put true (by rw [h49]; rfl)
                      | exact put true (by rw [h55]; rfl)
                      | exact put true (by rw [w5, zb_1.mp h90]; simp)
                      | exact put false (by
                          have e1 : rel c = false := by simp [rel, h43, h49]
                          have e2 : tb (σ.1 57 (st p)) (w - 112) = false := by
                            cases e3 : tb (σ.1 57 (st p)) (w - 112)
                            · rfl
                            · exact absurd (by rw [e3]; rfl) h90
                          rw [w5, e1, e2]
                          simp [h55])
                      | exact put false (by
                          have e1 : rel c = false := by simp [rel, h43, h49]
                          rw [e1, la, decide_eq_false h55, decide_eq_false (fun q => Int32.not_lt.mpr q.1 h61)]
                          rfl)
                      | exact put false (by
                          have e1 : rel c = false := by simp [rel, h43, h49]
                          rw [e1, la, decide_eq_false h55, decide_eq_false (fun q => Int32.not_lt.mpr q.2 h67)]
                          rfl)
                  · obtain ⟨w, w1, w2⟩ := nI_of2 (x := c) (M := 115) (n := 115) (by decide) (fun q => absurd (Int32.lt_trans q (by decide : (0 : Int32) < 112)) h61) (Int32.not_lt.mp h67)
                    have w3 : 112 ≤ w := by
                      have := Int32.not_lt.mp h61
                      rw [w2] at this
                      exact (nI_leI (a := 112) (by decide) (by omega)).mp this
                    have w4 : c - 112 = nI (w - 112) := by rw [w2]; exact pk_sub w3
                    have w5 : la c (σ.1 57 (st p)) = (decide (c = 49) || tb (σ.1 57 (st p)) (w - 112)) := by rw [la, decide_eq_true (show 112 ≤ c ∧ c ≤ 115 from ⟨Int32.not_lt.mp h61, Int32.not_lt.mp h67⟩), Bool.true_and, w4, nI_clamp (by omega)]
                    refine z_aload_n hR dMO_holds_70 (n := 71) rfl rfl ?_
                    refine z_getR hR dMO_holds_71 (n := 74) rfl zgMO_43 (by decide) rfl rfl ?_
                    refine z_aload_n hR dMO_holds_74 (n := 75) rfl rfl ?_
                    refine z_getR hR dMO_holds_75 (n := 78) rfl zgMO_78 (by decide) rfl rfl ?_
                    refine z_iload hR dMO_holds_78 (n := 80) rfl rfl ?_
                    refine z_iald hR (_) dMO_holds_80 (n := 81) rfl (by decide) rfl (by decide) rfl (by omega) ?_
                    rw [hf2.1 68 (by decide), s1]
                    refine z_iald hR (_) dMO_holds_81 (n := 82) rfl (by decide) rfl (by decide) rfl (by omega) ?_
                    rw [hf2.1 57 (by decide)]
                    refine z_iload_n hR dMO_holds_82 (n := 83) rfl rfl ?_
                    refine z_bipush hR dMO_holds_83 (v := 112) (n := 85) rfl rfl ?_
                    refine z_isub hR dMO_holds_85 (n := 86) rfl ?_
                    rw [w4]
                    refine z_ishr hR dMO_holds_86 (n := 87) rfl ?_
                    refine z_iconst hR dMO_holds_87 (v := 1) (n := 88) rfl rfl ?_
                    refine z_iand hR dMO_holds_88 (n := 89) rfl ?_
                    rw [tb_sr1 _ (by omega : w - 112 < 32)]
                    refine z_iconst hR dMO_holds_89 (v := 1) (n := 90) rfl rfl ?_
                    refine z_icmp_ne hR dMO_holds_90 (t := 97) (n := 93) rfl rfl (fun h90 => ?_) (fun h90 => ?_)
                    · refine z_iconst hR dMO_holds_97 (v := 0) (n := 98) rfl rfl ?_
                      first
                        | exact put true (by rw [h43]; rfl)
                        | exact put true (by rw [h49]; rfl)
                        | exact put true (by rw [h55]; rfl)
                        | exact put true (by rw [w5, zb_1.mp h90]; simp)
                        | exact put false (by
                            have e1 : rel c = false := by simp [rel, h43, h49]
                            have e2 : tb (σ.1 57 (st p)) (w - 112) = false := by
                              cases e3 : tb (σ.1 57 (st p)) (w - 112)
                              · rfl
                              · exact absurd (by rw [e3]; rfl) h90
                            rw [w5, e1, e2]
                            simp [h55])
                        | exact put false (by
                            have e1 : rel c = false := by simp [rel, h43, h49]
                            rw [e1, la, decide_eq_false h55, decide_eq_false (fun q => Int32.not_lt.mpr q.1 h61)]
                            rfl)
                        | exact put false (by
                            have e1 : rel c = false := by simp [rel, h43, h49]
                            rw [e1, la, decide_eq_false h55, decide_eq_false (fun q => Int32.not_lt.mpr q.2 h67)]
                            rfl)
                    · refine z_iconst hR dMO_holds_93 (v := 1) (n := 94) rfl rfl ?_
                      refine z_goto hR dMO_holds_94 (t := 98) rfl ?_
                      first
                        | exact put true (by rw [h43]; rfl)
                        | exact put true (by rw [h49]; rfl)
                        | exact put true (by rw [h55]; rfl)
                        | exact put true (by rw [w5, zb_1.mp h90]; simp)
                        | exact put false (by
                            have e1 : rel c = false := by simp [rel, h43, h49]
                            have e2 : tb (σ.1 57 (st p)) (w - 112) = false := by
                              cases e3 : tb (σ.1 57 (st p)) (w - 112)
                              · rfl
                              · exact absurd (by rw [e3]; rfl) h90
                            rw [w5, e1, e2]
                            simp [h55])
                        | exact put false (by
                            have e1 : rel c = false := by simp [rel, h43, h49]
                            rw [e1, la, decide_eq_false h55, decide_eq_false (fun q => Int32.not_lt.mpr q.1 h61)]
                            rfl)
                        | exact put false (by
                            have e1 : rel c = false := by simp [rel, h43, h49]
                            rw [e1, la, decide_eq_false h55, decide_eq_false (fun q => Int32.not_lt.mpr q.2 h67)]
                            rfl)
      refine z_iload_n hR dMO_holds_2 (n := 3) rfl rfl ?_
      refine z_aload_n hR dMO_holds_3 (n := 4) rfl rfl ?_
      refine z_getI hR dMO_holds_4 (n := 7) rfl zgMO_145 (by decide) rfl rfl ?_
      rw [hf.1 45 (by decide), hN]
      refine z_icmp_geN hR dMO_holds_7 (t := 439) (n := 10) rfl rfl (by omega) (by omega) (fun h7 => absurd h7 (by omega)) (fun h7 => ?_)
      refine z_aload_n hR dMO_holds_10 (n := 11) rfl rfl ?_
      refine z_getR hR dMO_holds_11 (n := 14) rfl zgMO_13 (by decide) rfl rfl ?_
      refine z_iload_n hR dMO_holds_14 (n := 15) rfl rfl ?_
      refine z_iald hR (_) dMO_holds_15 (n := 16) rfl (by decide) rfl (by decide) rfl (by omega) ?_
      rw [(hfa τ hf x hxn).1, hc]
      refine z_istore_n hR dMO_holds_16 (n := 17) rfl (by decide) rfl ?_
      refine z_iconst hR dMO_holds_17 (v := nI 0) (n := 18) rfl rfl ?_
      refine z_istore hR dMO_holds_18 (n := 20) rfl (by decide) rfl ?_
      exact hin k 0 τ _ _ _ _ _ _ (by omega) hf hV (fun q hq => absurd hq (by omega))
  refine z_iconst hR dMO_holds_0 (v := nI 0) (n := 1) rfl rfl ?_
  refine z_istore_n hR dMO_holds_1 (n := 2) rfl (by decide) rfl ?_
  exact key n 0 (fun _ _ => false) σ _ _ _ _ _ _ _ _ (by omega) zfr.rf (fun y hy => absurd hy (by omega)) (fun y hy => absurd hy (by omega))
