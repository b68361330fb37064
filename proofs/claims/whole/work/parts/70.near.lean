/-! Nearness: pure rows -/
section NR
variable {T : Nat} {J : Nat → Nat → Bool} {pre : Nat → Nat → Nat → Nat} {goal : Nat → Nat → Prop}
theorem eG_at (hT : T ≤ 5) (hpre : ∀ s t, s < 6 → t < 6 → J s t = true → ∀ g, g < 2 ^ T → pre s t g < 2 ^ T) {s q w : Nat} (hs : s < 6) (hq : q < 32) : eG 32 T J pre (32 * s + q) w ↔ ∃ t, t < 6 ∧ J s t = true ∧ ∃ g, g < 2 ^ T ∧ w = 32 * t + g ∧ pre s t g = q := by
  have p5 : (2 : Nat) ^ T ≤ 32 := Nat.pow_le_pow_right (by omega : 0 < 2) hT
  constructor
  · rintro ⟨s2, t, G, a1, a2, a3, a4, a5, a6⟩
    have := hpre s2 t a1 a2 a3 G a4
    obtain ⟨e1, e2⟩ := nd_eq (c := 32) hq (by omega) a6
    subst e1
    exact ⟨t, a2, a3, G, a4, a5, e2.symm⟩
  · rintro ⟨t, a2, a3, G, a4, a5, a6⟩
    exact ⟨s, t, G, hs, a2, a3, a4, a5, by rw [a6]⟩
theorem kN_at (hT : T ≤ 5) (hpre : ∀ s t, s < 6 → t < 6 → J s t = true → ∀ g, g < 2 ^ T → pre s t g < 2 ^ T) {d s q : Nat} (hs : s < 6) (hq : q < 32) : (q < 2 ^ T ∧ kN (eG 32 T J pre) goal T (d + 1) (32 * s + q)) ↔ ((q < 2 ^ T ∧ kN (eG 32 T J pre) goal T d (32 * s + q)) ∨ ∃ t, t < 6 ∧ J s t = true ∧ ∃ g, g < 2 ^ T ∧ (g < 2 ^ T ∧ kN (eG 32 T J pre) goal T d (32 * t + g)) ∧ pre s t g = q) := by
  rw [kN_s]
  constructor
  · rintro ⟨h1, h2 | ⟨w, h2, h3⟩⟩
    · exact Or.inl ⟨h1, h2⟩
    · obtain ⟨t, a1, a2, g, a3, rfl, a4⟩ := (eG_at hT hpre hs hq).mp h2
      exact Or.inr ⟨t, a1, a2, g, a3, ⟨a3, h3⟩, a4⟩
  · rintro (⟨h1, h2⟩ | ⟨t, a1, a2, g, a3, ⟨_, h3⟩, a4⟩)
    · exact ⟨h1, Or.inl h2⟩
    · exact ⟨by rw [← a4]; exact hpre s t hs a1 a2 g a3, Or.inr ⟨_, (eG_at hT hpre hs hq).mpr ⟨t, a1, a2, g, a3, rfl, a4⟩, h3⟩⟩
theorem kN_B {d v : Nat} {E : Nat → Nat → Prop} (h : kN E goal T d v) : gx_B E goal T v := by
  obtain ⟨e, w, _, h2, h3⟩ := h
  exact ⟨w, ⟨e, h2⟩, h3⟩
/-- a set that holds the knots and all that goes before it -/
theorem B_in (hT : T ≤ 5) (hpre : ∀ s t, s < 6 → t < 6 → J s t = true → ∀ g, g < 2 ^ T → pre s t g < 2 ^ T) {R : Nat → Nat → Prop} (h1 : ∀ s g, s < 6 → g < 2 ^ T → gx_K (eG 32 T J pre) goal T (32 * s + g) → R s g) (h2 : ∀ s q t g, s < 6 → t < 6 → J s t = true → g < 2 ^ T → R t g → pre s t g = q → R s q) {s g : Nat} (hg : g < 2 ^ T) (h : gx_B (eG 32 T J pre) goal T (32 * s + g)) : R s g := by
  have p5 : (2 : Nat) ^ T ≤ 32 := Nat.pow_le_pow_right (by omega : 0 < 2) hT
  obtain ⟨w, ⟨n, hn⟩, hk⟩ := h
  have key : ∀ n v, gx_N (eG 32 T J pre) n v w → ∃ s g, s < 6 ∧ g < 2 ^ T ∧ v = 32 * s + g ∧ R s g := by
    intro n
    induction n with
    | zero =>
      intro v hv
      have e : v = w := hv
      subst e
      obtain ⟨c, ⟨s, t, G, a1, a2, a3, a4, a5, a6⟩, _⟩ := hk.1
      have a7 := hpre s t a1 a2 a3 G a4
      refine ⟨s, _, a1, a7, a6, h1 s _ a1 a7 ?_⟩
      rw [← a6]
      exact hk
    | succ n ih =>
      intro v hv
      obtain ⟨c, ⟨s, t, G, a1, a2, a3, a4, a5, a6⟩, hc⟩ := hv
      obtain ⟨t2, G2, b1, b2, b3, b4⟩ := ih c hc
      obtain ⟨e1, e2⟩ := nd_eq (c := 32) (by omega) (by omega) (a5.symm.trans b3)
      subst e1
      subst e2
      exact ⟨s, _, a1, hpre s t a1 a2 a3 G a4, a6, h2 s _ t G a1 a2 a3 a4 b4 rfl⟩
  obtain ⟨s2, g2, a1, a2, a3, a4⟩ := key n _ hn
  obtain ⟨e1, e2⟩ := nd_eq (c := 32) (by omega) (by omega) a3
  subst e1
  subst e2
  exact a4
end NR
theorem tb_ne {x y : Int32} (h : x ≠ y) : ∃ g, g < 32 ∧ tb x g ≠ tb y g := Classical.byContradiction (fun hn => h (tb_ext (fun g hg => Classical.byContradiction (fun q => hn ⟨g, hg, q⟩))))
theorem tb_n0 {x : Int32} : x ≠ 0 ↔ ∃ g, g < 32 ∧ tb x g = true := by
  constructor
  · intro h
    obtain ⟨g, hg, h1⟩ := tb_ne h
    rw [tb_0] at h1
    exact ⟨g, hg, by simpa using h1⟩
  · rintro ⟨g, hg, h1⟩ rfl
    rw [tb_0] at h1
    exact absurd h1 (by decide)
theorem zwA_id (σ : zS) (o j : Nat) : zwA σ o j (σ.1 o j) = σ := by
  refine Prod.ext ?_ rfl
  funext o2 j2
  rw [zwA_1]
  by_cases h : o2 = o
  · subst h
    rw [if_pos rfl]
    by_cases h2 : j2 = j
    · subst h2
      rw [if_pos rfl]
    · rw [if_neg h2]
  · rw [if_neg h]
theorem m_NE_one17 {T b s : Nat} (hT : T ≤ 5) (hb : b + 6 ≤ 36) (hs : s < 6) (σ : zS) (h28 : σ.1 28 2 = nI (2 ^ T)) (hg : gP σ T) : zM yNE_oneStepMore cNE_oneStepMore 6 (some .int) 2 60 0 [.ref 16, .ref 17, .int (nI b), .int (nI s)] σ (fun r σ2 => σ2 = σ ∧ ∃ y, r = some (.int y) ∧ ∀ q, q < 32 → (tb y q = true ↔ (tb (σ.1 17 (b + s)) q = true ∨ ∃ t, t < 6 ∧ jn σ s t = true ∧ ∃ g, g < 2 ^ T ∧ tb (σ.1 17 (b + t)) g = true ∧ preA (σ.1 31) s t g = q))) (fun _ _ => False) := by
  refine zM.of [some (.ref 16), some (.ref 17), some (.int (nI b)), some (.int (nI s)), none, none] (by decide) 2 rfl (fun _ => Nat.le_of_ble_eq_true rfl) (fun Z hR => ?_)
  have p2 := p2_le hT
  have key : ∀ (m i : Nat) (e : Int32), i + m = 6 → (∀ q, q < 32 → (tb e q = true ↔ (tb (σ.1 17 (b + s)) q = true ∨ ∃ t, t < i ∧ jn σ s t = true ∧ ∃ g, g < 2 ^ T ∧ tb (σ.1 17 (b + t)) g = true ∧ preA (σ.1 31) s t g = q))) → Z 0 10 [some (.ref 16), some (.ref 17), some (.int (nI b)), some (.int (nI s)), some (.int e), some (.int (nI i))] [] σ := by
    intro m
    induction m with
    | zero =>
      intro i e hi he
      obtain rfl : i = 6 := by omega
      refine z_iload hR dNE_oneStepMore_10 (n := 12) rfl rfl ?_
      refine z_bipush hR dNE_oneStepMore_12 (v := nI 6) (n := 14) rfl rfl ?_
      refine z_icmp_geN hR dNE_oneStepMore_14 (t := 60) (n := 17) rfl rfl (by omega) (by omega) (fun h14 => ?_) (fun h14 => absurd h14 (by omega))
      refine z_iload hR dNE_oneStepMore_60 (n := 62) rfl rfl ?_
      refine z_zret hR dNE_oneStepMore_62 rfl rfl (Nat.zero_le _) ?_
      exact ⟨rfl, _, rfl, he⟩
    | succ m ih =>
      intro i e hi he
      have hi6 : i < 6 := by omega
      cases ej : jn σ s i with
      | false =>
        refine z_iload hR dNE_oneStepMore_10 (n := 12) rfl rfl ?_
        refine z_bipush hR dNE_oneStepMore_12 (v := nI 6) (n := 14) rfl rfl ?_
        refine z_icmp_geN hR dNE_oneStepMore_14 (t := 60) (n := 17) rfl rfl (by omega) (by omega) (fun h14 => absurd h14 (by omega)) (fun h14 => ?_)
        refine z_aload_n hR dNE_oneStepMore_17 (n := 18) rfl rfl ?_
        refine z_getR hR dNE_oneStepMore_18 (n := 21) rfl zgNE_22 (by decide) rfl rfl ?_
        refine z_getR hR dNE_oneStepMore_21 (n := 24) rfl zgNE_41 (by decide) rfl rfl ?_
        refine z_iload_n hR dNE_oneStepMore_24 (n := 25) rfl rfl ?_
        refine z_iload hR dNE_oneStepMore_25 (n := 27) rfl rfl ?_
        refine z_callV2 hR dNE_oneStepMore_27 (n := 30) rfl zcNE_47 zkST_joins (by decide) (Nat.le_of_ble_eq_true rfl) (by decide) rfl rfl (Nat.zero_le _) (m_ST_jn hs hi6 σ) (fun r27 s27 h27 => ?_)
        obtain ⟨rfl, e27⟩ := h27
        subst s27
        rw [ej]
        refine z_if_eqB hR dNE_oneStepMore_30 (t := 54) (n := 33) rfl rfl (fun h30 => ?_) (fun h30 => absurd h30 (by decide))
        refine z_iincN hR 1 dNE_oneStepMore_54 (n := 57) rfl rfl (by decide) rfl rfl ?_
        refine z_goto hR dNE_oneStepMore_57 (t := 10) rfl ?_
        refine ih (i + 1) _ (by omega) (fun q hq => ?_)
        rw [he q hq]
        constructor
        · rintro (h | ⟨t, h1, h2⟩)
          · exact Or.inl h
          · exact Or.inr ⟨t, by omega, h2⟩
        · rintro (h | ⟨t, h1, h2⟩)
          · exact Or.inl h
          · by_cases e2 : t = i
            · subst e2
              rw [ej] at h2
              exact absurd h2.1 (by decide)
            · exact Or.inr ⟨t, by omega, h2⟩
      | true =>
        refine z_iload hR dNE_oneStepMore_10 (n := 12) rfl rfl ?_
        refine z_bipush hR dNE_oneStepMore_12 (v := nI 6) (n := 14) rfl rfl ?_
        refine z_icmp_geN hR dNE_oneStepMore_14 (t := 60) (n := 17) rfl rfl (by omega) (by omega) (fun h14 => absurd h14 (by omega)) (fun h14 => ?_)
        refine z_aload_n hR dNE_oneStepMore_17 (n := 18) rfl rfl ?_
        refine z_getR hR dNE_oneStepMore_18 (n := 21) rfl zgNE_22 (by decide) rfl rfl ?_
        refine z_getR hR dNE_oneStepMore_21 (n := 24) rfl zgNE_41 (by decide) rfl rfl ?_
        refine z_iload_n hR dNE_oneStepMore_24 (n := 25) rfl rfl ?_
        refine z_iload hR dNE_oneStepMore_25 (n := 27) rfl rfl ?_
        refine z_callV2 hR dNE_oneStepMore_27 (n := 30) rfl zcNE_47 zkST_joins (by decide) (Nat.le_of_ble_eq_true rfl) (by decide) rfl rfl (Nat.zero_le _) (m_ST_jn hs hi6 σ) (fun r27 s27 h27 => ?_)
        obtain ⟨rfl, e27⟩ := h27
        subst s27
        rw [ej]
        refine z_if_eqB hR dNE_oneStepMore_30 (t := 54) (n := 33) rfl rfl (fun h30 => absurd h30 (by decide)) (fun h30 => ?_)
        refine z_iload hR dNE_oneStepMore_33 (n := 35) rfl rfl ?_
        refine z_aload_n hR dNE_oneStepMore_35 (n := 36) rfl rfl ?_
        refine z_getR hR dNE_oneStepMore_36 (n := 39) rfl zgNE_22 (by decide) rfl rfl ?_
        refine z_iload_n hR dNE_oneStepMore_39 (n := 40) rfl rfl ?_
        refine z_iload hR dNE_oneStepMore_40 (n := 42) rfl rfl ?_
        refine z_aload_n hR dNE_oneStepMore_42 (n := 43) rfl rfl ?_
        refine z_iload_n hR dNE_oneStepMore_43 (n := 44) rfl rfl ?_
        refine z_iload hR dNE_oneStepMore_44 (n := 46) rfl rfl ?_
        refine z_iaddN hR dNE_oneStepMore_46 (n := 47) rfl ?_
        refine z_iald hR (_) dNE_oneStepMore_47 (n := 48) rfl (by decide) rfl (by decide) rfl (by omega) ?_
        refine z_callV3 hR dNE_oneStepMore_48 (n := 51) rfl zcNE_53 zkGR_guessesBefore (by decide) (Nat.le_of_ble_eq_true rfl) (by decide) rfl rfl (Nat.zero_le _) (m_GR_guessesBefore hT hs hi6 (σ.1 17 (b + i)) σ h28 (p := preA (σ.1 31) s i) (fun g hgg => ⟨(hg s i hs hi6 ej g hgg).1, by have := (hg s i hs hi6 ej g hgg).2; omega⟩)) (fun r48 s48 h48 => ?_)
        obtain ⟨e48, y, rfl, hy⟩ := h48
        subst s48
        refine z_ior hR dNE_oneStepMore_51 (n := 52) rfl ?_
        refine z_istore hR dNE_oneStepMore_52 (n := 54) rfl (by decide) rfl ?_
        refine z_iincN hR 1 dNE_oneStepMore_54 (n := 57) rfl rfl (by decide) rfl rfl ?_
        refine z_goto hR dNE_oneStepMore_57 (t := 10) rfl ?_
        refine ih (i + 1) _ (by omega) (fun q hq => ?_)
        rw [tb_or, Bool.or_eq_true, he q hq, hy q hq]
        constructor
        · rintro ((h | ⟨t, h1, h2⟩) | h)
          · exact Or.inl h
          · exact Or.inr ⟨t, by omega, h2⟩
          · exact Or.inr ⟨i, by omega, ej, h⟩
        · rintro (h | ⟨t, h1, h2⟩)
          · exact Or.inl (Or.inl h)
          · by_cases e2 : t = i
            · subst e2
              exact Or.inr h2.2
            · exact Or.inl (Or.inr ⟨t, by omega, h2⟩)
  refine z_aload_n hR dNE_oneStepMore_0 (n := 1) rfl rfl ?_
  refine z_iload_n hR dNE_oneStepMore_1 (n := 2) rfl rfl ?_
  refine z_iload_n hR dNE_oneStepMore_2 (n := 3) rfl rfl ?_
  refine z_iaddN hR dNE_oneStepMore_3 (n := 4) rfl ?_
  refine z_iald hR (_) dNE_oneStepMore_4 (n := 5) rfl (by decide) rfl (by decide) rfl (by omega) ?_
  refine z_istore hR dNE_oneStepMore_5 (n := 7) rfl (by decide) rfl ?_
  refine z_iconst hR dNE_oneStepMore_7 (v := nI 0) (n := 8) rfl rfl ?_
  refine z_istore hR dNE_oneStepMore_8 (n := 10) rfl (by decide) rfl ?_
  exact key 6 0 _ (by omega) (fun q hq => ⟨fun h => Or.inl h, fun h => by
    rcases h with h | ⟨t, h1, _⟩
    · exact h
    · exact absurd h1 (by omega)⟩)
theorem m_NE_one18 {T b s : Nat} (hT : T ≤ 5) (hb : b + 6 ≤ 6) (hs : s < 6) (σ : zS) (h28 : σ.1 28 2 = nI (2 ^ T)) (hg : gP σ T) : zM yNE_oneStepMore cNE_oneStepMore 6 (some .int) 2 60 0 [.ref 16, .ref 18, .int (nI b), .int (nI s)] σ (fun r σ2 => σ2 = σ ∧ ∃ y, r = some (.int y) ∧ ∀ q, q < 32 → (tb y q = true ↔ (tb (σ.1 18 (b + s)) q = true ∨ ∃ t, t < 6 ∧ jn σ s t = true ∧ ∃ g, g < 2 ^ T ∧ tb (σ.1 18 (b + t)) g = true ∧ preA (σ.1 31) s t g = q))) (fun _ _ => False) := by
  refine zM.of [some (.ref 16), some (.ref 18), some (.int (nI b)), some (.int (nI s)), none, none] (by decide) 2 rfl (fun _ => Nat.le_of_ble_eq_true rfl) (fun Z hR => ?_)
  have p2 := p2_le hT
  have key : ∀ (m i : Nat) (e : Int32), i + m = 6 → (∀ q, q < 32 → (tb e q = true ↔ (tb (σ.1 18 (b + s)) q = true ∨ ∃ t, t < i ∧ jn σ s t = true ∧ ∃ g, g < 2 ^ T ∧ tb (σ.1 18 (b + t)) g = true ∧ preA (σ.1 31) s t g = q))) → Z 0 10 [some (.ref 16), some (.ref 18), some (.int (nI b)), some (.int (nI s)), some (.int e), some (.int (nI i))] [] σ := by
    intro m
    induction m with
    | zero =>
      intro i e hi he
      obtain rfl : i = 6 := by omega
      refine z_iload hR dNE_oneStepMore_10 (n := 12) rfl rfl ?_
      refine z_bipush hR dNE_oneStepMore_12 (v := nI 6) (n := 14) rfl rfl ?_
      refine z_icmp_geN hR dNE_oneStepMore_14 (t := 60) (n := 17) rfl rfl (by omega) (by omega) (fun h14 => ?_) (fun h14 => absurd h14 (by omega))
      refine z_iload hR dNE_oneStepMore_60 (n := 62) rfl rfl ?_
      refine z_zret hR dNE_oneStepMore_62 rfl rfl (Nat.zero_le _) ?_
      exact ⟨rfl, _, rfl, he⟩
    | succ m ih =>
      intro i e hi he
      have hi6 : i < 6 := by omega
      cases ej : jn σ s i with
      | false =>
        refine z_iload hR dNE_oneStepMore_10 (n := 12) rfl rfl ?_
        refine z_bipush hR dNE_oneStepMore_12 (v := nI 6) (n := 14) rfl rfl ?_
        refine z_icmp_geN hR dNE_oneStepMore_14 (t := 60) (n := 17) rfl rfl (by omega) (by omega) (fun h14 => absurd h14 (by omega)) (fun h14 => ?_)
        refine z_aload_n hR dNE_oneStepMore_17 (n := 18) rfl rfl ?_
        refine z_getR hR dNE_oneStepMore_18 (n := 21) rfl zgNE_22 (by decide) rfl rfl ?_
        refine z_getR hR dNE_oneStepMore_21 (n := 24) rfl zgNE_41 (by decide) rfl rfl ?_
        refine z_iload_n hR dNE_oneStepMore_24 (n := 25) rfl rfl ?_
        refine z_iload hR dNE_oneStepMore_25 (n := 27) rfl rfl ?_
        refine z_callV2 hR dNE_oneStepMore_27 (n := 30) rfl zcNE_47 zkST_joins (by decide) (Nat.le_of_ble_eq_true rfl) (by decide) rfl rfl (Nat.zero_le _) (m_ST_jn hs hi6 σ) (fun r27 s27 h27 => ?_)
        obtain ⟨rfl, e27⟩ := h27
        subst s27
        rw [ej]
        refine z_if_eqB hR dNE_oneStepMore_30 (t := 54) (n := 33) rfl rfl (fun h30 => ?_) (fun h30 => absurd h30 (by decide))
        refine z_iincN hR 1 dNE_oneStepMore_54 (n := 57) rfl rfl (by decide) rfl rfl ?_
        refine z_goto hR dNE_oneStepMore_57 (t := 10) rfl ?_
        refine ih (i + 1) _ (by omega) (fun q hq => ?_)
        rw [he q hq]
        constructor
        · rintro (h | ⟨t, h1, h2⟩)
          · exact Or.inl h
          · exact Or.inr ⟨t, by omega, h2⟩
        · rintro (h | ⟨t, h1, h2⟩)
          · exact Or.inl h
          · by_cases e2 : t = i
            · subst e2
              rw [ej] at h2
              exact absurd h2.1 (by decide)
            · exact Or.inr ⟨t, by omega, h2⟩
      | true =>
        refine z_iload hR dNE_oneStepMore_10 (n := 12) rfl rfl ?_
        refine z_bipush hR dNE_oneStepMore_12 (v := nI 6) (n := 14) rfl rfl ?_
        refine z_icmp_geN hR dNE_oneStepMore_14 (t := 60) (n := 17) rfl rfl (by omega) (by omega) (fun h14 => absurd h14 (by omega)) (fun h14 => ?_)
        refine z_aload_n hR dNE_oneStepMore_17 (n := 18) rfl rfl ?_
        refine z_getR hR dNE_oneStepMore_18 (n := 21) rfl zgNE_22 (by decide) rfl rfl ?_
        refine z_getR hR dNE_oneStepMore_21 (n := 24) rfl zgNE_41 (by decide) rfl rfl ?_
        refine z_iload_n hR dNE_oneStepMore_24 (n := 25) rfl rfl ?_
        refine z_iload hR dNE_oneStepMore_25 (n := 27) rfl rfl ?_
        refine z_callV2 hR dNE_oneStepMore_27 (n := 30) rfl zcNE_47 zkST_joins (by decide) (Nat.le_of_ble_eq_true rfl) (by decide) rfl rfl (Nat.zero_le _) (m_ST_jn hs hi6 σ) (fun r27 s27 h27 => ?_)
        obtain ⟨rfl, e27⟩ := h27
        subst s27
        rw [ej]
        refine z_if_eqB hR dNE_oneStepMore_30 (t := 54) (n := 33) rfl rfl (fun h30 => absurd h30 (by decide)) (fun h30 => ?_)
        refine z_iload hR dNE_oneStepMore_33 (n := 35) rfl rfl ?_
        refine z_aload_n hR dNE_oneStepMore_35 (n := 36) rfl rfl ?_
        refine z_getR hR dNE_oneStepMore_36 (n := 39) rfl zgNE_22 (by decide) rfl rfl ?_
        refine z_iload_n hR dNE_oneStepMore_39 (n := 40) rfl rfl ?_
        refine z_iload hR dNE_oneStepMore_40 (n := 42) rfl rfl ?_
        refine z_aload_n hR dNE_oneStepMore_42 (n := 43) rfl rfl ?_
        refine z_iload_n hR dNE_oneStepMore_43 (n := 44) rfl rfl ?_
        refine z_iload hR dNE_oneStepMore_44 (n := 46) rfl rfl ?_
        refine z_iaddN hR dNE_oneStepMore_46 (n := 47) rfl ?_
        refine z_iald hR (_) dNE_oneStepMore_47 (n := 48) rfl (by decide) rfl (by decide) rfl (by omega) ?_
        refine z_callV3 hR dNE_oneStepMore_48 (n := 51) rfl zcNE_53 zkGR_guessesBefore (by decide) (Nat.le_of_ble_eq_true rfl) (by decide) rfl rfl (Nat.zero_le _) (m_GR_guessesBefore hT hs hi6 (σ.1 18 (b + i)) σ h28 (p := preA (σ.1 31) s i) (fun g hgg => ⟨(hg s i hs hi6 ej g hgg).1, by have := (hg s i hs hi6 ej g hgg).2; omega⟩)) (fun r48 s48 h48 => ?_)
        obtain ⟨e48, y, rfl, hy⟩ := h48
        subst s48
        refine z_ior hR dNE_oneStepMore_51 (n := 52) rfl ?_
        refine z_istore hR dNE_oneStepMore_52 (n := 54) rfl (by decide) rfl ?_
        refine z_iincN hR 1 dNE_oneStepMore_54 (n := 57) rfl rfl (by decide) rfl rfl ?_
        refine z_goto hR dNE_oneStepMore_57 (t := 10) rfl ?_
        refine ih (i + 1) _ (by omega) (fun q hq => ?_)
        rw [tb_or, Bool.or_eq_true, he q hq, hy q hq]
        constructor
        · rintro ((h | ⟨t, h1, h2⟩) | h)
          · exact Or.inl h
          · exact Or.inr ⟨t, by omega, h2⟩
          · exact Or.inr ⟨i, by omega, ej, h⟩
        · rintro (h | ⟨t, h1, h2⟩)
          · exact Or.inl (Or.inl h)
          · by_cases e2 : t = i
            · subst e2
              exact Or.inr h2.2
            · exact Or.inl (Or.inr ⟨t, by omega, h2⟩)
  refine z_aload_n hR dNE_oneStepMore_0 (n := 1) rfl rfl ?_
  refine z_iload_n hR dNE_oneStepMore_1 (n := 2) rfl rfl ?_
  refine z_iload_n hR dNE_oneStepMore_2 (n := 3) rfl rfl ?_
  refine z_iaddN hR dNE_oneStepMore_3 (n := 4) rfl ?_
  refine z_iald hR (_) dNE_oneStepMore_4 (n := 5) rfl (by decide) rfl (by decide) rfl (by omega) ?_
  refine z_istore hR dNE_oneStepMore_5 (n := 7) rfl (by decide) rfl ?_
  refine z_iconst hR dNE_oneStepMore_7 (v := nI 0) (n := 8) rfl rfl ?_
  refine z_istore hR dNE_oneStepMore_8 (n := 10) rfl (by decide) rfl ?_
  exact key 6 0 _ (by omega) (fun q hq => ⟨fun h => Or.inl h, fun h => by
    rcases h with h | ⟨t, h1, _⟩
    · exact h
    · exact absurd h1 (by omega)⟩)
theorem gP_fr {l : List Nat} {σ σ2 : zS} {T : Nat} (hf : zfr l σ σ2) (h1 : 44 ∉ l) (h2 : 31 ∉ l) (h : gP σ T) : gP σ2 T := by
  unfold gP
  rw [jn_fr hf h1, hf.1 31 h2]
  exact h
theorem m_NE_grow {T : Nat} (hT : T ≤ 5) (σ : zS) (h28 : σ.1 28 2 = nI (2 ^ T)) (hg : gP σ T) : zM yNE_growReaching cNE_growReaching 4 (some .boolean) 3 90 0 [.ref 16] σ (fun r σ2 => zfr [18] σ σ2 ∧ ∃ b : Bool, r = some (.int (zb b)) ∧ (∀ s, s < 6 → ∀ q, q < 32 → tb (σ.1 18 s) q = true → tb (σ2.1 18 s) q = true) ∧ (∀ R : Nat → Nat → Prop, (∀ s q t g, s < 6 → t < 6 → jn σ s t = true → g < 2 ^ T → R t g → preA (σ.1 31) s t g = q → R s q) → (∀ s, s < 6 → ∀ q, q < 32 → tb (σ.1 18 s) q = true → R s q) → ∀ s, s < 6 → ∀ q, q < 32 → tb (σ2.1 18 s) q = true → R s q) ∧ (b = true → ∃ s q, s < 6 ∧ q < 32 ∧ tb (σ.1 18 s) q = false ∧ tb (σ2.1 18 s) q = true) ∧ (b = false → σ2 = σ ∧ ∀ s q t g, s < 6 → t < 6 → q < 32 → jn σ s t = true → g < 2 ^ T → tb (σ.1 18 t) g = true → preA (σ.1 31) s t g = q → tb (σ.1 18 s) q = true)) (fun _ _ => False) := by
  refine zM.of [some (.ref 16), none, none, none] (by decide) 3 rfl (fun _ => Nat.le_of_ble_eq_true rfl) (fun Z hR => ?_)
  have p2 := p2_le hT
  have key : ∀ (m i : Nat) (b : Bool) (l3 : Option Value) (τ : zS), i + m = 6 → zfr [18] σ τ → (∀ s, s < 6 → ∀ q, q < 32 → tb (σ.1 18 s) q = true → tb (τ.1 18 s) q = true) → (∀ R : Nat → Nat → Prop, (∀ s q t g, s < 6 → t < 6 → jn σ s t = true → g < 2 ^ T → R t g → preA (σ.1 31) s t g = q → R s q) → (∀ s, s < 6 → ∀ q, q < 32 → tb (σ.1 18 s) q = true → R s q) → ∀ s, s < 6 → ∀ q, q < 32 → tb (τ.1 18 s) q = true → R s q) → (b = true → ∃ s q, s < 6 ∧ q < 32 ∧ tb (σ.1 18 s) q = false ∧ tb (τ.1 18 s) q = true) → (b = false → τ = σ ∧ ∀ s q t g, s < i → t < 6 → q < 32 → jn σ s t = true → g < 2 ^ T → tb (σ.1 18 t) g = true → preA (σ.1 31) s t g = q → tb (σ.1 18 s) q = true) → Z 0 4 [some (.ref 16), some (.int (zb b)), some (.int (nI i)), l3] [] τ := by
    intro m
    induction m with
    | zero =>
      intro i b l3 τ hi hf a1 a2 a3 a4
      obtain rfl : i = 6 := by omega
      refine z_iload_n hR dNE_growReaching_4 (n := 5) rfl rfl ?_
      refine z_bipush hR dNE_growReaching_5 (v := nI 6) (n := 7) rfl rfl ?_
      refine z_icmp_geN hR dNE_growReaching_7 (t := 54) (n := 10) rfl rfl (by omega) (by omega) (fun h7 => ?_) (fun h7 => absurd h7 (by omega))
      refine z_iload_n hR dNE_growReaching_54 (n := 55) rfl rfl ?_
      refine z_zret hR dNE_growReaching_55 rfl (zb_nar _) (Nat.zero_le _) ?_
      exact ⟨hf, b, rfl, a1, a2, a3, a4⟩
    | succ m ih =>
      intro i b l3 τ hi hf a1 a2 a3 a4
      have hi6 : i < 6 := by omega
      have ej : jn τ = jn σ := jn_fr hf (by decide)
      have e31 : τ.1 31 = σ.1 31 := hf.1 31 (by decide)
      have hc := m_NE_one18 (b := 0) hT (by omega) hi6 τ (by rw [hf.1 28 (by decide)]; exact h28) (gP_fr hf (by decide) (by decide) hg)
      rw [ej, e31] at hc
      simp only [Nat.zero_add] at hc
      refine z_iload_n hR dNE_growReaching_4 (n := 5) rfl rfl ?_
      refine z_bipush hR dNE_growReaching_5 (v := nI 6) (n := 7) rfl rfl ?_
      refine z_icmp_geN hR dNE_growReaching_7 (t := 54) (n := 10) rfl rfl (by omega) (by omega) (fun h7 => absurd h7 (by omega)) (fun h7 => ?_)
      refine z_aload_n hR dNE_growReaching_10 (n := 11) rfl rfl ?_
      refine z_aload_n hR dNE_growReaching_11 (n := 12) rfl rfl ?_
      refine z_getR hR dNE_growReaching_12 (n := 15) rfl zgNE_27 (by decide) rfl rfl ?_
      refine z_iconst hR dNE_growReaching_15 (v := nI 0) (n := 16) rfl rfl ?_
      refine z_iload_n hR dNE_growReaching_16 (n := 17) rfl rfl ?_
      refine z_callV3 hR dNE_growReaching_17 (n := 20) rfl zcNE_33 zkNE_oneStepMore (by decide) (Nat.le_of_ble_eq_true rfl) (by decide) rfl rfl (Nat.zero_le _) hc (fun r17 s17 h17 => ?_)
      obtain ⟨e17, y, rfl, hy⟩ := h17
      subst s17
      have b1 : ∀ s, s < 6 → ∀ q, q < 32 → tb (σ.1 18 s) q = true → tb ((zwA τ 18 i y).1 18 s) q = true := fun s hs q hq h => by
        by_cases e : s = i
        · subst e
          rw [zwA_ss]
          exact (hy q hq).mpr (Or.inl (a1 s hs q hq h))
        · rw [zwA_sn _ _ _ _ e]
          exact a1 s hs q hq h
      have b2 : ∀ R : Nat → Nat → Prop, (∀ s q t g, s < 6 → t < 6 → jn σ s t = true → g < 2 ^ T → R t g → preA (σ.1 31) s t g = q → R s q) → (∀ s, s < 6 → ∀ q, q < 32 → tb (σ.1 18 s) q = true → R s q) → ∀ s, s < 6 → ∀ q, q < 32 → tb ((zwA τ 18 i y).1 18 s) q = true → R s q := fun R c1 c2 s hs q hq h => by
        by_cases e : s = i
        · subst e
          rw [zwA_ss] at h
          rcases (hy q hq).mp h with h | ⟨t, t1, t2, g, g1, g2, g3⟩
          · exact a2 R c1 c2 s hs q hq h
          · exact c1 s q t g hs t1 t2 g1 (a2 R c1 c2 t t1 g (by omega) g2) g3
        · rw [zwA_sn _ _ _ _ e] at h
          exact a2 R c1 c2 s hs q hq h
      -- the flag, and the note
      have fin : ∀ (b2' : Bool), (b2' = (b || decide (y ≠ τ.1 18 i))) → Z 0 40 [some (.ref 16), some (.int (zb b)), some (.int (nI i)), some (.int y)] [.int (zb b2')] τ := by
        intro bb hbb
        refine z_istore_n hR dNE_growReaching_40 (n := 41) rfl (by decide) rfl ?_
        refine z_aload_n hR dNE_growReaching_41 (n := 42) rfl rfl ?_
        refine z_getR hR dNE_growReaching_42 (n := 45) rfl zgNE_27 (by decide) rfl rfl ?_
        refine z_iload_n hR dNE_growReaching_45 (n := 46) rfl rfl ?_
        refine z_iload_n hR dNE_growReaching_46 (n := 47) rfl rfl ?_
        refine z_iast hR (_) dNE_growReaching_47 (n := 48) rfl (by decide) rfl (by decide) rfl (by omega) ?_
        refine z_iincN hR 1 dNE_growReaching_48 (n := 51) rfl rfl (by decide) rfl rfl ?_
        refine z_goto hR dNE_growReaching_51 (t := 4) rfl ?_
        refine ih (i + 1) bb _ _ (by omega) (hf.wA _ (by decide)) b1 b2 (fun hb => ?_) (fun hb => ?_)
        · rw [hbb, Bool.or_eq_true, decide_eq_true_iff] at hb
          by_cases hb2 : b = true
          · obtain ⟨s, q, s1, s2, s3, s4⟩ := a3 hb2
            refine ⟨s, q, s1, s2, s3, ?_⟩
            by_cases e : s = i
            · subst e
              rw [zwA_ss]
              exact (hy q s2).mpr (Or.inl s4)
            · rw [zwA_sn _ _ _ _ e]
              exact s4
          · have hb3 : b = false := by simpa using hb2
            have hne := hb.resolve_left hb2
            obtain ⟨rfl, _⟩ := a4 hb3
            obtain ⟨g, g1, g2⟩ := tb_ne hne
            refine ⟨i, g, hi6, g1, ?_, ?_⟩
            · cases e1 : tb (τ.1 18 i) g with
              | false => rfl
              | true => exact absurd (((hy g g1).mpr (Or.inl e1)).trans e1.symm) g2
            · rw [zwA_ss]
              cases e1 : tb y g with
              | true => rfl
              | false =>
                cases e2 : tb (τ.1 18 i) g with
                | false => exact absurd (e1.trans e2.symm) g2
                | true => rw [(hy g g1).mpr (Or.inl e2)] at e1; exact absurd e1 (by decide)
        · rw [hbb, Bool.or_eq_false_iff, decide_eq_false_iff_not] at hb
          obtain ⟨rfl, a5⟩ := a4 hb.1
          have ey : y = τ.1 18 i := Classical.byContradiction (fun q => hb.2 q)
          have eτ : zwA τ 18 i y = τ := by
            rw [ey]
            exact zwA_id τ 18 i
          refine ⟨eτ, fun s q t g s1 t1 q1 j1 g1 h1 h2 => ?_⟩
          by_cases e : s = i
          · subst e
            rw [← ey]
            exact (hy q q1).mpr (Or.inr ⟨t, t1, j1, g, g1, h1, h2⟩)
          · exact a5 s q t g (by omega) t1 q1 j1 g1 h1 h2
      refine z_istore_n hR dNE_growReaching_20 (n := 21) rfl (by decide) rfl ?_
      refine z_iload_n hR dNE_growReaching_21 (n := 22) rfl rfl ?_
      refine z_if_neB hR dNE_growReaching_22 (t := 35) (n := 25) rfl rfl (fun h22 => ?_) (fun h22 => ?_)
      · refine z_iconst hR dNE_growReaching_35 (v := 1) (n := 36) rfl rfl ?_
        refine z_goto hR dNE_growReaching_36 (t := 40) rfl ?_
        first
          | exact fin true (by rw [h22]; rfl)
          | exact fin true (by rw [decide_eq_true h32]; simp)
          | exact fin false (by rw [h22, h32]; simp)
      · refine z_iload_n hR dNE_growReaching_25 (n := 26) rfl rfl ?_
        refine z_aload_n hR dNE_growReaching_26 (n := 27) rfl rfl ?_
        refine z_getR hR dNE_growReaching_27 (n := 30) rfl zgNE_27 (by decide) rfl rfl ?_
        refine z_iload_n hR dNE_growReaching_30 (n := 31) rfl rfl ?_
        refine z_iald hR (_) dNE_growReaching_31 (n := 32) rfl (by decide) rfl (by decide) rfl (by omega) ?_
        refine z_icmp_eq hR dNE_growReaching_32 (t := 39) (n := 35) rfl rfl (fun h32 => ?_) (fun h32 => ?_)
        · refine z_iconst hR dNE_growReaching_39 (v := 0) (n := 40) rfl rfl ?_
          first
            | exact fin true (by rw [h22]; rfl)
            | exact fin true (by rw [decide_eq_true h32]; simp)
            | exact fin false (by rw [h22, h32]; simp)
        · refine z_iconst hR dNE_growReaching_35 (v := 1) (n := 36) rfl rfl ?_
          refine z_goto hR dNE_growReaching_36 (t := 40) rfl ?_
          first
            | exact fin true (by rw [h22]; rfl)
            | exact fin true (by rw [decide_eq_true h32]; simp)
            | exact fin false (by rw [h22, h32]; simp)
  refine z_iconst hR dNE_growReaching_0 (v := 0) (n := 1) rfl rfl ?_
  refine z_istore_n hR dNE_growReaching_1 (n := 2) rfl (by decide) rfl ?_
  refine z_iconst hR dNE_growReaching_2 (v := nI 0) (n := 3) rfl rfl ?_
  refine z_istore_n hR dNE_growReaching_3 (n := 4) rfl (by decide) rfl ?_
  exact key 6 0 false _ _ (by omega) zfr.rf (fun s _ q _ h => h) (fun R c1 c2 => c2) (fun h => absurd h (by decide)) (fun _ => ⟨rfl, fun s q t g h => absurd h (by omega)⟩)
/-- how many are set -/
theorem cn_v (A B : Nat → Int32) (h1 : ∀ s, s < 6 → ∀ q, q < 32 → tb (A s) q = true → tb (B s) q = true) (h2 : ∃ s q, s < 6 ∧ q < 32 ∧ tb (A s) q = false ∧ tb (B s) q = true) : cn (fun v => tb (A (v / 32)) (v % 32)) 192 < cn (fun v => tb (B (v / 32)) (v % 32)) 192 := by
  refine cn_lt (fun v hv h => h1 _ (by omega) _ (by omega) h) ?_
  obtain ⟨s, q, a1, a2, a3, a4⟩ := h2
  exact ⟨32 * s + q, by omega, by rw [show (32 * s + q) / 32 = s by omega, show (32 * s + q) % 32 = q by omega]; exact a3, by rw [show (32 * s + q) / 32 = s by omega, show (32 * s + q) % 32 = q by omega]; exact a4⟩
/-- what nearness holds -/
def nD (σ τ : zS) (T : Nat) : Prop := (∀ d, d < 6 → ∀ s, s < 6 → ∀ g, g < 32 → (tb (τ.1 17 (d * 6 + s)) g = true ↔ (g < 2 ^ T ∧ kN (cE σ T) (cG σ T) T d (32 * s + g)))) ∧ ∀ s, s < 6 → ∀ g, g < 32 → (tb (τ.1 18 s) g = true ↔ (g < 2 ^ T ∧ gx_B (cE σ T) (cG σ T) T (32 * s + g)))
theorem m_NE_measure {T : Nat} (hT : T ≤ 5) (σ : zS) (h28 : σ.1 28 2 = nI (2 ^ T)) (hg : gP σ T) (hk : ∀ s, s < 6 → ∀ g, g < 32 → (tb (σ.1 20 s) g = true ↔ (g < 2 ^ T ∧ cK σ T (32 * s + g)))) : zM yNE_measure cNE_measure 3 none 4 130 0 [.ref 16] σ (fun r σ2 => r = none ∧ zfr [17, 18] σ σ2 ∧ nD σ σ2 T) (fun _ _ => False) := by
  refine zM.of [some (.ref 16), none, none] (by decide) 2 rfl (fun _ => Nat.le_of_ble_eq_true rfl) (fun Z hR => ?_)
  have p2 := p2_le hT
  have hpre : ∀ s t, s < 6 → t < 6 → jn σ s t = true → ∀ g, g < 2 ^ T → preA (σ.1 31) s t g < 2 ^ T := fun s t a b c g d => (hg s t a b c g d).2
  have near5 : ∀ (A : Nat → Int32), (∀ s, s < 6 → ∀ g, g < 32 → (tb (A s) g = true ↔ (g < 2 ^ T ∧ kN (cE σ T) (cG σ T) T 5 (32 * s + g)))) → (∀ s, s < 6 → ∀ q, q < 32 → tb (A s) q = true → q < 2 ^ T ∧ gx_B (cE σ T) (cG σ T) T (32 * s + q)) := fun A h s hs q hq hb => ⟨((h s hs q hq).mp hb).1, kN_B ((h s hs q hq).mp hb).2⟩
  -- the last loop: what reaches a knot
  have key4 : ∀ (m round : Nat) (b : Bool) (τ : zS), round + m = 193 → zfr [17, 18] σ τ → (∀ d, d < 6 → ∀ s, s < 6 → ∀ g, g < 32 → (tb (τ.1 17 (d * 6 + s)) g = true ↔ (g < 2 ^ T ∧ kN (cE σ T) (cG σ T) T d (32 * s + g)))) → (∀ s, s < 6 → ∀ g, g < 2 ^ T → cK σ T (32 * s + g) → tb (τ.1 18 s) g = true) → (∀ s, s < 6 → ∀ q, q < 32 → tb (τ.1 18 s) q = true → q < 2 ^ T ∧ gx_B (cE σ T) (cG σ T) T (32 * s + q)) → (b = true → round ≤ cn (fun v => tb (τ.1 18 (v / 32)) (v % 32)) 192) → (b = false → ∀ s q t g, s < 6 → t < 6 → q < 32 → jn σ s t = true → g < 2 ^ T → tb (τ.1 18 t) g = true → preA (σ.1 31) s t g = q → tb (τ.1 18 s) q = true) → Z 0 116 [some (.ref 16), some (.int (zb b)), some (.int (nI round))] [] τ := by
    have ret : ∀ (l1 l2 : Option Value) (τ : zS), zfr [17, 18] σ τ → (∀ d, d < 6 → ∀ s, s < 6 → ∀ g, g < 32 → (tb (τ.1 17 (d * 6 + s)) g = true ↔ (g < 2 ^ T ∧ kN (cE σ T) (cG σ T) T d (32 * s + g)))) → (∀ s, s < 6 → ∀ g, g < 2 ^ T → cK σ T (32 * s + g) → tb (τ.1 18 s) g = true) → (∀ s, s < 6 → ∀ q, q < 32 → tb (τ.1 18 s) q = true → q < 2 ^ T ∧ gx_B (cE σ T) (cG σ T) T (32 * s + q)) → (∀ s q t g, s < 6 → t < 6 → q < 32 → jn σ s t = true → g < 2 ^ T → tb (τ.1 18 t) g = true → preA (σ.1 31) s t g = q → tb (τ.1 18 s) q = true) → Z 0 138 [some (.ref 16), l1, l2] [] τ := by
      intro l1 l2 τ hf a1 a2 a3 a4
      refine z_vret hR dNE_measure_138 rfl (Nat.zero_le _) ?_
      refine ⟨rfl, hf, a1, fun s hs g hg => ⟨a3 s hs g hg, fun h => ?_⟩⟩
      exact B_in hT hpre (R := fun s g => s < 6 → tb (τ.1 18 s) g = true) (fun s g b1 b2 b3 _ => a2 s b1 g b2 b3) (fun s q t g b1 b2 b3 b4 b5 b6 _ => a4 s q t g b1 b2 (by rw [← b6]; have := hpre s t b1 b2 b3 g b4; omega) b3 b4 (b5 b2) b6) h.1 h.2 hs
    intro m
    induction m with
    | zero =>
      intro round b τ hr hf a1 a2 a3 a4 a5
      obtain rfl : round = 193 := by omega
      have hb : b = false := by
        cases b with
        | false => rfl
        | true =>
          have := a4 rfl
          have := cn_n (fun v => tb (τ.1 18 (v / 32)) (v % 32)) 192
          omega
      subst hb
      refine z_iload_n hR dNE_measure_116 (n := 117) rfl rfl ?_
      refine z_sipush hR dNE_measure_117 (v := nI 192) (n := 120) rfl rfl ?_
      refine z_icmp_gtN hR dNE_measure_120 (t := 138) (n := 123) rfl rfl (by omega) (by omega) (fun h120 => ?_) (fun h120 => absurd h120 (by omega))
      exact ret _ _ _ hf a1 a2 a3 (a5 rfl)
    | succ m ih =>
      intro round b τ hr hf a1 a2 a3 a4 a5
      cases b with
      | false =>
        refine z_iload_n hR dNE_measure_116 (n := 117) rfl rfl ?_
        refine z_sipush hR dNE_measure_117 (v := nI 192) (n := 120) rfl rfl ?_
        refine z_icmp_gtN hR dNE_measure_120 (t := 138) (n := 123) rfl rfl (by omega) (by omega) (fun h120 => absurd h120 (by omega)) (fun h120 => ?_)
        refine z_iload_n hR dNE_measure_123 (n := 124) rfl rfl ?_
        refine z_if_eqB hR dNE_measure_124 (t := 138) (n := 127) rfl rfl (fun h124 => ?_) (fun h124 => absurd h124 (by decide))
        exact ret _ _ _ hf a1 a2 a3 (a5 rfl)
      | true =>
        have ej : jn τ = jn σ := jn_fr hf (by decide)
        have e31 : τ.1 31 = σ.1 31 := hf.1 31 (by decide)
        have hc := m_NE_grow hT τ (by rw [hf.1 28 (by decide)]; exact h28) (gP_fr hf (by decide) (by decide) hg)
        rw [ej, e31] at hc
        refine z_iload_n hR dNE_measure_116 (n := 117) rfl rfl ?_
        refine z_sipush hR dNE_measure_117 (v := nI 192) (n := 120) rfl rfl ?_
        refine z_icmp_gtN hR dNE_measure_120 (t := 138) (n := 123) rfl rfl (by omega) (by omega) (fun h120 => absurd h120 (by omega)) (fun h120 => ?_)
        refine z_iload_n hR dNE_measure_123 (n := 124) rfl rfl ?_
        refine z_if_eqB hR dNE_measure_124 (t := 138) (n := 127) rfl rfl (fun h124 => absurd h124 (by decide)) (fun h124 => ?_)
        refine z_aload_n hR dNE_measure_127 (n := 128) rfl rfl ?_
        refine z_callV0 hR dNE_measure_128 (n := 131) rfl zcNE_37 zkNE_growReaching (by decide) (Nat.le_of_ble_eq_true rfl) (by decide) rfl rfl (Nat.zero_le _) hc (fun r128 s128 h128 => ?_)
        obtain ⟨gf, b, rfl, g1, g2, g3, g4⟩ := h128
        refine z_istore_n hR dNE_measure_131 (n := 132) rfl (by decide) rfl ?_
        refine z_iincN hR 1 dNE_measure_132 (n := 135) rfl rfl (by decide) rfl rfl ?_
        refine z_goto hR dNE_measure_135 (t := 116) rfl ?_
        refine ih (round + 1) b _ (by omega) (hf.tr (gf.mo (by decide))) (by rw [gf.1 17 (by decide)]; exact a1) (fun s hs g hg hk => ?_) (fun s hs q hq h => ?_) (fun hb => ?_) (fun hb => ?_)
        · exact g1 s hs g (by omega) (a2 s hs g hg hk)
        · refine g2 (fun s q => q < 2 ^ T ∧ gx_B (cE σ T) (cG σ T) T (32 * s + q)) (fun s q t g b1 b2 b3 b4 b5 b6 => ?_) a3 s hs q hq h
          have b7 := hpre s t b1 b2 b3 g b4
          rw [b6] at b7
          exact ⟨b7, gx_B_back _ _ ((eG_at hT hpre b1 (by omega)).mpr ⟨t, b2, b3, g, b4, rfl, b6⟩) b5.2⟩
        · have := cn_v (τ.1 18) (s128.1 18) g1 (g3 hb)
          have := a4 rfl
          omega
        · obtain ⟨rfl, g5⟩ := g4 hb
          exact g5
  have key3 : ∀ (m i : Nat) (l2 : Option Value) (τ : zS), i + m = 6 → zfr [17, 18] σ τ → (∀ d, d < 6 → ∀ s, s < 6 → ∀ g, g < 32 → (tb (τ.1 17 (d * 6 + s)) g = true ↔ (g < 2 ^ T ∧ kN (cE σ T) (cG σ T) T d (32 * s + g)))) → (∀ s, s < i → τ.1 18 s = τ.1 17 (30 + s)) → Z 0 85 [some (.ref 16), some (.int (nI i)), l2] [] τ := by
    intro m
    induction m with
    | zero =>
      intro i l2 τ hi hf a1 a2
      obtain rfl : i = 6 := by omega
      have h5 : ∀ s, s < 6 → ∀ g, g < 32 → (tb (τ.1 18 s) g = true ↔ (g < 2 ^ T ∧ kN (cE σ T) (cG σ T) T 5 (32 * s + g))) := fun s hs g hg => by
        rw [a2 s hs]
        exact a1 5 (by omega) s hs g hg
      refine z_iload_n hR dNE_measure_85 (n := 86) rfl rfl ?_
      refine z_bipush hR dNE_measure_86 (v := nI 6) (n := 88) rfl rfl ?_
      refine z_icmp_geN hR dNE_measure_88 (t := 112) (n := 91) rfl rfl (by omega) (by omega) (fun h88 => ?_) (fun h88 => absurd h88 (by omega))
      refine z_iconst hR dNE_measure_112 (v := 1) (n := 113) rfl rfl ?_
      refine z_istore_n hR dNE_measure_113 (n := 114) rfl (by decide) rfl ?_
      refine z_iconst hR dNE_measure_114 (v := nI 0) (n := 115) rfl rfl ?_
      refine z_istore_n hR dNE_measure_115 (n := 116) rfl (by decide) rfl ?_
      refine key4 193 0 true _ (by omega) hf a1 (fun s hs g hg hk => ?_) (near5 _ h5) (fun _ => Nat.zero_le _) (fun h => absurd h (by decide))
      exact (h5 s hs g (by omega)).mpr ⟨hg, 0, _, by omega, rfl, hk⟩
    | succ m ih =>
      intro i l2 τ hi hf a1 a2
      refine z_iload_n hR dNE_measure_85 (n := 86) rfl rfl ?_
      refine z_bipush hR dNE_measure_86 (v := nI 6) (n := 88) rfl rfl ?_
      refine z_icmp_geN hR dNE_measure_88 (t := 112) (n := 91) rfl rfl (by omega) (by omega) (fun h88 => absurd h88 (by omega)) (fun h88 => ?_)
      refine z_aload_n hR dNE_measure_91 (n := 92) rfl rfl ?_
      refine z_getR hR dNE_measure_92 (n := 95) rfl zgNE_27 (by decide) rfl rfl ?_
      refine z_iload_n hR dNE_measure_95 (n := 96) rfl rfl ?_
      refine z_aload_n hR dNE_measure_96 (n := 97) rfl rfl ?_
      refine z_getR hR dNE_measure_97 (n := 100) rfl zgNE_23 (by decide) rfl rfl ?_
      refine z_bipush hR dNE_measure_100 (v := nI 30) (n := 102) rfl rfl ?_
      refine z_iload_n hR dNE_measure_102 (n := 103) rfl rfl ?_
      refine z_iaddN hR dNE_measure_103 (n := 104) rfl ?_
      refine z_iald hR (_) dNE_measure_104 (n := 105) rfl (by decide) rfl (by decide) rfl (by omega) ?_
      refine z_iast hR (_) dNE_measure_105 (n := 106) rfl (by decide) rfl (by decide) rfl (by omega) ?_
      refine z_iincN hR 1 dNE_measure_106 (n := 109) rfl rfl (by decide) rfl rfl ?_
      refine z_goto hR dNE_measure_109 (t := 85) rfl ?_
      refine ih (i + 1) _ _ (by omega) (hf.wA _ (by decide)) (by rw [zwA_n _ _ _ _ (by decide)]; exact a1) (fun s hs => ?_)
      rw [zwA_n _ _ _ _ (by decide : (17 : Nat) ≠ 18)]
      by_cases e : s = i
      · subst e
        rw [zwA_ss]
      · rw [zwA_sn _ _ _ _ e]
        exact a2 s (by omega)
  have key2 : ∀ (m d : Nat) (l2 : Option Value) (τ : zS), d + m = 6 → 1 ≤ d → zfr [17, 18] σ τ → (∀ d2, d2 < d → ∀ s, s < 6 → ∀ g, g < 32 → (tb (τ.1 17 (d2 * 6 + s)) g = true ↔ (g < 2 ^ T ∧ kN (cE σ T) (cG σ T) T d2 (32 * s + g)))) → Z 0 31 [some (.ref 16), some (.int (nI d)), l2] [] τ := by
    intro m
    induction m with
    | zero =>
      intro d l2 τ hd hd1 hf a1
      obtain rfl : d = 6 := by omega
      refine z_iload_n hR dNE_measure_31 (n := 32) rfl rfl ?_
      refine z_bipush hR dNE_measure_32 (v := nI 6) (n := 34) rfl rfl ?_
      refine z_icmp_geN hR dNE_measure_34 (t := 83) (n := 37) rfl rfl (by omega) (by omega) (fun h34 => ?_) (fun h34 => absurd h34 (by omega))
      refine z_iconst hR dNE_measure_83 (v := nI 0) (n := 84) rfl rfl ?_
      refine z_istore_n hR dNE_measure_84 (n := 85) rfl (by decide) rfl ?_
      exact key3 6 0 _ _ (by omega) hf a1 (fun s hs => absurd hs (by omega))
    | succ m ih =>
      intro d l2 τ hd hd1 hf a1
      have inn : ∀ (w i : Nat) (τ : zS), i + w = 6 → zfr [17, 18] σ τ → (∀ d2, d2 < d → ∀ s, s < 6 → ∀ g, g < 32 → (tb (τ.1 17 (d2 * 6 + s)) g = true ↔ (g < 2 ^ T ∧ kN (cE σ T) (cG σ T) T d2 (32 * s + g)))) → (∀ s, s < i → ∀ g, g < 32 → (tb (τ.1 17 (d * 6 + s)) g = true ↔ (g < 2 ^ T ∧ kN (cE σ T) (cG σ T) T d (32 * s + g)))) → Z 0 39 [some (.ref 16), some (.int (nI d)), some (.int (nI i))] [] τ := by
        intro w
        induction w with
        | zero =>
          intro i τ hi hf a1 a2
          obtain rfl : i = 6 := by omega
          refine z_iload_n hR dNE_measure_39 (n := 40) rfl rfl ?_
          refine z_bipush hR dNE_measure_40 (v := nI 6) (n := 42) rfl rfl ?_
          refine z_icmp_geN hR dNE_measure_42 (t := 77) (n := 45) rfl rfl (by omega) (by omega) (fun h42 => ?_) (fun h42 => absurd h42 (by omega))
          refine z_iincN hR 1 dNE_measure_77 (n := 80) rfl rfl (by decide) rfl rfl ?_
          refine z_goto hR dNE_measure_80 (t := 31) rfl ?_
          refine ih (d + 1) _ _ (by omega) (by omega) hf (fun d2 h2 => ?_)
          by_cases e : d2 = d
          · subst e
            exact a2
          · exact a1 d2 (by omega)
        | succ w ihw =>
          intro i τ hi hf a1 a2
          have hi6 : i < 6 := by omega
          have ej : jn τ = jn σ := jn_fr hf (by decide)
          have e31 : τ.1 31 = σ.1 31 := hf.1 31 (by decide)
          have hc := m_NE_one17 (b := (d - 1) * 6) hT (by omega) hi6 τ (by rw [hf.1 28 (by decide)]; exact h28) (gP_fr hf (by decide) (by decide) hg)
          rw [ej, e31] at hc
          refine z_iload_n hR dNE_measure_39 (n := 40) rfl rfl ?_
          refine z_bipush hR dNE_measure_40 (v := nI 6) (n := 42) rfl rfl ?_
          refine z_icmp_geN hR dNE_measure_42 (t := 77) (n := 45) rfl rfl (by omega) (by omega) (fun h42 => absurd h42 (by omega)) (fun h42 => ?_)
          refine z_aload_n hR dNE_measure_45 (n := 46) rfl rfl ?_
          refine z_getR hR dNE_measure_46 (n := 49) rfl zgNE_23 (by decide) rfl rfl ?_
          refine z_iload_n hR dNE_measure_49 (n := 50) rfl rfl ?_
          refine z_bipush hR dNE_measure_50 (v := nI 6) (n := 52) rfl rfl ?_
          refine z_imulN hR dNE_measure_52 (n := 53) rfl ?_
          refine z_iload_n hR dNE_measure_53 (n := 54) rfl rfl ?_
          refine z_iaddN hR dNE_measure_54 (n := 55) rfl ?_
          refine z_aload_n hR dNE_measure_55 (n := 56) rfl rfl ?_
          refine z_aload_n hR dNE_measure_56 (n := 57) rfl rfl ?_
          refine z_getR hR dNE_measure_57 (n := 60) rfl zgNE_23 (by decide) rfl rfl ?_
          refine z_iload_n hR dNE_measure_60 (n := 61) rfl rfl ?_
          refine z_iconst hR dNE_measure_61 (v := nI 1) (n := 62) rfl rfl ?_
          refine z_isubN hR dNE_measure_62 (n := 63) rfl (by omega) ?_
          refine z_bipush hR dNE_measure_63 (v := nI 6) (n := 65) rfl rfl ?_
          refine z_imulN hR dNE_measure_65 (n := 66) rfl ?_
          refine z_iload_n hR dNE_measure_66 (n := 67) rfl rfl ?_
          refine z_callV3 hR dNE_measure_67 (n := 70) rfl zcNE_33 zkNE_oneStepMore (by decide) (Nat.le_of_ble_eq_true rfl) (by decide) rfl rfl (Nat.zero_le _) hc (fun r67 s67 h67 => ?_)
          obtain ⟨e67, y, rfl, hy⟩ := h67
          subst s67
          have hyy : ∀ g, g < 32 → (tb y g = true ↔ (g < 2 ^ T ∧ kN (cE σ T) (cG σ T) T d (32 * i + g))) := fun g hg => by
            have q := kN_at (goal := cG σ T) (d := d - 1) hT hpre hi6 hg
            rw [show d - 1 + 1 = d by omega] at q
            rw [hy g hg, q, a1 (d - 1) (by omega) i hi6 g hg]
            constructor
            · rintro (h | ⟨t, t1, t2, g2, g3, g4, g5⟩)
              · exact Or.inl h
              · exact Or.inr ⟨t, t1, t2, g2, g3, (a1 (d - 1) (by omega) t t1 g2 (by omega)).mp g4, g5⟩
            · rintro (h | ⟨t, t1, t2, g2, g3, g4, g5⟩)
              · exact Or.inl h
              · exact Or.inr ⟨t, t1, t2, g2, g3, (a1 (d - 1) (by omega) t t1 g2 (by omega)).mpr g4, g5⟩
          refine z_iast hR (_) dNE_measure_70 (n := 71) rfl (by decide) rfl (by decide) rfl (by omega) ?_
          refine z_iincN hR 1 dNE_measure_71 (n := 74) rfl rfl (by decide) rfl rfl ?_
          refine z_goto hR dNE_measure_74 (t := 39) rfl ?_
          refine ihw (i + 1) _ (by omega) (hf.wA _ (by decide)) (fun d2 h2 s hs g hg => ?_) (fun s hs g hg => ?_)
          · rw [zwA_sn _ _ _ _ (by omega)]
            exact a1 d2 h2 s hs g hg
          · by_cases e : s = i
            · subst e
              rw [zwA_ss]
              exact hyy g hg
            · rw [zwA_sn _ _ _ _ (by omega)]
              exact a2 s (by omega) g hg
      refine z_iload_n hR dNE_measure_31 (n := 32) rfl rfl ?_
      refine z_bipush hR dNE_measure_32 (v := nI 6) (n := 34) rfl rfl ?_
      refine z_icmp_geN hR dNE_measure_34 (t := 83) (n := 37) rfl rfl (by omega) (by omega) (fun h34 => absurd h34 (by omega)) (fun h34 => ?_)
      refine z_iconst hR dNE_measure_37 (v := nI 0) (n := 38) rfl rfl ?_
      refine z_istore_n hR dNE_measure_38 (n := 39) rfl (by decide) rfl ?_
      exact inn 6 0 _ (by omega) hf a1 (fun s hs => absurd hs (by omega))
  have key1 : ∀ (m i : Nat) (l2 : Option Value) (τ : zS), i + m = 6 → zfr [17, 18] σ τ → (∀ s, s < i → τ.1 17 s = σ.1 20 s) → Z 0 2 [some (.ref 16), some (.int (nI i)), l2] [] τ := by
    intro m
    induction m with
    | zero =>
      intro i l2 τ hi hf a1
      obtain rfl : i = 6 := by omega
      refine z_iload_n hR dNE_measure_2 (n := 3) rfl rfl ?_
      refine z_bipush hR dNE_measure_3 (v := nI 6) (n := 5) rfl rfl ?_
      refine z_icmp_geN hR dNE_measure_5 (t := 29) (n := 8) rfl rfl (by omega) (by omega) (fun h5 => ?_) (fun h5 => absurd h5 (by omega))
      refine z_iconst hR dNE_measure_29 (v := nI 1) (n := 30) rfl rfl ?_
      refine z_istore_n hR dNE_measure_30 (n := 31) rfl (by decide) rfl ?_
      refine key2 5 1 _ _ (by omega) (by omega) hf (fun d2 h2 s hs g hg => ?_)
      obtain rfl : d2 = 0 := by omega
      rw [Nat.zero_mul, Nat.zero_add, a1 s hs, hk s hs g hg, kN_0]
    | succ m ih =>
      intro i l2 τ hi hf a1
      refine z_iload_n hR dNE_measure_2 (n := 3) rfl rfl ?_
      refine z_bipush hR dNE_measure_3 (v := nI 6) (n := 5) rfl rfl ?_
      refine z_icmp_geN hR dNE_measure_5 (t := 29) (n := 8) rfl rfl (by omega) (by omega) (fun h5 => absurd h5 (by omega)) (fun h5 => ?_)
      refine z_aload_n hR dNE_measure_8 (n := 9) rfl rfl ?_
      refine z_getR hR dNE_measure_9 (n := 12) rfl zgNE_23 (by decide) rfl rfl ?_
      refine z_iload_n hR dNE_measure_12 (n := 13) rfl rfl ?_
      refine z_aload_n hR dNE_measure_13 (n := 14) rfl rfl ?_
      refine z_getR hR dNE_measure_14 (n := 17) rfl zgNE_12 (by decide) rfl rfl ?_
      refine z_getR hR dNE_measure_17 (n := 20) rfl zgNE_30 (by decide) rfl rfl ?_
      refine z_iload_n hR dNE_measure_20 (n := 21) rfl rfl ?_
      refine z_iald hR (_) dNE_measure_21 (n := 22) rfl (by decide) rfl (by decide) rfl (by omega) ?_
      refine z_iast hR (_) dNE_measure_22 (n := 23) rfl (by decide) rfl (by decide) rfl (by omega) ?_
      refine z_iincN hR 1 dNE_measure_23 (n := 26) rfl rfl (by decide) rfl rfl ?_
      refine z_goto hR dNE_measure_26 (t := 2) rfl ?_
      refine ih (i + 1) _ _ (by omega) (hf.wA _ (by decide)) (fun s hs => ?_)
      by_cases e : s = i
      · subst e
        rw [zwA_ss, hf.1 20 (by decide)]
      · rw [zwA_sn _ _ _ _ e]
        exact a1 s (by omega)
  refine z_iconst hR dNE_measure_0 (v := nI 0) (n := 1) rfl rfl ?_
  refine z_istore_n hR dNE_measure_1 (n := 2) rfl (by decide) rfl ?_
  exact key1 6 0 _ _ (by omega) zfr.rf (fun s hs => absurd hs (by omega))
theorem m_NE_within {d s : Nat} (hd : d < 6) (hs : s < 6) (σ : zS) : zM yNE_within cNE_within 3 (some .int) 0 0 0 [.ref 16, .int (nI d), .int (nI s)] σ (fun r σ2 => r = some (.int (σ.1 17 (d * 6 + s))) ∧ σ2 = σ) (fun _ _ => False) := by
  refine zM.of [some (.ref 16), some (.int (nI d)), some (.int (nI s))] (by decide) 0 rfl (fun _ => Nat.le_of_ble_eq_true rfl) (fun Z hR => ?_)
  refine z_aload_n hR dNE_within_0 (n := 1) rfl rfl ?_
  refine z_getR hR dNE_within_1 (n := 4) rfl zgNE_23 (by decide) rfl rfl ?_
  refine z_iload_n hR dNE_within_4 (n := 5) rfl rfl ?_
  refine z_bipush hR dNE_within_5 (v := nI 6) (n := 7) rfl rfl ?_
  refine z_imulN hR dNE_within_7 (n := 8) rfl ?_
  refine z_iload_n hR dNE_within_8 (n := 9) rfl rfl ?_
  refine z_iaddN hR dNE_within_9 (n := 10) rfl ?_
  refine z_iald hR (_) dNE_within_10 (n := 11) rfl (by decide) rfl (by decide) rfl (by omega) ?_
  refine z_zret hR dNE_within_11 rfl rfl (Nat.zero_le _) ?_
  exact ⟨rfl, rfl⟩
theorem m_NE_states (b : Bool) (σ : zS) : zM yNE_statesWithPath cNE_statesWithPath 5 (some .int) 0 0 0 [.ref 16, .int (zb b)] σ (fun r σ2 => σ2 = σ ∧ ∃ y, r = some (.int y) ∧ ∀ q, q < 32 → (tb y q = true ↔ (q < 6 ∧ ∃ g, g < 32 ∧ tb (σ.1 18 q) g = true ∧ tb (σ.1 32 q) g = b))) (fun _ _ => False) := by
  refine zM.of [some (.ref 16), some (.int (zb b)), none, none, none] (by decide) 3 rfl (fun _ => Nat.le_of_ble_eq_true rfl) (fun Z hR => ?_)
  have key : ∀ (m i : Nat) (e : Int32) (l4 : Option Value), i + m = 6 → (∀ q, q < 32 → (tb e q = true ↔ (q < i ∧ ∃ g, g < 32 ∧ tb (σ.1 18 q) g = true ∧ tb (σ.1 32 q) g = b))) → Z 0 4 [some (.ref 16), some (.int (zb b)), some (.int e), some (.int (nI i)), l4] [] σ := by
    intro m
    induction m with
    | zero =>
      intro i e l4 hi he
      obtain rfl : i = 6 := by omega
      refine z_iload_n hR dNE_statesWithPath_4 (n := 5) rfl rfl ?_
      refine z_bipush hR dNE_statesWithPath_5 (v := nI 6) (n := 7) rfl rfl ?_
      refine z_icmp_geN hR dNE_statesWithPath_7 (t := 63) (n := 10) rfl rfl (by omega) (by omega) (fun h7 => ?_) (fun h7 => absurd h7 (by omega))
      refine z_iload_n hR dNE_statesWithPath_63 (n := 64) rfl rfl ?_
      refine z_zret hR dNE_statesWithPath_64 rfl rfl (Nat.zero_le _) ?_
      exact ⟨rfl, _, rfl, he⟩
    | succ m ih =>
      intro i e l4 hi he
      have fin : ∀ (x : Int32), (∀ g, g < 32 → (tb x g = true ↔ tb (σ.1 32 i) g = b)) → Z 0 37 [some (.ref 16), some (.int (zb b)), some (.int e), some (.int (nI i)), l4] [.int x] σ := by
        intro x hx
        by_cases h0 : σ.1 18 i &&& x = 0
        ·
          refine z_istore hR dNE_statesWithPath_37 (n := 39) rfl (by decide) rfl ?_
          refine z_aload_n hR dNE_statesWithPath_39 (n := 40) rfl rfl ?_
          refine z_getR hR dNE_statesWithPath_40 (n := 43) rfl zgNE_27 (by decide) rfl rfl ?_
          refine z_iload_n hR dNE_statesWithPath_43 (n := 44) rfl rfl ?_
          refine z_iald hR (_) dNE_statesWithPath_44 (n := 45) rfl (by decide) rfl (by decide) rfl (by omega) ?_
          refine z_iload hR dNE_statesWithPath_45 (n := 47) rfl rfl ?_
          refine z_iand hR dNE_statesWithPath_47 (n := 48) rfl ?_
          refine z_if_eq hR dNE_statesWithPath_48 (t := 57) (n := 51) rfl rfl (fun _ => ?_) (fun h48 => absurd h0 h48)
          refine z_iincN hR 1 dNE_statesWithPath_57 (n := 60) rfl rfl (by decide) rfl rfl ?_
          refine z_goto hR dNE_statesWithPath_60 (t := 4) rfl ?_
          refine ih (i + 1) _ _ (by omega) (fun q hq => ?_)
          rw [he q hq]
          constructor
          · rintro ⟨h1, h2⟩
            exact ⟨by omega, h2⟩
          · rintro ⟨h1, g, g1, g2, g3⟩
            by_cases e1 : q = i
            · subst e1
              have : tb (σ.1 18 q &&& x) g = true := by rw [tb_and, g2, (hx g g1).mpr g3]; rfl
              rw [h0, tb_0] at this
              exact absurd this (by decide)
            · exact ⟨by omega, g, g1, g2, g3⟩
        ·
          obtain ⟨g, g1, g2⟩ := tb_n0.mp h0
          rw [tb_and, Bool.and_eq_true] at g2
          refine z_istore hR dNE_statesWithPath_37 (n := 39) rfl (by decide) rfl ?_
          refine z_aload_n hR dNE_statesWithPath_39 (n := 40) rfl rfl ?_
          refine z_getR hR dNE_statesWithPath_40 (n := 43) rfl zgNE_27 (by decide) rfl rfl ?_
          refine z_iload_n hR dNE_statesWithPath_43 (n := 44) rfl rfl ?_
          refine z_iald hR (_) dNE_statesWithPath_44 (n := 45) rfl (by decide) rfl (by decide) rfl (by omega) ?_
          refine z_iload hR dNE_statesWithPath_45 (n := 47) rfl rfl ?_
          refine z_iand hR dNE_statesWithPath_47 (n := 48) rfl ?_
          refine z_if_eq hR dNE_statesWithPath_48 (t := 57) (n := 51) rfl rfl (fun h48 => absurd h48 h0) (fun _ => ?_)
          refine z_iload_n hR dNE_statesWithPath_51 (n := 52) rfl rfl ?_
          refine z_iconst hR dNE_statesWithPath_52 (v := 1) (n := 53) rfl rfl ?_
          refine z_iload_n hR dNE_statesWithPath_53 (n := 54) rfl rfl ?_
          refine z_ishl hR dNE_statesWithPath_54 (n := 55) rfl ?_
          refine z_ior hR dNE_statesWithPath_55 (n := 56) rfl ?_
          refine z_istore_n hR dNE_statesWithPath_56 (n := 57) rfl (by decide) rfl ?_
          refine z_iincN hR 1 dNE_statesWithPath_57 (n := 60) rfl rfl (by decide) rfl rfl ?_
          refine z_goto hR dNE_statesWithPath_60 (t := 4) rfl ?_
          refine ih (i + 1) _ _ (by omega) (fun q hq => ?_)
          rw [tb_or, Bool.or_eq_true, tb_shl1 (by omega : i < 32) q hq, he q hq, decide_eq_true_iff]
          constructor
          · rintro (⟨h1, h2⟩ | h1)
            · exact ⟨by omega, h2⟩
            · subst h1
              exact ⟨by omega, g, g1, g2.1, (hx g g1).mp g2.2⟩
          · rintro ⟨h1, h2⟩
            by_cases e1 : q = i
            · exact Or.inr e1
            · exact Or.inl ⟨by omega, h2⟩
      cases b with
      | true =>
        refine z_iload_n hR dNE_statesWithPath_4 (n := 5) rfl rfl ?_
        refine z_bipush hR dNE_statesWithPath_5 (v := nI 6) (n := 7) rfl rfl ?_
        refine z_icmp_geN hR dNE_statesWithPath_7 (t := 63) (n := 10) rfl rfl (by omega) (by omega) (fun h7 => absurd h7 (by omega)) (fun h7 => ?_)
        refine z_iload_n hR dNE_statesWithPath_10 (n := 11) rfl rfl ?_
        refine z_if_eqB hR dNE_statesWithPath_11 (t := 26) (n := 14) rfl rfl (fun h11 => absurd h11 (by decide)) (fun h11 => ?_)
        refine z_aload_n hR dNE_statesWithPath_14 (n := 15) rfl rfl ?_
        refine z_getR hR dNE_statesWithPath_15 (n := 18) rfl zgNE_22 (by decide) rfl rfl ?_
        refine z_getR hR dNE_statesWithPath_18 (n := 21) rfl zgNE_57 (by decide) rfl rfl ?_
        refine z_iload_n hR dNE_statesWithPath_21 (n := 22) rfl rfl ?_
        refine z_iald hR (_) dNE_statesWithPath_22 (n := 23) rfl (by decide) rfl (by decide) rfl (by omega) ?_
        refine z_goto hR dNE_statesWithPath_23 (t := 37) rfl ?_
        exact fin _ (fun g hg => Iff.rfl)
      | false =>
        refine z_iload_n hR dNE_statesWithPath_4 (n := 5) rfl rfl ?_
        refine z_bipush hR dNE_statesWithPath_5 (v := nI 6) (n := 7) rfl rfl ?_
        refine z_icmp_geN hR dNE_statesWithPath_7 (t := 63) (n := 10) rfl rfl (by omega) (by omega) (fun h7 => absurd h7 (by omega)) (fun h7 => ?_)
        refine z_iload_n hR dNE_statesWithPath_10 (n := 11) rfl rfl ?_
        refine z_if_eqB hR dNE_statesWithPath_11 (t := 26) (n := 14) rfl rfl (fun h11 => ?_) (fun h11 => absurd h11 (by decide))
        refine z_aload_n hR dNE_statesWithPath_26 (n := 27) rfl rfl ?_
        refine z_getR hR dNE_statesWithPath_27 (n := 30) rfl zgNE_22 (by decide) rfl rfl ?_
        refine z_getR hR dNE_statesWithPath_30 (n := 33) rfl zgNE_57 (by decide) rfl rfl ?_
        refine z_iload_n hR dNE_statesWithPath_33 (n := 34) rfl rfl ?_
        refine z_iald hR (_) dNE_statesWithPath_34 (n := 35) rfl (by decide) rfl (by decide) rfl (by omega) ?_
        refine z_iconst hR dNE_statesWithPath_35 (v := (-1)) (n := 36) rfl rfl ?_
        refine z_ixor hR dNE_statesWithPath_36 (n := 37) rfl ?_
        exact fin _ (fun g hg => by rw [tb_not _ hg]; simp)
  refine z_iconst hR dNE_statesWithPath_0 (v := 0) (n := 1) rfl rfl ?_
  refine z_istore_n hR dNE_statesWithPath_1 (n := 2) rfl (by decide) rfl ?_
  refine z_iconst hR dNE_statesWithPath_2 (v := nI 0) (n := 3) rfl rfl ?_
  refine z_istore_n hR dNE_statesWithPath_3 (n := 4) rfl (by decide) rfl ?_
  exact key 6 0 0 _ (by omega) (fun q hq => ⟨fun h => by rw [tb_0] at h; exact absurd h (by decide), fun h => absurd h.1 (by omega)⟩)
