/-! The reference studies the graph -/
/-- one step before a set -/
def bk (T : Nat) (L : Nat → Nat → Bool) (be : Nat → Nat → Nat → Nat) (R : Nat → Nat → Prop) (s q : Nat) : Prop := ∃ t b, t < 6 ∧ L s t = true ∧ b < 2 ^ T ∧ R t b ∧ be s t b = q
abbrev lB (A : Nat → Int64) (s q : Nat) : Prop := tl (A s) q = true
/-- what the steps need -/
def sP (σ : zS) (T : Nat) (L : Nat → Nat → Bool) (be : Nat → Nat → Nat → Nat) : Prop := σ.1 45 9 = nI T ∧ (∀ a b, a < 6 → b < 6 → σ.1 58 (6 * a + b) = zb (L a b)) ∧ ∀ s t, s < 6 → t < 6 → ∀ b, b < 2 ^ T → σ.1 60 (384 * s + 64 * t + b) = nI (be s t b) ∧ be s t b < 2 ^ T
theorem sP_fr {l : List Nat} {σ σ2 : zS} {T : Nat} {L : Nat → Nat → Bool} {be : Nat → Nat → Nat → Nat} (hf : zfr l σ σ2) (h1 : 45 ∉ l) (h2 : 58 ∉ l) (h3 : 60 ∉ l) (h : sP σ T L be) : sP σ2 T L be := by
  unfold sP
  rw [hf.1 45 h1, hf.1 58 h2, hf.1 60 h3]
  exact h
theorem m_MO_step {T : Nat} (hT5 : T ≤ 5) {L : Nat → Nat → Bool} {be : Nat → Nat → Nat → Nat} (σ : zS) (hP : sP σ T L be) : zM yMO_step cMO_step 5 none 0 0 0 [.ref 45] σ (fun r σ2 => r = none ∧ zfr [66] σ σ2 ∧ ∀ s, s < 6 → ∀ q, q < 64 → (lB (σ2.2 66) s q ↔ bk T L be (lB (σ.2 65)) s q)) (fun _ _ => False) := by
  refine zM.of [some (.ref 45), none, none, none, none] (by decide) 4 rfl (fun _ => Nat.le_of_ble_eq_true rfl) (fun Z hR => ?_)
  obtain ⟨hT, hL, hbe⟩ := hP
  have p2 := p2_le hT5
  have key1 : ∀ (m s : Nat) (l3 l4 : Option Value) (τ : zS), s + m = 6 → zfr [66] σ τ → (∀ s2, s2 < s → ∀ q, q < 64 → (lB (τ.2 66) s2 q ↔ bk T L be (lB (σ.2 65)) s2 q)) → Z 0 9 [some (.ref 45), some (.int (nI (2 ^ T))), some (.int (nI s)), l3, l4] [] τ := by
    intro m
    induction m with
    | zero =>
      intro s l3 l4 τ hs hf h
      obtain rfl : s = 6 := by omega
      refine z_iload_n hR dMO_step_9 (n := 10) rfl rfl ?_
      refine z_bipush hR dMO_step_10 (v := nI 6) (n := 12) rfl rfl ?_
      refine z_icmp_geN hR dMO_step_12 (t := 120) (n := 15) rfl rfl (by omega) (by omega) (fun h12 => ?_) (fun h12 => absurd h12 (by omega))
      refine z_vret hR dMO_step_120 rfl (Nat.zero_le _) ?_
      exact ⟨rfl, hf, h⟩
    | succ m ih =>
      intro s l3 l4 τ hs hf h
      have hs6 : s < 6 := by omega
      have key2 : ∀ (w t : Nat) (l4 : Option Value) (τ : zS), t + w = 6 → zfr [66] σ τ → (∀ s2, s2 < s → ∀ q, q < 64 → (lB (τ.2 66) s2 q ↔ bk T L be (lB (σ.2 65)) s2 q)) → (∀ q, q < 64 → (lB (τ.2 66) s q ↔ ∃ t2 b, t2 < t ∧ L s t2 = true ∧ b < 2 ^ T ∧ lB (σ.2 65) t2 b ∧ be s t2 b = q)) → Z 0 24 [some (.ref 45), some (.int (nI (2 ^ T))), some (.int (nI s)), some (.int (nI t)), l4] [] τ := by
        intro w
        induction w with
        | zero =>
          intro t l4 τ ht hf h1 h2
          obtain rfl : t = 6 := by omega
          refine z_iload_n hR dMO_step_24 (n := 25) rfl rfl ?_
          refine z_bipush hR dMO_step_25 (v := nI 6) (n := 27) rfl rfl ?_
          refine z_icmp_geN hR dMO_step_27 (t := 114) (n := 30) rfl rfl (by omega) (by omega) (fun h27 => ?_) (fun h27 => absurd h27 (by omega))
          refine z_iincN hR 1 dMO_step_114 (n := 117) rfl rfl (by decide) rfl rfl ?_
          refine z_goto hR dMO_step_117 (t := 9) rfl ?_
          refine ih (s + 1) _ _ _ (by omega) hf (fun s2 hs2 => ?_)
          by_cases e : s2 = s
          · subst e
            exact h2
          · exact h1 s2 (by omega)
        | succ w ihw =>
          intro t l4 τ ht hf h1 h2
          have ht6 : t < 6 := by omega
          have el : τ.1 58 (6 * s + t) = zb (L s t) := by rw [hf.1 58 (by decide), hL s t hs6 ht6]
          have done : ∀ (l4 : Option Value) (τ2 : zS), zfr [66] σ τ2 → (∀ s2, s2 < s → ∀ q, q < 64 → (lB (τ2.2 66) s2 q ↔ bk T L be (lB (σ.2 65)) s2 q)) → (∀ q, q < 64 → (lB (τ2.2 66) s q ↔ ∃ t2 b, t2 < t + 1 ∧ L s t2 = true ∧ b < 2 ^ T ∧ lB (σ.2 65) t2 b ∧ be s t2 b = q)) → Z 0 108 [some (.ref 45), some (.int (nI (2 ^ T))), some (.int (nI s)), some (.int (nI t)), l4] [] τ2 := by
            intro l4 τ2 f2 g1 g2
            refine z_iincN hR 1 dMO_step_108 (n := 111) rfl rfl (by decide) rfl rfl ?_
            refine z_goto hR dMO_step_111 (t := 24) rfl ?_
            exact ihw (t + 1) _ _ (by omega) f2 g1 g2
          cases eL : L s t with
          | false =>
            rw [eL] at el
            have go := fun l4 => done l4 τ hf h1 (fun q hq => by
              rw [h2 q hq]
              constructor
              · rintro ⟨t2, b, a1, a2⟩
                exact ⟨t2, b, by omega, a2⟩
              · rintro ⟨t2, b, a1, a2, a3⟩
                by_cases e : t2 = t
                · subst e
                  rw [eL] at a2
                  exact absurd a2 (by decide)
                · exact ⟨t2, b, by omega, a2, a3⟩)
            have hpos : 0 < 2 ^ T := Nat.two_pow_pos T
            refine z_iload_n hR dMO_step_24 (n := 25) rfl rfl ?_
            refine z_bipush hR dMO_step_25 (v := nI 6) (n := 27) rfl rfl ?_
            refine z_icmp_geN hR dMO_step_27 (t := 114) (n := 30) rfl rfl (by omega) (by omega) (fun h27 => absurd h27 (by omega)) (fun h27 => ?_)
            refine z_iconst hR dMO_step_30 (v := nI 0) (n := 31) rfl rfl ?_
            refine z_istore hR dMO_step_31 (n := 33) rfl (by decide) rfl ?_
            refine z_iload hR dMO_step_33 (n := 35) rfl rfl ?_
            refine z_iload_n hR dMO_step_35 (n := 36) rfl rfl ?_
            refine z_icmp_geN hR dMO_step_36 (t := 108) (n := 39) rfl rfl (by omega) (by omega) (fun h36 => absurd h36 (by omega)) (fun h36 => ?_)
            refine z_aload_n hR dMO_step_39 (n := 40) rfl rfl ?_
            refine z_getR hR dMO_step_40 (n := 43) rfl zgMO_46 (by decide) rfl rfl ?_
            refine z_bipush hR dMO_step_43 (v := nI 6) (n := 45) rfl rfl ?_
            refine z_iload_n hR dMO_step_45 (n := 46) rfl rfl ?_
            refine z_imulN hR dMO_step_46 (n := 47) rfl ?_
            refine z_iload_n hR dMO_step_47 (n := 48) rfl rfl ?_
            refine z_iaddN hR dMO_step_48 (n := 49) rfl ?_
            refine z_zald hR (_) dMO_step_49 (n := 50) rfl (by decide) rfl (by decide) rfl (by omega) ?_
            rw [el]
            refine z_if_eqB hR dMO_step_50 (t := 108) (n := 53) rfl rfl (fun h50 => ?_) (fun h50 => absurd h50 (by decide))
            exact go _
          | true =>
            rw [eL] at el
            have key3 : ∀ (v i : Nat) (τ : zS), i + v = 2 ^ T → zfr [66] σ τ → (∀ s2, s2 < s → ∀ q, q < 64 → (lB (τ.2 66) s2 q ↔ bk T L be (lB (σ.2 65)) s2 q)) → (∀ q, q < 64 → (lB (τ.2 66) s q ↔ ((∃ t2 b, t2 < t ∧ L s t2 = true ∧ b < 2 ^ T ∧ lB (σ.2 65) t2 b ∧ be s t2 b = q) ∨ ∃ b, b < i ∧ lB (σ.2 65) t b ∧ be s t b = q))) → Z 0 33 [some (.ref 45), some (.int (nI (2 ^ T))), some (.int (nI s)), some (.int (nI t)), some (.int (nI i))] [] τ := by
              intro v
              induction v with
              | zero =>
                intro i τ hi hf g1 g2
                obtain rfl : i = 2 ^ T := by omega
                have go := fun l4 => done l4 τ hf g1 (fun q hq => by
                  rw [g2 q hq]
                  constructor
                  · rintro (⟨t2, b, a1, a2⟩ | ⟨b, a1, a2, a3⟩)
                    · exact ⟨t2, b, by omega, a2⟩
                    · exact ⟨t, b, by omega, eL, a1, a2, a3⟩
                  · rintro ⟨t2, b, a1, a2, a3, a4, a5⟩
                    by_cases e : t2 = t
                    · subst e
                      exact Or.inr ⟨b, a3, a4, a5⟩
                    · exact Or.inl ⟨t2, b, by omega, a2, a3, a4, a5⟩)
                refine z_iload hR dMO_step_33 (n := 35) rfl rfl ?_
                refine z_iload_n hR dMO_step_35 (n := 36) rfl rfl ?_
                refine z_icmp_geN hR dMO_step_36 (t := 108) (n := 39) rfl rfl (by omega) (by omega) (fun h36 => ?_) (fun h36 => absurd h36 (by omega))
                exact go _
              | succ v ihv =>
                intro i τ hi hf g1 g2
                have hi32 : i < 32 := by omega
                have el2 : τ.1 58 (6 * s + t) = zb true := by rw [hf.1 58 (by decide), hL s t hs6 ht6, eL]
                have e65 : τ.2 65 = σ.2 65 := hf.2 65 (by decide)
                obtain ⟨b1, b2⟩ := hbe s t hs6 ht6 i (by omega)
                have e60 : τ.1 60 (384 * s + 64 * t + i) = nI (be s t i) := by rw [hf.1 60 (by decide), b1]
                cases eb : tl (σ.2 65 t) i with
                | false =>
                  have go := ihv (i + 1) τ (by omega) hf g1 (fun q hq => by
                    rw [g2 q hq]
                    constructor
                    · rintro (a | ⟨b, a1, a2⟩)
                      · exact Or.inl a
                      · exact Or.inr ⟨b, by omega, a2⟩
                    · rintro (a | ⟨b, a1, a2, a3⟩)
                      · exact Or.inl a
                      · by_cases e : b = i
                        · subst e
                          rw [lB, eb] at a2
                          exact absurd a2 (by decide)
                        · exact Or.inr ⟨b, by omega, a2, a3⟩)
                  refine z_iload hR dMO_step_33 (n := 35) rfl rfl ?_
                  refine z_iload_n hR dMO_step_35 (n := 36) rfl rfl ?_
                  refine z_icmp_geN hR dMO_step_36 (t := 108) (n := 39) rfl rfl (by omega) (by omega) (fun h36 => absurd h36 (by omega)) (fun h36 => ?_)
                  refine z_aload_n hR dMO_step_39 (n := 40) rfl rfl ?_
                  refine z_getR hR dMO_step_40 (n := 43) rfl zgMO_46 (by decide) rfl rfl ?_
                  refine z_bipush hR dMO_step_43 (v := nI 6) (n := 45) rfl rfl ?_
                  refine z_iload_n hR dMO_step_45 (n := 46) rfl rfl ?_
                  refine z_imulN hR dMO_step_46 (n := 47) rfl ?_
                  refine z_iload_n hR dMO_step_47 (n := 48) rfl rfl ?_
                  refine z_iaddN hR dMO_step_48 (n := 49) rfl ?_
                  refine z_zald hR (_) dMO_step_49 (n := 50) rfl (by decide) rfl (by decide) rfl (by omega) ?_
                  rw [el2]
                  refine z_if_eqB hR dMO_step_50 (t := 108) (n := 53) rfl rfl (fun h50 => absurd h50 (by decide)) (fun h50 => ?_)
                  refine z_aload_n hR dMO_step_53 (n := 54) rfl rfl ?_
                  refine z_getR hR dMO_step_54 (n := 57) rfl zgMO_69 (by decide) rfl rfl ?_
                  refine z_iload_n hR dMO_step_57 (n := 58) rfl rfl ?_
                  refine z_lald hR (_) dMO_step_58 (n := 59) rfl (by decide) rfl (by decide) rfl (by omega) ?_
                  rw [e65]
                  refine z_iload hR dMO_step_59 (n := 61) rfl rfl ?_
                  refine z_lshr hR dMO_step_61 (n := 62) rfl ?_
                  refine z_lconst hR dMO_step_62 (v := 1) (n := 63) rfl rfl ?_
                  refine z_land hR dMO_step_63 (n := 64) rfl ?_
                  rw [tl_sr1 _ hi32, eb]
                  refine z_lconst hR dMO_step_64 (v := 1) (n := 65) rfl rfl ?_
                  refine z_lcmp hR dMO_step_65 (n := 66) rfl ?_
                  rw [cmp_f]
                  refine z_if_ne hR dMO_step_66 (t := 102) (n := 69) rfl rfl (fun _ => ?_) (fun h66 => absurd h66 (by decide))
                  refine z_iincN hR 1 dMO_step_102 (n := 105) rfl rfl (by decide) rfl rfl ?_
                  refine z_goto hR dMO_step_105 (t := 33) rfl ?_
                  exact go
                | true =>
                  have go := ihv (i + 1) (zwL τ 66 s (τ.2 66 s ||| ((1 : Int64) <<< ((nI (be s t i)).toInt64 &&& 63)))) (by omega) (hf.wL _ (by decide)) (fun s2 hs2 q hq => by
                    rw [lB, zwL_sn _ _ _ _ (by omega)]
                    exact g1 s2 hs2 q hq) (fun q hq => by
                    rw [lB, zwL_ss, tl_or, Bool.or_eq_true, tl_shl1 (by omega) hq, decide_eq_true_iff]
                    have := g2 q hq
                    rw [lB] at this
                    rw [this]
                    constructor
                    · rintro ((a | ⟨b, a1, a2⟩) | a)
                      · exact Or.inl a
                      · exact Or.inr ⟨b, by omega, a2⟩
                      · exact Or.inr ⟨i, by omega, eb, a.symm⟩
                    · rintro (a | ⟨b, a1, a2, a3⟩)
                      · exact Or.inl (Or.inl a)
                      · by_cases e : b = i
                        · subst e
                          exact Or.inr a3.symm
                        · exact Or.inl (Or.inr ⟨b, by omega, a2, a3⟩))
                  refine z_iload hR dMO_step_33 (n := 35) rfl rfl ?_
                  refine z_iload_n hR dMO_step_35 (n := 36) rfl rfl ?_
                  refine z_icmp_geN hR dMO_step_36 (t := 108) (n := 39) rfl rfl (by omega) (by omega) (fun h36 => absurd h36 (by omega)) (fun h36 => ?_)
                  refine z_aload_n hR dMO_step_39 (n := 40) rfl rfl ?_
                  refine z_getR hR dMO_step_40 (n := 43) rfl zgMO_46 (by decide) rfl rfl ?_
                  refine z_bipush hR dMO_step_43 (v := nI 6) (n := 45) rfl rfl ?_
                  refine z_iload_n hR dMO_step_45 (n := 46) rfl rfl ?_
                  refine z_imulN hR dMO_step_46 (n := 47) rfl ?_
                  refine z_iload_n hR dMO_step_47 (n := 48) rfl rfl ?_
                  refine z_iaddN hR dMO_step_48 (n := 49) rfl ?_
                  refine z_zald hR (_) dMO_step_49 (n := 50) rfl (by decide) rfl (by decide) rfl (by omega) ?_
                  rw [el2]
                  refine z_if_eqB hR dMO_step_50 (t := 108) (n := 53) rfl rfl (fun h50 => absurd h50 (by decide)) (fun h50 => ?_)
                  refine z_aload_n hR dMO_step_53 (n := 54) rfl rfl ?_
                  refine z_getR hR dMO_step_54 (n := 57) rfl zgMO_69 (by decide) rfl rfl ?_
                  refine z_iload_n hR dMO_step_57 (n := 58) rfl rfl ?_
                  refine z_lald hR (_) dMO_step_58 (n := 59) rfl (by decide) rfl (by decide) rfl (by omega) ?_
                  rw [e65]
                  refine z_iload hR dMO_step_59 (n := 61) rfl rfl ?_
                  refine z_lshr hR dMO_step_61 (n := 62) rfl ?_
                  refine z_lconst hR dMO_step_62 (v := 1) (n := 63) rfl rfl ?_
                  refine z_land hR dMO_step_63 (n := 64) rfl ?_
                  rw [tl_sr1 _ hi32, eb]
                  refine z_lconst hR dMO_step_64 (v := 1) (n := 65) rfl rfl ?_
                  refine z_lcmp hR dMO_step_65 (n := 66) rfl ?_
                  rw [cmp_t]
                  refine z_if_ne hR dMO_step_66 (t := 102) (n := 69) rfl rfl (fun h66 => absurd h66 (fun q => q rfl)) (fun _ => ?_)
                  refine z_aload_n hR dMO_step_69 (n := 70) rfl rfl ?_
                  refine z_getR hR dMO_step_70 (n := 73) rfl zgMO_72 (by decide) rfl rfl ?_
                  refine z_iload_n hR dMO_step_73 (n := 74) rfl rfl ?_
                  refine z_aload_n hR dMO_step_74 (n := 75) rfl rfl ?_
                  refine z_getR hR dMO_step_75 (n := 78) rfl zgMO_72 (by decide) rfl rfl ?_
                  refine z_iload_n hR dMO_step_78 (n := 79) rfl rfl ?_
                  refine z_lald hR (_) dMO_step_79 (n := 80) rfl (by decide) rfl (by decide) rfl (by omega) ?_
                  refine z_lconst hR dMO_step_80 (v := 1) (n := 81) rfl rfl ?_
                  refine z_aload_n hR dMO_step_81 (n := 82) rfl rfl ?_
                  refine z_getR hR dMO_step_82 (n := 85) rfl zgMO_53 (by decide) rfl rfl ?_
                  refine z_sipush hR dMO_step_85 (v := nI 384) (n := 88) rfl rfl ?_
                  refine z_iload_n hR dMO_step_88 (n := 89) rfl rfl ?_
                  refine z_imulN hR dMO_step_89 (n := 90) rfl ?_
                  refine z_bipush hR dMO_step_90 (v := nI 64) (n := 92) rfl rfl ?_
                  refine z_iload_n hR dMO_step_92 (n := 93) rfl rfl ?_
                  refine z_imulN hR dMO_step_93 (n := 94) rfl ?_
                  refine z_iaddN hR dMO_step_94 (n := 95) rfl ?_
                  refine z_iload hR dMO_step_95 (n := 97) rfl rfl ?_
                  refine z_iaddN hR dMO_step_97 (n := 98) rfl ?_
                  refine z_iald hR (_) dMO_step_98 (n := 99) rfl (by decide) rfl (by decide) rfl (by omega) ?_
                  rw [e60]
                  refine z_lshl hR dMO_step_99 (n := 100) rfl ?_
                  refine z_lor hR dMO_step_100 (n := 101) rfl ?_
                  refine z_last hR (_) dMO_step_101 (n := 102) rfl (by decide) rfl (by decide) rfl (by omega) ?_
                  refine z_iincN hR 1 dMO_step_102 (n := 105) rfl rfl (by decide) rfl rfl ?_
                  refine z_goto hR dMO_step_105 (t := 33) rfl ?_
                  exact go
            refine z_iload_n hR dMO_step_24 (n := 25) rfl rfl ?_
            refine z_bipush hR dMO_step_25 (v := nI 6) (n := 27) rfl rfl ?_
            refine z_icmp_geN hR dMO_step_27 (t := 114) (n := 30) rfl rfl (by omega) (by omega) (fun h27 => absurd h27 (by omega)) (fun h27 => ?_)
            refine z_iconst hR dMO_step_30 (v := nI 0) (n := 31) rfl rfl ?_
            refine z_istore hR dMO_step_31 (n := 33) rfl (by decide) rfl ?_
            exact key3 (2 ^ T) 0 _ (by omega) hf h1 (fun q hq => by
              rw [h2 q hq]
              constructor
              · exact Or.inl
              · rintro (a | ⟨b, a1, _⟩)
                · exact a
                · exact absurd a1 (by omega))
      refine z_iload_n hR dMO_step_9 (n := 10) rfl rfl ?_
      refine z_bipush hR dMO_step_10 (v := nI 6) (n := 12) rfl rfl ?_
      refine z_icmp_geN hR dMO_step_12 (t := 120) (n := 15) rfl rfl (by omega) (by omega) (fun h12 => absurd h12 (by omega)) (fun h12 => ?_)
      refine z_aload_n hR dMO_step_15 (n := 16) rfl rfl ?_
      refine z_getR hR dMO_step_16 (n := 19) rfl zgMO_72 (by decide) rfl rfl ?_
      refine z_iload_n hR dMO_step_19 (n := 20) rfl rfl ?_
      refine z_lconst hR dMO_step_20 (v := 0) (n := 21) rfl rfl ?_
      refine z_last hR (_) dMO_step_21 (n := 22) rfl (by decide) rfl (by decide) rfl (by omega) ?_
      refine z_iconst hR dMO_step_22 (v := nI 0) (n := 23) rfl rfl ?_
      refine z_istore_n hR dMO_step_23 (n := 24) rfl (by decide) rfl ?_
      exact key2 6 0 _ _ (by omega) (hf.wL _ (by decide)) (fun s2 hs2 q hq => by
        rw [lB, zwL_sn _ _ _ _ (by omega)]
        exact h s2 hs2 q hq) (fun q hq => by
        rw [lB, zwL_ss, tl_0]
        constructor
        · exact fun a => absurd a (by decide)
        · rintro ⟨t2, b, a1, _⟩
          exact absurd a1 (by omega))
  refine z_iconst hR dMO_step_0 (v := 1) (n := 1) rfl rfl ?_
  refine z_aload_n hR dMO_step_1 (n := 2) rfl rfl ?_
  refine z_getI hR dMO_step_2 (n := 5) rfl zgMO_148 (by decide) rfl rfl ?_
  rw [hT]
  refine z_ishl hR dMO_step_5 (n := 6) rfl ?_
  rw [p2_shl hT5]
  refine z_istore_n hR dMO_step_6 (n := 7) rfl (by decide) rfl ?_
  refine z_iconst hR dMO_step_7 (v := nI 0) (n := 8) rfl rfl ?_
  refine z_istore_n hR dMO_step_8 (n := 9) rfl (by decide) rfl ?_
  exact key1 6 0 _ _ _ (by omega) zfr.rf (fun s2 hs2 => absurd hs2 (by omega))
theorem lcmp_0 {x y : Int64} : lg_cmp x y = 0 ↔ x = y := by
  unfold lg_cmp
  constructor
  · intro h
    by_cases h1 : x > y
    · rw [if_pos h1] at h
      exact absurd h (by decide)
    · rw [if_neg h1] at h
      by_cases h2 : x = y
      · exact h2
      · rw [if_neg h2] at h
        exact absurd h (by decide)
  · intro h
    subst h
    rw [if_neg (fun h => Int64.lt_irrefl h), if_pos rfl]
/-- what a cut leaves -/
def cutP (T : Nat) (L : Nat → Nat → Bool) (be : Nat → Nat → Nat → Nat) (R : Nat → Nat → Prop) (F F2 : Nat → Int64) (ch : Bool) : Prop := (∀ s, s < 6 → ∀ q, q < 64 → (lB F2 s q ↔ (lB F s q ∧ bk T L be R s q))) ∧ (ch = false → ∀ s, s < 6 → F2 s = F s) ∧ (ch = true → ∃ s q, s < 6 ∧ q < 64 ∧ lB F s q ∧ ¬ lB F2 s q)
theorem bk_mo {T : Nat} {L : Nat → Nat → Bool} {be : Nat → Nat → Nat → Nat} {R R2 : Nat → Nat → Prop} (h : ∀ t b, t < 6 → b < 2 ^ T → R t b → R2 t b) {s q : Nat} (hb : bk T L be R s q) : bk T L be R2 s q := by
  obtain ⟨t, b, a1, a2, a3, a4, a5⟩ := hb
  exact ⟨t, b, a1, a2, a3, h t b a1 a3 a4, a5⟩
def cnL (A : Nat → Int64) : Nat := cn (fun v => tl (A (v / 64)) (v % 64)) 384
theorem cnL_lt {A B : Nat → Int64} (h1 : ∀ s, s < 6 → ∀ q, q < 64 → lB A s q → lB B s q) (h2 : ∃ s q, s < 6 ∧ q < 64 ∧ lB B s q ∧ ¬ lB A s q) : cnL A < cnL B := by
  refine cn_lt (fun v hv h => h1 _ (by omega) _ (by omega) h) ?_
  obtain ⟨s, q, a1, a2, a3, a4⟩ := h2
  refine ⟨64 * s + q, by omega, ?_, ?_⟩
  · rw [show (64 * s + q) / 64 = s by omega, show (64 * s + q) % 64 = q by omega]
    simpa [lB] using a4
  · rw [show (64 * s + q) / 64 = s by omega, show (64 * s + q) % 64 = q by omega]
    exact a3
theorem cnL_n (A : Nat → Int64) : cnL A ≤ 384 := cn_n _ _
/-- the set of a cut by a goal -/
def cutR (T : Nat) (L : Nat → Nat → Bool) (be : Nat → Nat → Nat → Nat) (F : Nat → Int64) (gl : Nat → Nat → Bool) (R : Nat → Nat → Prop) : Prop := (∀ s, s < 6 → ∀ q, q < 64 → R s q → lB F s q) ∧ (∀ s, s < 6 → ∀ q, q < 64 → lB F s q → gl s q = true → R s q) ∧ (∀ s, s < 6 → ∀ q, q < 64 → lB F s q → bk T L be R s q → R s q) ∧ ∀ Y : Nat → Nat → Prop, (∀ s, s < 6 → ∀ q, q < 64 → lB F s q → gl s q = true → Y s q) → (∀ s, s < 6 → ∀ q, q < 64 → lB F s q → bk T L be Y s q → Y s q) → ∀ s, s < 6 → ∀ q, q < 64 → R s q → Y s q
theorem m_MO_cut {T : Nat} (hT5 : T ≤ 5) {L : Nat → Nat → Bool} {be : Nat → Nat → Nat → Nat} (x : Int32) (ko : Option Nat) (hx : (x = -1 ∧ ko = none) ∨ ∃ k, k < T ∧ x = nI k ∧ ko = some k) (σ : zS) (hP : sP σ T L be) : zM yMO_cut cMO_cut 7 (some .boolean) 1 30 0 [.ref 45, .int x] σ (fun r σ2 => zfr [63, 65, 66] σ σ2 ∧ ∃ (ch : Bool) (R : Nat → Nat → Prop), r = some (.int (zb ch)) ∧ cutP T L be R (σ.2 63) (σ2.2 63) ch ∧ (ko = none → R = lB (σ.2 63) ∨ ∀ s, s < 6 → ∀ q, q < 64 → (R s q ↔ lB (σ.2 63) s q)) ∧ ∀ k, ko = some k → cutR T L be (σ.2 63) (fun s q => glA (σ.2 67) k s q) R) (fun _ _ => False) := by
  refine zM.of [some (.ref 45), some (.int x), none, none, none, none, none] (by decide) 5 rfl (fun _ => Nat.le_of_ble_eq_true rfl) (fun Z hR => ?_)
  have p2 := p2_le hT5
  -- the end
  have fin : ∀ (x2 : Int32) (l3 l4 l5 l6 : Option Value) (τ : zS), zfr [65, 66] σ τ → (ko = none → ∀ s, s < 6 → ∀ q, q < 64 → (lB (τ.2 65) s q ↔ lB (σ.2 63) s q)) → (∀ k, ko = some k → cutR T L be (σ.2 63) (fun s q => glA (σ.2 67) k s q) (lB (τ.2 65))) → Z 0 140 [some (.ref 45), some (.int x), some (.int x2), l3, l4, l5, l6] [] τ := by
    intro x2 l3 l4 l5 l6 τ hf h1 h2
    have hc := m_MO_step hT5 τ (sP_fr hf (by decide) (by decide) (by decide) hP)
    have loop : ∀ (B : Nat → Int64) (m s : Nat) (b : Bool) (x2 : Int32) (l5 l6 : Option Value) (τ2 : zS), s + m = 6 → zfr [63, 65, 66] σ τ2 → τ2.2 66 = B → (∀ s, s < 6 → ∀ q, q < 64 → (lB B s q ↔ bk T L be (lB (τ.2 65)) s q)) → (∀ s2, s ≤ s2 → s2 < 6 → τ2.2 63 s2 = σ.2 63 s2) → (∀ s2, s2 < s → τ2.2 63 s2 = σ.2 63 s2 &&& B s2) → (b = false → ∀ s2, s2 < s → τ2.2 63 s2 = σ.2 63 s2) → (b = true → ∃ s2 q, s2 < s ∧ q < 64 ∧ lB (σ.2 63) s2 q ∧ ¬ lB (τ2.2 63) s2 q) → Z 0 149 [some (.ref 45), some (.int x), some (.int x2), some (.int (zb b)), some (.int (nI s)), l5, l6] [] τ2 := by
      intro B m
      induction m with
      | zero =>
        intro s b x2 l5 l6 τ2 hs hf2 hB g0 g1 g2 g3 g4
        obtain rfl : s = 6 := by omega
        refine z_iload hR dMO_cut_149 (n := 151) rfl rfl ?_
        refine z_bipush hR dMO_cut_151 (v := nI 6) (n := 153) rfl rfl ?_
        refine z_icmp_geN hR dMO_cut_153 (t := 211) (n := 156) rfl rfl (by omega) (by omega) (fun h153 => ?_) (fun h153 => absurd h153 (by omega))
        refine z_iload_n hR dMO_cut_211 (n := 212) rfl rfl ?_
        refine z_zret hR dMO_cut_212 rfl (zb_nar _) (Nat.zero_le _) ?_
        refine ⟨hf2, b, lB (τ.2 65), rfl, ⟨fun s hs q hq => ?_, g3, fun hb => ?_⟩, fun e => Or.inr (h1 e), h2⟩
        · rw [lB, g2 s hs, tl_and, Bool.and_eq_true]
          have := g0 s hs q hq
          rw [lB] at this
          rw [this]
        · obtain ⟨s2, q, a1, a2, a3, a4⟩ := g4 hb
          exact ⟨s2, q, a1, a2, a3, a4⟩
      | succ m ih =>
        intro s b x2 l5 l6 τ2 hs hf2 hB g0 g1 g2 g3 g4
        have e63 := g1 s (Nat.le_refl _) (by omega)
        have nxt : ∀ (b2 : Bool) (l6 : Option Value), b2 = (b || decide (σ.2 63 s &&& B s ≠ σ.2 63 s)) → Z 0 195 [some (.ref 45), some (.int x), some (.int x2), some (.int (zb b)), some (.int (nI s)), some (.long (σ.2 63 s &&& B s)), l6] [.int (zb b2)] τ2 := by
          intro b2 l6 hb2
          refine z_istore_n hR dMO_cut_195 (n := 196) rfl (by decide) rfl ?_
          refine z_aload_n hR dMO_cut_196 (n := 197) rfl rfl ?_
          refine z_getR hR dMO_cut_197 (n := 200) rfl zgMO_62 (by decide) rfl rfl ?_
          refine z_iload hR dMO_cut_200 (n := 202) rfl rfl ?_
          refine z_lload hR dMO_cut_202 (n := 204) rfl rfl ?_
          refine z_last hR (_) dMO_cut_204 (n := 205) rfl (by decide) rfl (by decide) rfl (by omega) ?_
          refine z_iincN hR 1 dMO_cut_205 (n := 208) rfl rfl (by decide) rfl rfl ?_
          refine z_goto hR dMO_cut_208 (t := 149) rfl ?_
          refine ih (s + 1) b2 _ _ _ _ (by omega) (hf2.wL _ (by decide)) ?_ g0 (fun s2 s3 s4 => ?_) (fun s2 s3 => ?_) (fun hb s2 s3 => ?_) (fun hb => ?_)
          · rw [zwL_n _ _ _ _ (by decide)]
            exact hB
          · rw [zwL_sn _ _ _ _ (by omega)]
            exact g1 s2 (by omega) s4
          · by_cases e : s2 = s
            · subst e
              rw [zwL_ss]
            · rw [zwL_sn _ _ _ _ e]
              exact g2 s2 (by omega)
          · rw [hb2, Bool.or_eq_false_iff, decide_eq_false_iff_not] at hb
            by_cases e : s2 = s
            · subst e
              rw [zwL_ss]
              exact Classical.byContradiction (fun q => hb.2 q)
            · rw [zwL_sn _ _ _ _ e]
              exact g3 hb.1 s2 (by omega)
          · by_cases hbb : b = true
            · obtain ⟨s2, q, a1, a2, a3, a4⟩ := g4 hbb
              refine ⟨s2, q, by omega, a2, a3, ?_⟩
              rw [lB, zwL_sn _ _ _ _ (by omega)]
              exact a4
            · rw [hb2, Bool.or_eq_true, decide_eq_true_iff] at hb
              obtain ⟨q, q1, q2⟩ := tl_ne (hb.resolve_left hbb)
              rw [tl_and] at q2
              refine ⟨s, q, by omega, q1, ?_, ?_⟩
              · cases e : tl (σ.2 63 s) q with
                | true => exact e
                | false =>
                  rw [e] at q2
                  exact absurd rfl q2
              · rw [lB, zwL_ss, tl_and]
                intro h3
                apply q2
                rw [Bool.and_eq_true] at h3
                rw [h3.1, h3.2]
                rfl
        refine z_iload hR dMO_cut_149 (n := 151) rfl rfl ?_
        refine z_bipush hR dMO_cut_151 (v := nI 6) (n := 153) rfl rfl ?_
        refine z_icmp_geN hR dMO_cut_153 (t := 211) (n := 156) rfl rfl (by omega) (by omega) (fun h153 => absurd h153 (by omega)) (fun h153 => ?_)
        refine z_aload_n hR dMO_cut_156 (n := 157) rfl rfl ?_
        refine z_getR hR dMO_cut_157 (n := 160) rfl zgMO_62 (by decide) rfl rfl ?_
        refine z_iload hR dMO_cut_160 (n := 162) rfl rfl ?_
        refine z_lald hR (_) dMO_cut_162 (n := 163) rfl (by decide) rfl (by decide) rfl (by omega) ?_
        rw [e63]
        refine z_aload_n hR dMO_cut_163 (n := 164) rfl rfl ?_
        refine z_getR hR dMO_cut_164 (n := 167) rfl zgMO_72 (by decide) rfl rfl ?_
        refine z_iload hR dMO_cut_167 (n := 169) rfl rfl ?_
        refine z_lald hR (_) dMO_cut_169 (n := 170) rfl (by decide) rfl (by decide) rfl (by omega) ?_
        rw [hB]
        refine z_land hR dMO_cut_170 (n := 171) rfl ?_
        refine z_lstore hR dMO_cut_171 (n := 173) rfl (by decide) rfl ?_
        refine z_iload_n hR dMO_cut_173 (n := 174) rfl rfl ?_
        refine z_if_neB hR dMO_cut_174 (t := 190) (n := 177) rfl rfl (fun h174 => ?_) (fun h174 => ?_)
        · refine z_iconst hR dMO_cut_190 (v := 1) (n := 191) rfl rfl ?_
          refine z_goto hR dMO_cut_191 (t := 195) rfl ?_
          first
            | exact nxt true _ (by rw [h174]; rfl)
            | exact nxt true _ (by
                have hq : σ.2 63 s &&& B s ≠ σ.2 63 s := fun q => h187 (lcmp_0.mpr q)
                simp [hq])
            | exact nxt false _ (by
                have hq : σ.2 63 s &&& B s = σ.2 63 s := lcmp_0.mp h187
                simp [hq, h174])
        · refine z_lload hR dMO_cut_177 (n := 179) rfl rfl ?_
          refine z_aload_n hR dMO_cut_179 (n := 180) rfl rfl ?_
          refine z_getR hR dMO_cut_180 (n := 183) rfl zgMO_62 (by decide) rfl rfl ?_
          refine z_iload hR dMO_cut_183 (n := 185) rfl rfl ?_
          refine z_lald hR (_) dMO_cut_185 (n := 186) rfl (by decide) rfl (by decide) rfl (by omega) ?_
          rw [e63]
          refine z_lcmp hR dMO_cut_186 (n := 187) rfl ?_
          refine z_if_eq hR dMO_cut_187 (t := 194) (n := 190) rfl rfl (fun h187 => ?_) (fun h187 => ?_)
          · refine z_iconst hR dMO_cut_194 (v := 0) (n := 195) rfl rfl ?_
            first
              | exact nxt true _ (by rw [h174]; rfl)
              | exact nxt true _ (by
                  have hq : σ.2 63 s &&& B s ≠ σ.2 63 s := fun q => h187 (lcmp_0.mpr q)
                  simp [hq])
              | exact nxt false _ (by
                  have hq : σ.2 63 s &&& B s = σ.2 63 s := lcmp_0.mp h187
                  simp [hq, h174])
          · refine z_iconst hR dMO_cut_190 (v := 1) (n := 191) rfl rfl ?_
            refine z_goto hR dMO_cut_191 (t := 195) rfl ?_
            first
              | exact nxt true _ (by rw [h174]; rfl)
              | exact nxt true _ (by
                  have hq : σ.2 63 s &&& B s ≠ σ.2 63 s := fun q => h187 (lcmp_0.mpr q)
                  simp [hq])
              | exact nxt false _ (by
                  have hq : σ.2 63 s &&& B s = σ.2 63 s := lcmp_0.mp h187
                  simp [hq, h174])
    refine z_aload_n hR dMO_cut_140 (n := 141) rfl rfl ?_
    refine z_callV0 hR dMO_cut_141 (n := 144) rfl zcMO_192 zkMO_step (by decide) (Nat.le_of_ble_eq_true rfl) (by decide) rfl rfl (Nat.zero_le _) hc (fun r141 s141 h141 => ?_)
    obtain ⟨rfl, wf, wB⟩ := h141
    refine z_iconst hR dMO_cut_144 (v := 0) (n := 145) rfl rfl ?_
    refine z_istore_n hR dMO_cut_145 (n := 146) rfl (by decide) rfl ?_
    refine z_iconst hR dMO_cut_146 (v := nI 0) (n := 147) rfl rfl ?_
    refine z_istore hR dMO_cut_147 (n := 149) rfl (by decide) rfl ?_
    exact loop (s141.2 66) 6 0 false _ _ _ _ (by omega) ((hf.mo (by decide)).tr (wf.mo (by decide))) rfl wB (fun s2 _ _ => by rw [wf.2 63 (by decide), hf.2 63 (by decide)]) (fun s2 h => absurd h (by omega)) (fun _ s2 h => absurd h (by omega)) (fun h => absurd h (by decide))
  -- one more round of growing
  have pass : ∀ (τ : zS) (l3 l4 l5 l6 : Option Value), zfr [65, 66] σ τ → (∀ (τ2 : zS) (b : Bool) (B : Nat → Int64) (l3 l4 l5 l6 : Option Value), zfr [65, 66] σ τ2 → (∀ s, s < 6 → ∀ q, q < 64 → (lB B s q ↔ bk T L be (lB (τ.2 65)) s q)) → (∀ s, s < 6 → τ2.2 65 s = τ.2 65 s ||| (σ.2 63 s &&& B s)) → (b = false → ∀ s, s < 6 → τ2.2 65 s = τ.2 65 s) → (b = true → ∃ s q, s < 6 ∧ q < 64 ∧ lB (τ2.2 65) s q ∧ ¬ lB (τ.2 65) s q) → Z 0 61 [some (.ref 45), some (.int x), some (.int (zb b)), l3, l4, l5, l6] [] τ2) → Z 0 61 [some (.ref 45), some (.int x), some (.int 1), l3, l4, l5, l6] [] τ := by
    intro τ l3 l4 l5 l6 hf go
    have hc := m_MO_step hT5 τ (sP_fr hf (by decide) (by decide) (by decide) hP)
    have loop : ∀ (B : Nat → Int64) (m s : Nat) (b : Bool) (l4 l5 l6 : Option Value) (τ2 : zS), s + m = 6 → zfr [65, 66] σ τ2 → τ2.2 66 = B → (∀ s, s < 6 → ∀ q, q < 64 → (lB B s q ↔ bk T L be (lB (τ.2 65)) s q)) → (∀ s2, s ≤ s2 → s2 < 6 → τ2.2 65 s2 = τ.2 65 s2) → (∀ s2, s2 < s → τ2.2 65 s2 = τ.2 65 s2 ||| (σ.2 63 s2 &&& B s2)) → (b = false → ∀ s2, s2 < s → τ2.2 65 s2 = τ.2 65 s2) → (b = true → ∃ s2 q, s2 < s ∧ q < 64 ∧ lB (τ2.2 65) s2 q ∧ ¬ lB (τ.2 65) s2 q) → Z 0 73 [some (.ref 45), some (.int x), some (.int (zb b)), some (.int (nI s)), l4, l5, l6] [] τ2 := by
      intro B m
      induction m with
      | zero =>
        intro s b l4 l5 l6 τ2 hs hf2 hB g0 g1 g2 g3 g4
        obtain rfl : s = 6 := by omega
        refine z_iload_n hR dMO_cut_73 (n := 74) rfl rfl ?_
        refine z_bipush hR dMO_cut_74 (v := nI 6) (n := 76) rfl rfl ?_
        refine z_icmp_geN hR dMO_cut_76 (t := 137) (n := 79) rfl rfl (by omega) (by omega) (fun h76 => ?_) (fun h76 => absurd h76 (by omega))
        refine z_goto hR dMO_cut_137 (t := 61) rfl ?_
        exact go τ2 b B _ _ _ _ hf2 g0 g2 g3 g4
      | succ m ih =>
        intro s b l4 l5 l6 τ2 hs hf2 hB g0 g1 g2 g3 g4
        have e65 := g1 s (Nat.le_refl _) (by omega)
        have e63 : τ2.2 63 = σ.2 63 := hf2.2 63 (by decide)
        have nxt : ∀ (b2 : Bool) (l5 l6 : Option Value), b2 = (b || decide (τ.2 65 s ||| (σ.2 63 s &&& B s) ≠ τ.2 65 s)) → Z 0 122 [some (.ref 45), some (.int x), some (.int (zb b)), some (.int (nI s)), some (.long (τ.2 65 s ||| (σ.2 63 s &&& B s))), l5, l6] [.int (zb b2)] τ2 := by
          intro b2 l5 l6 hb2
          refine z_istore_n hR dMO_cut_122 (n := 123) rfl (by decide) rfl ?_
          refine z_aload_n hR dMO_cut_123 (n := 124) rfl rfl ?_
          refine z_getR hR dMO_cut_124 (n := 127) rfl zgMO_69 (by decide) rfl rfl ?_
          refine z_iload_n hR dMO_cut_127 (n := 128) rfl rfl ?_
          refine z_lload hR dMO_cut_128 (n := 130) rfl rfl ?_
          refine z_last hR (_) dMO_cut_130 (n := 131) rfl (by decide) rfl (by decide) rfl (by omega) ?_
          refine z_iincN hR 1 dMO_cut_131 (n := 134) rfl rfl (by decide) rfl rfl ?_
          refine z_goto hR dMO_cut_134 (t := 73) rfl ?_
          refine ih (s + 1) b2 _ _ _ _ (by omega) (hf2.wL _ (by decide)) ?_ g0 (fun s2 s3 s4 => ?_) (fun s2 s3 => ?_) (fun hb s2 s3 => ?_) (fun hb => ?_)
          · rw [zwL_n _ _ _ _ (by decide)]
            exact hB
          · rw [zwL_sn _ _ _ _ (by omega)]
            exact g1 s2 (by omega) s4
          · by_cases e : s2 = s
            · subst e
              rw [zwL_ss]
            · rw [zwL_sn _ _ _ _ e]
              exact g2 s2 (by omega)
          · rw [hb2, Bool.or_eq_false_iff, decide_eq_false_iff_not] at hb
            by_cases e : s2 = s
            · subst e
              rw [zwL_ss]
              exact Classical.byContradiction (fun q => hb.2 q)
            · rw [zwL_sn _ _ _ _ e]
              exact g3 hb.1 s2 (by omega)
          · by_cases hbb : b = true
            · obtain ⟨s2, q, a1, a2, a3, a4⟩ := g4 hbb
              refine ⟨s2, q, by omega, a2, ?_, a4⟩
              rw [lB, zwL_sn _ _ _ _ (by omega)]
              exact a3
            · rw [hb2, Bool.or_eq_true, decide_eq_true_iff] at hb
              obtain ⟨q, q1, q2⟩ := tl_ne (hb.resolve_left hbb)
              rw [tl_or] at q2
              have e0 : tl (τ.2 65 s) q = false := by
                cases e : tl (τ.2 65 s) q with
                | false => rfl
                | true =>
                  rw [e] at q2
                  exact absurd rfl q2
              rw [e0, Bool.false_or] at q2
              refine ⟨s, q, by omega, q1, ?_, ?_⟩
              · rw [lB, zwL_ss, tl_or, e0, Bool.false_or]
                cases e : tl (σ.2 63 s &&& B s) q with
                | true => rfl
                | false => exact absurd e q2
              · rw [lB, e0]
                decide
        refine z_iload_n hR dMO_cut_73 (n := 74) rfl rfl ?_
        refine z_bipush hR dMO_cut_74 (v := nI 6) (n := 76) rfl rfl ?_
        refine z_icmp_geN hR dMO_cut_76 (t := 137) (n := 79) rfl rfl (by omega) (by omega) (fun h76 => absurd h76 (by omega)) (fun h76 => ?_)
        refine z_aload_n hR dMO_cut_79 (n := 80) rfl rfl ?_
        refine z_getR hR dMO_cut_80 (n := 83) rfl zgMO_69 (by decide) rfl rfl ?_
        refine z_iload_n hR dMO_cut_83 (n := 84) rfl rfl ?_
        refine z_lald hR (_) dMO_cut_84 (n := 85) rfl (by decide) rfl (by decide) rfl (by omega) ?_
        rw [e65]
        refine z_aload_n hR dMO_cut_85 (n := 86) rfl rfl ?_
        refine z_getR hR dMO_cut_86 (n := 89) rfl zgMO_62 (by decide) rfl rfl ?_
        refine z_iload_n hR dMO_cut_89 (n := 90) rfl rfl ?_
        refine z_lald hR (_) dMO_cut_90 (n := 91) rfl (by decide) rfl (by decide) rfl (by omega) ?_
        rw [e63]
        refine z_aload_n hR dMO_cut_91 (n := 92) rfl rfl ?_
        refine z_getR hR dMO_cut_92 (n := 95) rfl zgMO_72 (by decide) rfl rfl ?_
        refine z_iload_n hR dMO_cut_95 (n := 96) rfl rfl ?_
        refine z_lald hR (_) dMO_cut_96 (n := 97) rfl (by decide) rfl (by decide) rfl (by omega) ?_
        rw [hB]
        refine z_land hR dMO_cut_97 (n := 98) rfl ?_
        refine z_lor hR dMO_cut_98 (n := 99) rfl ?_
        refine z_lstore hR dMO_cut_99 (n := 101) rfl (by decide) rfl ?_
        refine z_iload_n hR dMO_cut_101 (n := 102) rfl rfl ?_
        refine z_if_neB hR dMO_cut_102 (t := 117) (n := 105) rfl rfl (fun h102 => ?_) (fun h102 => ?_)
        · refine z_iconst hR dMO_cut_117 (v := 1) (n := 118) rfl rfl ?_
          refine z_goto hR dMO_cut_118 (t := 122) rfl ?_
          first
            | exact nxt true _ _ (by rw [h102]; rfl)
            | exact nxt true _ _ (by
                have hq : τ.2 65 s ||| (σ.2 63 s &&& B s) ≠ τ.2 65 s := fun q => h114 (lcmp_0.mpr q)
                simp [hq])
            | exact nxt false _ _ (by
                have hq : τ.2 65 s ||| (σ.2 63 s &&& B s) = τ.2 65 s := lcmp_0.mp h114
                simp [hq, h102])
        · refine z_lload hR dMO_cut_105 (n := 107) rfl rfl ?_
          refine z_aload_n hR dMO_cut_107 (n := 108) rfl rfl ?_
          refine z_getR hR dMO_cut_108 (n := 111) rfl zgMO_69 (by decide) rfl rfl ?_
          refine z_iload_n hR dMO_cut_111 (n := 112) rfl rfl ?_
          refine z_lald hR (_) dMO_cut_112 (n := 113) rfl (by decide) rfl (by decide) rfl (by omega) ?_
          rw [e65]
          refine z_lcmp hR dMO_cut_113 (n := 114) rfl ?_
          refine z_if_eq hR dMO_cut_114 (t := 121) (n := 117) rfl rfl (fun h114 => ?_) (fun h114 => ?_)
          · refine z_iconst hR dMO_cut_121 (v := 0) (n := 122) rfl rfl ?_
            first
              | exact nxt true _ _ (by rw [h102]; rfl)
              | exact nxt true _ _ (by
                  have hq : τ.2 65 s ||| (σ.2 63 s &&& B s) ≠ τ.2 65 s := fun q => h114 (lcmp_0.mpr q)
                  simp [hq])
              | exact nxt false _ _ (by
                  have hq : τ.2 65 s ||| (σ.2 63 s &&& B s) = τ.2 65 s := lcmp_0.mp h114
                  simp [hq, h102])
          · refine z_iconst hR dMO_cut_117 (v := 1) (n := 118) rfl rfl ?_
            refine z_goto hR dMO_cut_118 (t := 122) rfl ?_
            first
              | exact nxt true _ _ (by rw [h102]; rfl)
              | exact nxt true _ _ (by
                  have hq : τ.2 65 s ||| (σ.2 63 s &&& B s) ≠ τ.2 65 s := fun q => h114 (lcmp_0.mpr q)
                  simp [hq])
              | exact nxt false _ _ (by
                  have hq : τ.2 65 s ||| (σ.2 63 s &&& B s) = τ.2 65 s := lcmp_0.mp h114
                  simp [hq, h102])
    refine z_iload_n hR dMO_cut_61 (n := 62) rfl rfl ?_
    refine z_if_eq hR dMO_cut_62 (t := 140) (n := 65) rfl rfl (fun h62 => absurd h62 (by decide)) (fun _ => ?_)
    refine z_aload_n hR dMO_cut_65 (n := 66) rfl rfl ?_
    refine z_callV0 hR dMO_cut_66 (n := 69) rfl zcMO_192 zkMO_step (by decide) (Nat.le_of_ble_eq_true rfl) (by decide) rfl rfl (Nat.zero_le _) hc (fun r66 s66 h66 => ?_)
    obtain ⟨rfl, wf, wB⟩ := h66
    refine z_iconst hR dMO_cut_69 (v := 0) (n := 70) rfl rfl ?_
    refine z_istore_n hR dMO_cut_70 (n := 71) rfl (by decide) rfl ?_
    refine z_iconst hR dMO_cut_71 (v := nI 0) (n := 72) rfl rfl ?_
    refine z_istore_n hR dMO_cut_72 (n := 73) rfl (by decide) rfl ?_
    exact loop (s66.2 66) 6 0 false _ _ _ _ (by omega) (hf.tr (wf.mo (by decide))) rfl wB (fun s2 _ _ => by rw [wf.2 65 (by decide)]) (fun s2 h => absurd h (by omega)) (fun _ s2 h => absurd h (by omega)) (fun h => absurd h (by decide))
  have one : ∀ (k : Nat), ko = some k → ∀ (τ : zS) (l3 l4 l5 l6 : Option Value), zfr [65, 66] σ τ → (∀ s, s < 6 → ∀ q, q < 64 → lB (τ.2 65) s q → lB (σ.2 63) s q) → (∀ s, s < 6 → ∀ q, q < 64 → lB (σ.2 63) s q → glA (σ.2 67) k s q = true → lB (τ.2 65) s q) → (∀ Y : Nat → Nat → Prop, (∀ s, s < 6 → ∀ q, q < 64 → lB (σ.2 63) s q → glA (σ.2 67) k s q = true → Y s q) → (∀ s, s < 6 → ∀ q, q < 64 → lB (σ.2 63) s q → bk T L be Y s q → Y s q) → ∀ s, s < 6 → ∀ q, q < 64 → lB (τ.2 65) s q → Y s q) → (∀ (τ2 : zS) (l3 l4 l5 l6 : Option Value), zfr [65, 66] σ τ2 → (∀ s, s < 6 → ∀ q, q < 64 → lB (τ2.2 65) s q → lB (σ.2 63) s q) → (∀ s, s < 6 → ∀ q, q < 64 → lB (σ.2 63) s q → glA (σ.2 67) k s q = true → lB (τ2.2 65) s q) → (∀ Y : Nat → Nat → Prop, (∀ s, s < 6 → ∀ q, q < 64 → lB (σ.2 63) s q → glA (σ.2 67) k s q = true → Y s q) → (∀ s, s < 6 → ∀ q, q < 64 → lB (σ.2 63) s q → bk T L be Y s q → Y s q) → ∀ s, s < 6 → ∀ q, q < 64 → lB (τ2.2 65) s q → Y s q) → cnL (τ.2 65) < cnL (τ2.2 65) → Z 0 61 [some (.ref 45), some (.int x), some (.int 1), l3, l4, l5, l6] [] τ2) → Z 0 61 [some (.ref 45), some (.int x), some (.int 1), l3, l4, l5, l6] [] τ := by
    intro k hk τ l3 l4 l5 l6 hf a1 a2 a3 nxt
    refine pass τ l3 l4 l5 l6 hf (fun τ2 b B l3 l4 l5 l6 hf2 hB hN h0 h1 => ?_)
    have hin : ∀ s, s < 6 → ∀ q, q < 64 → (lB (τ2.2 65) s q ↔ (lB (τ.2 65) s q ∨ (lB (σ.2 63) s q ∧ bk T L be (lB (τ.2 65)) s q))) := fun s hs q hq => by
      have := hB s hs q hq
      rw [lB] at this
      rw [lB, hN s hs, tl_or, tl_and, Bool.or_eq_true, Bool.and_eq_true, this]
    cases b with
    | true =>
      refine nxt τ2 _ _ _ _ hf2 (fun s hs q hq h => ?_) (fun s hs q hq h h2 => (hin s hs q hq).mpr (Or.inl (a2 s hs q hq h h2))) (fun Y y1 y2 s hs q hq h => ?_) (cnL_lt (fun s hs q hq h => (hin s hs q hq).mpr (Or.inl h)) ?_)
      · rcases (hin s hs q hq).mp h with h | h
        · exact a1 s hs q hq h
        · exact h.1
      · rcases (hin s hs q hq).mp h with h | h
        · exact a3 Y y1 y2 s hs q hq h
        · exact y2 s hs q hq h.1 (bk_mo (fun t b t1 b1 h3 => a3 Y y1 y2 t t1 b (by omega) h3) h.2)
      · obtain ⟨s, q, b1, b2, b3, b4⟩ := h1 rfl
        exact ⟨s, q, b1, b2, b3, b4⟩
    | false =>
      have hsame : ∀ s, s < 6 → τ2.2 65 s = τ.2 65 s := h0 rfl
      refine z_iload_n hR dMO_cut_61 (n := 62) rfl rfl ?_
      refine z_if_eqB hR dMO_cut_62 (t := 140) (n := 65) rfl rfl (fun h62 => ?_) (fun h62 => absurd h62 (by decide))
      refine fin _ _ _ _ _ τ2 hf2 (fun e => absurd (hk.symm.trans e) (by simp)) (fun k2 hk2 => ?_)
      obtain rfl : k = k2 := by
        rw [hk] at hk2
        exact Option.some.inj hk2
      refine ⟨fun s hs q hq h => ?_, fun s hs q hq h h2 => ?_, fun s hs q hq h h2 => ?_, fun Y y1 y2 s hs q hq h => ?_⟩
      · rw [lB, hsame s hs] at h
        exact a1 s hs q hq h
      · rw [lB, hsame s hs]
        exact a2 s hs q hq h h2
      · exact (hin s hs q hq).mpr (Or.inr ⟨h, bk_mo (fun t b t1 b1 h3 => by rw [lB, hsame t t1] at h3; exact h3) h2⟩)
      · rw [lB, hsame s hs] at h
        exact a3 Y y1 y2 s hs q hq h
  have grow : ∀ (k : Nat), ko = some k → ∀ (n : Nat) (l3 l4 l5 l6 : Option Value) (τ : zS), zfr [65, 66] σ τ → (∀ s, s < 6 → ∀ q, q < 64 → lB (τ.2 65) s q → lB (σ.2 63) s q) → (∀ s, s < 6 → ∀ q, q < 64 → lB (σ.2 63) s q → glA (σ.2 67) k s q = true → lB (τ.2 65) s q) → (∀ Y : Nat → Nat → Prop, (∀ s, s < 6 → ∀ q, q < 64 → lB (σ.2 63) s q → glA (σ.2 67) k s q = true → Y s q) → (∀ s, s < 6 → ∀ q, q < 64 → lB (σ.2 63) s q → bk T L be Y s q → Y s q) → ∀ s, s < 6 → ∀ q, q < 64 → lB (τ.2 65) s q → Y s q) → 384 ≤ n + cnL (τ.2 65) → Z 0 61 [some (.ref 45), some (.int x), some (.int 1), l3, l4, l5, l6] [] τ := by
    intro k hk n
    induction n with
    | zero =>
      intro l3 l4 l5 l6 τ hf a1 a2 a3 hn
      refine one k hk τ l3 l4 l5 l6 hf a1 a2 a3 (fun τ2 l3 l4 l5 l6 b1 b2 b3 b4 b5 => ?_)
      have := cnL_n (τ2.2 65)
      omega
    | succ n ih =>
      intro l3 l4 l5 l6 τ hf a1 a2 a3 hn
      exact one k hk τ l3 l4 l5 l6 hf a1 a2 a3 (fun τ2 l3 l4 l5 l6 b1 b2 b3 b4 b5 => ih _ _ _ _ τ2 b1 b2 b3 b4 (by omega))
  -- the beginning
  rcases hx with ⟨rfl, hko⟩ | ⟨k, hk, rfl, hko⟩
  ·
    have key : ∀ (m s : Nat) (l3 l4 l5 l6 : Option Value) (τ : zS), s + m = 6 → zfr [65, 66] σ τ → (∀ s2, s2 < s → τ.2 65 s2 = σ.2 63 s2) → Z 0 2 [some (.ref 45), some (.int (-1)), some (.int (nI s)), l3, l4, l5, l6] [] τ := by
      intro m
      induction m with
      | zero =>
        intro s l3 l4 l5 l6 τ hs hf h
        obtain rfl : s = 6 := by omega
        refine z_iload_n hR dMO_cut_2 (n := 3) rfl rfl ?_
        refine z_bipush hR dMO_cut_3 (v := nI 6) (n := 5) rfl rfl ?_
        refine z_icmp_geN hR dMO_cut_5 (t := 51) (n := 8) rfl rfl (by omega) (by omega) (fun h5 => ?_) (fun h5 => absurd h5 (by omega))
        refine z_iload_n hR dMO_cut_51 (n := 52) rfl rfl ?_
        refine z_if_lt hR dMO_cut_52 (t := 59) (n := 55) rfl rfl (fun _ => ?_) (fun h52 => absurd (by decide) h52)
        refine z_iconst hR dMO_cut_59 (v := 0) (n := 60) rfl rfl ?_
        refine z_istore_n hR dMO_cut_60 (n := 61) rfl (by decide) rfl ?_
        refine z_iload_n hR dMO_cut_61 (n := 62) rfl rfl ?_
        refine z_if_eq hR dMO_cut_62 (t := 140) (n := 65) rfl rfl (fun _ => ?_) (fun h62 => absurd rfl h62)
        exact fin _ _ _ _ _ τ hf (fun _ s hs q hq => by rw [lB, h s hs]) (fun k e => absurd (hko.symm.trans e) (by simp))
      | succ m ih =>
        intro s l3 l4 l5 l6 τ hs hf h
        have e63 : τ.2 63 = σ.2 63 := hf.2 63 (by decide)
        refine z_iload_n hR dMO_cut_2 (n := 3) rfl rfl ?_
        refine z_bipush hR dMO_cut_3 (v := nI 6) (n := 5) rfl rfl ?_
        refine z_icmp_geN hR dMO_cut_5 (t := 51) (n := 8) rfl rfl (by omega) (by omega) (fun h5 => absurd h5 (by omega)) (fun h5 => ?_)
        refine z_aload_n hR dMO_cut_8 (n := 9) rfl rfl ?_
        refine z_getR hR dMO_cut_9 (n := 12) rfl zgMO_69 (by decide) rfl rfl ?_
        refine z_iload_n hR dMO_cut_12 (n := 13) rfl rfl ?_
        refine z_iload_n hR dMO_cut_13 (n := 14) rfl rfl ?_
        refine z_if_ge hR dMO_cut_14 (t := 26) (n := 17) rfl rfl (fun h14 => absurd h14 (by decide)) (fun _ => ?_)
        refine z_aload_n hR dMO_cut_17 (n := 18) rfl rfl ?_
        refine z_getR hR dMO_cut_18 (n := 21) rfl zgMO_62 (by decide) rfl rfl ?_
        refine z_iload_n hR dMO_cut_21 (n := 22) rfl rfl ?_
        refine z_lald hR (_) dMO_cut_22 (n := 23) rfl (by decide) rfl (by decide) rfl (by omega) ?_
        rw [e63]
        refine z_goto hR dMO_cut_23 (t := 44) rfl ?_
        refine z_last hR (_) dMO_cut_44 (n := 45) rfl (by decide) rfl (by decide) rfl (by omega) ?_
        refine z_iincN hR 1 dMO_cut_45 (n := 48) rfl rfl (by decide) rfl rfl ?_
        refine z_goto hR dMO_cut_48 (t := 2) rfl ?_
        refine ih (s + 1) _ _ _ _ _ (by omega) (hf.wL _ (by decide)) (fun s2 hs2 => ?_)
        by_cases e : s2 = s
        · subst e
          rw [zwL_ss]
        · rw [zwL_sn _ _ _ _ e]
          exact h s2 (by omega)
    refine z_iconst hR dMO_cut_0 (v := nI 0) (n := 1) rfl rfl ?_
    refine z_istore_n hR dMO_cut_1 (n := 2) rfl (by decide) rfl ?_
    exact key 6 0 _ _ _ _ _ (by omega) zfr.rf (fun s2 h => absurd h (by omega))
  ·
    have key : ∀ (m s : Nat) (l3 l4 l5 l6 : Option Value) (τ : zS), s + m = 6 → zfr [65, 66] σ τ → (∀ s2, s2 < s → τ.2 65 s2 = σ.2 63 s2 &&& σ.2 67 (6 * k + s2)) → Z 0 2 [some (.ref 45), some (.int (nI k)), some (.int (nI s)), l3, l4, l5, l6] [] τ := by
      intro m
      induction m with
      | zero =>
        intro s l3 l4 l5 l6 τ hs hf h
        obtain rfl : s = 6 := by omega
        have hi : ∀ s, s < 6 → ∀ q, (lB (τ.2 65) s q ↔ (lB (σ.2 63) s q ∧ glA (σ.2 67) k s q = true)) := fun s hs q => by
          rw [lB, h s hs, tl_and, Bool.and_eq_true]
          rfl
        refine z_iload_n hR dMO_cut_2 (n := 3) rfl rfl ?_
        refine z_bipush hR dMO_cut_3 (v := nI 6) (n := 5) rfl rfl ?_
        refine z_icmp_geN hR dMO_cut_5 (t := 51) (n := 8) rfl rfl (by omega) (by omega) (fun h5 => ?_) (fun h5 => absurd h5 (by omega))
        refine z_iload_n hR dMO_cut_51 (n := 52) rfl rfl ?_
        refine z_if_ltN hR dMO_cut_52 (t := 59) (n := 55) rfl rfl (by omega) ?_
        refine z_iconst hR dMO_cut_55 (v := 1) (n := 56) rfl rfl ?_
        refine z_goto hR dMO_cut_56 (t := 60) rfl ?_
        refine z_istore_n hR dMO_cut_60 (n := 61) rfl (by decide) rfl ?_
        exact grow k hko 384 _ _ _ _ τ hf (fun s hs q hq h => ((hi s hs q).mp h).1) (fun s hs q hq h h2 => (hi s hs q).mpr ⟨h, h2⟩) (fun Y y1 y2 s hs q hq h => y1 s hs q hq ((hi s hs q).mp h).1 ((hi s hs q).mp h).2) (by omega)
      | succ m ih =>
        intro s l3 l4 l5 l6 τ hs hf h
        have e63 : τ.2 63 = σ.2 63 := hf.2 63 (by decide)
        have e67 : τ.2 67 = σ.2 67 := hf.2 67 (by decide)
        refine z_iload_n hR dMO_cut_2 (n := 3) rfl rfl ?_
        refine z_bipush hR dMO_cut_3 (v := nI 6) (n := 5) rfl rfl ?_
        refine z_icmp_geN hR dMO_cut_5 (t := 51) (n := 8) rfl rfl (by omega) (by omega) (fun h5 => absurd h5 (by omega)) (fun h5 => ?_)
        refine z_aload_n hR dMO_cut_8 (n := 9) rfl rfl ?_
        refine z_getR hR dMO_cut_9 (n := 12) rfl zgMO_69 (by decide) rfl rfl ?_
        refine z_iload_n hR dMO_cut_12 (n := 13) rfl rfl ?_
        refine z_iload_n hR dMO_cut_13 (n := 14) rfl rfl ?_
        refine z_if_geN hR dMO_cut_14 (t := 26) (n := 17) rfl rfl (by omega) ?_
        refine z_aload_n hR dMO_cut_26 (n := 27) rfl rfl ?_
        refine z_getR hR dMO_cut_27 (n := 30) rfl zgMO_62 (by decide) rfl rfl ?_
        refine z_iload_n hR dMO_cut_30 (n := 31) rfl rfl ?_
        refine z_lald hR (_) dMO_cut_31 (n := 32) rfl (by decide) rfl (by decide) rfl (by omega) ?_
        rw [e63]
        refine z_aload_n hR dMO_cut_32 (n := 33) rfl rfl ?_
        refine z_getR hR dMO_cut_33 (n := 36) rfl zgMO_75 (by decide) rfl rfl ?_
        refine z_bipush hR dMO_cut_36 (v := nI 6) (n := 38) rfl rfl ?_
        refine z_iload_n hR dMO_cut_38 (n := 39) rfl rfl ?_
        refine z_imulN hR dMO_cut_39 (n := 40) rfl ?_
        refine z_iload_n hR dMO_cut_40 (n := 41) rfl rfl ?_
        refine z_iaddN hR dMO_cut_41 (n := 42) rfl ?_
        refine z_lald hR (_) dMO_cut_42 (n := 43) rfl (by decide) rfl (by decide) rfl (by omega) ?_
        rw [e67]
        refine z_land hR dMO_cut_43 (n := 44) rfl ?_
        refine z_last hR (_) dMO_cut_44 (n := 45) rfl (by decide) rfl (by decide) rfl (by omega) ?_
        refine z_iincN hR 1 dMO_cut_45 (n := 48) rfl rfl (by decide) rfl rfl ?_
        refine z_goto hR dMO_cut_48 (t := 2) rfl ?_
        refine ih (s + 1) _ _ _ _ _ (by omega) (hf.wL _ (by decide)) (fun s2 hs2 => ?_)
        by_cases e : s2 = s
        · subst e
          rw [zwL_ss]
        · rw [zwL_sn _ _ _ _ e]
          exact h s2 (by omega)
    refine z_iconst hR dMO_cut_0 (v := nI 0) (n := 1) rfl rfl ?_
    refine z_istore_n hR dMO_cut_1 (n := 2) rfl (by decide) rfl ?_
    exact key 6 0 _ _ _ _ _ (by omega) zfr.rf (fun s2 h => absurd h (by omega))
