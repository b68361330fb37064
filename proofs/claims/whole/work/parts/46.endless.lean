/-! Counting; the states with an endless path -/
def cn (p : Nat → Bool) : Nat → Nat
  | 0 => 0
  | n + 1 => cn p n + (p n).toNat
theorem cn_le {p q : Nat → Bool} : ∀ {n : Nat}, (∀ i, i < n → p i = true → q i = true) → cn p n ≤ cn q n
  | 0, _ => Nat.le_refl _
  | n + 1, h => by
    have h1 := cn_le (n := n) (fun i hi => h i (by omega))
    have h2 := h n (by omega)
    rw [cn, cn]
    cases e : p n
    · simp
      omega
    · rw [h2 e]
      omega
theorem cn_lt {p q : Nat → Bool} : ∀ {n : Nat}, (∀ i, i < n → p i = true → q i = true) → (∃ i, i < n ∧ p i = false ∧ q i = true) → cn p n < cn q n
  | 0, _, ⟨i, hi, _⟩ => absurd hi (by omega)
  | n + 1, h, ⟨i, hi, hp, hq⟩ => by
    rw [cn, cn]
    by_cases e : i = n
    · subst e
      have h1 := cn_le (n := i) (fun j hj => h j (by omega))
      rw [hp, hq]
      simp
      omega
    · have h1 := cn_lt (n := n) (fun j hj => h j (by omega)) ⟨i, by omega, hp, hq⟩
      have h2 := h n (by omega)
      cases e : p n
      · simp
        omega
      · rw [h2 e]
        omega
theorem cn_n (p : Nat → Bool) : ∀ n : Nat, cn p n ≤ n
  | 0 => Nat.le_refl _
  | n + 1 => by
    have h1 := cn_n p n
    rw [cn]
    cases p n <;> simp <;> omega
theorem cn_z {p : Nat → Bool} : ∀ {n : Nat}, cn p n = 0 → ∀ i, i < n → p i = false
  | 0, _, i, hi => absurd hi (by omega)
  | n + 1, h, i, hi => by
    rw [cn] at h
    by_cases e : i = n
    · subst e
      cases e : p i
      · rfl
      · rw [e] at h
        simp at h
    · exact cn_z (n := n) (by omega) i (by omega)
theorem cn_eq {p q : Nat → Bool} {n : Nat} (h : ∀ i, i < n → p i = true → q i = true) (hc : cn q n ≤ cn p n) : ∀ i, i < n → p i = q i := by
  intro i hi
  cases e : p i
  · cases e2 : q i
    · rfl
    · exact absurd (cn_lt h ⟨i, hi, e, e2⟩) (by omega)
  · rw [h i hi e]
/-- is there one below n? -/
def exb (p : Nat → Bool) : Nat → Bool
  | 0 => false
  | n + 1 => exb p n || p n
theorem exb_iff {p : Nat → Bool} : ∀ {n : Nat}, exb p n = true ↔ ∃ i, i < n ∧ p i = true
  | 0 => ⟨fun h => absurd h (by simp [exb]), fun ⟨i, hi, _⟩ => absurd hi (by omega)⟩
  | n + 1 => by
    rw [exb, Bool.or_eq_true, exb_iff (n := n)]
    constructor
    · rintro (⟨i, hi, h⟩ | h)
      · exact ⟨i, by omega, h⟩
      · exact ⟨n, by omega, h⟩
    · rintro ⟨i, hi, h⟩
      by_cases e : i = n
      · subst e
        exact Or.inr h
      · exact Or.inl ⟨i, by omega, h⟩
/-- sets of states (bits below 6): each has a step within it -/
def eLv (L : Nat → Nat → Bool) (x : Int32) : Prop := ∀ s, s < 6 → tb x s = true → ∃ b, b < 6 ∧ L s b = true ∧ tb x b = true
def eMx (L : Nat → Nat → Bool) (x : Int32) : Prop := ∀ A : Nat → Bool, (∀ s, s < 6 → A s = true → ∃ b, b < 6 ∧ L s b = true ∧ A b = true) → ∀ s, s < 6 → A s = true → tb x s = true
def eUp (x : Int32) : Prop := ∀ g, 6 ≤ g → tb x g = false
theorem e_63 {g : Nat} (h : g < 6) : tb 63 g = true := by
  rcases (by omega : g = 0 ∨ g = 1 ∨ g = 2 ∨ g = 3 ∨ g = 4 ∨ g = 5) with h | h | h | h | h | h <;> subst h <;> decide
theorem e_63u : eUp 63 := by
  intro g hg
  by_cases h : g < 32
  · rw [show (63 : Int32) = nI 63 from rfl, tb_nI _ _ h]
    exact Nat.testBit_lt_two_pow (Nat.lt_of_lt_of_le (by decide : 63 < 2 ^ 6) (Nat.pow_le_pow_right (by decide) hg))
  · exact tb_ge _ (by omega)
theorem e_same {L : Nat → Nat → Bool} {x y : Int32} (h1 : eLv L x) (h2 : eMx L x) (h3 : eLv L y) (h4 : eMx L y) {s : Nat} (hs : s < 6) : tb x s = tb y s := by
  cases e : tb x s
  · cases e2 : tb y s
    · rfl
    · rw [h2 (tb y) h3 s hs e2] at e
      exact absurd e (by decide)
  · rw [h4 (tb x) h1 s hs e]
theorem e_eq {x y : Int32} (hx : eUp x) (hy : eUp y) (h : ∀ s, s < 6 → tb x s = tb y s) : x = y := tb_ext (fun g _ => by
  by_cases h6 : g < 6
  · exact h g h6
  · rw [hx g (by omega), hy g (by omega)])
/-- a round: what it leaves is smaller, or all of it stays and each has a step within -/
theorem e_round {L : Nat → Nat → Bool} {x y : Int32} {k : Nat} (hx : eUp x) (hy : eUp y) (hs : ∀ g, g < 6 → tb y g = true → tb x g = true) (h1 : eLv L x → y = x) (h2 : y = x → eLv L x) (hk : eLv L x ∨ cn (tb x) 6 ≤ k + 1) : eLv L y ∨ cn (tb y) 6 ≤ k := by
  by_cases e : y = x
  · subst e
    exact Or.inl (h2 rfl)
  · rcases hk with hk | hk
    · exact absurd (h1 hk) e
    · right
      by_cases h : cn (tb y) 6 ≤ k
      · exact h
      · exact absurd (e_eq hy hx (cn_eq hs (by omega))) e
theorem e_end {L : Nat → Nat → Bool} {x : Int32} (h : eLv L x ∨ cn (tb x) 6 ≤ 0) : eLv L x := by
  rcases h with h | h
  · exact h
  · intro s hs h1
    rw [cn_z (p := tb x) (n := 6) (by omega) s hs] at h1
    exact absurd h1 (by decide)
theorem m_ST_swp (σ : zS) : zM yST_statesWithPath cST_statesWithPath 4 (some .int) 0 0 0 [.ref 42] σ (fun r σ2 => σ2 = σ ∧ ∃ x : Int32, r = some (.int x) ∧ eLv (jn σ) x ∧ eMx (jn σ) x) (fun _ _ => False) := by
  refine zM.of [some (.ref 42), none, none, none] (by decide) 3 rfl (fun _ => Nat.le_of_ble_eq_true rfl) (fun Z hR => ?_)
  have key : ∀ (m i : Nat) (x : Int32) (l3 : Option Value), i + m = 6 → eUp x → eMx (jn σ) x → (eLv (jn σ) x ∨ cn (tb x) 6 ≤ m) → Z 0 5 [some (.ref 42), some (.int x), some (.int (nI i)), l3] [] σ := by
    intro m
    induction m with
    | zero =>
      intro i x l3 hi hu hm hl
      refine z_iload_n hR dST_statesWithPath_5 (n := 6) rfl rfl ?_
      refine z_bipush hR dST_statesWithPath_6 (v := nI 6) (n := 8) rfl rfl ?_
      refine z_icmp_geN hR dST_statesWithPath_8 (t := 50) (n := 11) rfl rfl (by omega) (by omega) (fun h8 => ?_) (fun h8 => absurd h8 (by omega))
      refine z_iload_n hR dST_statesWithPath_50 (n := 51) rfl rfl ?_
      refine z_zret hR dST_statesWithPath_51 rfl rfl (Nat.zero_le _) ?_
      exact ⟨rfl, x, rfl, e_end hl, hm⟩
    | succ m ih =>
      intro i x0 l3 hi hu0 hm0 hl0
      have inner : ∀ (m2 s : Nat) (x : Int32), s + m2 = 6 → eUp x → (∀ g, g < 6 → tb x g = true → tb x0 g = true) → (x = x0 → ∀ t, t < s → tb x t = true → ∃ b, b < 6 ∧ jn σ t b = true ∧ tb x b = true) → eMx (jn σ) x → (eLv (jn σ) x0 → x = x0) → Z 0 13 [some (.ref 42), some (.int x), some (.int (nI i)), some (.int (nI s))] [] σ := by
        intro m2
        induction m2 with
        | zero =>
          intro s x hs hu hsub hst hmx hlv
          refine z_iload_n hR dST_statesWithPath_13 (n := 14) rfl rfl ?_
          refine z_bipush hR dST_statesWithPath_14 (v := nI 6) (n := 16) rfl rfl ?_
          refine z_icmp_geN hR dST_statesWithPath_16 (t := 44) (n := 19) rfl rfl (by omega) (by omega) (fun h16 => ?_) (fun h16 => absurd h16 (by omega))
          refine z_iincN hR 1 dST_statesWithPath_44 (n := 47) rfl rfl (by decide) rfl rfl ?_
          refine z_goto hR dST_statesWithPath_47 (t := 5) rfl ?_
          exact ih (i + 1) x _ (by omega) hu hmx (e_round hu0 hu hsub hlv (fun e => by subst e; exact fun t ht => hst rfl t (by omega)) hl0)
        | succ m2 ih2 =>
          intro s x hs hu hsub hst hmx hlv
          refine z_iload_n hR dST_statesWithPath_13 (n := 14) rfl rfl ?_
          refine z_bipush hR dST_statesWithPath_14 (v := nI 6) (n := 16) rfl rfl ?_
          refine z_icmp_geN hR dST_statesWithPath_16 (t := 44) (n := 19) rfl rfl (by omega) (by omega) (fun h16 => absurd h16 (by omega)) (fun h16 => ?_)
          refine z_aload_n hR dST_statesWithPath_19 (n := 20) rfl rfl ?_
          refine z_getR hR dST_statesWithPath_20 (n := 23) rfl zgST_15 (by decide) rfl rfl ?_
          refine z_iload_n hR dST_statesWithPath_23 (n := 24) rfl rfl ?_
          refine z_iald hR (_) dST_statesWithPath_24 (n := 25) rfl (by decide) rfl (by decide) rfl (by omega) ?_
          refine z_iload_n hR dST_statesWithPath_25 (n := 26) rfl rfl ?_
          refine z_iand hR dST_statesWithPath_26 (n := 27) rfl ?_
          refine z_if_ne hR dST_statesWithPath_27 (t := 38) (n := 30) rfl rfl (fun h27 => ?_) (fun h27 => ?_)
          · have hne : ∃ b, b < 6 ∧ jn σ s b = true ∧ tb x b = true := Classical.byContradiction (fun hn => h27 (tb_ext (fun g _ => by
              rw [tb_0, tb_and]
              by_cases hg : g < 6
              · cases e1 : tb (σ.1 44 s) g
                · rfl
                · cases e2 : tb x g
                  · rfl
                  · exact absurd ⟨g, hg, e1, e2⟩ hn
              · rw [hu g (by omega), Bool.and_false])))
            have go := ih2 (s + 1) x (by omega) hu hsub (fun e t ht h1 => by
              by_cases e2 : t = s
              · subst e2
                exact hne
              · exact hst e t (by omega) h1) hmx hlv
            refine z_iincN hR 1 dST_statesWithPath_38 (n := 41) rfl rfl (by decide) rfl rfl ?_
            refine z_goto hR dST_statesWithPath_41 (t := 13) rfl ?_
            exact go
          · have hno : ∀ b, tb (σ.1 44 s) b = true → tb x b = true → False := fun b e1 e2 => by
              have e3 := congrArg (fun q => tb q b) h27
              simp only [tb_and, tb_0, e1, e2] at e3
              exact absurd e3 (by decide)
            have hb : ∀ g, g < 32 → tb (x &&& ((1 <<< (nI s &&& 31)) ^^^ (-1))) g = (tb x g && !decide (g = s)) := fun g hg => by
              rw [tb_and, tb_not _ hg, tb_shl1 (by omega) _ hg]
            have hu2 : eUp (x &&& ((1 <<< (nI s &&& 31)) ^^^ (-1))) := fun g hg => by
              by_cases h32 : g < 32
              · rw [hb g h32, hu g hg]
                rfl
              · exact tb_ge _ (by omega)
            have hsub2 : ∀ g, g < 6 → tb (x &&& ((1 <<< (nI s &&& 31)) ^^^ (-1))) g = true → tb x g = true := fun g hg h1 => by
              rw [hb g (by omega), Bool.and_eq_true] at h1
              exact h1.1
            have go := ih2 (s + 1) (x &&& ((1 <<< (nI s &&& 31)) ^^^ (-1))) (by omega) hu2 (fun g hg h1 => hsub g hg (hsub2 g hg h1)) (fun e t ht h1 => by
              have ex : x = x0 := e_eq hu hu0 (fun g hg => by
                cases e1 : tb x g
                · cases e2 : tb x0 g
                  · rfl
                  · rw [← e] at e2
                    rw [hsub2 g hg e2] at e1
                    exact e1.symm
                · rw [hsub g hg e1])
              by_cases e2 : t = s
              · subst e2
                rw [hb t (by omega)] at h1
                simp at h1
              · have h4 := hst ex t (by omega) (hsub2 t (by omega) h1)
                rw [e, ← ex]
                exact h4) (fun A hA g hg h1 => by
              rw [hb g (by omega), hmx A hA g hg h1]
              by_cases e2 : g = s
              · subst e2
                obtain ⟨b, hb6, q1, q2⟩ := hA g hg h1
                exact (hno b q1 (hmx A hA b hb6 q2)).elim
              · simp [e2]) (fun h0 => by
              have ex := hlv h0
              subst ex
              refine tb_ext (fun g hg => ?_)
              rw [hb g hg]
              by_cases e2 : g = s
              · subst e2
                cases e3 : tb x g
                · rfl
                · obtain ⟨b, hb6, q1, q2⟩ := h0 g (by omega) e3
                  exact (hno b q1 q2).elim
              · simp [e2])
            refine z_iload_n hR dST_statesWithPath_30 (n := 31) rfl rfl ?_
            refine z_iconst hR dST_statesWithPath_31 (v := 1) (n := 32) rfl rfl ?_
            refine z_iload_n hR dST_statesWithPath_32 (n := 33) rfl rfl ?_
            refine z_ishl hR dST_statesWithPath_33 (n := 34) rfl ?_
            refine z_iconst hR dST_statesWithPath_34 (v := (-1)) (n := 35) rfl rfl ?_
            refine z_ixor hR dST_statesWithPath_35 (n := 36) rfl ?_
            refine z_iand hR dST_statesWithPath_36 (n := 37) rfl ?_
            refine z_istore_n hR dST_statesWithPath_37 (n := 38) rfl (by decide) rfl ?_
            refine z_iincN hR 1 dST_statesWithPath_38 (n := 41) rfl rfl (by decide) rfl rfl ?_
            refine z_goto hR dST_statesWithPath_41 (t := 13) rfl ?_
            exact go
      refine z_iload_n hR dST_statesWithPath_5 (n := 6) rfl rfl ?_
      refine z_bipush hR dST_statesWithPath_6 (v := nI 6) (n := 8) rfl rfl ?_
      refine z_icmp_geN hR dST_statesWithPath_8 (t := 50) (n := 11) rfl rfl (by omega) (by omega) (fun h8 => absurd h8 (by omega)) (fun h8 => ?_)
      refine z_iconst hR dST_statesWithPath_11 (v := 0) (n := 12) rfl rfl ?_
      refine z_istore_n hR dST_statesWithPath_12 (n := 13) rfl (by decide) rfl ?_
      exact inner 6 0 x0 (by omega) hu0 (fun _ _ h => h) (fun _ t ht => absurd ht (by omega)) hm0 (fun _ => rfl)
  refine z_bipush hR dST_statesWithPath_0 (v := 63) (n := 2) rfl rfl ?_
  refine z_istore_n hR dST_statesWithPath_2 (n := 3) rfl (by decide) rfl ?_
  refine z_iconst hR dST_statesWithPath_3 (v := 0) (n := 4) rfl rfl ?_
  refine z_istore_n hR dST_statesWithPath_4 (n := 5) rfl (by decide) rfl ?_
  exact key 6 0 63 _ (by omega) e_63u (fun _ _ s hs _ => e_63 hs) (Or.inr (cn_n _ _))
theorem m_PC_en1 {j : Nat} (hj : j < 6) (σ : zS) : zM yPC_endless cPC_endless 2 (some .boolean) 1 40 0 [.ref 0, .int (nI j)] σ (fun r σ2 => σ2 = σ ∧ ∃ x : Int32, r = some (.int (zb (tb x j))) ∧ eLv (jn σ) x ∧ eMx (jn σ) x) (fun _ _ => False) := by
  refine zM.of [some (.ref 0), some (.int (nI j))] (by decide) 0 rfl (fun _ => Nat.le_of_ble_eq_true rfl) (fun Z hR => ?_)
  refine z_iload_n hR dPC_endless_0 (n := 1) rfl rfl ?_
  refine z_callS1 hR dPC_endless_1 (n := 4) rfl zcPC_108 zkPC_isState (by decide) (Nat.le_of_ble_eq_true rfl) (Nat.zero_le _) (m_PC_isS hj σ) (fun r1 s1 h1 => ?_)
  obtain ⟨rfl, e1⟩ := h1
  subst s1
  refine z_if_eq hR dPC_endless_4 (t := 26) (n := 7) rfl rfl (fun h4 => absurd h4 (by decide)) (fun _ => ?_)
  refine z_aload_n hR dPC_endless_7 (n := 8) rfl rfl ?_
  refine z_getR hR dPC_endless_8 (n := 11) rfl zgPC_66 (by decide) rfl rfl ?_
  refine z_callV0 hR dPC_endless_11 (n := 14) rfl zcPC_125 zkST_statesWithPath (by decide) (Nat.le_of_ble_eq_true rfl) (by decide) rfl rfl (Nat.zero_le _) (m_ST_swp σ) (fun r11 s11 h11 => ?_)
  obtain ⟨e11, x, rfl, hx1, hx2⟩ := h11
  subst s11
  refine z_iload_n hR dPC_endless_14 (n := 15) rfl rfl ?_
  refine z_iushr hR dPC_endless_15 (n := 16) rfl ?_
  refine z_iconst hR dPC_endless_16 (v := 1) (n := 17) rfl rfl ?_
  refine z_iand hR dPC_endless_17 (n := 18) rfl ?_
  rw [tb_us1 _ (by omega : j < 32)]
  refine z_iconst hR dPC_endless_18 (v := 1) (n := 19) rfl rfl ?_
  refine z_icmp_ne hR dPC_endless_19 (t := 26) (n := 22) rfl rfl (fun h19 => ?_) (fun h19 => ?_)
  · refine z_iconst hR dPC_endless_26 (v := 0) (n := 27) rfl rfl ?_
    refine z_zret hR dPC_endless_27 rfl rfl (Nat.zero_le _) ?_
    refine ⟨rfl, x, ?_, hx1, hx2⟩
    rcases zb_01 (tb x j) with q | q
    · first | exact absurd (q.symm.trans h19) (by decide) | exact congrArg (fun v => some (Value.int v)) q.symm
    · first | exact absurd q h19 | exact congrArg (fun v => some (Value.int v)) q.symm
  · refine z_iconst hR dPC_endless_22 (v := 1) (n := 23) rfl rfl ?_
    refine z_goto hR dPC_endless_23 (t := 27) rfl ?_
    refine z_zret hR dPC_endless_27 rfl rfl (Nat.zero_le _) ?_
    refine ⟨rfl, x, ?_, hx1, hx2⟩
    rcases zb_01 (tb x j) with q | q
    · first | exact absurd (q.symm.trans h19) (by decide) | exact congrArg (fun v => some (Value.int v)) q.symm
    · first | exact absurd q h19 | exact congrArg (fun v => some (Value.int v)) q.symm
theorem m_PC_en0 {s : Int32} (h : zNo s) (σ : zS) : zM yPC_endless cPC_endless 2 (some .boolean) 1 40 0 [.ref 0, .int s] σ (fun r σ2 => r = some (.int 0) ∧ σ2 = σ) (fun _ _ => False) := by
  refine zM.of [some (.ref 0), some (.int s)] (by decide) 0 rfl (fun _ => Nat.le_of_ble_eq_true rfl) (fun Z hR => ?_)
  refine z_iload_n hR dPC_endless_0 (n := 1) rfl rfl ?_
  refine z_callS1 hR dPC_endless_1 (n := 4) rfl zcPC_108 zkPC_isState (by decide) (Nat.le_of_ble_eq_true rfl) (Nat.zero_le _) (m_PC_isN h σ) (fun r1 s1 h1 => ?_)
  obtain ⟨rfl, e1⟩ := h1
  subst s1
  refine z_if_eq hR dPC_endless_4 (t := 26) (n := 7) rfl rfl (fun _ => ?_) (fun h4 => absurd rfl h4)
  refine z_iconst hR dPC_endless_26 (v := 0) (n := 27) rfl rfl ?_
  refine z_zret hR dPC_endless_27 rfl rfl (Nat.zero_le _) ?_
  exact ⟨rfl, rfl⟩
theorem m_MO_en0 {s : Int32} (h : zNo s) (σ : zS) : zM yMO_endless cMO_endless 7 (some .boolean) 1 40 0 [.ref 45, .int s] σ (fun r σ2 => r = some (.int 0) ∧ σ2 = zwA σ 45 0 0) (fun _ _ => False) := by
  refine zM.of [some (.ref 45), some (.int s), none, none, none, none, none] (by decide) 5 rfl (fun _ => Nat.le_of_ble_eq_true rfl) (fun Z hR => ?_)
  refine z_aload_n hR dMO_endless_0 (n := 1) rfl rfl ?_
  refine z_iconst hR dMO_endless_1 (v := 0) (n := 2) rfl rfl ?_
  refine z_putI hR dMO_endless_2 (n := 5) rfl zpMO_93 (by decide) rfl rfl ?_
  refine z_iload_n hR dMO_endless_5 (n := 6) rfl rfl ?_
  refine z_callS1 hR dMO_endless_6 (n := 9) rfl zcMO_174 zkMO_isState (by decide) (Nat.le_of_ble_eq_true rfl) (Nat.zero_le _) (m_MO_isN h _) (fun r6 s6 h6 => ?_)
  obtain ⟨rfl, e6⟩ := h6
  subst s6
  refine z_if_ne hR dMO_endless_9 (t := 14) (n := 12) rfl rfl (fun h9 => absurd h9 (fun q => q rfl)) (fun _ => ?_)
  refine z_iconst hR dMO_endless_12 (v := 0) (n := 13) rfl rfl ?_
  refine z_zret hR dMO_endless_13 rfl rfl (Nat.zero_le _) ?_
  exact ⟨rfl, rfl⟩
theorem m_MO_en1 {j : Nat} (hj : j < 6) (σ : zS) {L : Nat → Nat → Bool} (hL : ∀ a b, a < 6 → b < 6 → σ.1 58 (6 * a + b) = zb (L a b)) : zM yMO_endless cMO_endless 7 (some .boolean) 1 40 0 [.ref 45, .int (nI j)] σ (fun r σ2 => σ2 = zwA σ 45 0 0 ∧ ∃ x : Int32, r = some (.int (zb (tb x j))) ∧ eLv L x ∧ eMx L x) (fun _ _ => False) := by
  refine zM.of [some (.ref 45), some (.int (nI j)), none, none, none, none, none] (by decide) 5 rfl (fun _ => Nat.le_of_ble_eq_true rfl) (fun Z hR => ?_)
  have hL2 : ∀ a b, a < 6 → b < 6 → (zwA σ 45 0 0).1 58 (6 * a + b) = zb (L a b) := fun a b ha hb => by rw [zwA_n _ _ _ _ (by decide), hL a b ha hb]
  generalize hσ : zwA σ 45 0 0 = τ at hL2
  have key : ∀ (m i : Nat) (x : Int32) (l4 l5 l6 : Option Value), i + m = 6 → eUp x → eMx L x → (eLv L x ∨ cn (tb x) 6 ≤ m) → Z 0 19 [some (.ref 45), some (.int (nI j)), some (.int x), some (.int (nI i)), l4, l5, l6] [] τ := by
    intro m
    induction m with
    | zero =>
      intro i x l4 l5 l6 hi hu hm hl
      refine z_iload_n hR dMO_endless_19 (n := 20) rfl rfl ?_
      refine z_bipush hR dMO_endless_20 (v := nI 6) (n := 22) rfl rfl ?_
      refine z_icmp_geN hR dMO_endless_22 (t := 111) (n := 25) rfl rfl (by omega) (by omega) (fun h22 => ?_) (fun h22 => absurd h22 (by omega))
      refine z_iload_n hR dMO_endless_111 (n := 112) rfl rfl ?_
      refine z_iload_n hR dMO_endless_112 (n := 113) rfl rfl ?_
      refine z_ishr hR dMO_endless_113 (n := 114) rfl ?_
      refine z_iconst hR dMO_endless_114 (v := 1) (n := 115) rfl rfl ?_
      refine z_iand hR dMO_endless_115 (n := 116) rfl ?_
      rw [tb_sr1 _ (by omega : j < 32)]
      refine z_iconst hR dMO_endless_116 (v := 1) (n := 117) rfl rfl ?_
      refine z_icmp_ne hR dMO_endless_117 (t := 124) (n := 120) rfl rfl (fun h117 => ?_) (fun h117 => ?_)
      · refine z_iconst hR dMO_endless_124 (v := 0) (n := 125) rfl rfl ?_
        refine z_zret hR dMO_endless_125 rfl rfl (Nat.zero_le _) ?_
        refine ⟨hσ.symm, x, ?_, e_end hl, hm⟩
        rcases zb_01 (tb x j) with q | q
        · first | exact absurd (q.symm.trans h117) (by decide) | exact congrArg (fun v => some (Value.int v)) q.symm
        · first | exact absurd q h117 | exact congrArg (fun v => some (Value.int v)) q.symm
      · refine z_iconst hR dMO_endless_120 (v := 1) (n := 121) rfl rfl ?_
        refine z_goto hR dMO_endless_121 (t := 125) rfl ?_
        refine z_zret hR dMO_endless_125 rfl rfl (Nat.zero_le _) ?_
        refine ⟨hσ.symm, x, ?_, e_end hl, hm⟩
        rcases zb_01 (tb x j) with q | q
        · first | exact absurd (q.symm.trans h117) (by decide) | exact congrArg (fun v => some (Value.int v)) q.symm
        · first | exact absurd q h117 | exact congrArg (fun v => some (Value.int v)) q.symm
    | succ m ih =>
      intro i x l4 l5 l6 hi hu hm hl
      have rows : ∀ (m2 a : Nat) (now : Int32) (l6 : Option Value), a + m2 = 6 → (∀ g, g < 32 → tb now g = (decide (g < a) && exb (fun c => L g c && tb x c) 6)) → Z 0 31 [some (.ref 45), some (.int (nI j)), some (.int x), some (.int (nI i)), some (.int now), some (.int (nI a)), l6] [] τ := by
        intro m2
        induction m2 with
        | zero =>
          intro a now l6 ha hnow
          have hx2 : ∀ g, g < 32 → tb (x &&& now) g = (tb x g && (decide (g < 6) && exb (fun c => L g c && tb x c) 6)) := fun g hg => by
            rw [tb_and, hnow g hg, show a = 6 by omega]
          have hu2 : eUp (x &&& now) := fun g hg => by
            rw [tb_and, hu g hg]
            rfl
          refine z_iload hR dMO_endless_31 (n := 33) rfl rfl ?_
          refine z_bipush hR dMO_endless_33 (v := nI 6) (n := 35) rfl rfl ?_
          refine z_icmp_geN hR dMO_endless_35 (t := 100) (n := 38) rfl rfl (by omega) (by omega) (fun h35 => ?_) (fun h35 => absurd h35 (by omega))
          refine z_iload_n hR dMO_endless_100 (n := 101) rfl rfl ?_
          refine z_iload hR dMO_endless_101 (n := 103) rfl rfl ?_
          refine z_iand hR dMO_endless_103 (n := 104) rfl ?_
          refine z_istore_n hR dMO_endless_104 (n := 105) rfl (by decide) rfl ?_
          refine z_iincN hR 1 dMO_endless_105 (n := 108) rfl rfl (by decide) rfl rfl ?_
          refine z_goto hR dMO_endless_108 (t := 19) rfl ?_
          exact ih (i + 1) (x &&& now) _ _ _ (by omega) hu2 (fun A hA s hs h1 => by
            obtain ⟨b, hb, q1, q2⟩ := hA s hs h1
            rw [hx2 s (by omega), hm A hA s hs h1, exb_iff.mpr ⟨b, hb, by rw [q1, hm A hA b hb q2]; rfl⟩]
            simp [hs]) (e_round hu hu2 (fun g hg h1 => by
            rw [hx2 g (by omega), Bool.and_eq_true] at h1
            exact h1.1) (fun h0 => e_eq hu2 hu (fun s hs => by
            rw [hx2 s (by omega)]
            cases e3 : tb x s
            · rfl
            · obtain ⟨b, hb, q1, q2⟩ := h0 s hs e3
              rw [exb_iff.mpr ⟨b, hb, by rw [q1, q2]; rfl⟩]
              simp [hs])) (fun e s hs h1 => by
            have h2 := h1
            rw [← e, hx2 s (by omega), Bool.and_eq_true, Bool.and_eq_true, exb_iff] at h2
            obtain ⟨b, hb, h3⟩ := h2.2.2
            rw [Bool.and_eq_true] at h3
            exact ⟨b, hb, h3.1, h3.2⟩) hl)
        | succ m2 ih2 =>
          intro a now l6 ha hnow
          have cols : ∀ (m3 b : Nat) (now : Int32), b + m3 = 6 → (∀ g, g < 32 → tb now g = ((decide (g < a) && exb (fun c => L g c && tb x c) 6) || (decide (g = a) && exb (fun c => L a c && tb x c) b))) → Z 0 41 [some (.ref 45), some (.int (nI j)), some (.int x), some (.int (nI i)), some (.int now), some (.int (nI a)), some (.int (nI b))] [] τ := by
            intro m3
            induction m3 with
            | zero =>
              intro b now hb hnow
              refine z_iload hR dMO_endless_41 (n := 43) rfl rfl ?_
              refine z_bipush hR dMO_endless_43 (v := nI 6) (n := 45) rfl rfl ?_
              refine z_icmp_geN hR dMO_endless_45 (t := 94) (n := 48) rfl rfl (by omega) (by omega) (fun h45 => ?_) (fun h45 => absurd h45 (by omega))
              refine z_iincN hR 1 dMO_endless_94 (n := 97) rfl rfl (by decide) rfl rfl ?_
              refine z_goto hR dMO_endless_97 (t := 31) rfl ?_
              exact ih2 (a + 1) now _ (by omega) (fun g hg => by
                rw [hnow g hg, show b = 6 by omega]
                by_cases e : g = a
                · subst e
                  simp
                · by_cases e2 : g < a
                  · simp [e, e2, show g < a + 1 by omega]
                  · simp [e, e2, show ¬ g < a + 1 by omega])
            | succ m3 ih3 =>
              intro b now hb hnow
              have stay : (L a b && tb x b) = false → Z 0 41 [some (.ref 45), some (.int (nI j)), some (.int x), some (.int (nI i)), some (.int now), some (.int (nI a)), some (.int (nI (b + 1)))] [] τ := fun hc => ih3 (b + 1) now (by omega) (fun g hg => by
                rw [hnow g hg, show exb (fun c => L a c && tb x c) (b + 1) = (exb (fun c => L a c && tb x c) b || (L a b && tb x b)) from rfl, hc, Bool.or_false])
              have grow : (L a b && tb x b) = true → Z 0 41 [some (.ref 45), some (.int (nI j)), some (.int x), some (.int (nI i)), some (.int (now ||| (1 <<< (nI a &&& 31)))), some (.int (nI a)), some (.int (nI (b + 1)))] [] τ := fun hc => ih3 (b + 1) _ (by omega) (fun g hg => by
                rw [tb_or, hnow g hg, tb_shl1 (by omega) g hg, show exb (fun c => L a c && tb x c) (b + 1) = (exb (fun c => L a c && tb x c) b || (L a b && tb x b)) from rfl, hc]
                by_cases e : g = a
                · simp [e]
                · simp [e])
              refine z_iload hR dMO_endless_41 (n := 43) rfl rfl ?_
              refine z_bipush hR dMO_endless_43 (v := nI 6) (n := 45) rfl rfl ?_
              refine z_icmp_geN hR dMO_endless_45 (t := 94) (n := 48) rfl rfl (by omega) (by omega) (fun h45 => absurd h45 (by omega)) (fun h45 => ?_)
              refine z_aload_n hR dMO_endless_48 (n := 49) rfl rfl ?_
              refine z_getR hR dMO_endless_49 (n := 52) rfl zgMO_46 (by decide) rfl rfl ?_
              refine z_bipush hR dMO_endless_52 (v := nI 6) (n := 54) rfl rfl ?_
              refine z_iload hR dMO_endless_54 (n := 56) rfl rfl ?_
              refine z_imulN hR dMO_endless_56 (n := 57) rfl ?_
              refine z_iload hR dMO_endless_57 (n := 59) rfl rfl ?_
              refine z_iaddN hR dMO_endless_59 (n := 60) rfl ?_
              refine z_zald hR (_) dMO_endless_60 (n := 61) rfl (by decide) rfl (by decide) rfl (by omega) ?_
              rw [hL2 a b (by omega) (by omega)]
              refine z_if_eqB hR dMO_endless_61 (t := 84) (n := 64) rfl rfl (fun h61 => ?_) (fun h61 => ?_)
              · refine z_iload hR dMO_endless_84 (n := 86) rfl rfl ?_
                refine z_istore hR dMO_endless_86 (n := 88) rfl (by decide) rfl ?_
                refine z_iincN hR 1 dMO_endless_88 (n := 91) rfl rfl (by decide) rfl rfl ?_
                refine z_goto hR dMO_endless_91 (t := 41) rfl ?_
                first | exact stay (by rw [h61]; rfl) | exact stay (by rw [h61]; cases e : tb x b; rfl; exact absurd (by rw [e]; rfl) h71) | exact grow (by rw [h61, zb_1.mp h71]; rfl)
              · refine z_iload_n hR dMO_endless_64 (n := 65) rfl rfl ?_
                refine z_iload hR dMO_endless_65 (n := 67) rfl rfl ?_
                refine z_ishr hR dMO_endless_67 (n := 68) rfl ?_
                refine z_iconst hR dMO_endless_68 (v := 1) (n := 69) rfl rfl ?_
                refine z_iand hR dMO_endless_69 (n := 70) rfl ?_
                rw [tb_sr1 _ (by omega : b < 32)]
                refine z_iconst hR dMO_endless_70 (v := 1) (n := 71) rfl rfl ?_
                refine z_icmp_ne hR dMO_endless_71 (t := 84) (n := 74) rfl rfl (fun h71 => ?_) (fun h71 => ?_)
                · refine z_iload hR dMO_endless_84 (n := 86) rfl rfl ?_
                  refine z_istore hR dMO_endless_86 (n := 88) rfl (by decide) rfl ?_
                  refine z_iincN hR 1 dMO_endless_88 (n := 91) rfl rfl (by decide) rfl rfl ?_
                  refine z_goto hR dMO_endless_91 (t := 41) rfl ?_
                  first | exact stay (by rw [h61]; rfl) | exact stay (by rw [h61]; cases e : tb x b; rfl; exact absurd (by rw [e]; rfl) h71) | exact grow (by rw [h61, zb_1.mp h71]; rfl)
                · refine z_iload hR dMO_endless_74 (n := 76) rfl rfl ?_
                  refine z_iconst hR dMO_endless_76 (v := 1) (n := 77) rfl rfl ?_
                  refine z_iload hR dMO_endless_77 (n := 79) rfl rfl ?_
                  refine z_ishl hR dMO_endless_79 (n := 80) rfl ?_
                  refine z_ior hR dMO_endless_80 (n := 81) rfl ?_
                  refine z_goto hR dMO_endless_81 (t := 86) rfl ?_
                  refine z_istore hR dMO_endless_86 (n := 88) rfl (by decide) rfl ?_
                  refine z_iincN hR 1 dMO_endless_88 (n := 91) rfl rfl (by decide) rfl rfl ?_
                  refine z_goto hR dMO_endless_91 (t := 41) rfl ?_
                  first | exact stay (by rw [h61]; rfl) | exact stay (by rw [h61]; cases e : tb x b; rfl; exact absurd (by rw [e]; rfl) h71) | exact grow (by rw [h61, zb_1.mp h71]; rfl)
          refine z_iload hR dMO_endless_31 (n := 33) rfl rfl ?_
          refine z_bipush hR dMO_endless_33 (v := nI 6) (n := 35) rfl rfl ?_
          refine z_icmp_geN hR dMO_endless_35 (t := 100) (n := 38) rfl rfl (by omega) (by omega) (fun h35 => absurd h35 (by omega)) (fun h35 => ?_)
          refine z_iconst hR dMO_endless_38 (v := 0) (n := 39) rfl rfl ?_
          refine z_istore hR dMO_endless_39 (n := 41) rfl (by decide) rfl ?_
          exact cols 6 0 now (by omega) (fun g hg => by
            rw [hnow g hg, exb]
            simp)
      refine z_iload_n hR dMO_endless_19 (n := 20) rfl rfl ?_
      refine z_bipush hR dMO_endless_20 (v := nI 6) (n := 22) rfl rfl ?_
      refine z_icmp_geN hR dMO_endless_22 (t := 111) (n := 25) rfl rfl (by omega) (by omega) (fun h22 => absurd h22 (by omega)) (fun h22 => ?_)
      refine z_iconst hR dMO_endless_25 (v := 0) (n := 26) rfl rfl ?_
      refine z_istore hR dMO_endless_26 (n := 28) rfl (by decide) rfl ?_
      refine z_iconst hR dMO_endless_28 (v := 0) (n := 29) rfl rfl ?_
      refine z_istore hR dMO_endless_29 (n := 31) rfl (by decide) rfl ?_
      exact rows 6 0 0 _ (by omega) (fun g hg => by
        rw [tb_0]
        simp)
  subst hσ
  refine z_aload_n hR dMO_endless_0 (n := 1) rfl rfl ?_
  refine z_iconst hR dMO_endless_1 (v := 0) (n := 2) rfl rfl ?_
  refine z_putI hR dMO_endless_2 (n := 5) rfl zpMO_93 (by decide) rfl rfl ?_
  refine z_iload_n hR dMO_endless_5 (n := 6) rfl rfl ?_
  refine z_callS1 hR dMO_endless_6 (n := 9) rfl zcMO_174 zkMO_isState (by decide) (Nat.le_of_ble_eq_true rfl) (Nat.zero_le _) (m_MO_isS hj _) (fun r6 s6 h6 => ?_)
  obtain ⟨rfl, e6⟩ := h6
  subst s6
  refine z_if_ne hR dMO_endless_9 (t := 14) (n := 12) rfl rfl (fun _ => ?_) (fun h9 => absurd h9 (by decide))
  refine z_bipush hR dMO_endless_14 (v := 63) (n := 16) rfl rfl ?_
  refine z_istore_n hR dMO_endless_16 (n := 17) rfl (by decide) rfl ?_
  refine z_iconst hR dMO_endless_17 (v := 0) (n := 18) rfl rfl ?_
  refine z_istore_n hR dMO_endless_18 (n := 19) rfl (by decide) rfl ?_
  exact key 6 0 63 _ _ _ (by omega) e_63u (fun _ _ s hs _ => e_63 hs) (Or.inr (cn_n _ _))
