/-! The class's paths -/
def sbk (k : Nat) (x : Int32) : Prop := ∀ p, k ≤ p → tb x p = false
theorem tb_shl (x : Int32) {b : Nat} (hb : b < 32) (g : Nat) (hg : g < 32) : tb (x <<< (nI b &&& 31)) g = (decide (b ≤ g) && tb x (g - b)) := by
  have e : ((nI b &&& 31).toBitVec.smod 32).toNat = b := by
    rw [nI_31 hb]
    rcases (by omega : b = 0 ∨ b = 1 ∨ b = 2 ∨ b = 3 ∨ b = 4 ∨ b = 5 ∨ b = 6 ∨ b = 7 ∨ b = 8 ∨ b = 9 ∨ b = 10 ∨ b = 11 ∨ b = 12 ∨ b = 13 ∨ b = 14 ∨ b = 15 ∨ b = 16 ∨ b = 17 ∨ b = 18 ∨ b = 19 ∨ b = 20 ∨ b = 21 ∨ b = 22 ∨ b = 23 ∨ b = 24 ∨ b = 25 ∨ b = 26 ∨ b = 27 ∨ b = 28 ∨ b = 29 ∨ b = 30 ∨ b = 31) with h | h | h | h | h | h | h | h | h | h | h | h | h | h | h | h | h | h | h | h | h | h | h | h | h | h | h | h | h | h | h | h <;> subst h <;> decide
  rw [tb, tb, Int32.toBitVec_shiftLeft, BitVec.shiftLeft_eq', e, BitVec.getLsbD_shiftLeft]
  by_cases h : b ≤ g
  · simp [hg, h, show ¬ g < b by omega]
  · simp [hg, h, show g < b by omega]
theorem tb_zb (p : Bool) (g : Nat) : tb (zb p) g = (decide (g = 0) && p) := by
  cases p
  · simp [zb, tb_0]
  · simp [zb, tb_1]
/-- what holds at a place, by the sign and by what holds of the two parts -/
def ev (s : Int32) (A B : Nat → Bool) (k j : Nat) (lv : Int32 → Nat → Bool) (p : Nat) : Bool := if s = 38 then (A p && B p) else if s = 82 then ri k j A B k p else if s = 85 then ui k j A B k p else if s = 88 then A (nx k j p) else if s = 124 then (A p || B p) else lv s p
theorem m_NF_leafHolds (s mk : Int32) (σ : zS) : zM yNF_leafHolds cNF_leafHolds 2 (some .boolean) 0 0 0 [.int s, .int mk] σ (fun r σ2 => r = some (.int (zb (lh s mk))) ∧ σ2 = σ) (fun _ _ => False) := by
  refine zM.of [some (.int s), some (.int mk)] (by decide) 0 rfl (fun _ => Nat.le_of_ble_eq_true rfl) (fun Z hR => ?_)
  by_cases h1 : 112 ≤ s ∧ s ≤ 115
  ·
    obtain ⟨j, hj, e⟩ := nI_of2 (x := s) (M := 115) (n := 115) (by decide) (fun q => absurd (Int32.le_trans h1.1 (Int32.le_of_lt q)) (by decide)) h1.2
    have hj2 : 112 ≤ j := (nI_leI (a := 112) (by decide) (by omega)).mp (by rw [e] at h1; exact h1.1)
    have e1 : s - 112 = nI (j - 112) := by rw [e]; exact pk_sub hj2
    have e0 : lh s mk = tb mk (j - 112) := by rw [lh, if_pos h1, e1, nI_clamp (by omega)]
    refine z_iload_n hR dNF_leafHolds_0 (n := 1) rfl rfl ?_
    refine z_bipush hR dNF_leafHolds_1 (v := 112) (n := 3) rfl rfl ?_
    refine z_icmp_lt hR dNF_leafHolds_3 (t := 30) (n := 6) rfl rfl (fun h3 => absurd h3 (Int32.not_lt.mpr h1.1)) (fun _ => ?_)
    refine z_iload_n hR dNF_leafHolds_6 (n := 7) rfl rfl ?_
    refine z_bipush hR dNF_leafHolds_7 (v := 115) (n := 9) rfl rfl ?_
    refine z_icmp_gt hR dNF_leafHolds_9 (t := 30) (n := 12) rfl rfl (fun h9 => absurd h9 (Int32.not_lt.mpr h1.2)) (fun _ => ?_)
    refine z_iload_n hR dNF_leafHolds_12 (n := 13) rfl rfl ?_
    refine z_iload_n hR dNF_leafHolds_13 (n := 14) rfl rfl ?_
    refine z_bipush hR dNF_leafHolds_14 (v := 112) (n := 16) rfl rfl ?_
    refine z_isub hR dNF_leafHolds_16 (n := 17) rfl ?_
    rw [e1]
    refine z_iushr hR dNF_leafHolds_17 (n := 18) rfl ?_
    refine z_iconst hR dNF_leafHolds_18 (v := 1) (n := 19) rfl rfl ?_
    refine z_iand hR dNF_leafHolds_19 (n := 20) rfl ?_
    rw [tb_us1 _ (by omega : j - 112 < 32)]
    refine z_iconst hR dNF_leafHolds_20 (v := 1) (n := 21) rfl rfl ?_
    refine z_icmp_ne hR dNF_leafHolds_21 (t := 28) (n := 24) rfl rfl (fun h21 => ?_) (fun h21 => ?_)
    · refine z_iconst hR dNF_leafHolds_28 (v := 0) (n := 29) rfl rfl ?_
      refine z_zret hR dNF_leafHolds_29 rfl rfl (Nat.zero_le _) ?_
      rw [e0]
      first
        | (refine ⟨zbT ?_, rfl⟩; exact zb_1.mp h21)
        | (refine ⟨zbF ?_, rfl⟩; cases e5 : tb mk (j - 112); rfl; exact absurd (by rw [e5]; rfl) h21)
    · refine z_iconst hR dNF_leafHolds_24 (v := 1) (n := 25) rfl rfl ?_
      refine z_goto hR dNF_leafHolds_25 (t := 29) rfl ?_
      refine z_zret hR dNF_leafHolds_29 rfl rfl (Nat.zero_le _) ?_
      rw [e0]
      first
        | (refine ⟨zbT ?_, rfl⟩; exact zb_1.mp h21)
        | (refine ⟨zbF ?_, rfl⟩; cases e5 : tb mk (j - 112); rfl; exact absurd (by rw [e5]; rfl) h21)
  by_cases h2 : 65 ≤ s ∧ s ≤ 68
  ·
    obtain ⟨j, hj, e⟩ := nI_of2 (x := s) (M := 68) (n := 68) (by decide) (fun q => absurd (Int32.le_trans h2.1 (Int32.le_of_lt q)) (by decide)) h2.2
    have hj2 : 65 ≤ j := (nI_leI (a := 65) (by decide) (by omega)).mp (by rw [e] at h2; exact h2.1)
    have e1 : s - 65 = nI (j - 65) := by rw [e]; exact pk_sub hj2
    have e0 : lh s mk = !tb mk (j - 65) := by rw [lh, if_neg h1, if_pos h2, e1, nI_clamp (by omega)]
    have hlt : s < 112 := Int32.not_le.mp (fun q => absurd (Int32.le_trans q h2.2) (by decide))
    refine z_iload_n hR dNF_leafHolds_0 (n := 1) rfl rfl ?_
    refine z_bipush hR dNF_leafHolds_1 (v := 112) (n := 3) rfl rfl ?_
    refine z_icmp_lt hR dNF_leafHolds_3 (t := 30) (n := 6) rfl rfl (fun _ => ?_) (fun h3 => absurd hlt h3)
    refine z_iload_n hR dNF_leafHolds_30 (n := 31) rfl rfl ?_
    refine z_bipush hR dNF_leafHolds_31 (v := 65) (n := 33) rfl rfl ?_
    refine z_icmp_lt hR dNF_leafHolds_33 (t := 59) (n := 36) rfl rfl (fun h33 => absurd h33 (Int32.not_lt.mpr h2.1)) (fun _ => ?_)
    refine z_iload_n hR dNF_leafHolds_36 (n := 37) rfl rfl ?_
    refine z_bipush hR dNF_leafHolds_37 (v := 68) (n := 39) rfl rfl ?_
    refine z_icmp_gt hR dNF_leafHolds_39 (t := 59) (n := 42) rfl rfl (fun h39 => absurd h39 (Int32.not_lt.mpr h2.2)) (fun _ => ?_)
    refine z_iload_n hR dNF_leafHolds_42 (n := 43) rfl rfl ?_
    refine z_iload_n hR dNF_leafHolds_43 (n := 44) rfl rfl ?_
    refine z_bipush hR dNF_leafHolds_44 (v := 65) (n := 46) rfl rfl ?_
    refine z_isub hR dNF_leafHolds_46 (n := 47) rfl ?_
    rw [e1]
    refine z_iushr hR dNF_leafHolds_47 (n := 48) rfl ?_
    refine z_iconst hR dNF_leafHolds_48 (v := 1) (n := 49) rfl rfl ?_
    refine z_iand hR dNF_leafHolds_49 (n := 50) rfl ?_
    rw [tb_us1 _ (by omega : j - 65 < 32)]
    refine z_if_neB hR dNF_leafHolds_50 (t := 57) (n := 53) rfl rfl (fun h50 => ?_) (fun h50 => ?_)
    · refine z_iconst hR dNF_leafHolds_57 (v := 0) (n := 58) rfl rfl ?_
      refine z_zret hR dNF_leafHolds_58 rfl rfl (Nat.zero_le _) ?_
      rw [e0, h50]
      exact ⟨rfl, rfl⟩
    · refine z_iconst hR dNF_leafHolds_53 (v := 1) (n := 54) rfl rfl ?_
      refine z_goto hR dNF_leafHolds_54 (t := 58) rfl ?_
      refine z_zret hR dNF_leafHolds_58 rfl rfl (Nat.zero_le _) ?_
      rw [e0, h50]
      exact ⟨rfl, rfl⟩
  have e0 : lh s mk = decide (s = 49) := by rw [lh, if_neg h1, if_neg h2]
  have n1 : ¬ s < 112 → ¬ s ≤ 115 := fun q q2 => h1 ⟨Int32.not_lt.mp q, q2⟩
  have n2 : ¬ s < 65 → ¬ s ≤ 68 := fun q q2 => h2 ⟨Int32.not_lt.mp q, q2⟩
  refine z_iload_n hR dNF_leafHolds_0 (n := 1) rfl rfl ?_
  refine z_bipush hR dNF_leafHolds_1 (v := 112) (n := 3) rfl rfl ?_
  refine z_icmp_lt hR dNF_leafHolds_3 (t := 30) (n := 6) rfl rfl (fun h3 => ?_) (fun h3 => ?_)
  · refine z_iload_n hR dNF_leafHolds_30 (n := 31) rfl rfl ?_
    refine z_bipush hR dNF_leafHolds_31 (v := 65) (n := 33) rfl rfl ?_
    refine z_icmp_lt hR dNF_leafHolds_33 (t := 59) (n := 36) rfl rfl (fun h33 => ?_) (fun h33 => ?_)
    · refine z_iload_n hR dNF_leafHolds_59 (n := 60) rfl rfl ?_
      refine z_bipush hR dNF_leafHolds_60 (v := 49) (n := 62) rfl rfl ?_
      refine z_icmp_ne hR dNF_leafHolds_62 (t := 69) (n := 65) rfl rfl (fun h62 => ?_) (fun h62 => ?_)
      · refine z_iconst hR dNF_leafHolds_69 (v := 0) (n := 70) rfl rfl ?_
        refine z_zret hR dNF_leafHolds_70 rfl rfl (Nat.zero_le _) ?_
        rw [e0]
        first
          | exact ⟨zbT (decide_eq_true h62), rfl⟩
          | exact ⟨zbF (decide_eq_false h62), rfl⟩
      · refine z_iconst hR dNF_leafHolds_65 (v := 1) (n := 66) rfl rfl ?_
        refine z_goto hR dNF_leafHolds_66 (t := 70) rfl ?_
        refine z_zret hR dNF_leafHolds_70 rfl rfl (Nat.zero_le _) ?_
        rw [e0]
        first
          | exact ⟨zbT (decide_eq_true h62), rfl⟩
          | exact ⟨zbF (decide_eq_false h62), rfl⟩
    · refine z_iload_n hR dNF_leafHolds_36 (n := 37) rfl rfl ?_
      refine z_bipush hR dNF_leafHolds_37 (v := 68) (n := 39) rfl rfl ?_
      refine z_icmp_gt hR dNF_leafHolds_39 (t := 59) (n := 42) rfl rfl (fun _ => ?_) (fun h39 => absurd (Int32.not_le.mp (n2 h33)) h39)
      refine z_iload_n hR dNF_leafHolds_59 (n := 60) rfl rfl ?_
      refine z_bipush hR dNF_leafHolds_60 (v := 49) (n := 62) rfl rfl ?_
      refine z_icmp_ne hR dNF_leafHolds_62 (t := 69) (n := 65) rfl rfl (fun h62 => ?_) (fun h62 => ?_)
      · refine z_iconst hR dNF_leafHolds_69 (v := 0) (n := 70) rfl rfl ?_
        refine z_zret hR dNF_leafHolds_70 rfl rfl (Nat.zero_le _) ?_
        rw [e0]
        first
          | exact ⟨zbT (decide_eq_true h62), rfl⟩
          | exact ⟨zbF (decide_eq_false h62), rfl⟩
      · refine z_iconst hR dNF_leafHolds_65 (v := 1) (n := 66) rfl rfl ?_
        refine z_goto hR dNF_leafHolds_66 (t := 70) rfl ?_
        refine z_zret hR dNF_leafHolds_70 rfl rfl (Nat.zero_le _) ?_
        rw [e0]
        first
          | exact ⟨zbT (decide_eq_true h62), rfl⟩
          | exact ⟨zbF (decide_eq_false h62), rfl⟩
  · refine z_iload_n hR dNF_leafHolds_6 (n := 7) rfl rfl ?_
    refine z_bipush hR dNF_leafHolds_7 (v := 115) (n := 9) rfl rfl ?_
    refine z_icmp_gt hR dNF_leafHolds_9 (t := 30) (n := 12) rfl rfl (fun _ => ?_) (fun h9 => absurd (Int32.not_le.mp (n1 h3)) h9)
    refine z_iload_n hR dNF_leafHolds_30 (n := 31) rfl rfl ?_
    refine z_bipush hR dNF_leafHolds_31 (v := 65) (n := 33) rfl rfl ?_
    refine z_icmp_lt hR dNF_leafHolds_33 (t := 59) (n := 36) rfl rfl (fun h33 => ?_) (fun h33 => ?_)
    · refine z_iload_n hR dNF_leafHolds_59 (n := 60) rfl rfl ?_
      refine z_bipush hR dNF_leafHolds_60 (v := 49) (n := 62) rfl rfl ?_
      refine z_icmp_ne hR dNF_leafHolds_62 (t := 69) (n := 65) rfl rfl (fun h62 => ?_) (fun h62 => ?_)
      · refine z_iconst hR dNF_leafHolds_69 (v := 0) (n := 70) rfl rfl ?_
        refine z_zret hR dNF_leafHolds_70 rfl rfl (Nat.zero_le _) ?_
        rw [e0]
        first
          | exact ⟨zbT (decide_eq_true h62), rfl⟩
          | exact ⟨zbF (decide_eq_false h62), rfl⟩
      · refine z_iconst hR dNF_leafHolds_65 (v := 1) (n := 66) rfl rfl ?_
        refine z_goto hR dNF_leafHolds_66 (t := 70) rfl ?_
        refine z_zret hR dNF_leafHolds_70 rfl rfl (Nat.zero_le _) ?_
        rw [e0]
        first
          | exact ⟨zbT (decide_eq_true h62), rfl⟩
          | exact ⟨zbF (decide_eq_false h62), rfl⟩
    · refine z_iload_n hR dNF_leafHolds_36 (n := 37) rfl rfl ?_
      refine z_bipush hR dNF_leafHolds_37 (v := 68) (n := 39) rfl rfl ?_
      refine z_icmp_gt hR dNF_leafHolds_39 (t := 59) (n := 42) rfl rfl (fun _ => ?_) (fun h39 => absurd (Int32.not_le.mp (n2 h33)) h39)
      refine z_iload_n hR dNF_leafHolds_59 (n := 60) rfl rfl ?_
      refine z_bipush hR dNF_leafHolds_60 (v := 49) (n := 62) rfl rfl ?_
      refine z_icmp_ne hR dNF_leafHolds_62 (t := 69) (n := 65) rfl rfl (fun h62 => ?_) (fun h62 => ?_)
      · refine z_iconst hR dNF_leafHolds_69 (v := 0) (n := 70) rfl rfl ?_
        refine z_zret hR dNF_leafHolds_70 rfl rfl (Nat.zero_le _) ?_
        rw [e0]
        first
          | exact ⟨zbT (decide_eq_true h62), rfl⟩
          | exact ⟨zbF (decide_eq_false h62), rfl⟩
      · refine z_iconst hR dNF_leafHolds_65 (v := 1) (n := 66) rfl rfl ?_
        refine z_goto hR dNF_leafHolds_66 (t := 70) rfl ?_
        refine z_zret hR dNF_leafHolds_70 rfl rfl (Nat.zero_le _) ?_
        rw [e0]
        first
          | exact ⟨zbT (decide_eq_true h62), rfl⟩
          | exact ⟨zbF (decide_eq_false h62), rfl⟩
theorem m_PA_has8 {i k : Nat} (hi : i < k) (hk : k ≤ 8) (σ : zS) (hc : σ.1 8 1 = nI k) : zM yPA_hasPlace cPA_hasPlace 2 (some .boolean) 0 0 0 [.ref 8, .int (nI i)] σ (fun r σ2 => r = some (.int 1) ∧ σ2 = σ) (fun _ _ => False) := by
  refine zM.of [some (.ref 8), some (.int (nI i))] (by decide) 0 rfl (fun _ => Nat.le_of_ble_eq_true rfl) (fun Z hR => ?_)
  refine z_iload_n hR dPA_hasPlace_0 (n := 1) rfl rfl ?_
  refine z_if_ltN hR dPA_hasPlace_1 (t := 16) (n := 4) rfl rfl (by omega) ?_
  refine z_iload_n hR dPA_hasPlace_4 (n := 5) rfl rfl ?_
  refine z_aload_n hR dPA_hasPlace_5 (n := 6) rfl rfl ?_
  refine z_getI hR dPA_hasPlace_6 (n := 9) rfl zgPA_18 (by decide) rfl rfl ?_
  rw [hc]
  refine z_icmp_geN hR dPA_hasPlace_9 (t := 16) (n := 12) rfl rfl (by omega) (by omega) (fun h9 => absurd h9 (by omega)) (fun h9 => ?_)
  refine z_iconst hR dPA_hasPlace_12 (v := 1) (n := 13) rfl rfl ?_
  refine z_goto hR dPA_hasPlace_13 (t := 17) rfl ?_
  refine z_zret hR dPA_hasPlace_17 rfl rfl (Nat.zero_le _) ?_
  exact ⟨rfl, rfl⟩
theorem m_PA_hasN8 {i : Int32} {k : Nat} (hi : ∀ j : Nat, j < k → i ≠ nI j) (hk : k ≤ 8) (σ : zS) (hc : σ.1 8 1 = nI k) : zM yPA_hasPlace cPA_hasPlace 2 (some .boolean) 0 0 0 [.ref 8, .int i] σ (fun r σ2 => r = some (.int 0) ∧ σ2 = σ) (fun _ _ => False) := by
  refine zM.of [some (.ref 8), some (.int i)] (by decide) 0 rfl (fun _ => Nat.le_of_ble_eq_true rfl) (fun Z hR => ?_)
  refine z_iload_n hR dPA_hasPlace_0 (n := 1) rfl rfl ?_
  refine z_if_lt hR dPA_hasPlace_1 (t := 16) (n := 4) rfl rfl (fun h1 => ?_) (fun h1 => ?_)
  · refine z_iconst hR dPA_hasPlace_16 (v := 0) (n := 17) rfl rfl ?_
    refine z_zret hR dPA_hasPlace_17 rfl rfl (Nat.zero_le _) ?_
    exact ⟨rfl, rfl⟩
  · refine z_iload_n hR dPA_hasPlace_4 (n := 5) rfl rfl ?_
    refine z_aload_n hR dPA_hasPlace_5 (n := 6) rfl rfl ?_
    refine z_getI hR dPA_hasPlace_6 (n := 9) rfl zgPA_18 (by decide) rfl rfl ?_
    rw [hc]
    refine z_icmp_ge hR dPA_hasPlace_9 (t := 16) (n := 12) rfl rfl (fun h9 => ?_) (fun h9 => ?_)
    · refine z_iconst hR dPA_hasPlace_16 (v := 0) (n := 17) rfl rfl ?_
      refine z_zret hR dPA_hasPlace_17 rfl rfl (Nat.zero_le _) ?_
      exact ⟨rfl, rfl⟩
    · rcases pk_ix i (n := k) (by omega) with q | q | ⟨j, hj, q⟩
      · exact absurd q h1
      · exact absurd q h9
      · exact absurd q (hi j hj)
      skip
theorem m_PA_linked8 {k j : Nat} (hj : j < k) (hk : k ≤ 8) (σ : zS) (hc : σ.1 8 1 = nI k) {st : Nat → Nat} (hst : ∀ p, p < k → σ.1 9 p = nI (st p) ∧ st p < 6) : zM yPA_isLinked cPA_isLinked 5 (some .boolean) 1 40 0 [.ref 8, .ref 42, .int (nI j)] σ (fun r σ2 => σ2 = σ ∧ ((r = some (.int 1) ∧ ∀ p, p < k → jn σ (st p) (st (nx k j p)) = true) ∨ (r = some (.int 0) ∧ ∃ p, p < k ∧ jn σ (st p) (st (nx k j p)) = false))) (fun _ _ => False) := by
  refine zM.of [some (.ref 8), some (.ref 42), some (.int (nI j)), none, none] (by decide) 2 rfl (fun _ => Nat.le_of_ble_eq_true rfl) (fun Z hR => ?_)
  have key : ∀ (m i : Nat) (l4 : Option Value), i + m = k → (∀ p, p < i → jn σ (st p) (st (nx k j p)) = true) → Z 0 2 [some (.ref 8), some (.ref 42), some (.int (nI j)), some (.int (nI i)), l4] [] σ := by
    intro m
    induction m with
    | zero =>
      intro i l4 hi hp
      refine z_iload_n hR dPA_isLinked_2 (n := 3) rfl rfl ?_
      refine z_aload_n hR dPA_isLinked_3 (n := 4) rfl rfl ?_
      refine z_getI hR dPA_isLinked_4 (n := 7) rfl zgPA_18 (by decide) rfl rfl ?_
      rw [hc]
      refine z_icmp_geN hR dPA_isLinked_7 (t := 57) (n := 10) rfl rfl (by omega) (by omega) (fun h7 => ?_) (fun h7 => absurd h7 (by omega))
      refine z_iconst hR dPA_isLinked_57 (v := 1) (n := 58) rfl rfl ?_
      refine z_zret hR dPA_isLinked_58 rfl rfl (Nat.zero_le _) ?_
      exact ⟨rfl, Or.inl ⟨rfl, fun p h => hp p (by omega)⟩⟩
    | succ m ih =>
      intro i l4 hi hp
      have hq := nx_lt (p := i) hj
      have step : Z 0 29 [some (.ref 8), some (.ref 42), some (.int (nI j)), some (.int (nI i)), some (.int (nI (nx k j i)))] [] σ := by
        refine z_aload_n hR dPA_isLinked_29 (n := 30) rfl rfl ?_
        refine z_aload_n hR dPA_isLinked_30 (n := 31) rfl rfl ?_
        refine z_getR hR dPA_isLinked_31 (n := 34) rfl zgPA_15 (by decide) rfl rfl ?_
        refine z_iload_n hR dPA_isLinked_34 (n := 35) rfl rfl ?_
        refine z_iald hR (_) dPA_isLinked_35 (n := 36) rfl (by decide) rfl (by decide) rfl (by omega) ?_
        rw [(hst i (by omega)).1]
        refine z_aload_n hR dPA_isLinked_36 (n := 37) rfl rfl ?_
        refine z_getR hR dPA_isLinked_37 (n := 40) rfl zgPA_15 (by decide) rfl rfl ?_
        refine z_iload hR dPA_isLinked_40 (n := 42) rfl rfl ?_
        refine z_iald hR (_) dPA_isLinked_42 (n := 43) rfl (by decide) rfl (by decide) rfl (by omega) ?_
        rw [(hst _ hq).1]
        refine z_callV2 hR dPA_isLinked_43 (n := 46) rfl zcPA_22 zkST_joins (by decide) (Nat.le_of_ble_eq_true rfl) (by decide) rfl rfl (Nat.zero_le _) (m_ST_jn (hst i (by omega)).2 (hst _ hq).2 σ) (fun r43 s43 h43 => ?_)
        obtain ⟨rfl, e43⟩ := h43
        subst s43
        refine z_if_neB hR dPA_isLinked_46 (t := 51) (n := 49) rfl rfl (fun h46 => ?_) (fun h46 => ?_)
        · refine z_iincN hR 1 dPA_isLinked_51 (n := 54) rfl rfl (by decide) rfl rfl ?_
          refine z_goto hR dPA_isLinked_54 (t := 2) rfl ?_
          exact ih (i + 1) _ (by omega) (fun p h => by
            by_cases e : p = i
            · subst e
              exact h46
            · exact hp p (by omega))
        · refine z_iconst hR dPA_isLinked_49 (v := 0) (n := 50) rfl rfl ?_
          refine z_zret hR dPA_isLinked_50 rfl rfl (Nat.zero_le _) ?_
          exact ⟨rfl, Or.inr ⟨rfl, i, by omega, h46⟩⟩
      by_cases h17 : i + 1 < k
      ·
        have e : nx k j i = i + 1 := if_pos h17
        rw [e] at step
        refine z_iload_n hR dPA_isLinked_2 (n := 3) rfl rfl ?_
        refine z_aload_n hR dPA_isLinked_3 (n := 4) rfl rfl ?_
        refine z_getI hR dPA_isLinked_4 (n := 7) rfl zgPA_18 (by decide) rfl rfl ?_
        rw [hc]
        refine z_icmp_geN hR dPA_isLinked_7 (t := 57) (n := 10) rfl rfl (by omega) (by omega) (fun h7 => absurd h7 (by omega)) (fun h7 => ?_)
        refine z_iload_n hR dPA_isLinked_10 (n := 11) rfl rfl ?_
        refine z_iconst hR dPA_isLinked_11 (v := nI 1) (n := 12) rfl rfl ?_
        refine z_iaddN hR dPA_isLinked_12 (n := 13) rfl ?_
        refine z_aload_n hR dPA_isLinked_13 (n := 14) rfl rfl ?_
        refine z_getI hR dPA_isLinked_14 (n := 17) rfl zgPA_18 (by decide) rfl rfl ?_
        rw [hc]
        refine z_icmp_geN hR dPA_isLinked_17 (t := 26) (n := 20) rfl rfl (by omega) (by omega) (fun h17 => absurd h17 (by omega)) (fun h17 => ?_)
        refine z_iload_n hR dPA_isLinked_20 (n := 21) rfl rfl ?_
        refine z_iconst hR dPA_isLinked_21 (v := nI 1) (n := 22) rfl rfl ?_
        refine z_iaddN hR dPA_isLinked_22 (n := 23) rfl ?_
        refine z_goto hR dPA_isLinked_23 (t := 27) rfl ?_
        refine z_istore hR dPA_isLinked_27 (n := 29) rfl (by decide) rfl ?_
        exact step
      ·
        have e : nx k j i = j := if_neg h17
        rw [e] at step
        refine z_iload_n hR dPA_isLinked_2 (n := 3) rfl rfl ?_
        refine z_aload_n hR dPA_isLinked_3 (n := 4) rfl rfl ?_
        refine z_getI hR dPA_isLinked_4 (n := 7) rfl zgPA_18 (by decide) rfl rfl ?_
        rw [hc]
        refine z_icmp_geN hR dPA_isLinked_7 (t := 57) (n := 10) rfl rfl (by omega) (by omega) (fun h7 => absurd h7 (by omega)) (fun h7 => ?_)
        refine z_iload_n hR dPA_isLinked_10 (n := 11) rfl rfl ?_
        refine z_iconst hR dPA_isLinked_11 (v := nI 1) (n := 12) rfl rfl ?_
        refine z_iaddN hR dPA_isLinked_12 (n := 13) rfl ?_
        refine z_aload_n hR dPA_isLinked_13 (n := 14) rfl rfl ?_
        refine z_getI hR dPA_isLinked_14 (n := 17) rfl zgPA_18 (by decide) rfl rfl ?_
        rw [hc]
        refine z_icmp_geN hR dPA_isLinked_17 (t := 26) (n := 20) rfl rfl (by omega) (by omega) (fun h17 => ?_) (fun h17 => absurd h17 (by omega))
        refine z_iload_n hR dPA_isLinked_26 (n := 27) rfl rfl ?_
        refine z_istore hR dPA_isLinked_27 (n := 29) rfl (by decide) rfl ?_
        exact step
  refine z_iconst hR dPA_isLinked_0 (v := nI 0) (n := 1) rfl rfl ?_
  refine z_istore_n hR dPA_isLinked_1 (n := 2) rfl (by decide) rfl ?_
  exact key k 0 _ (by omega) (fun p h => absurd h (by omega))
theorem m_PA_before8 {k j : Nat} (hj : j < k) (hk : k ≤ 8) (σ : zS) (hc : σ.1 8 1 = nI k) {x : Int32} (hx : sbk k x) : zM yPA_placesBefore cPA_placesBefore 3 (some .int) 0 0 0 [.ref 8, .int x, .int (nI j)] σ (fun r σ2 => σ2 = σ ∧ ∃ y, r = some (.int y) ∧ ∀ p, tb y p = (decide (p < k) && tb x (nx k j p))) (fun _ _ => False) := by
  refine zM.of [some (.ref 8), some (.int x), some (.int (nI j))] (by decide) 0 rfl (fun _ => Nat.le_of_ble_eq_true rfl) (fun Z hR => ?_)
  refine z_iload_n hR dPA_placesBefore_0 (n := 1) rfl rfl ?_
  refine z_iconst hR dPA_placesBefore_1 (v := nI 1) (n := 2) rfl rfl ?_
  refine z_iushr hR dPA_placesBefore_2 (n := 3) rfl ?_
  refine z_iload_n hR dPA_placesBefore_3 (n := 4) rfl rfl ?_
  refine z_iload_n hR dPA_placesBefore_4 (n := 5) rfl rfl ?_
  refine z_iushr hR dPA_placesBefore_5 (n := 6) rfl ?_
  refine z_iconst hR dPA_placesBefore_6 (v := 1) (n := 7) rfl rfl ?_
  refine z_iand hR dPA_placesBefore_7 (n := 8) rfl ?_
  rw [tb_us1 _ (by omega : j < 32)]
  refine z_aload_n hR dPA_placesBefore_8 (n := 9) rfl rfl ?_
  refine z_getI hR dPA_placesBefore_9 (n := 12) rfl zgPA_18 (by decide) rfl rfl ?_
  rw [hc]
  refine z_iconst hR dPA_placesBefore_12 (v := nI 1) (n := 13) rfl rfl ?_
  refine z_isubN hR dPA_placesBefore_13 (n := 14) rfl (by omega) ?_
  refine z_ishl hR dPA_placesBefore_14 (n := 15) rfl ?_
  refine z_ior hR dPA_placesBefore_15 (n := 16) rfl ?_
  refine z_zret hR dPA_placesBefore_16 rfl rfl (Nat.zero_le _) ?_
  refine ⟨rfl, _, rfl, fun p => ?_⟩
  by_cases hp : p < 32
  · rw [tb_or, tb_ushr x (by omega : 1 < 32), tb_shl _ (by omega : k - 1 < 32) _ hp, tb_zb]
    by_cases h1 : p + 1 < k
    · rw [show nx k j p = p + 1 from if_pos h1, Nat.add_comm 1 p]
      simp [show p < k by omega, show ¬ k - 1 ≤ p by omega]
    · by_cases h2 : p < k
      · rw [show nx k j p = j from if_neg h1, hx (1 + p) (by omega)]
        simp [h2, show k - 1 ≤ p by omega, show p - (k - 1) = 0 by omega]
      · rw [hx (1 + p) (by omega)]
        simp [h2, show ¬ p - (k - 1) = 0 by omega]
  · rw [tb_ge _ (by omega)]
    simp [show ¬ p < k by omega]
theorem m_PA_until8 {k j : Nat} (hj : j < k) (hk : k ≤ 8) (σ : zS) (hc : σ.1 8 1 = nI k) {a b : Int32} (ha : sbk k a) (hb : sbk k b) : zM yPA_placesOfUntil cPA_placesOfUntil 6 (some .int) 1 40 0 [.ref 8, .int a, .int b, .int (nI j)] σ (fun r σ2 => σ2 = σ ∧ ∃ y, r = some (.int y) ∧ ∀ p, tb y p = (decide (p < k) && ui k j (tb a) (tb b) k p)) (fun _ _ => False) := by
  refine zM.of [some (.ref 8), some (.int a), some (.int b), some (.int (nI j)), none, none] (by decide) 2 rfl (fun _ => Nat.le_of_ble_eq_true rfl) (fun Z hR => ?_)
  have key : ∀ (m i : Nat) (x : Int32), i + m = k → (∀ p, tb x p = (decide (p < k) && ui k j (tb a) (tb b) i p)) → Z 0 6 [some (.ref 8), some (.int a), some (.int b), some (.int (nI j)), some (.int x), some (.int (nI i))] [] σ := by
    intro m
    induction m with
    | zero =>
      intro i x hi hx
      obtain rfl : i = k := by omega
      refine z_iload hR dPA_placesOfUntil_6 (n := 8) rfl rfl ?_
      refine z_aload_n hR dPA_placesOfUntil_8 (n := 9) rfl rfl ?_
      refine z_getI hR dPA_placesOfUntil_9 (n := 12) rfl zgPA_18 (by decide) rfl rfl ?_
      rw [hc]
      refine z_icmp_geN hR dPA_placesOfUntil_12 (t := 34) (n := 15) rfl rfl (by omega) (by omega) (fun h12 => ?_) (fun h12 => absurd h12 (by omega))
      refine z_iload hR dPA_placesOfUntil_34 (n := 36) rfl rfl ?_
      refine z_zret hR dPA_placesOfUntil_36 rfl rfl (Nat.zero_le _) ?_
      exact ⟨rfl, x, rfl, hx⟩
    | succ m ih =>
      intro i x hi hx
      refine z_iload hR dPA_placesOfUntil_6 (n := 8) rfl rfl ?_
      refine z_aload_n hR dPA_placesOfUntil_8 (n := 9) rfl rfl ?_
      refine z_getI hR dPA_placesOfUntil_9 (n := 12) rfl zgPA_18 (by decide) rfl rfl ?_
      rw [hc]
      refine z_icmp_geN hR dPA_placesOfUntil_12 (t := 34) (n := 15) rfl rfl (by omega) (by omega) (fun h12 => absurd h12 (by omega)) (fun h12 => ?_)
      refine z_iload_n hR dPA_placesOfUntil_15 (n := 16) rfl rfl ?_
      refine z_iload_n hR dPA_placesOfUntil_16 (n := 17) rfl rfl ?_
      refine z_aload_n hR dPA_placesOfUntil_17 (n := 18) rfl rfl ?_
      refine z_iload hR dPA_placesOfUntil_18 (n := 20) rfl rfl ?_
      refine z_iload_n hR dPA_placesOfUntil_20 (n := 21) rfl rfl ?_
      refine z_callV2 hR dPA_placesOfUntil_21 (n := 24) rfl zcPA_40 zkPA_placesBefore (by decide) (Nat.le_of_ble_eq_true rfl) (by decide) rfl rfl (Nat.zero_le _) (m_PA_before8 hj hk σ hc (x := x) (fun p hp => by rw [hx p]; simp [show ¬ p < k by omega])) (fun r21 s21 h21 => ?_)
      obtain ⟨e21, y, rfl, hy⟩ := h21
      subst s21
      refine z_iand hR dPA_placesOfUntil_24 (n := 25) rfl ?_
      refine z_ior hR dPA_placesOfUntil_25 (n := 26) rfl ?_
      refine z_istore hR dPA_placesOfUntil_26 (n := 28) rfl (by decide) rfl ?_
      refine z_iincN hR 1 dPA_placesOfUntil_28 (n := 31) rfl rfl (by decide) rfl rfl ?_
      refine z_goto hR dPA_placesOfUntil_31 (t := 6) rfl ?_
      exact ih (i + 1) _ (by omega) (fun p => by
        rw [tb_or, tb_and, hy p, ui]
        by_cases hp : p < k
        · rw [hx]
          simp [hp, nx_lt hj]
        · simp [hp, hb p (by omega)])
  refine z_iload_n hR dPA_placesOfUntil_0 (n := 1) rfl rfl ?_
  refine z_istore hR dPA_placesOfUntil_1 (n := 3) rfl (by decide) rfl ?_
  refine z_iconst hR dPA_placesOfUntil_3 (v := nI 0) (n := 4) rfl rfl ?_
  refine z_istore hR dPA_placesOfUntil_4 (n := 6) rfl (by decide) rfl ?_
  exact key k 0 b (by omega) (fun p => by
    rw [ui]
    by_cases hp : p < k
    · simp [hp]
    · simp [hp, hb p (by omega)])
theorem m_PA_release8 {k j : Nat} (hj : j < k) (hk : k ≤ 8) (σ : zS) (hc : σ.1 8 1 = nI k) {a b : Int32} (ha : sbk k a) (hb : sbk k b) : zM yPA_placesOfRelease cPA_placesOfRelease 6 (some .int) 1 40 0 [.ref 8, .int a, .int b, .int (nI j)] σ (fun r σ2 => σ2 = σ ∧ ∃ y, r = some (.int y) ∧ ∀ p, tb y p = (decide (p < k) && ri k j (tb a) (tb b) k p)) (fun _ _ => False) := by
  refine zM.of [some (.ref 8), some (.int a), some (.int b), some (.int (nI j)), none, none] (by decide) 2 rfl (fun _ => Nat.le_of_ble_eq_true rfl) (fun Z hR => ?_)
  have key : ∀ (m i : Nat) (x : Int32), i + m = k → (∀ p, tb x p = (decide (p < k) && ri k j (tb a) (tb b) i p)) → Z 0 6 [some (.ref 8), some (.int a), some (.int b), some (.int (nI j)), some (.int x), some (.int (nI i))] [] σ := by
    intro m
    induction m with
    | zero =>
      intro i x hi hx
      obtain rfl : i = k := by omega
      refine z_iload hR dPA_placesOfRelease_6 (n := 8) rfl rfl ?_
      refine z_aload_n hR dPA_placesOfRelease_8 (n := 9) rfl rfl ?_
      refine z_getI hR dPA_placesOfRelease_9 (n := 12) rfl zgPA_18 (by decide) rfl rfl ?_
      rw [hc]
      refine z_icmp_geN hR dPA_placesOfRelease_12 (t := 34) (n := 15) rfl rfl (by omega) (by omega) (fun h12 => ?_) (fun h12 => absurd h12 (by omega))
      refine z_iload hR dPA_placesOfRelease_34 (n := 36) rfl rfl ?_
      refine z_zret hR dPA_placesOfRelease_36 rfl rfl (Nat.zero_le _) ?_
      exact ⟨rfl, x, rfl, hx⟩
    | succ m ih =>
      intro i x hi hx
      refine z_iload hR dPA_placesOfRelease_6 (n := 8) rfl rfl ?_
      refine z_aload_n hR dPA_placesOfRelease_8 (n := 9) rfl rfl ?_
      refine z_getI hR dPA_placesOfRelease_9 (n := 12) rfl zgPA_18 (by decide) rfl rfl ?_
      rw [hc]
      refine z_icmp_geN hR dPA_placesOfRelease_12 (t := 34) (n := 15) rfl rfl (by omega) (by omega) (fun h12 => absurd h12 (by omega)) (fun h12 => ?_)
      refine z_iload_n hR dPA_placesOfRelease_15 (n := 16) rfl rfl ?_
      refine z_iload_n hR dPA_placesOfRelease_16 (n := 17) rfl rfl ?_
      refine z_aload_n hR dPA_placesOfRelease_17 (n := 18) rfl rfl ?_
      refine z_iload hR dPA_placesOfRelease_18 (n := 20) rfl rfl ?_
      refine z_iload_n hR dPA_placesOfRelease_20 (n := 21) rfl rfl ?_
      refine z_callV2 hR dPA_placesOfRelease_21 (n := 24) rfl zcPA_40 zkPA_placesBefore (by decide) (Nat.le_of_ble_eq_true rfl) (by decide) rfl rfl (Nat.zero_le _) (m_PA_before8 hj hk σ hc (x := x) (fun p hp => by rw [hx p]; simp [show ¬ p < k by omega])) (fun r21 s21 h21 => ?_)
      obtain ⟨e21, y, rfl, hy⟩ := h21
      subst s21
      refine z_ior hR dPA_placesOfRelease_24 (n := 25) rfl ?_
      refine z_iand hR dPA_placesOfRelease_25 (n := 26) rfl ?_
      refine z_istore hR dPA_placesOfRelease_26 (n := 28) rfl (by decide) rfl ?_
      refine z_iincN hR 1 dPA_placesOfRelease_28 (n := 31) rfl rfl (by decide) rfl rfl ?_
      refine z_goto hR dPA_placesOfRelease_31 (t := 6) rfl ?_
      exact ih (i + 1) _ (by omega) (fun p => by
        rw [tb_and, tb_or, hy p, ri]
        by_cases hp : p < k
        · rw [hx]
          simp [hp, nx_lt hj]
        · simp [hp, hb p (by omega)])
  refine z_iload_n hR dPA_placesOfRelease_0 (n := 1) rfl rfl ?_
  refine z_istore hR dPA_placesOfRelease_1 (n := 3) rfl (by decide) rfl ?_
  refine z_iconst hR dPA_placesOfRelease_3 (v := nI 0) (n := 4) rfl rfl ?_
  refine z_istore hR dPA_placesOfRelease_4 (n := 6) rfl (by decide) rfl ?_
  exact key k 0 b (by omega) (fun p => by
    rw [ri]
    by_cases hp : p < k
    · simp [hp]
    · simp [hp, hb p (by omega)])
theorem m_PA_leaf8 {k : Nat} (hk : k ≤ 8) (s : Int32) (σ : zS) (hc : σ.1 8 1 = nI k) {st : Nat → Nat} (hst : ∀ p, p < k → σ.1 9 p = nI (st p) ∧ st p < 6) : zM yPA_placesOfLeaf cPA_placesOfLeaf 5 (some .int) 1 40 0 [.ref 8, .int s, .ref 42] σ (fun r σ2 => σ2 = σ ∧ ∃ y, r = some (.int y) ∧ ∀ p, tb y p = (decide (p < k) && lh s (σ.1 43 (st p)))) (fun _ _ => False) := by
  refine zM.of [some (.ref 8), some (.int s), some (.ref 42), none, none] (by decide) 2 rfl (fun _ => Nat.le_of_ble_eq_true rfl) (fun Z hR => ?_)
  have key : ∀ (m i : Nat) (x : Int32), i + m = k → (∀ p, tb x p = (decide (p < i) && lh s (σ.1 43 (st p)))) → Z 0 5 [some (.ref 8), some (.int s), some (.ref 42), some (.int x), some (.int (nI i))] [] σ := by
    intro m
    induction m with
    | zero =>
      intro i x hi hx
      obtain rfl : i = k := by omega
      refine z_iload hR dPA_placesOfLeaf_5 (n := 7) rfl rfl ?_
      refine z_aload_n hR dPA_placesOfLeaf_7 (n := 8) rfl rfl ?_
      refine z_getI hR dPA_placesOfLeaf_8 (n := 11) rfl zgPA_18 (by decide) rfl rfl ?_
      rw [hc]
      refine z_icmp_geN hR dPA_placesOfLeaf_11 (t := 46) (n := 14) rfl rfl (by omega) (by omega) (fun h11 => ?_) (fun h11 => absurd h11 (by omega))
      refine z_iload_n hR dPA_placesOfLeaf_46 (n := 47) rfl rfl ?_
      refine z_zret hR dPA_placesOfLeaf_47 rfl rfl (Nat.zero_le _) ?_
      exact ⟨rfl, x, rfl, hx⟩
    | succ m ih =>
      intro i x hi hx
      obtain ⟨q1, q2⟩ := hst i (by omega)
      refine z_iload hR dPA_placesOfLeaf_5 (n := 7) rfl rfl ?_
      refine z_aload_n hR dPA_placesOfLeaf_7 (n := 8) rfl rfl ?_
      refine z_getI hR dPA_placesOfLeaf_8 (n := 11) rfl zgPA_18 (by decide) rfl rfl ?_
      rw [hc]
      refine z_icmp_geN hR dPA_placesOfLeaf_11 (t := 46) (n := 14) rfl rfl (by omega) (by omega) (fun h11 => absurd h11 (by omega)) (fun h11 => ?_)
      refine z_iload_n hR dPA_placesOfLeaf_14 (n := 15) rfl rfl ?_
      refine z_aload_n hR dPA_placesOfLeaf_15 (n := 16) rfl rfl ?_
      refine z_getR hR dPA_placesOfLeaf_16 (n := 19) rfl zgPA_55 (by decide) rfl rfl ?_
      refine z_aload_n hR dPA_placesOfLeaf_19 (n := 20) rfl rfl ?_
      refine z_getR hR dPA_placesOfLeaf_20 (n := 23) rfl zgPA_15 (by decide) rfl rfl ?_
      refine z_iload hR dPA_placesOfLeaf_23 (n := 25) rfl rfl ?_
      refine z_iald hR (_) dPA_placesOfLeaf_25 (n := 26) rfl (by decide) rfl (by decide) rfl (by omega) ?_
      rw [q1]
      refine z_iald hR (_) dPA_placesOfLeaf_26 (n := 27) rfl (by decide) rfl (by decide) rfl (by omega) ?_
      refine z_callS2 hR dPA_placesOfLeaf_27 (n := 30) rfl zcPA_58 zkNF_leafHolds (by decide) (Nat.le_of_ble_eq_true rfl) (Nat.zero_le _) (m_NF_leafHolds s _ σ) (fun r27 s27 h27 => ?_)
      obtain ⟨rfl, e27⟩ := h27
      subst s27
      refine z_if_eqB hR dPA_placesOfLeaf_30 (t := 40) (n := 33) rfl rfl (fun h30 => ?_) (fun h30 => ?_)
      · have go := ih (i + 1) x (by omega) (fun p => by
          rw [hx p]
          by_cases e : p = i
          · subst e
            simp [h30]
          · by_cases e2 : p < i
            · simp [e2, show p < i + 1 by omega]
            · simp [e2, show ¬ p < i + 1 by omega])
        refine z_iincN hR 1 dPA_placesOfLeaf_40 (n := 43) rfl rfl (by decide) rfl rfl ?_
        refine z_goto hR dPA_placesOfLeaf_43 (t := 5) rfl ?_
        exact go
      · have go := ih (i + 1) (x ||| (1 <<< (nI i &&& 31))) (by omega) (fun p => by
          rw [tb_or, hx p]
          by_cases hp : p < 32
          · rw [tb_shl1 (by omega) p hp]
            by_cases e : p = i
            · subst e
              simp [h30]
            · by_cases e2 : p < i
              · simp [e, e2, show p < i + 1 by omega]
              · simp [e, e2, show ¬ p < i + 1 by omega]
          · rw [tb_ge _ (by omega)]
            simp [show ¬ p < i by omega, show ¬ p < i + 1 by omega])
        refine z_iload_n hR dPA_placesOfLeaf_33 (n := 34) rfl rfl ?_
        refine z_iconst hR dPA_placesOfLeaf_34 (v := 1) (n := 35) rfl rfl ?_
        refine z_iload hR dPA_placesOfLeaf_35 (n := 37) rfl rfl ?_
        refine z_ishl hR dPA_placesOfLeaf_37 (n := 38) rfl ?_
        refine z_ior hR dPA_placesOfLeaf_38 (n := 39) rfl ?_
        refine z_istore_n hR dPA_placesOfLeaf_39 (n := 40) rfl (by decide) rfl ?_
        refine z_iincN hR 1 dPA_placesOfLeaf_40 (n := 43) rfl rfl (by decide) rfl rfl ?_
        refine z_goto hR dPA_placesOfLeaf_43 (t := 5) rfl ?_
        exact go
  refine z_iconst hR dPA_placesOfLeaf_0 (v := 0) (n := 1) rfl rfl ?_
  refine z_istore_n hR dPA_placesOfLeaf_1 (n := 2) rfl (by decide) rfl ?_
  refine z_iconst hR dPA_placesOfLeaf_2 (v := nI 0) (n := 3) rfl rfl ?_
  refine z_istore hR dPA_placesOfLeaf_3 (n := 5) rfl (by decide) rfl ?_
  exact key k 0 0 (by omega) (fun p => by rw [tb_0]; simp)
theorem m_PA_places8 {z k j : Nat} (hz : z ≤ 37) (hz0 : 0 < z) (hj : j < k) (hk : k ≤ 8) (σ : zS) (hc : σ.1 8 1 = nI k) {st : Nat → Nat} (hst : ∀ p, p < k → σ.1 9 p = nI (st p) ∧ st p < 6) (hs : σ.1 34 1 = nI z) (hT : tmP (σ.1 35) 0 z) (hC : nCf (σ.1 35) (σ.1 36) (σ.1 37) (σ.1 39) (σ.1 38) z 0) : zM yPA_placesOf cPA_placesOf 8 (some .int) 2 70 0 [.ref 8, .ref 34, .ref 42, .int (nI j)] σ (fun r σ2 => zfr [10] σ σ2 ∧ r = some (.int (σ2.1 10 0)) ∧ ∀ q, q < z → sbk k (σ2.1 10 q) ∧ ∀ p, p < k → tb (σ2.1 10 q) p = ev (σ.1 35 q) (tb (σ2.1 10 (q + 1))) (tb (σ2.1 10 (σ.1 36 q).toNatClampNeg)) k j (fun s p => lh s (σ.1 43 (st p))) p) (fun _ _ => False) := by
  refine zM.of [some (.ref 8), some (.ref 34), some (.ref 42), some (.int (nI j)), none, none, none, none] (by decide) 4 rfl (fun _ => Nat.le_of_ble_eq_true rfl) (fun Z hR => ?_)
  have key : ∀ (q : Nat) (y : Int32) (τ : zS) (l5 l6 l7 : Option Value), q ≤ z → (q = 0 → y < 0) → (∀ q2, q = q2 + 1 → y = nI q2) → zfr [10] σ τ → (∀ r, q ≤ r → r < z → sbk k (τ.1 10 r) ∧ ∀ p, p < k → tb (τ.1 10 r) p = ev (σ.1 35 r) (tb (τ.1 10 (r + 1))) (tb (τ.1 10 (σ.1 36 r).toNatClampNeg)) k j (fun s p => lh s (σ.1 43 (st p))) p) → Z 0 8 [some (.ref 8), some (.ref 34), some (.ref 42), some (.int (nI j)), some (.int y), l5, l6, l7] [] τ := by
    intro q
    induction q with
    | zero =>
      intro y τ l5 l6 l7 hq h0 _ hf hH
      refine z_iload hR dPA_placesOf_8 (n := 10) rfl rfl ?_
      refine z_if_lt hR dPA_placesOf_10 (t := 238) (n := 13) rfl rfl (fun _ => ?_) (fun h10 => absurd (h0 rfl) h10)
      refine z_aload_n hR dPA_placesOf_238 (n := 239) rfl rfl ?_
      refine z_getR hR dPA_placesOf_239 (n := 242) rfl zgPA_9 (by decide) rfl rfl ?_
      refine z_iconst hR dPA_placesOf_242 (v := 0) (n := 243) rfl rfl ?_
      refine z_iald hR (0) dPA_placesOf_243 (n := 244) rfl (by decide) rfl (by decide) rfl (by decide) ?_
      refine z_zret hR dPA_placesOf_244 rfl rfl (Nat.zero_le _) ?_
      exact ⟨hf, rfl, fun r hr => hH r (Nat.zero_le _) hr⟩
    | succ q ih =>
      intro y τ l5 l6 l7 hq _ h1 hf hH
      obtain rfl := h1 q rfl
      have hF1 : τ.1 35 = σ.1 35 := hf.1 35 (by decide)
      have hS1 : τ.1 36 = σ.1 36 := hf.1 36 (by decide)
      have hcc : τ.1 8 1 = nI k := by rw [hf.1 8 (by decide)]; exact hc
      have hss : ∀ p, p < k → τ.1 9 p = nI (st p) ∧ st p < 6 := fun p hp => by rw [hf.1 9 (by decide)]; exact hst p hp
      have hdec : ∀ p2, q = p2 + 1 → nI q + (-1) = nI p2 := fun p2 e => by
        subst e
        exact pk_m1 p2
      have hdz : q = 0 → nI q + (-1) < 0 := fun e => by
        subst e
        decide
      have put : ∀ (v : Int32) (l5 l6 l7 : Option Value), sbk k v → (∀ p, p < k → tb v p = ev (σ.1 35 q) (tb (τ.1 10 (q + 1))) (tb (τ.1 10 (σ.1 36 q).toNatClampNeg)) k j (fun s p => lh s (σ.1 43 (st p))) p) → ((σ.1 36 q).toNatClampNeg = q → bn (σ.1 35 q) = false) → Z 0 232 [some (.ref 8), some (.ref 34), some (.ref 42), some (.int (nI j)), some (.int (nI q)), l5, l6, l7] [] (zwA τ 10 q v) := by
        intro v l5 l6 l7 hv1 hv2 hne
        refine z_iinc hR dPA_placesOf_232 (q32 := (-1)) (n := 235) rfl rfl (by decide) rfl rfl ?_
        refine z_goto hR dPA_placesOf_235 (t := 8) rfl ?_
        refine ih (nI q + (-1)) _ _ _ _ (by omega) hdz hdec (hf.wA _ (by decide)) (fun r h1 h2 => ?_)
        by_cases e : r = q
        · subst e
          rw [zwA_ss, zwA_sn _ _ _ _ (by omega)]
          refine ⟨hv1, fun p hp => ?_⟩
          rw [hv2 p hp]
          by_cases e2 : (σ.1 36 r).toNatClampNeg = r
          · have e3 := hne e2
            have n38 : ¬ σ.1 35 r = 38 := fun e4 => by rw [e4] at e3; exact absurd e3 (by decide)
            have n82 : ¬ σ.1 35 r = 82 := fun e4 => by rw [e4] at e3; exact absurd e3 (by decide)
            have n85 : ¬ σ.1 35 r = 85 := fun e4 => by rw [e4] at e3; exact absurd e3 (by decide)
            have n124 : ¬ σ.1 35 r = 124 := fun e4 => by rw [e4] at e3; exact absurd e3 (by decide)
            simp only [ev, if_neg n38, if_neg n82, if_neg n85, if_neg n124]
          · rw [zwA_sn _ _ _ _ e2]
        · rw [zwA_sn _ _ _ _ e, zwA_sn _ _ _ _ (by omega)]
          refine ⟨(hH r (by omega) h2).1, fun p hp => ?_⟩
          rw [(hH r (by omega) h2).2 p hp]
          by_cases e2 : (σ.1 36 r).toNatClampNeg = q
          · have e3 : bn (σ.1 35 r) = false := by
              cases e4 : bn (σ.1 35 r)
              · rfl
              · obtain ⟨m, m1, m2, m3⟩ := hC.2.1 r (Nat.zero_le _) h2 e4
                obtain ⟨kk, m1⟩ := m1
                have := tmF_lt m1
                rw [m3, nI_clamp (by omega)] at e2
                omega
            have n38 : ¬ σ.1 35 r = 38 := fun e4 => by rw [e4] at e3; exact absurd e3 (by decide)
            have n82 : ¬ σ.1 35 r = 82 := fun e4 => by rw [e4] at e3; exact absurd e3 (by decide)
            have n85 : ¬ σ.1 35 r = 85 := fun e4 => by rw [e4] at e3; exact absurd e3 (by decide)
            have n124 : ¬ σ.1 35 r = 124 := fun e4 => by rw [e4] at e3; exact absurd e3 (by decide)
            simp only [ev, if_neg n38, if_neg n82, if_neg n85, if_neg n124]
          · rw [zwA_sn _ _ _ _ e2]
      by_cases hb : bn (σ.1 35 q) = true
      ·
        obtain ⟨m, m1, m2, m3⟩ := hC.2.1 q (Nat.zero_le _) (by omega) hb
        have hmq : q + 1 < m := by
          obtain ⟨kk, m1⟩ := m1
          exact tmF_lt m1
        have hclamp : (σ.1 36 q).toNatClampNeg = m := by rw [m3, nI_clamp (by omega)]
        rw [hclamp] at put
        have hq1 := (hH (q + 1) (by omega) (by omega)).1
        have hm1 := (hH m (by omega) m2).1
        have hb4 : σ.1 35 q = 38 ∨ σ.1 35 q = 124 ∨ σ.1 35 q = 85 ∨ σ.1 35 q = 82 := of_decide_eq_true hb
        refine z_iload hR dPA_placesOf_8 (n := 10) rfl rfl ?_
        refine z_if_ltN hR dPA_placesOf_10 (t := 238) (n := 13) rfl rfl (by omega) ?_
        refine z_aload_n hR dPA_placesOf_13 (n := 14) rfl rfl ?_
        refine z_getR hR dPA_placesOf_14 (n := 17) rfl zgPA_33 (by decide) rfl rfl ?_
        refine z_iload hR dPA_placesOf_17 (n := 19) rfl rfl ?_
        refine z_cald hR (_) dPA_placesOf_19 (n := 20) rfl (by decide) rfl (by decide) rfl (by omega) ?_
        rw [hF1]
        refine z_istore hR dPA_placesOf_20 (n := 22) rfl (by decide) rfl ?_
        refine z_iload hR dPA_placesOf_22 (n := 24) rfl rfl ?_
        refine z_iconst hR dPA_placesOf_24 (v := nI 1) (n := 25) rfl rfl ?_
        refine z_iaddN hR dPA_placesOf_25 (n := 26) rfl ?_
        refine z_istore hR dPA_placesOf_26 (n := 28) rfl (by decide) rfl ?_
        refine z_aload_n hR dPA_placesOf_28 (n := 29) rfl rfl ?_
        refine z_getR hR dPA_placesOf_29 (n := 32) rfl zgPA_37 (by decide) rfl rfl ?_
        refine z_iload hR dPA_placesOf_32 (n := 34) rfl rfl ?_
        refine z_iald hR (_) dPA_placesOf_34 (n := 35) rfl (by decide) rfl (by decide) rfl (by omega) ?_
        rw [hS1, m3]
        refine z_istore hR dPA_placesOf_35 (n := 37) rfl (by decide) rfl ?_
        refine z_iload hR dPA_placesOf_37 (n := 39) rfl rfl ?_
        refine z_look hR dPA_placesOf_39 rfl rfl ?_
        refine ⟨fun (h39_38 : _ = (38 : Int32)) => ⟨88, rfl, ?_⟩, fun (h39_38 : _ ≠ (38 : Int32)) => ?_⟩
        · refine z_aload_n hR dPA_placesOf_88 (n := 89) rfl rfl ?_
          refine z_getR hR dPA_placesOf_89 (n := 92) rfl zgPA_9 (by decide) rfl rfl ?_
          refine z_iload hR dPA_placesOf_92 (n := 94) rfl rfl ?_
          refine z_aload_n hR dPA_placesOf_94 (n := 95) rfl rfl ?_
          refine z_getR hR dPA_placesOf_95 (n := 98) rfl zgPA_9 (by decide) rfl rfl ?_
          refine z_iload hR dPA_placesOf_98 (n := 100) rfl rfl ?_
          refine z_iald hR (_) dPA_placesOf_100 (n := 101) rfl (by decide) rfl (by decide) rfl (by omega) ?_
          refine z_aload_n hR dPA_placesOf_101 (n := 102) rfl rfl ?_
          refine z_getR hR dPA_placesOf_102 (n := 105) rfl zgPA_9 (by decide) rfl rfl ?_
          refine z_iload hR dPA_placesOf_105 (n := 107) rfl rfl ?_
          refine z_iald hR (_) dPA_placesOf_107 (n := 108) rfl (by decide) rfl (by decide) rfl (by omega) ?_
          refine z_iand hR dPA_placesOf_108 (n := 109) rfl ?_
          refine z_iast hR (_) dPA_placesOf_109 (n := 110) rfl (by decide) rfl (by decide) rfl (by omega) ?_
          refine z_goto hR dPA_placesOf_110 (t := 232) rfl ?_
          refine put _ _ _ _ (fun p hp => by rw [tb_and, hq1 p hp]; rfl) (fun p hp => by rw [tb_and, ev, if_pos h39_38]) (fun e => absurd e (by omega))
        refine ⟨fun (h39_82 : _ = (82 : Int32)) => ⟨189, rfl, ?_⟩, fun (h39_82 : _ ≠ (82 : Int32)) => ?_⟩
        · refine z_aload_n hR dPA_placesOf_189 (n := 190) rfl rfl ?_
          refine z_getR hR dPA_placesOf_190 (n := 193) rfl zgPA_9 (by decide) rfl rfl ?_
          refine z_iload hR dPA_placesOf_193 (n := 195) rfl rfl ?_
          refine z_aload_n hR dPA_placesOf_195 (n := 196) rfl rfl ?_
          refine z_aload_n hR dPA_placesOf_196 (n := 197) rfl rfl ?_
          refine z_getR hR dPA_placesOf_197 (n := 200) rfl zgPA_9 (by decide) rfl rfl ?_
          refine z_iload hR dPA_placesOf_200 (n := 202) rfl rfl ?_
          refine z_iald hR (_) dPA_placesOf_202 (n := 203) rfl (by decide) rfl (by decide) rfl (by omega) ?_
          refine z_aload_n hR dPA_placesOf_203 (n := 204) rfl rfl ?_
          refine z_getR hR dPA_placesOf_204 (n := 207) rfl zgPA_9 (by decide) rfl rfl ?_
          refine z_iload hR dPA_placesOf_207 (n := 209) rfl rfl ?_
          refine z_iald hR (_) dPA_placesOf_209 (n := 210) rfl (by decide) rfl (by decide) rfl (by omega) ?_
          refine z_iload_n hR dPA_placesOf_210 (n := 211) rfl rfl ?_
          refine z_callV3 hR dPA_placesOf_211 (n := 214) rfl zcPA_48 zkPA_placesOfRelease (by decide) (Nat.le_of_ble_eq_true rfl) (by decide) rfl rfl (Nat.zero_le _) (m_PA_release8 hj hk τ hcc hq1 hm1) (fun r211 s211 h211 => ?_)
          obtain ⟨e211, y, rfl, hy⟩ := h211
          subst s211
          refine z_iast hR (_) dPA_placesOf_214 (n := 215) rfl (by decide) rfl (by decide) rfl (by omega) ?_
          refine z_goto hR dPA_placesOf_215 (t := 232) rfl ?_
          refine put _ _ _ _ (fun p hp => by rw [hy p]; simp [show ¬ p < k by omega]) (fun p hp => by rw [hy p, ev, if_neg h39_38, if_pos h39_82]; simp [hp]) (fun e => absurd e (by omega))
          skip
        refine ⟨fun (h39_85 : _ = (85 : Int32)) => ⟨160, rfl, ?_⟩, fun (h39_85 : _ ≠ (85 : Int32)) => ?_⟩
        · refine z_aload_n hR dPA_placesOf_160 (n := 161) rfl rfl ?_
          refine z_getR hR dPA_placesOf_161 (n := 164) rfl zgPA_9 (by decide) rfl rfl ?_
          refine z_iload hR dPA_placesOf_164 (n := 166) rfl rfl ?_
          refine z_aload_n hR dPA_placesOf_166 (n := 167) rfl rfl ?_
          refine z_aload_n hR dPA_placesOf_167 (n := 168) rfl rfl ?_
          refine z_getR hR dPA_placesOf_168 (n := 171) rfl zgPA_9 (by decide) rfl rfl ?_
          refine z_iload hR dPA_placesOf_171 (n := 173) rfl rfl ?_
          refine z_iald hR (_) dPA_placesOf_173 (n := 174) rfl (by decide) rfl (by decide) rfl (by omega) ?_
          refine z_aload_n hR dPA_placesOf_174 (n := 175) rfl rfl ?_
          refine z_getR hR dPA_placesOf_175 (n := 178) rfl zgPA_9 (by decide) rfl rfl ?_
          refine z_iload hR dPA_placesOf_178 (n := 180) rfl rfl ?_
          refine z_iald hR (_) dPA_placesOf_180 (n := 181) rfl (by decide) rfl (by decide) rfl (by omega) ?_
          refine z_iload_n hR dPA_placesOf_181 (n := 182) rfl rfl ?_
          refine z_callV3 hR dPA_placesOf_182 (n := 185) rfl zcPA_44 zkPA_placesOfUntil (by decide) (Nat.le_of_ble_eq_true rfl) (by decide) rfl rfl (Nat.zero_le _) (m_PA_until8 hj hk τ hcc hq1 hm1) (fun r182 s182 h182 => ?_)
          obtain ⟨e182, y, rfl, hy⟩ := h182
          subst s182
          refine z_iast hR (_) dPA_placesOf_185 (n := 186) rfl (by decide) rfl (by decide) rfl (by omega) ?_
          refine z_goto hR dPA_placesOf_186 (t := 232) rfl ?_
          refine put _ _ _ _ (fun p hp => by rw [hy p]; simp [show ¬ p < k by omega]) (fun p hp => by rw [hy p, ev, if_neg h39_38, if_neg h39_82, if_pos h39_85]; simp [hp]) (fun e => absurd e (by omega))
          skip
        refine ⟨fun (h39_88 : _ = (88 : Int32)) => ⟨138, rfl, ?_⟩, fun (h39_88 : _ ≠ (88 : Int32)) => ?_⟩
        · exact absurd h39_88 (bn_88 hb).1
        refine ⟨fun (h39_124 : _ = (124 : Int32)) => ⟨113, rfl, ?_⟩, fun (h39_124 : _ ≠ (124 : Int32)) => ?_⟩
        · refine z_aload_n hR dPA_placesOf_113 (n := 114) rfl rfl ?_
          refine z_getR hR dPA_placesOf_114 (n := 117) rfl zgPA_9 (by decide) rfl rfl ?_
          refine z_iload hR dPA_placesOf_117 (n := 119) rfl rfl ?_
          refine z_aload_n hR dPA_placesOf_119 (n := 120) rfl rfl ?_
          refine z_getR hR dPA_placesOf_120 (n := 123) rfl zgPA_9 (by decide) rfl rfl ?_
          refine z_iload hR dPA_placesOf_123 (n := 125) rfl rfl ?_
          refine z_iald hR (_) dPA_placesOf_125 (n := 126) rfl (by decide) rfl (by decide) rfl (by omega) ?_
          refine z_aload_n hR dPA_placesOf_126 (n := 127) rfl rfl ?_
          refine z_getR hR dPA_placesOf_127 (n := 130) rfl zgPA_9 (by decide) rfl rfl ?_
          refine z_iload hR dPA_placesOf_130 (n := 132) rfl rfl ?_
          refine z_iald hR (_) dPA_placesOf_132 (n := 133) rfl (by decide) rfl (by decide) rfl (by omega) ?_
          refine z_ior hR dPA_placesOf_133 (n := 134) rfl ?_
          refine z_iast hR (_) dPA_placesOf_134 (n := 135) rfl (by decide) rfl (by decide) rfl (by omega) ?_
          refine z_goto hR dPA_placesOf_135 (t := 232) rfl ?_
          refine put _ _ _ _ (fun p hp => by rw [tb_or, hq1 p hp, hm1 p hp]; rfl) (fun p hp => by rw [tb_or, ev, if_neg h39_38, if_neg h39_82, if_neg h39_85, if_neg h39_88, if_pos h39_124]) (fun e => absurd e (by omega))
        refine ⟨218, rfl, ?_⟩
        exfalso
        rcases hb4 with e | e | e | e
        · exact h39_38 e
        · exact h39_124 e
        · exact h39_85 e
        · exact h39_82 e
      ·
        have hb' : bn (σ.1 35 q) = false := by simpa using hb
        have n38 : ¬ σ.1 35 q = 38 := fun e4 => by rw [e4] at hb'; exact absurd hb' (by decide)
        have n82 : ¬ σ.1 35 q = 82 := fun e4 => by rw [e4] at hb'; exact absurd hb' (by decide)
        have n85 : ¬ σ.1 35 q = 85 := fun e4 => by rw [e4] at hb'; exact absurd hb' (by decide)
        have n124 : ¬ σ.1 35 q = 124 := fun e4 => by rw [e4] at hb'; exact absurd hb' (by decide)
        refine z_iload hR dPA_placesOf_8 (n := 10) rfl rfl ?_
        refine z_if_ltN hR dPA_placesOf_10 (t := 238) (n := 13) rfl rfl (by omega) ?_
        refine z_aload_n hR dPA_placesOf_13 (n := 14) rfl rfl ?_
        refine z_getR hR dPA_placesOf_14 (n := 17) rfl zgPA_33 (by decide) rfl rfl ?_
        refine z_iload hR dPA_placesOf_17 (n := 19) rfl rfl ?_
        refine z_cald hR (_) dPA_placesOf_19 (n := 20) rfl (by decide) rfl (by decide) rfl (by omega) ?_
        rw [hF1]
        refine z_istore hR dPA_placesOf_20 (n := 22) rfl (by decide) rfl ?_
        refine z_iload hR dPA_placesOf_22 (n := 24) rfl rfl ?_
        refine z_iconst hR dPA_placesOf_24 (v := nI 1) (n := 25) rfl rfl ?_
        refine z_iaddN hR dPA_placesOf_25 (n := 26) rfl ?_
        refine z_istore hR dPA_placesOf_26 (n := 28) rfl (by decide) rfl ?_
        refine z_aload_n hR dPA_placesOf_28 (n := 29) rfl rfl ?_
        refine z_getR hR dPA_placesOf_29 (n := 32) rfl zgPA_37 (by decide) rfl rfl ?_
        refine z_iload hR dPA_placesOf_32 (n := 34) rfl rfl ?_
        refine z_iald hR (_) dPA_placesOf_34 (n := 35) rfl (by decide) rfl (by decide) rfl (by omega) ?_
        refine z_istore hR dPA_placesOf_35 (n := 37) rfl (by decide) rfl ?_
        refine z_iload hR dPA_placesOf_37 (n := 39) rfl rfl ?_
        refine z_look hR dPA_placesOf_39 rfl rfl ?_
        refine ⟨fun (h39_38 : _ = (38 : Int32)) => ⟨88, rfl, ?_⟩, fun (h39_38 : _ ≠ (38 : Int32)) => ?_⟩
        · exact absurd h39_38 n38
        refine ⟨fun (h39_82 : _ = (82 : Int32)) => ⟨189, rfl, ?_⟩, fun (h39_82 : _ ≠ (82 : Int32)) => ?_⟩
        · exact absurd h39_82 n82
        refine ⟨fun (h39_85 : _ = (85 : Int32)) => ⟨160, rfl, ?_⟩, fun (h39_85 : _ ≠ (85 : Int32)) => ?_⟩
        · exact absurd h39_85 n85
        refine ⟨fun (h39_88 : _ = (88 : Int32)) => ⟨138, rfl, ?_⟩, fun (h39_88 : _ ≠ (88 : Int32)) => ?_⟩
        · have hx1 : q + 1 < z := by
            rcases tmP_at hT (show q < z by omega) with ⟨_, g2, _⟩ | ⟨g1, _⟩ | ⟨g1, _⟩
            · exact g2
            · exact absurd h39_88 (bn_88 g1).1
            · exact absurd h39_88 (lf_88 g1).1
          refine z_aload_n hR dPA_placesOf_138 (n := 139) rfl rfl ?_
          refine z_getR hR dPA_placesOf_139 (n := 142) rfl zgPA_9 (by decide) rfl rfl ?_
          refine z_iload hR dPA_placesOf_142 (n := 144) rfl rfl ?_
          refine z_aload_n hR dPA_placesOf_144 (n := 145) rfl rfl ?_
          refine z_aload_n hR dPA_placesOf_145 (n := 146) rfl rfl ?_
          refine z_getR hR dPA_placesOf_146 (n := 149) rfl zgPA_9 (by decide) rfl rfl ?_
          refine z_iload hR dPA_placesOf_149 (n := 151) rfl rfl ?_
          refine z_iald hR (_) dPA_placesOf_151 (n := 152) rfl (by decide) rfl (by decide) rfl (by omega) ?_
          refine z_iload_n hR dPA_placesOf_152 (n := 153) rfl rfl ?_
          refine z_callV2 hR dPA_placesOf_153 (n := 156) rfl zcPA_40 zkPA_placesBefore (by decide) (Nat.le_of_ble_eq_true rfl) (by decide) rfl rfl (Nat.zero_le _) (m_PA_before8 hj hk τ hcc (hH (q + 1) (by omega) hx1).1) (fun r153 s153 h153 => ?_)
          obtain ⟨e153, y, rfl, hy⟩ := h153
          subst s153
          refine z_iast hR (_) dPA_placesOf_156 (n := 157) rfl (by decide) rfl (by decide) rfl (by omega) ?_
          refine z_goto hR dPA_placesOf_157 (t := 232) rfl ?_
          refine put _ _ _ _ (fun p hp => by rw [hy p]; simp [show ¬ p < k by omega]) (fun p hp => by rw [hy p, ev, if_neg n38, if_neg n82, if_neg n85, if_pos h39_88]; simp [hp]) (fun _ => hb')
          skip
        refine ⟨fun (h39_124 : _ = (124 : Int32)) => ⟨113, rfl, ?_⟩, fun (h39_124 : _ ≠ (124 : Int32)) => ?_⟩
        · exact absurd h39_124 n124
        refine ⟨218, rfl, ?_⟩
        refine z_aload_n hR dPA_placesOf_218 (n := 219) rfl rfl ?_
        refine z_getR hR dPA_placesOf_219 (n := 222) rfl zgPA_9 (by decide) rfl rfl ?_
        refine z_iload hR dPA_placesOf_222 (n := 224) rfl rfl ?_
        refine z_aload_n hR dPA_placesOf_224 (n := 225) rfl rfl ?_
        refine z_iload hR dPA_placesOf_225 (n := 227) rfl rfl ?_
        refine z_aload_n hR dPA_placesOf_227 (n := 228) rfl rfl ?_
        refine z_callV2 hR dPA_placesOf_228 (n := 231) rfl zcPA_51 zkPA_placesOfLeaf (by decide) (Nat.le_of_ble_eq_true rfl) (by decide) rfl rfl (Nat.zero_le _) (m_PA_leaf8 hk (σ.1 35 q) τ hcc hss) (fun r228 s228 h228 => ?_)
        obtain ⟨e228, y, rfl, hy⟩ := h228
        subst s228
        rw [hf.1 43 (by decide)] at hy
        refine z_iast hR (_) dPA_placesOf_231 (n := 232) rfl (by decide) rfl (by decide) rfl (by omega) ?_
        refine put _ _ _ _ (fun p hp => by rw [hy p]; simp [show ¬ p < k by omega]) (fun p hp => by rw [hy p, ev, if_neg n38, if_neg n82, if_neg n85, if_neg h39_88, if_neg n124]; simp [hp]) (fun _ => hb')
        skip
  refine z_aload_n hR dPA_placesOf_0 (n := 1) rfl rfl ?_
  refine z_getI hR dPA_placesOf_1 (n := 4) rfl zgPA_28 (by decide) rfl rfl ?_
  rw [hs]
  refine z_iconst hR dPA_placesOf_4 (v := 1) (n := 5) rfl rfl ?_
  refine z_isub hR dPA_placesOf_5 (n := 6) rfl ?_
  refine z_istore hR dPA_placesOf_6 (n := 8) rfl (by decide) rfl ?_
  exact key z _ _ _ _ _ (Nat.le_refl _) (fun e => absurd e (by omega)) (fun p2 e => by subst e; exact nI_pred p2) zfr.rf (fun r h1 h2 => absurd h1 (by omega))
theorem m_PA_has13 {i k : Nat} (hi : i < k) (hk : k ≤ 8) (σ : zS) (hc : σ.1 13 1 = nI k) : zM yPA_hasPlace cPA_hasPlace 2 (some .boolean) 0 0 0 [.ref 13, .int (nI i)] σ (fun r σ2 => r = some (.int 1) ∧ σ2 = σ) (fun _ _ => False) := by
  refine zM.of [some (.ref 13), some (.int (nI i))] (by decide) 0 rfl (fun _ => Nat.le_of_ble_eq_true rfl) (fun Z hR => ?_)
  refine z_iload_n hR dPA_hasPlace_0 (n := 1) rfl rfl ?_
  refine z_if_ltN hR dPA_hasPlace_1 (t := 16) (n := 4) rfl rfl (by omega) ?_
  refine z_iload_n hR dPA_hasPlace_4 (n := 5) rfl rfl ?_
  refine z_aload_n hR dPA_hasPlace_5 (n := 6) rfl rfl ?_
  refine z_getI hR dPA_hasPlace_6 (n := 9) rfl zgPA_18 (by decide) rfl rfl ?_
  rw [hc]
  refine z_icmp_geN hR dPA_hasPlace_9 (t := 16) (n := 12) rfl rfl (by omega) (by omega) (fun h9 => absurd h9 (by omega)) (fun h9 => ?_)
  refine z_iconst hR dPA_hasPlace_12 (v := 1) (n := 13) rfl rfl ?_
  refine z_goto hR dPA_hasPlace_13 (t := 17) rfl ?_
  refine z_zret hR dPA_hasPlace_17 rfl rfl (Nat.zero_le _) ?_
  exact ⟨rfl, rfl⟩
theorem m_PA_hasN13 {i : Int32} {k : Nat} (hi : ∀ j : Nat, j < k → i ≠ nI j) (hk : k ≤ 8) (σ : zS) (hc : σ.1 13 1 = nI k) : zM yPA_hasPlace cPA_hasPlace 2 (some .boolean) 0 0 0 [.ref 13, .int i] σ (fun r σ2 => r = some (.int 0) ∧ σ2 = σ) (fun _ _ => False) := by
  refine zM.of [some (.ref 13), some (.int i)] (by decide) 0 rfl (fun _ => Nat.le_of_ble_eq_true rfl) (fun Z hR => ?_)
  refine z_iload_n hR dPA_hasPlace_0 (n := 1) rfl rfl ?_
  refine z_if_lt hR dPA_hasPlace_1 (t := 16) (n := 4) rfl rfl (fun h1 => ?_) (fun h1 => ?_)
  · refine z_iconst hR dPA_hasPlace_16 (v := 0) (n := 17) rfl rfl ?_
    refine z_zret hR dPA_hasPlace_17 rfl rfl (Nat.zero_le _) ?_
    exact ⟨rfl, rfl⟩
  · refine z_iload_n hR dPA_hasPlace_4 (n := 5) rfl rfl ?_
    refine z_aload_n hR dPA_hasPlace_5 (n := 6) rfl rfl ?_
    refine z_getI hR dPA_hasPlace_6 (n := 9) rfl zgPA_18 (by decide) rfl rfl ?_
    rw [hc]
    refine z_icmp_ge hR dPA_hasPlace_9 (t := 16) (n := 12) rfl rfl (fun h9 => ?_) (fun h9 => ?_)
    · refine z_iconst hR dPA_hasPlace_16 (v := 0) (n := 17) rfl rfl ?_
      refine z_zret hR dPA_hasPlace_17 rfl rfl (Nat.zero_le _) ?_
      exact ⟨rfl, rfl⟩
    · rcases pk_ix i (n := k) (by omega) with q | q | ⟨j, hj, q⟩
      · exact absurd q h1
      · exact absurd q h9
      · exact absurd q (hi j hj)
      skip
theorem m_PA_linked13 {k j : Nat} (hj : j < k) (hk : k ≤ 6) (σ : zS) (hc : σ.1 13 1 = nI k) {st : Nat → Nat} (hst : ∀ p, p < k → σ.1 14 p = nI (st p) ∧ st p < 6) : zM yPA_isLinked cPA_isLinked 5 (some .boolean) 1 40 0 [.ref 13, .ref 42, .int (nI j)] σ (fun r σ2 => σ2 = σ ∧ ((r = some (.int 1) ∧ ∀ p, p < k → jn σ (st p) (st (nx k j p)) = true) ∨ (r = some (.int 0) ∧ ∃ p, p < k ∧ jn σ (st p) (st (nx k j p)) = false))) (fun _ _ => False) := by
  refine zM.of [some (.ref 13), some (.ref 42), some (.int (nI j)), none, none] (by decide) 2 rfl (fun _ => Nat.le_of_ble_eq_true rfl) (fun Z hR => ?_)
  have key : ∀ (m i : Nat) (l4 : Option Value), i + m = k → (∀ p, p < i → jn σ (st p) (st (nx k j p)) = true) → Z 0 2 [some (.ref 13), some (.ref 42), some (.int (nI j)), some (.int (nI i)), l4] [] σ := by
    intro m
    induction m with
    | zero =>
      intro i l4 hi hp
      refine z_iload_n hR dPA_isLinked_2 (n := 3) rfl rfl ?_
      refine z_aload_n hR dPA_isLinked_3 (n := 4) rfl rfl ?_
      refine z_getI hR dPA_isLinked_4 (n := 7) rfl zgPA_18 (by decide) rfl rfl ?_
      rw [hc]
      refine z_icmp_geN hR dPA_isLinked_7 (t := 57) (n := 10) rfl rfl (by omega) (by omega) (fun h7 => ?_) (fun h7 => absurd h7 (by omega))
      refine z_iconst hR dPA_isLinked_57 (v := 1) (n := 58) rfl rfl ?_
      refine z_zret hR dPA_isLinked_58 rfl rfl (Nat.zero_le _) ?_
      exact ⟨rfl, Or.inl ⟨rfl, fun p h => hp p (by omega)⟩⟩
    | succ m ih =>
      intro i l4 hi hp
      have hq := nx_lt (p := i) hj
      have step : Z 0 29 [some (.ref 13), some (.ref 42), some (.int (nI j)), some (.int (nI i)), some (.int (nI (nx k j i)))] [] σ := by
        refine z_aload_n hR dPA_isLinked_29 (n := 30) rfl rfl ?_
        refine z_aload_n hR dPA_isLinked_30 (n := 31) rfl rfl ?_
        refine z_getR hR dPA_isLinked_31 (n := 34) rfl zgPA_15 (by decide) rfl rfl ?_
        refine z_iload_n hR dPA_isLinked_34 (n := 35) rfl rfl ?_
        refine z_iald hR (_) dPA_isLinked_35 (n := 36) rfl (by decide) rfl (by decide) rfl (by omega) ?_
        rw [(hst i (by omega)).1]
        refine z_aload_n hR dPA_isLinked_36 (n := 37) rfl rfl ?_
        refine z_getR hR dPA_isLinked_37 (n := 40) rfl zgPA_15 (by decide) rfl rfl ?_
        refine z_iload hR dPA_isLinked_40 (n := 42) rfl rfl ?_
        refine z_iald hR (_) dPA_isLinked_42 (n := 43) rfl (by decide) rfl (by decide) rfl (by omega) ?_
        rw [(hst _ hq).1]
        refine z_callV2 hR dPA_isLinked_43 (n := 46) rfl zcPA_22 zkST_joins (by decide) (Nat.le_of_ble_eq_true rfl) (by decide) rfl rfl (Nat.zero_le _) (m_ST_jn (hst i (by omega)).2 (hst _ hq).2 σ) (fun r43 s43 h43 => ?_)
        obtain ⟨rfl, e43⟩ := h43
        subst s43
        refine z_if_neB hR dPA_isLinked_46 (t := 51) (n := 49) rfl rfl (fun h46 => ?_) (fun h46 => ?_)
        · refine z_iincN hR 1 dPA_isLinked_51 (n := 54) rfl rfl (by decide) rfl rfl ?_
          refine z_goto hR dPA_isLinked_54 (t := 2) rfl ?_
          exact ih (i + 1) _ (by omega) (fun p h => by
            by_cases e : p = i
            · subst e
              exact h46
            · exact hp p (by omega))
        · refine z_iconst hR dPA_isLinked_49 (v := 0) (n := 50) rfl rfl ?_
          refine z_zret hR dPA_isLinked_50 rfl rfl (Nat.zero_le _) ?_
          exact ⟨rfl, Or.inr ⟨rfl, i, by omega, h46⟩⟩
      by_cases h17 : i + 1 < k
      ·
        have e : nx k j i = i + 1 := if_pos h17
        rw [e] at step
        refine z_iload_n hR dPA_isLinked_2 (n := 3) rfl rfl ?_
        refine z_aload_n hR dPA_isLinked_3 (n := 4) rfl rfl ?_
        refine z_getI hR dPA_isLinked_4 (n := 7) rfl zgPA_18 (by decide) rfl rfl ?_
        rw [hc]
        refine z_icmp_geN hR dPA_isLinked_7 (t := 57) (n := 10) rfl rfl (by omega) (by omega) (fun h7 => absurd h7 (by omega)) (fun h7 => ?_)
        refine z_iload_n hR dPA_isLinked_10 (n := 11) rfl rfl ?_
        refine z_iconst hR dPA_isLinked_11 (v := nI 1) (n := 12) rfl rfl ?_
        refine z_iaddN hR dPA_isLinked_12 (n := 13) rfl ?_
        refine z_aload_n hR dPA_isLinked_13 (n := 14) rfl rfl ?_
        refine z_getI hR dPA_isLinked_14 (n := 17) rfl zgPA_18 (by decide) rfl rfl ?_
        rw [hc]
        refine z_icmp_geN hR dPA_isLinked_17 (t := 26) (n := 20) rfl rfl (by omega) (by omega) (fun h17 => absurd h17 (by omega)) (fun h17 => ?_)
        refine z_iload_n hR dPA_isLinked_20 (n := 21) rfl rfl ?_
        refine z_iconst hR dPA_isLinked_21 (v := nI 1) (n := 22) rfl rfl ?_
        refine z_iaddN hR dPA_isLinked_22 (n := 23) rfl ?_
        refine z_goto hR dPA_isLinked_23 (t := 27) rfl ?_
        refine z_istore hR dPA_isLinked_27 (n := 29) rfl (by decide) rfl ?_
        exact step
      ·
        have e : nx k j i = j := if_neg h17
        rw [e] at step
        refine z_iload_n hR dPA_isLinked_2 (n := 3) rfl rfl ?_
        refine z_aload_n hR dPA_isLinked_3 (n := 4) rfl rfl ?_
        refine z_getI hR dPA_isLinked_4 (n := 7) rfl zgPA_18 (by decide) rfl rfl ?_
        rw [hc]
        refine z_icmp_geN hR dPA_isLinked_7 (t := 57) (n := 10) rfl rfl (by omega) (by omega) (fun h7 => absurd h7 (by omega)) (fun h7 => ?_)
        refine z_iload_n hR dPA_isLinked_10 (n := 11) rfl rfl ?_
        refine z_iconst hR dPA_isLinked_11 (v := nI 1) (n := 12) rfl rfl ?_
        refine z_iaddN hR dPA_isLinked_12 (n := 13) rfl ?_
        refine z_aload_n hR dPA_isLinked_13 (n := 14) rfl rfl ?_
        refine z_getI hR dPA_isLinked_14 (n := 17) rfl zgPA_18 (by decide) rfl rfl ?_
        rw [hc]
        refine z_icmp_geN hR dPA_isLinked_17 (t := 26) (n := 20) rfl rfl (by omega) (by omega) (fun h17 => ?_) (fun h17 => absurd h17 (by omega))
        refine z_iload_n hR dPA_isLinked_26 (n := 27) rfl rfl ?_
        refine z_istore hR dPA_isLinked_27 (n := 29) rfl (by decide) rfl ?_
        exact step
  refine z_iconst hR dPA_isLinked_0 (v := nI 0) (n := 1) rfl rfl ?_
  refine z_istore_n hR dPA_isLinked_1 (n := 2) rfl (by decide) rfl ?_
  exact key k 0 _ (by omega) (fun p h => absurd h (by omega))
theorem m_PA_before13 {k j : Nat} (hj : j < k) (hk : k ≤ 6) (σ : zS) (hc : σ.1 13 1 = nI k) {x : Int32} (hx : sbk k x) : zM yPA_placesBefore cPA_placesBefore 3 (some .int) 0 0 0 [.ref 13, .int x, .int (nI j)] σ (fun r σ2 => σ2 = σ ∧ ∃ y, r = some (.int y) ∧ ∀ p, tb y p = (decide (p < k) && tb x (nx k j p))) (fun _ _ => False) := by
  refine zM.of [some (.ref 13), some (.int x), some (.int (nI j))] (by decide) 0 rfl (fun _ => Nat.le_of_ble_eq_true rfl) (fun Z hR => ?_)
  refine z_iload_n hR dPA_placesBefore_0 (n := 1) rfl rfl ?_
  refine z_iconst hR dPA_placesBefore_1 (v := nI 1) (n := 2) rfl rfl ?_
  refine z_iushr hR dPA_placesBefore_2 (n := 3) rfl ?_
  refine z_iload_n hR dPA_placesBefore_3 (n := 4) rfl rfl ?_
  refine z_iload_n hR dPA_placesBefore_4 (n := 5) rfl rfl ?_
  refine z_iushr hR dPA_placesBefore_5 (n := 6) rfl ?_
  refine z_iconst hR dPA_placesBefore_6 (v := 1) (n := 7) rfl rfl ?_
  refine z_iand hR dPA_placesBefore_7 (n := 8) rfl ?_
  rw [tb_us1 _ (by omega : j < 32)]
  refine z_aload_n hR dPA_placesBefore_8 (n := 9) rfl rfl ?_
  refine z_getI hR dPA_placesBefore_9 (n := 12) rfl zgPA_18 (by decide) rfl rfl ?_
  rw [hc]
  refine z_iconst hR dPA_placesBefore_12 (v := nI 1) (n := 13) rfl rfl ?_
  refine z_isubN hR dPA_placesBefore_13 (n := 14) rfl (by omega) ?_
  refine z_ishl hR dPA_placesBefore_14 (n := 15) rfl ?_
  refine z_ior hR dPA_placesBefore_15 (n := 16) rfl ?_
  refine z_zret hR dPA_placesBefore_16 rfl rfl (Nat.zero_le _) ?_
  refine ⟨rfl, _, rfl, fun p => ?_⟩
  by_cases hp : p < 32
  · rw [tb_or, tb_ushr x (by omega : 1 < 32), tb_shl _ (by omega : k - 1 < 32) _ hp, tb_zb]
    by_cases h1 : p + 1 < k
    · rw [show nx k j p = p + 1 from if_pos h1, Nat.add_comm 1 p]
      simp [show p < k by omega, show ¬ k - 1 ≤ p by omega]
    · by_cases h2 : p < k
      · rw [show nx k j p = j from if_neg h1, hx (1 + p) (by omega)]
        simp [h2, show k - 1 ≤ p by omega, show p - (k - 1) = 0 by omega]
      · rw [hx (1 + p) (by omega)]
        simp [h2, show ¬ p - (k - 1) = 0 by omega]
  · rw [tb_ge _ (by omega)]
    simp [show ¬ p < k by omega]
theorem m_PA_until13 {k j : Nat} (hj : j < k) (hk : k ≤ 6) (σ : zS) (hc : σ.1 13 1 = nI k) {a b : Int32} (ha : sbk k a) (hb : sbk k b) : zM yPA_placesOfUntil cPA_placesOfUntil 6 (some .int) 1 40 0 [.ref 13, .int a, .int b, .int (nI j)] σ (fun r σ2 => σ2 = σ ∧ ∃ y, r = some (.int y) ∧ ∀ p, tb y p = (decide (p < k) && ui k j (tb a) (tb b) k p)) (fun _ _ => False) := by
  refine zM.of [some (.ref 13), some (.int a), some (.int b), some (.int (nI j)), none, none] (by decide) 2 rfl (fun _ => Nat.le_of_ble_eq_true rfl) (fun Z hR => ?_)
  have key : ∀ (m i : Nat) (x : Int32), i + m = k → (∀ p, tb x p = (decide (p < k) && ui k j (tb a) (tb b) i p)) → Z 0 6 [some (.ref 13), some (.int a), some (.int b), some (.int (nI j)), some (.int x), some (.int (nI i))] [] σ := by
    intro m
    induction m with
    | zero =>
      intro i x hi hx
      obtain rfl : i = k := by omega
      refine z_iload hR dPA_placesOfUntil_6 (n := 8) rfl rfl ?_
      refine z_aload_n hR dPA_placesOfUntil_8 (n := 9) rfl rfl ?_
      refine z_getI hR dPA_placesOfUntil_9 (n := 12) rfl zgPA_18 (by decide) rfl rfl ?_
      rw [hc]
      refine z_icmp_geN hR dPA_placesOfUntil_12 (t := 34) (n := 15) rfl rfl (by omega) (by omega) (fun h12 => ?_) (fun h12 => absurd h12 (by omega))
      refine z_iload hR dPA_placesOfUntil_34 (n := 36) rfl rfl ?_
      refine z_zret hR dPA_placesOfUntil_36 rfl rfl (Nat.zero_le _) ?_
      exact ⟨rfl, x, rfl, hx⟩
    | succ m ih =>
      intro i x hi hx
      refine z_iload hR dPA_placesOfUntil_6 (n := 8) rfl rfl ?_
      refine z_aload_n hR dPA_placesOfUntil_8 (n := 9) rfl rfl ?_
      refine z_getI hR dPA_placesOfUntil_9 (n := 12) rfl zgPA_18 (by decide) rfl rfl ?_
      rw [hc]
      refine z_icmp_geN hR dPA_placesOfUntil_12 (t := 34) (n := 15) rfl rfl (by omega) (by omega) (fun h12 => absurd h12 (by omega)) (fun h12 => ?_)
      refine z_iload_n hR dPA_placesOfUntil_15 (n := 16) rfl rfl ?_
      refine z_iload_n hR dPA_placesOfUntil_16 (n := 17) rfl rfl ?_
      refine z_aload_n hR dPA_placesOfUntil_17 (n := 18) rfl rfl ?_
      refine z_iload hR dPA_placesOfUntil_18 (n := 20) rfl rfl ?_
      refine z_iload_n hR dPA_placesOfUntil_20 (n := 21) rfl rfl ?_
      refine z_callV2 hR dPA_placesOfUntil_21 (n := 24) rfl zcPA_40 zkPA_placesBefore (by decide) (Nat.le_of_ble_eq_true rfl) (by decide) rfl rfl (Nat.zero_le _) (m_PA_before13 hj hk σ hc (x := x) (fun p hp => by rw [hx p]; simp [show ¬ p < k by omega])) (fun r21 s21 h21 => ?_)
      obtain ⟨e21, y, rfl, hy⟩ := h21
      subst s21
      refine z_iand hR dPA_placesOfUntil_24 (n := 25) rfl ?_
      refine z_ior hR dPA_placesOfUntil_25 (n := 26) rfl ?_
      refine z_istore hR dPA_placesOfUntil_26 (n := 28) rfl (by decide) rfl ?_
      refine z_iincN hR 1 dPA_placesOfUntil_28 (n := 31) rfl rfl (by decide) rfl rfl ?_
      refine z_goto hR dPA_placesOfUntil_31 (t := 6) rfl ?_
      exact ih (i + 1) _ (by omega) (fun p => by
        rw [tb_or, tb_and, hy p, ui]
        by_cases hp : p < k
        · rw [hx]
          simp [hp, nx_lt hj]
        · simp [hp, hb p (by omega)])
  refine z_iload_n hR dPA_placesOfUntil_0 (n := 1) rfl rfl ?_
  refine z_istore hR dPA_placesOfUntil_1 (n := 3) rfl (by decide) rfl ?_
  refine z_iconst hR dPA_placesOfUntil_3 (v := nI 0) (n := 4) rfl rfl ?_
  refine z_istore hR dPA_placesOfUntil_4 (n := 6) rfl (by decide) rfl ?_
  exact key k 0 b (by omega) (fun p => by
    rw [ui]
    by_cases hp : p < k
    · simp [hp]
    · simp [hp, hb p (by omega)])
theorem m_PA_release13 {k j : Nat} (hj : j < k) (hk : k ≤ 6) (σ : zS) (hc : σ.1 13 1 = nI k) {a b : Int32} (ha : sbk k a) (hb : sbk k b) : zM yPA_placesOfRelease cPA_placesOfRelease 6 (some .int) 1 40 0 [.ref 13, .int a, .int b, .int (nI j)] σ (fun r σ2 => σ2 = σ ∧ ∃ y, r = some (.int y) ∧ ∀ p, tb y p = (decide (p < k) && ri k j (tb a) (tb b) k p)) (fun _ _ => False) := by
  refine zM.of [some (.ref 13), some (.int a), some (.int b), some (.int (nI j)), none, none] (by decide) 2 rfl (fun _ => Nat.le_of_ble_eq_true rfl) (fun Z hR => ?_)
  have key : ∀ (m i : Nat) (x : Int32), i + m = k → (∀ p, tb x p = (decide (p < k) && ri k j (tb a) (tb b) i p)) → Z 0 6 [some (.ref 13), some (.int a), some (.int b), some (.int (nI j)), some (.int x), some (.int (nI i))] [] σ := by
    intro m
    induction m with
    | zero =>
      intro i x hi hx
      obtain rfl : i = k := by omega
      refine z_iload hR dPA_placesOfRelease_6 (n := 8) rfl rfl ?_
      refine z_aload_n hR dPA_placesOfRelease_8 (n := 9) rfl rfl ?_
      refine z_getI hR dPA_placesOfRelease_9 (n := 12) rfl zgPA_18 (by decide) rfl rfl ?_
      rw [hc]
      refine z_icmp_geN hR dPA_placesOfRelease_12 (t := 34) (n := 15) rfl rfl (by omega) (by omega) (fun h12 => ?_) (fun h12 => absurd h12 (by omega))
      refine z_iload hR dPA_placesOfRelease_34 (n := 36) rfl rfl ?_
      refine z_zret hR dPA_placesOfRelease_36 rfl rfl (Nat.zero_le _) ?_
      exact ⟨rfl, x, rfl, hx⟩
    | succ m ih =>
      intro i x hi hx
      refine z_iload hR dPA_placesOfRelease_6 (n := 8) rfl rfl ?_
      refine z_aload_n hR dPA_placesOfRelease_8 (n := 9) rfl rfl ?_
      refine z_getI hR dPA_placesOfRelease_9 (n := 12) rfl zgPA_18 (by decide) rfl rfl ?_
      rw [hc]
      refine z_icmp_geN hR dPA_placesOfRelease_12 (t := 34) (n := 15) rfl rfl (by omega) (by omega) (fun h12 => absurd h12 (by omega)) (fun h12 => ?_)
      refine z_iload_n hR dPA_placesOfRelease_15 (n := 16) rfl rfl ?_
      refine z_iload_n hR dPA_placesOfRelease_16 (n := 17) rfl rfl ?_
      refine z_aload_n hR dPA_placesOfRelease_17 (n := 18) rfl rfl ?_
      refine z_iload hR dPA_placesOfRelease_18 (n := 20) rfl rfl ?_
      refine z_iload_n hR dPA_placesOfRelease_20 (n := 21) rfl rfl ?_
      refine z_callV2 hR dPA_placesOfRelease_21 (n := 24) rfl zcPA_40 zkPA_placesBefore (by decide) (Nat.le_of_ble_eq_true rfl) (by decide) rfl rfl (Nat.zero_le _) (m_PA_before13 hj hk σ hc (x := x) (fun p hp => by rw [hx p]; simp [show ¬ p < k by omega])) (fun r21 s21 h21 => ?_)
      obtain ⟨e21, y, rfl, hy⟩ := h21
      subst s21
      refine z_ior hR dPA_placesOfRelease_24 (n := 25) rfl ?_
      refine z_iand hR dPA_placesOfRelease_25 (n := 26) rfl ?_
      refine z_istore hR dPA_placesOfRelease_26 (n := 28) rfl (by decide) rfl ?_
      refine z_iincN hR 1 dPA_placesOfRelease_28 (n := 31) rfl rfl (by decide) rfl rfl ?_
      refine z_goto hR dPA_placesOfRelease_31 (t := 6) rfl ?_
      exact ih (i + 1) _ (by omega) (fun p => by
        rw [tb_and, tb_or, hy p, ri]
        by_cases hp : p < k
        · rw [hx]
          simp [hp, nx_lt hj]
        · simp [hp, hb p (by omega)])
  refine z_iload_n hR dPA_placesOfRelease_0 (n := 1) rfl rfl ?_
  refine z_istore hR dPA_placesOfRelease_1 (n := 3) rfl (by decide) rfl ?_
  refine z_iconst hR dPA_placesOfRelease_3 (v := nI 0) (n := 4) rfl rfl ?_
  refine z_istore hR dPA_placesOfRelease_4 (n := 6) rfl (by decide) rfl ?_
  exact key k 0 b (by omega) (fun p => by
    rw [ri]
    by_cases hp : p < k
    · simp [hp]
    · simp [hp, hb p (by omega)])
theorem m_PA_leaf13 {k : Nat} (hk : k ≤ 6) (s : Int32) (σ : zS) (hc : σ.1 13 1 = nI k) {st : Nat → Nat} (hst : ∀ p, p < k → σ.1 14 p = nI (st p) ∧ st p < 6) : zM yPA_placesOfLeaf cPA_placesOfLeaf 5 (some .int) 1 40 0 [.ref 13, .int s, .ref 42] σ (fun r σ2 => σ2 = σ ∧ ∃ y, r = some (.int y) ∧ ∀ p, tb y p = (decide (p < k) && lh s (σ.1 43 (st p)))) (fun _ _ => False) := by
  refine zM.of [some (.ref 13), some (.int s), some (.ref 42), none, none] (by decide) 2 rfl (fun _ => Nat.le_of_ble_eq_true rfl) (fun Z hR => ?_)
  have key : ∀ (m i : Nat) (x : Int32), i + m = k → (∀ p, tb x p = (decide (p < i) && lh s (σ.1 43 (st p)))) → Z 0 5 [some (.ref 13), some (.int s), some (.ref 42), some (.int x), some (.int (nI i))] [] σ := by
    intro m
    induction m with
    | zero =>
      intro i x hi hx
      obtain rfl : i = k := by omega
      refine z_iload hR dPA_placesOfLeaf_5 (n := 7) rfl rfl ?_
      refine z_aload_n hR dPA_placesOfLeaf_7 (n := 8) rfl rfl ?_
      refine z_getI hR dPA_placesOfLeaf_8 (n := 11) rfl zgPA_18 (by decide) rfl rfl ?_
      rw [hc]
      refine z_icmp_geN hR dPA_placesOfLeaf_11 (t := 46) (n := 14) rfl rfl (by omega) (by omega) (fun h11 => ?_) (fun h11 => absurd h11 (by omega))
      refine z_iload_n hR dPA_placesOfLeaf_46 (n := 47) rfl rfl ?_
      refine z_zret hR dPA_placesOfLeaf_47 rfl rfl (Nat.zero_le _) ?_
      exact ⟨rfl, x, rfl, hx⟩
    | succ m ih =>
      intro i x hi hx
      obtain ⟨q1, q2⟩ := hst i (by omega)
      refine z_iload hR dPA_placesOfLeaf_5 (n := 7) rfl rfl ?_
      refine z_aload_n hR dPA_placesOfLeaf_7 (n := 8) rfl rfl ?_
      refine z_getI hR dPA_placesOfLeaf_8 (n := 11) rfl zgPA_18 (by decide) rfl rfl ?_
      rw [hc]
      refine z_icmp_geN hR dPA_placesOfLeaf_11 (t := 46) (n := 14) rfl rfl (by omega) (by omega) (fun h11 => absurd h11 (by omega)) (fun h11 => ?_)
      refine z_iload_n hR dPA_placesOfLeaf_14 (n := 15) rfl rfl ?_
      refine z_aload_n hR dPA_placesOfLeaf_15 (n := 16) rfl rfl ?_
      refine z_getR hR dPA_placesOfLeaf_16 (n := 19) rfl zgPA_55 (by decide) rfl rfl ?_
      refine z_aload_n hR dPA_placesOfLeaf_19 (n := 20) rfl rfl ?_
      refine z_getR hR dPA_placesOfLeaf_20 (n := 23) rfl zgPA_15 (by decide) rfl rfl ?_
      refine z_iload hR dPA_placesOfLeaf_23 (n := 25) rfl rfl ?_
      refine z_iald hR (_) dPA_placesOfLeaf_25 (n := 26) rfl (by decide) rfl (by decide) rfl (by omega) ?_
      rw [q1]
      refine z_iald hR (_) dPA_placesOfLeaf_26 (n := 27) rfl (by decide) rfl (by decide) rfl (by omega) ?_
      refine z_callS2 hR dPA_placesOfLeaf_27 (n := 30) rfl zcPA_58 zkNF_leafHolds (by decide) (Nat.le_of_ble_eq_true rfl) (Nat.zero_le _) (m_NF_leafHolds s _ σ) (fun r27 s27 h27 => ?_)
      obtain ⟨rfl, e27⟩ := h27
      subst s27
      refine z_if_eqB hR dPA_placesOfLeaf_30 (t := 40) (n := 33) rfl rfl (fun h30 => ?_) (fun h30 => ?_)
      · have go := ih (i + 1) x (by omega) (fun p => by
          rw [hx p]
          by_cases e : p = i
          · subst e
            simp [h30]
          · by_cases e2 : p < i
            · simp [e2, show p < i + 1 by omega]
            · simp [e2, show ¬ p < i + 1 by omega])
        refine z_iincN hR 1 dPA_placesOfLeaf_40 (n := 43) rfl rfl (by decide) rfl rfl ?_
        refine z_goto hR dPA_placesOfLeaf_43 (t := 5) rfl ?_
        exact go
      · have go := ih (i + 1) (x ||| (1 <<< (nI i &&& 31))) (by omega) (fun p => by
          rw [tb_or, hx p]
          by_cases hp : p < 32
          · rw [tb_shl1 (by omega) p hp]
            by_cases e : p = i
            · subst e
              simp [h30]
            · by_cases e2 : p < i
              · simp [e, e2, show p < i + 1 by omega]
              · simp [e, e2, show ¬ p < i + 1 by omega]
          · rw [tb_ge _ (by omega)]
            simp [show ¬ p < i by omega, show ¬ p < i + 1 by omega])
        refine z_iload_n hR dPA_placesOfLeaf_33 (n := 34) rfl rfl ?_
        refine z_iconst hR dPA_placesOfLeaf_34 (v := 1) (n := 35) rfl rfl ?_
        refine z_iload hR dPA_placesOfLeaf_35 (n := 37) rfl rfl ?_
        refine z_ishl hR dPA_placesOfLeaf_37 (n := 38) rfl ?_
        refine z_ior hR dPA_placesOfLeaf_38 (n := 39) rfl ?_
        refine z_istore_n hR dPA_placesOfLeaf_39 (n := 40) rfl (by decide) rfl ?_
        refine z_iincN hR 1 dPA_placesOfLeaf_40 (n := 43) rfl rfl (by decide) rfl rfl ?_
        refine z_goto hR dPA_placesOfLeaf_43 (t := 5) rfl ?_
        exact go
  refine z_iconst hR dPA_placesOfLeaf_0 (v := 0) (n := 1) rfl rfl ?_
  refine z_istore_n hR dPA_placesOfLeaf_1 (n := 2) rfl (by decide) rfl ?_
  refine z_iconst hR dPA_placesOfLeaf_2 (v := nI 0) (n := 3) rfl rfl ?_
  refine z_istore hR dPA_placesOfLeaf_3 (n := 5) rfl (by decide) rfl ?_
  exact key k 0 0 (by omega) (fun p => by rw [tb_0]; simp)
theorem m_PA_places13 {z k j : Nat} (hz : z ≤ 37) (hz0 : 0 < z) (hj : j < k) (hk : k ≤ 6) (σ : zS) (hc : σ.1 13 1 = nI k) {st : Nat → Nat} (hst : ∀ p, p < k → σ.1 14 p = nI (st p) ∧ st p < 6) (hs : σ.1 34 1 = nI z) (hT : tmP (σ.1 35) 0 z) (hC : nCf (σ.1 35) (σ.1 36) (σ.1 37) (σ.1 39) (σ.1 38) z 0) : zM yPA_placesOf cPA_placesOf 8 (some .int) 2 70 0 [.ref 13, .ref 34, .ref 42, .int (nI j)] σ (fun r σ2 => zfr [15] σ σ2 ∧ r = some (.int (σ2.1 15 0)) ∧ ∀ q, q < z → sbk k (σ2.1 15 q) ∧ ∀ p, p < k → tb (σ2.1 15 q) p = ev (σ.1 35 q) (tb (σ2.1 15 (q + 1))) (tb (σ2.1 15 (σ.1 36 q).toNatClampNeg)) k j (fun s p => lh s (σ.1 43 (st p))) p) (fun _ _ => False) := by
  refine zM.of [some (.ref 13), some (.ref 34), some (.ref 42), some (.int (nI j)), none, none, none, none] (by decide) 4 rfl (fun _ => Nat.le_of_ble_eq_true rfl) (fun Z hR => ?_)
  have key : ∀ (q : Nat) (y : Int32) (τ : zS) (l5 l6 l7 : Option Value), q ≤ z → (q = 0 → y < 0) → (∀ q2, q = q2 + 1 → y = nI q2) → zfr [15] σ τ → (∀ r, q ≤ r → r < z → sbk k (τ.1 15 r) ∧ ∀ p, p < k → tb (τ.1 15 r) p = ev (σ.1 35 r) (tb (τ.1 15 (r + 1))) (tb (τ.1 15 (σ.1 36 r).toNatClampNeg)) k j (fun s p => lh s (σ.1 43 (st p))) p) → Z 0 8 [some (.ref 13), some (.ref 34), some (.ref 42), some (.int (nI j)), some (.int y), l5, l6, l7] [] τ := by
    intro q
    induction q with
    | zero =>
      intro y τ l5 l6 l7 hq h0 _ hf hH
      refine z_iload hR dPA_placesOf_8 (n := 10) rfl rfl ?_
      refine z_if_lt hR dPA_placesOf_10 (t := 238) (n := 13) rfl rfl (fun _ => ?_) (fun h10 => absurd (h0 rfl) h10)
      refine z_aload_n hR dPA_placesOf_238 (n := 239) rfl rfl ?_
      refine z_getR hR dPA_placesOf_239 (n := 242) rfl zgPA_9 (by decide) rfl rfl ?_
      refine z_iconst hR dPA_placesOf_242 (v := 0) (n := 243) rfl rfl ?_
      refine z_iald hR (0) dPA_placesOf_243 (n := 244) rfl (by decide) rfl (by decide) rfl (by decide) ?_
      refine z_zret hR dPA_placesOf_244 rfl rfl (Nat.zero_le _) ?_
      exact ⟨hf, rfl, fun r hr => hH r (Nat.zero_le _) hr⟩
    | succ q ih =>
      intro y τ l5 l6 l7 hq _ h1 hf hH
      obtain rfl := h1 q rfl
      have hF1 : τ.1 35 = σ.1 35 := hf.1 35 (by decide)
      have hS1 : τ.1 36 = σ.1 36 := hf.1 36 (by decide)
      have hcc : τ.1 13 1 = nI k := by rw [hf.1 13 (by decide)]; exact hc
      have hss : ∀ p, p < k → τ.1 14 p = nI (st p) ∧ st p < 6 := fun p hp => by rw [hf.1 14 (by decide)]; exact hst p hp
      have hdec : ∀ p2, q = p2 + 1 → nI q + (-1) = nI p2 := fun p2 e => by
        subst e
        exact pk_m1 p2
      have hdz : q = 0 → nI q + (-1) < 0 := fun e => by
        subst e
        decide
      have put : ∀ (v : Int32) (l5 l6 l7 : Option Value), sbk k v → (∀ p, p < k → tb v p = ev (σ.1 35 q) (tb (τ.1 15 (q + 1))) (tb (τ.1 15 (σ.1 36 q).toNatClampNeg)) k j (fun s p => lh s (σ.1 43 (st p))) p) → ((σ.1 36 q).toNatClampNeg = q → bn (σ.1 35 q) = false) → Z 0 232 [some (.ref 13), some (.ref 34), some (.ref 42), some (.int (nI j)), some (.int (nI q)), l5, l6, l7] [] (zwA τ 15 q v) := by
        intro v l5 l6 l7 hv1 hv2 hne
        refine z_iinc hR dPA_placesOf_232 (q32 := (-1)) (n := 235) rfl rfl (by decide) rfl rfl ?_
        refine z_goto hR dPA_placesOf_235 (t := 8) rfl ?_
        refine ih (nI q + (-1)) _ _ _ _ (by omega) hdz hdec (hf.wA _ (by decide)) (fun r h1 h2 => ?_)
        by_cases e : r = q
        · subst e
          rw [zwA_ss, zwA_sn _ _ _ _ (by omega)]
          refine ⟨hv1, fun p hp => ?_⟩
          rw [hv2 p hp]
          by_cases e2 : (σ.1 36 r).toNatClampNeg = r
          · have e3 := hne e2
            have n38 : ¬ σ.1 35 r = 38 := fun e4 => by rw [e4] at e3; exact absurd e3 (by decide)
            have n82 : ¬ σ.1 35 r = 82 := fun e4 => by rw [e4] at e3; exact absurd e3 (by decide)
            have n85 : ¬ σ.1 35 r = 85 := fun e4 => by rw [e4] at e3; exact absurd e3 (by decide)
            have n124 : ¬ σ.1 35 r = 124 := fun e4 => by rw [e4] at e3; exact absurd e3 (by decide)
            simp only [ev, if_neg n38, if_neg n82, if_neg n85, if_neg n124]
          · rw [zwA_sn _ _ _ _ e2]
        · rw [zwA_sn _ _ _ _ e, zwA_sn _ _ _ _ (by omega)]
          refine ⟨(hH r (by omega) h2).1, fun p hp => ?_⟩
          rw [(hH r (by omega) h2).2 p hp]
          by_cases e2 : (σ.1 36 r).toNatClampNeg = q
          · have e3 : bn (σ.1 35 r) = false := by
              cases e4 : bn (σ.1 35 r)
              · rfl
              · obtain ⟨m, m1, m2, m3⟩ := hC.2.1 r (Nat.zero_le _) h2 e4
                obtain ⟨kk, m1⟩ := m1
                have := tmF_lt m1
                rw [m3, nI_clamp (by omega)] at e2
                omega
            have n38 : ¬ σ.1 35 r = 38 := fun e4 => by rw [e4] at e3; exact absurd e3 (by decide)
            have n82 : ¬ σ.1 35 r = 82 := fun e4 => by rw [e4] at e3; exact absurd e3 (by decide)
            have n85 : ¬ σ.1 35 r = 85 := fun e4 => by rw [e4] at e3; exact absurd e3 (by decide)
            have n124 : ¬ σ.1 35 r = 124 := fun e4 => by rw [e4] at e3; exact absurd e3 (by decide)
            simp only [ev, if_neg n38, if_neg n82, if_neg n85, if_neg n124]
          · rw [zwA_sn _ _ _ _ e2]
      by_cases hb : bn (σ.1 35 q) = true
      ·
        obtain ⟨m, m1, m2, m3⟩ := hC.2.1 q (Nat.zero_le _) (by omega) hb
        have hmq : q + 1 < m := by
          obtain ⟨kk, m1⟩ := m1
          exact tmF_lt m1
        have hclamp : (σ.1 36 q).toNatClampNeg = m := by rw [m3, nI_clamp (by omega)]
        rw [hclamp] at put
        have hq1 := (hH (q + 1) (by omega) (by omega)).1
        have hm1 := (hH m (by omega) m2).1
        have hb4 : σ.1 35 q = 38 ∨ σ.1 35 q = 124 ∨ σ.1 35 q = 85 ∨ σ.1 35 q = 82 := of_decide_eq_true hb
        refine z_iload hR dPA_placesOf_8 (n := 10) rfl rfl ?_
        refine z_if_ltN hR dPA_placesOf_10 (t := 238) (n := 13) rfl rfl (by omega) ?_
        refine z_aload_n hR dPA_placesOf_13 (n := 14) rfl rfl ?_
        refine z_getR hR dPA_placesOf_14 (n := 17) rfl zgPA_33 (by decide) rfl rfl ?_
        refine z_iload hR dPA_placesOf_17 (n := 19) rfl rfl ?_
        refine z_cald hR (_) dPA_placesOf_19 (n := 20) rfl (by decide) rfl (by decide) rfl (by omega) ?_
        rw [hF1]
        refine z_istore hR dPA_placesOf_20 (n := 22) rfl (by decide) rfl ?_
        refine z_iload hR dPA_placesOf_22 (n := 24) rfl rfl ?_
        refine z_iconst hR dPA_placesOf_24 (v := nI 1) (n := 25) rfl rfl ?_
        refine z_iaddN hR dPA_placesOf_25 (n := 26) rfl ?_
        refine z_istore hR dPA_placesOf_26 (n := 28) rfl (by decide) rfl ?_
        refine z_aload_n hR dPA_placesOf_28 (n := 29) rfl rfl ?_
        refine z_getR hR dPA_placesOf_29 (n := 32) rfl zgPA_37 (by decide) rfl rfl ?_
        refine z_iload hR dPA_placesOf_32 (n := 34) rfl rfl ?_
        refine z_iald hR (_) dPA_placesOf_34 (n := 35) rfl (by decide) rfl (by decide) rfl (by omega) ?_
        rw [hS1, m3]
        refine z_istore hR dPA_placesOf_35 (n := 37) rfl (by decide) rfl ?_
        refine z_iload hR dPA_placesOf_37 (n := 39) rfl rfl ?_
        refine z_look hR dPA_placesOf_39 rfl rfl ?_
        refine ⟨fun (h39_38 : _ = (38 : Int32)) => ⟨88, rfl, ?_⟩, fun (h39_38 : _ ≠ (38 : Int32)) => ?_⟩
        · refine z_aload_n hR dPA_placesOf_88 (n := 89) rfl rfl ?_
          refine z_getR hR dPA_placesOf_89 (n := 92) rfl zgPA_9 (by decide) rfl rfl ?_
          refine z_iload hR dPA_placesOf_92 (n := 94) rfl rfl ?_
          refine z_aload_n hR dPA_placesOf_94 (n := 95) rfl rfl ?_
          refine z_getR hR dPA_placesOf_95 (n := 98) rfl zgPA_9 (by decide) rfl rfl ?_
          refine z_iload hR dPA_placesOf_98 (n := 100) rfl rfl ?_
          refine z_iald hR (_) dPA_placesOf_100 (n := 101) rfl (by decide) rfl (by decide) rfl (by omega) ?_
          refine z_aload_n hR dPA_placesOf_101 (n := 102) rfl rfl ?_
          refine z_getR hR dPA_placesOf_102 (n := 105) rfl zgPA_9 (by decide) rfl rfl ?_
          refine z_iload hR dPA_placesOf_105 (n := 107) rfl rfl ?_
          refine z_iald hR (_) dPA_placesOf_107 (n := 108) rfl (by decide) rfl (by decide) rfl (by omega) ?_
          refine z_iand hR dPA_placesOf_108 (n := 109) rfl ?_
          refine z_iast hR (_) dPA_placesOf_109 (n := 110) rfl (by decide) rfl (by decide) rfl (by omega) ?_
          refine z_goto hR dPA_placesOf_110 (t := 232) rfl ?_
          refine put _ _ _ _ (fun p hp => by rw [tb_and, hq1 p hp]; rfl) (fun p hp => by rw [tb_and, ev, if_pos h39_38]) (fun e => absurd e (by omega))
        refine ⟨fun (h39_82 : _ = (82 : Int32)) => ⟨189, rfl, ?_⟩, fun (h39_82 : _ ≠ (82 : Int32)) => ?_⟩
        · refine z_aload_n hR dPA_placesOf_189 (n := 190) rfl rfl ?_
          refine z_getR hR dPA_placesOf_190 (n := 193) rfl zgPA_9 (by decide) rfl rfl ?_
          refine z_iload hR dPA_placesOf_193 (n := 195) rfl rfl ?_
          refine z_aload_n hR dPA_placesOf_195 (n := 196) rfl rfl ?_
          refine z_aload_n hR dPA_placesOf_196 (n := 197) rfl rfl ?_
          refine z_getR hR dPA_placesOf_197 (n := 200) rfl zgPA_9 (by decide) rfl rfl ?_
          refine z_iload hR dPA_placesOf_200 (n := 202) rfl rfl ?_
          refine z_iald hR (_) dPA_placesOf_202 (n := 203) rfl (by decide) rfl (by decide) rfl (by omega) ?_
          refine z_aload_n hR dPA_placesOf_203 (n := 204) rfl rfl ?_
          refine z_getR hR dPA_placesOf_204 (n := 207) rfl zgPA_9 (by decide) rfl rfl ?_
          refine z_iload hR dPA_placesOf_207 (n := 209) rfl rfl ?_
          refine z_iald hR (_) dPA_placesOf_209 (n := 210) rfl (by decide) rfl (by decide) rfl (by omega) ?_
          refine z_iload_n hR dPA_placesOf_210 (n := 211) rfl rfl ?_
          refine z_callV3 hR dPA_placesOf_211 (n := 214) rfl zcPA_48 zkPA_placesOfRelease (by decide) (Nat.le_of_ble_eq_true rfl) (by decide) rfl rfl (Nat.zero_le _) (m_PA_release13 hj hk τ hcc hq1 hm1) (fun r211 s211 h211 => ?_)
          obtain ⟨e211, y, rfl, hy⟩ := h211
          subst s211
          refine z_iast hR (_) dPA_placesOf_214 (n := 215) rfl (by decide) rfl (by decide) rfl (by omega) ?_
          refine z_goto hR dPA_placesOf_215 (t := 232) rfl ?_
          refine put _ _ _ _ (fun p hp => by rw [hy p]; simp [show ¬ p < k by omega]) (fun p hp => by rw [hy p, ev, if_neg h39_38, if_pos h39_82]; simp [hp]) (fun e => absurd e (by omega))
          skip
        refine ⟨fun (h39_85 : _ = (85 : Int32)) => ⟨160, rfl, ?_⟩, fun (h39_85 : _ ≠ (85 : Int32)) => ?_⟩
        · refine z_aload_n hR dPA_placesOf_160 (n := 161) rfl rfl ?_
          refine z_getR hR dPA_placesOf_161 (n := 164) rfl zgPA_9 (by decide) rfl rfl ?_
          refine z_iload hR dPA_placesOf_164 (n := 166) rfl rfl ?_
          refine z_aload_n hR dPA_placesOf_166 (n := 167) rfl rfl ?_
          refine z_aload_n hR dPA_placesOf_167 (n := 168) rfl rfl ?_
          refine z_getR hR dPA_placesOf_168 (n := 171) rfl zgPA_9 (by decide) rfl rfl ?_
          refine z_iload hR dPA_placesOf_171 (n := 173) rfl rfl ?_
          refine z_iald hR (_) dPA_placesOf_173 (n := 174) rfl (by decide) rfl (by decide) rfl (by omega) ?_
          refine z_aload_n hR dPA_placesOf_174 (n := 175) rfl rfl ?_
          refine z_getR hR dPA_placesOf_175 (n := 178) rfl zgPA_9 (by decide) rfl rfl ?_
          refine z_iload hR dPA_placesOf_178 (n := 180) rfl rfl ?_
          refine z_iald hR (_) dPA_placesOf_180 (n := 181) rfl (by decide) rfl (by decide) rfl (by omega) ?_
          refine z_iload_n hR dPA_placesOf_181 (n := 182) rfl rfl ?_
          refine z_callV3 hR dPA_placesOf_182 (n := 185) rfl zcPA_44 zkPA_placesOfUntil (by decide) (Nat.le_of_ble_eq_true rfl) (by decide) rfl rfl (Nat.zero_le _) (m_PA_until13 hj hk τ hcc hq1 hm1) (fun r182 s182 h182 => ?_)
          obtain ⟨e182, y, rfl, hy⟩ := h182
          subst s182
          refine z_iast hR (_) dPA_placesOf_185 (n := 186) rfl (by decide) rfl (by decide) rfl (by omega) ?_
          refine z_goto hR dPA_placesOf_186 (t := 232) rfl ?_
          refine put _ _ _ _ (fun p hp => by rw [hy p]; simp [show ¬ p < k by omega]) (fun p hp => by rw [hy p, ev, if_neg h39_38, if_neg h39_82, if_pos h39_85]; simp [hp]) (fun e => absurd e (by omega))
          skip
        refine ⟨fun (h39_88 : _ = (88 : Int32)) => ⟨138, rfl, ?_⟩, fun (h39_88 : _ ≠ (88 : Int32)) => ?_⟩
        · exact absurd h39_88 (bn_88 hb).1
        refine ⟨fun (h39_124 : _ = (124 : Int32)) => ⟨113, rfl, ?_⟩, fun (h39_124 : _ ≠ (124 : Int32)) => ?_⟩
        · refine z_aload_n hR dPA_placesOf_113 (n := 114) rfl rfl ?_
          refine z_getR hR dPA_placesOf_114 (n := 117) rfl zgPA_9 (by decide) rfl rfl ?_
          refine z_iload hR dPA_placesOf_117 (n := 119) rfl rfl ?_
          refine z_aload_n hR dPA_placesOf_119 (n := 120) rfl rfl ?_
          refine z_getR hR dPA_placesOf_120 (n := 123) rfl zgPA_9 (by decide) rfl rfl ?_
          refine z_iload hR dPA_placesOf_123 (n := 125) rfl rfl ?_
          refine z_iald hR (_) dPA_placesOf_125 (n := 126) rfl (by decide) rfl (by decide) rfl (by omega) ?_
          refine z_aload_n hR dPA_placesOf_126 (n := 127) rfl rfl ?_
          refine z_getR hR dPA_placesOf_127 (n := 130) rfl zgPA_9 (by decide) rfl rfl ?_
          refine z_iload hR dPA_placesOf_130 (n := 132) rfl rfl ?_
          refine z_iald hR (_) dPA_placesOf_132 (n := 133) rfl (by decide) rfl (by decide) rfl (by omega) ?_
          refine z_ior hR dPA_placesOf_133 (n := 134) rfl ?_
          refine z_iast hR (_) dPA_placesOf_134 (n := 135) rfl (by decide) rfl (by decide) rfl (by omega) ?_
          refine z_goto hR dPA_placesOf_135 (t := 232) rfl ?_
          refine put _ _ _ _ (fun p hp => by rw [tb_or, hq1 p hp, hm1 p hp]; rfl) (fun p hp => by rw [tb_or, ev, if_neg h39_38, if_neg h39_82, if_neg h39_85, if_neg h39_88, if_pos h39_124]) (fun e => absurd e (by omega))
        refine ⟨218, rfl, ?_⟩
        exfalso
        rcases hb4 with e | e | e | e
        · exact h39_38 e
        · exact h39_124 e
        · exact h39_85 e
        · exact h39_82 e
      ·
        have hb' : bn (σ.1 35 q) = false := by simpa using hb
        have n38 : ¬ σ.1 35 q = 38 := fun e4 => by rw [e4] at hb'; exact absurd hb' (by decide)
        have n82 : ¬ σ.1 35 q = 82 := fun e4 => by rw [e4] at hb'; exact absurd hb' (by decide)
        have n85 : ¬ σ.1 35 q = 85 := fun e4 => by rw [e4] at hb'; exact absurd hb' (by decide)
        have n124 : ¬ σ.1 35 q = 124 := fun e4 => by rw [e4] at hb'; exact absurd hb' (by decide)
        refine z_iload hR dPA_placesOf_8 (n := 10) rfl rfl ?_
        refine z_if_ltN hR dPA_placesOf_10 (t := 238) (n := 13) rfl rfl (by omega) ?_
        refine z_aload_n hR dPA_placesOf_13 (n := 14) rfl rfl ?_
        refine z_getR hR dPA_placesOf_14 (n := 17) rfl zgPA_33 (by decide) rfl rfl ?_
        refine z_iload hR dPA_placesOf_17 (n := 19) rfl rfl ?_
        refine z_cald hR (_) dPA_placesOf_19 (n := 20) rfl (by decide) rfl (by decide) rfl (by omega) ?_
        rw [hF1]
        refine z_istore hR dPA_placesOf_20 (n := 22) rfl (by decide) rfl ?_
        refine z_iload hR dPA_placesOf_22 (n := 24) rfl rfl ?_
        refine z_iconst hR dPA_placesOf_24 (v := nI 1) (n := 25) rfl rfl ?_
        refine z_iaddN hR dPA_placesOf_25 (n := 26) rfl ?_
        refine z_istore hR dPA_placesOf_26 (n := 28) rfl (by decide) rfl ?_
        refine z_aload_n hR dPA_placesOf_28 (n := 29) rfl rfl ?_
        refine z_getR hR dPA_placesOf_29 (n := 32) rfl zgPA_37 (by decide) rfl rfl ?_
        refine z_iload hR dPA_placesOf_32 (n := 34) rfl rfl ?_
        refine z_iald hR (_) dPA_placesOf_34 (n := 35) rfl (by decide) rfl (by decide) rfl (by omega) ?_
        refine z_istore hR dPA_placesOf_35 (n := 37) rfl (by decide) rfl ?_
        refine z_iload hR dPA_placesOf_37 (n := 39) rfl rfl ?_
        refine z_look hR dPA_placesOf_39 rfl rfl ?_
        refine ⟨fun (h39_38 : _ = (38 : Int32)) => ⟨88, rfl, ?_⟩, fun (h39_38 : _ ≠ (38 : Int32)) => ?_⟩
        · exact absurd h39_38 n38
        refine ⟨fun (h39_82 : _ = (82 : Int32)) => ⟨189, rfl, ?_⟩, fun (h39_82 : _ ≠ (82 : Int32)) => ?_⟩
        · exact absurd h39_82 n82
        refine ⟨fun (h39_85 : _ = (85 : Int32)) => ⟨160, rfl, ?_⟩, fun (h39_85 : _ ≠ (85 : Int32)) => ?_⟩
        · exact absurd h39_85 n85
        refine ⟨fun (h39_88 : _ = (88 : Int32)) => ⟨138, rfl, ?_⟩, fun (h39_88 : _ ≠ (88 : Int32)) => ?_⟩
        · have hx1 : q + 1 < z := by
            rcases tmP_at hT (show q < z by omega) with ⟨_, g2, _⟩ | ⟨g1, _⟩ | ⟨g1, _⟩
            · exact g2
            · exact absurd h39_88 (bn_88 g1).1
            · exact absurd h39_88 (lf_88 g1).1
          refine z_aload_n hR dPA_placesOf_138 (n := 139) rfl rfl ?_
          refine z_getR hR dPA_placesOf_139 (n := 142) rfl zgPA_9 (by decide) rfl rfl ?_
          refine z_iload hR dPA_placesOf_142 (n := 144) rfl rfl ?_
          refine z_aload_n hR dPA_placesOf_144 (n := 145) rfl rfl ?_
          refine z_aload_n hR dPA_placesOf_145 (n := 146) rfl rfl ?_
          refine z_getR hR dPA_placesOf_146 (n := 149) rfl zgPA_9 (by decide) rfl rfl ?_
          refine z_iload hR dPA_placesOf_149 (n := 151) rfl rfl ?_
          refine z_iald hR (_) dPA_placesOf_151 (n := 152) rfl (by decide) rfl (by decide) rfl (by omega) ?_
          refine z_iload_n hR dPA_placesOf_152 (n := 153) rfl rfl ?_
          refine z_callV2 hR dPA_placesOf_153 (n := 156) rfl zcPA_40 zkPA_placesBefore (by decide) (Nat.le_of_ble_eq_true rfl) (by decide) rfl rfl (Nat.zero_le _) (m_PA_before13 hj hk τ hcc (hH (q + 1) (by omega) hx1).1) (fun r153 s153 h153 => ?_)
          obtain ⟨e153, y, rfl, hy⟩ := h153
          subst s153
          refine z_iast hR (_) dPA_placesOf_156 (n := 157) rfl (by decide) rfl (by decide) rfl (by omega) ?_
          refine z_goto hR dPA_placesOf_157 (t := 232) rfl ?_
          refine put _ _ _ _ (fun p hp => by rw [hy p]; simp [show ¬ p < k by omega]) (fun p hp => by rw [hy p, ev, if_neg n38, if_neg n82, if_neg n85, if_pos h39_88]; simp [hp]) (fun _ => hb')
          skip
        refine ⟨fun (h39_124 : _ = (124 : Int32)) => ⟨113, rfl, ?_⟩, fun (h39_124 : _ ≠ (124 : Int32)) => ?_⟩
        · exact absurd h39_124 n124
        refine ⟨218, rfl, ?_⟩
        refine z_aload_n hR dPA_placesOf_218 (n := 219) rfl rfl ?_
        refine z_getR hR dPA_placesOf_219 (n := 222) rfl zgPA_9 (by decide) rfl rfl ?_
        refine z_iload hR dPA_placesOf_222 (n := 224) rfl rfl ?_
        refine z_aload_n hR dPA_placesOf_224 (n := 225) rfl rfl ?_
        refine z_iload hR dPA_placesOf_225 (n := 227) rfl rfl ?_
        refine z_aload_n hR dPA_placesOf_227 (n := 228) rfl rfl ?_
        refine z_callV2 hR dPA_placesOf_228 (n := 231) rfl zcPA_51 zkPA_placesOfLeaf (by decide) (Nat.le_of_ble_eq_true rfl) (by decide) rfl rfl (Nat.zero_le _) (m_PA_leaf13 hk (σ.1 35 q) τ hcc hss) (fun r228 s228 h228 => ?_)
        obtain ⟨e228, y, rfl, hy⟩ := h228
        subst s228
        rw [hf.1 43 (by decide)] at hy
        refine z_iast hR (_) dPA_placesOf_231 (n := 232) rfl (by decide) rfl (by decide) rfl (by omega) ?_
        refine put _ _ _ _ (fun p hp => by rw [hy p]; simp [show ¬ p < k by omega]) (fun p hp => by rw [hy p, ev, if_neg n38, if_neg n82, if_neg n85, if_neg h39_88, if_neg n124]; simp [hp]) (fun _ => hb')
        skip
  refine z_aload_n hR dPA_placesOf_0 (n := 1) rfl rfl ?_
  refine z_getI hR dPA_placesOf_1 (n := 4) rfl zgPA_28 (by decide) rfl rfl ?_
  rw [hs]
  refine z_iconst hR dPA_placesOf_4 (v := 1) (n := 5) rfl rfl ?_
  refine z_isub hR dPA_placesOf_5 (n := 6) rfl ?_
  refine z_istore hR dPA_placesOf_6 (n := 8) rfl (by decide) rfl ?_
  exact key z _ _ _ _ _ (Nat.le_refl _) (fun e => absurd e (by omega)) (fun p2 e => by subst e; exact nI_pred p2) zfr.rf (fun r h1 h2 => absurd h1 (by omega))
