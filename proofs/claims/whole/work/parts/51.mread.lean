/-! The reference reads a text -/
def zfd (js : List Nat) (σ σ2 : zS) : Prop := ∀ j, j ∉ js → σ2.1 45 j = σ.1 45 j
theorem zfd.rf {js : List Nat} {σ : zS} : zfd js σ σ := fun _ _ => rfl
theorem zfd.tr {js : List Nat} {σ σ2 σ3 : zS} (h : zfd js σ σ2) (h2 : zfd js σ2 σ3) : zfd js σ σ3 := fun j hj => (h2 j hj).trans (h j hj)
theorem zfd.mo {js js2 : List Nat} {σ σ2 : zS} (h : zfd js σ σ2) (hl : ∀ o ∈ js, o ∈ js2) : zfd js2 σ σ2 := fun o ho => h o (fun q => ho (hl o q))
theorem zfd.w {js : List Nat} {σ σ2 : zS} (h : zfd js σ σ2) {j : Nat} (x : Int32) (hj : j ∈ js) : zfd js σ (zwA σ2 45 j x) := fun q hq => by
  have e : q ≠ j := fun e => hq (e ▸ hj)
  rw [zwA_sn _ _ _ _ e]
  exact h q hq
theorem zfd.o {js : List Nat} {σ σ2 : zS} (h : zfd js σ σ2) {o j : Nat} (x : Int32) (ho : o ≠ 45) : zfd js σ (zwA σ2 o j x) := fun q hq => by
  rw [zwA_n _ _ _ _ (Ne.symm ho)]
  exact h q hq
theorem m_MO_isAtom (c : Int32) (σ : zS) : zM yMO_isAtom cMO_isAtom 1 (some .boolean) 0 0 0 [.int c] σ (fun r σ2 => r = some (.int (zb (atm c))) ∧ σ2 = σ) (fun _ _ => False) := by
  refine zM.of [some (.int c)] (by decide) 0 rfl (fun _ => Nat.le_of_ble_eq_true rfl) (fun Z hR => ?_)
  refine z_iload_n hR dMO_isAtom_0 (n := 1) rfl rfl ?_
  refine z_bipush hR dMO_isAtom_1 (v := 112) (n := 3) rfl rfl ?_
  refine z_icmp_lt hR dMO_isAtom_3 (t := 12) (n := 6) rfl rfl (fun h3 => ?_) (fun h3 => ?_)
  · refine z_iload_n hR dMO_isAtom_12 (n := 13) rfl rfl ?_
    refine z_bipush hR dMO_isAtom_13 (v := 48) (n := 15) rfl rfl ?_
    refine z_icmp_eq hR dMO_isAtom_15 (t := 24) (n := 18) rfl rfl (fun h15 => ?_) (fun h15 => ?_)
    · refine z_iconst hR dMO_isAtom_24 (v := 1) (n := 25) rfl rfl ?_
      refine z_goto hR dMO_isAtom_25 (t := 29) rfl ?_
      refine z_zret hR dMO_isAtom_29 rfl rfl (Nat.zero_le _) ?_
      first | exact ⟨zbT (decide_eq_true (Or.inl ⟨Int32.not_lt.mp h3, h9⟩)), rfl⟩ | exact ⟨zbT (decide_eq_true (Or.inr (Or.inl h15))), rfl⟩ | exact ⟨zbT (decide_eq_true (Or.inr (Or.inr h21))), rfl⟩ | exact ⟨zbF (decide_eq_false (by rintro (⟨a, b⟩ | e | e); exact Int32.not_lt.mpr a h3; exact h15 e; exact h21 e)), rfl⟩ | exact ⟨zbF (decide_eq_false (by rintro (⟨a, b⟩ | e | e); exact h9 b; exact h15 e; exact h21 e)), rfl⟩
    · refine z_iload_n hR dMO_isAtom_18 (n := 19) rfl rfl ?_
      refine z_bipush hR dMO_isAtom_19 (v := 49) (n := 21) rfl rfl ?_
      refine z_icmp_ne hR dMO_isAtom_21 (t := 28) (n := 24) rfl rfl (fun h21 => ?_) (fun h21 => ?_)
      · refine z_iconst hR dMO_isAtom_28 (v := 0) (n := 29) rfl rfl ?_
        refine z_zret hR dMO_isAtom_29 rfl rfl (Nat.zero_le _) ?_
        first | exact ⟨zbT (decide_eq_true (Or.inl ⟨Int32.not_lt.mp h3, h9⟩)), rfl⟩ | exact ⟨zbT (decide_eq_true (Or.inr (Or.inl h15))), rfl⟩ | exact ⟨zbT (decide_eq_true (Or.inr (Or.inr h21))), rfl⟩ | exact ⟨zbF (decide_eq_false (by rintro (⟨a, b⟩ | e | e); exact Int32.not_lt.mpr a h3; exact h15 e; exact h21 e)), rfl⟩ | exact ⟨zbF (decide_eq_false (by rintro (⟨a, b⟩ | e | e); exact h9 b; exact h15 e; exact h21 e)), rfl⟩
      · refine z_iconst hR dMO_isAtom_24 (v := 1) (n := 25) rfl rfl ?_
        refine z_goto hR dMO_isAtom_25 (t := 29) rfl ?_
        refine z_zret hR dMO_isAtom_29 rfl rfl (Nat.zero_le _) ?_
        first | exact ⟨zbT (decide_eq_true (Or.inl ⟨Int32.not_lt.mp h3, h9⟩)), rfl⟩ | exact ⟨zbT (decide_eq_true (Or.inr (Or.inl h15))), rfl⟩ | exact ⟨zbT (decide_eq_true (Or.inr (Or.inr h21))), rfl⟩ | exact ⟨zbF (decide_eq_false (by rintro (⟨a, b⟩ | e | e); exact Int32.not_lt.mpr a h3; exact h15 e; exact h21 e)), rfl⟩ | exact ⟨zbF (decide_eq_false (by rintro (⟨a, b⟩ | e | e); exact h9 b; exact h15 e; exact h21 e)), rfl⟩
  · refine z_iload_n hR dMO_isAtom_6 (n := 7) rfl rfl ?_
    refine z_bipush hR dMO_isAtom_7 (v := 115) (n := 9) rfl rfl ?_
    refine z_icmp_le hR dMO_isAtom_9 (t := 24) (n := 12) rfl rfl (fun h9 => ?_) (fun h9 => ?_)
    · refine z_iconst hR dMO_isAtom_24 (v := 1) (n := 25) rfl rfl ?_
      refine z_goto hR dMO_isAtom_25 (t := 29) rfl ?_
      refine z_zret hR dMO_isAtom_29 rfl rfl (Nat.zero_le _) ?_
      first | exact ⟨zbT (decide_eq_true (Or.inl ⟨Int32.not_lt.mp h3, h9⟩)), rfl⟩ | exact ⟨zbT (decide_eq_true (Or.inr (Or.inl h15))), rfl⟩ | exact ⟨zbT (decide_eq_true (Or.inr (Or.inr h21))), rfl⟩ | exact ⟨zbF (decide_eq_false (by rintro (⟨a, b⟩ | e | e); exact Int32.not_lt.mpr a h3; exact h15 e; exact h21 e)), rfl⟩ | exact ⟨zbF (decide_eq_false (by rintro (⟨a, b⟩ | e | e); exact h9 b; exact h15 e; exact h21 e)), rfl⟩
    · refine z_iload_n hR dMO_isAtom_12 (n := 13) rfl rfl ?_
      refine z_bipush hR dMO_isAtom_13 (v := 48) (n := 15) rfl rfl ?_
      refine z_icmp_eq hR dMO_isAtom_15 (t := 24) (n := 18) rfl rfl (fun h15 => ?_) (fun h15 => ?_)
      · refine z_iconst hR dMO_isAtom_24 (v := 1) (n := 25) rfl rfl ?_
        refine z_goto hR dMO_isAtom_25 (t := 29) rfl ?_
        refine z_zret hR dMO_isAtom_29 rfl rfl (Nat.zero_le _) ?_
        first | exact ⟨zbT (decide_eq_true (Or.inl ⟨Int32.not_lt.mp h3, h9⟩)), rfl⟩ | exact ⟨zbT (decide_eq_true (Or.inr (Or.inl h15))), rfl⟩ | exact ⟨zbT (decide_eq_true (Or.inr (Or.inr h21))), rfl⟩ | exact ⟨zbF (decide_eq_false (by rintro (⟨a, b⟩ | e | e); exact Int32.not_lt.mpr a h3; exact h15 e; exact h21 e)), rfl⟩ | exact ⟨zbF (decide_eq_false (by rintro (⟨a, b⟩ | e | e); exact h9 b; exact h15 e; exact h21 e)), rfl⟩
      · refine z_iload_n hR dMO_isAtom_18 (n := 19) rfl rfl ?_
        refine z_bipush hR dMO_isAtom_19 (v := 49) (n := 21) rfl rfl ?_
        refine z_icmp_ne hR dMO_isAtom_21 (t := 28) (n := 24) rfl rfl (fun h21 => ?_) (fun h21 => ?_)
        · refine z_iconst hR dMO_isAtom_28 (v := 0) (n := 29) rfl rfl ?_
          refine z_zret hR dMO_isAtom_29 rfl rfl (Nat.zero_le _) ?_
          first | exact ⟨zbT (decide_eq_true (Or.inl ⟨Int32.not_lt.mp h3, h9⟩)), rfl⟩ | exact ⟨zbT (decide_eq_true (Or.inr (Or.inl h15))), rfl⟩ | exact ⟨zbT (decide_eq_true (Or.inr (Or.inr h21))), rfl⟩ | exact ⟨zbF (decide_eq_false (by rintro (⟨a, b⟩ | e | e); exact Int32.not_lt.mpr a h3; exact h15 e; exact h21 e)), rfl⟩ | exact ⟨zbF (decide_eq_false (by rintro (⟨a, b⟩ | e | e); exact h9 b; exact h15 e; exact h21 e)), rfl⟩
        · refine z_iconst hR dMO_isAtom_24 (v := 1) (n := 25) rfl rfl ?_
          refine z_goto hR dMO_isAtom_25 (t := 29) rfl ?_
          refine z_zret hR dMO_isAtom_29 rfl rfl (Nat.zero_le _) ?_
          first | exact ⟨zbT (decide_eq_true (Or.inl ⟨Int32.not_lt.mp h3, h9⟩)), rfl⟩ | exact ⟨zbT (decide_eq_true (Or.inr (Or.inl h15))), rfl⟩ | exact ⟨zbT (decide_eq_true (Or.inr (Or.inr h21))), rfl⟩ | exact ⟨zbF (decide_eq_false (by rintro (⟨a, b⟩ | e | e); exact Int32.not_lt.mpr a h3; exact h15 e; exact h21 e)), rfl⟩ | exact ⟨zbF (decide_eq_false (by rintro (⟨a, b⟩ | e | e); exact h9 b; exact h15 e; exact h21 e)), rfl⟩
theorem rk5_iff (c : Int32) : rk c = 5 ↔ (c = 33 ∨ c = 88 ∨ c = 70 ∨ c = 71) := by
  unfold rk
  split
  · rename_i h
    refine ⟨fun _ => ?_, fun _ => rfl⟩
    rcases h with h | h | h | h <;> simp [h]
  · rename_i h
    constructor
    · intro q
      repeat' split at q
      all_goals omega
    · rintro (e | e | e | e) <;> exact absurd (by simp [e]) h
theorem m_MO_isPrefix (c : Int32) (σ : zS) : zM yMO_isPrefix cMO_isPrefix 1 (some .boolean) 0 0 0 [.int c] σ (fun r σ2 => r = some (.int (zb (decide (rk c = 5)))) ∧ σ2 = σ) (fun _ _ => False) := by
  refine zM.of [some (.int c)] (by decide) 0 rfl (fun _ => Nat.le_of_ble_eq_true rfl) (fun Z hR => ?_)
  refine z_iload_n hR dMO_isPrefix_0 (n := 1) rfl rfl ?_
  refine z_bipush hR dMO_isPrefix_1 (v := 33) (n := 3) rfl rfl ?_
  refine z_icmp_eq hR dMO_isPrefix_3 (t := 24) (n := 6) rfl rfl (fun h3 => ?_) (fun h3 => ?_)
  · refine z_iconst hR dMO_isPrefix_24 (v := 1) (n := 25) rfl rfl ?_
    refine z_goto hR dMO_isPrefix_25 (t := 29) rfl ?_
    refine z_zret hR dMO_isPrefix_29 rfl rfl (Nat.zero_le _) ?_
    first | exact ⟨zbT (decide_eq_true ((rk5_iff c).mpr (by simp [*]))), rfl⟩ | exact ⟨zbF (decide_eq_false (fun q => by have := (rk5_iff c).mp q; simp [*] at this)), rfl⟩
  · refine z_iload_n hR dMO_isPrefix_6 (n := 7) rfl rfl ?_
    refine z_bipush hR dMO_isPrefix_7 (v := 88) (n := 9) rfl rfl ?_
    refine z_icmp_eq hR dMO_isPrefix_9 (t := 24) (n := 12) rfl rfl (fun h9 => ?_) (fun h9 => ?_)
    · refine z_iconst hR dMO_isPrefix_24 (v := 1) (n := 25) rfl rfl ?_
      refine z_goto hR dMO_isPrefix_25 (t := 29) rfl ?_
      refine z_zret hR dMO_isPrefix_29 rfl rfl (Nat.zero_le _) ?_
      first | exact ⟨zbT (decide_eq_true ((rk5_iff c).mpr (by simp [*]))), rfl⟩ | exact ⟨zbF (decide_eq_false (fun q => by have := (rk5_iff c).mp q; simp [*] at this)), rfl⟩
    · refine z_iload_n hR dMO_isPrefix_12 (n := 13) rfl rfl ?_
      refine z_bipush hR dMO_isPrefix_13 (v := 70) (n := 15) rfl rfl ?_
      refine z_icmp_eq hR dMO_isPrefix_15 (t := 24) (n := 18) rfl rfl (fun h15 => ?_) (fun h15 => ?_)
      · refine z_iconst hR dMO_isPrefix_24 (v := 1) (n := 25) rfl rfl ?_
        refine z_goto hR dMO_isPrefix_25 (t := 29) rfl ?_
        refine z_zret hR dMO_isPrefix_29 rfl rfl (Nat.zero_le _) ?_
        first | exact ⟨zbT (decide_eq_true ((rk5_iff c).mpr (by simp [*]))), rfl⟩ | exact ⟨zbF (decide_eq_false (fun q => by have := (rk5_iff c).mp q; simp [*] at this)), rfl⟩
      · refine z_iload_n hR dMO_isPrefix_18 (n := 19) rfl rfl ?_
        refine z_bipush hR dMO_isPrefix_19 (v := 71) (n := 21) rfl rfl ?_
        refine z_icmp_ne hR dMO_isPrefix_21 (t := 28) (n := 24) rfl rfl (fun h21 => ?_) (fun h21 => ?_)
        · refine z_iconst hR dMO_isPrefix_28 (v := 0) (n := 29) rfl rfl ?_
          refine z_zret hR dMO_isPrefix_29 rfl rfl (Nat.zero_le _) ?_
          first | exact ⟨zbT (decide_eq_true ((rk5_iff c).mpr (by simp [*]))), rfl⟩ | exact ⟨zbF (decide_eq_false (fun q => by have := (rk5_iff c).mp q; simp [*] at this)), rfl⟩
        · refine z_iconst hR dMO_isPrefix_24 (v := 1) (n := 25) rfl rfl ?_
          refine z_goto hR dMO_isPrefix_25 (t := 29) rfl ?_
          refine z_zret hR dMO_isPrefix_29 rfl rfl (Nat.zero_le _) ?_
          first | exact ⟨zbT (decide_eq_true ((rk5_iff c).mpr (by simp [*]))), rfl⟩ | exact ⟨zbF (decide_eq_false (fun q => by have := (rk5_iff c).mp q; simp [*] at this)), rfl⟩
theorem m_MO_isTimed (c : Int32) (σ : zS) : zM yMO_isTimed cMO_isTimed 1 (some .boolean) 0 0 0 [.int c] σ (fun r σ2 => r = some (.int (zb (tmd c))) ∧ σ2 = σ) (fun _ _ => False) := by
  refine zM.of [some (.int c)] (by decide) 0 rfl (fun _ => Nat.le_of_ble_eq_true rfl) (fun Z hR => ?_)
  refine z_iload_n hR dMO_isTimed_0 (n := 1) rfl rfl ?_
  refine z_bipush hR dMO_isTimed_1 (v := 88) (n := 3) rfl rfl ?_
  refine z_icmp_eq hR dMO_isTimed_3 (t := 30) (n := 6) rfl rfl (fun h3 => ?_) (fun h3 => ?_)
  · refine z_iconst hR dMO_isTimed_30 (v := 1) (n := 31) rfl rfl ?_
    refine z_goto hR dMO_isTimed_31 (t := 35) rfl ?_
    refine z_zret hR dMO_isTimed_35 rfl rfl (Nat.zero_le _) ?_
    first | exact ⟨zbT (by simp [tmd, *]), rfl⟩ | exact ⟨zbF (by simp [tmd, *]), rfl⟩
  · refine z_iload_n hR dMO_isTimed_6 (n := 7) rfl rfl ?_
    refine z_bipush hR dMO_isTimed_7 (v := 70) (n := 9) rfl rfl ?_
    refine z_icmp_eq hR dMO_isTimed_9 (t := 30) (n := 12) rfl rfl (fun h9 => ?_) (fun h9 => ?_)
    · refine z_iconst hR dMO_isTimed_30 (v := 1) (n := 31) rfl rfl ?_
      refine z_goto hR dMO_isTimed_31 (t := 35) rfl ?_
      refine z_zret hR dMO_isTimed_35 rfl rfl (Nat.zero_le _) ?_
      first | exact ⟨zbT (by simp [tmd, *]), rfl⟩ | exact ⟨zbF (by simp [tmd, *]), rfl⟩
    · refine z_iload_n hR dMO_isTimed_12 (n := 13) rfl rfl ?_
      refine z_bipush hR dMO_isTimed_13 (v := 71) (n := 15) rfl rfl ?_
      refine z_icmp_eq hR dMO_isTimed_15 (t := 30) (n := 18) rfl rfl (fun h15 => ?_) (fun h15 => ?_)
      · refine z_iconst hR dMO_isTimed_30 (v := 1) (n := 31) rfl rfl ?_
        refine z_goto hR dMO_isTimed_31 (t := 35) rfl ?_
        refine z_zret hR dMO_isTimed_35 rfl rfl (Nat.zero_le _) ?_
        first | exact ⟨zbT (by simp [tmd, *]), rfl⟩ | exact ⟨zbF (by simp [tmd, *]), rfl⟩
      · refine z_iload_n hR dMO_isTimed_18 (n := 19) rfl rfl ?_
        refine z_bipush hR dMO_isTimed_19 (v := 85) (n := 21) rfl rfl ?_
        refine z_icmp_eq hR dMO_isTimed_21 (t := 30) (n := 24) rfl rfl (fun h21 => ?_) (fun h21 => ?_)
        · refine z_iconst hR dMO_isTimed_30 (v := 1) (n := 31) rfl rfl ?_
          refine z_goto hR dMO_isTimed_31 (t := 35) rfl ?_
          refine z_zret hR dMO_isTimed_35 rfl rfl (Nat.zero_le _) ?_
          first | exact ⟨zbT (by simp [tmd, *]), rfl⟩ | exact ⟨zbF (by simp [tmd, *]), rfl⟩
        · refine z_iload_n hR dMO_isTimed_24 (n := 25) rfl rfl ?_
          refine z_bipush hR dMO_isTimed_25 (v := 82) (n := 27) rfl rfl ?_
          refine z_icmp_ne hR dMO_isTimed_27 (t := 34) (n := 30) rfl rfl (fun h27 => ?_) (fun h27 => ?_)
          · refine z_iconst hR dMO_isTimed_34 (v := 0) (n := 35) rfl rfl ?_
            refine z_zret hR dMO_isTimed_35 rfl rfl (Nat.zero_le _) ?_
            first | exact ⟨zbT (by simp [tmd, *]), rfl⟩ | exact ⟨zbF (by simp [tmd, *]), rfl⟩
          · refine z_iconst hR dMO_isTimed_30 (v := 1) (n := 31) rfl rfl ?_
            refine z_goto hR dMO_isTimed_31 (t := 35) rfl ?_
            refine z_zret hR dMO_isTimed_35 rfl rfl (Nat.zero_le _) ?_
            first | exact ⟨zbT (by simp [tmd, *]), rfl⟩ | exact ⟨zbF (by simp [tmd, *]), rfl⟩
theorem m_MO_strength (c : Int32) (σ : zS) : zM yMO_strength cMO_strength 1 (some .int) 1 30 0 [.int c] σ (fun r σ2 => r = some (.int (nI (rk c))) ∧ σ2 = σ) (fun _ _ => False) := by
  refine zM.of [some (.int c)] (by decide) 0 rfl (fun _ => Nat.le_of_ble_eq_true rfl) (fun Z hR => ?_)
  refine z_iload_n hR dMO_strength_0 (n := 1) rfl rfl ?_
  refine z_callS1 hR dMO_strength_1 (n := 4) rfl zcMO_100 zkMO_isPrefix (by decide) (Nat.le_of_ble_eq_true rfl) (Nat.zero_le _) (m_MO_isPrefix c σ) (fun r1 s1 h1 => ?_)
  obtain ⟨rfl, e1⟩ := h1
  subst s1
  refine z_if_eqB hR dMO_strength_4 (t := 11) (n := 7) rfl rfl (fun h4 => ?_) (fun h4 => ?_)
  · have h5 : ¬ rk c = 5 := of_decide_eq_false h4
    have h6 := mt (rk5_iff c).mpr h5
    simp only [not_or] at h6
    refine z_iload_n hR dMO_strength_11 (n := 12) rfl rfl ?_
    refine z_bipush hR dMO_strength_12 (v := 85) (n := 14) rfl rfl ?_
    refine z_icmp_eq hR dMO_strength_14 (t := 23) (n := 17) rfl rfl (fun h14 => ?_) (fun h14 => ?_)
    · refine z_iconst hR dMO_strength_23 (v := 4) (n := 24) rfl rfl ?_
      refine z_goto hR dMO_strength_24 (t := 58) rfl ?_
      refine z_zret hR dMO_strength_58 rfl rfl (Nat.zero_le _) ?_
      refine ⟨congrArg (fun q => some (Value.int q)) ?_, rfl⟩
      first | (rw [h5]; rfl; done) | (subst h14; rfl; done) | (subst h20; rfl; done) | (subst h30; rfl; done) | (subst h40; rfl; done) | (subst h50; rfl; done) | (simp only [rk, h6, h14, h20, h30, h40, h50, or_self, if_false]; rfl)
    · refine z_iload_n hR dMO_strength_17 (n := 18) rfl rfl ?_
      refine z_bipush hR dMO_strength_18 (v := 82) (n := 20) rfl rfl ?_
      refine z_icmp_ne hR dMO_strength_20 (t := 27) (n := 23) rfl rfl (fun h20 => ?_) (fun h20 => ?_)
      · refine z_iload_n hR dMO_strength_27 (n := 28) rfl rfl ?_
        refine z_bipush hR dMO_strength_28 (v := 38) (n := 30) rfl rfl ?_
        refine z_icmp_ne hR dMO_strength_30 (t := 37) (n := 33) rfl rfl (fun h30 => ?_) (fun h30 => ?_)
        · refine z_iload_n hR dMO_strength_37 (n := 38) rfl rfl ?_
          refine z_bipush hR dMO_strength_38 (v := 124) (n := 40) rfl rfl ?_
          refine z_icmp_ne hR dMO_strength_40 (t := 47) (n := 43) rfl rfl (fun h40 => ?_) (fun h40 => ?_)
          · refine z_iload_n hR dMO_strength_47 (n := 48) rfl rfl ?_
            refine z_bipush hR dMO_strength_48 (v := 62) (n := 50) rfl rfl ?_
            refine z_icmp_ne hR dMO_strength_50 (t := 57) (n := 53) rfl rfl (fun h50 => ?_) (fun h50 => ?_)
            · refine z_iconst hR dMO_strength_57 (v := 0) (n := 58) rfl rfl ?_
              refine z_zret hR dMO_strength_58 rfl rfl (Nat.zero_le _) ?_
              refine ⟨congrArg (fun q => some (Value.int q)) ?_, rfl⟩
              first | (rw [h5]; rfl; done) | (subst h14; rfl; done) | (subst h20; rfl; done) | (subst h30; rfl; done) | (subst h40; rfl; done) | (subst h50; rfl; done) | (simp only [rk, h6, h14, h20, h30, h40, h50, or_self, if_false]; rfl)
            · refine z_iconst hR dMO_strength_53 (v := 1) (n := 54) rfl rfl ?_
              refine z_goto hR dMO_strength_54 (t := 58) rfl ?_
              refine z_zret hR dMO_strength_58 rfl rfl (Nat.zero_le _) ?_
              refine ⟨congrArg (fun q => some (Value.int q)) ?_, rfl⟩
              first | (rw [h5]; rfl; done) | (subst h14; rfl; done) | (subst h20; rfl; done) | (subst h30; rfl; done) | (subst h40; rfl; done) | (subst h50; rfl; done) | (simp only [rk, h6, h14, h20, h30, h40, h50, or_self, if_false]; rfl)
          · refine z_iconst hR dMO_strength_43 (v := 2) (n := 44) rfl rfl ?_
            refine z_goto hR dMO_strength_44 (t := 58) rfl ?_
            refine z_zret hR dMO_strength_58 rfl rfl (Nat.zero_le _) ?_
            refine ⟨congrArg (fun q => some (Value.int q)) ?_, rfl⟩
            first | (rw [h5]; rfl; done) | (subst h14; rfl; done) | (subst h20; rfl; done) | (subst h30; rfl; done) | (subst h40; rfl; done) | (subst h50; rfl; done) | (simp only [rk, h6, h14, h20, h30, h40, h50, or_self, if_false]; rfl)
        · refine z_iconst hR dMO_strength_33 (v := 3) (n := 34) rfl rfl ?_
          refine z_goto hR dMO_strength_34 (t := 58) rfl ?_
          refine z_zret hR dMO_strength_58 rfl rfl (Nat.zero_le _) ?_
          refine ⟨congrArg (fun q => some (Value.int q)) ?_, rfl⟩
          first | (rw [h5]; rfl; done) | (subst h14; rfl; done) | (subst h20; rfl; done) | (subst h30; rfl; done) | (subst h40; rfl; done) | (subst h50; rfl; done) | (simp only [rk, h6, h14, h20, h30, h40, h50, or_self, if_false]; rfl)
      · refine z_iconst hR dMO_strength_23 (v := 4) (n := 24) rfl rfl ?_
        refine z_goto hR dMO_strength_24 (t := 58) rfl ?_
        refine z_zret hR dMO_strength_58 rfl rfl (Nat.zero_le _) ?_
        refine ⟨congrArg (fun q => some (Value.int q)) ?_, rfl⟩
        first | (rw [h5]; rfl; done) | (subst h14; rfl; done) | (subst h20; rfl; done) | (subst h30; rfl; done) | (subst h40; rfl; done) | (subst h50; rfl; done) | (simp only [rk, h6, h14, h20, h30, h40, h50, or_self, if_false]; rfl)
  · have h5 : rk c = 5 := of_decide_eq_true h4
    refine z_iconst hR dMO_strength_7 (v := 5) (n := 8) rfl rfl ?_
    refine z_goto hR dMO_strength_8 (t := 58) rfl ?_
    refine z_zret hR dMO_strength_58 rfl rfl (Nat.zero_le _) ?_
    refine ⟨congrArg (fun q => some (Value.int q)) ?_, rfl⟩
    first | (rw [h5]; rfl; done) | (subst h14; rfl; done) | (subst h20; rfl; done) | (subst h30; rfl; done) | (subst h40; rfl; done) | (subst h50; rfl; done) | (simp only [rk, h6, h14, h20, h30, h40, h50, or_self, if_false]; rfl)
/-- the reference's picture -/
def aM (σ : zS) (nd : nL3) (ops : List Int32) (opd : List Nat) : Prop := σ.1 45 10 = nI nd.length ∧ nds (σ.1 51) (σ.1 52) (σ.1 53) nd ∧ σ.1 45 16 = nI ops.length ∧ stk (σ.1 55) ops ∧ σ.1 45 14 = nI opd.length ∧ stk (σ.1 54) (opd.map nI)
theorem m_MO_node (c a b : Int32) {nd : nL3} {ops : List Int32} {opd : List Nat} (σ : zS) (h : aM σ nd ops opd) (hl : nd.length < 40) (hl2 : opd.length < 40) : zM yMO_node cMO_node 4 none 0 0 0 [.ref 45, .int c, .int a, .int b] σ (fun r σ2 => r = none ∧ zfr [45, 51, 52, 53, 54] σ σ2 ∧ zfd [10, 14] σ σ2 ∧ aM σ2 ((c, a, b) :: nd) ops (nd.length :: opd)) (fun _ _ => False) := by
  refine zM.of [some (.ref 45), some (.int c), some (.int a), some (.int b)] (by decide) 0 rfl (fun _ => Nat.le_of_ble_eq_true rfl) (fun Z hR => ?_)
  obtain ⟨q1, q2, q3, q4, q5, q6⟩ := h
  refine z_aload_n hR dMO_node_0 (n := 1) rfl rfl ?_
  refine z_getR hR dMO_node_1 (n := 4) rfl zgMO_25 (by decide) rfl rfl ?_
  refine z_aload_n hR dMO_node_4 (n := 5) rfl rfl ?_
  refine z_getI hR dMO_node_5 (n := 8) rfl zgMO_104 (by decide) rfl rfl ?_
  rw [q1]
  refine z_iload_n hR dMO_node_8 (n := 9) rfl rfl ?_
  refine z_iast hR (_) dMO_node_9 (n := 10) rfl (by decide) rfl (by decide) rfl (by omega) ?_
  refine z_aload_n hR dMO_node_10 (n := 11) rfl rfl ?_
  refine z_getR hR dMO_node_11 (n := 14) rfl zgMO_28 (by decide) rfl rfl ?_
  refine z_aload_n hR dMO_node_14 (n := 15) rfl rfl ?_
  refine z_getI hR dMO_node_15 (n := 18) rfl zgMO_104 (by decide) rfl rfl ?_
  rw [zwA_n _ _ _ _ (by decide), q1]
  refine z_iload_n hR dMO_node_18 (n := 19) rfl rfl ?_
  refine z_iast hR (_) dMO_node_19 (n := 20) rfl (by decide) rfl (by decide) rfl (by omega) ?_
  refine z_aload_n hR dMO_node_20 (n := 21) rfl rfl ?_
  refine z_getR hR dMO_node_21 (n := 24) rfl zgMO_31 (by decide) rfl rfl ?_
  refine z_aload_n hR dMO_node_24 (n := 25) rfl rfl ?_
  refine z_getI hR dMO_node_25 (n := 28) rfl zgMO_104 (by decide) rfl rfl ?_
  rw [zwA_n _ _ _ _ (by decide), zwA_n _ _ _ _ (by decide), q1]
  refine z_iload_n hR dMO_node_28 (n := 29) rfl rfl ?_
  refine z_iast hR (_) dMO_node_29 (n := 30) rfl (by decide) rfl (by decide) rfl (by omega) ?_
  refine z_aload_n hR dMO_node_30 (n := 31) rfl rfl ?_
  refine z_getR hR dMO_node_31 (n := 34) rfl zgMO_34 (by decide) rfl rfl ?_
  refine z_aload_n hR dMO_node_34 (n := 35) rfl rfl ?_
  refine z_getI hR dMO_node_35 (n := 38) rfl zgMO_107 (by decide) rfl rfl ?_
  rw [zwA_n _ _ _ _ (by decide), zwA_n _ _ _ _ (by decide), zwA_n _ _ _ _ (by decide), q5]
  refine z_aload_n hR dMO_node_38 (n := 39) rfl rfl ?_
  refine z_getI hR dMO_node_39 (n := 42) rfl zgMO_104 (by decide) rfl rfl ?_
  rw [zwA_n _ _ _ _ (by decide), zwA_n _ _ _ _ (by decide), zwA_n _ _ _ _ (by decide), q1]
  refine z_iast hR (_) dMO_node_42 (n := 43) rfl (by decide) rfl (by decide) rfl (by omega) ?_
  refine z_aload_n hR dMO_node_43 (n := 44) rfl rfl ?_
  refine z_dup hR dMO_node_44 (n := 45) rfl rfl ?_
  refine z_getI hR dMO_node_45 (n := 48) rfl zgMO_107 (by decide) rfl rfl ?_
  rw [zwA_n _ _ _ _ (by decide), zwA_n _ _ _ _ (by decide), zwA_n _ _ _ _ (by decide), zwA_n _ _ _ _ (by decide), q5]
  refine z_iconst hR dMO_node_48 (v := nI 1) (n := 49) rfl rfl ?_
  refine z_iaddN hR dMO_node_49 (n := 50) rfl ?_
  refine z_putI hR dMO_node_50 (n := 53) rfl zpMO_107 (by decide) rfl rfl ?_
  refine z_aload_n hR dMO_node_53 (n := 54) rfl rfl ?_
  refine z_dup hR dMO_node_54 (n := 55) rfl rfl ?_
  refine z_getI hR dMO_node_55 (n := 58) rfl zgMO_104 (by decide) rfl rfl ?_
  rw [zwA_sn _ _ _ _ (by decide), zwA_n _ _ _ _ (by decide), zwA_n _ _ _ _ (by decide), zwA_n _ _ _ _ (by decide), zwA_n _ _ _ _ (by decide), q1]
  refine z_iconst hR dMO_node_58 (v := nI 1) (n := 59) rfl rfl ?_
  refine z_iaddN hR dMO_node_59 (n := 60) rfl ?_
  refine z_putI hR dMO_node_60 (n := 63) rfl zpMO_104 (by decide) rfl rfl ?_
  refine z_vret hR dMO_node_63 rfl (Nat.zero_le _) ?_
  refine ⟨rfl, (((((zfr.rf.wA _ (by decide)).wA _ (by decide)).wA _ (by decide)).wA _ (by decide)).wA _ (by decide)).wA _ (by decide), (((((zfd.rf.o _ (by decide)).o _ (by decide)).o _ (by decide)).o _ (by decide)).w _ (by decide)).w _ (by decide), ?_, ?_, ?_, ?_, ?_, ?_⟩
  · rw [zwA_ss]
    rfl
  · refine ⟨?_, ?_, ?_, nds_same (fun i hi => ⟨?_, ?_, ?_⟩) q2⟩
    · simp [zwA_1]
    · simp [zwA_1]
    · simp [zwA_1]
    · simp [zwA_1, show i ≠ nd.length by omega]
    · simp [zwA_1, show i ≠ nd.length by omega]
    · simp [zwA_1, show i ≠ nd.length by omega]
  · simpa [zwA_1] using q3
  · exact stk_same (fun i hi => by simp [zwA_1]) q4
  · simp [zwA_1]
  · refine ⟨by simp [zwA_1], stk_same (fun i hi => ?_) q6⟩
    simp at hi
    simp [zwA_1, show i ≠ opd.length by omega]
theorem m_MO_reduce {c : Int32} (h1 : 1 ≤ rk c) {nd : nL3} {ops : List Int32} {opd : List Nat} (σ : zS) (h : aM σ nd (c :: ops) opd) (hp : aPR nd (c :: ops) opd) (hl : nd.length < 40) (hl3 : ops.length < 40) : zM yMO_reduce cMO_reduce 2 none 1 40 0 [.ref 45] σ (fun r σ2 => r = none ∧ zfr [45, 51, 52, 53, 54] σ σ2 ∧ zfd [10, 14, 16] σ σ2 ∧ aM σ2 (aR1 c nd opd).1 ops (aR1 c nd opd).2) (fun _ _ => False) := by
  refine zM.of [some (.ref 45), none] (by decide) 1 rfl (fun _ => Nat.le_of_ble_eq_true rfl) (fun Z hR => ?_)
  have h5 := rk_5 c
  obtain ⟨p1, p2, p3⟩ := hp
  have hlen := (tCh_len p3).1
  rw [nbin] at p2
  obtain ⟨q1, q2, q3, q4, q5, q6⟩ := h
  simp only [List.length_cons] at q3
  by_cases e5 : rk c = 5
  ·
    obtain ⟨e, es, rfl⟩ : ∃ e es, opd = e :: es := by
      cases opd with
      | nil => simp at p2
      | cons e es => exact ⟨e, es, rfl⟩
    have er : aR1 c nd (e :: es) = ((c, nI e, -1) :: nd, nd.length :: es) := by cases es <;> simp [aR1, e5]
    rw [er] at hR
    simp only [List.length_cons] at q5 hlen
    obtain ⟨q7, q8⟩ := q6
    rw [List.length_map] at q7
    have hA : aM (zwA (zwA σ 45 16 (nI ops.length)) 45 14 (nI es.length)) nd ops es := by
      refine ⟨by simpa [zwA_1] using q1, ?_, by simp [zwA_1], ?_, by simp [zwA_1], ?_⟩
      · refine nds_same (fun i hi => ⟨?_, ?_, ?_⟩) q2 <;> simp [zwA_1]
      · exact stk_same (fun i hi => by simp [zwA_1]) q4.2
      · exact stk_same (fun i hi => by simp [zwA_1]) q8
    refine z_aload_n hR dMO_reduce_0 (n := 1) rfl rfl ?_
    refine z_dup hR dMO_reduce_1 (n := 2) rfl rfl ?_
    refine z_getI hR dMO_reduce_2 (n := 5) rfl zgMO_110 (by decide) rfl rfl ?_
    rw [q3]
    refine z_iconst hR dMO_reduce_5 (v := nI 1) (n := 6) rfl rfl ?_
    refine z_isubN hR dMO_reduce_6 (n := 7) rfl (by omega) ?_
    rw [Nat.add_sub_cancel]
    refine z_putI hR dMO_reduce_7 (n := 10) rfl zpMO_110 (by decide) rfl rfl ?_
    refine z_aload_n hR dMO_reduce_10 (n := 11) rfl rfl ?_
    refine z_getR hR dMO_reduce_11 (n := 14) rfl zgMO_37 (by decide) rfl rfl ?_
    refine z_aload_n hR dMO_reduce_14 (n := 15) rfl rfl ?_
    refine z_getI hR dMO_reduce_15 (n := 18) rfl zgMO_110 (by decide) rfl rfl ?_
    rw [zwA_ss]
    refine z_iald hR (_) dMO_reduce_18 (n := 19) rfl (by decide) rfl (by decide) rfl (by omega) ?_
    rw [zwA_n _ _ _ _ (by decide), q4.1]
    refine z_istore_n hR dMO_reduce_19 (n := 20) rfl (by decide) rfl ?_
    refine z_iload_n hR dMO_reduce_20 (n := 21) rfl rfl ?_
    refine z_callS1 hR dMO_reduce_21 (n := 24) rfl zcMO_100 zkMO_isPrefix (by decide) (Nat.le_of_ble_eq_true rfl) (Nat.zero_le _) (m_MO_isPrefix c _) (fun r21 s21 h21 => ?_)
    obtain ⟨rfl, e21⟩ := h21
    subst s21
    refine z_if_eqB hR dMO_reduce_24 (t := 55) (n := 27) rfl rfl (fun h24 => absurd h24 (by simp [e5])) (fun h24 => ?_)
    refine z_aload_n hR dMO_reduce_27 (n := 28) rfl rfl ?_
    refine z_dup hR dMO_reduce_28 (n := 29) rfl rfl ?_
    refine z_getI hR dMO_reduce_29 (n := 32) rfl zgMO_107 (by decide) rfl rfl ?_
    rw [zwA_sn _ _ _ _ (by decide), q5]
    refine z_iconst hR dMO_reduce_32 (v := nI 1) (n := 33) rfl rfl ?_
    refine z_isubN hR dMO_reduce_33 (n := 34) rfl (by omega) ?_
    rw [Nat.add_sub_cancel]
    refine z_putI hR dMO_reduce_34 (n := 37) rfl zpMO_107 (by decide) rfl rfl ?_
    refine z_aload_n hR dMO_reduce_37 (n := 38) rfl rfl ?_
    refine z_iload_n hR dMO_reduce_38 (n := 39) rfl rfl ?_
    refine z_aload_n hR dMO_reduce_39 (n := 40) rfl rfl ?_
    refine z_getR hR dMO_reduce_40 (n := 43) rfl zgMO_34 (by decide) rfl rfl ?_
    refine z_aload_n hR dMO_reduce_43 (n := 44) rfl rfl ?_
    refine z_getI hR dMO_reduce_44 (n := 47) rfl zgMO_107 (by decide) rfl rfl ?_
    rw [zwA_ss]
    refine z_iald hR (_) dMO_reduce_47 (n := 48) rfl (by decide) rfl (by decide) rfl (by omega) ?_
    rw [zwA_n _ _ _ _ (by decide), zwA_n _ _ _ _ (by decide), q7]
    refine z_iconst hR dMO_reduce_48 (v := (-1)) (n := 49) rfl rfl ?_
    refine z_callV3 hR dMO_reduce_49 (n := 52) rfl zcMO_113 zkMO_node (by decide) (Nat.le_of_ble_eq_true rfl) (by decide) rfl rfl (Nat.zero_le _) (m_MO_node c (nI e) (-1) _ hA hl (by omega)) (fun r49 s49 h49 => ?_)
    obtain ⟨rfl, hf, hk, hC⟩ := h49
    refine z_goto hR dMO_reduce_52 (t := 90) rfl ?_
    refine z_vret hR dMO_reduce_90 rfl (Nat.zero_le _) ?_
    exact ⟨rfl, ((zfr.rf.wA _ (by decide)).wA _ (by decide)).tr hf, ((zfd.rf.w _ (by decide)).w _ (by decide)).tr (hk.mo (by decide)), hC⟩
  ·
    rw [if_pos (by omega)] at p2
    obtain ⟨e, e1, es, rfl⟩ : ∃ e e1 es, opd = e :: e1 :: es := by
      cases opd with
      | nil => simp at p2
      | cons e es => cases es with
        | nil => simp at p2
        | cons e1 es => exact ⟨e, e1, es, rfl⟩
    have er : aR1 c nd (e :: e1 :: es) = ((c, nI e1, nI e) :: nd, nd.length :: es) := by simp [aR1, e5]
    rw [er] at hR
    simp only [List.length_cons] at q5 hlen
    obtain ⟨q7, q8, q9⟩ := q6
    rw [List.length_map, List.length_cons] at q7
    rw [List.length_map] at q8
    have hA : aM (zwA (zwA σ 45 16 (nI ops.length)) 45 14 (nI es.length)) nd ops es := by
      refine ⟨by simpa [zwA_1] using q1, ?_, by simp [zwA_1], ?_, by simp [zwA_1], ?_⟩
      · refine nds_same (fun i hi => ⟨?_, ?_, ?_⟩) q2 <;> simp [zwA_1]
      · exact stk_same (fun i hi => by simp [zwA_1]) q4.2
      · exact stk_same (fun i hi => by simp [zwA_1]) q9
    refine z_aload_n hR dMO_reduce_0 (n := 1) rfl rfl ?_
    refine z_dup hR dMO_reduce_1 (n := 2) rfl rfl ?_
    refine z_getI hR dMO_reduce_2 (n := 5) rfl zgMO_110 (by decide) rfl rfl ?_
    rw [q3]
    refine z_iconst hR dMO_reduce_5 (v := nI 1) (n := 6) rfl rfl ?_
    refine z_isubN hR dMO_reduce_6 (n := 7) rfl (by omega) ?_
    rw [Nat.add_sub_cancel]
    refine z_putI hR dMO_reduce_7 (n := 10) rfl zpMO_110 (by decide) rfl rfl ?_
    refine z_aload_n hR dMO_reduce_10 (n := 11) rfl rfl ?_
    refine z_getR hR dMO_reduce_11 (n := 14) rfl zgMO_37 (by decide) rfl rfl ?_
    refine z_aload_n hR dMO_reduce_14 (n := 15) rfl rfl ?_
    refine z_getI hR dMO_reduce_15 (n := 18) rfl zgMO_110 (by decide) rfl rfl ?_
    rw [zwA_ss]
    refine z_iald hR (_) dMO_reduce_18 (n := 19) rfl (by decide) rfl (by decide) rfl (by omega) ?_
    rw [zwA_n _ _ _ _ (by decide), q4.1]
    refine z_istore_n hR dMO_reduce_19 (n := 20) rfl (by decide) rfl ?_
    refine z_iload_n hR dMO_reduce_20 (n := 21) rfl rfl ?_
    refine z_callS1 hR dMO_reduce_21 (n := 24) rfl zcMO_100 zkMO_isPrefix (by decide) (Nat.le_of_ble_eq_true rfl) (Nat.zero_le _) (m_MO_isPrefix c _) (fun r21 s21 h21 => ?_)
    obtain ⟨rfl, e21⟩ := h21
    subst s21
    refine z_if_eqB hR dMO_reduce_24 (t := 55) (n := 27) rfl rfl (fun h24 => ?_) (fun h24 => absurd h24 (by simp [e5]))
    refine z_aload_n hR dMO_reduce_55 (n := 56) rfl rfl ?_
    refine z_dup hR dMO_reduce_56 (n := 57) rfl rfl ?_
    refine z_getI hR dMO_reduce_57 (n := 60) rfl zgMO_107 (by decide) rfl rfl ?_
    rw [zwA_sn _ _ _ _ (by decide), q5]
    refine z_iconst hR dMO_reduce_60 (v := nI 2) (n := 61) rfl rfl ?_
    refine z_isubN hR dMO_reduce_61 (n := 62) rfl (by omega) ?_
    rw [show es.length + 1 + 1 - 2 = es.length by omega]
    refine z_putI hR dMO_reduce_62 (n := 65) rfl zpMO_107 (by decide) rfl rfl ?_
    refine z_aload_n hR dMO_reduce_65 (n := 66) rfl rfl ?_
    refine z_iload_n hR dMO_reduce_66 (n := 67) rfl rfl ?_
    refine z_aload_n hR dMO_reduce_67 (n := 68) rfl rfl ?_
    refine z_getR hR dMO_reduce_68 (n := 71) rfl zgMO_34 (by decide) rfl rfl ?_
    refine z_aload_n hR dMO_reduce_71 (n := 72) rfl rfl ?_
    refine z_getI hR dMO_reduce_72 (n := 75) rfl zgMO_107 (by decide) rfl rfl ?_
    rw [zwA_ss]
    refine z_iald hR (_) dMO_reduce_75 (n := 76) rfl (by decide) rfl (by decide) rfl (by omega) ?_
    rw [zwA_n _ _ _ _ (by decide), zwA_n _ _ _ _ (by decide), q8]
    refine z_aload_n hR dMO_reduce_76 (n := 77) rfl rfl ?_
    refine z_getR hR dMO_reduce_77 (n := 80) rfl zgMO_34 (by decide) rfl rfl ?_
    refine z_aload_n hR dMO_reduce_80 (n := 81) rfl rfl ?_
    refine z_getI hR dMO_reduce_81 (n := 84) rfl zgMO_107 (by decide) rfl rfl ?_
    rw [zwA_ss]
    refine z_iconst hR dMO_reduce_84 (v := nI 1) (n := 85) rfl rfl ?_
    refine z_iaddN hR dMO_reduce_85 (n := 86) rfl ?_
    refine z_iald hR (_) dMO_reduce_86 (n := 87) rfl (by decide) rfl (by decide) rfl (by omega) ?_
    rw [zwA_n _ _ _ _ (by decide), zwA_n _ _ _ _ (by decide), q7]
    refine z_callV3 hR dMO_reduce_87 (n := 90) rfl zcMO_113 zkMO_node (by decide) (Nat.le_of_ble_eq_true rfl) (by decide) rfl rfl (Nat.zero_le _) (m_MO_node c (nI e1) (nI e) _ hA hl (by omega)) (fun r87 s87 h87 => ?_)
    obtain ⟨rfl, hf, hk, hC⟩ := h87
    refine z_vret hR dMO_reduce_90 rfl (Nat.zero_le _) ?_
    exact ⟨rfl, ((zfr.rf.wA _ (by decide)).wA _ (by decide)).tr hf, ((zfd.rf.w _ (by decide)).w _ (by decide)).tr (hk.mo (by decide)), hC⟩
theorem m_MO_reduceFrom {least : Nat} (hl : 1 ≤ least) (hl5 : least ≤ 5) {nd : nL3} {ops : List Int32} {opd : List Nat} (σ : zS) (h : aM σ nd ops opd) (hp : aPR nd ops opd) (hb : nd.length + ops.length ≤ 32) : zM yMO_reduceFrom cMO_reduceFrom 2 none 2 65 0 [.ref 45, .int (nI least)] σ (fun r σ2 => r = none ∧ zfr [45, 51, 52, 53, 54] σ σ2 ∧ zfd [10, 14, 16] σ σ2 ∧ aM σ2 (aRF least ops nd opd).1 (aRF least ops nd opd).2.1 (aRF least ops nd opd).2.2) (fun _ _ => False) := by
  refine zM.of [some (.ref 45), some (.int (nI least))] (by decide) 0 rfl (fun _ => Nat.le_of_ble_eq_true rfl) (fun Z hR => ?_)
  have key : ∀ (ops2 : List Int32) (nd2 : nL3) (opd2 : List Nat) (τ : zS), aM τ nd2 ops2 opd2 → aPR nd2 ops2 opd2 → nd2.length + ops2.length ≤ 32 → zfr [45, 51, 52, 53, 54] σ τ → zfd [10, 14, 16] σ τ → aRF least ops2 nd2 opd2 = aRF least ops nd opd → Z 0 0 [some (.ref 45), some (.int (nI least))] [] τ := by
    intro ops2
    induction ops2 with
    | nil =>
      intro nd2 opd2 τ hC hP hb hf hk he
      have hw := hC.2.2.1
      refine z_aload_n hR dMO_reduceFrom_0 (n := 1) rfl rfl ?_
      refine z_getI hR dMO_reduceFrom_1 (n := 4) rfl zgMO_110 (by decide) rfl rfl ?_
      rw [hw]
      refine z_if_leN hR dMO_reduceFrom_4 (t := 48) (n := 7) rfl rfl (by omega) (fun h4 => ?_) (fun h4 => absurd h4 (by simp))
      refine z_vret hR dMO_reduceFrom_48 rfl (Nat.zero_le _) ?_
      refine ⟨rfl, hf, hk, ?_⟩
      rw [← he]
      exact hC
    | cons c t ih =>
      intro nd2 opd2 τ hC hP hb hf hk he
      have hw := hC.2.2.1
      have hs := hC.2.2.2.1.1
      simp only [List.length_cons] at hw hb
      rw [aRF] at he
      have hr5 := rk_5 c
      refine z_aload_n hR dMO_reduceFrom_0 (n := 1) rfl rfl ?_
      refine z_getI hR dMO_reduceFrom_1 (n := 4) rfl zgMO_110 (by decide) rfl rfl ?_
      rw [hw]
      refine z_if_leN hR dMO_reduceFrom_4 (t := 48) (n := 7) rfl rfl (by omega) (fun h4 => absurd h4 (by omega)) (fun h4 => ?_)
      refine z_aload_n hR dMO_reduceFrom_7 (n := 8) rfl rfl ?_
      refine z_getR hR dMO_reduceFrom_8 (n := 11) rfl zgMO_37 (by decide) rfl rfl ?_
      refine z_aload_n hR dMO_reduceFrom_11 (n := 12) rfl rfl ?_
      refine z_getI hR dMO_reduceFrom_12 (n := 15) rfl zgMO_110 (by decide) rfl rfl ?_
      rw [hw]
      refine z_iconst hR dMO_reduceFrom_15 (v := nI 1) (n := 16) rfl rfl ?_
      refine z_isubN hR dMO_reduceFrom_16 (n := 17) rfl (by omega) ?_
      rw [Nat.add_sub_cancel]
      refine z_iald hR (_) dMO_reduceFrom_17 (n := 18) rfl (by decide) rfl (by decide) rfl (by omega) ?_
      rw [hs]
      refine z_bipush hR dMO_reduceFrom_18 (v := 40) (n := 20) rfl rfl ?_
      refine z_icmp_eq hR dMO_reduceFrom_20 (t := 48) (n := 23) rfl rfl (fun h20 => ?_) (fun h20 => ?_)
      · rw [if_neg (by rw [h20, rk_40]; omega)] at he
        refine z_vret hR dMO_reduceFrom_48 rfl (Nat.zero_le _) ?_
        refine ⟨rfl, hf, hk, ?_⟩
        rw [← he]
        exact hC
      · refine z_aload_n hR dMO_reduceFrom_23 (n := 24) rfl rfl ?_
        refine z_getR hR dMO_reduceFrom_24 (n := 27) rfl zgMO_37 (by decide) rfl rfl ?_
        refine z_aload_n hR dMO_reduceFrom_27 (n := 28) rfl rfl ?_
        refine z_getI hR dMO_reduceFrom_28 (n := 31) rfl zgMO_110 (by decide) rfl rfl ?_
        rw [hw]
        refine z_iconst hR dMO_reduceFrom_31 (v := nI 1) (n := 32) rfl rfl ?_
        refine z_isubN hR dMO_reduceFrom_32 (n := 33) rfl (by omega) ?_
        rw [Nat.add_sub_cancel]
        refine z_iald hR (_) dMO_reduceFrom_33 (n := 34) rfl (by decide) rfl (by decide) rfl (by omega) ?_
        rw [hs]
        refine z_callS1 hR dMO_reduceFrom_34 (n := 37) rfl zcMO_117 zkMO_strength (by decide) (Nat.le_of_ble_eq_true rfl) (Nat.zero_le _) (m_MO_strength c τ) (fun r34 s34 h34 => ?_)
        obtain ⟨rfl, e34⟩ := h34
        subst s34
        refine z_iload_n hR dMO_reduceFrom_37 (n := 38) rfl rfl ?_
        refine z_icmp_ltN hR dMO_reduceFrom_38 (t := 48) (n := 41) rfl rfl (by omega) (by omega) (fun h38 => ?_) (fun h38 => ?_)
        · rw [if_neg (by omega)] at he
          refine z_vret hR dMO_reduceFrom_48 rfl (Nat.zero_le _) ?_
          refine ⟨rfl, hf, hk, ?_⟩
          rw [← he]
          exact hC
        · rw [if_pos h38] at he
          have hj := aR1_ok hP (by omega)
          refine z_aload_n hR dMO_reduceFrom_41 (n := 42) rfl rfl ?_
          refine z_callV0 hR dMO_reduceFrom_42 (n := 45) rfl zcMO_121 zkMO_reduce (by decide) (Nat.le_of_ble_eq_true rfl) (by decide) rfl rfl (Nat.zero_le _) (m_MO_reduce (by omega) _ hC hP (by omega) (by omega)) (fun r42 s42 h42 => ?_)
          obtain ⟨rfl, hf2, hk2, hC2⟩ := h42
          refine z_goto hR dMO_reduceFrom_45 (t := 0) rfl ?_
          exact ih _ _ _ hC2 hj.1 (by rw [hj.2.1]; omega) (hf.tr hf2) (hk.tr hk2) he
  exact key ops nd opd σ h hp hb zfr.rf zfd.rf rfl
theorem npar_le : ∀ ops : List Int32, npar ops ≤ ops.length
  | [] => Nat.le_refl _
  | c :: t => by
    have := npar_le t
    rw [npar]
    simp
    split <;> omega
theorem aM_f {σ : zS} {nd : nL3} {ops : List Int32} {opd : List Nat} (h : aM σ nd ops opd) {j : Nat} {x : Int32} (h3 : j ≠ 10) (h6 : j ≠ 16) (h8 : j ≠ 14) : aM (zwA σ 45 j x) nd ops opd := by
  unfold aM at *
  rw [zwA_sn _ _ _ _ (Ne.symm h3), zwA_sn _ _ _ _ (Ne.symm h6), zwA_sn _ _ _ _ (Ne.symm h8), zwA_n _ _ _ _ (by decide), zwA_n _ _ _ _ (by decide), zwA_n _ _ _ _ (by decide), zwA_n _ _ _ _ (by decide), zwA_n _ _ _ _ (by decide)]
  exact h
theorem aM_push {σ : zS} {nd : nL3} {ops : List Int32} {opd : List Nat} (h : aM σ nd ops opd) (c : Int32) : aM (zwA (zwA σ 55 ops.length c) 45 16 (nI (ops.length + 1))) nd (c :: ops) opd := by
  obtain ⟨q1, q2, q3, q4, q5, q6⟩ := h
  refine ⟨by simpa [zwA_1] using q1, ?_, by simp [zwA_1], ⟨by simp [zwA_1], ?_⟩, by simpa [zwA_1] using q5, ?_⟩
  · refine nds_same (fun i hi => ⟨?_, ?_, ?_⟩) q2 <;> simp [zwA_1]
  · exact stk_same (fun i hi => by simp [zwA_1, show i ≠ ops.length by omega]) q4
  · exact stk_same (fun i hi => by simp [zwA_1]) q6
theorem aM_pop {σ : zS} {nd : nL3} {c : Int32} {ops : List Int32} {opd : List Nat} (h : aM σ nd (c :: ops) opd) : aM (zwA σ 45 16 (nI ops.length)) nd ops opd := by
  obtain ⟨q1, q2, q3, q4, q5, q6⟩ := h
  refine ⟨by simpa [zwA_1] using q1, ?_, by simp [zwA_1], ?_, by simpa [zwA_1] using q5, ?_⟩
  · refine nds_same (fun i hi => ⟨?_, ?_, ?_⟩) q2 <;> simp [zwA_1]
  · exact stk_same (fun i hi => by simp [zwA_1]) q4.2
  · exact stk_same (fun i hi => by simp [zwA_1]) q6
/-- what the reference's reading finds -/
def aRm (T : Nat → Int32) (n mx : Nat) (nd : nL3) : Prop := ∃ (nd0 : nL3) (ops : List Int32) (opd : List Nat), aGo T n 0 ([], [], [], 0, 0, true) = some (nd0, ops, opd, 0, mx, false) ∧ nd = (aRF 1 ops nd0 opd).1
theorem m_MO_reads {n : Nat} (hn : n ≤ 32) (σ : zS) (hN : σ.1 45 1 = nI n) : zM yMO_reads cMO_reads 6 (some .boolean) 3 100 0 [.ref 45] σ (fun r σ2 => zfr [45, 51, 52, 53, 54, 55] σ σ2 ∧ zfd [10, 14, 16, 18] σ σ2 ∧ ((r = some (.int 0) ∧ ∀ mx nd, ¬ aRm (σ.1 46) n mx nd) ∨ (r = some (.int 1) ∧ ∃ mx nd, aRm (σ.1 46) n mx nd ∧ mx ≤ 32 ∧ σ2.1 45 18 = nI mx ∧ σ2.1 45 10 = nI nd.length ∧ nds (σ2.1 51) (σ2.1 52) (σ2.1 53) nd))) (fun _ _ => False) := by
  refine zM.of [some (.ref 45), none, none, none, none, none] (by decide) 5 rfl (fun _ => Nat.le_of_ble_eq_true rfl) (fun Z hR => ?_)
  generalize hT : σ.1 46 = T at hR
  have nogo : ∀ (m i : Nat) (s : aS), aGo T n 0 ([], [], [], 0, 0, true) = aGo T (m + 1) i s → aStep s (T i) = none → ∀ mx nd, ¬ aRm T n mx nd := by
    intro m i s he hs mx nd ⟨nd0, ops, opd, h1, _⟩
    rw [he, aGo, hs] at h1
    exact absurd h1 (by simp)
  have key : ∀ (m i : Nat) (nd : nL3) (ops : List Int32) (opd : List Nat) (d mx : Nat) (w : Bool) (τ : zS) (l4 l5 : Option Value), i + m = n → aI T i (nd, ops, opd, d, mx, w) → mx ≤ i → aM τ nd ops opd → τ.1 45 18 = nI mx → zfr [45, 51, 52, 53, 54, 55] σ τ → zfd [10, 14, 16, 18] σ τ → aGo T n 0 ([], [], [], 0, 0, true) = aGo T m i (nd, ops, opd, d, mx, w) → Z 0 26 [some (.ref 45), some (.int (nI d)), some (.int (zb w)), some (.int (nI i)), l4, l5] [] τ := by
    intro m
    induction m with
    | zero =>
      intro i nd ops opd d mx w τ l4 l5 him hI hmx hC hD hf hk he
      have hn1 : τ.1 45 1 = nI n := (hk 1 (by decide)).trans hN
      obtain rfl : i = n := by omega
      cases w with
      | true =>
        refine z_iload_n hR dMO_reads_26 (n := 27) rfl rfl ?_
        refine z_aload_n hR dMO_reads_27 (n := 28) rfl rfl ?_
        refine z_getI hR dMO_reads_28 (n := 31) rfl zgMO_97 (by decide) rfl rfl ?_
        rw [hn1]
        refine z_icmp_geN hR dMO_reads_31 (t := 255) (n := 34) rfl rfl (by omega) (by omega) (fun h31 => ?_) (fun h31 => absurd h31 (by omega))
        refine z_iload_n hR dMO_reads_255 (n := 256) rfl rfl ?_
        refine z_if_eqB hR dMO_reads_256 (t := 261) (n := 259) rfl rfl (fun h256 => absurd h256 (by decide)) (fun h256 => ?_)
        refine z_iconst hR dMO_reads_259 (v := 0) (n := 260) rfl rfl ?_
        refine z_zret hR dMO_reads_260 rfl rfl (Nat.zero_le _) ?_
        refine ⟨hf, hk, Or.inl ⟨rfl, ?_⟩⟩
        intro mx2 nd2 ⟨nd0, ops0, opd0, h1, _⟩
        rw [he] at h1
        simp [aGo] at h1
      | false =>
        have hPR := aI_RF hI
        have h6 : nd.length + ops.length ≤ i := hI.2.2.2.2.2.1
        have h2 : npar ops = d := hI.2.1
        obtain ⟨q1, q2, q3, q4, q5, q6⟩ := aRF_ok (least := 1) (by omega) hPR
        refine z_iload_n hR dMO_reads_26 (n := 27) rfl rfl ?_
        refine z_aload_n hR dMO_reads_27 (n := 28) rfl rfl ?_
        refine z_getI hR dMO_reads_28 (n := 31) rfl zgMO_97 (by decide) rfl rfl ?_
        rw [hn1]
        refine z_icmp_geN hR dMO_reads_31 (t := 255) (n := 34) rfl rfl (by omega) (by omega) (fun h31 => ?_) (fun h31 => absurd h31 (by omega))
        refine z_iload_n hR dMO_reads_255 (n := 256) rfl rfl ?_
        refine z_if_eqB hR dMO_reads_256 (t := 261) (n := 259) rfl rfl (fun h256 => ?_) (fun h256 => absurd h256 (by decide))
        refine z_aload_n hR dMO_reads_261 (n := 262) rfl rfl ?_
        refine z_iconst hR dMO_reads_262 (v := nI 1) (n := 263) rfl rfl ?_
        refine z_callV1 hR dMO_reads_263 (n := 266) rfl zcMO_130 zkMO_reduceFrom (by decide) (Nat.le_of_ble_eq_true rfl) (by decide) rfl rfl (Nat.zero_le _) (m_MO_reduceFrom (least := 1) (by omega) (by omega) τ hC hPR (by omega)) (fun r263 s263 h263 => ?_)
        obtain ⟨rfl, hf2, hk2, hC2⟩ := h263
        have hw2 := hC2.2.2.1
        refine z_aload_n hR dMO_reads_266 (n := 267) rfl rfl ?_
        refine z_getI hR dMO_reads_267 (n := 270) rfl zgMO_110 (by decide) rfl rfl ?_
        rw [hw2]
        refine z_if_neN hR dMO_reads_270 (t := 277) (n := 273) rfl rfl (by omega) (fun h270 => ?_) (fun h270 => ?_)
        · have hd0 : d ≠ 0 := fun q => by
            rw [npar_0 q1.1 (by rw [q3, h2]; exact q) q5] at h270
            simp at h270
          refine z_iconst hR dMO_reads_277 (v := 0) (n := 278) rfl rfl ?_
          refine z_zret hR dMO_reads_278 rfl rfl (Nat.zero_le _) ?_
          refine ⟨hf.tr (hf2.mo (by decide)), hk.tr (hk2.mo (by decide)), ?_⟩
          first
            | exact Or.inr ⟨rfl, mx, _, ⟨nd, ops, opd, by rw [he, hd0]; rfl, rfl⟩, by omega, by rw [hk2 18 (by decide)]; exact hD, hC2.1, hC2.2.1⟩
            | exact Or.inl ⟨rfl, fun mx2 nd2 ⟨nd0, ops0, opd0, h1, _⟩ => by rw [he] at h1; simp [aGo] at h1; exact hd0 h1.2.2.2.1⟩
        · have hd0 : d = 0 := by
            have e1 := List.eq_nil_of_length_eq_zero h270
            rw [e1] at q3
            rw [← h2, ← q3]
            rfl
          refine z_iconst hR dMO_reads_273 (v := 1) (n := 274) rfl rfl ?_
          refine z_goto hR dMO_reads_274 (t := 278) rfl ?_
          refine z_zret hR dMO_reads_278 rfl rfl (Nat.zero_le _) ?_
          refine ⟨hf.tr (hf2.mo (by decide)), hk.tr (hk2.mo (by decide)), ?_⟩
          first
            | exact Or.inr ⟨rfl, mx, _, ⟨nd, ops, opd, by rw [he, hd0]; rfl, rfl⟩, by omega, by rw [hk2 18 (by decide)]; exact hD, hC2.1, hC2.2.1⟩
            | exact Or.inl ⟨rfl, fun mx2 nd2 ⟨nd0, ops0, opd0, h1, _⟩ => by rw [he] at h1; simp [aGo] at h1; exact hd0 h1.2.2.2.1⟩
    | succ m ih =>
      intro i nd ops opd d mx w τ l4 l5 him hI hmx hC hD hf hk he
      have hn1 : τ.1 45 1 = nI n := (hk 1 (by decide)).trans hN
      have hTi : τ.1 46 = T := by rw [hf.1 46 (by decide), hT]
      have h6 : nd.length + ops.length ≤ i := hI.2.2.2.2.2.1
      have h2 : npar ops = d := hI.2.1
      have hdl := npar_le ops
      have hdm : d ≤ mx := hI.2.2.1
      have hlen := (tCh_len hI.2.2.2.2.1).1
      simp only at hlen
      have hr5 := rk_5 (T i)
      have next : ∀ (nd2 : nL3) (ops2 : List Int32) (opd2 : List Nat) (d2 mx2 : Nat) (w2 : Bool) (τ2 : zS) (l4 l5 : Option Value), aStep (nd, ops, opd, d, mx, w) (T i) = some (nd2, ops2, opd2, d2, mx2, w2) → mx2 ≤ i + 1 → aM τ2 nd2 ops2 opd2 → τ2.1 45 18 = nI mx2 → zfr [45, 51, 52, 53, 54, 55] σ τ2 → zfd [10, 14, 16, 18] σ τ2 → Z 0 26 [some (.ref 45), some (.int (nI d2)), some (.int (zb w2)), some (.int (nI (i + 1))), l4, l5] [] τ2 := by
        intro nd2 ops2 opd2 d2 mx2 w2 τ2 l4 l5 hs h6 hC2 hD2 hf2 hk2
        refine ih (i + 1) nd2 ops2 opd2 d2 mx2 w2 τ2 l4 l5 (by omega) (aI_s hI hs) h6 hC2 hD2 hf2 hk2 ?_
        rw [he, aGo, hs]
      have stop : aStep (nd, ops, opd, d, mx, w) (T i) = none → ∀ mx nd, ¬ aRm T n mx nd := nogo m i _ he
      cases w with
      | true =>
        by_cases ha : atm (T i) = true
        ·
          refine z_iload_n hR dMO_reads_26 (n := 27) rfl rfl ?_
          refine z_aload_n hR dMO_reads_27 (n := 28) rfl rfl ?_
          refine z_getI hR dMO_reads_28 (n := 31) rfl zgMO_97 (by decide) rfl rfl ?_
          rw [hn1]
          refine z_icmp_geN hR dMO_reads_31 (t := 255) (n := 34) rfl rfl (by omega) (by omega) (fun h31 => absurd h31 (by omega)) (fun h31 => ?_)
          refine z_aload_n hR dMO_reads_34 (n := 35) rfl rfl ?_
          refine z_getR hR dMO_reads_35 (n := 38) rfl zgMO_7 (by decide) rfl rfl ?_
          refine z_iload_n hR dMO_reads_38 (n := 39) rfl rfl ?_
          refine z_iald hR (_) dMO_reads_39 (n := 40) rfl (by decide) rfl (by decide) rfl (by omega) ?_
          rw [hTi]
          refine z_istore hR dMO_reads_40 (n := 42) rfl (by decide) rfl ?_
          refine z_iload_n hR dMO_reads_42 (n := 43) rfl rfl ?_
          refine z_if_eqB hR dMO_reads_43 (t := 143) (n := 46) rfl rfl (fun h43 => absurd h43 (by decide)) (fun h43 => ?_)
          refine z_iload hR dMO_reads_46 (n := 48) rfl rfl ?_
          refine z_callS1 hR dMO_reads_48 (n := 51) rfl zcMO_127 zkMO_isAtom (by decide) (Nat.le_of_ble_eq_true rfl) (Nat.zero_le _) (m_MO_isAtom (T i) τ) (fun r48 s48 h48 => ?_)
          obtain ⟨rfl, e48⟩ := h48
          subst s48
          refine z_if_eqB hR dMO_reads_51 (t := 67) (n := 54) rfl rfl (fun h51 => absurd h51 (by rw [ha]; decide)) (fun h51 => ?_)
          refine z_aload_n hR dMO_reads_54 (n := 55) rfl rfl ?_
          refine z_iload hR dMO_reads_55 (n := 57) rfl rfl ?_
          refine z_iconst hR dMO_reads_57 (v := (-1)) (n := 58) rfl rfl ?_
          refine z_iconst hR dMO_reads_58 (v := (-1)) (n := 59) rfl rfl ?_
          refine z_callV3 hR dMO_reads_59 (n := 62) rfl zcMO_113 zkMO_node (by decide) (Nat.le_of_ble_eq_true rfl) (by decide) rfl rfl (Nat.zero_le _) (m_MO_node (T i) (-1) (-1) τ hC (by omega) (by omega)) (fun r59 s59 h59 => ?_)
          obtain ⟨rfl, hf2, hk2, hC2⟩ := h59
          refine z_iconst hR dMO_reads_62 (v := 0) (n := 63) rfl rfl ?_
          refine z_istore_n hR dMO_reads_63 (n := 64) rfl (by decide) rfl ?_
          refine z_goto hR dMO_reads_64 (t := 249) rfl ?_
          refine z_iincN hR 1 dMO_reads_249 (n := 252) rfl rfl (by decide) rfl rfl ?_
          refine z_goto hR dMO_reads_252 (t := 26) rfl ?_
          exact next _ _ _ _ _ false _ _ _ (by rw [aStep, if_pos ha]) (by omega) hC2 (by rw [hk2 18 (by decide)]; exact hD) (hf.tr (hf2.mo (by decide))) (hk.tr (hk2.mo (by decide)))
        have ha' : atm (T i) = false := by simpa using ha
        by_cases h40 : T i = 40
        ·
          have hr0 : rk (T i) ≠ 5 := by rw [h40]; decide
          have e9 : aStep (nd, ops, opd, d, mx, true) (T i) = some (nd, T i :: ops, opd, d + 1, max mx (d + 1), true) := by rw [aStep, if_neg ha, if_pos h40]
          refine z_iload_n hR dMO_reads_26 (n := 27) rfl rfl ?_
          refine z_aload_n hR dMO_reads_27 (n := 28) rfl rfl ?_
          refine z_getI hR dMO_reads_28 (n := 31) rfl zgMO_97 (by decide) rfl rfl ?_
          rw [hn1]
          refine z_icmp_geN hR dMO_reads_31 (t := 255) (n := 34) rfl rfl (by omega) (by omega) (fun h31 => absurd h31 (by omega)) (fun h31 => ?_)
          refine z_aload_n hR dMO_reads_34 (n := 35) rfl rfl ?_
          refine z_getR hR dMO_reads_35 (n := 38) rfl zgMO_7 (by decide) rfl rfl ?_
          refine z_iload_n hR dMO_reads_38 (n := 39) rfl rfl ?_
          refine z_iald hR (_) dMO_reads_39 (n := 40) rfl (by decide) rfl (by decide) rfl (by omega) ?_
          rw [hTi]
          refine z_istore hR dMO_reads_40 (n := 42) rfl (by decide) rfl ?_
          refine z_iload_n hR dMO_reads_42 (n := 43) rfl rfl ?_
          refine z_if_eqB hR dMO_reads_43 (t := 143) (n := 46) rfl rfl (fun h43 => absurd h43 (by decide)) (fun h43 => ?_)
          refine z_iload hR dMO_reads_46 (n := 48) rfl rfl ?_
          refine z_callS1 hR dMO_reads_48 (n := 51) rfl zcMO_127 zkMO_isAtom (by decide) (Nat.le_of_ble_eq_true rfl) (Nat.zero_le _) (m_MO_isAtom (T i) τ) (fun r48 s48 h48 => ?_)
          obtain ⟨rfl, e48⟩ := h48
          subst s48
          refine z_if_eqB hR dMO_reads_51 (t := 67) (n := 54) rfl rfl (fun h51 => ?_) (fun h51 => absurd h51 (by rw [ha']; decide))
          refine z_iload hR dMO_reads_67 (n := 69) rfl rfl ?_
          refine z_callS1 hR dMO_reads_69 (n := 72) rfl zcMO_100 zkMO_isPrefix (by decide) (Nat.le_of_ble_eq_true rfl) (Nat.zero_le _) (m_MO_isPrefix (T i) τ) (fun r69 s69 h69 => ?_)
          obtain ⟨rfl, e69⟩ := h69
          subst s69
          refine z_if_neB hR dMO_reads_72 (t := 82) (n := 75) rfl rfl (fun h72 => absurd h72 (by simp [hr0])) (fun h72 => ?_)
          refine z_iload hR dMO_reads_75 (n := 77) rfl rfl ?_
          refine z_bipush hR dMO_reads_77 (v := 40) (n := 79) rfl rfl ?_
          refine z_icmp_ne hR dMO_reads_79 (t := 141) (n := 82) rfl rfl (fun h79 => absurd h79 (fun q => q h40)) (fun _ => ?_)
          refine z_aload_n hR dMO_reads_82 (n := 83) rfl rfl ?_
          refine z_getR hR dMO_reads_83 (n := 86) rfl zgMO_37 (by decide) rfl rfl ?_
          refine z_aload_n hR dMO_reads_86 (n := 87) rfl rfl ?_
          refine z_getI hR dMO_reads_87 (n := 90) rfl zgMO_110 (by decide) rfl rfl ?_
          rw [hC.2.2.1]
          refine z_iload hR dMO_reads_90 (n := 92) rfl rfl ?_
          refine z_iast hR (_) dMO_reads_92 (n := 93) rfl (by decide) rfl (by decide) rfl (by omega) ?_
          refine z_aload_n hR dMO_reads_93 (n := 94) rfl rfl ?_
          refine z_dup hR dMO_reads_94 (n := 95) rfl rfl ?_
          refine z_getI hR dMO_reads_95 (n := 98) rfl zgMO_110 (by decide) rfl rfl ?_
          rw [zwA_n _ _ _ _ (by decide), hC.2.2.1]
          refine z_iconst hR dMO_reads_98 (v := nI 1) (n := 99) rfl rfl ?_
          refine z_iaddN hR dMO_reads_99 (n := 100) rfl ?_
          refine z_putI hR dMO_reads_100 (n := 103) rfl zpMO_110 (by decide) rfl rfl ?_
          refine z_iload hR dMO_reads_103 (n := 105) rfl rfl ?_
          refine z_bipush hR dMO_reads_105 (v := 40) (n := 107) rfl rfl ?_
          refine z_icmp_ne hR dMO_reads_107 (t := 116) (n := 110) rfl rfl (fun h107 => absurd h107 (fun q => q h40)) (fun _ => ?_)
          refine z_iload_n hR dMO_reads_110 (n := 111) rfl rfl ?_
          refine z_iconst hR dMO_reads_111 (v := nI 1) (n := 112) rfl rfl ?_
          refine z_iaddN hR dMO_reads_112 (n := 113) rfl ?_
          refine z_goto hR dMO_reads_113 (t := 117) rfl ?_
          refine z_istore_n hR dMO_reads_117 (n := 118) rfl (by decide) rfl ?_
          refine z_aload_n hR dMO_reads_118 (n := 119) rfl rfl ?_
          refine z_iload_n hR dMO_reads_119 (n := 120) rfl rfl ?_
          refine z_aload_n hR dMO_reads_120 (n := 121) rfl rfl ?_
          refine z_getI hR dMO_reads_121 (n := 124) rfl zgMO_124 (by decide) rfl rfl ?_
          rw [zwA_sn _ _ _ _ (by decide), zwA_n _ _ _ _ (by decide), hD]
          refine z_icmp_leN hR dMO_reads_124 (t := 131) (n := 127) rfl rfl (by omega) (by omega) (fun h124 => ?_) (fun h124 => ?_)
          · refine z_aload_n hR dMO_reads_131 (n := 132) rfl rfl ?_
            refine z_getI hR dMO_reads_132 (n := 135) rfl zgMO_124 (by decide) rfl rfl ?_
            rw [zwA_sn _ _ _ _ (by decide), zwA_n _ _ _ _ (by decide), hD]
            refine z_putI hR dMO_reads_135 (n := 138) rfl zpMO_124 (by decide) rfl rfl ?_
            refine z_goto hR dMO_reads_138 (t := 249) rfl ?_
            refine z_iincN hR 1 dMO_reads_249 (n := 252) rfl rfl (by decide) rfl rfl ?_
            refine z_goto hR dMO_reads_252 (t := 26) rfl ?_
            first
              | exact next _ _ _ _ _ true _ _ _ e9 (by omega) (aM_f (aM_push hC _) (by decide) (by decide) (by decide)) (by rw [zwA_ss]; congr 1; omega) (((hf.wA _ (by decide)).wA _ (by decide)).wA _ (by decide)) (((hk.o _ (by decide)).w _ (by decide)).w _ (by decide))
              | skip
          · refine z_iload_n hR dMO_reads_127 (n := 128) rfl rfl ?_
            refine z_goto hR dMO_reads_128 (t := 135) rfl ?_
            refine z_putI hR dMO_reads_135 (n := 138) rfl zpMO_124 (by decide) rfl rfl ?_
            refine z_goto hR dMO_reads_138 (t := 249) rfl ?_
            refine z_iincN hR 1 dMO_reads_249 (n := 252) rfl rfl (by decide) rfl rfl ?_
            refine z_goto hR dMO_reads_252 (t := 26) rfl ?_
            first
              | exact next _ _ _ _ _ true _ _ _ e9 (by omega) (aM_f (aM_push hC _) (by decide) (by decide) (by decide)) (by rw [zwA_ss]; congr 1; omega) (((hf.wA _ (by decide)).wA _ (by decide)).wA _ (by decide)) (((hk.o _ (by decide)).w _ (by decide)).w _ (by decide))
              | skip
        by_cases h5 : rk (T i) = 5
        ·
          have e9 : aStep (nd, ops, opd, d, mx, true) (T i) = some (nd, T i :: ops, opd, d, mx, true) := by rw [aStep, if_neg ha, if_neg h40, if_pos h5]
          refine z_iload_n hR dMO_reads_26 (n := 27) rfl rfl ?_
          refine z_aload_n hR dMO_reads_27 (n := 28) rfl rfl ?_
          refine z_getI hR dMO_reads_28 (n := 31) rfl zgMO_97 (by decide) rfl rfl ?_
          rw [hn1]
          refine z_icmp_geN hR dMO_reads_31 (t := 255) (n := 34) rfl rfl (by omega) (by omega) (fun h31 => absurd h31 (by omega)) (fun h31 => ?_)
          refine z_aload_n hR dMO_reads_34 (n := 35) rfl rfl ?_
          refine z_getR hR dMO_reads_35 (n := 38) rfl zgMO_7 (by decide) rfl rfl ?_
          refine z_iload_n hR dMO_reads_38 (n := 39) rfl rfl ?_
          refine z_iald hR (_) dMO_reads_39 (n := 40) rfl (by decide) rfl (by decide) rfl (by omega) ?_
          rw [hTi]
          refine z_istore hR dMO_reads_40 (n := 42) rfl (by decide) rfl ?_
          refine z_iload_n hR dMO_reads_42 (n := 43) rfl rfl ?_
          refine z_if_eqB hR dMO_reads_43 (t := 143) (n := 46) rfl rfl (fun h43 => absurd h43 (by decide)) (fun h43 => ?_)
          refine z_iload hR dMO_reads_46 (n := 48) rfl rfl ?_
          refine z_callS1 hR dMO_reads_48 (n := 51) rfl zcMO_127 zkMO_isAtom (by decide) (Nat.le_of_ble_eq_true rfl) (Nat.zero_le _) (m_MO_isAtom (T i) τ) (fun r48 s48 h48 => ?_)
          obtain ⟨rfl, e48⟩ := h48
          subst s48
          refine z_if_eqB hR dMO_reads_51 (t := 67) (n := 54) rfl rfl (fun h51 => ?_) (fun h51 => absurd h51 (by rw [ha']; decide))
          refine z_iload hR dMO_reads_67 (n := 69) rfl rfl ?_
          refine z_callS1 hR dMO_reads_69 (n := 72) rfl zcMO_100 zkMO_isPrefix (by decide) (Nat.le_of_ble_eq_true rfl) (Nat.zero_le _) (m_MO_isPrefix (T i) τ) (fun r69 s69 h69 => ?_)
          obtain ⟨rfl, e69⟩ := h69
          subst s69
          refine z_if_neB hR dMO_reads_72 (t := 82) (n := 75) rfl rfl (fun h72 => ?_) (fun h72 => absurd h72 (by simp [h5]))
          refine z_aload_n hR dMO_reads_82 (n := 83) rfl rfl ?_
          refine z_getR hR dMO_reads_83 (n := 86) rfl zgMO_37 (by decide) rfl rfl ?_
          refine z_aload_n hR dMO_reads_86 (n := 87) rfl rfl ?_
          refine z_getI hR dMO_reads_87 (n := 90) rfl zgMO_110 (by decide) rfl rfl ?_
          rw [hC.2.2.1]
          refine z_iload hR dMO_reads_90 (n := 92) rfl rfl ?_
          refine z_iast hR (_) dMO_reads_92 (n := 93) rfl (by decide) rfl (by decide) rfl (by omega) ?_
          refine z_aload_n hR dMO_reads_93 (n := 94) rfl rfl ?_
          refine z_dup hR dMO_reads_94 (n := 95) rfl rfl ?_
          refine z_getI hR dMO_reads_95 (n := 98) rfl zgMO_110 (by decide) rfl rfl ?_
          rw [zwA_n _ _ _ _ (by decide), hC.2.2.1]
          refine z_iconst hR dMO_reads_98 (v := nI 1) (n := 99) rfl rfl ?_
          refine z_iaddN hR dMO_reads_99 (n := 100) rfl ?_
          refine z_putI hR dMO_reads_100 (n := 103) rfl zpMO_110 (by decide) rfl rfl ?_
          refine z_iload hR dMO_reads_103 (n := 105) rfl rfl ?_
          refine z_bipush hR dMO_reads_105 (v := 40) (n := 107) rfl rfl ?_
          refine z_icmp_ne hR dMO_reads_107 (t := 116) (n := 110) rfl rfl (fun _ => ?_) (fun h107 => absurd h107 h40)
          refine z_iload_n hR dMO_reads_116 (n := 117) rfl rfl ?_
          refine z_istore_n hR dMO_reads_117 (n := 118) rfl (by decide) rfl ?_
          refine z_aload_n hR dMO_reads_118 (n := 119) rfl rfl ?_
          refine z_iload_n hR dMO_reads_119 (n := 120) rfl rfl ?_
          refine z_aload_n hR dMO_reads_120 (n := 121) rfl rfl ?_
          refine z_getI hR dMO_reads_121 (n := 124) rfl zgMO_124 (by decide) rfl rfl ?_
          rw [zwA_sn _ _ _ _ (by decide), zwA_n _ _ _ _ (by decide), hD]
          refine z_icmp_leN hR dMO_reads_124 (t := 131) (n := 127) rfl rfl (by omega) (by omega) (fun h124 => ?_) (fun h124 => absurd h124 (by omega))
          refine z_aload_n hR dMO_reads_131 (n := 132) rfl rfl ?_
          refine z_getI hR dMO_reads_132 (n := 135) rfl zgMO_124 (by decide) rfl rfl ?_
          rw [zwA_sn _ _ _ _ (by decide), zwA_n _ _ _ _ (by decide), hD]
          refine z_putI hR dMO_reads_135 (n := 138) rfl zpMO_124 (by decide) rfl rfl ?_
          refine z_goto hR dMO_reads_138 (t := 249) rfl ?_
          refine z_iincN hR 1 dMO_reads_249 (n := 252) rfl rfl (by decide) rfl rfl ?_
          refine z_goto hR dMO_reads_252 (t := 26) rfl ?_
          exact next _ _ _ _ _ true _ _ _ e9 (by omega) (aM_f (aM_push hC _) (by decide) (by decide) (by decide)) (by rw [zwA_ss]) (((hf.wA _ (by decide)).wA _ (by decide)).wA _ (by decide)) (((hk.o _ (by decide)).w _ (by decide)).w _ (by decide))
        refine z_iload_n hR dMO_reads_26 (n := 27) rfl rfl ?_
        refine z_aload_n hR dMO_reads_27 (n := 28) rfl rfl ?_
        refine z_getI hR dMO_reads_28 (n := 31) rfl zgMO_97 (by decide) rfl rfl ?_
        rw [hn1]
        refine z_icmp_geN hR dMO_reads_31 (t := 255) (n := 34) rfl rfl (by omega) (by omega) (fun h31 => absurd h31 (by omega)) (fun h31 => ?_)
        refine z_aload_n hR dMO_reads_34 (n := 35) rfl rfl ?_
        refine z_getR hR dMO_reads_35 (n := 38) rfl zgMO_7 (by decide) rfl rfl ?_
        refine z_iload_n hR dMO_reads_38 (n := 39) rfl rfl ?_
        refine z_iald hR (_) dMO_reads_39 (n := 40) rfl (by decide) rfl (by decide) rfl (by omega) ?_
        rw [hTi]
        refine z_istore hR dMO_reads_40 (n := 42) rfl (by decide) rfl ?_
        refine z_iload_n hR dMO_reads_42 (n := 43) rfl rfl ?_
        refine z_if_eqB hR dMO_reads_43 (t := 143) (n := 46) rfl rfl (fun h43 => absurd h43 (by decide)) (fun h43 => ?_)
        refine z_iload hR dMO_reads_46 (n := 48) rfl rfl ?_
        refine z_callS1 hR dMO_reads_48 (n := 51) rfl zcMO_127 zkMO_isAtom (by decide) (Nat.le_of_ble_eq_true rfl) (Nat.zero_le _) (m_MO_isAtom (T i) τ) (fun r48 s48 h48 => ?_)
        obtain ⟨rfl, e48⟩ := h48
        subst s48
        refine z_if_eqB hR dMO_reads_51 (t := 67) (n := 54) rfl rfl (fun h51 => ?_) (fun h51 => absurd h51 (by rw [ha']; decide))
        refine z_iload hR dMO_reads_67 (n := 69) rfl rfl ?_
        refine z_callS1 hR dMO_reads_69 (n := 72) rfl zcMO_100 zkMO_isPrefix (by decide) (Nat.le_of_ble_eq_true rfl) (Nat.zero_le _) (m_MO_isPrefix (T i) τ) (fun r69 s69 h69 => ?_)
        obtain ⟨rfl, e69⟩ := h69
        subst s69
        refine z_if_neB hR dMO_reads_72 (t := 82) (n := 75) rfl rfl (fun h72 => absurd h72 (by simp [h5])) (fun h72 => ?_)
        refine z_iload hR dMO_reads_75 (n := 77) rfl rfl ?_
        refine z_bipush hR dMO_reads_77 (v := 40) (n := 79) rfl rfl ?_
        refine z_icmp_ne hR dMO_reads_79 (t := 141) (n := 82) rfl rfl (fun _ => ?_) (fun h79 => absurd h79 h40)
        refine z_iconst hR dMO_reads_141 (v := 0) (n := 142) rfl rfl ?_
        refine z_zret hR dMO_reads_142 rfl rfl (Nat.zero_le _) ?_
        exact ⟨hf, hk, Or.inl ⟨rfl, stop (by rw [aStep, if_neg ha, if_neg h40, if_neg h5])⟩⟩
      | false =>
        have hPR := aI_RF hI
        by_cases h41 : T i = 41
        ·
          obtain ⟨q1, q2, q3, q4, q5, q6⟩ := aRF_ok (least := 1) (by omega) hPR
          by_cases hd0 : d = 0
          ·
            have e1 := npar_0 q1.1 (by rw [q3, h2]; exact hd0) q5
            refine z_iload_n hR dMO_reads_26 (n := 27) rfl rfl ?_
            refine z_aload_n hR dMO_reads_27 (n := 28) rfl rfl ?_
            refine z_getI hR dMO_reads_28 (n := 31) rfl zgMO_97 (by decide) rfl rfl ?_
            rw [hn1]
            refine z_icmp_geN hR dMO_reads_31 (t := 255) (n := 34) rfl rfl (by omega) (by omega) (fun h31 => absurd h31 (by omega)) (fun h31 => ?_)
            refine z_aload_n hR dMO_reads_34 (n := 35) rfl rfl ?_
            refine z_getR hR dMO_reads_35 (n := 38) rfl zgMO_7 (by decide) rfl rfl ?_
            refine z_iload_n hR dMO_reads_38 (n := 39) rfl rfl ?_
            refine z_iald hR (_) dMO_reads_39 (n := 40) rfl (by decide) rfl (by decide) rfl (by omega) ?_
            rw [hTi]
            refine z_istore hR dMO_reads_40 (n := 42) rfl (by decide) rfl ?_
            refine z_iload_n hR dMO_reads_42 (n := 43) rfl rfl ?_
            refine z_if_eqB hR dMO_reads_43 (t := 143) (n := 46) rfl rfl (fun h43 => ?_) (fun h43 => absurd h43 (by decide))
            refine z_iload hR dMO_reads_143 (n := 145) rfl rfl ?_
            refine z_bipush hR dMO_reads_145 (v := 41) (n := 147) rfl rfl ?_
            refine z_icmp_ne hR dMO_reads_147 (t := 180) (n := 150) rfl rfl (fun h147 => absurd h147 (fun q => q h41)) (fun _ => ?_)
            refine z_aload_n hR dMO_reads_150 (n := 151) rfl rfl ?_
            refine z_iconst hR dMO_reads_151 (v := nI 1) (n := 152) rfl rfl ?_
            refine z_callV1 hR dMO_reads_152 (n := 155) rfl zcMO_130 zkMO_reduceFrom (by decide) (Nat.le_of_ble_eq_true rfl) (by decide) rfl rfl (Nat.zero_le _) (m_MO_reduceFrom (least := 1) (by omega) (by omega) τ hC hPR (by omega)) (fun r152 s152 h152 => ?_)
            obtain ⟨rfl, hf2, hk2, hC2⟩ := h152
            have hw2 := hC2.2.2.1
            rw [e1, List.length_nil] at hw2
            refine z_aload_n hR dMO_reads_155 (n := 156) rfl rfl ?_
            refine z_getI hR dMO_reads_156 (n := 159) rfl zgMO_110 (by decide) rfl rfl ?_
            rw [hw2]
            refine z_if_neN hR dMO_reads_159 (t := 164) (n := 162) rfl rfl (by omega) (fun h159 => absurd h159 (by simp)) (fun h159 => ?_)
            refine z_iconst hR dMO_reads_162 (v := 0) (n := 163) rfl rfl ?_
            refine z_zret hR dMO_reads_163 rfl rfl (Nat.zero_le _) ?_
            exact ⟨hf.tr (hf2.mo (by decide)), hk.tr (hk2.mo (by decide)), Or.inl ⟨rfl, stop (by rw [aStep, if_pos h41, if_pos hd0])⟩⟩
          ·
            obtain ⟨u, hu⟩ := npar_1 q1.1 (by rw [q3, h2]; exact hd0) q5
            have e9 : aStep (nd, ops, opd, d, mx, false) (T i) = some ((aRF 1 ops nd opd).1, u, (aRF 1 ops nd opd).2.2, d - 1, mx, false) := by rw [aStep, if_pos h41, if_neg hd0, hu, List.tail_cons]
            refine z_iload_n hR dMO_reads_26 (n := 27) rfl rfl ?_
            refine z_aload_n hR dMO_reads_27 (n := 28) rfl rfl ?_
            refine z_getI hR dMO_reads_28 (n := 31) rfl zgMO_97 (by decide) rfl rfl ?_
            rw [hn1]
            refine z_icmp_geN hR dMO_reads_31 (t := 255) (n := 34) rfl rfl (by omega) (by omega) (fun h31 => absurd h31 (by omega)) (fun h31 => ?_)
            refine z_aload_n hR dMO_reads_34 (n := 35) rfl rfl ?_
            refine z_getR hR dMO_reads_35 (n := 38) rfl zgMO_7 (by decide) rfl rfl ?_
            refine z_iload_n hR dMO_reads_38 (n := 39) rfl rfl ?_
            refine z_iald hR (_) dMO_reads_39 (n := 40) rfl (by decide) rfl (by decide) rfl (by omega) ?_
            rw [hTi]
            refine z_istore hR dMO_reads_40 (n := 42) rfl (by decide) rfl ?_
            refine z_iload_n hR dMO_reads_42 (n := 43) rfl rfl ?_
            refine z_if_eqB hR dMO_reads_43 (t := 143) (n := 46) rfl rfl (fun h43 => ?_) (fun h43 => absurd h43 (by decide))
            refine z_iload hR dMO_reads_143 (n := 145) rfl rfl ?_
            refine z_bipush hR dMO_reads_145 (v := 41) (n := 147) rfl rfl ?_
            refine z_icmp_ne hR dMO_reads_147 (t := 180) (n := 150) rfl rfl (fun h147 => absurd h147 (fun q => q h41)) (fun _ => ?_)
            refine z_aload_n hR dMO_reads_150 (n := 151) rfl rfl ?_
            refine z_iconst hR dMO_reads_151 (v := nI 1) (n := 152) rfl rfl ?_
            refine z_callV1 hR dMO_reads_152 (n := 155) rfl zcMO_130 zkMO_reduceFrom (by decide) (Nat.le_of_ble_eq_true rfl) (by decide) rfl rfl (Nat.zero_le _) (m_MO_reduceFrom (least := 1) (by omega) (by omega) τ hC hPR (by omega)) (fun r152 s152 h152 => ?_)
            obtain ⟨rfl, hf2, hk2, hC2⟩ := h152
            rw [hu] at hC2 q2
            simp only [List.length_cons] at q2
            have hw2 := hC2.2.2.1
            rw [List.length_cons] at hw2
            refine z_aload_n hR dMO_reads_155 (n := 156) rfl rfl ?_
            refine z_getI hR dMO_reads_156 (n := 159) rfl zgMO_110 (by decide) rfl rfl ?_
            rw [hw2]
            refine z_if_neN hR dMO_reads_159 (t := 164) (n := 162) rfl rfl (by omega) (fun h159 => ?_) (fun h159 => absurd h159 (by omega))
            refine z_aload_n hR dMO_reads_164 (n := 165) rfl rfl ?_
            refine z_dup hR dMO_reads_165 (n := 166) rfl rfl ?_
            refine z_getI hR dMO_reads_166 (n := 169) rfl zgMO_110 (by decide) rfl rfl ?_
            rw [hw2]
            refine z_iconst hR dMO_reads_169 (v := nI 1) (n := 170) rfl rfl ?_
            refine z_isubN hR dMO_reads_170 (n := 171) rfl (by omega) ?_
            rw [Nat.add_sub_cancel]
            refine z_putI hR dMO_reads_171 (n := 174) rfl zpMO_110 (by decide) rfl rfl ?_
            refine z_iincD hR dMO_reads_174 (n := 177) rfl (by decide) rfl rfl (by omega) ?_
            refine z_goto hR dMO_reads_177 (t := 249) rfl ?_
            refine z_iincN hR 1 dMO_reads_249 (n := 252) rfl rfl (by decide) rfl rfl ?_
            refine z_goto hR dMO_reads_252 (t := 26) rfl ?_
            exact next _ _ _ _ _ false _ _ _ e9 (by omega) (aM_pop hC2) (by rw [zwA_sn _ _ _ _ (by decide), hk2 18 (by decide)]; exact hD) ((hf.tr (hf2.mo (by decide))).wA _ (by decide)) ((hk.tr (hk2.mo (by decide))).w _ (by decide))
        by_cases h05 : rk (T i) = 0 ∨ rk (T i) = 5
        ·
          refine z_iload_n hR dMO_reads_26 (n := 27) rfl rfl ?_
          refine z_aload_n hR dMO_reads_27 (n := 28) rfl rfl ?_
          refine z_getI hR dMO_reads_28 (n := 31) rfl zgMO_97 (by decide) rfl rfl ?_
          rw [hn1]
          refine z_icmp_geN hR dMO_reads_31 (t := 255) (n := 34) rfl rfl (by omega) (by omega) (fun h31 => absurd h31 (by omega)) (fun h31 => ?_)
          refine z_aload_n hR dMO_reads_34 (n := 35) rfl rfl ?_
          refine z_getR hR dMO_reads_35 (n := 38) rfl zgMO_7 (by decide) rfl rfl ?_
          refine z_iload_n hR dMO_reads_38 (n := 39) rfl rfl ?_
          refine z_iald hR (_) dMO_reads_39 (n := 40) rfl (by decide) rfl (by decide) rfl (by omega) ?_
          rw [hTi]
          refine z_istore hR dMO_reads_40 (n := 42) rfl (by decide) rfl ?_
          refine z_iload_n hR dMO_reads_42 (n := 43) rfl rfl ?_
          refine z_if_eqB hR dMO_reads_43 (t := 143) (n := 46) rfl rfl (fun h43 => ?_) (fun h43 => absurd h43 (by decide))
          refine z_iload hR dMO_reads_143 (n := 145) rfl rfl ?_
          refine z_bipush hR dMO_reads_145 (v := 41) (n := 147) rfl rfl ?_
          refine z_icmp_ne hR dMO_reads_147 (t := 180) (n := 150) rfl rfl (fun _ => ?_) (fun h147 => absurd h147 h41)
          refine z_iload hR dMO_reads_180 (n := 182) rfl rfl ?_
          refine z_callS1 hR dMO_reads_182 (n := 185) rfl zcMO_117 zkMO_strength (by decide) (Nat.le_of_ble_eq_true rfl) (Nat.zero_le _) (m_MO_strength (T i) τ) (fun r182 s182 h182 => ?_)
          obtain ⟨rfl, e182⟩ := h182
          subst s182
          refine z_istore hR dMO_reads_185 (n := 187) rfl (by decide) rfl ?_
          refine z_iload hR dMO_reads_187 (n := 189) rfl rfl ?_
          refine z_iconst hR dMO_reads_189 (v := nI 1) (n := 190) rfl rfl ?_
          refine z_icmp_ltN hR dMO_reads_190 (t := 199) (n := 193) rfl rfl (by omega) (by omega) (fun h190 => ?_) (fun h190 => ?_)
          · refine z_iconst hR dMO_reads_199 (v := 0) (n := 200) rfl rfl ?_
            refine z_zret hR dMO_reads_200 rfl rfl (Nat.zero_le _) ?_
            exact ⟨hf, hk, Or.inl ⟨rfl, stop (by rw [aStep, if_neg h41, if_pos h05])⟩⟩
          · refine z_iload hR dMO_reads_193 (n := 195) rfl rfl ?_
            refine z_iconst hR dMO_reads_195 (v := nI 4) (n := 196) rfl rfl ?_
            refine z_icmp_leN hR dMO_reads_196 (t := 201) (n := 199) rfl rfl (by omega) (by omega) (fun h196 => absurd h196 (by omega)) (fun h196 => ?_)
            refine z_iconst hR dMO_reads_199 (v := 0) (n := 200) rfl rfl ?_
            refine z_zret hR dMO_reads_200 rfl rfl (Nat.zero_le _) ?_
            exact ⟨hf, hk, Or.inl ⟨rfl, stop (by rw [aStep, if_neg h41, if_pos h05])⟩⟩
        ·
          have hrg := rk_rgt (fun q => h05 (Or.inl q)) (fun q => h05 (Or.inr q))
          have fin : ∀ (least : Nat), (if rgt (T i) then rk (T i) + 1 else rk (T i)) = least → Z 0 223 [some (.ref 45), some (.int (nI d)), some (.int (zb false)), some (.int (nI i)), some (.int (T i)), some (.int (nI (rk (T i))))] [.int (nI least), .ref 45] τ := by
            intro least hle
            have hl1 : 1 ≤ least := by
              rw [← hle]
              split <;> omega
            have hl5 : least ≤ 5 := by
              rw [← hle]
              split <;> omega
            obtain ⟨q1, q2, q3, q4, q5, q6⟩ := aRF_ok hl1 hPR
            have e9 : aStep (nd, ops, opd, d, mx, false) (T i) = some ((aRF least ops nd opd).1, T i :: (aRF least ops nd opd).2.1, (aRF least ops nd opd).2.2, d, mx, true) := by rw [aStep, if_neg h41, if_neg h05, hle]
            refine z_callV1 hR dMO_reads_223 (n := 226) rfl zcMO_130 zkMO_reduceFrom (by decide) (Nat.le_of_ble_eq_true rfl) (by decide) rfl rfl (Nat.zero_le _) (m_MO_reduceFrom hl1 hl5 τ hC hPR (by omega)) (fun r223 s223 h223 => ?_)
            obtain ⟨rfl, hf2, hk2, hC2⟩ := h223
            have hw2 := hC2.2.2.1
            refine z_aload_n hR dMO_reads_226 (n := 227) rfl rfl ?_
            refine z_getR hR dMO_reads_227 (n := 230) rfl zgMO_37 (by decide) rfl rfl ?_
            refine z_aload_n hR dMO_reads_230 (n := 231) rfl rfl ?_
            refine z_getI hR dMO_reads_231 (n := 234) rfl zgMO_110 (by decide) rfl rfl ?_
            rw [hw2]
            refine z_iload hR dMO_reads_234 (n := 236) rfl rfl ?_
            refine z_iast hR (_) dMO_reads_236 (n := 237) rfl (by decide) rfl (by decide) rfl (by omega) ?_
            refine z_aload_n hR dMO_reads_237 (n := 238) rfl rfl ?_
            refine z_dup hR dMO_reads_238 (n := 239) rfl rfl ?_
            refine z_getI hR dMO_reads_239 (n := 242) rfl zgMO_110 (by decide) rfl rfl ?_
            rw [zwA_n _ _ _ _ (by decide), hw2]
            refine z_iconst hR dMO_reads_242 (v := nI 1) (n := 243) rfl rfl ?_
            refine z_iaddN hR dMO_reads_243 (n := 244) rfl ?_
            refine z_putI hR dMO_reads_244 (n := 247) rfl zpMO_110 (by decide) rfl rfl ?_
            refine z_iconst hR dMO_reads_247 (v := 1) (n := 248) rfl rfl ?_
            refine z_istore_n hR dMO_reads_248 (n := 249) rfl (by decide) rfl ?_
            refine z_iincN hR 1 dMO_reads_249 (n := 252) rfl rfl (by decide) rfl rfl ?_
            refine z_goto hR dMO_reads_252 (t := 26) rfl ?_
            exact next _ _ _ _ _ true _ _ _ e9 (by omega) (aM_push hC2 _) (by rw [zwA_sn _ _ _ _ (by decide), zwA_n _ _ _ _ (by decide), hk2 18 (by decide)]; exact hD) (((hf.tr (hf2.mo (by decide))).wA _ (by decide)).wA _ (by decide)) (((hk.tr (hk2.mo (by decide))).o _ (by decide)).w _ (by decide))
          refine z_iload_n hR dMO_reads_26 (n := 27) rfl rfl ?_
          refine z_aload_n hR dMO_reads_27 (n := 28) rfl rfl ?_
          refine z_getI hR dMO_reads_28 (n := 31) rfl zgMO_97 (by decide) rfl rfl ?_
          rw [hn1]
          refine z_icmp_geN hR dMO_reads_31 (t := 255) (n := 34) rfl rfl (by omega) (by omega) (fun h31 => absurd h31 (by omega)) (fun h31 => ?_)
          refine z_aload_n hR dMO_reads_34 (n := 35) rfl rfl ?_
          refine z_getR hR dMO_reads_35 (n := 38) rfl zgMO_7 (by decide) rfl rfl ?_
          refine z_iload_n hR dMO_reads_38 (n := 39) rfl rfl ?_
          refine z_iald hR (_) dMO_reads_39 (n := 40) rfl (by decide) rfl (by decide) rfl (by omega) ?_
          rw [hTi]
          refine z_istore hR dMO_reads_40 (n := 42) rfl (by decide) rfl ?_
          refine z_iload_n hR dMO_reads_42 (n := 43) rfl rfl ?_
          refine z_if_eqB hR dMO_reads_43 (t := 143) (n := 46) rfl rfl (fun h43 => ?_) (fun h43 => absurd h43 (by decide))
          refine z_iload hR dMO_reads_143 (n := 145) rfl rfl ?_
          refine z_bipush hR dMO_reads_145 (v := 41) (n := 147) rfl rfl ?_
          refine z_icmp_ne hR dMO_reads_147 (t := 180) (n := 150) rfl rfl (fun _ => ?_) (fun h147 => absurd h147 h41)
          refine z_iload hR dMO_reads_180 (n := 182) rfl rfl ?_
          refine z_callS1 hR dMO_reads_182 (n := 185) rfl zcMO_117 zkMO_strength (by decide) (Nat.le_of_ble_eq_true rfl) (Nat.zero_le _) (m_MO_strength (T i) τ) (fun r182 s182 h182 => ?_)
          obtain ⟨rfl, e182⟩ := h182
          subst s182
          refine z_istore hR dMO_reads_185 (n := 187) rfl (by decide) rfl ?_
          refine z_iload hR dMO_reads_187 (n := 189) rfl rfl ?_
          refine z_iconst hR dMO_reads_189 (v := nI 1) (n := 190) rfl rfl ?_
          refine z_icmp_ltN hR dMO_reads_190 (t := 199) (n := 193) rfl rfl (by omega) (by omega) (fun h190 => absurd h190 (by omega)) (fun h190 => ?_)
          refine z_iload hR dMO_reads_193 (n := 195) rfl rfl ?_
          refine z_iconst hR dMO_reads_195 (v := nI 4) (n := 196) rfl rfl ?_
          refine z_icmp_leN hR dMO_reads_196 (t := 201) (n := 199) rfl rfl (by omega) (by omega) (fun h196 => ?_) (fun h196 => absurd h196 (by omega))
          refine z_aload_n hR dMO_reads_201 (n := 202) rfl rfl ?_
          refine z_iload hR dMO_reads_202 (n := 204) rfl rfl ?_
          refine z_iconst hR dMO_reads_204 (v := nI 4) (n := 205) rfl rfl ?_
          refine z_icmp_eqN hR dMO_reads_205 (t := 214) (n := 208) rfl rfl (by omega) (by omega) (fun h205 => ?_) (fun h205 => ?_)
          · refine z_iload hR dMO_reads_214 (n := 216) rfl rfl ?_
            refine z_iconst hR dMO_reads_216 (v := nI 1) (n := 217) rfl rfl ?_
            refine z_iaddN hR dMO_reads_217 (n := 218) rfl ?_
            refine z_goto hR dMO_reads_218 (t := 223) rfl ?_
            exact fin _ (by rw [hrg]; split <;> rename_i q <;> simp at q <;> omega)
          · refine z_iload hR dMO_reads_208 (n := 210) rfl rfl ?_
            refine z_iconst hR dMO_reads_210 (v := nI 1) (n := 211) rfl rfl ?_
            refine z_icmp_neN hR dMO_reads_211 (t := 221) (n := 214) rfl rfl (by omega) (by omega) (fun h211 => ?_) (fun h211 => ?_)
            · refine z_iload hR dMO_reads_221 (n := 223) rfl rfl ?_
              exact fin _ (by rw [hrg]; split <;> rename_i q <;> simp at q <;> omega)
            · refine z_iload hR dMO_reads_214 (n := 216) rfl rfl ?_
              refine z_iconst hR dMO_reads_216 (v := nI 1) (n := 217) rfl rfl ?_
              refine z_iaddN hR dMO_reads_217 (n := 218) rfl ?_
              refine z_goto hR dMO_reads_218 (t := 223) rfl ?_
              exact fin _ (by rw [hrg]; split <;> rename_i q <;> simp at q <;> omega)
  refine z_aload_n hR dMO_reads_0 (n := 1) rfl rfl ?_
  refine z_iconst hR dMO_reads_1 (v := 0) (n := 2) rfl rfl ?_
  refine z_putI hR dMO_reads_2 (n := 5) rfl zpMO_104 (by decide) rfl rfl ?_
  refine z_aload_n hR dMO_reads_5 (n := 6) rfl rfl ?_
  refine z_iconst hR dMO_reads_6 (v := 0) (n := 7) rfl rfl ?_
  refine z_putI hR dMO_reads_7 (n := 10) rfl zpMO_107 (by decide) rfl rfl ?_
  refine z_aload_n hR dMO_reads_10 (n := 11) rfl rfl ?_
  refine z_iconst hR dMO_reads_11 (v := 0) (n := 12) rfl rfl ?_
  refine z_putI hR dMO_reads_12 (n := 15) rfl zpMO_110 (by decide) rfl rfl ?_
  refine z_aload_n hR dMO_reads_15 (n := 16) rfl rfl ?_
  refine z_iconst hR dMO_reads_16 (v := 0) (n := 17) rfl rfl ?_
  refine z_putI hR dMO_reads_17 (n := 20) rfl zpMO_124 (by decide) rfl rfl ?_
  refine z_iconst hR dMO_reads_20 (v := nI 0) (n := 21) rfl rfl ?_
  refine z_istore_n hR dMO_reads_21 (n := 22) rfl (by decide) rfl ?_
  refine z_iconst hR dMO_reads_22 (v := 1) (n := 23) rfl rfl ?_
  refine z_istore_n hR dMO_reads_23 (n := 24) rfl (by decide) rfl ?_
  refine z_iconst hR dMO_reads_24 (v := nI 0) (n := 25) rfl rfl ?_
  refine z_istore_n hR dMO_reads_25 (n := 26) rfl (by decide) rfl ?_
  exact key n 0 [] [] [] 0 0 true _ _ _ (by omega) (aI_0 T) (Nat.le_refl _) ⟨by simp [zwA_1]; rfl, trivial, by simp [zwA_1]; rfl, trivial, by simp [zwA_1]; rfl, trivial⟩ (by simp [zwA_1]; rfl) ((((zfr.rf.wA _ (by decide)).wA _ (by decide)).wA _ (by decide)).wA _ (by decide)) ((((zfd.rf.w _ (by decide)).w _ (by decide)).w _ (by decide)).w _ (by decide)) rfl
