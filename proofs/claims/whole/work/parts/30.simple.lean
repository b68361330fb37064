/-! Methods of a few rows: the class -/
/-- the answer says whether it holds -/
def zBo (p : Prop) (r : Option Value) : Prop := (p ∧ r = some (.int 1)) ∨ (¬ p ∧ r = some (.int 0))
theorem m_PC_length (σ : zS) : zM yPC_length cPC_length 1 (some .int) 0 0 0 [.ref 0] σ (fun r σ2 => r = some (.int (σ.1 0 1)) ∧ σ2 = σ) (fun _ _ => False) := by
  refine zM.of [some (.ref 0)] (by decide) 0 rfl (fun _ => Nat.le_of_ble_eq_true rfl) (fun Z hR => ?_)
  refine z_aload_n hR dPC_length_0 (n := 1) rfl rfl ?_
  refine z_getI hR dPC_length_1 (n := 4) rfl zgPC_67 (by decide) rfl rfl ?_
  refine z_zret hR dPC_length_4 rfl rfl (Nat.zero_le _) ?_
  exact ⟨rfl, rfl⟩
theorem m_PC_wipe (σ : zS) : zM yPC_wipe cPC_wipe 1 none 0 0 0 [.ref 0] σ (fun _ σ2 => σ2 = zwA σ 0 1 0) (fun _ _ => False) := by
  refine zM.of [some (.ref 0)] (by decide) 0 rfl (fun _ => Nat.le_of_ble_eq_true rfl) (fun Z hR => ?_)
  refine z_aload_n hR dPC_wipe_0 (n := 1) rfl rfl ?_
  refine z_iconst hR dPC_wipe_1 (v := 0) (n := 2) rfl rfl ?_
  refine z_putI hR dPC_wipe_2 (n := 5) rfl zpPC_67 (by decide) rfl rfl ?_
  refine z_vret hR dPC_wipe_5 rfl (Nat.zero_le _) ?_
  rfl
theorem m_PC_clear (σ : zS) : zM yPC_clear cPC_clear 1 none 0 0 0 [.ref 0] σ (fun _ σ2 => σ2 = zwA σ 8 1 0) (fun _ _ => False) := by
  refine zM.of [some (.ref 0)] (by decide) 0 rfl (fun _ => Nat.le_of_ble_eq_true rfl) (fun Z hR => ?_)
  refine z_aload_n hR dPC_clear_0 (n := 1) rfl rfl ?_
  refine z_getR hR dPC_clear_1 (n := 4) rfl zgPC_25 (by decide) rfl rfl ?_
  refine z_iconst hR dPC_clear_4 (v := 0) (n := 5) rfl rfl ?_
  refine z_putI hR dPC_clear_5 (n := 8) rfl zpPC_147 (by decide) rfl rfl ?_
  refine z_vret hR dPC_clear_8 rfl (Nat.zero_le _) ?_
  rfl
/-- is it a state: its number, or none -/
def zIs (s : Int32) (r : Option Value) : Prop := (∃ j : Nat, j < 6 ∧ s = nI j ∧ r = some (.int 1)) ∨ ((∀ j : Nat, j < 6 → s ≠ nI j) ∧ r = some (.int 0))
theorem zIs_no {s : Int32} (h : s < 0 ∨ nI 6 ≤ s) : ∀ j : Nat, j < 6 → s ≠ nI j := by
  intro j hj e
  subst e
  rcases h with h | h
  · exact nI_pos (by omega) h
  · exact nI_ge hj (by omega) h
theorem zIs_yes {s : Int32} (h1 : ¬ s < 0) (h7 : ¬ nI 6 ≤ s) : ∃ j : Nat, j < 6 ∧ s = nI j ∧ some (Value.int 1) = some (.int 1) := by
  rcases pk_ix s (n := 6) (by decide) with h | h | ⟨j, hj, e⟩
  · exact absurd h h1
  · exact absurd h h7
  · exact ⟨j, hj, e, rfl⟩
/-- a is linked to b, in the class's words -/
def zJ (σ : zS) (a b : Nat) : Prop := ((σ.1 44 a).toUInt32 >>> ((nI b).toUInt32 &&& Int32.toUInt32 31)).toInt32 &&& 1 = 1
theorem m_PC_isState (s : Int32) (σ : zS) : zM yPC_isState cPC_isState 1 (some .boolean) 0 0 0 [.int s] σ (fun r σ2 => σ2 = σ ∧ zIs s r) (fun _ _ => False) := by
  refine zM.of [some (.int s)] (by decide) 0 rfl (fun _ => Nat.le_of_ble_eq_true rfl) (fun Z hR => ?_)
  refine z_iload_n hR dPC_isState_0 (n := 1) rfl rfl ?_
  refine z_if_lt hR dPC_isState_1 (t := 14) (n := 4) rfl rfl (fun h1 => ?_) (fun h1 => ?_)
  · refine z_iconst hR dPC_isState_14 (v := 0) (n := 15) rfl rfl ?_
    refine z_zret hR dPC_isState_15 rfl rfl (Nat.zero_le _) ?_
    first | exact ⟨rfl, Or.inr ⟨zIs_no (Or.inl h1), rfl⟩⟩ | exact ⟨rfl, Or.inr ⟨zIs_no (Or.inr h7), rfl⟩⟩ | exact ⟨rfl, Or.inl (zIs_yes h1 h7)⟩
  · refine z_iload_n hR dPC_isState_4 (n := 5) rfl rfl ?_
    refine z_bipush hR dPC_isState_5 (v := 6) (n := 7) rfl rfl ?_
    refine z_icmp_ge hR dPC_isState_7 (t := 14) (n := 10) rfl rfl (fun h7 => ?_) (fun h7 => ?_)
    · refine z_iconst hR dPC_isState_14 (v := 0) (n := 15) rfl rfl ?_
      refine z_zret hR dPC_isState_15 rfl rfl (Nat.zero_le _) ?_
      first | exact ⟨rfl, Or.inr ⟨zIs_no (Or.inl h1), rfl⟩⟩ | exact ⟨rfl, Or.inr ⟨zIs_no (Or.inr h7), rfl⟩⟩ | exact ⟨rfl, Or.inl (zIs_yes h1 h7)⟩
    · refine z_iconst hR dPC_isState_10 (v := 1) (n := 11) rfl rfl ?_
      refine z_goto hR dPC_isState_11 (t := 15) rfl ?_
      refine z_zret hR dPC_isState_15 rfl rfl (Nat.zero_le _) ?_
      first | exact ⟨rfl, Or.inr ⟨zIs_no (Or.inl h1), rfl⟩⟩ | exact ⟨rfl, Or.inr ⟨zIs_no (Or.inr h7), rfl⟩⟩ | exact ⟨rfl, Or.inl (zIs_yes h1 h7)⟩
/-- the structure: marks at place 43, links at place 44 -/
theorem m_ST_joins (a b : Nat) (ha : a < 6) (hb : b < 6) (σ : zS) : zM yST_joins cST_joins 3 (some .boolean) 0 0 0 [.ref 42, .int (nI a), .int (nI b)] σ (fun r σ2 => σ2 = σ ∧ zBo (zJ σ a b) r) (fun _ _ => False) := by
  refine zM.of [some (.ref 42), some (.int (nI a)), some (.int (nI b))] (by decide) 0 rfl (fun _ => Nat.le_of_ble_eq_true rfl) (fun Z hR => ?_)
  refine z_aload_n hR dST_joins_0 (n := 1) rfl rfl ?_
  refine z_getR hR dST_joins_1 (n := 4) rfl zgST_15 (by decide) rfl rfl ?_
  refine z_iload_n hR dST_joins_4 (n := 5) rfl rfl ?_
  refine z_iald hR (a) dST_joins_5 (n := 6) rfl (by decide) rfl (by decide) rfl ha ?_
  refine z_iload_n hR dST_joins_6 (n := 7) rfl rfl ?_
  refine z_iushr hR dST_joins_7 (n := 8) rfl ?_
  refine z_iconst hR dST_joins_8 (v := 1) (n := 9) rfl rfl ?_
  refine z_iand hR dST_joins_9 (n := 10) rfl ?_
  refine z_iconst hR dST_joins_10 (v := 1) (n := 11) rfl rfl ?_
  refine z_icmp_ne hR dST_joins_11 (t := 18) (n := 14) rfl rfl (fun h11 => ?_) (fun h11 => ?_)
  · refine z_iconst hR dST_joins_18 (v := 0) (n := 19) rfl rfl ?_
    refine z_zret hR dST_joins_19 rfl rfl (Nat.zero_le _) ?_
    first | exact ⟨rfl, Or.inl ⟨h11, rfl⟩⟩ | exact ⟨rfl, Or.inr ⟨h11, rfl⟩⟩
  · refine z_iconst hR dST_joins_14 (v := 1) (n := 15) rfl rfl ?_
    refine z_goto hR dST_joins_15 (t := 19) rfl ?_
    refine z_zret hR dST_joins_19 rfl rfl (Nat.zero_le _) ?_
    first | exact ⟨rfl, Or.inl ⟨h11, rfl⟩⟩ | exact ⟨rfl, Or.inr ⟨h11, rfl⟩⟩
theorem m_PC_mark (s x : Int32) (σ : zS) : zM yPC_mark cPC_mark 3 (some .boolean) 1 20 0 [.ref 0, .int s, .int x] σ
    (fun r σ2 => (∃ j : Nat, j < 6 ∧ s = nI j ∧ ¬ x < 0 ∧ x ≤ 15 ∧ r = some (.int 1) ∧ σ2 = zwA (zwA σ 43 j x) 0 10 0) ∨ (((∀ j : Nat, j < 6 → s ≠ nI j) ∨ x < 0 ∨ ¬ x ≤ 15) ∧ r = some (.int 0) ∧ σ2 = σ)) (fun _ _ => False) := by
  refine zM.of [some (.ref 0), some (.int s), some (.int x)] (by decide) 0 rfl (fun _ => Nat.le_of_ble_eq_true rfl) (fun Z hR => ?_)
  refine z_iload_n hR dPC_mark_0 (n := 1) rfl rfl ?_
  refine z_callS1 hR dPC_mark_1 (n := 4) rfl zcPC_108 zkPC_isState (by decide) (Nat.le_of_ble_eq_true rfl) (Nat.zero_le _) (m_PC_isState s σ) (fun r1 s1 h1 => ?_)
  obtain ⟨rfl, h1 | h1⟩ := h1
  ·
    obtain ⟨j, hj, rfl, rfl⟩ := h1
    refine z_if_eq hR dPC_mark_4 (t := 17) (n := 7) rfl rfl (fun h4 => absurd h4 (by decide)) (fun _ => ?_)
    refine z_iload_n hR dPC_mark_7 (n := 8) rfl rfl ?_
    refine z_if_lt hR dPC_mark_8 (t := 17) (n := 11) rfl rfl (fun h8 => ?_) (fun h8 => ?_)
    · refine z_iconst hR dPC_mark_17 (v := 0) (n := 18) rfl rfl ?_
      refine z_zret hR dPC_mark_18 rfl rfl (Nat.zero_le _) ?_
      first | exact Or.inr ⟨Or.inr (Or.inl h8), rfl, rfl⟩ | exact Or.inr ⟨Or.inr (Or.inr h14), rfl, rfl⟩
    · refine z_iload_n hR dPC_mark_11 (n := 12) rfl rfl ?_
      refine z_bipush hR dPC_mark_12 (v := 15) (n := 14) rfl rfl ?_
      refine z_icmp_le hR dPC_mark_14 (t := 19) (n := 17) rfl rfl (fun h14 => ?_) (fun h14 => ?_)
      · refine z_aload_n hR dPC_mark_19 (n := 20) rfl rfl ?_
        refine z_getR hR dPC_mark_20 (n := 23) rfl zgPC_66 (by decide) rfl rfl ?_
        refine z_getR hR dPC_mark_23 (n := 26) rfl zgPC_112 (by decide) rfl rfl ?_
        refine z_iload_n hR dPC_mark_26 (n := 27) rfl rfl ?_
        refine z_iload_n hR dPC_mark_27 (n := 28) rfl rfl ?_
        refine z_iast hR (j) dPC_mark_28 (n := 29) rfl (by decide) rfl (by decide) rfl hj ?_
        refine z_aload_n hR dPC_mark_29 (n := 30) rfl rfl ?_
        refine z_iconst hR dPC_mark_30 (v := 0) (n := 31) rfl rfl ?_
        refine z_putZ hR dPC_mark_31 (n := 34) rfl zpPC_90 (by decide) rfl rfl (by first | exact Or.inl rfl | exact Or.inr rfl | assumption) ?_
        refine z_iconst hR dPC_mark_34 (v := 1) (n := 35) rfl rfl ?_
        refine z_zret hR dPC_mark_35 rfl rfl (Nat.zero_le _) ?_
        exact Or.inl ⟨j, hj, rfl, h8, h14, rfl, rfl⟩
      · refine z_iconst hR dPC_mark_17 (v := 0) (n := 18) rfl rfl ?_
        refine z_zret hR dPC_mark_18 rfl rfl (Nat.zero_le _) ?_
        first | exact Or.inr ⟨Or.inr (Or.inl h8), rfl, rfl⟩ | exact Or.inr ⟨Or.inr (Or.inr h14), rfl, rfl⟩
  ·
    obtain ⟨h1, rfl⟩ := h1
    refine z_if_eq hR dPC_mark_4 (t := 17) (n := 7) rfl rfl (fun _ => ?_) (fun h4 => absurd rfl h4)
    refine z_iconst hR dPC_mark_17 (v := 0) (n := 18) rfl rfl ?_
    refine z_zret hR dPC_mark_18 rfl rfl (Nat.zero_le _) ?_
    exact Or.inr ⟨Or.inl h1, rfl, rfl⟩
