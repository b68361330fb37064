/-! The short methods of both -/
def zNo (s : Int32) : Prop := ∀ j : Nat, j < 6 → s ≠ nI j
theorem zNo_or (s : Int32) : (∃ j : Nat, j < 6 ∧ s = nI j) ∨ zNo s := by
  by_cases h : ∃ j : Nat, j < 6 ∧ s = nI j
  · exact Or.inl h
  · exact Or.inr (fun j hj e => h ⟨j, hj, e⟩)
theorem zNo_ge {s : Int32} (h : zNo s) (h1 : ¬ s < 0) : nI 6 ≤ s := by
  rcases pk_ix s (n := 6) (by decide) with h2 | h2 | ⟨j, hj, e⟩
  · exact absurd h2 h1
  · exact h2
  · exact absurd e (h j hj)
theorem m_PC_isS {j : Nat} (hj : j < 6) (σ : zS) : zM yPC_isState cPC_isState 1 (some .boolean) 0 0 0 [.int (nI j)] σ (fun r σ2 => r = some (.int 1) ∧ σ2 = σ) (fun _ _ => False) := by
  refine zM.of [some (.int (nI j))] (by decide) 0 rfl (fun _ => Nat.le_of_ble_eq_true rfl) (fun Z hR => ?_)
  refine z_iload_n hR dPC_isState_0 (n := 1) rfl rfl ?_
  refine z_if_ltN hR dPC_isState_1 (t := 14) (n := 4) rfl rfl (by omega) ?_
  refine z_iload_n hR dPC_isState_4 (n := 5) rfl rfl ?_
  refine z_bipush hR dPC_isState_5 (v := nI 6) (n := 7) rfl rfl ?_
  refine z_icmp_geN hR dPC_isState_7 (t := 14) (n := 10) rfl rfl (by omega) (by omega) (fun h7 => absurd h7 (by omega)) (fun h7 => ?_)
  refine z_iconst hR dPC_isState_10 (v := 1) (n := 11) rfl rfl ?_
  refine z_goto hR dPC_isState_11 (t := 15) rfl ?_
  refine z_zret hR dPC_isState_15 rfl rfl (Nat.zero_le _) ?_
  exact ⟨rfl, rfl⟩
theorem m_PC_isN {s : Int32} (h : zNo s) (σ : zS) : zM yPC_isState cPC_isState 1 (some .boolean) 0 0 0 [.int s] σ (fun r σ2 => r = some (.int 0) ∧ σ2 = σ) (fun _ _ => False) := by
  refine zM.of [some (.int s)] (by decide) 0 rfl (fun _ => Nat.le_of_ble_eq_true rfl) (fun Z hR => ?_)
  refine z_iload_n hR dPC_isState_0 (n := 1) rfl rfl ?_
  refine z_if_lt hR dPC_isState_1 (t := 14) (n := 4) rfl rfl (fun h1 => ?_) (fun h1 => ?_)
  · refine z_iconst hR dPC_isState_14 (v := 0) (n := 15) rfl rfl ?_
    refine z_zret hR dPC_isState_15 rfl rfl (Nat.zero_le _) ?_
    exact ⟨rfl, rfl⟩
  · refine z_iload_n hR dPC_isState_4 (n := 5) rfl rfl ?_
    refine z_bipush hR dPC_isState_5 (v := 6) (n := 7) rfl rfl ?_
    refine z_icmp_ge hR dPC_isState_7 (t := 14) (n := 10) rfl rfl (fun _ => ?_) (fun h7 => absurd (zNo_ge h h1) h7)
    refine z_iconst hR dPC_isState_14 (v := 0) (n := 15) rfl rfl ?_
    refine z_zret hR dPC_isState_15 rfl rfl (Nat.zero_le _) ?_
    exact ⟨rfl, rfl⟩
theorem m_MO_isS {j : Nat} (hj : j < 6) (σ : zS) : zM yMO_isState cMO_isState 1 (some .boolean) 0 0 0 [.int (nI j)] σ (fun r σ2 => r = some (.int 1) ∧ σ2 = σ) (fun _ _ => False) := by
  refine zM.of [some (.int (nI j))] (by decide) 0 rfl (fun _ => Nat.le_of_ble_eq_true rfl) (fun Z hR => ?_)
  refine z_iload_n hR dMO_isState_0 (n := 1) rfl rfl ?_
  refine z_if_ltN hR dMO_isState_1 (t := 14) (n := 4) rfl rfl (by omega) ?_
  refine z_iload_n hR dMO_isState_4 (n := 5) rfl rfl ?_
  refine z_bipush hR dMO_isState_5 (v := nI 6) (n := 7) rfl rfl ?_
  refine z_icmp_geN hR dMO_isState_7 (t := 14) (n := 10) rfl rfl (by omega) (by omega) (fun h7 => absurd h7 (by omega)) (fun h7 => ?_)
  refine z_iconst hR dMO_isState_10 (v := 1) (n := 11) rfl rfl ?_
  refine z_goto hR dMO_isState_11 (t := 15) rfl ?_
  refine z_zret hR dMO_isState_15 rfl rfl (Nat.zero_le _) ?_
  exact ⟨rfl, rfl⟩
theorem m_MO_isN {s : Int32} (h : zNo s) (σ : zS) : zM yMO_isState cMO_isState 1 (some .boolean) 0 0 0 [.int s] σ (fun r σ2 => r = some (.int 0) ∧ σ2 = σ) (fun _ _ => False) := by
  refine zM.of [some (.int s)] (by decide) 0 rfl (fun _ => Nat.le_of_ble_eq_true rfl) (fun Z hR => ?_)
  refine z_iload_n hR dMO_isState_0 (n := 1) rfl rfl ?_
  refine z_if_lt hR dMO_isState_1 (t := 14) (n := 4) rfl rfl (fun h1 => ?_) (fun h1 => ?_)
  · refine z_iconst hR dMO_isState_14 (v := 0) (n := 15) rfl rfl ?_
    refine z_zret hR dMO_isState_15 rfl rfl (Nat.zero_le _) ?_
    exact ⟨rfl, rfl⟩
  · refine z_iload_n hR dMO_isState_4 (n := 5) rfl rfl ?_
    refine z_bipush hR dMO_isState_5 (v := 6) (n := 7) rfl rfl ?_
    refine z_icmp_ge hR dMO_isState_7 (t := 14) (n := 10) rfl rfl (fun _ => ?_) (fun h7 => absurd (zNo_ge h h1) h7)
    refine z_iconst hR dMO_isState_14 (v := 0) (n := 15) rfl rfl ?_
    refine z_zret hR dMO_isState_15 rfl rfl (Nat.zero_le _) ?_
    exact ⟨rfl, rfl⟩
/-- a is linked to b, by the class -/
def jn (σ : zS) (a b : Nat) : Bool := tb (σ.1 44 a) b
theorem m_ST_jn {a b : Nat} (ha : a < 6) (hb : b < 6) (σ : zS) : zM yST_joins cST_joins 3 (some .boolean) 0 0 0 [.ref 42, .int (nI a), .int (nI b)] σ (fun r σ2 => r = some (.int (zb (jn σ a b))) ∧ σ2 = σ) (fun _ _ => False) := by
  refine zM.of [some (.ref 42), some (.int (nI a)), some (.int (nI b))] (by decide) 0 rfl (fun _ => Nat.le_of_ble_eq_true rfl) (fun Z hR => ?_)
  refine z_aload_n hR dST_joins_0 (n := 1) rfl rfl ?_
  refine z_getR hR dST_joins_1 (n := 4) rfl zgST_15 (by decide) rfl rfl ?_
  refine z_iload_n hR dST_joins_4 (n := 5) rfl rfl ?_
  refine z_iald hR (_) dST_joins_5 (n := 6) rfl (by decide) rfl (by decide) rfl (by omega) ?_
  refine z_iload_n hR dST_joins_6 (n := 7) rfl rfl ?_
  refine z_iushr hR dST_joins_7 (n := 8) rfl ?_
  refine z_iconst hR dST_joins_8 (v := 1) (n := 9) rfl rfl ?_
  refine z_iand hR dST_joins_9 (n := 10) rfl ?_
  rw [tb_us1 _ (by omega : b < 32)]
  refine z_iconst hR dST_joins_10 (v := 1) (n := 11) rfl rfl ?_
  refine z_icmp_ne hR dST_joins_11 (t := 18) (n := 14) rfl rfl (fun h11 => ?_) (fun h11 => ?_)
  · refine z_iconst hR dST_joins_18 (v := 0) (n := 19) rfl rfl ?_
    refine z_zret hR dST_joins_19 rfl rfl (Nat.zero_le _) ?_
    first | exact ⟨congrArg (fun q => some (Value.int q)) h11.symm, rfl⟩ | (refine ⟨congrArg (fun q => some (Value.int q)) ?_, rfl⟩; rw [jn]; rcases zb_01 (tb (σ.1 44 a) b) with q | q; exact q.symm; exact absurd q h11)
  · refine z_iconst hR dST_joins_14 (v := 1) (n := 15) rfl rfl ?_
    refine z_goto hR dST_joins_15 (t := 19) rfl ?_
    refine z_zret hR dST_joins_19 rfl rfl (Nat.zero_le _) ?_
    first | exact ⟨congrArg (fun q => some (Value.int q)) h11.symm, rfl⟩ | (refine ⟨congrArg (fun q => some (Value.int q)) ?_, rfl⟩; rw [jn]; rcases zb_01 (tb (σ.1 44 a) b) with q | q; exact q.symm; exact absurd q h11)
theorem m_PC_go1 {j n : Nat} (hj : j < 6) (σ : zS) (hn : σ.1 8 1 = nI n) (h8 : n < 8) : zM yPC_go cPC_go 2 (some .int) 1 20 0 [.ref 0, .int (nI j)] σ (fun r σ2 => r = some (.int (nI (n + 1))) ∧ σ2 = zwA (zwA σ 9 n (nI j)) 8 1 (nI (n + 1))) (fun _ _ => False) := by
  refine zM.of [some (.ref 0), some (.int (nI j))] (by decide) 0 rfl (fun _ => Nat.le_of_ble_eq_true rfl) (fun Z hR => ?_)
  refine z_iload_n hR dPC_go_0 (n := 1) rfl rfl ?_
  refine z_callS1 hR dPC_go_1 (n := 4) rfl zcPC_108 zkPC_isState (by decide) (Nat.le_of_ble_eq_true rfl) (Nat.zero_le _) (m_PC_isS hj σ) (fun r1 s1 h1 => ?_)
  obtain ⟨rfl, rfl⟩ := h1
  refine z_if_eq hR dPC_go_4 (t := 19) (n := 7) rfl rfl (fun h4 => absurd h4 (by decide)) (fun _ => ?_)
  refine z_aload_n hR dPC_go_7 (n := 8) rfl rfl ?_
  refine z_getR hR dPC_go_8 (n := 11) rfl zgPC_25 (by decide) rfl rfl ?_
  refine z_getI hR dPC_go_11 (n := 14) rfl zgPC_147 (by decide) rfl rfl ?_
  rw [hn]
  refine z_bipush hR dPC_go_14 (v := nI 8) (n := 16) rfl rfl ?_
  refine z_icmp_ltN hR dPC_go_16 (t := 21) (n := 19) rfl rfl (by omega) (by omega) (fun h16 => ?_) (fun h16 => absurd h16 (by omega))
  refine z_aload_n hR dPC_go_21 (n := 22) rfl rfl ?_
  refine z_getR hR dPC_go_22 (n := 25) rfl zgPC_25 (by decide) rfl rfl ?_
  refine z_getR hR dPC_go_25 (n := 28) rfl zgPC_153 (by decide) rfl rfl ?_
  refine z_aload_n hR dPC_go_28 (n := 29) rfl rfl ?_
  refine z_getR hR dPC_go_29 (n := 32) rfl zgPC_25 (by decide) rfl rfl ?_
  refine z_getI hR dPC_go_32 (n := 35) rfl zgPC_147 (by decide) rfl rfl ?_
  rw [hn]
  refine z_iload_n hR dPC_go_35 (n := 36) rfl rfl ?_
  refine z_iast hR (_) dPC_go_36 (n := 37) rfl (by decide) rfl (by decide) rfl (by omega) ?_
  refine z_aload_n hR dPC_go_37 (n := 38) rfl rfl ?_
  refine z_getR hR dPC_go_38 (n := 41) rfl zgPC_25 (by decide) rfl rfl ?_
  refine z_dup hR dPC_go_41 (n := 42) rfl rfl ?_
  refine z_getI hR dPC_go_42 (n := 45) rfl zgPC_147 (by decide) rfl rfl ?_
  rw [zwA_n _ _ _ _ (by decide), hn]
  refine z_iconst hR dPC_go_45 (v := nI 1) (n := 46) rfl rfl ?_
  refine z_iaddN hR dPC_go_46 (n := 47) rfl ?_
  refine z_putI hR dPC_go_47 (n := 50) rfl zpPC_147 (by decide) rfl rfl ?_
  refine z_aload_n hR dPC_go_50 (n := 51) rfl rfl ?_
  refine z_getR hR dPC_go_51 (n := 54) rfl zgPC_25 (by decide) rfl rfl ?_
  refine z_getI hR dPC_go_54 (n := 57) rfl zgPC_147 (by decide) rfl rfl ?_
  rw [zwA_ss]
  refine z_zret hR dPC_go_57 rfl rfl (Nat.zero_le _) ?_
  exact ⟨rfl, rfl⟩
theorem m_PC_go0 {s : Int32} {n : Nat} (σ : zS) (hn : σ.1 8 1 = nI n) (h8 : n ≤ 8) (h : zNo s ∨ n = 8) : zM yPC_go cPC_go 2 (some .int) 1 20 0 [.ref 0, .int s] σ (fun r σ2 => r = some (.int (-1)) ∧ σ2 = σ) (fun _ _ => False) := by
  refine zM.of [some (.ref 0), some (.int s)] (by decide) 0 rfl (fun _ => Nat.le_of_ble_eq_true rfl) (fun Z hR => ?_)
  rcases zNo_or s with ⟨j, hj, rfl⟩ | hs
  ·
    refine z_iload_n hR dPC_go_0 (n := 1) rfl rfl ?_
    refine z_callS1 hR dPC_go_1 (n := 4) rfl zcPC_108 zkPC_isState (by decide) (Nat.le_of_ble_eq_true rfl) (Nat.zero_le _) (m_PC_isS hj σ) (fun r1 s1 h1 => ?_)
    obtain ⟨rfl, rfl⟩ := h1
    refine z_if_eq hR dPC_go_4 (t := 19) (n := 7) rfl rfl (fun h4 => absurd h4 (by decide)) (fun _ => ?_)
    refine z_aload_n hR dPC_go_7 (n := 8) rfl rfl ?_
    refine z_getR hR dPC_go_8 (n := 11) rfl zgPC_25 (by decide) rfl rfl ?_
    refine z_getI hR dPC_go_11 (n := 14) rfl zgPC_147 (by decide) rfl rfl ?_
    rw [hn]
    refine z_bipush hR dPC_go_14 (v := nI 8) (n := 16) rfl rfl ?_
    refine z_icmp_ltN hR dPC_go_16 (t := 21) (n := 19) rfl rfl (by omega) (by omega) (fun h16 => absurd h16 (by rcases h with h | h; exact absurd rfl (h j hj); omega)) (fun h16 => ?_)
    refine z_iconst hR dPC_go_19 (v := (-1)) (n := 20) rfl rfl ?_
    refine z_zret hR dPC_go_20 rfl rfl (Nat.zero_le _) ?_
    exact ⟨rfl, rfl⟩
  ·
    refine z_iload_n hR dPC_go_0 (n := 1) rfl rfl ?_
    refine z_callS1 hR dPC_go_1 (n := 4) rfl zcPC_108 zkPC_isState (by decide) (Nat.le_of_ble_eq_true rfl) (Nat.zero_le _) (m_PC_isN hs σ) (fun r1 s1 h1 => ?_)
    obtain ⟨rfl, rfl⟩ := h1
    refine z_if_eq hR dPC_go_4 (t := 19) (n := 7) rfl rfl (fun _ => ?_) (fun h4 => absurd rfl h4)
    refine z_iconst hR dPC_go_19 (v := (-1)) (n := 20) rfl rfl ?_
    refine z_zret hR dPC_go_20 rfl rfl (Nat.zero_le _) ?_
    exact ⟨rfl, rfl⟩
theorem m_MO_go1 {j n : Nat} (hj : j < 6) (σ : zS) (hn : σ.1 45 23 = nI n) (h8 : n < 8) : zM yMO_go cMO_go 2 (some .int) 1 20 0 [.ref 45, .int (nI j)] σ (fun r σ2 => r = some (.int (nI (n + 1))) ∧ σ2 = zwA (zwA (zwA σ 45 0 0) 59 n (nI j)) 45 23 (nI (n + 1))) (fun _ _ => False) := by
  refine zM.of [some (.ref 45), some (.int (nI j))] (by decide) 0 rfl (fun _ => Nat.le_of_ble_eq_true rfl) (fun Z hR => ?_)
  refine z_aload_n hR dMO_go_0 (n := 1) rfl rfl ?_
  refine z_iconst hR dMO_go_1 (v := 0) (n := 2) rfl rfl ?_
  refine z_putI hR dMO_go_2 (n := 5) rfl zpMO_93 (by decide) rfl rfl ?_
  refine z_iload_n hR dMO_go_5 (n := 6) rfl rfl ?_
  refine z_callS1 hR dMO_go_6 (n := 9) rfl zcMO_174 zkMO_isState (by decide) (Nat.le_of_ble_eq_true rfl) (Nat.zero_le _) (m_MO_isS hj _) (fun r6 s6 h6 => ?_)
  obtain ⟨rfl, rfl⟩ := h6
  refine z_if_eq hR dMO_go_9 (t := 21) (n := 12) rfl rfl (fun h9 => absurd h9 (by decide)) (fun _ => ?_)
  refine z_aload_n hR dMO_go_12 (n := 13) rfl rfl ?_
  refine z_getI hR dMO_go_13 (n := 16) rfl zgMO_226 (by decide) rfl rfl ?_
  rw [zwA_sn _ _ _ _ (by decide), hn]
  refine z_bipush hR dMO_go_16 (v := nI 8) (n := 18) rfl rfl ?_
  refine z_icmp_neN hR dMO_go_18 (t := 23) (n := 21) rfl rfl (by omega) (by omega) (fun h18 => ?_) (fun h18 => absurd h18 (by omega))
  refine z_aload_n hR dMO_go_23 (n := 24) rfl rfl ?_
  refine z_getR hR dMO_go_24 (n := 27) rfl zgMO_50 (by decide) rfl rfl ?_
  refine z_aload_n hR dMO_go_27 (n := 28) rfl rfl ?_
  refine z_getI hR dMO_go_28 (n := 31) rfl zgMO_226 (by decide) rfl rfl ?_
  rw [zwA_sn _ _ _ _ (by decide), hn]
  refine z_iload_n hR dMO_go_31 (n := 32) rfl rfl ?_
  refine z_iast hR (_) dMO_go_32 (n := 33) rfl (by decide) rfl (by decide) rfl (by omega) ?_
  refine z_aload_n hR dMO_go_33 (n := 34) rfl rfl ?_
  refine z_dup hR dMO_go_34 (n := 35) rfl rfl ?_
  refine z_getI hR dMO_go_35 (n := 38) rfl zgMO_226 (by decide) rfl rfl ?_
  rw [zwA_n _ _ _ _ (by decide), zwA_sn _ _ _ _ (by decide), hn]
  refine z_iconst hR dMO_go_38 (v := nI 1) (n := 39) rfl rfl ?_
  refine z_iaddN hR dMO_go_39 (n := 40) rfl ?_
  refine z_putI hR dMO_go_40 (n := 43) rfl zpMO_226 (by decide) rfl rfl ?_
  refine z_aload_n hR dMO_go_43 (n := 44) rfl rfl ?_
  refine z_getI hR dMO_go_44 (n := 47) rfl zgMO_226 (by decide) rfl rfl ?_
  rw [zwA_ss]
  refine z_zret hR dMO_go_47 rfl rfl (Nat.zero_le _) ?_
  exact ⟨rfl, rfl⟩
theorem m_MO_go0 {s : Int32} {n : Nat} (σ : zS) (hn : σ.1 45 23 = nI n) (h8 : n ≤ 8) (h : zNo s ∨ n = 8) : zM yMO_go cMO_go 2 (some .int) 1 20 0 [.ref 45, .int s] σ (fun r σ2 => r = some (.int (-1)) ∧ σ2 = zwA σ 45 0 0) (fun _ _ => False) := by
  refine zM.of [some (.ref 45), some (.int s)] (by decide) 0 rfl (fun _ => Nat.le_of_ble_eq_true rfl) (fun Z hR => ?_)
  rcases zNo_or s with ⟨j, hj, rfl⟩ | hs
  ·
    refine z_aload_n hR dMO_go_0 (n := 1) rfl rfl ?_
    refine z_iconst hR dMO_go_1 (v := 0) (n := 2) rfl rfl ?_
    refine z_putI hR dMO_go_2 (n := 5) rfl zpMO_93 (by decide) rfl rfl ?_
    refine z_iload_n hR dMO_go_5 (n := 6) rfl rfl ?_
    refine z_callS1 hR dMO_go_6 (n := 9) rfl zcMO_174 zkMO_isState (by decide) (Nat.le_of_ble_eq_true rfl) (Nat.zero_le _) (m_MO_isS hj _) (fun r6 s6 h6 => ?_)
    obtain ⟨rfl, rfl⟩ := h6
    refine z_if_eq hR dMO_go_9 (t := 21) (n := 12) rfl rfl (fun h9 => absurd h9 (by decide)) (fun _ => ?_)
    refine z_aload_n hR dMO_go_12 (n := 13) rfl rfl ?_
    refine z_getI hR dMO_go_13 (n := 16) rfl zgMO_226 (by decide) rfl rfl ?_
    rw [zwA_sn _ _ _ _ (by decide), hn]
    refine z_bipush hR dMO_go_16 (v := nI 8) (n := 18) rfl rfl ?_
    refine z_icmp_neN hR dMO_go_18 (t := 23) (n := 21) rfl rfl (by omega) (by omega) (fun h18 => absurd h18 (by rcases h with h | h; exact absurd rfl (h j hj); omega)) (fun h18 => ?_)
    refine z_iconst hR dMO_go_21 (v := (-1)) (n := 22) rfl rfl ?_
    refine z_zret hR dMO_go_22 rfl rfl (Nat.zero_le _) ?_
    exact ⟨rfl, rfl⟩
  ·
    refine z_aload_n hR dMO_go_0 (n := 1) rfl rfl ?_
    refine z_iconst hR dMO_go_1 (v := 0) (n := 2) rfl rfl ?_
    refine z_putI hR dMO_go_2 (n := 5) rfl zpMO_93 (by decide) rfl rfl ?_
    refine z_iload_n hR dMO_go_5 (n := 6) rfl rfl ?_
    refine z_callS1 hR dMO_go_6 (n := 9) rfl zcMO_174 zkMO_isState (by decide) (Nat.le_of_ble_eq_true rfl) (Nat.zero_le _) (m_MO_isN hs _) (fun r6 s6 h6 => ?_)
    obtain ⟨rfl, rfl⟩ := h6
    refine z_if_eq hR dMO_go_9 (t := 21) (n := 12) rfl rfl (fun _ => ?_) (fun h9 => absurd rfl h9)
    refine z_iconst hR dMO_go_21 (v := (-1)) (n := 22) rfl rfl ?_
    refine z_zret hR dMO_go_22 rfl rfl (Nat.zero_le _) ?_
    exact ⟨rfl, rfl⟩
theorem m_MO_wipe (σ : zS) : zM yMO_wipe cMO_wipe 1 none 0 0 0 [.ref 45] σ (fun r σ2 => r = none ∧ σ2 = zwA (zwA σ 45 0 0) 45 1 0) (fun _ _ => False) := by
  refine zM.of [some (.ref 45)] (by decide) 0 rfl (fun _ => Nat.le_of_ble_eq_true rfl) (fun Z hR => ?_)
  refine z_aload_n hR dMO_wipe_0 (n := 1) rfl rfl ?_
  refine z_iconst hR dMO_wipe_1 (v := 0) (n := 2) rfl rfl ?_
  refine z_putI hR dMO_wipe_2 (n := 5) rfl zpMO_93 (by decide) rfl rfl ?_
  refine z_aload_n hR dMO_wipe_5 (n := 6) rfl rfl ?_
  refine z_iconst hR dMO_wipe_6 (v := 0) (n := 7) rfl rfl ?_
  refine z_putI hR dMO_wipe_7 (n := 10) rfl zpMO_97 (by decide) rfl rfl ?_
  refine z_vret hR dMO_wipe_10 rfl (Nat.zero_le _) ?_
  exact ⟨rfl, rfl⟩
theorem m_MO_clear (σ : zS) : zM yMO_clear cMO_clear 1 none 0 0 0 [.ref 45] σ (fun r σ2 => r = none ∧ σ2 = zwA (zwA σ 45 0 0) 45 23 0) (fun _ _ => False) := by
  refine zM.of [some (.ref 45)] (by decide) 0 rfl (fun _ => Nat.le_of_ble_eq_true rfl) (fun Z hR => ?_)
  refine z_aload_n hR dMO_clear_0 (n := 1) rfl rfl ?_
  refine z_iconst hR dMO_clear_1 (v := 0) (n := 2) rfl rfl ?_
  refine z_putI hR dMO_clear_2 (n := 5) rfl zpMO_93 (by decide) rfl rfl ?_
  refine z_aload_n hR dMO_clear_5 (n := 6) rfl rfl ?_
  refine z_iconst hR dMO_clear_6 (v := 0) (n := 7) rfl rfl ?_
  refine z_putI hR dMO_clear_7 (n := 10) rfl zpMO_226 (by decide) rfl rfl ?_
  refine z_vret hR dMO_clear_10 rfl (Nat.zero_le _) ?_
  exact ⟨rfl, rfl⟩
theorem m_PC_wipe1 (σ : zS) : zM yPC_wipe cPC_wipe 1 none 0 0 0 [.ref 0] σ (fun r σ2 => r = none ∧ σ2 = zwA σ 0 1 0) (fun _ _ => False) := by
  refine zM.of [some (.ref 0)] (by decide) 0 rfl (fun _ => Nat.le_of_ble_eq_true rfl) (fun Z hR => ?_)
  refine z_aload_n hR dPC_wipe_0 (n := 1) rfl rfl ?_
  refine z_iconst hR dPC_wipe_1 (v := 0) (n := 2) rfl rfl ?_
  refine z_putI hR dPC_wipe_2 (n := 5) rfl zpPC_67 (by decide) rfl rfl ?_
  refine z_vret hR dPC_wipe_5 rfl (Nat.zero_le _) ?_
  exact ⟨rfl, rfl⟩
theorem m_PC_clear1 (σ : zS) : zM yPC_clear cPC_clear 1 none 0 0 0 [.ref 0] σ (fun r σ2 => r = none ∧ σ2 = zwA σ 8 1 0) (fun _ _ => False) := by
  refine zM.of [some (.ref 0)] (by decide) 0 rfl (fun _ => Nat.le_of_ble_eq_true rfl) (fun Z hR => ?_)
  refine z_aload_n hR dPC_clear_0 (n := 1) rfl rfl ?_
  refine z_getR hR dPC_clear_1 (n := 4) rfl zgPC_25 (by decide) rfl rfl ?_
  refine z_iconst hR dPC_clear_4 (v := 0) (n := 5) rfl rfl ?_
  refine z_putI hR dPC_clear_5 (n := 8) rfl zpPC_147 (by decide) rfl rfl ?_
  refine z_vret hR dPC_clear_8 rfl (Nat.zero_le _) ?_
  exact ⟨rfl, rfl⟩
theorem m_MO_length (σ : zS) : zM yMO_length cMO_length 1 (some .int) 0 0 0 [.ref 45] σ (fun r σ2 => r = some (.int (σ.1 45 1)) ∧ σ2 = zwA σ 45 0 0) (fun _ _ => False) := by
  refine zM.of [some (.ref 45)] (by decide) 0 rfl (fun _ => Nat.le_of_ble_eq_true rfl) (fun Z hR => ?_)
  refine z_aload_n hR dMO_length_0 (n := 1) rfl rfl ?_
  refine z_iconst hR dMO_length_1 (v := 0) (n := 2) rfl rfl ?_
  refine z_putI hR dMO_length_2 (n := 5) rfl zpMO_93 (by decide) rfl rfl ?_
  refine z_aload_n hR dMO_length_5 (n := 6) rfl rfl ?_
  refine z_getI hR dMO_length_6 (n := 9) rfl zgMO_97 (by decide) rfl rfl ?_
  refine z_zret hR dMO_length_9 rfl rfl (Nat.zero_le _) ?_
  exact ⟨by rw [zwA_sn _ _ _ _ (by decide)], rfl⟩
/-- nothing is known any more -/
def zfg (σ : zS) : Nat → zS
  | 0 => zwA σ 45 25 0
  | n + 1 => zwA (zfg σ n) 70 n 0
theorem m_MO_forget (σ : zS) : zM yMO_forget cMO_forget 2 none 0 0 0 [.ref 45] σ (fun r σ2 => r = none ∧ σ2 = zfg σ 6) (fun _ _ => False) := by
  refine zM.of [some (.ref 45), none] (by decide) 1 rfl (fun _ => Nat.le_of_ble_eq_true rfl) (fun Z hR => ?_)
  have key : ∀ m i : Nat, i + m = 6 → Z 0 7 [some (.ref 45), some (.int (nI i))] [] (zfg σ i) := by
    intro m
    induction m with
    | zero =>
      intro i hi
      obtain rfl : i = 6 := by omega
      refine z_iload_n hR dMO_forget_7 (n := 8) rfl rfl ?_
      refine z_bipush hR dMO_forget_8 (v := nI 6) (n := 10) rfl rfl ?_
      refine z_icmp_geN hR dMO_forget_10 (t := 26) (n := 13) rfl rfl (by omega) (by omega) (fun h10 => ?_) (fun h10 => absurd h10 (by omega))
      refine z_vret hR dMO_forget_26 rfl (Nat.zero_le _) ?_
      exact ⟨rfl, rfl⟩
    | succ m ih =>
      intro i hi
      refine z_iload_n hR dMO_forget_7 (n := 8) rfl rfl ?_
      refine z_bipush hR dMO_forget_8 (v := nI 6) (n := 10) rfl rfl ?_
      refine z_icmp_geN hR dMO_forget_10 (t := 26) (n := 13) rfl rfl (by omega) (by omega) (fun h10 => absurd h10 (by omega)) (fun h10 => ?_)
      refine z_aload_n hR dMO_forget_13 (n := 14) rfl rfl ?_
      refine z_getR hR dMO_forget_14 (n := 17) rfl zgMO_84 (by decide) rfl rfl ?_
      refine z_iload_n hR dMO_forget_17 (n := 18) rfl rfl ?_
      refine z_iconst hR dMO_forget_18 (v := 0) (n := 19) rfl rfl ?_
      refine z_iast hR (_) dMO_forget_19 (n := 20) rfl (by decide) rfl (by decide) rfl (by omega) ?_
      refine z_iincN hR 1 dMO_forget_20 (n := 23) rfl rfl (by decide) rfl rfl ?_
      refine z_goto hR dMO_forget_23 (t := 7) rfl ?_
      exact ih (i + 1) (by omega)
  refine z_aload_n hR dMO_forget_0 (n := 1) rfl rfl ?_
  refine z_iconst hR dMO_forget_1 (v := 0) (n := 2) rfl rfl ?_
  refine z_putZ hR dMO_forget_2 (n := 5) rfl zpMO_171 (by decide) rfl rfl (by first | exact Or.inl rfl | exact Or.inr rfl | assumption) ?_
  refine z_iconst hR dMO_forget_5 (v := 0) (n := 6) rfl rfl ?_
  refine z_istore_n hR dMO_forget_6 (n := 7) rfl (by decide) rfl ?_
  exact key 6 0 rfl
theorem m_NF_isM (σ : zS) {n : Nat} (hn : σ.1 34 1 = nI n) (h : n < 2 ^ 31) : zM yNF_isMissing cNF_isMissing 1 (some .boolean) 0 0 0 [.ref 34] σ (fun r σ2 => r = some (.int (zb (decide (n = 0)))) ∧ σ2 = σ) (fun _ _ => False) := by
  refine zM.of [some (.ref 34)] (by decide) 0 rfl (fun _ => Nat.le_of_ble_eq_true rfl) (fun Z hR => ?_)
  refine z_aload_n hR dNF_isMissing_0 (n := 1) rfl rfl ?_
  refine z_getI hR dNF_isMissing_1 (n := 4) rfl zgNF_35 (by decide) rfl rfl ?_
  rw [hn]
  refine z_if_neN hR dNF_isMissing_4 (t := 11) (n := 7) rfl rfl (by omega) (fun h4 => ?_) (fun h4 => ?_)
  · refine z_iconst hR dNF_isMissing_11 (v := 0) (n := 12) rfl rfl ?_
    refine z_zret hR dNF_isMissing_12 rfl rfl (Nat.zero_le _) ?_
    exact ⟨by simp [zb]; omega, rfl⟩
  · refine z_iconst hR dNF_isMissing_7 (v := 1) (n := 8) rfl rfl ?_
    refine z_goto hR dNF_isMissing_8 (t := 12) rfl ?_
    refine z_zret hR dNF_isMissing_12 rfl rfl (Nat.zero_le _) ?_
    exact ⟨by simp [zb]; omega, rfl⟩
