/-! mark, link, state, normal of both; endless of both -/
theorem z15_or (x : Int32) : (∃ q : Nat, q < 16 ∧ x = nI q) ∨ (x < 0 ∨ nI 16 ≤ x) := by
  rcases pk_ix x (n := 16) (by decide) with h | h | h
  · exact Or.inr (Or.inl h)
  · exact Or.inr (Or.inr h)
  · exact Or.inl h
theorem z15_gt {x : Int32} (h : nI 16 ≤ x) : ¬ x ≤ 15 := by
  intro h2
  have h3 : nI 16 ≤ (15 : Int32) := Int32.le_trans h h2
  exact absurd h3 (by decide)
theorem m_PC_mk1 {j q : Nat} (hj : j < 6) (hq : q < 16) (σ : zS) : zM yPC_mark cPC_mark 3 (some .boolean) 1 20 0 [.ref 0, .int (nI j), .int (nI q)] σ (fun r σ2 => r = some (.int 1) ∧ σ2 = zwA (zwA σ 43 j (nI q)) 0 10 0) (fun _ _ => False) := by
  refine zM.of [some (.ref 0), some (.int (nI j)), some (.int (nI q))] (by decide) 0 rfl (fun _ => Nat.le_of_ble_eq_true rfl) (fun Z hR => ?_)
  refine z_iload_n hR dPC_mark_0 (n := 1) rfl rfl ?_
  refine z_callS1 hR dPC_mark_1 (n := 4) rfl zcPC_108 zkPC_isState (by decide) (Nat.le_of_ble_eq_true rfl) (Nat.zero_le _) (m_PC_isS hj σ) (fun r1 s1 h1 => ?_)
  obtain ⟨rfl, e1⟩ := h1
  subst s1
  refine z_if_eq hR dPC_mark_4 (t := 17) (n := 7) rfl rfl (fun h4 => absurd h4 (by decide)) (fun _ => ?_)
  refine z_iload_n hR dPC_mark_7 (n := 8) rfl rfl ?_
  refine z_if_ltN hR dPC_mark_8 (t := 17) (n := 11) rfl rfl (by omega) ?_
  refine z_iload_n hR dPC_mark_11 (n := 12) rfl rfl ?_
  refine z_bipush hR dPC_mark_12 (v := nI 15) (n := 14) rfl rfl ?_
  refine z_icmp_leN hR dPC_mark_14 (t := 19) (n := 17) rfl rfl (by omega) (by omega) (fun h14 => ?_) (fun h14 => absurd h14 (by omega))
  refine z_aload_n hR dPC_mark_19 (n := 20) rfl rfl ?_
  refine z_getR hR dPC_mark_20 (n := 23) rfl zgPC_66 (by decide) rfl rfl ?_
  refine z_getR hR dPC_mark_23 (n := 26) rfl zgPC_112 (by decide) rfl rfl ?_
  refine z_iload_n hR dPC_mark_26 (n := 27) rfl rfl ?_
  refine z_iload_n hR dPC_mark_27 (n := 28) rfl rfl ?_
  refine z_iast hR (_) dPC_mark_28 (n := 29) rfl (by decide) rfl (by decide) rfl (by omega) ?_
  refine z_aload_n hR dPC_mark_29 (n := 30) rfl rfl ?_
  refine z_iconst hR dPC_mark_30 (v := 0) (n := 31) rfl rfl ?_
  refine z_putZ hR dPC_mark_31 (n := 34) rfl zpPC_90 (by decide) rfl rfl (by first | exact Or.inl rfl | exact Or.inr rfl | assumption) ?_
  refine z_iconst hR dPC_mark_34 (v := 1) (n := 35) rfl rfl ?_
  refine z_zret hR dPC_mark_35 rfl rfl (Nat.zero_le _) ?_
  exact ⟨rfl, rfl⟩
theorem m_PC_mk0 {s x : Int32} (h : zNo s ∨ x < 0 ∨ nI 16 ≤ x) (σ : zS) : zM yPC_mark cPC_mark 3 (some .boolean) 1 20 0 [.ref 0, .int s, .int x] σ (fun r σ2 => r = some (.int 0) ∧ σ2 = σ) (fun _ _ => False) := by
  refine zM.of [some (.ref 0), some (.int s), some (.int x)] (by decide) 0 rfl (fun _ => Nat.le_of_ble_eq_true rfl) (fun Z hR => ?_)
  rcases zNo_or s with ⟨j, hj, rfl⟩ | hs
  ·
    refine z_iload_n hR dPC_mark_0 (n := 1) rfl rfl ?_
    refine z_callS1 hR dPC_mark_1 (n := 4) rfl zcPC_108 zkPC_isState (by decide) (Nat.le_of_ble_eq_true rfl) (Nat.zero_le _) (m_PC_isS hj σ) (fun r1 s1 h1 => ?_)
    obtain ⟨rfl, e1⟩ := h1
    subst s1
    refine z_if_eq hR dPC_mark_4 (t := 17) (n := 7) rfl rfl (fun h4 => absurd h4 (by decide)) (fun _ => ?_)
    refine z_iload_n hR dPC_mark_7 (n := 8) rfl rfl ?_
    refine z_if_lt hR dPC_mark_8 (t := 17) (n := 11) rfl rfl (fun h8 => ?_) (fun h8 => ?_)
    · refine z_iconst hR dPC_mark_17 (v := 0) (n := 18) rfl rfl ?_
      refine z_zret hR dPC_mark_18 rfl rfl (Nat.zero_le _) ?_
      exact ⟨rfl, rfl⟩
    · refine z_iload_n hR dPC_mark_11 (n := 12) rfl rfl ?_
      refine z_bipush hR dPC_mark_12 (v := 15) (n := 14) rfl rfl ?_
      refine z_icmp_le hR dPC_mark_14 (t := 19) (n := 17) rfl rfl (fun h14 => absurd h14 (z15_gt (by rcases h with h | h | h; exact absurd rfl (h j hj); exact absurd h h8; exact h))) (fun _ => ?_)
      refine z_iconst hR dPC_mark_17 (v := 0) (n := 18) rfl rfl ?_
      refine z_zret hR dPC_mark_18 rfl rfl (Nat.zero_le _) ?_
      exact ⟨rfl, rfl⟩
  ·
    refine z_iload_n hR dPC_mark_0 (n := 1) rfl rfl ?_
    refine z_callS1 hR dPC_mark_1 (n := 4) rfl zcPC_108 zkPC_isState (by decide) (Nat.le_of_ble_eq_true rfl) (Nat.zero_le _) (m_PC_isN hs σ) (fun r1 s1 h1 => ?_)
    obtain ⟨rfl, e1⟩ := h1
    subst s1
    refine z_if_eq hR dPC_mark_4 (t := 17) (n := 7) rfl rfl (fun _ => ?_) (fun h4 => absurd rfl h4)
    refine z_iconst hR dPC_mark_17 (v := 0) (n := 18) rfl rfl ?_
    refine z_zret hR dPC_mark_18 rfl rfl (Nat.zero_le _) ?_
    exact ⟨rfl, rfl⟩
theorem m_MO_mk1 {j q : Nat} (hj : j < 6) (hq : q < 16) (σ : zS) : zM yMO_mark cMO_mark 3 (some .boolean) 1 30 0 [.ref 45, .int (nI j), .int (nI q)] σ (fun r σ2 => r = some (.int 1) ∧ σ2 = zfg (zwA (zwA σ 45 0 0) 57 j (nI q)) 6) (fun _ _ => False) := by
  refine zM.of [some (.ref 45), some (.int (nI j)), some (.int (nI q))] (by decide) 0 rfl (fun _ => Nat.le_of_ble_eq_true rfl) (fun Z hR => ?_)
  refine z_aload_n hR dMO_mark_0 (n := 1) rfl rfl ?_
  refine z_iconst hR dMO_mark_1 (v := 0) (n := 2) rfl rfl ?_
  refine z_putI hR dMO_mark_2 (n := 5) rfl zpMO_93 (by decide) rfl rfl ?_
  refine z_iload_n hR dMO_mark_5 (n := 6) rfl rfl ?_
  refine z_callS1 hR dMO_mark_6 (n := 9) rfl zcMO_174 zkMO_isState (by decide) (Nat.le_of_ble_eq_true rfl) (Nat.zero_le _) (m_MO_isS hj _) (fun r6 s6 h6 => ?_)
  obtain ⟨rfl, e6⟩ := h6
  subst s6
  refine z_if_eq hR dMO_mark_9 (t := 22) (n := 12) rfl rfl (fun h9 => absurd h9 (by decide)) (fun _ => ?_)
  refine z_iload_n hR dMO_mark_12 (n := 13) rfl rfl ?_
  refine z_if_ltN hR dMO_mark_13 (t := 22) (n := 16) rfl rfl (by omega) ?_
  refine z_iload_n hR dMO_mark_16 (n := 17) rfl rfl ?_
  refine z_bipush hR dMO_mark_17 (v := nI 15) (n := 19) rfl rfl ?_
  refine z_icmp_leN hR dMO_mark_19 (t := 24) (n := 22) rfl rfl (by omega) (by omega) (fun h19 => ?_) (fun h19 => absurd h19 (by omega))
  refine z_aload_n hR dMO_mark_24 (n := 25) rfl rfl ?_
  refine z_getR hR dMO_mark_25 (n := 28) rfl zgMO_43 (by decide) rfl rfl ?_
  refine z_iload_n hR dMO_mark_28 (n := 29) rfl rfl ?_
  refine z_iload_n hR dMO_mark_29 (n := 30) rfl rfl ?_
  refine z_iast hR (_) dMO_mark_30 (n := 31) rfl (by decide) rfl (by decide) rfl (by omega) ?_
  refine z_aload_n hR dMO_mark_31 (n := 32) rfl rfl ?_
  refine z_callV0 hR dMO_mark_32 (n := 35) rfl zcMO_155 zkMO_forget (by decide) (Nat.le_of_ble_eq_true rfl) (by decide) rfl rfl (Nat.zero_le _) (m_MO_forget _) (fun r32 s32 h32 => ?_)
  obtain ⟨rfl, e32⟩ := h32
  subst s32
  refine z_iconst hR dMO_mark_35 (v := 1) (n := 36) rfl rfl ?_
  refine z_zret hR dMO_mark_36 rfl rfl (Nat.zero_le _) ?_
  exact ⟨rfl, rfl⟩
theorem m_MO_mk0 {s x : Int32} (h : zNo s ∨ x < 0 ∨ nI 16 ≤ x) (σ : zS) : zM yMO_mark cMO_mark 3 (some .boolean) 1 30 0 [.ref 45, .int s, .int x] σ (fun r σ2 => r = some (.int 0) ∧ σ2 = zwA σ 45 0 0) (fun _ _ => False) := by
  refine zM.of [some (.ref 45), some (.int s), some (.int x)] (by decide) 0 rfl (fun _ => Nat.le_of_ble_eq_true rfl) (fun Z hR => ?_)
  rcases zNo_or s with ⟨j, hj, rfl⟩ | hs
  ·
    refine z_aload_n hR dMO_mark_0 (n := 1) rfl rfl ?_
    refine z_iconst hR dMO_mark_1 (v := 0) (n := 2) rfl rfl ?_
    refine z_putI hR dMO_mark_2 (n := 5) rfl zpMO_93 (by decide) rfl rfl ?_
    refine z_iload_n hR dMO_mark_5 (n := 6) rfl rfl ?_
    refine z_callS1 hR dMO_mark_6 (n := 9) rfl zcMO_174 zkMO_isState (by decide) (Nat.le_of_ble_eq_true rfl) (Nat.zero_le _) (m_MO_isS hj _) (fun r6 s6 h6 => ?_)
    obtain ⟨rfl, e6⟩ := h6
    subst s6
    refine z_if_eq hR dMO_mark_9 (t := 22) (n := 12) rfl rfl (fun h9 => absurd h9 (by decide)) (fun _ => ?_)
    refine z_iload_n hR dMO_mark_12 (n := 13) rfl rfl ?_
    refine z_if_lt hR dMO_mark_13 (t := 22) (n := 16) rfl rfl (fun h13 => ?_) (fun h13 => ?_)
    · refine z_iconst hR dMO_mark_22 (v := 0) (n := 23) rfl rfl ?_
      refine z_zret hR dMO_mark_23 rfl rfl (Nat.zero_le _) ?_
      exact ⟨rfl, rfl⟩
    · refine z_iload_n hR dMO_mark_16 (n := 17) rfl rfl ?_
      refine z_bipush hR dMO_mark_17 (v := 15) (n := 19) rfl rfl ?_
      refine z_icmp_le hR dMO_mark_19 (t := 24) (n := 22) rfl rfl (fun h19 => absurd h19 (z15_gt (by rcases h with h | h | h; exact absurd rfl (h j hj); exact absurd h h13; exact h))) (fun _ => ?_)
      refine z_iconst hR dMO_mark_22 (v := 0) (n := 23) rfl rfl ?_
      refine z_zret hR dMO_mark_23 rfl rfl (Nat.zero_le _) ?_
      exact ⟨rfl, rfl⟩
  ·
    refine z_aload_n hR dMO_mark_0 (n := 1) rfl rfl ?_
    refine z_iconst hR dMO_mark_1 (v := 0) (n := 2) rfl rfl ?_
    refine z_putI hR dMO_mark_2 (n := 5) rfl zpMO_93 (by decide) rfl rfl ?_
    refine z_iload_n hR dMO_mark_5 (n := 6) rfl rfl ?_
    refine z_callS1 hR dMO_mark_6 (n := 9) rfl zcMO_174 zkMO_isState (by decide) (Nat.le_of_ble_eq_true rfl) (Nat.zero_le _) (m_MO_isN hs _) (fun r6 s6 h6 => ?_)
    obtain ⟨rfl, e6⟩ := h6
    subst s6
    refine z_if_eq hR dMO_mark_9 (t := 22) (n := 12) rfl rfl (fun _ => ?_) (fun h9 => absurd rfl h9)
    refine z_iconst hR dMO_mark_22 (v := 0) (n := 23) rfl rfl ?_
    refine z_zret hR dMO_mark_23 rfl rfl (Nat.zero_le _) ?_
    exact ⟨rfl, rfl⟩
theorem m_PC_lk1 {a b : Nat} {p : Bool} (ha : a < 6) (hb : b < 6) (σ : zS) (hp : jn σ a b ≠ p) : zM yPC_link cPC_link 4 (some .boolean) 1 30 0 [.ref 0, .int (nI a), .int (nI b), .int (zb p)] σ (fun r σ2 => r = some (.int 1) ∧ σ2 = zwA (zwA σ 44 a (σ.1 44 a ^^^ ((1 : Int32) <<< (nI b &&& 31)))) 0 10 0) (fun _ _ => False) := by
  refine zM.of [some (.ref 0), some (.int (nI a)), some (.int (nI b)), some (.int (zb p))] (by decide) 0 rfl (fun _ => Nat.le_of_ble_eq_true rfl) (fun Z hR => ?_)
  refine z_iload_n hR dPC_link_0 (n := 1) rfl rfl ?_
  refine z_callS1 hR dPC_link_1 (n := 4) rfl zcPC_108 zkPC_isState (by decide) (Nat.le_of_ble_eq_true rfl) (Nat.zero_le _) (m_PC_isS ha σ) (fun r1 s1 h1 => ?_)
  obtain ⟨rfl, e1⟩ := h1
  subst s1
  refine z_if_eq hR dPC_link_4 (t := 27) (n := 7) rfl rfl (fun h4 => absurd h4 (by decide)) (fun _ => ?_)
  refine z_iload_n hR dPC_link_7 (n := 8) rfl rfl ?_
  refine z_callS1 hR dPC_link_8 (n := 11) rfl zcPC_108 zkPC_isState (by decide) (Nat.le_of_ble_eq_true rfl) (Nat.zero_le _) (m_PC_isS hb _) (fun r8 s8 h8 => ?_)
  obtain ⟨rfl, e8⟩ := h8
  subst s8
  refine z_if_eq hR dPC_link_11 (t := 27) (n := 14) rfl rfl (fun h11 => absurd h11 (by decide)) (fun _ => ?_)
  refine z_aload_n hR dPC_link_14 (n := 15) rfl rfl ?_
  refine z_getR hR dPC_link_15 (n := 18) rfl zgPC_66 (by decide) rfl rfl ?_
  refine z_iload_n hR dPC_link_18 (n := 19) rfl rfl ?_
  refine z_iload_n hR dPC_link_19 (n := 20) rfl rfl ?_
  refine z_callV2 hR dPC_link_20 (n := 23) rfl zcPC_118 zkST_joins (by decide) (Nat.le_of_ble_eq_true rfl) (by decide) rfl rfl (Nat.zero_le _) (m_ST_jn ha hb _) (fun r20 s20 h20 => ?_)
  obtain ⟨rfl, e20⟩ := h20
  subst s20
  refine z_iload_n hR dPC_link_23 (n := 24) rfl rfl ?_
  refine z_icmp_ne hR dPC_link_24 (t := 29) (n := 27) rfl rfl (fun _ => ?_) (fun h24 => absurd h24 (fun q => hp (zb_inj.mp q)))
  refine z_aload_n hR dPC_link_29 (n := 30) rfl rfl ?_
  refine z_getR hR dPC_link_30 (n := 33) rfl zgPC_66 (by decide) rfl rfl ?_
  refine z_getR hR dPC_link_33 (n := 36) rfl zgPC_122 (by decide) rfl rfl ?_
  refine z_iload_n hR dPC_link_36 (n := 37) rfl rfl ?_
  refine z_dup2_11 hR dPC_link_37 (n := 38) rfl rfl rfl ?_
  refine z_iald hR (_) dPC_link_38 (n := 39) rfl (by decide) rfl (by decide) rfl (by omega) ?_
  refine z_iconst hR dPC_link_39 (v := 1) (n := 40) rfl rfl ?_
  refine z_iload_n hR dPC_link_40 (n := 41) rfl rfl ?_
  refine z_ishl hR dPC_link_41 (n := 42) rfl ?_
  refine z_ixor hR dPC_link_42 (n := 43) rfl ?_
  refine z_iast hR (_) dPC_link_43 (n := 44) rfl (by decide) rfl (by decide) rfl (by omega) ?_
  refine z_aload_n hR dPC_link_44 (n := 45) rfl rfl ?_
  refine z_iconst hR dPC_link_45 (v := 0) (n := 46) rfl rfl ?_
  refine z_putZ hR dPC_link_46 (n := 49) rfl zpPC_90 (by decide) rfl rfl (by first | exact Or.inl rfl | exact Or.inr rfl | assumption) ?_
  refine z_iconst hR dPC_link_49 (v := 1) (n := 50) rfl rfl ?_
  refine z_zret hR dPC_link_50 rfl rfl (Nat.zero_le _) ?_
  exact ⟨rfl, rfl⟩
theorem m_PC_lk2 {a b : Nat} {p : Bool} (ha : a < 6) (hb : b < 6) (σ : zS) (hp : jn σ a b = p) : zM yPC_link cPC_link 4 (some .boolean) 1 30 0 [.ref 0, .int (nI a), .int (nI b), .int (zb p)] σ (fun r σ2 => r = some (.int 0) ∧ σ2 = σ) (fun _ _ => False) := by
  refine zM.of [some (.ref 0), some (.int (nI a)), some (.int (nI b)), some (.int (zb p))] (by decide) 0 rfl (fun _ => Nat.le_of_ble_eq_true rfl) (fun Z hR => ?_)
  refine z_iload_n hR dPC_link_0 (n := 1) rfl rfl ?_
  refine z_callS1 hR dPC_link_1 (n := 4) rfl zcPC_108 zkPC_isState (by decide) (Nat.le_of_ble_eq_true rfl) (Nat.zero_le _) (m_PC_isS ha σ) (fun r1 s1 h1 => ?_)
  obtain ⟨rfl, e1⟩ := h1
  subst s1
  refine z_if_eq hR dPC_link_4 (t := 27) (n := 7) rfl rfl (fun h4 => absurd h4 (by decide)) (fun _ => ?_)
  refine z_iload_n hR dPC_link_7 (n := 8) rfl rfl ?_
  refine z_callS1 hR dPC_link_8 (n := 11) rfl zcPC_108 zkPC_isState (by decide) (Nat.le_of_ble_eq_true rfl) (Nat.zero_le _) (m_PC_isS hb _) (fun r8 s8 h8 => ?_)
  obtain ⟨rfl, e8⟩ := h8
  subst s8
  refine z_if_eq hR dPC_link_11 (t := 27) (n := 14) rfl rfl (fun h11 => absurd h11 (by decide)) (fun _ => ?_)
  refine z_aload_n hR dPC_link_14 (n := 15) rfl rfl ?_
  refine z_getR hR dPC_link_15 (n := 18) rfl zgPC_66 (by decide) rfl rfl ?_
  refine z_iload_n hR dPC_link_18 (n := 19) rfl rfl ?_
  refine z_iload_n hR dPC_link_19 (n := 20) rfl rfl ?_
  refine z_callV2 hR dPC_link_20 (n := 23) rfl zcPC_118 zkST_joins (by decide) (Nat.le_of_ble_eq_true rfl) (by decide) rfl rfl (Nat.zero_le _) (m_ST_jn ha hb _) (fun r20 s20 h20 => ?_)
  obtain ⟨rfl, e20⟩ := h20
  subst s20
  refine z_iload_n hR dPC_link_23 (n := 24) rfl rfl ?_
  refine z_icmp_ne hR dPC_link_24 (t := 29) (n := 27) rfl rfl (fun h24 => absurd h24 (fun q => q (congrArg zb hp))) (fun _ => ?_)
  refine z_iconst hR dPC_link_27 (v := 0) (n := 28) rfl rfl ?_
  refine z_zret hR dPC_link_28 rfl rfl (Nat.zero_le _) ?_
  exact ⟨rfl, rfl⟩
theorem m_PC_lk0 {a b e : Int32} (h : zNo a ∨ zNo b) (σ : zS) : zM yPC_link cPC_link 4 (some .boolean) 1 30 0 [.ref 0, .int a, .int b, .int e] σ (fun r σ2 => r = some (.int 0) ∧ σ2 = σ) (fun _ _ => False) := by
  refine zM.of [some (.ref 0), some (.int a), some (.int b), some (.int e)] (by decide) 0 rfl (fun _ => Nat.le_of_ble_eq_true rfl) (fun Z hR => ?_)
  rcases zNo_or a with ⟨j, hj, rfl⟩ | hs
  ·
    refine z_iload_n hR dPC_link_0 (n := 1) rfl rfl ?_
    refine z_callS1 hR dPC_link_1 (n := 4) rfl zcPC_108 zkPC_isState (by decide) (Nat.le_of_ble_eq_true rfl) (Nat.zero_le _) (m_PC_isS hj σ) (fun r1 s1 h1 => ?_)
    obtain ⟨rfl, e1⟩ := h1
    subst s1
    refine z_if_eq hR dPC_link_4 (t := 27) (n := 7) rfl rfl (fun h4 => absurd h4 (by decide)) (fun _ => ?_)
    refine z_iload_n hR dPC_link_7 (n := 8) rfl rfl ?_
    refine z_callS1 hR dPC_link_8 (n := 11) rfl zcPC_108 zkPC_isState (by decide) (Nat.le_of_ble_eq_true rfl) (Nat.zero_le _) (m_PC_isN (by rcases h with h | h; exact absurd rfl (h j hj); exact h) _) (fun r8 s8 h8 => ?_)
    obtain ⟨rfl, e8⟩ := h8
    subst s8
    refine z_if_eq hR dPC_link_11 (t := 27) (n := 14) rfl rfl (fun _ => ?_) (fun h11 => absurd rfl h11)
    refine z_iconst hR dPC_link_27 (v := 0) (n := 28) rfl rfl ?_
    refine z_zret hR dPC_link_28 rfl rfl (Nat.zero_le _) ?_
    exact ⟨rfl, rfl⟩
  ·
    refine z_iload_n hR dPC_link_0 (n := 1) rfl rfl ?_
    refine z_callS1 hR dPC_link_1 (n := 4) rfl zcPC_108 zkPC_isState (by decide) (Nat.le_of_ble_eq_true rfl) (Nat.zero_le _) (m_PC_isN hs σ) (fun r1 s1 h1 => ?_)
    obtain ⟨rfl, e1⟩ := h1
    subst s1
    refine z_if_eq hR dPC_link_4 (t := 27) (n := 7) rfl rfl (fun _ => ?_) (fun h4 => absurd rfl h4)
    refine z_iconst hR dPC_link_27 (v := 0) (n := 28) rfl rfl ?_
    refine z_zret hR dPC_link_28 rfl rfl (Nat.zero_le _) ?_
    exact ⟨rfl, rfl⟩
theorem m_MO_lk1 {a b : Nat} {p q : Bool} (ha : a < 6) (hb : b < 6) (σ : zS) (hq : σ.1 58 (6 * a + b) = zb q) (hp : q ≠ p) : zM yMO_link cMO_link 4 (some .boolean) 1 30 0 [.ref 45, .int (nI a), .int (nI b), .int (zb p)] σ (fun r σ2 => r = some (.int 1) ∧ σ2 = zfg (zwA (zwA σ 45 0 0) 58 (6 * a + b) (zb p)) 6) (fun _ _ => False) := by
  refine zM.of [some (.ref 45), some (.int (nI a)), some (.int (nI b)), some (.int (zb p))] (by decide) 0 rfl (fun _ => Nat.le_of_ble_eq_true rfl) (fun Z hR => ?_)
  refine z_aload_n hR dMO_link_0 (n := 1) rfl rfl ?_
  refine z_iconst hR dMO_link_1 (v := 0) (n := 2) rfl rfl ?_
  refine z_putI hR dMO_link_2 (n := 5) rfl zpMO_93 (by decide) rfl rfl ?_
  refine z_iload_n hR dMO_link_5 (n := 6) rfl rfl ?_
  refine z_callS1 hR dMO_link_6 (n := 9) rfl zcMO_174 zkMO_isState (by decide) (Nat.le_of_ble_eq_true rfl) (Nat.zero_le _) (m_MO_isS ha _) (fun r6 s6 h6 => ?_)
  obtain ⟨rfl, e6⟩ := h6
  subst s6
  refine z_if_eq hR dMO_link_9 (t := 19) (n := 12) rfl rfl (fun h9 => absurd h9 (by decide)) (fun _ => ?_)
  refine z_iload_n hR dMO_link_12 (n := 13) rfl rfl ?_
  refine z_callS1 hR dMO_link_13 (n := 16) rfl zcMO_174 zkMO_isState (by decide) (Nat.le_of_ble_eq_true rfl) (Nat.zero_le _) (m_MO_isS hb _) (fun r13 s13 h13 => ?_)
  obtain ⟨rfl, e13⟩ := h13
  subst s13
  refine z_if_ne hR dMO_link_16 (t := 21) (n := 19) rfl rfl (fun _ => ?_) (fun h16 => absurd h16 (by decide))
  refine z_aload_n hR dMO_link_21 (n := 22) rfl rfl ?_
  refine z_getR hR dMO_link_22 (n := 25) rfl zgMO_46 (by decide) rfl rfl ?_
  refine z_bipush hR dMO_link_25 (v := nI 6) (n := 27) rfl rfl ?_
  refine z_iload_n hR dMO_link_27 (n := 28) rfl rfl ?_
  refine z_imulN hR dMO_link_28 (n := 29) rfl ?_
  refine z_iload_n hR dMO_link_29 (n := 30) rfl rfl ?_
  refine z_iaddN hR dMO_link_30 (n := 31) rfl ?_
  refine z_zald hR (_) dMO_link_31 (n := 32) rfl (by decide) rfl (by decide) rfl (by omega) ?_
  rw [zwA_n _ _ _ _ (by decide), hq]
  refine z_iload_n hR dMO_link_32 (n := 33) rfl rfl ?_
  refine z_icmp_ne hR dMO_link_33 (t := 38) (n := 36) rfl rfl (fun _ => ?_) (fun h33 => absurd h33 (fun e => hp (zb_inj.mp e)))
  refine z_aload_n hR dMO_link_38 (n := 39) rfl rfl ?_
  refine z_getR hR dMO_link_39 (n := 42) rfl zgMO_46 (by decide) rfl rfl ?_
  refine z_bipush hR dMO_link_42 (v := nI 6) (n := 44) rfl rfl ?_
  refine z_iload_n hR dMO_link_44 (n := 45) rfl rfl ?_
  refine z_imulN hR dMO_link_45 (n := 46) rfl ?_
  refine z_iload_n hR dMO_link_46 (n := 47) rfl rfl ?_
  refine z_iaddN hR dMO_link_47 (n := 48) rfl ?_
  refine z_iload_n hR dMO_link_48 (n := 49) rfl rfl ?_
  refine z_zast hR (_) dMO_link_49 (n := 50) rfl (by decide) rfl (by decide) rfl (by omega) ?_
  rw [zb_vn]
  refine z_aload_n hR dMO_link_50 (n := 51) rfl rfl ?_
  refine z_callV0 hR dMO_link_51 (n := 54) rfl zcMO_155 zkMO_forget (by decide) (Nat.le_of_ble_eq_true rfl) (by decide) rfl rfl (Nat.zero_le _) (m_MO_forget _) (fun r51 s51 h51 => ?_)
  obtain ⟨rfl, e51⟩ := h51
  subst s51
  refine z_iconst hR dMO_link_54 (v := 1) (n := 55) rfl rfl ?_
  refine z_zret hR dMO_link_55 rfl rfl (Nat.zero_le _) ?_
  exact ⟨rfl, rfl⟩
theorem m_MO_lk2 {a b : Nat} {p q : Bool} (ha : a < 6) (hb : b < 6) (σ : zS) (hq : σ.1 58 (6 * a + b) = zb q) (hp : q = p) : zM yMO_link cMO_link 4 (some .boolean) 1 30 0 [.ref 45, .int (nI a), .int (nI b), .int (zb p)] σ (fun r σ2 => r = some (.int 0) ∧ σ2 = zwA σ 45 0 0) (fun _ _ => False) := by
  refine zM.of [some (.ref 45), some (.int (nI a)), some (.int (nI b)), some (.int (zb p))] (by decide) 0 rfl (fun _ => Nat.le_of_ble_eq_true rfl) (fun Z hR => ?_)
  refine z_aload_n hR dMO_link_0 (n := 1) rfl rfl ?_
  refine z_iconst hR dMO_link_1 (v := 0) (n := 2) rfl rfl ?_
  refine z_putI hR dMO_link_2 (n := 5) rfl zpMO_93 (by decide) rfl rfl ?_
  refine z_iload_n hR dMO_link_5 (n := 6) rfl rfl ?_
  refine z_callS1 hR dMO_link_6 (n := 9) rfl zcMO_174 zkMO_isState (by decide) (Nat.le_of_ble_eq_true rfl) (Nat.zero_le _) (m_MO_isS ha _) (fun r6 s6 h6 => ?_)
  obtain ⟨rfl, e6⟩ := h6
  subst s6
  refine z_if_eq hR dMO_link_9 (t := 19) (n := 12) rfl rfl (fun h9 => absurd h9 (by decide)) (fun _ => ?_)
  refine z_iload_n hR dMO_link_12 (n := 13) rfl rfl ?_
  refine z_callS1 hR dMO_link_13 (n := 16) rfl zcMO_174 zkMO_isState (by decide) (Nat.le_of_ble_eq_true rfl) (Nat.zero_le _) (m_MO_isS hb _) (fun r13 s13 h13 => ?_)
  obtain ⟨rfl, e13⟩ := h13
  subst s13
  refine z_if_ne hR dMO_link_16 (t := 21) (n := 19) rfl rfl (fun _ => ?_) (fun h16 => absurd h16 (by decide))
  refine z_aload_n hR dMO_link_21 (n := 22) rfl rfl ?_
  refine z_getR hR dMO_link_22 (n := 25) rfl zgMO_46 (by decide) rfl rfl ?_
  refine z_bipush hR dMO_link_25 (v := nI 6) (n := 27) rfl rfl ?_
  refine z_iload_n hR dMO_link_27 (n := 28) rfl rfl ?_
  refine z_imulN hR dMO_link_28 (n := 29) rfl ?_
  refine z_iload_n hR dMO_link_29 (n := 30) rfl rfl ?_
  refine z_iaddN hR dMO_link_30 (n := 31) rfl ?_
  refine z_zald hR (_) dMO_link_31 (n := 32) rfl (by decide) rfl (by decide) rfl (by omega) ?_
  rw [zwA_n _ _ _ _ (by decide), hq]
  refine z_iload_n hR dMO_link_32 (n := 33) rfl rfl ?_
  refine z_icmp_ne hR dMO_link_33 (t := 38) (n := 36) rfl rfl (fun h33 => absurd h33 (fun e => e (congrArg zb hp))) (fun _ => ?_)
  refine z_iconst hR dMO_link_36 (v := 0) (n := 37) rfl rfl ?_
  refine z_zret hR dMO_link_37 rfl rfl (Nat.zero_le _) ?_
  exact ⟨rfl, rfl⟩
theorem m_MO_lk0 {a b e : Int32} (h : zNo a ∨ zNo b) (σ : zS) : zM yMO_link cMO_link 4 (some .boolean) 1 30 0 [.ref 45, .int a, .int b, .int e] σ (fun r σ2 => r = some (.int 0) ∧ σ2 = zwA σ 45 0 0) (fun _ _ => False) := by
  refine zM.of [some (.ref 45), some (.int a), some (.int b), some (.int e)] (by decide) 0 rfl (fun _ => Nat.le_of_ble_eq_true rfl) (fun Z hR => ?_)
  rcases zNo_or a with ⟨j, hj, rfl⟩ | hs
  ·
    refine z_aload_n hR dMO_link_0 (n := 1) rfl rfl ?_
    refine z_iconst hR dMO_link_1 (v := 0) (n := 2) rfl rfl ?_
    refine z_putI hR dMO_link_2 (n := 5) rfl zpMO_93 (by decide) rfl rfl ?_
    refine z_iload_n hR dMO_link_5 (n := 6) rfl rfl ?_
    refine z_callS1 hR dMO_link_6 (n := 9) rfl zcMO_174 zkMO_isState (by decide) (Nat.le_of_ble_eq_true rfl) (Nat.zero_le _) (m_MO_isS hj _) (fun r6 s6 h6 => ?_)
    obtain ⟨rfl, e6⟩ := h6
    subst s6
    refine z_if_eq hR dMO_link_9 (t := 19) (n := 12) rfl rfl (fun h9 => absurd h9 (by decide)) (fun _ => ?_)
    refine z_iload_n hR dMO_link_12 (n := 13) rfl rfl ?_
    refine z_callS1 hR dMO_link_13 (n := 16) rfl zcMO_174 zkMO_isState (by decide) (Nat.le_of_ble_eq_true rfl) (Nat.zero_le _) (m_MO_isN (by rcases h with h | h; exact absurd rfl (h j hj); exact h) _) (fun r13 s13 h13 => ?_)
    obtain ⟨rfl, e13⟩ := h13
    subst s13
    refine z_if_ne hR dMO_link_16 (t := 21) (n := 19) rfl rfl (fun h16 => absurd h16 (fun e => e rfl)) (fun _ => ?_)
    refine z_iconst hR dMO_link_19 (v := 0) (n := 20) rfl rfl ?_
    refine z_zret hR dMO_link_20 rfl rfl (Nat.zero_le _) ?_
    exact ⟨rfl, rfl⟩
  ·
    refine z_aload_n hR dMO_link_0 (n := 1) rfl rfl ?_
    refine z_iconst hR dMO_link_1 (v := 0) (n := 2) rfl rfl ?_
    refine z_putI hR dMO_link_2 (n := 5) rfl zpMO_93 (by decide) rfl rfl ?_
    refine z_iload_n hR dMO_link_5 (n := 6) rfl rfl ?_
    refine z_callS1 hR dMO_link_6 (n := 9) rfl zcMO_174 zkMO_isState (by decide) (Nat.le_of_ble_eq_true rfl) (Nat.zero_le _) (m_MO_isN hs _) (fun r6 s6 h6 => ?_)
    obtain ⟨rfl, e6⟩ := h6
    subst s6
    refine z_if_eq hR dMO_link_9 (t := 19) (n := 12) rfl rfl (fun _ => ?_) (fun h9 => absurd rfl h9)
    refine z_iconst hR dMO_link_19 (v := 0) (n := 20) rfl rfl ?_
    refine z_zret hR dMO_link_20 rfl rfl (Nat.zero_le _) ?_
    exact ⟨rfl, rfl⟩
theorem m_PC_st1 {a b : Nat} (ha : a < 6) (hb : b < 6) (σ : zS) : zM yPC_state cPC_state 3 (some .int) 1 30 0 [.ref 0, .int (nI a), .int (nI b)] σ (fun r σ2 => r = some (.int (zb (jn σ a b))) ∧ σ2 = σ) (fun _ _ => False) := by
  refine zM.of [some (.ref 0), some (.int (nI a)), some (.int (nI b))] (by decide) 0 rfl (fun _ => Nat.le_of_ble_eq_true rfl) (fun Z hR => ?_)
  refine z_iload_n hR dPC_state_0 (n := 1) rfl rfl ?_
  refine z_callS1 hR dPC_state_1 (n := 4) rfl zcPC_108 zkPC_isState (by decide) (Nat.le_of_ble_eq_true rfl) (Nat.zero_le _) (m_PC_isS ha σ) (fun r1 s1 h1 => ?_)
  obtain ⟨rfl, e1⟩ := h1
  subst s1
  refine z_if_ne hR dPC_state_4 (t := 9) (n := 7) rfl rfl (fun _ => ?_) (fun h4 => absurd h4 (by decide))
  refine z_iload_n hR dPC_state_9 (n := 10) rfl rfl ?_
  refine z_iconst hR dPC_state_10 (v := (-1)) (n := 11) rfl rfl ?_
  refine z_icmp_ne hR dPC_state_11 (t := 24) (n := 14) rfl rfl (fun _ => ?_) (fun h11 => absurd h11 (fun q => nI_pos (n := b) (by omega) (by rw [q]; decide)))
  refine z_iload_n hR dPC_state_24 (n := 25) rfl rfl ?_
  refine z_callS1 hR dPC_state_25 (n := 28) rfl zcPC_108 zkPC_isState (by decide) (Nat.le_of_ble_eq_true rfl) (Nat.zero_le _) (m_PC_isS hb _) (fun r25 s25 h25 => ?_)
  obtain ⟨rfl, e25⟩ := h25
  subst s25
  refine z_if_ne hR dPC_state_28 (t := 33) (n := 31) rfl rfl (fun _ => ?_) (fun h28 => absurd h28 (by decide))
  refine z_aload_n hR dPC_state_33 (n := 34) rfl rfl ?_
  refine z_getR hR dPC_state_34 (n := 37) rfl zgPC_66 (by decide) rfl rfl ?_
  refine z_iload_n hR dPC_state_37 (n := 38) rfl rfl ?_
  refine z_iload_n hR dPC_state_38 (n := 39) rfl rfl ?_
  refine z_callV2 hR dPC_state_39 (n := 42) rfl zcPC_118 zkST_joins (by decide) (Nat.le_of_ble_eq_true rfl) (by decide) rfl rfl (Nat.zero_le _) (m_ST_jn ha hb _) (fun r39 s39 h39 => ?_)
  obtain ⟨rfl, e39⟩ := h39
  subst s39
  refine z_if_eqB hR dPC_state_42 (t := 49) (n := 45) rfl rfl (fun h42 => ?_) (fun h42 => ?_)
  · refine z_iconst hR dPC_state_49 (v := 0) (n := 50) rfl rfl ?_
    refine z_zret hR dPC_state_50 rfl rfl (Nat.zero_le _) ?_
    exact ⟨by rw [h42]; rfl, rfl⟩
  · refine z_iconst hR dPC_state_45 (v := 1) (n := 46) rfl rfl ?_
    refine z_goto hR dPC_state_46 (t := 50) rfl ?_
    refine z_zret hR dPC_state_50 rfl rfl (Nat.zero_le _) ?_
    exact ⟨by rw [h42]; rfl, rfl⟩
theorem m_PC_st2 {a : Nat} (ha : a < 6) (σ : zS) : zM yPC_state cPC_state 3 (some .int) 1 30 0 [.ref 0, .int (nI a), .int (-1)] σ (fun r σ2 => r = some (.int (σ.1 43 a)) ∧ σ2 = σ) (fun _ _ => False) := by
  refine zM.of [some (.ref 0), some (.int (nI a)), some (.int (-1))] (by decide) 0 rfl (fun _ => Nat.le_of_ble_eq_true rfl) (fun Z hR => ?_)
  refine z_iload_n hR dPC_state_0 (n := 1) rfl rfl ?_
  refine z_callS1 hR dPC_state_1 (n := 4) rfl zcPC_108 zkPC_isState (by decide) (Nat.le_of_ble_eq_true rfl) (Nat.zero_le _) (m_PC_isS ha σ) (fun r1 s1 h1 => ?_)
  obtain ⟨rfl, e1⟩ := h1
  subst s1
  refine z_if_ne hR dPC_state_4 (t := 9) (n := 7) rfl rfl (fun _ => ?_) (fun h4 => absurd h4 (by decide))
  refine z_iload_n hR dPC_state_9 (n := 10) rfl rfl ?_
  refine z_iconst hR dPC_state_10 (v := (-1)) (n := 11) rfl rfl ?_
  refine z_icmp_ne hR dPC_state_11 (t := 24) (n := 14) rfl rfl (fun h11 => absurd h11 (fun q => q rfl)) (fun _ => ?_)
  refine z_aload_n hR dPC_state_14 (n := 15) rfl rfl ?_
  refine z_getR hR dPC_state_15 (n := 18) rfl zgPC_66 (by decide) rfl rfl ?_
  refine z_getR hR dPC_state_18 (n := 21) rfl zgPC_112 (by decide) rfl rfl ?_
  refine z_iload_n hR dPC_state_21 (n := 22) rfl rfl ?_
  refine z_iald hR (_) dPC_state_22 (n := 23) rfl (by decide) rfl (by decide) rfl (by omega) ?_
  refine z_zret hR dPC_state_23 rfl rfl (Nat.zero_le _) ?_
  exact ⟨rfl, rfl⟩
theorem m_PC_st0 {a b : Int32} (h : zNo a ∨ (b ≠ -1 ∧ zNo b)) (σ : zS) : zM yPC_state cPC_state 3 (some .int) 1 30 0 [.ref 0, .int a, .int b] σ (fun r σ2 => r = some (.int (-1)) ∧ σ2 = σ) (fun _ _ => False) := by
  refine zM.of [some (.ref 0), some (.int a), some (.int b)] (by decide) 0 rfl (fun _ => Nat.le_of_ble_eq_true rfl) (fun Z hR => ?_)
  rcases zNo_or a with ⟨j, hj, rfl⟩ | hs
  ·
    have hb : b ≠ -1 ∧ zNo b := by
      rcases h with h | h
      · exact absurd rfl (h j hj)
      · exact h
    refine z_iload_n hR dPC_state_0 (n := 1) rfl rfl ?_
    refine z_callS1 hR dPC_state_1 (n := 4) rfl zcPC_108 zkPC_isState (by decide) (Nat.le_of_ble_eq_true rfl) (Nat.zero_le _) (m_PC_isS hj σ) (fun r1 s1 h1 => ?_)
    obtain ⟨rfl, e1⟩ := h1
    subst s1
    refine z_if_ne hR dPC_state_4 (t := 9) (n := 7) rfl rfl (fun _ => ?_) (fun h4 => absurd h4 (by decide))
    refine z_iload_n hR dPC_state_9 (n := 10) rfl rfl ?_
    refine z_iconst hR dPC_state_10 (v := (-1)) (n := 11) rfl rfl ?_
    refine z_icmp_ne hR dPC_state_11 (t := 24) (n := 14) rfl rfl (fun _ => ?_) (fun h11 => absurd h11 hb.1)
    refine z_iload_n hR dPC_state_24 (n := 25) rfl rfl ?_
    refine z_callS1 hR dPC_state_25 (n := 28) rfl zcPC_108 zkPC_isState (by decide) (Nat.le_of_ble_eq_true rfl) (Nat.zero_le _) (m_PC_isN hb.2 _) (fun r25 s25 h25 => ?_)
    obtain ⟨rfl, e25⟩ := h25
    subst s25
    refine z_if_ne hR dPC_state_28 (t := 33) (n := 31) rfl rfl (fun h28 => absurd h28 (fun q => q rfl)) (fun _ => ?_)
    refine z_iconst hR dPC_state_31 (v := (-1)) (n := 32) rfl rfl ?_
    refine z_zret hR dPC_state_32 rfl rfl (Nat.zero_le _) ?_
    exact ⟨rfl, rfl⟩
  ·
    refine z_iload_n hR dPC_state_0 (n := 1) rfl rfl ?_
    refine z_callS1 hR dPC_state_1 (n := 4) rfl zcPC_108 zkPC_isState (by decide) (Nat.le_of_ble_eq_true rfl) (Nat.zero_le _) (m_PC_isN hs σ) (fun r1 s1 h1 => ?_)
    obtain ⟨rfl, e1⟩ := h1
    subst s1
    refine z_if_ne hR dPC_state_4 (t := 9) (n := 7) rfl rfl (fun h4 => absurd h4 (fun q => q rfl)) (fun _ => ?_)
    refine z_iconst hR dPC_state_7 (v := (-1)) (n := 8) rfl rfl ?_
    refine z_zret hR dPC_state_8 rfl rfl (Nat.zero_le _) ?_
    exact ⟨rfl, rfl⟩
theorem m_MO_st1 {a b : Nat} {q : Bool} (ha : a < 6) (hb : b < 6) (σ : zS) (hq : σ.1 58 (6 * a + b) = zb q) : zM yMO_state cMO_state 3 (some .int) 1 30 0 [.ref 45, .int (nI a), .int (nI b)] σ (fun r σ2 => r = some (.int (zb q)) ∧ σ2 = zwA σ 45 0 0) (fun _ _ => False) := by
  refine zM.of [some (.ref 45), some (.int (nI a)), some (.int (nI b))] (by decide) 0 rfl (fun _ => Nat.le_of_ble_eq_true rfl) (fun Z hR => ?_)
  refine z_aload_n hR dMO_state_0 (n := 1) rfl rfl ?_
  refine z_iconst hR dMO_state_1 (v := 0) (n := 2) rfl rfl ?_
  refine z_putI hR dMO_state_2 (n := 5) rfl zpMO_93 (by decide) rfl rfl ?_
  refine z_iload_n hR dMO_state_5 (n := 6) rfl rfl ?_
  refine z_callS1 hR dMO_state_6 (n := 9) rfl zcMO_174 zkMO_isState (by decide) (Nat.le_of_ble_eq_true rfl) (Nat.zero_le _) (m_MO_isS ha _) (fun r6 s6 h6 => ?_)
  obtain ⟨rfl, e6⟩ := h6
  subst s6
  refine z_if_eq hR dMO_state_9 (t := 22) (n := 12) rfl rfl (fun h9 => absurd h9 (by decide)) (fun _ => ?_)
  refine z_iload_n hR dMO_state_12 (n := 13) rfl rfl ?_
  refine z_iconst hR dMO_state_13 (v := (-1)) (n := 14) rfl rfl ?_
  refine z_icmp_lt hR dMO_state_14 (t := 22) (n := 17) rfl rfl (fun h14 => absurd h14 (fun q => nI_pos (n := b) (by omega) (Int32.lt_trans q (by decide)))) (fun _ => ?_)
  refine z_iload_n hR dMO_state_17 (n := 18) rfl rfl ?_
  refine z_iconst hR dMO_state_18 (v := nI 5) (n := 19) rfl rfl ?_
  refine z_icmp_leN hR dMO_state_19 (t := 24) (n := 22) rfl rfl (by omega) (by omega) (fun h19 => ?_) (fun h19 => absurd h19 (by omega))
  refine z_iload_n hR dMO_state_24 (n := 25) rfl rfl ?_
  refine z_if_geN hR dMO_state_25 (t := 37) (n := 28) rfl rfl (by omega) ?_
  refine z_aload_n hR dMO_state_37 (n := 38) rfl rfl ?_
  refine z_getR hR dMO_state_38 (n := 41) rfl zgMO_46 (by decide) rfl rfl ?_
  refine z_bipush hR dMO_state_41 (v := nI 6) (n := 43) rfl rfl ?_
  refine z_iload_n hR dMO_state_43 (n := 44) rfl rfl ?_
  refine z_imulN hR dMO_state_44 (n := 45) rfl ?_
  refine z_iload_n hR dMO_state_45 (n := 46) rfl rfl ?_
  refine z_iaddN hR dMO_state_46 (n := 47) rfl ?_
  refine z_zald hR (_) dMO_state_47 (n := 48) rfl (by decide) rfl (by decide) rfl (by omega) ?_
  rw [zwA_n _ _ _ _ (by decide), hq]
  refine z_if_eqB hR dMO_state_48 (t := 55) (n := 51) rfl rfl (fun h48 => ?_) (fun h48 => ?_)
  · refine z_iconst hR dMO_state_55 (v := 0) (n := 56) rfl rfl ?_
    refine z_zret hR dMO_state_56 rfl rfl (Nat.zero_le _) ?_
    exact ⟨by rw [h48]; rfl, rfl⟩
  · refine z_iconst hR dMO_state_51 (v := 1) (n := 52) rfl rfl ?_
    refine z_goto hR dMO_state_52 (t := 56) rfl ?_
    refine z_zret hR dMO_state_56 rfl rfl (Nat.zero_le _) ?_
    exact ⟨by rw [h48]; rfl, rfl⟩
theorem m_MO_st2 {a : Nat} (ha : a < 6) (σ : zS) : zM yMO_state cMO_state 3 (some .int) 1 30 0 [.ref 45, .int (nI a), .int (-1)] σ (fun r σ2 => r = some (.int (σ.1 57 a)) ∧ σ2 = zwA σ 45 0 0) (fun _ _ => False) := by
  refine zM.of [some (.ref 45), some (.int (nI a)), some (.int (-1))] (by decide) 0 rfl (fun _ => Nat.le_of_ble_eq_true rfl) (fun Z hR => ?_)
  refine z_aload_n hR dMO_state_0 (n := 1) rfl rfl ?_
  refine z_iconst hR dMO_state_1 (v := 0) (n := 2) rfl rfl ?_
  refine z_putI hR dMO_state_2 (n := 5) rfl zpMO_93 (by decide) rfl rfl ?_
  refine z_iload_n hR dMO_state_5 (n := 6) rfl rfl ?_
  refine z_callS1 hR dMO_state_6 (n := 9) rfl zcMO_174 zkMO_isState (by decide) (Nat.le_of_ble_eq_true rfl) (Nat.zero_le _) (m_MO_isS ha _) (fun r6 s6 h6 => ?_)
  obtain ⟨rfl, e6⟩ := h6
  subst s6
  refine z_if_eq hR dMO_state_9 (t := 22) (n := 12) rfl rfl (fun h9 => absurd h9 (by decide)) (fun _ => ?_)
  refine z_iload_n hR dMO_state_12 (n := 13) rfl rfl ?_
  refine z_iconst hR dMO_state_13 (v := (-1)) (n := 14) rfl rfl ?_
  refine z_icmp_lt hR dMO_state_14 (t := 22) (n := 17) rfl rfl (fun h14 => absurd h14 (by decide)) (fun _ => ?_)
  refine z_iload_n hR dMO_state_17 (n := 18) rfl rfl ?_
  refine z_iconst hR dMO_state_18 (v := 5) (n := 19) rfl rfl ?_
  refine z_icmp_le hR dMO_state_19 (t := 24) (n := 22) rfl rfl (fun _ => ?_) (fun h19 => absurd (by decide) h19)
  refine z_iload_n hR dMO_state_24 (n := 25) rfl rfl ?_
  refine z_if_ge hR dMO_state_25 (t := 37) (n := 28) rfl rfl (fun h25 => absurd h25 (by decide)) (fun _ => ?_)
  refine z_aload_n hR dMO_state_28 (n := 29) rfl rfl ?_
  refine z_getR hR dMO_state_29 (n := 32) rfl zgMO_43 (by decide) rfl rfl ?_
  refine z_iload_n hR dMO_state_32 (n := 33) rfl rfl ?_
  refine z_iald hR (_) dMO_state_33 (n := 34) rfl (by decide) rfl (by decide) rfl (by omega) ?_
  refine z_goto hR dMO_state_34 (t := 56) rfl ?_
  refine z_zret hR dMO_state_56 rfl rfl (Nat.zero_le _) ?_
  exact ⟨by rw [zwA_n _ _ _ _ (by decide)], rfl⟩
theorem zNo_m1 {b : Int32} (h1 : b ≠ -1) (h : zNo b) (h2 : ¬ b < -1) : ¬ b ≤ 5 := by
  intro h5
  have h0 : ¬ b < 0 := by
    intro h0
    rw [Int32.lt_iff_toInt_lt] at h0 h2
    exact h1 (Int32.toInt_inj.mp (by
      rw [show ((-1 : Int32)).toInt = -1 by decide] at h2 ⊢
      rw [show ((0 : Int32)).toInt = 0 by decide] at h0
      omega))
  have h6 := zNo_ge h h0
  exact absurd (Int32.le_trans h6 h5) (by decide)
theorem m_MO_st0 {a b : Int32} (h : zNo a ∨ (b ≠ -1 ∧ zNo b)) (σ : zS) : zM yMO_state cMO_state 3 (some .int) 1 30 0 [.ref 45, .int a, .int b] σ (fun r σ2 => r = some (.int (-1)) ∧ σ2 = zwA σ 45 0 0) (fun _ _ => False) := by
  refine zM.of [some (.ref 45), some (.int a), some (.int b)] (by decide) 0 rfl (fun _ => Nat.le_of_ble_eq_true rfl) (fun Z hR => ?_)
  rcases zNo_or a with ⟨j, hj, rfl⟩ | hs
  ·
    have hb : b ≠ -1 ∧ zNo b := by
      rcases h with h | h
      · exact absurd rfl (h j hj)
      · exact h
    refine z_aload_n hR dMO_state_0 (n := 1) rfl rfl ?_
    refine z_iconst hR dMO_state_1 (v := 0) (n := 2) rfl rfl ?_
    refine z_putI hR dMO_state_2 (n := 5) rfl zpMO_93 (by decide) rfl rfl ?_
    refine z_iload_n hR dMO_state_5 (n := 6) rfl rfl ?_
    refine z_callS1 hR dMO_state_6 (n := 9) rfl zcMO_174 zkMO_isState (by decide) (Nat.le_of_ble_eq_true rfl) (Nat.zero_le _) (m_MO_isS hj _) (fun r6 s6 h6 => ?_)
    obtain ⟨rfl, e6⟩ := h6
    subst s6
    refine z_if_eq hR dMO_state_9 (t := 22) (n := 12) rfl rfl (fun h9 => absurd h9 (by decide)) (fun _ => ?_)
    refine z_iload_n hR dMO_state_12 (n := 13) rfl rfl ?_
    refine z_iconst hR dMO_state_13 (v := (-1)) (n := 14) rfl rfl ?_
    refine z_icmp_lt hR dMO_state_14 (t := 22) (n := 17) rfl rfl (fun h14 => ?_) (fun h14 => ?_)
    · refine z_iconst hR dMO_state_22 (v := (-1)) (n := 23) rfl rfl ?_
      refine z_zret hR dMO_state_23 rfl rfl (Nat.zero_le _) ?_
      exact ⟨rfl, rfl⟩
    · refine z_iload_n hR dMO_state_17 (n := 18) rfl rfl ?_
      refine z_iconst hR dMO_state_18 (v := 5) (n := 19) rfl rfl ?_
      refine z_icmp_le hR dMO_state_19 (t := 24) (n := 22) rfl rfl (fun h19 => absurd h19 (zNo_m1 hb.1 hb.2 h14)) (fun _ => ?_)
      refine z_iconst hR dMO_state_22 (v := (-1)) (n := 23) rfl rfl ?_
      refine z_zret hR dMO_state_23 rfl rfl (Nat.zero_le _) ?_
      exact ⟨rfl, rfl⟩
  ·
    refine z_aload_n hR dMO_state_0 (n := 1) rfl rfl ?_
    refine z_iconst hR dMO_state_1 (v := 0) (n := 2) rfl rfl ?_
    refine z_putI hR dMO_state_2 (n := 5) rfl zpMO_93 (by decide) rfl rfl ?_
    refine z_iload_n hR dMO_state_5 (n := 6) rfl rfl ?_
    refine z_callS1 hR dMO_state_6 (n := 9) rfl zcMO_174 zkMO_isState (by decide) (Nat.le_of_ble_eq_true rfl) (Nat.zero_le _) (m_MO_isN hs _) (fun r6 s6 h6 => ?_)
    obtain ⟨rfl, e6⟩ := h6
    subst s6
    refine z_if_eq hR dMO_state_9 (t := 22) (n := 12) rfl rfl (fun _ => ?_) (fun h9 => absurd rfl h9)
    refine z_iconst hR dMO_state_22 (v := (-1)) (n := 23) rfl rfl ?_
    refine z_zret hR dMO_state_23 rfl rfl (Nat.zero_le _) ?_
    exact ⟨rfl, rfl⟩
/-- normal: what is asked for -/
def zno (f : Nat → Int32) (n : Nat) (k : Int32) : Int32 := if k = -1 then nI n else if k < 0 then -1 else if nI n ≤ k then -1 else f k.toNatClampNeg
theorem m_PC_nm1 {n : Nat} (k : Int32) (σ : zS) (hn : σ.1 34 1 = nI n) (h0 : 0 < n) (h : n ≤ 37) (hc : ∀ j, j < n → narrow .char (.int (σ.1 35 j)) = .int (σ.1 35 j)) : zM yPC_normal cPC_normal 2 (some .int) 6 90 1 [.ref 0, .int k] σ (fun r σ2 => r = some (.int (zno (σ.1 35) n k)) ∧ σ2 = σ) (fun _ _ => False) := by
  refine zM.of [some (.ref 0), some (.int k)] (by decide) 0 rfl (fun _ => Nat.le_of_ble_eq_true rfl) (fun Z hR => ?_)
  refine z_aload_n hR dPC_normal_0 (n := 1) rfl rfl ?_
  refine z_getR hR dPC_normal_1 (n := 4) rfl zgPC_61 (by decide) rfl rfl ?_
  refine z_callV0 hR dPC_normal_4 (n := 7) rfl zcPC_95 zkNF_isMissing (by decide) (Nat.le_of_ble_eq_true rfl) (by decide) rfl rfl (Nat.zero_le _) (m_NF_isM σ hn (by omega)) (fun r4 s4 h4 => ?_)
  obtain ⟨rfl, e4⟩ := h4
  subst s4
  refine z_if_eqB hR dPC_normal_7 (t := 18) (n := 10) rfl rfl (fun h7 => ?_) (fun h7 => absurd h7 (by simp; omega))
  refine z_iload_n hR dPC_normal_18 (n := 19) rfl rfl ?_
  refine z_iconst hR dPC_normal_19 (v := (-1)) (n := 20) rfl rfl ?_
  refine z_icmp_ne hR dPC_normal_20 (t := 31) (n := 23) rfl rfl (fun h20 => ?_) (fun h20 => ?_)
  · refine z_iload_n hR dPC_normal_31 (n := 32) rfl rfl ?_
    refine z_if_lt hR dPC_normal_32 (t := 58) (n := 35) rfl rfl (fun h32 => ?_) (fun h32 => ?_)
    · have e0 : zno (σ.1 35) n k = -1 := by rw [zno, if_neg h20, if_pos h32]
      refine z_iconst hR dPC_normal_58 (v := (-1)) (n := 59) rfl rfl ?_
      refine z_zret hR dPC_normal_59 rfl rfl (Nat.zero_le _) ?_
      exact ⟨by rw [e0], rfl⟩
    · refine z_iload_n hR dPC_normal_35 (n := 36) rfl rfl ?_
      refine z_aload_n hR dPC_normal_36 (n := 37) rfl rfl ?_
      refine z_getR hR dPC_normal_37 (n := 40) rfl zgPC_61 (by decide) rfl rfl ?_
      refine z_getI hR dPC_normal_40 (n := 43) rfl zgPC_102 (by decide) rfl rfl ?_
      refine z_icmp_ge hR dPC_normal_43 (t := 58) (n := 46) rfl rfl (fun h43 => ?_) (fun h43 => ?_)
      · have e0 : zno (σ.1 35) n k = -1 := by rw [zno, if_neg h20, if_neg h32, ← hn, if_pos h43]
        refine z_iconst hR dPC_normal_58 (v := (-1)) (n := 59) rfl rfl ?_
        refine z_zret hR dPC_normal_59 rfl rfl (Nat.zero_le _) ?_
        exact ⟨by rw [e0], rfl⟩
      · obtain ⟨j, hj, rfl⟩ : ∃ j : Nat, j < n ∧ k = nI j := by
          rw [hn] at h43
          rcases pk_ix k (n := n) (by omega) with q | q | q
          · exact absurd q h32
          · exact absurd q h43
          · exact q
        have e0 : zno (σ.1 35) n (nI j) = σ.1 35 j := by rw [zno, if_neg h20, if_neg h32, ← hn, if_neg h43, nI_clamp (by omega)]
        refine z_aload_n hR dPC_normal_46 (n := 47) rfl rfl ?_
        refine z_getR hR dPC_normal_47 (n := 50) rfl zgPC_61 (by decide) rfl rfl ?_
        refine z_getR hR dPC_normal_50 (n := 53) rfl zgPC_105 (by decide) rfl rfl ?_
        refine z_iload_n hR dPC_normal_53 (n := 54) rfl rfl ?_
        refine z_cald hR (_) dPC_normal_54 (n := 55) rfl (by decide) rfl (by decide) rfl (by omega) ?_
        refine z_goto hR dPC_normal_55 (t := 59) rfl ?_
        refine z_zret hR dPC_normal_59 rfl rfl (Nat.zero_le _) ?_
        exact ⟨by rw [e0], rfl⟩
  · refine z_aload_n hR dPC_normal_23 (n := 24) rfl rfl ?_
    refine z_getR hR dPC_normal_24 (n := 27) rfl zgPC_61 (by decide) rfl rfl ?_
    refine z_getI hR dPC_normal_27 (n := 30) rfl zgPC_102 (by decide) rfl rfl ?_
    refine z_zret hR dPC_normal_30 rfl rfl (Nat.zero_le _) ?_
    exact ⟨by rw [zno, if_pos h20, hn], rfl⟩
theorem m_PC_nm0 (k : Int32) (σ : zS) (hn : σ.1 34 1 = nI 0) : zM yPC_normal cPC_normal 2 (some .int) 6 90 1 [.ref 0, .int k] σ (fun _ _ => False) (fun x σ2 => x = 2 ∧ σ2 = σ) := by
  refine zM.of [some (.ref 0), some (.int k)] (by decide) 0 rfl (fun _ => Nat.le_of_ble_eq_true rfl) (fun Z hR => ?_)
  refine z_aload_n hR dPC_normal_0 (n := 1) rfl rfl ?_
  refine z_getR hR dPC_normal_1 (n := 4) rfl zgPC_61 (by decide) rfl rfl ?_
  refine z_callV0 hR dPC_normal_4 (n := 7) rfl zcPC_95 zkNF_isMissing (by decide) (Nat.le_of_ble_eq_true rfl) (by decide) rfl rfl (Nat.zero_le _) (m_NF_isM σ hn (by omega)) (fun r4 s4 h4 => ?_)
  obtain ⟨rfl, e4⟩ := h4
  subst s4
  refine z_if_eqB hR dPC_normal_7 (t := 18) (n := 10) rfl rfl (fun h7 => absurd h7 (by simp)) (fun h7 => ?_)
  refine z_throw hR dPC_normal_10 dPC_normal_13 dPC_normal_14 dPC_normal_17 ztPC_99 (by decide) (by decide) (by decide) ?_
  exact ⟨rfl, rfl⟩
theorem m_MO_nm1 {n : Nat} (k : Int32) (σ : zS) (hl : σ.1 45 3 = 1) (hn : σ.1 45 19 = nI n) (h : n ≤ 100) : zM yMO_normal cMO_normal 2 (some .int) 0 0 0 [.ref 45, .int k] σ (fun r σ2 => r = some (.int (zno (σ.1 56) n k)) ∧ σ2 = zwA σ 45 0 0) (fun _ _ => False) := by
  refine zM.of [some (.ref 45), some (.int k)] (by decide) 0 rfl (fun _ => Nat.le_of_ble_eq_true rfl) (fun Z hR => ?_)
  refine z_aload_n hR dMO_normal_0 (n := 1) rfl rfl ?_
  refine z_aload_n hR dMO_normal_1 (n := 2) rfl rfl ?_
  refine z_getI hR dMO_normal_2 (n := 5) rfl zgMO_151 (by decide) rfl rfl ?_
  rw [hl]
  refine z_if_eq hR dMO_normal_5 (t := 12) (n := 8) rfl rfl (fun h5 => absurd h5 (by decide)) (fun _ => ?_)
  refine z_iconst hR dMO_normal_8 (v := 0) (n := 9) rfl rfl ?_
  refine z_goto hR dMO_normal_9 (t := 13) rfl ?_
  refine z_putI hR dMO_normal_13 (n := 16) rfl zpMO_93 (by decide) rfl rfl ?_
  refine z_aload_n hR dMO_normal_16 (n := 17) rfl rfl ?_
  refine z_getI hR dMO_normal_17 (n := 20) rfl zgMO_151 (by decide) rfl rfl ?_
  rw [zwA_sn _ _ _ _ (by decide), hl]
  refine z_if_ne hR dMO_normal_20 (t := 27) (n := 23) rfl rfl (fun _ => ?_) (fun h20 => absurd h20 (by decide))
  refine z_iload_n hR dMO_normal_27 (n := 28) rfl rfl ?_
  refine z_iconst hR dMO_normal_28 (v := (-1)) (n := 29) rfl rfl ?_
  refine z_icmp_ne hR dMO_normal_29 (t := 39) (n := 32) rfl rfl (fun h29 => ?_) (fun h29 => ?_)
  · skip
    refine z_iload_n hR dMO_normal_39 (n := 40) rfl rfl ?_
    refine z_if_lt hR dMO_normal_40 (t := 51) (n := 43) rfl rfl (fun h40 => ?_) (fun h40 => ?_)
    · have e0 : zno (σ.1 56) n k = -1 := by rw [zno, if_neg h29, if_pos h40]
      refine z_iconst hR dMO_normal_51 (v := (-1)) (n := 52) rfl rfl ?_
      refine z_goto hR dMO_normal_52 (t := 61) rfl ?_
      refine z_zret hR dMO_normal_61 rfl rfl (Nat.zero_le _) ?_
      exact ⟨by first | (rw [e0]; done) | rw [e0, zwA_n _ _ _ _ (by decide)], rfl⟩
    · refine z_iload_n hR dMO_normal_43 (n := 44) rfl rfl ?_
      refine z_aload_n hR dMO_normal_44 (n := 45) rfl rfl ?_
      refine z_getI hR dMO_normal_45 (n := 48) rfl zgMO_161 (by decide) rfl rfl ?_
      rw [zwA_sn _ _ _ _ (by decide), hn]
      refine z_icmp_lt hR dMO_normal_48 (t := 55) (n := 51) rfl rfl (fun h48 => ?_) (fun h48 => ?_)
      · obtain ⟨j, hj, rfl⟩ : ∃ j : Nat, j < n ∧ k = nI j := by
          rcases pk_ix k (n := n) (by omega) with q | q | q
          · exact absurd q h40
          · exact absurd h48 (Int32.not_lt.mpr q)
          · exact q
        have e0 : zno (σ.1 56) n (nI j) = σ.1 56 j := by rw [zno, if_neg h29, if_neg h40, if_neg (fun q => Int32.not_lt.mpr q h48), nI_clamp (by omega)]
        refine z_aload_n hR dMO_normal_55 (n := 56) rfl rfl ?_
        refine z_getR hR dMO_normal_56 (n := 59) rfl zgMO_40 (by decide) rfl rfl ?_
        refine z_iload_n hR dMO_normal_59 (n := 60) rfl rfl ?_
        refine z_iald hR (_) dMO_normal_60 (n := 61) rfl (by decide) rfl (by decide) rfl (by omega) ?_
        refine z_zret hR dMO_normal_61 rfl rfl (Nat.zero_le _) ?_
        exact ⟨by first | (rw [e0]; done) | rw [e0, zwA_n _ _ _ _ (by decide)], rfl⟩
      · have e0 : zno (σ.1 56) n k = -1 := by rw [zno, if_neg h29, if_neg h40, if_pos (Int32.not_lt.mp h48)]
        refine z_iconst hR dMO_normal_51 (v := (-1)) (n := 52) rfl rfl ?_
        refine z_goto hR dMO_normal_52 (t := 61) rfl ?_
        refine z_zret hR dMO_normal_61 rfl rfl (Nat.zero_le _) ?_
        exact ⟨by first | (rw [e0]; done) | rw [e0, zwA_n _ _ _ _ (by decide)], rfl⟩
  · have e0 : zno (σ.1 56) n k = σ.1 45 19 := by rw [zno, if_pos h29, hn]
    refine z_aload_n hR dMO_normal_32 (n := 33) rfl rfl ?_
    refine z_getI hR dMO_normal_33 (n := 36) rfl zgMO_161 (by decide) rfl rfl ?_
    rw [zwA_sn _ _ _ _ (by decide)]
    refine z_goto hR dMO_normal_36 (t := 61) rfl ?_
    refine z_zret hR dMO_normal_61 rfl rfl (Nat.zero_le _) ?_
    exact ⟨by first | (rw [e0]; done) | rw [e0, zwA_n _ _ _ _ (by decide)], rfl⟩
theorem m_MO_nm0 (k : Int32) (σ : zS) (hl : σ.1 45 3 = 0) : zM yMO_normal cMO_normal 2 (some .int) 0 0 0 [.ref 45, .int k] σ (fun r σ2 => r = some (.int 0) ∧ σ2 = zwA σ 45 0 1) (fun _ _ => False) := by
  refine zM.of [some (.ref 45), some (.int k)] (by decide) 0 rfl (fun _ => Nat.le_of_ble_eq_true rfl) (fun Z hR => ?_)
  refine z_aload_n hR dMO_normal_0 (n := 1) rfl rfl ?_
  refine z_aload_n hR dMO_normal_1 (n := 2) rfl rfl ?_
  refine z_getI hR dMO_normal_2 (n := 5) rfl zgMO_151 (by decide) rfl rfl ?_
  rw [hl]
  refine z_if_eq hR dMO_normal_5 (t := 12) (n := 8) rfl rfl (fun _ => ?_) (fun h5 => absurd rfl h5)
  refine z_iconst hR dMO_normal_12 (v := 1) (n := 13) rfl rfl ?_
  refine z_putI hR dMO_normal_13 (n := 16) rfl zpMO_93 (by decide) rfl rfl ?_
  refine z_aload_n hR dMO_normal_16 (n := 17) rfl rfl ?_
  refine z_getI hR dMO_normal_17 (n := 20) rfl zgMO_151 (by decide) rfl rfl ?_
  rw [zwA_sn _ _ _ _ (by decide), hl]
  refine z_if_ne hR dMO_normal_20 (t := 27) (n := 23) rfl rfl (fun h20 => absurd h20 (fun q => q rfl)) (fun _ => ?_)
  refine z_iconst hR dMO_normal_23 (v := 0) (n := 24) rfl rfl ?_
  refine z_goto hR dMO_normal_24 (t := 61) rfl ?_
  refine z_zret hR dMO_normal_61 rfl rfl (Nat.zero_le _) ?_
  exact ⟨rfl, rfl⟩
