/-! judge of both -/
def lk2 (L : Nat → Nat → Bool) (st : Nat → Nat) : Nat → Bool
  | 0 => true
  | p + 1 => lk2 L st p && L (st p) (st (p + 1))
theorem lk2_iff {L : Nat → Nat → Bool} {st : Nat → Nat} : ∀ {m : Nat}, lk2 L st m = true ↔ ∀ p, p < m → L (st p) (st (p + 1)) = true
  | 0 => ⟨fun _ p h => absurd h (by omega), fun _ => rfl⟩
  | m + 1 => by
    rw [lk2, Bool.and_eq_true, lk2_iff (m := m)]
    constructor
    · rintro ⟨h1, h2⟩ p hp
      by_cases e : p = m
      · exact e ▸ h2
      · exact h1 p (by omega)
    · exact fun h => ⟨fun p hp => h p (by omega), h m (by omega)⟩
theorem m_MO_linked {k : Nat} (hk0 : 0 < k) (hk : k ≤ 8) (σ : zS) (hs : σ.1 45 34 = nI k) {st : Nat → Nat} (hst : ∀ p, p < k → σ.1 68 p = nI (st p) ∧ st p < 6) {L : Nat → Nat → Bool} (hL : ∀ a b, a < 6 → b < 6 → σ.1 58 (6 * a + b) = zb (L a b)) : zM yMO_linked cMO_linked 3 (some .boolean) 0 0 0 [.ref 45] σ (fun r σ2 => r = some (.int (zb (lk2 L st (k - 1)))) ∧ σ2 = σ) (fun _ _ => False) := by
  refine zM.of [some (.ref 45), none, none] (by decide) 2 rfl (fun _ => Nat.le_of_ble_eq_true rfl) (fun Z hR => ?_)
  have key : ∀ (m i : Nat), i + m + 1 = k → Z 0 4 [some (.ref 45), some (.int (zb (lk2 L st i))), some (.int (nI i))] [] σ := by
    intro m
    induction m with
    | zero =>
      intro i hi
      refine z_iload_n hR dMO_linked_4 (n := 5) rfl rfl ?_
      refine z_iconst hR dMO_linked_5 (v := nI 1) (n := 6) rfl rfl ?_
      refine z_iaddN hR dMO_linked_6 (n := 7) rfl ?_
      refine z_aload_n hR dMO_linked_7 (n := 8) rfl rfl ?_
      refine z_getI hR dMO_linked_8 (n := 11) rfl zgMO_208 (by decide) rfl rfl ?_
      rw [hs]
      refine z_icmp_geN hR dMO_linked_11 (t := 56) (n := 14) rfl rfl (by omega) (by omega) (fun h11 => ?_) (fun h11 => absurd h11 (by omega))
      refine z_iload_n hR dMO_linked_56 (n := 57) rfl rfl ?_
      refine z_zret hR dMO_linked_57 rfl (zb_nar _) (Nat.zero_le _) ?_
      exact ⟨by rw [show k - 1 = i by omega], rfl⟩
    | succ m ih =>
      intro i hi
      have hgo := ih (i + 1) (by omega)
      rw [lk2] at hgo
      have q1 := (hst i (by omega)).2
      have q2 := (hst (i + 1) (by omega)).2
      have hl := hL (st i) (st (i + 1)) q1 q2
      cases e : lk2 L st i with
      | false =>
        rw [e, Bool.false_and] at hgo
        refine z_iload_n hR dMO_linked_4 (n := 5) rfl rfl ?_
        refine z_iconst hR dMO_linked_5 (v := nI 1) (n := 6) rfl rfl ?_
        refine z_iaddN hR dMO_linked_6 (n := 7) rfl ?_
        refine z_aload_n hR dMO_linked_7 (n := 8) rfl rfl ?_
        refine z_getI hR dMO_linked_8 (n := 11) rfl zgMO_208 (by decide) rfl rfl ?_
        rw [hs]
        refine z_icmp_geN hR dMO_linked_11 (t := 56) (n := 14) rfl rfl (by omega) (by omega) (fun h11 => absurd h11 (by omega)) (fun h11 => ?_)
        refine z_iload_n hR dMO_linked_14 (n := 15) rfl rfl ?_
        refine z_if_eqB hR dMO_linked_15 (t := 48) (n := 18) rfl rfl (fun h15 => ?_) (fun h15 => absurd h15 (by decide))
        refine z_iconst hR dMO_linked_48 (v := 0) (n := 49) rfl rfl ?_
        refine z_istore_n hR dMO_linked_49 (n := 50) rfl (by decide) rfl ?_
        refine z_iincN hR 1 dMO_linked_50 (n := 53) rfl rfl (by decide) rfl rfl ?_
        refine z_goto hR dMO_linked_53 (t := 4) rfl ?_
        exact hgo
      | true =>
        rw [e, Bool.true_and] at hgo
        cases e2 : L (st i) (st (i + 1)) with
        | false =>
          rw [e2] at hgo hl
          refine z_iload_n hR dMO_linked_4 (n := 5) rfl rfl ?_
          refine z_iconst hR dMO_linked_5 (v := nI 1) (n := 6) rfl rfl ?_
          refine z_iaddN hR dMO_linked_6 (n := 7) rfl ?_
          refine z_aload_n hR dMO_linked_7 (n := 8) rfl rfl ?_
          refine z_getI hR dMO_linked_8 (n := 11) rfl zgMO_208 (by decide) rfl rfl ?_
          rw [hs]
          refine z_icmp_geN hR dMO_linked_11 (t := 56) (n := 14) rfl rfl (by omega) (by omega) (fun h11 => absurd h11 (by omega)) (fun h11 => ?_)
          refine z_iload_n hR dMO_linked_14 (n := 15) rfl rfl ?_
          refine z_if_eqB hR dMO_linked_15 (t := 48) (n := 18) rfl rfl (fun h15 => absurd h15 (by decide)) (fun h15 => ?_)
          refine z_aload_n hR dMO_linked_18 (n := 19) rfl rfl ?_
          refine z_getR hR dMO_linked_19 (n := 22) rfl zgMO_46 (by decide) rfl rfl ?_
          refine z_bipush hR dMO_linked_22 (v := nI 6) (n := 24) rfl rfl ?_
          refine z_aload_n hR dMO_linked_24 (n := 25) rfl rfl ?_
          refine z_getR hR dMO_linked_25 (n := 28) rfl zgMO_78 (by decide) rfl rfl ?_
          refine z_iload_n hR dMO_linked_28 (n := 29) rfl rfl ?_
          refine z_iald hR (_) dMO_linked_29 (n := 30) rfl (by decide) rfl (by decide) rfl (by omega) ?_
          rw [(hst i (by omega)).1]
          refine z_imulN hR dMO_linked_30 (n := 31) rfl ?_
          refine z_aload_n hR dMO_linked_31 (n := 32) rfl rfl ?_
          refine z_getR hR dMO_linked_32 (n := 35) rfl zgMO_78 (by decide) rfl rfl ?_
          refine z_iload_n hR dMO_linked_35 (n := 36) rfl rfl ?_
          refine z_iconst hR dMO_linked_36 (v := nI 1) (n := 37) rfl rfl ?_
          refine z_iaddN hR dMO_linked_37 (n := 38) rfl ?_
          refine z_iald hR (_) dMO_linked_38 (n := 39) rfl (by decide) rfl (by decide) rfl (by omega) ?_
          rw [(hst (i + 1) (by omega)).1]
          refine z_iaddN hR dMO_linked_39 (n := 40) rfl ?_
          refine z_zald hR (_) dMO_linked_40 (n := 41) rfl (by decide) rfl (by decide) rfl (by omega) ?_
          rw [hl]
          refine z_if_eqB hR dMO_linked_41 (t := 48) (n := 44) rfl rfl (fun h41 => ?_) (fun h41 => absurd h41 (by decide))
          refine z_iconst hR dMO_linked_48 (v := 0) (n := 49) rfl rfl ?_
          refine z_istore_n hR dMO_linked_49 (n := 50) rfl (by decide) rfl ?_
          refine z_iincN hR 1 dMO_linked_50 (n := 53) rfl rfl (by decide) rfl rfl ?_
          refine z_goto hR dMO_linked_53 (t := 4) rfl ?_
          exact hgo
        | true =>
          rw [e2] at hgo hl
          refine z_iload_n hR dMO_linked_4 (n := 5) rfl rfl ?_
          refine z_iconst hR dMO_linked_5 (v := nI 1) (n := 6) rfl rfl ?_
          refine z_iaddN hR dMO_linked_6 (n := 7) rfl ?_
          refine z_aload_n hR dMO_linked_7 (n := 8) rfl rfl ?_
          refine z_getI hR dMO_linked_8 (n := 11) rfl zgMO_208 (by decide) rfl rfl ?_
          rw [hs]
          refine z_icmp_geN hR dMO_linked_11 (t := 56) (n := 14) rfl rfl (by omega) (by omega) (fun h11 => absurd h11 (by omega)) (fun h11 => ?_)
          refine z_iload_n hR dMO_linked_14 (n := 15) rfl rfl ?_
          refine z_if_eqB hR dMO_linked_15 (t := 48) (n := 18) rfl rfl (fun h15 => absurd h15 (by decide)) (fun h15 => ?_)
          refine z_aload_n hR dMO_linked_18 (n := 19) rfl rfl ?_
          refine z_getR hR dMO_linked_19 (n := 22) rfl zgMO_46 (by decide) rfl rfl ?_
          refine z_bipush hR dMO_linked_22 (v := nI 6) (n := 24) rfl rfl ?_
          refine z_aload_n hR dMO_linked_24 (n := 25) rfl rfl ?_
          refine z_getR hR dMO_linked_25 (n := 28) rfl zgMO_78 (by decide) rfl rfl ?_
          refine z_iload_n hR dMO_linked_28 (n := 29) rfl rfl ?_
          refine z_iald hR (_) dMO_linked_29 (n := 30) rfl (by decide) rfl (by decide) rfl (by omega) ?_
          rw [(hst i (by omega)).1]
          refine z_imulN hR dMO_linked_30 (n := 31) rfl ?_
          refine z_aload_n hR dMO_linked_31 (n := 32) rfl rfl ?_
          refine z_getR hR dMO_linked_32 (n := 35) rfl zgMO_78 (by decide) rfl rfl ?_
          refine z_iload_n hR dMO_linked_35 (n := 36) rfl rfl ?_
          refine z_iconst hR dMO_linked_36 (v := nI 1) (n := 37) rfl rfl ?_
          refine z_iaddN hR dMO_linked_37 (n := 38) rfl ?_
          refine z_iald hR (_) dMO_linked_38 (n := 39) rfl (by decide) rfl (by decide) rfl (by omega) ?_
          rw [(hst (i + 1) (by omega)).1]
          refine z_iaddN hR dMO_linked_39 (n := 40) rfl ?_
          refine z_zald hR (_) dMO_linked_40 (n := 41) rfl (by decide) rfl (by decide) rfl (by omega) ?_
          rw [hl]
          refine z_if_eqB hR dMO_linked_41 (t := 48) (n := 44) rfl rfl (fun h41 => absurd h41 (by decide)) (fun h41 => ?_)
          refine z_iconst hR dMO_linked_44 (v := 1) (n := 45) rfl rfl ?_
          refine z_goto hR dMO_linked_45 (t := 49) rfl ?_
          refine z_istore_n hR dMO_linked_49 (n := 50) rfl (by decide) rfl ?_
          refine z_iincN hR 1 dMO_linked_50 (n := 53) rfl rfl (by decide) rfl rfl ?_
          refine z_goto hR dMO_linked_53 (t := 4) rfl ?_
          exact hgo
  refine z_iconst hR dMO_linked_0 (v := 1) (n := 1) rfl rfl ?_
  refine z_istore_n hR dMO_linked_1 (n := 2) rfl (by decide) rfl ?_
  refine z_iconst hR dMO_linked_2 (v := nI 0) (n := 3) rfl rfl ?_
  refine z_istore_n hR dMO_linked_3 (n := 4) rfl (by decide) rfl ?_
  exact key (k - 1) 0 (by omega)
theorem m_PC_ju0 (j i : Int32) (σ : zS) {n k : Nat} (hn : σ.1 34 1 = nI n) (hn7 : n ≤ 37) (hk : σ.1 8 1 = nI k) (hk8 : k ≤ 8) (h : n = 0 ∨ k = 0) : zM yPC_judge cPC_judge 3 (some .boolean) 6 110 1 [.ref 0, .int j, .int i] σ (fun _ _ => False) (fun x σ2 => x = 2 ∧ σ2 = σ) := by
  refine zM.of [some (.ref 0), some (.int j), some (.int i)] (by decide) 0 rfl (fun _ => Nat.le_of_ble_eq_true rfl) (fun Z hR => ?_)
  by_cases h0 : n = 0
  ·
    refine z_aload_n hR dPC_judge_0 (n := 1) rfl rfl ?_
    refine z_getR hR dPC_judge_1 (n := 4) rfl zgPC_61 (by decide) rfl rfl ?_
    refine z_callV0 hR dPC_judge_4 (n := 7) rfl zcPC_95 zkNF_isMissing (by decide) (Nat.le_of_ble_eq_true rfl) (by decide) rfl rfl (Nat.zero_le _) (m_NF_isM σ hn (by omega)) (fun r4 s4 h4 => ?_)
    obtain ⟨rfl, e4⟩ := h4
    subst s4
    refine z_if_neB hR dPC_judge_7 (t := 20) (n := 10) rfl rfl (fun h7 => ?_) (fun h7 => absurd h7 (by simp [h0]))
    refine z_throw hR dPC_judge_20 dPC_judge_23 dPC_judge_24 dPC_judge_27 ztPC_99 (by decide) (by decide) (by decide) ?_
    exact ⟨rfl, rfl⟩
  ·
    have hk0 : k = 0 := by omega
    refine z_aload_n hR dPC_judge_0 (n := 1) rfl rfl ?_
    refine z_getR hR dPC_judge_1 (n := 4) rfl zgPC_61 (by decide) rfl rfl ?_
    refine z_callV0 hR dPC_judge_4 (n := 7) rfl zcPC_95 zkNF_isMissing (by decide) (Nat.le_of_ble_eq_true rfl) (by decide) rfl rfl (Nat.zero_le _) (m_NF_isM σ hn (by omega)) (fun r4 s4 h4 => ?_)
    obtain ⟨rfl, e4⟩ := h4
    subst s4
    refine z_if_neB hR dPC_judge_7 (t := 20) (n := 10) rfl rfl (fun h7 => absurd h7 (by simp [h0])) (fun h7 => ?_)
    refine z_aload_n hR dPC_judge_10 (n := 11) rfl rfl ?_
    refine z_getR hR dPC_judge_11 (n := 14) rfl zgPC_25 (by decide) rfl rfl ?_
    refine z_getI hR dPC_judge_14 (n := 17) rfl zgPC_147 (by decide) rfl rfl ?_
    rw [hk]
    refine z_if_neN hR dPC_judge_17 (t := 28) (n := 20) rfl rfl (by omega) (fun h17 => absurd h17 (by omega)) (fun h17 => ?_)
    refine z_throw hR dPC_judge_20 dPC_judge_23 dPC_judge_24 dPC_judge_27 ztPC_99 (by decide) (by decide) (by decide) ?_
    exact ⟨rfl, rfl⟩
theorem zNq {x : Int32} {k : Nat} (h : ∀ q : Nat, q < k → x ≠ nI q) (hk : k < 2 ^ 31) : x < 0 ∨ (¬ x < 0 ∧ nI k ≤ x) := by
  rcases pk_ix x hk with q | q | ⟨j, hj, q⟩
  · exact Or.inl q
  · by_cases h0 : x < 0
    · exact Or.inl h0
    · exact Or.inr ⟨h0, q⟩
  · exact absurd q (h j hj)
theorem m_PC_ju1 (j i : Int32) (σ : zS) {n k : Nat} (hn : σ.1 34 1 = nI n) (hn0 : 0 < n) (hn7 : n ≤ 37) (hk : σ.1 8 1 = nI k) (hk0 : 0 < k) (hk8 : k ≤ 8) (h : (∀ q : Nat, q < k → i ≠ nI q) ∨ ((∃ q : Nat, q < k ∧ i = nI q) ∧ ∀ q : Nat, q < k → j ≠ nI q)) : zM yPC_judge cPC_judge 3 (some .boolean) 6 110 1 [.ref 0, .int j, .int i] σ (fun _ _ => False) (fun x σ2 => x = 3 ∧ σ2 = σ) := by
  refine zM.of [some (.ref 0), some (.int j), some (.int i)] (by decide) 0 rfl (fun _ => Nat.le_of_ble_eq_true rfl) (fun Z hR => ?_)
  rcases h with h | ⟨⟨q, hq, rfl⟩, h⟩
  ·
    refine z_aload_n hR dPC_judge_0 (n := 1) rfl rfl ?_
    refine z_getR hR dPC_judge_1 (n := 4) rfl zgPC_61 (by decide) rfl rfl ?_
    refine z_callV0 hR dPC_judge_4 (n := 7) rfl zcPC_95 zkNF_isMissing (by decide) (Nat.le_of_ble_eq_true rfl) (by decide) rfl rfl (Nat.zero_le _) (m_NF_isM σ hn (by omega)) (fun r4 s4 h4 => ?_)
    obtain ⟨rfl, e4⟩ := h4
    subst s4
    refine z_if_neB hR dPC_judge_7 (t := 20) (n := 10) rfl rfl (fun h7 => absurd h7 (by simp; omega)) (fun h7 => ?_)
    refine z_aload_n hR dPC_judge_10 (n := 11) rfl rfl ?_
    refine z_getR hR dPC_judge_11 (n := 14) rfl zgPC_25 (by decide) rfl rfl ?_
    refine z_getI hR dPC_judge_14 (n := 17) rfl zgPC_147 (by decide) rfl rfl ?_
    rw [hk]
    refine z_if_neN hR dPC_judge_17 (t := 28) (n := 20) rfl rfl (by omega) (fun h17 => ?_) (fun h17 => absurd h17 (by omega))
    refine z_aload_n hR dPC_judge_28 (n := 29) rfl rfl ?_
    refine z_getR hR dPC_judge_29 (n := 32) rfl zgPC_25 (by decide) rfl rfl ?_
    refine z_iload_n hR dPC_judge_32 (n := 33) rfl rfl ?_
    refine z_callV1 hR dPC_judge_33 (n := 36) rfl zcPC_150 zkPA_hasPlace (by decide) (Nat.le_of_ble_eq_true rfl) (by decide) rfl rfl (Nat.zero_le _) (m_PA_hasN8 h hk8 σ hk) (fun r33 s33 h33 => ?_)
    obtain ⟨rfl, e33⟩ := h33
    subst s33
    refine z_if_eq hR dPC_judge_36 (t := 50) (n := 39) rfl rfl (fun _ => ?_) (fun h36 => absurd rfl h36)
    refine z_throw hR dPC_judge_50 dPC_judge_53 dPC_judge_54 dPC_judge_57 ztPC_129 (by decide) (by decide) (by decide) ?_
    exact ⟨rfl, rfl⟩
  ·
    refine z_aload_n hR dPC_judge_0 (n := 1) rfl rfl ?_
    refine z_getR hR dPC_judge_1 (n := 4) rfl zgPC_61 (by decide) rfl rfl ?_
    refine z_callV0 hR dPC_judge_4 (n := 7) rfl zcPC_95 zkNF_isMissing (by decide) (Nat.le_of_ble_eq_true rfl) (by decide) rfl rfl (Nat.zero_le _) (m_NF_isM σ hn (by omega)) (fun r4 s4 h4 => ?_)
    obtain ⟨rfl, e4⟩ := h4
    subst s4
    refine z_if_neB hR dPC_judge_7 (t := 20) (n := 10) rfl rfl (fun h7 => absurd h7 (by simp; omega)) (fun h7 => ?_)
    refine z_aload_n hR dPC_judge_10 (n := 11) rfl rfl ?_
    refine z_getR hR dPC_judge_11 (n := 14) rfl zgPC_25 (by decide) rfl rfl ?_
    refine z_getI hR dPC_judge_14 (n := 17) rfl zgPC_147 (by decide) rfl rfl ?_
    rw [hk]
    refine z_if_neN hR dPC_judge_17 (t := 28) (n := 20) rfl rfl (by omega) (fun h17 => ?_) (fun h17 => absurd h17 (by omega))
    refine z_aload_n hR dPC_judge_28 (n := 29) rfl rfl ?_
    refine z_getR hR dPC_judge_29 (n := 32) rfl zgPC_25 (by decide) rfl rfl ?_
    refine z_iload_n hR dPC_judge_32 (n := 33) rfl rfl ?_
    refine z_callV1 hR dPC_judge_33 (n := 36) rfl zcPC_150 zkPA_hasPlace (by decide) (Nat.le_of_ble_eq_true rfl) (by decide) rfl rfl (Nat.zero_le _) (m_PA_has8 hq hk8 σ hk) (fun r33 s33 h33 => ?_)
    obtain ⟨rfl, e33⟩ := h33
    subst s33
    refine z_if_eq hR dPC_judge_36 (t := 50) (n := 39) rfl rfl (fun h36 => absurd h36 (by decide)) (fun _ => ?_)
    refine z_aload_n hR dPC_judge_39 (n := 40) rfl rfl ?_
    refine z_getR hR dPC_judge_40 (n := 43) rfl zgPC_25 (by decide) rfl rfl ?_
    refine z_iload_n hR dPC_judge_43 (n := 44) rfl rfl ?_
    refine z_callV1 hR dPC_judge_44 (n := 47) rfl zcPC_150 zkPA_hasPlace (by decide) (Nat.le_of_ble_eq_true rfl) (by decide) rfl rfl (Nat.zero_le _) (m_PA_hasN8 h hk8 σ hk) (fun r44 s44 h44 => ?_)
    obtain ⟨rfl, e44⟩ := h44
    subst s44
    refine z_if_ne hR dPC_judge_47 (t := 58) (n := 50) rfl rfl (fun h47 => absurd h47 (fun w => w rfl)) (fun _ => ?_)
    refine z_throw hR dPC_judge_50 dPC_judge_53 dPC_judge_54 dPC_judge_57 ztPC_129 (by decide) (by decide) (by decide) ?_
    exact ⟨rfl, rfl⟩
theorem m_PC_ju2 {z k j i : Nat} (hz : z ≤ 37) (hz0 : 0 < z) (hj : j < k) (hi : i < k) (hk : k ≤ 8) (σ : zS) (hc : σ.1 8 1 = nI k) {st : Nat → Nat} (hst : ∀ p, p < k → σ.1 9 p = nI (st p) ∧ st p < 6) (hs : σ.1 34 1 = nI z) (hT : tmP (σ.1 35) 0 z) (hC : nCf (σ.1 35) (σ.1 36) (σ.1 37) (σ.1 39) (σ.1 38) z 0) : zM yPC_judge cPC_judge 3 (some .boolean) 6 110 1 [.ref 0, .int (nI j), .int (nI i)] σ (fun r σ2 => zfr [10] σ σ2 ∧ (∀ p, p < k → jn σ (st p) (st (nx k j p)) = true) ∧ r = some (.int (zb (tb (σ2.1 10 0) i))) ∧ ∀ q, q < z → sbk k (σ2.1 10 q) ∧ ∀ p, p < k → tb (σ2.1 10 q) p = ev (σ.1 35 q) (tb (σ2.1 10 (q + 1))) (tb (σ2.1 10 (σ.1 36 q).toNatClampNeg)) k j (fun s p => lh s (σ.1 43 (st p))) p) (fun x σ2 => x = 1 ∧ σ2 = σ ∧ ∃ p, p < k ∧ jn σ (st p) (st (nx k j p)) = false) := by
  refine zM.of [some (.ref 0), some (.int (nI j)), some (.int (nI i))] (by decide) 0 rfl (fun _ => Nat.le_of_ble_eq_true rfl) (fun Z hR => ?_)
  refine z_aload_n hR dPC_judge_0 (n := 1) rfl rfl ?_
  refine z_getR hR dPC_judge_1 (n := 4) rfl zgPC_61 (by decide) rfl rfl ?_
  refine z_callV0 hR dPC_judge_4 (n := 7) rfl zcPC_95 zkNF_isMissing (by decide) (Nat.le_of_ble_eq_true rfl) (by decide) rfl rfl (Nat.zero_le _) (m_NF_isM σ hs (by omega)) (fun r4 s4 h4 => ?_)
  obtain ⟨rfl, e4⟩ := h4
  subst s4
  refine z_if_neB hR dPC_judge_7 (t := 20) (n := 10) rfl rfl (fun h7 => absurd h7 (by simp; omega)) (fun h7 => ?_)
  refine z_aload_n hR dPC_judge_10 (n := 11) rfl rfl ?_
  refine z_getR hR dPC_judge_11 (n := 14) rfl zgPC_25 (by decide) rfl rfl ?_
  refine z_getI hR dPC_judge_14 (n := 17) rfl zgPC_147 (by decide) rfl rfl ?_
  rw [hc]
  refine z_if_neN hR dPC_judge_17 (t := 28) (n := 20) rfl rfl (by omega) (fun h17 => ?_) (fun h17 => absurd h17 (by omega))
  refine z_aload_n hR dPC_judge_28 (n := 29) rfl rfl ?_
  refine z_getR hR dPC_judge_29 (n := 32) rfl zgPC_25 (by decide) rfl rfl ?_
  refine z_iload_n hR dPC_judge_32 (n := 33) rfl rfl ?_
  refine z_callV1 hR dPC_judge_33 (n := 36) rfl zcPC_150 zkPA_hasPlace (by decide) (Nat.le_of_ble_eq_true rfl) (by decide) rfl rfl (Nat.zero_le _) (m_PA_has8 hi hk σ hc) (fun r33 s33 h33 => ?_)
  obtain ⟨rfl, e33⟩ := h33
  subst s33
  refine z_if_eq hR dPC_judge_36 (t := 50) (n := 39) rfl rfl (fun h36 => absurd h36 (by decide)) (fun _ => ?_)
  refine z_aload_n hR dPC_judge_39 (n := 40) rfl rfl ?_
  refine z_getR hR dPC_judge_40 (n := 43) rfl zgPC_25 (by decide) rfl rfl ?_
  refine z_iload_n hR dPC_judge_43 (n := 44) rfl rfl ?_
  refine z_callV1 hR dPC_judge_44 (n := 47) rfl zcPC_150 zkPA_hasPlace (by decide) (Nat.le_of_ble_eq_true rfl) (by decide) rfl rfl (Nat.zero_le _) (m_PA_has8 hj hk σ hc) (fun r44 s44 h44 => ?_)
  obtain ⟨rfl, e44⟩ := h44
  subst s44
  refine z_if_ne hR dPC_judge_47 (t := 58) (n := 50) rfl rfl (fun _ => ?_) (fun h47 => absurd h47 (by decide))
  refine z_aload_n hR dPC_judge_58 (n := 59) rfl rfl ?_
  refine z_getR hR dPC_judge_59 (n := 62) rfl zgPC_25 (by decide) rfl rfl ?_
  refine z_aload_n hR dPC_judge_62 (n := 63) rfl rfl ?_
  refine z_getR hR dPC_judge_63 (n := 66) rfl zgPC_66 (by decide) rfl rfl ?_
  refine z_iload_n hR dPC_judge_66 (n := 67) rfl rfl ?_
  refine z_callV2 hR dPC_judge_67 (n := 70) rfl zcPC_156 zkPA_isLinked (by decide) (Nat.le_of_ble_eq_true rfl) (by decide) rfl rfl (Nat.zero_le _) (m_PA_linked8 hj hk σ hc hst) (fun r67 s67 h67 => ?_)
  obtain ⟨e67, hor⟩ := h67
  subst s67
  rcases hor.symm with ⟨rfl, hl⟩ | ⟨rfl, hl⟩
  ·
    refine z_if_ne hR dPC_judge_70 (t := 81) (n := 73) rfl rfl (fun h70 => absurd h70 (fun w => w rfl)) (fun _ => ?_)
    refine z_throw hR dPC_judge_73 dPC_judge_76 dPC_judge_77 dPC_judge_80 ztPC_81 (by decide) (by decide) (by decide) ?_
    exact ⟨rfl, rfl, hl⟩
  refine z_if_ne hR dPC_judge_70 (t := 81) (n := 73) rfl rfl (fun _ => ?_) (fun h70 => absurd h70 (by decide))
  refine z_aload_n hR dPC_judge_81 (n := 82) rfl rfl ?_
  refine z_getR hR dPC_judge_82 (n := 85) rfl zgPC_25 (by decide) rfl rfl ?_
  refine z_aload_n hR dPC_judge_85 (n := 86) rfl rfl ?_
  refine z_getR hR dPC_judge_86 (n := 89) rfl zgPC_61 (by decide) rfl rfl ?_
  refine z_aload_n hR dPC_judge_89 (n := 90) rfl rfl ?_
  refine z_getR hR dPC_judge_90 (n := 93) rfl zgPC_66 (by decide) rfl rfl ?_
  refine z_iload_n hR dPC_judge_93 (n := 94) rfl rfl ?_
  refine z_callV3 hR dPC_judge_94 (n := 97) rfl zcPC_160 zkPA_placesOf (by decide) (Nat.le_of_ble_eq_true rfl) (by decide) rfl rfl (Nat.zero_le _) (m_PA_places8 hz hz0 hj hk σ hc hst hs hT hC) (fun r94 s94 h94 => ?_)
  obtain ⟨hf, rfl, hH⟩ := h94
  refine z_iload_n hR dPC_judge_97 (n := 98) rfl rfl ?_
  refine z_iushr hR dPC_judge_98 (n := 99) rfl ?_
  refine z_iconst hR dPC_judge_99 (v := 1) (n := 100) rfl rfl ?_
  refine z_iand hR dPC_judge_100 (n := 101) rfl ?_
  rw [tb_us1 _ (by omega : i < 32)]
  refine z_iconst hR dPC_judge_101 (v := 1) (n := 102) rfl rfl ?_
  refine z_icmp_ne hR dPC_judge_102 (t := 109) (n := 105) rfl rfl (fun h102 => ?_) (fun h102 => ?_)
  · refine z_iconst hR dPC_judge_109 (v := 0) (n := 110) rfl rfl ?_
    refine z_zret hR dPC_judge_110 rfl rfl (Nat.zero_le _) ?_
    refine ⟨hf, hl, ?_, hH⟩
    first
      | (rw [zb_1.mp h102]; rfl)
      | (rw [show tb (s94.1 10 0) i = false by cases e : tb (s94.1 10 0) i; rfl; exact absurd (by rw [e]; rfl) h102]; rfl)
  · refine z_iconst hR dPC_judge_105 (v := 1) (n := 106) rfl rfl ?_
    refine z_goto hR dPC_judge_106 (t := 110) rfl ?_
    refine z_zret hR dPC_judge_110 rfl rfl (Nat.zero_le _) ?_
    refine ⟨hf, hl, ?_, hH⟩
    first
      | (rw [zb_1.mp h102]; rfl)
      | (rw [show tb (s94.1 10 0) i = false by cases e : tb (s94.1 10 0) i; rfl; exact absurd (by rw [e]; rfl) h102]; rfl)
theorem m_MO_ju0 (j i : Int32) (σ : zS) {k : Nat} {q : Bool} (hl : σ.1 45 3 = zb q) (hk : σ.1 45 23 = nI k) (hk8 : k ≤ 8) (h : q = false ∨ k = 0) : zM yMO_judge cMO_judge 4 (some .boolean) 3 90 0 [.ref 45, .int j, .int i] σ (fun r σ2 => r = some (.int 0) ∧ σ2 = zwA σ 45 0 1) (fun _ _ => False) := by
  refine zM.of [some (.ref 45), some (.int j), some (.int i), none] (by decide) 1 rfl (fun _ => Nat.le_of_ble_eq_true rfl) (fun Z hR => ?_)
  cases q with
  | false =>
    refine z_aload_n hR dMO_judge_0 (n := 1) rfl rfl ?_
    refine z_aload_n hR dMO_judge_1 (n := 2) rfl rfl ?_
    refine z_getI hR dMO_judge_2 (n := 5) rfl zgMO_151 (by decide) rfl rfl ?_
    rw [hl]
    refine z_if_eqB hR dMO_judge_5 (t := 15) (n := 8) rfl rfl (fun h5 => ?_) (fun h5 => absurd h5 (by decide))
    refine z_iconst hR dMO_judge_15 (v := 1) (n := 16) rfl rfl ?_
    refine z_goto hR dMO_judge_16 (t := 48) rfl ?_
    refine z_putI hR dMO_judge_48 (n := 51) rfl zpMO_93 (by decide) rfl rfl ?_
    refine z_aload_n hR dMO_judge_51 (n := 52) rfl rfl ?_
    refine z_getI hR dMO_judge_52 (n := 55) rfl zgMO_93 (by decide) rfl rfl ?_
    rw [zwA_ss]
    refine z_if_le hR dMO_judge_55 (t := 60) (n := 58) rfl rfl (fun h55 => absurd h55 (by decide)) (fun _ => ?_)
    refine z_iconst hR dMO_judge_58 (v := 0) (n := 59) rfl rfl ?_
    refine z_zret hR dMO_judge_59 rfl rfl (Nat.zero_le _) ?_
    exact ⟨rfl, rfl⟩
  | true =>
    have hk0 : k = 0 := by simpa using h
    refine z_aload_n hR dMO_judge_0 (n := 1) rfl rfl ?_
    refine z_aload_n hR dMO_judge_1 (n := 2) rfl rfl ?_
    refine z_getI hR dMO_judge_2 (n := 5) rfl zgMO_151 (by decide) rfl rfl ?_
    rw [hl]
    refine z_if_eqB hR dMO_judge_5 (t := 15) (n := 8) rfl rfl (fun h5 => absurd h5 (by decide)) (fun h5 => ?_)
    refine z_aload_n hR dMO_judge_8 (n := 9) rfl rfl ?_
    refine z_getI hR dMO_judge_9 (n := 12) rfl zgMO_226 (by decide) rfl rfl ?_
    rw [hk]
    refine z_if_neN hR dMO_judge_12 (t := 19) (n := 15) rfl rfl (by omega) (fun h12 => absurd h12 (by omega)) (fun h12 => ?_)
    refine z_iconst hR dMO_judge_15 (v := 1) (n := 16) rfl rfl ?_
    refine z_goto hR dMO_judge_16 (t := 48) rfl ?_
    refine z_putI hR dMO_judge_48 (n := 51) rfl zpMO_93 (by decide) rfl rfl ?_
    refine z_aload_n hR dMO_judge_51 (n := 52) rfl rfl ?_
    refine z_getI hR dMO_judge_52 (n := 55) rfl zgMO_93 (by decide) rfl rfl ?_
    rw [zwA_ss]
    refine z_if_le hR dMO_judge_55 (t := 60) (n := 58) rfl rfl (fun h55 => absurd h55 (by decide)) (fun _ => ?_)
    refine z_iconst hR dMO_judge_58 (v := 0) (n := 59) rfl rfl ?_
    refine z_zret hR dMO_judge_59 rfl rfl (Nat.zero_le _) ?_
    exact ⟨rfl, rfl⟩
theorem m_MO_ju1 (j i : Int32) (σ : zS) {k : Nat} (hl : σ.1 45 3 = 1) (hk : σ.1 45 23 = nI k) (hk0 : 0 < k) (hk8 : k ≤ 8) (h : (∀ q : Nat, q < k → i ≠ nI q) ∨ ((∃ q : Nat, q < k ∧ i = nI q) ∧ ∀ q : Nat, q < k → j ≠ nI q)) : zM yMO_judge cMO_judge 4 (some .boolean) 3 90 0 [.ref 45, .int j, .int i] σ (fun r σ2 => r = some (.int 0) ∧ σ2 = zwA σ 45 0 2) (fun _ _ => False) := by
  refine zM.of [some (.ref 45), some (.int j), some (.int i), none] (by decide) 1 rfl (fun _ => Nat.le_of_ble_eq_true rfl) (fun Z hR => ?_)
  have fin : Z 0 43 [some (.ref 45), some (.int j), some (.int i), none] [.ref 45] σ := by
    refine z_iconst hR dMO_judge_43 (v := 2) (n := 44) rfl rfl ?_
    refine z_goto hR dMO_judge_44 (t := 48) rfl ?_
    refine z_putI hR dMO_judge_48 (n := 51) rfl zpMO_93 (by decide) rfl rfl ?_
    refine z_aload_n hR dMO_judge_51 (n := 52) rfl rfl ?_
    refine z_getI hR dMO_judge_52 (n := 55) rfl zgMO_93 (by decide) rfl rfl ?_
    rw [zwA_ss]
    refine z_if_le hR dMO_judge_55 (t := 60) (n := 58) rfl rfl (fun h55 => absurd h55 (by decide)) (fun _ => ?_)
    refine z_iconst hR dMO_judge_58 (v := 0) (n := 59) rfl rfl ?_
    refine z_zret hR dMO_judge_59 rfl rfl (Nat.zero_le _) ?_
    exact ⟨rfl, rfl⟩
  rcases h with h | ⟨⟨q, hq, rfl⟩, h⟩
  ·
    rcases zNq h (by omega) with h1 | ⟨h1, h2⟩
    ·
      refine z_aload_n hR dMO_judge_0 (n := 1) rfl rfl ?_
      refine z_aload_n hR dMO_judge_1 (n := 2) rfl rfl ?_
      refine z_getI hR dMO_judge_2 (n := 5) rfl zgMO_151 (by decide) rfl rfl ?_
      rw [hl]
      refine z_if_eq hR dMO_judge_5 (t := 15) (n := 8) rfl rfl (fun h5 => absurd h5 (by decide)) (fun _ => ?_)
      refine z_aload_n hR dMO_judge_8 (n := 9) rfl rfl ?_
      refine z_getI hR dMO_judge_9 (n := 12) rfl zgMO_226 (by decide) rfl rfl ?_
      rw [hk]
      refine z_if_neN hR dMO_judge_12 (t := 19) (n := 15) rfl rfl (by omega) (fun h12 => ?_) (fun h12 => absurd h12 (by omega))
      refine z_iload_n hR dMO_judge_19 (n := 20) rfl rfl ?_
      refine z_if_lt hR dMO_judge_20 (t := 43) (n := 23) rfl rfl (fun _ => ?_) (fun h20 => absurd h1 h20)
      exact fin
    ·
      refine z_aload_n hR dMO_judge_0 (n := 1) rfl rfl ?_
      refine z_aload_n hR dMO_judge_1 (n := 2) rfl rfl ?_
      refine z_getI hR dMO_judge_2 (n := 5) rfl zgMO_151 (by decide) rfl rfl ?_
      rw [hl]
      refine z_if_eq hR dMO_judge_5 (t := 15) (n := 8) rfl rfl (fun h5 => absurd h5 (by decide)) (fun _ => ?_)
      refine z_aload_n hR dMO_judge_8 (n := 9) rfl rfl ?_
      refine z_getI hR dMO_judge_9 (n := 12) rfl zgMO_226 (by decide) rfl rfl ?_
      rw [hk]
      refine z_if_neN hR dMO_judge_12 (t := 19) (n := 15) rfl rfl (by omega) (fun h12 => ?_) (fun h12 => absurd h12 (by omega))
      refine z_iload_n hR dMO_judge_19 (n := 20) rfl rfl ?_
      refine z_if_lt hR dMO_judge_20 (t := 43) (n := 23) rfl rfl (fun h20 => absurd h20 h1) (fun _ => ?_)
      refine z_iload_n hR dMO_judge_23 (n := 24) rfl rfl ?_
      refine z_aload_n hR dMO_judge_24 (n := 25) rfl rfl ?_
      refine z_getI hR dMO_judge_25 (n := 28) rfl zgMO_226 (by decide) rfl rfl ?_
      rw [hk]
      refine z_icmp_ge hR dMO_judge_28 (t := 43) (n := 31) rfl rfl (fun _ => ?_) (fun h28 => absurd h2 h28)
      exact fin
  ·
    rcases zNq h (by omega) with h1 | ⟨h1, h2⟩
    ·
      refine z_aload_n hR dMO_judge_0 (n := 1) rfl rfl ?_
      refine z_aload_n hR dMO_judge_1 (n := 2) rfl rfl ?_
      refine z_getI hR dMO_judge_2 (n := 5) rfl zgMO_151 (by decide) rfl rfl ?_
      rw [hl]
      refine z_if_eq hR dMO_judge_5 (t := 15) (n := 8) rfl rfl (fun h5 => absurd h5 (by decide)) (fun _ => ?_)
      refine z_aload_n hR dMO_judge_8 (n := 9) rfl rfl ?_
      refine z_getI hR dMO_judge_9 (n := 12) rfl zgMO_226 (by decide) rfl rfl ?_
      rw [hk]
      refine z_if_neN hR dMO_judge_12 (t := 19) (n := 15) rfl rfl (by omega) (fun h12 => ?_) (fun h12 => absurd h12 (by omega))
      refine z_iload_n hR dMO_judge_19 (n := 20) rfl rfl ?_
      refine z_if_ltN hR dMO_judge_20 (t := 43) (n := 23) rfl rfl (by omega) ?_
      refine z_iload_n hR dMO_judge_23 (n := 24) rfl rfl ?_
      refine z_aload_n hR dMO_judge_24 (n := 25) rfl rfl ?_
      refine z_getI hR dMO_judge_25 (n := 28) rfl zgMO_226 (by decide) rfl rfl ?_
      rw [hk]
      refine z_icmp_geN hR dMO_judge_28 (t := 43) (n := 31) rfl rfl (by omega) (by omega) (fun h28 => absurd h28 (by omega)) (fun h28 => ?_)
      refine z_iload_n hR dMO_judge_31 (n := 32) rfl rfl ?_
      refine z_if_lt hR dMO_judge_32 (t := 43) (n := 35) rfl rfl (fun _ => ?_) (fun h32 => absurd h1 h32)
      exact fin
    ·
      refine z_aload_n hR dMO_judge_0 (n := 1) rfl rfl ?_
      refine z_aload_n hR dMO_judge_1 (n := 2) rfl rfl ?_
      refine z_getI hR dMO_judge_2 (n := 5) rfl zgMO_151 (by decide) rfl rfl ?_
      rw [hl]
      refine z_if_eq hR dMO_judge_5 (t := 15) (n := 8) rfl rfl (fun h5 => absurd h5 (by decide)) (fun _ => ?_)
      refine z_aload_n hR dMO_judge_8 (n := 9) rfl rfl ?_
      refine z_getI hR dMO_judge_9 (n := 12) rfl zgMO_226 (by decide) rfl rfl ?_
      rw [hk]
      refine z_if_neN hR dMO_judge_12 (t := 19) (n := 15) rfl rfl (by omega) (fun h12 => ?_) (fun h12 => absurd h12 (by omega))
      refine z_iload_n hR dMO_judge_19 (n := 20) rfl rfl ?_
      refine z_if_ltN hR dMO_judge_20 (t := 43) (n := 23) rfl rfl (by omega) ?_
      refine z_iload_n hR dMO_judge_23 (n := 24) rfl rfl ?_
      refine z_aload_n hR dMO_judge_24 (n := 25) rfl rfl ?_
      refine z_getI hR dMO_judge_25 (n := 28) rfl zgMO_226 (by decide) rfl rfl ?_
      rw [hk]
      refine z_icmp_geN hR dMO_judge_28 (t := 43) (n := 31) rfl rfl (by omega) (by omega) (fun h28 => absurd h28 (by omega)) (fun h28 => ?_)
      refine z_iload_n hR dMO_judge_31 (n := 32) rfl rfl ?_
      refine z_if_lt hR dMO_judge_32 (t := 43) (n := 35) rfl rfl (fun h32 => absurd h32 h1) (fun _ => ?_)
      refine z_iload_n hR dMO_judge_35 (n := 36) rfl rfl ?_
      refine z_aload_n hR dMO_judge_36 (n := 37) rfl rfl ?_
      refine z_getI hR dMO_judge_37 (n := 40) rfl zgMO_226 (by decide) rfl rfl ?_
      rw [hk]
      refine z_icmp_lt hR dMO_judge_40 (t := 47) (n := 43) rfl rfl (fun h40 => absurd h40 (fun w => absurd h2 (Int32.not_le.mpr w))) (fun _ => ?_)
      exact fin
theorem m_MO_ju2 {g : Nat → Int32 × Int32 × Int32} {n k j i : Nat} (hn : n ≤ 32) (hn0 : 0 < n) (hk : k ≤ 8) (hj : j < k) (hi : i < k) (hsh : ∀ x, x < n → shp g x) (σ : zS) (hl : σ.1 45 3 = 1) (hr : σ.1 45 23 = nI k) (hN : σ.1 45 4 = nI n) (ha : ∀ i, i < n → σ.1 47 i = (g i).1 ∧ σ.1 48 i = (g i).2.1 ∧ σ.1 49 i = (g i).2.2) {st : Nat → Nat} (hst : ∀ p, p < k → σ.1 59 p = nI (st p) ∧ st p < 6) {L : Nat → Nat → Bool} (hL : ∀ a b, a < 6 → b < 6 → σ.1 58 (6 * a + b) = zb (L a b)) : zM yMO_judge cMO_judge 4 (some .boolean) 3 90 0 [.ref 45, .int (nI j), .int (nI i)] σ (fun r σ2 => zfr [45, 68, 69] σ σ2 ∧ zfd [0, 34, 35] σ σ2 ∧ ((σ2.1 45 0 = 3 ∧ r = some (.int 0) ∧ ∃ p, p < k ∧ L (st p) (st (nx k j p)) = false) ∨ (σ2.1 45 0 = 0 ∧ (∀ p, p < k → L (st p) (st (nx k j p)) = true) ∧ ∃ V : Nat → Nat → Bool, r = some (.int (zb (V (n - 1) i))) ∧ ∀ x, x < n → ∀ p, p < k → V x p = hvl g k j (fun p => σ.1 57 (st p)) V x p))) (fun _ _ => False) := by
  refine zM.of [some (.ref 45), some (.int (nI j)), some (.int (nI i)), none] (by decide) 1 rfl (fun _ => Nat.le_of_ble_eq_true rfl) (fun Z hR => ?_)
  have key : ∀ (m p : Nat) (τ : zS), p + m = k → zfr [45, 68, 69] σ τ → zfd [0, 34, 35] σ τ → τ.1 45 0 = 0 → τ.1 45 34 = nI k → τ.1 45 35 = nI j → (∀ q, q < p → τ.1 68 q = nI (st q)) → Z 0 75 [some (.ref 45), some (.int (nI j)), some (.int (nI i)), some (.int (nI p))] [] τ := by
    intro m
    induction m with
    | zero =>
      intro p τ hp hf hd h0 h34 h35 h68
      obtain rfl : p = k := by omega
      have hst2 : ∀ q, q < p → τ.1 68 q = nI (st q) ∧ st q < 6 := fun q hq => ⟨h68 q hq, (hst q hq).2⟩
      have hL2 : ∀ a b, a < 6 → b < 6 → τ.1 58 (6 * a + b) = zb (L a b) := fun a b h1 h2 => by
        rw [hf.1 58 (by decide)]
        exact hL a b h1 h2
      have q1 := (hst (p - 1) (by omega)).2
      have q2 := (hst j hj).2
      have hl2 := hL2 (st (p - 1)) (st j) q1 q2
      have bad : (∃ q, q < p ∧ L (st q) (st (nx p j q)) = false) → Z 0 140 [some (.ref 45), some (.int (nI j)), some (.int (nI i)), some (.int (nI p))] [] τ := fun hb => by
        refine z_aload_n hR dMO_judge_140 (n := 141) rfl rfl ?_
        refine z_iconst hR dMO_judge_141 (v := 3) (n := 142) rfl rfl ?_
        refine z_putI hR dMO_judge_142 (n := 145) rfl zpMO_93 (by decide) rfl rfl ?_
        refine z_iconst hR dMO_judge_145 (v := 0) (n := 146) rfl rfl ?_
        refine z_zret hR dMO_judge_146 rfl rfl (Nat.zero_le _) ?_
        exact ⟨hf.wA _ (by decide), hd.w _ (by decide), Or.inl ⟨by rw [zwA_ss], rfl, hb⟩⟩
      have hr2 : τ.1 45 23 = nI p := by rw [hd 23 (by decide), hr]
      cases e : lk2 L st (p - 1) with
      | false =>
        have hb : ∃ q, q < p ∧ L (st q) (st (nx p j q)) = false := by
          refine Classical.byContradiction (fun hn => ?_)
          have : lk2 L st (p - 1) = true := lk2_iff.mpr (fun q hq => by
            cases e2 : L (st q) (st (q + 1)) with
            | true => rfl
            | false => exact absurd ⟨q, by omega, by rw [show nx p j q = q + 1 from if_pos (by omega)]; exact e2⟩ hn)
          rw [e] at this
          exact absurd this (by decide)
        refine z_iload_n hR dMO_judge_75 (n := 76) rfl rfl ?_
        refine z_aload_n hR dMO_judge_76 (n := 77) rfl rfl ?_
        refine z_getI hR dMO_judge_77 (n := 80) rfl zgMO_226 (by decide) rfl rfl ?_
        rw [hr2]
        refine z_icmp_geN hR dMO_judge_80 (t := 101) (n := 83) rfl rfl (by omega) (by omega) (fun h80 => ?_) (fun h80 => absurd h80 (by omega))
        refine z_aload_n hR dMO_judge_101 (n := 102) rfl rfl ?_
        refine z_callV0 hR dMO_judge_102 (n := 105) rfl zcMO_214 zkMO_linked (by decide) (Nat.le_of_ble_eq_true rfl) (by decide) rfl rfl (Nat.zero_le _) (m_MO_linked (by omega) hk τ h34 hst2 hL2) (fun r102 s102 h102 => ?_)
        obtain ⟨rfl, e102⟩ := h102
        subst s102
        rw [e]
        refine z_if_eqB hR dMO_judge_105 (t := 140) (n := 108) rfl rfl (fun h105 => ?_) (fun h105 => absurd h105 (by decide))
        exact bad hb
      | true =>
        have hup := lk2_iff.mp e
        cases e2 : L (st (p - 1)) (st j) with
        | false =>
          rw [e2] at hl2
          refine z_iload_n hR dMO_judge_75 (n := 76) rfl rfl ?_
          refine z_aload_n hR dMO_judge_76 (n := 77) rfl rfl ?_
          refine z_getI hR dMO_judge_77 (n := 80) rfl zgMO_226 (by decide) rfl rfl ?_
          rw [hr2]
          refine z_icmp_geN hR dMO_judge_80 (t := 101) (n := 83) rfl rfl (by omega) (by omega) (fun h80 => ?_) (fun h80 => absurd h80 (by omega))
          refine z_aload_n hR dMO_judge_101 (n := 102) rfl rfl ?_
          refine z_callV0 hR dMO_judge_102 (n := 105) rfl zcMO_214 zkMO_linked (by decide) (Nat.le_of_ble_eq_true rfl) (by decide) rfl rfl (Nat.zero_le _) (m_MO_linked (by omega) hk τ h34 hst2 hL2) (fun r102 s102 h102 => ?_)
          obtain ⟨rfl, e102⟩ := h102
          subst s102
          rw [e]
          refine z_if_eqB hR dMO_judge_105 (t := 140) (n := 108) rfl rfl (fun h105 => absurd h105 (by decide)) (fun h105 => ?_)
          refine z_aload_n hR dMO_judge_108 (n := 109) rfl rfl ?_
          refine z_getR hR dMO_judge_109 (n := 112) rfl zgMO_46 (by decide) rfl rfl ?_
          refine z_bipush hR dMO_judge_112 (v := nI 6) (n := 114) rfl rfl ?_
          refine z_aload_n hR dMO_judge_114 (n := 115) rfl rfl ?_
          refine z_getR hR dMO_judge_115 (n := 118) rfl zgMO_78 (by decide) rfl rfl ?_
          refine z_aload_n hR dMO_judge_118 (n := 119) rfl rfl ?_
          refine z_getI hR dMO_judge_119 (n := 122) rfl zgMO_208 (by decide) rfl rfl ?_
          rw [h34]
          refine z_iconst hR dMO_judge_122 (v := nI 1) (n := 123) rfl rfl ?_
          refine z_isubN hR dMO_judge_123 (n := 124) rfl (by omega) ?_
          refine z_iald hR (_) dMO_judge_124 (n := 125) rfl (by decide) rfl (by decide) rfl (by omega) ?_
          rw [h68 (p - 1) (by omega)]
          refine z_imulN hR dMO_judge_125 (n := 126) rfl ?_
          refine z_aload_n hR dMO_judge_126 (n := 127) rfl rfl ?_
          refine z_getR hR dMO_judge_127 (n := 130) rfl zgMO_78 (by decide) rfl rfl ?_
          refine z_aload_n hR dMO_judge_130 (n := 131) rfl rfl ?_
          refine z_getI hR dMO_judge_131 (n := 134) rfl zgMO_211 (by decide) rfl rfl ?_
          rw [h35]
          refine z_iald hR (_) dMO_judge_134 (n := 135) rfl (by decide) rfl (by decide) rfl (by omega) ?_
          rw [h68 j hj]
          refine z_iaddN hR dMO_judge_135 (n := 136) rfl ?_
          refine z_zald hR (_) dMO_judge_136 (n := 137) rfl (by decide) rfl (by decide) rfl (by omega) ?_
          rw [hl2]
          refine z_if_neB hR dMO_judge_137 (t := 147) (n := 140) rfl rfl (fun h137 => absurd h137 (by decide)) (fun h137 => ?_)
          exact bad ⟨p - 1, by omega, by rw [show nx p j (p - 1) = j from if_neg (by omega)]; exact e2⟩
        | true =>
          rw [e2] at hl2
          have hall : ∀ q, q < p → L (st q) (st (nx p j q)) = true := fun q hq => by
            by_cases hq2 : q + 1 < p
            · rw [show nx p j q = q + 1 from if_pos hq2]
              exact hup q (by omega)
            · rw [show nx p j q = j from if_neg hq2, show q = p - 1 by omega]
              exact e2
          refine z_iload_n hR dMO_judge_75 (n := 76) rfl rfl ?_
          refine z_aload_n hR dMO_judge_76 (n := 77) rfl rfl ?_
          refine z_getI hR dMO_judge_77 (n := 80) rfl zgMO_226 (by decide) rfl rfl ?_
          rw [hr2]
          refine z_icmp_geN hR dMO_judge_80 (t := 101) (n := 83) rfl rfl (by omega) (by omega) (fun h80 => ?_) (fun h80 => absurd h80 (by omega))
          refine z_aload_n hR dMO_judge_101 (n := 102) rfl rfl ?_
          refine z_callV0 hR dMO_judge_102 (n := 105) rfl zcMO_214 zkMO_linked (by decide) (Nat.le_of_ble_eq_true rfl) (by decide) rfl rfl (Nat.zero_le _) (m_MO_linked (by omega) hk τ h34 hst2 hL2) (fun r102 s102 h102 => ?_)
          obtain ⟨rfl, e102⟩ := h102
          subst s102
          rw [e]
          refine z_if_eqB hR dMO_judge_105 (t := 140) (n := 108) rfl rfl (fun h105 => absurd h105 (by decide)) (fun h105 => ?_)
          refine z_aload_n hR dMO_judge_108 (n := 109) rfl rfl ?_
          refine z_getR hR dMO_judge_109 (n := 112) rfl zgMO_46 (by decide) rfl rfl ?_
          refine z_bipush hR dMO_judge_112 (v := nI 6) (n := 114) rfl rfl ?_
          refine z_aload_n hR dMO_judge_114 (n := 115) rfl rfl ?_
          refine z_getR hR dMO_judge_115 (n := 118) rfl zgMO_78 (by decide) rfl rfl ?_
          refine z_aload_n hR dMO_judge_118 (n := 119) rfl rfl ?_
          refine z_getI hR dMO_judge_119 (n := 122) rfl zgMO_208 (by decide) rfl rfl ?_
          rw [h34]
          refine z_iconst hR dMO_judge_122 (v := nI 1) (n := 123) rfl rfl ?_
          refine z_isubN hR dMO_judge_123 (n := 124) rfl (by omega) ?_
          refine z_iald hR (_) dMO_judge_124 (n := 125) rfl (by decide) rfl (by decide) rfl (by omega) ?_
          rw [h68 (p - 1) (by omega)]
          refine z_imulN hR dMO_judge_125 (n := 126) rfl ?_
          refine z_aload_n hR dMO_judge_126 (n := 127) rfl rfl ?_
          refine z_getR hR dMO_judge_127 (n := 130) rfl zgMO_78 (by decide) rfl rfl ?_
          refine z_aload_n hR dMO_judge_130 (n := 131) rfl rfl ?_
          refine z_getI hR dMO_judge_131 (n := 134) rfl zgMO_211 (by decide) rfl rfl ?_
          rw [h35]
          refine z_iald hR (_) dMO_judge_134 (n := 135) rfl (by decide) rfl (by decide) rfl (by omega) ?_
          rw [h68 j hj]
          refine z_iaddN hR dMO_judge_135 (n := 136) rfl ?_
          refine z_zald hR (_) dMO_judge_136 (n := 137) rfl (by decide) rfl (by decide) rfl (by omega) ?_
          rw [hl2]
          refine z_if_neB hR dMO_judge_137 (t := 147) (n := 140) rfl rfl (fun h137 => ?_) (fun h137 => absurd h137 (by decide))
          refine z_aload_n hR dMO_judge_147 (n := 148) rfl rfl ?_
          refine z_iload_n hR dMO_judge_148 (n := 149) rfl rfl ?_
          refine z_callV1 hR dMO_judge_149 (n := 152) rfl zcMO_217 zkMO_holds (by decide) (Nat.le_of_ble_eq_true rfl) (by decide) rfl rfl (Nat.zero_le _) (m_MO_holds hn hn0 hk hj hi hsh τ (by rw [hd 4 (by decide), hN]) (fun i hi => by rw [hf.1 47 (by decide), hf.1 48 (by decide), hf.1 49 (by decide)]; exact ha i hi) ⟨h34, h35, hst2⟩) (fun r149 s149 h149 => ?_)
          obtain ⟨wf, V, rfl, hV⟩ := h149
          refine z_zret hR dMO_judge_152 rfl (zb_nar _) (Nat.zero_le _) ?_
          refine ⟨hf.tr (wf.mo (by decide)), ?_, Or.inr ⟨?_, hall, V, rfl, fun x hx q hq => ?_⟩⟩
          · intro q hq
            rw [wf.1 45 (by decide)]
            exact hd q hq
          · rw [wf.1 45 (by decide)]
            exact h0
          · rw [hV x hx q hq, hf.1 57 (by decide)]
    | succ m ih =>
      intro p τ hp hf hd h0 h34 h35 h68
      have hr2 : τ.1 45 23 = nI k := by rw [hd 23 (by decide), hr]
      have h59 : τ.1 59 p = nI (st p) := by
        rw [hf.1 59 (by decide)]
        exact (hst p (by omega)).1
      refine z_iload_n hR dMO_judge_75 (n := 76) rfl rfl ?_
      refine z_aload_n hR dMO_judge_76 (n := 77) rfl rfl ?_
      refine z_getI hR dMO_judge_77 (n := 80) rfl zgMO_226 (by decide) rfl rfl ?_
      rw [hr2]
      refine z_icmp_geN hR dMO_judge_80 (t := 101) (n := 83) rfl rfl (by omega) (by omega) (fun h80 => absurd h80 (by omega)) (fun h80 => ?_)
      refine z_aload_n hR dMO_judge_83 (n := 84) rfl rfl ?_
      refine z_getR hR dMO_judge_84 (n := 87) rfl zgMO_78 (by decide) rfl rfl ?_
      refine z_iload_n hR dMO_judge_87 (n := 88) rfl rfl ?_
      refine z_aload_n hR dMO_judge_88 (n := 89) rfl rfl ?_
      refine z_getR hR dMO_judge_89 (n := 92) rfl zgMO_50 (by decide) rfl rfl ?_
      refine z_iload_n hR dMO_judge_92 (n := 93) rfl rfl ?_
      refine z_iald hR (_) dMO_judge_93 (n := 94) rfl (by decide) rfl (by decide) rfl (by omega) ?_
      rw [h59]
      refine z_iast hR (_) dMO_judge_94 (n := 95) rfl (by decide) rfl (by decide) rfl (by omega) ?_
      refine z_iincN hR 1 dMO_judge_95 (n := 98) rfl rfl (by decide) rfl rfl ?_
      refine z_goto hR dMO_judge_98 (t := 75) rfl ?_
      exact ih (p + 1) _ (by omega) (hf.wA _ (by decide)) (hd.o _ (by decide)) (by rw [zwA_n _ _ _ _ (by decide)]; exact h0) (by rw [zwA_n _ _ _ _ (by decide)]; exact h34) (by rw [zwA_n _ _ _ _ (by decide)]; exact h35) (fun q hq => by
        by_cases e : q = p
        · subst e
          rw [zwA_ss]
        · rw [zwA_sn _ _ _ _ e]
          exact h68 q (by omega))
  refine z_aload_n hR dMO_judge_0 (n := 1) rfl rfl ?_
  refine z_aload_n hR dMO_judge_1 (n := 2) rfl rfl ?_
  refine z_getI hR dMO_judge_2 (n := 5) rfl zgMO_151 (by decide) rfl rfl ?_
  rw [hl]
  refine z_if_eq hR dMO_judge_5 (t := 15) (n := 8) rfl rfl (fun h5 => absurd h5 (by decide)) (fun _ => ?_)
  refine z_aload_n hR dMO_judge_8 (n := 9) rfl rfl ?_
  refine z_getI hR dMO_judge_9 (n := 12) rfl zgMO_226 (by decide) rfl rfl ?_
  rw [hr]
  refine z_if_neN hR dMO_judge_12 (t := 19) (n := 15) rfl rfl (by omega) (fun h12 => ?_) (fun h12 => absurd h12 (by omega))
  refine z_iload_n hR dMO_judge_19 (n := 20) rfl rfl ?_
  refine z_if_ltN hR dMO_judge_20 (t := 43) (n := 23) rfl rfl (by omega) ?_
  refine z_iload_n hR dMO_judge_23 (n := 24) rfl rfl ?_
  refine z_aload_n hR dMO_judge_24 (n := 25) rfl rfl ?_
  refine z_getI hR dMO_judge_25 (n := 28) rfl zgMO_226 (by decide) rfl rfl ?_
  rw [hr]
  refine z_icmp_geN hR dMO_judge_28 (t := 43) (n := 31) rfl rfl (by omega) (by omega) (fun h28 => absurd h28 (by omega)) (fun h28 => ?_)
  refine z_iload_n hR dMO_judge_31 (n := 32) rfl rfl ?_
  refine z_if_ltN hR dMO_judge_32 (t := 43) (n := 35) rfl rfl (by omega) ?_
  refine z_iload_n hR dMO_judge_35 (n := 36) rfl rfl ?_
  refine z_aload_n hR dMO_judge_36 (n := 37) rfl rfl ?_
  refine z_getI hR dMO_judge_37 (n := 40) rfl zgMO_226 (by decide) rfl rfl ?_
  rw [hr]
  refine z_icmp_ltN hR dMO_judge_40 (t := 47) (n := 43) rfl rfl (by omega) (by omega) (fun h40 => ?_) (fun h40 => absurd h40 (by omega))
  refine z_iconst hR dMO_judge_47 (v := 0) (n := 48) rfl rfl ?_
  refine z_putI hR dMO_judge_48 (n := 51) rfl zpMO_93 (by decide) rfl rfl ?_
  refine z_aload_n hR dMO_judge_51 (n := 52) rfl rfl ?_
  refine z_getI hR dMO_judge_52 (n := 55) rfl zgMO_93 (by decide) rfl rfl ?_
  rw [zwA_ss]
  refine z_if_le hR dMO_judge_55 (t := 60) (n := 58) rfl rfl (fun _ => ?_) (fun h55 => absurd (by decide) h55)
  refine z_aload_n hR dMO_judge_60 (n := 61) rfl rfl ?_
  refine z_aload_n hR dMO_judge_61 (n := 62) rfl rfl ?_
  refine z_getI hR dMO_judge_62 (n := 65) rfl zgMO_226 (by decide) rfl rfl ?_
  rw [zwA_sn _ _ _ _ (by decide), hr]
  refine z_putI hR dMO_judge_65 (n := 68) rfl zpMO_208 (by decide) rfl rfl ?_
  refine z_aload_n hR dMO_judge_68 (n := 69) rfl rfl ?_
  refine z_iload_n hR dMO_judge_69 (n := 70) rfl rfl ?_
  refine z_putI hR dMO_judge_70 (n := 73) rfl zpMO_211 (by decide) rfl rfl ?_
  refine z_iconst hR dMO_judge_73 (v := nI 0) (n := 74) rfl rfl ?_
  refine z_istore_n hR dMO_judge_74 (n := 75) rfl (by decide) rfl ?_
  exact key k 0 _ (by omega) (((zfr.rf.wA _ (by decide)).wA _ (by decide)).wA _ (by decide)) (((zfd.rf.w _ (by decide)).w _ (by decide)).w _ (by decide)) (by simp [zwA_1]) (by simp [zwA_1]) (by simp [zwA_1]) (fun q hq => absurd hq (by omega))
