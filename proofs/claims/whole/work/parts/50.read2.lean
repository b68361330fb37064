/-! The class's reader: the walk over a text -/
theorem m_RE_joinDown {least : Nat} (hl : 1 ≤ least) (hl5 : least ≤ 5) {nd : nL3} {ops : List Int32} {opd : List Nat} (σ : zS) (h : aC σ nd ops opd) (hp : aPR nd ops opd) (hch : ∀ c ∈ ops, vp_nar .char c = c) (hb : nd.length + ops.length ≤ 32) : zM yRE_joinDownTo cRE_joinDownTo 2 none 2 65 0 [.ref 2, .int (nI least)] σ (fun r σ2 => r = none ∧ zfr [2, 3, 4, 5, 7] σ σ2 ∧ aCk σ σ2 ∧ aC σ2 (aRF least ops nd opd).1 (aRF least ops nd opd).2.1 (aRF least ops nd opd).2.2) (fun _ _ => False) := by
  refine zM.of [some (.ref 2), some (.int (nI least))] (by decide) 0 rfl (fun _ => Nat.le_of_ble_eq_true rfl) (fun Z hR => ?_)
  have key : ∀ (ops2 : List Int32) (nd2 : nL3) (opd2 : List Nat) (τ : zS), aC τ nd2 ops2 opd2 → aPR nd2 ops2 opd2 → (∀ c ∈ ops2, vp_nar .char c = c) → nd2.length + ops2.length ≤ 32 → zfr [2, 3, 4, 5, 7] σ τ → aCk σ τ → aRF least ops2 nd2 opd2 = aRF least ops nd opd → Z 0 0 [some (.ref 2), some (.int (nI least))] [] τ := by
    intro ops2
    induction ops2 with
    | nil =>
      intro nd2 opd2 τ hC hP hch hb hf hk he
      have hw := hC.2.2.1
      refine z_aload_n hR dRE_joinDownTo_0 (n := 1) rfl rfl ?_
      refine z_getI hR dRE_joinDownTo_1 (n := 4) rfl zgRE_59 (by decide) rfl rfl ?_
      rw [hw]
      refine z_if_leN hR dRE_joinDownTo_4 (t := 51) (n := 7) rfl rfl (by omega) (fun h4 => ?_) (fun h4 => absurd h4 (by simp))
      refine z_vret hR dRE_joinDownTo_51 rfl (Nat.zero_le _) ?_
      refine ⟨rfl, hf, hk, ?_⟩
      rw [← he]
      exact hC
    | cons c t ih =>
      intro nd2 opd2 τ hC hP hch hb hf hk he
      have hw := hC.2.2.1
      have hs := hC.2.2.2.1.1
      simp only [List.length_cons] at hw hb
      have hA : aC (zwA τ 2 6 (nI t.length)) nd2 t opd2 := by
        obtain ⟨c1, c2, c3, c4, c5, c6⟩ := hC
        refine ⟨by simpa [zwA_1] using c1, ?_, by simp [zwA_1], ?_, by simpa [zwA_1] using c5, ?_⟩
        · refine nds_same (fun i hi => ⟨?_, ?_, ?_⟩) c2 <;> simp [zwA_1]
        · exact stk_same (fun i hi => by simp [zwA_1]) c4.2
        · exact stk_same (fun i hi => by simp [zwA_1]) c6
      rw [aRF] at he
      refine z_aload_n hR dRE_joinDownTo_0 (n := 1) rfl rfl ?_
      refine z_getI hR dRE_joinDownTo_1 (n := 4) rfl zgRE_59 (by decide) rfl rfl ?_
      rw [hw]
      refine z_if_leN hR dRE_joinDownTo_4 (t := 51) (n := 7) rfl rfl (by omega) (fun h4 => absurd h4 (by omega)) (fun h4 => ?_)
      refine z_aload_n hR dRE_joinDownTo_7 (n := 8) rfl rfl ?_
      refine z_getR hR dRE_joinDownTo_8 (n := 11) rfl zgRE_22 (by decide) rfl rfl ?_
      refine z_aload_n hR dRE_joinDownTo_11 (n := 12) rfl rfl ?_
      refine z_getI hR dRE_joinDownTo_12 (n := 15) rfl zgRE_59 (by decide) rfl rfl ?_
      rw [hw]
      refine z_iconst hR dRE_joinDownTo_15 (v := nI 1) (n := 16) rfl rfl ?_
      refine z_isubN hR dRE_joinDownTo_16 (n := 17) rfl (by omega) ?_
      rw [Nat.add_sub_cancel]
      refine z_cald hR (_) dRE_joinDownTo_17 (n := 18) rfl (by decide) rfl (by decide) rfl (by omega) ?_
      rw [hs]
      have hr5 := rk_5 c
      refine z_callS1 hR dRE_joinDownTo_18 (n := 21) rfl zcRE_72 zkRE_rank (by decide) (Nat.le_of_ble_eq_true rfl) (Nat.zero_le _) (m_RE_rank c τ) (fun r18 s18 h18 => ?_)
      obtain ⟨rfl, e18⟩ := h18
      subst s18
      refine z_iload_n hR dRE_joinDownTo_21 (n := 22) rfl rfl ?_
      refine z_icmp_ltN hR dRE_joinDownTo_22 (t := 51) (n := 25) rfl rfl (by omega) (by omega) (fun h22 => ?_) (fun h22 => ?_)
      · rw [if_neg (by omega)] at he
        refine z_vret hR dRE_joinDownTo_51 rfl (Nat.zero_le _) ?_
        refine ⟨rfl, hf, hk, ?_⟩
        rw [← he]
        exact hC
      · rw [if_pos h22] at he
        have hj := aR1_ok hP (by omega)
        refine z_aload_n hR dRE_joinDownTo_25 (n := 26) rfl rfl ?_
        refine z_dup hR dRE_joinDownTo_26 (n := 27) rfl rfl ?_
        refine z_getI hR dRE_joinDownTo_27 (n := 30) rfl zgRE_59 (by decide) rfl rfl ?_
        rw [hw]
        refine z_iconst hR dRE_joinDownTo_30 (v := nI 1) (n := 31) rfl rfl ?_
        refine z_isubN hR dRE_joinDownTo_31 (n := 32) rfl (by omega) ?_
        rw [Nat.add_sub_cancel]
        refine z_putI hR dRE_joinDownTo_32 (n := 35) rfl zpRE_59 (by decide) rfl rfl ?_
        refine z_aload_n hR dRE_joinDownTo_35 (n := 36) rfl rfl ?_
        refine z_aload_n hR dRE_joinDownTo_36 (n := 37) rfl rfl ?_
        refine z_getR hR dRE_joinDownTo_37 (n := 40) rfl zgRE_22 (by decide) rfl rfl ?_
        refine z_aload_n hR dRE_joinDownTo_40 (n := 41) rfl rfl ?_
        refine z_getI hR dRE_joinDownTo_41 (n := 44) rfl zgRE_59 (by decide) rfl rfl ?_
        rw [zwA_ss]
        refine z_cald hR (_) dRE_joinDownTo_44 (n := 45) rfl (by decide) rfl (by decide) rfl (by omega) ?_
        rw [zwA_n _ _ _ _ (by decide), hs]
        refine z_callV1 hR dRE_joinDownTo_45 (n := 48) rfl zcRE_89 zkRE_join (by decide) (Nat.le_of_ble_eq_true rfl) (by decide) rfl rfl (Nat.zero_le _) (m_RE_join c (hch c List.mem_cons_self) (by omega) _ hA hP (by omega)) (fun r45 s45 h45 => ?_)
        obtain ⟨rfl, hf2, hk2, hC2⟩ := h45
        refine z_goto hR dRE_joinDownTo_48 (t := 0) rfl ?_
        exact ih _ _ _ hC2 hj.1 (fun d hd => hch d (List.mem_cons_of_mem _ hd)) (by rw [hj.2.1]; omega) ((hf.wA _ (by decide)).tr hf2) ⟨by rw [hk2.1, zwA_sn _ _ _ _ (by decide), hk.1], by rw [hk2.2.1, zwA_sn _ _ _ _ (by decide), hk.2.1], by rw [hk2.2.2, zwA_sn _ _ _ _ (by decide), hk.2.2]⟩ he
  exact key ops nd opd σ h hp hch hb zfr.rf ⟨rfl, rfl, rfl⟩ rfl
/-- the reader's whole picture -/
def aCS (σ : zS) (t : Nat) (s : aS) : Prop := aC σ s.1 s.2.1 s.2.2.1 ∧ σ.1 2 4 = nI t ∧ σ.1 2 9 = nI s.2.2.2.1 ∧ σ.1 2 10 = zb s.2.2.2.2.2
theorem aC_f {σ : zS} {nd : nL3} {ops : List Int32} {opd : List Nat} (h : aC σ nd ops opd) {j : Nat} {x : Int32} (h3 : j ≠ 3) (h6 : j ≠ 6) (h8 : j ≠ 8) : aC (zwA σ 2 j x) nd ops opd :=
  aC_same h (zwA_sn _ _ _ _ (Ne.symm h3)) (zwA_sn _ _ _ _ (Ne.symm h6)) (zwA_sn _ _ _ _ (Ne.symm h8)) (zwA_n _ _ _ _ (by decide)) (zwA_n _ _ _ _ (by decide)) (zwA_n _ _ _ _ (by decide)) (zwA_n _ _ _ _ (by decide)) (zwA_n _ _ _ _ (by decide))
theorem m_RE_unit {T : Nat → Int32} {i : Nat} (hi : i < 32) (hc : vp_nar .char (T i) = T i) {t : Nat} {nd : nL3} {ops : List Int32} {opd : List Nat} {d mx : Nat} (σ : zS) (hI : aI T i (nd, ops, opd, d, mx, true)) (hmx : mx ≤ 6) (h : aCS σ t (nd, ops, opd, d, mx, true)) : zM yRE_takeInUnit cRE_takeInUnit 2 (some .boolean) 1 40 0 [.ref 2, .int (T i)] σ (fun r σ2 => zfr [2, 3, 4, 5, 6, 7] σ σ2 ∧ ((r = some (.int 0) ∧ ∀ s2, aStep (nd, ops, opd, d, mx, true) (T i) = some s2 → 6 < s2.2.2.2.2.1) ∨ (r = some (.int 1) ∧ ∃ s2, aStep (nd, ops, opd, d, mx, true) (T i) = some s2 ∧ s2.2.2.2.2.1 ≤ 6 ∧ aCS σ2 t s2))) (fun _ _ => False) := by
  refine zM.of [some (.ref 2), some (.int (T i))] (by decide) 0 rfl (fun _ => Nat.le_of_ble_eq_true rfl) (fun Z hR => ?_)
  obtain ⟨hC, ht, hd, hw⟩ := h
  simp only at hC ht hd hw
  obtain ⟨i1, i2, i3, i4, i5, i6, i7, i8⟩ := hI
  simp only at i1 i2 i3 i4 i5 i6 i7 i8
  have hlen := (tCh_len i5).1
  have hrc := hC.2.2.2.2.1
  by_cases ha : atm (T i) = true
  ·
    refine z_iload_n hR dRE_takeInUnit_0 (n := 1) rfl rfl ?_
    refine z_callS1 hR dRE_takeInUnit_1 (n := 4) rfl zcRE_65 zkRE_isLeaf (by decide) (Nat.le_of_ble_eq_true rfl) (Nat.zero_le _) (m_RE_isLeaf (T i) σ) (fun r1 s1 h1 => ?_)
    obtain ⟨rfl, e1⟩ := h1
    subst s1
    refine z_if_eqB hR dRE_takeInUnit_4 (t := 40) (n := 7) rfl rfl (fun h4 => absurd h4 (by rw [ha]; decide)) (fun h4 => ?_)
    refine z_aload_n hR dRE_takeInUnit_7 (n := 8) rfl rfl ?_
    refine z_getR hR dRE_takeInUnit_8 (n := 11) rfl zgRE_25 (by decide) rfl rfl ?_
    refine z_aload_n hR dRE_takeInUnit_11 (n := 12) rfl rfl ?_
    refine z_getI hR dRE_takeInUnit_12 (n := 15) rfl zgRE_62 (by decide) rfl rfl ?_
    rw [hrc]
    refine z_aload_n hR dRE_takeInUnit_15 (n := 16) rfl rfl ?_
    refine z_iload_n hR dRE_takeInUnit_16 (n := 17) rfl rfl ?_
    refine z_iconst hR dRE_takeInUnit_17 (v := (-1)) (n := 18) rfl rfl ?_
    refine z_iconst hR dRE_takeInUnit_18 (v := (-1)) (n := 19) rfl rfl ?_
    refine z_callV3 hR dRE_takeInUnit_19 (n := 22) rfl zcRE_68 zkRE_newPart (by decide) (Nat.le_of_ble_eq_true rfl) (by decide) rfl rfl (Nat.zero_le _) (m_RE_newPart (T i) (-1) (-1) hc σ hC (by omega)) (fun r19 s19 h19 => ?_)
    obtain ⟨rfl, hf, hk, hC2⟩ := h19
    have hrc2 := hC2.2.2.2.2.1
    refine z_iast hR (_) dRE_takeInUnit_22 (n := 23) rfl (by decide) rfl (by decide) rfl (by omega) ?_
    refine z_aload_n hR dRE_takeInUnit_23 (n := 24) rfl rfl ?_
    refine z_dup hR dRE_takeInUnit_24 (n := 25) rfl rfl ?_
    refine z_getI hR dRE_takeInUnit_25 (n := 28) rfl zgRE_62 (by decide) rfl rfl ?_
    rw [zwA_n _ _ _ _ (by decide), hrc2]
    refine z_iconst hR dRE_takeInUnit_28 (v := nI 1) (n := 29) rfl rfl ?_
    refine z_iaddN hR dRE_takeInUnit_29 (n := 30) rfl ?_
    refine z_putI hR dRE_takeInUnit_30 (n := 33) rfl zpRE_62 (by decide) rfl rfl ?_
    refine z_aload_n hR dRE_takeInUnit_33 (n := 34) rfl rfl ?_
    refine z_iconst hR dRE_takeInUnit_34 (v := 0) (n := 35) rfl rfl ?_
    refine z_putZ hR dRE_takeInUnit_35 (n := 38) rfl zpRE_31 (by decide) rfl rfl (by first | exact Or.inl rfl | exact Or.inr rfl | assumption) ?_
    refine z_iconst hR dRE_takeInUnit_38 (v := 1) (n := 39) rfl rfl ?_
    refine z_zret hR dRE_takeInUnit_39 rfl rfl (Nat.zero_le _) ?_
    refine ⟨(((hf.mo (by decide)).wA _ (by decide)).wA _ (by decide)).wA _ (by decide), Or.inr ⟨rfl, _, by rw [aStep, if_pos ha], hmx, ?_⟩⟩
    obtain ⟨c1, c2, c3, c4, c5, c6⟩ := hC2
    refine ⟨⟨by simpa [zwA_1] using c1, ?_, by simpa [zwA_1] using c3, ?_, by simp [zwA_1], ?_, ?_⟩, by simpa [zwA_1] using hk.1.trans ht, by simpa [zwA_1] using hk.2.1.trans hd, by simp [zwA_1, zb]⟩
    · refine nds_same (fun i hi => ⟨?_, ?_, ?_⟩) c2 <;> simp [zwA_1]
    · exact stk_same (fun i hi => by simp [zwA_1]) c4
    · simp [zwA_1]
    · refine stk_same (fun i hi => ?_) c6
      simp at hi
      simp [zwA_1, show i ≠ opd.length by omega]
  have ha' : atm (T i) = false := by simpa using ha
  by_cases h40 : T i = 40
  ·
    have e9 : aStep (nd, ops, opd, d, mx, true) (T i) = some (nd, T i :: ops, opd, d + 1, max mx (d + 1), true) := by rw [aStep, if_neg ha, if_pos h40]
    have hA : aC (zwA σ 2 9 (nI (d + 1))) nd ops opd := aC_f hC (by decide) (by decide) (by decide)
    refine z_iload_n hR dRE_takeInUnit_0 (n := 1) rfl rfl ?_
    refine z_callS1 hR dRE_takeInUnit_1 (n := 4) rfl zcRE_65 zkRE_isLeaf (by decide) (Nat.le_of_ble_eq_true rfl) (Nat.zero_le _) (m_RE_isLeaf (T i) σ) (fun r1 s1 h1 => ?_)
    obtain ⟨rfl, e1⟩ := h1
    subst s1
    refine z_if_eqB hR dRE_takeInUnit_4 (t := 40) (n := 7) rfl rfl (fun h4 => ?_) (fun h4 => absurd h4 (by rw [ha']; decide))
    refine z_iload_n hR dRE_takeInUnit_40 (n := 41) rfl rfl ?_
    refine z_bipush hR dRE_takeInUnit_41 (v := 40) (n := 43) rfl rfl ?_
    refine z_icmp_ne hR dRE_takeInUnit_43 (t := 59) (n := 46) rfl rfl (fun h43 => absurd h43 (fun q => q h40)) (fun _ => ?_)
    refine z_aload_n hR dRE_takeInUnit_46 (n := 47) rfl rfl ?_
    refine z_dup hR dRE_takeInUnit_47 (n := 48) rfl rfl ?_
    refine z_getI hR dRE_takeInUnit_48 (n := 51) rfl zgRE_49 (by decide) rfl rfl ?_
    rw [hd]
    refine z_iconst hR dRE_takeInUnit_51 (v := nI 1) (n := 52) rfl rfl ?_
    refine z_iaddN hR dRE_takeInUnit_52 (n := 53) rfl ?_
    refine z_putI hR dRE_takeInUnit_53 (n := 56) rfl zpRE_49 (by decide) rfl rfl ?_
    refine z_goto hR dRE_takeInUnit_56 (t := 69) rfl ?_
    refine z_aload_n hR dRE_takeInUnit_69 (n := 70) rfl rfl ?_
    refine z_iload_n hR dRE_takeInUnit_70 (n := 71) rfl rfl ?_
    refine z_callV1 hR dRE_takeInUnit_71 (n := 74) rfl zcRE_76 zkRE_await (by decide) (Nat.le_of_ble_eq_true rfl) (by decide) rfl rfl (Nat.zero_le _) (m_RE_await (T i) hc _ hA (by omega)) (fun r71 s71 h71 => ?_)
    obtain ⟨rfl, hf, hk, hC2⟩ := h71
    have hd2 := hk.2.1
    rw [zwA_ss] at hd2
    refine z_aload_n hR dRE_takeInUnit_74 (n := 75) rfl rfl ?_
    refine z_getI hR dRE_takeInUnit_75 (n := 78) rfl zgRE_49 (by decide) rfl rfl ?_
    rw [hd2]
    refine z_bipush hR dRE_takeInUnit_78 (v := nI 6) (n := 80) rfl rfl ?_
    refine z_icmp_gtN hR dRE_takeInUnit_80 (t := 87) (n := 83) rfl rfl (by omega) (by omega) (fun h80 => ?_) (fun h80 => ?_)
    · refine z_iconst hR dRE_takeInUnit_87 (v := 0) (n := 88) rfl rfl ?_
      refine z_zret hR dRE_takeInUnit_88 rfl rfl (Nat.zero_le _) ?_
      refine ⟨(zfr.rf.wA _ (by decide)).tr (hf.mo (by decide)), ?_⟩
      first
        | exact Or.inl ⟨rfl, fun s2 e => by rw [e9] at e; injection e with e; subst e; simp only; omega⟩
        | exact Or.inr ⟨rfl, _, e9, by simp only; omega, hC2, by rw [hk.1, zwA_sn _ _ _ _ (by decide)]; exact ht, hd2, by rw [hk.2.2, zwA_sn _ _ _ _ (by decide)]; exact hw⟩
    · refine z_iconst hR dRE_takeInUnit_83 (v := 1) (n := 84) rfl rfl ?_
      refine z_goto hR dRE_takeInUnit_84 (t := 88) rfl ?_
      refine z_zret hR dRE_takeInUnit_88 rfl rfl (Nat.zero_le _) ?_
      refine ⟨(zfr.rf.wA _ (by decide)).tr (hf.mo (by decide)), ?_⟩
      first
        | exact Or.inl ⟨rfl, fun s2 e => by rw [e9] at e; injection e with e; subst e; simp only; omega⟩
        | exact Or.inr ⟨rfl, _, e9, by simp only; omega, hC2, by rw [hk.1, zwA_sn _ _ _ _ (by decide)]; exact ht, hd2, by rw [hk.2.2, zwA_sn _ _ _ _ (by decide)]; exact hw⟩
  by_cases h64 : rk (T i) = 5
  ·
    have e9 : aStep (nd, ops, opd, d, mx, true) (T i) = some (nd, T i :: ops, opd, d, mx, true) := by rw [aStep, if_neg ha, if_neg h40, if_pos h64]
    refine z_iload_n hR dRE_takeInUnit_0 (n := 1) rfl rfl ?_
    refine z_callS1 hR dRE_takeInUnit_1 (n := 4) rfl zcRE_65 zkRE_isLeaf (by decide) (Nat.le_of_ble_eq_true rfl) (Nat.zero_le _) (m_RE_isLeaf (T i) σ) (fun r1 s1 h1 => ?_)
    obtain ⟨rfl, e1⟩ := h1
    subst s1
    refine z_if_eqB hR dRE_takeInUnit_4 (t := 40) (n := 7) rfl rfl (fun h4 => ?_) (fun h4 => absurd h4 (by rw [ha']; decide))
    refine z_iload_n hR dRE_takeInUnit_40 (n := 41) rfl rfl ?_
    refine z_bipush hR dRE_takeInUnit_41 (v := 40) (n := 43) rfl rfl ?_
    refine z_icmp_ne hR dRE_takeInUnit_43 (t := 59) (n := 46) rfl rfl (fun _ => ?_) (fun h43 => absurd h43 h40)
    refine z_iload_n hR dRE_takeInUnit_59 (n := 60) rfl rfl ?_
    refine z_callS1 hR dRE_takeInUnit_60 (n := 63) rfl zcRE_72 zkRE_rank (by decide) (Nat.le_of_ble_eq_true rfl) (Nat.zero_le _) (m_RE_rank (T i) σ) (fun r60 s60 h60 => ?_)
    obtain ⟨rfl, e60⟩ := h60
    subst s60
    refine z_iconst hR dRE_takeInUnit_63 (v := nI 5) (n := 64) rfl rfl ?_
    refine z_icmp_eqN hR dRE_takeInUnit_64 (t := 69) (n := 67) rfl rfl (by omega) (by omega) (fun h64 => ?_) (fun h64 => absurd h64 (by omega))
    refine z_aload_n hR dRE_takeInUnit_69 (n := 70) rfl rfl ?_
    refine z_iload_n hR dRE_takeInUnit_70 (n := 71) rfl rfl ?_
    refine z_callV1 hR dRE_takeInUnit_71 (n := 74) rfl zcRE_76 zkRE_await (by decide) (Nat.le_of_ble_eq_true rfl) (by decide) rfl rfl (Nat.zero_le _) (m_RE_await (T i) hc _ hC (by omega)) (fun r71 s71 h71 => ?_)
    obtain ⟨rfl, hf, hk, hC2⟩ := h71
    have hd2 := hk.2.1.trans hd
    refine z_aload_n hR dRE_takeInUnit_74 (n := 75) rfl rfl ?_
    refine z_getI hR dRE_takeInUnit_75 (n := 78) rfl zgRE_49 (by decide) rfl rfl ?_
    rw [hd2]
    refine z_bipush hR dRE_takeInUnit_78 (v := nI 6) (n := 80) rfl rfl ?_
    refine z_icmp_gtN hR dRE_takeInUnit_80 (t := 87) (n := 83) rfl rfl (by omega) (by omega) (fun h80 => absurd h80 (by omega)) (fun h80 => ?_)
    refine z_iconst hR dRE_takeInUnit_83 (v := 1) (n := 84) rfl rfl ?_
    refine z_goto hR dRE_takeInUnit_84 (t := 88) rfl ?_
    refine z_zret hR dRE_takeInUnit_88 rfl rfl (Nat.zero_le _) ?_
    refine ⟨hf.mo (by decide), ?_⟩
    exact Or.inr ⟨rfl, _, e9, hmx, hC2, hk.1.trans ht, hd2, hk.2.2.trans hw⟩
  have hr5 := rk_5 (T i)
  refine z_iload_n hR dRE_takeInUnit_0 (n := 1) rfl rfl ?_
  refine z_callS1 hR dRE_takeInUnit_1 (n := 4) rfl zcRE_65 zkRE_isLeaf (by decide) (Nat.le_of_ble_eq_true rfl) (Nat.zero_le _) (m_RE_isLeaf (T i) σ) (fun r1 s1 h1 => ?_)
  obtain ⟨rfl, e1⟩ := h1
  subst s1
  refine z_if_eqB hR dRE_takeInUnit_4 (t := 40) (n := 7) rfl rfl (fun h4 => ?_) (fun h4 => absurd h4 (by rw [ha']; decide))
  refine z_iload_n hR dRE_takeInUnit_40 (n := 41) rfl rfl ?_
  refine z_bipush hR dRE_takeInUnit_41 (v := 40) (n := 43) rfl rfl ?_
  refine z_icmp_ne hR dRE_takeInUnit_43 (t := 59) (n := 46) rfl rfl (fun _ => ?_) (fun h43 => absurd h43 h40)
  refine z_iload_n hR dRE_takeInUnit_59 (n := 60) rfl rfl ?_
  refine z_callS1 hR dRE_takeInUnit_60 (n := 63) rfl zcRE_72 zkRE_rank (by decide) (Nat.le_of_ble_eq_true rfl) (Nat.zero_le _) (m_RE_rank (T i) σ) (fun r60 s60 h60 => ?_)
  obtain ⟨rfl, e60⟩ := h60
  subst s60
  refine z_iconst hR dRE_takeInUnit_63 (v := nI 5) (n := 64) rfl rfl ?_
  refine z_icmp_eqN hR dRE_takeInUnit_64 (t := 69) (n := 67) rfl rfl (by omega) (by omega) (fun h64 => absurd h64 (by omega)) (fun h64 => ?_)
  refine z_iconst hR dRE_takeInUnit_67 (v := 0) (n := 68) rfl rfl ?_
  refine z_zret hR dRE_takeInUnit_68 rfl rfl (Nat.zero_le _) ?_
  refine ⟨zfr.rf, Or.inl ⟨rfl, fun s2 e => ?_⟩⟩
  rw [aStep, if_neg ha, if_neg h40, if_neg h64] at e
  exact absurd e (by simp)
theorem m_RE_behind {T : Nat → Int32} {i : Nat} (hi : i < 32) (hch : ∀ j, j ≤ i → vp_nar .char (T j) = T j) {t : Nat} {nd : nL3} {ops : List Int32} {opd : List Nat} {d mx : Nat} (σ : zS) (hI : aI T i (nd, ops, opd, d, mx, false)) (hmx : mx ≤ 6) (h : aCS σ t (nd, ops, opd, d, mx, false)) : zM yRE_takeBehindUnit cRE_takeBehindUnit 3 (some .boolean) 3 90 0 [.ref 2, .int (T i)] σ (fun r σ2 => zfr [2, 3, 4, 5, 6, 7] σ σ2 ∧ ((r = some (.int 0) ∧ ∀ s2, aStep (nd, ops, opd, d, mx, false) (T i) = some s2 → 6 < s2.2.2.2.2.1) ∨ (r = some (.int 1) ∧ ∃ s2, aStep (nd, ops, opd, d, mx, false) (T i) = some s2 ∧ s2.2.2.2.2.1 ≤ 6 ∧ aCS σ2 t s2))) (fun _ _ => False) := by
  refine zM.of [some (.ref 2), some (.int (T i)), none] (by decide) 1 rfl (fun _ => Nat.le_of_ble_eq_true rfl) (fun Z hR => ?_)
  obtain ⟨hC, ht, hd, hw⟩ := h
  simp only at hC ht hd hw
  have hPR := aI_RF hI
  obtain ⟨i1, i2, i3, i4, i5, i6, i7, i8⟩ := hI
  simp only at i1 i2 i3 i4 i5 i6 i7 i8
  have hops : ∀ c ∈ ops, vp_nar .char c = c := fun c hc => by
    obtain ⟨j, q1, q2⟩ := i8.1 c hc
    rw [← q2]
    exact hch j (by omega)
  by_cases h41 : T i = 41
  ·
    obtain ⟨q1, q2, q3, q4, q5, q6⟩ := aRF_ok (least := 1) (by omega) hPR
    by_cases hd0 : d = 0
    ·
      have e1 := npar_0 q1.1 (by rw [q3, i2]; exact hd0) q5
      subst hd0
      refine z_iload_n hR dRE_takeBehindUnit_0 (n := 1) rfl rfl ?_
      refine z_bipush hR dRE_takeBehindUnit_1 (v := 41) (n := 3) rfl rfl ?_
      refine z_icmp_ne hR dRE_takeBehindUnit_3 (t := 48) (n := 6) rfl rfl (fun h3 => absurd h3 (fun q => q h41)) (fun _ => ?_)
      refine z_aload_n hR dRE_takeBehindUnit_6 (n := 7) rfl rfl ?_
      refine z_iconst hR dRE_takeBehindUnit_7 (v := nI 1) (n := 8) rfl rfl ?_
      refine z_callV1 hR dRE_takeBehindUnit_8 (n := 11) rfl zcRE_52 zkRE_joinDownTo (by decide) (Nat.le_of_ble_eq_true rfl) (by decide) rfl rfl (Nat.zero_le _) (m_RE_joinDown (least := 1) (by omega) (by omega) σ hC hPR hops (by omega)) (fun r8 s8 h8 => ?_)
      obtain ⟨rfl, hf, hk, hC2⟩ := h8
      have hw2 := hC2.2.2.1
      rw [e1] at hw2
      have hd2 := hk.2.1.trans hd
      refine z_aload_n hR dRE_takeBehindUnit_11 (n := 12) rfl rfl ?_
      refine z_aload_n hR dRE_takeBehindUnit_12 (n := 13) rfl rfl ?_
      refine z_getI hR dRE_takeBehindUnit_13 (n := 16) rfl zgRE_59 (by decide) rfl rfl ?_
      rw [hw2]
      refine z_iconst hR dRE_takeBehindUnit_16 (v := 1) (n := 17) rfl rfl ?_
      refine z_isub hR dRE_takeBehindUnit_17 (n := 18) rfl ?_
      refine z_iconst hR dRE_takeBehindUnit_18 (v := 0) (n := 19) rfl rfl ?_
      refine z_mmax hR dRE_takeBehindUnit_19 (n := 22) rfl kmRE_80 (by decide) (by decide) (Nat.zero_le _) ?_
      refine z_putI hR dRE_takeBehindUnit_22 (n := 25) rfl zpRE_59 (by decide) rfl rfl ?_
      refine z_aload_n hR dRE_takeBehindUnit_25 (n := 26) rfl rfl ?_
      refine z_dup hR dRE_takeBehindUnit_26 (n := 27) rfl rfl ?_
      refine z_getI hR dRE_takeBehindUnit_27 (n := 30) rfl zgRE_49 (by decide) rfl rfl ?_
      rw [zwA_sn _ _ _ _ (by decide), hd2]
      refine z_iconst hR dRE_takeBehindUnit_30 (v := 1) (n := 31) rfl rfl ?_
      refine z_isub hR dRE_takeBehindUnit_31 (n := 32) rfl ?_
      refine z_putI hR dRE_takeBehindUnit_32 (n := 35) rfl zpRE_49 (by decide) rfl rfl ?_
      refine z_aload_n hR dRE_takeBehindUnit_35 (n := 36) rfl rfl ?_
      refine z_getI hR dRE_takeBehindUnit_36 (n := 39) rfl zgRE_49 (by decide) rfl rfl ?_
      rw [zwA_ss]
      refine z_if_lt hR dRE_takeBehindUnit_39 (t := 46) (n := 42) rfl rfl (fun _ => ?_) (fun h39 => absurd (by decide) h39)
      refine z_iconst hR dRE_takeBehindUnit_46 (v := 0) (n := 47) rfl rfl ?_
      refine z_zret hR dRE_takeBehindUnit_47 rfl rfl (Nat.zero_le _) ?_
      refine ⟨((hf.mo (by decide)).wA _ (by decide)).wA _ (by decide), Or.inl ⟨rfl, fun s2 e => ?_⟩⟩
      rw [aStep, if_pos h41, if_pos rfl] at e
      exact absurd e (by simp)
    ·
      obtain ⟨u, hu⟩ := npar_1 q1.1 (by rw [q3, i2]; exact hd0) q5
      have e9 : aStep (nd, ops, opd, d, mx, false) (T i) = some ((aRF 1 ops nd opd).1, u, (aRF 1 ops nd opd).2.2, d - 1, mx, false) := by rw [aStep, if_pos h41, if_neg hd0, hu, List.tail_cons]
      refine z_iload_n hR dRE_takeBehindUnit_0 (n := 1) rfl rfl ?_
      refine z_bipush hR dRE_takeBehindUnit_1 (v := 41) (n := 3) rfl rfl ?_
      refine z_icmp_ne hR dRE_takeBehindUnit_3 (t := 48) (n := 6) rfl rfl (fun h3 => absurd h3 (fun q => q h41)) (fun _ => ?_)
      refine z_aload_n hR dRE_takeBehindUnit_6 (n := 7) rfl rfl ?_
      refine z_iconst hR dRE_takeBehindUnit_7 (v := nI 1) (n := 8) rfl rfl ?_
      refine z_callV1 hR dRE_takeBehindUnit_8 (n := 11) rfl zcRE_52 zkRE_joinDownTo (by decide) (Nat.le_of_ble_eq_true rfl) (by decide) rfl rfl (Nat.zero_le _) (m_RE_joinDown (least := 1) (by omega) (by omega) σ hC hPR hops (by omega)) (fun r8 s8 h8 => ?_)
      obtain ⟨rfl, hf, hk, hC2⟩ := h8
      have hw2 := hC2.2.2.1
      rw [hu, List.length_cons] at hw2
      have hd2 := hk.2.1.trans hd
      refine z_aload_n hR dRE_takeBehindUnit_11 (n := 12) rfl rfl ?_
      refine z_aload_n hR dRE_takeBehindUnit_12 (n := 13) rfl rfl ?_
      refine z_getI hR dRE_takeBehindUnit_13 (n := 16) rfl zgRE_59 (by decide) rfl rfl ?_
      rw [hw2]
      refine z_iconst hR dRE_takeBehindUnit_16 (v := nI 1) (n := 17) rfl rfl ?_
      refine z_isubN hR dRE_takeBehindUnit_17 (n := 18) rfl (by omega) ?_
      rw [Nat.add_sub_cancel]
      refine z_iconst hR dRE_takeBehindUnit_18 (v := 0) (n := 19) rfl rfl ?_
      refine z_mmax hR dRE_takeBehindUnit_19 (n := 22) rfl kmRE_80 (by decide) (by decide) (Nat.zero_le _) ?_
      rw [if_neg (nI_pos (by rw [hu] at q2; simp at q2; omega))]
      refine z_putI hR dRE_takeBehindUnit_22 (n := 25) rfl zpRE_59 (by decide) rfl rfl ?_
      refine z_aload_n hR dRE_takeBehindUnit_25 (n := 26) rfl rfl ?_
      refine z_dup hR dRE_takeBehindUnit_26 (n := 27) rfl rfl ?_
      refine z_getI hR dRE_takeBehindUnit_27 (n := 30) rfl zgRE_49 (by decide) rfl rfl ?_
      rw [zwA_sn _ _ _ _ (by decide), hd2]
      refine z_iconst hR dRE_takeBehindUnit_30 (v := nI 1) (n := 31) rfl rfl ?_
      refine z_isubN hR dRE_takeBehindUnit_31 (n := 32) rfl (by omega) ?_
      refine z_putI hR dRE_takeBehindUnit_32 (n := 35) rfl zpRE_49 (by decide) rfl rfl ?_
      refine z_aload_n hR dRE_takeBehindUnit_35 (n := 36) rfl rfl ?_
      refine z_getI hR dRE_takeBehindUnit_36 (n := 39) rfl zgRE_49 (by decide) rfl rfl ?_
      rw [zwA_ss]
      refine z_if_ltN hR dRE_takeBehindUnit_39 (t := 46) (n := 42) rfl rfl (by omega) ?_
      refine z_iconst hR dRE_takeBehindUnit_42 (v := 1) (n := 43) rfl rfl ?_
      refine z_goto hR dRE_takeBehindUnit_43 (t := 47) rfl ?_
      refine z_zret hR dRE_takeBehindUnit_47 rfl rfl (Nat.zero_le _) ?_
      refine ⟨((hf.mo (by decide)).wA _ (by decide)).wA _ (by decide), Or.inr ⟨rfl, _, e9, hmx, ?_⟩⟩
      rw [hu] at hC2
      obtain ⟨c1, c2, c3, c4, c5, c6⟩ := hC2
      refine ⟨⟨by simpa [zwA_1] using c1, ?_, by simp [zwA_1], ?_, by simpa [zwA_1] using c5, ?_⟩, by simpa [zwA_1] using hk.1.trans ht, by simp [zwA_1], by simpa [zwA_1] using hk.2.2.trans hw⟩
      · refine nds_same (fun i hi => ⟨?_, ?_, ?_⟩) c2 <;> simp [zwA_1]
      · exact stk_same (fun i hi => by simp [zwA_1]) c4.2
      · exact stk_same (fun i hi => by simp [zwA_1]) c6
  have hr5 := rk_5 (T i)
  by_cases h05 : rk (T i) = 0 ∨ rk (T i) = 5
  ·
    refine z_iload_n hR dRE_takeBehindUnit_0 (n := 1) rfl rfl ?_
    refine z_bipush hR dRE_takeBehindUnit_1 (v := 41) (n := 3) rfl rfl ?_
    refine z_icmp_ne hR dRE_takeBehindUnit_3 (t := 48) (n := 6) rfl rfl (fun _ => ?_) (fun h3 => absurd h3 h41)
    refine z_iload_n hR dRE_takeBehindUnit_48 (n := 49) rfl rfl ?_
    refine z_callS1 hR dRE_takeBehindUnit_49 (n := 52) rfl zcRE_72 zkRE_rank (by decide) (Nat.le_of_ble_eq_true rfl) (Nat.zero_le _) (m_RE_rank (T i) σ) (fun r49 s49 h49 => ?_)
    obtain ⟨rfl, e49⟩ := h49
    subst s49
    refine z_istore_n hR dRE_takeBehindUnit_52 (n := 53) rfl (by decide) rfl ?_
    refine z_iload_n hR dRE_takeBehindUnit_53 (n := 54) rfl rfl ?_
    refine z_iconst hR dRE_takeBehindUnit_54 (v := nI 1) (n := 55) rfl rfl ?_
    refine z_icmp_ltN hR dRE_takeBehindUnit_55 (t := 63) (n := 58) rfl rfl (by omega) (by omega) (fun h55 => ?_) (fun h55 => ?_)
    · refine z_iconst hR dRE_takeBehindUnit_63 (v := 0) (n := 64) rfl rfl ?_
      refine z_zret hR dRE_takeBehindUnit_64 rfl rfl (Nat.zero_le _) ?_
      refine ⟨zfr.rf, Or.inl ⟨rfl, fun s2 e => ?_⟩⟩
      rw [aStep, if_neg h41, if_pos h05] at e
      exact absurd e (by simp)
    · refine z_iload_n hR dRE_takeBehindUnit_58 (n := 59) rfl rfl ?_
      refine z_iconst hR dRE_takeBehindUnit_59 (v := nI 5) (n := 60) rfl rfl ?_
      refine z_icmp_neN hR dRE_takeBehindUnit_60 (t := 65) (n := 63) rfl rfl (by omega) (by omega) (fun h60 => absurd h60 (by omega)) (fun h60 => ?_)
      refine z_iconst hR dRE_takeBehindUnit_63 (v := 0) (n := 64) rfl rfl ?_
      refine z_zret hR dRE_takeBehindUnit_64 rfl rfl (Nat.zero_le _) ?_
      refine ⟨zfr.rf, Or.inl ⟨rfl, fun s2 e => ?_⟩⟩
      rw [aStep, if_neg h41, if_pos h05] at e
      exact absurd e (by simp)
  ·
    have fin : ∀ (least : Nat), (if rgt (T i) then rk (T i) + 1 else rk (T i)) = least → Z 0 80 [some (.ref 2), some (.int (T i)), some (.int (nI (rk (T i))))] [.int (nI least), .ref 2] σ := by
      intro least hle
      have hl1 : 1 ≤ least := by
        rw [← hle]
        split <;> omega
      have hl5 : least ≤ 5 := by
        rw [← hle]
        split <;> omega
      obtain ⟨q1, q2, q3, q4, q5, q6⟩ := aRF_ok hl1 hPR
      have e9 : aStep (nd, ops, opd, d, mx, false) (T i) = some ((aRF least ops nd opd).1, T i :: (aRF least ops nd opd).2.1, (aRF least ops nd opd).2.2, d, mx, true) := by rw [aStep, if_neg h41, if_neg h05, hle]
      refine z_callV1 hR dRE_takeBehindUnit_80 (n := 83) rfl zcRE_52 zkRE_joinDownTo (by decide) (Nat.le_of_ble_eq_true rfl) (by decide) rfl rfl (Nat.zero_le _) (m_RE_joinDown hl1 hl5 σ hC hPR hops (by omega)) (fun r80 s80 h80 => ?_)
      obtain ⟨rfl, hf, hk, hC2⟩ := h80
      refine z_aload_n hR dRE_takeBehindUnit_83 (n := 84) rfl rfl ?_
      refine z_iload_n hR dRE_takeBehindUnit_84 (n := 85) rfl rfl ?_
      refine z_callV1 hR dRE_takeBehindUnit_85 (n := 88) rfl zcRE_76 zkRE_await (by decide) (Nat.le_of_ble_eq_true rfl) (by decide) rfl rfl (Nat.zero_le _) (m_RE_await (T i) (hch i (by omega)) _ hC2 (by omega)) (fun r85 s85 h85 => ?_)
      obtain ⟨rfl, hf2, hk2, hC3⟩ := h85
      refine z_aload_n hR dRE_takeBehindUnit_88 (n := 89) rfl rfl ?_
      refine z_iconst hR dRE_takeBehindUnit_89 (v := 1) (n := 90) rfl rfl ?_
      refine z_putZ hR dRE_takeBehindUnit_90 (n := 93) rfl zpRE_31 (by decide) rfl rfl (by first | exact Or.inl rfl | exact Or.inr rfl | assumption) ?_
      refine z_iconst hR dRE_takeBehindUnit_93 (v := 1) (n := 94) rfl rfl ?_
      refine z_zret hR dRE_takeBehindUnit_94 rfl rfl (Nat.zero_le _) ?_
      refine ⟨((hf.mo (by decide)).tr (hf2.mo (by decide))).wA _ (by decide), Or.inr ⟨rfl, _, e9, hmx, ?_⟩⟩
      exact ⟨aC_f hC3 (by decide) (by decide) (by decide), by simpa [zwA_1] using (hk2.1.trans hk.1).trans ht, by simpa [zwA_1] using (hk2.2.1.trans hk.2.1).trans hd, by simp [zwA_1, zb]⟩
    refine z_iload_n hR dRE_takeBehindUnit_0 (n := 1) rfl rfl ?_
    refine z_bipush hR dRE_takeBehindUnit_1 (v := 41) (n := 3) rfl rfl ?_
    refine z_icmp_ne hR dRE_takeBehindUnit_3 (t := 48) (n := 6) rfl rfl (fun _ => ?_) (fun h3 => absurd h3 h41)
    refine z_iload_n hR dRE_takeBehindUnit_48 (n := 49) rfl rfl ?_
    refine z_callS1 hR dRE_takeBehindUnit_49 (n := 52) rfl zcRE_72 zkRE_rank (by decide) (Nat.le_of_ble_eq_true rfl) (Nat.zero_le _) (m_RE_rank (T i) σ) (fun r49 s49 h49 => ?_)
    obtain ⟨rfl, e49⟩ := h49
    subst s49
    refine z_istore_n hR dRE_takeBehindUnit_52 (n := 53) rfl (by decide) rfl ?_
    refine z_iload_n hR dRE_takeBehindUnit_53 (n := 54) rfl rfl ?_
    refine z_iconst hR dRE_takeBehindUnit_54 (v := nI 1) (n := 55) rfl rfl ?_
    refine z_icmp_ltN hR dRE_takeBehindUnit_55 (t := 63) (n := 58) rfl rfl (by omega) (by omega) (fun h55 => absurd h55 (by omega)) (fun h55 => ?_)
    refine z_iload_n hR dRE_takeBehindUnit_58 (n := 59) rfl rfl ?_
    refine z_iconst hR dRE_takeBehindUnit_59 (v := nI 5) (n := 60) rfl rfl ?_
    refine z_icmp_neN hR dRE_takeBehindUnit_60 (t := 65) (n := 63) rfl rfl (by omega) (by omega) (fun h60 => ?_) (fun h60 => absurd h60 (by omega))
    refine z_aload_n hR dRE_takeBehindUnit_65 (n := 66) rfl rfl ?_
    refine z_iload_n hR dRE_takeBehindUnit_66 (n := 67) rfl rfl ?_
    refine z_callS1 hR dRE_takeBehindUnit_67 (n := 70) rfl zcRE_86 zkRE_groupsToTheRight (by decide) (Nat.le_of_ble_eq_true rfl) (Nat.zero_le _) (m_RE_right (T i) σ) (fun r67 s67 h67 => ?_)
    obtain ⟨rfl, e67⟩ := h67
    subst s67
    refine z_if_eqB hR dRE_takeBehindUnit_70 (t := 79) (n := 73) rfl rfl (fun h70 => ?_) (fun h70 => ?_)
    · refine z_iload_n hR dRE_takeBehindUnit_79 (n := 80) rfl rfl ?_
      exact fin _ (by rw [h70]; rfl)
    · refine z_iload_n hR dRE_takeBehindUnit_73 (n := 74) rfl rfl ?_
      refine z_iconst hR dRE_takeBehindUnit_74 (v := nI 1) (n := 75) rfl rfl ?_
      refine z_iaddN hR dRE_takeBehindUnit_75 (n := 76) rfl ?_
      refine z_goto hR dRE_takeBehindUnit_76 (t := 80) rfl ?_
      exact fin _ (by rw [h70]; rfl)
theorem m_RE_start (σ : zS) : zM yRE_startAnew cRE_startAnew 1 none 0 0 0 [.ref 2] σ (fun r σ2 => r = none ∧ zfr [2] σ σ2 ∧ aCS σ2 0 ([], [], [], 0, 0, true)) (fun _ _ => False) := by
  refine zM.of [some (.ref 2)] (by decide) 0 rfl (fun _ => Nat.le_of_ble_eq_true rfl) (fun Z hR => ?_)
  refine z_aload_n hR dRE_startAnew_0 (n := 1) rfl rfl ?_
  refine z_iconst hR dRE_startAnew_1 (v := 0) (n := 2) rfl rfl ?_
  refine z_putI hR dRE_startAnew_2 (n := 5) rfl zpRE_56 (by decide) rfl rfl ?_
  refine z_aload_n hR dRE_startAnew_5 (n := 6) rfl rfl ?_
  refine z_iconst hR dRE_startAnew_6 (v := 0) (n := 7) rfl rfl ?_
  refine z_putI hR dRE_startAnew_7 (n := 10) rfl zpRE_45 (by decide) rfl rfl ?_
  refine z_aload_n hR dRE_startAnew_10 (n := 11) rfl rfl ?_
  refine z_iconst hR dRE_startAnew_11 (v := 0) (n := 12) rfl rfl ?_
  refine z_putI hR dRE_startAnew_12 (n := 15) rfl zpRE_59 (by decide) rfl rfl ?_
  refine z_aload_n hR dRE_startAnew_15 (n := 16) rfl rfl ?_
  refine z_iconst hR dRE_startAnew_16 (v := 0) (n := 17) rfl rfl ?_
  refine z_putI hR dRE_startAnew_17 (n := 20) rfl zpRE_62 (by decide) rfl rfl ?_
  refine z_aload_n hR dRE_startAnew_20 (n := 21) rfl rfl ?_
  refine z_iconst hR dRE_startAnew_21 (v := 0) (n := 22) rfl rfl ?_
  refine z_putI hR dRE_startAnew_22 (n := 25) rfl zpRE_49 (by decide) rfl rfl ?_
  refine z_aload_n hR dRE_startAnew_25 (n := 26) rfl rfl ?_
  refine z_iconst hR dRE_startAnew_26 (v := 1) (n := 27) rfl rfl ?_
  refine z_putZ hR dRE_startAnew_27 (n := 30) rfl zpRE_31 (by decide) rfl rfl (by first | exact Or.inl rfl | exact Or.inr rfl | assumption) ?_
  refine z_vret hR dRE_startAnew_30 rfl (Nat.zero_le _) ?_
  refine ⟨rfl, (((((zfr.rf.wA _ (by decide)).wA _ (by decide)).wA _ (by decide)).wA _ (by decide)).wA _ (by decide)).wA _ (by decide), ⟨?_, trivial, ?_, trivial, ?_, trivial⟩, ?_, ?_, ?_⟩
  all_goals (simp [zwA_1]; rfl)
/-- what the reader leaves: it read a formula, and these are its nodes and how many are timed -/
def aRd (T : Nat → Int32) (n : Nat) (nd : nL3) : Prop := ∃ (nd0 : nL3) (ops : List Int32) (opd : List Nat) (mx : Nat), aGo T n 0 ([], [], [], 0, 0, true) = some (nd0, ops, opd, 0, mx, false) ∧ mx ≤ 6 ∧ nd = (aRF 1 ops nd0 opd).1
theorem m_RE_reads {n : Nat} (hn : n ≤ 32) (σ : zS) (hch : ∀ j, j < n → vp_nar .char (σ.1 1 j) = σ.1 1 j) : zM yRE_reads cRE_reads 5 (some .boolean) 4 120 0 [.ref 2, .ref 1, .int (nI n)] σ (fun r σ2 => zfr [2, 3, 4, 5, 6, 7] σ σ2 ∧ ((r = some (.int 0) ∧ ∀ nd, ¬ aRd (σ.1 1) n nd) ∨ (r = some (.int 1) ∧ ∃ nd, aRd (σ.1 1) n nd ∧ σ2.1 2 3 = nI nd.length ∧ nds (σ2.1 3) (σ2.1 4) (σ2.1 5) nd ∧ σ2.1 2 4 = nI (ntn nd)))) (fun _ _ => False) := by
  refine zM.of [some (.ref 2), some (.ref 1), some (.int (nI n)), none, none] (by decide) 2 rfl (fun _ => Nat.le_of_ble_eq_true rfl) (fun Z hR => ?_)
  generalize hT : σ.1 1 = T at hch hR
  have nogo : ∀ (m i : Nat) (s : aS), aGo T n 0 ([], [], [], 0, 0, true) = aGo T (m + 1) i s → (∀ s2, aStep s (T i) = some s2 → 6 < s2.2.2.2.2.1) → ∀ nd, ¬ aRd T n nd := by
    intro m i s he hs nd ⟨nd0, ops, opd, mx, h1, h2, _⟩
    rw [he, aGo] at h1
    split at h1
    · exact absurd h1 (by simp)
    · rename_i s2 h3
      have h4 := aGo_mx h1
      have h5 := hs s2 h3
      simp only at h4
      omega
  have key : ∀ (m i : Nat) (s : aS) (τ : zS) (l4 : Option Value), i + m = n → aI T i s → s.2.2.2.2.1 ≤ 6 → aCS τ (ntT T i) s → zfr [2, 3, 4, 5, 6, 7] σ τ → aGo T n 0 ([], [], [], 0, 0, true) = aGo T m i s → Z 0 6 [some (.ref 2), some (.ref 1), some (.int (nI n)), some (.int (nI i)), l4] [] τ := by
    intro m
    induction m with
    | zero =>
      intro i s τ l4 him hI hmx hC hf he
      obtain rfl : i = n := by omega
      obtain ⟨nd, ops, opd, d, mx, w⟩ := s
      obtain ⟨hC, ht, hd, hw⟩ := hC
      simp only at hC ht hd hw hmx
      have hdb : d ≤ mx := hI.2.2.1
      by_cases hok : w = false ∧ d = 0
      ·
        obtain ⟨rfl, rfl⟩ := hok
        have hE := aEnd_ok he
        have hPR := aI_RF hI
        have h6 : nd.length + ops.length ≤ i := hI.2.2.2.2.2.1
        have hops : ∀ c ∈ ops, vp_nar .char c = c := fun c hc => by
          obtain ⟨j, q1, q2⟩ := hI.2.2.2.2.2.2.2.1 c hc
          rw [← q2]
          exact hch j (by omega)
        refine z_iload_n hR dRE_reads_6 (n := 7) rfl rfl ?_
        refine z_iload_n hR dRE_reads_7 (n := 8) rfl rfl ?_
        refine z_icmp_geN hR dRE_reads_8 (t := 75) (n := 11) rfl rfl (by omega) (by omega) (fun h8 => ?_) (fun h8 => absurd h8 (by omega))
        refine z_aload_n hR dRE_reads_75 (n := 76) rfl rfl ?_
        refine z_getI hR dRE_reads_76 (n := 79) rfl zgRE_31 (by decide) rfl rfl ?_
        rw [hw]
        refine z_if_neB hR dRE_reads_79 (t := 89) (n := 82) rfl rfl (fun h79 => absurd h79 (by decide)) (fun h79 => ?_)
        refine z_aload_n hR dRE_reads_82 (n := 83) rfl rfl ?_
        refine z_getI hR dRE_reads_83 (n := 86) rfl zgRE_49 (by decide) rfl rfl ?_
        rw [hd]
        refine z_if_leN hR dRE_reads_86 (t := 91) (n := 89) rfl rfl (by omega) (fun h86 => ?_) (fun h86 => absurd h86 (by omega))
        refine z_aload_n hR dRE_reads_91 (n := 92) rfl rfl ?_
        refine z_iconst hR dRE_reads_92 (v := nI 1) (n := 93) rfl rfl ?_
        refine z_callV1 hR dRE_reads_93 (n := 96) rfl zcRE_52 zkRE_joinDownTo (by decide) (Nat.le_of_ble_eq_true rfl) (by decide) rfl rfl (Nat.zero_le _) (m_RE_joinDown (least := 1) (by omega) (by omega) τ hC hPR hops (by omega)) (fun r93 s93 h93 => ?_)
        obtain ⟨rfl, hf2, hk2, hC2⟩ := h93
        refine z_iconst hR dRE_reads_96 (v := 1) (n := 97) rfl rfl ?_
        refine z_zret hR dRE_reads_97 rfl rfl (Nat.zero_le _) ?_
        refine ⟨hf.tr (hf2.mo (by decide)), Or.inr ⟨rfl, (aRF 1 ops nd opd).1, ⟨nd, ops, opd, mx, he, hmx, rfl⟩, hC2.1, hC2.2.1, ?_⟩⟩
        rw [hk2.1, ht, hE.2.2.2.2.2.1]
      ·
        have hno : ∀ nd2, ¬ aRd T i nd2 := by
          intro nd2 ⟨nd0, ops0, opd0, mx0, h1, h2, _⟩
          rw [he] at h1
          injection h1 with h1
          injection h1 with _ h1
          injection h1 with _ h1
          injection h1 with _ h1
          injection h1 with h3 h1
          injection h1 with _ h1
          exact hok ⟨h1, h3⟩
        refine z_iload_n hR dRE_reads_6 (n := 7) rfl rfl ?_
        refine z_iload_n hR dRE_reads_7 (n := 8) rfl rfl ?_
        refine z_icmp_geN hR dRE_reads_8 (t := 75) (n := 11) rfl rfl (by omega) (by omega) (fun h8 => ?_) (fun h8 => absurd h8 (by omega))
        refine z_aload_n hR dRE_reads_75 (n := 76) rfl rfl ?_
        refine z_getI hR dRE_reads_76 (n := 79) rfl zgRE_31 (by decide) rfl rfl ?_
        rw [hw]
        refine z_if_neB hR dRE_reads_79 (t := 89) (n := 82) rfl rfl (fun h79 => ?_) (fun h79 => ?_)
        · refine z_iconst hR dRE_reads_89 (v := 0) (n := 90) rfl rfl ?_
          refine z_zret hR dRE_reads_90 rfl rfl (Nat.zero_le _) ?_
          exact ⟨hf, Or.inl ⟨rfl, hno⟩⟩
        · refine z_aload_n hR dRE_reads_82 (n := 83) rfl rfl ?_
          refine z_getI hR dRE_reads_83 (n := 86) rfl zgRE_49 (by decide) rfl rfl ?_
          rw [hd]
          refine z_if_leN hR dRE_reads_86 (t := 91) (n := 89) rfl rfl (by omega) (fun h86 => absurd h86 (fun q => hok ⟨h79, q⟩)) (fun h86 => ?_)
          refine z_iconst hR dRE_reads_89 (v := 0) (n := 90) rfl rfl ?_
          refine z_zret hR dRE_reads_90 rfl rfl (Nat.zero_le _) ?_
          exact ⟨hf, Or.inl ⟨rfl, hno⟩⟩
    | succ m ih =>
      intro i s τ l4 him hI hmx hC hf he
      have hTi : τ.1 1 = T := by rw [hf.1 1 (by decide), hT]
      have next : ∀ (s2 : aS) (τ2 : zS) (l4 : Option Value), aStep s (T i) = some s2 → s2.2.2.2.2.1 ≤ 6 → aCS τ2 (ntT T (i + 1)) s2 → zfr [2, 3, 4, 5, 6, 7] σ τ2 → Z 0 6 [some (.ref 2), some (.ref 1), some (.int (nI n)), some (.int (nI (i + 1))), l4] [] τ2 := by
        intro s2 τ2 l4 hs h6 hC2 hf2
        refine ih (i + 1) s2 τ2 l4 (by omega) (aI_s hI hs) h6 hC2 hf2 ?_
        rw [he, aGo, hs]
      have mid : ∀ (s2 : aS) (τ2 : zS), aStep s (T i) = some s2 → s2.2.2.2.2.1 ≤ 6 → aCS τ2 (ntT T i) s2 → zfr [2, 3, 4, 5, 6, 7] σ τ2 → Z 0 50 [some (.ref 2), some (.ref 1), some (.int (nI n)), some (.int (nI i)), some (.int 1)] [] τ2 := by
        intro s2 τ2 hs h6 hC2 hf2
        have hT2 : τ2.1 1 = T := by rw [hf2.1 1 (by decide), hT]
        obtain ⟨c1, c2, c3, c4⟩ := hC2
        have hnt : ntT T i ≤ i := by
          have h9 : ∀ q, ntT T q ≤ q := fun q => by
            induction q with
            | zero => exact Nat.le_refl _
            | succ q ihq =>
              rw [ntT]
              cases tmd (T q) <;> simp <;> omega
          exact h9 i
        refine z_aload_n hR dRE_reads_50 (n := 51) rfl rfl ?_
        refine z_iload_n hR dRE_reads_51 (n := 52) rfl rfl ?_
        refine z_cald hR (_) dRE_reads_52 (n := 53) rfl (by decide) rfl (by decide) rfl (by omega) ?_
        rw [hT2]
        refine z_callS1 hR dRE_reads_53 (n := 56) rfl zcRE_42 zkRE_isTimed (by decide) (Nat.le_of_ble_eq_true rfl) (Nat.zero_le _) (m_RE_isTimed (T i) τ2) (fun r53 s53 h53 => ?_)
        obtain ⟨rfl, e53⟩ := h53
        subst s53
        refine z_if_eqB hR dRE_reads_56 (t := 69) (n := 59) rfl rfl (fun h56 => ?_) (fun h56 => ?_)
        · have go := next s2 τ2 (some (.int 1)) hs h6 ⟨c1, by rw [c2, ntT, h56]; rfl, c3, c4⟩ hf2
          refine z_iincN hR 1 dRE_reads_69 (n := 72) rfl rfl (by decide) rfl rfl ?_
          refine z_goto hR dRE_reads_72 (t := 6) rfl ?_
          exact go
        · have go := next s2 (zwA τ2 2 4 (nI (ntT T i + 1))) (some (.int 1)) hs h6 ⟨aC_f c1 (by decide) (by decide) (by decide), by rw [zwA_ss, ntT, h56]; rfl, by rw [zwA_sn _ _ _ _ (by decide)]; exact c3, by rw [zwA_sn _ _ _ _ (by decide)]; exact c4⟩ (hf2.wA _ (by decide))
          refine z_aload_n hR dRE_reads_59 (n := 60) rfl rfl ?_
          refine z_dup hR dRE_reads_60 (n := 61) rfl rfl ?_
          refine z_getI hR dRE_reads_61 (n := 64) rfl zgRE_45 (by decide) rfl rfl ?_
          rw [c2]
          refine z_iconst hR dRE_reads_64 (v := nI 1) (n := 65) rfl rfl ?_
          refine z_iaddN hR dRE_reads_65 (n := 66) rfl ?_
          refine z_putI hR dRE_reads_66 (n := 69) rfl zpRE_45 (by decide) rfl rfl ?_
          refine z_iincN hR 1 dRE_reads_69 (n := 72) rfl rfl (by decide) rfl rfl ?_
          refine z_goto hR dRE_reads_72 (t := 6) rfl ?_
          exact go
      obtain ⟨nd, ops, opd, d, mx, w⟩ := s
      have hw : τ.1 2 10 = zb w := hC.2.2.2
      cases w with
      | true =>
        refine z_iload_n hR dRE_reads_6 (n := 7) rfl rfl ?_
        refine z_iload_n hR dRE_reads_7 (n := 8) rfl rfl ?_
        refine z_icmp_geN hR dRE_reads_8 (t := 75) (n := 11) rfl rfl (by omega) (by omega) (fun h8 => absurd h8 (by omega)) (fun h8 => ?_)
        refine z_iload_n hR dRE_reads_11 (n := 12) rfl rfl ?_
        refine z_bipush hR dRE_reads_12 (v := nI 32) (n := 14) rfl rfl ?_
        refine z_icmp_geN hR dRE_reads_14 (t := 75) (n := 17) rfl rfl (by omega) (by omega) (fun h14 => absurd h14 (by omega)) (fun h14 => ?_)
        refine z_aload_n hR dRE_reads_17 (n := 18) rfl rfl ?_
        refine z_getI hR dRE_reads_18 (n := 21) rfl zgRE_31 (by decide) rfl rfl ?_
        rw [hw]
        refine z_if_eqB hR dRE_reads_21 (t := 34) (n := 24) rfl rfl (fun h21 => absurd h21 (by decide)) (fun h21 => ?_)
        refine z_aload_n hR dRE_reads_24 (n := 25) rfl rfl ?_
        refine z_aload_n hR dRE_reads_25 (n := 26) rfl rfl ?_
        refine z_iload_n hR dRE_reads_26 (n := 27) rfl rfl ?_
        refine z_cald hR (_) dRE_reads_27 (n := 28) rfl (by decide) rfl (by decide) rfl (by omega) ?_
        rw [hTi]
        refine z_callV1 hR dRE_reads_28 (n := 31) rfl zcRE_35 zkRE_takeInUnit (by decide) (Nat.le_of_ble_eq_true rfl) (by decide) rfl rfl (Nat.zero_le _) (m_RE_unit (by omega) (hch i (by omega)) τ hI hmx hC) (fun r28 s28 h28 => ?_)
        obtain ⟨hf2, ⟨rfl, hbad⟩ | ⟨rfl, s2, hs2, h6, hC2⟩⟩ := h28
        ·
          refine z_goto hR dRE_reads_31 (t := 41) rfl ?_
          refine z_istore hR dRE_reads_41 (n := 43) rfl (by decide) rfl ?_
          refine z_iload hR dRE_reads_43 (n := 45) rfl rfl ?_
          refine z_if_ne hR dRE_reads_45 (t := 50) (n := 48) rfl rfl (fun h45 => absurd h45 (fun q => q rfl)) (fun _ => ?_)
          refine z_iconst hR dRE_reads_48 (v := 0) (n := 49) rfl rfl ?_
          refine z_zret hR dRE_reads_49 rfl rfl (Nat.zero_le _) ?_
          exact ⟨hf.tr hf2, Or.inl ⟨rfl, nogo m i _ he hbad⟩⟩
        refine z_goto hR dRE_reads_31 (t := 41) rfl ?_
        refine z_istore hR dRE_reads_41 (n := 43) rfl (by decide) rfl ?_
        refine z_iload hR dRE_reads_43 (n := 45) rfl rfl ?_
        refine z_if_ne hR dRE_reads_45 (t := 50) (n := 48) rfl rfl (fun _ => ?_) (fun h45 => absurd h45 (by decide))
        exact mid s2 s28 hs2 h6 hC2 (hf.tr hf2)
      | false =>
        refine z_iload_n hR dRE_reads_6 (n := 7) rfl rfl ?_
        refine z_iload_n hR dRE_reads_7 (n := 8) rfl rfl ?_
        refine z_icmp_geN hR dRE_reads_8 (t := 75) (n := 11) rfl rfl (by omega) (by omega) (fun h8 => absurd h8 (by omega)) (fun h8 => ?_)
        refine z_iload_n hR dRE_reads_11 (n := 12) rfl rfl ?_
        refine z_bipush hR dRE_reads_12 (v := nI 32) (n := 14) rfl rfl ?_
        refine z_icmp_geN hR dRE_reads_14 (t := 75) (n := 17) rfl rfl (by omega) (by omega) (fun h14 => absurd h14 (by omega)) (fun h14 => ?_)
        refine z_aload_n hR dRE_reads_17 (n := 18) rfl rfl ?_
        refine z_getI hR dRE_reads_18 (n := 21) rfl zgRE_31 (by decide) rfl rfl ?_
        rw [hw]
        refine z_if_eqB hR dRE_reads_21 (t := 34) (n := 24) rfl rfl (fun h21 => ?_) (fun h21 => absurd h21 (by decide))
        refine z_aload_n hR dRE_reads_34 (n := 35) rfl rfl ?_
        refine z_aload_n hR dRE_reads_35 (n := 36) rfl rfl ?_
        refine z_iload_n hR dRE_reads_36 (n := 37) rfl rfl ?_
        refine z_cald hR (_) dRE_reads_37 (n := 38) rfl (by decide) rfl (by decide) rfl (by omega) ?_
        rw [hTi]
        refine z_callV1 hR dRE_reads_38 (n := 41) rfl zcRE_39 zkRE_takeBehindUnit (by decide) (Nat.le_of_ble_eq_true rfl) (by decide) rfl rfl (Nat.zero_le _) (m_RE_behind (by omega) (fun j hj => hch j (by omega)) τ hI hmx hC) (fun r38 s38 h38 => ?_)
        obtain ⟨hf2, ⟨rfl, hbad⟩ | ⟨rfl, s2, hs2, h6, hC2⟩⟩ := h38
        ·
          refine z_istore hR dRE_reads_41 (n := 43) rfl (by decide) rfl ?_
          refine z_iload hR dRE_reads_43 (n := 45) rfl rfl ?_
          refine z_if_ne hR dRE_reads_45 (t := 50) (n := 48) rfl rfl (fun h45 => absurd h45 (fun q => q rfl)) (fun _ => ?_)
          refine z_iconst hR dRE_reads_48 (v := 0) (n := 49) rfl rfl ?_
          refine z_zret hR dRE_reads_49 rfl rfl (Nat.zero_le _) ?_
          exact ⟨hf.tr hf2, Or.inl ⟨rfl, nogo m i _ he hbad⟩⟩
        refine z_istore hR dRE_reads_41 (n := 43) rfl (by decide) rfl ?_
        refine z_iload hR dRE_reads_43 (n := 45) rfl rfl ?_
        refine z_if_ne hR dRE_reads_45 (t := 50) (n := 48) rfl rfl (fun _ => ?_) (fun h45 => absurd h45 (by decide))
        exact mid s2 s38 hs2 h6 hC2 (hf.tr hf2)
  refine z_aload_n hR dRE_reads_0 (n := 1) rfl rfl ?_
  refine z_callV0 hR dRE_reads_1 (n := 4) rfl zcRE_28 zkRE_startAnew (by decide) (Nat.le_of_ble_eq_true rfl) (by decide) rfl rfl (Nat.zero_le _) (m_RE_start σ) (fun r1 s1 h1 => ?_)
  obtain ⟨rfl, hf, hC⟩ := h1
  refine z_iconst hR dRE_reads_4 (v := 0) (n := 5) rfl rfl ?_
  refine z_istore_n hR dRE_reads_5 (n := 6) rfl (by decide) rfl ?_
  exact key n 0 _ _ _ (by omega) (aI_0 T) (by simp) hC (hf.mo (by decide)) rfl
