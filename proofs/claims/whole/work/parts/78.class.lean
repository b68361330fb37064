/-! The class's answers about all paths -/
abbrev upL : List Nat := [0, 11, 17, 18, 19, 20, 21, 22, 23, 24, 25, 26, 27, 28, 29, 30, 31, 32, 33]
/-- what is kept is right -/
def cC (σ : zS) (z T : Nat) : Prop := sD σ z T ∧ (σ.1 11 4 = -1 ∨ ∃ s2, s2 < 6 ∧ σ.1 11 4 = nI s2 ∧ seR (cB σ z) σ s2)
theorem m_SE_forget (σ : zS) : zM ySE_forget cSE_forget 1 none 0 0 0 [.ref 11] σ (fun r σ2 => r = none ∧ σ2 = zwA σ 11 4 (-1)) (fun _ _ => False) := by
  refine zM.of [some (.ref 11)] (by decide) 0 rfl (fun _ => Nat.le_of_ble_eq_true rfl) (fun Z hR => ?_)
  refine z_aload_n hR dSE_forget_0 (n := 1) rfl rfl ?_
  refine z_iconst hR dSE_forget_1 (v := (-1)) (n := 2) rfl rfl ?_
  refine z_putI hR dSE_forget_2 (n := 5) rfl zpSE_36 (by decide) rfl rfl ?_
  refine z_vret hR dSE_forget_5 rfl (Nat.zero_le _) ?_
  exact ⟨rfl, rfl⟩
theorem m_PC_up {z T : Nat} (σ : zS) (hM : fM σ z T) (hu : σ.1 0 10 = 0 ∨ (σ.1 0 10 = 1 ∧ cC σ z T)) : zM yPC_bringUpToDate cPC_bringUpToDate 1 none 5 160 0 [.ref 0] σ (fun r σ2 => r = none ∧ zfr upL σ σ2 ∧ (∀ j, j ≠ 10 → σ2.1 0 j = σ.1 0 j) ∧ σ2.1 0 10 = 1 ∧ cC σ2 z T) (fun _ _ => False) := by
  refine zM.of [some (.ref 0)] (by decide) 0 rfl (fun _ => Nat.le_of_ble_eq_true rfl) (fun Z hR => ?_)
  rcases hu.symm with ⟨h10, hc⟩ | h10
  ·
    refine z_aload_n hR dPC_bringUpToDate_0 (n := 1) rfl rfl ?_
    refine z_getI hR dPC_bringUpToDate_1 (n := 4) rfl zgPC_90 (by decide) rfl rfl ?_
    rw [h10]
    refine z_if_ne hR dPC_bringUpToDate_4 (t := 40) (n := 7) rfl rfl (fun _ => ?_) (fun h4 => absurd h4 (by decide))
    refine z_vret hR dPC_bringUpToDate_40 rfl (Nat.zero_le _) ?_
    exact ⟨rfl, zfr.rf, fun _ _ => rfl, h10, hc⟩
  have hT5 : T ≤ 5 := by
    have := hM.2.2.1
    have := hM.2.2.2.2.2.1
    omega
  refine z_aload_n hR dPC_bringUpToDate_0 (n := 1) rfl rfl ?_
  refine z_getI hR dPC_bringUpToDate_1 (n := 4) rfl zgPC_90 (by decide) rfl rfl ?_
  rw [h10]
  refine z_if_ne hR dPC_bringUpToDate_4 (t := 40) (n := 7) rfl rfl (fun h4 => absurd h4 (fun q => q rfl)) (fun _ => ?_)
  refine z_aload_n hR dPC_bringUpToDate_7 (n := 8) rfl rfl ?_
  refine z_getR hR dPC_bringUpToDate_8 (n := 11) rfl zgPC_54 (by decide) rfl rfl ?_
  refine z_callV0 hR dPC_bringUpToDate_11 (n := 14) rfl zcPC_164 zkGR_build (by decide) (Nat.le_of_ble_eq_true rfl) (by decide) rfl rfl (Nat.zero_le _) (m_GR_build σ hM) (fun r11 s11 h11 => ?_)
  obtain ⟨rfl, bf, b1, b2, b3⟩ := h11
  have hgD : gD (σ.1 35) (σ.1 36) z T (σ.1 43) (jn σ) (s11.1 31) (s11.1 32) (s11.1 33) := gD_of hM.2.2.1 hM.2.2.2 b3
  have hgP : gP s11 T := by
    unfold gP
    rw [jn_fr bf (by decide)]
    exact hgD.1
  refine z_aload_n hR dPC_bringUpToDate_14 (n := 15) rfl rfl ?_
  refine z_getR hR dPC_bringUpToDate_15 (n := 18) rfl zgPC_47 (by decide) rfl rfl ?_
  refine z_callV0 hR dPC_bringUpToDate_18 (n := 21) rfl zcPC_167 zkKN_find (by decide) (Nat.le_of_ble_eq_true rfl) (by decide) rfl rfl (Nat.zero_le _) (m_KN_find hT5 s11 (by rw [bf.1 34 (by decide)]; exact hM.2.1) b2 hgP) (fun r18 s18 h18 => ?_)
  obtain ⟨rfl, kf, k1⟩ := h18
  have ej : jn s18 = jn s11 := jn_fr kf (by decide)
  have e31 : s18.1 31 = s11.1 31 := kf.1 31 (by decide)
  have e33 : s18.1 33 = s11.1 33 := kf.1 33 (by decide)
  have hcm := m_NE_measure hT5 s18 (by rw [kf.1 28 (by decide)]; exact b2) (gP_fr kf (by decide) (by decide) hgP) (by
    intro s hs g hg
    unfold cK cE cG
    rw [ej, e31, e33]
    exact k1 s hs g hg)
  refine z_aload_n hR dPC_bringUpToDate_21 (n := 22) rfl rfl ?_
  refine z_getR hR dPC_bringUpToDate_22 (n := 25) rfl zgPC_40 (by decide) rfl rfl ?_
  refine z_callV0 hR dPC_bringUpToDate_25 (n := 28) rfl zcPC_170 zkNE_measure (by decide) (Nat.le_of_ble_eq_true rfl) (by decide) rfl rfl (Nat.zero_le _) hcm (fun r25 s25 h25 => ?_)
  obtain ⟨rfl, mf, m1⟩ := h25
  refine z_aload_n hR dPC_bringUpToDate_28 (n := 29) rfl rfl ?_
  refine z_getR hR dPC_bringUpToDate_29 (n := 32) rfl zgPC_32 (by decide) rfl rfl ?_
  refine z_callV0 hR dPC_bringUpToDate_32 (n := 35) rfl zcPC_173 zkSE_forget (by decide) (Nat.le_of_ble_eq_true rfl) (by decide) rfl rfl (Nat.zero_le _) (m_SE_forget s25) (fun r32 s32 h32 => ?_)
  obtain ⟨rfl, e32⟩ := h32
  subst s32
  refine z_aload_n hR dPC_bringUpToDate_35 (n := 36) rfl rfl ?_
  refine z_iconst hR dPC_bringUpToDate_36 (v := 1) (n := 37) rfl rfl ?_
  refine z_putZ hR dPC_bringUpToDate_37 (n := 40) rfl zpPC_90 (by decide) rfl rfl (by first | exact Or.inl rfl | exact Or.inr rfl | assumption) ?_
  refine z_vret hR dPC_bringUpToDate_40 rfl (Nat.zero_le _) ?_
  have hf : zfr upL σ (zwA (zwA s25 11 4 (-1)) 0 10 1) := (((((bf.mo (by decide)).tr (kf.mo (by decide))).tr (mf.mo (by decide))).wA _ (by decide)).wA _ (by decide))
  have e0 : s25.1 0 = σ.1 0 := by rw [mf.1 0 (by decide), kf.1 0 (by decide), bf.1 0 (by decide)]
  have g : ∀ o, o ≠ 0 → o ≠ 11 → (zwA (zwA s25 11 4 (-1)) 0 10 1).1 o = s25.1 o := fun o h1 h2 => by rw [zwA_n _ _ _ _ h1, zwA_n _ _ _ _ h2]
  have g31 : s25.1 31 = s11.1 31 := by rw [mf.1 31 (by decide), e31]
  have g32 : s25.1 32 = s11.1 32 := by rw [mf.1 32 (by decide), kf.1 32 (by decide)]
  have g33 : s25.1 33 = s11.1 33 := by rw [mf.1 33 (by decide), e33]
  have g28 : s25.1 28 = s11.1 28 := by rw [mf.1 28 (by decide), kf.1 28 (by decide)]
  have gj : jn (zwA (zwA s25 11 4 (-1)) 0 10 1) = jn σ := jn_fr hf (by decide)
  refine ⟨rfl, hf, fun j hj => by rw [zwA_sn _ _ _ _ hj, zwA_n _ _ _ _ (by decide), e0], by rw [zwA_ss], ⟨fM_fr hf (by decide) hM, ?_, ?_, ?_⟩, Or.inl (by rw [zwA_n _ _ _ _ (by decide), zwA_ss])⟩
  · rw [g 28 (by decide) (by decide), g28]
    exact b2
  · rw [gj, hf.1 35 (by decide), hf.1 36 (by decide), hf.1 43 (by decide), g 31 (by decide) (by decide), g 32 (by decide) (by decide), g 33 (by decide) (by decide), g31, g32, g33]
    exact hgD
  · unfold nD cE cG at m1 ⊢
    rw [gj, g 17 (by decide) (by decide), g 18 (by decide) (by decide), g 31 (by decide) (by decide), g 33 (by decide) (by decide), g31, g33]
    rw [ej, e31, e33, jn_fr bf (by decide)] at m1
    exact m1
/-- some path from a state keeps the formula, or breaks it -/
def pS (σ : zS) (b : Bool) (q : Nat) : Prop := ∃ g, g < 32 ∧ tb (σ.1 18 q) g = true ∧ tb (σ.1 32 q) g = b
theorem m_PC_kp0 (s : Int32) (σ : zS) (hn : σ.1 34 1 = nI 0) : zM yPC_keeps cPC_keeps 2 (some .boolean) 6 190 1 [.ref 0, .int s] σ (fun _ _ => False) (fun x σ2 => x = 2 ∧ σ2 = σ) := by
  refine zM.of [some (.ref 0), some (.int s)] (by decide) 0 rfl (fun _ => Nat.le_of_ble_eq_true rfl) (fun Z hR => ?_)
  refine z_aload_n hR dPC_keeps_0 (n := 1) rfl rfl ?_
  refine z_getR hR dPC_keeps_1 (n := 4) rfl zgPC_61 (by decide) rfl rfl ?_
  refine z_callV0 hR dPC_keeps_4 (n := 7) rfl zcPC_95 zkNF_isMissing (by decide) (Nat.le_of_ble_eq_true rfl) (by decide) rfl rfl (Nat.zero_le _) (m_NF_isM σ hn (by omega)) (fun r4 s4 h4 => ?_)
  obtain ⟨rfl, e4⟩ := h4
  subst s4
  refine z_if_eqB hR dPC_keeps_7 (t := 18) (n := 10) rfl rfl (fun h7 => absurd h7 (by simp)) (fun h7 => ?_)
  refine z_throw hR dPC_keeps_10 dPC_keeps_13 dPC_keeps_14 dPC_keeps_17 ztPC_99 (by decide) (by decide) (by decide) ?_
  exact ⟨rfl, rfl⟩
theorem m_PC_kp1 {z T : Nat} {s : Int32} (h : zNo s) (σ : zS) (hM : fM σ z T) : zM yPC_keeps cPC_keeps 2 (some .boolean) 6 190 1 [.ref 0, .int s] σ (fun _ _ => False) (fun x σ2 => x = 3 ∧ σ2 = σ) := by
  refine zM.of [some (.ref 0), some (.int s)] (by decide) 0 rfl (fun _ => Nat.le_of_ble_eq_true rfl) (fun Z hR => ?_)
  have hz0 := hM.2.2.2.1
  have hz7 := hM.2.2.2.2.1
  refine z_aload_n hR dPC_keeps_0 (n := 1) rfl rfl ?_
  refine z_getR hR dPC_keeps_1 (n := 4) rfl zgPC_61 (by decide) rfl rfl ?_
  refine z_callV0 hR dPC_keeps_4 (n := 7) rfl zcPC_95 zkNF_isMissing (by decide) (Nat.le_of_ble_eq_true rfl) (by decide) rfl rfl (Nat.zero_le _) (m_NF_isM σ hM.1 (by omega)) (fun r4 s4 h4 => ?_)
  obtain ⟨rfl, e4⟩ := h4
  subst s4
  refine z_if_eqB hR dPC_keeps_7 (t := 18) (n := 10) rfl rfl (fun h7 => ?_) (fun h7 => absurd h7 (by simp; omega))
  refine z_iload_n hR dPC_keeps_18 (n := 19) rfl rfl ?_
  refine z_callS1 hR dPC_keeps_19 (n := 22) rfl zcPC_108 zkPC_isState (by decide) (Nat.le_of_ble_eq_true rfl) (Nat.zero_le _) (m_PC_isN h σ) (fun r19 s19 h19 => ?_)
  obtain ⟨rfl, e19⟩ := h19
  subst s19
  refine z_if_ne hR dPC_keeps_22 (t := 33) (n := 25) rfl rfl (fun h22 => absurd h22 (fun w => w rfl)) (fun _ => ?_)
  refine z_throw hR dPC_keeps_25 dPC_keeps_28 dPC_keeps_29 dPC_keeps_32 ztPC_129 (by decide) (by decide) (by decide) ?_
  exact ⟨rfl, rfl⟩
theorem m_PC_kp2 {z T s : Nat} (hs : s < 6) (σ : zS) (hM : fM σ z T) (hu : σ.1 0 10 = 0 ∨ (σ.1 0 10 = 1 ∧ cC σ z T)) : zM yPC_keeps cPC_keeps 2 (some .boolean) 6 190 1 [.ref 0, .int (nI s)] σ (fun r σ2 => zfr upL σ σ2 ∧ (∀ j, j ≠ 10 → σ2.1 0 j = σ.1 0 j) ∧ σ2.1 0 10 = 1 ∧ cC σ2 z T ∧ ∃ p : Bool, r = some (.int (zb p)) ∧ (p = false ↔ pS σ2 false s)) (fun _ _ => False) := by
  refine zM.of [some (.ref 0), some (.int (nI s))] (by decide) 0 rfl (fun _ => Nat.le_of_ble_eq_true rfl) (fun Z hR => ?_)
  have hz0 := hM.2.2.2.1
  have hz7 := hM.2.2.2.2.1
  refine z_aload_n hR dPC_keeps_0 (n := 1) rfl rfl ?_
  refine z_getR hR dPC_keeps_1 (n := 4) rfl zgPC_61 (by decide) rfl rfl ?_
  refine z_callV0 hR dPC_keeps_4 (n := 7) rfl zcPC_95 zkNF_isMissing (by decide) (Nat.le_of_ble_eq_true rfl) (by decide) rfl rfl (Nat.zero_le _) (m_NF_isM σ hM.1 (by omega)) (fun r4 s4 h4 => ?_)
  obtain ⟨rfl, e4⟩ := h4
  subst s4
  refine z_if_eqB hR dPC_keeps_7 (t := 18) (n := 10) rfl rfl (fun h7 => ?_) (fun h7 => absurd h7 (by simp; omega))
  refine z_iload_n hR dPC_keeps_18 (n := 19) rfl rfl ?_
  refine z_callS1 hR dPC_keeps_19 (n := 22) rfl zcPC_108 zkPC_isState (by decide) (Nat.le_of_ble_eq_true rfl) (Nat.zero_le _) (m_PC_isS hs σ) (fun r19 s19 h19 => ?_)
  obtain ⟨rfl, e19⟩ := h19
  subst s19
  refine z_if_ne hR dPC_keeps_22 (t := 33) (n := 25) rfl rfl (fun _ => ?_) (fun h22 => absurd h22 (by decide))
  refine z_aload_n hR dPC_keeps_33 (n := 34) rfl rfl ?_
  refine z_callV0 hR dPC_keeps_34 (n := 37) rfl zcPC_132 zkPC_bringUpToDate (by decide) (Nat.le_of_ble_eq_true rfl) (by decide) rfl rfl (Nat.zero_le _) (m_PC_up σ hM hu) (fun r34 s34 h34 => ?_)
  obtain ⟨rfl, uf, u1, u2, u3⟩ := h34
  refine z_aload_n hR dPC_keeps_37 (n := 38) rfl rfl ?_
  refine z_getR hR dPC_keeps_38 (n := 41) rfl zgPC_40 (by decide) rfl rfl ?_
  refine z_iconst hR dPC_keeps_41 (v := 0) (n := 42) rfl rfl ?_
  refine z_callV1 hR dPC_keeps_42 (n := 45) rfl zcPC_135 zkNE_statesWithPath (by decide) (Nat.le_of_ble_eq_true rfl) (by decide) rfl rfl (Nat.zero_le _) (m_NE_states false s34) (fun r42 s42 h42 => ?_)
  obtain ⟨e42, y, rfl, hy⟩ := h42
  subst s42
  refine z_iload_n hR dPC_keeps_45 (n := 46) rfl rfl ?_
  refine z_iushr hR dPC_keeps_46 (n := 47) rfl ?_
  refine z_iconst hR dPC_keeps_47 (v := 1) (n := 48) rfl rfl ?_
  refine z_iand hR dPC_keeps_48 (n := 49) rfl ?_
  rw [tb_us1 _ (by omega : s < 32)]
  refine z_if_neB hR dPC_keeps_49 (t := 56) (n := 52) rfl rfl (fun h49 => ?_) (fun h49 => ?_)
  · refine z_iconst hR dPC_keeps_56 (v := 0) (n := 57) rfl rfl ?_
    refine z_zret hR dPC_keeps_57 rfl rfl (Nat.zero_le _) ?_
    first
      | exact ⟨uf, u1, u2, u3, false, rfl, ⟨fun _ => ((hy s (by omega)).mp h49).2, fun _ => rfl⟩⟩
      | exact ⟨uf, u1, u2, u3, true, rfl, ⟨fun w => absurd w (by decide), fun w => by rw [(hy s (by omega)).mpr ⟨hs, w⟩] at h49; exact absurd h49 (by decide)⟩⟩
  · refine z_iconst hR dPC_keeps_52 (v := 1) (n := 53) rfl rfl ?_
    refine z_goto hR dPC_keeps_53 (t := 57) rfl ?_
    refine z_zret hR dPC_keeps_57 rfl rfl (Nat.zero_le _) ?_
    first
      | exact ⟨uf, u1, u2, u3, false, rfl, ⟨fun _ => ((hy s (by omega)).mp h49).2, fun _ => rfl⟩⟩
      | exact ⟨uf, u1, u2, u3, true, rfl, ⟨fun w => absurd w (by decide), fun w => by rw [(hy s (by omega)).mpr ⟨hs, w⟩] at h49; exact absurd h49 (by decide)⟩⟩
theorem m_PC_br0 (σ : zS) (hn : σ.1 34 1 = nI 0) : zM yPC_breaking cPC_breaking 1 (some .int) 6 190 1 [.ref 0] σ (fun _ _ => False) (fun x σ2 => x = 2 ∧ σ2 = σ) := by
  refine zM.of [some (.ref 0)] (by decide) 0 rfl (fun _ => Nat.le_of_ble_eq_true rfl) (fun Z hR => ?_)
  refine z_aload_n hR dPC_breaking_0 (n := 1) rfl rfl ?_
  refine z_getR hR dPC_breaking_1 (n := 4) rfl zgPC_61 (by decide) rfl rfl ?_
  refine z_callV0 hR dPC_breaking_4 (n := 7) rfl zcPC_95 zkNF_isMissing (by decide) (Nat.le_of_ble_eq_true rfl) (by decide) rfl rfl (Nat.zero_le _) (m_NF_isM σ hn (by omega)) (fun r4 s4 h4 => ?_)
  obtain ⟨rfl, e4⟩ := h4
  subst s4
  refine z_if_eqB hR dPC_breaking_7 (t := 18) (n := 10) rfl rfl (fun h7 => absurd h7 (by simp)) (fun h7 => ?_)
  refine z_throw hR dPC_breaking_10 dPC_breaking_13 dPC_breaking_14 dPC_breaking_17 ztPC_99 (by decide) (by decide) (by decide) ?_
  exact ⟨rfl, rfl⟩
theorem m_PC_ke0 (σ : zS) (hn : σ.1 34 1 = nI 0) : zM yPC_keeping cPC_keeping 1 (some .int) 6 190 1 [.ref 0] σ (fun _ _ => False) (fun x σ2 => x = 2 ∧ σ2 = σ) := by
  refine zM.of [some (.ref 0)] (by decide) 0 rfl (fun _ => Nat.le_of_ble_eq_true rfl) (fun Z hR => ?_)
  refine z_aload_n hR dPC_keeping_0 (n := 1) rfl rfl ?_
  refine z_getR hR dPC_keeping_1 (n := 4) rfl zgPC_61 (by decide) rfl rfl ?_
  refine z_callV0 hR dPC_keeping_4 (n := 7) rfl zcPC_95 zkNF_isMissing (by decide) (Nat.le_of_ble_eq_true rfl) (by decide) rfl rfl (Nat.zero_le _) (m_NF_isM σ hn (by omega)) (fun r4 s4 h4 => ?_)
  obtain ⟨rfl, e4⟩ := h4
  subst s4
  refine z_if_eqB hR dPC_keeping_7 (t := 18) (n := 10) rfl rfl (fun h7 => absurd h7 (by simp)) (fun h7 => ?_)
  refine z_throw hR dPC_keeping_10 dPC_keeping_13 dPC_keeping_14 dPC_keeping_17 ztPC_99 (by decide) (by decide) (by decide) ?_
  exact ⟨rfl, rfl⟩
theorem m_PC_br2 {z T : Nat} (σ : zS) (hM : fM σ z T) (hu : σ.1 0 10 = 0 ∨ (σ.1 0 10 = 1 ∧ cC σ z T)) : zM yPC_breaking cPC_breaking 1 (some .int) 6 190 1 [.ref 0] σ (fun r σ2 => zfr upL σ σ2 ∧ (∀ j, j ≠ 10 → σ2.1 0 j = σ.1 0 j) ∧ σ2.1 0 10 = 1 ∧ cC σ2 z T ∧ ∃ y, r = some (.int y) ∧ ∀ q, q < 32 → (tb y q = true ↔ (q < 6 ∧ pS σ2 false q))) (fun _ _ => False) := by
  refine zM.of [some (.ref 0)] (by decide) 0 rfl (fun _ => Nat.le_of_ble_eq_true rfl) (fun Z hR => ?_)
  have hz0 := hM.2.2.2.1
  have hz7 := hM.2.2.2.2.1
  refine z_aload_n hR dPC_breaking_0 (n := 1) rfl rfl ?_
  refine z_getR hR dPC_breaking_1 (n := 4) rfl zgPC_61 (by decide) rfl rfl ?_
  refine z_callV0 hR dPC_breaking_4 (n := 7) rfl zcPC_95 zkNF_isMissing (by decide) (Nat.le_of_ble_eq_true rfl) (by decide) rfl rfl (Nat.zero_le _) (m_NF_isM σ hM.1 (by omega)) (fun r4 s4 h4 => ?_)
  obtain ⟨rfl, e4⟩ := h4
  subst s4
  refine z_if_eqB hR dPC_breaking_7 (t := 18) (n := 10) rfl rfl (fun h7 => ?_) (fun h7 => absurd h7 (by simp; omega))
  refine z_aload_n hR dPC_breaking_18 (n := 19) rfl rfl ?_
  refine z_callV0 hR dPC_breaking_19 (n := 22) rfl zcPC_132 zkPC_bringUpToDate (by decide) (Nat.le_of_ble_eq_true rfl) (by decide) rfl rfl (Nat.zero_le _) (m_PC_up σ hM hu) (fun r19 s19 h19 => ?_)
  obtain ⟨rfl, uf, u1, u2, u3⟩ := h19
  refine z_aload_n hR dPC_breaking_22 (n := 23) rfl rfl ?_
  refine z_getR hR dPC_breaking_23 (n := 26) rfl zgPC_40 (by decide) rfl rfl ?_
  refine z_iconst hR dPC_breaking_26 (v := 0) (n := 27) rfl rfl ?_
  refine z_callV1 hR dPC_breaking_27 (n := 30) rfl zcPC_135 zkNE_statesWithPath (by decide) (Nat.le_of_ble_eq_true rfl) (by decide) rfl rfl (Nat.zero_le _) (m_NE_states false s19) (fun r27 s27 h27 => ?_)
  obtain ⟨e27, y, rfl, hy⟩ := h27
  subst s27
  refine z_zret hR dPC_breaking_30 rfl rfl (Nat.zero_le _) ?_
  exact ⟨uf, u1, u2, u3, y, rfl, hy⟩
theorem m_PC_ke2 {z T : Nat} (σ : zS) (hM : fM σ z T) (hu : σ.1 0 10 = 0 ∨ (σ.1 0 10 = 1 ∧ cC σ z T)) : zM yPC_keeping cPC_keeping 1 (some .int) 6 190 1 [.ref 0] σ (fun r σ2 => zfr upL σ σ2 ∧ (∀ j, j ≠ 10 → σ2.1 0 j = σ.1 0 j) ∧ σ2.1 0 10 = 1 ∧ cC σ2 z T ∧ ∃ y, r = some (.int y) ∧ ∀ q, q < 32 → (tb y q = true ↔ (q < 6 ∧ pS σ2 true q))) (fun _ _ => False) := by
  refine zM.of [some (.ref 0)] (by decide) 0 rfl (fun _ => Nat.le_of_ble_eq_true rfl) (fun Z hR => ?_)
  have hz0 := hM.2.2.2.1
  have hz7 := hM.2.2.2.2.1
  refine z_aload_n hR dPC_keeping_0 (n := 1) rfl rfl ?_
  refine z_getR hR dPC_keeping_1 (n := 4) rfl zgPC_61 (by decide) rfl rfl ?_
  refine z_callV0 hR dPC_keeping_4 (n := 7) rfl zcPC_95 zkNF_isMissing (by decide) (Nat.le_of_ble_eq_true rfl) (by decide) rfl rfl (Nat.zero_le _) (m_NF_isM σ hM.1 (by omega)) (fun r4 s4 h4 => ?_)
  obtain ⟨rfl, e4⟩ := h4
  subst s4
  refine z_if_eqB hR dPC_keeping_7 (t := 18) (n := 10) rfl rfl (fun h7 => ?_) (fun h7 => absurd h7 (by simp; omega))
  refine z_aload_n hR dPC_keeping_18 (n := 19) rfl rfl ?_
  refine z_callV0 hR dPC_keeping_19 (n := 22) rfl zcPC_132 zkPC_bringUpToDate (by decide) (Nat.le_of_ble_eq_true rfl) (by decide) rfl rfl (Nat.zero_le _) (m_PC_up σ hM hu) (fun r19 s19 h19 => ?_)
  obtain ⟨rfl, uf, u1, u2, u3⟩ := h19
  refine z_aload_n hR dPC_keeping_22 (n := 23) rfl rfl ?_
  refine z_getR hR dPC_keeping_23 (n := 26) rfl zgPC_40 (by decide) rfl rfl ?_
  refine z_iconst hR dPC_keeping_26 (v := 1) (n := 27) rfl rfl ?_
  refine z_callV1 hR dPC_keeping_27 (n := 30) rfl zcPC_135 zkNE_statesWithPath (by decide) (Nat.le_of_ble_eq_true rfl) (by decide) rfl rfl (Nat.zero_le _) (m_NE_states true s19) (fun r27 s27 h27 => ?_)
  obtain ⟨e27, y, rfl, hy⟩ := h27
  subst s27
  refine z_zret hR dPC_keeping_30 rfl rfl (Nat.zero_le _) ?_
  exact ⟨uf, u1, u2, u3, y, rfl, hy⟩
/-- what is asked of the first breaking lasso -/
def wit (B : Nat → (Nat → Nat) → Nat → Prop) (s : Nat) (kk x : Int32) : Prop := (x = -1 ∧ ∀ k, 1 ≤ k → k ≤ 6 → nob B s k) ∨ ∃ (k : Nat) (r : Nat → Nat) (j : Nat), fnd B s k r j ∧ (kk = -1 → x = nI k) ∧ (kk = -2 → x = nI j) ∧ (∀ i, i < k → kk = nI i → x = nI (r i)) ∧ (kk ≠ -1 → kk ≠ -2 → (∀ i : Nat, i < k → kk ≠ nI i) → x = -1)
theorem wit_un {B : Nat → (Nat → Nat) → Nat → Prop} (hB : ∀ k r q j, j < k → (∀ i, i < k → r i = q i) → B k r j → B k q j) {s : Nat} {kk x y : Int32} (h : wit B s kk x) (h2 : wit B s kk y) : x = y := by
  rcases h with ⟨a1, a2⟩ | ⟨k, r, j, a1, a2, a3, a4, a5⟩ <;> rcases h2 with ⟨b1, b2⟩ | ⟨k2, r2, j2, b1, b2, b3, b4, b5⟩
  · rw [a1, b1]
  · exact absurd (a2 k2 b1.1 b1.2.1) (fnd_no b1)
  · exact absurd (b2 k a1.1 a1.2.1) (fnd_no a1)
  · obtain ⟨e1, e2, e3⟩ := fnd_un hB a1 b1
    subst e1
    subst e3
    by_cases h1 : kk = -1
    · rw [a2 h1, b2 h1]
    by_cases h2 : kk = -2
    · rw [a3 h2, b3 h2]
    by_cases h3 : ∃ i : Nat, i < k ∧ kk = nI i
    · obtain ⟨i, i1, i2⟩ := h3
      rw [a4 i i1 i2, b4 i i1 i2, e2 i i1]
    · have h4 : ∀ i : Nat, i < k → kk ≠ nI i := fun i hi e => h3 ⟨i, hi, e⟩
      rw [a5 h1 h2 h4, b5 h1 h2 h4]
theorem m_PC_wi0 (s k : Int32) (σ : zS) (hn : σ.1 34 1 = nI 0) : zM yPC_witness cPC_witness 3 (some .int) 12 400 1 [.ref 0, .int s, .int k] σ (fun _ _ => False) (fun x σ2 => x = 2 ∧ σ2 = σ) := by
  refine zM.of [some (.ref 0), some (.int s), some (.int k)] (by decide) 0 rfl (fun _ => Nat.le_of_ble_eq_true rfl) (fun Z hR => ?_)
  refine z_aload_n hR dPC_witness_0 (n := 1) rfl rfl ?_
  refine z_getR hR dPC_witness_1 (n := 4) rfl zgPC_61 (by decide) rfl rfl ?_
  refine z_callV0 hR dPC_witness_4 (n := 7) rfl zcPC_95 zkNF_isMissing (by decide) (Nat.le_of_ble_eq_true rfl) (by decide) rfl rfl (Nat.zero_le _) (m_NF_isM σ hn (by omega)) (fun r4 s4 h4 => ?_)
  obtain ⟨rfl, e4⟩ := h4
  subst s4
  refine z_if_eqB hR dPC_witness_7 (t := 18) (n := 10) rfl rfl (fun h7 => absurd h7 (by simp)) (fun h7 => ?_)
  refine z_throw hR dPC_witness_10 dPC_witness_13 dPC_witness_14 dPC_witness_17 ztPC_99 (by decide) (by decide) (by decide) ?_
  exact ⟨rfl, rfl⟩
theorem m_PC_wi1 {z T : Nat} {s : Int32} (h : zNo s) (k : Int32) (σ : zS) (hM : fM σ z T) : zM yPC_witness cPC_witness 3 (some .int) 12 400 1 [.ref 0, .int s, .int k] σ (fun r σ2 => r = some (.int (-1)) ∧ σ2 = σ) (fun _ _ => False) := by
  refine zM.of [some (.ref 0), some (.int s), some (.int k)] (by decide) 0 rfl (fun _ => Nat.le_of_ble_eq_true rfl) (fun Z hR => ?_)
  have hz0 := hM.2.2.2.1
  have hz7 := hM.2.2.2.2.1
  refine z_aload_n hR dPC_witness_0 (n := 1) rfl rfl ?_
  refine z_getR hR dPC_witness_1 (n := 4) rfl zgPC_61 (by decide) rfl rfl ?_
  refine z_callV0 hR dPC_witness_4 (n := 7) rfl zcPC_95 zkNF_isMissing (by decide) (Nat.le_of_ble_eq_true rfl) (by decide) rfl rfl (Nat.zero_le _) (m_NF_isM σ hM.1 (by omega)) (fun r4 s4 h4 => ?_)
  obtain ⟨rfl, e4⟩ := h4
  subst s4
  refine z_if_eqB hR dPC_witness_7 (t := 18) (n := 10) rfl rfl (fun h7 => ?_) (fun h7 => absurd h7 (by simp; omega))
  refine z_iload_n hR dPC_witness_18 (n := 19) rfl rfl ?_
  refine z_callS1 hR dPC_witness_19 (n := 22) rfl zcPC_108 zkPC_isState (by decide) (Nat.le_of_ble_eq_true rfl) (Nat.zero_le _) (m_PC_isN h σ) (fun r19 s19 h19 => ?_)
  obtain ⟨rfl, e19⟩ := h19
  subst s19
  refine z_if_ne hR dPC_witness_22 (t := 27) (n := 25) rfl rfl (fun h22 => absurd h22 (fun w => w rfl)) (fun _ => ?_)
  refine z_iconst hR dPC_witness_25 (v := (-1)) (n := 26) rfl rfl ?_
  refine z_zret hR dPC_witness_26 rfl rfl (Nat.zero_le _) ?_
  exact ⟨rfl, rfl⟩
abbrev wiL : List Nat := [0, 11, 12, 13, 14, 15, 17, 18, 19, 20, 21, 22, 23, 24, 25, 26, 27, 28, 29, 30, 31, 32, 33]
theorem m_PC_wi2 {z T s : Nat} (hs : s < 6) (k : Int32) (σ : zS) (hM : fM σ z T) (hT : tmP (σ.1 35) 0 z) (hC : nCf (σ.1 35) (σ.1 36) (σ.1 37) (σ.1 39) (σ.1 38) z 0) (hu : σ.1 0 10 = 0 ∨ (σ.1 0 10 = 1 ∧ cC σ z T)) : zM yPC_witness cPC_witness 3 (some .int) 12 400 1 [.ref 0, .int (nI s), .int k] σ (fun r σ2 => zfr wiL σ σ2 ∧ (∀ j, j ≠ 10 → σ2.1 0 j = σ.1 0 j) ∧ σ2.1 0 10 = 1 ∧ cC σ2 z T ∧ ∃ x, r = some (.int x) ∧ wit (cB σ2 z) s k x) (fun _ _ => False) := by
  refine zM.of [some (.ref 0), some (.int (nI s)), some (.int k)] (by decide) 0 rfl (fun _ => Nat.le_of_ble_eq_true rfl) (fun Z hR => ?_)
  have hz0 := hM.2.2.2.1
  have hz7 := hM.2.2.2.2.1
  refine z_aload_n hR dPC_witness_0 (n := 1) rfl rfl ?_
  refine z_getR hR dPC_witness_1 (n := 4) rfl zgPC_61 (by decide) rfl rfl ?_
  refine z_callV0 hR dPC_witness_4 (n := 7) rfl zcPC_95 zkNF_isMissing (by decide) (Nat.le_of_ble_eq_true rfl) (by decide) rfl rfl (Nat.zero_le _) (m_NF_isM σ hM.1 (by omega)) (fun r4 s4 h4 => ?_)
  obtain ⟨rfl, e4⟩ := h4
  subst s4
  refine z_if_eqB hR dPC_witness_7 (t := 18) (n := 10) rfl rfl (fun h7 => ?_) (fun h7 => absurd h7 (by simp; omega))
  refine z_iload_n hR dPC_witness_18 (n := 19) rfl rfl ?_
  refine z_callS1 hR dPC_witness_19 (n := 22) rfl zcPC_108 zkPC_isState (by decide) (Nat.le_of_ble_eq_true rfl) (Nat.zero_le _) (m_PC_isS hs σ) (fun r19 s19 h19 => ?_)
  obtain ⟨rfl, e19⟩ := h19
  subst s19
  refine z_if_ne hR dPC_witness_22 (t := 27) (n := 25) rfl rfl (fun _ => ?_) (fun h22 => absurd h22 (by decide))
  refine z_aload_n hR dPC_witness_27 (n := 28) rfl rfl ?_
  refine z_callV0 hR dPC_witness_28 (n := 31) rfl zcPC_132 zkPC_bringUpToDate (by decide) (Nat.le_of_ble_eq_true rfl) (by decide) rfl rfl (Nat.zero_le _) (m_PC_up σ hM hu) (fun r28 s28 h28 => ?_)
  obtain ⟨rfl, uf, u1, u2, u3, u4⟩ := h28
  refine z_aload_n hR dPC_witness_31 (n := 32) rfl rfl ?_
  refine z_getR hR dPC_witness_32 (n := 35) rfl zgPC_32 (by decide) rfl rfl ?_
  refine z_iload_n hR dPC_witness_35 (n := 36) rfl rfl ?_
  refine z_callV1 hR dPC_witness_36 (n := 39) rfl zcPC_138 zkSE_lookFrom (by decide) (Nat.le_of_ble_eq_true rfl) (by decide) rfl rfl (Nat.zero_le _) (m_SE_look hs s28 u3 (by rw [uf.1 35 (by decide)]; exact hT) (by rw [uf.1 35 (by decide), uf.1 36 (by decide), uf.1 37 (by decide), uf.1 39 (by decide), uf.1 38 (by decide)]; exact hC) u4) (fun r36 s36 h36 => ?_)
  obtain ⟨rfl, lf, l1, l2⟩ := h36
  have eB : cB s36 z = cB s28 z := cB_fr lf
  have hfin : ∀ x, wit (cB s28 z) s k x → zfr wiL σ s36 ∧ (∀ j, j ≠ 10 → s36.1 0 j = σ.1 0 j) ∧ s36.1 0 10 = 1 ∧ cC s36 z T ∧ ∃ x2, some (Value.int x) = some (.int x2) ∧ wit (cB s36 z) s k x2 := fun x hx => ⟨(uf.mo (by decide)).tr (lf.mo (by decide)), fun j hj => by rw [lf.1 0 (by decide)]; exact u1 j hj, by rw [lf.1 0 (by decide)]; exact u2, ⟨sD_fr lf u3, Or.inr ⟨s, hs, l1, by rw [eB]; exact l2⟩⟩, x, rfl, by rw [eB]; exact hx⟩
  rcases l2 with ⟨l5, l6⟩ | ⟨kk, r, j, l5, l6, l7, l8⟩
  ·
    refine z_aload_n hR dPC_witness_39 (n := 40) rfl rfl ?_
    refine z_getR hR dPC_witness_40 (n := 43) rfl zgPC_32 (by decide) rfl rfl ?_
    refine z_getI hR dPC_witness_43 (n := 46) rfl zgPC_141 (by decide) rfl rfl ?_
    rw [l5]
    refine z_iconst hR dPC_witness_46 (v := (-1)) (n := 47) rfl rfl ?_
    refine z_icmp_ne hR dPC_witness_47 (t := 52) (n := 50) rfl rfl (fun h47 => absurd h47 (fun q => q rfl)) (fun _ => ?_)
    refine z_iconst hR dPC_witness_50 (v := (-1)) (n := 51) rfl rfl ?_
    refine z_zret hR dPC_witness_51 rfl rfl (Nat.zero_le _) ?_
    exact hfin _ (Or.inl ⟨rfl, l6⟩)
  have hne : ¬ nI j = -1 := nI_m1 (by have := l8.2.2.2.1; have := l8.2.1; omega)
  have hk6 := l8.2.1
  by_cases k1 : k = -1
  ·
    refine z_aload_n hR dPC_witness_39 (n := 40) rfl rfl ?_
    refine z_getR hR dPC_witness_40 (n := 43) rfl zgPC_32 (by decide) rfl rfl ?_
    refine z_getI hR dPC_witness_43 (n := 46) rfl zgPC_141 (by decide) rfl rfl ?_
    rw [l5]
    refine z_iconst hR dPC_witness_46 (v := (-1)) (n := 47) rfl rfl ?_
    refine z_icmp_ne hR dPC_witness_47 (t := 52) (n := 50) rfl rfl (fun _ => ?_) (fun h47 => absurd h47 hne)
    refine z_iload_n hR dPC_witness_52 (n := 53) rfl rfl ?_
    refine z_iconst hR dPC_witness_53 (v := (-1)) (n := 54) rfl rfl ?_
    refine z_icmp_ne hR dPC_witness_54 (t := 68) (n := 57) rfl rfl (fun h54 => absurd h54 (fun q => q k1)) (fun _ => ?_)
    refine z_aload_n hR dPC_witness_57 (n := 58) rfl rfl ?_
    refine z_getR hR dPC_witness_58 (n := 61) rfl zgPC_32 (by decide) rfl rfl ?_
    refine z_getR hR dPC_witness_61 (n := 64) rfl zgPC_144 (by decide) rfl rfl ?_
    refine z_getI hR dPC_witness_64 (n := 67) rfl zgPC_147 (by decide) rfl rfl ?_
    rw [l6]
    refine z_zret hR dPC_witness_67 rfl rfl (Nat.zero_le _) ?_
    exact hfin _ (Or.inr ⟨kk, r, j, l8, fun _ => rfl, fun e => absurd (k1.symm.trans e) (by decide), fun i hi e => absurd (e.symm.trans k1) (nI_m1 (by omega)), fun e => absurd k1 e⟩)
  by_cases k2 : k = -2
  ·
    refine z_aload_n hR dPC_witness_39 (n := 40) rfl rfl ?_
    refine z_getR hR dPC_witness_40 (n := 43) rfl zgPC_32 (by decide) rfl rfl ?_
    refine z_getI hR dPC_witness_43 (n := 46) rfl zgPC_141 (by decide) rfl rfl ?_
    rw [l5]
    refine z_iconst hR dPC_witness_46 (v := (-1)) (n := 47) rfl rfl ?_
    refine z_icmp_ne hR dPC_witness_47 (t := 52) (n := 50) rfl rfl (fun _ => ?_) (fun h47 => absurd h47 hne)
    refine z_iload_n hR dPC_witness_52 (n := 53) rfl rfl ?_
    refine z_iconst hR dPC_witness_53 (v := (-1)) (n := 54) rfl rfl ?_
    refine z_icmp_ne hR dPC_witness_54 (t := 68) (n := 57) rfl rfl (fun _ => ?_) (fun h54 => absurd h54 k1)
    refine z_iload_n hR dPC_witness_68 (n := 69) rfl rfl ?_
    refine z_bipush hR dPC_witness_69 (v := (-2)) (n := 71) rfl rfl ?_
    refine z_icmp_ne hR dPC_witness_71 (t := 82) (n := 74) rfl rfl (fun h71 => absurd h71 (fun q => q k2)) (fun _ => ?_)
    refine z_aload_n hR dPC_witness_74 (n := 75) rfl rfl ?_
    refine z_getR hR dPC_witness_75 (n := 78) rfl zgPC_32 (by decide) rfl rfl ?_
    refine z_getI hR dPC_witness_78 (n := 81) rfl zgPC_141 (by decide) rfl rfl ?_
    rw [l5]
    refine z_zret hR dPC_witness_81 rfl rfl (Nat.zero_le _) ?_
    exact hfin _ (Or.inr ⟨kk, r, j, l8, fun e => absurd e k1, fun _ => rfl, fun i hi e => absurd (e.symm.trans k2) (fun q => nI_pos (show i < 2 ^ 31 by omega) (by rw [q]; decide)), fun _ e => absurd k2 e⟩)
  by_cases k3 : ∃ i : Nat, i < kk ∧ k = nI i
  ·
    obtain ⟨i, hi, ei⟩ := k3
    subst ei
    refine z_aload_n hR dPC_witness_39 (n := 40) rfl rfl ?_
    refine z_getR hR dPC_witness_40 (n := 43) rfl zgPC_32 (by decide) rfl rfl ?_
    refine z_getI hR dPC_witness_43 (n := 46) rfl zgPC_141 (by decide) rfl rfl ?_
    rw [l5]
    refine z_iconst hR dPC_witness_46 (v := (-1)) (n := 47) rfl rfl ?_
    refine z_icmp_ne hR dPC_witness_47 (t := 52) (n := 50) rfl rfl (fun _ => ?_) (fun h47 => absurd h47 hne)
    refine z_iload_n hR dPC_witness_52 (n := 53) rfl rfl ?_
    refine z_iconst hR dPC_witness_53 (v := (-1)) (n := 54) rfl rfl ?_
    refine z_icmp_ne hR dPC_witness_54 (t := 68) (n := 57) rfl rfl (fun _ => ?_) (fun h54 => absurd h54 k1)
    refine z_iload_n hR dPC_witness_68 (n := 69) rfl rfl ?_
    refine z_bipush hR dPC_witness_69 (v := (-2)) (n := 71) rfl rfl ?_
    refine z_icmp_ne hR dPC_witness_71 (t := 82) (n := 74) rfl rfl (fun _ => ?_) (fun h71 => absurd h71 k2)
    refine z_aload_n hR dPC_witness_82 (n := 83) rfl rfl ?_
    refine z_getR hR dPC_witness_83 (n := 86) rfl zgPC_32 (by decide) rfl rfl ?_
    refine z_getR hR dPC_witness_86 (n := 89) rfl zgPC_144 (by decide) rfl rfl ?_
    refine z_iload_n hR dPC_witness_89 (n := 90) rfl rfl ?_
    refine z_callV1 hR dPC_witness_90 (n := 93) rfl zcPC_150 zkPA_hasPlace (by decide) (Nat.le_of_ble_eq_true rfl) (by decide) rfl rfl (Nat.zero_le _) (m_PA_has13 hi (by omega) s36 l6) (fun r90 s90 h90 => ?_)
    obtain ⟨rfl, e90⟩ := h90
    subst s90
    refine z_if_eq hR dPC_witness_93 (t := 111) (n := 96) rfl rfl (fun h93 => absurd h93 (by decide)) (fun _ => ?_)
    refine z_aload_n hR dPC_witness_96 (n := 97) rfl rfl ?_
    refine z_getR hR dPC_witness_97 (n := 100) rfl zgPC_32 (by decide) rfl rfl ?_
    refine z_getR hR dPC_witness_100 (n := 103) rfl zgPC_144 (by decide) rfl rfl ?_
    refine z_getR hR dPC_witness_103 (n := 106) rfl zgPC_153 (by decide) rfl rfl ?_
    refine z_iload_n hR dPC_witness_106 (n := 107) rfl rfl ?_
    refine z_iald hR (_) dPC_witness_107 (n := 108) rfl (by decide) rfl (by decide) rfl (by omega) ?_
    rw [l7 i hi]
    refine z_goto hR dPC_witness_108 (t := 112) rfl ?_
    refine z_zret hR dPC_witness_112 rfl rfl (Nat.zero_le _) ?_
    exact hfin _ (Or.inr ⟨kk, r, j, l8, fun e => absurd e k1, fun e => absurd e k2, fun i2 h2 e => by rw [(nI_eq (by omega) (by omega)).mp e], fun _ _ e => absurd rfl (e i hi)⟩)
  ·
    have k4 : ∀ i : Nat, i < kk → k ≠ nI i := fun i hi e => k3 ⟨i, hi, e⟩
    refine z_aload_n hR dPC_witness_39 (n := 40) rfl rfl ?_
    refine z_getR hR dPC_witness_40 (n := 43) rfl zgPC_32 (by decide) rfl rfl ?_
    refine z_getI hR dPC_witness_43 (n := 46) rfl zgPC_141 (by decide) rfl rfl ?_
    rw [l5]
    refine z_iconst hR dPC_witness_46 (v := (-1)) (n := 47) rfl rfl ?_
    refine z_icmp_ne hR dPC_witness_47 (t := 52) (n := 50) rfl rfl (fun _ => ?_) (fun h47 => absurd h47 hne)
    refine z_iload_n hR dPC_witness_52 (n := 53) rfl rfl ?_
    refine z_iconst hR dPC_witness_53 (v := (-1)) (n := 54) rfl rfl ?_
    refine z_icmp_ne hR dPC_witness_54 (t := 68) (n := 57) rfl rfl (fun _ => ?_) (fun h54 => absurd h54 k1)
    refine z_iload_n hR dPC_witness_68 (n := 69) rfl rfl ?_
    refine z_bipush hR dPC_witness_69 (v := (-2)) (n := 71) rfl rfl ?_
    refine z_icmp_ne hR dPC_witness_71 (t := 82) (n := 74) rfl rfl (fun _ => ?_) (fun h71 => absurd h71 k2)
    refine z_aload_n hR dPC_witness_82 (n := 83) rfl rfl ?_
    refine z_getR hR dPC_witness_83 (n := 86) rfl zgPC_32 (by decide) rfl rfl ?_
    refine z_getR hR dPC_witness_86 (n := 89) rfl zgPC_144 (by decide) rfl rfl ?_
    refine z_iload_n hR dPC_witness_89 (n := 90) rfl rfl ?_
    refine z_callV1 hR dPC_witness_90 (n := 93) rfl zcPC_150 zkPA_hasPlace (by decide) (Nat.le_of_ble_eq_true rfl) (by decide) rfl rfl (Nat.zero_le _) (m_PA_hasN13 k4 (by omega) s36 l6) (fun r90 s90 h90 => ?_)
    obtain ⟨rfl, e90⟩ := h90
    subst s90
    refine z_if_eq hR dPC_witness_93 (t := 111) (n := 96) rfl rfl (fun _ => ?_) (fun h93 => absurd rfl h93)
    refine z_iconst hR dPC_witness_111 (v := (-1)) (n := 112) rfl rfl ?_
    refine z_zret hR dPC_witness_112 rfl rfl (Nat.zero_le _) ?_
    exact hfin _ (Or.inr ⟨kk, r, j, l8, fun e => absurd e k1, fun e => absurd e k2, fun i hi e => absurd e (k4 i hi), fun _ _ _ => rfl⟩)
  skip
