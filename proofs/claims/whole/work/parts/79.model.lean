/-! The reference's answers about all paths -/
theorem mF_fr {l : List Nat} {σ σ2 : zS} {g : Nat → Int32 × Int32 × Int32} {n : Nat} {L : Nat → Nat → Bool} (hf : zfr l σ σ2) (hd : zfd [0, 25, 34, 35] σ σ2) (h1 : 47 ∉ l) (h2 : 48 ∉ l) (h3 : 49 ∉ l) (h4 : 50 ∉ l) (h5 : 58 ∉ l) (h : mF σ g n L) : mF σ2 g n L := by
  unfold mF mT3
  rw [hd 4 (by decide), hd 9 (by decide), hf.1 47 h1, hf.1 48 h2, hf.1 49 h3, hf.1 50 h4, hf.1 58 h5]
  exact h
theorem mD_fr {l : List Nat} {σ σ2 : zS} {g : Nat → Int32 × Int32 × Int32} {n : Nat} {L : Nat → Nat → Bool} (hf : zfr l σ σ2) (h1 : 57 ∉ l) (h2 : 60 ∉ l) (h3 : 61 ∉ l) (h4 : 63 ∉ l) (h5 : 67 ∉ l) (h : mD σ g n L) : mD σ2 g n L := by
  unfold mD
  rw [hf.1 57 h1, hf.1 60 h2, hf.1 61 h3, hf.2 67 h5, hf.2 63 h4]
  exact h
/-- the reference finds some path from a state -/
def mS (σ : zS) (T : Nat) (b : Bool) (q : Nat) : Prop := ∃ c, c < 2 ^ T ∧ lB (σ.2 63) q c ∧ tpA (σ.1 61) q c = b
theorem so_F {σ : zS} {g : Nat → Int32 × Int32 × Int32} {n : Nat} {L : Nat → Nat → Bool} (hF : mF σ g n L) : mF (zwA σ 45 0 0) g n L := mF_fr (zfr.w1 (o := 45)) (zfd.rf.w _ (by decide)) (by decide) (by decide) (by decide) (by decide) (by decide) hF
theorem so_K {σ : zS} {g : Nat → Int32 × Int32 × Int32} {n : Nat} {L : Nat → Nat → Bool} (hk : σ.1 45 25 = 0 ∨ (σ.1 45 25 = 1 ∧ mD σ g n L)) : (zwA σ 45 0 0).1 45 25 = 0 ∨ ((zwA σ 45 0 0).1 45 25 = 1 ∧ mD (zwA σ 45 0 0) g n L) := by
  rw [zwA_sn _ _ _ _ (by decide)]
  rcases hk with h | ⟨h, h2⟩
  · exact Or.inl h
  · exact Or.inr ⟨h, mD_fr (zfr.w1 (o := 45)) (by decide) (by decide) (by decide) (by decide) (by decide) h2⟩
theorem so_P {σ σ2 : zS} (a1 : zfr stL (zwA σ 45 0 0) σ2) (a2 : zfd [25] (zwA σ 45 0 0) σ2) : zfr stL σ σ2 ∧ zfd [0, 25] σ σ2 ∧ σ2.1 45 0 = 0 := by
  refine ⟨(zfr.rf.wA _ (by decide)).tr a1, fun j hj => ?_, ?_⟩
  · rw [a2 j (fun h => hj (by simp at h; simp [h])), zwA_sn _ _ _ _ (fun e => hj (by simp [e]))]
  · rw [a2 0 (by decide), zwA_ss]
theorem k_neg {k : Int32} (h : ¬ k < -2) (h1 : k ≠ -1) (h2 : k ≠ -2) : ¬ k < 0 := by
  intro h0
  rw [Int32.lt_iff_toInt_lt] at h0 h
  rw [show ((-2 : Int32)).toInt = -2 by decide] at h
  rw [show ((0 : Int32)).toInt = 0 by decide] at h0
  have q1 : k.toInt ≠ -1 := fun e => h1 (Int32.toInt_inj.mp (by rw [e]; decide))
  have q2 : k.toInt ≠ -2 := fun e => h2 (Int32.toInt_inj.mp (by rw [e]; decide))
  omega
theorem m_MO_kp0 (s : Int32) (σ : zS) (hl : σ.1 45 3 = 0) : zM yMO_keeps cMO_keeps 2 (some .boolean) 6 190 0 [.ref 45, .int s] σ (fun r σ2 => r = some (.int 0) ∧ σ2 = zwA σ 45 0 1) (fun _ _ => False) := by
  refine zM.of [some (.ref 45), some (.int s)] (by decide) 0 rfl (fun _ => Nat.le_of_ble_eq_true rfl) (fun Z hR => ?_)
  refine z_aload_n hR dMO_keeps_0 (n := 1) rfl rfl ?_
  refine z_aload_n hR dMO_keeps_1 (n := 2) rfl rfl ?_
  refine z_getI hR dMO_keeps_2 (n := 5) rfl zgMO_151 (by decide) rfl rfl ?_
  rw [hl]
  refine z_if_ne hR dMO_keeps_5 (t := 12) (n := 8) rfl rfl (fun h5 => absurd h5 (fun q => q rfl)) (fun _ => ?_)
  refine z_iconst hR dMO_keeps_8 (v := 1) (n := 9) rfl rfl ?_
  refine z_goto hR dMO_keeps_9 (t := 24) rfl ?_
  refine z_putI hR dMO_keeps_24 (n := 27) rfl zpMO_93 (by decide) rfl rfl ?_
  refine z_aload_n hR dMO_keeps_27 (n := 28) rfl rfl ?_
  refine z_getI hR dMO_keeps_28 (n := 31) rfl zgMO_93 (by decide) rfl rfl ?_
  rw [zwA_ss]
  refine z_if_ne hR dMO_keeps_31 (t := 61) (n := 34) rfl rfl (fun _ => ?_) (fun h31 => absurd h31 (by decide))
  refine z_iconst hR dMO_keeps_61 (v := 0) (n := 62) rfl rfl ?_
  refine z_zret hR dMO_keeps_62 rfl rfl (Nat.zero_le _) ?_
  exact ⟨rfl, rfl⟩
theorem m_MO_kp1 {s : Int32} (h : zNo s) (σ : zS) (hl : σ.1 45 3 = 1) : zM yMO_keeps cMO_keeps 2 (some .boolean) 6 190 0 [.ref 45, .int s] σ (fun r σ2 => r = some (.int 0) ∧ σ2 = zwA σ 45 0 2) (fun _ _ => False) := by
  refine zM.of [some (.ref 45), some (.int s)] (by decide) 0 rfl (fun _ => Nat.le_of_ble_eq_true rfl) (fun Z hR => ?_)
  refine z_aload_n hR dMO_keeps_0 (n := 1) rfl rfl ?_
  refine z_aload_n hR dMO_keeps_1 (n := 2) rfl rfl ?_
  refine z_getI hR dMO_keeps_2 (n := 5) rfl zgMO_151 (by decide) rfl rfl ?_
  rw [hl]
  refine z_if_ne hR dMO_keeps_5 (t := 12) (n := 8) rfl rfl (fun _ => ?_) (fun h5 => absurd h5 (by decide))
  refine z_iload_n hR dMO_keeps_12 (n := 13) rfl rfl ?_
  refine z_callS1 hR dMO_keeps_13 (n := 16) rfl zcMO_174 zkMO_isState (by decide) (Nat.le_of_ble_eq_true rfl) (Nat.zero_le _) (m_MO_isN h σ) (fun r13 s13 h13 => ?_)
  obtain ⟨rfl, e13⟩ := h13
  subst s13
  refine z_if_ne hR dMO_keeps_16 (t := 23) (n := 19) rfl rfl (fun h16 => absurd h16 (fun q => q rfl)) (fun _ => ?_)
  refine z_iconst hR dMO_keeps_19 (v := 2) (n := 20) rfl rfl ?_
  refine z_goto hR dMO_keeps_20 (t := 24) rfl ?_
  refine z_putI hR dMO_keeps_24 (n := 27) rfl zpMO_93 (by decide) rfl rfl ?_
  refine z_aload_n hR dMO_keeps_27 (n := 28) rfl rfl ?_
  refine z_getI hR dMO_keeps_28 (n := 31) rfl zgMO_93 (by decide) rfl rfl ?_
  rw [zwA_ss]
  refine z_if_ne hR dMO_keeps_31 (t := 61) (n := 34) rfl rfl (fun _ => ?_) (fun h31 => absurd h31 (by decide))
  refine z_iconst hR dMO_keeps_61 (v := 0) (n := 62) rfl rfl ?_
  refine z_zret hR dMO_keeps_62 rfl rfl (Nat.zero_le _) ?_
  exact ⟨rfl, rfl⟩
theorem m_MO_kp2 {g : Nat → Int32 × Int32 × Int32} {n s : Nat} {L : Nat → Nat → Bool} (hs : s < 6) (σ : zS) (hl : σ.1 45 3 = 1) (hF : mF σ g n L) (hk : σ.1 45 25 = 0 ∨ (σ.1 45 25 = 1 ∧ mD σ g n L)) : zM yMO_keeps cMO_keeps 2 (some .boolean) 6 190 0 [.ref 45, .int (nI s)] σ (fun r σ2 => zfr stL σ σ2 ∧ zfd [0, 25] σ σ2 ∧ σ2.1 45 0 = 0 ∧ σ2.1 45 25 = 1 ∧ mD σ2 g n L ∧ ∃ p : Bool, r = some (.int (zb p)) ∧ (p = false ↔ mS σ2 (tcn g n) false s)) (fun _ _ => False) := by
  refine zM.of [some (.ref 45), some (.int (nI s))] (by decide) 0 rfl (fun _ => Nat.le_of_ble_eq_true rfl) (fun Z hR => ?_)
  refine z_aload_n hR dMO_keeps_0 (n := 1) rfl rfl ?_
  refine z_aload_n hR dMO_keeps_1 (n := 2) rfl rfl ?_
  refine z_getI hR dMO_keeps_2 (n := 5) rfl zgMO_151 (by decide) rfl rfl ?_
  rw [hl]
  refine z_if_ne hR dMO_keeps_5 (t := 12) (n := 8) rfl rfl (fun _ => ?_) (fun h5 => absurd h5 (by decide))
  refine z_iload_n hR dMO_keeps_12 (n := 13) rfl rfl ?_
  refine z_callS1 hR dMO_keeps_13 (n := 16) rfl zcMO_174 zkMO_isState (by decide) (Nat.le_of_ble_eq_true rfl) (Nat.zero_le _) (m_MO_isS hs σ) (fun r13 s13 h13 => ?_)
  obtain ⟨rfl, e13⟩ := h13
  subst s13
  refine z_if_ne hR dMO_keeps_16 (t := 23) (n := 19) rfl rfl (fun _ => ?_) (fun h16 => absurd h16 (by decide))
  refine z_iconst hR dMO_keeps_23 (v := 0) (n := 24) rfl rfl ?_
  refine z_putI hR dMO_keeps_24 (n := 27) rfl zpMO_93 (by decide) rfl rfl ?_
  refine z_aload_n hR dMO_keeps_27 (n := 28) rfl rfl ?_
  refine z_getI hR dMO_keeps_28 (n := 31) rfl zgMO_93 (by decide) rfl rfl ?_
  rw [zwA_ss]
  refine z_if_ne hR dMO_keeps_31 (t := 61) (n := 34) rfl rfl (fun h31 => absurd h31 (fun q => q rfl)) (fun _ => ?_)
  refine z_aload_n hR dMO_keeps_34 (n := 35) rfl rfl ?_
  refine z_iconst hR dMO_keeps_35 (v := 0) (n := 36) rfl rfl ?_
  refine z_callV1 hR dMO_keeps_36 (n := 39) rfl zcMO_204 zkMO_someone (by decide) (Nat.le_of_ble_eq_true rfl) (by decide) rfl rfl (Nat.zero_le _) (m_MO_someone false _ (so_F hF) (so_K hk)) (fun r36 s36 h36 => ?_)
  obtain ⟨vf, vd, w25, wD, y, rfl, hy⟩ := h36
  obtain ⟨wf, wd, w0⟩ := so_P vf vd
  refine z_aload_n hR dMO_keeps_39 (n := 40) rfl rfl ?_
  refine z_getI hR dMO_keeps_40 (n := 43) rfl zgMO_93 (by decide) rfl rfl ?_
  rw [w0]
  refine z_if_ne hR dMO_keeps_43 (t := 50) (n := 46) rfl rfl (fun h43 => absurd h43 (fun q => q rfl)) (fun _ => ?_)
  refine z_iload_n hR dMO_keeps_46 (n := 47) rfl rfl ?_
  refine z_goto hR dMO_keeps_47 (t := 51) rfl ?_
  refine z_ishr hR dMO_keeps_51 (n := 52) rfl ?_
  refine z_iconst hR dMO_keeps_52 (v := 1) (n := 53) rfl rfl ?_
  refine z_iand hR dMO_keeps_53 (n := 54) rfl ?_
  rw [tb_sr1 _ (by omega : s < 32)]
  refine z_if_neB hR dMO_keeps_54 (t := 61) (n := 57) rfl rfl (fun h54 => ?_) (fun h54 => ?_)
  · refine z_iconst hR dMO_keeps_61 (v := 0) (n := 62) rfl rfl ?_
    refine z_zret hR dMO_keeps_62 rfl rfl (Nat.zero_le _) ?_
    first
      | exact ⟨wf, wd, w0, w25, wD, false, rfl, ⟨fun _ => ((hy s (by omega)).mp h54).2, fun _ => rfl⟩⟩
      | exact ⟨wf, wd, w0, w25, wD, true, rfl, ⟨fun w => absurd w (by decide), fun w => by rw [(hy s (by omega)).mpr ⟨hs, w⟩] at h54; exact absurd h54 (by decide)⟩⟩
  · refine z_iconst hR dMO_keeps_57 (v := 1) (n := 58) rfl rfl ?_
    refine z_goto hR dMO_keeps_58 (t := 62) rfl ?_
    refine z_zret hR dMO_keeps_62 rfl rfl (Nat.zero_le _) ?_
    first
      | exact ⟨wf, wd, w0, w25, wD, false, rfl, ⟨fun _ => ((hy s (by omega)).mp h54).2, fun _ => rfl⟩⟩
      | exact ⟨wf, wd, w0, w25, wD, true, rfl, ⟨fun w => absurd w (by decide), fun w => by rw [(hy s (by omega)).mpr ⟨hs, w⟩] at h54; exact absurd h54 (by decide)⟩⟩
theorem m_MO_br0 (σ : zS) (hl : σ.1 45 3 = 0) : zM yMO_breaking cMO_breaking 1 (some .int) 6 190 0 [.ref 45] σ (fun r σ2 => r = some (.int 0) ∧ σ2 = zwA σ 45 0 1) (fun _ _ => False) := by
  refine zM.of [some (.ref 45)] (by decide) 0 rfl (fun _ => Nat.le_of_ble_eq_true rfl) (fun Z hR => ?_)
  refine z_aload_n hR dMO_breaking_0 (n := 1) rfl rfl ?_
  refine z_aload_n hR dMO_breaking_1 (n := 2) rfl rfl ?_
  refine z_getI hR dMO_breaking_2 (n := 5) rfl zgMO_151 (by decide) rfl rfl ?_
  rw [hl]
  refine z_if_eq hR dMO_breaking_5 (t := 12) (n := 8) rfl rfl (fun _ => ?_) (fun h5 => absurd rfl h5)
  refine z_iconst hR dMO_breaking_12 (v := 1) (n := 13) rfl rfl ?_
  refine z_putI hR dMO_breaking_13 (n := 16) rfl zpMO_93 (by decide) rfl rfl ?_
  refine z_aload_n hR dMO_breaking_16 (n := 17) rfl rfl ?_
  refine z_getI hR dMO_breaking_17 (n := 20) rfl zgMO_151 (by decide) rfl rfl ?_
  rw [zwA_sn _ _ _ _ (by decide), hl]
  refine z_if_eq hR dMO_breaking_20 (t := 31) (n := 23) rfl rfl (fun _ => ?_) (fun h20 => absurd rfl h20)
  refine z_iconst hR dMO_breaking_31 (v := 0) (n := 32) rfl rfl ?_
  refine z_zret hR dMO_breaking_32 rfl rfl (Nat.zero_le _) ?_
  exact ⟨rfl, rfl⟩
theorem m_MO_ke0 (σ : zS) (hl : σ.1 45 3 = 0) : zM yMO_keeping cMO_keeping 1 (some .int) 6 190 0 [.ref 45] σ (fun r σ2 => r = some (.int 0) ∧ σ2 = zwA σ 45 0 1) (fun _ _ => False) := by
  refine zM.of [some (.ref 45)] (by decide) 0 rfl (fun _ => Nat.le_of_ble_eq_true rfl) (fun Z hR => ?_)
  refine z_aload_n hR dMO_keeping_0 (n := 1) rfl rfl ?_
  refine z_aload_n hR dMO_keeping_1 (n := 2) rfl rfl ?_
  refine z_getI hR dMO_keeping_2 (n := 5) rfl zgMO_151 (by decide) rfl rfl ?_
  rw [hl]
  refine z_if_eq hR dMO_keeping_5 (t := 12) (n := 8) rfl rfl (fun _ => ?_) (fun h5 => absurd rfl h5)
  refine z_iconst hR dMO_keeping_12 (v := 1) (n := 13) rfl rfl ?_
  refine z_putI hR dMO_keeping_13 (n := 16) rfl zpMO_93 (by decide) rfl rfl ?_
  refine z_aload_n hR dMO_keeping_16 (n := 17) rfl rfl ?_
  refine z_getI hR dMO_keeping_17 (n := 20) rfl zgMO_151 (by decide) rfl rfl ?_
  rw [zwA_sn _ _ _ _ (by decide), hl]
  refine z_if_eq hR dMO_keeping_20 (t := 31) (n := 23) rfl rfl (fun _ => ?_) (fun h20 => absurd rfl h20)
  refine z_iconst hR dMO_keeping_31 (v := 0) (n := 32) rfl rfl ?_
  refine z_zret hR dMO_keeping_32 rfl rfl (Nat.zero_le _) ?_
  exact ⟨rfl, rfl⟩
theorem m_MO_br2 {g : Nat → Int32 × Int32 × Int32} {n : Nat} {L : Nat → Nat → Bool} (σ : zS) (hl : σ.1 45 3 = 1) (hF : mF σ g n L) (hk : σ.1 45 25 = 0 ∨ (σ.1 45 25 = 1 ∧ mD σ g n L)) : zM yMO_breaking cMO_breaking 1 (some .int) 6 190 0 [.ref 45] σ (fun r σ2 => zfr stL σ σ2 ∧ zfd [0, 25] σ σ2 ∧ σ2.1 45 0 = 0 ∧ σ2.1 45 25 = 1 ∧ mD σ2 g n L ∧ ∃ y, r = some (.int y) ∧ ∀ q, q < 32 → (tb y q = true ↔ (q < 6 ∧ mS σ2 (tcn g n) false q))) (fun _ _ => False) := by
  refine zM.of [some (.ref 45)] (by decide) 0 rfl (fun _ => Nat.le_of_ble_eq_true rfl) (fun Z hR => ?_)
  refine z_aload_n hR dMO_breaking_0 (n := 1) rfl rfl ?_
  refine z_aload_n hR dMO_breaking_1 (n := 2) rfl rfl ?_
  refine z_getI hR dMO_breaking_2 (n := 5) rfl zgMO_151 (by decide) rfl rfl ?_
  rw [hl]
  refine z_if_eq hR dMO_breaking_5 (t := 12) (n := 8) rfl rfl (fun h5 => absurd h5 (by decide)) (fun _ => ?_)
  refine z_iconst hR dMO_breaking_8 (v := 0) (n := 9) rfl rfl ?_
  refine z_goto hR dMO_breaking_9 (t := 13) rfl ?_
  refine z_putI hR dMO_breaking_13 (n := 16) rfl zpMO_93 (by decide) rfl rfl ?_
  refine z_aload_n hR dMO_breaking_16 (n := 17) rfl rfl ?_
  refine z_getI hR dMO_breaking_17 (n := 20) rfl zgMO_151 (by decide) rfl rfl ?_
  rw [zwA_sn _ _ _ _ (by decide), hl]
  refine z_if_eq hR dMO_breaking_20 (t := 31) (n := 23) rfl rfl (fun h20 => absurd h20 (by decide)) (fun _ => ?_)
  refine z_aload_n hR dMO_breaking_23 (n := 24) rfl rfl ?_
  refine z_iconst hR dMO_breaking_24 (v := 0) (n := 25) rfl rfl ?_
  refine z_callV1 hR dMO_breaking_25 (n := 28) rfl zcMO_204 zkMO_someone (by decide) (Nat.le_of_ble_eq_true rfl) (by decide) rfl rfl (Nat.zero_le _) (m_MO_someone false _ (so_F hF) (so_K hk)) (fun r25 s25 h25 => ?_)
  obtain ⟨vf, vd, w25, wD, y, rfl, hy⟩ := h25
  obtain ⟨wf, wd, w0⟩ := so_P vf vd
  refine z_goto hR dMO_breaking_28 (t := 32) rfl ?_
  refine z_zret hR dMO_breaking_32 rfl rfl (Nat.zero_le _) ?_
  exact ⟨wf, wd, w0, w25, wD, y, rfl, hy⟩
theorem m_MO_ke2 {g : Nat → Int32 × Int32 × Int32} {n : Nat} {L : Nat → Nat → Bool} (σ : zS) (hl : σ.1 45 3 = 1) (hF : mF σ g n L) (hk : σ.1 45 25 = 0 ∨ (σ.1 45 25 = 1 ∧ mD σ g n L)) : zM yMO_keeping cMO_keeping 1 (some .int) 6 190 0 [.ref 45] σ (fun r σ2 => zfr stL σ σ2 ∧ zfd [0, 25] σ σ2 ∧ σ2.1 45 0 = 0 ∧ σ2.1 45 25 = 1 ∧ mD σ2 g n L ∧ ∃ y, r = some (.int y) ∧ ∀ q, q < 32 → (tb y q = true ↔ (q < 6 ∧ mS σ2 (tcn g n) true q))) (fun _ _ => False) := by
  refine zM.of [some (.ref 45)] (by decide) 0 rfl (fun _ => Nat.le_of_ble_eq_true rfl) (fun Z hR => ?_)
  refine z_aload_n hR dMO_keeping_0 (n := 1) rfl rfl ?_
  refine z_aload_n hR dMO_keeping_1 (n := 2) rfl rfl ?_
  refine z_getI hR dMO_keeping_2 (n := 5) rfl zgMO_151 (by decide) rfl rfl ?_
  rw [hl]
  refine z_if_eq hR dMO_keeping_5 (t := 12) (n := 8) rfl rfl (fun h5 => absurd h5 (by decide)) (fun _ => ?_)
  refine z_iconst hR dMO_keeping_8 (v := 0) (n := 9) rfl rfl ?_
  refine z_goto hR dMO_keeping_9 (t := 13) rfl ?_
  refine z_putI hR dMO_keeping_13 (n := 16) rfl zpMO_93 (by decide) rfl rfl ?_
  refine z_aload_n hR dMO_keeping_16 (n := 17) rfl rfl ?_
  refine z_getI hR dMO_keeping_17 (n := 20) rfl zgMO_151 (by decide) rfl rfl ?_
  rw [zwA_sn _ _ _ _ (by decide), hl]
  refine z_if_eq hR dMO_keeping_20 (t := 31) (n := 23) rfl rfl (fun h20 => absurd h20 (by decide)) (fun _ => ?_)
  refine z_aload_n hR dMO_keeping_23 (n := 24) rfl rfl ?_
  refine z_iconst hR dMO_keeping_24 (v := 1) (n := 25) rfl rfl ?_
  refine z_callV1 hR dMO_keeping_25 (n := 28) rfl zcMO_204 zkMO_someone (by decide) (Nat.le_of_ble_eq_true rfl) (by decide) rfl rfl (Nat.zero_le _) (m_MO_someone true _ (so_F hF) (so_K hk)) (fun r25 s25 h25 => ?_)
  obtain ⟨vf, vd, w25, wD, y, rfl, hy⟩ := h25
  obtain ⟨wf, wd, w0⟩ := so_P vf vd
  refine z_goto hR dMO_keeping_28 (t := 32) rfl ?_
  refine z_zret hR dMO_keeping_32 rfl rfl (Nat.zero_le _) ?_
  exact ⟨wf, wd, w0, w25, wD, y, rfl, hy⟩
theorem m_MO_wi0 (s k : Int32) (σ : zS) (hl : σ.1 45 3 = 0) : zM yMO_witness cMO_witness 3 (some .int) 7 240 0 [.ref 45, .int s, .int k] σ (fun r σ2 => r = some (.int 0) ∧ σ2 = zwA σ 45 0 1) (fun _ _ => False) := by
  refine zM.of [some (.ref 45), some (.int s), some (.int k)] (by decide) 0 rfl (fun _ => Nat.le_of_ble_eq_true rfl) (fun Z hR => ?_)
  refine z_aload_n hR dMO_witness_0 (n := 1) rfl rfl ?_
  refine z_aload_n hR dMO_witness_1 (n := 2) rfl rfl ?_
  refine z_getI hR dMO_witness_2 (n := 5) rfl zgMO_151 (by decide) rfl rfl ?_
  rw [hl]
  refine z_if_eq hR dMO_witness_5 (t := 12) (n := 8) rfl rfl (fun _ => ?_) (fun h5 => absurd rfl h5)
  refine z_iconst hR dMO_witness_12 (v := 1) (n := 13) rfl rfl ?_
  refine z_putI hR dMO_witness_13 (n := 16) rfl zpMO_93 (by decide) rfl rfl ?_
  refine z_aload_n hR dMO_witness_16 (n := 17) rfl rfl ?_
  refine z_getI hR dMO_witness_17 (n := 20) rfl zgMO_151 (by decide) rfl rfl ?_
  rw [zwA_sn _ _ _ _ (by decide), hl]
  refine z_if_eq hR dMO_witness_20 (t := 36) (n := 23) rfl rfl (fun _ => ?_) (fun h20 => absurd rfl h20)
  refine z_aload_n hR dMO_witness_36 (n := 37) rfl rfl ?_
  refine z_getI hR dMO_witness_37 (n := 40) rfl zgMO_151 (by decide) rfl rfl ?_
  rw [zwA_sn _ _ _ _ (by decide), hl]
  refine z_if_eq hR dMO_witness_40 (t := 47) (n := 43) rfl rfl (fun _ => ?_) (fun h40 => absurd rfl h40)
  refine z_iconst hR dMO_witness_47 (v := 0) (n := 48) rfl rfl ?_
  refine z_zret hR dMO_witness_48 rfl rfl (Nat.zero_le _) ?_
  exact ⟨rfl, rfl⟩
theorem m_MO_wi1 {s k : Int32} (h : zNo s ∨ ((∃ j : Nat, j < 6 ∧ s = nI j) ∧ k < -2)) (σ : zS) (hl : σ.1 45 3 = 1) : zM yMO_witness cMO_witness 3 (some .int) 7 240 0 [.ref 45, .int s, .int k] σ (fun r σ2 => r = some (.int (-1)) ∧ σ2 = zwA σ 45 0 0) (fun _ _ => False) := by
  refine zM.of [some (.ref 45), some (.int s), some (.int k)] (by decide) 0 rfl (fun _ => Nat.le_of_ble_eq_true rfl) (fun Z hR => ?_)
  rcases h with h | ⟨⟨j, hj, rfl⟩, h⟩
  ·
    refine z_aload_n hR dMO_witness_0 (n := 1) rfl rfl ?_
    refine z_aload_n hR dMO_witness_1 (n := 2) rfl rfl ?_
    refine z_getI hR dMO_witness_2 (n := 5) rfl zgMO_151 (by decide) rfl rfl ?_
    rw [hl]
    refine z_if_eq hR dMO_witness_5 (t := 12) (n := 8) rfl rfl (fun h5 => absurd h5 (by decide)) (fun _ => ?_)
    refine z_iconst hR dMO_witness_8 (v := 0) (n := 9) rfl rfl ?_
    refine z_goto hR dMO_witness_9 (t := 13) rfl ?_
    refine z_putI hR dMO_witness_13 (n := 16) rfl zpMO_93 (by decide) rfl rfl ?_
    refine z_aload_n hR dMO_witness_16 (n := 17) rfl rfl ?_
    refine z_getI hR dMO_witness_17 (n := 20) rfl zgMO_151 (by decide) rfl rfl ?_
    rw [zwA_sn _ _ _ _ (by decide), hl]
    refine z_if_eq hR dMO_witness_20 (t := 36) (n := 23) rfl rfl (fun h20 => absurd h20 (by decide)) (fun _ => ?_)
    refine z_iload_n hR dMO_witness_23 (n := 24) rfl rfl ?_
    refine z_callS1 hR dMO_witness_24 (n := 27) rfl zcMO_174 zkMO_isState (by decide) (Nat.le_of_ble_eq_true rfl) (Nat.zero_le _) (m_MO_isN h _) (fun r24 s24 h24 => ?_)
    obtain ⟨rfl, e24⟩ := h24
    subst s24
    refine z_if_eq hR dMO_witness_27 (t := 36) (n := 30) rfl rfl (fun _ => ?_) (fun h27 => absurd rfl h27)
    refine z_aload_n hR dMO_witness_36 (n := 37) rfl rfl ?_
    refine z_getI hR dMO_witness_37 (n := 40) rfl zgMO_151 (by decide) rfl rfl ?_
    rw [zwA_sn _ _ _ _ (by decide), hl]
    refine z_if_eq hR dMO_witness_40 (t := 47) (n := 43) rfl rfl (fun h40 => absurd h40 (by decide)) (fun _ => ?_)
    refine z_iconst hR dMO_witness_43 (v := (-1)) (n := 44) rfl rfl ?_
    refine z_goto hR dMO_witness_44 (t := 48) rfl ?_
    refine z_zret hR dMO_witness_48 rfl rfl (Nat.zero_le _) ?_
    exact ⟨rfl, rfl⟩
  ·
    refine z_aload_n hR dMO_witness_0 (n := 1) rfl rfl ?_
    refine z_aload_n hR dMO_witness_1 (n := 2) rfl rfl ?_
    refine z_getI hR dMO_witness_2 (n := 5) rfl zgMO_151 (by decide) rfl rfl ?_
    rw [hl]
    refine z_if_eq hR dMO_witness_5 (t := 12) (n := 8) rfl rfl (fun h5 => absurd h5 (by decide)) (fun _ => ?_)
    refine z_iconst hR dMO_witness_8 (v := 0) (n := 9) rfl rfl ?_
    refine z_goto hR dMO_witness_9 (t := 13) rfl ?_
    refine z_putI hR dMO_witness_13 (n := 16) rfl zpMO_93 (by decide) rfl rfl ?_
    refine z_aload_n hR dMO_witness_16 (n := 17) rfl rfl ?_
    refine z_getI hR dMO_witness_17 (n := 20) rfl zgMO_151 (by decide) rfl rfl ?_
    rw [zwA_sn _ _ _ _ (by decide), hl]
    refine z_if_eq hR dMO_witness_20 (t := 36) (n := 23) rfl rfl (fun h20 => absurd h20 (by decide)) (fun _ => ?_)
    refine z_iload_n hR dMO_witness_23 (n := 24) rfl rfl ?_
    refine z_callS1 hR dMO_witness_24 (n := 27) rfl zcMO_174 zkMO_isState (by decide) (Nat.le_of_ble_eq_true rfl) (Nat.zero_le _) (m_MO_isS hj _) (fun r24 s24 h24 => ?_)
    obtain ⟨rfl, e24⟩ := h24
    subst s24
    refine z_if_eq hR dMO_witness_27 (t := 36) (n := 30) rfl rfl (fun h27 => absurd h27 (by decide)) (fun _ => ?_)
    refine z_iload_n hR dMO_witness_30 (n := 31) rfl rfl ?_
    refine z_bipush hR dMO_witness_31 (v := (-2)) (n := 33) rfl rfl ?_
    refine z_icmp_ge hR dMO_witness_33 (t := 49) (n := 36) rfl rfl (fun h33 => absurd h33 (Int32.not_le.mpr h)) (fun _ => ?_)
    refine z_aload_n hR dMO_witness_36 (n := 37) rfl rfl ?_
    refine z_getI hR dMO_witness_37 (n := 40) rfl zgMO_151 (by decide) rfl rfl ?_
    rw [zwA_sn _ _ _ _ (by decide), hl]
    refine z_if_eq hR dMO_witness_40 (t := 47) (n := 43) rfl rfl (fun h40 => absurd h40 (by decide)) (fun _ => ?_)
    refine z_iconst hR dMO_witness_43 (v := (-1)) (n := 44) rfl rfl ?_
    refine z_goto hR dMO_witness_44 (t := 48) rfl ?_
    refine z_zret hR dMO_witness_48 rfl rfl (Nat.zero_le _) ?_
    exact ⟨rfl, rfl⟩
/-- what the reference keeps of its searches -/
def mQ (B : Nat → (Nat → Nat) → Nat → Prop) (σ : zS) : Prop := ∀ s, s < 6 → σ.1 70 s = 0 ∨ mR B (σ.1 70) (σ.1 71) (σ.1 72) s
theorem m_MO_wi2 {g : Nat → Int32 × Int32 × Int32} {n s : Nat} {L : Nat → Nat → Bool} (hs6 : s < 6) {k : Int32} (hk2 : ¬ k < -2) (σ : zS) (hl : σ.1 45 3 = 1) (hF : mF σ g n L) (hk : σ.1 45 25 = 0 ∨ (σ.1 45 25 = 1 ∧ mD σ g n L)) {val : Nat → (Nat → Nat) → Nat → Bool} (hEv : ∀ k j r V, j < k → k ≤ 6 → (∀ i, i < k → r i < 6) → (∀ x, x < n → ∀ p, p < k → V x p = hvl g k j (fun p => σ.1 57 (r p)) V x p) → V (n - 1) 0 = val k r j) (hvs : ∀ k q r j, j < k → k ≤ 6 → (∀ i, i < k → q i < 6) → (∀ i, i < k → q i = r i) → val k q j = false → val k r j = false) (hPr : ∀ τ : zS, mD τ g n L → τ.1 57 = σ.1 57 → (¬ ∃ b, b < 2 ^ tcn g n ∧ lB (τ.2 63) s b ∧ tpA (τ.1 61) s b = false) → ∀ k, 1 ≤ k → k ≤ 6 → nob (fun k r j => (∀ i, i < k → L (r i) (r (nx k j i)) = true) ∧ val k r j = false) s k) (hQ : mQ (fun k r j => (∀ i, i < k → L (r i) (r (nx k j i)) = true) ∧ val k r j = false) σ) : zM yMO_witness cMO_witness 3 (some .int) 7 240 0 [.ref 45, .int (nI s), .int k] σ (fun r σ2 => zfr srL σ σ2 ∧ zfd [0, 25, 34, 35] σ σ2 ∧ σ2.1 45 0 = 0 ∧ (σ2.1 45 25 = 0 ∨ (σ2.1 45 25 = 1 ∧ mD σ2 g n L)) ∧ mQ (fun k r j => (∀ i, i < k → L (r i) (r (nx k j i)) = true) ∧ val k r j = false) σ2 ∧ ∃ x, r = some (.int x) ∧ wit (fun k r j => (∀ i, i < k → L (r i) (r (nx k j i)) = true) ∧ val k r j = false) s k x) (fun _ _ => False) := by
  refine zM.of [some (.ref 45), some (.int (nI s)), some (.int k)] (by decide) 0 rfl (fun _ => Nat.le_of_ble_eq_true rfl) (fun Z hR => ?_)
  generalize hBd : (fun (k : Nat) (r : Nat → Nat) (j : Nat) => (∀ i, i < k → L (r i) (r (nx k j i)) = true) ∧ val k r j = false) = B at hR hQ
  -- behind the search
  have fin : ∀ τ : zS, zfr srL σ τ → zfd [0, 25, 34, 35] σ τ → τ.1 45 0 = 0 → (τ.1 45 25 = 0 ∨ (τ.1 45 25 = 1 ∧ mD τ g n L)) → mQ B τ → mR B (τ.1 70) (τ.1 71) (τ.1 72) s → Z 0 63 [some (.ref 45), some (.int (nI s)), some (.int k)] [] τ := by
    intro τ hf hd h0 h25 hQ2 hres
    have hend : ∀ x, wit B s k x → zfr srL σ τ ∧ zfd [0, 25, 34, 35] σ τ ∧ τ.1 45 0 = 0 ∧ (τ.1 45 25 = 0 ∨ (τ.1 45 25 = 1 ∧ mD τ g n L)) ∧ mQ B τ ∧ ∃ x2, some (Value.int x) = some (.int x2) ∧ wit B s k x2 := fun x hx => ⟨hf, hd, h0, h25, hQ2, x, rfl, hx⟩
    rcases hres with ⟨l5, l6⟩ | ⟨kk, r, j, l5, l6, l7, l8⟩
    ·
      refine z_aload_n hR dMO_witness_63 (n := 64) rfl rfl ?_
      refine z_getR hR dMO_witness_64 (n := 67) rfl zgMO_84 (by decide) rfl rfl ?_
      refine z_iload_n hR dMO_witness_67 (n := 68) rfl rfl ?_
      refine z_iald hR (_) dMO_witness_68 (n := 69) rfl (by decide) rfl (by decide) rfl (by omega) ?_
      rw [l5]
      refine z_if_lt hR dMO_witness_69 (t := 82) (n := 72) rfl rfl (fun _ => ?_) (fun h69 => absurd (by decide) h69)
      refine z_iconst hR dMO_witness_82 (v := (-1)) (n := 83) rfl rfl ?_
      refine z_zret hR dMO_witness_83 rfl rfl (Nat.zero_le _) ?_
      exact hend _ (Or.inl ⟨rfl, l6⟩)
    have hk6 := l8.2.1
    have hk1 := l8.1
    by_cases k1 : k = -1
    ·
      subst k1
      refine z_aload_n hR dMO_witness_63 (n := 64) rfl rfl ?_
      refine z_getR hR dMO_witness_64 (n := 67) rfl zgMO_84 (by decide) rfl rfl ?_
      refine z_iload_n hR dMO_witness_67 (n := 68) rfl rfl ?_
      refine z_iald hR (_) dMO_witness_68 (n := 69) rfl (by decide) rfl (by decide) rfl (by omega) ?_
      rw [l5]
      refine z_if_ltN hR dMO_witness_69 (t := 82) (n := 72) rfl rfl (by omega) ?_
      refine z_iload_n hR dMO_witness_72 (n := 73) rfl rfl ?_
      refine z_aload_n hR dMO_witness_73 (n := 74) rfl rfl ?_
      refine z_getR hR dMO_witness_74 (n := 77) rfl zgMO_84 (by decide) rfl rfl ?_
      refine z_iload_n hR dMO_witness_77 (n := 78) rfl rfl ?_
      refine z_iald hR (_) dMO_witness_78 (n := 79) rfl (by decide) rfl (by decide) rfl (by omega) ?_
      rw [l5]
      refine z_icmp_lt hR dMO_witness_79 (t := 84) (n := 82) rfl rfl (fun _ => ?_) (fun h79 => absurd (by rw [show (-1 : Int32) < nI kk ↔ True from ⟨fun _ => trivial, fun _ => Int32.lt_of_lt_of_le (by decide : (-1 : Int32) < 0) (nI_pos' (by omega))⟩]; trivial) h79)
      refine z_iload_n hR dMO_witness_84 (n := 85) rfl rfl ?_
      refine z_iconst hR dMO_witness_85 (v := (-1)) (n := 86) rfl rfl ?_
      refine z_icmp_ne hR dMO_witness_86 (t := 98) (n := 89) rfl rfl (fun h86 => absurd h86 (fun q => q rfl)) (fun _ => ?_)
      refine z_aload_n hR dMO_witness_89 (n := 90) rfl rfl ?_
      refine z_getR hR dMO_witness_90 (n := 93) rfl zgMO_84 (by decide) rfl rfl ?_
      refine z_iload_n hR dMO_witness_93 (n := 94) rfl rfl ?_
      refine z_iald hR (_) dMO_witness_94 (n := 95) rfl (by decide) rfl (by decide) rfl (by omega) ?_
      rw [l5]
      refine z_goto hR dMO_witness_95 (t := 124) rfl ?_
      refine z_zret hR dMO_witness_124 rfl rfl (Nat.zero_le _) ?_
      exact hend _ (Or.inr ⟨kk, r, j, l8, fun _ => rfl, fun e => absurd e (by decide), fun i hi e => absurd e.symm (nI_m1 (by omega)), fun e => absurd rfl e⟩)
    by_cases k2 : k = -2
    ·
      subst k2
      refine z_aload_n hR dMO_witness_63 (n := 64) rfl rfl ?_
      refine z_getR hR dMO_witness_64 (n := 67) rfl zgMO_84 (by decide) rfl rfl ?_
      refine z_iload_n hR dMO_witness_67 (n := 68) rfl rfl ?_
      refine z_iald hR (_) dMO_witness_68 (n := 69) rfl (by decide) rfl (by decide) rfl (by omega) ?_
      rw [l5]
      refine z_if_ltN hR dMO_witness_69 (t := 82) (n := 72) rfl rfl (by omega) ?_
      refine z_iload_n hR dMO_witness_72 (n := 73) rfl rfl ?_
      refine z_aload_n hR dMO_witness_73 (n := 74) rfl rfl ?_
      refine z_getR hR dMO_witness_74 (n := 77) rfl zgMO_84 (by decide) rfl rfl ?_
      refine z_iload_n hR dMO_witness_77 (n := 78) rfl rfl ?_
      refine z_iald hR (_) dMO_witness_78 (n := 79) rfl (by decide) rfl (by decide) rfl (by omega) ?_
      rw [l5]
      refine z_icmp_lt hR dMO_witness_79 (t := 84) (n := 82) rfl rfl (fun _ => ?_) (fun h79 => absurd (Int32.lt_of_lt_of_le (by decide : (-2 : Int32) < 0) (nI_pos' (by omega))) h79)
      refine z_iload_n hR dMO_witness_84 (n := 85) rfl rfl ?_
      refine z_iconst hR dMO_witness_85 (v := (-1)) (n := 86) rfl rfl ?_
      refine z_icmp_ne hR dMO_witness_86 (t := 98) (n := 89) rfl rfl (fun _ => ?_) (fun h86 => absurd h86 (by decide))
      refine z_iload_n hR dMO_witness_98 (n := 99) rfl rfl ?_
      refine z_bipush hR dMO_witness_99 (v := (-2)) (n := 101) rfl rfl ?_
      refine z_icmp_ne hR dMO_witness_101 (t := 113) (n := 104) rfl rfl (fun h101 => absurd h101 (fun q => q rfl)) (fun _ => ?_)
      refine z_aload_n hR dMO_witness_104 (n := 105) rfl rfl ?_
      refine z_getR hR dMO_witness_105 (n := 108) rfl zgMO_87 (by decide) rfl rfl ?_
      refine z_iload_n hR dMO_witness_108 (n := 109) rfl rfl ?_
      refine z_iald hR (_) dMO_witness_109 (n := 110) rfl (by decide) rfl (by decide) rfl (by omega) ?_
      rw [l6]
      refine z_goto hR dMO_witness_110 (t := 124) rfl ?_
      refine z_zret hR dMO_witness_124 rfl rfl (Nat.zero_le _) ?_
      exact hend _ (Or.inr ⟨kk, r, j, l8, fun e => absurd e (by decide), fun _ => rfl, fun i hi e => absurd e.symm (fun q => nI_pos (show i < 2 ^ 31 by omega) (by rw [q]; decide)), fun _ e => absurd rfl e⟩)
    rcases pk_ix k (n := kk) (by omega) with h | h | ⟨i, hi, rfl⟩
    · exact absurd h (k_neg hk2 k1 k2)
    ·
      refine z_aload_n hR dMO_witness_63 (n := 64) rfl rfl ?_
      refine z_getR hR dMO_witness_64 (n := 67) rfl zgMO_84 (by decide) rfl rfl ?_
      refine z_iload_n hR dMO_witness_67 (n := 68) rfl rfl ?_
      refine z_iald hR (_) dMO_witness_68 (n := 69) rfl (by decide) rfl (by decide) rfl (by omega) ?_
      rw [l5]
      refine z_if_ltN hR dMO_witness_69 (t := 82) (n := 72) rfl rfl (by omega) ?_
      refine z_iload_n hR dMO_witness_72 (n := 73) rfl rfl ?_
      refine z_aload_n hR dMO_witness_73 (n := 74) rfl rfl ?_
      refine z_getR hR dMO_witness_74 (n := 77) rfl zgMO_84 (by decide) rfl rfl ?_
      refine z_iload_n hR dMO_witness_77 (n := 78) rfl rfl ?_
      refine z_iald hR (_) dMO_witness_78 (n := 79) rfl (by decide) rfl (by decide) rfl (by omega) ?_
      rw [l5]
      refine z_icmp_lt hR dMO_witness_79 (t := 84) (n := 82) rfl rfl (fun h79 => absurd h79 (Int32.not_lt.mpr h)) (fun _ => ?_)
      refine z_iconst hR dMO_witness_82 (v := (-1)) (n := 83) rfl rfl ?_
      refine z_zret hR dMO_witness_83 rfl rfl (Nat.zero_le _) ?_
      exact hend _ (Or.inr ⟨kk, r, j, l8, fun e => absurd e k1, fun e => absurd e k2, fun i hi e => absurd h (by rw [e]; exact nI_ge hi (by omega)), fun _ _ _ => rfl⟩)
    ·
      have hlt : nI i < nI kk := (nI_ltI (by omega) (by omega)).mpr hi
      refine z_aload_n hR dMO_witness_63 (n := 64) rfl rfl ?_
      refine z_getR hR dMO_witness_64 (n := 67) rfl zgMO_84 (by decide) rfl rfl ?_
      refine z_iload_n hR dMO_witness_67 (n := 68) rfl rfl ?_
      refine z_iald hR (_) dMO_witness_68 (n := 69) rfl (by decide) rfl (by decide) rfl (by omega) ?_
      rw [l5]
      refine z_if_ltN hR dMO_witness_69 (t := 82) (n := 72) rfl rfl (by omega) ?_
      refine z_iload_n hR dMO_witness_72 (n := 73) rfl rfl ?_
      refine z_aload_n hR dMO_witness_73 (n := 74) rfl rfl ?_
      refine z_getR hR dMO_witness_74 (n := 77) rfl zgMO_84 (by decide) rfl rfl ?_
      refine z_iload_n hR dMO_witness_77 (n := 78) rfl rfl ?_
      refine z_iald hR (_) dMO_witness_78 (n := 79) rfl (by decide) rfl (by decide) rfl (by omega) ?_
      rw [l5]
      refine z_icmp_lt hR dMO_witness_79 (t := 84) (n := 82) rfl rfl (fun _ => ?_) (fun h79 => absurd hlt h79)
      refine z_iload_n hR dMO_witness_84 (n := 85) rfl rfl ?_
      refine z_iconst hR dMO_witness_85 (v := (-1)) (n := 86) rfl rfl ?_
      refine z_icmp_ne hR dMO_witness_86 (t := 98) (n := 89) rfl rfl (fun _ => ?_) (fun h86 => absurd h86 k1)
      refine z_iload_n hR dMO_witness_98 (n := 99) rfl rfl ?_
      refine z_bipush hR dMO_witness_99 (v := (-2)) (n := 101) rfl rfl ?_
      refine z_icmp_ne hR dMO_witness_101 (t := 113) (n := 104) rfl rfl (fun _ => ?_) (fun h101 => absurd h101 k2)
      refine z_aload_n hR dMO_witness_113 (n := 114) rfl rfl ?_
      refine z_getR hR dMO_witness_114 (n := 117) rfl zgMO_90 (by decide) rfl rfl ?_
      refine z_bipush hR dMO_witness_117 (v := nI 6) (n := 119) rfl rfl ?_
      refine z_iload_n hR dMO_witness_119 (n := 120) rfl rfl ?_
      refine z_imulN hR dMO_witness_120 (n := 121) rfl ?_
      refine z_iload_n hR dMO_witness_121 (n := 122) rfl rfl ?_
      refine z_iaddN hR dMO_witness_122 (n := 123) rfl ?_
      refine z_iald hR (_) dMO_witness_123 (n := 124) rfl (by decide) rfl (by decide) rfl (by omega) ?_
      rw [l7 i hi]
      refine z_zret hR dMO_witness_124 rfl rfl (Nat.zero_le _) ?_
      exact hend _ (Or.inr ⟨kk, r, j, l8, fun e => absurd e k1, fun e => absurd e k2, fun i2 h2 e => by rw [(nI_eq (by omega) (by omega)).mp e], fun _ _ e => absurd rfl (e i hi)⟩)
  have f1 : zfr srL σ (zwA σ 45 0 0) := zfr.rf.wA _ (by decide)
  have d1 : zfd [0, 25, 34, 35] σ (zwA σ 45 0 0) := zfd.rf.w _ (by decide)
  have hQ1 : mQ B (zwA σ 45 0 0) := by
    unfold mQ
    rw [zwA_n _ _ _ _ (by decide : (70 : Nat) ≠ 45), zwA_n _ _ _ _ (by decide : (71 : Nat) ≠ 45), zwA_n _ _ _ _ (by decide : (72 : Nat) ≠ 45)]
    exact hQ
  have hk1 : (zwA σ 45 0 0).1 45 25 = 0 ∨ ((zwA σ 45 0 0).1 45 25 = 1 ∧ mD (zwA σ 45 0 0) g n L) := by
    rw [zwA_sn _ _ _ _ (by decide)]
    rcases hk with h | ⟨h, h2⟩
    · exact Or.inl h
    · exact Or.inr ⟨h, mD_fr (zfr.w1 (o := 45)) (by decide) (by decide) (by decide) (by decide) (by decide) h2⟩
  by_cases h70 : σ.1 70 s = 0
  ·
    have hcs := m_MO_search hs6 (zwA σ 45 0 0) (mF_fr (zfr.w1 (o := 45)) d1 (by decide) (by decide) (by decide) (by decide) (by decide) hF) hk1 (val := val) (by rw [zwA_n _ _ _ _ (by decide)]; exact hEv) hvs (by rw [zwA_n _ _ _ _ (by decide)]; exact hPr)
    rw [hBd] at hcs
    refine z_aload_n hR dMO_witness_0 (n := 1) rfl rfl ?_
    refine z_aload_n hR dMO_witness_1 (n := 2) rfl rfl ?_
    refine z_getI hR dMO_witness_2 (n := 5) rfl zgMO_151 (by decide) rfl rfl ?_
    rw [hl]
    refine z_if_eq hR dMO_witness_5 (t := 12) (n := 8) rfl rfl (fun h5 => absurd h5 (by decide)) (fun _ => ?_)
    refine z_iconst hR dMO_witness_8 (v := 0) (n := 9) rfl rfl ?_
    refine z_goto hR dMO_witness_9 (t := 13) rfl ?_
    refine z_putI hR dMO_witness_13 (n := 16) rfl zpMO_93 (by decide) rfl rfl ?_
    refine z_aload_n hR dMO_witness_16 (n := 17) rfl rfl ?_
    refine z_getI hR dMO_witness_17 (n := 20) rfl zgMO_151 (by decide) rfl rfl ?_
    rw [zwA_sn _ _ _ _ (by decide), hl]
    refine z_if_eq hR dMO_witness_20 (t := 36) (n := 23) rfl rfl (fun h20 => absurd h20 (by decide)) (fun _ => ?_)
    refine z_iload_n hR dMO_witness_23 (n := 24) rfl rfl ?_
    refine z_callS1 hR dMO_witness_24 (n := 27) rfl zcMO_174 zkMO_isState (by decide) (Nat.le_of_ble_eq_true rfl) (Nat.zero_le _) (m_MO_isS hs6 _) (fun r24 s24 h24 => ?_)
    obtain ⟨rfl, e24⟩ := h24
    subst s24
    refine z_if_eq hR dMO_witness_27 (t := 36) (n := 30) rfl rfl (fun h27 => absurd h27 (by decide)) (fun _ => ?_)
    refine z_iload_n hR dMO_witness_30 (n := 31) rfl rfl ?_
    refine z_bipush hR dMO_witness_31 (v := (-2)) (n := 33) rfl rfl ?_
    refine z_icmp_ge hR dMO_witness_33 (t := 49) (n := 36) rfl rfl (fun _ => ?_) (fun h33 => absurd (Int32.not_lt.mp hk2) h33)
    refine z_aload_n hR dMO_witness_49 (n := 50) rfl rfl ?_
    refine z_getR hR dMO_witness_50 (n := 53) rfl zgMO_84 (by decide) rfl rfl ?_
    refine z_iload_n hR dMO_witness_53 (n := 54) rfl rfl ?_
    refine z_iald hR (_) dMO_witness_54 (n := 55) rfl (by decide) rfl (by decide) rfl (by omega) ?_
    rw [zwA_n _ _ _ _ (by decide), h70]
    refine z_if_ne hR dMO_witness_55 (t := 63) (n := 58) rfl rfl (fun h55 => absurd h55 (fun q => q rfl)) (fun _ => ?_)
    refine z_aload_n hR dMO_witness_58 (n := 59) rfl rfl ?_
    refine z_iload_n hR dMO_witness_59 (n := 60) rfl rfl ?_
    refine z_callV1 hR dMO_witness_60 (n := 63) rfl zcMO_223 zkMO_search (by decide) (Nat.le_of_ble_eq_true rfl) (by decide) rfl rfl (Nat.zero_le _) hcs (fun r60 s60 h60 => ?_)
    obtain ⟨rfl, wf, wd, w25, wD, wR, wo⟩ := h60
    refine fin s60 (f1.tr wf) (d1.tr (wd.mo (by decide))) (by rw [wd 0 (by decide), zwA_ss]) (Or.inr ⟨w25, wD⟩) (fun s2 hs2 => ?_) wR
    by_cases e : s2 = s
    · exact e ▸ Or.inr wR
    · obtain ⟨o1, o2, o3⟩ := wo s2 hs2 e
      rcases hQ1 s2 hs2 with h | h
      · exact Or.inl (o1.trans h)
      · refine Or.inr ?_
        rcases h with ⟨h, h2⟩ | ⟨k3, r3, j3, h, h2, h3, h4⟩
        · exact Or.inl ⟨o1.trans h, h2⟩
        · exact Or.inr ⟨k3, r3, j3, o1.trans h, o2.trans h2, fun i hi => (o3 i (by have := h4.2.1; omega)).trans (h3 i hi), h4⟩
  ·
    have hres : mR B (σ.1 70) (σ.1 71) (σ.1 72) s := (hQ s hs6).resolve_left h70
    refine z_aload_n hR dMO_witness_0 (n := 1) rfl rfl ?_
    refine z_aload_n hR dMO_witness_1 (n := 2) rfl rfl ?_
    refine z_getI hR dMO_witness_2 (n := 5) rfl zgMO_151 (by decide) rfl rfl ?_
    rw [hl]
    refine z_if_eq hR dMO_witness_5 (t := 12) (n := 8) rfl rfl (fun h5 => absurd h5 (by decide)) (fun _ => ?_)
    refine z_iconst hR dMO_witness_8 (v := 0) (n := 9) rfl rfl ?_
    refine z_goto hR dMO_witness_9 (t := 13) rfl ?_
    refine z_putI hR dMO_witness_13 (n := 16) rfl zpMO_93 (by decide) rfl rfl ?_
    refine z_aload_n hR dMO_witness_16 (n := 17) rfl rfl ?_
    refine z_getI hR dMO_witness_17 (n := 20) rfl zgMO_151 (by decide) rfl rfl ?_
    rw [zwA_sn _ _ _ _ (by decide), hl]
    refine z_if_eq hR dMO_witness_20 (t := 36) (n := 23) rfl rfl (fun h20 => absurd h20 (by decide)) (fun _ => ?_)
    refine z_iload_n hR dMO_witness_23 (n := 24) rfl rfl ?_
    refine z_callS1 hR dMO_witness_24 (n := 27) rfl zcMO_174 zkMO_isState (by decide) (Nat.le_of_ble_eq_true rfl) (Nat.zero_le _) (m_MO_isS hs6 _) (fun r24 s24 h24 => ?_)
    obtain ⟨rfl, e24⟩ := h24
    subst s24
    refine z_if_eq hR dMO_witness_27 (t := 36) (n := 30) rfl rfl (fun h27 => absurd h27 (by decide)) (fun _ => ?_)
    refine z_iload_n hR dMO_witness_30 (n := 31) rfl rfl ?_
    refine z_bipush hR dMO_witness_31 (v := (-2)) (n := 33) rfl rfl ?_
    refine z_icmp_ge hR dMO_witness_33 (t := 49) (n := 36) rfl rfl (fun _ => ?_) (fun h33 => absurd (Int32.not_lt.mp hk2) h33)
    refine z_aload_n hR dMO_witness_49 (n := 50) rfl rfl ?_
    refine z_getR hR dMO_witness_50 (n := 53) rfl zgMO_84 (by decide) rfl rfl ?_
    refine z_iload_n hR dMO_witness_53 (n := 54) rfl rfl ?_
    refine z_iald hR (_) dMO_witness_54 (n := 55) rfl (by decide) rfl (by decide) rfl (by omega) ?_
    rw [zwA_n _ _ _ _ (by decide)]
    refine z_if_ne hR dMO_witness_55 (t := 63) (n := 58) rfl rfl (fun _ => ?_) (fun h55 => absurd h55 h70)
    refine fin _ f1 d1 (by rw [zwA_ss]) hk1 hQ1 ?_
    rw [zwA_n _ _ _ _ (by decide), zwA_n _ _ _ _ (by decide), zwA_n _ _ _ _ (by decide)]
    exact hres
