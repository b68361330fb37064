/-! formula of both -/
theorem tcn_ndg : ∀ nd : nL3, tcn (ndg nd) nd.length = ntn nd
  | [] => rfl
  | x :: t => by
    have h : ∀ m, m ≤ t.length → tcn (ndg (x :: t)) m = tcn (ndg t) m := fun m hm => by
      induction m with
      | zero => rfl
      | succ m ih => rw [tcn, tcn, ih (by omega), ndg_old _ _ (by omega)]
    rw [List.length_cons, tcn, h _ (Nat.le_refl _), tcn_ndg t, ndg_new, ntn]
/-- the class's form is that of the tree -/
def fOk (σ : zS) (g : Nat → Int32 × Int32 × Int32) (n : Nat) : Prop := nO σ (nfx g (n - 1) false) ∧ σ.1 34 4 = nI (tcn g n) ∧ nCf (σ.1 35) (σ.1 36) (σ.1 37) (σ.1 39) (σ.1 38) (nfx g (n - 1) false).length 0
theorem m_NF_take {g : Nat → Int32 × Int32 × Int32} {n : Nat} (hn : n ≤ 32) (hn0 : 0 < n) (hg : tTT g 0 (n - 1)) (ht : tcn g n ≤ 5) (σ : zS) (hp : σ.1 2 3 = nI n) (ha : ∀ i, i < n → σ.1 3 i = (g i).1 ∧ σ.1 4 i = (g i).2.1 ∧ σ.1 5 i = (g i).2.2) : zM yNF_take cNF_take 2 none 3 100 0 [.ref 34, .ref 2] σ (fun r σ2 => r = none ∧ zfr [34, 35, 36, 37, 38, 39, 40, 41] σ σ2 ∧ fOk σ2 g n) (fun _ _ => False) := by
  refine zM.of [some (.ref 34), some (.ref 2)] (by decide) 0 rfl (fun _ => Nat.le_of_ble_eq_true rfl) (fun Z hR => ?_)
  have hlen : (nfx g (n - 1) false).length ≤ 37 := by
    have q := (nfx_len n (n - 1) 0 false (by omega) hg (by omega)).1
    rw [show n - 1 + 1 = n by omega] at q
    rw [tcn] at q
    omega
  refine z_aload_n hR dNF_take_0 (n := 1) rfl rfl ?_
  refine z_aload_n hR dNF_take_1 (n := 2) rfl rfl ?_
  refine z_callV1 hR dNF_take_2 (n := 5) rfl zcNF_39 zkNF_write (by decide) (Nat.le_of_ble_eq_true rfl) (by decide) rfl rfl (Nat.zero_le _) (m_NF_write hn hn0 hg ht σ hp ha) (fun r2 s2 h2 => ?_)
  obtain ⟨rfl, hf, hO⟩ := h2
  have hsl : slc (s2.1 35) 0 (nfx g (n - 1) false) := fun i hi => by rw [Nat.zero_add]; exact hO.2 i hi
  have hTM := tm_nfx n (n - 1) 0 0 false (by omega) hg (by omega) hsl
  rw [Nat.zero_add] at hTM
  have hdd : ddF (s2.1 35) (nfx g (n - 1) false).length 0 = tcn g n := by
    have q := ntm_nfx n (n - 1) 0 false (by omega) hg (by omega)
    rw [show n - 1 + 1 = n by omega] at q
    rw [ddF_ntm hsl, ← q]
    rfl
  refine z_aload_n hR dNF_take_5 (n := 6) rfl rfl ?_
  refine z_callV0 hR dNF_take_6 (n := 9) rfl zcNF_43 zkNF_connect (by decide) (Nat.le_of_ble_eq_true rfl) (by decide) rfl rfl (Nat.zero_le _) (m_NF_connect hlen s2 hO.1 hTM (by rw [hdd]; exact ht)) (fun r6 s6 h6 => ?_)
  obtain ⟨rfl, hf2, hk2, ht2, hC2⟩ := h6
  refine z_vret hR dNF_take_9 rfl (Nat.zero_le _) ?_
  refine ⟨rfl, (hf.mo (by decide)).tr (hf2.mo (by decide)), ⟨by rw [hk2 1 (by decide)]; exact hO.1, by rw [hf2.1 35 (by decide)]; exact hO.2⟩, by rw [ht2, hdd], ?_⟩
  rw [hf2.1 35 (by decide)]
  exact hC2
theorem aRd_ok {T : Nat → Int32} {n : Nat} {nd : nL3} (h : aRd T n nd) : 0 < nd.length ∧ nd.length ≤ n ∧ tTT (ndg nd) 0 (nd.length - 1) ∧ ntn nd = ntT T n := by
  obtain ⟨nd0, ops, opd, mx, h1, h2, rfl⟩ := h
  have q := aEnd_ok h1
  exact ⟨q.2.2.1, q.2.2.2.1, q.2.2.2.2.1, q.2.2.2.2.2.1⟩
theorem ntT_le (T : Nat → Int32) : ∀ n, ntT T n ≤ n
  | 0 => Nat.le_refl _
  | n + 1 => by
    have := ntT_le T n
    rw [ntT]
    cases tmd (T n) <;> simp <;> omega
theorem m_PC_formula {n : Nat} (hn : n ≤ 32) (σ : zS) (hN : σ.1 0 1 = nI n) (hch : ∀ j, j < n → vp_nar .char (σ.1 1 j) = σ.1 1 j) : zM yPC_formula cPC_formula 1 (some .int) 6 160 1 [.ref 0] σ (fun r σ2 => ∃ nd, aRd (σ.1 1) n nd ∧ ntn nd ≤ 5 ∧ r = some (.int (nI (ntn nd))) ∧ zfr [0, 2, 3, 4, 5, 6, 7, 34, 35, 36, 37, 38, 39, 40, 41] σ σ2 ∧ σ2.1 0 1 = 0 ∧ σ2.1 0 10 = 0 ∧ fOk σ2 (ndg nd) nd.length) (fun x σ2 => zfr [2, 3, 4, 5, 6, 7] σ σ2 ∧ ((x = 0 ∧ ∀ nd, ¬ aRd (σ.1 1) n nd) ∨ (x = 1 ∧ ∃ nd, aRd (σ.1 1) n nd ∧ 5 < ntn nd))) := by
  refine zM.of [some (.ref 0)] (by decide) 0 rfl (fun _ => Nat.le_of_ble_eq_true rfl) (fun Z hR => ?_)
  refine z_aload_n hR dPC_formula_0 (n := 1) rfl rfl ?_
  refine z_getR hR dPC_formula_1 (n := 4) rfl zgPC_16 (by decide) rfl rfl ?_
  refine z_aload_n hR dPC_formula_4 (n := 5) rfl rfl ?_
  refine z_getR hR dPC_formula_5 (n := 8) rfl zgPC_9 (by decide) rfl rfl ?_
  refine z_aload_n hR dPC_formula_8 (n := 9) rfl rfl ?_
  refine z_getI hR dPC_formula_9 (n := 12) rfl zgPC_67 (by decide) rfl rfl ?_
  rw [hN]
  refine z_callV2 hR dPC_formula_12 (n := 15) rfl zcPC_71 zkRE_reads (by decide) (Nat.le_of_ble_eq_true rfl) (by decide) rfl rfl (Nat.zero_le _) (m_RE_reads hn σ hch) (fun r12 s12 h12 => ?_)
  obtain ⟨hf, ⟨rfl, hno⟩ | ⟨rfl, nd, hRd, hnd, hnds, htm⟩⟩ := h12
  ·
    refine z_if_ne hR dPC_formula_15 (t := 26) (n := 18) rfl rfl (fun h15 => absurd h15 (fun q => q rfl)) (fun _ => ?_)
    refine z_throw hR dPC_formula_18 dPC_formula_21 dPC_formula_22 dPC_formula_25 ztPC_75 (by decide) (by decide) (by decide) ?_
    exact ⟨hf, Or.inl ⟨rfl, hno⟩⟩
  obtain ⟨a1, a2, a3, a4⟩ := aRd_ok hRd
  have a5 := ntT_le (σ.1 1) n
  refine z_if_ne hR dPC_formula_15 (t := 26) (n := 18) rfl rfl (fun _ => ?_) (fun h15 => absurd h15 (by decide))
  refine z_aload_n hR dPC_formula_26 (n := 27) rfl rfl ?_
  refine z_getR hR dPC_formula_27 (n := 30) rfl zgPC_16 (by decide) rfl rfl ?_
  refine z_getI hR dPC_formula_30 (n := 33) rfl zgPC_78 (by decide) rfl rfl ?_
  rw [htm]
  refine z_iconst hR dPC_formula_33 (v := nI 5) (n := 34) rfl rfl ?_
  refine z_icmp_leN hR dPC_formula_34 (t := 45) (n := 37) rfl rfl (by omega) (by omega) (fun h34 => ?_) (fun h34 => ?_)
  · refine z_aload_n hR dPC_formula_45 (n := 46) rfl rfl ?_
    refine z_getR hR dPC_formula_46 (n := 49) rfl zgPC_61 (by decide) rfl rfl ?_
    refine z_aload_n hR dPC_formula_49 (n := 50) rfl rfl ?_
    refine z_getR hR dPC_formula_50 (n := 53) rfl zgPC_16 (by decide) rfl rfl ?_
    refine z_callV1 hR dPC_formula_53 (n := 56) rfl zcPC_84 zkNF_take (by decide) (Nat.le_of_ble_eq_true rfl) (by decide) rfl rfl (Nat.zero_le _) (m_NF_take (g := ndg nd) (n := nd.length) (by omega) a1 a3 (by rw [tcn_ndg]; omega) _ hnd (fun i hi => nds_at hnds i hi)) (fun r53 s53 h53 => ?_)
    obtain ⟨rfl, hf2, hO⟩ := h53
    refine z_aload_n hR dPC_formula_56 (n := 57) rfl rfl ?_
    refine z_iconst hR dPC_formula_57 (v := 0) (n := 58) rfl rfl ?_
    refine z_putI hR dPC_formula_58 (n := 61) rfl zpPC_67 (by decide) rfl rfl ?_
    refine z_aload_n hR dPC_formula_61 (n := 62) rfl rfl ?_
    refine z_iconst hR dPC_formula_62 (v := 0) (n := 63) rfl rfl ?_
    refine z_putZ hR dPC_formula_63 (n := 66) rfl zpPC_90 (by decide) rfl rfl (by first | exact Or.inl rfl | exact Or.inr rfl | assumption) ?_
    refine z_aload_n hR dPC_formula_66 (n := 67) rfl rfl ?_
    refine z_getR hR dPC_formula_67 (n := 70) rfl zgPC_61 (by decide) rfl rfl ?_
    refine z_getI hR dPC_formula_70 (n := 73) rfl zgPC_94 (by decide) rfl rfl ?_
    refine z_zret hR dPC_formula_73 rfl rfl (Nat.zero_le _) ?_
    refine ⟨nd, hRd, by omega, ?_, (((hf.mo (by decide)).tr (hf2.mo (by decide))).wA _ (by decide)).wA _ (by decide), by simp [zwA_1], by simp [zwA_1], ?_⟩
    · have := hO.2.1
      rw [tcn_ndg] at this
      rw [zwA_n _ _ _ _ (by decide), zwA_n _ _ _ _ (by decide), this]
    · unfold fOk nO at *
      rw [zwA_n _ _ _ _ (by decide), zwA_n _ _ _ _ (by decide), zwA_n _ _ _ _ (by decide), zwA_n _ _ _ _ (by decide), zwA_n _ _ _ _ (by decide), zwA_n _ _ _ _ (by decide), zwA_n _ _ _ _ (by decide), zwA_n _ _ _ _ (by decide), zwA_n _ _ _ _ (by decide), zwA_n _ _ _ _ (by decide), zwA_n _ _ _ _ (by decide), zwA_n _ _ _ _ (by decide)]
      exact hO
  · refine z_throw hR dPC_formula_37 dPC_formula_40 dPC_formula_41 dPC_formula_44 ztPC_81 (by decide) (by decide) (by decide) ?_
    exact ⟨hf, Or.inr ⟨rfl, nd, hRd, by omega⟩⟩
theorem tcn_n (g : Nat → Int32 × Int32 × Int32) : ∀ n, tcn g n ≤ n
  | 0 => Nat.le_refl _
  | n + 1 => by
    have := tcn_n g n
    rw [tcn]
    cases tmd (g n).1 <;> simp <;> omega
theorem m_MO_countTimed {g : Nat → Int32 × Int32 × Int32} {n : Nat} (hn : n ≤ 32) (σ : zS) (hp : σ.1 45 10 = nI n) (ha : ∀ i, i < n → σ.1 51 i = (g i).1) : zM yMO_countTimed cMO_countTimed 3 (some .int) 1 40 0 [.ref 45] σ (fun r σ2 => r = some (.int (nI (tcn g n))) ∧ σ2 = σ) (fun _ _ => False) := by
  refine zM.of [some (.ref 45), none, none] (by decide) 2 rfl (fun _ => Nat.le_of_ble_eq_true rfl) (fun Z hR => ?_)
  have key : ∀ (m i : Nat), i + m = n → Z 0 4 [some (.ref 45), some (.int (nI (tcn g i))), some (.int (nI i))] [] σ := by
    intro m
    induction m with
    | zero =>
      intro i hi
      obtain rfl : i = n := by omega
      refine z_iload_n hR dMO_countTimed_4 (n := 5) rfl rfl ?_
      refine z_aload_n hR dMO_countTimed_5 (n := 6) rfl rfl ?_
      refine z_getI hR dMO_countTimed_6 (n := 9) rfl zgMO_104 (by decide) rfl rfl ?_
      rw [hp]
      refine z_icmp_geN hR dMO_countTimed_9 (t := 38) (n := 12) rfl rfl (by omega) (by omega) (fun h9 => ?_) (fun h9 => absurd h9 (by omega))
      refine z_iload_n hR dMO_countTimed_38 (n := 39) rfl rfl ?_
      refine z_zret hR dMO_countTimed_39 rfl rfl (Nat.zero_le _) ?_
      exact ⟨rfl, rfl⟩
    | succ m ih =>
      intro i hi
      have hgo := ih (i + 1) (by omega)
      rw [tcn] at hgo
      refine z_iload_n hR dMO_countTimed_4 (n := 5) rfl rfl ?_
      refine z_aload_n hR dMO_countTimed_5 (n := 6) rfl rfl ?_
      refine z_getI hR dMO_countTimed_6 (n := 9) rfl zgMO_104 (by decide) rfl rfl ?_
      rw [hp]
      refine z_icmp_geN hR dMO_countTimed_9 (t := 38) (n := 12) rfl rfl (by omega) (by omega) (fun h9 => absurd h9 (by omega)) (fun h9 => ?_)
      refine z_iload_n hR dMO_countTimed_12 (n := 13) rfl rfl ?_
      refine z_aload_n hR dMO_countTimed_13 (n := 14) rfl rfl ?_
      refine z_getR hR dMO_countTimed_14 (n := 17) rfl zgMO_25 (by decide) rfl rfl ?_
      refine z_iload_n hR dMO_countTimed_17 (n := 18) rfl rfl ?_
      refine z_iald hR (_) dMO_countTimed_18 (n := 19) rfl (by decide) rfl (by decide) rfl (by omega) ?_
      rw [ha i (by omega)]
      refine z_callS1 hR dMO_countTimed_19 (n := 22) rfl zcMO_134 zkMO_isTimed (by decide) (Nat.le_of_ble_eq_true rfl) (Nat.zero_le _) (m_MO_isTimed (g i).1 σ) (fun r19 s19 h19 => ?_)
      obtain ⟨rfl, e19⟩ := h19
      subst s19
      refine z_if_eqB hR dMO_countTimed_22 (t := 29) (n := 25) rfl rfl (fun h22 => ?_) (fun h22 => ?_)
      · rw [h22] at hgo
        refine z_iconst hR dMO_countTimed_29 (v := nI 0) (n := 30) rfl rfl ?_
        refine z_iaddN hR dMO_countTimed_30 (n := 31) rfl ?_
        refine z_istore_n hR dMO_countTimed_31 (n := 32) rfl (by decide) rfl ?_
        refine z_iincN hR 1 dMO_countTimed_32 (n := 35) rfl rfl (by decide) rfl rfl ?_
        refine z_goto hR dMO_countTimed_35 (t := 4) rfl ?_
        exact hgo
      · rw [h22] at hgo
        refine z_iconst hR dMO_countTimed_25 (v := nI 1) (n := 26) rfl rfl ?_
        refine z_goto hR dMO_countTimed_26 (t := 30) rfl ?_
        refine z_iaddN hR dMO_countTimed_30 (n := 31) rfl ?_
        refine z_istore_n hR dMO_countTimed_31 (n := 32) rfl (by decide) rfl ?_
        refine z_iincN hR 1 dMO_countTimed_32 (n := 35) rfl rfl (by decide) rfl rfl ?_
        refine z_goto hR dMO_countTimed_35 (t := 4) rfl ?_
        exact hgo
  refine z_iconst hR dMO_countTimed_0 (v := nI 0) (n := 1) rfl rfl ?_
  refine z_istore_n hR dMO_countTimed_1 (n := 2) rfl (by decide) rfl ?_
  refine z_iconst hR dMO_countTimed_2 (v := nI 0) (n := 3) rfl rfl ?_
  refine z_istore_n hR dMO_countTimed_3 (n := 4) rfl (by decide) rfl ?_
  exact key n 0 (by omega)
/-- the reference's tree and normal form -/
def mOk (σ : zS) (g : Nat → Int32 × Int32 × Int32) (n : Nat) : Prop := σ.1 45 4 = nI n ∧ (∀ i, i < n → σ.1 47 i = (g i).1 ∧ σ.1 48 i = (g i).2.1 ∧ σ.1 49 i = (g i).2.2) ∧ σ.1 45 9 = nI (tcn g n) ∧ (∀ x, x < n → tmd (g x).1 = true → σ.1 50 x = nI (tcn g x)) ∧ mO σ (nfx g (n - 1) false)
theorem aRm_rd {T : Nat → Int32} {n mx : Nat} {nd : nL3} (h : aRm T n mx nd) (h6 : mx ≤ 6) : aRd T n nd := by
  obtain ⟨nd0, ops, opd, h1, h2⟩ := h
  exact ⟨nd0, ops, opd, mx, h1, h6, h2⟩
theorem aRd_rm {T : Nat → Int32} {n : Nat} {nd : nL3} (h : aRd T n nd) : ∃ mx, mx ≤ 6 ∧ aRm T n mx nd := by
  obtain ⟨nd0, ops, opd, mx, h1, h6, h2⟩ := h
  exact ⟨mx, h6, nd0, ops, opd, h1, h2⟩
theorem aRm_det {T : Nat → Int32} {n mx mx2 : Nat} {nd nd2 : nL3} (h : aRm T n mx nd) (h2 : aRm T n mx2 nd2) : mx = mx2 ∧ nd = nd2 := by
  obtain ⟨nd0, ops, opd, h1, rfl⟩ := h
  obtain ⟨nd1, ops1, opd1, g1, rfl⟩ := h2
  rw [h1] at g1
  injection g1 with g1
  injection g1 with e1 g1
  injection g1 with e2 g1
  injection g1 with e3 g1
  injection g1 with e4 g1
  injection g1 with e5 e6
  exact ⟨e5, by rw [e1, e2, e3]⟩
theorem zfg_1 (σ : zS) : zfr [45, 70] σ (zfg σ 6) ∧ zfd [25] σ (zfg σ 6) ∧ (zfg σ 6).1 45 25 = 0 ∧ ∀ s, s < 6 → (zfg σ 6).1 70 s = 0 := by
  refine ⟨((((((zfr.rf.wA _ (by decide)).wA _ (by decide)).wA _ (by decide)).wA _ (by decide)).wA _ (by decide)).wA _ (by decide)).wA _ (by decide), ((((((zfd.rf.w _ (by decide)).o _ (by decide)).o _ (by decide)).o _ (by decide)).o _ (by decide)).o _ (by decide)).o _ (by decide), by simp [zfg, zwA_1], fun s hs => ?_⟩
  rcases (by omega : s = 0 ∨ s = 1 ∨ s = 2 ∨ s = 3 ∨ s = 4 ∨ s = 5) with h | h | h | h | h | h <;> subst h <;> simp [zfg, zwA_1]
