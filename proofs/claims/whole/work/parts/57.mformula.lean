/-! formula of the reference -/
abbrev mFp : List Nat := [45, 47, 48, 49, 50, 51, 52, 53, 54, 55, 56, 70]
abbrev mFd : List Nat := [0, 1, 3, 4, 9, 10, 14, 16, 18, 19, 25]
set_option maxRecDepth 10000 in
theorem m_MO_formula {n : Nat} (hn : n ≤ 32) (σ : zS) (hN : σ.1 45 1 = nI n) : zM yMO_formula cMO_formula 2 (some .int) 4 130 0 [.ref 45] σ (fun r σ2 => (∃ b : Int32, r = some (.int b)) ∧ zfr mFp σ σ2 ∧ zfd mFd σ σ2 ∧ ((σ2.1 45 0 = 1 ∧ (∀ nd, ¬ aRd (σ.1 46) n nd) ∧ zfr [45, 51, 52, 53, 54, 55] σ σ2 ∧ zfd [0, 10, 14, 16, 18] σ σ2) ∨ (σ2.1 45 0 = 2 ∧ (∃ nd, aRd (σ.1 46) n nd ∧ 5 < ntn nd) ∧ zfr [45, 51, 52, 53, 54, 55] σ σ2 ∧ zfd [0, 10, 14, 16, 18] σ σ2) ∨ (σ2.1 45 0 = 0 ∧ ∃ nd, aRd (σ.1 46) n nd ∧ ntn nd ≤ 5 ∧ r = some (.int (nI (ntn nd))) ∧ mOk σ2 (ndg nd) nd.length ∧ σ2.1 45 3 = 1 ∧ σ2.1 45 1 = 0 ∧ σ2.1 45 25 = 0 ∧ ∀ s, s < 6 → σ2.1 70 s = 0))) (fun _ _ => False) := by
  refine zM.of [some (.ref 45), none] (by decide) 1 rfl (fun _ => Nat.le_of_ble_eq_true rfl) (fun Z hR => ?_)
  refine z_aload_n hR dMO_formula_0 (n := 1) rfl rfl ?_
  refine z_aload_n hR dMO_formula_1 (n := 2) rfl rfl ?_
  refine z_callV0 hR dMO_formula_2 (n := 5) rfl zcMO_137 zkMO_reads (by decide) (Nat.le_of_ble_eq_true rfl) (by decide) rfl rfl (Nat.zero_le _) (m_MO_reads hn σ hN) (fun r2 s2 h2 => ?_)
  obtain ⟨hf, hk, ⟨rfl, hno⟩ | ⟨rfl, mx, nd, hRm, hmx, hdp, hmd, hnds⟩⟩ := h2
  ·
    refine z_if_eq hR dMO_formula_5 (t := 17) (n := 8) rfl rfl (fun _ => ?_) (fun h5 => absurd rfl h5)
    refine z_iconst hR dMO_formula_17 (v := 1) (n := 18) rfl rfl ?_
    refine z_goto hR dMO_formula_18 (t := 34) rfl ?_
    refine z_putI hR dMO_formula_34 (n := 37) rfl zpMO_93 (by decide) rfl rfl ?_
    refine z_aload_n hR dMO_formula_37 (n := 38) rfl rfl ?_
    refine z_getI hR dMO_formula_38 (n := 41) rfl zgMO_93 (by decide) rfl rfl ?_
    rw [zwA_ss]
    refine z_if_le hR dMO_formula_41 (t := 46) (n := 44) rfl rfl (fun h41 => absurd h41 (by decide)) (fun _ => ?_)
    refine z_iconst hR dMO_formula_44 (v := 0) (n := 45) rfl rfl ?_
    refine z_zret hR dMO_formula_45 rfl rfl (Nat.zero_le _) ?_
    refine ⟨⟨_, rfl⟩, (hf.mo (by decide)).wA _ (by decide), (hk.mo (by decide)).w _ (by decide), Or.inl ⟨by rw [zwA_ss], fun nd h => ?_, (hf.mo (by decide)).wA _ (by decide), (hk.mo (by decide)).w _ (by decide)⟩⟩
    obtain ⟨mx, _, h⟩ := aRd_rm h
    exact hno mx nd h
  refine z_if_eq hR dMO_formula_5 (t := 17) (n := 8) rfl rfl (fun h5 => absurd h5 (by decide)) (fun _ => ?_)
  refine z_aload_n hR dMO_formula_8 (n := 9) rfl rfl ?_
  refine z_getI hR dMO_formula_9 (n := 12) rfl zgMO_124 (by decide) rfl rfl ?_
  rw [hdp]
  refine z_bipush hR dMO_formula_12 (v := nI 6) (n := 14) rfl rfl ?_
  refine z_icmp_leN hR dMO_formula_14 (t := 21) (n := 17) rfl rfl (by omega) (by omega) (fun h14 => ?_) (fun h14 => ?_)
  · have hRd := aRm_rd hRm h14
    obtain ⟨a1, a2, a3, a4⟩ := aRd_ok hRd
    have a5 := ntT_le (σ.1 46) n
    have hat := nds_at hnds
    refine z_aload_n hR dMO_formula_21 (n := 22) rfl rfl ?_
    refine z_callV0 hR dMO_formula_22 (n := 25) rfl zcMO_141 zkMO_countTimed (by decide) (Nat.le_of_ble_eq_true rfl) (by decide) rfl rfl (Nat.zero_le _) (m_MO_countTimed (g := ndg nd) (n := nd.length) (by omega) s2 hmd (fun i hi => (hat i hi).1)) (fun r22 s22 h22 => ?_)
    obtain ⟨rfl, e22⟩ := h22
    subst s22
    rw [tcn_ndg]
    refine z_iconst hR dMO_formula_25 (v := nI 5) (n := 26) rfl rfl ?_
    refine z_icmp_leN hR dMO_formula_26 (t := 33) (n := 29) rfl rfl (by omega) (by omega) (fun h26 => ?_) (fun h26 => ?_)
    · have hT5 : tcn (ndg nd) nd.length ≤ 5 := by rw [tcn_ndg]; exact h26
      have key : ∀ (m i : Nat) (τ : zS), i + m = nd.length → zfr [45, 47, 48, 49, 50, 51, 52, 53, 54, 55] σ τ → zfd [0, 4, 9, 10, 14, 16, 18] σ τ → τ.1 45 0 = 0 → τ.1 45 4 = nI nd.length → nds (τ.1 51) (τ.1 52) (τ.1 53) nd → (∀ j, j < i → τ.1 47 j = (ndg nd j).1 ∧ τ.1 48 j = (ndg nd j).2.1 ∧ τ.1 49 j = (ndg nd j).2.2) → τ.1 45 9 = nI (tcn (ndg nd) i) → (∀ x, x < i → tmd (ndg nd x).1 = true → τ.1 50 x = nI (tcn (ndg nd) x)) → Z 0 61 [some (.ref 45), some (.int (nI i))] [] τ := by
        intro m
        induction m with
        | zero =>
          intro i τ hi gf gk g0 g4 gn gt g9 gb
          obtain rfl : i = nd.length := by omega
          obtain ⟨q1, q2, q3, q4⟩ := zfg_1 (zwA (zwA τ 45 3 1) 45 1 0)
          have hw : ∀ j, j < nd.length → (zfg (zwA (zwA τ 45 3 1) 45 1 0) 6).1 47 j = (ndg nd j).1 ∧ (zfg (zwA (zwA τ 45 3 1) 45 1 0) 6).1 48 j = (ndg nd j).2.1 ∧ (zfg (zwA (zwA τ 45 3 1) 45 1 0) 6).1 49 j = (ndg nd j).2.2 := fun j hj => by
            rw [q1.1 47 (by decide), q1.1 48 (by decide), q1.1 49 (by decide)]
            simpa [zwA_1] using gt j hj
          refine z_iload_n hR dMO_formula_61 (n := 62) rfl rfl ?_
          refine z_aload_n hR dMO_formula_62 (n := 63) rfl rfl ?_
          refine z_getI hR dMO_formula_63 (n := 66) rfl zgMO_145 (by decide) rfl rfl ?_
          rw [g4]
          refine z_icmp_geN hR dMO_formula_66 (t := 143) (n := 69) rfl rfl (by omega) (by omega) (fun h66 => ?_) (fun h66 => absurd h66 (by omega))
          refine z_aload_n hR dMO_formula_143 (n := 144) rfl rfl ?_
          refine z_iconst hR dMO_formula_144 (v := 1) (n := 145) rfl rfl ?_
          refine z_putZ hR dMO_formula_145 (n := 148) rfl zpMO_151 (by decide) rfl rfl (by first | exact Or.inl rfl | exact Or.inr rfl | assumption) ?_
          refine z_aload_n hR dMO_formula_148 (n := 149) rfl rfl ?_
          refine z_iconst hR dMO_formula_149 (v := 0) (n := 150) rfl rfl ?_
          refine z_putI hR dMO_formula_150 (n := 153) rfl zpMO_97 (by decide) rfl rfl ?_
          refine z_aload_n hR dMO_formula_153 (n := 154) rfl rfl ?_
          refine z_callV0 hR dMO_formula_154 (n := 157) rfl zcMO_155 zkMO_forget (by decide) (Nat.le_of_ble_eq_true rfl) (by decide) rfl rfl (Nat.zero_le _) (m_MO_forget _) (fun r154 s154 h154 => ?_)
          obtain ⟨rfl, e154⟩ := h154
          subst s154
          refine z_aload_n hR dMO_formula_157 (n := 158) rfl rfl ?_
          refine z_callV0 hR dMO_formula_158 (n := 161) rfl zcMO_158 zkMO_write (by decide) (Nat.le_of_ble_eq_true rfl) (by decide) rfl rfl (Nat.zero_le _) (m_MO_write (g := ndg nd) (n := nd.length) (by omega) a1 a3 hT5 _ (by rw [q2 4 (by decide)]; simpa [zwA_1] using g4) hw) (fun r158 s158 h158 => ?_)
          obtain ⟨rfl, wf, wk, wO⟩ := h158
          have e9 : s158.1 45 9 = nI (ntn nd) := by
            rw [wk 9 (by decide), q2 9 (by decide)]
            simp only [zwA_1, if_true, reduceIte]
            simpa [tcn_ndg] using g9
          refine z_aload_n hR dMO_formula_161 (n := 162) rfl rfl ?_
          refine z_getI hR dMO_formula_162 (n := 165) rfl zgMO_148 (by decide) rfl rfl ?_
          rw [e9]
          refine z_zret hR dMO_formula_165 rfl rfl (Nat.zero_le _) ?_
          have Fz : zfr mFp σ s158 := ((((gf.mo (by decide)).wA _ (by decide)).wA _ (by decide)).tr (q1.mo (by decide))).tr (wf.mo (by decide))
          have Kz : zfd mFd σ s158 := ((((gk.mo (by decide)).w _ (by decide)).w _ (by decide)).tr (q2.mo (by decide))).tr (wk.mo (by decide))
          refine ⟨⟨_, rfl⟩, Fz, Kz, Or.inr (Or.inr ⟨?_, nd, hRd, h26, rfl, ⟨?_, fun i hi => ?_, by rw [e9, tcn_ndg], fun x hx ht => ?_, wO⟩, ?_, ?_, ?_, fun s hs => ?_⟩)⟩
          · rw [wk 0 (by decide), q2 0 (by decide)]
            simpa [zwA_1] using g0
          · rw [wk 4 (by decide), q2 4 (by decide)]
            simpa [zwA_1] using g4
          · rw [wf.1 47 (by decide), wf.1 48 (by decide), wf.1 49 (by decide)]
            exact hw i hi
          · rw [wf.1 50 (by decide), q1.1 50 (by decide)]
            simpa [zwA_1] using gb x hx ht
          · rw [wk 3 (by decide), q2 3 (by decide)]
            simp [zwA_1]
          · rw [wk 1 (by decide), q2 1 (by decide)]
            simp [zwA_1]
          · rw [wk 25 (by decide)]
            exact q3
          · rw [wf.1 70 (by decide)]
            exact q4 s hs
        | succ m ih =>
          intro i τ hi gf gk g0 g4 gn gt g9 gb
          obtain ⟨n1, n2, n3⟩ := nds_at gn i (by omega)
          have g9' : tcn (ndg nd) i ≤ i := tcn_n _ _
          have nx : ∀ τ2 : zS, zfr [45, 47, 48, 49, 50, 51, 52, 53, 54, 55] σ τ2 → zfd [0, 4, 9, 10, 14, 16, 18] σ τ2 → τ2.1 45 0 = τ.1 45 0 → τ2.1 45 4 = τ.1 45 4 → τ2.1 51 = τ.1 51 → τ2.1 52 = τ.1 52 → τ2.1 53 = τ.1 53 → τ2.1 47 = upd (τ.1 47) i (ndg nd i).1 → τ2.1 48 = upd (τ.1 48) i (ndg nd i).2.1 → τ2.1 49 = upd (τ.1 49) i (ndg nd i).2.2 → τ2.1 45 9 = nI (tcn (ndg nd) (i + 1)) → (∀ x, x < i → τ2.1 50 x = τ.1 50 x) → (tmd (ndg nd i).1 = true → τ2.1 50 i = nI (tcn (ndg nd) i)) → Z 0 61 [some (.ref 45), some (.int (nI (i + 1)))] [] τ2 := by
            intro τ2 f1 f2 f3 f4 f5 f6 f7 f8 f9 f10 f11 f12 f13
            refine ih (i + 1) τ2 (by omega) f1 f2 (f3.trans g0) (f4.trans g4) (by rw [f5, f6, f7]; exact gn) (fun j hj => ?_) f11 (fun x hx ht => ?_)
            · rw [f8, f9, f10]
              by_cases e : j = i
              · subst e
                rw [pk_us, pk_us, pk_us]
                exact ⟨rfl, rfl, rfl⟩
              · rw [pk_un e, pk_un e, pk_un e]
                exact gt j (by omega)
            · by_cases e : x = i
              · subst e
                exact f13 ht
              · rw [f12 x (by omega)]
                exact gb x (by omega) ht
          refine z_iload_n hR dMO_formula_61 (n := 62) rfl rfl ?_
          refine z_aload_n hR dMO_formula_62 (n := 63) rfl rfl ?_
          refine z_getI hR dMO_formula_63 (n := 66) rfl zgMO_145 (by decide) rfl rfl ?_
          rw [g4]
          refine z_icmp_geN hR dMO_formula_66 (t := 143) (n := 69) rfl rfl (by omega) (by omega) (fun h66 => absurd h66 (by omega)) (fun h66 => ?_)
          refine z_aload_n hR dMO_formula_69 (n := 70) rfl rfl ?_
          refine z_getR hR dMO_formula_70 (n := 73) rfl zgMO_13 (by decide) rfl rfl ?_
          refine z_iload_n hR dMO_formula_73 (n := 74) rfl rfl ?_
          refine z_aload_n hR dMO_formula_74 (n := 75) rfl rfl ?_
          refine z_getR hR dMO_formula_75 (n := 78) rfl zgMO_25 (by decide) rfl rfl ?_
          refine z_iload_n hR dMO_formula_78 (n := 79) rfl rfl ?_
          refine z_iald hR (_) dMO_formula_79 (n := 80) rfl (by decide) rfl (by decide) rfl (by omega) ?_
          rw [n1]
          refine z_iast hR (_) dMO_formula_80 (n := 81) rfl (by decide) rfl (by decide) rfl (by omega) ?_
          refine z_aload_n hR dMO_formula_81 (n := 82) rfl rfl ?_
          refine z_getR hR dMO_formula_82 (n := 85) rfl zgMO_16 (by decide) rfl rfl ?_
          refine z_iload_n hR dMO_formula_85 (n := 86) rfl rfl ?_
          refine z_aload_n hR dMO_formula_86 (n := 87) rfl rfl ?_
          refine z_getR hR dMO_formula_87 (n := 90) rfl zgMO_28 (by decide) rfl rfl ?_
          refine z_iload_n hR dMO_formula_90 (n := 91) rfl rfl ?_
          refine z_iald hR (_) dMO_formula_91 (n := 92) rfl (by decide) rfl (by decide) rfl (by omega) ?_
          rw [zwA_n _ _ _ _ (by decide), n2]
          refine z_iast hR (_) dMO_formula_92 (n := 93) rfl (by decide) rfl (by decide) rfl (by omega) ?_
          refine z_aload_n hR dMO_formula_93 (n := 94) rfl rfl ?_
          refine z_getR hR dMO_formula_94 (n := 97) rfl zgMO_19 (by decide) rfl rfl ?_
          refine z_iload_n hR dMO_formula_97 (n := 98) rfl rfl ?_
          refine z_aload_n hR dMO_formula_98 (n := 99) rfl rfl ?_
          refine z_getR hR dMO_formula_99 (n := 102) rfl zgMO_31 (by decide) rfl rfl ?_
          refine z_iload_n hR dMO_formula_102 (n := 103) rfl rfl ?_
          refine z_iald hR (_) dMO_formula_103 (n := 104) rfl (by decide) rfl (by decide) rfl (by omega) ?_
          rw [zwA_n _ _ _ _ (by decide), zwA_n _ _ _ _ (by decide), n3]
          refine z_iast hR (_) dMO_formula_104 (n := 105) rfl (by decide) rfl (by decide) rfl (by omega) ?_
          refine z_aload_n hR dMO_formula_105 (n := 106) rfl rfl ?_
          refine z_getR hR dMO_formula_106 (n := 109) rfl zgMO_13 (by decide) rfl rfl ?_
          refine z_iload_n hR dMO_formula_109 (n := 110) rfl rfl ?_
          refine z_iald hR (_) dMO_formula_110 (n := 111) rfl (by decide) rfl (by decide) rfl (by omega) ?_
          rw [zwA_n _ _ _ _ (by decide), zwA_n _ _ _ _ (by decide), zwA_ss]
          refine z_callS1 hR dMO_formula_111 (n := 114) rfl zcMO_134 zkMO_isTimed (by decide) (Nat.le_of_ble_eq_true rfl) (Nat.zero_le _) (m_MO_isTimed (ndg nd i).1 _) (fun r111 s111 h111 => ?_)
          obtain ⟨rfl, e111⟩ := h111
          subst s111
          refine z_if_eqB hR dMO_formula_114 (t := 137) (n := 117) rfl rfl (fun h114 => ?_) (fun h114 => ?_)
          · have go := nx (zwA (zwA (zwA τ 47 i (ndg nd i).1) 48 i (ndg nd i).2.1) 49 i (ndg nd i).2.2) (((gf.wA _ (by decide)).wA _ (by decide)).wA _ (by decide)) (((gk.o _ (by decide)).o _ (by decide)).o _ (by decide)) (by simp [zwA_1]) (by simp [zwA_1]) (by simp [zwA, va_up]) (by simp [zwA, va_up]) (by simp [zwA, va_up]) (by simp [zwA, va_up]) (by simp [zwA, va_up]) (by simp [zwA, va_up]) (by rw [tcn, h114]; simp [zwA_1]; exact g9) (fun x hx => by simp [zwA_1]) (fun q => by rw [h114] at q; exact absurd q (by decide))
            refine z_iincN hR 1 dMO_formula_137 (n := 140) rfl rfl (by decide) rfl rfl ?_
            refine z_goto hR dMO_formula_140 (t := 61) rfl ?_
            exact go
          · have go := nx (zwA (zwA (zwA (zwA (zwA τ 47 i (ndg nd i).1) 48 i (ndg nd i).2.1) 49 i (ndg nd i).2.2) 50 i (nI (tcn (ndg nd) i))) 45 9 (nI (tcn (ndg nd) i + 1))) (((((gf.wA _ (by decide)).wA _ (by decide)).wA _ (by decide)).wA _ (by decide)).wA _ (by decide)) (((((gk.o _ (by decide)).o _ (by decide)).o _ (by decide)).o _ (by decide)).w _ (by decide)) (by simp [zwA_1]) (by simp [zwA_1]) (by simp [zwA, va_up]) (by simp [zwA, va_up]) (by simp [zwA, va_up]) (by simp [zwA, va_up]) (by simp [zwA, va_up]) (by simp [zwA, va_up]) (by rw [tcn, h114]; simp [zwA_1]) (fun x hx => by simp [zwA_1, show x ≠ i by omega]) (fun q => by simp [zwA_1])
            refine z_aload_n hR dMO_formula_117 (n := 118) rfl rfl ?_
            refine z_getR hR dMO_formula_118 (n := 121) rfl zgMO_22 (by decide) rfl rfl ?_
            refine z_iload_n hR dMO_formula_121 (n := 122) rfl rfl ?_
            refine z_aload_n hR dMO_formula_122 (n := 123) rfl rfl ?_
            refine z_getI hR dMO_formula_123 (n := 126) rfl zgMO_148 (by decide) rfl rfl ?_
            rw [zwA_n _ _ _ _ (by decide), zwA_n _ _ _ _ (by decide), zwA_n _ _ _ _ (by decide), g9]
            refine z_iast hR (_) dMO_formula_126 (n := 127) rfl (by decide) rfl (by decide) rfl (by omega) ?_
            refine z_aload_n hR dMO_formula_127 (n := 128) rfl rfl ?_
            refine z_dup hR dMO_formula_128 (n := 129) rfl rfl ?_
            refine z_getI hR dMO_formula_129 (n := 132) rfl zgMO_148 (by decide) rfl rfl ?_
            rw [zwA_n _ _ _ _ (by decide), zwA_n _ _ _ _ (by decide), zwA_n _ _ _ _ (by decide), zwA_n _ _ _ _ (by decide), g9]
            refine z_iconst hR dMO_formula_132 (v := nI 1) (n := 133) rfl rfl ?_
            refine z_iaddN hR dMO_formula_133 (n := 134) rfl ?_
            refine z_putI hR dMO_formula_134 (n := 137) rfl zpMO_148 (by decide) rfl rfl ?_
            refine z_iincN hR 1 dMO_formula_137 (n := 140) rfl rfl (by decide) rfl rfl ?_
            refine z_goto hR dMO_formula_140 (t := 61) rfl ?_
            exact go
      refine z_iconst hR dMO_formula_33 (v := 0) (n := 34) rfl rfl ?_
      refine z_putI hR dMO_formula_34 (n := 37) rfl zpMO_93 (by decide) rfl rfl ?_
      refine z_aload_n hR dMO_formula_37 (n := 38) rfl rfl ?_
      refine z_getI hR dMO_formula_38 (n := 41) rfl zgMO_93 (by decide) rfl rfl ?_
      rw [zwA_ss]
      refine z_if_le hR dMO_formula_41 (t := 46) (n := 44) rfl rfl (fun _ => ?_) (fun h41 => absurd (by decide) h41)
      refine z_aload_n hR dMO_formula_46 (n := 47) rfl rfl ?_
      refine z_aload_n hR dMO_formula_47 (n := 48) rfl rfl ?_
      refine z_getI hR dMO_formula_48 (n := 51) rfl zgMO_104 (by decide) rfl rfl ?_
      rw [zwA_sn _ _ _ _ (by decide), hmd]
      refine z_putI hR dMO_formula_51 (n := 54) rfl zpMO_145 (by decide) rfl rfl ?_
      refine z_aload_n hR dMO_formula_54 (n := 55) rfl rfl ?_
      refine z_iconst hR dMO_formula_55 (v := 0) (n := 56) rfl rfl ?_
      refine z_putI hR dMO_formula_56 (n := 59) rfl zpMO_148 (by decide) rfl rfl ?_
      refine z_iconst hR dMO_formula_59 (v := nI 0) (n := 60) rfl rfl ?_
      refine z_istore_n hR dMO_formula_60 (n := 61) rfl (by decide) rfl ?_
      exact key nd.length 0 _ (by omega) ((((hf.mo (by decide)).wA _ (by decide)).wA _ (by decide)).wA _ (by decide)) ((((hk.mo (by decide)).w _ (by decide)).w _ (by decide)).w _ (by decide)) (by simp [zwA_1]) (by simp [zwA_1]) (by simpa [zwA, va_up] using hnds) (fun j hj => absurd hj (by omega)) (by simp [zwA_1]; rfl) (fun x hx => absurd hx (by omega))
      skip
    · skip
      refine z_iconst hR dMO_formula_29 (v := 2) (n := 30) rfl rfl ?_
      refine z_goto hR dMO_formula_30 (t := 34) rfl ?_
      refine z_putI hR dMO_formula_34 (n := 37) rfl zpMO_93 (by decide) rfl rfl ?_
      refine z_aload_n hR dMO_formula_37 (n := 38) rfl rfl ?_
      refine z_getI hR dMO_formula_38 (n := 41) rfl zgMO_93 (by decide) rfl rfl ?_
      rw [zwA_ss]
      refine z_if_le hR dMO_formula_41 (t := 46) (n := 44) rfl rfl (fun h41 => absurd h41 (by decide)) (fun _ => ?_)
      refine z_iconst hR dMO_formula_44 (v := 0) (n := 45) rfl rfl ?_
      refine z_zret hR dMO_formula_45 rfl rfl (Nat.zero_le _) ?_
      exact ⟨⟨_, rfl⟩, (hf.mo (by decide)).wA _ (by decide), (hk.mo (by decide)).w _ (by decide), Or.inr (Or.inl ⟨by rw [zwA_ss], ⟨nd, hRd, by omega⟩, (hf.mo (by decide)).wA _ (by decide), (hk.mo (by decide)).w _ (by decide)⟩)⟩
      skip
  · have hno : ∀ nd2, ¬ aRd (σ.1 46) n nd2 := fun nd2 h => by
      obtain ⟨mx2, h6, h⟩ := aRd_rm h
      have := (aRm_det hRm h).1
      omega
    refine z_iconst hR dMO_formula_17 (v := 1) (n := 18) rfl rfl ?_
    refine z_goto hR dMO_formula_18 (t := 34) rfl ?_
    refine z_putI hR dMO_formula_34 (n := 37) rfl zpMO_93 (by decide) rfl rfl ?_
    refine z_aload_n hR dMO_formula_37 (n := 38) rfl rfl ?_
    refine z_getI hR dMO_formula_38 (n := 41) rfl zgMO_93 (by decide) rfl rfl ?_
    rw [zwA_ss]
    refine z_if_le hR dMO_formula_41 (t := 46) (n := 44) rfl rfl (fun h41 => absurd h41 (by decide)) (fun _ => ?_)
    refine z_iconst hR dMO_formula_44 (v := 0) (n := 45) rfl rfl ?_
    refine z_zret hR dMO_formula_45 rfl rfl (Nat.zero_le _) ?_
    exact ⟨⟨_, rfl⟩, (hf.mo (by decide)).wA _ (by decide), (hk.mo (by decide)).w _ (by decide), Or.inl ⟨by rw [zwA_ss], hno, (hf.mo (by decide)).wA _ (by decide), (hk.mo (by decide)).w _ (by decide)⟩⟩
    skip
