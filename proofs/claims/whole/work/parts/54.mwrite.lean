/-! The normal form is written: the reference -/
def mO (σ : zS) (out : List Int32) : Prop := σ.1 45 19 = nI out.length ∧ lst (σ.1 56) out
theorem m_MO_emit (s : Int32) {out : List Int32} (σ : zS) (h : mO σ out) (hl : out.length < 100) : zM yMO_emit cMO_emit 2 none 0 0 0 [.ref 45, .int s] σ (fun r σ2 => r = none ∧ zfr [45, 56] σ σ2 ∧ zfd [19] σ σ2 ∧ mO σ2 (out ++ [s])) (fun _ _ => False) := by
  refine zM.of [some (.ref 45), some (.int s)] (by decide) 0 rfl (fun _ => Nat.le_of_ble_eq_true rfl) (fun Z hR => ?_)
  refine z_aload_n hR dMO_emit_0 (n := 1) rfl rfl ?_
  refine z_getR hR dMO_emit_1 (n := 4) rfl zgMO_40 (by decide) rfl rfl ?_
  refine z_aload_n hR dMO_emit_4 (n := 5) rfl rfl ?_
  refine z_getI hR dMO_emit_5 (n := 8) rfl zgMO_161 (by decide) rfl rfl ?_
  rw [h.1]
  refine z_iload_n hR dMO_emit_8 (n := 9) rfl rfl ?_
  refine z_iast hR (_) dMO_emit_9 (n := 10) rfl (by decide) rfl (by decide) rfl (by omega) ?_
  refine z_aload_n hR dMO_emit_10 (n := 11) rfl rfl ?_
  refine z_dup hR dMO_emit_11 (n := 12) rfl rfl ?_
  refine z_getI hR dMO_emit_12 (n := 15) rfl zgMO_161 (by decide) rfl rfl ?_
  rw [zwA_n _ _ _ _ (by decide), h.1]
  refine z_iconst hR dMO_emit_15 (v := nI 1) (n := 16) rfl rfl ?_
  refine z_iaddN hR dMO_emit_16 (n := 17) rfl ?_
  refine z_putI hR dMO_emit_17 (n := 20) rfl zpMO_161 (by decide) rfl rfl ?_
  refine z_vret hR dMO_emit_20 rfl (Nat.zero_le _) ?_
  refine ⟨rfl, (zfr.rf.wA _ (by decide)).wA _ (by decide), (zfd.rf.o _ (by decide)).w _ (by decide), ?_, ?_⟩
  · rw [zwA_ss]
    simp
  · refine lst_push h.2 (fun i hi => ?_) ?_
    · rw [zwA_n _ _ _ _ (by decide), zwA_sn _ _ _ _ (by omega)]
    · rw [zwA_n _ _ _ _ (by decide), zwA_ss]
def mT (σ : zS) (S : wS) : Prop := σ.1 45 16 = nI S.length ∧ stw (σ.1 54) (σ.1 55) S
theorem m_MO_hold (a x : Nat) (neg : Bool) {S : wS} (σ : zS) (h : mT σ S) (hl : S.length < 40) : zM yMO_hold cMO_hold 3 none 0 0 0 [.ref 45, .int (nI x), .int (zb neg)] σ (fun r σ2 => r = none ∧ zfr [45, 54, 55] σ σ2 ∧ zfd [16] σ σ2 ∧ mT σ2 ((a, x, neg) :: S)) (fun _ _ => False) := by
  refine zM.of [some (.ref 45), some (.int (nI x)), some (.int (zb neg))] (by decide) 0 rfl (fun _ => Nat.le_of_ble_eq_true rfl) (fun Z hR => ?_)
  obtain ⟨h1, h2⟩ := h
  refine z_aload_n hR dMO_hold_0 (n := 1) rfl rfl ?_
  refine z_getR hR dMO_hold_1 (n := 4) rfl zgMO_34 (by decide) rfl rfl ?_
  refine z_aload_n hR dMO_hold_4 (n := 5) rfl rfl ?_
  refine z_getI hR dMO_hold_5 (n := 8) rfl zgMO_110 (by decide) rfl rfl ?_
  rw [h1]
  refine z_iload_n hR dMO_hold_8 (n := 9) rfl rfl ?_
  refine z_iast hR (_) dMO_hold_9 (n := 10) rfl (by decide) rfl (by decide) rfl (by omega) ?_
  refine z_aload_n hR dMO_hold_10 (n := 11) rfl rfl ?_
  refine z_getR hR dMO_hold_11 (n := 14) rfl zgMO_37 (by decide) rfl rfl ?_
  refine z_aload_n hR dMO_hold_14 (n := 15) rfl rfl ?_
  refine z_getI hR dMO_hold_15 (n := 18) rfl zgMO_110 (by decide) rfl rfl ?_
  rw [zwA_n _ _ _ _ (by decide), h1]
  refine z_iload_n hR dMO_hold_18 (n := 19) rfl rfl ?_
  refine z_if_eqB hR dMO_hold_19 (t := 26) (n := 22) rfl rfl (fun h19 => ?_) (fun h19 => ?_)
  · refine z_iconst hR dMO_hold_26 (v := 0) (n := 27) rfl rfl ?_
    refine z_iast hR (_) dMO_hold_27 (n := 28) rfl (by decide) rfl (by decide) rfl (by omega) ?_
    refine z_aload_n hR dMO_hold_28 (n := 29) rfl rfl ?_
    refine z_dup hR dMO_hold_29 (n := 30) rfl rfl ?_
    refine z_getI hR dMO_hold_30 (n := 33) rfl zgMO_110 (by decide) rfl rfl ?_
    rw [zwA_n _ _ _ _ (by decide), zwA_n _ _ _ _ (by decide), h1]
    refine z_iconst hR dMO_hold_33 (v := nI 1) (n := 34) rfl rfl ?_
    refine z_iaddN hR dMO_hold_34 (n := 35) rfl ?_
    refine z_putI hR dMO_hold_35 (n := 38) rfl zpMO_110 (by decide) rfl rfl ?_
    refine z_vret hR dMO_hold_38 rfl (Nat.zero_le _) ?_
    refine ⟨rfl, ((zfr.rf.wA _ (by decide)).wA _ (by decide)).wA _ (by decide), ((zfd.rf.o _ (by decide)).o _ (by decide)).w _ (by decide), ?_, ?_, ?_, ?_⟩
    · rw [zwA_ss]
      rfl
    · simp [zwA_1]
    · simp [zwA_1, h19, zb]
    · refine stw_same (fun i hi => ⟨?_, ?_⟩) h2 <;> simp [zwA_1, show i ≠ S.length by omega]
  · refine z_iconst hR dMO_hold_22 (v := 1) (n := 23) rfl rfl ?_
    refine z_goto hR dMO_hold_23 (t := 27) rfl ?_
    refine z_iast hR (_) dMO_hold_27 (n := 28) rfl (by decide) rfl (by decide) rfl (by omega) ?_
    refine z_aload_n hR dMO_hold_28 (n := 29) rfl rfl ?_
    refine z_dup hR dMO_hold_29 (n := 30) rfl rfl ?_
    refine z_getI hR dMO_hold_30 (n := 33) rfl zgMO_110 (by decide) rfl rfl ?_
    rw [zwA_n _ _ _ _ (by decide), zwA_n _ _ _ _ (by decide), h1]
    refine z_iconst hR dMO_hold_33 (v := nI 1) (n := 34) rfl rfl ?_
    refine z_iaddN hR dMO_hold_34 (n := 35) rfl ?_
    refine z_putI hR dMO_hold_35 (n := 38) rfl zpMO_110 (by decide) rfl rfl ?_
    refine z_vret hR dMO_hold_38 rfl (Nat.zero_le _) ?_
    refine ⟨rfl, ((zfr.rf.wA _ (by decide)).wA _ (by decide)).wA _ (by decide), ((zfd.rf.o _ (by decide)).o _ (by decide)).w _ (by decide), ?_, ?_, ?_, ?_⟩
    · rw [zwA_ss]
      rfl
    · simp [zwA_1]
    · simp [zwA_1, h19, zb]
    · refine stw_same (fun i hi => ⟨?_, ?_⟩) h2 <;> simp [zwA_1, show i ≠ S.length by omega]
theorem hs_at {c : Int32} (h : atm c = true) (neg : Bool) : hs c neg = [if c < 112 then (if neg then 97 - c else c) else (if neg then c - 112 + 65 else c)] := by
  have q : ∀ c ∈ ([48, 49, 112, 113, 114, 115] : List Int32), ∀ neg : Bool, hs c neg = [if c < 112 then (if neg then 97 - c else c) else (if neg then c - 112 + 65 else c)] := by decide
  exact q c (atm_in h) neg
theorem m_MO_write {g : Nat → Int32 × Int32 × Int32} {n : Nat} (hn : n ≤ 32) (hn0 : 0 < n) (hg : tTT g 0 (n - 1)) (ht : tcn g n ≤ 5) (σ : zS) (hp : σ.1 45 4 = nI n) (ha : ∀ i, i < n → σ.1 47 i = (g i).1 ∧ σ.1 48 i = (g i).2.1 ∧ σ.1 49 i = (g i).2.2) : zM yMO_write cMO_write 5 none 1 60 0 [.ref 45] σ (fun r σ2 => r = none ∧ zfr [45, 54, 55, 56] σ σ2 ∧ zfd [16, 19] σ σ2 ∧ mO σ2 (nfx g (n - 1) false)) (fun _ _ => False) := by
  refine zM.of [some (.ref 45), none, none, none, none] (by decide) 4 rfl (fun _ => Nat.le_of_ble_eq_true rfl) (fun Z hR => ?_)
  have hlen : (nfx g (n - 1) false).length ≤ 37 := by
    have q := (nfx_len n (n - 1) 0 false (by omega) hg (by omega)).1
    rw [show n - 1 + 1 = n by omega] at q
    rw [tcn] at q
    omega
  have key : ∀ (m : Nat) (S : wS) (out : List Int32) (τ : zS) (l1 l2 l3 l4 : Option Value), wW S = m → m ≤ n → wOk g n S → mT τ S → mO τ out → out ++ wN g S = nfx g (n - 1) false → zfr [45, 54, 55, 56] σ τ → zfd [16, 19] σ τ → Z 0 21 [some (.ref 45), l1, l2, l3, l4] [] τ := by
    intro m
    induction m with
    | zero =>
      intro S out τ l1 l2 l3 l4 hm hmn hS hT hO he hf hk
      have hl := wS_len hS
      obtain rfl := List.eq_nil_of_length_eq_zero (by omega : S.length = 0)
      refine z_aload_n hR dMO_write_21 (n := 22) rfl rfl ?_
      refine z_getI hR dMO_write_22 (n := 25) rfl zgMO_110 (by decide) rfl rfl ?_
      rw [hT.1]
      refine z_if_leN hR dMO_write_25 (t := 384) (n := 28) rfl rfl (by omega) (fun h25 => ?_) (fun h25 => absurd h25 (by simp))
      refine z_vret hR dMO_write_384 rfl (Nat.zero_le _) ?_
      refine ⟨rfl, hf, hk, ?_⟩
      rw [← he, wN, List.append_nil]
      exact hO
    | succ m ih =>
      intro S out τ l1 l2 l3 l4 hm hmn hS hT hO he hf hk
      obtain ⟨⟨a, x, neg⟩, T, rfl⟩ : ∃ e T, S = e :: T := by
        cases S with
        | nil => simp [wW] at hm
        | cons e T => exact ⟨e, T, rfl⟩
      obtain ⟨s1, s2, s3, s4⟩ := hS
      simp only at s1 s2 s3
      have hTl := wS_len s4
      rw [wW] at hm
      simp only at hm
      obtain ⟨t1, t2, t3, t4⟩ := hT
      simp only [List.length_cons] at t1 t2 t3
      rw [wN] at he
      simp only at he
      have ha' : ∀ τ2 : zS, zfr [45, 54, 55, 56] σ τ2 → ∀ i, i < n → τ2.1 47 i = (g i).1 ∧ τ2.1 48 i = (g i).2.1 ∧ τ2.1 49 i = (g i).2.2 := fun τ2 hf2 i hi => by
        rw [hf2.1 47 (by decide), hf2.1 48 (by decide), hf2.1 49 (by decide)]
        exact ha i hi
      have hpre : ∃ rest, nfx g x neg = hs (g x).1 neg ++ rest := by
        rcases nfx_tree s1 (by omega) neg with ⟨_, _, _, _, e⟩ | ⟨_, _, _, _, _, e⟩ | ⟨_, _, _, _, _, _, _, _, _, e⟩
        · exact ⟨[], by rw [e, List.append_nil]⟩
        · exact ⟨_, e⟩
        · exact ⟨_, e⟩
      have hl37 : out.length + (hs (g x).1 neg).length ≤ 37 := by
        obtain ⟨rest, e⟩ := hpre
        have := congrArg List.length he
        rw [e] at this
        simp only [List.length_append] at this ⊢
        omega
      have hT1 : mT (zwA τ 45 16 (nI T.length)) T := ⟨by rw [zwA_ss], stw_same (fun i hi => ⟨by rw [zwA_n _ _ _ _ (by decide)], by rw [zwA_n _ _ _ _ (by decide)]⟩) t4⟩
      have hO1 : mO (zwA τ 45 16 (nI T.length)) out := ⟨by rw [zwA_sn _ _ _ _ (by decide)]; exact hO.1, by rw [zwA_n _ _ _ _ (by decide)]; exact hO.2⟩
      have hf1 : zfr [45, 54, 55, 56] σ (zwA τ 45 16 (nI T.length)) := hf.wA _ (by decide)
      have hk1 : zfd [16, 19] σ (zwA τ 45 16 (nI T.length)) := hk.w _ (by decide)
      have go : (∀ (l4 : Option Value), Z 0 74 [some (.ref 45), some (.int (nI x)), some (.int (zb neg)), some (.int (g x).1), l4] [] (zwA τ 45 16 (nI T.length))) → Z 0 21 [some (.ref 45), l1, l2, l3, l4] [] τ := by
        intro hgo
        refine z_aload_n hR dMO_write_21 (n := 22) rfl rfl ?_
        refine z_getI hR dMO_write_22 (n := 25) rfl zgMO_110 (by decide) rfl rfl ?_
        rw [t1]
        refine z_if_leN hR dMO_write_25 (t := 384) (n := 28) rfl rfl (by omega) (fun h25 => absurd h25 (by omega)) (fun h25 => ?_)
        refine z_aload_n hR dMO_write_28 (n := 29) rfl rfl ?_
        refine z_dup hR dMO_write_29 (n := 30) rfl rfl ?_
        refine z_getI hR dMO_write_30 (n := 33) rfl zgMO_110 (by decide) rfl rfl ?_
        rw [t1]
        refine z_iconst hR dMO_write_33 (v := nI 1) (n := 34) rfl rfl ?_
        refine z_isubN hR dMO_write_34 (n := 35) rfl (by omega) ?_
        rw [Nat.add_sub_cancel]
        refine z_putI hR dMO_write_35 (n := 38) rfl zpMO_110 (by decide) rfl rfl ?_
        refine z_aload_n hR dMO_write_38 (n := 39) rfl rfl ?_
        refine z_getR hR dMO_write_39 (n := 42) rfl zgMO_34 (by decide) rfl rfl ?_
        refine z_aload_n hR dMO_write_42 (n := 43) rfl rfl ?_
        refine z_getI hR dMO_write_43 (n := 46) rfl zgMO_110 (by decide) rfl rfl ?_
        rw [zwA_ss]
        refine z_iald hR (_) dMO_write_46 (n := 47) rfl (by decide) rfl (by decide) rfl (by omega) ?_
        rw [zwA_n _ _ _ _ (by decide), t2]
        refine z_istore_n hR dMO_write_47 (n := 48) rfl (by decide) rfl ?_
        refine z_aload_n hR dMO_write_48 (n := 49) rfl rfl ?_
        refine z_getR hR dMO_write_49 (n := 52) rfl zgMO_37 (by decide) rfl rfl ?_
        refine z_aload_n hR dMO_write_52 (n := 53) rfl rfl ?_
        refine z_getI hR dMO_write_53 (n := 56) rfl zgMO_110 (by decide) rfl rfl ?_
        rw [zwA_ss]
        refine z_iald hR (_) dMO_write_56 (n := 57) rfl (by decide) rfl (by decide) rfl (by omega) ?_
        rw [zwA_n _ _ _ _ (by decide), t3]
        refine z_iconst hR dMO_write_57 (v := 1) (n := 58) rfl rfl ?_
        refine z_icmp_ne hR dMO_write_58 (t := 65) (n := 61) rfl rfl (fun h58 => ?_) (fun h58 => ?_)
        · refine z_iconst hR dMO_write_65 (v := 0) (n := 66) rfl rfl ?_
          refine z_istore_n hR dMO_write_66 (n := 67) rfl (by decide) rfl ?_
          refine z_aload_n hR dMO_write_67 (n := 68) rfl rfl ?_
          refine z_getR hR dMO_write_68 (n := 71) rfl zgMO_13 (by decide) rfl rfl ?_
          refine z_iload_n hR dMO_write_71 (n := 72) rfl rfl ?_
          refine z_iald hR (_) dMO_write_72 (n := 73) rfl (by decide) rfl (by decide) rfl (by omega) ?_
          rw [(ha' _ hf1 x s2).1]
          refine z_istore_n hR dMO_write_73 (n := 74) rfl (by decide) rfl ?_
          cases neg
          all_goals first | exact hgo _ | exact absurd rfl h58 | exact absurd h58 (by decide)
        · refine z_iconst hR dMO_write_61 (v := 1) (n := 62) rfl rfl ?_
          refine z_goto hR dMO_write_62 (t := 66) rfl ?_
          refine z_istore_n hR dMO_write_66 (n := 67) rfl (by decide) rfl ?_
          refine z_aload_n hR dMO_write_67 (n := 68) rfl rfl ?_
          refine z_getR hR dMO_write_68 (n := 71) rfl zgMO_13 (by decide) rfl rfl ?_
          refine z_iload_n hR dMO_write_71 (n := 72) rfl rfl ?_
          refine z_iald hR (_) dMO_write_72 (n := 73) rfl (by decide) rfl (by decide) rfl (by omega) ?_
          rw [(ha' _ hf1 x s2).1]
          refine z_istore_n hR dMO_write_73 (n := 74) rfl (by decide) rfl ?_
          cases neg
          all_goals first | exact hgo _ | exact absurd rfl h58 | exact absurd h58 (by decide)
      refine go (fun l4 => ?_)
      clear go
      generalize zwA τ 45 16 (nI T.length) = τ1 at hT1 hO1 hf1 hk1
      have h3 := nfx_tree s1 (by omega) neg
      generalize hcx : (g x).1 = c at h3 hl37 ⊢
      rcases h3 with ⟨h1, h2, e1, e2, e3⟩ | ⟨h1, l, e1, e2, k1, e3⟩ | ⟨h1, h2, q, l1, l2, e1, e2, k1, k2, e3⟩
      ·
        have put : ∀ v : Int32, hs c neg = [v] → Z 0 118 [some (.ref 45), some (.int (nI x)), some (.int (zb neg)), some (.int c), l4] [.int v, .ref 45] τ1 := by
          intro v hv
          refine z_callV1 hR dMO_write_118 (n := 121) rfl zcMO_168 zkMO_emit (by decide) (Nat.le_of_ble_eq_true rfl) (by decide) rfl rfl (Nat.zero_le _) (m_MO_emit v _ hO1 (by omega)) (fun r118 s118 h118 => ?_)
          obtain ⟨rfl, gf, gk, gO⟩ := h118
          refine z_goto hR dMO_write_121 (t := 381) rfl ?_
          refine z_goto hR dMO_write_381 (t := 21) rfl ?_
          exact ih T _ _ _ _ _ _ (by omega) (by omega) s4 ⟨by rw [gk 16 (by decide)]; exact hT1.1, by rw [gf.1 54 (by decide), gf.1 55 (by decide)]; exact hT1.2⟩ gO (by rw [← he, e3, hv, List.append_assoc]) (hf1.tr (gf.mo (by decide))) (hk1.tr (gk.mo (by decide)))
        have hat := hs_at h1 neg
        refine z_iload_n hR dMO_write_74 (n := 75) rfl rfl ?_
        refine z_callS1 hR dMO_write_75 (n := 78) rfl zcMO_127 zkMO_isAtom (by decide) (Nat.le_of_ble_eq_true rfl) (Nat.zero_le _) (m_MO_isAtom c _) (fun r75 s75 h75 => ?_)
        obtain ⟨rfl, e75⟩ := h75
        subst s75
        refine z_if_eqB hR dMO_write_78 (t := 124) (n := 81) rfl rfl (fun h78 => absurd h78 (by rw [h1]; decide)) (fun h78 => ?_)
        refine z_aload_n hR dMO_write_81 (n := 82) rfl rfl ?_
        refine z_iload_n hR dMO_write_82 (n := 83) rfl rfl ?_
        refine z_bipush hR dMO_write_83 (v := 112) (n := 85) rfl rfl ?_
        refine z_icmp_ge hR dMO_write_85 (t := 103) (n := 88) rfl rfl (fun h85 => ?_) (fun h85 => ?_)
        · rw [if_neg (Int32.not_lt.mpr h85)] at hat
          refine z_iload_n hR dMO_write_103 (n := 104) rfl rfl ?_
          refine z_if_eqB hR dMO_write_104 (t := 117) (n := 107) rfl rfl (fun h104 => ?_) (fun h104 => ?_)
          · refine z_iload_n hR dMO_write_117 (n := 118) rfl rfl ?_
            exact put _ (by first | (rw [hat, h89]; rfl; done) | (rw [hat, h104]; rfl; done))
          · refine z_iload_n hR dMO_write_107 (n := 108) rfl rfl ?_
            refine z_bipush hR dMO_write_108 (v := 112) (n := 110) rfl rfl ?_
            refine z_isub hR dMO_write_110 (n := 111) rfl ?_
            refine z_bipush hR dMO_write_111 (v := 65) (n := 113) rfl rfl ?_
            refine z_iadd hR dMO_write_113 (n := 114) rfl ?_
            refine z_goto hR dMO_write_114 (t := 118) rfl ?_
            exact put _ (by first | (rw [hat, h89]; rfl; done) | (rw [hat, h104]; rfl; done))
        · rw [if_pos (Int32.not_le.mp h85)] at hat
          refine z_iload_n hR dMO_write_88 (n := 89) rfl rfl ?_
          refine z_if_eqB hR dMO_write_89 (t := 99) (n := 92) rfl rfl (fun h89 => ?_) (fun h89 => ?_)
          · refine z_iload_n hR dMO_write_99 (n := 100) rfl rfl ?_
            refine z_goto hR dMO_write_100 (t := 118) rfl ?_
            exact put _ (by first | (rw [hat, h89]; rfl; done) | (rw [hat, h104]; rfl; done))
          · refine z_bipush hR dMO_write_92 (v := 97) (n := 94) rfl rfl ?_
            refine z_iload_n hR dMO_write_94 (n := 95) rfl rfl ?_
            refine z_isub hR dMO_write_95 (n := 96) rfl ?_
            refine z_goto hR dMO_write_96 (t := 118) rfl ?_
            exact put _ (by first | (rw [hat, h89]; rfl; done) | (rw [hat, h104]; rfl; done))
      ·
        rcases (rk5_iff c).mp h1 with hc | hc | hc | hc <;> subst hc <;> cases neg
        ·
          refine z_iload_n hR dMO_write_74 (n := 75) rfl rfl ?_
          refine z_callS1 hR dMO_write_75 (n := 78) rfl zcMO_127 zkMO_isAtom (by decide) (Nat.le_of_ble_eq_true rfl) (Nat.zero_le _) (m_MO_isAtom _ _) (fun r75 s75 h75 => ?_)
          obtain ⟨rfl, e75⟩ := h75
          subst s75
          refine z_if_eqB hR dMO_write_78 (t := 124) (n := 81) rfl rfl (fun h78 => ?_) (fun h78 => absurd h78 (by decide))
          refine z_iload_n hR dMO_write_124 (n := 125) rfl rfl ?_
          refine z_bipush hR dMO_write_125 (v := 33) (n := 127) rfl rfl ?_
          refine z_icmp_ne hR dMO_write_127 (t := 152) (n := 130) rfl rfl (fun h127 => absurd h127 (by decide)) (fun _ => ?_)
          refine z_aload_n hR dMO_write_130 (n := 131) rfl rfl ?_
          refine z_aload_n hR dMO_write_131 (n := 132) rfl rfl ?_
          refine z_getR hR dMO_write_132 (n := 135) rfl zgMO_16 (by decide) rfl rfl ?_
          refine z_iload_n hR dMO_write_135 (n := 136) rfl rfl ?_
          refine z_iald hR (_) dMO_write_136 (n := 137) rfl (by decide) rfl (by decide) rfl (by omega) ?_
          rw [(ha' _ hf1 x s2).2.1, e1]
          refine z_iload_n hR dMO_write_137 (n := 138) rfl rfl ?_
          refine z_if_ne hR dMO_write_138 (t := 145) (n := 141) rfl rfl (fun h138 => absurd h138 (by decide)) (fun _ => ?_)
          refine z_iconst hR dMO_write_141 (v := 1) (n := 142) rfl rfl ?_
          refine z_goto hR dMO_write_142 (t := 146) rfl ?_
          refine z_callV2 hR dMO_write_146 (n := 149) rfl zcMO_164 zkMO_hold (by decide) (Nat.le_of_ble_eq_true rfl) (by decide) rfl rfl (Nat.zero_le _) (m_MO_hold a (x - 1) true _ hT1 (by first | omega | (simp; omega))) (fun r146 s146 h146 => ?_)
          obtain ⟨rfl, gf1, gk1, gT1⟩ := h146
          have gO1 : mO s146 _ := ⟨by rw [gk1 19 (by decide)]; exact hO1.1, by rw [gf1.1 56 (by decide)]; exact hO1.2⟩
          have gF1 := hf1.tr (gf1.mo (by decide) : zfr [45, 54, 55, 56] _ _)
          have gK1 := hk1.tr (gk1.mo (by decide) : zfd [16, 19] _ _)
          refine z_goto hR dMO_write_149 (t := 381) rfl ?_
          refine z_goto hR dMO_write_381 (t := 21) rfl ?_
          exact ih ((a, x - 1, true) :: T) _ _ _ _ _ _ (by simp only [wW]; omega) (by omega) ⟨k1, by simp only; omega, by simp only; omega, s4⟩ gT1 gO1 (by rw [← he, e3]; simp only [wN, List.append_assoc, List.cons_append, List.nil_append, show hs 33 false = [] from rfl, show (false ^^ tur 33) = true from rfl]) gF1 gK1
        ·
          refine z_iload_n hR dMO_write_74 (n := 75) rfl rfl ?_
          refine z_callS1 hR dMO_write_75 (n := 78) rfl zcMO_127 zkMO_isAtom (by decide) (Nat.le_of_ble_eq_true rfl) (Nat.zero_le _) (m_MO_isAtom _ _) (fun r75 s75 h75 => ?_)
          obtain ⟨rfl, e75⟩ := h75
          subst s75
          refine z_if_eqB hR dMO_write_78 (t := 124) (n := 81) rfl rfl (fun h78 => ?_) (fun h78 => absurd h78 (by decide))
          refine z_iload_n hR dMO_write_124 (n := 125) rfl rfl ?_
          refine z_bipush hR dMO_write_125 (v := 33) (n := 127) rfl rfl ?_
          refine z_icmp_ne hR dMO_write_127 (t := 152) (n := 130) rfl rfl (fun h127 => absurd h127 (by decide)) (fun _ => ?_)
          refine z_aload_n hR dMO_write_130 (n := 131) rfl rfl ?_
          refine z_aload_n hR dMO_write_131 (n := 132) rfl rfl ?_
          refine z_getR hR dMO_write_132 (n := 135) rfl zgMO_16 (by decide) rfl rfl ?_
          refine z_iload_n hR dMO_write_135 (n := 136) rfl rfl ?_
          refine z_iald hR (_) dMO_write_136 (n := 137) rfl (by decide) rfl (by decide) rfl (by omega) ?_
          rw [(ha' _ hf1 x s2).2.1, e1]
          refine z_iload_n hR dMO_write_137 (n := 138) rfl rfl ?_
          refine z_if_ne hR dMO_write_138 (t := 145) (n := 141) rfl rfl (fun _ => ?_) (fun h138 => absurd h138 (by decide))
          refine z_iconst hR dMO_write_145 (v := 0) (n := 146) rfl rfl ?_
          refine z_callV2 hR dMO_write_146 (n := 149) rfl zcMO_164 zkMO_hold (by decide) (Nat.le_of_ble_eq_true rfl) (by decide) rfl rfl (Nat.zero_le _) (m_MO_hold a (x - 1) false _ hT1 (by first | omega | (simp; omega))) (fun r146 s146 h146 => ?_)
          obtain ⟨rfl, gf1, gk1, gT1⟩ := h146
          have gO1 : mO s146 _ := ⟨by rw [gk1 19 (by decide)]; exact hO1.1, by rw [gf1.1 56 (by decide)]; exact hO1.2⟩
          have gF1 := hf1.tr (gf1.mo (by decide) : zfr [45, 54, 55, 56] _ _)
          have gK1 := hk1.tr (gk1.mo (by decide) : zfd [16, 19] _ _)
          refine z_goto hR dMO_write_149 (t := 381) rfl ?_
          refine z_goto hR dMO_write_381 (t := 21) rfl ?_
          exact ih ((a, x - 1, false) :: T) _ _ _ _ _ _ (by simp only [wW]; omega) (by omega) ⟨k1, by simp only; omega, by simp only; omega, s4⟩ gT1 gO1 (by rw [← he, e3]; simp only [wN, List.append_assoc, List.cons_append, List.nil_append, show hs 33 true = [] from rfl, show (true ^^ tur 33) = false from rfl]) gF1 gK1
        ·
          refine z_iload_n hR dMO_write_74 (n := 75) rfl rfl ?_
          refine z_callS1 hR dMO_write_75 (n := 78) rfl zcMO_127 zkMO_isAtom (by decide) (Nat.le_of_ble_eq_true rfl) (Nat.zero_le _) (m_MO_isAtom _ _) (fun r75 s75 h75 => ?_)
          obtain ⟨rfl, e75⟩ := h75
          subst s75
          refine z_if_eqB hR dMO_write_78 (t := 124) (n := 81) rfl rfl (fun h78 => ?_) (fun h78 => absurd h78 (by decide))
          refine z_iload_n hR dMO_write_124 (n := 125) rfl rfl ?_
          refine z_bipush hR dMO_write_125 (v := 33) (n := 127) rfl rfl ?_
          refine z_icmp_ne hR dMO_write_127 (t := 152) (n := 130) rfl rfl (fun _ => ?_) (fun h127 => absurd h127 (by decide))
          refine z_iload_n hR dMO_write_152 (n := 153) rfl rfl ?_
          refine z_bipush hR dMO_write_153 (v := 88) (n := 155) rfl rfl ?_
          refine z_icmp_ne hR dMO_write_155 (t := 177) (n := 158) rfl rfl (fun h155 => absurd h155 (by decide)) (fun _ => ?_)
          refine z_aload_n hR dMO_write_158 (n := 159) rfl rfl ?_
          refine z_iload_n hR dMO_write_159 (n := 160) rfl rfl ?_
          refine z_callV1 hR dMO_write_160 (n := 163) rfl zcMO_168 zkMO_emit (by decide) (Nat.le_of_ble_eq_true rfl) (by decide) rfl rfl (Nat.zero_le _) (m_MO_emit _ _ hO1 (by first | omega | (simp; omega))) (fun r160 s160 h160 => ?_)
          obtain ⟨rfl, gf1, gk1, gO1⟩ := h160
          have gT1 : mT s160 T := ⟨by rw [gk1 16 (by decide)]; exact hT1.1, by rw [gf1.1 54 (by decide), gf1.1 55 (by decide)]; exact hT1.2⟩
          have gF1 := hf1.tr (gf1.mo (by decide) : zfr [45, 54, 55, 56] _ _)
          have gK1 := hk1.tr (gk1.mo (by decide) : zfd [16, 19] _ _)
          refine z_aload_n hR dMO_write_163 (n := 164) rfl rfl ?_
          refine z_aload_n hR dMO_write_164 (n := 165) rfl rfl ?_
          refine z_getR hR dMO_write_165 (n := 168) rfl zgMO_16 (by decide) rfl rfl ?_
          refine z_iload_n hR dMO_write_168 (n := 169) rfl rfl ?_
          refine z_iald hR (_) dMO_write_169 (n := 170) rfl (by decide) rfl (by decide) rfl (by omega) ?_
          rw [(ha' _ gF1 x s2).2.1, e1]
          refine z_iload_n hR dMO_write_170 (n := 171) rfl rfl ?_
          refine z_callV2 hR dMO_write_171 (n := 174) rfl zcMO_164 zkMO_hold (by decide) (Nat.le_of_ble_eq_true rfl) (by decide) rfl rfl (Nat.zero_le _) (m_MO_hold a (x - 1) false _ gT1 (by first | omega | (simp; omega))) (fun r171 s171 h171 => ?_)
          obtain ⟨rfl, gf2, gk2, gT2⟩ := h171
          have gO2 : mO s171 _ := ⟨by rw [gk2 19 (by decide)]; exact gO1.1, by rw [gf2.1 56 (by decide)]; exact gO1.2⟩
          have gF2 := gF1.tr (gf2.mo (by decide) : zfr [45, 54, 55, 56] _ _)
          have gK2 := gK1.tr (gk2.mo (by decide) : zfd [16, 19] _ _)
          refine z_goto hR dMO_write_174 (t := 381) rfl ?_
          refine z_goto hR dMO_write_381 (t := 21) rfl ?_
          exact ih ((a, x - 1, false) :: T) _ _ _ _ _ _ (by simp only [wW]; omega) (by omega) ⟨k1, by simp only; omega, by simp only; omega, s4⟩ gT2 gO2 (by rw [← he, e3]; simp only [wN, List.append_assoc, List.cons_append, List.nil_append, show hs 88 false = [88] from rfl, show (false ^^ tur 88) = false from rfl]) gF2 gK2
        ·
          refine z_iload_n hR dMO_write_74 (n := 75) rfl rfl ?_
          refine z_callS1 hR dMO_write_75 (n := 78) rfl zcMO_127 zkMO_isAtom (by decide) (Nat.le_of_ble_eq_true rfl) (Nat.zero_le _) (m_MO_isAtom _ _) (fun r75 s75 h75 => ?_)
          obtain ⟨rfl, e75⟩ := h75
          subst s75
          refine z_if_eqB hR dMO_write_78 (t := 124) (n := 81) rfl rfl (fun h78 => ?_) (fun h78 => absurd h78 (by decide))
          refine z_iload_n hR dMO_write_124 (n := 125) rfl rfl ?_
          refine z_bipush hR dMO_write_125 (v := 33) (n := 127) rfl rfl ?_
          refine z_icmp_ne hR dMO_write_127 (t := 152) (n := 130) rfl rfl (fun _ => ?_) (fun h127 => absurd h127 (by decide))
          refine z_iload_n hR dMO_write_152 (n := 153) rfl rfl ?_
          refine z_bipush hR dMO_write_153 (v := 88) (n := 155) rfl rfl ?_
          refine z_icmp_ne hR dMO_write_155 (t := 177) (n := 158) rfl rfl (fun h155 => absurd h155 (by decide)) (fun _ => ?_)
          refine z_aload_n hR dMO_write_158 (n := 159) rfl rfl ?_
          refine z_iload_n hR dMO_write_159 (n := 160) rfl rfl ?_
          refine z_callV1 hR dMO_write_160 (n := 163) rfl zcMO_168 zkMO_emit (by decide) (Nat.le_of_ble_eq_true rfl) (by decide) rfl rfl (Nat.zero_le _) (m_MO_emit _ _ hO1 (by first | omega | (simp; omega))) (fun r160 s160 h160 => ?_)
          obtain ⟨rfl, gf1, gk1, gO1⟩ := h160
          have gT1 : mT s160 T := ⟨by rw [gk1 16 (by decide)]; exact hT1.1, by rw [gf1.1 54 (by decide), gf1.1 55 (by decide)]; exact hT1.2⟩
          have gF1 := hf1.tr (gf1.mo (by decide) : zfr [45, 54, 55, 56] _ _)
          have gK1 := hk1.tr (gk1.mo (by decide) : zfd [16, 19] _ _)
          refine z_aload_n hR dMO_write_163 (n := 164) rfl rfl ?_
          refine z_aload_n hR dMO_write_164 (n := 165) rfl rfl ?_
          refine z_getR hR dMO_write_165 (n := 168) rfl zgMO_16 (by decide) rfl rfl ?_
          refine z_iload_n hR dMO_write_168 (n := 169) rfl rfl ?_
          refine z_iald hR (_) dMO_write_169 (n := 170) rfl (by decide) rfl (by decide) rfl (by omega) ?_
          rw [(ha' _ gF1 x s2).2.1, e1]
          refine z_iload_n hR dMO_write_170 (n := 171) rfl rfl ?_
          refine z_callV2 hR dMO_write_171 (n := 174) rfl zcMO_164 zkMO_hold (by decide) (Nat.le_of_ble_eq_true rfl) (by decide) rfl rfl (Nat.zero_le _) (m_MO_hold a (x - 1) true _ gT1 (by first | omega | (simp; omega))) (fun r171 s171 h171 => ?_)
          obtain ⟨rfl, gf2, gk2, gT2⟩ := h171
          have gO2 : mO s171 _ := ⟨by rw [gk2 19 (by decide)]; exact gO1.1, by rw [gf2.1 56 (by decide)]; exact gO1.2⟩
          have gF2 := gF1.tr (gf2.mo (by decide) : zfr [45, 54, 55, 56] _ _)
          have gK2 := gK1.tr (gk2.mo (by decide) : zfd [16, 19] _ _)
          refine z_goto hR dMO_write_174 (t := 381) rfl ?_
          refine z_goto hR dMO_write_381 (t := 21) rfl ?_
          exact ih ((a, x - 1, true) :: T) _ _ _ _ _ _ (by simp only [wW]; omega) (by omega) ⟨k1, by simp only; omega, by simp only; omega, s4⟩ gT2 gO2 (by rw [← he, e3]; simp only [wN, List.append_assoc, List.cons_append, List.nil_append, show hs 88 true = [88] from rfl, show (true ^^ tur 88) = true from rfl]) gF2 gK2
        ·
          refine z_iload_n hR dMO_write_74 (n := 75) rfl rfl ?_
          refine z_callS1 hR dMO_write_75 (n := 78) rfl zcMO_127 zkMO_isAtom (by decide) (Nat.le_of_ble_eq_true rfl) (Nat.zero_le _) (m_MO_isAtom _ _) (fun r75 s75 h75 => ?_)
          obtain ⟨rfl, e75⟩ := h75
          subst s75
          refine z_if_eqB hR dMO_write_78 (t := 124) (n := 81) rfl rfl (fun h78 => ?_) (fun h78 => absurd h78 (by decide))
          refine z_iload_n hR dMO_write_124 (n := 125) rfl rfl ?_
          refine z_bipush hR dMO_write_125 (v := 33) (n := 127) rfl rfl ?_
          refine z_icmp_ne hR dMO_write_127 (t := 152) (n := 130) rfl rfl (fun _ => ?_) (fun h127 => absurd h127 (by decide))
          refine z_iload_n hR dMO_write_152 (n := 153) rfl rfl ?_
          refine z_bipush hR dMO_write_153 (v := 88) (n := 155) rfl rfl ?_
          refine z_icmp_ne hR dMO_write_155 (t := 177) (n := 158) rfl rfl (fun _ => ?_) (fun h155 => absurd h155 (by decide))
          refine z_iload_n hR dMO_write_177 (n := 178) rfl rfl ?_
          refine z_bipush hR dMO_write_178 (v := 70) (n := 180) rfl rfl ?_
          refine z_icmp_eq hR dMO_write_180 (t := 189) (n := 183) rfl rfl (fun _ => ?_) (fun h180 => absurd (by decide) h180)
          refine z_iload_n hR dMO_write_189 (n := 190) rfl rfl ?_
          refine z_bipush hR dMO_write_190 (v := 70) (n := 192) rfl rfl ?_
          refine z_icmp_ne hR dMO_write_192 (t := 199) (n := 195) rfl rfl (fun h192 => absurd h192 (by decide)) (fun _ => ?_)
          refine z_iconst hR dMO_write_195 (v := 1) (n := 196) rfl rfl ?_
          refine z_goto hR dMO_write_196 (t := 200) rfl ?_
          refine z_iload_n hR dMO_write_200 (n := 201) rfl rfl ?_
          refine z_icmp_eq hR dMO_write_201 (t := 208) (n := 204) rfl rfl (fun h201 => absurd h201 (by decide)) (fun _ => ?_)
          refine z_iconst hR dMO_write_204 (v := 1) (n := 205) rfl rfl ?_
          refine z_goto hR dMO_write_205 (t := 209) rfl ?_
          refine z_istore hR dMO_write_209 (n := 211) rfl (by decide) rfl ?_
          refine z_aload_n hR dMO_write_211 (n := 212) rfl rfl ?_
          refine z_iload hR dMO_write_212 (n := 214) rfl rfl ?_
          refine z_if_eq hR dMO_write_214 (t := 222) (n := 217) rfl rfl (fun h214 => absurd h214 (by decide)) (fun _ => ?_)
          refine z_bipush hR dMO_write_217 (v := 85) (n := 219) rfl rfl ?_
          refine z_goto hR dMO_write_219 (t := 224) rfl ?_
          refine z_callV1 hR dMO_write_224 (n := 227) rfl zcMO_168 zkMO_emit (by decide) (Nat.le_of_ble_eq_true rfl) (by decide) rfl rfl (Nat.zero_le _) (m_MO_emit _ _ hO1 (by first | omega | (simp; omega))) (fun r224 s224 h224 => ?_)
          obtain ⟨rfl, gf1, gk1, gO1⟩ := h224
          have gT1 : mT s224 T := ⟨by rw [gk1 16 (by decide)]; exact hT1.1, by rw [gf1.1 54 (by decide), gf1.1 55 (by decide)]; exact hT1.2⟩
          have gF1 := hf1.tr (gf1.mo (by decide) : zfr [45, 54, 55, 56] _ _)
          have gK1 := hk1.tr (gk1.mo (by decide) : zfd [16, 19] _ _)
          refine z_aload_n hR dMO_write_227 (n := 228) rfl rfl ?_
          refine z_iload hR dMO_write_228 (n := 230) rfl rfl ?_
          refine z_if_eq hR dMO_write_230 (t := 238) (n := 233) rfl rfl (fun h230 => absurd h230 (by decide)) (fun _ => ?_)
          refine z_bipush hR dMO_write_233 (v := 49) (n := 235) rfl rfl ?_
          refine z_goto hR dMO_write_235 (t := 240) rfl ?_
          refine z_callV1 hR dMO_write_240 (n := 243) rfl zcMO_168 zkMO_emit (by decide) (Nat.le_of_ble_eq_true rfl) (by decide) rfl rfl (Nat.zero_le _) (m_MO_emit _ _ gO1 (by first | omega | (simp; omega))) (fun r240 s240 h240 => ?_)
          obtain ⟨rfl, gf2, gk2, gO2⟩ := h240
          have gT2 : mT s240 T := ⟨by rw [gk2 16 (by decide)]; exact gT1.1, by rw [gf2.1 54 (by decide), gf2.1 55 (by decide)]; exact gT1.2⟩
          have gF2 := gF1.tr (gf2.mo (by decide) : zfr [45, 54, 55, 56] _ _)
          have gK2 := gK1.tr (gk2.mo (by decide) : zfd [16, 19] _ _)
          refine z_aload_n hR dMO_write_243 (n := 244) rfl rfl ?_
          refine z_aload_n hR dMO_write_244 (n := 245) rfl rfl ?_
          refine z_getR hR dMO_write_245 (n := 248) rfl zgMO_16 (by decide) rfl rfl ?_
          refine z_iload_n hR dMO_write_248 (n := 249) rfl rfl ?_
          refine z_iald hR (_) dMO_write_249 (n := 250) rfl (by decide) rfl (by decide) rfl (by omega) ?_
          rw [(ha' _ gF2 x s2).2.1, e1]
          refine z_iload_n hR dMO_write_250 (n := 251) rfl rfl ?_
          refine z_callV2 hR dMO_write_251 (n := 254) rfl zcMO_164 zkMO_hold (by decide) (Nat.le_of_ble_eq_true rfl) (by decide) rfl rfl (Nat.zero_le _) (m_MO_hold a (x - 1) false _ gT2 (by first | omega | (simp; omega))) (fun r251 s251 h251 => ?_)
          obtain ⟨rfl, gf3, gk3, gT3⟩ := h251
          have gO3 : mO s251 _ := ⟨by rw [gk3 19 (by decide)]; exact gO2.1, by rw [gf3.1 56 (by decide)]; exact gO2.2⟩
          have gF3 := gF2.tr (gf3.mo (by decide) : zfr [45, 54, 55, 56] _ _)
          have gK3 := gK2.tr (gk3.mo (by decide) : zfd [16, 19] _ _)
          refine z_goto hR dMO_write_254 (t := 381) rfl ?_
          refine z_goto hR dMO_write_381 (t := 21) rfl ?_
          exact ih ((a, x - 1, false) :: T) _ _ _ _ _ _ (by simp only [wW]; omega) (by omega) ⟨k1, by simp only; omega, by simp only; omega, s4⟩ gT3 gO3 (by rw [← he, e3]; simp only [wN, List.append_assoc, List.cons_append, List.nil_append, show hs 70 false = [85, 49] from rfl, show (false ^^ tur 70) = false from rfl]) gF3 gK3
        ·
          refine z_iload_n hR dMO_write_74 (n := 75) rfl rfl ?_
          refine z_callS1 hR dMO_write_75 (n := 78) rfl zcMO_127 zkMO_isAtom (by decide) (Nat.le_of_ble_eq_true rfl) (Nat.zero_le _) (m_MO_isAtom _ _) (fun r75 s75 h75 => ?_)
          obtain ⟨rfl, e75⟩ := h75
          subst s75
          refine z_if_eqB hR dMO_write_78 (t := 124) (n := 81) rfl rfl (fun h78 => ?_) (fun h78 => absurd h78 (by decide))
          refine z_iload_n hR dMO_write_124 (n := 125) rfl rfl ?_
          refine z_bipush hR dMO_write_125 (v := 33) (n := 127) rfl rfl ?_
          refine z_icmp_ne hR dMO_write_127 (t := 152) (n := 130) rfl rfl (fun _ => ?_) (fun h127 => absurd h127 (by decide))
          refine z_iload_n hR dMO_write_152 (n := 153) rfl rfl ?_
          refine z_bipush hR dMO_write_153 (v := 88) (n := 155) rfl rfl ?_
          refine z_icmp_ne hR dMO_write_155 (t := 177) (n := 158) rfl rfl (fun _ => ?_) (fun h155 => absurd h155 (by decide))
          refine z_iload_n hR dMO_write_177 (n := 178) rfl rfl ?_
          refine z_bipush hR dMO_write_178 (v := 70) (n := 180) rfl rfl ?_
          refine z_icmp_eq hR dMO_write_180 (t := 189) (n := 183) rfl rfl (fun _ => ?_) (fun h180 => absurd (by decide) h180)
          refine z_iload_n hR dMO_write_189 (n := 190) rfl rfl ?_
          refine z_bipush hR dMO_write_190 (v := 70) (n := 192) rfl rfl ?_
          refine z_icmp_ne hR dMO_write_192 (t := 199) (n := 195) rfl rfl (fun h192 => absurd h192 (by decide)) (fun _ => ?_)
          refine z_iconst hR dMO_write_195 (v := 1) (n := 196) rfl rfl ?_
          refine z_goto hR dMO_write_196 (t := 200) rfl ?_
          refine z_iload_n hR dMO_write_200 (n := 201) rfl rfl ?_
          refine z_icmp_eq hR dMO_write_201 (t := 208) (n := 204) rfl rfl (fun _ => ?_) (fun h201 => absurd (by decide) h201)
          refine z_iconst hR dMO_write_208 (v := 0) (n := 209) rfl rfl ?_
          refine z_istore hR dMO_write_209 (n := 211) rfl (by decide) rfl ?_
          refine z_aload_n hR dMO_write_211 (n := 212) rfl rfl ?_
          refine z_iload hR dMO_write_212 (n := 214) rfl rfl ?_
          refine z_if_eq hR dMO_write_214 (t := 222) (n := 217) rfl rfl (fun _ => ?_) (fun h214 => absurd (by decide) h214)
          refine z_bipush hR dMO_write_222 (v := 82) (n := 224) rfl rfl ?_
          refine z_callV1 hR dMO_write_224 (n := 227) rfl zcMO_168 zkMO_emit (by decide) (Nat.le_of_ble_eq_true rfl) (by decide) rfl rfl (Nat.zero_le _) (m_MO_emit _ _ hO1 (by first | omega | (simp; omega))) (fun r224 s224 h224 => ?_)
          obtain ⟨rfl, gf1, gk1, gO1⟩ := h224
          have gT1 : mT s224 T := ⟨by rw [gk1 16 (by decide)]; exact hT1.1, by rw [gf1.1 54 (by decide), gf1.1 55 (by decide)]; exact hT1.2⟩
          have gF1 := hf1.tr (gf1.mo (by decide) : zfr [45, 54, 55, 56] _ _)
          have gK1 := hk1.tr (gk1.mo (by decide) : zfd [16, 19] _ _)
          refine z_aload_n hR dMO_write_227 (n := 228) rfl rfl ?_
          refine z_iload hR dMO_write_228 (n := 230) rfl rfl ?_
          refine z_if_eq hR dMO_write_230 (t := 238) (n := 233) rfl rfl (fun _ => ?_) (fun h230 => absurd (by decide) h230)
          refine z_bipush hR dMO_write_238 (v := 48) (n := 240) rfl rfl ?_
          refine z_callV1 hR dMO_write_240 (n := 243) rfl zcMO_168 zkMO_emit (by decide) (Nat.le_of_ble_eq_true rfl) (by decide) rfl rfl (Nat.zero_le _) (m_MO_emit _ _ gO1 (by first | omega | (simp; omega))) (fun r240 s240 h240 => ?_)
          obtain ⟨rfl, gf2, gk2, gO2⟩ := h240
          have gT2 : mT s240 T := ⟨by rw [gk2 16 (by decide)]; exact gT1.1, by rw [gf2.1 54 (by decide), gf2.1 55 (by decide)]; exact gT1.2⟩
          have gF2 := gF1.tr (gf2.mo (by decide) : zfr [45, 54, 55, 56] _ _)
          have gK2 := gK1.tr (gk2.mo (by decide) : zfd [16, 19] _ _)
          refine z_aload_n hR dMO_write_243 (n := 244) rfl rfl ?_
          refine z_aload_n hR dMO_write_244 (n := 245) rfl rfl ?_
          refine z_getR hR dMO_write_245 (n := 248) rfl zgMO_16 (by decide) rfl rfl ?_
          refine z_iload_n hR dMO_write_248 (n := 249) rfl rfl ?_
          refine z_iald hR (_) dMO_write_249 (n := 250) rfl (by decide) rfl (by decide) rfl (by omega) ?_
          rw [(ha' _ gF2 x s2).2.1, e1]
          refine z_iload_n hR dMO_write_250 (n := 251) rfl rfl ?_
          refine z_callV2 hR dMO_write_251 (n := 254) rfl zcMO_164 zkMO_hold (by decide) (Nat.le_of_ble_eq_true rfl) (by decide) rfl rfl (Nat.zero_le _) (m_MO_hold a (x - 1) true _ gT2 (by first | omega | (simp; omega))) (fun r251 s251 h251 => ?_)
          obtain ⟨rfl, gf3, gk3, gT3⟩ := h251
          have gO3 : mO s251 _ := ⟨by rw [gk3 19 (by decide)]; exact gO2.1, by rw [gf3.1 56 (by decide)]; exact gO2.2⟩
          have gF3 := gF2.tr (gf3.mo (by decide) : zfr [45, 54, 55, 56] _ _)
          have gK3 := gK2.tr (gk3.mo (by decide) : zfd [16, 19] _ _)
          refine z_goto hR dMO_write_254 (t := 381) rfl ?_
          refine z_goto hR dMO_write_381 (t := 21) rfl ?_
          exact ih ((a, x - 1, true) :: T) _ _ _ _ _ _ (by simp only [wW]; omega) (by omega) ⟨k1, by simp only; omega, by simp only; omega, s4⟩ gT3 gO3 (by rw [← he, e3]; simp only [wN, List.append_assoc, List.cons_append, List.nil_append, show hs 70 true = [82, 48] from rfl, show (true ^^ tur 70) = true from rfl]) gF3 gK3
        ·
          refine z_iload_n hR dMO_write_74 (n := 75) rfl rfl ?_
          refine z_callS1 hR dMO_write_75 (n := 78) rfl zcMO_127 zkMO_isAtom (by decide) (Nat.le_of_ble_eq_true rfl) (Nat.zero_le _) (m_MO_isAtom _ _) (fun r75 s75 h75 => ?_)
          obtain ⟨rfl, e75⟩ := h75
          subst s75
          refine z_if_eqB hR dMO_write_78 (t := 124) (n := 81) rfl rfl (fun h78 => ?_) (fun h78 => absurd h78 (by decide))
          refine z_iload_n hR dMO_write_124 (n := 125) rfl rfl ?_
          refine z_bipush hR dMO_write_125 (v := 33) (n := 127) rfl rfl ?_
          refine z_icmp_ne hR dMO_write_127 (t := 152) (n := 130) rfl rfl (fun _ => ?_) (fun h127 => absurd h127 (by decide))
          refine z_iload_n hR dMO_write_152 (n := 153) rfl rfl ?_
          refine z_bipush hR dMO_write_153 (v := 88) (n := 155) rfl rfl ?_
          refine z_icmp_ne hR dMO_write_155 (t := 177) (n := 158) rfl rfl (fun _ => ?_) (fun h155 => absurd h155 (by decide))
          refine z_iload_n hR dMO_write_177 (n := 178) rfl rfl ?_
          refine z_bipush hR dMO_write_178 (v := 70) (n := 180) rfl rfl ?_
          refine z_icmp_eq hR dMO_write_180 (t := 189) (n := 183) rfl rfl (fun h180 => absurd h180 (by decide)) (fun _ => ?_)
          refine z_iload_n hR dMO_write_183 (n := 184) rfl rfl ?_
          refine z_bipush hR dMO_write_184 (v := 71) (n := 186) rfl rfl ?_
          refine z_icmp_ne hR dMO_write_186 (t := 257) (n := 189) rfl rfl (fun h186 => absurd h186 (by decide)) (fun _ => ?_)
          refine z_iload_n hR dMO_write_189 (n := 190) rfl rfl ?_
          refine z_bipush hR dMO_write_190 (v := 70) (n := 192) rfl rfl ?_
          refine z_icmp_ne hR dMO_write_192 (t := 199) (n := 195) rfl rfl (fun _ => ?_) (fun h192 => absurd h192 (by decide))
          refine z_iconst hR dMO_write_199 (v := 0) (n := 200) rfl rfl ?_
          refine z_iload_n hR dMO_write_200 (n := 201) rfl rfl ?_
          refine z_icmp_eq hR dMO_write_201 (t := 208) (n := 204) rfl rfl (fun _ => ?_) (fun h201 => absurd (by decide) h201)
          refine z_iconst hR dMO_write_208 (v := 0) (n := 209) rfl rfl ?_
          refine z_istore hR dMO_write_209 (n := 211) rfl (by decide) rfl ?_
          refine z_aload_n hR dMO_write_211 (n := 212) rfl rfl ?_
          refine z_iload hR dMO_write_212 (n := 214) rfl rfl ?_
          refine z_if_eq hR dMO_write_214 (t := 222) (n := 217) rfl rfl (fun _ => ?_) (fun h214 => absurd (by decide) h214)
          refine z_bipush hR dMO_write_222 (v := 82) (n := 224) rfl rfl ?_
          refine z_callV1 hR dMO_write_224 (n := 227) rfl zcMO_168 zkMO_emit (by decide) (Nat.le_of_ble_eq_true rfl) (by decide) rfl rfl (Nat.zero_le _) (m_MO_emit _ _ hO1 (by first | omega | (simp; omega))) (fun r224 s224 h224 => ?_)
          obtain ⟨rfl, gf1, gk1, gO1⟩ := h224
          have gT1 : mT s224 T := ⟨by rw [gk1 16 (by decide)]; exact hT1.1, by rw [gf1.1 54 (by decide), gf1.1 55 (by decide)]; exact hT1.2⟩
          have gF1 := hf1.tr (gf1.mo (by decide) : zfr [45, 54, 55, 56] _ _)
          have gK1 := hk1.tr (gk1.mo (by decide) : zfd [16, 19] _ _)
          refine z_aload_n hR dMO_write_227 (n := 228) rfl rfl ?_
          refine z_iload hR dMO_write_228 (n := 230) rfl rfl ?_
          refine z_if_eq hR dMO_write_230 (t := 238) (n := 233) rfl rfl (fun _ => ?_) (fun h230 => absurd (by decide) h230)
          refine z_bipush hR dMO_write_238 (v := 48) (n := 240) rfl rfl ?_
          refine z_callV1 hR dMO_write_240 (n := 243) rfl zcMO_168 zkMO_emit (by decide) (Nat.le_of_ble_eq_true rfl) (by decide) rfl rfl (Nat.zero_le _) (m_MO_emit _ _ gO1 (by first | omega | (simp; omega))) (fun r240 s240 h240 => ?_)
          obtain ⟨rfl, gf2, gk2, gO2⟩ := h240
          have gT2 : mT s240 T := ⟨by rw [gk2 16 (by decide)]; exact gT1.1, by rw [gf2.1 54 (by decide), gf2.1 55 (by decide)]; exact gT1.2⟩
          have gF2 := gF1.tr (gf2.mo (by decide) : zfr [45, 54, 55, 56] _ _)
          have gK2 := gK1.tr (gk2.mo (by decide) : zfd [16, 19] _ _)
          refine z_aload_n hR dMO_write_243 (n := 244) rfl rfl ?_
          refine z_aload_n hR dMO_write_244 (n := 245) rfl rfl ?_
          refine z_getR hR dMO_write_245 (n := 248) rfl zgMO_16 (by decide) rfl rfl ?_
          refine z_iload_n hR dMO_write_248 (n := 249) rfl rfl ?_
          refine z_iald hR (_) dMO_write_249 (n := 250) rfl (by decide) rfl (by decide) rfl (by omega) ?_
          rw [(ha' _ gF2 x s2).2.1, e1]
          refine z_iload_n hR dMO_write_250 (n := 251) rfl rfl ?_
          refine z_callV2 hR dMO_write_251 (n := 254) rfl zcMO_164 zkMO_hold (by decide) (Nat.le_of_ble_eq_true rfl) (by decide) rfl rfl (Nat.zero_le _) (m_MO_hold a (x - 1) false _ gT2 (by first | omega | (simp; omega))) (fun r251 s251 h251 => ?_)
          obtain ⟨rfl, gf3, gk3, gT3⟩ := h251
          have gO3 : mO s251 _ := ⟨by rw [gk3 19 (by decide)]; exact gO2.1, by rw [gf3.1 56 (by decide)]; exact gO2.2⟩
          have gF3 := gF2.tr (gf3.mo (by decide) : zfr [45, 54, 55, 56] _ _)
          have gK3 := gK2.tr (gk3.mo (by decide) : zfd [16, 19] _ _)
          refine z_goto hR dMO_write_254 (t := 381) rfl ?_
          refine z_goto hR dMO_write_381 (t := 21) rfl ?_
          exact ih ((a, x - 1, false) :: T) _ _ _ _ _ _ (by simp only [wW]; omega) (by omega) ⟨k1, by simp only; omega, by simp only; omega, s4⟩ gT3 gO3 (by rw [← he, e3]; simp only [wN, List.append_assoc, List.cons_append, List.nil_append, show hs 71 false = [82, 48] from rfl, show (false ^^ tur 71) = false from rfl]) gF3 gK3
        ·
          refine z_iload_n hR dMO_write_74 (n := 75) rfl rfl ?_
          refine z_callS1 hR dMO_write_75 (n := 78) rfl zcMO_127 zkMO_isAtom (by decide) (Nat.le_of_ble_eq_true rfl) (Nat.zero_le _) (m_MO_isAtom _ _) (fun r75 s75 h75 => ?_)
          obtain ⟨rfl, e75⟩ := h75
          subst s75
          refine z_if_eqB hR dMO_write_78 (t := 124) (n := 81) rfl rfl (fun h78 => ?_) (fun h78 => absurd h78 (by decide))
          refine z_iload_n hR dMO_write_124 (n := 125) rfl rfl ?_
          refine z_bipush hR dMO_write_125 (v := 33) (n := 127) rfl rfl ?_
          refine z_icmp_ne hR dMO_write_127 (t := 152) (n := 130) rfl rfl (fun _ => ?_) (fun h127 => absurd h127 (by decide))
          refine z_iload_n hR dMO_write_152 (n := 153) rfl rfl ?_
          refine z_bipush hR dMO_write_153 (v := 88) (n := 155) rfl rfl ?_
          refine z_icmp_ne hR dMO_write_155 (t := 177) (n := 158) rfl rfl (fun _ => ?_) (fun h155 => absurd h155 (by decide))
          refine z_iload_n hR dMO_write_177 (n := 178) rfl rfl ?_
          refine z_bipush hR dMO_write_178 (v := 70) (n := 180) rfl rfl ?_
          refine z_icmp_eq hR dMO_write_180 (t := 189) (n := 183) rfl rfl (fun h180 => absurd h180 (by decide)) (fun _ => ?_)
          refine z_iload_n hR dMO_write_183 (n := 184) rfl rfl ?_
          refine z_bipush hR dMO_write_184 (v := 71) (n := 186) rfl rfl ?_
          refine z_icmp_ne hR dMO_write_186 (t := 257) (n := 189) rfl rfl (fun h186 => absurd h186 (by decide)) (fun _ => ?_)
          refine z_iload_n hR dMO_write_189 (n := 190) rfl rfl ?_
          refine z_bipush hR dMO_write_190 (v := 70) (n := 192) rfl rfl ?_
          refine z_icmp_ne hR dMO_write_192 (t := 199) (n := 195) rfl rfl (fun _ => ?_) (fun h192 => absurd h192 (by decide))
          refine z_iconst hR dMO_write_199 (v := 0) (n := 200) rfl rfl ?_
          refine z_iload_n hR dMO_write_200 (n := 201) rfl rfl ?_
          refine z_icmp_eq hR dMO_write_201 (t := 208) (n := 204) rfl rfl (fun h201 => absurd h201 (by decide)) (fun _ => ?_)
          refine z_iconst hR dMO_write_204 (v := 1) (n := 205) rfl rfl ?_
          refine z_goto hR dMO_write_205 (t := 209) rfl ?_
          refine z_istore hR dMO_write_209 (n := 211) rfl (by decide) rfl ?_
          refine z_aload_n hR dMO_write_211 (n := 212) rfl rfl ?_
          refine z_iload hR dMO_write_212 (n := 214) rfl rfl ?_
          refine z_if_eq hR dMO_write_214 (t := 222) (n := 217) rfl rfl (fun h214 => absurd h214 (by decide)) (fun _ => ?_)
          refine z_bipush hR dMO_write_217 (v := 85) (n := 219) rfl rfl ?_
          refine z_goto hR dMO_write_219 (t := 224) rfl ?_
          refine z_callV1 hR dMO_write_224 (n := 227) rfl zcMO_168 zkMO_emit (by decide) (Nat.le_of_ble_eq_true rfl) (by decide) rfl rfl (Nat.zero_le _) (m_MO_emit _ _ hO1 (by first | omega | (simp; omega))) (fun r224 s224 h224 => ?_)
          obtain ⟨rfl, gf1, gk1, gO1⟩ := h224
          have gT1 : mT s224 T := ⟨by rw [gk1 16 (by decide)]; exact hT1.1, by rw [gf1.1 54 (by decide), gf1.1 55 (by decide)]; exact hT1.2⟩
          have gF1 := hf1.tr (gf1.mo (by decide) : zfr [45, 54, 55, 56] _ _)
          have gK1 := hk1.tr (gk1.mo (by decide) : zfd [16, 19] _ _)
          refine z_aload_n hR dMO_write_227 (n := 228) rfl rfl ?_
          refine z_iload hR dMO_write_228 (n := 230) rfl rfl ?_
          refine z_if_eq hR dMO_write_230 (t := 238) (n := 233) rfl rfl (fun h230 => absurd h230 (by decide)) (fun _ => ?_)
          refine z_bipush hR dMO_write_233 (v := 49) (n := 235) rfl rfl ?_
          refine z_goto hR dMO_write_235 (t := 240) rfl ?_
          refine z_callV1 hR dMO_write_240 (n := 243) rfl zcMO_168 zkMO_emit (by decide) (Nat.le_of_ble_eq_true rfl) (by decide) rfl rfl (Nat.zero_le _) (m_MO_emit _ _ gO1 (by first | omega | (simp; omega))) (fun r240 s240 h240 => ?_)
          obtain ⟨rfl, gf2, gk2, gO2⟩ := h240
          have gT2 : mT s240 T := ⟨by rw [gk2 16 (by decide)]; exact gT1.1, by rw [gf2.1 54 (by decide), gf2.1 55 (by decide)]; exact gT1.2⟩
          have gF2 := gF1.tr (gf2.mo (by decide) : zfr [45, 54, 55, 56] _ _)
          have gK2 := gK1.tr (gk2.mo (by decide) : zfd [16, 19] _ _)
          refine z_aload_n hR dMO_write_243 (n := 244) rfl rfl ?_
          refine z_aload_n hR dMO_write_244 (n := 245) rfl rfl ?_
          refine z_getR hR dMO_write_245 (n := 248) rfl zgMO_16 (by decide) rfl rfl ?_
          refine z_iload_n hR dMO_write_248 (n := 249) rfl rfl ?_
          refine z_iald hR (_) dMO_write_249 (n := 250) rfl (by decide) rfl (by decide) rfl (by omega) ?_
          rw [(ha' _ gF2 x s2).2.1, e1]
          refine z_iload_n hR dMO_write_250 (n := 251) rfl rfl ?_
          refine z_callV2 hR dMO_write_251 (n := 254) rfl zcMO_164 zkMO_hold (by decide) (Nat.le_of_ble_eq_true rfl) (by decide) rfl rfl (Nat.zero_le _) (m_MO_hold a (x - 1) true _ gT2 (by first | omega | (simp; omega))) (fun r251 s251 h251 => ?_)
          obtain ⟨rfl, gf3, gk3, gT3⟩ := h251
          have gO3 : mO s251 _ := ⟨by rw [gk3 19 (by decide)]; exact gO2.1, by rw [gf3.1 56 (by decide)]; exact gO2.2⟩
          have gF3 := gF2.tr (gf3.mo (by decide) : zfr [45, 54, 55, 56] _ _)
          have gK3 := gK2.tr (gk3.mo (by decide) : zfd [16, 19] _ _)
          refine z_goto hR dMO_write_254 (t := 381) rfl ?_
          refine z_goto hR dMO_write_381 (t := 21) rfl ?_
          exact ih ((a, x - 1, true) :: T) _ _ _ _ _ _ (by simp only [wW]; omega) (by omega) ⟨k1, by simp only; omega, by simp only; omega, s4⟩ gT3 gO3 (by rw [← he, e3]; simp only [wN, List.append_assoc, List.cons_append, List.nil_append, show hs 71 true = [85, 49] from rfl, show (true ^^ tur 71) = true from rfl]) gF3 gK3
      ·
        have hc : c = 82 ∨ c = 85 ∨ c = 38 ∨ c = 124 ∨ c = 62 := by
          have q1 := rk_in h1
          simp only [List.mem_cons, List.not_mem_nil, or_false] at q1
          rcases q1 with q | q | q | q | q
          · rw [q] at h2; exact absurd h2 (by decide)
          · rw [q] at h2; exact absurd h2 (by decide)
          · rw [q] at h2; exact absurd h2 (by decide)
          · rw [q] at h2; exact absurd h2 (by decide)
          · exact q
        rcases hc with hc | hc | hc | hc | hc <;> subst hc <;> cases neg
        ·
          refine z_iload_n hR dMO_write_74 (n := 75) rfl rfl ?_
          refine z_callS1 hR dMO_write_75 (n := 78) rfl zcMO_127 zkMO_isAtom (by decide) (Nat.le_of_ble_eq_true rfl) (Nat.zero_le _) (m_MO_isAtom _ _) (fun r75 s75 h75 => ?_)
          obtain ⟨rfl, e75⟩ := h75
          subst s75
          refine z_if_eqB hR dMO_write_78 (t := 124) (n := 81) rfl rfl (fun h78 => ?_) (fun h78 => absurd h78 (by decide))
          refine z_iload_n hR dMO_write_124 (n := 125) rfl rfl ?_
          refine z_bipush hR dMO_write_125 (v := 33) (n := 127) rfl rfl ?_
          refine z_icmp_ne hR dMO_write_127 (t := 152) (n := 130) rfl rfl (fun _ => ?_) (fun h127 => absurd h127 (by decide))
          refine z_iload_n hR dMO_write_152 (n := 153) rfl rfl ?_
          refine z_bipush hR dMO_write_153 (v := 88) (n := 155) rfl rfl ?_
          refine z_icmp_ne hR dMO_write_155 (t := 177) (n := 158) rfl rfl (fun _ => ?_) (fun h155 => absurd h155 (by decide))
          refine z_iload_n hR dMO_write_177 (n := 178) rfl rfl ?_
          refine z_bipush hR dMO_write_178 (v := 70) (n := 180) rfl rfl ?_
          refine z_icmp_eq hR dMO_write_180 (t := 189) (n := 183) rfl rfl (fun h180 => absurd h180 (by decide)) (fun _ => ?_)
          refine z_iload_n hR dMO_write_183 (n := 184) rfl rfl ?_
          refine z_bipush hR dMO_write_184 (v := 71) (n := 186) rfl rfl ?_
          refine z_icmp_ne hR dMO_write_186 (t := 257) (n := 189) rfl rfl (fun _ => ?_) (fun h186 => absurd h186 (by decide))
          refine z_iload_n hR dMO_write_257 (n := 258) rfl rfl ?_
          refine z_bipush hR dMO_write_258 (v := 38) (n := 260) rfl rfl ?_
          refine z_icmp_eq hR dMO_write_260 (t := 269) (n := 263) rfl rfl (fun h260 => absurd h260 (by decide)) (fun _ => ?_)
          refine z_iload_n hR dMO_write_263 (n := 264) rfl rfl ?_
          refine z_bipush hR dMO_write_264 (v := 85) (n := 266) rfl rfl ?_
          refine z_icmp_ne hR dMO_write_266 (t := 273) (n := 269) rfl rfl (fun _ => ?_) (fun h266 => absurd h266 (by decide))
          refine z_iconst hR dMO_write_273 (v := 0) (n := 274) rfl rfl ?_
          refine z_istore hR dMO_write_274 (n := 276) rfl (by decide) rfl ?_
          refine z_aload_n hR dMO_write_276 (n := 277) rfl rfl ?_
          refine z_iload_n hR dMO_write_277 (n := 278) rfl rfl ?_
          refine z_bipush hR dMO_write_278 (v := 62) (n := 280) rfl rfl ?_
          refine z_icmp_ne hR dMO_write_280 (t := 297) (n := 283) rfl rfl (fun _ => ?_) (fun h280 => absurd h280 (by decide))
          refine z_iload_n hR dMO_write_297 (n := 298) rfl rfl ?_
          refine z_bipush hR dMO_write_298 (v := 38) (n := 300) rfl rfl ?_
          refine z_icmp_eq hR dMO_write_300 (t := 309) (n := 303) rfl rfl (fun h300 => absurd h300 (by decide)) (fun _ => ?_)
          refine z_iload_n hR dMO_write_303 (n := 304) rfl rfl ?_
          refine z_bipush hR dMO_write_304 (v := 124) (n := 306) rfl rfl ?_
          refine z_icmp_ne hR dMO_write_306 (t := 325) (n := 309) rfl rfl (fun _ => ?_) (fun h306 => absurd h306 (by decide))
          refine z_iload hR dMO_write_325 (n := 327) rfl rfl ?_
          refine z_iload_n hR dMO_write_327 (n := 328) rfl rfl ?_
          refine z_icmp_eq hR dMO_write_328 (t := 336) (n := 331) rfl rfl (fun _ => ?_) (fun h328 => absurd (by decide) h328)
          refine z_bipush hR dMO_write_336 (v := 82) (n := 338) rfl rfl ?_
          refine z_callV1 hR dMO_write_338 (n := 341) rfl zcMO_168 zkMO_emit (by decide) (Nat.le_of_ble_eq_true rfl) (by decide) rfl rfl (Nat.zero_le _) (m_MO_emit _ _ hO1 (by first | omega | (simp; omega))) (fun r338 s338 h338 => ?_)
          obtain ⟨rfl, gf1, gk1, gO1⟩ := h338
          have gT1 : mT s338 T := ⟨by rw [gk1 16 (by decide)]; exact hT1.1, by rw [gf1.1 54 (by decide), gf1.1 55 (by decide)]; exact hT1.2⟩
          have gF1 := hf1.tr (gf1.mo (by decide) : zfr [45, 54, 55, 56] _ _)
          have gK1 := hk1.tr (gk1.mo (by decide) : zfd [16, 19] _ _)
          refine z_aload_n hR dMO_write_341 (n := 342) rfl rfl ?_
          refine z_aload_n hR dMO_write_342 (n := 343) rfl rfl ?_
          refine z_getR hR dMO_write_343 (n := 346) rfl zgMO_19 (by decide) rfl rfl ?_
          refine z_iload_n hR dMO_write_346 (n := 347) rfl rfl ?_
          refine z_iald hR (_) dMO_write_347 (n := 348) rfl (by decide) rfl (by decide) rfl (by omega) ?_
          rw [(ha' _ gF1 x s2).2.2, e2]
          refine z_iload_n hR dMO_write_348 (n := 349) rfl rfl ?_
          refine z_callV2 hR dMO_write_349 (n := 352) rfl zcMO_164 zkMO_hold (by decide) (Nat.le_of_ble_eq_true rfl) (by decide) rfl rfl (Nat.zero_le _) (m_MO_hold (q + 1) (x - 1) false _ gT1 (by first | omega | (simp; omega))) (fun r349 s349 h349 => ?_)
          obtain ⟨rfl, gf2, gk2, gT2⟩ := h349
          have gO2 : mO s349 _ := ⟨by rw [gk2 19 (by decide)]; exact gO1.1, by rw [gf2.1 56 (by decide)]; exact gO1.2⟩
          have gF2 := gF1.tr (gf2.mo (by decide) : zfr [45, 54, 55, 56] _ _)
          have gK2 := gK1.tr (gk2.mo (by decide) : zfd [16, 19] _ _)
          refine z_aload_n hR dMO_write_352 (n := 353) rfl rfl ?_
          refine z_aload_n hR dMO_write_353 (n := 354) rfl rfl ?_
          refine z_getR hR dMO_write_354 (n := 357) rfl zgMO_16 (by decide) rfl rfl ?_
          refine z_iload_n hR dMO_write_357 (n := 358) rfl rfl ?_
          refine z_iald hR (_) dMO_write_358 (n := 359) rfl (by decide) rfl (by decide) rfl (by omega) ?_
          rw [(ha' _ gF2 x s2).2.1, e1]
          refine z_iload_n hR dMO_write_359 (n := 360) rfl rfl ?_
          refine z_bipush hR dMO_write_360 (v := 62) (n := 362) rfl rfl ?_
          refine z_icmp_ne hR dMO_write_362 (t := 377) (n := 365) rfl rfl (fun _ => ?_) (fun h362 => absurd h362 (by decide))
          refine z_iload_n hR dMO_write_377 (n := 378) rfl rfl ?_
          refine z_callV2 hR dMO_write_378 (n := 381) rfl zcMO_164 zkMO_hold (by decide) (Nat.le_of_ble_eq_true rfl) (by decide) rfl rfl (Nat.zero_le _) (m_MO_hold a q false _ gT2 (by first | omega | (simp; omega))) (fun r378 s378 h378 => ?_)
          obtain ⟨rfl, gf3, gk3, gT3⟩ := h378
          have gO3 : mO s378 _ := ⟨by rw [gk3 19 (by decide)]; exact gO2.1, by rw [gf3.1 56 (by decide)]; exact gO2.2⟩
          have gF3 := gF2.tr (gf3.mo (by decide) : zfr [45, 54, 55, 56] _ _)
          have gK3 := gK2.tr (gk3.mo (by decide) : zfd [16, 19] _ _)
          refine z_goto hR dMO_write_381 (t := 21) rfl ?_
          exact ih ((a, q, false) :: ((q + 1, x - 1, false) :: T)) _ _ _ _ _ _ (by simp only [wW]; omega) (by omega) ⟨k1, by simp only; omega, by simp only; omega, ⟨k2, by simp only; omega, by simp only; omega, s4⟩⟩ gT3 gO3 (by rw [← he, e3]; simp only [wN, List.append_assoc, List.cons_append, List.nil_append, show hs 82 false = [82] from rfl, show (false ^^ tur 82) = false from rfl]) gF3 gK3
        ·
          refine z_iload_n hR dMO_write_74 (n := 75) rfl rfl ?_
          refine z_callS1 hR dMO_write_75 (n := 78) rfl zcMO_127 zkMO_isAtom (by decide) (Nat.le_of_ble_eq_true rfl) (Nat.zero_le _) (m_MO_isAtom _ _) (fun r75 s75 h75 => ?_)
          obtain ⟨rfl, e75⟩ := h75
          subst s75
          refine z_if_eqB hR dMO_write_78 (t := 124) (n := 81) rfl rfl (fun h78 => ?_) (fun h78 => absurd h78 (by decide))
          refine z_iload_n hR dMO_write_124 (n := 125) rfl rfl ?_
          refine z_bipush hR dMO_write_125 (v := 33) (n := 127) rfl rfl ?_
          refine z_icmp_ne hR dMO_write_127 (t := 152) (n := 130) rfl rfl (fun _ => ?_) (fun h127 => absurd h127 (by decide))
          refine z_iload_n hR dMO_write_152 (n := 153) rfl rfl ?_
          refine z_bipush hR dMO_write_153 (v := 88) (n := 155) rfl rfl ?_
          refine z_icmp_ne hR dMO_write_155 (t := 177) (n := 158) rfl rfl (fun _ => ?_) (fun h155 => absurd h155 (by decide))
          refine z_iload_n hR dMO_write_177 (n := 178) rfl rfl ?_
          refine z_bipush hR dMO_write_178 (v := 70) (n := 180) rfl rfl ?_
          refine z_icmp_eq hR dMO_write_180 (t := 189) (n := 183) rfl rfl (fun h180 => absurd h180 (by decide)) (fun _ => ?_)
          refine z_iload_n hR dMO_write_183 (n := 184) rfl rfl ?_
          refine z_bipush hR dMO_write_184 (v := 71) (n := 186) rfl rfl ?_
          refine z_icmp_ne hR dMO_write_186 (t := 257) (n := 189) rfl rfl (fun _ => ?_) (fun h186 => absurd h186 (by decide))
          refine z_iload_n hR dMO_write_257 (n := 258) rfl rfl ?_
          refine z_bipush hR dMO_write_258 (v := 38) (n := 260) rfl rfl ?_
          refine z_icmp_eq hR dMO_write_260 (t := 269) (n := 263) rfl rfl (fun h260 => absurd h260 (by decide)) (fun _ => ?_)
          refine z_iload_n hR dMO_write_263 (n := 264) rfl rfl ?_
          refine z_bipush hR dMO_write_264 (v := 85) (n := 266) rfl rfl ?_
          refine z_icmp_ne hR dMO_write_266 (t := 273) (n := 269) rfl rfl (fun _ => ?_) (fun h266 => absurd h266 (by decide))
          refine z_iconst hR dMO_write_273 (v := 0) (n := 274) rfl rfl ?_
          refine z_istore hR dMO_write_274 (n := 276) rfl (by decide) rfl ?_
          refine z_aload_n hR dMO_write_276 (n := 277) rfl rfl ?_
          refine z_iload_n hR dMO_write_277 (n := 278) rfl rfl ?_
          refine z_bipush hR dMO_write_278 (v := 62) (n := 280) rfl rfl ?_
          refine z_icmp_ne hR dMO_write_280 (t := 297) (n := 283) rfl rfl (fun _ => ?_) (fun h280 => absurd h280 (by decide))
          refine z_iload_n hR dMO_write_297 (n := 298) rfl rfl ?_
          refine z_bipush hR dMO_write_298 (v := 38) (n := 300) rfl rfl ?_
          refine z_icmp_eq hR dMO_write_300 (t := 309) (n := 303) rfl rfl (fun h300 => absurd h300 (by decide)) (fun _ => ?_)
          refine z_iload_n hR dMO_write_303 (n := 304) rfl rfl ?_
          refine z_bipush hR dMO_write_304 (v := 124) (n := 306) rfl rfl ?_
          refine z_icmp_ne hR dMO_write_306 (t := 325) (n := 309) rfl rfl (fun _ => ?_) (fun h306 => absurd h306 (by decide))
          refine z_iload hR dMO_write_325 (n := 327) rfl rfl ?_
          refine z_iload_n hR dMO_write_327 (n := 328) rfl rfl ?_
          refine z_icmp_eq hR dMO_write_328 (t := 336) (n := 331) rfl rfl (fun h328 => absurd h328 (by decide)) (fun _ => ?_)
          refine z_bipush hR dMO_write_331 (v := 85) (n := 333) rfl rfl ?_
          refine z_goto hR dMO_write_333 (t := 338) rfl ?_
          refine z_callV1 hR dMO_write_338 (n := 341) rfl zcMO_168 zkMO_emit (by decide) (Nat.le_of_ble_eq_true rfl) (by decide) rfl rfl (Nat.zero_le _) (m_MO_emit _ _ hO1 (by first | omega | (simp; omega))) (fun r338 s338 h338 => ?_)
          obtain ⟨rfl, gf1, gk1, gO1⟩ := h338
          have gT1 : mT s338 T := ⟨by rw [gk1 16 (by decide)]; exact hT1.1, by rw [gf1.1 54 (by decide), gf1.1 55 (by decide)]; exact hT1.2⟩
          have gF1 := hf1.tr (gf1.mo (by decide) : zfr [45, 54, 55, 56] _ _)
          have gK1 := hk1.tr (gk1.mo (by decide) : zfd [16, 19] _ _)
          refine z_aload_n hR dMO_write_341 (n := 342) rfl rfl ?_
          refine z_aload_n hR dMO_write_342 (n := 343) rfl rfl ?_
          refine z_getR hR dMO_write_343 (n := 346) rfl zgMO_19 (by decide) rfl rfl ?_
          refine z_iload_n hR dMO_write_346 (n := 347) rfl rfl ?_
          refine z_iald hR (_) dMO_write_347 (n := 348) rfl (by decide) rfl (by decide) rfl (by omega) ?_
          rw [(ha' _ gF1 x s2).2.2, e2]
          refine z_iload_n hR dMO_write_348 (n := 349) rfl rfl ?_
          refine z_callV2 hR dMO_write_349 (n := 352) rfl zcMO_164 zkMO_hold (by decide) (Nat.le_of_ble_eq_true rfl) (by decide) rfl rfl (Nat.zero_le _) (m_MO_hold (q + 1) (x - 1) true _ gT1 (by first | omega | (simp; omega))) (fun r349 s349 h349 => ?_)
          obtain ⟨rfl, gf2, gk2, gT2⟩ := h349
          have gO2 : mO s349 _ := ⟨by rw [gk2 19 (by decide)]; exact gO1.1, by rw [gf2.1 56 (by decide)]; exact gO1.2⟩
          have gF2 := gF1.tr (gf2.mo (by decide) : zfr [45, 54, 55, 56] _ _)
          have gK2 := gK1.tr (gk2.mo (by decide) : zfd [16, 19] _ _)
          refine z_aload_n hR dMO_write_352 (n := 353) rfl rfl ?_
          refine z_aload_n hR dMO_write_353 (n := 354) rfl rfl ?_
          refine z_getR hR dMO_write_354 (n := 357) rfl zgMO_16 (by decide) rfl rfl ?_
          refine z_iload_n hR dMO_write_357 (n := 358) rfl rfl ?_
          refine z_iald hR (_) dMO_write_358 (n := 359) rfl (by decide) rfl (by decide) rfl (by omega) ?_
          rw [(ha' _ gF2 x s2).2.1, e1]
          refine z_iload_n hR dMO_write_359 (n := 360) rfl rfl ?_
          refine z_bipush hR dMO_write_360 (v := 62) (n := 362) rfl rfl ?_
          refine z_icmp_ne hR dMO_write_362 (t := 377) (n := 365) rfl rfl (fun _ => ?_) (fun h362 => absurd h362 (by decide))
          refine z_iload_n hR dMO_write_377 (n := 378) rfl rfl ?_
          refine z_callV2 hR dMO_write_378 (n := 381) rfl zcMO_164 zkMO_hold (by decide) (Nat.le_of_ble_eq_true rfl) (by decide) rfl rfl (Nat.zero_le _) (m_MO_hold a q true _ gT2 (by first | omega | (simp; omega))) (fun r378 s378 h378 => ?_)
          obtain ⟨rfl, gf3, gk3, gT3⟩ := h378
          have gO3 : mO s378 _ := ⟨by rw [gk3 19 (by decide)]; exact gO2.1, by rw [gf3.1 56 (by decide)]; exact gO2.2⟩
          have gF3 := gF2.tr (gf3.mo (by decide) : zfr [45, 54, 55, 56] _ _)
          have gK3 := gK2.tr (gk3.mo (by decide) : zfd [16, 19] _ _)
          refine z_goto hR dMO_write_381 (t := 21) rfl ?_
          exact ih ((a, q, true) :: ((q + 1, x - 1, true) :: T)) _ _ _ _ _ _ (by simp only [wW]; omega) (by omega) ⟨k1, by simp only; omega, by simp only; omega, ⟨k2, by simp only; omega, by simp only; omega, s4⟩⟩ gT3 gO3 (by rw [← he, e3]; simp only [wN, List.append_assoc, List.cons_append, List.nil_append, show hs 82 true = [85] from rfl, show (true ^^ tur 82) = true from rfl]) gF3 gK3
        ·
          refine z_iload_n hR dMO_write_74 (n := 75) rfl rfl ?_
          refine z_callS1 hR dMO_write_75 (n := 78) rfl zcMO_127 zkMO_isAtom (by decide) (Nat.le_of_ble_eq_true rfl) (Nat.zero_le _) (m_MO_isAtom _ _) (fun r75 s75 h75 => ?_)
          obtain ⟨rfl, e75⟩ := h75
          subst s75
          refine z_if_eqB hR dMO_write_78 (t := 124) (n := 81) rfl rfl (fun h78 => ?_) (fun h78 => absurd h78 (by decide))
          refine z_iload_n hR dMO_write_124 (n := 125) rfl rfl ?_
          refine z_bipush hR dMO_write_125 (v := 33) (n := 127) rfl rfl ?_
          refine z_icmp_ne hR dMO_write_127 (t := 152) (n := 130) rfl rfl (fun _ => ?_) (fun h127 => absurd h127 (by decide))
          refine z_iload_n hR dMO_write_152 (n := 153) rfl rfl ?_
          refine z_bipush hR dMO_write_153 (v := 88) (n := 155) rfl rfl ?_
          refine z_icmp_ne hR dMO_write_155 (t := 177) (n := 158) rfl rfl (fun _ => ?_) (fun h155 => absurd h155 (by decide))
          refine z_iload_n hR dMO_write_177 (n := 178) rfl rfl ?_
          refine z_bipush hR dMO_write_178 (v := 70) (n := 180) rfl rfl ?_
          refine z_icmp_eq hR dMO_write_180 (t := 189) (n := 183) rfl rfl (fun h180 => absurd h180 (by decide)) (fun _ => ?_)
          refine z_iload_n hR dMO_write_183 (n := 184) rfl rfl ?_
          refine z_bipush hR dMO_write_184 (v := 71) (n := 186) rfl rfl ?_
          refine z_icmp_ne hR dMO_write_186 (t := 257) (n := 189) rfl rfl (fun _ => ?_) (fun h186 => absurd h186 (by decide))
          refine z_iload_n hR dMO_write_257 (n := 258) rfl rfl ?_
          refine z_bipush hR dMO_write_258 (v := 38) (n := 260) rfl rfl ?_
          refine z_icmp_eq hR dMO_write_260 (t := 269) (n := 263) rfl rfl (fun h260 => absurd h260 (by decide)) (fun _ => ?_)
          refine z_iload_n hR dMO_write_263 (n := 264) rfl rfl ?_
          refine z_bipush hR dMO_write_264 (v := 85) (n := 266) rfl rfl ?_
          refine z_icmp_ne hR dMO_write_266 (t := 273) (n := 269) rfl rfl (fun h266 => absurd h266 (by decide)) (fun _ => ?_)
          refine z_iconst hR dMO_write_269 (v := 1) (n := 270) rfl rfl ?_
          refine z_goto hR dMO_write_270 (t := 274) rfl ?_
          refine z_istore hR dMO_write_274 (n := 276) rfl (by decide) rfl ?_
          refine z_aload_n hR dMO_write_276 (n := 277) rfl rfl ?_
          refine z_iload_n hR dMO_write_277 (n := 278) rfl rfl ?_
          refine z_bipush hR dMO_write_278 (v := 62) (n := 280) rfl rfl ?_
          refine z_icmp_ne hR dMO_write_280 (t := 297) (n := 283) rfl rfl (fun _ => ?_) (fun h280 => absurd h280 (by decide))
          refine z_iload_n hR dMO_write_297 (n := 298) rfl rfl ?_
          refine z_bipush hR dMO_write_298 (v := 38) (n := 300) rfl rfl ?_
          refine z_icmp_eq hR dMO_write_300 (t := 309) (n := 303) rfl rfl (fun h300 => absurd h300 (by decide)) (fun _ => ?_)
          refine z_iload_n hR dMO_write_303 (n := 304) rfl rfl ?_
          refine z_bipush hR dMO_write_304 (v := 124) (n := 306) rfl rfl ?_
          refine z_icmp_ne hR dMO_write_306 (t := 325) (n := 309) rfl rfl (fun _ => ?_) (fun h306 => absurd h306 (by decide))
          refine z_iload hR dMO_write_325 (n := 327) rfl rfl ?_
          refine z_iload_n hR dMO_write_327 (n := 328) rfl rfl ?_
          refine z_icmp_eq hR dMO_write_328 (t := 336) (n := 331) rfl rfl (fun h328 => absurd h328 (by decide)) (fun _ => ?_)
          refine z_bipush hR dMO_write_331 (v := 85) (n := 333) rfl rfl ?_
          refine z_goto hR dMO_write_333 (t := 338) rfl ?_
          refine z_callV1 hR dMO_write_338 (n := 341) rfl zcMO_168 zkMO_emit (by decide) (Nat.le_of_ble_eq_true rfl) (by decide) rfl rfl (Nat.zero_le _) (m_MO_emit _ _ hO1 (by first | omega | (simp; omega))) (fun r338 s338 h338 => ?_)
          obtain ⟨rfl, gf1, gk1, gO1⟩ := h338
          have gT1 : mT s338 T := ⟨by rw [gk1 16 (by decide)]; exact hT1.1, by rw [gf1.1 54 (by decide), gf1.1 55 (by decide)]; exact hT1.2⟩
          have gF1 := hf1.tr (gf1.mo (by decide) : zfr [45, 54, 55, 56] _ _)
          have gK1 := hk1.tr (gk1.mo (by decide) : zfd [16, 19] _ _)
          refine z_aload_n hR dMO_write_341 (n := 342) rfl rfl ?_
          refine z_aload_n hR dMO_write_342 (n := 343) rfl rfl ?_
          refine z_getR hR dMO_write_343 (n := 346) rfl zgMO_19 (by decide) rfl rfl ?_
          refine z_iload_n hR dMO_write_346 (n := 347) rfl rfl ?_
          refine z_iald hR (_) dMO_write_347 (n := 348) rfl (by decide) rfl (by decide) rfl (by omega) ?_
          rw [(ha' _ gF1 x s2).2.2, e2]
          refine z_iload_n hR dMO_write_348 (n := 349) rfl rfl ?_
          refine z_callV2 hR dMO_write_349 (n := 352) rfl zcMO_164 zkMO_hold (by decide) (Nat.le_of_ble_eq_true rfl) (by decide) rfl rfl (Nat.zero_le _) (m_MO_hold (q + 1) (x - 1) false _ gT1 (by first | omega | (simp; omega))) (fun r349 s349 h349 => ?_)
          obtain ⟨rfl, gf2, gk2, gT2⟩ := h349
          have gO2 : mO s349 _ := ⟨by rw [gk2 19 (by decide)]; exact gO1.1, by rw [gf2.1 56 (by decide)]; exact gO1.2⟩
          have gF2 := gF1.tr (gf2.mo (by decide) : zfr [45, 54, 55, 56] _ _)
          have gK2 := gK1.tr (gk2.mo (by decide) : zfd [16, 19] _ _)
          refine z_aload_n hR dMO_write_352 (n := 353) rfl rfl ?_
          refine z_aload_n hR dMO_write_353 (n := 354) rfl rfl ?_
          refine z_getR hR dMO_write_354 (n := 357) rfl zgMO_16 (by decide) rfl rfl ?_
          refine z_iload_n hR dMO_write_357 (n := 358) rfl rfl ?_
          refine z_iald hR (_) dMO_write_358 (n := 359) rfl (by decide) rfl (by decide) rfl (by omega) ?_
          rw [(ha' _ gF2 x s2).2.1, e1]
          refine z_iload_n hR dMO_write_359 (n := 360) rfl rfl ?_
          refine z_bipush hR dMO_write_360 (v := 62) (n := 362) rfl rfl ?_
          refine z_icmp_ne hR dMO_write_362 (t := 377) (n := 365) rfl rfl (fun _ => ?_) (fun h362 => absurd h362 (by decide))
          refine z_iload_n hR dMO_write_377 (n := 378) rfl rfl ?_
          refine z_callV2 hR dMO_write_378 (n := 381) rfl zcMO_164 zkMO_hold (by decide) (Nat.le_of_ble_eq_true rfl) (by decide) rfl rfl (Nat.zero_le _) (m_MO_hold a q false _ gT2 (by first | omega | (simp; omega))) (fun r378 s378 h378 => ?_)
          obtain ⟨rfl, gf3, gk3, gT3⟩ := h378
          have gO3 : mO s378 _ := ⟨by rw [gk3 19 (by decide)]; exact gO2.1, by rw [gf3.1 56 (by decide)]; exact gO2.2⟩
          have gF3 := gF2.tr (gf3.mo (by decide) : zfr [45, 54, 55, 56] _ _)
          have gK3 := gK2.tr (gk3.mo (by decide) : zfd [16, 19] _ _)
          refine z_goto hR dMO_write_381 (t := 21) rfl ?_
          exact ih ((a, q, false) :: ((q + 1, x - 1, false) :: T)) _ _ _ _ _ _ (by simp only [wW]; omega) (by omega) ⟨k1, by simp only; omega, by simp only; omega, ⟨k2, by simp only; omega, by simp only; omega, s4⟩⟩ gT3 gO3 (by rw [← he, e3]; simp only [wN, List.append_assoc, List.cons_append, List.nil_append, show hs 85 false = [85] from rfl, show (false ^^ tur 85) = false from rfl]) gF3 gK3
        ·
          refine z_iload_n hR dMO_write_74 (n := 75) rfl rfl ?_
          refine z_callS1 hR dMO_write_75 (n := 78) rfl zcMO_127 zkMO_isAtom (by decide) (Nat.le_of_ble_eq_true rfl) (Nat.zero_le _) (m_MO_isAtom _ _) (fun r75 s75 h75 => ?_)
          obtain ⟨rfl, e75⟩ := h75
          subst s75
          refine z_if_eqB hR dMO_write_78 (t := 124) (n := 81) rfl rfl (fun h78 => ?_) (fun h78 => absurd h78 (by decide))
          refine z_iload_n hR dMO_write_124 (n := 125) rfl rfl ?_
          refine z_bipush hR dMO_write_125 (v := 33) (n := 127) rfl rfl ?_
          refine z_icmp_ne hR dMO_write_127 (t := 152) (n := 130) rfl rfl (fun _ => ?_) (fun h127 => absurd h127 (by decide))
          refine z_iload_n hR dMO_write_152 (n := 153) rfl rfl ?_
          refine z_bipush hR dMO_write_153 (v := 88) (n := 155) rfl rfl ?_
          refine z_icmp_ne hR dMO_write_155 (t := 177) (n := 158) rfl rfl (fun _ => ?_) (fun h155 => absurd h155 (by decide))
          refine z_iload_n hR dMO_write_177 (n := 178) rfl rfl ?_
          refine z_bipush hR dMO_write_178 (v := 70) (n := 180) rfl rfl ?_
          refine z_icmp_eq hR dMO_write_180 (t := 189) (n := 183) rfl rfl (fun h180 => absurd h180 (by decide)) (fun _ => ?_)
          refine z_iload_n hR dMO_write_183 (n := 184) rfl rfl ?_
          refine z_bipush hR dMO_write_184 (v := 71) (n := 186) rfl rfl ?_
          refine z_icmp_ne hR dMO_write_186 (t := 257) (n := 189) rfl rfl (fun _ => ?_) (fun h186 => absurd h186 (by decide))
          refine z_iload_n hR dMO_write_257 (n := 258) rfl rfl ?_
          refine z_bipush hR dMO_write_258 (v := 38) (n := 260) rfl rfl ?_
          refine z_icmp_eq hR dMO_write_260 (t := 269) (n := 263) rfl rfl (fun h260 => absurd h260 (by decide)) (fun _ => ?_)
          refine z_iload_n hR dMO_write_263 (n := 264) rfl rfl ?_
          refine z_bipush hR dMO_write_264 (v := 85) (n := 266) rfl rfl ?_
          refine z_icmp_ne hR dMO_write_266 (t := 273) (n := 269) rfl rfl (fun h266 => absurd h266 (by decide)) (fun _ => ?_)
          refine z_iconst hR dMO_write_269 (v := 1) (n := 270) rfl rfl ?_
          refine z_goto hR dMO_write_270 (t := 274) rfl ?_
          refine z_istore hR dMO_write_274 (n := 276) rfl (by decide) rfl ?_
          refine z_aload_n hR dMO_write_276 (n := 277) rfl rfl ?_
          refine z_iload_n hR dMO_write_277 (n := 278) rfl rfl ?_
          refine z_bipush hR dMO_write_278 (v := 62) (n := 280) rfl rfl ?_
          refine z_icmp_ne hR dMO_write_280 (t := 297) (n := 283) rfl rfl (fun _ => ?_) (fun h280 => absurd h280 (by decide))
          refine z_iload_n hR dMO_write_297 (n := 298) rfl rfl ?_
          refine z_bipush hR dMO_write_298 (v := 38) (n := 300) rfl rfl ?_
          refine z_icmp_eq hR dMO_write_300 (t := 309) (n := 303) rfl rfl (fun h300 => absurd h300 (by decide)) (fun _ => ?_)
          refine z_iload_n hR dMO_write_303 (n := 304) rfl rfl ?_
          refine z_bipush hR dMO_write_304 (v := 124) (n := 306) rfl rfl ?_
          refine z_icmp_ne hR dMO_write_306 (t := 325) (n := 309) rfl rfl (fun _ => ?_) (fun h306 => absurd h306 (by decide))
          refine z_iload hR dMO_write_325 (n := 327) rfl rfl ?_
          refine z_iload_n hR dMO_write_327 (n := 328) rfl rfl ?_
          refine z_icmp_eq hR dMO_write_328 (t := 336) (n := 331) rfl rfl (fun _ => ?_) (fun h328 => absurd (by decide) h328)
          refine z_bipush hR dMO_write_336 (v := 82) (n := 338) rfl rfl ?_
          refine z_callV1 hR dMO_write_338 (n := 341) rfl zcMO_168 zkMO_emit (by decide) (Nat.le_of_ble_eq_true rfl) (by decide) rfl rfl (Nat.zero_le _) (m_MO_emit _ _ hO1 (by first | omega | (simp; omega))) (fun r338 s338 h338 => ?_)
          obtain ⟨rfl, gf1, gk1, gO1⟩ := h338
          have gT1 : mT s338 T := ⟨by rw [gk1 16 (by decide)]; exact hT1.1, by rw [gf1.1 54 (by decide), gf1.1 55 (by decide)]; exact hT1.2⟩
          have gF1 := hf1.tr (gf1.mo (by decide) : zfr [45, 54, 55, 56] _ _)
          have gK1 := hk1.tr (gk1.mo (by decide) : zfd [16, 19] _ _)
          refine z_aload_n hR dMO_write_341 (n := 342) rfl rfl ?_
          refine z_aload_n hR dMO_write_342 (n := 343) rfl rfl ?_
          refine z_getR hR dMO_write_343 (n := 346) rfl zgMO_19 (by decide) rfl rfl ?_
          refine z_iload_n hR dMO_write_346 (n := 347) rfl rfl ?_
          refine z_iald hR (_) dMO_write_347 (n := 348) rfl (by decide) rfl (by decide) rfl (by omega) ?_
          rw [(ha' _ gF1 x s2).2.2, e2]
          refine z_iload_n hR dMO_write_348 (n := 349) rfl rfl ?_
          refine z_callV2 hR dMO_write_349 (n := 352) rfl zcMO_164 zkMO_hold (by decide) (Nat.le_of_ble_eq_true rfl) (by decide) rfl rfl (Nat.zero_le _) (m_MO_hold (q + 1) (x - 1) true _ gT1 (by first | omega | (simp; omega))) (fun r349 s349 h349 => ?_)
          obtain ⟨rfl, gf2, gk2, gT2⟩ := h349
          have gO2 : mO s349 _ := ⟨by rw [gk2 19 (by decide)]; exact gO1.1, by rw [gf2.1 56 (by decide)]; exact gO1.2⟩
          have gF2 := gF1.tr (gf2.mo (by decide) : zfr [45, 54, 55, 56] _ _)
          have gK2 := gK1.tr (gk2.mo (by decide) : zfd [16, 19] _ _)
          refine z_aload_n hR dMO_write_352 (n := 353) rfl rfl ?_
          refine z_aload_n hR dMO_write_353 (n := 354) rfl rfl ?_
          refine z_getR hR dMO_write_354 (n := 357) rfl zgMO_16 (by decide) rfl rfl ?_
          refine z_iload_n hR dMO_write_357 (n := 358) rfl rfl ?_
          refine z_iald hR (_) dMO_write_358 (n := 359) rfl (by decide) rfl (by decide) rfl (by omega) ?_
          rw [(ha' _ gF2 x s2).2.1, e1]
          refine z_iload_n hR dMO_write_359 (n := 360) rfl rfl ?_
          refine z_bipush hR dMO_write_360 (v := 62) (n := 362) rfl rfl ?_
          refine z_icmp_ne hR dMO_write_362 (t := 377) (n := 365) rfl rfl (fun _ => ?_) (fun h362 => absurd h362 (by decide))
          refine z_iload_n hR dMO_write_377 (n := 378) rfl rfl ?_
          refine z_callV2 hR dMO_write_378 (n := 381) rfl zcMO_164 zkMO_hold (by decide) (Nat.le_of_ble_eq_true rfl) (by decide) rfl rfl (Nat.zero_le _) (m_MO_hold a q true _ gT2 (by first | omega | (simp; omega))) (fun r378 s378 h378 => ?_)
          obtain ⟨rfl, gf3, gk3, gT3⟩ := h378
          have gO3 : mO s378 _ := ⟨by rw [gk3 19 (by decide)]; exact gO2.1, by rw [gf3.1 56 (by decide)]; exact gO2.2⟩
          have gF3 := gF2.tr (gf3.mo (by decide) : zfr [45, 54, 55, 56] _ _)
          have gK3 := gK2.tr (gk3.mo (by decide) : zfd [16, 19] _ _)
          refine z_goto hR dMO_write_381 (t := 21) rfl ?_
          exact ih ((a, q, true) :: ((q + 1, x - 1, true) :: T)) _ _ _ _ _ _ (by simp only [wW]; omega) (by omega) ⟨k1, by simp only; omega, by simp only; omega, ⟨k2, by simp only; omega, by simp only; omega, s4⟩⟩ gT3 gO3 (by rw [← he, e3]; simp only [wN, List.append_assoc, List.cons_append, List.nil_append, show hs 85 true = [82] from rfl, show (true ^^ tur 85) = true from rfl]) gF3 gK3
        ·
          refine z_iload_n hR dMO_write_74 (n := 75) rfl rfl ?_
          refine z_callS1 hR dMO_write_75 (n := 78) rfl zcMO_127 zkMO_isAtom (by decide) (Nat.le_of_ble_eq_true rfl) (Nat.zero_le _) (m_MO_isAtom _ _) (fun r75 s75 h75 => ?_)
          obtain ⟨rfl, e75⟩ := h75
          subst s75
          refine z_if_eqB hR dMO_write_78 (t := 124) (n := 81) rfl rfl (fun h78 => ?_) (fun h78 => absurd h78 (by decide))
          refine z_iload_n hR dMO_write_124 (n := 125) rfl rfl ?_
          refine z_bipush hR dMO_write_125 (v := 33) (n := 127) rfl rfl ?_
          refine z_icmp_ne hR dMO_write_127 (t := 152) (n := 130) rfl rfl (fun _ => ?_) (fun h127 => absurd h127 (by decide))
          refine z_iload_n hR dMO_write_152 (n := 153) rfl rfl ?_
          refine z_bipush hR dMO_write_153 (v := 88) (n := 155) rfl rfl ?_
          refine z_icmp_ne hR dMO_write_155 (t := 177) (n := 158) rfl rfl (fun _ => ?_) (fun h155 => absurd h155 (by decide))
          refine z_iload_n hR dMO_write_177 (n := 178) rfl rfl ?_
          refine z_bipush hR dMO_write_178 (v := 70) (n := 180) rfl rfl ?_
          refine z_icmp_eq hR dMO_write_180 (t := 189) (n := 183) rfl rfl (fun h180 => absurd h180 (by decide)) (fun _ => ?_)
          refine z_iload_n hR dMO_write_183 (n := 184) rfl rfl ?_
          refine z_bipush hR dMO_write_184 (v := 71) (n := 186) rfl rfl ?_
          refine z_icmp_ne hR dMO_write_186 (t := 257) (n := 189) rfl rfl (fun _ => ?_) (fun h186 => absurd h186 (by decide))
          refine z_iload_n hR dMO_write_257 (n := 258) rfl rfl ?_
          refine z_bipush hR dMO_write_258 (v := 38) (n := 260) rfl rfl ?_
          refine z_icmp_eq hR dMO_write_260 (t := 269) (n := 263) rfl rfl (fun _ => ?_) (fun h260 => absurd (by decide) h260)
          refine z_iconst hR dMO_write_269 (v := 1) (n := 270) rfl rfl ?_
          refine z_goto hR dMO_write_270 (t := 274) rfl ?_
          refine z_istore hR dMO_write_274 (n := 276) rfl (by decide) rfl ?_
          refine z_aload_n hR dMO_write_276 (n := 277) rfl rfl ?_
          refine z_iload_n hR dMO_write_277 (n := 278) rfl rfl ?_
          refine z_bipush hR dMO_write_278 (v := 62) (n := 280) rfl rfl ?_
          refine z_icmp_ne hR dMO_write_280 (t := 297) (n := 283) rfl rfl (fun _ => ?_) (fun h280 => absurd h280 (by decide))
          refine z_iload_n hR dMO_write_297 (n := 298) rfl rfl ?_
          refine z_bipush hR dMO_write_298 (v := 38) (n := 300) rfl rfl ?_
          refine z_icmp_eq hR dMO_write_300 (t := 309) (n := 303) rfl rfl (fun _ => ?_) (fun h300 => absurd (by decide) h300)
          refine z_iload hR dMO_write_309 (n := 311) rfl rfl ?_
          refine z_iload_n hR dMO_write_311 (n := 312) rfl rfl ?_
          refine z_icmp_eq hR dMO_write_312 (t := 320) (n := 315) rfl rfl (fun h312 => absurd h312 (by decide)) (fun _ => ?_)
          refine z_bipush hR dMO_write_315 (v := 38) (n := 317) rfl rfl ?_
          refine z_goto hR dMO_write_317 (t := 338) rfl ?_
          refine z_callV1 hR dMO_write_338 (n := 341) rfl zcMO_168 zkMO_emit (by decide) (Nat.le_of_ble_eq_true rfl) (by decide) rfl rfl (Nat.zero_le _) (m_MO_emit _ _ hO1 (by first | omega | (simp; omega))) (fun r338 s338 h338 => ?_)
          obtain ⟨rfl, gf1, gk1, gO1⟩ := h338
          have gT1 : mT s338 T := ⟨by rw [gk1 16 (by decide)]; exact hT1.1, by rw [gf1.1 54 (by decide), gf1.1 55 (by decide)]; exact hT1.2⟩
          have gF1 := hf1.tr (gf1.mo (by decide) : zfr [45, 54, 55, 56] _ _)
          have gK1 := hk1.tr (gk1.mo (by decide) : zfd [16, 19] _ _)
          refine z_aload_n hR dMO_write_341 (n := 342) rfl rfl ?_
          refine z_aload_n hR dMO_write_342 (n := 343) rfl rfl ?_
          refine z_getR hR dMO_write_343 (n := 346) rfl zgMO_19 (by decide) rfl rfl ?_
          refine z_iload_n hR dMO_write_346 (n := 347) rfl rfl ?_
          refine z_iald hR (_) dMO_write_347 (n := 348) rfl (by decide) rfl (by decide) rfl (by omega) ?_
          rw [(ha' _ gF1 x s2).2.2, e2]
          refine z_iload_n hR dMO_write_348 (n := 349) rfl rfl ?_
          refine z_callV2 hR dMO_write_349 (n := 352) rfl zcMO_164 zkMO_hold (by decide) (Nat.le_of_ble_eq_true rfl) (by decide) rfl rfl (Nat.zero_le _) (m_MO_hold (q + 1) (x - 1) false _ gT1 (by first | omega | (simp; omega))) (fun r349 s349 h349 => ?_)
          obtain ⟨rfl, gf2, gk2, gT2⟩ := h349
          have gO2 : mO s349 _ := ⟨by rw [gk2 19 (by decide)]; exact gO1.1, by rw [gf2.1 56 (by decide)]; exact gO1.2⟩
          have gF2 := gF1.tr (gf2.mo (by decide) : zfr [45, 54, 55, 56] _ _)
          have gK2 := gK1.tr (gk2.mo (by decide) : zfd [16, 19] _ _)
          refine z_aload_n hR dMO_write_352 (n := 353) rfl rfl ?_
          refine z_aload_n hR dMO_write_353 (n := 354) rfl rfl ?_
          refine z_getR hR dMO_write_354 (n := 357) rfl zgMO_16 (by decide) rfl rfl ?_
          refine z_iload_n hR dMO_write_357 (n := 358) rfl rfl ?_
          refine z_iald hR (_) dMO_write_358 (n := 359) rfl (by decide) rfl (by decide) rfl (by omega) ?_
          rw [(ha' _ gF2 x s2).2.1, e1]
          refine z_iload_n hR dMO_write_359 (n := 360) rfl rfl ?_
          refine z_bipush hR dMO_write_360 (v := 62) (n := 362) rfl rfl ?_
          refine z_icmp_ne hR dMO_write_362 (t := 377) (n := 365) rfl rfl (fun _ => ?_) (fun h362 => absurd h362 (by decide))
          refine z_iload_n hR dMO_write_377 (n := 378) rfl rfl ?_
          refine z_callV2 hR dMO_write_378 (n := 381) rfl zcMO_164 zkMO_hold (by decide) (Nat.le_of_ble_eq_true rfl) (by decide) rfl rfl (Nat.zero_le _) (m_MO_hold a q false _ gT2 (by first | omega | (simp; omega))) (fun r378 s378 h378 => ?_)
          obtain ⟨rfl, gf3, gk3, gT3⟩ := h378
          have gO3 : mO s378 _ := ⟨by rw [gk3 19 (by decide)]; exact gO2.1, by rw [gf3.1 56 (by decide)]; exact gO2.2⟩
          have gF3 := gF2.tr (gf3.mo (by decide) : zfr [45, 54, 55, 56] _ _)
          have gK3 := gK2.tr (gk3.mo (by decide) : zfd [16, 19] _ _)
          refine z_goto hR dMO_write_381 (t := 21) rfl ?_
          exact ih ((a, q, false) :: ((q + 1, x - 1, false) :: T)) _ _ _ _ _ _ (by simp only [wW]; omega) (by omega) ⟨k1, by simp only; omega, by simp only; omega, ⟨k2, by simp only; omega, by simp only; omega, s4⟩⟩ gT3 gO3 (by rw [← he, e3]; simp only [wN, List.append_assoc, List.cons_append, List.nil_append, show hs 38 false = [38] from rfl, show (false ^^ tur 38) = false from rfl]) gF3 gK3
        ·
          refine z_iload_n hR dMO_write_74 (n := 75) rfl rfl ?_
          refine z_callS1 hR dMO_write_75 (n := 78) rfl zcMO_127 zkMO_isAtom (by decide) (Nat.le_of_ble_eq_true rfl) (Nat.zero_le _) (m_MO_isAtom _ _) (fun r75 s75 h75 => ?_)
          obtain ⟨rfl, e75⟩ := h75
          subst s75
          refine z_if_eqB hR dMO_write_78 (t := 124) (n := 81) rfl rfl (fun h78 => ?_) (fun h78 => absurd h78 (by decide))
          refine z_iload_n hR dMO_write_124 (n := 125) rfl rfl ?_
          refine z_bipush hR dMO_write_125 (v := 33) (n := 127) rfl rfl ?_
          refine z_icmp_ne hR dMO_write_127 (t := 152) (n := 130) rfl rfl (fun _ => ?_) (fun h127 => absurd h127 (by decide))
          refine z_iload_n hR dMO_write_152 (n := 153) rfl rfl ?_
          refine z_bipush hR dMO_write_153 (v := 88) (n := 155) rfl rfl ?_
          refine z_icmp_ne hR dMO_write_155 (t := 177) (n := 158) rfl rfl (fun _ => ?_) (fun h155 => absurd h155 (by decide))
          refine z_iload_n hR dMO_write_177 (n := 178) rfl rfl ?_
          refine z_bipush hR dMO_write_178 (v := 70) (n := 180) rfl rfl ?_
          refine z_icmp_eq hR dMO_write_180 (t := 189) (n := 183) rfl rfl (fun h180 => absurd h180 (by decide)) (fun _ => ?_)
          refine z_iload_n hR dMO_write_183 (n := 184) rfl rfl ?_
          refine z_bipush hR dMO_write_184 (v := 71) (n := 186) rfl rfl ?_
          refine z_icmp_ne hR dMO_write_186 (t := 257) (n := 189) rfl rfl (fun _ => ?_) (fun h186 => absurd h186 (by decide))
          refine z_iload_n hR dMO_write_257 (n := 258) rfl rfl ?_
          refine z_bipush hR dMO_write_258 (v := 38) (n := 260) rfl rfl ?_
          refine z_icmp_eq hR dMO_write_260 (t := 269) (n := 263) rfl rfl (fun _ => ?_) (fun h260 => absurd (by decide) h260)
          refine z_iconst hR dMO_write_269 (v := 1) (n := 270) rfl rfl ?_
          refine z_goto hR dMO_write_270 (t := 274) rfl ?_
          refine z_istore hR dMO_write_274 (n := 276) rfl (by decide) rfl ?_
          refine z_aload_n hR dMO_write_276 (n := 277) rfl rfl ?_
          refine z_iload_n hR dMO_write_277 (n := 278) rfl rfl ?_
          refine z_bipush hR dMO_write_278 (v := 62) (n := 280) rfl rfl ?_
          refine z_icmp_ne hR dMO_write_280 (t := 297) (n := 283) rfl rfl (fun _ => ?_) (fun h280 => absurd h280 (by decide))
          refine z_iload_n hR dMO_write_297 (n := 298) rfl rfl ?_
          refine z_bipush hR dMO_write_298 (v := 38) (n := 300) rfl rfl ?_
          refine z_icmp_eq hR dMO_write_300 (t := 309) (n := 303) rfl rfl (fun _ => ?_) (fun h300 => absurd (by decide) h300)
          refine z_iload hR dMO_write_309 (n := 311) rfl rfl ?_
          refine z_iload_n hR dMO_write_311 (n := 312) rfl rfl ?_
          refine z_icmp_eq hR dMO_write_312 (t := 320) (n := 315) rfl rfl (fun _ => ?_) (fun h312 => absurd (by decide) h312)
          refine z_bipush hR dMO_write_320 (v := 124) (n := 322) rfl rfl ?_
          refine z_goto hR dMO_write_322 (t := 338) rfl ?_
          refine z_callV1 hR dMO_write_338 (n := 341) rfl zcMO_168 zkMO_emit (by decide) (Nat.le_of_ble_eq_true rfl) (by decide) rfl rfl (Nat.zero_le _) (m_MO_emit _ _ hO1 (by first | omega | (simp; omega))) (fun r338 s338 h338 => ?_)
          obtain ⟨rfl, gf1, gk1, gO1⟩ := h338
          have gT1 : mT s338 T := ⟨by rw [gk1 16 (by decide)]; exact hT1.1, by rw [gf1.1 54 (by decide), gf1.1 55 (by decide)]; exact hT1.2⟩
          have gF1 := hf1.tr (gf1.mo (by decide) : zfr [45, 54, 55, 56] _ _)
          have gK1 := hk1.tr (gk1.mo (by decide) : zfd [16, 19] _ _)
          refine z_aload_n hR dMO_write_341 (n := 342) rfl rfl ?_
          refine z_aload_n hR dMO_write_342 (n := 343) rfl rfl ?_
          refine z_getR hR dMO_write_343 (n := 346) rfl zgMO_19 (by decide) rfl rfl ?_
          refine z_iload_n hR dMO_write_346 (n := 347) rfl rfl ?_
          refine z_iald hR (_) dMO_write_347 (n := 348) rfl (by decide) rfl (by decide) rfl (by omega) ?_
          rw [(ha' _ gF1 x s2).2.2, e2]
          refine z_iload_n hR dMO_write_348 (n := 349) rfl rfl ?_
          refine z_callV2 hR dMO_write_349 (n := 352) rfl zcMO_164 zkMO_hold (by decide) (Nat.le_of_ble_eq_true rfl) (by decide) rfl rfl (Nat.zero_le _) (m_MO_hold (q + 1) (x - 1) true _ gT1 (by first | omega | (simp; omega))) (fun r349 s349 h349 => ?_)
          obtain ⟨rfl, gf2, gk2, gT2⟩ := h349
          have gO2 : mO s349 _ := ⟨by rw [gk2 19 (by decide)]; exact gO1.1, by rw [gf2.1 56 (by decide)]; exact gO1.2⟩
          have gF2 := gF1.tr (gf2.mo (by decide) : zfr [45, 54, 55, 56] _ _)
          have gK2 := gK1.tr (gk2.mo (by decide) : zfd [16, 19] _ _)
          refine z_aload_n hR dMO_write_352 (n := 353) rfl rfl ?_
          refine z_aload_n hR dMO_write_353 (n := 354) rfl rfl ?_
          refine z_getR hR dMO_write_354 (n := 357) rfl zgMO_16 (by decide) rfl rfl ?_
          refine z_iload_n hR dMO_write_357 (n := 358) rfl rfl ?_
          refine z_iald hR (_) dMO_write_358 (n := 359) rfl (by decide) rfl (by decide) rfl (by omega) ?_
          rw [(ha' _ gF2 x s2).2.1, e1]
          refine z_iload_n hR dMO_write_359 (n := 360) rfl rfl ?_
          refine z_bipush hR dMO_write_360 (v := 62) (n := 362) rfl rfl ?_
          refine z_icmp_ne hR dMO_write_362 (t := 377) (n := 365) rfl rfl (fun _ => ?_) (fun h362 => absurd h362 (by decide))
          refine z_iload_n hR dMO_write_377 (n := 378) rfl rfl ?_
          refine z_callV2 hR dMO_write_378 (n := 381) rfl zcMO_164 zkMO_hold (by decide) (Nat.le_of_ble_eq_true rfl) (by decide) rfl rfl (Nat.zero_le _) (m_MO_hold a q true _ gT2 (by first | omega | (simp; omega))) (fun r378 s378 h378 => ?_)
          obtain ⟨rfl, gf3, gk3, gT3⟩ := h378
          have gO3 : mO s378 _ := ⟨by rw [gk3 19 (by decide)]; exact gO2.1, by rw [gf3.1 56 (by decide)]; exact gO2.2⟩
          have gF3 := gF2.tr (gf3.mo (by decide) : zfr [45, 54, 55, 56] _ _)
          have gK3 := gK2.tr (gk3.mo (by decide) : zfd [16, 19] _ _)
          refine z_goto hR dMO_write_381 (t := 21) rfl ?_
          exact ih ((a, q, true) :: ((q + 1, x - 1, true) :: T)) _ _ _ _ _ _ (by simp only [wW]; omega) (by omega) ⟨k1, by simp only; omega, by simp only; omega, ⟨k2, by simp only; omega, by simp only; omega, s4⟩⟩ gT3 gO3 (by rw [← he, e3]; simp only [wN, List.append_assoc, List.cons_append, List.nil_append, show hs 38 true = [124] from rfl, show (true ^^ tur 38) = true from rfl]) gF3 gK3
        ·
          refine z_iload_n hR dMO_write_74 (n := 75) rfl rfl ?_
          refine z_callS1 hR dMO_write_75 (n := 78) rfl zcMO_127 zkMO_isAtom (by decide) (Nat.le_of_ble_eq_true rfl) (Nat.zero_le _) (m_MO_isAtom _ _) (fun r75 s75 h75 => ?_)
          obtain ⟨rfl, e75⟩ := h75
          subst s75
          refine z_if_eqB hR dMO_write_78 (t := 124) (n := 81) rfl rfl (fun h78 => ?_) (fun h78 => absurd h78 (by decide))
          refine z_iload_n hR dMO_write_124 (n := 125) rfl rfl ?_
          refine z_bipush hR dMO_write_125 (v := 33) (n := 127) rfl rfl ?_
          refine z_icmp_ne hR dMO_write_127 (t := 152) (n := 130) rfl rfl (fun _ => ?_) (fun h127 => absurd h127 (by decide))
          refine z_iload_n hR dMO_write_152 (n := 153) rfl rfl ?_
          refine z_bipush hR dMO_write_153 (v := 88) (n := 155) rfl rfl ?_
          refine z_icmp_ne hR dMO_write_155 (t := 177) (n := 158) rfl rfl (fun _ => ?_) (fun h155 => absurd h155 (by decide))
          refine z_iload_n hR dMO_write_177 (n := 178) rfl rfl ?_
          refine z_bipush hR dMO_write_178 (v := 70) (n := 180) rfl rfl ?_
          refine z_icmp_eq hR dMO_write_180 (t := 189) (n := 183) rfl rfl (fun h180 => absurd h180 (by decide)) (fun _ => ?_)
          refine z_iload_n hR dMO_write_183 (n := 184) rfl rfl ?_
          refine z_bipush hR dMO_write_184 (v := 71) (n := 186) rfl rfl ?_
          refine z_icmp_ne hR dMO_write_186 (t := 257) (n := 189) rfl rfl (fun _ => ?_) (fun h186 => absurd h186 (by decide))
          refine z_iload_n hR dMO_write_257 (n := 258) rfl rfl ?_
          refine z_bipush hR dMO_write_258 (v := 38) (n := 260) rfl rfl ?_
          refine z_icmp_eq hR dMO_write_260 (t := 269) (n := 263) rfl rfl (fun h260 => absurd h260 (by decide)) (fun _ => ?_)
          refine z_iload_n hR dMO_write_263 (n := 264) rfl rfl ?_
          refine z_bipush hR dMO_write_264 (v := 85) (n := 266) rfl rfl ?_
          refine z_icmp_ne hR dMO_write_266 (t := 273) (n := 269) rfl rfl (fun _ => ?_) (fun h266 => absurd h266 (by decide))
          refine z_iconst hR dMO_write_273 (v := 0) (n := 274) rfl rfl ?_
          refine z_istore hR dMO_write_274 (n := 276) rfl (by decide) rfl ?_
          refine z_aload_n hR dMO_write_276 (n := 277) rfl rfl ?_
          refine z_iload_n hR dMO_write_277 (n := 278) rfl rfl ?_
          refine z_bipush hR dMO_write_278 (v := 62) (n := 280) rfl rfl ?_
          refine z_icmp_ne hR dMO_write_280 (t := 297) (n := 283) rfl rfl (fun _ => ?_) (fun h280 => absurd h280 (by decide))
          refine z_iload_n hR dMO_write_297 (n := 298) rfl rfl ?_
          refine z_bipush hR dMO_write_298 (v := 38) (n := 300) rfl rfl ?_
          refine z_icmp_eq hR dMO_write_300 (t := 309) (n := 303) rfl rfl (fun h300 => absurd h300 (by decide)) (fun _ => ?_)
          refine z_iload_n hR dMO_write_303 (n := 304) rfl rfl ?_
          refine z_bipush hR dMO_write_304 (v := 124) (n := 306) rfl rfl ?_
          refine z_icmp_ne hR dMO_write_306 (t := 325) (n := 309) rfl rfl (fun h306 => absurd h306 (by decide)) (fun _ => ?_)
          refine z_iload hR dMO_write_309 (n := 311) rfl rfl ?_
          refine z_iload_n hR dMO_write_311 (n := 312) rfl rfl ?_
          refine z_icmp_eq hR dMO_write_312 (t := 320) (n := 315) rfl rfl (fun _ => ?_) (fun h312 => absurd (by decide) h312)
          refine z_bipush hR dMO_write_320 (v := 124) (n := 322) rfl rfl ?_
          refine z_goto hR dMO_write_322 (t := 338) rfl ?_
          refine z_callV1 hR dMO_write_338 (n := 341) rfl zcMO_168 zkMO_emit (by decide) (Nat.le_of_ble_eq_true rfl) (by decide) rfl rfl (Nat.zero_le _) (m_MO_emit _ _ hO1 (by first | omega | (simp; omega))) (fun r338 s338 h338 => ?_)
          obtain ⟨rfl, gf1, gk1, gO1⟩ := h338
          have gT1 : mT s338 T := ⟨by rw [gk1 16 (by decide)]; exact hT1.1, by rw [gf1.1 54 (by decide), gf1.1 55 (by decide)]; exact hT1.2⟩
          have gF1 := hf1.tr (gf1.mo (by decide) : zfr [45, 54, 55, 56] _ _)
          have gK1 := hk1.tr (gk1.mo (by decide) : zfd [16, 19] _ _)
          refine z_aload_n hR dMO_write_341 (n := 342) rfl rfl ?_
          refine z_aload_n hR dMO_write_342 (n := 343) rfl rfl ?_
          refine z_getR hR dMO_write_343 (n := 346) rfl zgMO_19 (by decide) rfl rfl ?_
          refine z_iload_n hR dMO_write_346 (n := 347) rfl rfl ?_
          refine z_iald hR (_) dMO_write_347 (n := 348) rfl (by decide) rfl (by decide) rfl (by omega) ?_
          rw [(ha' _ gF1 x s2).2.2, e2]
          refine z_iload_n hR dMO_write_348 (n := 349) rfl rfl ?_
          refine z_callV2 hR dMO_write_349 (n := 352) rfl zcMO_164 zkMO_hold (by decide) (Nat.le_of_ble_eq_true rfl) (by decide) rfl rfl (Nat.zero_le _) (m_MO_hold (q + 1) (x - 1) false _ gT1 (by first | omega | (simp; omega))) (fun r349 s349 h349 => ?_)
          obtain ⟨rfl, gf2, gk2, gT2⟩ := h349
          have gO2 : mO s349 _ := ⟨by rw [gk2 19 (by decide)]; exact gO1.1, by rw [gf2.1 56 (by decide)]; exact gO1.2⟩
          have gF2 := gF1.tr (gf2.mo (by decide) : zfr [45, 54, 55, 56] _ _)
          have gK2 := gK1.tr (gk2.mo (by decide) : zfd [16, 19] _ _)
          refine z_aload_n hR dMO_write_352 (n := 353) rfl rfl ?_
          refine z_aload_n hR dMO_write_353 (n := 354) rfl rfl ?_
          refine z_getR hR dMO_write_354 (n := 357) rfl zgMO_16 (by decide) rfl rfl ?_
          refine z_iload_n hR dMO_write_357 (n := 358) rfl rfl ?_
          refine z_iald hR (_) dMO_write_358 (n := 359) rfl (by decide) rfl (by decide) rfl (by omega) ?_
          rw [(ha' _ gF2 x s2).2.1, e1]
          refine z_iload_n hR dMO_write_359 (n := 360) rfl rfl ?_
          refine z_bipush hR dMO_write_360 (v := 62) (n := 362) rfl rfl ?_
          refine z_icmp_ne hR dMO_write_362 (t := 377) (n := 365) rfl rfl (fun _ => ?_) (fun h362 => absurd h362 (by decide))
          refine z_iload_n hR dMO_write_377 (n := 378) rfl rfl ?_
          refine z_callV2 hR dMO_write_378 (n := 381) rfl zcMO_164 zkMO_hold (by decide) (Nat.le_of_ble_eq_true rfl) (by decide) rfl rfl (Nat.zero_le _) (m_MO_hold a q false _ gT2 (by first | omega | (simp; omega))) (fun r378 s378 h378 => ?_)
          obtain ⟨rfl, gf3, gk3, gT3⟩ := h378
          have gO3 : mO s378 _ := ⟨by rw [gk3 19 (by decide)]; exact gO2.1, by rw [gf3.1 56 (by decide)]; exact gO2.2⟩
          have gF3 := gF2.tr (gf3.mo (by decide) : zfr [45, 54, 55, 56] _ _)
          have gK3 := gK2.tr (gk3.mo (by decide) : zfd [16, 19] _ _)
          refine z_goto hR dMO_write_381 (t := 21) rfl ?_
          exact ih ((a, q, false) :: ((q + 1, x - 1, false) :: T)) _ _ _ _ _ _ (by simp only [wW]; omega) (by omega) ⟨k1, by simp only; omega, by simp only; omega, ⟨k2, by simp only; omega, by simp only; omega, s4⟩⟩ gT3 gO3 (by rw [← he, e3]; simp only [wN, List.append_assoc, List.cons_append, List.nil_append, show hs 124 false = [124] from rfl, show (false ^^ tur 124) = false from rfl]) gF3 gK3
        ·
          refine z_iload_n hR dMO_write_74 (n := 75) rfl rfl ?_
          refine z_callS1 hR dMO_write_75 (n := 78) rfl zcMO_127 zkMO_isAtom (by decide) (Nat.le_of_ble_eq_true rfl) (Nat.zero_le _) (m_MO_isAtom _ _) (fun r75 s75 h75 => ?_)
          obtain ⟨rfl, e75⟩ := h75
          subst s75
          refine z_if_eqB hR dMO_write_78 (t := 124) (n := 81) rfl rfl (fun h78 => ?_) (fun h78 => absurd h78 (by decide))
          refine z_iload_n hR dMO_write_124 (n := 125) rfl rfl ?_
          refine z_bipush hR dMO_write_125 (v := 33) (n := 127) rfl rfl ?_
          refine z_icmp_ne hR dMO_write_127 (t := 152) (n := 130) rfl rfl (fun _ => ?_) (fun h127 => absurd h127 (by decide))
          refine z_iload_n hR dMO_write_152 (n := 153) rfl rfl ?_
          refine z_bipush hR dMO_write_153 (v := 88) (n := 155) rfl rfl ?_
          refine z_icmp_ne hR dMO_write_155 (t := 177) (n := 158) rfl rfl (fun _ => ?_) (fun h155 => absurd h155 (by decide))
          refine z_iload_n hR dMO_write_177 (n := 178) rfl rfl ?_
          refine z_bipush hR dMO_write_178 (v := 70) (n := 180) rfl rfl ?_
          refine z_icmp_eq hR dMO_write_180 (t := 189) (n := 183) rfl rfl (fun h180 => absurd h180 (by decide)) (fun _ => ?_)
          refine z_iload_n hR dMO_write_183 (n := 184) rfl rfl ?_
          refine z_bipush hR dMO_write_184 (v := 71) (n := 186) rfl rfl ?_
          refine z_icmp_ne hR dMO_write_186 (t := 257) (n := 189) rfl rfl (fun _ => ?_) (fun h186 => absurd h186 (by decide))
          refine z_iload_n hR dMO_write_257 (n := 258) rfl rfl ?_
          refine z_bipush hR dMO_write_258 (v := 38) (n := 260) rfl rfl ?_
          refine z_icmp_eq hR dMO_write_260 (t := 269) (n := 263) rfl rfl (fun h260 => absurd h260 (by decide)) (fun _ => ?_)
          refine z_iload_n hR dMO_write_263 (n := 264) rfl rfl ?_
          refine z_bipush hR dMO_write_264 (v := 85) (n := 266) rfl rfl ?_
          refine z_icmp_ne hR dMO_write_266 (t := 273) (n := 269) rfl rfl (fun _ => ?_) (fun h266 => absurd h266 (by decide))
          refine z_iconst hR dMO_write_273 (v := 0) (n := 274) rfl rfl ?_
          refine z_istore hR dMO_write_274 (n := 276) rfl (by decide) rfl ?_
          refine z_aload_n hR dMO_write_276 (n := 277) rfl rfl ?_
          refine z_iload_n hR dMO_write_277 (n := 278) rfl rfl ?_
          refine z_bipush hR dMO_write_278 (v := 62) (n := 280) rfl rfl ?_
          refine z_icmp_ne hR dMO_write_280 (t := 297) (n := 283) rfl rfl (fun _ => ?_) (fun h280 => absurd h280 (by decide))
          refine z_iload_n hR dMO_write_297 (n := 298) rfl rfl ?_
          refine z_bipush hR dMO_write_298 (v := 38) (n := 300) rfl rfl ?_
          refine z_icmp_eq hR dMO_write_300 (t := 309) (n := 303) rfl rfl (fun h300 => absurd h300 (by decide)) (fun _ => ?_)
          refine z_iload_n hR dMO_write_303 (n := 304) rfl rfl ?_
          refine z_bipush hR dMO_write_304 (v := 124) (n := 306) rfl rfl ?_
          refine z_icmp_ne hR dMO_write_306 (t := 325) (n := 309) rfl rfl (fun h306 => absurd h306 (by decide)) (fun _ => ?_)
          refine z_iload hR dMO_write_309 (n := 311) rfl rfl ?_
          refine z_iload_n hR dMO_write_311 (n := 312) rfl rfl ?_
          refine z_icmp_eq hR dMO_write_312 (t := 320) (n := 315) rfl rfl (fun h312 => absurd h312 (by decide)) (fun _ => ?_)
          refine z_bipush hR dMO_write_315 (v := 38) (n := 317) rfl rfl ?_
          refine z_goto hR dMO_write_317 (t := 338) rfl ?_
          refine z_callV1 hR dMO_write_338 (n := 341) rfl zcMO_168 zkMO_emit (by decide) (Nat.le_of_ble_eq_true rfl) (by decide) rfl rfl (Nat.zero_le _) (m_MO_emit _ _ hO1 (by first | omega | (simp; omega))) (fun r338 s338 h338 => ?_)
          obtain ⟨rfl, gf1, gk1, gO1⟩ := h338
          have gT1 : mT s338 T := ⟨by rw [gk1 16 (by decide)]; exact hT1.1, by rw [gf1.1 54 (by decide), gf1.1 55 (by decide)]; exact hT1.2⟩
          have gF1 := hf1.tr (gf1.mo (by decide) : zfr [45, 54, 55, 56] _ _)
          have gK1 := hk1.tr (gk1.mo (by decide) : zfd [16, 19] _ _)
          refine z_aload_n hR dMO_write_341 (n := 342) rfl rfl ?_
          refine z_aload_n hR dMO_write_342 (n := 343) rfl rfl ?_
          refine z_getR hR dMO_write_343 (n := 346) rfl zgMO_19 (by decide) rfl rfl ?_
          refine z_iload_n hR dMO_write_346 (n := 347) rfl rfl ?_
          refine z_iald hR (_) dMO_write_347 (n := 348) rfl (by decide) rfl (by decide) rfl (by omega) ?_
          rw [(ha' _ gF1 x s2).2.2, e2]
          refine z_iload_n hR dMO_write_348 (n := 349) rfl rfl ?_
          refine z_callV2 hR dMO_write_349 (n := 352) rfl zcMO_164 zkMO_hold (by decide) (Nat.le_of_ble_eq_true rfl) (by decide) rfl rfl (Nat.zero_le _) (m_MO_hold (q + 1) (x - 1) true _ gT1 (by first | omega | (simp; omega))) (fun r349 s349 h349 => ?_)
          obtain ⟨rfl, gf2, gk2, gT2⟩ := h349
          have gO2 : mO s349 _ := ⟨by rw [gk2 19 (by decide)]; exact gO1.1, by rw [gf2.1 56 (by decide)]; exact gO1.2⟩
          have gF2 := gF1.tr (gf2.mo (by decide) : zfr [45, 54, 55, 56] _ _)
          have gK2 := gK1.tr (gk2.mo (by decide) : zfd [16, 19] _ _)
          refine z_aload_n hR dMO_write_352 (n := 353) rfl rfl ?_
          refine z_aload_n hR dMO_write_353 (n := 354) rfl rfl ?_
          refine z_getR hR dMO_write_354 (n := 357) rfl zgMO_16 (by decide) rfl rfl ?_
          refine z_iload_n hR dMO_write_357 (n := 358) rfl rfl ?_
          refine z_iald hR (_) dMO_write_358 (n := 359) rfl (by decide) rfl (by decide) rfl (by omega) ?_
          rw [(ha' _ gF2 x s2).2.1, e1]
          refine z_iload_n hR dMO_write_359 (n := 360) rfl rfl ?_
          refine z_bipush hR dMO_write_360 (v := 62) (n := 362) rfl rfl ?_
          refine z_icmp_ne hR dMO_write_362 (t := 377) (n := 365) rfl rfl (fun _ => ?_) (fun h362 => absurd h362 (by decide))
          refine z_iload_n hR dMO_write_377 (n := 378) rfl rfl ?_
          refine z_callV2 hR dMO_write_378 (n := 381) rfl zcMO_164 zkMO_hold (by decide) (Nat.le_of_ble_eq_true rfl) (by decide) rfl rfl (Nat.zero_le _) (m_MO_hold a q true _ gT2 (by first | omega | (simp; omega))) (fun r378 s378 h378 => ?_)
          obtain ⟨rfl, gf3, gk3, gT3⟩ := h378
          have gO3 : mO s378 _ := ⟨by rw [gk3 19 (by decide)]; exact gO2.1, by rw [gf3.1 56 (by decide)]; exact gO2.2⟩
          have gF3 := gF2.tr (gf3.mo (by decide) : zfr [45, 54, 55, 56] _ _)
          have gK3 := gK2.tr (gk3.mo (by decide) : zfd [16, 19] _ _)
          refine z_goto hR dMO_write_381 (t := 21) rfl ?_
          exact ih ((a, q, true) :: ((q + 1, x - 1, true) :: T)) _ _ _ _ _ _ (by simp only [wW]; omega) (by omega) ⟨k1, by simp only; omega, by simp only; omega, ⟨k2, by simp only; omega, by simp only; omega, s4⟩⟩ gT3 gO3 (by rw [← he, e3]; simp only [wN, List.append_assoc, List.cons_append, List.nil_append, show hs 124 true = [38] from rfl, show (true ^^ tur 124) = true from rfl]) gF3 gK3
        ·
          refine z_iload_n hR dMO_write_74 (n := 75) rfl rfl ?_
          refine z_callS1 hR dMO_write_75 (n := 78) rfl zcMO_127 zkMO_isAtom (by decide) (Nat.le_of_ble_eq_true rfl) (Nat.zero_le _) (m_MO_isAtom _ _) (fun r75 s75 h75 => ?_)
          obtain ⟨rfl, e75⟩ := h75
          subst s75
          refine z_if_eqB hR dMO_write_78 (t := 124) (n := 81) rfl rfl (fun h78 => ?_) (fun h78 => absurd h78 (by decide))
          refine z_iload_n hR dMO_write_124 (n := 125) rfl rfl ?_
          refine z_bipush hR dMO_write_125 (v := 33) (n := 127) rfl rfl ?_
          refine z_icmp_ne hR dMO_write_127 (t := 152) (n := 130) rfl rfl (fun _ => ?_) (fun h127 => absurd h127 (by decide))
          refine z_iload_n hR dMO_write_152 (n := 153) rfl rfl ?_
          refine z_bipush hR dMO_write_153 (v := 88) (n := 155) rfl rfl ?_
          refine z_icmp_ne hR dMO_write_155 (t := 177) (n := 158) rfl rfl (fun _ => ?_) (fun h155 => absurd h155 (by decide))
          refine z_iload_n hR dMO_write_177 (n := 178) rfl rfl ?_
          refine z_bipush hR dMO_write_178 (v := 70) (n := 180) rfl rfl ?_
          refine z_icmp_eq hR dMO_write_180 (t := 189) (n := 183) rfl rfl (fun h180 => absurd h180 (by decide)) (fun _ => ?_)
          refine z_iload_n hR dMO_write_183 (n := 184) rfl rfl ?_
          refine z_bipush hR dMO_write_184 (v := 71) (n := 186) rfl rfl ?_
          refine z_icmp_ne hR dMO_write_186 (t := 257) (n := 189) rfl rfl (fun _ => ?_) (fun h186 => absurd h186 (by decide))
          refine z_iload_n hR dMO_write_257 (n := 258) rfl rfl ?_
          refine z_bipush hR dMO_write_258 (v := 38) (n := 260) rfl rfl ?_
          refine z_icmp_eq hR dMO_write_260 (t := 269) (n := 263) rfl rfl (fun h260 => absurd h260 (by decide)) (fun _ => ?_)
          refine z_iload_n hR dMO_write_263 (n := 264) rfl rfl ?_
          refine z_bipush hR dMO_write_264 (v := 85) (n := 266) rfl rfl ?_
          refine z_icmp_ne hR dMO_write_266 (t := 273) (n := 269) rfl rfl (fun _ => ?_) (fun h266 => absurd h266 (by decide))
          refine z_iconst hR dMO_write_273 (v := 0) (n := 274) rfl rfl ?_
          refine z_istore hR dMO_write_274 (n := 276) rfl (by decide) rfl ?_
          refine z_aload_n hR dMO_write_276 (n := 277) rfl rfl ?_
          refine z_iload_n hR dMO_write_277 (n := 278) rfl rfl ?_
          refine z_bipush hR dMO_write_278 (v := 62) (n := 280) rfl rfl ?_
          refine z_icmp_ne hR dMO_write_280 (t := 297) (n := 283) rfl rfl (fun h280 => absurd h280 (by decide)) (fun _ => ?_)
          refine z_iload_n hR dMO_write_283 (n := 284) rfl rfl ?_
          refine z_if_eq hR dMO_write_284 (t := 292) (n := 287) rfl rfl (fun _ => ?_) (fun h284 => absurd (by decide) h284)
          refine z_bipush hR dMO_write_292 (v := 124) (n := 294) rfl rfl ?_
          refine z_goto hR dMO_write_294 (t := 338) rfl ?_
          refine z_callV1 hR dMO_write_338 (n := 341) rfl zcMO_168 zkMO_emit (by decide) (Nat.le_of_ble_eq_true rfl) (by decide) rfl rfl (Nat.zero_le _) (m_MO_emit _ _ hO1 (by first | omega | (simp; omega))) (fun r338 s338 h338 => ?_)
          obtain ⟨rfl, gf1, gk1, gO1⟩ := h338
          have gT1 : mT s338 T := ⟨by rw [gk1 16 (by decide)]; exact hT1.1, by rw [gf1.1 54 (by decide), gf1.1 55 (by decide)]; exact hT1.2⟩
          have gF1 := hf1.tr (gf1.mo (by decide) : zfr [45, 54, 55, 56] _ _)
          have gK1 := hk1.tr (gk1.mo (by decide) : zfd [16, 19] _ _)
          refine z_aload_n hR dMO_write_341 (n := 342) rfl rfl ?_
          refine z_aload_n hR dMO_write_342 (n := 343) rfl rfl ?_
          refine z_getR hR dMO_write_343 (n := 346) rfl zgMO_19 (by decide) rfl rfl ?_
          refine z_iload_n hR dMO_write_346 (n := 347) rfl rfl ?_
          refine z_iald hR (_) dMO_write_347 (n := 348) rfl (by decide) rfl (by decide) rfl (by omega) ?_
          rw [(ha' _ gF1 x s2).2.2, e2]
          refine z_iload_n hR dMO_write_348 (n := 349) rfl rfl ?_
          refine z_callV2 hR dMO_write_349 (n := 352) rfl zcMO_164 zkMO_hold (by decide) (Nat.le_of_ble_eq_true rfl) (by decide) rfl rfl (Nat.zero_le _) (m_MO_hold (q + 1) (x - 1) false _ gT1 (by first | omega | (simp; omega))) (fun r349 s349 h349 => ?_)
          obtain ⟨rfl, gf2, gk2, gT2⟩ := h349
          have gO2 : mO s349 _ := ⟨by rw [gk2 19 (by decide)]; exact gO1.1, by rw [gf2.1 56 (by decide)]; exact gO1.2⟩
          have gF2 := gF1.tr (gf2.mo (by decide) : zfr [45, 54, 55, 56] _ _)
          have gK2 := gK1.tr (gk2.mo (by decide) : zfd [16, 19] _ _)
          refine z_aload_n hR dMO_write_352 (n := 353) rfl rfl ?_
          refine z_aload_n hR dMO_write_353 (n := 354) rfl rfl ?_
          refine z_getR hR dMO_write_354 (n := 357) rfl zgMO_16 (by decide) rfl rfl ?_
          refine z_iload_n hR dMO_write_357 (n := 358) rfl rfl ?_
          refine z_iald hR (_) dMO_write_358 (n := 359) rfl (by decide) rfl (by decide) rfl (by omega) ?_
          rw [(ha' _ gF2 x s2).2.1, e1]
          refine z_iload_n hR dMO_write_359 (n := 360) rfl rfl ?_
          refine z_bipush hR dMO_write_360 (v := 62) (n := 362) rfl rfl ?_
          refine z_icmp_ne hR dMO_write_362 (t := 377) (n := 365) rfl rfl (fun h362 => absurd h362 (by decide)) (fun _ => ?_)
          refine z_iload_n hR dMO_write_365 (n := 366) rfl rfl ?_
          refine z_if_ne hR dMO_write_366 (t := 373) (n := 369) rfl rfl (fun h366 => absurd h366 (by decide)) (fun _ => ?_)
          refine z_iconst hR dMO_write_369 (v := 1) (n := 370) rfl rfl ?_
          refine z_goto hR dMO_write_370 (t := 378) rfl ?_
          refine z_callV2 hR dMO_write_378 (n := 381) rfl zcMO_164 zkMO_hold (by decide) (Nat.le_of_ble_eq_true rfl) (by decide) rfl rfl (Nat.zero_le _) (m_MO_hold a q true _ gT2 (by first | omega | (simp; omega))) (fun r378 s378 h378 => ?_)
          obtain ⟨rfl, gf3, gk3, gT3⟩ := h378
          have gO3 : mO s378 _ := ⟨by rw [gk3 19 (by decide)]; exact gO2.1, by rw [gf3.1 56 (by decide)]; exact gO2.2⟩
          have gF3 := gF2.tr (gf3.mo (by decide) : zfr [45, 54, 55, 56] _ _)
          have gK3 := gK2.tr (gk3.mo (by decide) : zfd [16, 19] _ _)
          refine z_goto hR dMO_write_381 (t := 21) rfl ?_
          exact ih ((a, q, true) :: ((q + 1, x - 1, false) :: T)) _ _ _ _ _ _ (by simp only [wW]; omega) (by omega) ⟨k1, by simp only; omega, by simp only; omega, ⟨k2, by simp only; omega, by simp only; omega, s4⟩⟩ gT3 gO3 (by rw [← he, e3]; simp only [wN, List.append_assoc, List.cons_append, List.nil_append, show hs 62 false = [124] from rfl, show (false ^^ tur 62) = true from rfl]) gF3 gK3
        ·
          refine z_iload_n hR dMO_write_74 (n := 75) rfl rfl ?_
          refine z_callS1 hR dMO_write_75 (n := 78) rfl zcMO_127 zkMO_isAtom (by decide) (Nat.le_of_ble_eq_true rfl) (Nat.zero_le _) (m_MO_isAtom _ _) (fun r75 s75 h75 => ?_)
          obtain ⟨rfl, e75⟩ := h75
          subst s75
          refine z_if_eqB hR dMO_write_78 (t := 124) (n := 81) rfl rfl (fun h78 => ?_) (fun h78 => absurd h78 (by decide))
          refine z_iload_n hR dMO_write_124 (n := 125) rfl rfl ?_
          refine z_bipush hR dMO_write_125 (v := 33) (n := 127) rfl rfl ?_
          refine z_icmp_ne hR dMO_write_127 (t := 152) (n := 130) rfl rfl (fun _ => ?_) (fun h127 => absurd h127 (by decide))
          refine z_iload_n hR dMO_write_152 (n := 153) rfl rfl ?_
          refine z_bipush hR dMO_write_153 (v := 88) (n := 155) rfl rfl ?_
          refine z_icmp_ne hR dMO_write_155 (t := 177) (n := 158) rfl rfl (fun _ => ?_) (fun h155 => absurd h155 (by decide))
          refine z_iload_n hR dMO_write_177 (n := 178) rfl rfl ?_
          refine z_bipush hR dMO_write_178 (v := 70) (n := 180) rfl rfl ?_
          refine z_icmp_eq hR dMO_write_180 (t := 189) (n := 183) rfl rfl (fun h180 => absurd h180 (by decide)) (fun _ => ?_)
          refine z_iload_n hR dMO_write_183 (n := 184) rfl rfl ?_
          refine z_bipush hR dMO_write_184 (v := 71) (n := 186) rfl rfl ?_
          refine z_icmp_ne hR dMO_write_186 (t := 257) (n := 189) rfl rfl (fun _ => ?_) (fun h186 => absurd h186 (by decide))
          refine z_iload_n hR dMO_write_257 (n := 258) rfl rfl ?_
          refine z_bipush hR dMO_write_258 (v := 38) (n := 260) rfl rfl ?_
          refine z_icmp_eq hR dMO_write_260 (t := 269) (n := 263) rfl rfl (fun h260 => absurd h260 (by decide)) (fun _ => ?_)
          refine z_iload_n hR dMO_write_263 (n := 264) rfl rfl ?_
          refine z_bipush hR dMO_write_264 (v := 85) (n := 266) rfl rfl ?_
          refine z_icmp_ne hR dMO_write_266 (t := 273) (n := 269) rfl rfl (fun _ => ?_) (fun h266 => absurd h266 (by decide))
          refine z_iconst hR dMO_write_273 (v := 0) (n := 274) rfl rfl ?_
          refine z_istore hR dMO_write_274 (n := 276) rfl (by decide) rfl ?_
          refine z_aload_n hR dMO_write_276 (n := 277) rfl rfl ?_
          refine z_iload_n hR dMO_write_277 (n := 278) rfl rfl ?_
          refine z_bipush hR dMO_write_278 (v := 62) (n := 280) rfl rfl ?_
          refine z_icmp_ne hR dMO_write_280 (t := 297) (n := 283) rfl rfl (fun h280 => absurd h280 (by decide)) (fun _ => ?_)
          refine z_iload_n hR dMO_write_283 (n := 284) rfl rfl ?_
          refine z_if_eq hR dMO_write_284 (t := 292) (n := 287) rfl rfl (fun h284 => absurd h284 (by decide)) (fun _ => ?_)
          refine z_bipush hR dMO_write_287 (v := 38) (n := 289) rfl rfl ?_
          refine z_goto hR dMO_write_289 (t := 338) rfl ?_
          refine z_callV1 hR dMO_write_338 (n := 341) rfl zcMO_168 zkMO_emit (by decide) (Nat.le_of_ble_eq_true rfl) (by decide) rfl rfl (Nat.zero_le _) (m_MO_emit _ _ hO1 (by first | omega | (simp; omega))) (fun r338 s338 h338 => ?_)
          obtain ⟨rfl, gf1, gk1, gO1⟩ := h338
          have gT1 : mT s338 T := ⟨by rw [gk1 16 (by decide)]; exact hT1.1, by rw [gf1.1 54 (by decide), gf1.1 55 (by decide)]; exact hT1.2⟩
          have gF1 := hf1.tr (gf1.mo (by decide) : zfr [45, 54, 55, 56] _ _)
          have gK1 := hk1.tr (gk1.mo (by decide) : zfd [16, 19] _ _)
          refine z_aload_n hR dMO_write_341 (n := 342) rfl rfl ?_
          refine z_aload_n hR dMO_write_342 (n := 343) rfl rfl ?_
          refine z_getR hR dMO_write_343 (n := 346) rfl zgMO_19 (by decide) rfl rfl ?_
          refine z_iload_n hR dMO_write_346 (n := 347) rfl rfl ?_
          refine z_iald hR (_) dMO_write_347 (n := 348) rfl (by decide) rfl (by decide) rfl (by omega) ?_
          rw [(ha' _ gF1 x s2).2.2, e2]
          refine z_iload_n hR dMO_write_348 (n := 349) rfl rfl ?_
          refine z_callV2 hR dMO_write_349 (n := 352) rfl zcMO_164 zkMO_hold (by decide) (Nat.le_of_ble_eq_true rfl) (by decide) rfl rfl (Nat.zero_le _) (m_MO_hold (q + 1) (x - 1) true _ gT1 (by first | omega | (simp; omega))) (fun r349 s349 h349 => ?_)
          obtain ⟨rfl, gf2, gk2, gT2⟩ := h349
          have gO2 : mO s349 _ := ⟨by rw [gk2 19 (by decide)]; exact gO1.1, by rw [gf2.1 56 (by decide)]; exact gO1.2⟩
          have gF2 := gF1.tr (gf2.mo (by decide) : zfr [45, 54, 55, 56] _ _)
          have gK2 := gK1.tr (gk2.mo (by decide) : zfd [16, 19] _ _)
          refine z_aload_n hR dMO_write_352 (n := 353) rfl rfl ?_
          refine z_aload_n hR dMO_write_353 (n := 354) rfl rfl ?_
          refine z_getR hR dMO_write_354 (n := 357) rfl zgMO_16 (by decide) rfl rfl ?_
          refine z_iload_n hR dMO_write_357 (n := 358) rfl rfl ?_
          refine z_iald hR (_) dMO_write_358 (n := 359) rfl (by decide) rfl (by decide) rfl (by omega) ?_
          rw [(ha' _ gF2 x s2).2.1, e1]
          refine z_iload_n hR dMO_write_359 (n := 360) rfl rfl ?_
          refine z_bipush hR dMO_write_360 (v := 62) (n := 362) rfl rfl ?_
          refine z_icmp_ne hR dMO_write_362 (t := 377) (n := 365) rfl rfl (fun h362 => absurd h362 (by decide)) (fun _ => ?_)
          refine z_iload_n hR dMO_write_365 (n := 366) rfl rfl ?_
          refine z_if_ne hR dMO_write_366 (t := 373) (n := 369) rfl rfl (fun _ => ?_) (fun h366 => absurd h366 (by decide))
          refine z_iconst hR dMO_write_373 (v := 0) (n := 374) rfl rfl ?_
          refine z_goto hR dMO_write_374 (t := 378) rfl ?_
          refine z_callV2 hR dMO_write_378 (n := 381) rfl zcMO_164 zkMO_hold (by decide) (Nat.le_of_ble_eq_true rfl) (by decide) rfl rfl (Nat.zero_le _) (m_MO_hold a q false _ gT2 (by first | omega | (simp; omega))) (fun r378 s378 h378 => ?_)
          obtain ⟨rfl, gf3, gk3, gT3⟩ := h378
          have gO3 : mO s378 _ := ⟨by rw [gk3 19 (by decide)]; exact gO2.1, by rw [gf3.1 56 (by decide)]; exact gO2.2⟩
          have gF3 := gF2.tr (gf3.mo (by decide) : zfr [45, 54, 55, 56] _ _)
          have gK3 := gK2.tr (gk3.mo (by decide) : zfd [16, 19] _ _)
          refine z_goto hR dMO_write_381 (t := 21) rfl ?_
          exact ih ((a, q, false) :: ((q + 1, x - 1, true) :: T)) _ _ _ _ _ _ (by simp only [wW]; omega) (by omega) ⟨k1, by simp only; omega, by simp only; omega, ⟨k2, by simp only; omega, by simp only; omega, s4⟩⟩ gT3 gO3 (by rw [← he, e3]; simp only [wN, List.append_assoc, List.cons_append, List.nil_append, show hs 62 true = [38] from rfl, show (true ^^ tur 62) = false from rfl]) gF3 gK3
  refine z_aload_n hR dMO_write_0 (n := 1) rfl rfl ?_
  refine z_iconst hR dMO_write_1 (v := 0) (n := 2) rfl rfl ?_
  refine z_putI hR dMO_write_2 (n := 5) rfl zpMO_161 (by decide) rfl rfl ?_
  refine z_aload_n hR dMO_write_5 (n := 6) rfl rfl ?_
  refine z_iconst hR dMO_write_6 (v := 0) (n := 7) rfl rfl ?_
  refine z_putI hR dMO_write_7 (n := 10) rfl zpMO_110 (by decide) rfl rfl ?_
  refine z_aload_n hR dMO_write_10 (n := 11) rfl rfl ?_
  refine z_aload_n hR dMO_write_11 (n := 12) rfl rfl ?_
  refine z_getI hR dMO_write_12 (n := 15) rfl zgMO_145 (by decide) rfl rfl ?_
  rw [zwA_sn _ _ _ _ (by decide), zwA_sn _ _ _ _ (by decide), hp]
  refine z_iconst hR dMO_write_15 (v := nI 1) (n := 16) rfl rfl ?_
  refine z_isubN hR dMO_write_16 (n := 17) rfl (by omega) ?_
  refine z_iconst hR dMO_write_17 (v := 0) (n := 18) rfl rfl ?_
  refine z_callV2 hR dMO_write_18 (n := 21) rfl zcMO_164 zkMO_hold (by decide) (Nat.le_of_ble_eq_true rfl) (by decide) rfl rfl (Nat.zero_le _) (m_MO_hold 0 (n - 1) false (S := []) _ ⟨by rw [zwA_ss]; rfl, trivial⟩ (by simp)) (fun r18 s18 h18 => ?_)
  obtain ⟨rfl, hf, hk, hT⟩ := h18
  exact key n [(0, n - 1, false)] [] _ _ _ _ _ (by simp [wW]; omega) (Nat.le_refl _) ⟨hg, by simp only; omega, Nat.zero_le _, trivial⟩ hT ⟨by rw [hk 19 (by decide), zwA_sn _ _ _ _ (by decide), zwA_ss]; rfl, fun i hi => by simp at hi⟩ (by simp [wN]) (((zfr.rf.wA _ (by decide)).wA _ (by decide)).tr (hf.mo (by decide))) (((zfd.rf.w _ (by decide)).w _ (by decide)).tr (hk.mo (by decide)))
