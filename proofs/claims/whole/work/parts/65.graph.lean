/-! The class's graph -/
theorem hs_FG {c : Int32} (h : c ∈ ndc) (neg : Bool) : ∀ s ∈ hs c neg, s ≠ 70 ∧ s ≠ 71 := by
  have q : ∀ c ∈ ndc, ∀ neg : Bool, ∀ s ∈ hs c neg, s ≠ 70 ∧ s ≠ 71 := by decide
  exact q c h neg
theorem nfx_FG {g : Nat → Int32 × Int32 × Int32} : ∀ (n x a : Nat) (neg : Bool), x < n → tTT g a x → x < 2 ^ 31 → ∀ s ∈ nfx g x neg, s ≠ 70 ∧ s ≠ 71
  | 0, _, _, _, h, _, _ => absurd h (by omega)
  | n + 1, x, a, neg, hn, h, hx => by
    rcases nfx_tree h hx neg with ⟨h1, h2, e1, e2, e3⟩ | ⟨h1, l, e1, e2, t1, e3⟩ | ⟨h1, h2, m, l1, l2, e1, e2, t1, t2, e3⟩
    · rw [e3]
      exact hs_FG (nd_in (Or.inl h1)) neg
    · intro s hs'
      rw [e3] at hs'
      rcases List.mem_append.mp hs' with q | q
      · exact hs_FG (nd_in (Or.inr (by omega))) neg s q
      · exact nfx_FG n (x - 1) a _ (by omega) t1 (by omega) s q
    · intro s hs'
      rw [e3] at hs'
      rcases List.mem_append.mp hs' with q | q
      · exact hs_FG (nd_in (Or.inr h1)) neg s q
      · rcases List.mem_append.mp q with q | q
        · exact nfx_FG n m a _ (by omega) t1 (by omega) s q
        · exact nfx_FG n (x - 1) (m + 1) _ (by omega) t2 (by omega) s q
/-- the second part, as a number -/
def sec (S : Nat → Int32) (r : Nat) : Nat := (S r).toNatClampNeg
/-- the form's rows -/
def fC (F S N P : Nat → Int32) (z : Nat) : Prop := 0 < z ∧ z ≤ 37 ∧ ddF F z 0 ≤ 5 ∧ sK F (sec S) z ∧ sT F z ∧ (∀ r, r < z → bn (F r) = true → S r = nI (sec S r)) ∧ (∀ r, r < z → tmd (F r) = true → N r = nI (nuF F z r) ∧ P (nuF F z r) = nI r) ∧ (∀ r, r < z → tmd (F r) = false → N r = -1)
theorem fC_of {F S E N P : Nat → Int32} {l : List Int32} (h0 : 0 < l.length) (h37 : l.length ≤ 37) (hl : lst F l) (hFG : ∀ s ∈ l, s ≠ 70 ∧ s ≠ 71) (h5 : ddF F l.length 0 ≤ 5) (hT : tmP F 0 l.length) (hC : nCf F S E N P l.length 0) : fC F S N P l.length := by
  obtain ⟨c1, c2, c3, c4, c5⟩ := hC
  have hS : ∀ r, r < l.length → bn (F r) = true → ∃ m, tmP F (r + 1) m ∧ m < l.length ∧ S r = nI m ∧ sec S r = m := fun r hr hb => by
    obtain ⟨m, a1, a2, a3⟩ := c2 r (Nat.zero_le _) hr hb
    exact ⟨m, a1, a2, a3, by rw [sec, a3, nI_clamp (by omega)]⟩
  refine ⟨h0, h37, h5, fun r hr => ⟨fun hb => ?_, fun h88 => ?_⟩, fun r hr => ?_, fun r hr hb => ?_, fun r hr ht => c4 r (Nat.zero_le _) hr ht, fun r hr ht => c5 r (Nat.zero_le _) hr ht⟩
  · obtain ⟨m, a1, a2, a3, a4⟩ := hS r hr hb
    obtain ⟨k, q⟩ := a1
    have := tmF_lt q
    rw [a4]
    exact ⟨by omega, by omega, a2, ⟨k, q⟩⟩
  · rcases tmP_at hT hr with ⟨_, q, _⟩ | ⟨q, _⟩ | ⟨q, _⟩
    · exact q
    · exact absurd h88 (bn_88 q).1
    · exact absurd h88 (lf_88 q).1
  · rw [hl r hr]
    refine hFG _ ?_
    rw [show l.getD r 0 = l[r] by simp [List.getD, hr]]
    exact List.getElem_mem hr
  · obtain ⟨m, _, _, a3, a4⟩ := hS r hr hb
    rw [a4]
    exact a3
/-- the form in the machine -/
def fM (σ : zS) (z T : Nat) : Prop := σ.1 34 1 = nI z ∧ σ.1 34 4 = nI T ∧ T = ddF (σ.1 35) z 0 ∧ fC (σ.1 35) (σ.1 36) (σ.1 39) (σ.1 38) z
theorem fM_fr {l : List Nat} {σ σ2 : zS} {z T : Nat} (hf : zfr l σ σ2) (hl : l.all (fun o => decide (o < 34 ∨ 41 < o)) = true) (h : fM σ z T) : fM σ2 z T := by
  have q : ∀ o, 34 ≤ o → o ≤ 41 → σ2.1 o = σ.1 o := fun o h1 h2 => hf.1 o (fun hm => by
    have := List.all_eq_true.mp hl o hm
    simp at this
    omega)
  unfold fM
  rw [q 34 (by decide) (by decide), q 35 (by decide) (by decide), q 36 (by decide) (by decide), q 38 (by decide) (by decide), q 39 (by decide) (by decide)]
  exact h
theorem zgi_bit {k g : Nat} (hk : k < 5) (hg : g < 32) : tb (zgi k) g = g.testBit k := by
  have q : ∀ k : Fin 5, ∀ g : Fin 32, tb (zgi k.1) g.1 = g.1.testBit k.1 := by decide
  exact q ⟨k, hk⟩ ⟨g, hg⟩
theorem m_GR_untimed29 {z T r : Nat} (mk : Int32) (σ : zS) (hM : fM σ z T) (hr : r < z) (ht : tmd (σ.1 35 r) = false) : zM yGR_untimed cGR_untimed 4 (some .int) 1 30 0 [.ref 28, .ref 29, .int (nI r), .int mk] σ (fun r2 σ2 => σ2 = σ ∧ ∃ y, r2 = some (.int y) ∧ ∀ g, g < 32 → tb y g = uP (σ.1 35) (sec (σ.1 36)) mk (fun q => tb (σ.1 29 q) g) r) (fun _ _ => False) := by
  refine zM.of [some (.ref 28), some (.ref 29), some (.int (nI r)), some (.int mk)] (by decide) 0 rfl (fun _ => Nat.le_of_ble_eq_true rfl) (fun Z hR => ?_)
  obtain ⟨hs, hT, hTd, c1, c2, c3, c4, c5, c6, c7, c8⟩ := hM
  by_cases hb : bn (σ.1 35 r) = true
  ·
    obtain ⟨b1, b2, b3, _⟩ := (c4 r hr).1 hb
    have b4 := c6 r hr hb
    have hno : ¬ (σ.1 35 r = 38) → σ.1 35 r = 124 := fun h => by
      simp only [bn, decide_eq_true_iff] at hb
      rcases hb with q | q | q | q
      · exact absurd q h
      · exact q
      · rw [q] at ht
        exact absurd ht (by decide)
      · rw [q] at ht
        exact absurd ht (by decide)
    refine z_aload_n hR dGR_untimed_0 (n := 1) rfl rfl ?_
    refine z_getR hR dGR_untimed_1 (n := 4) rfl zgGR_12 (by decide) rfl rfl ?_
    refine z_getR hR dGR_untimed_4 (n := 7) rfl zgGR_86 (by decide) rfl rfl ?_
    refine z_iload_n hR dGR_untimed_7 (n := 8) rfl rfl ?_
    refine z_cald hR (_) dGR_untimed_8 (n := 9) rfl (by decide) rfl (by decide) rfl (by omega) ?_
    refine z_look hR dGR_untimed_9 rfl rfl ?_
    refine ⟨fun (h9_38 : _ = (38 : Int32)) => ⟨36, rfl, ?_⟩, fun (h9_38 : _ ≠ (38 : Int32)) => ?_⟩
    · refine z_aload_n hR dGR_untimed_36 (n := 37) rfl rfl ?_
      refine z_iload_n hR dGR_untimed_37 (n := 38) rfl rfl ?_
      refine z_iconst hR dGR_untimed_38 (v := nI 1) (n := 39) rfl rfl ?_
      refine z_iaddN hR dGR_untimed_39 (n := 40) rfl ?_
      refine z_iald hR (_) dGR_untimed_40 (n := 41) rfl (by decide) rfl (by decide) rfl (by omega) ?_
      refine z_aload_n hR dGR_untimed_41 (n := 42) rfl rfl ?_
      refine z_aload_n hR dGR_untimed_42 (n := 43) rfl rfl ?_
      refine z_getR hR dGR_untimed_43 (n := 46) rfl zgGR_12 (by decide) rfl rfl ?_
      refine z_getR hR dGR_untimed_46 (n := 49) rfl zgGR_90 (by decide) rfl rfl ?_
      refine z_iload_n hR dGR_untimed_49 (n := 50) rfl rfl ?_
      refine z_iald hR (_) dGR_untimed_50 (n := 51) rfl (by decide) rfl (by decide) rfl (by omega) ?_
      rw [b4]
      refine z_iald hR (_) dGR_untimed_51 (n := 52) rfl (by decide) rfl (by decide) rfl (by omega) ?_
      refine z_iand hR dGR_untimed_52 (n := 53) rfl ?_
      refine z_zret hR dGR_untimed_53 rfl rfl (Nat.zero_le _) ?_
      exact ⟨rfl, _, rfl, fun g hg => by rw [tb_and, uP, if_pos h9_38]⟩
    refine ⟨fun (h9_124 : _ = (124 : Int32)) => ⟨54, rfl, ?_⟩, fun (h9_124 : _ ≠ (124 : Int32)) => ?_⟩
    · refine z_aload_n hR dGR_untimed_54 (n := 55) rfl rfl ?_
      refine z_iload_n hR dGR_untimed_55 (n := 56) rfl rfl ?_
      refine z_iconst hR dGR_untimed_56 (v := nI 1) (n := 57) rfl rfl ?_
      refine z_iaddN hR dGR_untimed_57 (n := 58) rfl ?_
      refine z_iald hR (_) dGR_untimed_58 (n := 59) rfl (by decide) rfl (by decide) rfl (by omega) ?_
      refine z_aload_n hR dGR_untimed_59 (n := 60) rfl rfl ?_
      refine z_aload_n hR dGR_untimed_60 (n := 61) rfl rfl ?_
      refine z_getR hR dGR_untimed_61 (n := 64) rfl zgGR_12 (by decide) rfl rfl ?_
      refine z_getR hR dGR_untimed_64 (n := 67) rfl zgGR_90 (by decide) rfl rfl ?_
      refine z_iload_n hR dGR_untimed_67 (n := 68) rfl rfl ?_
      refine z_iald hR (_) dGR_untimed_68 (n := 69) rfl (by decide) rfl (by decide) rfl (by omega) ?_
      rw [b4]
      refine z_iald hR (_) dGR_untimed_69 (n := 70) rfl (by decide) rfl (by decide) rfl (by omega) ?_
      refine z_ior hR dGR_untimed_70 (n := 71) rfl ?_
      refine z_zret hR dGR_untimed_71 rfl rfl (Nat.zero_le _) ?_
      exact ⟨rfl, _, rfl, fun g hg => by rw [tb_or, uP, if_neg h9_38, if_pos h9_124]⟩
    refine ⟨72, rfl, ?_⟩
    exact absurd (hno h9_38) h9_124
  ·
    have n1 : σ.1 35 r ≠ 38 := fun e => hb (by rw [e]; decide)
    have n2 : σ.1 35 r ≠ 124 := fun e => hb (by rw [e]; decide)
    refine z_aload_n hR dGR_untimed_0 (n := 1) rfl rfl ?_
    refine z_getR hR dGR_untimed_1 (n := 4) rfl zgGR_12 (by decide) rfl rfl ?_
    refine z_getR hR dGR_untimed_4 (n := 7) rfl zgGR_86 (by decide) rfl rfl ?_
    refine z_iload_n hR dGR_untimed_7 (n := 8) rfl rfl ?_
    refine z_cald hR (_) dGR_untimed_8 (n := 9) rfl (by decide) rfl (by decide) rfl (by omega) ?_
    refine z_look hR dGR_untimed_9 rfl rfl ?_
    refine ⟨fun (h9_38 : _ = (38 : Int32)) => ⟨36, rfl, ?_⟩, fun (h9_38 : _ ≠ (38 : Int32)) => ?_⟩
    · exact absurd h9_38 n1
    refine ⟨fun (h9_124 : _ = (124 : Int32)) => ⟨54, rfl, ?_⟩, fun (h9_124 : _ ≠ (124 : Int32)) => ?_⟩
    · exact absurd h9_124 n2
    refine ⟨72, rfl, ?_⟩
    refine z_aload_n hR dGR_untimed_72 (n := 73) rfl rfl ?_
    refine z_getR hR dGR_untimed_73 (n := 76) rfl zgGR_12 (by decide) rfl rfl ?_
    refine z_getR hR dGR_untimed_76 (n := 79) rfl zgGR_86 (by decide) rfl rfl ?_
    refine z_iload_n hR dGR_untimed_79 (n := 80) rfl rfl ?_
    refine z_cald hR (_) dGR_untimed_80 (n := 81) rfl (by decide) rfl (by decide) rfl (by omega) ?_
    refine z_iload_n hR dGR_untimed_81 (n := 82) rfl rfl ?_
    refine z_callS2 hR dGR_untimed_82 (n := 85) rfl zcGR_96 zkNF_leafHolds (by decide) (Nat.le_of_ble_eq_true rfl) (Nat.zero_le _) (m_NF_leafHolds (σ.1 35 r) mk σ) (fun r82 s82 h82 => ?_)
    obtain ⟨rfl, e82⟩ := h82
    subst s82
    refine z_if_eqB hR dGR_untimed_85 (t := 92) (n := 88) rfl rfl (fun h85 => ?_) (fun h85 => ?_)
    · refine z_iconst hR dGR_untimed_92 (v := 0) (n := 93) rfl rfl ?_
      refine z_zret hR dGR_untimed_93 rfl rfl (Nat.zero_le _) ?_
      refine ⟨rfl, _, rfl, fun g hg => ?_⟩
      rw [uP, if_neg n1, if_neg n2, h85]
      first
        | exact tb_0 g
        | exact tb_m1 hg
    · refine z_iconst hR dGR_untimed_88 (v := (-1)) (n := 89) rfl rfl ?_
      refine z_goto hR dGR_untimed_89 (t := 93) rfl ?_
      refine z_zret hR dGR_untimed_93 rfl rfl (Nat.zero_le _) ?_
      refine ⟨rfl, _, rfl, fun g hg => ?_⟩
      rw [uP, if_neg n1, if_neg n2, h85]
      first
        | exact tb_0 g
        | exact tb_m1 hg
theorem m_GR_untimed30 {z T r : Nat} (mk : Int32) (σ : zS) (hM : fM σ z T) (hr : r < z) (ht : tmd (σ.1 35 r) = false) : zM yGR_untimed cGR_untimed 4 (some .int) 1 30 0 [.ref 28, .ref 30, .int (nI r), .int mk] σ (fun r2 σ2 => σ2 = σ ∧ ∃ y, r2 = some (.int y) ∧ ∀ g, g < 32 → tb y g = uP (σ.1 35) (sec (σ.1 36)) mk (fun q => tb (σ.1 30 q) g) r) (fun _ _ => False) := by
  refine zM.of [some (.ref 28), some (.ref 30), some (.int (nI r)), some (.int mk)] (by decide) 0 rfl (fun _ => Nat.le_of_ble_eq_true rfl) (fun Z hR => ?_)
  obtain ⟨hs, hT, hTd, c1, c2, c3, c4, c5, c6, c7, c8⟩ := hM
  by_cases hb : bn (σ.1 35 r) = true
  ·
    obtain ⟨b1, b2, b3, _⟩ := (c4 r hr).1 hb
    have b4 := c6 r hr hb
    have hno : ¬ (σ.1 35 r = 38) → σ.1 35 r = 124 := fun h => by
      simp only [bn, decide_eq_true_iff] at hb
      rcases hb with q | q | q | q
      · exact absurd q h
      · exact q
      · rw [q] at ht
        exact absurd ht (by decide)
      · rw [q] at ht
        exact absurd ht (by decide)
    refine z_aload_n hR dGR_untimed_0 (n := 1) rfl rfl ?_
    refine z_getR hR dGR_untimed_1 (n := 4) rfl zgGR_12 (by decide) rfl rfl ?_
    refine z_getR hR dGR_untimed_4 (n := 7) rfl zgGR_86 (by decide) rfl rfl ?_
    refine z_iload_n hR dGR_untimed_7 (n := 8) rfl rfl ?_
    refine z_cald hR (_) dGR_untimed_8 (n := 9) rfl (by decide) rfl (by decide) rfl (by omega) ?_
    refine z_look hR dGR_untimed_9 rfl rfl ?_
    refine ⟨fun (h9_38 : _ = (38 : Int32)) => ⟨36, rfl, ?_⟩, fun (h9_38 : _ ≠ (38 : Int32)) => ?_⟩
    · refine z_aload_n hR dGR_untimed_36 (n := 37) rfl rfl ?_
      refine z_iload_n hR dGR_untimed_37 (n := 38) rfl rfl ?_
      refine z_iconst hR dGR_untimed_38 (v := nI 1) (n := 39) rfl rfl ?_
      refine z_iaddN hR dGR_untimed_39 (n := 40) rfl ?_
      refine z_iald hR (_) dGR_untimed_40 (n := 41) rfl (by decide) rfl (by decide) rfl (by omega) ?_
      refine z_aload_n hR dGR_untimed_41 (n := 42) rfl rfl ?_
      refine z_aload_n hR dGR_untimed_42 (n := 43) rfl rfl ?_
      refine z_getR hR dGR_untimed_43 (n := 46) rfl zgGR_12 (by decide) rfl rfl ?_
      refine z_getR hR dGR_untimed_46 (n := 49) rfl zgGR_90 (by decide) rfl rfl ?_
      refine z_iload_n hR dGR_untimed_49 (n := 50) rfl rfl ?_
      refine z_iald hR (_) dGR_untimed_50 (n := 51) rfl (by decide) rfl (by decide) rfl (by omega) ?_
      rw [b4]
      refine z_iald hR (_) dGR_untimed_51 (n := 52) rfl (by decide) rfl (by decide) rfl (by omega) ?_
      refine z_iand hR dGR_untimed_52 (n := 53) rfl ?_
      refine z_zret hR dGR_untimed_53 rfl rfl (Nat.zero_le _) ?_
      exact ⟨rfl, _, rfl, fun g hg => by rw [tb_and, uP, if_pos h9_38]⟩
    refine ⟨fun (h9_124 : _ = (124 : Int32)) => ⟨54, rfl, ?_⟩, fun (h9_124 : _ ≠ (124 : Int32)) => ?_⟩
    · refine z_aload_n hR dGR_untimed_54 (n := 55) rfl rfl ?_
      refine z_iload_n hR dGR_untimed_55 (n := 56) rfl rfl ?_
      refine z_iconst hR dGR_untimed_56 (v := nI 1) (n := 57) rfl rfl ?_
      refine z_iaddN hR dGR_untimed_57 (n := 58) rfl ?_
      refine z_iald hR (_) dGR_untimed_58 (n := 59) rfl (by decide) rfl (by decide) rfl (by omega) ?_
      refine z_aload_n hR dGR_untimed_59 (n := 60) rfl rfl ?_
      refine z_aload_n hR dGR_untimed_60 (n := 61) rfl rfl ?_
      refine z_getR hR dGR_untimed_61 (n := 64) rfl zgGR_12 (by decide) rfl rfl ?_
      refine z_getR hR dGR_untimed_64 (n := 67) rfl zgGR_90 (by decide) rfl rfl ?_
      refine z_iload_n hR dGR_untimed_67 (n := 68) rfl rfl ?_
      refine z_iald hR (_) dGR_untimed_68 (n := 69) rfl (by decide) rfl (by decide) rfl (by omega) ?_
      rw [b4]
      refine z_iald hR (_) dGR_untimed_69 (n := 70) rfl (by decide) rfl (by decide) rfl (by omega) ?_
      refine z_ior hR dGR_untimed_70 (n := 71) rfl ?_
      refine z_zret hR dGR_untimed_71 rfl rfl (Nat.zero_le _) ?_
      exact ⟨rfl, _, rfl, fun g hg => by rw [tb_or, uP, if_neg h9_38, if_pos h9_124]⟩
    refine ⟨72, rfl, ?_⟩
    exact absurd (hno h9_38) h9_124
  ·
    have n1 : σ.1 35 r ≠ 38 := fun e => hb (by rw [e]; decide)
    have n2 : σ.1 35 r ≠ 124 := fun e => hb (by rw [e]; decide)
    refine z_aload_n hR dGR_untimed_0 (n := 1) rfl rfl ?_
    refine z_getR hR dGR_untimed_1 (n := 4) rfl zgGR_12 (by decide) rfl rfl ?_
    refine z_getR hR dGR_untimed_4 (n := 7) rfl zgGR_86 (by decide) rfl rfl ?_
    refine z_iload_n hR dGR_untimed_7 (n := 8) rfl rfl ?_
    refine z_cald hR (_) dGR_untimed_8 (n := 9) rfl (by decide) rfl (by decide) rfl (by omega) ?_
    refine z_look hR dGR_untimed_9 rfl rfl ?_
    refine ⟨fun (h9_38 : _ = (38 : Int32)) => ⟨36, rfl, ?_⟩, fun (h9_38 : _ ≠ (38 : Int32)) => ?_⟩
    · exact absurd h9_38 n1
    refine ⟨fun (h9_124 : _ = (124 : Int32)) => ⟨54, rfl, ?_⟩, fun (h9_124 : _ ≠ (124 : Int32)) => ?_⟩
    · exact absurd h9_124 n2
    refine ⟨72, rfl, ?_⟩
    refine z_aload_n hR dGR_untimed_72 (n := 73) rfl rfl ?_
    refine z_getR hR dGR_untimed_73 (n := 76) rfl zgGR_12 (by decide) rfl rfl ?_
    refine z_getR hR dGR_untimed_76 (n := 79) rfl zgGR_86 (by decide) rfl rfl ?_
    refine z_iload_n hR dGR_untimed_79 (n := 80) rfl rfl ?_
    refine z_cald hR (_) dGR_untimed_80 (n := 81) rfl (by decide) rfl (by decide) rfl (by omega) ?_
    refine z_iload_n hR dGR_untimed_81 (n := 82) rfl rfl ?_
    refine z_callS2 hR dGR_untimed_82 (n := 85) rfl zcGR_96 zkNF_leafHolds (by decide) (Nat.le_of_ble_eq_true rfl) (Nat.zero_le _) (m_NF_leafHolds (σ.1 35 r) mk σ) (fun r82 s82 h82 => ?_)
    obtain ⟨rfl, e82⟩ := h82
    subst s82
    refine z_if_eqB hR dGR_untimed_85 (t := 92) (n := 88) rfl rfl (fun h85 => ?_) (fun h85 => ?_)
    · refine z_iconst hR dGR_untimed_92 (v := 0) (n := 93) rfl rfl ?_
      refine z_zret hR dGR_untimed_93 rfl rfl (Nat.zero_le _) ?_
      refine ⟨rfl, _, rfl, fun g hg => ?_⟩
      rw [uP, if_neg n1, if_neg n2, h85]
      first
        | exact tb_0 g
        | exact tb_m1 hg
    · refine z_iconst hR dGR_untimed_88 (v := (-1)) (n := 89) rfl rfl ?_
      refine z_goto hR dGR_untimed_89 (t := 93) rfl ?_
      refine z_zret hR dGR_untimed_93 rfl rfl (Nat.zero_le _) ?_
      refine ⟨rfl, _, rfl, fun g hg => ?_⟩
      rw [uP, if_neg n1, if_neg n2, h85]
      first
        | exact tb_0 g
        | exact tb_m1 hg
theorem m_GR_prompt {z T r : Nat} (σ : zS) (hM : fM σ z T) (hr : r < z) (ht : tmd (σ.1 35 r) = true) : zM yGR_promptGuesses cGR_promptGuesses 3 (some .int) 0 0 0 [.ref 28, .int (nI r), .int (nI (nuF (σ.1 35) z r))] σ (fun r2 σ2 => σ2 = σ ∧ ∃ y, r2 = some (.int y) ∧ ∀ g, g < 32 → tb y g = pP (σ.1 35) (sec (σ.1 36)) (fun q => tb (σ.1 29 q) g) (g.testBit (nuF (σ.1 35) z r)) r) (fun _ _ => False) := by
  refine zM.of [some (.ref 28), some (.int (nI r)), some (.int (nI (nuF (σ.1 35) z r)))] (by decide) 0 rfl (fun _ => Nat.le_of_ble_eq_true rfl) (fun Z hR => ?_)
  obtain ⟨hs, hT, hTd, c1, c2, c3, c4, c5, c6, c7, c8⟩ := hM
  have hnu := nuF_lt hr ht
  by_cases hb : bn (σ.1 35 r) = true
  ·
    obtain ⟨b1, b2, b3, _⟩ := (c4 r hr).1 hb
    have b4 := c6 r hr hb
    have hno : ¬ (σ.1 35 r = 82) → σ.1 35 r = 85 := fun h => by
      rcases tmd_bn ht (c5 r hr).1 (c5 r hr).2 with q | q | q
      · exact absurd q (bn_88 hb).1
      · exact q
      · exact absurd q h
    refine z_aload_n hR dGR_promptGuesses_0 (n := 1) rfl rfl ?_
    refine z_getR hR dGR_promptGuesses_1 (n := 4) rfl zgGR_12 (by decide) rfl rfl ?_
    refine z_getR hR dGR_promptGuesses_4 (n := 7) rfl zgGR_86 (by decide) rfl rfl ?_
    refine z_iload_n hR dGR_promptGuesses_7 (n := 8) rfl rfl ?_
    refine z_cald hR (_) dGR_promptGuesses_8 (n := 9) rfl (by decide) rfl (by decide) rfl (by omega) ?_
    refine z_look hR dGR_promptGuesses_9 rfl rfl ?_
    refine ⟨fun (h9_82 : _ = (82 : Int32)) => ⟨59, rfl, ?_⟩, fun (h9_82 : _ ≠ (82 : Int32)) => ?_⟩
    · refine z_gets hR dGR_promptGuesses_59 (n := 62) rfl zsGR_76 ?_
      refine z_iload_n hR dGR_promptGuesses_62 (n := 63) rfl rfl ?_
      refine z_gald hR (_) dGR_promptGuesses_63 (n := 64) rfl rfl (by omega) ?_
      refine z_aload_n hR dGR_promptGuesses_64 (n := 65) rfl rfl ?_
      refine z_getR hR dGR_promptGuesses_65 (n := 68) rfl zgGR_25 (by decide) rfl rfl ?_
      refine z_aload_n hR dGR_promptGuesses_68 (n := 69) rfl rfl ?_
      refine z_getR hR dGR_promptGuesses_69 (n := 72) rfl zgGR_12 (by decide) rfl rfl ?_
      refine z_getR hR dGR_promptGuesses_72 (n := 75) rfl zgGR_90 (by decide) rfl rfl ?_
      refine z_iload_n hR dGR_promptGuesses_75 (n := 76) rfl rfl ?_
      refine z_iald hR (_) dGR_promptGuesses_76 (n := 77) rfl (by decide) rfl (by decide) rfl (by omega) ?_
      rw [b4]
      refine z_iald hR (_) dGR_promptGuesses_77 (n := 78) rfl (by decide) rfl (by decide) rfl (by omega) ?_
      refine z_iconst hR dGR_promptGuesses_78 (v := (-1)) (n := 79) rfl rfl ?_
      refine z_ixor hR dGR_promptGuesses_79 (n := 80) rfl ?_
      refine z_ior hR dGR_promptGuesses_80 (n := 81) rfl ?_
      refine z_zret hR dGR_promptGuesses_81 rfl rfl (Nat.zero_le _) ?_
      exact ⟨rfl, _, rfl, fun g hg => by rw [tb_or, tb_not _ hg, zgi_bit (by omega) hg, pP, if_pos h9_82]⟩
    refine ⟨fun (h9_85 : _ = (85 : Int32)) => ⟨36, rfl, ?_⟩, fun (h9_85 : _ ≠ (85 : Int32)) => ?_⟩
    · refine z_gets hR dGR_promptGuesses_36 (n := 39) rfl zsGR_76 ?_
      refine z_iload_n hR dGR_promptGuesses_39 (n := 40) rfl rfl ?_
      refine z_gald hR (_) dGR_promptGuesses_40 (n := 41) rfl rfl (by omega) ?_
      refine z_iconst hR dGR_promptGuesses_41 (v := (-1)) (n := 42) rfl rfl ?_
      refine z_ixor hR dGR_promptGuesses_42 (n := 43) rfl ?_
      refine z_aload_n hR dGR_promptGuesses_43 (n := 44) rfl rfl ?_
      refine z_getR hR dGR_promptGuesses_44 (n := 47) rfl zgGR_25 (by decide) rfl rfl ?_
      refine z_aload_n hR dGR_promptGuesses_47 (n := 48) rfl rfl ?_
      refine z_getR hR dGR_promptGuesses_48 (n := 51) rfl zgGR_12 (by decide) rfl rfl ?_
      refine z_getR hR dGR_promptGuesses_51 (n := 54) rfl zgGR_90 (by decide) rfl rfl ?_
      refine z_iload_n hR dGR_promptGuesses_54 (n := 55) rfl rfl ?_
      refine z_iald hR (_) dGR_promptGuesses_55 (n := 56) rfl (by decide) rfl (by decide) rfl (by omega) ?_
      rw [b4]
      refine z_iald hR (_) dGR_promptGuesses_56 (n := 57) rfl (by decide) rfl (by decide) rfl (by omega) ?_
      refine z_ior hR dGR_promptGuesses_57 (n := 58) rfl ?_
      refine z_zret hR dGR_promptGuesses_58 rfl rfl (Nat.zero_le _) ?_
      exact ⟨rfl, _, rfl, fun g hg => by rw [tb_or, tb_not _ hg, zgi_bit (by omega) hg, pP, if_neg h9_82, if_pos h9_85]⟩
    refine ⟨82, rfl, ?_⟩
    exact absurd (hno h9_82) h9_85
  ·
    have n1 : σ.1 35 r ≠ 82 := fun e => hb (by rw [e]; decide)
    have n2 : σ.1 35 r ≠ 85 := fun e => hb (by rw [e]; decide)
    refine z_aload_n hR dGR_promptGuesses_0 (n := 1) rfl rfl ?_
    refine z_getR hR dGR_promptGuesses_1 (n := 4) rfl zgGR_12 (by decide) rfl rfl ?_
    refine z_getR hR dGR_promptGuesses_4 (n := 7) rfl zgGR_86 (by decide) rfl rfl ?_
    refine z_iload_n hR dGR_promptGuesses_7 (n := 8) rfl rfl ?_
    refine z_cald hR (_) dGR_promptGuesses_8 (n := 9) rfl (by decide) rfl (by decide) rfl (by omega) ?_
    refine z_look hR dGR_promptGuesses_9 rfl rfl ?_
    refine ⟨fun (h9_82 : _ = (82 : Int32)) => ⟨59, rfl, ?_⟩, fun (h9_82 : _ ≠ (82 : Int32)) => ?_⟩
    · exact absurd h9_82 n1
    refine ⟨fun (h9_85 : _ = (85 : Int32)) => ⟨36, rfl, ?_⟩, fun (h9_85 : _ ≠ (85 : Int32)) => ?_⟩
    · exact absurd h9_85 n2
    refine ⟨82, rfl, ?_⟩
    refine z_iconst hR dGR_promptGuesses_82 (v := (-1)) (n := 83) rfl rfl ?_
    refine z_zret hR dGR_promptGuesses_83 rfl rfl (Nat.zero_le _) ?_
    exact ⟨rfl, _, rfl, fun g hg => by rw [pP, if_neg n1, if_neg n2]; exact tb_m1 hg⟩
theorem m_GR_timedBefore {z T r : Nat} (σ : zS) (hM : fM σ z T) (hr : r < z) (ht : tmd (σ.1 35 r) = true) : zM yGR_timedBefore cGR_timedBefore 4 (some .int) 0 0 0 [.ref 28, .int (nI r), .int (nI (nuF (σ.1 35) z r))] σ (fun r2 σ2 => σ2 = σ ∧ ∃ y, r2 = some (.int y) ∧ ∀ g, g < 32 → tb y g = tP (σ.1 35) (sec (σ.1 36)) (fun q => tb (σ.1 30 q) g) (fun q => tb (σ.1 29 q) g) (g.testBit (nuF (σ.1 35) z r)) r) (fun _ _ => False) := by
  refine zM.of [some (.ref 28), some (.int (nI r)), some (.int (nI (nuF (σ.1 35) z r))), none] (by decide) 1 rfl (fun _ => Nat.le_of_ble_eq_true rfl) (fun Z hR => ?_)
  obtain ⟨hs, hT, hTd, c1, c2, c3, c4, c5, c6, c7, c8⟩ := hM
  have hnu := nuF_lt hr ht
  by_cases hb : bn (σ.1 35 r) = true
  ·
    obtain ⟨b1, b2, b3, _⟩ := (c4 r hr).1 hb
    have b4 := c6 r hr hb
    have hno : ¬ (σ.1 35 r = 82) → σ.1 35 r = 85 := fun h => by
      rcases tmd_bn ht (c5 r hr).1 (c5 r hr).2 with q | q | q
      · exact absurd q (bn_88 hb).1
      · exact q
      · exact absurd q h
    refine z_aload_n hR dGR_timedBefore_0 (n := 1) rfl rfl ?_
    refine z_getR hR dGR_timedBefore_1 (n := 4) rfl zgGR_12 (by decide) rfl rfl ?_
    refine z_getR hR dGR_timedBefore_4 (n := 7) rfl zgGR_90 (by decide) rfl rfl ?_
    refine z_iload_n hR dGR_timedBefore_7 (n := 8) rfl rfl ?_
    refine z_iald hR (_) dGR_timedBefore_8 (n := 9) rfl (by decide) rfl (by decide) rfl (by omega) ?_
    rw [b4]
    refine z_istore_n hR dGR_timedBefore_9 (n := 10) rfl (by decide) rfl ?_
    refine z_aload_n hR dGR_timedBefore_10 (n := 11) rfl rfl ?_
    refine z_getR hR dGR_timedBefore_11 (n := 14) rfl zgGR_12 (by decide) rfl rfl ?_
    refine z_getR hR dGR_timedBefore_14 (n := 17) rfl zgGR_86 (by decide) rfl rfl ?_
    refine z_iload_n hR dGR_timedBefore_17 (n := 18) rfl rfl ?_
    refine z_cald hR (_) dGR_timedBefore_18 (n := 19) rfl (by decide) rfl (by decide) rfl (by omega) ?_
    refine z_look hR dGR_timedBefore_19 rfl rfl ?_
    refine ⟨fun (h19_82 : _ = (82 : Int32)) => ⟨66, rfl, ?_⟩, fun (h19_82 : _ ≠ (82 : Int32)) => ?_⟩
    · refine z_aload_n hR dGR_timedBefore_66 (n := 67) rfl rfl ?_
      refine z_getR hR dGR_timedBefore_67 (n := 70) rfl zgGR_29 (by decide) rfl rfl ?_
      refine z_iload_n hR dGR_timedBefore_70 (n := 71) rfl rfl ?_
      refine z_iald hR (_) dGR_timedBefore_71 (n := 72) rfl (by decide) rfl (by decide) rfl (by omega) ?_
      refine z_aload_n hR dGR_timedBefore_72 (n := 73) rfl rfl ?_
      refine z_getR hR dGR_timedBefore_73 (n := 76) rfl zgGR_29 (by decide) rfl rfl ?_
      refine z_iload_n hR dGR_timedBefore_76 (n := 77) rfl rfl ?_
      refine z_iconst hR dGR_timedBefore_77 (v := nI 1) (n := 78) rfl rfl ?_
      refine z_iaddN hR dGR_timedBefore_78 (n := 79) rfl ?_
      refine z_iald hR (_) dGR_timedBefore_79 (n := 80) rfl (by decide) rfl (by decide) rfl (by omega) ?_
      refine z_gets hR dGR_timedBefore_80 (n := 83) rfl zsGR_76 ?_
      refine z_iload_n hR dGR_timedBefore_83 (n := 84) rfl rfl ?_
      refine z_gald hR (_) dGR_timedBefore_84 (n := 85) rfl rfl (by omega) ?_
      refine z_ior hR dGR_timedBefore_85 (n := 86) rfl ?_
      refine z_iand hR dGR_timedBefore_86 (n := 87) rfl ?_
      refine z_zret hR dGR_timedBefore_87 rfl rfl (Nat.zero_le _) ?_
      exact ⟨rfl, _, rfl, fun g hg => by rw [tb_and, tb_or, zgi_bit (by omega) hg, tP, if_neg (by rw [h19_82]; decide), if_pos h19_82]⟩
    refine ⟨fun (h19_85 : _ = (85 : Int32)) => ⟨44, rfl, ?_⟩, fun (h19_85 : _ ≠ (85 : Int32)) => ?_⟩
    · refine z_aload_n hR dGR_timedBefore_44 (n := 45) rfl rfl ?_
      refine z_getR hR dGR_timedBefore_45 (n := 48) rfl zgGR_29 (by decide) rfl rfl ?_
      refine z_iload_n hR dGR_timedBefore_48 (n := 49) rfl rfl ?_
      refine z_iald hR (_) dGR_timedBefore_49 (n := 50) rfl (by decide) rfl (by decide) rfl (by omega) ?_
      refine z_aload_n hR dGR_timedBefore_50 (n := 51) rfl rfl ?_
      refine z_getR hR dGR_timedBefore_51 (n := 54) rfl zgGR_29 (by decide) rfl rfl ?_
      refine z_iload_n hR dGR_timedBefore_54 (n := 55) rfl rfl ?_
      refine z_iconst hR dGR_timedBefore_55 (v := nI 1) (n := 56) rfl rfl ?_
      refine z_iaddN hR dGR_timedBefore_56 (n := 57) rfl ?_
      refine z_iald hR (_) dGR_timedBefore_57 (n := 58) rfl (by decide) rfl (by decide) rfl (by omega) ?_
      refine z_gets hR dGR_timedBefore_58 (n := 61) rfl zsGR_76 ?_
      refine z_iload_n hR dGR_timedBefore_61 (n := 62) rfl rfl ?_
      refine z_gald hR (_) dGR_timedBefore_62 (n := 63) rfl rfl (by omega) ?_
      refine z_iand hR dGR_timedBefore_63 (n := 64) rfl ?_
      refine z_ior hR dGR_timedBefore_64 (n := 65) rfl ?_
      refine z_zret hR dGR_timedBefore_65 rfl rfl (Nat.zero_le _) ?_
      exact ⟨rfl, _, rfl, fun g hg => by rw [tb_or, tb_and, zgi_bit (by omega) hg, tP, if_pos h19_85]⟩
    refine ⟨88, rfl, ?_⟩
    exact absurd (hno h19_82) h19_85
  ·
    have n1 : σ.1 35 r ≠ 82 := fun e => hb (by rw [e]; decide)
    have n2 : σ.1 35 r ≠ 85 := fun e => hb (by rw [e]; decide)
    have h88 : σ.1 35 r = 88 := by
      rcases tmd_bn ht (c5 r hr).1 (c5 r hr).2 with q | q | q
      · exact q
      · exact absurd q n2
      · exact absurd q n1
    have b1 := (c4 r hr).2 h88
    refine z_aload_n hR dGR_timedBefore_0 (n := 1) rfl rfl ?_
    refine z_getR hR dGR_timedBefore_1 (n := 4) rfl zgGR_12 (by decide) rfl rfl ?_
    refine z_getR hR dGR_timedBefore_4 (n := 7) rfl zgGR_90 (by decide) rfl rfl ?_
    refine z_iload_n hR dGR_timedBefore_7 (n := 8) rfl rfl ?_
    refine z_iald hR (_) dGR_timedBefore_8 (n := 9) rfl (by decide) rfl (by decide) rfl (by omega) ?_
    refine z_istore_n hR dGR_timedBefore_9 (n := 10) rfl (by decide) rfl ?_
    refine z_aload_n hR dGR_timedBefore_10 (n := 11) rfl rfl ?_
    refine z_getR hR dGR_timedBefore_11 (n := 14) rfl zgGR_12 (by decide) rfl rfl ?_
    refine z_getR hR dGR_timedBefore_14 (n := 17) rfl zgGR_86 (by decide) rfl rfl ?_
    refine z_iload_n hR dGR_timedBefore_17 (n := 18) rfl rfl ?_
    refine z_cald hR (_) dGR_timedBefore_18 (n := 19) rfl (by decide) rfl (by decide) rfl (by omega) ?_
    refine z_look hR dGR_timedBefore_19 rfl rfl ?_
    refine ⟨fun (h19_82 : _ = (82 : Int32)) => ⟨66, rfl, ?_⟩, fun (h19_82 : _ ≠ (82 : Int32)) => ?_⟩
    · exact absurd h19_82 n1
    refine ⟨fun (h19_85 : _ = (85 : Int32)) => ⟨44, rfl, ?_⟩, fun (h19_85 : _ ≠ (85 : Int32)) => ?_⟩
    · exact absurd h19_85 n2
    refine ⟨88, rfl, ?_⟩
    refine z_aload_n hR dGR_timedBefore_88 (n := 89) rfl rfl ?_
    refine z_getR hR dGR_timedBefore_89 (n := 92) rfl zgGR_25 (by decide) rfl rfl ?_
    refine z_iload_n hR dGR_timedBefore_92 (n := 93) rfl rfl ?_
    refine z_iconst hR dGR_timedBefore_93 (v := nI 1) (n := 94) rfl rfl ?_
    refine z_iaddN hR dGR_timedBefore_94 (n := 95) rfl ?_
    refine z_iald hR (_) dGR_timedBefore_95 (n := 96) rfl (by decide) rfl (by decide) rfl (by omega) ?_
    refine z_zret hR dGR_timedBefore_96 rfl rfl (Nat.zero_le _) ?_
    exact ⟨rfl, _, rfl, fun g hg => by rw [tP, if_neg n2, if_neg n1]⟩
/-- the row of the state looked at is right from p on -/
def hrE (F S : Nat → Int32) (z : Nat) (mk : Int32) (A : Nat → Int32) (p : Nat) : Prop := ∀ r, p ≤ r → r < z → ∀ g, g < 32 → tb (A r) g = if tmd (F r) = true then g.testBit (nuF F z r) else uP F (sec S) mk (fun q => tb (A q) g) r
def bfE (F S : Nat → Int32) (z : Nat) (mk : Int32) (H A : Nat → Int32) (p : Nat) : Prop := ∀ r, p ≤ r → r < z → ∀ g, g < 32 → tb (A r) g = if tmd (F r) = true then tP F (sec S) (fun q => tb (A q) g) (fun q => tb (H q) g) (g.testBit (nuF F z r)) r else uP F (sec S) mk (fun q => tb (A q) g) r
theorem hrE_s {F S N P : Nat → Int32} {z : Nat} (hC : fC F S N P z) {mk : Int32} {A : Nat → Int32} {p : Nat} {y : Int32} (h : hrE F S z mk A (p + 1)) (hp : p < z) (hy : ∀ g, g < 32 → tb y g = if tmd (F p) = true then g.testBit (nuF F z p) else uP F (sec S) mk (fun q => tb (A q) g) p) : hrE F S z mk (upd A p y) p := by
  obtain ⟨_, _, _, c4, _⟩ := hC
  intro r h1 h2 g hg
  have hsame : uP F (sec S) mk (fun q => tb (upd A p y q) g) r = uP F (sec S) mk (fun q => tb (A q) g) r := uP_same c4 h2 (fun q h3 _ => by
    show tb (upd A p y q) g = tb (A q) g
    rw [pk_un (by omega)])
  rw [hsame]
  by_cases e : r = p
  · subst e
    rw [pk_us]
    exact hy g hg
  · rw [pk_un e]
    exact h r (by omega) h2 g hg
theorem bfE_s {F S N P : Nat → Int32} {z : Nat} (hC : fC F S N P z) {mk : Int32} {H A : Nat → Int32} {p : Nat} {y : Int32} (h : bfE F S z mk H A (p + 1)) (hp : p < z) (hy : ∀ g, g < 32 → tb y g = if tmd (F p) = true then tP F (sec S) (fun q => tb (A q) g) (fun q => tb (H q) g) (g.testBit (nuF F z p)) p else uP F (sec S) mk (fun q => tb (A q) g) p) : bfE F S z mk H (upd A p y) p := by
  obtain ⟨_, _, _, c4, _⟩ := hC
  intro r h1 h2 g hg
  have hq : ∀ q, r < q → q < z → tb (upd A p y q) g = tb (A q) g := fun q h3 _ => by rw [pk_un (by omega)]
  have hsame : uP F (sec S) mk (fun q => tb (upd A p y q) g) r = uP F (sec S) mk (fun q => tb (A q) g) r := uP_same c4 h2 hq
  have hsame2 : ∀ L, tP F (sec S) (fun q => tb (upd A p y q) g) (fun q => tb (H q) g) L r = tP F (sec S) (fun q => tb (A q) g) (fun q => tb (H q) g) L r := fun L => tP_same c4 h2 (fun _ _ => rfl) hq
  rw [hsame, hsame2]
  by_cases e : r = p
  · subst e
    rw [pk_us]
    exact hy g hg
  · rw [pk_un e]
    exact h r (by omega) h2 g hg
theorem m_GR_weighHere {z T s : Nat} (hs6 : s < 6) (σ : zS) (hM : fM σ z T) : zM yGR_weighHere cGR_weighHere 5 none 2 60 0 [.ref 28, .int (nI s)] σ (fun r2 σ2 => r2 = none ∧ zfr [29, 32, 33] σ σ2 ∧ hrE (σ.1 35) (σ.1 36) z (σ.1 43 s) (σ2.1 29) 0 ∧ σ2.1 32 = upd (σ.1 32) s (σ2.1 29 0) ∧ (∀ q, (∀ k, k < T → q ≠ s * 5 + k) → σ2.1 33 q = σ.1 33 q) ∧ ∀ r, r < z → tmd (σ.1 35 r) = true → ∀ g, g < 32 → tb (σ2.1 33 (s * 5 + nuF (σ.1 35) z r)) g = pP (σ.1 35) (sec (σ.1 36)) (fun q => tb (σ2.1 29 q) g) (g.testBit (nuF (σ.1 35) z r)) r) (fun _ _ => False) := by
  refine zM.of [some (.ref 28), some (.int (nI s)), none, none, none] (by decide) 3 rfl (fun _ => Nat.le_of_ble_eq_true rfl) (fun Z hR => ?_)
  have hM0 := hM
  obtain ⟨hs, hT, hTd, c1, c2, c3, c4, c5, c6, c7, c8⟩ := hM
  -- the prompt guesses, by number
  have key2 : ∀ (m i : Nat) (l4 : Option Value) (τ : zS), i + m = T → zfr [29, 32, 33] σ τ → hrE (σ.1 35) (σ.1 36) z (σ.1 43 s) (τ.1 29) 0 → τ.1 32 = upd (σ.1 32) s (τ.1 29 0) → (∀ q, (∀ k, k < T → q ≠ s * 5 + k) → τ.1 33 q = σ.1 33 q) → (∀ r, r < z → tmd (σ.1 35 r) = true → nuF (σ.1 35) z r < i → ∀ g, g < 32 → tb (τ.1 33 (s * 5 + nuF (σ.1 35) z r)) g = pP (σ.1 35) (sec (σ.1 36)) (fun q => tb (τ.1 29 q) g) (g.testBit (nuF (σ.1 35) z r)) r) → Z 0 86 [some (.ref 28), some (.int (nI s)), some (.int (σ.1 43 s)), some (.int (nI i)), l4] [] τ := by
    intro m
    induction m with
    | zero =>
      intro i l4 τ hi hf h1 h2 h3 h4
      have ht4 : τ.1 34 4 = nI T := by rw [hf.1 34 (by decide), hT]
      refine z_iload_n hR dGR_weighHere_86 (n := 87) rfl rfl ?_
      refine z_aload_n hR dGR_weighHere_87 (n := 88) rfl rfl ?_
      refine z_getR hR dGR_weighHere_88 (n := 91) rfl zgGR_12 (by decide) rfl rfl ?_
      refine z_getI hR dGR_weighHere_91 (n := 94) rfl zgGR_41 (by decide) rfl rfl ?_
      rw [ht4]
      refine z_icmp_geN hR dGR_weighHere_94 (t := 127) (n := 97) rfl rfl (by omega) (by omega) (fun h94 => ?_) (fun h94 => absurd h94 (by omega))
      refine z_vret hR dGR_weighHere_127 rfl (Nat.zero_le _) ?_
      exact ⟨rfl, hf, h1, h2, h3, fun r hr ht => h4 r hr ht (by have := nuF_lt hr ht; omega)⟩
    | succ m ih =>
      intro i l4 τ hi hf h1 h2 h3 h4
      have ht4 : τ.1 34 4 = nI T := by rw [hf.1 34 (by decide), hT]
      have hMt : fM τ z T := fM_fr hf (by decide) hM0
      obtain ⟨r, r1, r2, r3⟩ := nuF_sur (F := σ.1 35) (r := 0) (Nat.zero_add z) (show i < ddF (σ.1 35) z 0 by omega)
      have hP : τ.1 38 i = nI r := by
        rw [hf.1 38 (by decide), ← r3]
        exact (c7 r r1 r2).2
      have e35 : τ.1 35 = σ.1 35 := hf.1 35 (by decide)
      have e36 : τ.1 36 = σ.1 36 := hf.1 36 (by decide)
      have hc := m_GR_prompt τ hMt r1 (by rw [e35]; exact r2)
      rw [e35, e36, r3] at hc
      refine z_iload_n hR dGR_weighHere_86 (n := 87) rfl rfl ?_
      refine z_aload_n hR dGR_weighHere_87 (n := 88) rfl rfl ?_
      refine z_getR hR dGR_weighHere_88 (n := 91) rfl zgGR_12 (by decide) rfl rfl ?_
      refine z_getI hR dGR_weighHere_91 (n := 94) rfl zgGR_41 (by decide) rfl rfl ?_
      rw [ht4]
      refine z_icmp_geN hR dGR_weighHere_94 (t := 127) (n := 97) rfl rfl (by omega) (by omega) (fun h94 => absurd h94 (by omega)) (fun h94 => ?_)
      refine z_aload_n hR dGR_weighHere_97 (n := 98) rfl rfl ?_
      refine z_getR hR dGR_weighHere_98 (n := 101) rfl zgGR_38 (by decide) rfl rfl ?_
      refine z_iload_n hR dGR_weighHere_101 (n := 102) rfl rfl ?_
      refine z_iconst hR dGR_weighHere_102 (v := nI 5) (n := 103) rfl rfl ?_
      refine z_imulN hR dGR_weighHere_103 (n := 104) rfl ?_
      refine z_iload_n hR dGR_weighHere_104 (n := 105) rfl rfl ?_
      refine z_iaddN hR dGR_weighHere_105 (n := 106) rfl ?_
      refine z_aload_n hR dGR_weighHere_106 (n := 107) rfl rfl ?_
      refine z_aload_n hR dGR_weighHere_107 (n := 108) rfl rfl ?_
      refine z_getR hR dGR_weighHere_108 (n := 111) rfl zgGR_12 (by decide) rfl rfl ?_
      refine z_getR hR dGR_weighHere_111 (n := 114) rfl zgGR_79 (by decide) rfl rfl ?_
      refine z_iload_n hR dGR_weighHere_114 (n := 115) rfl rfl ?_
      refine z_iald hR (_) dGR_weighHere_115 (n := 116) rfl (by decide) rfl (by decide) rfl (by omega) ?_
      rw [hP]
      refine z_iload_n hR dGR_weighHere_116 (n := 117) rfl rfl ?_
      refine z_callV2 hR dGR_weighHere_117 (n := 120) rfl zcGR_82 zkGR_promptGuesses (by decide) (Nat.le_of_ble_eq_true rfl) (by decide) rfl rfl (Nat.zero_le _) hc (fun r117 s117 h117 => ?_)
      obtain ⟨e117, y, rfl, hy⟩ := h117
      subst s117
      refine z_iast hR (_) dGR_weighHere_120 (n := 121) rfl (by decide) rfl (by decide) rfl (by omega) ?_
      refine z_iincN hR 1 dGR_weighHere_121 (n := 124) rfl rfl (by decide) rfl rfl ?_
      refine z_goto hR dGR_weighHere_124 (t := 86) rfl ?_
      refine ih (i + 1) _ _ (by omega) (hf.wA _ (by decide)) ?_ ?_ (fun q hq => ?_) (fun r' hr' ht' hn g hg => ?_)
      · rw [zwA_n _ _ _ _ (by decide)]
        exact h1
      · rw [zwA_n _ _ _ _ (by decide), zwA_n _ _ _ _ (by decide)]
        exact h2
      · rw [zwA_sn _ _ _ _ (hq i (by omega))]
        exact h3 q hq
      · have e29 : (zwA τ 33 (s * 5 + i) y).1 29 = τ.1 29 := zwA_n _ _ _ _ (by decide)
        rw [e29]
        by_cases e : nuF (σ.1 35) z r' = i
        · have e2 := nuF_inj hr' r1 ht' r2 (e.trans r3.symm)
          subst e2
          rw [e, zwA_ss, hy g hg]
        · rw [zwA_sn _ _ _ _ (by omega)]
          exact h4 r' hr' ht' (by omega) g hg
  have key : ∀ (p : Nat) (y : Int32) (l4 : Option Value) (τ : zS), p ≤ z → (p = 0 → y < 0) → (∀ p2, p = p2 + 1 → y = nI p2) → zfr [29] σ τ → hrE (σ.1 35) (σ.1 36) z (σ.1 43 s) (τ.1 29) p → Z 0 20 [some (.ref 28), some (.int (nI s)), some (.int (σ.1 43 s)), some (.int y), l4] [] τ := by
    intro p
    induction p with
    | zero =>
      intro y l4 τ hp h0 _ hf hE
      refine z_iload_n hR dGR_weighHere_20 (n := 21) rfl rfl ?_
      refine z_if_lt hR dGR_weighHere_21 (t := 72) (n := 24) rfl rfl (fun _ => ?_) (fun h21 => absurd (h0 rfl) h21)
      refine z_aload_n hR dGR_weighHere_72 (n := 73) rfl rfl ?_
      refine z_getR hR dGR_weighHere_73 (n := 76) rfl zgGR_35 (by decide) rfl rfl ?_
      refine z_iload_n hR dGR_weighHere_76 (n := 77) rfl rfl ?_
      refine z_aload_n hR dGR_weighHere_77 (n := 78) rfl rfl ?_
      refine z_getR hR dGR_weighHere_78 (n := 81) rfl zgGR_25 (by decide) rfl rfl ?_
      refine z_iconst hR dGR_weighHere_81 (v := 0) (n := 82) rfl rfl ?_
      refine z_iald hR (0) dGR_weighHere_82 (n := 83) rfl (by decide) rfl (by decide) rfl (by omega) ?_
      refine z_iast hR (_) dGR_weighHere_83 (n := 84) rfl (by decide) rfl (by decide) rfl (by omega) ?_
      refine z_iconst hR dGR_weighHere_84 (v := nI 0) (n := 85) rfl rfl ?_
      refine z_istore_n hR dGR_weighHere_85 (n := 86) rfl (by decide) rfl ?_
      refine key2 T 0 _ _ (by omega) ((hf.mo (by decide)).wA _ (by decide)) ?_ ?_ (fun q hq => ?_) (fun r hr ht hn => absurd hn (by omega))
      · rw [zwA_n _ _ _ _ (by decide)]
        exact hE
      · funext q
        rw [zwA_1, if_pos rfl, zwA_n _ _ _ _ (by decide), hf.1 32 (by decide)]
        rfl
      · rw [zwA_n _ _ _ _ (by decide), hf.1 33 (by decide)]
    | succ p ih =>
      intro y l4 τ hp _ h1 hf hE
      obtain rfl := h1 p rfl
      have hdec : ∀ p2, p = p2 + 1 → nI p + (-1) = nI p2 := fun p2 e => by
        subst e
        exact pk_m1 p2
      have hdz : p = 0 → nI p + (-1) < 0 := fun e => by
        subst e
        decide
      have hMt : fM τ z T := fM_fr hf (by decide) hM0
      have e35 : τ.1 35 = σ.1 35 := hf.1 35 (by decide)
      have e36 : τ.1 36 = σ.1 36 := hf.1 36 (by decide)
      have e39 : τ.1 39 = σ.1 39 := hf.1 39 (by decide)
      have nxt : ∀ (l4 : Option Value) (y : Int32), (∀ g, g < 32 → tb y g = if tmd (σ.1 35 p) = true then g.testBit (nuF (σ.1 35) z p) else uP (σ.1 35) (sec (σ.1 36)) (σ.1 43 s) (fun q => tb (τ.1 29 q) g) p) → Z 0 20 [some (.ref 28), some (.int (nI s)), some (.int (σ.1 43 s)), some (.int (nI p + (-1))), l4] [] (zwA τ 29 p y) := by
        intro l4 y hy
        refine ih _ _ _ (by omega) hdz hdec (hf.wA _ (by decide)) ?_
        have e : (zwA τ 29 p y).1 29 = upd (τ.1 29) p y := by
          funext q
          rw [zwA_1, if_pos rfl]
          rfl
        rw [e]
        exact hrE_s hM0.2.2.2 hE (by omega) hy
      by_cases ht : tmd (σ.1 35 p) = true
      ·
        have hN := (c7 p (by omega) ht).1
        have hnu := nuF_lt (show p < z by omega) ht
        have hm1 : nI (nuF (σ.1 35) z p) ≠ -1 := nI_m1 (by omega)
        refine z_iload_n hR dGR_weighHere_20 (n := 21) rfl rfl ?_
        refine z_if_ltN hR dGR_weighHere_21 (t := 72) (n := 24) rfl rfl (by omega) ?_
        refine z_aload_n hR dGR_weighHere_24 (n := 25) rfl rfl ?_
        refine z_getR hR dGR_weighHere_25 (n := 28) rfl zgGR_12 (by decide) rfl rfl ?_
        refine z_getR hR dGR_weighHere_28 (n := 31) rfl zgGR_69 (by decide) rfl rfl ?_
        refine z_iload_n hR dGR_weighHere_31 (n := 32) rfl rfl ?_
        refine z_iald hR (_) dGR_weighHere_32 (n := 33) rfl (by decide) rfl (by decide) rfl (by omega) ?_
        rw [e39, hN]
        refine z_istore hR dGR_weighHere_33 (n := 35) rfl (by decide) rfl ?_
        refine z_aload_n hR dGR_weighHere_35 (n := 36) rfl rfl ?_
        refine z_getR hR dGR_weighHere_36 (n := 39) rfl zgGR_25 (by decide) rfl rfl ?_
        refine z_iload_n hR dGR_weighHere_39 (n := 40) rfl rfl ?_
        refine z_iload hR dGR_weighHere_40 (n := 42) rfl rfl ?_
        refine z_iconst hR dGR_weighHere_42 (v := (-1)) (n := 43) rfl rfl ?_
        refine z_icmp_ne hR dGR_weighHere_43 (t := 59) (n := 46) rfl rfl (fun _ => ?_) (fun h43 => absurd h43 hm1)
        refine z_gets hR dGR_weighHere_59 (n := 62) rfl zsGR_76 ?_
        refine z_iload hR dGR_weighHere_62 (n := 64) rfl rfl ?_
        refine z_gald hR (_) dGR_weighHere_64 (n := 65) rfl rfl (by omega) ?_
        refine z_iast hR (_) dGR_weighHere_65 (n := 66) rfl (by decide) rfl (by decide) rfl (by omega) ?_
        refine z_iinc hR dGR_weighHere_66 (q32 := (-1)) (n := 69) rfl rfl (by decide) rfl rfl ?_
        refine z_goto hR dGR_weighHere_69 (t := 20) rfl ?_
        exact nxt _ _ (fun g hg => by rw [if_pos ht, zgi_bit (by omega) hg])
      ·
        have ht' : tmd (σ.1 35 p) = false := by simpa using ht
        have hN := c8 p (by omega) ht'
        have hc := m_GR_untimed29 (σ.1 43 s) τ hMt (show p < z by omega) (by rw [e35]; exact ht')
        rw [e35, e36] at hc
        refine z_iload_n hR dGR_weighHere_20 (n := 21) rfl rfl ?_
        refine z_if_ltN hR dGR_weighHere_21 (t := 72) (n := 24) rfl rfl (by omega) ?_
        refine z_aload_n hR dGR_weighHere_24 (n := 25) rfl rfl ?_
        refine z_getR hR dGR_weighHere_25 (n := 28) rfl zgGR_12 (by decide) rfl rfl ?_
        refine z_getR hR dGR_weighHere_28 (n := 31) rfl zgGR_69 (by decide) rfl rfl ?_
        refine z_iload_n hR dGR_weighHere_31 (n := 32) rfl rfl ?_
        refine z_iald hR (_) dGR_weighHere_32 (n := 33) rfl (by decide) rfl (by decide) rfl (by omega) ?_
        rw [e39, hN]
        refine z_istore hR dGR_weighHere_33 (n := 35) rfl (by decide) rfl ?_
        refine z_aload_n hR dGR_weighHere_35 (n := 36) rfl rfl ?_
        refine z_getR hR dGR_weighHere_36 (n := 39) rfl zgGR_25 (by decide) rfl rfl ?_
        refine z_iload_n hR dGR_weighHere_39 (n := 40) rfl rfl ?_
        refine z_iload hR dGR_weighHere_40 (n := 42) rfl rfl ?_
        refine z_iconst hR dGR_weighHere_42 (v := (-1)) (n := 43) rfl rfl ?_
        refine z_icmp_ne hR dGR_weighHere_43 (t := 59) (n := 46) rfl rfl (fun h43 => absurd h43 (fun w => w rfl)) (fun _ => ?_)
        refine z_aload_n hR dGR_weighHere_46 (n := 47) rfl rfl ?_
        refine z_aload_n hR dGR_weighHere_47 (n := 48) rfl rfl ?_
        refine z_getR hR dGR_weighHere_48 (n := 51) rfl zgGR_25 (by decide) rfl rfl ?_
        refine z_iload_n hR dGR_weighHere_51 (n := 52) rfl rfl ?_
        refine z_iload_n hR dGR_weighHere_52 (n := 53) rfl rfl ?_
        refine z_callV3 hR dGR_weighHere_53 (n := 56) rfl zcGR_72 zkGR_untimed (by decide) (Nat.le_of_ble_eq_true rfl) (by decide) rfl rfl (Nat.zero_le _) hc (fun r53 s53 h53 => ?_)
        obtain ⟨e53, y, rfl, hy⟩ := h53
        subst s53
        refine z_goto hR dGR_weighHere_56 (t := 65) rfl ?_
        refine z_iast hR (_) dGR_weighHere_65 (n := 66) rfl (by decide) rfl (by decide) rfl (by omega) ?_
        refine z_iinc hR dGR_weighHere_66 (q32 := (-1)) (n := 69) rfl rfl (by decide) rfl rfl ?_
        refine z_goto hR dGR_weighHere_69 (t := 20) rfl ?_
        exact nxt _ _ (fun g hg => by rw [if_neg ht, hy g hg])
  refine z_aload_n hR dGR_weighHere_0 (n := 1) rfl rfl ?_
  refine z_getR hR dGR_weighHere_1 (n := 4) rfl zgGR_21 (by decide) rfl rfl ?_
  refine z_getR hR dGR_weighHere_4 (n := 7) rfl zgGR_63 (by decide) rfl rfl ?_
  refine z_iload_n hR dGR_weighHere_7 (n := 8) rfl rfl ?_
  refine z_iald hR (_) dGR_weighHere_8 (n := 9) rfl (by decide) rfl (by decide) rfl (by omega) ?_
  refine z_istore_n hR dGR_weighHere_9 (n := 10) rfl (by decide) rfl ?_
  refine z_aload_n hR dGR_weighHere_10 (n := 11) rfl rfl ?_
  refine z_getR hR dGR_weighHere_11 (n := 14) rfl zgGR_12 (by decide) rfl rfl ?_
  refine z_getI hR dGR_weighHere_14 (n := 17) rfl zgGR_66 (by decide) rfl rfl ?_
  rw [hs]
  refine z_iconst hR dGR_weighHere_17 (v := nI 1) (n := 18) rfl rfl ?_
  refine z_isubN hR dGR_weighHere_18 (n := 19) rfl (by omega) ?_
  refine z_istore_n hR dGR_weighHere_19 (n := 20) rfl (by decide) rfl ?_
  exact key z _ _ _ (Nat.le_refl _) (fun e => by omega) (fun p2 e => by rw [e, Nat.add_sub_cancel]) zfr.rf (fun r h1 h2 => absurd h1 (by omega))
theorem m_GR_weighBefore {z T s : Nat} (hs6 : s < 6) (σ : zS) (hM : fM σ z T) : zM yGR_weighBefore cGR_weighBefore 5 none 2 60 0 [.ref 28, .int (nI s)] σ (fun r2 σ2 => r2 = none ∧ zfr [30] σ σ2 ∧ bfE (σ.1 35) (σ.1 36) z (σ.1 43 s) (σ.1 29) (σ2.1 30) 0) (fun _ _ => False) := by
  refine zM.of [some (.ref 28), some (.int (nI s)), none, none, none] (by decide) 3 rfl (fun _ => Nat.le_of_ble_eq_true rfl) (fun Z hR => ?_)
  have hM0 := hM
  obtain ⟨hs, hT, hTd, c1, c2, c3, c4, c5, c6, c7, c8⟩ := hM
  have key : ∀ (p : Nat) (y : Int32) (l4 : Option Value) (τ : zS), p ≤ z → (p = 0 → y < 0) → (∀ p2, p = p2 + 1 → y = nI p2) → zfr [30] σ τ → bfE (σ.1 35) (σ.1 36) z (σ.1 43 s) (σ.1 29) (τ.1 30) p → Z 0 20 [some (.ref 28), some (.int (nI s)), some (.int (σ.1 43 s)), some (.int y), l4] [] τ := by
    intro p
    induction p with
    | zero =>
      intro y l4 τ hp h0 _ hf hE
      refine z_iload_n hR dGR_weighBefore_20 (n := 21) rfl rfl ?_
      refine z_if_lt hR dGR_weighBefore_21 (t := 73) (n := 24) rfl rfl (fun _ => ?_) (fun h21 => absurd (h0 rfl) h21)
      refine z_vret hR dGR_weighBefore_73 rfl (Nat.zero_le _) ?_
      exact ⟨rfl, hf, hE⟩
    | succ p ih =>
      intro y l4 τ hp _ h1 hf hE
      obtain rfl := h1 p rfl
      have hdec : ∀ p2, p = p2 + 1 → nI p + (-1) = nI p2 := fun p2 e => by
        subst e
        exact pk_m1 p2
      have hdz : p = 0 → nI p + (-1) < 0 := fun e => by
        subst e
        decide
      have hMt : fM τ z T := fM_fr hf (by decide) hM0
      have e35 : τ.1 35 = σ.1 35 := hf.1 35 (by decide)
      have e36 : τ.1 36 = σ.1 36 := hf.1 36 (by decide)
      have e39 : τ.1 39 = σ.1 39 := hf.1 39 (by decide)
      have e29 : τ.1 29 = σ.1 29 := hf.1 29 (by decide)
      have nxt : ∀ (l4 : Option Value) (y : Int32), (∀ g, g < 32 → tb y g = if tmd (σ.1 35 p) = true then tP (σ.1 35) (sec (σ.1 36)) (fun q => tb (τ.1 30 q) g) (fun q => tb (σ.1 29 q) g) (g.testBit (nuF (σ.1 35) z p)) p else uP (σ.1 35) (sec (σ.1 36)) (σ.1 43 s) (fun q => tb (τ.1 30 q) g) p) → Z 0 20 [some (.ref 28), some (.int (nI s)), some (.int (σ.1 43 s)), some (.int (nI p + (-1))), l4] [] (zwA τ 30 p y) := by
        intro l4 y hy
        refine ih _ _ _ (by omega) hdz hdec (hf.wA _ (by decide)) ?_
        have e : (zwA τ 30 p y).1 30 = upd (τ.1 30) p y := by
          funext q
          rw [zwA_1, if_pos rfl]
          rfl
        rw [e]
        exact bfE_s hM0.2.2.2 hE (by omega) hy
      by_cases ht : tmd (σ.1 35 p) = true
      ·
        have hN := (c7 p (by omega) ht).1
        have hnu := nuF_lt (show p < z by omega) ht
        have hm1 : nI (nuF (σ.1 35) z p) ≠ -1 := nI_m1 (by omega)
        have hc := m_GR_timedBefore τ hMt (show p < z by omega) (by rw [e35]; exact ht)
        rw [e35, e36, e29] at hc
        refine z_iload_n hR dGR_weighBefore_20 (n := 21) rfl rfl ?_
        refine z_if_ltN hR dGR_weighBefore_21 (t := 73) (n := 24) rfl rfl (by omega) ?_
        refine z_aload_n hR dGR_weighBefore_24 (n := 25) rfl rfl ?_
        refine z_getR hR dGR_weighBefore_25 (n := 28) rfl zgGR_12 (by decide) rfl rfl ?_
        refine z_getR hR dGR_weighBefore_28 (n := 31) rfl zgGR_69 (by decide) rfl rfl ?_
        refine z_iload_n hR dGR_weighBefore_31 (n := 32) rfl rfl ?_
        refine z_iald hR (_) dGR_weighBefore_32 (n := 33) rfl (by decide) rfl (by decide) rfl (by omega) ?_
        rw [e39, hN]
        refine z_istore hR dGR_weighBefore_33 (n := 35) rfl (by decide) rfl ?_
        refine z_aload_n hR dGR_weighBefore_35 (n := 36) rfl rfl ?_
        refine z_getR hR dGR_weighBefore_36 (n := 39) rfl zgGR_29 (by decide) rfl rfl ?_
        refine z_iload_n hR dGR_weighBefore_39 (n := 40) rfl rfl ?_
        refine z_iload hR dGR_weighBefore_40 (n := 42) rfl rfl ?_
        refine z_iconst hR dGR_weighBefore_42 (v := (-1)) (n := 43) rfl rfl ?_
        refine z_icmp_ne hR dGR_weighBefore_43 (t := 59) (n := 46) rfl rfl (fun _ => ?_) (fun h43 => absurd h43 hm1)
        refine z_aload_n hR dGR_weighBefore_59 (n := 60) rfl rfl ?_
        refine z_iload_n hR dGR_weighBefore_60 (n := 61) rfl rfl ?_
        refine z_iload hR dGR_weighBefore_61 (n := 63) rfl rfl ?_
        refine z_callV2 hR dGR_weighBefore_63 (n := 66) rfl zcGR_93 zkGR_timedBefore (by decide) (Nat.le_of_ble_eq_true rfl) (by decide) rfl rfl (Nat.zero_le _) hc (fun r63 s63 h63 => ?_)
        obtain ⟨e63, y, rfl, hy⟩ := h63
        subst s63
        refine z_iast hR (_) dGR_weighBefore_66 (n := 67) rfl (by decide) rfl (by decide) rfl (by omega) ?_
        refine z_iinc hR dGR_weighBefore_67 (q32 := (-1)) (n := 70) rfl rfl (by decide) rfl rfl ?_
        refine z_goto hR dGR_weighBefore_70 (t := 20) rfl ?_
        exact nxt _ _ (fun g hg => by rw [if_pos ht, hy g hg])
      ·
        have ht' : tmd (σ.1 35 p) = false := by simpa using ht
        have hN := c8 p (by omega) ht'
        have hc := m_GR_untimed30 (σ.1 43 s) τ hMt (show p < z by omega) (by rw [e35]; exact ht')
        rw [e35, e36] at hc
        refine z_iload_n hR dGR_weighBefore_20 (n := 21) rfl rfl ?_
        refine z_if_ltN hR dGR_weighBefore_21 (t := 73) (n := 24) rfl rfl (by omega) ?_
        refine z_aload_n hR dGR_weighBefore_24 (n := 25) rfl rfl ?_
        refine z_getR hR dGR_weighBefore_25 (n := 28) rfl zgGR_12 (by decide) rfl rfl ?_
        refine z_getR hR dGR_weighBefore_28 (n := 31) rfl zgGR_69 (by decide) rfl rfl ?_
        refine z_iload_n hR dGR_weighBefore_31 (n := 32) rfl rfl ?_
        refine z_iald hR (_) dGR_weighBefore_32 (n := 33) rfl (by decide) rfl (by decide) rfl (by omega) ?_
        rw [e39, hN]
        refine z_istore hR dGR_weighBefore_33 (n := 35) rfl (by decide) rfl ?_
        refine z_aload_n hR dGR_weighBefore_35 (n := 36) rfl rfl ?_
        refine z_getR hR dGR_weighBefore_36 (n := 39) rfl zgGR_29 (by decide) rfl rfl ?_
        refine z_iload_n hR dGR_weighBefore_39 (n := 40) rfl rfl ?_
        refine z_iload hR dGR_weighBefore_40 (n := 42) rfl rfl ?_
        refine z_iconst hR dGR_weighBefore_42 (v := (-1)) (n := 43) rfl rfl ?_
        refine z_icmp_ne hR dGR_weighBefore_43 (t := 59) (n := 46) rfl rfl (fun h43 => absurd h43 (fun w => w rfl)) (fun _ => ?_)
        refine z_aload_n hR dGR_weighBefore_46 (n := 47) rfl rfl ?_
        refine z_aload_n hR dGR_weighBefore_47 (n := 48) rfl rfl ?_
        refine z_getR hR dGR_weighBefore_48 (n := 51) rfl zgGR_29 (by decide) rfl rfl ?_
        refine z_iload_n hR dGR_weighBefore_51 (n := 52) rfl rfl ?_
        refine z_iload_n hR dGR_weighBefore_52 (n := 53) rfl rfl ?_
        refine z_callV3 hR dGR_weighBefore_53 (n := 56) rfl zcGR_72 zkGR_untimed (by decide) (Nat.le_of_ble_eq_true rfl) (by decide) rfl rfl (Nat.zero_le _) hc (fun r53 s53 h53 => ?_)
        obtain ⟨e53, y, rfl, hy⟩ := h53
        subst s53
        refine z_goto hR dGR_weighBefore_56 (t := 66) rfl ?_
        refine z_iast hR (_) dGR_weighBefore_66 (n := 67) rfl (by decide) rfl (by decide) rfl (by omega) ?_
        refine z_iinc hR dGR_weighBefore_67 (q32 := (-1)) (n := 70) rfl rfl (by decide) rfl rfl ?_
        refine z_goto hR dGR_weighBefore_70 (t := 20) rfl ?_
        exact nxt _ _ (fun g hg => by rw [if_neg ht, hy g hg])
  refine z_aload_n hR dGR_weighBefore_0 (n := 1) rfl rfl ?_
  refine z_getR hR dGR_weighBefore_1 (n := 4) rfl zgGR_21 (by decide) rfl rfl ?_
  refine z_getR hR dGR_weighBefore_4 (n := 7) rfl zgGR_63 (by decide) rfl rfl ?_
  refine z_iload_n hR dGR_weighBefore_7 (n := 8) rfl rfl ?_
  refine z_iald hR (_) dGR_weighBefore_8 (n := 9) rfl (by decide) rfl (by decide) rfl (by omega) ?_
  refine z_istore_n hR dGR_weighBefore_9 (n := 10) rfl (by decide) rfl ?_
  refine z_aload_n hR dGR_weighBefore_10 (n := 11) rfl rfl ?_
  refine z_getR hR dGR_weighBefore_11 (n := 14) rfl zgGR_12 (by decide) rfl rfl ?_
  refine z_getI hR dGR_weighBefore_14 (n := 17) rfl zgGR_66 (by decide) rfl rfl ?_
  rw [hs]
  refine z_iconst hR dGR_weighBefore_17 (v := nI 1) (n := 18) rfl rfl ?_
  refine z_isubN hR dGR_weighBefore_18 (n := 19) rfl (by omega) ?_
  refine z_istore_n hR dGR_weighBefore_19 (n := 20) rfl (by decide) rfl ?_
  exact key z _ _ _ (Nat.le_refl _) (fun e => by omega) (fun p2 e => by rw [e, Nat.add_sub_cancel]) zfr.rf (fun r h1 h2 => absurd h1 (by omega))
theorem bN_or {f : Nat → Bool} {k : Nat} (hk : k < 32) : nI (bN f k) ||| (zb (f k) <<< (nI k &&& 31)) = nI (bN f (k + 1)) := by
  refine tb_ext (fun g hg => ?_)
  rw [tb_or, tb_nI _ _ hg, tb_nI _ _ hg, tb_shl _ hk _ hg, tb_zb]
  by_cases h1 : g < k
  · rw [bN_bit f h1, bN_bit f (by omega), decide_eq_false (by omega : ¬ k ≤ g)]
    simp
  · have h2 : (bN f k).testBit g = false := Nat.testBit_lt_two_pow (Nat.lt_of_lt_of_le (bN_lt f k) (Nat.pow_le_pow_right (by omega) (by omega)))
    rw [h2]
    by_cases e : g = k
    · subst e
      rw [bN_bit f (by omega)]
      simp
    · have h3 : (bN f (k + 1)).testBit g = false := Nat.testBit_lt_two_pow (Nat.lt_of_lt_of_le (bN_lt f (k + 1)) (Nat.pow_le_pow_right (by omega) (by omega)))
      rw [h3, decide_eq_false (by omega : ¬ g - k = 0)]
      simp
theorem p2_le {T : Nat} (h : T ≤ 5) : 2 ^ T ≤ 32 := Nat.pow_le_pow_right (by omega : 0 < 2) h
theorem m_GR_writeGuesses {z T s t : Nat} (hs6 : s < 6) (ht6 : t < 6) (σ : zS) (hM : fM σ z T) (hg : σ.1 28 2 = nI (2 ^ T)) : zM yGR_writeGuesses cGR_writeGuesses 6 none 0 0 0 [.ref 28, .int (nI s), .int (nI t)] σ (fun r2 σ2 => r2 = none ∧ zfr [31] σ σ2 ∧ (∀ q, (∀ g, g < 2 ^ T → q ≠ (s * 6 + t) * 32 + g) → σ2.1 31 q = σ.1 31 q) ∧ ∀ g, g < 2 ^ T → σ2.1 31 ((s * 6 + t) * 32 + g) = nI (bN (fun k => tb (σ.1 30 (σ.1 38 k).toNatClampNeg) g) T)) (fun _ _ => False) := by
  refine zM.of [some (.ref 28), some (.int (nI s)), some (.int (nI t)), none, none, none] (by decide) 3 rfl (fun _ => Nat.le_of_ble_eq_true rfl) (fun Z hR => ?_)
  obtain ⟨hs, hT, hTd, c1, c2, c3, c4, c5, c6, c7, c8⟩ := hM
  have p2 := p2_le (T := T) (by omega)
  have key : ∀ (m i : Nat) (l4 l5 : Option Value) (τ : zS), i + m = 2 ^ T → zfr [31] σ τ → (∀ q, (∀ g, g < 2 ^ T → q ≠ (s * 6 + t) * 32 + g) → τ.1 31 q = σ.1 31 q) → (∀ g, g < i → τ.1 31 ((s * 6 + t) * 32 + g) = nI (bN (fun k => tb (σ.1 30 (σ.1 38 k).toNatClampNeg) g) T)) → Z 0 2 [some (.ref 28), some (.int (nI s)), some (.int (nI t)), some (.int (nI i)), l4, l5] [] τ := by
    intro m
    induction m with
    | zero =>
      intro i l4 l5 τ hi hf h1 h2
      have hg2 : τ.1 28 2 = nI (2 ^ T) := by rw [hf.1 28 (by decide), hg]
      refine z_iload_n hR dGR_writeGuesses_2 (n := 3) rfl rfl ?_
      refine z_aload_n hR dGR_writeGuesses_3 (n := 4) rfl rfl ?_
      refine z_getI hR dGR_writeGuesses_4 (n := 7) rfl zgGR_45 (by decide) rfl rfl ?_
      rw [hg2]
      refine z_icmp_geN hR dGR_writeGuesses_7 (t := 85) (n := 10) rfl rfl (by omega) (by omega) (fun h7 => ?_) (fun h7 => absurd h7 (by omega))
      refine z_vret hR dGR_writeGuesses_85 rfl (Nat.zero_le _) ?_
      exact ⟨rfl, hf, h1, fun g hg => h2 g (by omega)⟩
    | succ m ih =>
      intro i l4 l5 τ hi hf h1 h2
      have hg2 : τ.1 28 2 = nI (2 ^ T) := by rw [hf.1 28 (by decide), hg]
      have hT2 : τ.1 34 4 = nI T := by rw [hf.1 34 (by decide), hT]
      have e30 : τ.1 30 = σ.1 30 := hf.1 30 (by decide)
      have e38 : τ.1 38 = σ.1 38 := hf.1 38 (by decide)
      have key2 : ∀ (w k : Nat), k + w = T → Z 0 16 [some (.ref 28), some (.int (nI s)), some (.int (nI t)), some (.int (nI i)), some (.int (nI (bN (fun k => tb (σ.1 30 (σ.1 38 k).toNatClampNeg) i) k))), some (.int (nI k))] [] τ := by
        intro w
        induction w with
        | zero =>
          intro k hk
          obtain rfl : k = T := by omega
          refine z_iload hR dGR_writeGuesses_16 (n := 18) rfl rfl ?_
          refine z_aload_n hR dGR_writeGuesses_18 (n := 19) rfl rfl ?_
          refine z_getR hR dGR_writeGuesses_19 (n := 22) rfl zgGR_12 (by decide) rfl rfl ?_
          refine z_getI hR dGR_writeGuesses_22 (n := 25) rfl zgGR_41 (by decide) rfl rfl ?_
          rw [hT2]
          refine z_icmp_geN hR dGR_writeGuesses_25 (t := 61) (n := 28) rfl rfl (by omega) (by omega) (fun h25 => ?_) (fun h25 => absurd h25 (by omega))
          refine z_aload_n hR dGR_writeGuesses_61 (n := 62) rfl rfl ?_
          refine z_getR hR dGR_writeGuesses_62 (n := 65) rfl zgGR_32 (by decide) rfl rfl ?_
          refine z_iload_n hR dGR_writeGuesses_65 (n := 66) rfl rfl ?_
          refine z_bipush hR dGR_writeGuesses_66 (v := nI 6) (n := 68) rfl rfl ?_
          refine z_imulN hR dGR_writeGuesses_68 (n := 69) rfl ?_
          refine z_iload_n hR dGR_writeGuesses_69 (n := 70) rfl rfl ?_
          refine z_iaddN hR dGR_writeGuesses_70 (n := 71) rfl ?_
          refine z_bipush hR dGR_writeGuesses_71 (v := nI 32) (n := 73) rfl rfl ?_
          refine z_imulN hR dGR_writeGuesses_73 (n := 74) rfl ?_
          refine z_iload_n hR dGR_writeGuesses_74 (n := 75) rfl rfl ?_
          refine z_iaddN hR dGR_writeGuesses_75 (n := 76) rfl ?_
          refine z_iload hR dGR_writeGuesses_76 (n := 78) rfl rfl ?_
          refine z_iast hR (_) dGR_writeGuesses_78 (n := 79) rfl (by decide) rfl (by decide) rfl (by omega) ?_
          refine z_iincN hR 1 dGR_writeGuesses_79 (n := 82) rfl rfl (by decide) rfl rfl ?_
          refine z_goto hR dGR_writeGuesses_82 (t := 2) rfl ?_
          refine ih (i + 1) _ _ _ (by omega) (hf.wA _ (by decide)) (fun q hq => ?_) (fun g hg => ?_)
          · rw [zwA_sn _ _ _ _ (hq i (by omega))]
            exact h1 q hq
          · by_cases e : g = i
            · subst e
              rw [zwA_ss]
            · rw [zwA_sn _ _ _ _ (by omega)]
              exact h2 g (by omega)
        | succ w ihw =>
          intro k hk
          obtain ⟨r, r1, r2, r3⟩ := nuF_sur (F := σ.1 35) (r := 0) (Nat.zero_add z) (show k < ddF (σ.1 35) z 0 by omega)
          have hP : σ.1 38 k = nI r := by
            rw [← r3]
            exact (c7 r r1 r2).2
          have hgo := ihw (k + 1) (by omega)
          rw [← bN_or (by omega : k < 32)] at hgo
          have hPc : (σ.1 38 k).toNatClampNeg = r := by rw [hP, nI_clamp (by omega)]
          rw [hPc] at hgo
          refine z_iload hR dGR_writeGuesses_16 (n := 18) rfl rfl ?_
          refine z_aload_n hR dGR_writeGuesses_18 (n := 19) rfl rfl ?_
          refine z_getR hR dGR_writeGuesses_19 (n := 22) rfl zgGR_12 (by decide) rfl rfl ?_
          refine z_getI hR dGR_writeGuesses_22 (n := 25) rfl zgGR_41 (by decide) rfl rfl ?_
          rw [hT2]
          refine z_icmp_geN hR dGR_writeGuesses_25 (t := 61) (n := 28) rfl rfl (by omega) (by omega) (fun h25 => absurd h25 (by omega)) (fun h25 => ?_)
          refine z_iload hR dGR_writeGuesses_28 (n := 30) rfl rfl ?_
          refine z_aload_n hR dGR_writeGuesses_30 (n := 31) rfl rfl ?_
          refine z_getR hR dGR_writeGuesses_31 (n := 34) rfl zgGR_29 (by decide) rfl rfl ?_
          refine z_aload_n hR dGR_writeGuesses_34 (n := 35) rfl rfl ?_
          refine z_getR hR dGR_writeGuesses_35 (n := 38) rfl zgGR_12 (by decide) rfl rfl ?_
          refine z_getR hR dGR_writeGuesses_38 (n := 41) rfl zgGR_79 (by decide) rfl rfl ?_
          refine z_iload hR dGR_writeGuesses_41 (n := 43) rfl rfl ?_
          refine z_iald hR (_) dGR_writeGuesses_43 (n := 44) rfl (by decide) rfl (by decide) rfl (by omega) ?_
          rw [e38, hP]
          refine z_iald hR (_) dGR_writeGuesses_44 (n := 45) rfl (by decide) rfl (by decide) rfl (by omega) ?_
          rw [e30]
          refine z_iload_n hR dGR_writeGuesses_45 (n := 46) rfl rfl ?_
          refine z_iushr hR dGR_writeGuesses_46 (n := 47) rfl ?_
          refine z_iconst hR dGR_writeGuesses_47 (v := 1) (n := 48) rfl rfl ?_
          refine z_iand hR dGR_writeGuesses_48 (n := 49) rfl ?_
          rw [tb_us1 _ (by omega : i < 32)]
          refine z_iload hR dGR_writeGuesses_49 (n := 51) rfl rfl ?_
          refine z_ishl hR dGR_writeGuesses_51 (n := 52) rfl ?_
          refine z_ior hR dGR_writeGuesses_52 (n := 53) rfl ?_
          refine z_istore hR dGR_writeGuesses_53 (n := 55) rfl (by decide) rfl ?_
          refine z_iincN hR 1 dGR_writeGuesses_55 (n := 58) rfl rfl (by decide) rfl rfl ?_
          refine z_goto hR dGR_writeGuesses_58 (t := 16) rfl ?_
          exact hgo
      refine z_iload_n hR dGR_writeGuesses_2 (n := 3) rfl rfl ?_
      refine z_aload_n hR dGR_writeGuesses_3 (n := 4) rfl rfl ?_
      refine z_getI hR dGR_writeGuesses_4 (n := 7) rfl zgGR_45 (by decide) rfl rfl ?_
      rw [hg2]
      refine z_icmp_geN hR dGR_writeGuesses_7 (t := 85) (n := 10) rfl rfl (by omega) (by omega) (fun h7 => absurd h7 (by omega)) (fun h7 => ?_)
      refine z_iconst hR dGR_writeGuesses_10 (v := nI 0) (n := 11) rfl rfl ?_
      refine z_istore hR dGR_writeGuesses_11 (n := 13) rfl (by decide) rfl ?_
      refine z_iconst hR dGR_writeGuesses_13 (v := nI 0) (n := 14) rfl rfl ?_
      refine z_istore hR dGR_writeGuesses_14 (n := 16) rfl (by decide) rfl ?_
      exact key2 T 0 (by omega)
  refine z_iconst hR dGR_writeGuesses_0 (v := nI 0) (n := 1) rfl rfl ?_
  refine z_istore_n hR dGR_writeGuesses_1 (n := 2) rfl (by decide) rfl ?_
  exact key (2 ^ T) 0 _ _ _ (by omega) zfr.rf (fun q _ => rfl) (fun g hg => absurd hg (by omega))
