/-! The normal form is written: the class -/
theorem m_NF_opposite {c : Int32} (hc : c ∈ ndc) (hx : c ≠ 33 ∧ c ≠ 62 ∧ c ≠ 70 ∧ c ≠ 71) (σ : zS) : zM yNF_opposite cNF_opposite 1 (some .char) 0 0 0 [.int c] σ (fun r σ2 => r = some (.int (opp c)) ∧ σ2 = σ) (fun _ _ => False) := by
  refine zM.of [some (.int c)] (by decide) 0 rfl (fun _ => Nat.le_of_ble_eq_true rfl) (fun Z hR => ?_)
  refine z_iload_n hR dNF_opposite_0 (n := 1) rfl rfl ?_
  refine z_look hR dNF_opposite_1 rfl rfl ?_
  refine ⟨fun (h1_38 : _ = (38 : Int32)) => ⟨68, rfl, ?_⟩, fun (h1_38 : _ ≠ (38 : Int32)) => ?_⟩
  · subst h1_38
    refine z_bipush hR dNF_opposite_68 (v := 124) (n := 70) rfl rfl ?_
    refine z_zret hR dNF_opposite_70 rfl rfl (Nat.zero_le _) ?_
    exact ⟨rfl, rfl⟩
  refine ⟨fun (h1_48 : _ = (48 : Int32)) => ⟨83, rfl, ?_⟩, fun (h1_48 : _ ≠ (48 : Int32)) => ?_⟩
  · subst h1_48
    refine z_bipush hR dNF_opposite_83 (v := 49) (n := 85) rfl rfl ?_
    refine z_zret hR dNF_opposite_85 rfl rfl (Nat.zero_le _) ?_
    exact ⟨rfl, rfl⟩
  refine ⟨fun (h1_49 : _ = (49 : Int32)) => ⟨80, rfl, ?_⟩, fun (h1_49 : _ ≠ (49 : Int32)) => ?_⟩
  · subst h1_49
    refine z_bipush hR dNF_opposite_80 (v := 48) (n := 82) rfl rfl ?_
    refine z_zret hR dNF_opposite_82 rfl rfl (Nat.zero_le _) ?_
    exact ⟨rfl, rfl⟩
  refine ⟨fun (h1_82 : _ = (82 : Int32)) => ⟨77, rfl, ?_⟩, fun (h1_82 : _ ≠ (82 : Int32)) => ?_⟩
  · subst h1_82
    refine z_bipush hR dNF_opposite_77 (v := 85) (n := 79) rfl rfl ?_
    refine z_zret hR dNF_opposite_79 rfl rfl (Nat.zero_le _) ?_
    exact ⟨rfl, rfl⟩
  refine ⟨fun (h1_85 : _ = (85 : Int32)) => ⟨74, rfl, ?_⟩, fun (h1_85 : _ ≠ (85 : Int32)) => ?_⟩
  · subst h1_85
    refine z_bipush hR dNF_opposite_74 (v := 82) (n := 76) rfl rfl ?_
    refine z_zret hR dNF_opposite_76 rfl rfl (Nat.zero_le _) ?_
    exact ⟨rfl, rfl⟩
  refine ⟨fun (h1_88 : _ = (88 : Int32)) => ⟨86, rfl, ?_⟩, fun (h1_88 : _ ≠ (88 : Int32)) => ?_⟩
  · subst h1_88
    refine z_bipush hR dNF_opposite_86 (v := 88) (n := 88) rfl rfl ?_
    refine z_zret hR dNF_opposite_88 rfl rfl (Nat.zero_le _) ?_
    exact ⟨rfl, rfl⟩
  refine ⟨fun (h1_124 : _ = (124 : Int32)) => ⟨71, rfl, ?_⟩, fun (h1_124 : _ ≠ (124 : Int32)) => ?_⟩
  · subst h1_124
    refine z_bipush hR dNF_opposite_71 (v := 38) (n := 73) rfl rfl ?_
    refine z_zret hR dNF_opposite_73 rfl rfl (Nat.zero_le _) ?_
    exact ⟨rfl, rfl⟩
  refine ⟨89, rfl, ?_⟩
  refine z_bipush hR dNF_opposite_89 (v := 65) (n := 91) rfl rfl ?_
  refine z_iload_n hR dNF_opposite_91 (n := 92) rfl rfl ?_
  refine z_bipush hR dNF_opposite_92 (v := 112) (n := 94) rfl rfl ?_
  refine z_isub hR dNF_opposite_94 (n := 95) rfl ?_
  refine z_iadd hR dNF_opposite_95 (n := 96) rfl ?_
  refine z_i2c hR dNF_opposite_96 (n := 97) rfl ?_
  refine z_zret hR dNF_opposite_97 rfl (pk_nc _) (Nat.zero_le _) ?_
  refine ⟨congrArg (fun q => some (Value.int q)) ?_, rfl⟩
  rw [opp, if_neg h1_38, if_neg h1_48, if_neg h1_49, if_neg h1_82, if_neg h1_85, if_neg h1_88, if_neg h1_124]
/-- the normal form so far -/
def nO (σ : zS) (out : List Int32) : Prop := σ.1 34 1 = nI out.length ∧ lst (σ.1 35) out
theorem m_NF_add {s : Int32} (hs : vp_nar .char s = s) {out : List Int32} (σ : zS) (h : nO σ out) (hl : out.length < 37) : zM yNF_add cNF_add 2 none 0 0 0 [.ref 34, .int s] σ (fun r σ2 => r = none ∧ zfr [34, 35] σ σ2 ∧ (∀ j, j ≠ 1 → σ2.1 34 j = σ.1 34 j) ∧ nO σ2 (out ++ [s])) (fun _ _ => False) := by
  refine zM.of [some (.ref 34), some (.int s)] (by decide) 0 rfl (fun _ => Nat.le_of_ble_eq_true rfl) (fun Z hR => ?_)
  refine z_aload_n hR dNF_add_0 (n := 1) rfl rfl ?_
  refine z_getI hR dNF_add_1 (n := 4) rfl zgNF_35 (by decide) rfl rfl ?_
  rw [h.1]
  refine z_bipush hR dNF_add_4 (v := nI 37) (n := 6) rfl rfl ?_
  refine z_icmp_geN hR dNF_add_6 (t := 29) (n := 9) rfl rfl (by omega) (by omega) (fun h6 => absurd h6 (by omega)) (fun h6 => ?_)
  refine z_aload_n hR dNF_add_9 (n := 10) rfl rfl ?_
  refine z_getR hR dNF_add_10 (n := 13) rfl zgNF_9 (by decide) rfl rfl ?_
  refine z_aload_n hR dNF_add_13 (n := 14) rfl rfl ?_
  refine z_getI hR dNF_add_14 (n := 17) rfl zgNF_35 (by decide) rfl rfl ?_
  rw [h.1]
  refine z_iload_n hR dNF_add_17 (n := 18) rfl rfl ?_
  refine z_cast hR (_) dNF_add_18 (n := 19) rfl (by decide) rfl (by decide) rfl (by omega) ?_
  rw [hs]
  refine z_aload_n hR dNF_add_19 (n := 20) rfl rfl ?_
  refine z_dup hR dNF_add_20 (n := 21) rfl rfl ?_
  refine z_getI hR dNF_add_21 (n := 24) rfl zgNF_35 (by decide) rfl rfl ?_
  rw [zwA_n _ _ _ _ (by decide), h.1]
  refine z_iconst hR dNF_add_24 (v := nI 1) (n := 25) rfl rfl ?_
  refine z_iaddN hR dNF_add_25 (n := 26) rfl ?_
  refine z_putI hR dNF_add_26 (n := 29) rfl zpNF_35 (by decide) rfl rfl ?_
  refine z_vret hR dNF_add_29 rfl (Nat.zero_le _) ?_
  refine ⟨rfl, (zfr.rf.wA _ (by decide)).wA _ (by decide), fun j hj => ?_, ?_, ?_⟩
  · rw [zwA_sn _ _ _ _ hj, zwA_n _ _ _ _ (by decide)]
  · rw [zwA_ss]
    simp
  · refine lst_push h.2 (fun i hi => ?_) ?_
    · rw [zwA_n _ _ _ _ (by decide), zwA_sn _ _ _ _ (by omega)]
    · rw [zwA_n _ _ _ _ (by decide), zwA_ss]
theorem m_NF_writeSigns {c : Int32} (hc : c ∈ ndc) (neg : Bool) {out : List Int32} (σ : zS) (h : nO σ out) (hl : (out ++ hs c neg).length ≤ 37) : zM yNF_writeSigns cNF_writeSigns 3 none 1 40 0 [.ref 34, .int c, .int (zb neg)] σ (fun r σ2 => r = none ∧ zfr [34, 35] σ σ2 ∧ (∀ j, j ≠ 1 → σ2.1 34 j = σ.1 34 j) ∧ nO σ2 (out ++ hs c neg)) (fun _ _ => False) := by
  refine zM.of [some (.ref 34), some (.int c), some (.int (zb neg))] (by decide) 0 rfl (fun _ => Nat.le_of_ble_eq_true rfl) (fun Z hR => ?_)
  have hn := hs_nar hc neg
  have one : ∀ s : Int32, hs c neg = [s] → Z 0 144 [some (.ref 34), some (.int c), some (.int (zb neg))] [.int s, .ref 34] σ := by
    intro s e
    rw [e] at hn hl hR
    refine z_callV1 hR dNF_writeSigns_144 (n := 147) rfl zcNF_67 zkNF_add (by decide) (Nat.le_of_ble_eq_true rfl) (by decide) rfl rfl (Nat.zero_le _) (m_NF_add (hn s (by simp)) σ h (by simp at hl; omega)) (fun r144 s144 h144 => ?_)
    obtain ⟨rfl, hf, hk, hO⟩ := h144
    refine z_vret hR dNF_writeSigns_147 rfl (Nat.zero_le _) ?_
    exact ⟨rfl, hf, hk, hO⟩
  by_cases h33 : c = 33
  ·
    subst h33
    refine z_iload_n hR dNF_writeSigns_0 (n := 1) rfl rfl ?_
    refine z_look hR dNF_writeSigns_1 rfl rfl ?_
    refine ⟨fun (h1_33 : _ = (33 : Int32)) => ⟨44, rfl, ?_⟩, fun (h1_33 : _ ≠ (33 : Int32)) => ?_⟩
    · refine z_goto hR dNF_writeSigns_44 (t := 147) rfl ?_
      refine z_vret hR dNF_writeSigns_147 rfl (Nat.zero_le _) ?_
      exact ⟨rfl, zfr.rf, fun _ _ => rfl, by rw [show hs 33 neg = [] from rfl, List.append_nil]; exact h⟩
    refine ⟨fun (h1_62 : _ = (62 : Int32)) => ⟨47, rfl, ?_⟩, fun (h1_62 : _ ≠ (62 : Int32)) => ?_⟩
    · exact absurd h1_62 (by decide)
    refine ⟨fun (h1_70 : _ = (70 : Int32)) => ⟨65, rfl, ?_⟩, fun (h1_70 : _ ≠ (70 : Int32)) => ?_⟩
    · exact absurd h1_70 (by decide)
    refine ⟨fun (h1_71 : _ = (71 : Int32)) => ⟨98, rfl, ?_⟩, fun (h1_71 : _ ≠ (71 : Int32)) => ?_⟩
    · exact absurd h1_71 (by decide)
    refine ⟨131, rfl, ?_⟩
    exact absurd rfl h1_33
  by_cases h62' : c = 62
  ·
    subst h62'
    cases neg with
    | false =>
      refine z_iload_n hR dNF_writeSigns_0 (n := 1) rfl rfl ?_
      refine z_look hR dNF_writeSigns_1 rfl rfl ?_
      refine ⟨fun (h1_33 : _ = (33 : Int32)) => ⟨44, rfl, ?_⟩, fun (h1_33 : _ ≠ (33 : Int32)) => ?_⟩
      · exact absurd h1_33 (by decide)
      refine ⟨fun (h1_62 : _ = (62 : Int32)) => ⟨47, rfl, ?_⟩, fun (h1_62 : _ ≠ (62 : Int32)) => ?_⟩
      · refine z_aload_n hR dNF_writeSigns_47 (n := 48) rfl rfl ?_
        refine z_iload_n hR dNF_writeSigns_48 (n := 49) rfl rfl ?_
        refine z_if_eqB hR dNF_writeSigns_49 (t := 57) (n := 52) rfl rfl (fun h49 => ?_) (fun h49 => absurd h49 (by decide))
        refine z_bipush hR dNF_writeSigns_57 (v := 124) (n := 59) rfl rfl ?_
        refine z_callV1 hR dNF_writeSigns_59 (n := 62) rfl zcNF_67 zkNF_add (by decide) (Nat.le_of_ble_eq_true rfl) (by decide) rfl rfl (Nat.zero_le _) (m_NF_add (hn _ (by decide)) _ h (by simp [hs] at hl ⊢; omega)) (fun r59 s59 h59 => ?_)
        obtain ⟨rfl, hf0, hk0, hO0⟩ := h59
        refine z_goto hR dNF_writeSigns_62 (t := 147) rfl ?_
        refine z_vret hR dNF_writeSigns_147 rfl (Nat.zero_le _) ?_
        exact ⟨rfl, hf0, hk0, hO0⟩
      refine ⟨fun (h1_70 : _ = (70 : Int32)) => ⟨65, rfl, ?_⟩, fun (h1_70 : _ ≠ (70 : Int32)) => ?_⟩
      · exact absurd h1_70 (by decide)
      refine ⟨fun (h1_71 : _ = (71 : Int32)) => ⟨98, rfl, ?_⟩, fun (h1_71 : _ ≠ (71 : Int32)) => ?_⟩
      · exact absurd h1_71 (by decide)
      refine ⟨131, rfl, ?_⟩
      exact absurd rfl h1_62
    | true =>
      refine z_iload_n hR dNF_writeSigns_0 (n := 1) rfl rfl ?_
      refine z_look hR dNF_writeSigns_1 rfl rfl ?_
      refine ⟨fun (h1_33 : _ = (33 : Int32)) => ⟨44, rfl, ?_⟩, fun (h1_33 : _ ≠ (33 : Int32)) => ?_⟩
      · exact absurd h1_33 (by decide)
      refine ⟨fun (h1_62 : _ = (62 : Int32)) => ⟨47, rfl, ?_⟩, fun (h1_62 : _ ≠ (62 : Int32)) => ?_⟩
      · refine z_aload_n hR dNF_writeSigns_47 (n := 48) rfl rfl ?_
        refine z_iload_n hR dNF_writeSigns_48 (n := 49) rfl rfl ?_
        refine z_if_eqB hR dNF_writeSigns_49 (t := 57) (n := 52) rfl rfl (fun h49 => absurd h49 (by decide)) (fun h49 => ?_)
        refine z_bipush hR dNF_writeSigns_52 (v := 38) (n := 54) rfl rfl ?_
        refine z_goto hR dNF_writeSigns_54 (t := 59) rfl ?_
        refine z_callV1 hR dNF_writeSigns_59 (n := 62) rfl zcNF_67 zkNF_add (by decide) (Nat.le_of_ble_eq_true rfl) (by decide) rfl rfl (Nat.zero_le _) (m_NF_add (hn _ (by decide)) _ h (by simp [hs] at hl ⊢; omega)) (fun r59 s59 h59 => ?_)
        obtain ⟨rfl, hf0, hk0, hO0⟩ := h59
        refine z_goto hR dNF_writeSigns_62 (t := 147) rfl ?_
        refine z_vret hR dNF_writeSigns_147 rfl (Nat.zero_le _) ?_
        exact ⟨rfl, hf0, hk0, hO0⟩
      refine ⟨fun (h1_70 : _ = (70 : Int32)) => ⟨65, rfl, ?_⟩, fun (h1_70 : _ ≠ (70 : Int32)) => ?_⟩
      · exact absurd h1_70 (by decide)
      refine ⟨fun (h1_71 : _ = (71 : Int32)) => ⟨98, rfl, ?_⟩, fun (h1_71 : _ ≠ (71 : Int32)) => ?_⟩
      · exact absurd h1_71 (by decide)
      refine ⟨131, rfl, ?_⟩
      exact absurd rfl h1_62
  by_cases h70' : c = 70
  ·
    subst h70'
    cases neg with
    | false =>
      refine z_iload_n hR dNF_writeSigns_0 (n := 1) rfl rfl ?_
      refine z_look hR dNF_writeSigns_1 rfl rfl ?_
      refine ⟨fun (h1_33 : _ = (33 : Int32)) => ⟨44, rfl, ?_⟩, fun (h1_33 : _ ≠ (33 : Int32)) => ?_⟩
      · exact absurd h1_33 (by decide)
      refine ⟨fun (h1_62 : _ = (62 : Int32)) => ⟨47, rfl, ?_⟩, fun (h1_62 : _ ≠ (62 : Int32)) => ?_⟩
      · exact absurd h1_62 (by decide)
      refine ⟨fun (h1_70 : _ = (70 : Int32)) => ⟨65, rfl, ?_⟩, fun (h1_70 : _ ≠ (70 : Int32)) => ?_⟩
      · refine z_aload_n hR dNF_writeSigns_65 (n := 66) rfl rfl ?_
        refine z_iload_n hR dNF_writeSigns_66 (n := 67) rfl rfl ?_
        refine z_if_eqB hR dNF_writeSigns_67 (t := 75) (n := 70) rfl rfl (fun h67 => ?_) (fun h67 => absurd h67 (by decide))
        refine z_bipush hR dNF_writeSigns_75 (v := 85) (n := 77) rfl rfl ?_
        refine z_callV1 hR dNF_writeSigns_77 (n := 80) rfl zcNF_67 zkNF_add (by decide) (Nat.le_of_ble_eq_true rfl) (by decide) rfl rfl (Nat.zero_le _) (m_NF_add (hn _ (by decide)) _ h (by simp [hs] at hl ⊢; omega)) (fun r77 s77 h77 => ?_)
        obtain ⟨rfl, hf0, hk0, hO0⟩ := h77
        refine z_aload_n hR dNF_writeSigns_80 (n := 81) rfl rfl ?_
        refine z_iload_n hR dNF_writeSigns_81 (n := 82) rfl rfl ?_
        refine z_if_eqB hR dNF_writeSigns_82 (t := 90) (n := 85) rfl rfl (fun h82 => ?_) (fun h82 => absurd h82 (by decide))
        refine z_bipush hR dNF_writeSigns_90 (v := 49) (n := 92) rfl rfl ?_
        refine z_callV1 hR dNF_writeSigns_92 (n := 95) rfl zcNF_67 zkNF_add (by decide) (Nat.le_of_ble_eq_true rfl) (by decide) rfl rfl (Nat.zero_le _) (m_NF_add (hn _ (by decide)) _ hO0 (by simp [hs] at hl ⊢; omega)) (fun r92 s92 h92 => ?_)
        obtain ⟨rfl, hf1, hk1, hO1⟩ := h92
        refine z_goto hR dNF_writeSigns_95 (t := 147) rfl ?_
        refine z_vret hR dNF_writeSigns_147 rfl (Nat.zero_le _) ?_
        refine ⟨rfl, hf0.tr hf1, fun j hj => (hk1 j hj).trans (hk0 j hj), ?_⟩
        rw [List.append_assoc] at hO1
        exact hO1
      refine ⟨fun (h1_71 : _ = (71 : Int32)) => ⟨98, rfl, ?_⟩, fun (h1_71 : _ ≠ (71 : Int32)) => ?_⟩
      · exact absurd h1_71 (by decide)
      refine ⟨131, rfl, ?_⟩
      exact absurd rfl h1_70
    | true =>
      refine z_iload_n hR dNF_writeSigns_0 (n := 1) rfl rfl ?_
      refine z_look hR dNF_writeSigns_1 rfl rfl ?_
      refine ⟨fun (h1_33 : _ = (33 : Int32)) => ⟨44, rfl, ?_⟩, fun (h1_33 : _ ≠ (33 : Int32)) => ?_⟩
      · exact absurd h1_33 (by decide)
      refine ⟨fun (h1_62 : _ = (62 : Int32)) => ⟨47, rfl, ?_⟩, fun (h1_62 : _ ≠ (62 : Int32)) => ?_⟩
      · exact absurd h1_62 (by decide)
      refine ⟨fun (h1_70 : _ = (70 : Int32)) => ⟨65, rfl, ?_⟩, fun (h1_70 : _ ≠ (70 : Int32)) => ?_⟩
      · refine z_aload_n hR dNF_writeSigns_65 (n := 66) rfl rfl ?_
        refine z_iload_n hR dNF_writeSigns_66 (n := 67) rfl rfl ?_
        refine z_if_eqB hR dNF_writeSigns_67 (t := 75) (n := 70) rfl rfl (fun h67 => absurd h67 (by decide)) (fun h67 => ?_)
        refine z_bipush hR dNF_writeSigns_70 (v := 82) (n := 72) rfl rfl ?_
        refine z_goto hR dNF_writeSigns_72 (t := 77) rfl ?_
        refine z_callV1 hR dNF_writeSigns_77 (n := 80) rfl zcNF_67 zkNF_add (by decide) (Nat.le_of_ble_eq_true rfl) (by decide) rfl rfl (Nat.zero_le _) (m_NF_add (hn _ (by decide)) _ h (by simp [hs] at hl ⊢; omega)) (fun r77 s77 h77 => ?_)
        obtain ⟨rfl, hf0, hk0, hO0⟩ := h77
        refine z_aload_n hR dNF_writeSigns_80 (n := 81) rfl rfl ?_
        refine z_iload_n hR dNF_writeSigns_81 (n := 82) rfl rfl ?_
        refine z_if_eqB hR dNF_writeSigns_82 (t := 90) (n := 85) rfl rfl (fun h82 => absurd h82 (by decide)) (fun h82 => ?_)
        refine z_bipush hR dNF_writeSigns_85 (v := 48) (n := 87) rfl rfl ?_
        refine z_goto hR dNF_writeSigns_87 (t := 92) rfl ?_
        refine z_callV1 hR dNF_writeSigns_92 (n := 95) rfl zcNF_67 zkNF_add (by decide) (Nat.le_of_ble_eq_true rfl) (by decide) rfl rfl (Nat.zero_le _) (m_NF_add (hn _ (by decide)) _ hO0 (by simp [hs] at hl ⊢; omega)) (fun r92 s92 h92 => ?_)
        obtain ⟨rfl, hf1, hk1, hO1⟩ := h92
        refine z_goto hR dNF_writeSigns_95 (t := 147) rfl ?_
        refine z_vret hR dNF_writeSigns_147 rfl (Nat.zero_le _) ?_
        refine ⟨rfl, hf0.tr hf1, fun j hj => (hk1 j hj).trans (hk0 j hj), ?_⟩
        rw [List.append_assoc] at hO1
        exact hO1
      refine ⟨fun (h1_71 : _ = (71 : Int32)) => ⟨98, rfl, ?_⟩, fun (h1_71 : _ ≠ (71 : Int32)) => ?_⟩
      · exact absurd h1_71 (by decide)
      refine ⟨131, rfl, ?_⟩
      exact absurd rfl h1_70
  by_cases h71' : c = 71
  ·
    subst h71'
    cases neg with
    | false =>
      refine z_iload_n hR dNF_writeSigns_0 (n := 1) rfl rfl ?_
      refine z_look hR dNF_writeSigns_1 rfl rfl ?_
      refine ⟨fun (h1_33 : _ = (33 : Int32)) => ⟨44, rfl, ?_⟩, fun (h1_33 : _ ≠ (33 : Int32)) => ?_⟩
      · exact absurd h1_33 (by decide)
      refine ⟨fun (h1_62 : _ = (62 : Int32)) => ⟨47, rfl, ?_⟩, fun (h1_62 : _ ≠ (62 : Int32)) => ?_⟩
      · exact absurd h1_62 (by decide)
      refine ⟨fun (h1_70 : _ = (70 : Int32)) => ⟨65, rfl, ?_⟩, fun (h1_70 : _ ≠ (70 : Int32)) => ?_⟩
      · exact absurd h1_70 (by decide)
      refine ⟨fun (h1_71 : _ = (71 : Int32)) => ⟨98, rfl, ?_⟩, fun (h1_71 : _ ≠ (71 : Int32)) => ?_⟩
      · refine z_aload_n hR dNF_writeSigns_98 (n := 99) rfl rfl ?_
        refine z_iload_n hR dNF_writeSigns_99 (n := 100) rfl rfl ?_
        refine z_if_eqB hR dNF_writeSigns_100 (t := 108) (n := 103) rfl rfl (fun h100 => ?_) (fun h100 => absurd h100 (by decide))
        refine z_bipush hR dNF_writeSigns_108 (v := 82) (n := 110) rfl rfl ?_
        refine z_callV1 hR dNF_writeSigns_110 (n := 113) rfl zcNF_67 zkNF_add (by decide) (Nat.le_of_ble_eq_true rfl) (by decide) rfl rfl (Nat.zero_le _) (m_NF_add (hn _ (by decide)) _ h (by simp [hs] at hl ⊢; omega)) (fun r110 s110 h110 => ?_)
        obtain ⟨rfl, hf0, hk0, hO0⟩ := h110
        refine z_aload_n hR dNF_writeSigns_113 (n := 114) rfl rfl ?_
        refine z_iload_n hR dNF_writeSigns_114 (n := 115) rfl rfl ?_
        refine z_if_eqB hR dNF_writeSigns_115 (t := 123) (n := 118) rfl rfl (fun h115 => ?_) (fun h115 => absurd h115 (by decide))
        refine z_bipush hR dNF_writeSigns_123 (v := 48) (n := 125) rfl rfl ?_
        refine z_callV1 hR dNF_writeSigns_125 (n := 128) rfl zcNF_67 zkNF_add (by decide) (Nat.le_of_ble_eq_true rfl) (by decide) rfl rfl (Nat.zero_le _) (m_NF_add (hn _ (by decide)) _ hO0 (by simp [hs] at hl ⊢; omega)) (fun r125 s125 h125 => ?_)
        obtain ⟨rfl, hf1, hk1, hO1⟩ := h125
        refine z_goto hR dNF_writeSigns_128 (t := 147) rfl ?_
        refine z_vret hR dNF_writeSigns_147 rfl (Nat.zero_le _) ?_
        refine ⟨rfl, hf0.tr hf1, fun j hj => (hk1 j hj).trans (hk0 j hj), ?_⟩
        rw [List.append_assoc] at hO1
        exact hO1
      refine ⟨131, rfl, ?_⟩
      exact absurd rfl h1_71
    | true =>
      refine z_iload_n hR dNF_writeSigns_0 (n := 1) rfl rfl ?_
      refine z_look hR dNF_writeSigns_1 rfl rfl ?_
      refine ⟨fun (h1_33 : _ = (33 : Int32)) => ⟨44, rfl, ?_⟩, fun (h1_33 : _ ≠ (33 : Int32)) => ?_⟩
      · exact absurd h1_33 (by decide)
      refine ⟨fun (h1_62 : _ = (62 : Int32)) => ⟨47, rfl, ?_⟩, fun (h1_62 : _ ≠ (62 : Int32)) => ?_⟩
      · exact absurd h1_62 (by decide)
      refine ⟨fun (h1_70 : _ = (70 : Int32)) => ⟨65, rfl, ?_⟩, fun (h1_70 : _ ≠ (70 : Int32)) => ?_⟩
      · exact absurd h1_70 (by decide)
      refine ⟨fun (h1_71 : _ = (71 : Int32)) => ⟨98, rfl, ?_⟩, fun (h1_71 : _ ≠ (71 : Int32)) => ?_⟩
      · refine z_aload_n hR dNF_writeSigns_98 (n := 99) rfl rfl ?_
        refine z_iload_n hR dNF_writeSigns_99 (n := 100) rfl rfl ?_
        refine z_if_eqB hR dNF_writeSigns_100 (t := 108) (n := 103) rfl rfl (fun h100 => absurd h100 (by decide)) (fun h100 => ?_)
        refine z_bipush hR dNF_writeSigns_103 (v := 85) (n := 105) rfl rfl ?_
        refine z_goto hR dNF_writeSigns_105 (t := 110) rfl ?_
        refine z_callV1 hR dNF_writeSigns_110 (n := 113) rfl zcNF_67 zkNF_add (by decide) (Nat.le_of_ble_eq_true rfl) (by decide) rfl rfl (Nat.zero_le _) (m_NF_add (hn _ (by decide)) _ h (by simp [hs] at hl ⊢; omega)) (fun r110 s110 h110 => ?_)
        obtain ⟨rfl, hf0, hk0, hO0⟩ := h110
        refine z_aload_n hR dNF_writeSigns_113 (n := 114) rfl rfl ?_
        refine z_iload_n hR dNF_writeSigns_114 (n := 115) rfl rfl ?_
        refine z_if_eqB hR dNF_writeSigns_115 (t := 123) (n := 118) rfl rfl (fun h115 => absurd h115 (by decide)) (fun h115 => ?_)
        refine z_bipush hR dNF_writeSigns_118 (v := 49) (n := 120) rfl rfl ?_
        refine z_goto hR dNF_writeSigns_120 (t := 125) rfl ?_
        refine z_callV1 hR dNF_writeSigns_125 (n := 128) rfl zcNF_67 zkNF_add (by decide) (Nat.le_of_ble_eq_true rfl) (by decide) rfl rfl (Nat.zero_le _) (m_NF_add (hn _ (by decide)) _ hO0 (by simp [hs] at hl ⊢; omega)) (fun r125 s125 h125 => ?_)
        obtain ⟨rfl, hf1, hk1, hO1⟩ := h125
        refine z_goto hR dNF_writeSigns_128 (t := 147) rfl ?_
        refine z_vret hR dNF_writeSigns_147 rfl (Nat.zero_le _) ?_
        refine ⟨rfl, hf0.tr hf1, fun j hj => (hk1 j hj).trans (hk0 j hj), ?_⟩
        rw [List.append_assoc] at hO1
        exact hO1
      refine ⟨131, rfl, ?_⟩
      exact absurd rfl h1_71
  have e : hs c neg = [if neg then opp c else c] := by rw [hs, if_neg h33, if_neg h62', if_neg h70', if_neg h71']
  refine z_iload_n hR dNF_writeSigns_0 (n := 1) rfl rfl ?_
  refine z_look hR dNF_writeSigns_1 rfl rfl ?_
  refine ⟨fun (h1_33 : _ = (33 : Int32)) => ⟨44, rfl, ?_⟩, fun (h1_33 : _ ≠ (33 : Int32)) => ?_⟩
  · exact absurd h1_33 h33
  refine ⟨fun (h1_62 : _ = (62 : Int32)) => ⟨47, rfl, ?_⟩, fun (h1_62 : _ ≠ (62 : Int32)) => ?_⟩
  · exact absurd h1_62 h62'
  refine ⟨fun (h1_70 : _ = (70 : Int32)) => ⟨65, rfl, ?_⟩, fun (h1_70 : _ ≠ (70 : Int32)) => ?_⟩
  · exact absurd h1_70 h70'
  refine ⟨fun (h1_71 : _ = (71 : Int32)) => ⟨98, rfl, ?_⟩, fun (h1_71 : _ ≠ (71 : Int32)) => ?_⟩
  · exact absurd h1_71 h71'
  refine ⟨131, rfl, ?_⟩
  refine z_aload_n hR dNF_writeSigns_131 (n := 132) rfl rfl ?_
  refine z_iload_n hR dNF_writeSigns_132 (n := 133) rfl rfl ?_
  refine z_if_eqB hR dNF_writeSigns_133 (t := 143) (n := 136) rfl rfl (fun h133 => ?_) (fun h133 => ?_)
  · refine z_iload_n hR dNF_writeSigns_143 (n := 144) rfl rfl ?_
    exact one _ (by rw [e, h133]; rfl)
  · refine z_iload_n hR dNF_writeSigns_136 (n := 137) rfl rfl ?_
    refine z_callS1 hR dNF_writeSigns_137 (n := 140) rfl zcNF_71 zkNF_opposite (by decide) (Nat.le_of_ble_eq_true rfl) (Nat.zero_le _) (m_NF_opposite hc ⟨h33, h62', h70', h71'⟩ σ) (fun r137 s137 h137 => ?_)
    obtain ⟨rfl, e137⟩ := h137
    subst s137
    refine z_goto hR dNF_writeSigns_140 (t := 144) rfl ?_
    exact one _ (by rw [e, h133]; rfl)
/-- the trees that wait, in the class -/
def stw (f h : Nat → Int32) : wS → Prop
  | [] => True
  | e :: t => f t.length = nI e.2.1 ∧ h t.length = zb e.2.2 ∧ stw f h t
theorem stw_same {f h f2 h2 : Nat → Int32} : ∀ {S : wS}, (∀ i, i < S.length → f2 i = f i ∧ h2 i = h i) → stw f h S → stw f2 h2 S
  | [], _, _ => trivial
  | e :: t, q, ⟨h1, h2, h3⟩ => by
    obtain ⟨a, b⟩ := q t.length (by simp)
    exact ⟨a.trans h1, b.trans h2, stw_same (fun i hi => q i (by simp; omega)) h3⟩
def nT (σ : zS) (S : wS) : Prop := σ.1 34 9 = nI S.length ∧ stw (σ.1 40) (σ.1 41) S
theorem m_NF_keep (a x : Nat) (neg : Bool) {S : wS} (σ : zS) (h : nT σ S) (hl : S.length < 32) : zM yNF_keepForLater cNF_keepForLater 3 none 0 0 0 [.ref 34, .int (nI x), .int (zb neg)] σ (fun r σ2 => r = none ∧ zfr [34, 40, 41] σ σ2 ∧ (∀ j, j ≠ 9 → σ2.1 34 j = σ.1 34 j) ∧ nT σ2 ((a, x, neg) :: S)) (fun _ _ => False) := by
  refine zM.of [some (.ref 34), some (.int (nI x)), some (.int (zb neg))] (by decide) 0 rfl (fun _ => Nat.le_of_ble_eq_true rfl) (fun Z hR => ?_)
  obtain ⟨h1, h2⟩ := h
  refine z_aload_n hR dNF_keepForLater_0 (n := 1) rfl rfl ?_
  refine z_getR hR dNF_keepForLater_1 (n := 4) rfl zgNF_28 (by decide) rfl rfl ?_
  refine z_aload_n hR dNF_keepForLater_4 (n := 5) rfl rfl ?_
  refine z_getI hR dNF_keepForLater_5 (n := 8) rfl zgNF_46 (by decide) rfl rfl ?_
  rw [h1]
  refine z_iload_n hR dNF_keepForLater_8 (n := 9) rfl rfl ?_
  refine z_iast hR (_) dNF_keepForLater_9 (n := 10) rfl (by decide) rfl (by decide) rfl (by omega) ?_
  refine z_aload_n hR dNF_keepForLater_10 (n := 11) rfl rfl ?_
  refine z_getR hR dNF_keepForLater_11 (n := 14) rfl zgNF_31 (by decide) rfl rfl ?_
  refine z_aload_n hR dNF_keepForLater_14 (n := 15) rfl rfl ?_
  refine z_getI hR dNF_keepForLater_15 (n := 18) rfl zgNF_46 (by decide) rfl rfl ?_
  rw [zwA_n _ _ _ _ (by decide), h1]
  refine z_iload_n hR dNF_keepForLater_18 (n := 19) rfl rfl ?_
  refine z_zast hR (_) dNF_keepForLater_19 (n := 20) rfl (by decide) rfl (by decide) rfl (by omega) ?_
  rw [zb_vn]
  refine z_aload_n hR dNF_keepForLater_20 (n := 21) rfl rfl ?_
  refine z_dup hR dNF_keepForLater_21 (n := 22) rfl rfl ?_
  refine z_getI hR dNF_keepForLater_22 (n := 25) rfl zgNF_46 (by decide) rfl rfl ?_
  rw [zwA_n _ _ _ _ (by decide), zwA_n _ _ _ _ (by decide), h1]
  refine z_iconst hR dNF_keepForLater_25 (v := nI 1) (n := 26) rfl rfl ?_
  refine z_iaddN hR dNF_keepForLater_26 (n := 27) rfl ?_
  refine z_putI hR dNF_keepForLater_27 (n := 30) rfl zpNF_46 (by decide) rfl rfl ?_
  refine z_vret hR dNF_keepForLater_30 rfl (Nat.zero_le _) ?_
  refine ⟨rfl, ((zfr.rf.wA _ (by decide)).wA _ (by decide)).wA _ (by decide), fun j hj => ?_, ?_, ?_, ?_, ?_⟩
  · rw [zwA_sn _ _ _ _ hj, zwA_n _ _ _ _ (by decide), zwA_n _ _ _ _ (by decide)]
  · rw [zwA_ss]
    rfl
  · simp [zwA_1]
  · simp [zwA_1]
  · refine stw_same (fun i hi => ⟨?_, ?_⟩) h2 <;> simp [zwA_1, show i ≠ S.length by omega]
theorem m_NF_write {g : Nat → Int32 × Int32 × Int32} {n : Nat} (hn : n ≤ 32) (hn0 : 0 < n) (hg : tTT g 0 (n - 1)) (ht : tcn g n ≤ 5) (σ : zS) (hp : σ.1 2 3 = nI n) (ha : ∀ i, i < n → σ.1 3 i = (g i).1 ∧ σ.1 4 i = (g i).2.1 ∧ σ.1 5 i = (g i).2.2) : zM yNF_write cNF_write 7 none 2 70 0 [.ref 34, .ref 2] σ (fun r σ2 => r = none ∧ zfr [34, 35, 40, 41] σ σ2 ∧ nO σ2 (nfx g (n - 1) false)) (fun _ _ => False) := by
  refine zM.of [some (.ref 34), some (.ref 2), none, none, none, none, none] (by decide) 5 rfl (fun _ => Nat.le_of_ble_eq_true rfl) (fun Z hR => ?_)
  have hlen : (nfx g (n - 1) false).length ≤ 37 := by
    have q := (nfx_len n (n - 1) 0 false (by omega) hg (by omega)).1
    rw [show n - 1 + 1 = n by omega] at q
    rw [tcn] at q
    omega
  have key : ∀ (m t : Nat) (S : wS) (out : List Int32) (τ : zS) (l3 l4 l5 l6 : Option Value), t + wW S = n → wW S = m → wOk g n S → nT τ S → nO τ out → out ++ wN g S = nfx g (n - 1) false → zfr [34, 35, 40, 41] σ τ → Z 0 23 [some (.ref 34), some (.ref 2), some (.int (nI t)), l3, l4, l5, l6] [] τ := by
    intro m
    induction m with
    | zero =>
      intro t S out τ l3 l4 l5 l6 htw hm hS hT hO he hf
      have hl := wS_len hS
      obtain rfl := List.eq_nil_of_length_eq_zero (by omega : S.length = 0)
      refine z_iload_n hR dNF_write_23 (n := 24) rfl rfl ?_
      refine z_bipush hR dNF_write_24 (v := nI 32) (n := 26) rfl rfl ?_
      refine z_icmp_geN hR dNF_write_26 (t := 164) (n := 29) rfl rfl (by omega) (by omega) (fun h26 => ?_) (fun h26 => ?_)
      · refine z_vret hR dNF_write_164 rfl (Nat.zero_le _) ?_
        refine ⟨rfl, hf, ?_⟩
        rw [← he, wN, List.append_nil]
        exact hO
      · refine z_aload_n hR dNF_write_29 (n := 30) rfl rfl ?_
        refine z_getI hR dNF_write_30 (n := 33) rfl zgNF_46 (by decide) rfl rfl ?_
        rw [hT.1]
        refine z_if_leN hR dNF_write_33 (t := 164) (n := 36) rfl rfl (by omega) (fun h33 => ?_) (fun h33 => absurd h33 (by simp))
        refine z_vret hR dNF_write_164 rfl (Nat.zero_le _) ?_
        refine ⟨rfl, hf, ?_⟩
        rw [← he, wN, List.append_nil]
        exact hO
    | succ m ih =>
      intro t S out τ l3 l4 l5 l6 htw hm hS hT hO he hf
      obtain ⟨⟨a, x, neg⟩, T, rfl⟩ : ∃ e T, S = e :: T := by
        cases S with
        | nil => simp [wW] at hm
        | cons e T => exact ⟨e, T, rfl⟩
      obtain ⟨s1, s2, s3, s4⟩ := hS
      simp only at s1 s2 s3
      have hTl := wS_len s4
      rw [wW] at htw hm
      simp only at htw hm
      obtain ⟨t1, t2, t3, t4⟩ := hT
      simp only [List.length_cons] at t1 t2 t3
      rw [wN] at he
      simp only at he
      have ha' : ∀ τ2 : zS, zfr [34, 35, 40, 41] σ τ2 → ∀ i, i < n → τ2.1 3 i = (g i).1 ∧ τ2.1 4 i = (g i).2.1 ∧ τ2.1 5 i = (g i).2.2 := fun τ2 hf2 i hi => by
        rw [hf2.1 3 (by decide), hf2.1 4 (by decide), hf2.1 5 (by decide)]
        exact ha i hi
      have hnd : (g x).1 ∈ ndc := by
        rcases nfx_tree s1 (by omega) neg with ⟨h1, _⟩ | ⟨h1, _⟩ | ⟨h1, _⟩
        · exact nd_in (Or.inl h1)
        · exact nd_in (Or.inr (by omega))
        · exact nd_in (Or.inr h1)
      have hpre : ∃ rest, nfx g x neg = hs (g x).1 neg ++ rest := by
        rcases nfx_tree s1 (by omega) neg with ⟨_, _, _, _, e⟩ | ⟨_, _, _, _, _, e⟩ | ⟨_, _, _, _, _, _, _, _, _, e⟩
        · exact ⟨[], by rw [e, List.append_nil]⟩
        · exact ⟨_, e⟩
        · exact ⟨_, e⟩
      have hl37 : (out ++ hs (g x).1 neg).length ≤ 37 := by
        obtain ⟨rest, e⟩ := hpre
        have := congrArg List.length he
        rw [e] at this
        simp only [List.length_append] at this ⊢
        omega
      have hT1 : nT (zwA τ 34 9 (nI T.length)) T := ⟨by rw [zwA_ss], stw_same (fun i hi => ⟨by rw [zwA_n _ _ _ _ (by decide)], by rw [zwA_n _ _ _ _ (by decide)]⟩) t4⟩
      have hO1 : nO (zwA τ 34 9 (nI T.length)) out := ⟨by rw [zwA_sn _ _ _ _ (by decide)]; exact hO.1, by rw [zwA_n _ _ _ _ (by decide)]; exact hO.2⟩
      have hf1 : zfr [34, 35, 40, 41] σ (zwA τ 34 9 (nI T.length)) := hf.wA _ (by decide)
      have firsts : ∀ (al l : Nat) (S3 : wS) (τ3 : zS) (l6 : Option Value), (g x).2.1 = nI l → l < n → tTT g al l → al ≤ l → wOk g n S3 → (l + 1 - al) + wW S3 = m → nT τ3 S3 → nO τ3 (out ++ hs (g x).1 neg) → (out ++ hs (g x).1 neg) ++ (nfx g l (neg ^^ tur (g x).1) ++ wN g S3) = nfx g (n - 1) false → zfr [34, 35, 40, 41] σ τ3 → Z 0 105 [some (.ref 34), some (.ref 2), some (.int (nI t)), some (.int (nI x)), some (.int (zb neg)), some (.int (g x).1), l6] [] τ3 := by
        intro al l S3 τ3 l6 e1 hl hta hal hS3 hw hT3 hO3 he3 hf3
        have hS3l := wS_len hS3
        have put : ∀ (v : Int32) (l6 : Option Value), v = zb (neg ^^ tur (g x).1) → Z 0 155 [some (.ref 34), some (.ref 2), some (.int (nI t)), some (.int (nI x)), some (.int (zb neg)), some (.int (g x).1), l6] [.int v, .int (nI l), .ref 34] τ3 := by
          intro v l6 hv
          subst hv
          refine z_callV2 hR dNF_write_155 (n := 158) rfl zcNF_54 zkNF_keepForLater (by decide) (Nat.le_of_ble_eq_true rfl) (by decide) rfl rfl (Nat.zero_le _) (m_NF_keep al l (neg ^^ tur (g x).1) τ3 hT3 (by omega)) (fun r155 s155 h155 => ?_)
          obtain ⟨rfl, hf4, hk4, hT4⟩ := h155
          refine z_iincN hR 1 dNF_write_158 (n := 161) rfl rfl (by decide) rfl rfl ?_
          refine z_goto hR dNF_write_161 (t := 23) rfl ?_
          exact ih (t + 1) ((al, l, neg ^^ tur (g x).1) :: S3) _ _ _ _ _ _ (by rw [wW]; simp only; omega) (by rw [wW]; exact hw) ⟨hta, hl, hal, hS3⟩ hT4 ⟨by rw [hk4 1 (by decide)]; exact hO3.1, by rw [hf4.1 35 (by decide)]; exact hO3.2⟩ (by rw [wN]; exact he3) (hf3.tr (hf4.mo (by decide)))
        refine z_aload_n hR dNF_write_105 (n := 106) rfl rfl ?_
        refine z_getR hR dNF_write_106 (n := 109) rfl zgNF_64 (by decide) rfl rfl ?_
        refine z_iload_n hR dNF_write_109 (n := 110) rfl rfl ?_
        refine z_iald hR (_) dNF_write_110 (n := 111) rfl (by decide) rfl (by decide) rfl (by omega) ?_
        rw [(ha' τ3 hf3 x s2).2.1, e1]
        refine z_iconst hR dNF_write_111 (v := (-1)) (n := 112) rfl rfl ?_
        refine z_icmp_eq hR dNF_write_112 (t := 158) (n := 115) rfl rfl (fun h112 => absurd h112 (nI_m1 (by omega))) (fun _ => ?_)
        refine z_iload hR dNF_write_115 (n := 117) rfl rfl ?_
        refine z_bipush hR dNF_write_117 (v := 33) (n := 119) rfl rfl ?_
        refine z_icmp_eq hR dNF_write_119 (t := 129) (n := 122) rfl rfl (fun h119 => ?_) (fun h119 => ?_)
        · refine z_iconst hR dNF_write_129 (v := 1) (n := 130) rfl rfl ?_
          refine z_goto hR dNF_write_130 (t := 134) rfl ?_
          refine z_istore hR dNF_write_134 (n := 136) rfl (by decide) rfl ?_
          refine z_aload_n hR dNF_write_136 (n := 137) rfl rfl ?_
          refine z_aload_n hR dNF_write_137 (n := 138) rfl rfl ?_
          refine z_getR hR dNF_write_138 (n := 141) rfl zgNF_64 (by decide) rfl rfl ?_
          refine z_iload_n hR dNF_write_141 (n := 142) rfl rfl ?_
          refine z_iald hR (_) dNF_write_142 (n := 143) rfl (by decide) rfl (by decide) rfl (by omega) ?_
          rw [(ha' τ3 hf3 x s2).2.1, e1]
          refine z_iload hR dNF_write_143 (n := 145) rfl rfl ?_
          refine z_iload hR dNF_write_145 (n := 147) rfl rfl ?_
          refine z_icmp_eq hR dNF_write_147 (t := 154) (n := 150) rfl rfl (fun h147 => ?_) (fun h147 => ?_)
          · refine z_iconst hR dNF_write_154 (v := 0) (n := 155) rfl rfl ?_
            refine put _ _ ?_
            have ht0 : tur (g x).1 = true ∨ tur (g x).1 = false := by cases tur (g x).1 <;> simp
            first
              | (have e5 : tur (g x).1 = true := by simp [tur, h119])
              | (have e5 : tur (g x).1 = true := by simp [tur, h126])
              | (have e5 : tur (g x).1 = false := by simp [tur, h119, h126])
            rw [e5]
            first
              | (cases neg <;> first | rfl | exact absurd rfl h147)
              | (cases neg <;> first | rfl | exact absurd h147 (by decide))
          · refine z_iconst hR dNF_write_150 (v := 1) (n := 151) rfl rfl ?_
            refine z_goto hR dNF_write_151 (t := 155) rfl ?_
            refine put _ _ ?_
            have ht0 : tur (g x).1 = true ∨ tur (g x).1 = false := by cases tur (g x).1 <;> simp
            first
              | (have e5 : tur (g x).1 = true := by simp [tur, h119])
              | (have e5 : tur (g x).1 = true := by simp [tur, h126])
              | (have e5 : tur (g x).1 = false := by simp [tur, h119, h126])
            rw [e5]
            first
              | (cases neg <;> first | rfl | exact absurd rfl h147)
              | (cases neg <;> first | rfl | exact absurd h147 (by decide))
        · refine z_iload hR dNF_write_122 (n := 124) rfl rfl ?_
          refine z_bipush hR dNF_write_124 (v := 62) (n := 126) rfl rfl ?_
          refine z_icmp_ne hR dNF_write_126 (t := 133) (n := 129) rfl rfl (fun h126 => ?_) (fun h126 => ?_)
          · refine z_iconst hR dNF_write_133 (v := 0) (n := 134) rfl rfl ?_
            refine z_istore hR dNF_write_134 (n := 136) rfl (by decide) rfl ?_
            refine z_aload_n hR dNF_write_136 (n := 137) rfl rfl ?_
            refine z_aload_n hR dNF_write_137 (n := 138) rfl rfl ?_
            refine z_getR hR dNF_write_138 (n := 141) rfl zgNF_64 (by decide) rfl rfl ?_
            refine z_iload_n hR dNF_write_141 (n := 142) rfl rfl ?_
            refine z_iald hR (_) dNF_write_142 (n := 143) rfl (by decide) rfl (by decide) rfl (by omega) ?_
            rw [(ha' τ3 hf3 x s2).2.1, e1]
            refine z_iload hR dNF_write_143 (n := 145) rfl rfl ?_
            refine z_iload hR dNF_write_145 (n := 147) rfl rfl ?_
            refine z_icmp_eq hR dNF_write_147 (t := 154) (n := 150) rfl rfl (fun h147 => ?_) (fun h147 => ?_)
            · refine z_iconst hR dNF_write_154 (v := 0) (n := 155) rfl rfl ?_
              refine put _ _ ?_
              have ht0 : tur (g x).1 = true ∨ tur (g x).1 = false := by cases tur (g x).1 <;> simp
              first
                | (have e5 : tur (g x).1 = true := by simp [tur, h119])
                | (have e5 : tur (g x).1 = true := by simp [tur, h126])
                | (have e5 : tur (g x).1 = false := by simp [tur, h119, h126])
              rw [e5]
              first
                | (cases neg <;> first | rfl | exact absurd rfl h147)
                | (cases neg <;> first | rfl | exact absurd h147 (by decide))
            · refine z_iconst hR dNF_write_150 (v := 1) (n := 151) rfl rfl ?_
              refine z_goto hR dNF_write_151 (t := 155) rfl ?_
              refine put _ _ ?_
              have ht0 : tur (g x).1 = true ∨ tur (g x).1 = false := by cases tur (g x).1 <;> simp
              first
                | (have e5 : tur (g x).1 = true := by simp [tur, h119])
                | (have e5 : tur (g x).1 = true := by simp [tur, h126])
                | (have e5 : tur (g x).1 = false := by simp [tur, h119, h126])
              rw [e5]
              first
                | (cases neg <;> first | rfl | exact absurd rfl h147)
                | (cases neg <;> first | rfl | exact absurd h147 (by decide))
          · refine z_iconst hR dNF_write_129 (v := 1) (n := 130) rfl rfl ?_
            refine z_goto hR dNF_write_130 (t := 134) rfl ?_
            refine z_istore hR dNF_write_134 (n := 136) rfl (by decide) rfl ?_
            refine z_aload_n hR dNF_write_136 (n := 137) rfl rfl ?_
            refine z_aload_n hR dNF_write_137 (n := 138) rfl rfl ?_
            refine z_getR hR dNF_write_138 (n := 141) rfl zgNF_64 (by decide) rfl rfl ?_
            refine z_iload_n hR dNF_write_141 (n := 142) rfl rfl ?_
            refine z_iald hR (_) dNF_write_142 (n := 143) rfl (by decide) rfl (by decide) rfl (by omega) ?_
            rw [(ha' τ3 hf3 x s2).2.1, e1]
            refine z_iload hR dNF_write_143 (n := 145) rfl rfl ?_
            refine z_iload hR dNF_write_145 (n := 147) rfl rfl ?_
            refine z_icmp_eq hR dNF_write_147 (t := 154) (n := 150) rfl rfl (fun h147 => ?_) (fun h147 => ?_)
            · refine z_iconst hR dNF_write_154 (v := 0) (n := 155) rfl rfl ?_
              refine put _ _ ?_
              have ht0 : tur (g x).1 = true ∨ tur (g x).1 = false := by cases tur (g x).1 <;> simp
              first
                | (have e5 : tur (g x).1 = true := by simp [tur, h119])
                | (have e5 : tur (g x).1 = true := by simp [tur, h126])
                | (have e5 : tur (g x).1 = false := by simp [tur, h119, h126])
              rw [e5]
              first
                | (cases neg <;> first | rfl | exact absurd rfl h147)
                | (cases neg <;> first | rfl | exact absurd h147 (by decide))
            · refine z_iconst hR dNF_write_150 (v := 1) (n := 151) rfl rfl ?_
              refine z_goto hR dNF_write_151 (t := 155) rfl ?_
              refine put _ _ ?_
              have ht0 : tur (g x).1 = true ∨ tur (g x).1 = false := by cases tur (g x).1 <;> simp
              first
                | (have e5 : tur (g x).1 = true := by simp [tur, h119])
                | (have e5 : tur (g x).1 = true := by simp [tur, h126])
                | (have e5 : tur (g x).1 = false := by simp [tur, h119, h126])
              rw [e5]
              first
                | (cases neg <;> first | rfl | exact absurd rfl h147)
                | (cases neg <;> first | rfl | exact absurd h147 (by decide))
      rcases nfx_tree s1 (by omega) neg with ⟨h1, h2, e1, e2, e3⟩ | ⟨h1, l, e1, e2, k1, e3⟩ | ⟨h1, h2, q, l1, l2, e1, e2, k1, k2, e3⟩
      ·
        refine z_iload_n hR dNF_write_23 (n := 24) rfl rfl ?_
        refine z_bipush hR dNF_write_24 (v := nI 32) (n := 26) rfl rfl ?_
        refine z_icmp_geN hR dNF_write_26 (t := 164) (n := 29) rfl rfl (by omega) (by omega) (fun h26 => absurd h26 (by omega)) (fun h26 => ?_)
        refine z_aload_n hR dNF_write_29 (n := 30) rfl rfl ?_
        refine z_getI hR dNF_write_30 (n := 33) rfl zgNF_46 (by decide) rfl rfl ?_
        rw [t1]
        refine z_if_leN hR dNF_write_33 (t := 164) (n := 36) rfl rfl (by omega) (fun h33 => absurd h33 (by omega)) (fun h33 => ?_)
        refine z_aload_n hR dNF_write_36 (n := 37) rfl rfl ?_
        refine z_dup hR dNF_write_37 (n := 38) rfl rfl ?_
        refine z_getI hR dNF_write_38 (n := 41) rfl zgNF_46 (by decide) rfl rfl ?_
        rw [t1]
        refine z_iconst hR dNF_write_41 (v := nI 1) (n := 42) rfl rfl ?_
        refine z_isubN hR dNF_write_42 (n := 43) rfl (by omega) ?_
        rw [Nat.add_sub_cancel]
        refine z_putI hR dNF_write_43 (n := 46) rfl zpNF_46 (by decide) rfl rfl ?_
        refine z_aload_n hR dNF_write_46 (n := 47) rfl rfl ?_
        refine z_getR hR dNF_write_47 (n := 50) rfl zgNF_28 (by decide) rfl rfl ?_
        refine z_aload_n hR dNF_write_50 (n := 51) rfl rfl ?_
        refine z_getI hR dNF_write_51 (n := 54) rfl zgNF_46 (by decide) rfl rfl ?_
        rw [zwA_ss]
        refine z_iald hR (_) dNF_write_54 (n := 55) rfl (by decide) rfl (by decide) rfl (by omega) ?_
        rw [zwA_n _ _ _ _ (by decide), t2]
        refine z_istore_n hR dNF_write_55 (n := 56) rfl (by decide) rfl ?_
        refine z_aload_n hR dNF_write_56 (n := 57) rfl rfl ?_
        refine z_getR hR dNF_write_57 (n := 60) rfl zgNF_31 (by decide) rfl rfl ?_
        refine z_aload_n hR dNF_write_60 (n := 61) rfl rfl ?_
        refine z_getI hR dNF_write_61 (n := 64) rfl zgNF_46 (by decide) rfl rfl ?_
        rw [zwA_ss]
        refine z_zald hR (_) dNF_write_64 (n := 65) rfl (by decide) rfl (by decide) rfl (by omega) ?_
        rw [zwA_n _ _ _ _ (by decide), t3]
        refine z_istore hR dNF_write_65 (n := 67) rfl (by decide) rfl ?_
        refine z_aload_n hR dNF_write_67 (n := 68) rfl rfl ?_
        refine z_getR hR dNF_write_68 (n := 71) rfl zgNF_58 (by decide) rfl rfl ?_
        refine z_iload_n hR dNF_write_71 (n := 72) rfl rfl ?_
        refine z_cald hR (_) dNF_write_72 (n := 73) rfl (by decide) rfl (by decide) rfl (by omega) ?_
        rw [(ha' _ hf1 x s2).1]
        refine z_istore hR dNF_write_73 (n := 75) rfl (by decide) rfl ?_
        refine z_aload_n hR dNF_write_75 (n := 76) rfl rfl ?_
        refine z_iload hR dNF_write_76 (n := 78) rfl rfl ?_
        refine z_iload hR dNF_write_78 (n := 80) rfl rfl ?_
        refine z_callV2 hR dNF_write_80 (n := 83) rfl zcNF_59 zkNF_writeSigns (by decide) (Nat.le_of_ble_eq_true rfl) (by decide) rfl rfl (Nat.zero_le _) (m_NF_writeSigns hnd neg _ hO1 hl37) (fun r80 s80 h80 => ?_)
        obtain ⟨rfl, hf2, hk2, hO2⟩ := h80
        have hf2' := hf1.tr (hf2.mo (by decide))
        refine z_aload_n hR dNF_write_83 (n := 84) rfl rfl ?_
        refine z_getR hR dNF_write_84 (n := 87) rfl zgNF_63 (by decide) rfl rfl ?_
        refine z_iload_n hR dNF_write_87 (n := 88) rfl rfl ?_
        refine z_iald hR (_) dNF_write_88 (n := 89) rfl (by decide) rfl (by decide) rfl (by omega) ?_
        rw [(ha' _ hf2' x s2).2.2, e2]
        refine z_iconst hR dNF_write_89 (v := (-1)) (n := 90) rfl rfl ?_
        refine z_icmp_eq hR dNF_write_90 (t := 105) (n := 93) rfl rfl (fun _ => ?_) (fun h90 => absurd rfl h90)
        refine z_aload_n hR dNF_write_105 (n := 106) rfl rfl ?_
        refine z_getR hR dNF_write_106 (n := 109) rfl zgNF_64 (by decide) rfl rfl ?_
        refine z_iload_n hR dNF_write_109 (n := 110) rfl rfl ?_
        refine z_iald hR (_) dNF_write_110 (n := 111) rfl (by decide) rfl (by decide) rfl (by omega) ?_
        rw [(ha' _ hf2' x s2).2.1, e1]
        refine z_iconst hR dNF_write_111 (v := (-1)) (n := 112) rfl rfl ?_
        refine z_icmp_eq hR dNF_write_112 (t := 158) (n := 115) rfl rfl (fun _ => ?_) (fun h112 => absurd rfl h112)
        refine z_iincN hR 1 dNF_write_158 (n := 161) rfl rfl (by decide) rfl rfl ?_
        refine z_goto hR dNF_write_161 (t := 23) rfl ?_
        exact ih (t + 1) T _ _ _ _ _ _ (by omega) (by omega) s4 ⟨by rw [hk2 9 (by decide)]; exact hT1.1, by rw [hf2.1 40 (by decide), hf2.1 41 (by decide)]; exact hT1.2⟩ hO2 (by rw [List.append_assoc, ← e3]; exact he) hf2'
      ·
        refine z_iload_n hR dNF_write_23 (n := 24) rfl rfl ?_
        refine z_bipush hR dNF_write_24 (v := nI 32) (n := 26) rfl rfl ?_
        refine z_icmp_geN hR dNF_write_26 (t := 164) (n := 29) rfl rfl (by omega) (by omega) (fun h26 => absurd h26 (by omega)) (fun h26 => ?_)
        refine z_aload_n hR dNF_write_29 (n := 30) rfl rfl ?_
        refine z_getI hR dNF_write_30 (n := 33) rfl zgNF_46 (by decide) rfl rfl ?_
        rw [t1]
        refine z_if_leN hR dNF_write_33 (t := 164) (n := 36) rfl rfl (by omega) (fun h33 => absurd h33 (by omega)) (fun h33 => ?_)
        refine z_aload_n hR dNF_write_36 (n := 37) rfl rfl ?_
        refine z_dup hR dNF_write_37 (n := 38) rfl rfl ?_
        refine z_getI hR dNF_write_38 (n := 41) rfl zgNF_46 (by decide) rfl rfl ?_
        rw [t1]
        refine z_iconst hR dNF_write_41 (v := nI 1) (n := 42) rfl rfl ?_
        refine z_isubN hR dNF_write_42 (n := 43) rfl (by omega) ?_
        rw [Nat.add_sub_cancel]
        refine z_putI hR dNF_write_43 (n := 46) rfl zpNF_46 (by decide) rfl rfl ?_
        refine z_aload_n hR dNF_write_46 (n := 47) rfl rfl ?_
        refine z_getR hR dNF_write_47 (n := 50) rfl zgNF_28 (by decide) rfl rfl ?_
        refine z_aload_n hR dNF_write_50 (n := 51) rfl rfl ?_
        refine z_getI hR dNF_write_51 (n := 54) rfl zgNF_46 (by decide) rfl rfl ?_
        rw [zwA_ss]
        refine z_iald hR (_) dNF_write_54 (n := 55) rfl (by decide) rfl (by decide) rfl (by omega) ?_
        rw [zwA_n _ _ _ _ (by decide), t2]
        refine z_istore_n hR dNF_write_55 (n := 56) rfl (by decide) rfl ?_
        refine z_aload_n hR dNF_write_56 (n := 57) rfl rfl ?_
        refine z_getR hR dNF_write_57 (n := 60) rfl zgNF_31 (by decide) rfl rfl ?_
        refine z_aload_n hR dNF_write_60 (n := 61) rfl rfl ?_
        refine z_getI hR dNF_write_61 (n := 64) rfl zgNF_46 (by decide) rfl rfl ?_
        rw [zwA_ss]
        refine z_zald hR (_) dNF_write_64 (n := 65) rfl (by decide) rfl (by decide) rfl (by omega) ?_
        rw [zwA_n _ _ _ _ (by decide), t3]
        refine z_istore hR dNF_write_65 (n := 67) rfl (by decide) rfl ?_
        refine z_aload_n hR dNF_write_67 (n := 68) rfl rfl ?_
        refine z_getR hR dNF_write_68 (n := 71) rfl zgNF_58 (by decide) rfl rfl ?_
        refine z_iload_n hR dNF_write_71 (n := 72) rfl rfl ?_
        refine z_cald hR (_) dNF_write_72 (n := 73) rfl (by decide) rfl (by decide) rfl (by omega) ?_
        rw [(ha' _ hf1 x s2).1]
        refine z_istore hR dNF_write_73 (n := 75) rfl (by decide) rfl ?_
        refine z_aload_n hR dNF_write_75 (n := 76) rfl rfl ?_
        refine z_iload hR dNF_write_76 (n := 78) rfl rfl ?_
        refine z_iload hR dNF_write_78 (n := 80) rfl rfl ?_
        refine z_callV2 hR dNF_write_80 (n := 83) rfl zcNF_59 zkNF_writeSigns (by decide) (Nat.le_of_ble_eq_true rfl) (by decide) rfl rfl (Nat.zero_le _) (m_NF_writeSigns hnd neg _ hO1 hl37) (fun r80 s80 h80 => ?_)
        obtain ⟨rfl, hf2, hk2, hO2⟩ := h80
        have hf2' := hf1.tr (hf2.mo (by decide))
        refine z_aload_n hR dNF_write_83 (n := 84) rfl rfl ?_
        refine z_getR hR dNF_write_84 (n := 87) rfl zgNF_63 (by decide) rfl rfl ?_
        refine z_iload_n hR dNF_write_87 (n := 88) rfl rfl ?_
        refine z_iald hR (_) dNF_write_88 (n := 89) rfl (by decide) rfl (by decide) rfl (by omega) ?_
        rw [(ha' _ hf2' x s2).2.2, e2]
        refine z_iconst hR dNF_write_89 (v := (-1)) (n := 90) rfl rfl ?_
        refine z_icmp_eq hR dNF_write_90 (t := 105) (n := 93) rfl rfl (fun _ => ?_) (fun h90 => absurd rfl h90)
        exact firsts a (x - 1) T _ _ e1 (by omega) k1 (by omega) s4 (by omega) ⟨by rw [hk2 9 (by decide)]; exact hT1.1, by rw [hf2.1 40 (by decide), hf2.1 41 (by decide)]; exact hT1.2⟩ hO2 (by rw [← he, e3]; simp only [List.append_assoc]) hf2'
      ·
        refine z_iload_n hR dNF_write_23 (n := 24) rfl rfl ?_
        refine z_bipush hR dNF_write_24 (v := nI 32) (n := 26) rfl rfl ?_
        refine z_icmp_geN hR dNF_write_26 (t := 164) (n := 29) rfl rfl (by omega) (by omega) (fun h26 => absurd h26 (by omega)) (fun h26 => ?_)
        refine z_aload_n hR dNF_write_29 (n := 30) rfl rfl ?_
        refine z_getI hR dNF_write_30 (n := 33) rfl zgNF_46 (by decide) rfl rfl ?_
        rw [t1]
        refine z_if_leN hR dNF_write_33 (t := 164) (n := 36) rfl rfl (by omega) (fun h33 => absurd h33 (by omega)) (fun h33 => ?_)
        refine z_aload_n hR dNF_write_36 (n := 37) rfl rfl ?_
        refine z_dup hR dNF_write_37 (n := 38) rfl rfl ?_
        refine z_getI hR dNF_write_38 (n := 41) rfl zgNF_46 (by decide) rfl rfl ?_
        rw [t1]
        refine z_iconst hR dNF_write_41 (v := nI 1) (n := 42) rfl rfl ?_
        refine z_isubN hR dNF_write_42 (n := 43) rfl (by omega) ?_
        rw [Nat.add_sub_cancel]
        refine z_putI hR dNF_write_43 (n := 46) rfl zpNF_46 (by decide) rfl rfl ?_
        refine z_aload_n hR dNF_write_46 (n := 47) rfl rfl ?_
        refine z_getR hR dNF_write_47 (n := 50) rfl zgNF_28 (by decide) rfl rfl ?_
        refine z_aload_n hR dNF_write_50 (n := 51) rfl rfl ?_
        refine z_getI hR dNF_write_51 (n := 54) rfl zgNF_46 (by decide) rfl rfl ?_
        rw [zwA_ss]
        refine z_iald hR (_) dNF_write_54 (n := 55) rfl (by decide) rfl (by decide) rfl (by omega) ?_
        rw [zwA_n _ _ _ _ (by decide), t2]
        refine z_istore_n hR dNF_write_55 (n := 56) rfl (by decide) rfl ?_
        refine z_aload_n hR dNF_write_56 (n := 57) rfl rfl ?_
        refine z_getR hR dNF_write_57 (n := 60) rfl zgNF_31 (by decide) rfl rfl ?_
        refine z_aload_n hR dNF_write_60 (n := 61) rfl rfl ?_
        refine z_getI hR dNF_write_61 (n := 64) rfl zgNF_46 (by decide) rfl rfl ?_
        rw [zwA_ss]
        refine z_zald hR (_) dNF_write_64 (n := 65) rfl (by decide) rfl (by decide) rfl (by omega) ?_
        rw [zwA_n _ _ _ _ (by decide), t3]
        refine z_istore hR dNF_write_65 (n := 67) rfl (by decide) rfl ?_
        refine z_aload_n hR dNF_write_67 (n := 68) rfl rfl ?_
        refine z_getR hR dNF_write_68 (n := 71) rfl zgNF_58 (by decide) rfl rfl ?_
        refine z_iload_n hR dNF_write_71 (n := 72) rfl rfl ?_
        refine z_cald hR (_) dNF_write_72 (n := 73) rfl (by decide) rfl (by decide) rfl (by omega) ?_
        rw [(ha' _ hf1 x s2).1]
        refine z_istore hR dNF_write_73 (n := 75) rfl (by decide) rfl ?_
        refine z_aload_n hR dNF_write_75 (n := 76) rfl rfl ?_
        refine z_iload hR dNF_write_76 (n := 78) rfl rfl ?_
        refine z_iload hR dNF_write_78 (n := 80) rfl rfl ?_
        refine z_callV2 hR dNF_write_80 (n := 83) rfl zcNF_59 zkNF_writeSigns (by decide) (Nat.le_of_ble_eq_true rfl) (by decide) rfl rfl (Nat.zero_le _) (m_NF_writeSigns hnd neg _ hO1 hl37) (fun r80 s80 h80 => ?_)
        obtain ⟨rfl, hf2, hk2, hO2⟩ := h80
        have hf2' := hf1.tr (hf2.mo (by decide))
        have hT2 : nT s80 T := ⟨by rw [hk2 9 (by decide)]; exact hT1.1, by rw [hf2.1 40 (by decide), hf2.1 41 (by decide)]; exact hT1.2⟩
        refine z_aload_n hR dNF_write_83 (n := 84) rfl rfl ?_
        refine z_getR hR dNF_write_84 (n := 87) rfl zgNF_63 (by decide) rfl rfl ?_
        refine z_iload_n hR dNF_write_87 (n := 88) rfl rfl ?_
        refine z_iald hR (_) dNF_write_88 (n := 89) rfl (by decide) rfl (by decide) rfl (by omega) ?_
        rw [(ha' _ hf2' x s2).2.2, e2]
        refine z_iconst hR dNF_write_89 (v := (-1)) (n := 90) rfl rfl ?_
        refine z_icmp_eq hR dNF_write_90 (t := 105) (n := 93) rfl rfl (fun h90 => absurd h90 (nI_m1 (by omega))) (fun _ => ?_)
        refine z_aload_n hR dNF_write_93 (n := 94) rfl rfl ?_
        refine z_aload_n hR dNF_write_94 (n := 95) rfl rfl ?_
        refine z_getR hR dNF_write_95 (n := 98) rfl zgNF_63 (by decide) rfl rfl ?_
        refine z_iload_n hR dNF_write_98 (n := 99) rfl rfl ?_
        refine z_iald hR (_) dNF_write_99 (n := 100) rfl (by decide) rfl (by decide) rfl (by omega) ?_
        rw [(ha' _ hf2' x s2).2.2, e2]
        refine z_iload hR dNF_write_100 (n := 102) rfl rfl ?_
        refine z_callV2 hR dNF_write_102 (n := 105) rfl zcNF_54 zkNF_keepForLater (by decide) (Nat.le_of_ble_eq_true rfl) (by decide) rfl rfl (Nat.zero_le _) (m_NF_keep (q + 1) (x - 1) neg _ hT2 (by omega)) (fun r102 s102 h102 => ?_)
        obtain ⟨rfl, hf4, hk4, hT4⟩ := h102
        exact firsts a q ((q + 1, x - 1, neg) :: T) _ _ e1 (by omega) k1 l1 ⟨k2, by simp only; omega, by simp only; omega, s4⟩ (by rw [wW]; simp only; omega) hT4 ⟨by rw [hk4 1 (by decide)]; exact hO2.1, by rw [hf4.1 35 (by decide)]; exact hO2.2⟩ (by rw [← he, e3, wN]; simp only [List.append_assoc]) (hf2'.tr (hf4.mo (by decide)))
  refine z_aload_n hR dNF_write_0 (n := 1) rfl rfl ?_
  refine z_iconst hR dNF_write_1 (v := 0) (n := 2) rfl rfl ?_
  refine z_putI hR dNF_write_2 (n := 5) rfl zpNF_35 (by decide) rfl rfl ?_
  refine z_aload_n hR dNF_write_5 (n := 6) rfl rfl ?_
  refine z_iconst hR dNF_write_6 (v := 0) (n := 7) rfl rfl ?_
  refine z_putI hR dNF_write_7 (n := 10) rfl zpNF_46 (by decide) rfl rfl ?_
  refine z_aload_n hR dNF_write_10 (n := 11) rfl rfl ?_
  refine z_aload_n hR dNF_write_11 (n := 12) rfl rfl ?_
  refine z_getI hR dNF_write_12 (n := 15) rfl zgNF_49 (by decide) rfl rfl ?_
  rw [zwA_n _ _ _ _ (by decide), zwA_n _ _ _ _ (by decide), hp]
  refine z_iconst hR dNF_write_15 (v := nI 1) (n := 16) rfl rfl ?_
  refine z_isubN hR dNF_write_16 (n := 17) rfl (by omega) ?_
  refine z_iconst hR dNF_write_17 (v := 0) (n := 18) rfl rfl ?_
  refine z_callV2 hR dNF_write_18 (n := 21) rfl zcNF_54 zkNF_keepForLater (by decide) (Nat.le_of_ble_eq_true rfl) (by decide) rfl rfl (Nat.zero_le _) (m_NF_keep 0 (n - 1) false (S := []) _ ⟨by rw [zwA_ss]; rfl, trivial⟩ (by simp)) (fun r18 s18 h18 => ?_)
  obtain ⟨rfl, hf, hk, hT⟩ := h18
  refine z_iconst hR dNF_write_21 (v := nI 0) (n := 22) rfl rfl ?_
  refine z_istore_n hR dNF_write_22 (n := 23) rfl (by decide) rfl ?_
  exact key n 0 [(0, n - 1, false)] [] _ _ _ _ _ (by simp [wW]; omega) (by simp [wW]; omega) ⟨hg, by simp only; omega, Nat.zero_le _, trivial⟩ hT ⟨by rw [hk 1 (by decide), zwA_sn _ _ _ _ (by decide), zwA_ss]; rfl, fun i hi => by simp at hi⟩ (by simp [wN]) (((zfr.rf.wA _ (by decide)).wA _ (by decide)).tr (hf.mo (by decide)))
