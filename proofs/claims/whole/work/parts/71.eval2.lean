/-! The reference's tables: a state under a guess -/
theorem uN_same {g : Nat → Int32 × Int32 × Int32} {mk : Int32} {V V2 : Nat → Bool} {x : Nat} (hs : shp g x) (hx : x < 2 ^ 31) (ht : tmd (g x).1 = false) (h : ∀ y, y < x → V y = V2 y) : uN g mk V x = uN g mk V2 x := by
  unfold uN
  rcases hs with ⟨q1, _⟩ | ⟨q0, q1, q2, q3⟩ | ⟨q0, q4, m, q1, q2, q3⟩
  · rw [if_pos q1, if_pos q1]
  · have e33 : (g x).1 = 33 := by
      rcases (rk5_iff _).mp q0 with e | e | e | e
      · exact e
      · rw [e] at ht
        exact absurd ht (by decide)
      · rw [e] at ht
        exact absurd ht (by decide)
      · rw [e] at ht
        exact absurd ht (by decide)
    have e0 : ¬ atm (g x).1 = true := by rw [e33]; decide
    rw [if_neg e0, if_neg e0, if_pos e33, if_pos e33, q2, nI_clamp (by omega), h _ (by omega)]
  · rw [q2, q3, nI_clamp (by omega), nI_clamp (by omega), h _ (by omega), h _ (by omega)]
theorem tN_same {g : Nat → Int32 × Int32 × Int32} {W W2 X : Nat → Bool} {L : Bool} {x : Nat} (hs : shp g x) (hx : x < 2 ^ 31) (ht : tmd (g x).1 = true) (h : ∀ y, y < x → W y = W2 y) : tN g W X L x = tN g W2 X L x := by
  unfold tN tA tD
  rcases hs with ⟨q1, _⟩ | ⟨q0, q1, q2, q3⟩ | ⟨q0, q4, m, q1, q2, q3⟩
  · rw [tmd_atm q1] at ht
    exact absurd ht (by decide)
  · rw [if_pos q3, if_pos q3, if_pos q3, if_pos q3, q2, nI_clamp (by omega), h _ (by omega)]
  · have hm : (g x).2.2 ≠ -1 := by
      rw [q3]
      exact nI_m1 (by omega)
    rw [if_neg hm, if_neg hm, if_neg hm, if_neg hm, q2, q3, nI_clamp (by omega), nI_clamp (by omega), h _ (by omega), h _ (by omega)]
abbrev mT3 (σ : zS) (g : Nat → Int32 × Int32 × Int32) (n : Nat) : Prop := ∀ i, i < n → σ.1 47 i = (g i).1 ∧ σ.1 48 i = (g i).2.1 ∧ σ.1 49 i = (g i).2.2
theorem mT3_fr {l : List Nat} {σ σ2 : zS} {g : Nat → Int32 × Int32 × Int32} {n : Nat} (hf : zfr l σ σ2) (h1 : 47 ∉ l) (h2 : 48 ∉ l) (h3 : 49 ∉ l) (h : mT3 σ g n) : mT3 σ2 g n := fun i hi => by
  rw [hf.1 47 h1, hf.1 48 h2, hf.1 49 h3]
  exact h i hi
theorem m_MO_plain {g : Nat → Int32 × Int32 × Int32} {n x s : Nat} (hn : n ≤ 32) (hx : x < n) (hs6 : s < 6) (hs : shp g x) (ht : tmd (g x).1 = false) (σ : zS) (ha : mT3 σ g n) {V : Nat → Bool} (hv : ∀ y, y < x → σ.1 62 y = zb (V y)) : zM yMO_plain cMO_plain 6 (some .boolean) 1 30 0 [.ref 45, .int (nI x), .int (nI s)] σ (fun r σ2 => r = some (.int (zb (uN g (σ.1 57 s) V x))) ∧ σ2 = σ) (fun _ _ => False) := by
  refine zM.of [some (.ref 45), some (.int (nI x)), some (.int (nI s)), none, none, none] (by decide) 3 rfl (fun _ => Nat.le_of_ble_eq_true rfl) (fun Z hR => ?_)
  obtain ⟨a1, a2, a3⟩ := ha x hx
  rcases hs with ⟨q1, _⟩ | ⟨q0, q1, q2, q3⟩ | ⟨q0, q4, m, q1, q2, q3⟩
  · have hU : uN g (σ.1 57 s) V x = la (g x).1 (σ.1 57 s) := by rw [uN, if_pos q1]
    generalize hc : (g x).1 = c at *
    by_cases h49 : c = 49
    ·
      refine z_aload_n hR dMO_plain_0 (n := 1) rfl rfl ?_
      refine z_getR hR dMO_plain_1 (n := 4) rfl zgMO_13 (by decide) rfl rfl ?_
      refine z_iload_n hR dMO_plain_4 (n := 5) rfl rfl ?_
      refine z_iald hR (_) dMO_plain_5 (n := 6) rfl (by decide) rfl (by decide) rfl (by omega) ?_
      rw [a1]
      refine z_istore_n hR dMO_plain_6 (n := 7) rfl (by decide) rfl ?_
      refine z_iload_n hR dMO_plain_7 (n := 8) rfl rfl ?_
      refine z_callS1 hR dMO_plain_8 (n := 11) rfl zcMO_127 zkMO_isAtom (by decide) (Nat.le_of_ble_eq_true rfl) (Nat.zero_le _) (m_MO_isAtom c σ) (fun r8 s8 h8 => ?_)
      obtain ⟨rfl, e8⟩ := h8
      subst s8
      rw [q1]
      refine z_if_eqB hR dMO_plain_11 (t := 49) (n := 14) rfl rfl (fun h11 => absurd h11 (by decide)) (fun h11 => ?_)
      refine z_iload_n hR dMO_plain_14 (n := 15) rfl rfl ?_
      refine z_bipush hR dMO_plain_15 (v := 49) (n := 17) rfl rfl ?_
      refine z_icmp_eq hR dMO_plain_17 (t := 43) (n := 20) rfl rfl (fun _ => ?_) (fun h17 => absurd h49 h17)
      refine z_iconst hR dMO_plain_43 (v := 1) (n := 44) rfl rfl ?_
      refine z_goto hR dMO_plain_44 (t := 48) rfl ?_
      refine z_zret hR dMO_plain_48 rfl rfl (Nat.zero_le _) ?_
      exact ⟨by rw [hU, h49]; rfl, rfl⟩
    by_cases h48 : c = 48
    ·
      refine z_aload_n hR dMO_plain_0 (n := 1) rfl rfl ?_
      refine z_getR hR dMO_plain_1 (n := 4) rfl zgMO_13 (by decide) rfl rfl ?_
      refine z_iload_n hR dMO_plain_4 (n := 5) rfl rfl ?_
      refine z_iald hR (_) dMO_plain_5 (n := 6) rfl (by decide) rfl (by decide) rfl (by omega) ?_
      rw [a1]
      refine z_istore_n hR dMO_plain_6 (n := 7) rfl (by decide) rfl ?_
      refine z_iload_n hR dMO_plain_7 (n := 8) rfl rfl ?_
      refine z_callS1 hR dMO_plain_8 (n := 11) rfl zcMO_127 zkMO_isAtom (by decide) (Nat.le_of_ble_eq_true rfl) (Nat.zero_le _) (m_MO_isAtom c σ) (fun r8 s8 h8 => ?_)
      obtain ⟨rfl, e8⟩ := h8
      subst s8
      rw [q1]
      refine z_if_eqB hR dMO_plain_11 (t := 49) (n := 14) rfl rfl (fun h11 => absurd h11 (by decide)) (fun h11 => ?_)
      refine z_iload_n hR dMO_plain_14 (n := 15) rfl rfl ?_
      refine z_bipush hR dMO_plain_15 (v := 49) (n := 17) rfl rfl ?_
      refine z_icmp_eq hR dMO_plain_17 (t := 43) (n := 20) rfl rfl (fun h17 => absurd h17 h49) (fun _ => ?_)
      refine z_iload_n hR dMO_plain_20 (n := 21) rfl rfl ?_
      refine z_bipush hR dMO_plain_21 (v := 112) (n := 23) rfl rfl ?_
      refine z_icmp_lt hR dMO_plain_23 (t := 47) (n := 26) rfl rfl (fun _ => ?_) (fun h23 => absurd (by rw [h48]; decide) h23)
      refine z_iconst hR dMO_plain_47 (v := 0) (n := 48) rfl rfl ?_
      refine z_zret hR dMO_plain_48 rfl rfl (Nat.zero_le _) ?_
      exact ⟨by rw [hU, h48]; rfl, rfl⟩
    have hr : 112 ≤ c ∧ c ≤ 115 := by
      have := q1
      simp only [atm, decide_eq_true_iff] at this
      rcases this with h | h | h
      · exact h
      · exact absurd h h48
      · exact absurd h h49
    obtain ⟨j, hj, e⟩ := nI_of2 (x := c) (M := 115) (n := 115) (by decide) (fun q => absurd (Int32.le_trans hr.1 (Int32.le_of_lt q)) (by decide)) hr.2
    have hj2 : 112 ≤ j := (nI_leI (a := 112) (by decide) (by omega)).mp (by rw [e] at hr; exact hr.1)
    have e1 : c - 112 = nI (j - 112) := by rw [e]; exact pk_sub hj2
    have e0 : la c (σ.1 57 s) = tb (σ.1 57 s) (j - 112) := by
      rw [la, decide_eq_false h49, decide_eq_true hr, e1, nI_clamp (by omega)]
      simp
    refine z_aload_n hR dMO_plain_0 (n := 1) rfl rfl ?_
    refine z_getR hR dMO_plain_1 (n := 4) rfl zgMO_13 (by decide) rfl rfl ?_
    refine z_iload_n hR dMO_plain_4 (n := 5) rfl rfl ?_
    refine z_iald hR (_) dMO_plain_5 (n := 6) rfl (by decide) rfl (by decide) rfl (by omega) ?_
    rw [a1]
    refine z_istore_n hR dMO_plain_6 (n := 7) rfl (by decide) rfl ?_
    refine z_iload_n hR dMO_plain_7 (n := 8) rfl rfl ?_
    refine z_callS1 hR dMO_plain_8 (n := 11) rfl zcMO_127 zkMO_isAtom (by decide) (Nat.le_of_ble_eq_true rfl) (Nat.zero_le _) (m_MO_isAtom c σ) (fun r8 s8 h8 => ?_)
    obtain ⟨rfl, e8⟩ := h8
    subst s8
    rw [q1]
    refine z_if_eqB hR dMO_plain_11 (t := 49) (n := 14) rfl rfl (fun h11 => absurd h11 (by decide)) (fun h11 => ?_)
    refine z_iload_n hR dMO_plain_14 (n := 15) rfl rfl ?_
    refine z_bipush hR dMO_plain_15 (v := 49) (n := 17) rfl rfl ?_
    refine z_icmp_eq hR dMO_plain_17 (t := 43) (n := 20) rfl rfl (fun h17 => absurd h17 h49) (fun _ => ?_)
    refine z_iload_n hR dMO_plain_20 (n := 21) rfl rfl ?_
    refine z_bipush hR dMO_plain_21 (v := 112) (n := 23) rfl rfl ?_
    refine z_icmp_lt hR dMO_plain_23 (t := 47) (n := 26) rfl rfl (fun h23 => absurd h23 (Int32.not_lt.mpr hr.1)) (fun _ => ?_)
    refine z_aload_n hR dMO_plain_26 (n := 27) rfl rfl ?_
    refine z_getR hR dMO_plain_27 (n := 30) rfl zgMO_43 (by decide) rfl rfl ?_
    refine z_iload_n hR dMO_plain_30 (n := 31) rfl rfl ?_
    refine z_iald hR (_) dMO_plain_31 (n := 32) rfl (by decide) rfl (by decide) rfl (by omega) ?_
    refine z_iload_n hR dMO_plain_32 (n := 33) rfl rfl ?_
    refine z_bipush hR dMO_plain_33 (v := 112) (n := 35) rfl rfl ?_
    refine z_isub hR dMO_plain_35 (n := 36) rfl ?_
    rw [e1]
    refine z_ishr hR dMO_plain_36 (n := 37) rfl ?_
    refine z_iconst hR dMO_plain_37 (v := 1) (n := 38) rfl rfl ?_
    refine z_iand hR dMO_plain_38 (n := 39) rfl ?_
    rw [tb_sr1 _ (by omega : j - 112 < 32)]
    refine z_iconst hR dMO_plain_39 (v := 1) (n := 40) rfl rfl ?_
    refine z_icmp_ne hR dMO_plain_40 (t := 47) (n := 43) rfl rfl (fun h40 => ?_) (fun h40 => ?_)
    · refine z_iconst hR dMO_plain_47 (v := 0) (n := 48) rfl rfl ?_
      refine z_zret hR dMO_plain_48 rfl rfl (Nat.zero_le _) ?_
      rw [hU, e0]
      first
        | (refine ⟨?_, rfl⟩; rw [zb_1.mp h40]; rfl)
        | (refine ⟨?_, rfl⟩; rw [show tb (σ.1 57 s) (j - 112) = false by cases e5 : tb (σ.1 57 s) (j - 112); rfl; exact absurd (by rw [e5]; rfl) h40]; rfl)
    · refine z_iconst hR dMO_plain_43 (v := 1) (n := 44) rfl rfl ?_
      refine z_goto hR dMO_plain_44 (t := 48) rfl ?_
      refine z_zret hR dMO_plain_48 rfl rfl (Nat.zero_le _) ?_
      rw [hU, e0]
      first
        | (refine ⟨?_, rfl⟩; rw [zb_1.mp h40]; rfl)
        | (refine ⟨?_, rfl⟩; rw [show tb (σ.1 57 s) (j - 112) = false by cases e5 : tb (σ.1 57 s) (j - 112); rfl; exact absurd (by rw [e5]; rfl) h40]; rfl)
  · have e33 : (g x).1 = 33 := by
      rcases (rk5_iff _).mp q0 with e | e | e | e
      · exact e
      · rw [e] at ht
        exact absurd ht (by decide)
      · rw [e] at ht
        exact absurd ht (by decide)
      · rw [e] at ht
        exact absurd ht (by decide)
    have hU : uN g (σ.1 57 s) V x = !V (x - 1) := by
      rw [uN, if_neg (by rw [e33]; decide), if_pos e33, q2, nI_clamp (by omega)]
    rw [q2] at a2
    rw [e33] at a1
    refine z_aload_n hR dMO_plain_0 (n := 1) rfl rfl ?_
    refine z_getR hR dMO_plain_1 (n := 4) rfl zgMO_13 (by decide) rfl rfl ?_
    refine z_iload_n hR dMO_plain_4 (n := 5) rfl rfl ?_
    refine z_iald hR (_) dMO_plain_5 (n := 6) rfl (by decide) rfl (by decide) rfl (by omega) ?_
    rw [a1]
    refine z_istore_n hR dMO_plain_6 (n := 7) rfl (by decide) rfl ?_
    refine z_iload_n hR dMO_plain_7 (n := 8) rfl rfl ?_
    refine z_callS1 hR dMO_plain_8 (n := 11) rfl zcMO_127 zkMO_isAtom (by decide) (Nat.le_of_ble_eq_true rfl) (Nat.zero_le _) (m_MO_isAtom 33 σ) (fun r8 s8 h8 => ?_)
    obtain ⟨rfl, e8⟩ := h8
    subst s8
    refine z_if_eqB hR dMO_plain_11 (t := 49) (n := 14) rfl rfl (fun h11 => ?_) (fun h11 => absurd h11 (by decide))
    refine z_aload_n hR dMO_plain_49 (n := 50) rfl rfl ?_
    refine z_getR hR dMO_plain_50 (n := 53) rfl zgMO_59 (by decide) rfl rfl ?_
    refine z_aload_n hR dMO_plain_53 (n := 54) rfl rfl ?_
    refine z_getR hR dMO_plain_54 (n := 57) rfl zgMO_16 (by decide) rfl rfl ?_
    refine z_iload_n hR dMO_plain_57 (n := 58) rfl rfl ?_
    refine z_iald hR (_) dMO_plain_58 (n := 59) rfl (by decide) rfl (by decide) rfl (by omega) ?_
    rw [a2]
    refine z_zald hR (_) dMO_plain_59 (n := 60) rfl (by decide) rfl (by decide) rfl (by omega) ?_
    rw [hv _ (by omega)]
    refine z_istore hR dMO_plain_60 (n := 62) rfl (by decide) rfl ?_
    refine z_iload_n hR dMO_plain_62 (n := 63) rfl rfl ?_
    refine z_bipush hR dMO_plain_63 (v := 33) (n := 65) rfl rfl ?_
    refine z_icmp_ne hR dMO_plain_65 (t := 79) (n := 68) rfl rfl (fun h65 => absurd h65 (fun q => q rfl)) (fun _ => ?_)
    refine z_iload hR dMO_plain_68 (n := 70) rfl rfl ?_
    refine z_if_neB hR dMO_plain_70 (t := 77) (n := 73) rfl rfl (fun h70 => ?_) (fun h70 => ?_)
    · refine z_iconst hR dMO_plain_77 (v := 0) (n := 78) rfl rfl ?_
      refine z_zret hR dMO_plain_78 rfl rfl (Nat.zero_le _) ?_
      exact ⟨by rw [hU, h70]; rfl, rfl⟩
    · refine z_iconst hR dMO_plain_73 (v := 1) (n := 74) rfl rfl ?_
      refine z_goto hR dMO_plain_74 (t := 78) rfl ?_
      refine z_zret hR dMO_plain_78 rfl rfl (Nat.zero_le _) ?_
      exact ⟨by rw [hU, h70]; rfl, rfl⟩
  · have hat : atm (g x).1 = false := (ini_rk q0).2.2
    have n33 : (g x).1 ≠ 33 := fun e => by
      rw [e] at q4
      exact absurd q4 (by decide)
    have hm2 : m < x := by omega
    have hU : uN g (σ.1 57 s) V x = if (g x).1 = 38 then V m && V (x - 1) else if (g x).1 = 124 then V m || V (x - 1) else !V m || V (x - 1) := by
      rw [uN, if_neg (by rw [hat]; decide), if_neg n33, q2, q3, nI_clamp (by omega), nI_clamp (by omega)]
    rw [q2] at a2
    rw [q3] at a3
    generalize hc : (g x).1 = c at *
    refine z_aload_n hR dMO_plain_0 (n := 1) rfl rfl ?_
    refine z_getR hR dMO_plain_1 (n := 4) rfl zgMO_13 (by decide) rfl rfl ?_
    refine z_iload_n hR dMO_plain_4 (n := 5) rfl rfl ?_
    refine z_iald hR (_) dMO_plain_5 (n := 6) rfl (by decide) rfl (by decide) rfl (by omega) ?_
    rw [a1]
    refine z_istore_n hR dMO_plain_6 (n := 7) rfl (by decide) rfl ?_
    refine z_iload_n hR dMO_plain_7 (n := 8) rfl rfl ?_
    refine z_callS1 hR dMO_plain_8 (n := 11) rfl zcMO_127 zkMO_isAtom (by decide) (Nat.le_of_ble_eq_true rfl) (Nat.zero_le _) (m_MO_isAtom c σ) (fun r8 s8 h8 => ?_)
    obtain ⟨rfl, e8⟩ := h8
    subst s8
    rw [hat]
    refine z_if_eqB hR dMO_plain_11 (t := 49) (n := 14) rfl rfl (fun h11 => ?_) (fun h11 => absurd h11 (by decide))
    refine z_aload_n hR dMO_plain_49 (n := 50) rfl rfl ?_
    refine z_getR hR dMO_plain_50 (n := 53) rfl zgMO_59 (by decide) rfl rfl ?_
    refine z_aload_n hR dMO_plain_53 (n := 54) rfl rfl ?_
    refine z_getR hR dMO_plain_54 (n := 57) rfl zgMO_16 (by decide) rfl rfl ?_
    refine z_iload_n hR dMO_plain_57 (n := 58) rfl rfl ?_
    refine z_iald hR (_) dMO_plain_58 (n := 59) rfl (by decide) rfl (by decide) rfl (by omega) ?_
    rw [a2]
    refine z_zald hR (_) dMO_plain_59 (n := 60) rfl (by decide) rfl (by decide) rfl (by omega) ?_
    rw [hv _ hm2]
    refine z_istore hR dMO_plain_60 (n := 62) rfl (by decide) rfl ?_
    refine z_iload_n hR dMO_plain_62 (n := 63) rfl rfl ?_
    refine z_bipush hR dMO_plain_63 (v := 33) (n := 65) rfl rfl ?_
    refine z_icmp_ne hR dMO_plain_65 (t := 79) (n := 68) rfl rfl (fun _ => ?_) (fun h65 => absurd h65 n33)
    refine z_aload_n hR dMO_plain_79 (n := 80) rfl rfl ?_
    refine z_getR hR dMO_plain_80 (n := 83) rfl zgMO_59 (by decide) rfl rfl ?_
    refine z_aload_n hR dMO_plain_83 (n := 84) rfl rfl ?_
    refine z_getR hR dMO_plain_84 (n := 87) rfl zgMO_19 (by decide) rfl rfl ?_
    refine z_iload_n hR dMO_plain_87 (n := 88) rfl rfl ?_
    refine z_iald hR (_) dMO_plain_88 (n := 89) rfl (by decide) rfl (by decide) rfl (by omega) ?_
    rw [a3]
    refine z_zald hR (_) dMO_plain_89 (n := 90) rfl (by decide) rfl (by decide) rfl (by omega) ?_
    rw [hv _ (by omega)]
    refine z_istore hR dMO_plain_90 (n := 92) rfl (by decide) rfl ?_
    refine z_iload_n hR dMO_plain_92 (n := 93) rfl rfl ?_
    refine z_bipush hR dMO_plain_93 (v := 38) (n := 95) rfl rfl ?_
    refine z_icmp_ne hR dMO_plain_95 (t := 116) (n := 98) rfl rfl (fun h95 => ?_) (fun h95 => ?_)
    · refine z_iload_n hR dMO_plain_116 (n := 117) rfl rfl ?_
      refine z_bipush hR dMO_plain_117 (v := 124) (n := 119) rfl rfl ?_
      refine z_icmp_ne hR dMO_plain_119 (t := 140) (n := 122) rfl rfl (fun h119 => ?_) (fun h119 => ?_)
      · refine z_iload hR dMO_plain_140 (n := 142) rfl rfl ?_
        refine z_if_eqB hR dMO_plain_142 (t := 150) (n := 145) rfl rfl (fun h142 => ?_) (fun h142 => ?_)
        · refine z_iconst hR dMO_plain_150 (v := 1) (n := 151) rfl rfl ?_
          refine z_goto hR dMO_plain_151 (t := 155) rfl ?_
          refine z_zret hR dMO_plain_155 rfl rfl (Nat.zero_le _) ?_
          refine ⟨?_, rfl⟩
          rw [hU]
          first
            | (rw [if_pos h95, h100, h105]; done)
            | (rw [if_pos h95, h100, h105]; rfl)
            | (rw [if_pos h95, h100]; rfl)
            | (rw [if_neg h95, if_pos h119, h124, h129]; rfl)
            | (rw [if_neg h95, if_pos h119, h124]; rfl)
            | (rw [if_neg h95, if_neg h119, h142, h147]; rfl)
            | (rw [if_neg h95, if_neg h119, h142]; rfl)
        · refine z_iload hR dMO_plain_145 (n := 147) rfl rfl ?_
          refine z_if_eqB hR dMO_plain_147 (t := 154) (n := 150) rfl rfl (fun h147 => ?_) (fun h147 => ?_)
          · refine z_iconst hR dMO_plain_154 (v := 0) (n := 155) rfl rfl ?_
            refine z_zret hR dMO_plain_155 rfl rfl (Nat.zero_le _) ?_
            refine ⟨?_, rfl⟩
            rw [hU]
            first
              | (rw [if_pos h95, h100, h105]; done)
              | (rw [if_pos h95, h100, h105]; rfl)
              | (rw [if_pos h95, h100]; rfl)
              | (rw [if_neg h95, if_pos h119, h124, h129]; rfl)
              | (rw [if_neg h95, if_pos h119, h124]; rfl)
              | (rw [if_neg h95, if_neg h119, h142, h147]; rfl)
              | (rw [if_neg h95, if_neg h119, h142]; rfl)
          · refine z_iconst hR dMO_plain_150 (v := 1) (n := 151) rfl rfl ?_
            refine z_goto hR dMO_plain_151 (t := 155) rfl ?_
            refine z_zret hR dMO_plain_155 rfl rfl (Nat.zero_le _) ?_
            refine ⟨?_, rfl⟩
            rw [hU]
            first
              | (rw [if_pos h95, h100, h105]; done)
              | (rw [if_pos h95, h100, h105]; rfl)
              | (rw [if_pos h95, h100]; rfl)
              | (rw [if_neg h95, if_pos h119, h124, h129]; rfl)
              | (rw [if_neg h95, if_pos h119, h124]; rfl)
              | (rw [if_neg h95, if_neg h119, h142, h147]; rfl)
              | (rw [if_neg h95, if_neg h119, h142]; rfl)
      · refine z_iload hR dMO_plain_122 (n := 124) rfl rfl ?_
        refine z_if_neB hR dMO_plain_124 (t := 132) (n := 127) rfl rfl (fun h124 => ?_) (fun h124 => ?_)
        · refine z_iconst hR dMO_plain_132 (v := 1) (n := 133) rfl rfl ?_
          refine z_goto hR dMO_plain_133 (t := 155) rfl ?_
          refine z_zret hR dMO_plain_155 rfl rfl (Nat.zero_le _) ?_
          refine ⟨?_, rfl⟩
          rw [hU]
          first
            | (rw [if_pos h95, h100, h105]; done)
            | (rw [if_pos h95, h100, h105]; rfl)
            | (rw [if_pos h95, h100]; rfl)
            | (rw [if_neg h95, if_pos h119, h124, h129]; rfl)
            | (rw [if_neg h95, if_pos h119, h124]; rfl)
            | (rw [if_neg h95, if_neg h119, h142, h147]; rfl)
            | (rw [if_neg h95, if_neg h119, h142]; rfl)
        · refine z_iload hR dMO_plain_127 (n := 129) rfl rfl ?_
          refine z_if_eqB hR dMO_plain_129 (t := 136) (n := 132) rfl rfl (fun h129 => ?_) (fun h129 => ?_)
          · refine z_iconst hR dMO_plain_136 (v := 0) (n := 137) rfl rfl ?_
            refine z_goto hR dMO_plain_137 (t := 155) rfl ?_
            refine z_zret hR dMO_plain_155 rfl rfl (Nat.zero_le _) ?_
            refine ⟨?_, rfl⟩
            rw [hU]
            first
              | (rw [if_pos h95, h100, h105]; done)
              | (rw [if_pos h95, h100, h105]; rfl)
              | (rw [if_pos h95, h100]; rfl)
              | (rw [if_neg h95, if_pos h119, h124, h129]; rfl)
              | (rw [if_neg h95, if_pos h119, h124]; rfl)
              | (rw [if_neg h95, if_neg h119, h142, h147]; rfl)
              | (rw [if_neg h95, if_neg h119, h142]; rfl)
          · refine z_iconst hR dMO_plain_132 (v := 1) (n := 133) rfl rfl ?_
            refine z_goto hR dMO_plain_133 (t := 155) rfl ?_
            refine z_zret hR dMO_plain_155 rfl rfl (Nat.zero_le _) ?_
            refine ⟨?_, rfl⟩
            rw [hU]
            first
              | (rw [if_pos h95, h100, h105]; done)
              | (rw [if_pos h95, h100, h105]; rfl)
              | (rw [if_pos h95, h100]; rfl)
              | (rw [if_neg h95, if_pos h119, h124, h129]; rfl)
              | (rw [if_neg h95, if_pos h119, h124]; rfl)
              | (rw [if_neg h95, if_neg h119, h142, h147]; rfl)
              | (rw [if_neg h95, if_neg h119, h142]; rfl)
    · refine z_iload hR dMO_plain_98 (n := 100) rfl rfl ?_
      refine z_if_eqB hR dMO_plain_100 (t := 112) (n := 103) rfl rfl (fun h100 => ?_) (fun h100 => ?_)
      · refine z_iconst hR dMO_plain_112 (v := 0) (n := 113) rfl rfl ?_
        refine z_goto hR dMO_plain_113 (t := 155) rfl ?_
        refine z_zret hR dMO_plain_155 rfl rfl (Nat.zero_le _) ?_
        refine ⟨?_, rfl⟩
        rw [hU]
        first
          | (rw [if_pos h95, h100, h105]; done)
          | (rw [if_pos h95, h100, h105]; rfl)
          | (rw [if_pos h95, h100]; rfl)
          | (rw [if_neg h95, if_pos h119, h124, h129]; rfl)
          | (rw [if_neg h95, if_pos h119, h124]; rfl)
          | (rw [if_neg h95, if_neg h119, h142, h147]; rfl)
          | (rw [if_neg h95, if_neg h119, h142]; rfl)
      · refine z_iload hR dMO_plain_103 (n := 105) rfl rfl ?_
        refine z_if_eqB hR dMO_plain_105 (t := 112) (n := 108) rfl rfl (fun h105 => ?_) (fun h105 => ?_)
        · refine z_iconst hR dMO_plain_112 (v := 0) (n := 113) rfl rfl ?_
          refine z_goto hR dMO_plain_113 (t := 155) rfl ?_
          refine z_zret hR dMO_plain_155 rfl rfl (Nat.zero_le _) ?_
          refine ⟨?_, rfl⟩
          rw [hU]
          first
            | (rw [if_pos h95, h100, h105]; done)
            | (rw [if_pos h95, h100, h105]; rfl)
            | (rw [if_pos h95, h100]; rfl)
            | (rw [if_neg h95, if_pos h119, h124, h129]; rfl)
            | (rw [if_neg h95, if_pos h119, h124]; rfl)
            | (rw [if_neg h95, if_neg h119, h142, h147]; rfl)
            | (rw [if_neg h95, if_neg h119, h142]; rfl)
        · refine z_iconst hR dMO_plain_108 (v := 1) (n := 109) rfl rfl ?_
          refine z_goto hR dMO_plain_109 (t := 155) rfl ?_
          refine z_zret hR dMO_plain_155 rfl rfl (Nat.zero_le _) ?_
          refine ⟨?_, rfl⟩
          rw [hU]
          first
            | (rw [if_pos h95, h100, h105]; done)
            | (rw [if_pos h95, h100, h105]; rfl)
            | (rw [if_pos h95, h100]; rfl)
            | (rw [if_neg h95, if_pos h119, h124, h129]; rfl)
            | (rw [if_neg h95, if_pos h119, h124]; rfl)
            | (rw [if_neg h95, if_neg h119, h142, h147]; rfl)
            | (rw [if_neg h95, if_neg h119, h142]; rfl)
theorem tb_nb {b k : Nat} (hk : k < 32) : (nI b >>> (nI k &&& 31)) &&& 1 = zb (b.testBit k) := by
  rw [tb_sr1 _ hk, tb_nI _ _ hk]
theorem m_MO_evaluate {g : Nat → Int32 × Int32 × Int32} {n s b : Nat} (hn : n ≤ 32) (hs6 : s < 6) (hsh : ∀ x, x < n → shp g x) (hT5 : tcn g n ≤ 5) (σ : zS) (hN : σ.1 45 4 = nI n) (ha : mT3 σ g n) (hb : ∀ x, x < n → tmd (g x).1 = true → σ.1 50 x = nI (tcn g x)) : zM yMO_evaluate cMO_evaluate 4 none 2 60 0 [.ref 45, .int (nI s), .int (nI b)] σ (fun r σ2 => r = none ∧ zfr [62] σ σ2 ∧ ∃ V : Nat → Bool, (∀ y, y < n → σ2.1 62 y = zb (V y)) ∧ ∀ y, y < n → V y = if tmd (g y).1 = true then b.testBit (tcn g y) else uN g (σ.1 57 s) V y) (fun _ _ => False) := by
  refine zM.of [some (.ref 45), some (.int (nI s)), some (.int (nI b)), none] (by decide) 1 rfl (fun _ => Nat.le_of_ble_eq_true rfl) (fun Z hR => ?_)
  have key : ∀ (m x : Nat) (V : Nat → Bool) (τ : zS), x + m = n → zfr [62] σ τ → (∀ y, y < x → τ.1 62 y = zb (V y)) → (∀ y, y < x → V y = if tmd (g y).1 = true then b.testBit (tcn g y) else uN g (σ.1 57 s) V y) → Z 0 2 [some (.ref 45), some (.int (nI s)), some (.int (nI b)), some (.int (nI x))] [] τ := by
    intro m
    induction m with
    | zero =>
      intro x V τ hx hf h1 h2
      obtain rfl : x = n := by omega
      have hN2 : τ.1 45 4 = nI x := by rw [hf.1 45 (by decide), hN]
      refine z_iload_n hR dMO_evaluate_2 (n := 3) rfl rfl ?_
      refine z_aload_n hR dMO_evaluate_3 (n := 4) rfl rfl ?_
      refine z_getI hR dMO_evaluate_4 (n := 7) rfl zgMO_145 (by decide) rfl rfl ?_
      rw [hN2]
      refine z_icmp_geN hR dMO_evaluate_7 (t := 62) (n := 10) rfl rfl (by omega) (by omega) (fun h7 => ?_) (fun h7 => absurd h7 (by omega))
      refine z_vret hR dMO_evaluate_62 rfl (Nat.zero_le _) ?_
      exact ⟨rfl, hf, V, h1, h2⟩
    | succ m ih =>
      intro x V τ hx hf h1 h2
      have hxn : x < n := by omega
      have hN2 : τ.1 45 4 = nI n := by rw [hf.1 45 (by decide), hN]
      have ha2 := mT3_fr hf (by decide) (by decide) (by decide) ha
      have e50 : τ.1 50 = σ.1 50 := hf.1 50 (by decide)
      have e57 : τ.1 57 = σ.1 57 := hf.1 57 (by decide)
      have nxt : ∀ w : Bool, (w = if tmd (g x).1 = true then b.testBit (tcn g x) else uN g (σ.1 57 s) V x) → Z 0 2 [some (.ref 45), some (.int (nI s)), some (.int (nI b)), some (.int (nI (x + 1)))] [] (zwA τ 62 x (zb w)) := by
        intro w hw
        refine ih (x + 1) (fun y => if y = x then w else V y) _ (by omega) (hf.wA _ (by decide)) (fun y hy => ?_) (fun y hy => ?_)
        · by_cases e : y = x
          · subst e
            rw [zwA_ss, if_pos rfl]
          · rw [zwA_sn _ _ _ _ e, if_neg e]
            exact h1 y (by omega)
        · by_cases ht : tmd (g y).1 = true
          · rw [if_pos ht]
            by_cases e : y = x
            · subst e
              rw [if_pos rfl, hw, if_pos ht]
            · rw [if_neg e, h2 y (by omega), if_pos ht]
          · rw [if_neg ht, uN_same (V2 := V) (hsh y (by omega)) (by omega) (by simpa using ht) (fun q hq => if_neg (by omega))]
            by_cases e : y = x
            · subst e
              rw [if_pos rfl, hw, if_neg ht]
            · rw [if_neg e, h2 y (by omega), if_neg ht]
      by_cases ht : tmd (g x).1 = true
      ·
        have hk := tcn_lt hxn ht
        have hgo := nxt (b.testBit (tcn g x)) (by rw [if_pos ht])
        cases eb : b.testBit (tcn g x) with
        | true =>
          rw [eb] at hgo
          refine z_iload_n hR dMO_evaluate_2 (n := 3) rfl rfl ?_
          refine z_aload_n hR dMO_evaluate_3 (n := 4) rfl rfl ?_
          refine z_getI hR dMO_evaluate_4 (n := 7) rfl zgMO_145 (by decide) rfl rfl ?_
          rw [hN2]
          refine z_icmp_geN hR dMO_evaluate_7 (t := 62) (n := 10) rfl rfl (by omega) (by omega) (fun h7 => absurd h7 (by omega)) (fun h7 => ?_)
          refine z_aload_n hR dMO_evaluate_10 (n := 11) rfl rfl ?_
          refine z_getR hR dMO_evaluate_11 (n := 14) rfl zgMO_59 (by decide) rfl rfl ?_
          refine z_iload_n hR dMO_evaluate_14 (n := 15) rfl rfl ?_
          refine z_aload_n hR dMO_evaluate_15 (n := 16) rfl rfl ?_
          refine z_getR hR dMO_evaluate_16 (n := 19) rfl zgMO_13 (by decide) rfl rfl ?_
          refine z_iload_n hR dMO_evaluate_19 (n := 20) rfl rfl ?_
          refine z_iald hR (_) dMO_evaluate_20 (n := 21) rfl (by decide) rfl (by decide) rfl (by omega) ?_
          rw [(ha2 x hxn).1]
          refine z_callS1 hR dMO_evaluate_21 (n := 24) rfl zcMO_134 zkMO_isTimed (by decide) (Nat.le_of_ble_eq_true rfl) (Nat.zero_le _) (m_MO_isTimed (g x).1 τ) (fun r21 s21 h21 => ?_)
          obtain ⟨rfl, e21⟩ := h21
          subst s21
          rw [ht]
          refine z_if_eqB hR dMO_evaluate_24 (t := 49) (n := 27) rfl rfl (fun h24 => absurd h24 (by decide)) (fun h24 => ?_)
          refine z_iload_n hR dMO_evaluate_27 (n := 28) rfl rfl ?_
          refine z_aload_n hR dMO_evaluate_28 (n := 29) rfl rfl ?_
          refine z_getR hR dMO_evaluate_29 (n := 32) rfl zgMO_22 (by decide) rfl rfl ?_
          refine z_iload_n hR dMO_evaluate_32 (n := 33) rfl rfl ?_
          refine z_iald hR (_) dMO_evaluate_33 (n := 34) rfl (by decide) rfl (by decide) rfl (by omega) ?_
          rw [e50, hb x hxn ht]
          refine z_ishr hR dMO_evaluate_34 (n := 35) rfl ?_
          refine z_iconst hR dMO_evaluate_35 (v := 1) (n := 36) rfl rfl ?_
          refine z_iand hR dMO_evaluate_36 (n := 37) rfl ?_
          rw [tb_nb (by omega), eb]
          refine z_iconst hR dMO_evaluate_37 (v := 1) (n := 38) rfl rfl ?_
          refine z_icmp_ne hR dMO_evaluate_38 (t := 45) (n := 41) rfl rfl (fun h38 => absurd h38 (fun q => q rfl)) (fun _ => ?_)
          refine z_iconst hR dMO_evaluate_41 (v := 1) (n := 42) rfl rfl ?_
          refine z_goto hR dMO_evaluate_42 (t := 55) rfl ?_
          refine z_zast hR (_) dMO_evaluate_55 (n := 56) rfl (by decide) rfl (by decide) rfl (by omega) ?_
          rw [show vp_nar .boolean (1 : Int32) = zb true from rfl]
          refine z_iincN hR 1 dMO_evaluate_56 (n := 59) rfl rfl (by decide) rfl rfl ?_
          refine z_goto hR dMO_evaluate_59 (t := 2) rfl ?_
          exact hgo
        | false =>
          rw [eb] at hgo
          refine z_iload_n hR dMO_evaluate_2 (n := 3) rfl rfl ?_
          refine z_aload_n hR dMO_evaluate_3 (n := 4) rfl rfl ?_
          refine z_getI hR dMO_evaluate_4 (n := 7) rfl zgMO_145 (by decide) rfl rfl ?_
          rw [hN2]
          refine z_icmp_geN hR dMO_evaluate_7 (t := 62) (n := 10) rfl rfl (by omega) (by omega) (fun h7 => absurd h7 (by omega)) (fun h7 => ?_)
          refine z_aload_n hR dMO_evaluate_10 (n := 11) rfl rfl ?_
          refine z_getR hR dMO_evaluate_11 (n := 14) rfl zgMO_59 (by decide) rfl rfl ?_
          refine z_iload_n hR dMO_evaluate_14 (n := 15) rfl rfl ?_
          refine z_aload_n hR dMO_evaluate_15 (n := 16) rfl rfl ?_
          refine z_getR hR dMO_evaluate_16 (n := 19) rfl zgMO_13 (by decide) rfl rfl ?_
          refine z_iload_n hR dMO_evaluate_19 (n := 20) rfl rfl ?_
          refine z_iald hR (_) dMO_evaluate_20 (n := 21) rfl (by decide) rfl (by decide) rfl (by omega) ?_
          rw [(ha2 x hxn).1]
          refine z_callS1 hR dMO_evaluate_21 (n := 24) rfl zcMO_134 zkMO_isTimed (by decide) (Nat.le_of_ble_eq_true rfl) (Nat.zero_le _) (m_MO_isTimed (g x).1 τ) (fun r21 s21 h21 => ?_)
          obtain ⟨rfl, e21⟩ := h21
          subst s21
          rw [ht]
          refine z_if_eqB hR dMO_evaluate_24 (t := 49) (n := 27) rfl rfl (fun h24 => absurd h24 (by decide)) (fun h24 => ?_)
          refine z_iload_n hR dMO_evaluate_27 (n := 28) rfl rfl ?_
          refine z_aload_n hR dMO_evaluate_28 (n := 29) rfl rfl ?_
          refine z_getR hR dMO_evaluate_29 (n := 32) rfl zgMO_22 (by decide) rfl rfl ?_
          refine z_iload_n hR dMO_evaluate_32 (n := 33) rfl rfl ?_
          refine z_iald hR (_) dMO_evaluate_33 (n := 34) rfl (by decide) rfl (by decide) rfl (by omega) ?_
          rw [e50, hb x hxn ht]
          refine z_ishr hR dMO_evaluate_34 (n := 35) rfl ?_
          refine z_iconst hR dMO_evaluate_35 (v := 1) (n := 36) rfl rfl ?_
          refine z_iand hR dMO_evaluate_36 (n := 37) rfl ?_
          rw [tb_nb (by omega), eb]
          refine z_iconst hR dMO_evaluate_37 (v := 1) (n := 38) rfl rfl ?_
          refine z_icmp_ne hR dMO_evaluate_38 (t := 45) (n := 41) rfl rfl (fun _ => ?_) (fun h38 => absurd h38 (by decide))
          refine z_iconst hR dMO_evaluate_45 (v := 0) (n := 46) rfl rfl ?_
          refine z_goto hR dMO_evaluate_46 (t := 55) rfl ?_
          refine z_zast hR (_) dMO_evaluate_55 (n := 56) rfl (by decide) rfl (by decide) rfl (by omega) ?_
          rw [show vp_nar .boolean (0 : Int32) = zb false from rfl]
          refine z_iincN hR 1 dMO_evaluate_56 (n := 59) rfl rfl (by decide) rfl rfl ?_
          refine z_goto hR dMO_evaluate_59 (t := 2) rfl ?_
          exact hgo
      ·
        have ht' : tmd (g x).1 = false := by simpa using ht
        have hc := m_MO_plain hn hxn hs6 (hsh x hxn) ht' τ ha2 h1
        rw [e57] at hc
        have hgo := nxt (uN g (σ.1 57 s) V x) (by rw [if_neg ht])
        refine z_iload_n hR dMO_evaluate_2 (n := 3) rfl rfl ?_
        refine z_aload_n hR dMO_evaluate_3 (n := 4) rfl rfl ?_
        refine z_getI hR dMO_evaluate_4 (n := 7) rfl zgMO_145 (by decide) rfl rfl ?_
        rw [hN2]
        refine z_icmp_geN hR dMO_evaluate_7 (t := 62) (n := 10) rfl rfl (by omega) (by omega) (fun h7 => absurd h7 (by omega)) (fun h7 => ?_)
        refine z_aload_n hR dMO_evaluate_10 (n := 11) rfl rfl ?_
        refine z_getR hR dMO_evaluate_11 (n := 14) rfl zgMO_59 (by decide) rfl rfl ?_
        refine z_iload_n hR dMO_evaluate_14 (n := 15) rfl rfl ?_
        refine z_aload_n hR dMO_evaluate_15 (n := 16) rfl rfl ?_
        refine z_getR hR dMO_evaluate_16 (n := 19) rfl zgMO_13 (by decide) rfl rfl ?_
        refine z_iload_n hR dMO_evaluate_19 (n := 20) rfl rfl ?_
        refine z_iald hR (_) dMO_evaluate_20 (n := 21) rfl (by decide) rfl (by decide) rfl (by omega) ?_
        rw [(ha2 x hxn).1]
        refine z_callS1 hR dMO_evaluate_21 (n := 24) rfl zcMO_134 zkMO_isTimed (by decide) (Nat.le_of_ble_eq_true rfl) (Nat.zero_le _) (m_MO_isTimed (g x).1 τ) (fun r21 s21 h21 => ?_)
        obtain ⟨rfl, e21⟩ := h21
        subst s21
        rw [ht']
        refine z_if_eqB hR dMO_evaluate_24 (t := 49) (n := 27) rfl rfl (fun h24 => ?_) (fun h24 => absurd h24 (by decide))
        refine z_aload_n hR dMO_evaluate_49 (n := 50) rfl rfl ?_
        refine z_iload_n hR dMO_evaluate_50 (n := 51) rfl rfl ?_
        refine z_iload_n hR dMO_evaluate_51 (n := 52) rfl rfl ?_
        refine z_callV2 hR dMO_evaluate_52 (n := 55) rfl zcMO_177 zkMO_plain (by decide) (Nat.le_of_ble_eq_true rfl) (by decide) rfl rfl (Nat.zero_le _) hc (fun r52 s52 h52 => ?_)
        obtain ⟨rfl, e52⟩ := h52
        subst s52
        refine z_zast hR (_) dMO_evaluate_55 (n := 56) rfl (by decide) rfl (by decide) rfl (by omega) ?_
        rw [zb_vn]
        refine z_iincN hR 1 dMO_evaluate_56 (n := 59) rfl rfl (by decide) rfl rfl ?_
        refine z_goto hR dMO_evaluate_59 (t := 2) rfl ?_
        exact hgo
  refine z_iconst hR dMO_evaluate_0 (v := nI 0) (n := 1) rfl rfl ?_
  refine z_istore_n hR dMO_evaluate_1 (n := 2) rfl (by decide) rfl ?_
  exact key n 0 (fun _ => false) _ (by omega) zfr.rf (fun y hy => absurd hy (by omega)) (fun y hy => absurd hy (by omega))
theorem bN_same {f f2 : Nat → Bool} : ∀ {k : Nat}, (∀ i, i < k → f i = f2 i) → bN f k = bN f2 k
  | 0, _ => rfl
  | k + 1, h => by rw [bN, bN, h k (by omega), bN_same (k := k) (fun i hi => h i (by omega))]
/-- a bit more -/
theorem bN_put {f : Nat → Bool} {k : Nat} {w : Bool} (hk : k < 32) : ∃ f2 : Nat → Bool, (∀ i, i < k → f2 i = f i) ∧ f2 k = w ∧ (w = true → nI (bN f k) ||| ((1 : Int32) <<< (nI k &&& 31)) = nI (bN f2 (k + 1))) ∧ (w = false → nI (bN f k) = nI (bN f2 (k + 1))) := by
  have e : ∀ w : Bool, bN f k = bN (fun i => if i = k then w else f i) k := fun w => bN_same (fun i hi => (if_neg (by omega)).symm)
  refine ⟨fun i => if i = k then w else f i, fun i hi => if_neg (by omega), if_pos rfl, fun hw => ?_, fun hw => ?_⟩
  · subst hw
    have q := bN_or (f := fun i => if i = k then true else f i) hk
    rw [← q, ← e true, if_pos rfl]
    rfl
  · subst hw
    rw [bN, if_pos rfl, if_neg (by decide), ← e false]
