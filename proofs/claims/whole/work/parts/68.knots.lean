/-! The class finds the knots -/
def kS (σ : zS) (num low td : Nat → Nat) (cnt : Nat) (held walk : List Nat) : Prop := σ.1 19 3 = nI cnt ∧ σ.1 19 7 = nI walk.length ∧ σ.1 19 9 = nI held.length ∧ (∀ v, v < 192 → σ.1 21 v = nI (num v)) ∧ (∀ v, v < 192 → num v ≠ 0 → σ.1 22 v = nI (low v) ∧ σ.1 23 v = nI (td v)) ∧ stN (σ.1 24) walk ∧ stN (σ.1 25) held ∧ (∀ v, v < 192 → σ.1 26 v = zb (decide (v ∈ held)))
theorem m_KN_enter {v : Nat} (hv : v < 192) {num low td : Nat → Nat} {cnt : Nat} {held walk : List Nat} (hw : walk.length < 192) (hh : held.length < 192) (σ : zS) (hS : kS σ num low td cnt held walk) : zM yKN_enter cKN_enter 2 none 0 0 0 [.ref 19, .int (nI v)] σ (fun r σ2 => r = none ∧ zfr [19, 21, 22, 23, 24, 25, 26] σ σ2 ∧ kS σ2 (ko_U num v (cnt + 1)) (ko_U low v (cnt + 1)) (ko_U td v 0) (cnt + 1) (v :: held) (v :: walk)) (fun _ _ => False) := by
  refine zM.of [some (.ref 19), some (.int (nI v))] (by decide) 0 rfl (fun _ => Nat.le_of_ble_eq_true rfl) (fun Z hR => ?_)
  obtain ⟨k1, k2, k3, k4, k5, k6, k7, k8⟩ := hS
  refine z_aload_n hR dKN_enter_0 (n := 1) rfl rfl ?_
  refine z_dup hR dKN_enter_1 (n := 2) rfl rfl ?_
  refine z_getI hR dKN_enter_2 (n := 5) rfl zgKN_54 (by decide) rfl rfl ?_
  rw [k1]
  refine z_iconst hR dKN_enter_5 (v := nI 1) (n := 6) rfl rfl ?_
  refine z_iaddN hR dKN_enter_6 (n := 7) rfl ?_
  refine z_putI hR dKN_enter_7 (n := 10) rfl zpKN_54 (by decide) rfl rfl ?_
  refine z_aload_n hR dKN_enter_10 (n := 11) rfl rfl ?_
  refine z_getR hR dKN_enter_11 (n := 14) rfl zgKN_22 (by decide) rfl rfl ?_
  refine z_iload_n hR dKN_enter_14 (n := 15) rfl rfl ?_
  refine z_aload_n hR dKN_enter_15 (n := 16) rfl rfl ?_
  refine z_getI hR dKN_enter_16 (n := 19) rfl zgKN_54 (by decide) rfl rfl ?_
  rw [zwA_ss]
  refine z_iast hR (_) dKN_enter_19 (n := 20) rfl (by decide) rfl (by decide) rfl (by omega) ?_
  refine z_aload_n hR dKN_enter_20 (n := 21) rfl rfl ?_
  refine z_getR hR dKN_enter_21 (n := 24) rfl zgKN_25 (by decide) rfl rfl ?_
  refine z_iload_n hR dKN_enter_24 (n := 25) rfl rfl ?_
  refine z_aload_n hR dKN_enter_25 (n := 26) rfl rfl ?_
  refine z_getI hR dKN_enter_26 (n := 29) rfl zgKN_54 (by decide) rfl rfl ?_
  rw [zwA_n _ _ _ _ (by decide), zwA_ss]
  refine z_iast hR (_) dKN_enter_29 (n := 30) rfl (by decide) rfl (by decide) rfl (by omega) ?_
  refine z_aload_n hR dKN_enter_30 (n := 31) rfl rfl ?_
  refine z_getR hR dKN_enter_31 (n := 34) rfl zgKN_28 (by decide) rfl rfl ?_
  refine z_iload_n hR dKN_enter_34 (n := 35) rfl rfl ?_
  refine z_iconst hR dKN_enter_35 (v := nI 0) (n := 36) rfl rfl ?_
  refine z_iast hR (_) dKN_enter_36 (n := 37) rfl (by decide) rfl (by decide) rfl (by omega) ?_
  refine z_aload_n hR dKN_enter_37 (n := 38) rfl rfl ?_
  refine z_getR hR dKN_enter_38 (n := 41) rfl zgKN_31 (by decide) rfl rfl ?_
  refine z_aload_n hR dKN_enter_41 (n := 42) rfl rfl ?_
  refine z_getI hR dKN_enter_42 (n := 45) rfl zgKN_57 (by decide) rfl rfl ?_
  rw [zwA_n _ _ _ _ (by decide), zwA_n _ _ _ _ (by decide), zwA_n _ _ _ _ (by decide), zwA_sn _ _ _ _ (by decide), k2]
  refine z_iload_n hR dKN_enter_45 (n := 46) rfl rfl ?_
  refine z_iast hR (_) dKN_enter_46 (n := 47) rfl (by decide) rfl (by decide) rfl (by omega) ?_
  refine z_aload_n hR dKN_enter_47 (n := 48) rfl rfl ?_
  refine z_dup hR dKN_enter_48 (n := 49) rfl rfl ?_
  refine z_getI hR dKN_enter_49 (n := 52) rfl zgKN_57 (by decide) rfl rfl ?_
  rw [zwA_n _ _ _ _ (by decide), zwA_n _ _ _ _ (by decide), zwA_n _ _ _ _ (by decide), zwA_n _ _ _ _ (by decide), zwA_sn _ _ _ _ (by decide), k2]
  refine z_iconst hR dKN_enter_52 (v := nI 1) (n := 53) rfl rfl ?_
  refine z_iaddN hR dKN_enter_53 (n := 54) rfl ?_
  refine z_putI hR dKN_enter_54 (n := 57) rfl zpKN_57 (by decide) rfl rfl ?_
  refine z_aload_n hR dKN_enter_57 (n := 58) rfl rfl ?_
  refine z_getR hR dKN_enter_58 (n := 61) rfl zgKN_34 (by decide) rfl rfl ?_
  refine z_aload_n hR dKN_enter_61 (n := 62) rfl rfl ?_
  refine z_getI hR dKN_enter_62 (n := 65) rfl zgKN_60 (by decide) rfl rfl ?_
  rw [zwA_sn _ _ _ _ (by decide), zwA_n _ _ _ _ (by decide), zwA_n _ _ _ _ (by decide), zwA_n _ _ _ _ (by decide), zwA_n _ _ _ _ (by decide), zwA_sn _ _ _ _ (by decide), k3]
  refine z_iload_n hR dKN_enter_65 (n := 66) rfl rfl ?_
  refine z_iast hR (_) dKN_enter_66 (n := 67) rfl (by decide) rfl (by decide) rfl (by omega) ?_
  refine z_aload_n hR dKN_enter_67 (n := 68) rfl rfl ?_
  refine z_dup hR dKN_enter_68 (n := 69) rfl rfl ?_
  refine z_getI hR dKN_enter_69 (n := 72) rfl zgKN_60 (by decide) rfl rfl ?_
  rw [zwA_n _ _ _ _ (by decide), zwA_sn _ _ _ _ (by decide), zwA_n _ _ _ _ (by decide), zwA_n _ _ _ _ (by decide), zwA_n _ _ _ _ (by decide), zwA_n _ _ _ _ (by decide), zwA_sn _ _ _ _ (by decide), k3]
  refine z_iconst hR dKN_enter_72 (v := nI 1) (n := 73) rfl rfl ?_
  refine z_iaddN hR dKN_enter_73 (n := 74) rfl ?_
  refine z_putI hR dKN_enter_74 (n := 77) rfl zpKN_60 (by decide) rfl rfl ?_
  refine z_aload_n hR dKN_enter_77 (n := 78) rfl rfl ?_
  refine z_getR hR dKN_enter_78 (n := 81) rfl zgKN_37 (by decide) rfl rfl ?_
  refine z_iload_n hR dKN_enter_81 (n := 82) rfl rfl ?_
  refine z_iconst hR dKN_enter_82 (v := 1) (n := 83) rfl rfl ?_
  refine z_zast hR (_) dKN_enter_83 (n := 84) rfl (by decide) rfl (by decide) rfl (by omega) ?_
  rw [show vp_nar .boolean (1 : Int32) = 1 from rfl]
  refine z_vret hR dKN_enter_84 rfl (Nat.zero_le _) ?_
  refine ⟨rfl, ((((((((zfr.rf.wA _ (by decide)).wA _ (by decide)).wA _ (by decide)).wA _ (by decide)).wA _ (by decide)).wA _ (by decide)).wA _ (by decide)).wA _ (by decide)).wA _ (by decide), by simp [zwA_1], by simp [zwA_1], by simp [zwA_1], fun u hu => ?_, fun u hu h0 => ?_, ⟨by simp [zwA_1], stN_same (fun i hi => ?_) k6⟩, ⟨by simp [zwA_1], stN_same (fun i hi => ?_) k7⟩, fun u hu => ?_⟩
  · by_cases e : u = v
    · subst e
      simp [zwA_1, ko_U]
    · simp [zwA_1, ko_U, e, k4 u hu]
  · by_cases e : u = v
    · subst e
      simp [zwA_1, ko_U]
    · rw [ko_U_n _ _ e] at h0
      obtain ⟨q1, q2⟩ := k5 u hu h0
      simp [zwA_1, ko_U, e, q1, q2]
  · simp [zwA_1, show i ≠ walk.length by omega]
  · simp [zwA_1, show i ≠ held.length by omega]
  · by_cases e : u = v
    · subst e
      simp [zwA_1, zb]
    · simp [zwA_1, e, k8 u hu]
theorem m_KN_self {v T : Nat} (hv : v < 192) (σ : zS) {p : Nat} (hp : jn σ (v / 32) (v / 32) = true → σ.1 31 ((v / 32 * 6 + v / 32) * 32 + v % 32) = nI p ∧ p < 32) : zM yKN_goesToItself cKN_goesToItself 4 (some .boolean) 1 30 0 [.ref 19, .int (nI v)] σ (fun r σ2 => σ2 = σ ∧ ∃ b : Bool, r = some (.int (zb b)) ∧ (b = true ↔ (jn σ (v / 32) (v / 32) = true ∧ p = v % 32))) (fun _ _ => False) := by
  refine zM.of [some (.ref 19), some (.int (nI v)), none, none] (by decide) 2 rfl (fun _ => Nat.le_of_ble_eq_true rfl) (fun Z hR => ?_)
  have h6 : v / 32 < 6 := by omega
  have hv32 : v % 32 < 32 := by omega
  cases e : jn σ (v / 32) (v / 32) with
  | false =>
    refine z_iload_n hR dKN_goesToItself_0 (n := 1) rfl rfl ?_
    refine z_bipush hR dKN_goesToItself_1 (v := nI 32) (n := 3) rfl rfl ?_
    refine z_idivN hR dKN_goesToItself_3 (n := 4) rfl (by omega) (by omega) (by omega) ?_
    refine z_istore_n hR dKN_goesToItself_4 (n := 5) rfl (by decide) rfl ?_
    refine z_iload_n hR dKN_goesToItself_5 (n := 6) rfl rfl ?_
    refine z_bipush hR dKN_goesToItself_6 (v := nI 32) (n := 8) rfl rfl ?_
    refine z_iremN hR dKN_goesToItself_8 (n := 9) rfl (by omega) (by omega) (by omega) ?_
    refine z_istore_n hR dKN_goesToItself_9 (n := 10) rfl (by decide) rfl ?_
    refine z_aload_n hR dKN_goesToItself_10 (n := 11) rfl rfl ?_
    refine z_getR hR dKN_goesToItself_11 (n := 14) rfl zgKN_12 (by decide) rfl rfl ?_
    refine z_getR hR dKN_goesToItself_14 (n := 17) rfl zgKN_79 (by decide) rfl rfl ?_
    refine z_iload_n hR dKN_goesToItself_17 (n := 18) rfl rfl ?_
    refine z_iload_n hR dKN_goesToItself_18 (n := 19) rfl rfl ?_
    refine z_callV2 hR dKN_goesToItself_19 (n := 22) rfl zcKN_83 zkST_joins (by decide) (Nat.le_of_ble_eq_true rfl) (by decide) rfl rfl (Nat.zero_le _) (m_ST_jn h6 h6 σ) (fun r19 s19 h19 => ?_)
    obtain ⟨rfl, e19⟩ := h19
    subst s19
    rw [e]
    refine z_if_eqB hR dKN_goesToItself_22 (t := 43) (n := 25) rfl rfl (fun h22 => ?_) (fun h22 => absurd h22 (by decide))
    refine z_iconst hR dKN_goesToItself_43 (v := 0) (n := 44) rfl rfl ?_
    refine z_zret hR dKN_goesToItself_44 rfl rfl (Nat.zero_le _) ?_
    exact ⟨rfl, false, rfl, by rw [e]; simp⟩
  | true =>
    obtain ⟨q1, q2⟩ := hp e
    refine z_iload_n hR dKN_goesToItself_0 (n := 1) rfl rfl ?_
    refine z_bipush hR dKN_goesToItself_1 (v := nI 32) (n := 3) rfl rfl ?_
    refine z_idivN hR dKN_goesToItself_3 (n := 4) rfl (by omega) (by omega) (by omega) ?_
    refine z_istore_n hR dKN_goesToItself_4 (n := 5) rfl (by decide) rfl ?_
    refine z_iload_n hR dKN_goesToItself_5 (n := 6) rfl rfl ?_
    refine z_bipush hR dKN_goesToItself_6 (v := nI 32) (n := 8) rfl rfl ?_
    refine z_iremN hR dKN_goesToItself_8 (n := 9) rfl (by omega) (by omega) (by omega) ?_
    refine z_istore_n hR dKN_goesToItself_9 (n := 10) rfl (by decide) rfl ?_
    refine z_aload_n hR dKN_goesToItself_10 (n := 11) rfl rfl ?_
    refine z_getR hR dKN_goesToItself_11 (n := 14) rfl zgKN_12 (by decide) rfl rfl ?_
    refine z_getR hR dKN_goesToItself_14 (n := 17) rfl zgKN_79 (by decide) rfl rfl ?_
    refine z_iload_n hR dKN_goesToItself_17 (n := 18) rfl rfl ?_
    refine z_iload_n hR dKN_goesToItself_18 (n := 19) rfl rfl ?_
    refine z_callV2 hR dKN_goesToItself_19 (n := 22) rfl zcKN_83 zkST_joins (by decide) (Nat.le_of_ble_eq_true rfl) (by decide) rfl rfl (Nat.zero_le _) (m_ST_jn h6 h6 σ) (fun r19 s19 h19 => ?_)
    obtain ⟨rfl, e19⟩ := h19
    subst s19
    rw [e]
    refine z_if_eqB hR dKN_goesToItself_22 (t := 43) (n := 25) rfl rfl (fun h22 => absurd h22 (by decide)) (fun h22 => ?_)
    refine z_aload_n hR dKN_goesToItself_25 (n := 26) rfl rfl ?_
    refine z_getR hR dKN_goesToItself_26 (n := 29) rfl zgKN_12 (by decide) rfl rfl ?_
    refine z_iload_n hR dKN_goesToItself_29 (n := 30) rfl rfl ?_
    refine z_iload_n hR dKN_goesToItself_30 (n := 31) rfl rfl ?_
    refine z_iload_n hR dKN_goesToItself_31 (n := 32) rfl rfl ?_
    refine z_callV3 hR dKN_goesToItself_32 (n := 35) rfl zcKN_89 zkGR_guessBefore (by decide) (Nat.le_of_ble_eq_true rfl) (by decide) rfl rfl (Nat.zero_le _) (m_GR_guessBefore h6 h6 hv32 σ) (fun r32 s32 h32 => ?_)
    obtain ⟨rfl, e32⟩ := h32
    subst s32
    rw [q1]
    refine z_iload_n hR dKN_goesToItself_35 (n := 36) rfl rfl ?_
    refine z_icmp_neN hR dKN_goesToItself_36 (t := 43) (n := 39) rfl rfl (by omega) (by omega) (fun h36 => ?_) (fun h36 => ?_)
    · refine z_iconst hR dKN_goesToItself_43 (v := 0) (n := 44) rfl rfl ?_
      refine z_zret hR dKN_goesToItself_44 rfl rfl (Nat.zero_le _) ?_
      first
        | exact ⟨rfl, false, rfl, ⟨fun w => absurd w (by decide), fun w => absurd w.2 h36⟩⟩
        | exact ⟨rfl, true, rfl, ⟨fun _ => ⟨e, h36⟩, fun _ => rfl⟩⟩
    · refine z_iconst hR dKN_goesToItself_39 (v := 1) (n := 40) rfl rfl ?_
      refine z_goto hR dKN_goesToItself_40 (t := 44) rfl ?_
      refine z_zret hR dKN_goesToItself_44 rfl rfl (Nat.zero_le _) ?_
      first
        | exact ⟨rfl, false, rfl, ⟨fun w => absurd w (by decide), fun w => absurd w.2 h36⟩⟩
        | exact ⟨rfl, true, rfl, ⟨fun _ => ⟨e, h36⟩, fun _ => rfl⟩⟩
theorem m_KN_prompt {T : Nat} (hT : T ≤ 5) (σ : zS) (ht : σ.1 34 4 = nI T) : zM yKN_isPrompt cKN_isPrompt 4 (some .boolean) 0 0 0 [.ref 19] σ (fun r σ2 => σ2 = σ ∧ ∃ b : Bool, r = some (.int (zb b)) ∧ (b = true ↔ ∀ k, k < T → ∃ s g, s < 6 ∧ g < 32 ∧ tb (σ.1 27 s) g = true ∧ prA (σ.1 33) k s g = true)) (fun _ _ => False) := by
  refine zM.of [some (.ref 19), none, none, none] (by decide) 3 rfl (fun _ => Nat.le_of_ble_eq_true rfl) (fun Z hR => ?_)
  have key : ∀ (m i : Nat) (l2 l3 : Option Value), i + m = T → (∀ k, k < i → ∃ s g, s < 6 ∧ g < 32 ∧ tb (σ.1 27 s) g = true ∧ prA (σ.1 33) k s g = true) → Z 0 2 [some (.ref 19), some (.int (nI i)), l2, l3] [] σ := by
    intro m
    induction m with
    | zero =>
      intro i l2 l3 hi h
      obtain rfl : i = T := by omega
      refine z_iload_n hR dKN_isPrompt_2 (n := 3) rfl rfl ?_
      refine z_aload_n hR dKN_isPrompt_3 (n := 4) rfl rfl ?_
      refine z_getR hR dKN_isPrompt_4 (n := 7) rfl zgKN_12 (by decide) rfl rfl ?_
      refine z_getR hR dKN_isPrompt_7 (n := 10) rfl zgKN_101 (by decide) rfl rfl ?_
      refine z_getI hR dKN_isPrompt_10 (n := 13) rfl zgKN_105 (by decide) rfl rfl ?_
      rw [ht]
      refine z_icmp_geN hR dKN_isPrompt_13 (t := 67) (n := 16) rfl rfl (by omega) (by omega) (fun h13 => ?_) (fun h13 => absurd h13 (by omega))
      refine z_iconst hR dKN_isPrompt_67 (v := 1) (n := 68) rfl rfl ?_
      refine z_zret hR dKN_isPrompt_68 rfl rfl (Nat.zero_le _) ?_
      exact ⟨rfl, true, rfl, ⟨fun _ => h, fun _ => rfl⟩⟩
    | succ m ih =>
      intro i l2 l3 hi h
      have key2 : ∀ (w s : Nat) (e : Int32), s + w = 6 → (∀ g, g < 32 → (tb e g = true ↔ ∃ q, q < s ∧ tb (σ.1 27 q) g = true ∧ prA (σ.1 33) i q g = true)) → Z 0 20 [some (.ref 19), some (.int (nI i)), some (.int e), some (.int (nI s))] [] σ := by
        intro w
        induction w with
        | zero =>
          intro s e hs he
          obtain rfl : s = 6 := by omega
          by_cases e0 : e = 0
          ·
            refine z_iload_n hR dKN_isPrompt_20 (n := 21) rfl rfl ?_
            refine z_bipush hR dKN_isPrompt_21 (v := nI 6) (n := 23) rfl rfl ?_
            refine z_icmp_geN hR dKN_isPrompt_23 (t := 55) (n := 26) rfl rfl (by omega) (by omega) (fun h23 => ?_) (fun h23 => absurd h23 (by omega))
            refine z_iload_n hR dKN_isPrompt_55 (n := 56) rfl rfl ?_
            refine z_if_ne hR dKN_isPrompt_56 (t := 61) (n := 59) rfl rfl (fun h56 => absurd h56 (fun w => w e0)) (fun _ => ?_)
            refine z_iconst hR dKN_isPrompt_59 (v := 0) (n := 60) rfl rfl ?_
            refine z_zret hR dKN_isPrompt_60 rfl rfl (Nat.zero_le _) ?_
            refine ⟨rfl, false, rfl, ⟨fun w => absurd w (by decide), fun w => ?_⟩⟩
            obtain ⟨q, g, q1, q2, q3, q4⟩ := w i (by omega)
            have := (he g q2).mpr ⟨q, q1, q3, q4⟩
            rw [e0, tb_0] at this
            exact absurd this (by decide)
          ·
            have hx : ∃ g, g < 32 ∧ tb e g = true := Classical.byContradiction (fun hn => e0 (tb_ext (fun g hg => by
              rw [tb_0]
              cases q : tb e g with
              | false => rfl
              | true => exact absurd ⟨g, hg, q⟩ hn)))
            obtain ⟨g, hg, hb⟩ := hx
            obtain ⟨q, q1, q2, q3⟩ := (he g hg).mp hb
            refine z_iload_n hR dKN_isPrompt_20 (n := 21) rfl rfl ?_
            refine z_bipush hR dKN_isPrompt_21 (v := nI 6) (n := 23) rfl rfl ?_
            refine z_icmp_geN hR dKN_isPrompt_23 (t := 55) (n := 26) rfl rfl (by omega) (by omega) (fun h23 => ?_) (fun h23 => absurd h23 (by omega))
            refine z_iload_n hR dKN_isPrompt_55 (n := 56) rfl rfl ?_
            refine z_if_ne hR dKN_isPrompt_56 (t := 61) (n := 59) rfl rfl (fun _ => ?_) (fun h56 => absurd h56 e0)
            refine z_iincN hR 1 dKN_isPrompt_61 (n := 64) rfl rfl (by decide) rfl rfl ?_
            refine z_goto hR dKN_isPrompt_64 (t := 2) rfl ?_
            exact ih (i + 1) _ _ (by omega) (fun k hk => by
              by_cases e1 : k = i
              · subst e1
                exact ⟨q, g, q1, hg, q2, q3⟩
              · exact h k (by omega))
        | succ w ihw =>
          intro s e hs he
          refine z_iload_n hR dKN_isPrompt_20 (n := 21) rfl rfl ?_
          refine z_bipush hR dKN_isPrompt_21 (v := nI 6) (n := 23) rfl rfl ?_
          refine z_icmp_geN hR dKN_isPrompt_23 (t := 55) (n := 26) rfl rfl (by omega) (by omega) (fun h23 => absurd h23 (by omega)) (fun h23 => ?_)
          refine z_iload_n hR dKN_isPrompt_26 (n := 27) rfl rfl ?_
          refine z_aload_n hR dKN_isPrompt_27 (n := 28) rfl rfl ?_
          refine z_getR hR dKN_isPrompt_28 (n := 31) rfl zgKN_41 (by decide) rfl rfl ?_
          refine z_iload_n hR dKN_isPrompt_31 (n := 32) rfl rfl ?_
          refine z_iald hR (_) dKN_isPrompt_32 (n := 33) rfl (by decide) rfl (by decide) rfl (by omega) ?_
          refine z_aload_n hR dKN_isPrompt_33 (n := 34) rfl rfl ?_
          refine z_getR hR dKN_isPrompt_34 (n := 37) rfl zgKN_12 (by decide) rfl rfl ?_
          refine z_getR hR dKN_isPrompt_37 (n := 40) rfl zgKN_110 (by decide) rfl rfl ?_
          refine z_iload_n hR dKN_isPrompt_40 (n := 41) rfl rfl ?_
          refine z_iconst hR dKN_isPrompt_41 (v := nI 5) (n := 42) rfl rfl ?_
          refine z_imulN hR dKN_isPrompt_42 (n := 43) rfl ?_
          refine z_iload_n hR dKN_isPrompt_43 (n := 44) rfl rfl ?_
          refine z_iaddN hR dKN_isPrompt_44 (n := 45) rfl ?_
          refine z_iald hR (_) dKN_isPrompt_45 (n := 46) rfl (by decide) rfl (by decide) rfl (by omega) ?_
          refine z_iand hR dKN_isPrompt_46 (n := 47) rfl ?_
          refine z_ior hR dKN_isPrompt_47 (n := 48) rfl ?_
          refine z_istore_n hR dKN_isPrompt_48 (n := 49) rfl (by decide) rfl ?_
          refine z_iincN hR 1 dKN_isPrompt_49 (n := 52) rfl rfl (by decide) rfl rfl ?_
          refine z_goto hR dKN_isPrompt_52 (t := 20) rfl ?_
          refine ihw (s + 1) _ (by omega) (fun g hg => ?_)
          rw [tb_or, tb_and, Bool.or_eq_true, Bool.and_eq_true, he g hg]
          constructor
          · rintro (⟨q, q1, q2⟩ | q2)
            · exact ⟨q, by omega, q2⟩
            · exact ⟨s, by omega, q2⟩
          · rintro ⟨q, q1, q2⟩
            by_cases e1 : q = s
            · subst e1
              exact Or.inr q2
            · exact Or.inl ⟨q, by omega, q2⟩
      refine z_iload_n hR dKN_isPrompt_2 (n := 3) rfl rfl ?_
      refine z_aload_n hR dKN_isPrompt_3 (n := 4) rfl rfl ?_
      refine z_getR hR dKN_isPrompt_4 (n := 7) rfl zgKN_12 (by decide) rfl rfl ?_
      refine z_getR hR dKN_isPrompt_7 (n := 10) rfl zgKN_101 (by decide) rfl rfl ?_
      refine z_getI hR dKN_isPrompt_10 (n := 13) rfl zgKN_105 (by decide) rfl rfl ?_
      rw [ht]
      refine z_icmp_geN hR dKN_isPrompt_13 (t := 67) (n := 16) rfl rfl (by omega) (by omega) (fun h13 => absurd h13 (by omega)) (fun h13 => ?_)
      refine z_iconst hR dKN_isPrompt_16 (v := 0) (n := 17) rfl rfl ?_
      refine z_istore_n hR dKN_isPrompt_17 (n := 18) rfl (by decide) rfl ?_
      refine z_iconst hR dKN_isPrompt_18 (v := nI 0) (n := 19) rfl rfl ?_
      refine z_istore_n hR dKN_isPrompt_19 (n := 20) rfl (by decide) rfl ?_
      exact key2 6 0 0 (by omega) (fun g hg => ⟨fun h => by rw [tb_0] at h; exact absurd h (by decide), fun ⟨q, h, _⟩ => absurd h (by omega)⟩)
  refine z_iconst hR dKN_isPrompt_0 (v := nI 0) (n := 1) rfl rfl ?_
  refine z_istore_n hR dKN_isPrompt_1 (n := 2) rfl (by decide) rfl ?_
  exact key T 0 _ _ (by omega) (fun k hk => absurd hk (by omega))
theorem m_KN_startAnew (σ : zS) : zM yKN_startAnew cKN_startAnew 2 none 0 0 0 [.ref 19] σ (fun r σ2 => r = none ∧ zfr [19, 20, 21, 26] σ σ2 ∧ (∀ low td, kS σ2 (fun _ => 0) low td 0 [] []) ∧ ∀ s, s < 6 → σ2.1 20 s = 0) (fun _ _ => False) := by
  refine zM.of [some (.ref 19), none] (by decide) 1 rfl (fun _ => Nat.le_of_ble_eq_true rfl) (fun Z hR => ?_)
  have key2 : ∀ (m i : Nat) (τ : zS), i + m = 192 → zfr [19, 20, 21, 26] σ τ → τ.1 19 3 = 0 → τ.1 19 7 = 0 → τ.1 19 9 = 0 → (∀ s, s < 6 → τ.1 20 s = 0) → (∀ v, v < i → τ.1 21 v = 0 ∧ τ.1 26 v = 0) → Z 0 38 [some (.ref 19), some (.int (nI i))] [] τ := by
    intro m
    induction m with
    | zero =>
      intro i τ hi hf g3 g7 g9 g20 h
      refine z_iload_n hR dKN_startAnew_38 (n := 39) rfl rfl ?_
      refine z_sipush hR dKN_startAnew_39 (v := nI 192) (n := 42) rfl rfl ?_
      refine z_icmp_geN hR dKN_startAnew_42 (t := 65) (n := 45) rfl rfl (by omega) (by omega) (fun h42 => ?_) (fun h42 => absurd h42 (by omega))
      refine z_vret hR dKN_startAnew_65 rfl (Nat.zero_le _) ?_
      exact ⟨rfl, hf, fun low td => ⟨g3, g7, g9, fun v hv => (h v (by omega)).1, fun v hv h0 => absurd rfl h0, trivial, trivial, fun v hv => by rw [(h v (by omega)).2]; simp [zb]⟩, g20⟩
    | succ m ih =>
      intro i τ hi hf g3 g7 g9 g20 h
      refine z_iload_n hR dKN_startAnew_38 (n := 39) rfl rfl ?_
      refine z_sipush hR dKN_startAnew_39 (v := nI 192) (n := 42) rfl rfl ?_
      refine z_icmp_geN hR dKN_startAnew_42 (t := 65) (n := 45) rfl rfl (by omega) (by omega) (fun h42 => absurd h42 (by omega)) (fun h42 => ?_)
      refine z_aload_n hR dKN_startAnew_45 (n := 46) rfl rfl ?_
      refine z_getR hR dKN_startAnew_46 (n := 49) rfl zgKN_22 (by decide) rfl rfl ?_
      refine z_iload_n hR dKN_startAnew_49 (n := 50) rfl rfl ?_
      refine z_iconst hR dKN_startAnew_50 (v := 0) (n := 51) rfl rfl ?_
      refine z_iast hR (_) dKN_startAnew_51 (n := 52) rfl (by decide) rfl (by decide) rfl (by omega) ?_
      refine z_aload_n hR dKN_startAnew_52 (n := 53) rfl rfl ?_
      refine z_getR hR dKN_startAnew_53 (n := 56) rfl zgKN_37 (by decide) rfl rfl ?_
      refine z_iload_n hR dKN_startAnew_56 (n := 57) rfl rfl ?_
      refine z_iconst hR dKN_startAnew_57 (v := 0) (n := 58) rfl rfl ?_
      refine z_zast hR (_) dKN_startAnew_58 (n := 59) rfl (by decide) rfl (by decide) rfl (by omega) ?_
      rw [show vp_nar .boolean (0 : Int32) = 0 from rfl]
      refine z_iincN hR 1 dKN_startAnew_59 (n := 62) rfl rfl (by decide) rfl rfl ?_
      refine z_goto hR dKN_startAnew_62 (t := 38) rfl ?_
      refine ih (i + 1) _ (by omega) ((hf.wA _ (by decide)).wA _ (by decide)) (by simpa [zwA_1] using g3) (by simpa [zwA_1] using g7) (by simpa [zwA_1] using g9) (fun s hs => by simpa [zwA_1] using g20 s hs) (fun v hv => ?_)
      by_cases e : v = i
      · subst e
        simp [zwA_1]
      · simpa [zwA_1, e] using h v (by omega)
  have key : ∀ (m i : Nat) (τ : zS), i + m = 6 → zfr [19, 20, 21, 26] σ τ → τ.1 19 3 = 0 → τ.1 19 7 = 0 → τ.1 19 9 = 0 → (∀ s, s < i → τ.1 20 s = 0) → Z 0 17 [some (.ref 19), some (.int (nI i))] [] τ := by
    intro m
    induction m with
    | zero =>
      intro i τ hi hf g3 g7 g9 g20
      refine z_iload_n hR dKN_startAnew_17 (n := 18) rfl rfl ?_
      refine z_bipush hR dKN_startAnew_18 (v := nI 6) (n := 20) rfl rfl ?_
      refine z_icmp_geN hR dKN_startAnew_20 (t := 36) (n := 23) rfl rfl (by omega) (by omega) (fun h20 => ?_) (fun h20 => absurd h20 (by omega))
      refine z_iconst hR dKN_startAnew_36 (v := nI 0) (n := 37) rfl rfl ?_
      refine z_istore_n hR dKN_startAnew_37 (n := 38) rfl (by decide) rfl ?_
      exact key2 192 0 _ (by omega) hf g3 g7 g9 (fun s hs => g20 s (by omega)) (fun v hv => absurd hv (by omega))
    | succ m ih =>
      intro i τ hi hf g3 g7 g9 g20
      refine z_iload_n hR dKN_startAnew_17 (n := 18) rfl rfl ?_
      refine z_bipush hR dKN_startAnew_18 (v := nI 6) (n := 20) rfl rfl ?_
      refine z_icmp_geN hR dKN_startAnew_20 (t := 36) (n := 23) rfl rfl (by omega) (by omega) (fun h20 => absurd h20 (by omega)) (fun h20 => ?_)
      refine z_aload_n hR dKN_startAnew_23 (n := 24) rfl rfl ?_
      refine z_getR hR dKN_startAnew_24 (n := 27) rfl zgKN_18 (by decide) rfl rfl ?_
      refine z_iload_n hR dKN_startAnew_27 (n := 28) rfl rfl ?_
      refine z_iconst hR dKN_startAnew_28 (v := 0) (n := 29) rfl rfl ?_
      refine z_iast hR (_) dKN_startAnew_29 (n := 30) rfl (by decide) rfl (by decide) rfl (by omega) ?_
      refine z_iincN hR 1 dKN_startAnew_30 (n := 33) rfl rfl (by decide) rfl rfl ?_
      refine z_goto hR dKN_startAnew_33 (t := 17) rfl ?_
      refine ih (i + 1) _ (by omega) (hf.wA _ (by decide)) (by simpa [zwA_1] using g3) (by simpa [zwA_1] using g7) (by simpa [zwA_1] using g9) (fun s hs => ?_)
      by_cases e : s = i
      · subst e
        simp [zwA_1]
      · simpa [zwA_1, e] using g20 s (by omega)
  refine z_aload_n hR dKN_startAnew_0 (n := 1) rfl rfl ?_
  refine z_iconst hR dKN_startAnew_1 (v := 0) (n := 2) rfl rfl ?_
  refine z_putI hR dKN_startAnew_2 (n := 5) rfl zpKN_54 (by decide) rfl rfl ?_
  refine z_aload_n hR dKN_startAnew_5 (n := 6) rfl rfl ?_
  refine z_iconst hR dKN_startAnew_6 (v := 0) (n := 7) rfl rfl ?_
  refine z_putI hR dKN_startAnew_7 (n := 10) rfl zpKN_57 (by decide) rfl rfl ?_
  refine z_aload_n hR dKN_startAnew_10 (n := 11) rfl rfl ?_
  refine z_iconst hR dKN_startAnew_11 (v := 0) (n := 12) rfl rfl ?_
  refine z_putI hR dKN_startAnew_12 (n := 15) rfl zpKN_60 (by decide) rfl rfl ?_
  refine z_iconst hR dKN_startAnew_15 (v := nI 0) (n := 16) rfl rfl ?_
  refine z_istore_n hR dKN_startAnew_16 (n := 17) rfl (by decide) rfl ?_
  exact key 6 0 _ (by omega) (((zfr.rf.wA _ (by decide)).wA _ (by decide)).wA _ (by decide)) (by simp [zwA_1]) (by simp [zwA_1]) (by simp [zwA_1]) (fun s hs => absurd hs (by omega))
/-- the steps of the walk by the graph's rows -/
def gP (σ : zS) (T : Nat) : Prop := ∀ s t, s < 6 → t < 6 → jn σ s t = true → ∀ g, g < 2 ^ T → σ.1 31 ((s * 6 + t) * 32 + g) = nI (preA (σ.1 31) s t g) ∧ preA (σ.1 31) s t g < 2 ^ T
theorem kS_len {σ : zS} {sc : Nat → Nat → Option Nat} {num low td : Nat → Nat} {cnt : Nat} {held walk : List Nat} (h : ko_I sc num low td cnt held walk) : walk.length ≤ cnt ∧ held.length ≤ cnt := by
  obtain ⟨i1, i2, i3, i4, i5, i6, i7⟩ := h
  exact ⟨pw_len i6 (fun v hv => i3 v (i5 v hv)) (fun v _ => i1 v), pw_len i4 i3 (fun v _ => i1 v)⟩
/-- a step is tried -/
theorem m_KN_tryStep {T i v : Nat} (hT : T ≤ 5) (hi : i < 6) (hv : v < 192) (hvg : v % 32 < 2 ^ T) {num low td : Nat → Nat} {cnt : Nat} {held walk : List Nat} (hroom : ∀ u, u < 192 → num u = 0 → walk.length < 192 ∧ held.length < 192) (hlow : ∀ u, num u ≠ 0 → num u < 2 ^ 31) (b1 : low v < 2 ^ 31) (hnv : num v ≠ 0) (σ : zS) (hS : kS σ num low td cnt held walk) (hg : gP σ T) : zM yKN_tryStep cKN_tryStep 5 none 1 40 0 [.ref 19, .int (nI i), .int (nI v)] σ (fun r σ2 => r = none ∧ ((jn σ i (v / 32) = false ∧ σ2 = σ) ∨ (jn σ i (v / 32) = true ∧ ∃ u, u = 32 * i + preA (σ.1 31) i (v / 32) (v % 32) ∧ u < 192 ∧ u % 32 < 2 ^ T ∧ ((num u = 0 ∧ zfr [19, 21, 22, 23, 24, 25, 26] σ σ2 ∧ kS σ2 (ko_U num u (cnt + 1)) (ko_U low u (cnt + 1)) (ko_U td u 0) (cnt + 1) (u :: held) (u :: walk)) ∨ (num u ≠ 0 ∧ u ∉ held ∧ σ2 = σ) ∨ (num u ≠ 0 ∧ u ∈ held ∧ zfr [22] σ σ2 ∧ kS σ2 num (ko_U low v (min (low v) (num u))) td cnt held walk))))) (fun _ _ => False) := by
  refine zM.of [some (.ref 19), some (.int (nI i)), some (.int (nI v)), none, none] (by decide) 2 rfl (fun _ => Nat.le_of_ble_eq_true rfl) (fun Z hR => ?_)
  have p2 := p2_le hT
  have h6 : v / 32 < 6 := by omega
  have hv32 : v % 32 < 32 := by omega
  have hS0 := hS
  obtain ⟨k1, k2, k3, k4, k5, k6, k7, k8⟩ := hS
  cases e : jn σ i (v / 32) with
  | false =>
    refine z_iload_n hR dKN_tryStep_0 (n := 1) rfl rfl ?_
    refine z_bipush hR dKN_tryStep_1 (v := nI 32) (n := 3) rfl rfl ?_
    refine z_idivN hR dKN_tryStep_3 (n := 4) rfl (by omega) (by omega) (by omega) ?_
    refine z_istore_n hR dKN_tryStep_4 (n := 5) rfl (by decide) rfl ?_
    refine z_aload_n hR dKN_tryStep_5 (n := 6) rfl rfl ?_
    refine z_getR hR dKN_tryStep_6 (n := 9) rfl zgKN_12 (by decide) rfl rfl ?_
    refine z_getR hR dKN_tryStep_9 (n := 12) rfl zgKN_79 (by decide) rfl rfl ?_
    refine z_iload_n hR dKN_tryStep_12 (n := 13) rfl rfl ?_
    refine z_iload_n hR dKN_tryStep_13 (n := 14) rfl rfl ?_
    refine z_callV2 hR dKN_tryStep_14 (n := 17) rfl zcKN_83 zkST_joins (by decide) (Nat.le_of_ble_eq_true rfl) (by decide) rfl rfl (Nat.zero_le _) (m_ST_jn hi h6 σ) (fun r14 s14 h14 => ?_)
    obtain ⟨rfl, e14⟩ := h14
    subst s14
    rw [e]
    refine z_if_neB hR dKN_tryStep_17 (t := 21) (n := 20) rfl rfl (fun h17 => absurd h17 (by decide)) (fun h17 => ?_)
    refine z_vret hR dKN_tryStep_20 rfl (Nat.zero_le _) ?_
    exact ⟨rfl, Or.inl ⟨e, rfl⟩⟩
  | true =>
    obtain ⟨q1, q2⟩ := hg i (v / 32) hi h6 e (v % 32) hvg
    generalize hp : preA (σ.1 31) i (v / 32) (v % 32) = p at q1 q2
    have hu : i * 32 + p < 192 := by omega
    have hu2 : (i * 32 + p) % 32 < 2 ^ T := by omega
    have hue : i * 32 + p = 32 * i + preA (σ.1 31) i (v / 32) (v % 32) := by
      rw [hp]
      omega
    by_cases h0 : num (i * 32 + p) = 0
    ·
      refine z_iload_n hR dKN_tryStep_0 (n := 1) rfl rfl ?_
      refine z_bipush hR dKN_tryStep_1 (v := nI 32) (n := 3) rfl rfl ?_
      refine z_idivN hR dKN_tryStep_3 (n := 4) rfl (by omega) (by omega) (by omega) ?_
      refine z_istore_n hR dKN_tryStep_4 (n := 5) rfl (by decide) rfl ?_
      refine z_aload_n hR dKN_tryStep_5 (n := 6) rfl rfl ?_
      refine z_getR hR dKN_tryStep_6 (n := 9) rfl zgKN_12 (by decide) rfl rfl ?_
      refine z_getR hR dKN_tryStep_9 (n := 12) rfl zgKN_79 (by decide) rfl rfl ?_
      refine z_iload_n hR dKN_tryStep_12 (n := 13) rfl rfl ?_
      refine z_iload_n hR dKN_tryStep_13 (n := 14) rfl rfl ?_
      refine z_callV2 hR dKN_tryStep_14 (n := 17) rfl zcKN_83 zkST_joins (by decide) (Nat.le_of_ble_eq_true rfl) (by decide) rfl rfl (Nat.zero_le _) (m_ST_jn hi h6 σ) (fun r14 s14 h14 => ?_)
      obtain ⟨rfl, e14⟩ := h14
      subst s14
      rw [e]
      refine z_if_neB hR dKN_tryStep_17 (t := 21) (n := 20) rfl rfl (fun h17 => ?_) (fun h17 => absurd h17 (by decide))
      refine z_iload_n hR dKN_tryStep_21 (n := 22) rfl rfl ?_
      refine z_bipush hR dKN_tryStep_22 (v := nI 32) (n := 24) rfl rfl ?_
      refine z_imulN hR dKN_tryStep_24 (n := 25) rfl ?_
      refine z_aload_n hR dKN_tryStep_25 (n := 26) rfl rfl ?_
      refine z_getR hR dKN_tryStep_26 (n := 29) rfl zgKN_12 (by decide) rfl rfl ?_
      refine z_iload_n hR dKN_tryStep_29 (n := 30) rfl rfl ?_
      refine z_iload_n hR dKN_tryStep_30 (n := 31) rfl rfl ?_
      refine z_iload_n hR dKN_tryStep_31 (n := 32) rfl rfl ?_
      refine z_bipush hR dKN_tryStep_32 (v := nI 32) (n := 34) rfl rfl ?_
      refine z_iremN hR dKN_tryStep_34 (n := 35) rfl (by omega) (by omega) (by omega) ?_
      refine z_callV3 hR dKN_tryStep_35 (n := 38) rfl zcKN_89 zkGR_guessBefore (by decide) (Nat.le_of_ble_eq_true rfl) (by decide) rfl rfl (Nat.zero_le _) (m_GR_guessBefore hi h6 hv32 σ) (fun r35 s35 h35 => ?_)
      obtain ⟨rfl, e35⟩ := h35
      subst s35
      rw [q1]
      refine z_iaddN hR dKN_tryStep_38 (n := 39) rfl ?_
      refine z_istore hR dKN_tryStep_39 (n := 41) rfl (by decide) rfl ?_
      refine z_aload_n hR dKN_tryStep_41 (n := 42) rfl rfl ?_
      refine z_getR hR dKN_tryStep_42 (n := 45) rfl zgKN_22 (by decide) rfl rfl ?_
      refine z_iload hR dKN_tryStep_45 (n := 47) rfl rfl ?_
      refine z_iald hR (_) dKN_tryStep_47 (n := 48) rfl (by decide) rfl (by decide) rfl (by omega) ?_
      rw [k4 _ hu, h0]
      refine z_if_neN hR dKN_tryStep_48 (t := 60) (n := 51) rfl rfl (by omega) (fun h48 => absurd h48 (by omega)) (fun h48 => ?_)
      refine z_aload_n hR dKN_tryStep_51 (n := 52) rfl rfl ?_
      refine z_iload hR dKN_tryStep_52 (n := 54) rfl rfl ?_
      refine z_callV1 hR dKN_tryStep_54 (n := 57) rfl zcKN_63 zkKN_enter (by decide) (Nat.le_of_ble_eq_true rfl) (by decide) rfl rfl (Nat.zero_le _) (m_KN_enter hu (hroom _ hu h0).1 (hroom _ hu h0).2 σ hS0) (fun r54 s54 h54 => ?_)
      obtain ⟨rfl, ef, eS⟩ := h54
      refine z_goto hR dKN_tryStep_57 (t := 92) rfl ?_
      refine z_vret hR dKN_tryStep_92 rfl (Nat.zero_le _) ?_
      exact ⟨rfl, Or.inr ⟨e, _, hue, hu, hu2, Or.inl ⟨h0, ef, eS⟩⟩⟩
    ·
      have hb := hlow _ h0
      by_cases hm : (i * 32 + p) ∈ held
      ·
        obtain ⟨l1, l2⟩ := k5 v hv hnv
        refine z_iload_n hR dKN_tryStep_0 (n := 1) rfl rfl ?_
        refine z_bipush hR dKN_tryStep_1 (v := nI 32) (n := 3) rfl rfl ?_
        refine z_idivN hR dKN_tryStep_3 (n := 4) rfl (by omega) (by omega) (by omega) ?_
        refine z_istore_n hR dKN_tryStep_4 (n := 5) rfl (by decide) rfl ?_
        refine z_aload_n hR dKN_tryStep_5 (n := 6) rfl rfl ?_
        refine z_getR hR dKN_tryStep_6 (n := 9) rfl zgKN_12 (by decide) rfl rfl ?_
        refine z_getR hR dKN_tryStep_9 (n := 12) rfl zgKN_79 (by decide) rfl rfl ?_
        refine z_iload_n hR dKN_tryStep_12 (n := 13) rfl rfl ?_
        refine z_iload_n hR dKN_tryStep_13 (n := 14) rfl rfl ?_
        refine z_callV2 hR dKN_tryStep_14 (n := 17) rfl zcKN_83 zkST_joins (by decide) (Nat.le_of_ble_eq_true rfl) (by decide) rfl rfl (Nat.zero_le _) (m_ST_jn hi h6 σ) (fun r14 s14 h14 => ?_)
        obtain ⟨rfl, e14⟩ := h14
        subst s14
        rw [e]
        refine z_if_neB hR dKN_tryStep_17 (t := 21) (n := 20) rfl rfl (fun h17 => ?_) (fun h17 => absurd h17 (by decide))
        refine z_iload_n hR dKN_tryStep_21 (n := 22) rfl rfl ?_
        refine z_bipush hR dKN_tryStep_22 (v := nI 32) (n := 24) rfl rfl ?_
        refine z_imulN hR dKN_tryStep_24 (n := 25) rfl ?_
        refine z_aload_n hR dKN_tryStep_25 (n := 26) rfl rfl ?_
        refine z_getR hR dKN_tryStep_26 (n := 29) rfl zgKN_12 (by decide) rfl rfl ?_
        refine z_iload_n hR dKN_tryStep_29 (n := 30) rfl rfl ?_
        refine z_iload_n hR dKN_tryStep_30 (n := 31) rfl rfl ?_
        refine z_iload_n hR dKN_tryStep_31 (n := 32) rfl rfl ?_
        refine z_bipush hR dKN_tryStep_32 (v := nI 32) (n := 34) rfl rfl ?_
        refine z_iremN hR dKN_tryStep_34 (n := 35) rfl (by omega) (by omega) (by omega) ?_
        refine z_callV3 hR dKN_tryStep_35 (n := 38) rfl zcKN_89 zkGR_guessBefore (by decide) (Nat.le_of_ble_eq_true rfl) (by decide) rfl rfl (Nat.zero_le _) (m_GR_guessBefore hi h6 hv32 σ) (fun r35 s35 h35 => ?_)
        obtain ⟨rfl, e35⟩ := h35
        subst s35
        rw [q1]
        refine z_iaddN hR dKN_tryStep_38 (n := 39) rfl ?_
        refine z_istore hR dKN_tryStep_39 (n := 41) rfl (by decide) rfl ?_
        refine z_aload_n hR dKN_tryStep_41 (n := 42) rfl rfl ?_
        refine z_getR hR dKN_tryStep_42 (n := 45) rfl zgKN_22 (by decide) rfl rfl ?_
        refine z_iload hR dKN_tryStep_45 (n := 47) rfl rfl ?_
        refine z_iald hR (_) dKN_tryStep_47 (n := 48) rfl (by decide) rfl (by decide) rfl (by omega) ?_
        rw [k4 _ hu]
        refine z_if_neN hR dKN_tryStep_48 (t := 60) (n := 51) rfl rfl (by omega) (fun h48 => ?_) (fun h48 => absurd h48 (by omega))
        refine z_aload_n hR dKN_tryStep_60 (n := 61) rfl rfl ?_
        refine z_getR hR dKN_tryStep_61 (n := 64) rfl zgKN_37 (by decide) rfl rfl ?_
        refine z_iload hR dKN_tryStep_64 (n := 66) rfl rfl ?_
        refine z_zald hR (_) dKN_tryStep_66 (n := 67) rfl (by decide) rfl (by decide) rfl (by omega) ?_
        rw [k8 _ hu]
        refine z_if_eqB hR dKN_tryStep_67 (t := 92) (n := 70) rfl rfl (fun h67 => absurd h67 (by simp [hm])) (fun h67 => ?_)
        refine z_aload_n hR dKN_tryStep_70 (n := 71) rfl rfl ?_
        refine z_getR hR dKN_tryStep_71 (n := 74) rfl zgKN_25 (by decide) rfl rfl ?_
        refine z_iload_n hR dKN_tryStep_74 (n := 75) rfl rfl ?_
        refine z_aload_n hR dKN_tryStep_75 (n := 76) rfl rfl ?_
        refine z_getR hR dKN_tryStep_76 (n := 79) rfl zgKN_25 (by decide) rfl rfl ?_
        refine z_iload_n hR dKN_tryStep_79 (n := 80) rfl rfl ?_
        refine z_iald hR (_) dKN_tryStep_80 (n := 81) rfl (by decide) rfl (by decide) rfl (by omega) ?_
        rw [l1]
        refine z_aload_n hR dKN_tryStep_81 (n := 82) rfl rfl ?_
        refine z_getR hR dKN_tryStep_82 (n := 85) rfl zgKN_22 (by decide) rfl rfl ?_
        refine z_iload hR dKN_tryStep_85 (n := 87) rfl rfl ?_
        refine z_iald hR (_) dKN_tryStep_87 (n := 88) rfl (by decide) rfl (by decide) rfl (by omega) ?_
        rw [k4 _ hu]
        refine z_mmin hR dKN_tryStep_88 (n := 91) rfl kmKN_70 (by decide) (Nat.le_of_ble_eq_true rfl) (Nat.zero_le _) ?_
        rw [mn_nI b1 hb]
        refine z_iast hR (_) dKN_tryStep_91 (n := 92) rfl (by decide) rfl (by decide) rfl (by omega) ?_
        refine z_vret hR dKN_tryStep_92 rfl (Nat.zero_le _) ?_
        refine ⟨rfl, Or.inr ⟨e, _, hue, hu, hu2, Or.inr (Or.inr ⟨h0, hm, zfr.w1, ?_⟩)⟩⟩
        refine ⟨by simpa [zwA_1] using k1, by simpa [zwA_1] using k2, by simpa [zwA_1] using k3, fun u hu => by simpa [zwA_1] using k4 u hu, fun u hu h0 => ?_, stN_same (fun i _ => by simp [zwA_1]) k6, stN_same (fun i _ => by simp [zwA_1]) k7, fun u hu => by simpa [zwA_1] using k8 u hu⟩
        obtain ⟨r1, r2⟩ := k5 u hu h0
        by_cases e2 : u = v
        · subst e2
          simp [zwA_1, ko_U, r2]
        · simp [zwA_1, ko_U, e2, r1, r2]
      ·
        refine z_iload_n hR dKN_tryStep_0 (n := 1) rfl rfl ?_
        refine z_bipush hR dKN_tryStep_1 (v := nI 32) (n := 3) rfl rfl ?_
        refine z_idivN hR dKN_tryStep_3 (n := 4) rfl (by omega) (by omega) (by omega) ?_
        refine z_istore_n hR dKN_tryStep_4 (n := 5) rfl (by decide) rfl ?_
        refine z_aload_n hR dKN_tryStep_5 (n := 6) rfl rfl ?_
        refine z_getR hR dKN_tryStep_6 (n := 9) rfl zgKN_12 (by decide) rfl rfl ?_
        refine z_getR hR dKN_tryStep_9 (n := 12) rfl zgKN_79 (by decide) rfl rfl ?_
        refine z_iload_n hR dKN_tryStep_12 (n := 13) rfl rfl ?_
        refine z_iload_n hR dKN_tryStep_13 (n := 14) rfl rfl ?_
        refine z_callV2 hR dKN_tryStep_14 (n := 17) rfl zcKN_83 zkST_joins (by decide) (Nat.le_of_ble_eq_true rfl) (by decide) rfl rfl (Nat.zero_le _) (m_ST_jn hi h6 σ) (fun r14 s14 h14 => ?_)
        obtain ⟨rfl, e14⟩ := h14
        subst s14
        rw [e]
        refine z_if_neB hR dKN_tryStep_17 (t := 21) (n := 20) rfl rfl (fun h17 => ?_) (fun h17 => absurd h17 (by decide))
        refine z_iload_n hR dKN_tryStep_21 (n := 22) rfl rfl ?_
        refine z_bipush hR dKN_tryStep_22 (v := nI 32) (n := 24) rfl rfl ?_
        refine z_imulN hR dKN_tryStep_24 (n := 25) rfl ?_
        refine z_aload_n hR dKN_tryStep_25 (n := 26) rfl rfl ?_
        refine z_getR hR dKN_tryStep_26 (n := 29) rfl zgKN_12 (by decide) rfl rfl ?_
        refine z_iload_n hR dKN_tryStep_29 (n := 30) rfl rfl ?_
        refine z_iload_n hR dKN_tryStep_30 (n := 31) rfl rfl ?_
        refine z_iload_n hR dKN_tryStep_31 (n := 32) rfl rfl ?_
        refine z_bipush hR dKN_tryStep_32 (v := nI 32) (n := 34) rfl rfl ?_
        refine z_iremN hR dKN_tryStep_34 (n := 35) rfl (by omega) (by omega) (by omega) ?_
        refine z_callV3 hR dKN_tryStep_35 (n := 38) rfl zcKN_89 zkGR_guessBefore (by decide) (Nat.le_of_ble_eq_true rfl) (by decide) rfl rfl (Nat.zero_le _) (m_GR_guessBefore hi h6 hv32 σ) (fun r35 s35 h35 => ?_)
        obtain ⟨rfl, e35⟩ := h35
        subst s35
        rw [q1]
        refine z_iaddN hR dKN_tryStep_38 (n := 39) rfl ?_
        refine z_istore hR dKN_tryStep_39 (n := 41) rfl (by decide) rfl ?_
        refine z_aload_n hR dKN_tryStep_41 (n := 42) rfl rfl ?_
        refine z_getR hR dKN_tryStep_42 (n := 45) rfl zgKN_22 (by decide) rfl rfl ?_
        refine z_iload hR dKN_tryStep_45 (n := 47) rfl rfl ?_
        refine z_iald hR (_) dKN_tryStep_47 (n := 48) rfl (by decide) rfl (by decide) rfl (by omega) ?_
        rw [k4 _ hu]
        refine z_if_neN hR dKN_tryStep_48 (t := 60) (n := 51) rfl rfl (by omega) (fun h48 => ?_) (fun h48 => absurd h48 (by omega))
        refine z_aload_n hR dKN_tryStep_60 (n := 61) rfl rfl ?_
        refine z_getR hR dKN_tryStep_61 (n := 64) rfl zgKN_37 (by decide) rfl rfl ?_
        refine z_iload hR dKN_tryStep_64 (n := 66) rfl rfl ?_
        refine z_zald hR (_) dKN_tryStep_66 (n := 67) rfl (by decide) rfl (by decide) rfl (by omega) ?_
        rw [k8 _ hu]
        refine z_if_eqB hR dKN_tryStep_67 (t := 92) (n := 70) rfl rfl (fun h67 => ?_) (fun h67 => absurd h67 (by simp [hm]))
        refine z_vret hR dKN_tryStep_92 rfl (Nat.zero_le _) ?_
        exact ⟨rfl, Or.inr ⟨e, _, hue, hu, hu2, Or.inr (Or.inl ⟨h0, hm, rfl⟩)⟩⟩
/-- a set of nodes is let go -/
theorem m_KN_release {T w : Nat} (hT : T ≤ 5) {num low td : Nat → Nat} {cnt : Nat} {C rest walk : List Nat} (hnd : (C ++ w :: rest).Nodup) (hlt : ∀ u ∈ C ++ w :: rest, u < 192) (hlen : (C ++ w :: rest).length ≤ 192) (σ : zS) (hS : kS σ num low td cnt (C ++ w :: rest) walk) (ht : σ.1 34 4 = nI T) (hg : jn σ (w / 32) (w / 32) = true → σ.1 31 ((w / 32 * 6 + w / 32) * 32 + w % 32) = nI (preA (σ.1 31) (w / 32) (w / 32) (w % 32)) ∧ preA (σ.1 31) (w / 32) (w / 32) (w % 32) < 32) : zM yKN_release cKN_release 5 none 2 60 0 [.ref 19, .int (nI w)] σ (fun r σ2 => r = none ∧ zfr [19, 20, 26, 27] σ σ2 ∧ kS σ2 num low td cnt rest walk ∧ ∃ ok : Bool, (ok = true ↔ ((C ≠ [] ∨ (jn σ (w / 32) (w / 32) = true ∧ preA (σ.1 31) (w / 32) (w / 32) (w % 32) = w % 32)) ∧ ∀ k, k < T → ∃ u ∈ C ++ [w], prA (σ.1 33) k (u / 32) (u % 32) = true)) ∧ ∀ s, s < 6 → ∀ g, g < 32 → tb (σ2.1 20 s) g = (tb (σ.1 20 s) g || (ok && decide (32 * s + g ∈ C ++ [w])))) (fun _ _ => False) := by
  refine zM.of [some (.ref 19), some (.int (nI w)), none, none, none] (by decide) 3 rfl (fun _ => Nat.le_of_ble_eq_true rfl) (fun Z hR => ?_)
  have hw6 : w < 192 := hlt w (by simp)
  obtain ⟨k1, k2, k3, k4, k5, k6, k7, k8⟩ := hS
  -- the last loop: the knot's nodes are kept
  have key3 : ∀ (m s : Nat) (l2 : Option Value) (x3 : Int32) (τ : zS) (ok : Bool), s + m = 6 → zfr [19, 20, 26, 27] σ τ → kS τ num low td cnt rest walk → (ok = true ↔ ((C ≠ [] ∨ (jn σ (w / 32) (w / 32) = true ∧ preA (σ.1 31) (w / 32) (w / 32) (w % 32) = w % 32)) ∧ ∀ k, k < T → ∃ u ∈ C ++ [w], prA (σ.1 33) k (u / 32) (u % 32) = true)) → ok = true → (∀ s, s < 6 → ∀ g, g < 32 → tb (τ.1 27 s) g = decide (32 * s + g ∈ C ++ [w])) → (∀ q, q < 6 → ∀ g, g < 32 → tb (τ.1 20 q) g = (tb (σ.1 20 q) g || (decide (q < s) && decide (32 * q + g ∈ C ++ [w])))) → Z 0 141 [some (.ref 19), some (.int (nI w)), l2, some (.int x3), some (.int (nI s))] [] τ := by
    intro m
    induction m with
    | zero =>
      intro s l2 x3 τ ok hs hf hk h1 h2 h3 h4
      obtain rfl : s = 6 := by omega
      refine z_iload hR dKN_release_141 (n := 143) rfl rfl ?_
      refine z_bipush hR dKN_release_143 (v := nI 6) (n := 145) rfl rfl ?_
      refine z_icmp_geN hR dKN_release_145 (t := 171) (n := 148) rfl rfl (by omega) (by omega) (fun h145 => ?_) (fun h145 => absurd h145 (by omega))
      refine z_vret hR dKN_release_171 rfl (Nat.zero_le _) ?_
      refine ⟨rfl, hf, hk, ok, h1, fun q hq g hg => ?_⟩
      rw [h4 q hq g hg, h2, decide_eq_true hq]
    | succ m ih =>
      intro s l2 x3 τ ok hs hf hk h1 h2 h3 h4
      refine z_iload hR dKN_release_141 (n := 143) rfl rfl ?_
      refine z_bipush hR dKN_release_143 (v := nI 6) (n := 145) rfl rfl ?_
      refine z_icmp_geN hR dKN_release_145 (t := 171) (n := 148) rfl rfl (by omega) (by omega) (fun h145 => absurd h145 (by omega)) (fun h145 => ?_)
      refine z_aload_n hR dKN_release_148 (n := 149) rfl rfl ?_
      refine z_getR hR dKN_release_149 (n := 152) rfl zgKN_18 (by decide) rfl rfl ?_
      refine z_iload hR dKN_release_152 (n := 154) rfl rfl ?_
      refine z_dup2_11 hR dKN_release_154 (n := 155) rfl rfl rfl ?_
      refine z_iald hR (_) dKN_release_155 (n := 156) rfl (by decide) rfl (by decide) rfl (by omega) ?_
      refine z_aload_n hR dKN_release_156 (n := 157) rfl rfl ?_
      refine z_getR hR dKN_release_157 (n := 160) rfl zgKN_41 (by decide) rfl rfl ?_
      refine z_iload hR dKN_release_160 (n := 162) rfl rfl ?_
      refine z_iald hR (_) dKN_release_162 (n := 163) rfl (by decide) rfl (by decide) rfl (by omega) ?_
      refine z_ior hR dKN_release_163 (n := 164) rfl ?_
      refine z_iast hR (_) dKN_release_164 (n := 165) rfl (by decide) rfl (by decide) rfl (by omega) ?_
      refine z_iincN hR 1 dKN_release_165 (n := 168) rfl rfl (by decide) rfl rfl ?_
      refine z_goto hR dKN_release_168 (t := 141) rfl ?_
      refine ih (s + 1) _ _ _ ok (by omega) (hf.wA _ (by decide)) ?_ h1 h2 (fun q hq g hg => ?_) (fun q hq g hg => ?_)
      · obtain ⟨a1, a2, a3, a4, a5, a6, a7, a8⟩ := hk
        exact ⟨by simpa [zwA_1] using a1, by simpa [zwA_1] using a2, by simpa [zwA_1] using a3, fun u hu => by simpa [zwA_1] using a4 u hu, fun u hu h0 => by simpa [zwA_1] using a5 u hu h0, stN_same (fun i _ => by simp [zwA_1]) a6, stN_same (fun i _ => by simp [zwA_1]) a7, fun u hu => by simpa [zwA_1] using a8 u hu⟩
      · rw [zwA_n _ _ _ _ (by decide)]
        exact h3 q hq g hg
      · by_cases e : q = s
        · subst e
          rw [zwA_ss, tb_or, h4 q hq g hg, h3 q hq g hg]
          simp
        · rw [zwA_sn _ _ _ _ e, h4 q hq g hg]
          congr 1
          congr 1
          exact decide_eq_decide.mpr (by omega)
  -- behind the loop over the held ones
  have fin : ∀ (go : Bool) (x3 : Int32) (l4 : Option Value) (τ : zS), (go = true ↔ (C ≠ [] ∨ (jn σ (w / 32) (w / 32) = true ∧ preA (σ.1 31) (w / 32) (w / 32) (w % 32) = w % 32))) → zfr [19, 26, 27] σ τ → kS τ num low td cnt rest walk → (∀ s, s < 6 → ∀ g, g < 32 → tb (τ.1 27 s) g = decide (32 * s + g ∈ C ++ [w])) → Z 0 127 [some (.ref 19), some (.int (nI w)), some (.int (zb go)), some (.int x3), l4] [] τ := by
    intro go x3 l4 τ hgo hf hk hm
    have no : ∀ (ok : Bool), ok = false → (ok = true ↔ ((C ≠ [] ∨ (jn σ (w / 32) (w / 32) = true ∧ preA (σ.1 31) (w / 32) (w / 32) (w % 32) = w % 32)) ∧ ∀ k, k < T → ∃ u ∈ C ++ [w], prA (σ.1 33) k (u / 32) (u % 32) = true)) → ∀ l3 l4, Z 0 171 [some (.ref 19), some (.int (nI w)), some (.int (zb go)), l3, l4] [] τ := by
      intro ok h0 h1 l3 l4
      refine z_vret hR dKN_release_171 rfl (Nat.zero_le _) ?_
      refine ⟨rfl, hf.mo (by decide), hk, ok, h1, fun q hq g hg => ?_⟩
      rw [h0, hf.1 20 (by decide)]
      simp
    have hmem : ∀ k, (∃ s g, s < 6 ∧ g < 32 ∧ tb (τ.1 27 s) g = true ∧ prA (σ.1 33) k s g = true) ↔ ∃ u ∈ C ++ [w], prA (σ.1 33) k (u / 32) (u % 32) = true := by
      intro k
      constructor
      · rintro ⟨s, g, q1, q2, q3, q4⟩
        rw [hm s q1 g q2, decide_eq_true_iff] at q3
        refine ⟨_, q3, ?_⟩
        rw [show (32 * s + g) / 32 = s by omega, show (32 * s + g) % 32 = g by omega]
        exact q4
      · rintro ⟨u, q1, q2⟩
        have hu : u < 192 := hlt u (by
          simp at q1 ⊢
          rcases q1 with q | q
          · exact Or.inl q
          · exact Or.inr (Or.inl q))
        refine ⟨u / 32, u % 32, by omega, by omega, ?_, q2⟩
        rw [hm _ (by omega) _ (by omega), decide_eq_true_iff, show 32 * (u / 32) + u % 32 = u by omega]
        exact q1
    cases go with
    | false =>
      have hno : ¬ (C ≠ [] ∨ (jn σ (w / 32) (w / 32) = true ∧ preA (σ.1 31) (w / 32) (w / 32) (w % 32) = w % 32)) := fun q => absurd (hgo.mpr q) (by decide)
      refine z_iload_n hR dKN_release_127 (n := 128) rfl rfl ?_
      refine z_if_eqB hR dKN_release_128 (t := 171) (n := 131) rfl rfl (fun h128 => ?_) (fun h128 => absurd h128 (by decide))
      exact no false rfl ⟨fun q => absurd q (by decide), fun q => absurd q.1 hno⟩ _ _
    | true =>
      have hc := m_KN_prompt hT τ (by rw [hf.1 34 (by decide)]; exact ht)
      rw [hf.1 33 (by decide)] at hc
      refine z_iload_n hR dKN_release_127 (n := 128) rfl rfl ?_
      refine z_if_eqB hR dKN_release_128 (t := 171) (n := 131) rfl rfl (fun h128 => absurd h128 (by decide)) (fun h128 => ?_)
      refine z_aload_n hR dKN_release_131 (n := 132) rfl rfl ?_
      refine z_callV0 hR dKN_release_132 (n := 135) rfl zcKN_97 zkKN_isPrompt (by decide) (Nat.le_of_ble_eq_true rfl) (by decide) rfl rfl (Nat.zero_le _) hc (fun r132 s132 h132 => ?_)
      obtain ⟨e132, b, rfl, hb⟩ := h132
      subst s132
      refine z_if_eqB hR dKN_release_135 (t := 171) (n := 138) rfl rfl (fun h135 => ?_) (fun h135 => ?_)
      · have go := no b h135 ⟨fun q => by rw [h135] at q; exact absurd q (by decide), fun q => hb.mpr (fun k hk => (hmem k).mpr (q.2 k hk))⟩
        exact go _ _
      · skip
        refine z_iconst hR dKN_release_138 (v := nI 0) (n := 139) rfl rfl ?_
        refine z_istore hR dKN_release_139 (n := 141) rfl (by decide) rfl ?_
        exact key3 6 0 _ _ _ b (by omega) (hf.mo (by decide)) hk ⟨fun q => ⟨hgo.mp rfl, fun k hk => (hmem k).mp (hb.mp q k hk)⟩, fun q => hb.mpr (fun k hk => (hmem k).mpr (q.2 k hk))⟩ h135 hm (fun q hq g hg => by rw [hf.1 20 (by decide)]; simp)
  -- the held ones are let go, the last first
  have key2 : ∀ (D done : List Nat) (l4 : Option Value) (go : Bool) (τ : zS), C = done ++ D → (go = true ↔ (C ≠ [] ∨ (jn σ (w / 32) (w / 32) = true ∧ preA (σ.1 31) (w / 32) (w / 32) (w % 32) = w % 32))) → zfr [19, 26, 27] σ τ → kS τ num low td cnt (D ++ w :: rest) walk → (∀ s, s < 6 → ∀ g, g < 32 → tb (τ.1 27 s) g = decide (32 * s + g ∈ done)) → Z 0 52 [some (.ref 19), some (.int (nI w)), some (.int (zb go)), some (.int 0), l4] [] τ := by
    intro D
    -- one is let go
    have one : ∀ (u : Nat) (R done : List Nat) (l4 : Option Value) (go : Bool) (τ : zS), u < 192 → u ∉ R → (u :: R).length ≤ 192 → zfr [19, 26, 27] σ τ → kS τ num low td cnt (u :: R) walk → (∀ s, s < 6 → ∀ g, g < 32 → tb (τ.1 27 s) g = decide (32 * s + g ∈ done)) → (∀ τ2 : zS, zfr [19, 26, 27] σ τ2 → kS τ2 num low td cnt R walk → (∀ s, s < 6 → ∀ g, g < 32 → tb (τ2.1 27 s) g = decide (32 * s + g ∈ done ++ [u])) → Z 0 52 [some (.ref 19), some (.int (nI w)), some (.int (zb go)), some (.int (zb (decide (u = w)))), some (.int (nI u))] [] τ2) → Z 0 52 [some (.ref 19), some (.int (nI w)), some (.int (zb go)), some (.int 0), l4] [] τ := by
      intro u R done l4 go τ hu hnR hl hf hk hm nxt
      obtain ⟨a1, a2, a3, a4, a5, a6, ⟨a7, a7'⟩, a8⟩ := hk
      rw [List.length_cons] at a3 hl
      have hgo := nxt (zwA (zwA (zwA τ 19 9 (nI R.length)) 26 u 0) 27 (u / 32) ((zwA (zwA τ 19 9 (nI R.length)) 26 u 0).1 27 (u / 32) ||| ((1 : Int32) <<< (nI (u % 32) &&& 31)))) (((hf.wA _ (by decide)).wA _ (by decide)).wA _ (by decide)) ⟨by simpa [zwA_1] using a1, by simpa [zwA_1] using a2, by simp [zwA_1], fun v hv => by simpa [zwA_1] using a4 v hv, fun v hv h0 => by simpa [zwA_1] using a5 v hv h0, stN_same (fun i _ => by simp [zwA_1]) a6, stN_same (fun i _ => by simp [zwA_1]) a7', fun v hv => by
          by_cases e : v = u
          · subst e
            simp [zwA_1, hnR, zb]
          · simp [zwA_1, e, a8 v hv]⟩ (fun s hs g hg => by
          have e0 : ((zwA (zwA τ 19 9 (nI R.length)) 26 u 0).1 27) = τ.1 27 := by rw [zwA_n _ _ _ _ (by decide), zwA_n _ _ _ _ (by decide)]
          by_cases e : s = u / 32
          · subst e
            rw [zwA_ss, tb_or, e0, hm _ hs g hg, tb_shl1 (by omega) g hg]
            by_cases e2 : g = u % 32
            · subst e2
              simp [show 32 * (u / 32) + u % 32 = u by omega]
            · have : ¬ (32 * (u / 32) + g = u) := by omega
              simp [e2, this]
          · rw [zwA_sn _ _ _ _ e, e0, hm s hs g hg]
            have : ¬ (32 * s + g = u) := by omega
            simp [this])
      by_cases ew : u = w
      ·
        rw [decide_eq_true ew] at hgo
        refine z_aload_n hR dKN_release_52 (n := 53) rfl rfl ?_
        refine z_getI hR dKN_release_53 (n := 56) rfl zgKN_60 (by decide) rfl rfl ?_
        rw [a3]
        refine z_if_leN hR dKN_release_56 (t := 127) (n := 59) rfl rfl (by omega) (fun h56 => absurd h56 (by omega)) (fun h56 => ?_)
        refine z_iload_n hR dKN_release_59 (n := 60) rfl rfl ?_
        refine z_if_ne hR dKN_release_60 (t := 127) (n := 63) rfl rfl (fun h60 => absurd h60 (fun q => q rfl)) (fun _ => ?_)
        refine z_aload_n hR dKN_release_63 (n := 64) rfl rfl ?_
        refine z_dup hR dKN_release_64 (n := 65) rfl rfl ?_
        refine z_getI hR dKN_release_65 (n := 68) rfl zgKN_60 (by decide) rfl rfl ?_
        rw [a3]
        refine z_iconst hR dKN_release_68 (v := nI 1) (n := 69) rfl rfl ?_
        refine z_isubN hR dKN_release_69 (n := 70) rfl (by omega) ?_
        refine z_putI hR dKN_release_70 (n := 73) rfl zpKN_60 (by decide) rfl rfl ?_
        refine z_aload_n hR dKN_release_73 (n := 74) rfl rfl ?_
        refine z_getR hR dKN_release_74 (n := 77) rfl zgKN_34 (by decide) rfl rfl ?_
        refine z_aload_n hR dKN_release_77 (n := 78) rfl rfl ?_
        refine z_getI hR dKN_release_78 (n := 81) rfl zgKN_60 (by decide) rfl rfl ?_
        rw [zwA_ss]
        refine z_iald hR (_) dKN_release_81 (n := 82) rfl (by decide) rfl (by decide) rfl (by omega) ?_
        rw [zwA_n _ _ _ _ (by decide), show R.length + 1 - 1 = R.length from rfl, a7]
        refine z_istore hR dKN_release_82 (n := 84) rfl (by decide) rfl ?_
        refine z_aload_n hR dKN_release_84 (n := 85) rfl rfl ?_
        refine z_getR hR dKN_release_85 (n := 88) rfl zgKN_37 (by decide) rfl rfl ?_
        refine z_iload hR dKN_release_88 (n := 90) rfl rfl ?_
        refine z_iconst hR dKN_release_90 (v := 0) (n := 91) rfl rfl ?_
        refine z_zast hR (_) dKN_release_91 (n := 92) rfl (by decide) rfl (by decide) rfl (by omega) ?_
        rw [show vp_nar .boolean (0 : Int32) = 0 from rfl]
        refine z_aload_n hR dKN_release_92 (n := 93) rfl rfl ?_
        refine z_getR hR dKN_release_93 (n := 96) rfl zgKN_41 (by decide) rfl rfl ?_
        refine z_iload hR dKN_release_96 (n := 98) rfl rfl ?_
        refine z_bipush hR dKN_release_98 (v := nI 32) (n := 100) rfl rfl ?_
        refine z_idivN hR dKN_release_100 (n := 101) rfl (by omega) (by omega) (by omega) ?_
        refine z_dup2_11 hR dKN_release_101 (n := 102) rfl rfl rfl ?_
        refine z_iald hR (_) dKN_release_102 (n := 103) rfl (by decide) rfl (by decide) rfl (by omega) ?_
        refine z_iconst hR dKN_release_103 (v := 1) (n := 104) rfl rfl ?_
        refine z_iload hR dKN_release_104 (n := 106) rfl rfl ?_
        refine z_bipush hR dKN_release_106 (v := nI 32) (n := 108) rfl rfl ?_
        refine z_iremN hR dKN_release_108 (n := 109) rfl (by omega) (by omega) (by omega) ?_
        refine z_ishl hR dKN_release_109 (n := 110) rfl ?_
        refine z_ior hR dKN_release_110 (n := 111) rfl ?_
        refine z_iast hR (_) dKN_release_111 (n := 112) rfl (by decide) rfl (by decide) rfl (by omega) ?_
        refine z_iload hR dKN_release_112 (n := 114) rfl rfl ?_
        refine z_iload_n hR dKN_release_114 (n := 115) rfl rfl ?_
        refine z_icmp_ne hR dKN_release_115 (t := 122) (n := 118) rfl rfl (fun h115 => absurd h115 (fun q => q (by rw [ew]))) (fun _ => ?_)
        refine z_iconst hR dKN_release_118 (v := 1) (n := 119) rfl rfl ?_
        refine z_goto hR dKN_release_119 (t := 123) rfl ?_
        refine z_istore_n hR dKN_release_123 (n := 124) rfl (by decide) rfl ?_
        refine z_goto hR dKN_release_124 (t := 52) rfl ?_
        exact hgo
      ·
        rw [decide_eq_false ew] at hgo
        have hne : ¬ nI u = nI w := fun q => ew ((nI_eq (by omega) (by omega)).mp q)
        refine z_aload_n hR dKN_release_52 (n := 53) rfl rfl ?_
        refine z_getI hR dKN_release_53 (n := 56) rfl zgKN_60 (by decide) rfl rfl ?_
        rw [a3]
        refine z_if_leN hR dKN_release_56 (t := 127) (n := 59) rfl rfl (by omega) (fun h56 => absurd h56 (by omega)) (fun h56 => ?_)
        refine z_iload_n hR dKN_release_59 (n := 60) rfl rfl ?_
        refine z_if_ne hR dKN_release_60 (t := 127) (n := 63) rfl rfl (fun h60 => absurd h60 (fun q => q rfl)) (fun _ => ?_)
        refine z_aload_n hR dKN_release_63 (n := 64) rfl rfl ?_
        refine z_dup hR dKN_release_64 (n := 65) rfl rfl ?_
        refine z_getI hR dKN_release_65 (n := 68) rfl zgKN_60 (by decide) rfl rfl ?_
        rw [a3]
        refine z_iconst hR dKN_release_68 (v := nI 1) (n := 69) rfl rfl ?_
        refine z_isubN hR dKN_release_69 (n := 70) rfl (by omega) ?_
        refine z_putI hR dKN_release_70 (n := 73) rfl zpKN_60 (by decide) rfl rfl ?_
        refine z_aload_n hR dKN_release_73 (n := 74) rfl rfl ?_
        refine z_getR hR dKN_release_74 (n := 77) rfl zgKN_34 (by decide) rfl rfl ?_
        refine z_aload_n hR dKN_release_77 (n := 78) rfl rfl ?_
        refine z_getI hR dKN_release_78 (n := 81) rfl zgKN_60 (by decide) rfl rfl ?_
        rw [zwA_ss]
        refine z_iald hR (_) dKN_release_81 (n := 82) rfl (by decide) rfl (by decide) rfl (by omega) ?_
        rw [zwA_n _ _ _ _ (by decide), show R.length + 1 - 1 = R.length from rfl, a7]
        refine z_istore hR dKN_release_82 (n := 84) rfl (by decide) rfl ?_
        refine z_aload_n hR dKN_release_84 (n := 85) rfl rfl ?_
        refine z_getR hR dKN_release_85 (n := 88) rfl zgKN_37 (by decide) rfl rfl ?_
        refine z_iload hR dKN_release_88 (n := 90) rfl rfl ?_
        refine z_iconst hR dKN_release_90 (v := 0) (n := 91) rfl rfl ?_
        refine z_zast hR (_) dKN_release_91 (n := 92) rfl (by decide) rfl (by decide) rfl (by omega) ?_
        rw [show vp_nar .boolean (0 : Int32) = 0 from rfl]
        refine z_aload_n hR dKN_release_92 (n := 93) rfl rfl ?_
        refine z_getR hR dKN_release_93 (n := 96) rfl zgKN_41 (by decide) rfl rfl ?_
        refine z_iload hR dKN_release_96 (n := 98) rfl rfl ?_
        refine z_bipush hR dKN_release_98 (v := nI 32) (n := 100) rfl rfl ?_
        refine z_idivN hR dKN_release_100 (n := 101) rfl (by omega) (by omega) (by omega) ?_
        refine z_dup2_11 hR dKN_release_101 (n := 102) rfl rfl rfl ?_
        refine z_iald hR (_) dKN_release_102 (n := 103) rfl (by decide) rfl (by decide) rfl (by omega) ?_
        refine z_iconst hR dKN_release_103 (v := 1) (n := 104) rfl rfl ?_
        refine z_iload hR dKN_release_104 (n := 106) rfl rfl ?_
        refine z_bipush hR dKN_release_106 (v := nI 32) (n := 108) rfl rfl ?_
        refine z_iremN hR dKN_release_108 (n := 109) rfl (by omega) (by omega) (by omega) ?_
        refine z_ishl hR dKN_release_109 (n := 110) rfl ?_
        refine z_ior hR dKN_release_110 (n := 111) rfl ?_
        refine z_iast hR (_) dKN_release_111 (n := 112) rfl (by decide) rfl (by decide) rfl (by omega) ?_
        refine z_iload hR dKN_release_112 (n := 114) rfl rfl ?_
        refine z_iload_n hR dKN_release_114 (n := 115) rfl rfl ?_
        refine z_icmp_ne hR dKN_release_115 (t := 122) (n := 118) rfl rfl (fun _ => ?_) (fun h115 => absurd h115 hne)
        refine z_iconst hR dKN_release_122 (v := 0) (n := 123) rfl rfl ?_
        refine z_istore_n hR dKN_release_123 (n := 124) rfl (by decide) rfl ?_
        refine z_goto hR dKN_release_124 (t := 52) rfl ?_
        exact hgo
    induction D with
    | nil =>
      intro done l4 go τ hC hgo hf hk hm
      rw [List.append_nil] at hC
      have hnd2 : w ∉ rest := by
        have := (List.nodup_append.mp hnd).2.1
        exact (List.nodup_cons.mp this).1
      refine one w rest done l4 go τ hw6 hnd2 (by simp at hlen ⊢; omega) hf hk hm (fun τ2 f2 g2 m2 => ?_)
      rw [decide_eq_true rfl]
      have hend := fin go 1 (some (.int (nI w))) τ2 hgo f2 g2 (by rw [hC]; exact m2)
      have b3 := g2.2.2.1
      have hrl : rest.length < 2 ^ 31 := by
        simp at hlen
        omega
      by_cases h0 : rest.length = 0
      ·
        refine z_aload_n hR dKN_release_52 (n := 53) rfl rfl ?_
        refine z_getI hR dKN_release_53 (n := 56) rfl zgKN_60 (by decide) rfl rfl ?_
        rw [b3]
        refine z_if_leN hR dKN_release_56 (t := 127) (n := 59) rfl rfl (by omega) (fun h56 => ?_) (fun h56 => absurd h56 (by omega))
        exact hend
      ·
        refine z_aload_n hR dKN_release_52 (n := 53) rfl rfl ?_
        refine z_getI hR dKN_release_53 (n := 56) rfl zgKN_60 (by decide) rfl rfl ?_
        rw [b3]
        refine z_if_leN hR dKN_release_56 (t := 127) (n := 59) rfl rfl (by omega) (fun h56 => absurd h56 (by omega)) (fun h56 => ?_)
        refine z_iload_n hR dKN_release_59 (n := 60) rfl rfl ?_
        refine z_if_ne hR dKN_release_60 (t := 127) (n := 63) rfl rfl (fun _ => ?_) (fun h60 => absurd h60 (by decide))
        exact hend
    | cons u D ihD =>
      intro done l4 go τ hC hgo hf hk hm
      have hnd2 : (u :: (D ++ w :: rest)).Nodup := by
        rw [hC, List.append_assoc] at hnd
        exact (List.nodup_append.mp hnd).2.1
      have huw : u ≠ w := fun e => (List.nodup_cons.mp hnd2).1 (by simp [e])
      have hl2 : (u :: (D ++ w :: rest)).length ≤ 192 := by
        rw [hC] at hlen
        simp at hlen ⊢
        omega
      refine one u (D ++ w :: rest) done l4 go τ (hlt u (by rw [hC]; simp)) (List.nodup_cons.mp hnd2).1 hl2 hf hk hm (fun τ2 f2 g2 m2 => ?_)
      rw [decide_eq_false huw]
      exact ihD (done ++ [u]) _ go τ2 (by rw [hC]; simp) hgo f2 g2 m2
  -- the members are cleared
  have key1 : ∀ (m s : Nat) (l3 l4 : Option Value) (τ : zS), s + m = 6 → zfr [27] σ τ → (∀ q, q < s → τ.1 27 q = 0) → Z 0 2 [some (.ref 19), some (.int (nI w)), some (.int (nI s)), l3, l4] [] τ := by
    intro m
    induction m with
    | zero =>
      intro s l3 l4 τ hs hf h
      obtain rfl : s = 6 := by omega
      have hk : kS τ num low td cnt (C ++ w :: rest) walk := by
        unfold kS
        rw [hf.1 19 (by decide), hf.1 21 (by decide), hf.1 22 (by decide), hf.1 23 (by decide), hf.1 24 (by decide), hf.1 25 (by decide), hf.1 26 (by decide)]
        exact ⟨k1, k2, k3, k4, k5, k6, k7, k8⟩
      have hm : ∀ s, s < 6 → ∀ g, g < 32 → tb (τ.1 27 s) g = decide (32 * s + g ∈ ([] : List Nat)) := fun s hs g hg => by
        rw [h s hs, tb_0]
        simp
      have e9 : τ.1 19 9 = nI (C ++ w :: rest).length := by rw [hf.1 19 (by decide), k3]
      have ej : jn τ = jn σ := jn_fr hf (by decide)
      have e31 : τ.1 31 = σ.1 31 := hf.1 31 (by decide)
      cases C with
      | nil =>
        have etop : τ.1 25 rest.length = nI w := by
          rw [hf.1 25 (by decide)]
          exact k7.1
        have hc := m_KN_self (T := T) hw6 τ (p := preA (σ.1 31) (w / 32) (w / 32) (w % 32)) (by rw [ej, e31]; exact hg)
        rw [ej] at hc
        have hl : ([] ++ w :: rest : List Nat).length = rest.length + 1 := by simp
        rw [hl] at e9
        have hrl : rest.length < 192 := by
          simp at hlen
          omega
        refine z_iload_n hR dKN_release_2 (n := 3) rfl rfl ?_
        refine z_bipush hR dKN_release_3 (v := nI 6) (n := 5) rfl rfl ?_
        refine z_icmp_geN hR dKN_release_5 (t := 21) (n := 8) rfl rfl (by omega) (by omega) (fun h5 => ?_) (fun h5 => absurd h5 (by omega))
        refine z_aload_n hR dKN_release_21 (n := 22) rfl rfl ?_
        refine z_getR hR dKN_release_22 (n := 25) rfl zgKN_34 (by decide) rfl rfl ?_
        refine z_aload_n hR dKN_release_25 (n := 26) rfl rfl ?_
        refine z_getI hR dKN_release_26 (n := 29) rfl zgKN_60 (by decide) rfl rfl ?_
        rw [e9]
        refine z_iconst hR dKN_release_29 (v := nI 1) (n := 30) rfl rfl ?_
        refine z_isubN hR dKN_release_30 (n := 31) rfl (by omega) ?_
        refine z_iald hR (_) dKN_release_31 (n := 32) rfl (by decide) rfl (by decide) rfl (by omega) ?_
        rw [show rest.length + 1 - 1 = rest.length from rfl, etop]
        refine z_iload_n hR dKN_release_32 (n := 33) rfl rfl ?_
        refine z_icmp_ne hR dKN_release_33 (t := 44) (n := 36) rfl rfl (fun h33 => absurd h33 (fun q => q rfl)) (fun _ => ?_)
        refine z_aload_n hR dKN_release_36 (n := 37) rfl rfl ?_
        refine z_iload_n hR dKN_release_37 (n := 38) rfl rfl ?_
        refine z_callV1 hR dKN_release_38 (n := 41) rfl zcKN_93 zkKN_goesToItself (by decide) (Nat.le_of_ble_eq_true rfl) (by decide) rfl rfl (Nat.zero_le _) hc (fun r38 s38 h38 => ?_)
        obtain ⟨e38, b, rfl, hb⟩ := h38
        subst s38
        have hb2 : b = true ↔ (([] : List Nat) ≠ [] ∨ (jn σ (w / 32) (w / 32) = true ∧ preA (σ.1 31) (w / 32) (w / 32) (w % 32) = w % 32)) := by
          rw [hb]
          simp
        refine z_if_eqB hR dKN_release_41 (t := 48) (n := 44) rfl rfl (fun h41 => ?_) (fun h41 => ?_)
        · refine z_iconst hR dKN_release_48 (v := 0) (n := 49) rfl rfl ?_
          refine z_istore_n hR dKN_release_49 (n := 50) rfl (by decide) rfl ?_
          refine z_iconst hR dKN_release_50 (v := 0) (n := 51) rfl rfl ?_
          refine z_istore_n hR dKN_release_51 (n := 52) rfl (by decide) rfl ?_
          rw [h41] at hb2
          first
            | exact key2 [] [] _ false _ rfl hb2 (hf.mo (by decide)) hk hm
            | exact key2 [] [] _ true _ rfl hb2 (hf.mo (by decide)) hk hm
        · refine z_iconst hR dKN_release_44 (v := 1) (n := 45) rfl rfl ?_
          refine z_goto hR dKN_release_45 (t := 49) rfl ?_
          refine z_istore_n hR dKN_release_49 (n := 50) rfl (by decide) rfl ?_
          refine z_iconst hR dKN_release_50 (v := 0) (n := 51) rfl rfl ?_
          refine z_istore_n hR dKN_release_51 (n := 52) rfl (by decide) rfl ?_
          rw [h41] at hb2
          first
            | exact key2 [] [] _ false _ rfl hb2 (hf.mo (by decide)) hk hm
            | exact key2 [] [] _ true _ rfl hb2 (hf.mo (by decide)) hk hm
      | cons c C =>
        have hcw : c ≠ w := fun e => (List.nodup_cons.mp hnd).1 (by simp [e])
        have hc192 : c < 192 := hlt c (by simp)
        have etop : τ.1 25 (C ++ w :: rest).length = nI c := by
          rw [hf.1 25 (by decide)]
          exact k7.1
        have hl : (c :: C ++ w :: rest : List Nat).length = (C ++ w :: rest).length + 1 := by simp
        rw [hl] at e9
        have hrl : (C ++ w :: rest).length < 192 := by
          rw [hl] at hlen
          omega
        have hne : ¬ nI c = nI w := fun q => hcw ((nI_eq (by omega) (by omega)).mp q)
        refine z_iload_n hR dKN_release_2 (n := 3) rfl rfl ?_
        refine z_bipush hR dKN_release_3 (v := nI 6) (n := 5) rfl rfl ?_
        refine z_icmp_geN hR dKN_release_5 (t := 21) (n := 8) rfl rfl (by omega) (by omega) (fun h5 => ?_) (fun h5 => absurd h5 (by omega))
        refine z_aload_n hR dKN_release_21 (n := 22) rfl rfl ?_
        refine z_getR hR dKN_release_22 (n := 25) rfl zgKN_34 (by decide) rfl rfl ?_
        refine z_aload_n hR dKN_release_25 (n := 26) rfl rfl ?_
        refine z_getI hR dKN_release_26 (n := 29) rfl zgKN_60 (by decide) rfl rfl ?_
        rw [e9]
        refine z_iconst hR dKN_release_29 (v := nI 1) (n := 30) rfl rfl ?_
        refine z_isubN hR dKN_release_30 (n := 31) rfl (by omega) ?_
        refine z_iald hR (_) dKN_release_31 (n := 32) rfl (by decide) rfl (by decide) rfl (by omega) ?_
        rw [show (C ++ w :: rest).length + 1 - 1 = (C ++ w :: rest).length from rfl, etop]
        refine z_iload_n hR dKN_release_32 (n := 33) rfl rfl ?_
        refine z_icmp_ne hR dKN_release_33 (t := 44) (n := 36) rfl rfl (fun _ => ?_) (fun h33 => absurd h33 hne)
        refine z_iconst hR dKN_release_44 (v := 1) (n := 45) rfl rfl ?_
        refine z_goto hR dKN_release_45 (t := 49) rfl ?_
        refine z_istore_n hR dKN_release_49 (n := 50) rfl (by decide) rfl ?_
        refine z_iconst hR dKN_release_50 (v := 0) (n := 51) rfl rfl ?_
        refine z_istore_n hR dKN_release_51 (n := 52) rfl (by decide) rfl ?_
        exact key2 (c :: C) [] _ true _ rfl (by simp) (hf.mo (by decide)) hk hm
    | succ m ih =>
      intro s l3 l4 τ hs hf h
      refine z_iload_n hR dKN_release_2 (n := 3) rfl rfl ?_
      refine z_bipush hR dKN_release_3 (v := nI 6) (n := 5) rfl rfl ?_
      refine z_icmp_geN hR dKN_release_5 (t := 21) (n := 8) rfl rfl (by omega) (by omega) (fun h5 => absurd h5 (by omega)) (fun h5 => ?_)
      refine z_aload_n hR dKN_release_8 (n := 9) rfl rfl ?_
      refine z_getR hR dKN_release_9 (n := 12) rfl zgKN_41 (by decide) rfl rfl ?_
      refine z_iload_n hR dKN_release_12 (n := 13) rfl rfl ?_
      refine z_iconst hR dKN_release_13 (v := 0) (n := 14) rfl rfl ?_
      refine z_iast hR (_) dKN_release_14 (n := 15) rfl (by decide) rfl (by decide) rfl (by omega) ?_
      refine z_iincN hR 1 dKN_release_15 (n := 18) rfl rfl (by decide) rfl rfl ?_
      refine z_goto hR dKN_release_18 (t := 2) rfl ?_
      exact ih (s + 1) _ _ _ (by omega) (hf.wA _ (by decide)) (fun q hq => by
        by_cases e : q = s
        · subst e
          rw [zwA_ss]
        · rw [zwA_sn _ _ _ _ e]
          exact h q (by omega))
  refine z_iconst hR dKN_release_0 (v := nI 0) (n := 1) rfl rfl ?_
  refine z_istore_n hR dKN_release_1 (n := 2) rfl (by decide) rfl ?_
  exact key1 6 0 _ _ _ (by omega) zfr.rf (fun q hq => absurd hq (by omega))
