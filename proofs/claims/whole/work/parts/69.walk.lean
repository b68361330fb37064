/-! The class walks over the nodes -/
abbrev knL : List Nat := [19, 20, 21, 22, 23, 24, 25, 26, 27]
abbrev cE (σ : zS) (T : Nat) : Nat → Nat → Prop := eG 32 T (jn σ) (preA (σ.1 31))
abbrev cG (σ : zS) (T : Nat) : Nat → Nat → Prop := gG 32 T (prA (σ.1 33))
abbrev cK (σ : zS) (T : Nat) : Nat → Prop := gx_K (cE σ T) (cG σ T) T
abbrev cV (σ τ : zS) (T : Nat) (num low td : Nat → Nat) (cnt : Nat) (held walk : List Nat) : Prop := kS τ num low td cnt held walk ∧ kV T (scK T (jn σ) (preA (σ.1 31))) (cK σ T) (τ.1 20) num low td cnt held walk
theorem kS_pop {σ : zS} {num low td : Nat → Nat} {cnt : Nat} {held walk : List Nat} {w : Nat} (h : kS σ num low td cnt held (w :: walk)) : kS (zwA σ 19 7 (nI walk.length)) num low td cnt held walk := by
  obtain ⟨a1, a2, a3, a4, a5, ⟨_, a6⟩, a7, a8⟩ := h
  exact ⟨by simpa [zwA_1] using a1, by simp [zwA_1], by simpa [zwA_1] using a3, fun u hu => by simpa [zwA_1] using a4 u hu, fun u hu h0 => by simpa [zwA_1] using a5 u hu h0, stN_same (fun i _ => by simp [zwA_1]) a6, stN_same (fun i _ => by simp [zwA_1]) a7, fun u hu => by simpa [zwA_1] using a8 u hu⟩
theorem kS_low {σ : zS} {num low td : Nat → Nat} {cnt : Nat} {held walk : List Nat} {u x : Nat} (h : kS σ num low td cnt held walk) : kS (zwA σ 22 u (nI x)) num (ko_U low u x) td cnt held walk := by
  obtain ⟨a1, a2, a3, a4, a5, a6, a7, a8⟩ := h
  refine ⟨by simpa [zwA_1] using a1, by simpa [zwA_1] using a2, by simpa [zwA_1] using a3, fun u hu => by simpa [zwA_1] using a4 u hu, fun v hv h0 => ?_, stN_same (fun i _ => by simp [zwA_1]) a6, stN_same (fun i _ => by simp [zwA_1]) a7, fun u hu => by simpa [zwA_1] using a8 u hu⟩
  obtain ⟨q1, q2⟩ := a5 v hv h0
  by_cases e : v = u
  · subst e
    simp [zwA_1, ko_U, q2]
  · simp [zwA_1, ko_U, e, q1, q2]
theorem kS_td {σ : zS} {num low td : Nat → Nat} {cnt : Nat} {held walk : List Nat} {u x : Nat} (h : kS σ num low td cnt held walk) : kS (zwA σ 23 u (nI x)) num low (ko_U td u x) cnt held walk := by
  obtain ⟨a1, a2, a3, a4, a5, a6, a7, a8⟩ := h
  refine ⟨by simpa [zwA_1] using a1, by simpa [zwA_1] using a2, by simpa [zwA_1] using a3, fun u hu => by simpa [zwA_1] using a4 u hu, fun v hv h0 => ?_, stN_same (fun i _ => by simp [zwA_1]) a6, stN_same (fun i _ => by simp [zwA_1]) a7, fun u hu => by simpa [zwA_1] using a8 u hu⟩
  obtain ⟨q1, q2⟩ := a5 v hv h0
  by_cases e : v = u
  · subst e
    simp [zwA_1, ko_U, q1]
  · simp [zwA_1, ko_U, e, q1, q2]
theorem ko_U_id {f : Nat → Nat} {u x : Nat} (h : x = f u) : ko_U f u x = f := by
  funext v
  by_cases e : v = u
  · subst e
    rw [ko_U_s, h]
  · rw [ko_U_n _ _ e]
theorem m_KN_walkFrom {T w0 : Nat} (hT : T ≤ 5) (hw0 : w0 < 192) (hw1 : w0 % 32 < 2 ^ T) {num low td : Nat → Nat} {cnt : Nat} (σ : zS) (ht : σ.1 34 4 = nI T) (hg : gP σ T) (hV : cV σ σ T num low td cnt [] []) (h0 : num w0 = 0) : zM yKN_walkFrom cKN_walkFrom 6 none 3 90 0 [.ref 19, .int (nI w0)] σ (fun r σ2 => r = none ∧ zfr knL σ σ2 ∧ ∃ num2 low2 td2 cnt2, cV σ σ2 T num2 low2 td2 cnt2 [] [] ∧ num2 w0 ≠ 0 ∧ ∀ v, num v ≠ 0 → num2 v ≠ 0) (fun _ _ => False) := by
  refine zM.of [some (.ref 19), some (.int (nI w0)), none, none, none, none] (by decide) 4 rfl (fun _ => Nat.le_of_ble_eq_true rfl) (fun Z hR => ?_)
  have p2 := p2_le hT
  have key : ∀ (n turn : Nat) (num2 low2 td2 : Nat → Nat) (cnt2 : Nat) (held walk : List Nat) (l3 l4 l5 : Option Value) (τ : zS), turn + n ≤ 1344 → 7 * (192 - cnt2) + phi td2 walk ≤ n → zfr knL σ τ → cV σ τ T num2 low2 td2 cnt2 held walk → num2 w0 ≠ 0 → (∀ v, num v ≠ 0 → num2 v ≠ 0) → Z 0 7 [some (.ref 19), some (.int (nI w0)), some (.int (nI turn)), l3, l4, l5] [] τ := by
    intro n
    induction n with
    | zero =>
      intro turn num2 low2 td2 cnt2 held walk l3 l4 l5 τ hn hp hf hV h1 h2
      cases walk with
      | nil =>
        obtain rfl := kV_nil hV.2
        have e7 := hV.1.2.1
        rw [List.length_nil] at e7
        have hret : ∀ l3 l4 l5, Z 0 147 [some (.ref 19), some (.int (nI w0)), some (.int (nI turn)), l3, l4, l5] [] τ := by
          intro l3 l4 l5
          refine z_vret hR dKN_walkFrom_147 rfl (Nat.zero_le _) ?_
          exact ⟨rfl, hf, num2, low2, td2, cnt2, hV, h1, h2⟩
        refine z_iload_n hR dKN_walkFrom_7 (n := 8) rfl rfl ?_
        refine z_sipush hR dKN_walkFrom_8 (v := nI 1344) (n := 11) rfl rfl ?_
        refine z_icmp_geN hR dKN_walkFrom_11 (t := 147) (n := 14) rfl rfl (by omega) (by omega) (fun h11 => ?_) (fun h11 => ?_)
        · exact hret _ _ _
        · refine z_aload_n hR dKN_walkFrom_14 (n := 15) rfl rfl ?_
          refine z_getI hR dKN_walkFrom_15 (n := 18) rfl zgKN_57 (by decide) rfl rfl ?_
          rw [e7]
          refine z_if_leN hR dKN_walkFrom_18 (t := 147) (n := 21) rfl rfl (by omega) (fun h18 => ?_) (fun h18 => absurd h18 (by omega))
          exact hret _ _ _
      | cons w ws =>
        have q := (kV_top hV.2).2.2.2.2.1
        rw [phi] at hp
        omega
    | succ n ih =>
      intro turn num2 low2 td2 cnt2 held walk l3 l4 l5 τ hn hp hf hV h1 h2
      cases walk with
      | nil =>
        obtain rfl := kV_nil hV.2
        have e7 := hV.1.2.1
        rw [List.length_nil] at e7
        have hret : ∀ l3 l4 l5, Z 0 147 [some (.ref 19), some (.int (nI w0)), some (.int (nI turn)), l3, l4, l5] [] τ := by
          intro l3 l4 l5
          refine z_vret hR dKN_walkFrom_147 rfl (Nat.zero_le _) ?_
          exact ⟨rfl, hf, num2, low2, td2, cnt2, hV, h1, h2⟩
        refine z_iload_n hR dKN_walkFrom_7 (n := 8) rfl rfl ?_
        refine z_sipush hR dKN_walkFrom_8 (v := nI 1344) (n := 11) rfl rfl ?_
        refine z_icmp_geN hR dKN_walkFrom_11 (t := 147) (n := 14) rfl rfl (by omega) (by omega) (fun h11 => ?_) (fun h11 => ?_)
        · exact hret _ _ _
        · refine z_aload_n hR dKN_walkFrom_14 (n := 15) rfl rfl ?_
          refine z_getI hR dKN_walkFrom_15 (n := 18) rfl zgKN_57 (by decide) rfl rfl ?_
          rw [e7]
          refine z_if_leN hR dKN_walkFrom_18 (t := 147) (n := 21) rfl rfl (by omega) (fun h18 => ?_) (fun h18 => absurd h18 (by omega))
          exact hret _ _ _
      | cons w ws =>
        obtain ⟨hS, hK⟩ := hV
        obtain ⟨q1, q2, q3, q4, q5, q6, q7, q8⟩ := kV_top hK
        obtain ⟨c1, c2⟩ := kV_cnt hK
        obtain ⟨n1, n2⟩ := kS_len (σ := τ) hK.1
        rw [List.length_cons] at n1
        have hlow : ∀ u, num2 u ≠ 0 → num2 u < 2 ^ 31 := fun u _ => by have := c2 u; omega
        have e7 := hS.2.1
        rw [List.length_cons] at e7
        obtain ⟨ew, _⟩ := hS.2.2.2.2.2.1
        obtain ⟨el, et⟩ := hS.2.2.2.2.1 w q3 q2
        have en := hS.2.2.2.1 w q3
        have ej : jn τ = jn σ := jn_fr hf (by decide)
        have e31 : τ.1 31 = σ.1 31 := hf.1 31 (by decide)
        have e33 : τ.1 33 = σ.1 33 := hf.1 33 (by decide)
        by_cases h6 : td2 w < 6
        ·
          have hS2 := kS_td (u := w) (x := td2 w + 1) hS
          have ej2 : jn (zwA τ 23 w (nI (td2 w + 1))) = jn σ := (jn_fr (zfr.w1 (o := 23) (j := w) (σ := τ) (x := nI (td2 w + 1))) (by decide)).trans ej
          have e31b : (zwA τ 23 w (nI (td2 w + 1))).1 31 = σ.1 31 := by rw [zwA_n _ _ _ _ (by decide), e31]
          have hc := m_KN_tryStep hT h6 q3 q4 (fun u hu h0 => by
            have := (kV_new hK hu h0).1
            rw [List.length_cons]
            omega) hlow (by have := c2 w; omega) q2 _ hS2 (by
            intro s t a b c g d
            rw [ej2] at c
            rw [e31b]
            exact hg s t a b c g d)
          rw [ej2, e31b] at hc
          have hsc : jn σ (td2 w) (w / 32) = true → scK T (jn σ) (preA (σ.1 31)) w (td2 w) = some (32 * td2 w + preA (σ.1 31) (td2 w) (w / 32) (w % 32)) := fun e => by
            rw [scK, if_pos ⟨by omega, q4, h6, e⟩]
          have hsn : jn σ (td2 w) (w / 32) = false → scK T (jn σ) (preA (σ.1 31)) w (td2 w) = none := fun e => by
            rw [scK, if_neg (fun q => by rw [e] at q; exact absurd q.2.2.2 (by decide))]
          have hf2 : zfr knL σ (zwA τ 23 w (nI (td2 w + 1))) := hf.wA _ (by decide)
          refine z_iload_n hR dKN_walkFrom_7 (n := 8) rfl rfl ?_
          refine z_sipush hR dKN_walkFrom_8 (v := nI 1344) (n := 11) rfl rfl ?_
          refine z_icmp_geN hR dKN_walkFrom_11 (t := 147) (n := 14) rfl rfl (by omega) (by omega) (fun h11 => absurd h11 (by omega)) (fun h11 => ?_)
          refine z_aload_n hR dKN_walkFrom_14 (n := 15) rfl rfl ?_
          refine z_getI hR dKN_walkFrom_15 (n := 18) rfl zgKN_57 (by decide) rfl rfl ?_
          rw [e7]
          refine z_if_leN hR dKN_walkFrom_18 (t := 147) (n := 21) rfl rfl (by omega) (fun h18 => absurd h18 (by omega)) (fun h18 => ?_)
          refine z_aload_n hR dKN_walkFrom_21 (n := 22) rfl rfl ?_
          refine z_getR hR dKN_walkFrom_22 (n := 25) rfl zgKN_31 (by decide) rfl rfl ?_
          refine z_aload_n hR dKN_walkFrom_25 (n := 26) rfl rfl ?_
          refine z_getI hR dKN_walkFrom_26 (n := 29) rfl zgKN_57 (by decide) rfl rfl ?_
          rw [e7]
          refine z_iconst hR dKN_walkFrom_29 (v := nI 1) (n := 30) rfl rfl ?_
          refine z_isubN hR dKN_walkFrom_30 (n := 31) rfl (by omega) ?_
          refine z_iald hR (_) dKN_walkFrom_31 (n := 32) rfl (by decide) rfl (by decide) rfl (by omega) ?_
          rw [show ws.length + 1 - 1 = ws.length from rfl, ew]
          refine z_istore_n hR dKN_walkFrom_32 (n := 33) rfl (by decide) rfl ?_
          refine z_aload_n hR dKN_walkFrom_33 (n := 34) rfl rfl ?_
          refine z_getR hR dKN_walkFrom_34 (n := 37) rfl zgKN_28 (by decide) rfl rfl ?_
          refine z_iload_n hR dKN_walkFrom_37 (n := 38) rfl rfl ?_
          refine z_iald hR (_) dKN_walkFrom_38 (n := 39) rfl (by decide) rfl (by decide) rfl (by omega) ?_
          rw [et]
          refine z_istore hR dKN_walkFrom_39 (n := 41) rfl (by decide) rfl ?_
          refine z_iload hR dKN_walkFrom_41 (n := 43) rfl rfl ?_
          refine z_bipush hR dKN_walkFrom_43 (v := nI 6) (n := 45) rfl rfl ?_
          refine z_icmp_geN hR dKN_walkFrom_45 (t := 68) (n := 48) rfl rfl (by omega) (by omega) (fun h45 => absurd h45 (by omega)) (fun h45 => ?_)
          refine z_aload_n hR dKN_walkFrom_48 (n := 49) rfl rfl ?_
          refine z_getR hR dKN_walkFrom_49 (n := 52) rfl zgKN_28 (by decide) rfl rfl ?_
          refine z_iload_n hR dKN_walkFrom_52 (n := 53) rfl rfl ?_
          refine z_dup2_11 hR dKN_walkFrom_53 (n := 54) rfl rfl rfl ?_
          refine z_iald hR (_) dKN_walkFrom_54 (n := 55) rfl (by decide) rfl (by decide) rfl (by omega) ?_
          rw [et]
          refine z_iconst hR dKN_walkFrom_55 (v := nI 1) (n := 56) rfl rfl ?_
          refine z_iaddN hR dKN_walkFrom_56 (n := 57) rfl ?_
          refine z_iast hR (_) dKN_walkFrom_57 (n := 58) rfl (by decide) rfl (by decide) rfl (by omega) ?_
          refine z_aload_n hR dKN_walkFrom_58 (n := 59) rfl rfl ?_
          refine z_iload hR dKN_walkFrom_59 (n := 61) rfl rfl ?_
          refine z_iload_n hR dKN_walkFrom_61 (n := 62) rfl rfl ?_
          refine z_callV2 hR dKN_walkFrom_62 (n := 65) rfl zcKN_66 zkKN_tryStep (by decide) (Nat.le_of_ble_eq_true rfl) (by decide) rfl rfl (Nat.zero_le _) hc (fun r62 s62 h62 => ?_)
          obtain ⟨rfl, hres⟩ := h62
          have fin : ∀ l3 l4 l5, Z 0 7 [some (.ref 19), some (.int (nI w0)), some (.int (nI (turn + 1))), l3, l4, l5] [] s62 := by
            intro l3 l4 l5
            rcases hres with ⟨a1, rfl⟩ | ⟨a1, u, a2, a3, a4, ⟨b1, b2, b3⟩ | ⟨b1, b2, rfl⟩ | ⟨b1, b2, b3, b4⟩⟩
            · obtain ⟨r1, r2⟩ := kV_skip hK h6 (fun v hv => by rw [hsn a1] at hv; exact absurd hv (by simp))
              refine ih (turn + 1) _ _ _ _ _ _ _ _ _ _ (by omega) (by omega) hf2 ⟨hS2, ?_⟩ h1 h2
              rw [zwA_n _ _ _ _ (by decide)]
              exact r1
            · obtain ⟨r1, r2⟩ := kV_enter hK h6 (by rw [hsc a1, ← a2]) a3 a4 b1
              refine ih (turn + 1) _ _ _ _ _ _ _ _ _ _ (by omega) (by omega) (hf2.tr (b2.mo (by decide))) ⟨b3, ?_⟩ ?_ (fun v hv => ?_)
              · rw [b2.1 20 (by decide), zwA_n _ _ _ _ (by decide)]
                exact r1
              · by_cases e : w0 = u
                · rw [e, ko_U_s]
                  omega
                · rw [ko_U_n _ _ e]
                  exact h1
              · by_cases e : v = u
                · rw [e, ko_U_s]
                  omega
                · rw [ko_U_n _ _ e]
                  exact h2 v hv
            · obtain ⟨r1, r2⟩ := kV_skip hK h6 (fun v hv => by
                rw [hsc a1, ← a2] at hv
                injection hv with hv
                rw [← hv]
                exact ⟨b1, b2⟩)
              refine ih (turn + 1) _ _ _ _ _ _ _ _ _ _ (by omega) (by omega) hf2 ⟨hS2, ?_⟩ h1 h2
              rw [zwA_n _ _ _ _ (by decide)]
              exact r1
            · obtain ⟨r1, r2⟩ := kV_held hK h6 (by rw [hsc a1, ← a2]) b2
              refine ih (turn + 1) _ _ _ _ _ _ _ _ _ _ (by omega) (by omega) (hf2.tr (b3.mo (by decide))) ⟨b4, ?_⟩ h1 h2
              rw [b3.1 20 (by decide), zwA_n _ _ _ _ (by decide)]
              exact r1
          refine z_goto hR dKN_walkFrom_65 (t := 141) rfl ?_
          refine z_iincN hR 1 dKN_walkFrom_141 (n := 144) rfl rfl (by decide) rfl rfl ?_
          refine z_goto hR dKN_walkFrom_144 (t := 7) rfl ?_
          exact fin _ _ _
        ·
          have t6 : td2 w = 6 := by omega
          have hSp := kS_pop hS
          have e7p : (zwA τ 19 7 (nI ws.length)).1 19 7 = nI ws.length := by rw [zwA_ss]
          have hfp : zfr knL σ (zwA τ 19 7 (nI ws.length)) := hf.wA _ (by decide)
          -- behind the note on the upper node: is a set let go?
          have tail : ∀ (τ2 : zS) (l5 : Option Value), zfr knL σ τ2 → τ2.1 20 = τ.1 20 → τ2.1 22 w = nI (low2 w) → τ2.1 21 w = nI (num2 w) → (low2 w = num2 w → kS τ2 num2 low2 td2 cnt2 held ws) → (low2 w < num2 w → ∃ u rest, ws = u :: rest ∧ kS τ2 num2 (ko_U low2 u (min (low2 u) (low2 w))) td2 cnt2 held ws) → Z 0 121 [some (.ref 19), some (.int (nI w0)), some (.int (nI turn)), some (.int (nI w)), some (.int (nI 6)), l5] [] τ2 := by
            intro τ2 l5 f2 e20 e22 e21 hA hB
            by_cases hl : low2 w = num2 w
            ·
              obtain ⟨C, rest, hCr⟩ := List.append_of_mem q1
              have hS3 := hA hl
              rw [hCr] at hS3
              have hK2 := hK
              rw [hCr] at hK2
              have hnd : (C ++ w :: rest).Nodup := pw_mem hK2.1.2.2.2.1
              have ej3 : jn τ2 = jn σ := jn_fr f2 (by decide)
              have e31c : τ2.1 31 = σ.1 31 := f2.1 31 (by decide)
              have e33c : τ2.1 33 = σ.1 33 := f2.1 33 (by decide)
              have hc := m_KN_release hT hnd (fun u hu => (hK2.2.2.1 u (hK2.1.2.2.1 u hu)).1) (by
                have := (kS_len (σ := τ) hK2.1).2
                omega) τ2 hS3 (by rw [f2.1 34 (by decide)]; exact ht) (by
                rw [ej3, e31c]
                intro e
                obtain ⟨a, b⟩ := hg (w / 32) (w / 32) (by omega) (by omega) e (w % 32) q4
                exact ⟨a, by omega⟩)
              rw [ej3, e31c, e33c] at hc
              refine z_aload_n hR dKN_walkFrom_121 (n := 122) rfl rfl ?_
              refine z_getR hR dKN_walkFrom_122 (n := 125) rfl zgKN_25 (by decide) rfl rfl ?_
              refine z_iload_n hR dKN_walkFrom_125 (n := 126) rfl rfl ?_
              refine z_iald hR (_) dKN_walkFrom_126 (n := 127) rfl (by decide) rfl (by decide) rfl (by omega) ?_
              rw [e22]
              refine z_aload_n hR dKN_walkFrom_127 (n := 128) rfl rfl ?_
              refine z_getR hR dKN_walkFrom_128 (n := 131) rfl zgKN_22 (by decide) rfl rfl ?_
              refine z_iload_n hR dKN_walkFrom_131 (n := 132) rfl rfl ?_
              refine z_iald hR (_) dKN_walkFrom_132 (n := 133) rfl (by decide) rfl (by decide) rfl (by omega) ?_
              rw [e21]
              refine z_icmp_ne hR dKN_walkFrom_133 (t := 141) (n := 136) rfl rfl (fun h133 => absurd h133 (fun q => q (by rw [hl]))) (fun _ => ?_)
              refine z_aload_n hR dKN_walkFrom_136 (n := 137) rfl rfl ?_
              refine z_iload_n hR dKN_walkFrom_137 (n := 138) rfl rfl ?_
              refine z_callV1 hR dKN_walkFrom_138 (n := 141) rfl zcKN_76 zkKN_release (by decide) (Nat.le_of_ble_eq_true rfl) (by decide) rfl rfl (Nat.zero_le _) hc (fun r138 s138 h138 => ?_)
              obtain ⟨rfl, rf, rS, ok, ro, rb⟩ := h138
              refine z_iincN hR 1 dKN_walkFrom_141 (n := 144) rfl rfl (by decide) rfl rfl ?_
              refine z_goto hR dKN_walkFrom_144 (t := 7) rfl ?_
              obtain ⟨r1, r2⟩ := kV_release hT (fun s t a b c g d => (hg s t a b c g d).2) hK2 h6 hl ro (B := s138.1 20) (by
                intro s a g b
                rw [rb s a g b, e20])
              exact ih (turn + 1) _ _ _ _ _ _ _ _ _ _ (by omega) (by omega) (f2.tr (rf.mo (by decide))) ⟨rS, r1⟩ h1 h2
            ·
              have hl2 : low2 w < num2 w := by omega
              have hne : ¬ nI (low2 w) = nI (num2 w) := fun q => hl ((nI_eq (by have := c2 w; omega) (by have := c2 w; omega)).mp q)
              refine z_aload_n hR dKN_walkFrom_121 (n := 122) rfl rfl ?_
              refine z_getR hR dKN_walkFrom_122 (n := 125) rfl zgKN_25 (by decide) rfl rfl ?_
              refine z_iload_n hR dKN_walkFrom_125 (n := 126) rfl rfl ?_
              refine z_iald hR (_) dKN_walkFrom_126 (n := 127) rfl (by decide) rfl (by decide) rfl (by omega) ?_
              rw [e22]
              refine z_aload_n hR dKN_walkFrom_127 (n := 128) rfl rfl ?_
              refine z_getR hR dKN_walkFrom_128 (n := 131) rfl zgKN_22 (by decide) rfl rfl ?_
              refine z_iload_n hR dKN_walkFrom_131 (n := 132) rfl rfl ?_
              refine z_iald hR (_) dKN_walkFrom_132 (n := 133) rfl (by decide) rfl (by decide) rfl (by omega) ?_
              rw [e21]
              refine z_icmp_ne hR dKN_walkFrom_133 (t := 141) (n := 136) rfl rfl (fun _ => ?_) (fun h133 => absurd h133 hne)
              refine z_iincN hR 1 dKN_walkFrom_141 (n := 144) rfl rfl (by decide) rfl rfl ?_
              refine z_goto hR dKN_walkFrom_144 (t := 7) rfl ?_
              obtain ⟨u, rest, e1, r1⟩ := hB hl2
              obtain ⟨u', rest', e2, r2, r3⟩ := kV_merge hK h6 hl2
              rw [e1] at e2
              injection e2 with e3 e4
              subst e3
              subst e4
              rw [e1] at r1
              exact ih (turn + 1) _ _ _ _ _ _ _ _ _ _ (by omega) (by omega) f2 ⟨r1, by rw [e20]; exact r2⟩ h1 h2
          cases ws with
          | nil =>
            refine z_iload_n hR dKN_walkFrom_7 (n := 8) rfl rfl ?_
            refine z_sipush hR dKN_walkFrom_8 (v := nI 1344) (n := 11) rfl rfl ?_
            refine z_icmp_geN hR dKN_walkFrom_11 (t := 147) (n := 14) rfl rfl (by omega) (by omega) (fun h11 => absurd h11 (by omega)) (fun h11 => ?_)
            refine z_aload_n hR dKN_walkFrom_14 (n := 15) rfl rfl ?_
            refine z_getI hR dKN_walkFrom_15 (n := 18) rfl zgKN_57 (by decide) rfl rfl ?_
            rw [e7]
            refine z_if_leN hR dKN_walkFrom_18 (t := 147) (n := 21) rfl rfl (by omega) (fun h18 => absurd h18 (by omega)) (fun h18 => ?_)
            refine z_aload_n hR dKN_walkFrom_21 (n := 22) rfl rfl ?_
            refine z_getR hR dKN_walkFrom_22 (n := 25) rfl zgKN_31 (by decide) rfl rfl ?_
            refine z_aload_n hR dKN_walkFrom_25 (n := 26) rfl rfl ?_
            refine z_getI hR dKN_walkFrom_26 (n := 29) rfl zgKN_57 (by decide) rfl rfl ?_
            rw [e7]
            refine z_iconst hR dKN_walkFrom_29 (v := nI 1) (n := 30) rfl rfl ?_
            refine z_isubN hR dKN_walkFrom_30 (n := 31) rfl (by omega) ?_
            refine z_iald hR (_) dKN_walkFrom_31 (n := 32) rfl (by decide) rfl (by decide) rfl (by omega) ?_
            rw [show ([] : List Nat).length + 1 - 1 = ([] : List Nat).length from rfl, ew]
            refine z_istore_n hR dKN_walkFrom_32 (n := 33) rfl (by decide) rfl ?_
            refine z_aload_n hR dKN_walkFrom_33 (n := 34) rfl rfl ?_
            refine z_getR hR dKN_walkFrom_34 (n := 37) rfl zgKN_28 (by decide) rfl rfl ?_
            refine z_iload_n hR dKN_walkFrom_37 (n := 38) rfl rfl ?_
            refine z_iald hR (_) dKN_walkFrom_38 (n := 39) rfl (by decide) rfl (by decide) rfl (by omega) ?_
            rw [et, t6]
            refine z_istore hR dKN_walkFrom_39 (n := 41) rfl (by decide) rfl ?_
            refine z_iload hR dKN_walkFrom_41 (n := 43) rfl rfl ?_
            refine z_bipush hR dKN_walkFrom_43 (v := nI 6) (n := 45) rfl rfl ?_
            refine z_icmp_geN hR dKN_walkFrom_45 (t := 68) (n := 48) rfl rfl (by omega) (by omega) (fun h45 => ?_) (fun h45 => absurd h45 (by omega))
            refine z_aload_n hR dKN_walkFrom_68 (n := 69) rfl rfl ?_
            refine z_dup hR dKN_walkFrom_69 (n := 70) rfl rfl ?_
            refine z_getI hR dKN_walkFrom_70 (n := 73) rfl zgKN_57 (by decide) rfl rfl ?_
            rw [e7]
            refine z_iconst hR dKN_walkFrom_73 (v := nI 1) (n := 74) rfl rfl ?_
            refine z_isubN hR dKN_walkFrom_74 (n := 75) rfl (by omega) ?_
            refine z_putI hR dKN_walkFrom_75 (n := 78) rfl zpKN_57 (by decide) rfl rfl ?_
            refine z_aload_n hR dKN_walkFrom_78 (n := 79) rfl rfl ?_
            refine z_getI hR dKN_walkFrom_79 (n := 82) rfl zgKN_57 (by decide) rfl rfl ?_
            rw [zwA_ss]
            refine z_if_leN hR dKN_walkFrom_82 (t := 121) (n := 85) rfl rfl (by omega) (fun h82 => ?_) (fun h82 => absurd h82 (by simp))
            exact tail _ _ hfp (by rw [zwA_n _ _ _ _ (by decide)]) (by rw [zwA_n _ _ _ _ (by decide)]; exact el) (by rw [zwA_n _ _ _ _ (by decide)]; exact en) (fun _ => hSp) (fun hl => by
              obtain ⟨u, rest, e, _⟩ := kV_merge hK h6 hl
              exact absurd e (by simp))
          | cons u rest =>
            have hum : num2 u ≠ 0 := q8 u (by simp)
            have hu192 := (hK.2.2.1 u hum).1
            obtain ⟨ul, _⟩ := hS.2.2.2.2.1 u hu192 hum
            have hul : low2 u ≤ num2 u := (hK.1.2.2.2.2.2.2.2.2.2.2.2.1 u (by simp)).1
            have hun : num2 u < num2 w := (List.pairwise_cons.mp hK.1.2.2.2.2.2.1).1 u (by simp)
            obtain ⟨_, ⟨eu, _⟩⟩ := hS.2.2.2.2.2.1
            have huw : w ≠ u := fun e => by
              rw [e] at hun
              omega
            have hb1 : low2 u < 2 ^ 31 := by have := c2 u; omega
            have hb2 : low2 w < 2 ^ 31 := by have := c2 w; omega
            refine z_iload_n hR dKN_walkFrom_7 (n := 8) rfl rfl ?_
            refine z_sipush hR dKN_walkFrom_8 (v := nI 1344) (n := 11) rfl rfl ?_
            refine z_icmp_geN hR dKN_walkFrom_11 (t := 147) (n := 14) rfl rfl (by omega) (by omega) (fun h11 => absurd h11 (by omega)) (fun h11 => ?_)
            refine z_aload_n hR dKN_walkFrom_14 (n := 15) rfl rfl ?_
            refine z_getI hR dKN_walkFrom_15 (n := 18) rfl zgKN_57 (by decide) rfl rfl ?_
            rw [e7]
            refine z_if_leN hR dKN_walkFrom_18 (t := 147) (n := 21) rfl rfl (by omega) (fun h18 => absurd h18 (by omega)) (fun h18 => ?_)
            refine z_aload_n hR dKN_walkFrom_21 (n := 22) rfl rfl ?_
            refine z_getR hR dKN_walkFrom_22 (n := 25) rfl zgKN_31 (by decide) rfl rfl ?_
            refine z_aload_n hR dKN_walkFrom_25 (n := 26) rfl rfl ?_
            refine z_getI hR dKN_walkFrom_26 (n := 29) rfl zgKN_57 (by decide) rfl rfl ?_
            rw [e7]
            refine z_iconst hR dKN_walkFrom_29 (v := nI 1) (n := 30) rfl rfl ?_
            refine z_isubN hR dKN_walkFrom_30 (n := 31) rfl (by omega) ?_
            refine z_iald hR (_) dKN_walkFrom_31 (n := 32) rfl (by decide) rfl (by decide) rfl (by omega) ?_
            rw [show (u :: rest).length + 1 - 1 = (u :: rest).length from rfl, ew]
            refine z_istore_n hR dKN_walkFrom_32 (n := 33) rfl (by decide) rfl ?_
            refine z_aload_n hR dKN_walkFrom_33 (n := 34) rfl rfl ?_
            refine z_getR hR dKN_walkFrom_34 (n := 37) rfl zgKN_28 (by decide) rfl rfl ?_
            refine z_iload_n hR dKN_walkFrom_37 (n := 38) rfl rfl ?_
            refine z_iald hR (_) dKN_walkFrom_38 (n := 39) rfl (by decide) rfl (by decide) rfl (by omega) ?_
            rw [et, t6]
            refine z_istore hR dKN_walkFrom_39 (n := 41) rfl (by decide) rfl ?_
            refine z_iload hR dKN_walkFrom_41 (n := 43) rfl rfl ?_
            refine z_bipush hR dKN_walkFrom_43 (v := nI 6) (n := 45) rfl rfl ?_
            refine z_icmp_geN hR dKN_walkFrom_45 (t := 68) (n := 48) rfl rfl (by omega) (by omega) (fun h45 => ?_) (fun h45 => absurd h45 (by omega))
            refine z_aload_n hR dKN_walkFrom_68 (n := 69) rfl rfl ?_
            refine z_dup hR dKN_walkFrom_69 (n := 70) rfl rfl ?_
            refine z_getI hR dKN_walkFrom_70 (n := 73) rfl zgKN_57 (by decide) rfl rfl ?_
            rw [e7]
            refine z_iconst hR dKN_walkFrom_73 (v := nI 1) (n := 74) rfl rfl ?_
            refine z_isubN hR dKN_walkFrom_74 (n := 75) rfl (by omega) ?_
            refine z_putI hR dKN_walkFrom_75 (n := 78) rfl zpKN_57 (by decide) rfl rfl ?_
            refine z_aload_n hR dKN_walkFrom_78 (n := 79) rfl rfl ?_
            refine z_getI hR dKN_walkFrom_79 (n := 82) rfl zgKN_57 (by decide) rfl rfl ?_
            rw [zwA_ss]
            refine z_if_leN hR dKN_walkFrom_82 (t := 121) (n := 85) rfl rfl (by omega) (fun h82 => absurd h82 (by simp)) (fun h82 => ?_)
            refine z_aload_n hR dKN_walkFrom_85 (n := 86) rfl rfl ?_
            refine z_getR hR dKN_walkFrom_86 (n := 89) rfl zgKN_31 (by decide) rfl rfl ?_
            refine z_aload_n hR dKN_walkFrom_89 (n := 90) rfl rfl ?_
            refine z_getI hR dKN_walkFrom_90 (n := 93) rfl zgKN_57 (by decide) rfl rfl ?_
            rw [zwA_ss]
            refine z_iconst hR dKN_walkFrom_93 (v := nI 1) (n := 94) rfl rfl ?_
            refine z_isubN hR dKN_walkFrom_94 (n := 95) rfl (by omega) ?_
            refine z_iald hR (_) dKN_walkFrom_95 (n := 96) rfl (by decide) rfl (by decide) rfl (by omega) ?_
            rw [zwA_n _ _ _ _ (by decide), show (u :: rest).length + 1 - 1 - 1 = rest.length from rfl, eu]
            refine z_istore hR dKN_walkFrom_96 (n := 98) rfl (by decide) rfl ?_
            refine z_aload_n hR dKN_walkFrom_98 (n := 99) rfl rfl ?_
            refine z_getR hR dKN_walkFrom_99 (n := 102) rfl zgKN_25 (by decide) rfl rfl ?_
            refine z_iload hR dKN_walkFrom_102 (n := 104) rfl rfl ?_
            refine z_aload_n hR dKN_walkFrom_104 (n := 105) rfl rfl ?_
            refine z_getR hR dKN_walkFrom_105 (n := 108) rfl zgKN_25 (by decide) rfl rfl ?_
            refine z_iload hR dKN_walkFrom_108 (n := 110) rfl rfl ?_
            refine z_iald hR (_) dKN_walkFrom_110 (n := 111) rfl (by decide) rfl (by decide) rfl (by omega) ?_
            rw [zwA_n _ _ _ _ (by decide), ul]
            refine z_aload_n hR dKN_walkFrom_111 (n := 112) rfl rfl ?_
            refine z_getR hR dKN_walkFrom_112 (n := 115) rfl zgKN_25 (by decide) rfl rfl ?_
            refine z_iload_n hR dKN_walkFrom_115 (n := 116) rfl rfl ?_
            refine z_iald hR (_) dKN_walkFrom_116 (n := 117) rfl (by decide) rfl (by decide) rfl (by omega) ?_
            rw [zwA_n _ _ _ _ (by decide), el]
            refine z_mmin hR dKN_walkFrom_117 (n := 120) rfl kmKN_70 (by decide) (Nat.le_of_ble_eq_true rfl) (Nat.zero_le _) ?_
            rw [mn_nI hb1 hb2]
            refine z_iast hR (_) dKN_walkFrom_120 (n := 121) rfl (by decide) rfl (by decide) rfl (by omega) ?_
            refine tail _ _ (hfp.wA _ (by decide)) (by rw [zwA_n _ _ _ _ (by decide), zwA_n _ _ _ _ (by decide)]) (by rw [zwA_sn _ _ _ _ huw, zwA_n _ _ _ _ (by decide)]; exact el) (by rw [zwA_n _ _ _ _ (by decide), zwA_n _ _ _ _ (by decide)]; exact en) (fun hl => ?_) (fun hl => ⟨u, rest, rfl, kS_low hSp⟩)
            have := kS_low (u := u) (x := min (low2 u) (low2 w)) hSp
            rw [ko_U_id (Nat.min_eq_left (by omega))] at this
            exact this
  obtain ⟨hS, hK⟩ := hV
  obtain ⟨r1, r2⟩ := kV_enter0 hK hw0 hw1 h0
  refine z_aload_n hR dKN_walkFrom_0 (n := 1) rfl rfl ?_
  refine z_iload_n hR dKN_walkFrom_1 (n := 2) rfl rfl ?_
  refine z_callV1 hR dKN_walkFrom_2 (n := 5) rfl zcKN_63 zkKN_enter (by decide) (Nat.le_of_ble_eq_true rfl) (by decide) rfl rfl (Nat.zero_le _) (m_KN_enter hw0 (by simp) (by simp) σ hS) (fun r2 s2 h2 => ?_)
  obtain ⟨rfl, ef, eS⟩ := h2
  refine z_iconst hR dKN_walkFrom_5 (v := nI 0) (n := 6) rfl rfl ?_
  refine z_istore_n hR dKN_walkFrom_6 (n := 7) rfl (by decide) rfl ?_
  refine key 1344 0 _ _ _ _ _ _ _ _ _ _ (by omega) r2 (ef.mo (by decide)) ⟨eS, ?_⟩ (by rw [ko_U_s]; omega) (fun v hv => ?_)
  · rw [ef.1 20 (by decide)]
    exact r1
  · by_cases e : v = w0
    · rw [e, ko_U_s]
      omega
    · rw [ko_U_n _ _ e]
      exact hv
/-- the knots are found -/
theorem m_KN_find {T : Nat} (hT : T ≤ 5) (σ : zS) (ht : σ.1 34 4 = nI T) (h28 : σ.1 28 2 = nI (2 ^ T)) (hg : gP σ T) : zM yKN_find cKN_find 4 none 4 130 0 [.ref 19] σ (fun r σ2 => r = none ∧ zfr knL σ σ2 ∧ ∀ s, s < 6 → ∀ g, g < 32 → (tb (σ2.1 20 s) g = true ↔ (g < 2 ^ T ∧ cK σ T (32 * s + g)))) (fun _ _ => False) := by
  refine zM.of [some (.ref 19), none, none, none] (by decide) 3 rfl (fun _ => Nat.le_of_ble_eq_true rfl) (fun Z hR => ?_)
  have p2 := p2_le hT
  have key : ∀ (m s : Nat) (l2 l3 : Option Value) (τ : zS), s + m = 6 → zfr knL σ τ → (∃ num low td cnt, cV σ τ T num low td cnt [] [] ∧ ∀ q g, q < s → g < 2 ^ T → num (32 * q + g) ≠ 0) → Z 0 6 [some (.ref 19), some (.int (nI s)), l2, l3] [] τ := by
    intro m
    induction m with
    | zero =>
      intro s l2 l3 τ hs hf h
      obtain rfl : s = 6 := by omega
      obtain ⟨num, low, td, cnt, ⟨hS, hK⟩, hall⟩ := h
      refine z_iload_n hR dKN_find_6 (n := 7) rfl rfl ?_
      refine z_bipush hR dKN_find_7 (v := nI 6) (n := 9) rfl rfl ?_
      refine z_icmp_geN hR dKN_find_9 (t := 58) (n := 12) rfl rfl (by omega) (by omega) (fun h9 => ?_) (fun h9 => absurd h9 (by omega))
      refine z_vret hR dKN_find_58 rfl (Nat.zero_le _) ?_
      refine ⟨rfl, hf, fun q hq g hg => ?_⟩
      rw [hK.2.2.2 q hq g hg]
      constructor
      · rintro ⟨a, _, b⟩
        have := (hK.2.2.1 _ a).2.1
        exact ⟨by omega, b⟩
      · rintro ⟨a, b⟩
        exact ⟨hall q g hq a, by simp, b⟩
    | succ m ih =>
      intro s l2 l3 τ hs hf h
      have key2 : ∀ (w i : Nat) (l3 : Option Value) (τ : zS), i + w = 2 ^ T → zfr knL σ τ → (∃ num low td cnt, cV σ τ T num low td cnt [] [] ∧ (∀ q g, q < s → g < 2 ^ T → num (32 * q + g) ≠ 0) ∧ ∀ g, g < i → num (32 * s + g) ≠ 0) → Z 0 14 [some (.ref 19), some (.int (nI s)), some (.int (nI i)), l3] [] τ := by
        intro w
        induction w with
        | zero =>
          intro i l3 τ hi hf h
          obtain rfl : i = 2 ^ T := by omega
          obtain ⟨num, low, td, cnt, hV, a1, a2⟩ := h
          have e28 : τ.1 28 2 = nI (2 ^ T) := by rw [hf.1 28 (by decide), h28]
          refine z_iload_n hR dKN_find_14 (n := 15) rfl rfl ?_
          refine z_aload_n hR dKN_find_15 (n := 16) rfl rfl ?_
          refine z_getR hR dKN_find_16 (n := 19) rfl zgKN_12 (by decide) rfl rfl ?_
          refine z_getI hR dKN_find_19 (n := 22) rfl zgKN_47 (by decide) rfl rfl ?_
          rw [e28]
          refine z_icmp_geN hR dKN_find_22 (t := 52) (n := 25) rfl rfl (by omega) (by omega) (fun h22 => ?_) (fun h22 => absurd h22 (by omega))
          refine z_iincN hR 1 dKN_find_52 (n := 55) rfl rfl (by decide) rfl rfl ?_
          refine z_goto hR dKN_find_55 (t := 6) rfl ?_
          exact ih (s + 1) _ _ _ (by omega) hf ⟨num, low, td, cnt, hV, fun q g hq hg => by
            by_cases e : q = s
            · subst e
              exact a2 g hg
            · exact a1 q g (by omega) hg⟩
        | succ w ihw =>
          intro i l3 τ hi hf h
          obtain ⟨num, low, td, cnt, hV, a1, a2⟩ := h
          have e28 : τ.1 28 2 = nI (2 ^ T) := by rw [hf.1 28 (by decide), h28]
          have hv : s * 32 + i < 192 := by omega
          have e21 := hV.1.2.2.2.1 _ hv
          have hb := (kV_cnt hV.2).2 (s * 32 + i)
          have hc192 := (kV_cnt hV.2).1
          have ecomm : s * 32 + i = 32 * s + i := by omega
          by_cases h0 : num (s * 32 + i) = 0
          ·
            have ej : jn τ = jn σ := jn_fr hf (by decide)
            have e31 : τ.1 31 = σ.1 31 := hf.1 31 (by decide)
            have e33 : τ.1 33 = σ.1 33 := hf.1 33 (by decide)
            have hg2 : gP τ T := by
              unfold gP
              rw [ej, e31]
              exact hg
            have hV2 : cV τ τ T num low td cnt [] [] := by
              unfold cV cK cE cG
              rw [ej, e31, e33]
              exact hV
            have hc := m_KN_walkFrom hT hv (by omega) τ (by rw [hf.1 34 (by decide)]; exact ht) hg2 hV2 h0
            unfold cV cK cE cG at hc
            rw [ej, e31, e33] at hc
            refine z_iload_n hR dKN_find_14 (n := 15) rfl rfl ?_
            refine z_aload_n hR dKN_find_15 (n := 16) rfl rfl ?_
            refine z_getR hR dKN_find_16 (n := 19) rfl zgKN_12 (by decide) rfl rfl ?_
            refine z_getI hR dKN_find_19 (n := 22) rfl zgKN_47 (by decide) rfl rfl ?_
            rw [e28]
            refine z_icmp_geN hR dKN_find_22 (t := 52) (n := 25) rfl rfl (by omega) (by omega) (fun h22 => absurd h22 (by omega)) (fun h22 => ?_)
            refine z_iload_n hR dKN_find_25 (n := 26) rfl rfl ?_
            refine z_bipush hR dKN_find_26 (v := nI 32) (n := 28) rfl rfl ?_
            refine z_imulN hR dKN_find_28 (n := 29) rfl ?_
            refine z_iload_n hR dKN_find_29 (n := 30) rfl rfl ?_
            refine z_iaddN hR dKN_find_30 (n := 31) rfl ?_
            refine z_istore_n hR dKN_find_31 (n := 32) rfl (by decide) rfl ?_
            refine z_aload_n hR dKN_find_32 (n := 33) rfl rfl ?_
            refine z_getR hR dKN_find_33 (n := 36) rfl zgKN_22 (by decide) rfl rfl ?_
            refine z_iload_n hR dKN_find_36 (n := 37) rfl rfl ?_
            refine z_iald hR (_) dKN_find_37 (n := 38) rfl (by decide) rfl (by decide) rfl (by omega) ?_
            rw [e21, h0]
            refine z_if_neN hR dKN_find_38 (t := 46) (n := 41) rfl rfl (by omega) (fun h38 => absurd h38 (by omega)) (fun h38 => ?_)
            refine z_aload_n hR dKN_find_41 (n := 42) rfl rfl ?_
            refine z_iload_n hR dKN_find_42 (n := 43) rfl rfl ?_
            refine z_callV1 hR dKN_find_43 (n := 46) rfl zcKN_50 zkKN_walkFrom (by decide) (Nat.le_of_ble_eq_true rfl) (by decide) rfl rfl (Nat.zero_le _) hc (fun r43 s43 h43 => ?_)
            obtain ⟨rfl, wf, num2, low2, td2, cnt2, wV, w1, w2⟩ := h43
            refine z_iincN hR 1 dKN_find_46 (n := 49) rfl rfl (by decide) rfl rfl ?_
            refine z_goto hR dKN_find_49 (t := 14) rfl ?_
            refine ihw (i + 1) _ _ (by omega) (hf.tr wf) ⟨num2, low2, td2, cnt2, wV, fun q g hq hg => w2 _ (a1 q g hq hg), fun g hg => ?_⟩
            by_cases e : g = i
            · subst e
              rw [← ecomm]
              exact w1
            · exact w2 _ (a2 g (by omega))
          ·
            refine z_iload_n hR dKN_find_14 (n := 15) rfl rfl ?_
            refine z_aload_n hR dKN_find_15 (n := 16) rfl rfl ?_
            refine z_getR hR dKN_find_16 (n := 19) rfl zgKN_12 (by decide) rfl rfl ?_
            refine z_getI hR dKN_find_19 (n := 22) rfl zgKN_47 (by decide) rfl rfl ?_
            rw [e28]
            refine z_icmp_geN hR dKN_find_22 (t := 52) (n := 25) rfl rfl (by omega) (by omega) (fun h22 => absurd h22 (by omega)) (fun h22 => ?_)
            refine z_iload_n hR dKN_find_25 (n := 26) rfl rfl ?_
            refine z_bipush hR dKN_find_26 (v := nI 32) (n := 28) rfl rfl ?_
            refine z_imulN hR dKN_find_28 (n := 29) rfl ?_
            refine z_iload_n hR dKN_find_29 (n := 30) rfl rfl ?_
            refine z_iaddN hR dKN_find_30 (n := 31) rfl ?_
            refine z_istore_n hR dKN_find_31 (n := 32) rfl (by decide) rfl ?_
            refine z_aload_n hR dKN_find_32 (n := 33) rfl rfl ?_
            refine z_getR hR dKN_find_33 (n := 36) rfl zgKN_22 (by decide) rfl rfl ?_
            refine z_iload_n hR dKN_find_36 (n := 37) rfl rfl ?_
            refine z_iald hR (_) dKN_find_37 (n := 38) rfl (by decide) rfl (by decide) rfl (by omega) ?_
            rw [e21]
            refine z_if_neN hR dKN_find_38 (t := 46) (n := 41) rfl rfl (by omega) (fun h38 => ?_) (fun h38 => absurd h38 (by omega))
            refine z_iincN hR 1 dKN_find_46 (n := 49) rfl rfl (by decide) rfl rfl ?_
            refine z_goto hR dKN_find_49 (t := 14) rfl ?_
            refine ihw (i + 1) _ _ (by omega) hf ⟨num, low, td, cnt, hV, a1, fun g hg => ?_⟩
            by_cases e : g = i
            · subst e
              rw [← ecomm]
              exact h0
            · exact a2 g (by omega)
      obtain ⟨num, low, td, cnt, hV, a1⟩ := h
      refine z_iload_n hR dKN_find_6 (n := 7) rfl rfl ?_
      refine z_bipush hR dKN_find_7 (v := nI 6) (n := 9) rfl rfl ?_
      refine z_icmp_geN hR dKN_find_9 (t := 58) (n := 12) rfl rfl (by omega) (by omega) (fun h9 => absurd h9 (by omega)) (fun h9 => ?_)
      refine z_iconst hR dKN_find_12 (v := nI 0) (n := 13) rfl rfl ?_
      refine z_istore_n hR dKN_find_13 (n := 14) rfl (by decide) rfl ?_
      exact key2 (2 ^ T) 0 _ _ (by omega) hf ⟨num, low, td, cnt, hV, a1, fun g hg => absurd hg (by omega)⟩
  refine z_aload_n hR dKN_find_0 (n := 1) rfl rfl ?_
  refine z_callV0 hR dKN_find_1 (n := 4) rfl zcKN_44 zkKN_startAnew (by decide) (Nat.le_of_ble_eq_true rfl) (by decide) rfl rfl (Nat.zero_le _) (m_KN_startAnew σ) (fun r1 s1 h1 => ?_)
  obtain ⟨rfl, sf, sS, s20⟩ := h1
  refine z_iconst hR dKN_find_4 (v := nI 0) (n := 5) rfl rfl ?_
  refine z_istore_n hR dKN_find_5 (n := 6) rfl (by decide) rfl ?_
  refine key 6 0 _ _ _ (by omega) (sf.mo (by decide)) ⟨fun _ => 0, fun _ => 0, fun _ => 0, 0, ⟨sS _ _, ko_I_0 _ _ _, ?_, fun v hv => absurd rfl hv, fun s hs g hg => ?_⟩, fun q g hq => absurd hq (by omega)⟩
  · have : ∀ n, cn (fun v => decide ((fun _ => 0 : Nat → Nat) v ≠ 0)) n = 0 := by
      intro n
      induction n with
      | zero => rfl
      | succ n ih => rw [cn, ih]; rfl
    exact (this 192).symm
  · rw [s20 s hs, tb_0]
    simp
