/-! The reference's tables -/
theorem shp_dec {g : Nat → Int32 × Int32 × Int32} {x : Nat} (hs : shp g x) (hx : x < 2 ^ 31) (ht : tmd (g x).1 = true) : 0 < x ∧ (if (g x).2.2 = -1 then (g x).2.1 else (g x).2.2) = nI (x - 1) ∧ (∀ W : Nat → Bool, tD g W x = W (x - 1)) ∧ ((((g x).1 = 88 ∨ (g x).1 = 70 ∨ (g x).1 = 71) ∧ (g x).2.1 = nI (x - 1) ∧ (g x).2.2 = -1 ∧ ∀ W : Nat → Bool, tA g W x = decide ((g x).1 = 70)) ∨ (((g x).1 = 85 ∨ (g x).1 = 82) ∧ ∃ m, m < x ∧ (g x).2.1 = nI m ∧ (g x).2.2 = nI (x - 1) ∧ ∀ W : Nat → Bool, tA g W x = W m)) := by
  rcases hs with ⟨q1, _⟩ | ⟨q0, q1, q2, q3⟩ | ⟨q0, q4, m, q1, q2, q3⟩
  · rw [tmd_atm q1] at ht
    exact absurd ht (by decide)
  · refine ⟨q1, by rw [if_pos q3, q2], fun W => by rw [tD, if_pos q3, q2, nI_clamp (by omega)], Or.inl ⟨?_, q2, q3, fun W => by rw [tA, if_pos q3]⟩⟩
    rcases (rk5_iff _).mp q0 with e | e | e | e
    · rw [e] at ht
      exact absurd ht (by decide)
    · exact Or.inl e
    · exact Or.inr (Or.inl e)
    · exact Or.inr (Or.inr e)
  · have hm : (g x).2.2 ≠ -1 := by
      rw [q3]
      exact nI_m1 (by omega)
    refine ⟨by omega, by rw [if_neg hm, q3], fun W => by rw [tD, if_neg hm, q3, nI_clamp (by omega)], Or.inr ⟨?_, m, by omega, q2, q3, fun W => by rw [tA, if_neg hm, q2, nI_clamp (by omega)]⟩⟩
    rcases tmd_bn ht (fun e => by rw [e] at q4; exact absurd q4 (by decide)) (fun e => by rw [e] at q4; exact absurd q4 (by decide)) with e | e | e
    · rw [e] at q4
      exact absurd q4 (by decide)
    · exact Or.inl e
    · exact Or.inr e
theorem upv_u {c : Int32} (h : c = 85 ∨ c = 70) (a b y x : Bool) : upv c a b y x = (b || (a && y)) := by
  rcases h with h | h <;> subst h <;> cases a <;> cases b <;> cases y <;> cases x <;> decide
theorem upv_r {c : Int32} (h : c = 82 ∨ c = 71) (a b y x : Bool) : upv c a b y x = (b && (a || y)) := by
  rcases h with h | h <;> subst h <;> cases a <;> cases b <;> cases y <;> cases x <;> decide
theorem upv_x (a b y x : Bool) : upv 88 a b y x = x := by
  cases a <;> cases b <;> cases y <;> cases x <;> decide
theorem m_MO_bitsBefore {g : Nat → Int32 × Int32 × Int32} {n s b nx : Nat} (hn : n ≤ 32) (hs6 : s < 6) (hsh : ∀ x, x < n → shp g x) (hT5 : tcn g n ≤ 5) (σ : zS) (hN : σ.1 45 4 = nI n) (ha : mT3 σ g n) (hb : ∀ x, x < n → tmd (g x).1 = true → σ.1 50 x = nI (tcn g x)) {X : Nat → Bool} (hX : ∀ y, y < n → (g y).1 = 88 → nx.testBit (tcn g y) = X (y - 1)) : zM yMO_bitsBefore cMO_bitsBefore 11 (some .int) 2 60 0 [.ref 45, .int (nI s), .int (nI b), .int (nI nx)] σ (fun r σ2 => zfr [62] σ σ2 ∧ ∃ (w : Nat) (W : Nat → Bool), r = some (.int (nI w)) ∧ w < 2 ^ tcn g n ∧ (∀ y, y < n → W y = if tmd (g y).1 = true then tN g W X (b.testBit (tcn g y)) y else uN g (σ.1 57 s) W y) ∧ ∀ y, y < n → tmd (g y).1 = true → w.testBit (tcn g y) = W y) (fun _ _ => False) := by
  refine zM.of [some (.ref 45), some (.int (nI s)), some (.int (nI b)), some (.int (nI nx)), none, none, none, none, none, none, none] (by decide) 7 rfl (fun _ => Nat.le_of_ble_eq_true rfl) (fun Z hR => ?_)
  have key : ∀ (m x : Nat) (W f : Nat → Bool) (τ : zS) (l6 l7 l8 l9 l10 : Option Value), x + m = n → zfr [62] σ τ → (∀ y, y < x → τ.1 62 y = zb (W y)) → (∀ y, y < x → W y = if tmd (g y).1 = true then tN g W X (b.testBit (tcn g y)) y else uN g (σ.1 57 s) W y) → (∀ y, y < x → tmd (g y).1 = true → f (tcn g y) = W y) → Z 0 6 [some (.ref 45), some (.int (nI s)), some (.int (nI b)), some (.int (nI nx)), some (.int (nI (bN f (tcn g x)))), some (.int (nI x)), l6, l7, l8, l9, l10] [] τ := by
    intro m
    induction m with
    | zero =>
      intro x W f τ l6 l7 l8 l9 l10 hx hf h1 h2 h3
      obtain rfl : x = n := by omega
      have hN2 : τ.1 45 4 = nI x := by rw [hf.1 45 (by decide), hN]
      refine z_iload hR dMO_bitsBefore_6 (n := 8) rfl rfl ?_
      refine z_aload_n hR dMO_bitsBefore_8 (n := 9) rfl rfl ?_
      refine z_getI hR dMO_bitsBefore_9 (n := 12) rfl zgMO_145 (by decide) rfl rfl ?_
      rw [hN2]
      refine z_icmp_geN hR dMO_bitsBefore_12 (t := 246) (n := 15) rfl rfl (by omega) (by omega) (fun h12 => ?_) (fun h12 => absurd h12 (by omega))
      refine z_iload hR dMO_bitsBefore_246 (n := 248) rfl rfl ?_
      refine z_zret hR dMO_bitsBefore_248 rfl rfl (Nat.zero_le _) ?_
      exact ⟨hf, _, W, rfl, bN_lt _ _, h2, fun y hy ht => by rw [bN_bit _ (tcn_lt hy ht), h3 y hy ht]⟩
    | succ m ih =>
      intro x W f τ l6 l7 l8 l9 l10 hx hf h1 h2 h3
      have hxn : x < n := by omega
      have hN2 : τ.1 45 4 = nI n := by rw [hf.1 45 (by decide), hN]
      have ha2 := mT3_fr hf (by decide) (by decide) (by decide) ha
      have e50 : τ.1 50 = σ.1 50 := hf.1 50 (by decide)
      have e57 : τ.1 57 = σ.1 57 := hf.1 57 (by decide)
      have nxt : ∀ (w : Bool) (f2 : Nat → Bool) (l6 l7 l8 l9 l10 : Option Value), (w = if tmd (g x).1 = true then tN g W X (b.testBit (tcn g x)) x else uN g (σ.1 57 s) W x) → (∀ i, i < tcn g x → f2 i = f i) → (tmd (g x).1 = true → f2 (tcn g x) = w) → Z 0 6 [some (.ref 45), some (.int (nI s)), some (.int (nI b)), some (.int (nI nx)), some (.int (nI (bN f2 (tcn g (x + 1))))), some (.int (nI (x + 1))), l6, l7, l8, l9, l10] [] (zwA τ 62 x (zb w)) := by
        intro w f2 l6 l7 l8 l9 l10 hw hf2 hfw
        refine ih (x + 1) (fun y => if y = x then w else W y) f2 _ _ _ _ _ _ (by omega) (hf.wA _ (by decide)) (fun y hy => ?_) (fun y hy => ?_) (fun y hy ht => ?_)
        · by_cases e : y = x
          · subst e
            rw [zwA_ss, if_pos rfl]
          · rw [zwA_sn _ _ _ _ e, if_neg e]
            exact h1 y (by omega)
        · by_cases ht : tmd (g y).1 = true
          · rw [if_pos ht, tN_same (W2 := W) (hsh y (by omega)) (by omega) ht (fun q hq => if_neg (by omega))]
            by_cases e : y = x
            · subst e
              rw [if_pos rfl, hw, if_pos ht]
            · rw [if_neg e, h2 y (by omega), if_pos ht]
          · rw [if_neg ht, uN_same (V2 := W) (hsh y (by omega)) (by omega) (by simpa using ht) (fun q hq => if_neg (by omega))]
            by_cases e : y = x
            · subst e
              rw [if_pos rfl, hw, if_neg ht]
            · rw [if_neg e, h2 y (by omega), if_neg ht]
        · by_cases e : y = x
          · subst e
            rw [if_pos rfl]
            exact hfw ht
          · rw [if_neg e, hf2 _ (tcn_lt (by omega) ht)]
            exact h3 y (by omega) ht
      by_cases ht : tmd (g x).1 = true
      ·
        have hk := tcn_lt hxn ht
        have hs1 : tcn g (x + 1) = tcn g x + 1 := by
          rw [tcn, ht]
          rfl
        obtain ⟨d1, d2, d3, d4⟩ := shp_dec (hsh x hxn) (by omega) ht
        generalize hc : (g x).1 = c at *
        have hcx : τ.1 47 x = c := by rw [(ha2 x hxn).1, hc]
        -- the value is written
        have tail : ∀ (w : Bool) (l6 l8 l9 l10 : Option Value), (w = tN g W X (b.testBit (tcn g x)) x) → Z 0 198 [some (.ref 45), some (.int (nI s)), some (.int (nI b)), some (.int (nI nx)), some (.int (nI (bN f (tcn g x)))), some (.int (nI x)), l6, some (.int (nI (tcn g x))), l8, l9, l10] [.int (zb w), .int (nI x), .ref 62] τ := by
          intro w l6 l8 l9 l10 hw
          obtain ⟨f2, p1, p2, p3, p4⟩ := bN_put (f := f) (w := w) (show tcn g x < 32 by omega)
          have hgo := fun l6 l7 l8 l9 l10 => nxt w f2 l6 l7 l8 l9 l10 (by rw [if_pos ht]; exact hw) p1 (fun _ => p2)
          rw [hs1] at hgo
          cases w with
          | true =>
            rw [← p3 rfl] at hgo
            refine z_zast hR (_) dMO_bitsBefore_198 (n := 199) rfl (by decide) rfl (by decide) rfl (by omega) ?_
            rw [zb_vn]
            refine z_aload_n hR dMO_bitsBefore_199 (n := 200) rfl rfl ?_
            refine z_getR hR dMO_bitsBefore_200 (n := 203) rfl zgMO_59 (by decide) rfl rfl ?_
            refine z_iload hR dMO_bitsBefore_203 (n := 205) rfl rfl ?_
            refine z_zald hR (_) dMO_bitsBefore_205 (n := 206) rfl (by decide) rfl (by decide) rfl (by omega) ?_
            rw [zwA_ss]
            refine z_if_eqB hR dMO_bitsBefore_206 (t := 219) (n := 209) rfl rfl (fun h206 => absurd h206 (by decide)) (fun h206 => ?_)
            refine z_iload hR dMO_bitsBefore_209 (n := 211) rfl rfl ?_
            refine z_iconst hR dMO_bitsBefore_211 (v := 1) (n := 212) rfl rfl ?_
            refine z_iload hR dMO_bitsBefore_212 (n := 214) rfl rfl ?_
            refine z_ishl hR dMO_bitsBefore_214 (n := 215) rfl ?_
            refine z_ior hR dMO_bitsBefore_215 (n := 216) rfl ?_
            refine z_goto hR dMO_bitsBefore_216 (t := 221) rfl ?_
            refine z_istore hR dMO_bitsBefore_221 (n := 223) rfl (by decide) rfl ?_
            refine z_goto hR dMO_bitsBefore_223 (t := 240) rfl ?_
            refine z_iincN hR 1 dMO_bitsBefore_240 (n := 243) rfl rfl (by decide) rfl rfl ?_
            refine z_goto hR dMO_bitsBefore_243 (t := 6) rfl ?_
            exact hgo _ _ _ _ _
          | false =>
            rw [← p4 rfl] at hgo
            refine z_zast hR (_) dMO_bitsBefore_198 (n := 199) rfl (by decide) rfl (by decide) rfl (by omega) ?_
            rw [zb_vn]
            refine z_aload_n hR dMO_bitsBefore_199 (n := 200) rfl rfl ?_
            refine z_getR hR dMO_bitsBefore_200 (n := 203) rfl zgMO_59 (by decide) rfl rfl ?_
            refine z_iload hR dMO_bitsBefore_203 (n := 205) rfl rfl ?_
            refine z_zald hR (_) dMO_bitsBefore_205 (n := 206) rfl (by decide) rfl (by decide) rfl (by omega) ?_
            rw [zwA_ss]
            refine z_if_eqB hR dMO_bitsBefore_206 (t := 219) (n := 209) rfl rfl (fun h206 => ?_) (fun h206 => absurd h206 (by decide))
            refine z_iload hR dMO_bitsBefore_219 (n := 221) rfl rfl ?_
            refine z_istore hR dMO_bitsBefore_221 (n := 223) rfl (by decide) rfl ?_
            refine z_goto hR dMO_bitsBefore_223 (t := 240) rfl ?_
            refine z_iincN hR 1 dMO_bitsBefore_240 (n := 243) rfl rfl (by decide) rfl rfl ?_
            refine z_goto hR dMO_bitsBefore_243 (t := 6) rfl ?_
            exact hgo _ _ _ _ _
        -- the operator
        have mid : ∀ (av : Bool), (∀ W : Nat → Bool, (tA g W x = av → tN g W X (b.testBit (tcn g x)) x = upv c av (W (x - 1)) (b.testBit (tcn g x)) (X (g x).2.1.toNatClampNeg))) → tA g W x = av → (c = 88 → nx.testBit (tcn g x) = X (g x).2.1.toNatClampNeg) → Z 0 110 [some (.ref 45), some (.int (nI s)), some (.int (nI b)), some (.int (nI nx)), some (.int (nI (bN f (tcn g x)))), some (.int (nI x)), some (.int c), some (.int (nI (tcn g x))), some (.int (zb (b.testBit (tcn g x)))), some (.int (zb (W (x - 1)))), some (.int (zb av))] [] τ := by
          intro av hN hA hXx
          have go := fun w l6 l8 l9 l10 (hw : w = upv c av (W (x - 1)) (b.testBit (tcn g x)) (X (g x).2.1.toNatClampNeg)) => tail w l6 l8 l9 l10 (by rw [hw, hN W hA])
          by_cases c88 : c = 88
          · have go2 := fun l6 l8 l9 l10 => go (nx.testBit (tcn g x)) l6 l8 l9 l10 (by rw [c88, upv_x, hXx c88])
            cases en : nx.testBit (tcn g x) with
            | true =>
              rw [en] at go2
              refine z_aload_n hR dMO_bitsBefore_110 (n := 111) rfl rfl ?_
              refine z_getR hR dMO_bitsBefore_111 (n := 114) rfl zgMO_59 (by decide) rfl rfl ?_
              refine z_iload hR dMO_bitsBefore_114 (n := 116) rfl rfl ?_
              refine z_iload hR dMO_bitsBefore_116 (n := 118) rfl rfl ?_
              refine z_bipush hR dMO_bitsBefore_118 (v := 88) (n := 120) rfl rfl ?_
              refine z_icmp_ne hR dMO_bitsBefore_120 (t := 141) (n := 123) rfl rfl (fun h120 => absurd h120 (fun q => q c88)) (fun _ => ?_)
              refine z_iload_n hR dMO_bitsBefore_123 (n := 124) rfl rfl ?_
              refine z_iload hR dMO_bitsBefore_124 (n := 126) rfl rfl ?_
              refine z_ishr hR dMO_bitsBefore_126 (n := 127) rfl ?_
              refine z_iconst hR dMO_bitsBefore_127 (v := 1) (n := 128) rfl rfl ?_
              refine z_iand hR dMO_bitsBefore_128 (n := 129) rfl ?_
              rw [tb_nb (by omega), en]
              refine z_iconst hR dMO_bitsBefore_129 (v := 1) (n := 130) rfl rfl ?_
              refine z_icmp_ne hR dMO_bitsBefore_130 (t := 137) (n := 133) rfl rfl (fun h130 => absurd h130 (fun q => q rfl)) (fun _ => ?_)
              refine z_iconst hR dMO_bitsBefore_133 (v := 1) (n := 134) rfl rfl ?_
              refine z_goto hR dMO_bitsBefore_134 (t := 198) rfl ?_
              exact go2 _ _ _ _
            | false =>
              rw [en] at go2
              refine z_aload_n hR dMO_bitsBefore_110 (n := 111) rfl rfl ?_
              refine z_getR hR dMO_bitsBefore_111 (n := 114) rfl zgMO_59 (by decide) rfl rfl ?_
              refine z_iload hR dMO_bitsBefore_114 (n := 116) rfl rfl ?_
              refine z_iload hR dMO_bitsBefore_116 (n := 118) rfl rfl ?_
              refine z_bipush hR dMO_bitsBefore_118 (v := 88) (n := 120) rfl rfl ?_
              refine z_icmp_ne hR dMO_bitsBefore_120 (t := 141) (n := 123) rfl rfl (fun h120 => absurd h120 (fun q => q c88)) (fun _ => ?_)
              refine z_iload_n hR dMO_bitsBefore_123 (n := 124) rfl rfl ?_
              refine z_iload hR dMO_bitsBefore_124 (n := 126) rfl rfl ?_
              refine z_ishr hR dMO_bitsBefore_126 (n := 127) rfl ?_
              refine z_iconst hR dMO_bitsBefore_127 (v := 1) (n := 128) rfl rfl ?_
              refine z_iand hR dMO_bitsBefore_128 (n := 129) rfl ?_
              rw [tb_nb (by omega), en]
              refine z_iconst hR dMO_bitsBefore_129 (v := 1) (n := 130) rfl rfl ?_
              refine z_icmp_ne hR dMO_bitsBefore_130 (t := 137) (n := 133) rfl rfl (fun _ => ?_) (fun h130 => absurd h130 (by decide))
              refine z_iconst hR dMO_bitsBefore_137 (v := 0) (n := 138) rfl rfl ?_
              refine z_goto hR dMO_bitsBefore_138 (t := 198) rfl ?_
              exact go2 _ _ _ _
          by_cases cu : c = 85 ∨ c = 70
          · have go2 := fun l6 l8 l9 l10 => go (W (x - 1) || (av && b.testBit (tcn g x))) l6 l8 l9 l10 (by rw [upv_u cu])
            have at155 : Z 0 155 [some (.ref 45), some (.int (nI s)), some (.int (nI b)), some (.int (nI nx)), some (.int (nI (bN f (tcn g x)))), some (.int (nI x)), some (.int c), some (.int (nI (tcn g x))), some (.int (zb (b.testBit (tcn g x)))), some (.int (zb (W (x - 1)))), some (.int (zb av))] [.int (nI x), .ref 62] τ := by
              refine z_iload hR dMO_bitsBefore_155 (n := 157) rfl rfl ?_
              refine z_if_neB hR dMO_bitsBefore_157 (t := 170) (n := 160) rfl rfl (fun h157 => ?_) (fun h157 => ?_)
              · refine z_iconst hR dMO_bitsBefore_170 (v := 1) (n := 171) rfl rfl ?_
                refine z_goto hR dMO_bitsBefore_171 (t := 198) rfl ?_
                first
                  | (rw [h157, h162, h167] at go2; exact go2 _ _ _ _)
                  | (rw [h157, h162] at go2; exact go2 _ _ _ _)
                  | (rw [h157] at go2; exact go2 _ _ _ _)
              · refine z_iload hR dMO_bitsBefore_160 (n := 162) rfl rfl ?_
                refine z_if_eqB hR dMO_bitsBefore_162 (t := 174) (n := 165) rfl rfl (fun h162 => ?_) (fun h162 => ?_)
                · refine z_iconst hR dMO_bitsBefore_174 (v := 0) (n := 175) rfl rfl ?_
                  refine z_goto hR dMO_bitsBefore_175 (t := 198) rfl ?_
                  first
                    | (rw [h157, h162, h167] at go2; exact go2 _ _ _ _)
                    | (rw [h157, h162] at go2; exact go2 _ _ _ _)
                    | (rw [h157] at go2; exact go2 _ _ _ _)
                · refine z_iload hR dMO_bitsBefore_165 (n := 167) rfl rfl ?_
                  refine z_if_eqB hR dMO_bitsBefore_167 (t := 174) (n := 170) rfl rfl (fun h167 => ?_) (fun h167 => ?_)
                  · refine z_iconst hR dMO_bitsBefore_174 (v := 0) (n := 175) rfl rfl ?_
                    refine z_goto hR dMO_bitsBefore_175 (t := 198) rfl ?_
                    first
                      | (rw [h157, h162, h167] at go2; exact go2 _ _ _ _)
                      | (rw [h157, h162] at go2; exact go2 _ _ _ _)
                      | (rw [h157] at go2; exact go2 _ _ _ _)
                  · refine z_iconst hR dMO_bitsBefore_170 (v := 1) (n := 171) rfl rfl ?_
                    refine z_goto hR dMO_bitsBefore_171 (t := 198) rfl ?_
                    first
                      | (rw [h157, h162, h167] at go2; exact go2 _ _ _ _)
                      | (rw [h157, h162] at go2; exact go2 _ _ _ _)
                      | (rw [h157] at go2; exact go2 _ _ _ _)
            by_cases c85 : c = 85
            ·
              refine z_aload_n hR dMO_bitsBefore_110 (n := 111) rfl rfl ?_
              refine z_getR hR dMO_bitsBefore_111 (n := 114) rfl zgMO_59 (by decide) rfl rfl ?_
              refine z_iload hR dMO_bitsBefore_114 (n := 116) rfl rfl ?_
              refine z_iload hR dMO_bitsBefore_116 (n := 118) rfl rfl ?_
              refine z_bipush hR dMO_bitsBefore_118 (v := 88) (n := 120) rfl rfl ?_
              refine z_icmp_ne hR dMO_bitsBefore_120 (t := 141) (n := 123) rfl rfl (fun _ => ?_) (fun h120 => absurd h120 c88)
              refine z_iload hR dMO_bitsBefore_141 (n := 143) rfl rfl ?_
              refine z_bipush hR dMO_bitsBefore_143 (v := 85) (n := 145) rfl rfl ?_
              refine z_icmp_eq hR dMO_bitsBefore_145 (t := 155) (n := 148) rfl rfl (fun _ => ?_) (fun h145 => absurd c85 h145)
              exact at155
            ·
              refine z_aload_n hR dMO_bitsBefore_110 (n := 111) rfl rfl ?_
              refine z_getR hR dMO_bitsBefore_111 (n := 114) rfl zgMO_59 (by decide) rfl rfl ?_
              refine z_iload hR dMO_bitsBefore_114 (n := 116) rfl rfl ?_
              refine z_iload hR dMO_bitsBefore_116 (n := 118) rfl rfl ?_
              refine z_bipush hR dMO_bitsBefore_118 (v := 88) (n := 120) rfl rfl ?_
              refine z_icmp_ne hR dMO_bitsBefore_120 (t := 141) (n := 123) rfl rfl (fun _ => ?_) (fun h120 => absurd h120 c88)
              refine z_iload hR dMO_bitsBefore_141 (n := 143) rfl rfl ?_
              refine z_bipush hR dMO_bitsBefore_143 (v := 85) (n := 145) rfl rfl ?_
              refine z_icmp_eq hR dMO_bitsBefore_145 (t := 155) (n := 148) rfl rfl (fun h145 => absurd h145 c85) (fun _ => ?_)
              refine z_iload hR dMO_bitsBefore_148 (n := 150) rfl rfl ?_
              refine z_bipush hR dMO_bitsBefore_150 (v := 70) (n := 152) rfl rfl ?_
              refine z_icmp_ne hR dMO_bitsBefore_152 (t := 178) (n := 155) rfl rfl (fun h152 => absurd h152 (fun q => q (cu.resolve_left c85))) (fun _ => ?_)
              exact at155
          · have cr : c = 82 ∨ c = 71 := by
              rcases d4 with ⟨e | e | e, _⟩ | ⟨e | e, _⟩
              · exact absurd e c88
              · exact absurd (Or.inr e) cu
              · exact Or.inr e
              · exact absurd (Or.inl e) cu
              · exact Or.inl e
            have go2 := fun l6 l8 l9 l10 => go (W (x - 1) && (av || b.testBit (tcn g x))) l6 l8 l9 l10 (by rw [upv_r cr])
            refine z_aload_n hR dMO_bitsBefore_110 (n := 111) rfl rfl ?_
            refine z_getR hR dMO_bitsBefore_111 (n := 114) rfl zgMO_59 (by decide) rfl rfl ?_
            refine z_iload hR dMO_bitsBefore_114 (n := 116) rfl rfl ?_
            refine z_iload hR dMO_bitsBefore_116 (n := 118) rfl rfl ?_
            refine z_bipush hR dMO_bitsBefore_118 (v := 88) (n := 120) rfl rfl ?_
            refine z_icmp_ne hR dMO_bitsBefore_120 (t := 141) (n := 123) rfl rfl (fun _ => ?_) (fun h120 => absurd h120 c88)
            refine z_iload hR dMO_bitsBefore_141 (n := 143) rfl rfl ?_
            refine z_bipush hR dMO_bitsBefore_143 (v := 85) (n := 145) rfl rfl ?_
            refine z_icmp_eq hR dMO_bitsBefore_145 (t := 155) (n := 148) rfl rfl (fun h145 => absurd h145 (fun q => cu (Or.inl q))) (fun _ => ?_)
            refine z_iload hR dMO_bitsBefore_148 (n := 150) rfl rfl ?_
            refine z_bipush hR dMO_bitsBefore_150 (v := 70) (n := 152) rfl rfl ?_
            refine z_icmp_ne hR dMO_bitsBefore_152 (t := 178) (n := 155) rfl rfl (fun _ => ?_) (fun h152 => absurd h152 (fun q => cu (Or.inr q)))
            refine z_iload hR dMO_bitsBefore_178 (n := 180) rfl rfl ?_
            refine z_if_eqB hR dMO_bitsBefore_180 (t := 197) (n := 183) rfl rfl (fun h180 => ?_) (fun h180 => ?_)
            · refine z_iconst hR dMO_bitsBefore_197 (v := 0) (n := 198) rfl rfl ?_
              first
                | (rw [h180, h185, h190] at go2; exact go2 _ _ _ _)
                | (rw [h180, h185] at go2; exact go2 _ _ _ _)
                | (rw [h180] at go2; exact go2 _ _ _ _)
            · refine z_iload hR dMO_bitsBefore_183 (n := 185) rfl rfl ?_
              refine z_if_neB hR dMO_bitsBefore_185 (t := 193) (n := 188) rfl rfl (fun h185 => ?_) (fun h185 => ?_)
              · refine z_iconst hR dMO_bitsBefore_193 (v := 1) (n := 194) rfl rfl ?_
                refine z_goto hR dMO_bitsBefore_194 (t := 198) rfl ?_
                first
                  | (rw [h180, h185, h190] at go2; exact go2 _ _ _ _)
                  | (rw [h180, h185] at go2; exact go2 _ _ _ _)
                  | (rw [h180] at go2; exact go2 _ _ _ _)
              · refine z_iload hR dMO_bitsBefore_188 (n := 190) rfl rfl ?_
                refine z_if_eqB hR dMO_bitsBefore_190 (t := 197) (n := 193) rfl rfl (fun h190 => ?_) (fun h190 => ?_)
                · refine z_iconst hR dMO_bitsBefore_197 (v := 0) (n := 198) rfl rfl ?_
                  first
                    | (rw [h180, h185, h190] at go2; exact go2 _ _ _ _)
                    | (rw [h180, h185] at go2; exact go2 _ _ _ _)
                    | (rw [h180] at go2; exact go2 _ _ _ _)
                · refine z_iconst hR dMO_bitsBefore_193 (v := 1) (n := 194) rfl rfl ?_
                  refine z_goto hR dMO_bitsBefore_194 (t := 198) rfl ?_
                  first
                    | (rw [h180, h185, h190] at go2; exact go2 _ _ _ _)
                    | (rw [h180, h185] at go2; exact go2 _ _ _ _)
                    | (rw [h180] at go2; exact go2 _ _ _ _)
        have hNu : ∀ (av : Bool) (W : Nat → Bool), tA g W x = av → tN g W X (b.testBit (tcn g x)) x = upv c av (W (x - 1)) (b.testBit (tcn g x)) (X (g x).2.1.toNatClampNeg) := fun av W h => by rw [tN, h, d3 W, hc]
        -- the values before the operator
        have pre : ∀ l8 : Option Value, (∀ l9 l10 : Option Value, Z 0 58 [some (.ref 45), some (.int (nI s)), some (.int (nI b)), some (.int (nI nx)), some (.int (nI (bN f (tcn g x)))), some (.int (nI x)), some (.int c), some (.int (nI (tcn g x))), some (.int (zb (b.testBit (tcn g x)))), l9, l10] [] τ) → Z 0 6 [some (.ref 45), some (.int (nI s)), some (.int (nI b)), some (.int (nI nx)), some (.int (nI (bN f (tcn g x)))), some (.int (nI x)), l6, l7, l8, l9, l10] [] τ := by
          intro l8 go
          cases eb : b.testBit (tcn g x) with
          | true =>
            rw [eb] at go
            refine z_iload hR dMO_bitsBefore_6 (n := 8) rfl rfl ?_
            refine z_aload_n hR dMO_bitsBefore_8 (n := 9) rfl rfl ?_
            refine z_getI hR dMO_bitsBefore_9 (n := 12) rfl zgMO_145 (by decide) rfl rfl ?_
            rw [hN2]
            refine z_icmp_geN hR dMO_bitsBefore_12 (t := 246) (n := 15) rfl rfl (by omega) (by omega) (fun h12 => absurd h12 (by omega)) (fun h12 => ?_)
            refine z_aload_n hR dMO_bitsBefore_15 (n := 16) rfl rfl ?_
            refine z_getR hR dMO_bitsBefore_16 (n := 19) rfl zgMO_13 (by decide) rfl rfl ?_
            refine z_iload hR dMO_bitsBefore_19 (n := 21) rfl rfl ?_
            refine z_iald hR (_) dMO_bitsBefore_21 (n := 22) rfl (by decide) rfl (by decide) rfl (by omega) ?_
            rw [hcx]
            refine z_istore hR dMO_bitsBefore_22 (n := 24) rfl (by decide) rfl ?_
            refine z_iload hR dMO_bitsBefore_24 (n := 26) rfl rfl ?_
            refine z_callS1 hR dMO_bitsBefore_26 (n := 29) rfl zcMO_134 zkMO_isTimed (by decide) (Nat.le_of_ble_eq_true rfl) (Nat.zero_le _) (m_MO_isTimed c τ) (fun r26 s26 h26 => ?_)
            obtain ⟨rfl, e26⟩ := h26
            subst s26
            rw [ht]
            refine z_if_eqB hR dMO_bitsBefore_29 (t := 226) (n := 32) rfl rfl (fun h29 => absurd h29 (by decide)) (fun h29 => ?_)
            refine z_aload_n hR dMO_bitsBefore_32 (n := 33) rfl rfl ?_
            refine z_getR hR dMO_bitsBefore_33 (n := 36) rfl zgMO_22 (by decide) rfl rfl ?_
            refine z_iload hR dMO_bitsBefore_36 (n := 38) rfl rfl ?_
            refine z_iald hR (_) dMO_bitsBefore_38 (n := 39) rfl (by decide) rfl (by decide) rfl (by omega) ?_
            rw [e50, hb x hxn (by rw [hc]; exact ht)]
            refine z_istore hR dMO_bitsBefore_39 (n := 41) rfl (by decide) rfl ?_
            refine z_iload_n hR dMO_bitsBefore_41 (n := 42) rfl rfl ?_
            refine z_iload hR dMO_bitsBefore_42 (n := 44) rfl rfl ?_
            refine z_ishr hR dMO_bitsBefore_44 (n := 45) rfl ?_
            refine z_iconst hR dMO_bitsBefore_45 (v := 1) (n := 46) rfl rfl ?_
            refine z_iand hR dMO_bitsBefore_46 (n := 47) rfl ?_
            rw [tb_nb (by omega), eb]
            refine z_iconst hR dMO_bitsBefore_47 (v := 1) (n := 48) rfl rfl ?_
            refine z_icmp_ne hR dMO_bitsBefore_48 (t := 55) (n := 51) rfl rfl (fun h48 => absurd h48 (fun q => q rfl)) (fun _ => ?_)
            refine z_iconst hR dMO_bitsBefore_51 (v := 1) (n := 52) rfl rfl ?_
            refine z_goto hR dMO_bitsBefore_52 (t := 56) rfl ?_
            refine z_istore hR dMO_bitsBefore_56 (n := 58) rfl (by decide) rfl ?_
            exact go _ _
          | false =>
            rw [eb] at go
            refine z_iload hR dMO_bitsBefore_6 (n := 8) rfl rfl ?_
            refine z_aload_n hR dMO_bitsBefore_8 (n := 9) rfl rfl ?_
            refine z_getI hR dMO_bitsBefore_9 (n := 12) rfl zgMO_145 (by decide) rfl rfl ?_
            rw [hN2]
            refine z_icmp_geN hR dMO_bitsBefore_12 (t := 246) (n := 15) rfl rfl (by omega) (by omega) (fun h12 => absurd h12 (by omega)) (fun h12 => ?_)
            refine z_aload_n hR dMO_bitsBefore_15 (n := 16) rfl rfl ?_
            refine z_getR hR dMO_bitsBefore_16 (n := 19) rfl zgMO_13 (by decide) rfl rfl ?_
            refine z_iload hR dMO_bitsBefore_19 (n := 21) rfl rfl ?_
            refine z_iald hR (_) dMO_bitsBefore_21 (n := 22) rfl (by decide) rfl (by decide) rfl (by omega) ?_
            rw [hcx]
            refine z_istore hR dMO_bitsBefore_22 (n := 24) rfl (by decide) rfl ?_
            refine z_iload hR dMO_bitsBefore_24 (n := 26) rfl rfl ?_
            refine z_callS1 hR dMO_bitsBefore_26 (n := 29) rfl zcMO_134 zkMO_isTimed (by decide) (Nat.le_of_ble_eq_true rfl) (Nat.zero_le _) (m_MO_isTimed c τ) (fun r26 s26 h26 => ?_)
            obtain ⟨rfl, e26⟩ := h26
            subst s26
            rw [ht]
            refine z_if_eqB hR dMO_bitsBefore_29 (t := 226) (n := 32) rfl rfl (fun h29 => absurd h29 (by decide)) (fun h29 => ?_)
            refine z_aload_n hR dMO_bitsBefore_32 (n := 33) rfl rfl ?_
            refine z_getR hR dMO_bitsBefore_33 (n := 36) rfl zgMO_22 (by decide) rfl rfl ?_
            refine z_iload hR dMO_bitsBefore_36 (n := 38) rfl rfl ?_
            refine z_iald hR (_) dMO_bitsBefore_38 (n := 39) rfl (by decide) rfl (by decide) rfl (by omega) ?_
            rw [e50, hb x hxn (by rw [hc]; exact ht)]
            refine z_istore hR dMO_bitsBefore_39 (n := 41) rfl (by decide) rfl ?_
            refine z_iload_n hR dMO_bitsBefore_41 (n := 42) rfl rfl ?_
            refine z_iload hR dMO_bitsBefore_42 (n := 44) rfl rfl ?_
            refine z_ishr hR dMO_bitsBefore_44 (n := 45) rfl ?_
            refine z_iconst hR dMO_bitsBefore_45 (v := 1) (n := 46) rfl rfl ?_
            refine z_iand hR dMO_bitsBefore_46 (n := 47) rfl ?_
            rw [tb_nb (by omega), eb]
            refine z_iconst hR dMO_bitsBefore_47 (v := 1) (n := 48) rfl rfl ?_
            refine z_icmp_ne hR dMO_bitsBefore_48 (t := 55) (n := 51) rfl rfl (fun _ => ?_) (fun h48 => absurd h48 (by decide))
            refine z_iconst hR dMO_bitsBefore_55 (v := 0) (n := 56) rfl rfl ?_
            refine z_istore hR dMO_bitsBefore_56 (n := 58) rfl (by decide) rfl ?_
            exact go _ _
        refine pre _ (fun l9 l10 => ?_)
        rcases d4 with ⟨ec, f1, f2, f3⟩ | ⟨ec, mm, f0, f1, f2, f3⟩
        · have hXx : c = 88 → nx.testBit (tcn g x) = X (g x).2.1.toNatClampNeg := fun e => by rw [hX x hxn (by rw [hc]; exact e), f1, nI_clamp (by omega)]
          by_cases c70 : c = 70
          ·
            have go := mid true (hNu true) (by rw [f3, decide_eq_true c70]) hXx
            refine z_aload_n hR dMO_bitsBefore_58 (n := 59) rfl rfl ?_
            refine z_getR hR dMO_bitsBefore_59 (n := 62) rfl zgMO_59 (by decide) rfl rfl ?_
            refine z_aload_n hR dMO_bitsBefore_62 (n := 63) rfl rfl ?_
            refine z_iload hR dMO_bitsBefore_63 (n := 65) rfl rfl ?_
            refine z_callV1 hR dMO_bitsBefore_65 (n := 68) rfl zcMO_181 zkMO_decider (by decide) (Nat.le_of_ble_eq_true rfl) (by decide) rfl rfl (Nat.zero_le _) (m_MO_decider hn hxn (hsh x hxn) τ ha2) (fun r65 s65 h65 => ?_)
            obtain ⟨rfl, e65⟩ := h65
            subst s65
            rw [d2]
            refine z_zald hR (_) dMO_bitsBefore_68 (n := 69) rfl (by decide) rfl (by decide) rfl (by omega) ?_
            rw [h1 _ (by omega)]
            refine z_istore hR dMO_bitsBefore_69 (n := 71) rfl (by decide) rfl ?_
            refine z_aload_n hR dMO_bitsBefore_71 (n := 72) rfl rfl ?_
            refine z_getR hR dMO_bitsBefore_72 (n := 75) rfl zgMO_19 (by decide) rfl rfl ?_
            refine z_iload hR dMO_bitsBefore_75 (n := 77) rfl rfl ?_
            refine z_iald hR (_) dMO_bitsBefore_77 (n := 78) rfl (by decide) rfl (by decide) rfl (by omega) ?_
            rw [(ha2 x hxn).2.2, f2]
            refine z_if_ge hR dMO_bitsBefore_78 (t := 96) (n := 81) rfl rfl (fun h78 => absurd h78 (by decide)) (fun _ => ?_)
            refine z_iload hR dMO_bitsBefore_81 (n := 83) rfl rfl ?_
            refine z_bipush hR dMO_bitsBefore_83 (v := 70) (n := 85) rfl rfl ?_
            refine z_icmp_ne hR dMO_bitsBefore_85 (t := 92) (n := 88) rfl rfl (fun h85 => absurd h85 (fun q => q c70)) (fun _ => ?_)
            refine z_iconst hR dMO_bitsBefore_88 (v := 1) (n := 89) rfl rfl ?_
            refine z_goto hR dMO_bitsBefore_89 (t := 108) rfl ?_
            refine z_istore hR dMO_bitsBefore_108 (n := 110) rfl (by decide) rfl ?_
            exact go
          ·
            have go := mid false (hNu false) (by rw [f3, decide_eq_false c70]) hXx
            refine z_aload_n hR dMO_bitsBefore_58 (n := 59) rfl rfl ?_
            refine z_getR hR dMO_bitsBefore_59 (n := 62) rfl zgMO_59 (by decide) rfl rfl ?_
            refine z_aload_n hR dMO_bitsBefore_62 (n := 63) rfl rfl ?_
            refine z_iload hR dMO_bitsBefore_63 (n := 65) rfl rfl ?_
            refine z_callV1 hR dMO_bitsBefore_65 (n := 68) rfl zcMO_181 zkMO_decider (by decide) (Nat.le_of_ble_eq_true rfl) (by decide) rfl rfl (Nat.zero_le _) (m_MO_decider hn hxn (hsh x hxn) τ ha2) (fun r65 s65 h65 => ?_)
            obtain ⟨rfl, e65⟩ := h65
            subst s65
            rw [d2]
            refine z_zald hR (_) dMO_bitsBefore_68 (n := 69) rfl (by decide) rfl (by decide) rfl (by omega) ?_
            rw [h1 _ (by omega)]
            refine z_istore hR dMO_bitsBefore_69 (n := 71) rfl (by decide) rfl ?_
            refine z_aload_n hR dMO_bitsBefore_71 (n := 72) rfl rfl ?_
            refine z_getR hR dMO_bitsBefore_72 (n := 75) rfl zgMO_19 (by decide) rfl rfl ?_
            refine z_iload hR dMO_bitsBefore_75 (n := 77) rfl rfl ?_
            refine z_iald hR (_) dMO_bitsBefore_77 (n := 78) rfl (by decide) rfl (by decide) rfl (by omega) ?_
            rw [(ha2 x hxn).2.2, f2]
            refine z_if_ge hR dMO_bitsBefore_78 (t := 96) (n := 81) rfl rfl (fun h78 => absurd h78 (by decide)) (fun _ => ?_)
            refine z_iload hR dMO_bitsBefore_81 (n := 83) rfl rfl ?_
            refine z_bipush hR dMO_bitsBefore_83 (v := 70) (n := 85) rfl rfl ?_
            refine z_icmp_ne hR dMO_bitsBefore_85 (t := 92) (n := 88) rfl rfl (fun _ => ?_) (fun h85 => absurd h85 c70)
            refine z_iconst hR dMO_bitsBefore_92 (v := 0) (n := 93) rfl rfl ?_
            refine z_goto hR dMO_bitsBefore_93 (t := 108) rfl ?_
            refine z_istore hR dMO_bitsBefore_108 (n := 110) rfl (by decide) rfl ?_
            exact go
        · have go := mid (W mm) (hNu (W mm)) (f3 W) (fun e => by
            rcases ec with q | q <;> rw [e] at q <;> exact absurd q (by decide))
          refine z_aload_n hR dMO_bitsBefore_58 (n := 59) rfl rfl ?_
          refine z_getR hR dMO_bitsBefore_59 (n := 62) rfl zgMO_59 (by decide) rfl rfl ?_
          refine z_aload_n hR dMO_bitsBefore_62 (n := 63) rfl rfl ?_
          refine z_iload hR dMO_bitsBefore_63 (n := 65) rfl rfl ?_
          refine z_callV1 hR dMO_bitsBefore_65 (n := 68) rfl zcMO_181 zkMO_decider (by decide) (Nat.le_of_ble_eq_true rfl) (by decide) rfl rfl (Nat.zero_le _) (m_MO_decider hn hxn (hsh x hxn) τ ha2) (fun r65 s65 h65 => ?_)
          obtain ⟨rfl, e65⟩ := h65
          subst s65
          rw [d2]
          refine z_zald hR (_) dMO_bitsBefore_68 (n := 69) rfl (by decide) rfl (by decide) rfl (by omega) ?_
          rw [h1 _ (by omega)]
          refine z_istore hR dMO_bitsBefore_69 (n := 71) rfl (by decide) rfl ?_
          refine z_aload_n hR dMO_bitsBefore_71 (n := 72) rfl rfl ?_
          refine z_getR hR dMO_bitsBefore_72 (n := 75) rfl zgMO_19 (by decide) rfl rfl ?_
          refine z_iload hR dMO_bitsBefore_75 (n := 77) rfl rfl ?_
          refine z_iald hR (_) dMO_bitsBefore_77 (n := 78) rfl (by decide) rfl (by decide) rfl (by omega) ?_
          rw [(ha2 x hxn).2.2, f2]
          refine z_if_geN hR dMO_bitsBefore_78 (t := 96) (n := 81) rfl rfl (by omega) ?_
          refine z_aload_n hR dMO_bitsBefore_96 (n := 97) rfl rfl ?_
          refine z_getR hR dMO_bitsBefore_97 (n := 100) rfl zgMO_59 (by decide) rfl rfl ?_
          refine z_aload_n hR dMO_bitsBefore_100 (n := 101) rfl rfl ?_
          refine z_getR hR dMO_bitsBefore_101 (n := 104) rfl zgMO_16 (by decide) rfl rfl ?_
          refine z_iload hR dMO_bitsBefore_104 (n := 106) rfl rfl ?_
          refine z_iald hR (_) dMO_bitsBefore_106 (n := 107) rfl (by decide) rfl (by decide) rfl (by omega) ?_
          rw [(ha2 x hxn).2.1, f1]
          refine z_zald hR (_) dMO_bitsBefore_107 (n := 108) rfl (by decide) rfl (by decide) rfl (by omega) ?_
          rw [h1 mm f0]
          refine z_istore hR dMO_bitsBefore_108 (n := 110) rfl (by decide) rfl ?_
          exact go
      ·
        have ht' : tmd (g x).1 = false := by simpa using ht
        have hc := m_MO_plain hn hxn hs6 (hsh x hxn) ht' τ ha2 h1
        rw [e57] at hc
        have hs1 : tcn g (x + 1) = tcn g x := by
          rw [tcn, ht']
          rfl
        have hgo := fun l6 l7 l8 l9 l10 => nxt (uN g (σ.1 57 s) W x) f l6 l7 l8 l9 l10 (by rw [if_neg ht]) (fun i _ => rfl) (fun q => absurd q ht)
        rw [hs1] at hgo
        refine z_iload hR dMO_bitsBefore_6 (n := 8) rfl rfl ?_
        refine z_aload_n hR dMO_bitsBefore_8 (n := 9) rfl rfl ?_
        refine z_getI hR dMO_bitsBefore_9 (n := 12) rfl zgMO_145 (by decide) rfl rfl ?_
        rw [hN2]
        refine z_icmp_geN hR dMO_bitsBefore_12 (t := 246) (n := 15) rfl rfl (by omega) (by omega) (fun h12 => absurd h12 (by omega)) (fun h12 => ?_)
        refine z_aload_n hR dMO_bitsBefore_15 (n := 16) rfl rfl ?_
        refine z_getR hR dMO_bitsBefore_16 (n := 19) rfl zgMO_13 (by decide) rfl rfl ?_
        refine z_iload hR dMO_bitsBefore_19 (n := 21) rfl rfl ?_
        refine z_iald hR (_) dMO_bitsBefore_21 (n := 22) rfl (by decide) rfl (by decide) rfl (by omega) ?_
        rw [(ha2 x hxn).1]
        refine z_istore hR dMO_bitsBefore_22 (n := 24) rfl (by decide) rfl ?_
        refine z_iload hR dMO_bitsBefore_24 (n := 26) rfl rfl ?_
        refine z_callS1 hR dMO_bitsBefore_26 (n := 29) rfl zcMO_134 zkMO_isTimed (by decide) (Nat.le_of_ble_eq_true rfl) (Nat.zero_le _) (m_MO_isTimed (g x).1 τ) (fun r26 s26 h26 => ?_)
        obtain ⟨rfl, e26⟩ := h26
        subst s26
        rw [ht']
        refine z_if_eqB hR dMO_bitsBefore_29 (t := 226) (n := 32) rfl rfl (fun h29 => ?_) (fun h29 => absurd h29 (by decide))
        refine z_aload_n hR dMO_bitsBefore_226 (n := 227) rfl rfl ?_
        refine z_getR hR dMO_bitsBefore_227 (n := 230) rfl zgMO_59 (by decide) rfl rfl ?_
        refine z_iload hR dMO_bitsBefore_230 (n := 232) rfl rfl ?_
        refine z_aload_n hR dMO_bitsBefore_232 (n := 233) rfl rfl ?_
        refine z_iload hR dMO_bitsBefore_233 (n := 235) rfl rfl ?_
        refine z_iload_n hR dMO_bitsBefore_235 (n := 236) rfl rfl ?_
        refine z_callV2 hR dMO_bitsBefore_236 (n := 239) rfl zcMO_177 zkMO_plain (by decide) (Nat.le_of_ble_eq_true rfl) (by decide) rfl rfl (Nat.zero_le _) hc (fun r236 s236 h236 => ?_)
        obtain ⟨rfl, e236⟩ := h236
        subst s236
        refine z_zast hR (_) dMO_bitsBefore_239 (n := 240) rfl (by decide) rfl (by decide) rfl (by omega) ?_
        rw [zb_vn]
        refine z_iincN hR 1 dMO_bitsBefore_240 (n := 243) rfl rfl (by decide) rfl rfl ?_
        refine z_goto hR dMO_bitsBefore_243 (t := 6) rfl ?_
        exact hgo _ _ _ _ _
  refine z_iconst hR dMO_bitsBefore_0 (v := nI 0) (n := 1) rfl rfl ?_
  refine z_istore hR dMO_bitsBefore_1 (n := 3) rfl (by decide) rfl ?_
  refine z_iconst hR dMO_bitsBefore_3 (v := nI 0) (n := 4) rfl rfl ?_
  refine z_istore hR dMO_bitsBefore_4 (n := 6) rfl (by decide) rfl ?_
  exact key n 0 (fun _ => false) (fun _ => false) _ _ _ _ _ _ (by omega) zfr.rf (fun y hy => absurd hy (by omega)) (fun y hy => absurd hy (by omega)) (fun y hy => absurd hy (by omega))
