/-! Sets of guesses as longs -/
theorem tl_N (n g : Nat) (h : g < 64) : tl (Int64.ofNat n) g = n.testBit g := by
  have e : (Int64.ofNat n).toBitVec = BitVec.ofNat 64 n := rfl
  rw [tl, e, BitVec.getLsbD_ofNat]
  simp [h]
theorem tl_shl1 {b : Nat} (hb : b < 32) {g : Nat} (hg : g < 64) : tl ((1 : Int64) <<< ((nI b).toInt64 &&& 63)) g = decide (g = b) := by
  have e : (1 : Int64) <<< ((nI b).toInt64 &&& 63) = Int64.ofNat (2 ^ b) := by
    rcases (by omega : b = 0 ∨ b = 1 ∨ b = 2 ∨ b = 3 ∨ b = 4 ∨ b = 5 ∨ b = 6 ∨ b = 7 ∨ b = 8 ∨ b = 9 ∨ b = 10 ∨ b = 11 ∨ b = 12 ∨ b = 13 ∨ b = 14 ∨ b = 15 ∨ b = 16 ∨ b = 17 ∨ b = 18 ∨ b = 19 ∨ b = 20 ∨ b = 21 ∨ b = 22 ∨ b = 23 ∨ b = 24 ∨ b = 25 ∨ b = 26 ∨ b = 27 ∨ b = 28 ∨ b = 29 ∨ b = 30 ∨ b = 31) with h | h | h | h | h | h | h | h | h | h | h | h | h | h | h | h | h | h | h | h | h | h | h | h | h | h | h | h | h | h | h | h <;> subst h <;> decide
  rw [e, tl_N _ _ hg, Nat.testBit_two_pow]
  by_cases h : b = g
  · subst h
    simp
  · simp [h]
    omega
def zl (p : Bool) : Int64 := if p then 1 else 0
theorem tl_1 (g : Nat) : tl 1 g = decide (g = 0) := by
  by_cases h : g < 64
  · rw [show (1 : Int64) = Int64.ofNat 1 from rfl, tl_N 1 g h]
    rcases g with _ | g
    · rfl
    · simp [Nat.testBit_succ]
  · rw [tl_ge _ (by omega)]
    simp
    omega
theorem tl_sr1 (x : Int64) {b : Nat} (hb : b < 32) : (x >>> ((nI b).toInt64 &&& 63)) &&& 1 = zl (tl x b) := by
  have e : ((((nI b).toInt64 &&& 63).toBitVec).smod 64).toNat = b := by
    rcases (by omega : b = 0 ∨ b = 1 ∨ b = 2 ∨ b = 3 ∨ b = 4 ∨ b = 5 ∨ b = 6 ∨ b = 7 ∨ b = 8 ∨ b = 9 ∨ b = 10 ∨ b = 11 ∨ b = 12 ∨ b = 13 ∨ b = 14 ∨ b = 15 ∨ b = 16 ∨ b = 17 ∨ b = 18 ∨ b = 19 ∨ b = 20 ∨ b = 21 ∨ b = 22 ∨ b = 23 ∨ b = 24 ∨ b = 25 ∨ b = 26 ∨ b = 27 ∨ b = 28 ∨ b = 29 ∨ b = 30 ∨ b = 31) with h | h | h | h | h | h | h | h | h | h | h | h | h | h | h | h | h | h | h | h | h | h | h | h | h | h | h | h | h | h | h | h <;> subst h <;> decide
  refine tl_ext (fun g hg => ?_)
  rw [tl_and, tl_1]
  by_cases h : g = 0
  · subst h
    have : tl (x >>> ((nI b).toInt64 &&& 63)) 0 = tl x b := by
      rw [tl, tl, Int64.toBitVec_shiftRight, BitVec.sshiftRight_eq', e, BitVec.getLsbD_sshiftRight]
      simp [show b < 64 by omega]
    rw [this]
    cases tl x b <;> simp [zl, tl_0, tl_1]
  · cases tl x b <;> simp [zl, tl_0, tl_1, h]
theorem tl_all {T : Nat} (hT : T ≤ 5) {g : Nat} (hg : g < 64) : tl ((1 : Int64) <<< ((nI (2 ^ T)).toInt64 &&& 63) - 1) g = decide (g < 2 ^ T) := by
  have q : ∀ T : Fin 6, ∀ g : Fin 64, tl ((1 : Int64) <<< ((nI (2 ^ T.1)).toInt64 &&& 63) - 1) g.1 = decide (g.1 < 2 ^ T.1) := by decide
  exact q ⟨T, by omega⟩ ⟨g, hg⟩
theorem tl_ne {x y : Int64} (h : x ≠ y) : ∃ g, g < 64 ∧ tl x g ≠ tl y g := Classical.byContradiction (fun hn => h (tl_ext (fun g hg => Classical.byContradiction (fun q => hn ⟨g, hg, q⟩))))
theorem cmp_t : lg_cmp (zl true) 1 = 0 := by decide
theorem cmp_f : lg_cmp (zl false) 1 = -1 := by decide
/-- what the tables hold of a state under a guess -/
def pO (g : Nat → Int32 × Int32 × Int32) (n : Nat) (mk : Nat → Int32) (A0 A1 : Nat → Int32) (A7 : Nat → Int64) (t b : Nat) : Prop := ∃ V : Nat → Bool, (∀ y, y < n → V y = if tmd (g y).1 = true then b.testBit (tcn g y) else uN g (mk t) V y) ∧ A1 (64 * t + b) = zb (V (n - 1)) ∧ (∀ y, y < n → tmd (g y).1 = true → tl (A7 (6 * tcn g y + t)) b = pN g V y) ∧ ∀ s, s < 6 → ∃ (w : Nat) (W : Nat → Bool), A0 (384 * s + 64 * t + b) = nI w ∧ w < 2 ^ tcn g n ∧ (∀ y, y < n → W y = if tmd (g y).1 = true then tN g W V (b.testBit (tcn g y)) y else uN g (mk s) W y) ∧ ∀ y, y < n → tmd (g y).1 = true → w.testBit (tcn g y) = W y
theorem pO_mo {g : Nat → Int32 × Int32 × Int32} {n : Nat} {mk : Nat → Int32} {A0 A1 B0 B1 : Nat → Int32} {A7 B7 : Nat → Int64} {t b : Nat} (h0 : ∀ s, s < 6 → B0 (384 * s + 64 * t + b) = A0 (384 * s + 64 * t + b)) (h1 : B1 (64 * t + b) = A1 (64 * t + b)) (h7 : ∀ k, k < tcn g n → tl (B7 (6 * k + t)) b = tl (A7 (6 * k + t)) b) (h : pO g n mk A0 A1 A7 t b) : pO g n mk B0 B1 B7 t b := by
  obtain ⟨V, v1, v2, v3, v4⟩ := h
  refine ⟨V, v1, h1.trans v2, fun y hy ht => (h7 _ (tcn_lt hy ht)).trans (v3 y hy ht), fun s hs => ?_⟩
  obtain ⟨w, W, w1, w2⟩ := v4 s hs
  exact ⟨w, W, (h0 s hs).trans w1, w2⟩
def tpA (A : Nat → Int32) (t b : Nat) : Bool := decide (A (64 * t + b) = 1)
def beA (A : Nat → Int32) (s t b : Nat) : Nat := (A (384 * s + 64 * t + b)).toNatClampNeg
def glA (A : Nat → Int64) (k t b : Nat) : Bool := tl (A (6 * k + t)) b
theorem tO_of {g : Nat → Int32 × Int32 × Int32} {n : Nat} {mk : Nat → Int32} {A0 A1 : Nat → Int32} {A7 : Nat → Int64} (hT5 : tcn g n ≤ 5) (h : ∀ t, t < 6 → ∀ b, b < 2 ^ tcn g n → pO g n mk A0 A1 A7 t b) : tO g n (tcn g n) mk (tpA A1) (beA A0) (glA A7) ∧ (∀ t, t < 6 → ∀ b, b < 2 ^ tcn g n → A1 (64 * t + b) = zb (tpA A1 t b)) ∧ ∀ s t, s < 6 → t < 6 → ∀ b, b < 2 ^ tcn g n → A0 (384 * s + 64 * t + b) = nI (beA A0 s t b) ∧ beA A0 s t b < 2 ^ tcn g n := by
  have p2 := p2_le hT5
  have hbe : ∀ s t, s < 6 → t < 6 → ∀ b, b < 2 ^ tcn g n → A0 (384 * s + 64 * t + b) = nI (beA A0 s t b) ∧ beA A0 s t b < 2 ^ tcn g n := fun s t hs ht b hb => by
    obtain ⟨V, _, _, _, v4⟩ := h t ht b hb
    obtain ⟨w, W, w1, w2, _⟩ := v4 s hs
    have e : beA A0 s t b = w := by rw [beA, w1, nI_clamp (by omega)]
    rw [e]
    exact ⟨w1, w2⟩
  refine ⟨fun t ht b hb => ?_, fun t ht b hb => ?_, hbe⟩
  · obtain ⟨V, v1, v2, v3, v4⟩ := h t ht b hb
    refine ⟨V, v1, ?_, v3, fun s hs => ⟨(hbe s t hs ht b hb).2, ?_⟩⟩
    · rw [tpA, v2]
      cases V (n - 1) <;> decide
    · obtain ⟨w, W, w1, w2, w3, w4⟩ := v4 s hs
      have e : beA A0 s t b = w := by rw [beA, w1, nI_clamp (by omega)]
      rw [e]
      exact ⟨W, w3, w4⟩
  · obtain ⟨V, v1, v2, _⟩ := h t ht b hb
    rw [tpA, v2]
    cases V (n - 1) <;> decide
theorem zfr_L {l : List Nat} {σ σ2 : zS} (h : zfr l σ σ2) : ∀ o, o ∉ l → σ2.2 o = σ.2 o := h.2
set_option maxHeartbeats 800000 in
theorem m_MO_tables {g : Nat → Int32 × Int32 × Int32} {n : Nat} (hn : n ≤ 32) (hn0 : 0 < n) (hsh : ∀ x, x < n → shp g x) (hT5 : tcn g n ≤ 5) (σ : zS) (hN : σ.1 45 4 = nI n) (hT : σ.1 45 9 = nI (tcn g n)) (ha : mT3 σ g n) (hb : ∀ x, x < n → tmd (g x).1 = true → σ.1 50 x = nI (tcn g x)) : zM yMO_tables cMO_tables 10 none 3 90 0 [.ref 45] σ (fun r σ2 => r = none ∧ zfr [60, 61, 62, 67] σ σ2 ∧ ∀ t, t < 6 → ∀ b, b < 2 ^ tcn g n → pO g n (σ.1 57) (σ2.1 60) (σ2.1 61) (σ2.2 67) t b) (fun _ _ => False) := by
  refine zM.of [some (.ref 45), none, none, none, none, none, none, none, none, none] (by decide) 9 rfl (fun _ => Nat.le_of_ble_eq_true rfl) (fun Z hR => ?_)
  have p2 := p2_le hT5
  -- all of the states below t, and of t the guesses below b, are done; the rest of the goals is empty
  have key1 : ∀ (m t : Nat) (l3 l4 l5 l6 l7 l8 l9 : Option Value) (τ : zS), t + m = 6 → zfr [60, 61, 62, 67] σ τ → (∀ t2, t2 < t → ∀ b, b < 2 ^ tcn g n → pO g n (σ.1 57) (τ.1 60) (τ.1 61) (τ.2 67) t2 b) → (∀ k t2 b, k < tcn g n → t ≤ t2 → t2 < 6 → b < 64 → tl (τ.2 67 (6 * k + t2)) b = false) → Z 0 30 [some (.ref 45), some (.int (nI (2 ^ tcn g n))), some (.int (nI t)), l3, l4, l5, l6, l7, l8, l9] [] τ := by
    intro m
    induction m with
    | zero =>
      intro t l3 l4 l5 l6 l7 l8 l9 τ ht hf h1 h2
      obtain rfl : t = 6 := by omega
      refine z_iload_n hR dMO_tables_30 (n := 31) rfl rfl ?_
      refine z_bipush hR dMO_tables_31 (v := nI 6) (n := 33) rfl rfl ?_
      refine z_icmp_geN hR dMO_tables_33 (t := 321) (n := 36) rfl rfl (by omega) (by omega) (fun h33 => ?_) (fun h33 => absurd h33 (by omega))
      refine z_vret hR dMO_tables_321 rfl (Nat.zero_le _) ?_
      exact ⟨rfl, hf, h1⟩
    | succ m ih =>
      intro t l3 l4 l5 l6 l7 l8 l9 τ ht hf h1 h2
      have ht6 : t < 6 := by omega
      have key2 : ∀ (w b : Nat) (l4 l5 l6 l7 l8 l9 : Option Value) (τ : zS), b + w = 2 ^ tcn g n → zfr [60, 61, 62, 67] σ τ → (∀ t2, t2 < t → ∀ b, b < 2 ^ tcn g n → pO g n (σ.1 57) (τ.1 60) (τ.1 61) (τ.2 67) t2 b) → (∀ b2, b2 < b → pO g n (σ.1 57) (τ.1 60) (τ.1 61) (τ.2 67) t b2) → (∀ k t2 b, k < tcn g n → t < t2 → t2 < 6 → b < 64 → tl (τ.2 67 (6 * k + t2)) b = false) → (∀ k b2, k < tcn g n → b ≤ b2 → b2 < 64 → tl (τ.2 67 (6 * k + t)) b2 = false) → Z 0 38 [some (.ref 45), some (.int (nI (2 ^ tcn g n))), some (.int (nI t)), some (.int (nI b)), l4, l5, l6, l7, l8, l9] [] τ := by
        intro w
        induction w with
        | zero =>
          intro b l4 l5 l6 l7 l8 l9 τ hw hf a1 a2 a3 a4
          refine z_iload_n hR dMO_tables_38 (n := 39) rfl rfl ?_
          refine z_iload_n hR dMO_tables_39 (n := 40) rfl rfl ?_
          refine z_icmp_geN hR dMO_tables_40 (t := 315) (n := 43) rfl rfl (by omega) (by omega) (fun h40 => ?_) (fun h40 => absurd h40 (by omega))
          refine z_iincN hR 1 dMO_tables_315 (n := 318) rfl rfl (by decide) rfl rfl ?_
          refine z_goto hR dMO_tables_318 (t := 30) rfl ?_
          refine ih (t + 1) _ _ _ _ _ _ _ _ (by omega) hf (fun t2 ht2 b2 hb2 => ?_) (fun k t2 b2 k1 k2 k3 k4 => a3 k t2 b2 k1 (by omega) k3 k4)
          by_cases e : t2 = t
          · subst e
            exact a2 b2 (by omega)
          · exact a1 t2 (by omega) b2 hb2
        | succ w ihw =>
          intro b l4 l5 l6 l7 l8 l9 τ hw hf a1 a2 a3 a4
          have hb32 : b < 32 := by omega
          have ha2 := mT3_fr hf (by decide) (by decide) (by decide) ha
          have e50 : τ.1 50 = σ.1 50 := hf.1 50 (by decide)
          have e57 : τ.1 57 = σ.1 57 := hf.1 57 (by decide)
          have e45 : τ.1 45 = σ.1 45 := hf.1 45 (by decide)
          have hcE := m_MO_evaluate (b := b) hn ht6 hsh hT5 τ (by rw [e45]; exact hN) ha2 (by rw [e50]; exact hb)
          rw [e57] at hcE
          -- the last loop: the guesses before
          have key4 : ∀ (m2 s : Nat) (nx : Nat) (V : Nat → Bool) (l6 l7 l8 l9 : Option Value) (τ : zS), s + m2 = 6 → zfr [60, 61, 62, 67] σ τ → (∀ t2, t2 < t → ∀ b, b < 2 ^ tcn g n → pO g n (σ.1 57) (τ.1 60) (τ.1 61) (τ.2 67) t2 b) → (∀ b2, b2 < b → pO g n (σ.1 57) (τ.1 60) (τ.1 61) (τ.2 67) t b2) → (∀ k t2 b, k < tcn g n → t < t2 → t2 < 6 → b < 64 → tl (τ.2 67 (6 * k + t2)) b = false) → (∀ k b2, k < tcn g n → b + 1 ≤ b2 → b2 < 64 → tl (τ.2 67 (6 * k + t)) b2 = false) → (∀ y, y < n → V y = if tmd (g y).1 = true then b.testBit (tcn g y) else uN g (σ.1 57 t) V y) → τ.1 61 (64 * t + b) = zb (V (n - 1)) → (∀ y, y < n → tmd (g y).1 = true → tl (τ.2 67 (6 * tcn g y + t)) b = pN g V y) → (∀ y, y < n → (g y).1 = 88 → nx.testBit (tcn g y) = V (y - 1)) → (∀ s2, s2 < s → ∃ (w : Nat) (W : Nat → Bool), τ.1 60 (384 * s2 + 64 * t + b) = nI w ∧ w < 2 ^ tcn g n ∧ (∀ y, y < n → W y = if tmd (g y).1 = true then tN g W V (b.testBit (tcn g y)) y else uN g (σ.1 57 s2) W y) ∧ ∀ y, y < n → tmd (g y).1 = true → w.testBit (tcn g y) = W y) → Z 0 269 [some (.ref 45), some (.int (nI (2 ^ tcn g n))), some (.int (nI t)), some (.int (nI b)), some (.int (nI nx)), some (.int (nI s)), l6, l7, l8, l9] [] τ := by
            intro m2
            induction m2 with
            | zero =>
              intro s nx V l6 l7 l8 l9 τ hs hf c1 c2 c3 c4 c5 c6 c7 c8 c9
              obtain rfl : s = 6 := by omega
              refine z_iload hR dMO_tables_269 (n := 271) rfl rfl ?_
              refine z_bipush hR dMO_tables_271 (v := nI 6) (n := 273) rfl rfl ?_
              refine z_icmp_geN hR dMO_tables_273 (t := 309) (n := 276) rfl rfl (by omega) (by omega) (fun h273 => ?_) (fun h273 => absurd h273 (by omega))
              refine z_iincN hR 1 dMO_tables_309 (n := 312) rfl rfl (by decide) rfl rfl ?_
              refine z_goto hR dMO_tables_312 (t := 38) rfl ?_
              refine ihw (b + 1) _ _ _ _ _ _ _ (by omega) hf c1 (fun b2 hb2 => ?_) c3 c4
              by_cases e : b2 = b
              · subst e
                exact ⟨V, c5, c6, c7, c9⟩
              · exact c2 b2 (by omega)
            | succ m2 ih2 =>
              intro s nx V l6 l7 l8 l9 τ hs hf c1 c2 c3 c4 c5 c6 c7 c8 c9
              have hs6 : s < 6 := by omega
              have ha3 := mT3_fr hf (by decide) (by decide) (by decide) ha
              have f50 : τ.1 50 = σ.1 50 := hf.1 50 (by decide)
              have f57 : τ.1 57 = σ.1 57 := hf.1 57 (by decide)
              have f45 : τ.1 45 = σ.1 45 := hf.1 45 (by decide)
              have hcB := m_MO_bitsBefore (b := b) (nx := nx) (X := V) hn hs6 hsh hT5 τ (by rw [f45]; exact hN) ha3 (by rw [f50]; exact hb) c8
              rw [f57] at hcB
              refine z_iload hR dMO_tables_269 (n := 271) rfl rfl ?_
              refine z_bipush hR dMO_tables_271 (v := nI 6) (n := 273) rfl rfl ?_
              refine z_icmp_geN hR dMO_tables_273 (t := 309) (n := 276) rfl rfl (by omega) (by omega) (fun h273 => absurd h273 (by omega)) (fun h273 => ?_)
              refine z_aload_n hR dMO_tables_276 (n := 277) rfl rfl ?_
              refine z_getR hR dMO_tables_277 (n := 280) rfl zgMO_53 (by decide) rfl rfl ?_
              refine z_sipush hR dMO_tables_280 (v := nI 384) (n := 283) rfl rfl ?_
              refine z_iload hR dMO_tables_283 (n := 285) rfl rfl ?_
              refine z_imulN hR dMO_tables_285 (n := 286) rfl ?_
              refine z_bipush hR dMO_tables_286 (v := nI 64) (n := 288) rfl rfl ?_
              refine z_iload_n hR dMO_tables_288 (n := 289) rfl rfl ?_
              refine z_imulN hR dMO_tables_289 (n := 290) rfl ?_
              refine z_iaddN hR dMO_tables_290 (n := 291) rfl ?_
              refine z_iload_n hR dMO_tables_291 (n := 292) rfl rfl ?_
              refine z_iaddN hR dMO_tables_292 (n := 293) rfl ?_
              refine z_aload_n hR dMO_tables_293 (n := 294) rfl rfl ?_
              refine z_iload hR dMO_tables_294 (n := 296) rfl rfl ?_
              refine z_iload_n hR dMO_tables_296 (n := 297) rfl rfl ?_
              refine z_iload hR dMO_tables_297 (n := 299) rfl rfl ?_
              refine z_callV3 hR dMO_tables_299 (n := 302) rfl zcMO_188 zkMO_bitsBefore (by decide) (Nat.le_of_ble_eq_true rfl) (by decide) rfl rfl (Nat.zero_le _) hcB (fun r299 s299 h299 => ?_)
              obtain ⟨wf, ww, W, rfl, w1, w2, w3⟩ := h299
              have x61 : s299.1 61 = τ.1 61 := wf.1 61 (by decide)
              have x60 : s299.1 60 = τ.1 60 := wf.1 60 (by decide)
              have x67 : s299.2 67 = τ.2 67 := wf.2 67 (by decide)
              refine z_iast hR (_) dMO_tables_302 (n := 303) rfl (by decide) rfl (by decide) rfl (by omega) ?_
              refine z_iincN hR 1 dMO_tables_303 (n := 306) rfl rfl (by decide) rfl rfl ?_
              refine z_goto hR dMO_tables_306 (t := 269) rfl ?_
              refine ih2 (s + 1) nx V _ _ _ _ _ (by omega) ((hf.tr (wf.mo (by decide))).wA _ (by decide)) (fun t2 h2 b2 hb2 => ?_) (fun b2 hb2 => ?_) ?_ ?_ c5 ?_ ?_ c8 (fun s2 hs2 => ?_)
              · refine pO_mo (fun s3 hs3 => ?_) ?_ (fun k _ => ?_) (c1 t2 h2 b2 hb2)
                · rw [zwA_sn _ _ _ _ (by omega), x60]
                · rw [zwA_n _ _ _ _ (by decide), x61]
                · show tl (s299.2 67 _) _ = _
                  rw [x67]
              · refine pO_mo (fun s3 hs3 => ?_) ?_ (fun k _ => ?_) (c2 b2 hb2)
                · rw [zwA_sn _ _ _ _ (by omega), x60]
                · rw [zwA_n _ _ _ _ (by decide), x61]
                · show tl (s299.2 67 _) _ = _
                  rw [x67]
              · show ∀ k t2 b, k < tcn g n → t < t2 → t2 < 6 → b < 64 → tl (s299.2 67 (6 * k + t2)) b = false
                rw [x67]
                exact c3
              · show ∀ k b2, k < tcn g n → b + 1 ≤ b2 → b2 < 64 → tl (s299.2 67 (6 * k + t)) b2 = false
                rw [x67]
                exact c4
              · rw [zwA_n _ _ _ _ (by decide), x61]
                exact c6
              · show ∀ y, y < n → tmd (g y).1 = true → tl (s299.2 67 (6 * tcn g y + t)) b = pN g V y
                rw [x67]
                exact c7
              · by_cases e : s2 = s
                · subst e
                  exact ⟨ww, W, by rw [zwA_ss], w1, w2, w3⟩
                · obtain ⟨w', W', d1, d2⟩ := c9 s2 (by omega)
                  exact ⟨w', W', by rw [zwA_sn _ _ _ _ (by omega), x60]; exact d1, d2⟩
          -- the loop over the nodes: what is next, and the goals
          have key3 : ∀ (m2 x : Nat) (f V : Nat → Bool) (l6 l7 l8 l9 : Option Value) (τ : zS), x + m2 = n → zfr [60, 61, 62, 67] σ τ → (∀ t2, t2 < t → ∀ b, b < 2 ^ tcn g n → pO g n (σ.1 57) (τ.1 60) (τ.1 61) (τ.2 67) t2 b) → (∀ b2, b2 < b → pO g n (σ.1 57) (τ.1 60) (τ.1 61) (τ.2 67) t b2) → (∀ k t2 b, k < tcn g n → t < t2 → t2 < 6 → b < 64 → tl (τ.2 67 (6 * k + t2)) b = false) → (∀ k b2, k < tcn g n → b + 1 ≤ b2 → b2 < 64 → tl (τ.2 67 (6 * k + t)) b2 = false) → (∀ k, tcn g x ≤ k → k < tcn g n → tl (τ.2 67 (6 * k + t)) b = false) → (∀ y, y < n → τ.1 62 y = zb (V y)) → (∀ y, y < n → V y = if tmd (g y).1 = true then b.testBit (tcn g y) else uN g (σ.1 57 t) V y) → τ.1 61 (64 * t + b) = zb (V (n - 1)) → (∀ y, y < x → tmd (g y).1 = true → tl (τ.2 67 (6 * tcn g y + t)) b = pN g V y) → (∀ y, y < x → (g y).1 = 88 → f (tcn g y) = V (y - 1)) → Z 0 77 [some (.ref 45), some (.int (nI (2 ^ tcn g n))), some (.int (nI t)), some (.int (nI b)), some (.int (nI (bN f (tcn g x)))), some (.int (nI x)), l6, l7, l8, l9] [] τ := by
            intro m2
            induction m2 with
            | zero =>
              intro x f V l6 l7 l8 l9 τ hx hf c1 c2 c3 c4 c5 cv c6 c7 c8 c9
              obtain rfl : x = n := by omega
              have hN2 : τ.1 45 4 = nI x := by rw [hf.1 45 (by decide), hN]
              refine z_iload hR dMO_tables_77 (n := 79) rfl rfl ?_
              refine z_aload_n hR dMO_tables_79 (n := 80) rfl rfl ?_
              refine z_getI hR dMO_tables_80 (n := 83) rfl zgMO_145 (by decide) rfl rfl ?_
              rw [hN2]
              refine z_icmp_geN hR dMO_tables_83 (t := 266) (n := 86) rfl rfl (by omega) (by omega) (fun h83 => ?_) (fun h83 => absurd h83 (by omega))
              refine z_iconst hR dMO_tables_266 (v := nI 0) (n := 267) rfl rfl ?_
              refine z_istore hR dMO_tables_267 (n := 269) rfl (by decide) rfl ?_
              refine key4 6 0 _ V _ _ _ _ _ (by omega) hf c1 c2 c3 c4 c6 c7 c8 (fun y hy h88 => ?_) (fun s2 hs2 => absurd hs2 (by omega))
              rw [bN_bit _ (tcn_lt hy (by rw [h88]; decide)), c9 y hy h88]
            | succ m2 ih2 =>
              intro x f V l6 l7 l8 l9 τ hx hf c1 c2 c3 c4 c5 cv c6 c7 c8 c9
              have hxn : x < n := by omega
              have hN2 : τ.1 45 4 = nI n := by rw [hf.1 45 (by decide), hN]
              have ha3 := mT3_fr hf (by decide) (by decide) (by decide) ha
              have f50 : τ.1 50 = σ.1 50 := hf.1 50 (by decide)
              by_cases ht : tmd (g x).1 = true
              ·
                have hk := tcn_lt hxn ht
                have hs1 : tcn g (x + 1) = tcn g x + 1 := by
                  rw [tcn, ht]
                  rfl
                obtain ⟨d1, d2, d3, d4⟩ := shp_dec (hsh x hxn) (by omega) ht
                have hpN : pN g V x = if (g x).1 = 88 then true else if (g x).1 = 85 ∨ (g x).1 = 70 then V (x - 1) || !V x else !V (x - 1) || V x := by rw [pN, d3 V]
                generalize hc : (g x).1 = c at *
                have hcx : τ.1 47 x = c := by rw [(ha3 x hxn).1, hc]
                have hbx : τ.1 50 x = nI (tcn g x) := by rw [f50, hb x hxn (by rw [hc]; exact ht)]
                -- the goal is noted
                have fin : ∀ (f2 : Nat → Bool) (y7 : Int64), (∀ i, i < tcn g x → f2 i = f i) → (c = 88 → f2 (tcn g x) = V (x - 1)) → (∀ q, q < 64 → tl y7 q = (tl (τ.2 67 (6 * tcn g x + t)) q || (pN g V x && decide (q = b)))) → ∀ l6 l7 l8 l9 : Option Value, Z 0 77 [some (.ref 45), some (.int (nI (2 ^ tcn g n))), some (.int (nI t)), some (.int (nI b)), some (.int (nI (bN f2 (tcn g (x + 1))))), some (.int (nI (x + 1))), l6, l7, l8, l9] [] (zwL τ 67 (6 * tcn g x + t) y7) := by
                  intro f2 y7 hf2 hf8 hy l6 l7 l8 l9
                  have hL : ∀ k t2 b2, k < tcn g n → t2 < 6 → b2 < 64 → (k = tcn g x → t2 = t → b2 ≠ b) → tl ((zwL τ 67 (6 * tcn g x + t) y7).2 67 (6 * k + t2)) b2 = tl (τ.2 67 (6 * k + t2)) b2 := fun k t2 b2 k1 k2 k3 k4 => by
                    by_cases e : 6 * k + t2 = 6 * tcn g x + t
                    · rw [e, zwL_ss, hy b2 k3, decide_eq_false (k4 (by omega) (by omega))]
                      simp
                    · rw [zwL_sn _ _ _ _ e]
                  refine ih2 (x + 1) f2 V _ _ _ _ _ (by omega) (hf.wL _ (by decide)) (fun t2 h2 b2 hb2 => ?_) (fun b2 hb2 => ?_) (fun k t2 b2 k1 k2 k3 k4 => ?_) (fun k b2 k1 k2 k3 => ?_) (fun k k1 k2 => ?_) cv c6 c7 (fun y hy2 ht2 => ?_) (fun y hy2 h88 => ?_)
                  · exact pO_mo (fun _ _ => rfl) rfl (fun k hk2 => hL k t2 b2 hk2 (by omega) (by omega) (fun _ e => by omega)) (c1 t2 h2 b2 hb2)
                  · exact pO_mo (fun _ _ => rfl) rfl (fun k hk2 => hL k t b2 hk2 ht6 (by omega) (fun _ _ => by omega)) (c2 b2 hb2)
                  · rw [hL k t2 b2 k1 k3 k4 (fun _ e => by omega)]
                    exact c3 k t2 b2 k1 k2 k3 k4
                  · rw [hL k t b2 k1 ht6 k3 (fun _ _ => by omega)]
                    exact c4 k b2 k1 k2 k3
                  · rw [hs1] at k1
                    rw [hL k t b k2 ht6 (by omega) (fun e _ => by omega)]
                    exact c5 k (by omega) k2
                  · by_cases e : y = x
                    · subst e
                      rw [zwL_ss, hy b (by omega), c5 _ (Nat.le_refl _) hk]
                      simp
                    · have := tcn_lt (g := g) (show y < x by omega) ht2
                      rw [hL _ t b (by omega) ht6 (by omega) (fun e2 _ => by omega)]
                      exact c8 y (by omega) ht2
                  · by_cases e : y = x
                    · subst e
                      exact hf8 (by rw [← hc]; exact h88)
                    · rw [hf2 _ (tcn_lt (by omega) (by rw [h88]; decide))]
                      exact c9 y (by omega) h88
                have goal : ∀ (f2 : Nat → Bool) (ft : Bool) (x8 : Int32) (l9 : Option Value), (∀ i, i < tcn g x → f2 i = f i) → (c = 88 → f2 (tcn g x) = V (x - 1)) → ft = pN g V x → Z 0 210 [some (.ref 45), some (.int (nI (2 ^ tcn g n))), some (.int (nI t)), some (.int (nI b)), some (.int (nI (bN f2 (tcn g (x + 1))))), some (.int (nI x)), some (.int c), some (.int (nI (tcn g x))), some (.int x8), l9] [.int (zb ft)] τ := by
                  intro f2 ft x8 l9 hf2 hf8 hft
                  cases ft with
                  | true =>
                    have go := fun l6 l7 l8 l9 => fin f2 (τ.2 67 (6 * tcn g x + t) ||| ((1 : Int64) <<< ((nI b).toInt64 &&& 63))) hf2 hf8 (fun q hq => by rw [tl_or, tl_shl1 hb32 hq, ← hft]; simp) l6 l7 l8 l9
                    refine z_istore hR dMO_tables_210 (n := 212) rfl (by decide) rfl ?_
                    refine z_aload_n hR dMO_tables_212 (n := 213) rfl rfl ?_
                    refine z_getR hR dMO_tables_213 (n := 216) rfl zgMO_75 (by decide) rfl rfl ?_
                    refine z_bipush hR dMO_tables_216 (v := nI 6) (n := 218) rfl rfl ?_
                    refine z_iload hR dMO_tables_218 (n := 220) rfl rfl ?_
                    refine z_imulN hR dMO_tables_220 (n := 221) rfl ?_
                    refine z_iload_n hR dMO_tables_221 (n := 222) rfl rfl ?_
                    refine z_iaddN hR dMO_tables_222 (n := 223) rfl ?_
                    refine z_iload hR dMO_tables_223 (n := 225) rfl rfl ?_
                    refine z_if_eqB hR dMO_tables_225 (t := 247) (n := 228) rfl rfl (fun h225 => absurd h225 (by decide)) (fun h225 => ?_)
                    refine z_aload_n hR dMO_tables_228 (n := 229) rfl rfl ?_
                    refine z_getR hR dMO_tables_229 (n := 232) rfl zgMO_75 (by decide) rfl rfl ?_
                    refine z_bipush hR dMO_tables_232 (v := nI 6) (n := 234) rfl rfl ?_
                    refine z_iload hR dMO_tables_234 (n := 236) rfl rfl ?_
                    refine z_imulN hR dMO_tables_236 (n := 237) rfl ?_
                    refine z_iload_n hR dMO_tables_237 (n := 238) rfl rfl ?_
                    refine z_iaddN hR dMO_tables_238 (n := 239) rfl ?_
                    refine z_lald hR (_) dMO_tables_239 (n := 240) rfl (by decide) rfl (by decide) rfl (by omega) ?_
                    refine z_lconst hR dMO_tables_240 (v := 1) (n := 241) rfl rfl ?_
                    refine z_iload_n hR dMO_tables_241 (n := 242) rfl rfl ?_
                    refine z_lshl hR dMO_tables_242 (n := 243) rfl ?_
                    refine z_lor hR dMO_tables_243 (n := 244) rfl ?_
                    refine z_goto hR dMO_tables_244 (t := 259) rfl ?_
                    refine z_last hR (_) dMO_tables_259 (n := 260) rfl (by decide) rfl (by decide) rfl (by omega) ?_
                    refine z_iincN hR 1 dMO_tables_260 (n := 263) rfl rfl (by decide) rfl rfl ?_
                    refine z_goto hR dMO_tables_263 (t := 77) rfl ?_
                    exact go _ _ _ _
                  | false =>
                    have go := fun l6 l7 l8 l9 => fin f2 (τ.2 67 (6 * tcn g x + t)) hf2 hf8 (fun q hq => by rw [← hft]; simp) l6 l7 l8 l9
                    refine z_istore hR dMO_tables_210 (n := 212) rfl (by decide) rfl ?_
                    refine z_aload_n hR dMO_tables_212 (n := 213) rfl rfl ?_
                    refine z_getR hR dMO_tables_213 (n := 216) rfl zgMO_75 (by decide) rfl rfl ?_
                    refine z_bipush hR dMO_tables_216 (v := nI 6) (n := 218) rfl rfl ?_
                    refine z_iload hR dMO_tables_218 (n := 220) rfl rfl ?_
                    refine z_imulN hR dMO_tables_220 (n := 221) rfl ?_
                    refine z_iload_n hR dMO_tables_221 (n := 222) rfl rfl ?_
                    refine z_iaddN hR dMO_tables_222 (n := 223) rfl ?_
                    refine z_iload hR dMO_tables_223 (n := 225) rfl rfl ?_
                    refine z_if_eqB hR dMO_tables_225 (t := 247) (n := 228) rfl rfl (fun h225 => ?_) (fun h225 => absurd h225 (by decide))
                    refine z_aload_n hR dMO_tables_247 (n := 248) rfl rfl ?_
                    refine z_getR hR dMO_tables_248 (n := 251) rfl zgMO_75 (by decide) rfl rfl ?_
                    refine z_bipush hR dMO_tables_251 (v := nI 6) (n := 253) rfl rfl ?_
                    refine z_iload hR dMO_tables_253 (n := 255) rfl rfl ?_
                    refine z_imulN hR dMO_tables_255 (n := 256) rfl ?_
                    refine z_iload_n hR dMO_tables_256 (n := 257) rfl rfl ?_
                    refine z_iaddN hR dMO_tables_257 (n := 258) rfl ?_
                    refine z_lald hR (_) dMO_tables_258 (n := 259) rfl (by decide) rfl (by decide) rfl (by omega) ?_
                    refine z_last hR (_) dMO_tables_259 (n := 260) rfl (by decide) rfl (by decide) rfl (by omega) ?_
                    refine z_iincN hR 1 dMO_tables_260 (n := 263) rfl rfl (by decide) rfl rfl ?_
                    refine z_goto hR dMO_tables_263 (t := 77) rfl ?_
                    exact go _ _ _ _
                -- the fit
                have fit : ∀ (f2 : Nat → Bool) (l9 : Option Value), (∀ i, i < tcn g x → f2 i = f i) → (c = 88 → f2 (tcn g x) = V (x - 1)) → Z 0 151 [some (.ref 45), some (.int (nI (2 ^ tcn g n))), some (.int (nI t)), some (.int (nI b)), some (.int (nI (bN f2 (tcn g (x + 1))))), some (.int (nI x)), some (.int c), some (.int (nI (tcn g x))), some (.int (zb (V (x - 1)))), l9] [] τ := by
                  intro f2 l9 hf2 hf8
                  by_cases c88 : c = 88
                  · have go := fun l8 l9 => goal f2 true l8 l9 hf2 hf8 (by rw [hpN, if_pos c88])
                    refine z_iload hR dMO_tables_151 (n := 153) rfl rfl ?_
                    refine z_bipush hR dMO_tables_153 (v := 88) (n := 155) rfl rfl ?_
                    refine z_icmp_eq hR dMO_tables_155 (t := 205) (n := 158) rfl rfl (fun _ => ?_) (fun h155 => absurd c88 h155)
                    refine z_iconst hR dMO_tables_205 (v := 1) (n := 206) rfl rfl ?_
                    refine z_goto hR dMO_tables_206 (t := 210) rfl ?_
                    exact go _ _
                  by_cases cu : c = 85 ∨ c = 70
                  · have go := fun l8 l9 => goal f2 (V (x - 1) || !V x) l8 l9 hf2 hf8 (by rw [hpN, if_neg c88, if_pos cu])
                    have at172 : Z 0 172 [some (.ref 45), some (.int (nI (2 ^ tcn g n))), some (.int (nI t)), some (.int (nI b)), some (.int (nI (bN f2 (tcn g (x + 1))))), some (.int (nI x)), some (.int c), some (.int (nI (tcn g x))), some (.int (zb (V (x - 1)))), l9] [] τ := by
                      refine z_iload hR dMO_tables_172 (n := 174) rfl rfl ?_
                      refine z_if_neB hR dMO_tables_174 (t := 205) (n := 177) rfl rfl (fun h174 => ?_) (fun h174 => ?_)
                      · refine z_iconst hR dMO_tables_205 (v := 1) (n := 206) rfl rfl ?_
                        refine z_goto hR dMO_tables_206 (t := 210) rfl ?_
                        first
                          | (rw [h174, h184] at go; exact go _ _)
                          | (rw [h174] at go; exact go _ _)
                      · refine z_aload_n hR dMO_tables_177 (n := 178) rfl rfl ?_
                        refine z_getR hR dMO_tables_178 (n := 181) rfl zgMO_59 (by decide) rfl rfl ?_
                        refine z_iload hR dMO_tables_181 (n := 183) rfl rfl ?_
                        refine z_zald hR (_) dMO_tables_183 (n := 184) rfl (by decide) rfl (by decide) rfl (by omega) ?_
                        rw [cv x hxn]
                        refine z_if_neB hR dMO_tables_184 (t := 209) (n := 187) rfl rfl (fun h184 => ?_) (fun h184 => ?_)
                        · refine z_iconst hR dMO_tables_209 (v := 0) (n := 210) rfl rfl ?_
                          first
                            | (rw [h174, h184] at go; exact go _ _)
                            | (rw [h174] at go; exact go _ _)
                        · refine z_goto hR dMO_tables_187 (t := 205) rfl ?_
                          refine z_iconst hR dMO_tables_205 (v := 1) (n := 206) rfl rfl ?_
                          refine z_goto hR dMO_tables_206 (t := 210) rfl ?_
                          first
                            | (rw [h174, h184] at go; exact go _ _)
                            | (rw [h174] at go; exact go _ _)
                    by_cases c85 : c = 85
                    ·
                      refine z_iload hR dMO_tables_151 (n := 153) rfl rfl ?_
                      refine z_bipush hR dMO_tables_153 (v := 88) (n := 155) rfl rfl ?_
                      refine z_icmp_eq hR dMO_tables_155 (t := 205) (n := 158) rfl rfl (fun h155 => absurd h155 c88) (fun _ => ?_)
                      refine z_iload hR dMO_tables_158 (n := 160) rfl rfl ?_
                      refine z_bipush hR dMO_tables_160 (v := 85) (n := 162) rfl rfl ?_
                      refine z_icmp_eq hR dMO_tables_162 (t := 172) (n := 165) rfl rfl (fun _ => ?_) (fun h162 => absurd c85 h162)
                      exact at172
                    ·
                      refine z_iload hR dMO_tables_151 (n := 153) rfl rfl ?_
                      refine z_bipush hR dMO_tables_153 (v := 88) (n := 155) rfl rfl ?_
                      refine z_icmp_eq hR dMO_tables_155 (t := 205) (n := 158) rfl rfl (fun h155 => absurd h155 c88) (fun _ => ?_)
                      refine z_iload hR dMO_tables_158 (n := 160) rfl rfl ?_
                      refine z_bipush hR dMO_tables_160 (v := 85) (n := 162) rfl rfl ?_
                      refine z_icmp_eq hR dMO_tables_162 (t := 172) (n := 165) rfl rfl (fun h162 => absurd h162 c85) (fun _ => ?_)
                      refine z_iload hR dMO_tables_165 (n := 167) rfl rfl ?_
                      refine z_bipush hR dMO_tables_167 (v := 70) (n := 169) rfl rfl ?_
                      refine z_icmp_ne hR dMO_tables_169 (t := 190) (n := 172) rfl rfl (fun h169 => absurd h169 (fun q => q (cu.resolve_left c85))) (fun _ => ?_)
                      exact at172
                  · have go := fun l8 l9 => goal f2 (!V (x - 1) || V x) l8 l9 hf2 hf8 (by rw [hpN, if_neg c88, if_neg cu])
                    refine z_iload hR dMO_tables_151 (n := 153) rfl rfl ?_
                    refine z_bipush hR dMO_tables_153 (v := 88) (n := 155) rfl rfl ?_
                    refine z_icmp_eq hR dMO_tables_155 (t := 205) (n := 158) rfl rfl (fun h155 => absurd h155 c88) (fun _ => ?_)
                    refine z_iload hR dMO_tables_158 (n := 160) rfl rfl ?_
                    refine z_bipush hR dMO_tables_160 (v := 85) (n := 162) rfl rfl ?_
                    refine z_icmp_eq hR dMO_tables_162 (t := 172) (n := 165) rfl rfl (fun h162 => absurd h162 (fun q => cu (Or.inl q))) (fun _ => ?_)
                    refine z_iload hR dMO_tables_165 (n := 167) rfl rfl ?_
                    refine z_bipush hR dMO_tables_167 (v := 70) (n := 169) rfl rfl ?_
                    refine z_icmp_ne hR dMO_tables_169 (t := 190) (n := 172) rfl rfl (fun _ => ?_) (fun h169 => absurd h169 (fun q => cu (Or.inr q)))
                    refine z_iload hR dMO_tables_190 (n := 192) rfl rfl ?_
                    refine z_if_eqB hR dMO_tables_192 (t := 205) (n := 195) rfl rfl (fun h192 => ?_) (fun h192 => ?_)
                    · refine z_iconst hR dMO_tables_205 (v := 1) (n := 206) rfl rfl ?_
                      refine z_goto hR dMO_tables_206 (t := 210) rfl ?_
                      first
                        | (rw [h192, h202] at go; exact go _ _)
                        | (rw [h192] at go; exact go _ _)
                    · refine z_aload_n hR dMO_tables_195 (n := 196) rfl rfl ?_
                      refine z_getR hR dMO_tables_196 (n := 199) rfl zgMO_59 (by decide) rfl rfl ?_
                      refine z_iload hR dMO_tables_199 (n := 201) rfl rfl ?_
                      refine z_zald hR (_) dMO_tables_201 (n := 202) rfl (by decide) rfl (by decide) rfl (by omega) ?_
                      rw [cv x hxn]
                      refine z_if_eqB hR dMO_tables_202 (t := 209) (n := 205) rfl rfl (fun h202 => ?_) (fun h202 => ?_)
                      · refine z_iconst hR dMO_tables_209 (v := 0) (n := 210) rfl rfl ?_
                        first
                          | (rw [h192, h202] at go; exact go _ _)
                          | (rw [h192] at go; exact go _ _)
                      · refine z_iconst hR dMO_tables_205 (v := 1) (n := 206) rfl rfl ?_
                        refine z_goto hR dMO_tables_206 (t := 210) rfl ?_
                        first
                          | (rw [h192, h202] at go; exact go _ _)
                          | (rw [h192] at go; exact go _ _)
                obtain ⟨f2, p1, p2', p3, p4⟩ := bN_put (f := f) (w := decide (c = 88) && V (x - 1)) (show tcn g x < 32 by omega)
                have hf8 : c = 88 → f2 (tcn g x) = V (x - 1) := fun e => by rw [p2', e]; simp
                have go := fun l9 => fit f2 l9 p1 hf8
                rw [hs1] at go
                by_cases c88 : c = 88
                · cases ev : V (x - 1) with
                  | true =>
                    rw [← p3 (by rw [c88, ev]; rfl), ev] at go
                    refine z_iload hR dMO_tables_77 (n := 79) rfl rfl ?_
                    refine z_aload_n hR dMO_tables_79 (n := 80) rfl rfl ?_
                    refine z_getI hR dMO_tables_80 (n := 83) rfl zgMO_145 (by decide) rfl rfl ?_
                    rw [hN2]
                    refine z_icmp_geN hR dMO_tables_83 (t := 266) (n := 86) rfl rfl (by omega) (by omega) (fun h83 => absurd h83 (by omega)) (fun h83 => ?_)
                    refine z_aload_n hR dMO_tables_86 (n := 87) rfl rfl ?_
                    refine z_getR hR dMO_tables_87 (n := 90) rfl zgMO_13 (by decide) rfl rfl ?_
                    refine z_iload hR dMO_tables_90 (n := 92) rfl rfl ?_
                    refine z_iald hR (_) dMO_tables_92 (n := 93) rfl (by decide) rfl (by decide) rfl (by omega) ?_
                    rw [hcx]
                    refine z_istore hR dMO_tables_93 (n := 95) rfl (by decide) rfl ?_
                    refine z_iload hR dMO_tables_95 (n := 97) rfl rfl ?_
                    refine z_callS1 hR dMO_tables_97 (n := 100) rfl zcMO_134 zkMO_isTimed (by decide) (Nat.le_of_ble_eq_true rfl) (Nat.zero_le _) (m_MO_isTimed c τ) (fun r97 s97 h97 => ?_)
                    obtain ⟨rfl, e97⟩ := h97
                    subst s97
                    rw [ht]
                    refine z_if_eqB hR dMO_tables_100 (t := 260) (n := 103) rfl rfl (fun h100 => absurd h100 (by decide)) (fun h100 => ?_)
                    refine z_aload_n hR dMO_tables_103 (n := 104) rfl rfl ?_
                    refine z_getR hR dMO_tables_104 (n := 107) rfl zgMO_22 (by decide) rfl rfl ?_
                    refine z_iload hR dMO_tables_107 (n := 109) rfl rfl ?_
                    refine z_iald hR (_) dMO_tables_109 (n := 110) rfl (by decide) rfl (by decide) rfl (by omega) ?_
                    rw [hbx]
                    refine z_istore hR dMO_tables_110 (n := 112) rfl (by decide) rfl ?_
                    refine z_aload_n hR dMO_tables_112 (n := 113) rfl rfl ?_
                    refine z_getR hR dMO_tables_113 (n := 116) rfl zgMO_59 (by decide) rfl rfl ?_
                    refine z_aload_n hR dMO_tables_116 (n := 117) rfl rfl ?_
                    refine z_iload hR dMO_tables_117 (n := 119) rfl rfl ?_
                    refine z_callV1 hR dMO_tables_119 (n := 122) rfl zcMO_181 zkMO_decider (by decide) (Nat.le_of_ble_eq_true rfl) (by decide) rfl rfl (Nat.zero_le _) (m_MO_decider hn hxn (hsh x hxn) τ ha3) (fun r119 s119 h119 => ?_)
                    obtain ⟨rfl, e119⟩ := h119
                    subst s119
                    rw [d2]
                    refine z_zald hR (_) dMO_tables_122 (n := 123) rfl (by decide) rfl (by decide) rfl (by omega) ?_
                    rw [cv _ (by omega), ev]
                    refine z_istore hR dMO_tables_123 (n := 125) rfl (by decide) rfl ?_
                    refine z_iload hR dMO_tables_125 (n := 127) rfl rfl ?_
                    refine z_bipush hR dMO_tables_127 (v := 88) (n := 129) rfl rfl ?_
                    refine z_icmp_ne hR dMO_tables_129 (t := 147) (n := 132) rfl rfl (fun h129 => absurd h129 (fun q => q c88)) (fun _ => ?_)
                    refine z_iload hR dMO_tables_132 (n := 134) rfl rfl ?_
                    refine z_if_eqB hR dMO_tables_134 (t := 147) (n := 137) rfl rfl (fun h134 => absurd h134 (by decide)) (fun h134 => ?_)
                    refine z_iload hR dMO_tables_137 (n := 139) rfl rfl ?_
                    refine z_iconst hR dMO_tables_139 (v := 1) (n := 140) rfl rfl ?_
                    refine z_iload hR dMO_tables_140 (n := 142) rfl rfl ?_
                    refine z_ishl hR dMO_tables_142 (n := 143) rfl ?_
                    refine z_ior hR dMO_tables_143 (n := 144) rfl ?_
                    refine z_goto hR dMO_tables_144 (t := 149) rfl ?_
                    refine z_istore hR dMO_tables_149 (n := 151) rfl (by decide) rfl ?_
                    exact go _
                  | false =>
                    rw [← p4 (by rw [c88, ev]; rfl), ev] at go
                    refine z_iload hR dMO_tables_77 (n := 79) rfl rfl ?_
                    refine z_aload_n hR dMO_tables_79 (n := 80) rfl rfl ?_
                    refine z_getI hR dMO_tables_80 (n := 83) rfl zgMO_145 (by decide) rfl rfl ?_
                    rw [hN2]
                    refine z_icmp_geN hR dMO_tables_83 (t := 266) (n := 86) rfl rfl (by omega) (by omega) (fun h83 => absurd h83 (by omega)) (fun h83 => ?_)
                    refine z_aload_n hR dMO_tables_86 (n := 87) rfl rfl ?_
                    refine z_getR hR dMO_tables_87 (n := 90) rfl zgMO_13 (by decide) rfl rfl ?_
                    refine z_iload hR dMO_tables_90 (n := 92) rfl rfl ?_
                    refine z_iald hR (_) dMO_tables_92 (n := 93) rfl (by decide) rfl (by decide) rfl (by omega) ?_
                    rw [hcx]
                    refine z_istore hR dMO_tables_93 (n := 95) rfl (by decide) rfl ?_
                    refine z_iload hR dMO_tables_95 (n := 97) rfl rfl ?_
                    refine z_callS1 hR dMO_tables_97 (n := 100) rfl zcMO_134 zkMO_isTimed (by decide) (Nat.le_of_ble_eq_true rfl) (Nat.zero_le _) (m_MO_isTimed c τ) (fun r97 s97 h97 => ?_)
                    obtain ⟨rfl, e97⟩ := h97
                    subst s97
                    rw [ht]
                    refine z_if_eqB hR dMO_tables_100 (t := 260) (n := 103) rfl rfl (fun h100 => absurd h100 (by decide)) (fun h100 => ?_)
                    refine z_aload_n hR dMO_tables_103 (n := 104) rfl rfl ?_
                    refine z_getR hR dMO_tables_104 (n := 107) rfl zgMO_22 (by decide) rfl rfl ?_
                    refine z_iload hR dMO_tables_107 (n := 109) rfl rfl ?_
                    refine z_iald hR (_) dMO_tables_109 (n := 110) rfl (by decide) rfl (by decide) rfl (by omega) ?_
                    rw [hbx]
                    refine z_istore hR dMO_tables_110 (n := 112) rfl (by decide) rfl ?_
                    refine z_aload_n hR dMO_tables_112 (n := 113) rfl rfl ?_
                    refine z_getR hR dMO_tables_113 (n := 116) rfl zgMO_59 (by decide) rfl rfl ?_
                    refine z_aload_n hR dMO_tables_116 (n := 117) rfl rfl ?_
                    refine z_iload hR dMO_tables_117 (n := 119) rfl rfl ?_
                    refine z_callV1 hR dMO_tables_119 (n := 122) rfl zcMO_181 zkMO_decider (by decide) (Nat.le_of_ble_eq_true rfl) (by decide) rfl rfl (Nat.zero_le _) (m_MO_decider hn hxn (hsh x hxn) τ ha3) (fun r119 s119 h119 => ?_)
                    obtain ⟨rfl, e119⟩ := h119
                    subst s119
                    rw [d2]
                    refine z_zald hR (_) dMO_tables_122 (n := 123) rfl (by decide) rfl (by decide) rfl (by omega) ?_
                    rw [cv _ (by omega), ev]
                    refine z_istore hR dMO_tables_123 (n := 125) rfl (by decide) rfl ?_
                    refine z_iload hR dMO_tables_125 (n := 127) rfl rfl ?_
                    refine z_bipush hR dMO_tables_127 (v := 88) (n := 129) rfl rfl ?_
                    refine z_icmp_ne hR dMO_tables_129 (t := 147) (n := 132) rfl rfl (fun h129 => absurd h129 (fun q => q c88)) (fun _ => ?_)
                    refine z_iload hR dMO_tables_132 (n := 134) rfl rfl ?_
                    refine z_if_eqB hR dMO_tables_134 (t := 147) (n := 137) rfl rfl (fun h134 => ?_) (fun h134 => absurd h134 (by decide))
                    refine z_iload hR dMO_tables_147 (n := 149) rfl rfl ?_
                    refine z_istore hR dMO_tables_149 (n := 151) rfl (by decide) rfl ?_
                    exact go _
                · rw [← p4 (by rw [decide_eq_false c88]; rfl)] at go
                  refine z_iload hR dMO_tables_77 (n := 79) rfl rfl ?_
                  refine z_aload_n hR dMO_tables_79 (n := 80) rfl rfl ?_
                  refine z_getI hR dMO_tables_80 (n := 83) rfl zgMO_145 (by decide) rfl rfl ?_
                  rw [hN2]
                  refine z_icmp_geN hR dMO_tables_83 (t := 266) (n := 86) rfl rfl (by omega) (by omega) (fun h83 => absurd h83 (by omega)) (fun h83 => ?_)
                  refine z_aload_n hR dMO_tables_86 (n := 87) rfl rfl ?_
                  refine z_getR hR dMO_tables_87 (n := 90) rfl zgMO_13 (by decide) rfl rfl ?_
                  refine z_iload hR dMO_tables_90 (n := 92) rfl rfl ?_
                  refine z_iald hR (_) dMO_tables_92 (n := 93) rfl (by decide) rfl (by decide) rfl (by omega) ?_
                  rw [hcx]
                  refine z_istore hR dMO_tables_93 (n := 95) rfl (by decide) rfl ?_
                  refine z_iload hR dMO_tables_95 (n := 97) rfl rfl ?_
                  refine z_callS1 hR dMO_tables_97 (n := 100) rfl zcMO_134 zkMO_isTimed (by decide) (Nat.le_of_ble_eq_true rfl) (Nat.zero_le _) (m_MO_isTimed c τ) (fun r97 s97 h97 => ?_)
                  obtain ⟨rfl, e97⟩ := h97
                  subst s97
                  rw [ht]
                  refine z_if_eqB hR dMO_tables_100 (t := 260) (n := 103) rfl rfl (fun h100 => absurd h100 (by decide)) (fun h100 => ?_)
                  refine z_aload_n hR dMO_tables_103 (n := 104) rfl rfl ?_
                  refine z_getR hR dMO_tables_104 (n := 107) rfl zgMO_22 (by decide) rfl rfl ?_
                  refine z_iload hR dMO_tables_107 (n := 109) rfl rfl ?_
                  refine z_iald hR (_) dMO_tables_109 (n := 110) rfl (by decide) rfl (by decide) rfl (by omega) ?_
                  rw [hbx]
                  refine z_istore hR dMO_tables_110 (n := 112) rfl (by decide) rfl ?_
                  refine z_aload_n hR dMO_tables_112 (n := 113) rfl rfl ?_
                  refine z_getR hR dMO_tables_113 (n := 116) rfl zgMO_59 (by decide) rfl rfl ?_
                  refine z_aload_n hR dMO_tables_116 (n := 117) rfl rfl ?_
                  refine z_iload hR dMO_tables_117 (n := 119) rfl rfl ?_
                  refine z_callV1 hR dMO_tables_119 (n := 122) rfl zcMO_181 zkMO_decider (by decide) (Nat.le_of_ble_eq_true rfl) (by decide) rfl rfl (Nat.zero_le _) (m_MO_decider hn hxn (hsh x hxn) τ ha3) (fun r119 s119 h119 => ?_)
                  obtain ⟨rfl, e119⟩ := h119
                  subst s119
                  rw [d2]
                  refine z_zald hR (_) dMO_tables_122 (n := 123) rfl (by decide) rfl (by decide) rfl (by omega) ?_
                  rw [cv _ (by omega)]
                  refine z_istore hR dMO_tables_123 (n := 125) rfl (by decide) rfl ?_
                  refine z_iload hR dMO_tables_125 (n := 127) rfl rfl ?_
                  refine z_bipush hR dMO_tables_127 (v := 88) (n := 129) rfl rfl ?_
                  refine z_icmp_ne hR dMO_tables_129 (t := 147) (n := 132) rfl rfl (fun _ => ?_) (fun h129 => absurd h129 c88)
                  refine z_iload hR dMO_tables_147 (n := 149) rfl rfl ?_
                  refine z_istore hR dMO_tables_149 (n := 151) rfl (by decide) rfl ?_
                  exact go _
              ·
                have ht' : tmd (g x).1 = false := by simpa using ht
                have hs1 : tcn g (x + 1) = tcn g x := by
                  rw [tcn, ht']
                  rfl
                have go := fun l6 l7 l8 l9 => ih2 (x + 1) f V l6 l7 l8 l9 τ (by omega) hf c1 c2 c3 c4 (by rw [hs1]; exact c5) cv c6 c7 (fun y hy ht2 => by
                  by_cases e : y = x
                  · subst e
                    exact absurd ht2 ht
                  · exact c8 y (by omega) ht2) (fun y hy h88 => by
                  by_cases e : y = x
                  · subst e
                    rw [h88] at ht
                    exact absurd (by decide) ht
                  · exact c9 y (by omega) h88)
                rw [hs1] at go
                refine z_iload hR dMO_tables_77 (n := 79) rfl rfl ?_
                refine z_aload_n hR dMO_tables_79 (n := 80) rfl rfl ?_
                refine z_getI hR dMO_tables_80 (n := 83) rfl zgMO_145 (by decide) rfl rfl ?_
                rw [hN2]
                refine z_icmp_geN hR dMO_tables_83 (t := 266) (n := 86) rfl rfl (by omega) (by omega) (fun h83 => absurd h83 (by omega)) (fun h83 => ?_)
                refine z_aload_n hR dMO_tables_86 (n := 87) rfl rfl ?_
                refine z_getR hR dMO_tables_87 (n := 90) rfl zgMO_13 (by decide) rfl rfl ?_
                refine z_iload hR dMO_tables_90 (n := 92) rfl rfl ?_
                refine z_iald hR (_) dMO_tables_92 (n := 93) rfl (by decide) rfl (by decide) rfl (by omega) ?_
                rw [(ha3 x hxn).1]
                refine z_istore hR dMO_tables_93 (n := 95) rfl (by decide) rfl ?_
                refine z_iload hR dMO_tables_95 (n := 97) rfl rfl ?_
                refine z_callS1 hR dMO_tables_97 (n := 100) rfl zcMO_134 zkMO_isTimed (by decide) (Nat.le_of_ble_eq_true rfl) (Nat.zero_le _) (m_MO_isTimed (g x).1 τ) (fun r97 s97 h97 => ?_)
                obtain ⟨rfl, e97⟩ := h97
                subst s97
                rw [ht']
                refine z_if_eqB hR dMO_tables_100 (t := 260) (n := 103) rfl rfl (fun h100 => ?_) (fun h100 => absurd h100 (by decide))
                refine z_iincN hR 1 dMO_tables_260 (n := 263) rfl rfl (by decide) rfl rfl ?_
                refine z_goto hR dMO_tables_263 (t := 77) rfl ?_
                exact go _ _ _ _
          refine z_iload_n hR dMO_tables_38 (n := 39) rfl rfl ?_
          refine z_iload_n hR dMO_tables_39 (n := 40) rfl rfl ?_
          refine z_icmp_geN hR dMO_tables_40 (t := 315) (n := 43) rfl rfl (by omega) (by omega) (fun h40 => absurd h40 (by omega)) (fun h40 => ?_)
          refine z_aload_n hR dMO_tables_43 (n := 44) rfl rfl ?_
          refine z_iload_n hR dMO_tables_44 (n := 45) rfl rfl ?_
          refine z_iload_n hR dMO_tables_45 (n := 46) rfl rfl ?_
          refine z_callV2 hR dMO_tables_46 (n := 49) rfl zcMO_184 zkMO_evaluate (by decide) (Nat.le_of_ble_eq_true rfl) (by decide) rfl rfl (Nat.zero_le _) hcE (fun r46 s46 h46 => ?_)
          obtain ⟨rfl, wf, V, v1, v2⟩ := h46
          have x61 : s46.1 61 = τ.1 61 := wf.1 61 (by decide)
          have x60 : s46.1 60 = τ.1 60 := wf.1 60 (by decide)
          have x67 : s46.2 67 = τ.2 67 := wf.2 67 (by decide)
          have xN : s46.1 45 4 = nI n := by rw [wf.1 45 (by decide), e45, hN]
          refine z_aload_n hR dMO_tables_49 (n := 50) rfl rfl ?_
          refine z_getR hR dMO_tables_50 (n := 53) rfl zgMO_56 (by decide) rfl rfl ?_
          refine z_bipush hR dMO_tables_53 (v := nI 64) (n := 55) rfl rfl ?_
          refine z_iload_n hR dMO_tables_55 (n := 56) rfl rfl ?_
          refine z_imulN hR dMO_tables_56 (n := 57) rfl ?_
          refine z_iload_n hR dMO_tables_57 (n := 58) rfl rfl ?_
          refine z_iaddN hR dMO_tables_58 (n := 59) rfl ?_
          refine z_aload_n hR dMO_tables_59 (n := 60) rfl rfl ?_
          refine z_getR hR dMO_tables_60 (n := 63) rfl zgMO_59 (by decide) rfl rfl ?_
          refine z_aload_n hR dMO_tables_63 (n := 64) rfl rfl ?_
          refine z_getI hR dMO_tables_64 (n := 67) rfl zgMO_145 (by decide) rfl rfl ?_
          rw [xN]
          refine z_iconst hR dMO_tables_67 (v := nI 1) (n := 68) rfl rfl ?_
          refine z_isubN hR dMO_tables_68 (n := 69) rfl (by omega) ?_
          refine z_zald hR (_) dMO_tables_69 (n := 70) rfl (by decide) rfl (by decide) rfl (by omega) ?_
          rw [v1 _ (by omega)]
          refine z_zast hR (_) dMO_tables_70 (n := 71) rfl (by decide) rfl (by decide) rfl (by omega) ?_
          rw [zb_vn]
          refine z_iconst hR dMO_tables_71 (v := nI 0) (n := 72) rfl rfl ?_
          refine z_istore hR dMO_tables_72 (n := 74) rfl (by decide) rfl ?_
          refine z_iconst hR dMO_tables_74 (v := nI 0) (n := 75) rfl rfl ?_
          refine z_istore hR dMO_tables_75 (n := 77) rfl (by decide) rfl ?_
          refine key3 n 0 (fun _ => false) V _ _ _ _ _ (by omega) ((hf.tr (wf.mo (by decide))).wA _ (by decide)) (fun t2 h2 b2 hb2 => ?_) (fun b2 hb2 => ?_) ?_ ?_ ?_ (fun y hy => ?_) v2 (by rw [zwA_ss]) (fun y hy => absurd hy (by omega)) (fun y hy => absurd hy (by omega))
          · refine pO_mo (fun s3 hs3 => ?_) ?_ (fun k _ => ?_) (a1 t2 h2 b2 hb2)
            · rw [zwA_n _ _ _ _ (by decide), x60]
            · rw [zwA_sn _ _ _ _ (by omega), x61]
            · show tl (s46.2 67 _) _ = _
              rw [x67]
          · refine pO_mo (fun s3 hs3 => ?_) ?_ (fun k _ => ?_) (a2 b2 hb2)
            · rw [zwA_n _ _ _ _ (by decide), x60]
            · rw [zwA_sn _ _ _ _ (by omega), x61]
            · show tl (s46.2 67 _) _ = _
              rw [x67]
          · show ∀ k t2 b, k < tcn g n → t < t2 → t2 < 6 → b < 64 → tl (s46.2 67 (6 * k + t2)) b = false
            rw [x67]
            exact a3
          · show ∀ k b2, k < tcn g n → b + 1 ≤ b2 → b2 < 64 → tl (s46.2 67 (6 * k + t)) b2 = false
            rw [x67]
            exact fun k b2 k1 k2 k3 => a4 k b2 k1 (by omega) k3
          · show ∀ k, tcn g 0 ≤ k → k < tcn g n → tl (s46.2 67 (6 * k + t)) b = false
            rw [x67]
            exact fun k _ k2 => a4 k b k2 (Nat.le_refl _) (by omega)
          · rw [zwA_n _ _ _ _ (by decide)]
            exact v1 y hy
      refine z_iload_n hR dMO_tables_30 (n := 31) rfl rfl ?_
      refine z_bipush hR dMO_tables_31 (v := nI 6) (n := 33) rfl rfl ?_
      refine z_icmp_geN hR dMO_tables_33 (t := 321) (n := 36) rfl rfl (by omega) (by omega) (fun h33 => absurd h33 (by omega)) (fun h33 => ?_)
      refine z_iconst hR dMO_tables_36 (v := nI 0) (n := 37) rfl rfl ?_
      refine z_istore_n hR dMO_tables_37 (n := 38) rfl (by decide) rfl ?_
      exact key2 (2 ^ tcn g n) 0 _ _ _ _ _ _ _ (by omega) hf h1 (fun b2 hb2 => absurd hb2 (by omega)) (fun k t2 b k1 k2 k3 k4 => h2 k t2 b k1 (by omega) k3 k4) (fun k b2 k1 _ k3 => h2 k t b2 k1 (Nat.le_refl _) ht6 k3)
  have key0 : ∀ (m i : Nat) (τ : zS), i + m = 36 → zfr [60, 61, 62, 67] σ τ → (∀ q, q < i → τ.2 67 q = 0) → Z 0 9 [some (.ref 45), some (.int (nI (2 ^ tcn g n))), some (.int (nI i)), none, none, none, none, none, none, none] [] τ := by
    intro m
    induction m with
    | zero =>
      intro i τ hi hf h
      obtain rfl : i = 36 := by omega
      refine z_iload_n hR dMO_tables_9 (n := 10) rfl rfl ?_
      refine z_bipush hR dMO_tables_10 (v := nI 36) (n := 12) rfl rfl ?_
      refine z_icmp_geN hR dMO_tables_12 (t := 28) (n := 15) rfl rfl (by omega) (by omega) (fun h12 => ?_) (fun h12 => absurd h12 (by omega))
      refine z_iconst hR dMO_tables_28 (v := nI 0) (n := 29) rfl rfl ?_
      refine z_istore_n hR dMO_tables_29 (n := 30) rfl (by decide) rfl ?_
      exact key1 6 0 _ _ _ _ _ _ _ _ (by omega) hf (fun t2 h2 => absurd h2 (by omega)) (fun k t2 b k1 _ k3 _ => by rw [h _ (by omega), tl_0])
    | succ m ih =>
      intro i τ hi hf h
      refine z_iload_n hR dMO_tables_9 (n := 10) rfl rfl ?_
      refine z_bipush hR dMO_tables_10 (v := nI 36) (n := 12) rfl rfl ?_
      refine z_icmp_geN hR dMO_tables_12 (t := 28) (n := 15) rfl rfl (by omega) (by omega) (fun h12 => absurd h12 (by omega)) (fun h12 => ?_)
      refine z_aload_n hR dMO_tables_15 (n := 16) rfl rfl ?_
      refine z_getR hR dMO_tables_16 (n := 19) rfl zgMO_75 (by decide) rfl rfl ?_
      refine z_iload_n hR dMO_tables_19 (n := 20) rfl rfl ?_
      refine z_lconst hR dMO_tables_20 (v := 0) (n := 21) rfl rfl ?_
      refine z_last hR (_) dMO_tables_21 (n := 22) rfl (by decide) rfl (by decide) rfl (by omega) ?_
      refine z_iincN hR 1 dMO_tables_22 (n := 25) rfl rfl (by decide) rfl rfl ?_
      refine z_goto hR dMO_tables_25 (t := 9) rfl ?_
      refine ih (i + 1) _ (by omega) (hf.wL _ (by decide)) (fun q hq => ?_)
      by_cases e : q = i
      · subst e
        rw [zwL_ss]
      · rw [zwL_sn _ _ _ _ e]
        exact h q (by omega)
  refine z_iconst hR dMO_tables_0 (v := 1) (n := 1) rfl rfl ?_
  refine z_aload_n hR dMO_tables_1 (n := 2) rfl rfl ?_
  refine z_getI hR dMO_tables_2 (n := 5) rfl zgMO_148 (by decide) rfl rfl ?_
  rw [hT]
  refine z_ishl hR dMO_tables_5 (n := 6) rfl ?_
  rw [p2_shl hT5]
  refine z_istore_n hR dMO_tables_6 (n := 7) rfl (by decide) rfl ?_
  refine z_iconst hR dMO_tables_7 (v := nI 0) (n := 8) rfl rfl ?_
  refine z_istore_n hR dMO_tables_8 (n := 9) rfl (by decide) rfl ?_
  exact key0 36 0 _ (by omega) zfr.rf (fun q hq => absurd hq (by omega))
