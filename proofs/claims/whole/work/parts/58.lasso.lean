/-! Lassos: pure rows -/
def nx (k j p : Nat) : Nat := if p + 1 < k then p + 1 else j
theorem nx_lt {k j p : Nat} (hj : j < k) : nx k j p < k := by
  unfold nx
  split <;> omega
/-- r rounds of until -/
def ui (k j : Nat) (A B : Nat → Bool) : Nat → Nat → Bool
  | 0, p => B p
  | r + 1, p => B p || (A p && ui k j A B r (nx k j p))
/-- r rounds of release -/
def ri (k j : Nat) (A B : Nat → Bool) : Nat → Nat → Bool
  | 0, p => B p
  | r + 1, p => B p && (A p || ri k j A B r (nx k j p))
theorem ri_ui (k j : Nat) (A B : Nat → Bool) : ∀ r p, ri k j A B r p = !ui k j (fun q => !A q) (fun q => !B q) r p
  | 0, p => by simp [ri, ui]
  | r + 1, p => by
    rw [ri, ui, ri_ui k j A B r]
    cases A p <;> cases B p <;> simp
theorem ui_same {k j : Nat} (hj : j < k) {A B A2 B2 : Nat → Bool} (hA : ∀ p, p < k → A p = A2 p) (hB : ∀ p, p < k → B p = B2 p) : ∀ r p, p < k → ui k j A B r p = ui k j A2 B2 r p
  | 0, p, h => hB p h
  | r + 1, p, h => by
    rw [ui, ui, hA p h, hB p h, ui_same hj hA hB r _ (nx_lt hj)]
theorem ui_up {k j : Nat} (hj : j < k) {A B : Nat → Bool} : ∀ r p, p < k → ui k j A B r p = true → ui k j A B (r + 1) p = true
  | 0, p, _, h => by
    rw [ui, show B p = true from h]
    rfl
  | r + 1, p, hp, h => by
    rw [ui] at h ⊢
    rw [Bool.or_eq_true, Bool.and_eq_true] at *
    rcases h with h | ⟨h1, h2⟩
    · exact Or.inl h
    · exact Or.inr ⟨h1, ui_up hj r _ (nx_lt hj) h2⟩
theorem ui_grow {k j : Nat} (hj : j < k) {A B : Nat → Bool} : ∀ r, (∀ p, p < k → ui k j A B (r + 1) p = ui k j A B r p) ∨ r < cn (ui k j A B (r + 1)) k
  | 0 => by
    by_cases h : ∀ p, p < k → ui k j A B 1 p = ui k j A B 0 p
    · exact Or.inl h
    · right
      have h2 := cn_lt (n := k) (p := ui k j A B 0) (q := ui k j A B 1) (ui_up hj 0) (Classical.byContradiction (fun hn => h (fun p hp => by
        cases e : ui k j A B 0 p
        · cases e2 : ui k j A B 1 p
          · rfl
          · exact absurd ⟨p, hp, e, e2⟩ hn
        · rw [ui_up hj 0 p hp e])))
      show 0 < cn (ui k j A B 1) k
      omega
  | r + 1 => by
    by_cases h : ∀ p, p < k → ui k j A B (r + 1 + 1) p = ui k j A B (r + 1) p
    · exact Or.inl h
    · right
      have h2 := cn_lt (n := k) (p := ui k j A B (r + 1)) (q := ui k j A B (r + 1 + 1)) (ui_up hj (r + 1)) (Classical.byContradiction (fun hn => h (fun p hp => by
        cases e : ui k j A B (r + 1) p
        · cases e2 : ui k j A B (r + 1 + 1) p
          · rfl
          · exact absurd ⟨p, hp, e, e2⟩ hn
        · rw [ui_up hj (r + 1) p hp e])))
      rcases ui_grow (A := A) (B := B) hj r with h3 | h3
      · exact absurd (fun p hp => by
          rw [ui, h3 _ (nx_lt hj)]
          conv => rhs; rw [ui]) h
      · omega
/-- until, k rounds: it is a fixed point -/
theorem ui_fix {k j : Nat} (hj : j < k) {A B : Nat → Bool} {p : Nat} (hp : p < k) : ui k j A B k p = (B p || (A p && ui k j A B k (nx k j p))) := by
  have h0 : ∀ p, p < k → ui k j A B (k + 1) p = ui k j A B k p := by
    rcases ui_grow (A := A) (B := B) hj k with h | h
    · exact h
    · have := cn_n (ui k j A B (k + 1)) k
      omega
  rw [← h0 p hp, ui]
theorem ui_least {k j : Nat} (hj : j < k) {A B Y : Nat → Bool} (hY : ∀ p, p < k → (B p || (A p && Y (nx k j p))) = true → Y p = true) : ∀ r p, p < k → ui k j A B r p = true → Y p = true
  | 0, p, hp, h => hY p hp (by rw [show B p = true from h]; rfl)
  | r + 1, p, hp, h => by
    refine hY p hp ?_
    rw [ui, Bool.or_eq_true, Bool.and_eq_true] at h
    rcases h with h | ⟨h1, h2⟩
    · rw [h]
      rfl
    · rw [h1, ui_least hj hY r _ (nx_lt hj) h2]
      simp
/-- from q to the end, d steps, then c -/
def ln (A B : Nat → Bool) (c : Bool) : Nat → Nat → Bool
  | 0, _ => c
  | d + 1, q => B q || (A q && ln A B c d (q + 1))
theorem ln_f (A B : Nat → Bool) : ∀ d q, ln A B (ln A B false d q) d q = ln A B false d q := by
  have h : ∀ (c : Bool) d q, ln A B c d q = (ln A B false d q || (c && ln A B true d q)) := by
    intro c d
    induction d with
    | zero => intro q; cases c <;> rfl
    | succ d ih =>
      intro q
      rw [ln, ln, ih]
      conv => rhs; rhs; rhs; rw [ln]
      cases c <;> cases A q <;> cases B q <;> simp
  intro d q
  rw [h]
  cases ln A B false d q <;> simp
/-- two passes from the end to the front are until -/
theorem ln_ui {k j : Nat} (hj : j < k) {A B : Nat → Bool} {p : Nat} (hp : p < k) : ln A B (ln A B false (k - j) j) (k - p) p = ui k j A B k p := by
  have fix : ∀ p, p < k → ln A B (ln A B false (k - j) j) (k - p) p = (B p || (A p && ln A B (ln A B false (k - j) j) (k - nx k j p) (nx k j p))) := by
    intro p hp
    by_cases h : p + 1 < k
    · rw [show nx k j p = p + 1 from if_pos h, show k - p = (k - (p + 1)) + 1 by omega, ln]
    · rw [show nx k j p = j from if_neg h, ln_f, show k - p = 1 by omega, ln, ln]
  have up : ∀ d p, p < k → d ≤ k - p → ∀ c : Bool, (c = true → ui k j A B k j = true) → ln A B c (k - p) p = true → ui k j A B k p = true := by
    intro d p hp _ c hc
    have : ∀ m q, q + m = k → 0 < m → ln A B c m q = true → ui k j A B k q = true := by
      intro m
      induction m with
      | zero => intro q _ h0; omega
      | succ m ih =>
        intro q hq _ h
        rw [ui_fix hj (by omega)]
        rw [ln, Bool.or_eq_true, Bool.and_eq_true] at h
        rcases h with h | ⟨h1, h2⟩
        · rw [h]
          rfl
        · rw [h1]
          by_cases hm : m = 0
          · subst hm
            rw [show nx k j q = j from if_neg (by omega), hc h2]
            simp
          · rw [show nx k j q = q + 1 from if_pos (by omega), ih (q + 1) (by omega) (by omega) h2]
            simp
    exact this (k - p) p (by omega) (by omega)
  cases e : ui k j A B k p
  · cases e2 : ln A B (ln A B false (k - j) j) (k - p) p
    · rfl
    · rw [up 0 p hp (by omega) _ (fun h => up 0 j hj (by omega) false (fun q => absurd q (by decide)) h) e2] at e
      exact absurd e (by decide)
  · exact ui_least (Y := fun q => ln A B (ln A B false (k - j) j) (k - q) q) hj (fun q hq h => by rw [fix q hq]; exact h) k p hp e
/-- a sign that is a leaf, by the marks -/
def lh (s mk : Int32) : Bool := if 112 ≤ s ∧ s ≤ 115 then tb mk (s - 112).toNatClampNeg else if 65 ≤ s ∧ s ≤ 68 then !tb mk (s - 65).toNatClampNeg else decide (s = 49)
def la (c mk : Int32) : Bool := decide (c = 49) || (decide (112 ≤ c ∧ c ≤ 115) && tb mk (c - 112).toNatClampNeg)
theorem lh_la {c s mk : Int32} {neg : Bool} (h : atm c = true) (hs' : hs c neg = [s]) : lh s mk = (la c mk ^^ neg) := by
  have q : ∀ c ∈ ([48, 49, 112, 113, 114, 115] : List Int32), ∀ neg : Bool, ∀ s, hs c neg = [s] → lh s mk = (la c mk ^^ neg) := by
    intro c hc neg s e
    have e' : s = (hs c neg).headD 0 := by rw [e]; rfl
    subst e'
    simp only [List.mem_cons, List.not_mem_nil, or_false] at hc
    rcases hc with rfl | rfl | rfl | rfl | rfl | rfl <;> cases neg
    · rfl
    · rfl
    · rfl
    · rfl
    · rw [show lh ((hs 112 false).headD 0) mk = tb mk 0 from rfl, show la 112 mk = tb mk 0 from rfl, Bool.xor_false]
    · rw [show lh ((hs 112 true).headD 0) mk = !tb mk 0 from rfl, show la 112 mk = tb mk 0 from rfl, Bool.xor_true]
    · rw [show lh ((hs 113 false).headD 0) mk = tb mk 1 from rfl, show la 113 mk = tb mk 1 from rfl, Bool.xor_false]
    · rw [show lh ((hs 113 true).headD 0) mk = !tb mk 1 from rfl, show la 113 mk = tb mk 1 from rfl, Bool.xor_true]
    · rw [show lh ((hs 114 false).headD 0) mk = tb mk 2 from rfl, show la 114 mk = tb mk 2 from rfl, Bool.xor_false]
    · rw [show lh ((hs 114 true).headD 0) mk = !tb mk 2 from rfl, show la 114 mk = tb mk 2 from rfl, Bool.xor_true]
    · rw [show lh ((hs 115 false).headD 0) mk = tb mk 3 from rfl, show la 115 mk = tb mk 3 from rfl, Bool.xor_false]
    · rw [show lh ((hs 115 true).headD 0) mk = !tb mk 3 from rfl, show la 115 mk = tb mk 3 from rfl, Bool.xor_true]
  exact q c (atm_in h) neg s hs'
