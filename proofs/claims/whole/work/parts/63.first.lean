/-! Lassos as a function; the first of them -/
theorem ri_same {k j : Nat} (hj : j < k) {A B A2 B2 : Nat → Bool} (hA : ∀ p, p < k → A p = A2 p) (hB : ∀ p, p < k → B p = B2 p) (r p : Nat) (hp : p < k) : ri k j A B r p = ri k j A2 B2 r p := by
  rw [ri_ui, ri_ui, ui_same hj (fun p hp => by rw [hA p hp]) (fun p hp => by rw [hB p hp]) r p hp]
theorem ev_same {F : Nat → Int32} {S : Nat → Nat} {z : Nat} (hK : sK F S z) {k j : Nat} (hj : j < k) {lv lv2 : Int32 → Nat → Bool} {H H2 : Nat → Nat → Bool} {r i : Nat} (hr : r < z) (hi : i < k) (hl : ∀ s, lv s i = lv2 s i) (h : ∀ q, r < q → q < z → ∀ i, i < k → H q i = H2 q i) : ev (F r) (H (r + 1)) (H (S r)) k j lv i = ev (F r) (H2 (r + 1)) (H2 (S r)) k j lv2 i := by
  have hb : bn (F r) = true → (∀ i, i < k → H (r + 1) i = H2 (r + 1) i) ∧ (∀ i, i < k → H (S r) i = H2 (S r) i) := fun hb => by
    obtain ⟨a1, a2, a3, _⟩ := (hK r hr).1 hb
    exact ⟨h _ (by omega) a1, h _ a2 a3⟩
  unfold ev
  by_cases h1 : F r = 38
  · obtain ⟨a, b⟩ := hb (by rw [h1]; decide)
    rw [if_pos h1, if_pos h1, a i hi, b i hi]
  rw [if_neg h1, if_neg h1]
  by_cases h2 : F r = 82
  · obtain ⟨a, b⟩ := hb (by rw [h2]; decide)
    rw [if_pos h2, if_pos h2, ri_same hj a b k i hi]
  rw [if_neg h2, if_neg h2]
  by_cases h3 : F r = 85
  · obtain ⟨a, b⟩ := hb (by rw [h3]; decide)
    rw [if_pos h3, if_pos h3, ui_same hj a b k i hi]
  rw [if_neg h3, if_neg h3]
  by_cases h4 : F r = 88
  · rw [if_pos h4, if_pos h4, h (r + 1) (by omega) ((hK r hr).2 h4) _ (nx_lt hj)]
  rw [if_neg h4, if_neg h4]
  by_cases h5 : F r = 124
  · obtain ⟨a, b⟩ := hb (by rw [h5]; decide)
    rw [if_pos h5, if_pos h5, a i hi, b i hi]
  rw [if_neg h5, if_neg h5, hl]
/-- what holds of a part at a place of a lasso -/
def lsV (F : Nat → Int32) (S : Nat → Nat) (mk : Nat → Int32) (st : Nat → Nat) (k j : Nat) : Nat → Nat → Nat → Bool
  | 0, _, _ => false
  | f + 1, r, i => ev (F r) (lsV F S mk st k j f (r + 1)) (lsV F S mk st k j f (S r)) k j (fun s p => lh s (mk (st p))) i
theorem lsV_fuel {F : Nat → Int32} {S : Nat → Nat} {z : Nat} (hK : sK F S z) {mk : Nat → Int32} {st : Nat → Nat} {k j : Nat} (hj : j < k) : ∀ d r f f2 i, z ≤ r + d → r < z → i < k → z ≤ r + f → z ≤ r + f2 → lsV F S mk st k j f r i = lsV F S mk st k j f2 r i := by
  intro d
  induction d with
  | zero => exact fun r f f2 i h1 h2 => absurd h2 (by omega)
  | succ d ih =>
    intro r f f2 i hd hr hi h1 h2
    obtain ⟨f, rfl⟩ : ∃ q, f = q + 1 := ⟨f - 1, by omega⟩
    obtain ⟨f2, rfl⟩ : ∃ q, f2 = q + 1 := ⟨f2 - 1, by omega⟩
    rw [lsV, lsV]
    exact ev_same (H := lsV F S mk st k j f) (H2 := lsV F S mk st k j f2) hK hj hr hi (fun _ => rfl) (fun q q1 q2 i hi => ih q f f2 i (by omega) q2 hi (by omega) (by omega))
theorem lsV_O {F : Nat → Int32} {S : Nat → Nat} {z : Nat} (hK : sK F S z) (mk : Nat → Int32) (st : Nat → Nat) {k j : Nat} (hj : j < k) : lsO F S z mk st k j (lsV F S mk st k j z) := by
  intro r hr i hi
  rw [lsV_fuel hK hj z r z (z + 1) i (by omega) hr hi (by omega) (by omega), lsV]
theorem lsO_un {F : Nat → Int32} {S : Nat → Nat} {z : Nat} (hK : sK F S z) {mk : Nat → Int32} {st st2 : Nat → Nat} {k j : Nat} (hj : j < k) (hs : ∀ i, i < k → st i = st2 i) {H H2 : Nat → Nat → Bool} (h : lsO F S z mk st k j H) (h2 : lsO F S z mk st2 k j H2) : ∀ r, r < z → ∀ i, i < k → H r i = H2 r i := by
  have key : ∀ d r, z ≤ r + d → r < z → ∀ i, i < k → H r i = H2 r i := by
    intro d
    induction d with
    | zero => exact fun r h1 h2 => absurd h2 (by omega)
    | succ d ih =>
      intro r hd hr i hi
      rw [h r hr i hi, h2 r hr i hi]
      exact ev_same hK hj hr hi (fun s => by rw [hs i hi]) (fun q q1 q2 => ih q (by omega) q2)
  exact fun r hr => key z r (by omega) hr
/-- a lasso that breaks the formula -/
def Brk (F : Nat → Int32) (S : Nat → Nat) (z : Nat) (mk : Nat → Int32) (J : Nat → Nat → Bool) (k : Nat) (st : Nat → Nat) (j : Nat) : Prop := (∀ i, i < k → J (st i) (st (nx k j i)) = true) ∧ lsV F S mk st k j z 0 0 = false
theorem Brk_same {F : Nat → Int32} {S : Nat → Nat} {z : Nat} (hz : 0 < z) (hK : sK F S z) {mk : Nat → Int32} {J : Nat → Nat → Bool} {k : Nat} {st st2 : Nat → Nat} {j : Nat} (hj : j < k) (h : ∀ i, i < k → st i = st2 i) (hB : Brk F S z mk J k st j) : Brk F S z mk J k st2 j := by
  refine ⟨fun i hi => ?_, ?_⟩
  · rw [← h i hi, ← h _ (nx_lt hj)]
    exact hB.1 i hi
  · rw [← lsO_un hK hj h (lsV_O hK mk st hj) (lsV_O hK mk st2 hj) 0 hz 0 (by omega)]
    exact hB.2
section FI
variable (B : Nat → (Nat → Nat) → Nat → Prop)
/-- rows of k states that begin with s -/
def rOk (s k : Nat) (r : Nat → Nat) : Prop := r 0 = s ∧ ∀ i, i < k → r i < 6
def lxt (k : Nat) (r q : Nat → Nat) : Prop := ∃ i, i < k ∧ (∀ e, e < i → r e = q e) ∧ r i < q i
def nob (s k : Nat) : Prop := ∀ r, rOk s k r → ∀ j, j < k → ¬ B k r j
def fnd (s k : Nat) (r : Nat → Nat) (j : Nat) : Prop := 1 ≤ k ∧ k ≤ 6 ∧ rOk s k r ∧ j < k ∧ B k r j ∧ (∀ e, 1 ≤ e → e < k → nob B s e) ∧ (∀ q, rOk s k q → lxt k q r → ∀ i, i < k → ¬ B k q i) ∧ ∀ i, i < j → ¬ B k r i
theorem lxt_or (k : Nat) (r q : Nat → Nat) : lxt k r q ∨ lxt k q r ∨ ∀ i, i < k → r i = q i := by
  induction k with
  | zero => exact Or.inr (Or.inr (fun i h => absurd h (by omega)))
  | succ k ih =>
    rcases ih with ⟨i, h1, h2⟩ | ⟨i, h1, h2⟩ | h
    · exact Or.inl ⟨i, by omega, h2⟩
    · exact Or.inr (Or.inl ⟨i, by omega, h2⟩)
    · rcases Nat.lt_trichotomy (r k) (q k) with e | e | e
      · exact Or.inl ⟨k, by omega, fun i hi => h i hi, e⟩
      · refine Or.inr (Or.inr (fun i hi => ?_))
        by_cases h3 : i = k
        · exact h3 ▸ e
        · exact h i (by omega)
      · exact Or.inr (Or.inl ⟨k, by omega, fun i hi => (h i hi).symm, e⟩)
variable {B}
theorem fnd_un (hB : ∀ k r q j, j < k → (∀ i, i < k → r i = q i) → B k r j → B k q j) {s k k2 : Nat} {r r2 : Nat → Nat} {j j2 : Nat} (h : fnd B s k r j) (h2 : fnd B s k2 r2 j2) : k = k2 ∧ (∀ i, i < k → r i = r2 i) ∧ j = j2 := by
  obtain ⟨a1, a2, a3, a4, a5, a6, a7, a8⟩ := h
  obtain ⟨b1, b2, b3, b4, b5, b6, b7, b8⟩ := h2
  have e : k = k2 := by
    rcases Nat.lt_trichotomy k k2 with e | e | e
    · exact absurd a5 (b6 k a1 e r a3 j a4)
    · exact e
    · exact absurd b5 (a6 k2 b1 e r2 b3 j2 b4)
  subst e
  have e : ∀ i, i < k → r i = r2 i := by
    rcases lxt_or k r r2 with e | e | e
    · exact absurd a5 (b7 r a3 e j a4)
    · exact absurd b5 (a7 r2 b3 e j2 b4)
    · exact e
  refine ⟨rfl, e, ?_⟩
  rcases Nat.lt_trichotomy j j2 with q | q | q
  · exact absurd (hB k r r2 j a4 e a5) (b8 j q)
  · exact q
  · exact absurd (hB k r2 r j2 b4 (fun i hi => (e i hi).symm) b5) (a8 j2 q)
theorem fnd_no {s k : Nat} {r : Nat → Nat} {j : Nat} (h : fnd B s k r j) : ¬ nob B s k := fun hn => hn r h.2.2.1 j h.2.2.2.1 h.2.2.2.2.1
/-- the next row -/
theorem lxt_next {k p : Nat} {r r2 q : Nat → Nat} (h1 : ∀ i, i < p → r2 i = r i) (h2 : r2 p = r p + 1) (h3 : ∀ i, p < i → i < k → r i = 5 ∧ r2 i = 0) (hq : ∀ i, i < k → q i < 6) (h : lxt k q r2) : lxt k q r ∨ ∀ i, i < k → q i = r i := by
  obtain ⟨i, a1, a2, a3⟩ := h
  rcases Nat.lt_trichotomy i p with e | e | e
  · exact Or.inl ⟨i, a1, fun e he => by rw [a2 e he, h1 e (by omega)], by rw [← h1 i e]; exact a3⟩
  · subst e
    rw [h2] at a3
    have c : ∀ e, e < i → q e = r e := fun e he => by rw [a2 e he, h1 e he]
    by_cases e : q i = r i
    · rcases lxt_or k q r with w | w | w
      · exact Or.inl w
      · obtain ⟨e2, b1, b2, b3⟩ := w
        rcases Nat.lt_trichotomy e2 i with u | u | u
        · have := c e2 u
          omega
        · subst u
          omega
        · have := (h3 e2 u b1).1
          have := hq e2 b1
          omega
      · exact Or.inr w
    · exact Or.inl ⟨i, a1, c, by omega⟩
  · have := (h3 i e a1).2
    omega
/-- a row as a number -/
def cod (r : Nat → Nat) : Nat → Nat
  | 0 => 0
  | k + 1 => 6 * cod r k + r k
theorem cod_lt {r : Nat → Nat} : ∀ {k : Nat}, (∀ i, i < k → r i < 6) → cod r k < 6 ^ k
  | 0, _ => by simp [cod]
  | k + 1, h => by
    have h1 := cod_lt (k := k) (fun i hi => h i (by omega))
    have h2 := h k (by omega)
    rw [cod, Nat.pow_succ]
    omega
theorem cod_same {r q : Nat → Nat} : ∀ {k : Nat}, (∀ i, i < k → r i = q i) → cod r k = cod q k
  | 0, _ => rfl
  | k + 1, h => by rw [cod, cod, cod_same (k := k) (fun i hi => h i (by omega)), h k (by omega)]
theorem cod_next {p : Nat} {r r2 : Nat → Nat} (h1 : ∀ i, i < p → r2 i = r i) (h2 : r2 p = r p + 1) : ∀ {d : Nat}, (∀ i, p < i → i < p + 1 + d → r i = 5 ∧ r2 i = 0) → cod r (p + 1 + d) < cod r2 (p + 1 + d)
  | 0, _ => by
    rw [Nat.add_zero, cod, cod, h2, cod_same h1]
    omega
  | d + 1, h3 => by
    have h4 := cod_next h1 h2 (d := d) (fun i a b => h3 i a (by omega))
    obtain ⟨h5, h6⟩ := h3 (p + 1 + d) (by omega) (by omega)
    rw [show p + 1 + (d + 1) = (p + 1 + d) + 1 by omega, cod, cod, h5, h6]
    omega
end FI
