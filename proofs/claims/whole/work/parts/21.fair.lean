/-! WHERE A PATH CAN GO ON FOR EVER AND MEET EVERY GOAL AGAIN AND AGAIN: the greatest set, and the sets that all reach one another. Pure. -/
def gx_N (E : Nat → Nat → Prop) : Nat → Nat → Nat → Prop
  | 0, a, b => a = b
  | n + 1, a, b => ∃ c, E a c ∧ gx_N E n c b
def gx_R (E : Nat → Nat → Prop) (a b : Nat) : Prop := ∃ n, gx_N E n a b
def gx_P (E : Nat → Nat → Prop) (a b : Nat) : Prop := ∃ c, E a c ∧ gx_R E c b
theorem gx_R.rf {E : Nat → Nat → Prop} (a : Nat) : gx_R E a a := ⟨0, rfl⟩
theorem gx_N.tr {E : Nat → Nat → Prop} : ∀ (n : Nat) {m a b c : Nat}, gx_N E n a b → gx_N E m b c → gx_N E (n + m) a c
  | 0, m, a, b, c, h, h2 => by
    have e : a = b := h
    subst e
    rw [Nat.zero_add]
    exact h2
  | n + 1, m, a, b, c, h, h2 => by
    obtain ⟨d, h1, h3⟩ := h
    rw [show n + 1 + m = n + m + 1 by omega]
    exact ⟨d, h1, gx_N.tr n h3 h2⟩
theorem gx_R.tr {E : Nat → Nat → Prop} {a b c : Nat} (h : gx_R E a b) (h2 : gx_R E b c) : gx_R E a c := by
  obtain ⟨n, h⟩ := h
  obtain ⟨m, h2⟩ := h2
  exact ⟨n + m, gx_N.tr n h h2⟩
theorem gx_R.one {E : Nat → Nat → Prop} {a b : Nat} (h : E a b) : gx_R E a b := ⟨1, b, h, rfl⟩
theorem gx_R.cons {E : Nat → Nat → Prop} {a b c : Nat} (h : E a b) (h2 : gx_R E b c) : gx_R E a c := (gx_R.one h).tr h2
theorem gx_R.snoc {E : Nat → Nat → Prop} {a b c : Nat} (h : gx_R E a b) (h2 : E b c) : gx_R E a c := h.tr (gx_R.one h2)
theorem gx_P.r {E : Nat → Nat → Prop} {a b : Nat} (h : gx_P E a b) : gx_R E a b := by
  obtain ⟨c, h1, h2⟩ := h
  exact gx_R.cons h1 h2
theorem gx_P.tr {E : Nat → Nat → Prop} {a b c : Nat} (h : gx_P E a b) (h2 : gx_R E b c) : gx_P E a c := by
  obtain ⟨d, h1, h3⟩ := h
  exact ⟨d, h1, h3.tr h2⟩
theorem gx_R.trP {E : Nat → Nat → Prop} {a b c : Nat} (h : gx_R E a b) (h2 : gx_P E b c) : gx_P E a c := by
  obtain ⟨n, h⟩ := h
  cases n with
  | zero =>
    have e : a = b := h
    exact e ▸ h2
  | succ n =>
    obtain ⟨d, h1, h3⟩ := h
    exact ⟨d, h1, gx_R.tr ⟨n, h3⟩ h2.r⟩
theorem gx_R.mono {E E2 : Nat → Nat → Prop} (hE : ∀ a b, E a b → E2 a b) {a b : Nat} (h : gx_R E a b) : gx_R E2 a b := by
  obtain ⟨n, h⟩ := h
  induction n generalizing a with
  | zero => exact ⟨0, h⟩
  | succ n ih =>
    obtain ⟨c, h1, h2⟩ := h
    exact gx_R.cons (hE a c h1) (ih h2)
theorem gx_P.mono {E E2 : Nat → Nat → Prop} (hE : ∀ a b, E a b → E2 a b) {a b : Nat} (h : gx_P E a b) : gx_P E2 a b := by
  obtain ⟨c, h1, h2⟩ := h
  exact ⟨c, hE a c h1, h2.mono hE⟩
theorem gx_R.rev {E : Nat → Nat → Prop} {a b : Nat} (h : gx_R (fun x y => E y x) a b) : gx_R E b a := by
  obtain ⟨n, h⟩ := h
  induction n generalizing a with
  | zero =>
    have e : a = b := h
    exact e ▸ gx_R.rf a
  | succ n ih =>
    obtain ⟨c, h1, h2⟩ := h
    exact (ih h2).snoc h1
/-- a path all of whose ends reach b, where b is in a set that is closed backward, stays in the set -/
theorem gx_R.inside {E : Nat → Nat → Prop} {B : Nat → Prop} (hB : ∀ x y, E x y → B y → B x) {a b : Nat} (h : gx_R E a b) (hb : B b) : gx_R (fun x y => E x y ∧ B y) a b ∧ B a := by
  obtain ⟨n, h⟩ := h
  induction n generalizing a with
  | zero =>
    have e : a = b := h
    subst e
    exact ⟨gx_R.rf a, hb⟩
  | succ n ih =>
    obtain ⟨c, h1, h2⟩ := h
    obtain ⟨h3, h4⟩ := ih h2
    exact ⟨gx_R.cons ⟨h1, h4⟩ h3, hB a c h1 h4⟩
theorem gx_P.inside {E : Nat → Nat → Prop} {B : Nat → Prop} (hB : ∀ x y, E x y → B y → B x) {a b : Nat} (h : gx_P E a b) (hb : B b) : gx_P (fun x y => E x y ∧ B y) a b := by
  obtain ⟨c, h1, h2⟩ := h
  obtain ⟨h3, h4⟩ := gx_R.inside hB h2 hb
  exact ⟨c, ⟨h1, h4⟩, h3⟩
/-- how many below n -/
noncomputable def gx_C (p : Nat → Prop) : Nat → Nat
  | 0 => 0
  | n + 1 => gx_C p n + @ite Nat (p n) (Classical.propDecidable _) 1 0
theorem gx_C_le {p q : Nat → Prop} (h : ∀ x, p x → q x) : ∀ n, gx_C p n ≤ gx_C q n
  | 0 => Nat.le_refl _
  | n + 1 => by
    have h1 := gx_C_le h n
    unfold gx_C
    by_cases hp : p n
    · rw [if_pos hp, if_pos (h n hp)]
      omega
    · rw [if_neg hp]
      omega
theorem gx_C_lt {p q : Nat → Prop} (h : ∀ x, p x → q x) {v : Nat} (hq : q v) (hp : ¬ p v) : ∀ n, v < n → gx_C p n < gx_C q n
  | 0, hv => by omega
  | n + 1, hv => by
    unfold gx_C
    by_cases e : v = n
    · subst e
      have h1 := gx_C_le h v
      rw [if_neg hp, if_pos hq]
      omega
    · have h1 := gx_C_lt h hq hp n (by omega)
      by_cases hp2 : p n
      · rw [if_pos hp2, if_pos (h n hp2)]
        omega
      · rw [if_neg hp2]
        omega
theorem gx_C_all (n : Nat) (p : Nat → Prop) : gx_C p n ≤ n := by
  induction n with
  | zero => exact Nat.le_refl _
  | succ n ih =>
    unfold gx_C
    by_cases hp : p n
    · rw [if_pos hp]; omega
    · rw [if_neg hp]; omega
/-- a node of a set that all reach one another, with steps, and with every goal -/
def gx_K (E : Nat → Nat → Prop) (goal : Nat → Nat → Prop) (T v : Nat) : Prop := gx_P E v v ∧ ∀ k, k < T → ∃ u, gx_R E v u ∧ gx_R E u v ∧ goal k u
def gx_B (E : Nat → Nat → Prop) (goal : Nat → Nat → Prop) (T v : Nat) : Prop := ∃ w, gx_R E v w ∧ gx_K E goal T w
theorem gx_B_back {E : Nat → Nat → Prop} {goal : Nat → Nat → Prop} {T : Nat} : ∀ x y, E x y → gx_B E goal T y → gx_B E goal T x := by
  intro x y h h1
  obtain ⟨w, h2, h3⟩ := h1
  exact ⟨w, gx_R.cons h h2, h3⟩
theorem gx_B_one {E : Nat → Nat → Prop} {goal : Nat → Nat → Prop} {T v : Nat} (h : gx_B E goal T v) : ∃ w, E v w ∧ gx_B E goal T w := by
  obtain ⟨w, h1, h2⟩ := h
  obtain ⟨c, h3, h4⟩ := gx_R.trP h1 h2.1
  exact ⟨c, h3, w, h4, h2⟩
theorem gx_B_goal {E : Nat → Nat → Prop} {goal : Nat → Nat → Prop} {T v : Nat} (h : gx_B E goal T v) {k : Nat} (hk : k < T) : ∃ u, gx_P (fun x y => E x y ∧ gx_B E goal T y) v u ∧ goal k u := by
  obtain ⟨w, h1, h2⟩ := h
  obtain ⟨u, h3, h4, h5⟩ := h2.2 k hk
  refine ⟨u, gx_P.inside gx_B_back ((gx_R.trP h1 h2.1).tr h3) ⟨w, h4, h2⟩, h5⟩
/-- a set in which one can go on, and in it come to every goal: from it one reaches such a node -/
theorem gx_B_of {E : Nat → Nat → Prop} {goal : Nat → Nat → Prop} {T N : Nat} {F : Nat → Prop} (hN : ∀ v, F v → v < N) (h1 : ∀ v, F v → ∃ w, E v w ∧ F w) (h2 : ∀ k, k < T → ∀ v, F v → ∃ u, gx_P (fun x y => E x y ∧ F y) v u ∧ goal k u) : ∀ v, F v → gx_B E goal T v := by
  have main : ∀ (n v : Nat), gx_C (gx_R (fun x y => E x y ∧ F y) v) N ≤ n → F v → gx_B E goal T v := by
    intro n
    induction n with
    | zero =>
      intro v hc hv
      have h3 := gx_C_lt (p := fun _ => False) (q := gx_R (fun x y => E x y ∧ F y) v) (fun _ h => h.elim) (gx_R.rf v) (fun h => h) N (hN v hv)
      omega
    | succ n ih =>
      intro v hc hv
      by_cases hall : ∀ x, gx_R (fun x y => E x y ∧ F y) v x → gx_R (fun x y => E x y ∧ F y) x v
      · refine ⟨v, gx_R.rf v, ?_, fun k hk => ?_⟩
        · obtain ⟨w, h3, h4⟩ := h1 v hv
          exact ⟨w, h3, (hall w (gx_R.one ⟨h3, h4⟩)).mono (fun _ _ h => h.1)⟩
        · obtain ⟨u, h3, h4⟩ := h2 k hk v hv
          exact ⟨u, h3.r.mono (fun _ _ h => h.1), (hall u h3.r).mono (fun _ _ h => h.1), h4⟩
      · obtain ⟨x, hx⟩ := Classical.not_forall.mp hall
        obtain ⟨h3, h4⟩ := Classical.not_imp.mp hx
        have hF : F x := by
          obtain ⟨m, hm⟩ := h3
          clear hx h4 hc hall
          induction m generalizing v with
          | zero =>
            have e : v = x := hm
            exact e ▸ hv
          | succ m ihm =>
            obtain ⟨c, h5, h6⟩ := hm
            exact ihm c h5.2 h6
        have hlt := gx_C_lt (p := gx_R (fun x y => E x y ∧ F y) x) (q := gx_R (fun x y => E x y ∧ F y) v) (fun y h => h3.tr h) (gx_R.rf v) h4 N (hN v hv)
        obtain ⟨w, h5, h6⟩ := ih x (by omega) hF
        exact ⟨w, (h3.mono (fun _ _ h => h.1)).tr h5, h6⟩
  exact fun v hv => main _ v (Nat.le_refl _) hv
