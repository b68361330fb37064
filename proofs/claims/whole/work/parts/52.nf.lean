/-! The normal form of a tree, as a list -/
def ndc : List Int32 := [48, 49, 112, 113, 114, 115, 33, 70, 71, 88, 82, 85, 38, 124, 62]
theorem atm_in {c : Int32} (h : atm c = true) : c ∈ [48, 49, 112, 113, 114, 115] := by
  rw [atm, decide_eq_true_iff] at h
  rcases h with ⟨h1, h2⟩ | h | h
  · obtain ⟨j, hj, rfl⟩ := nI_of2 (x := c) (M := 115) (n := 115) (by decide) (fun q => absurd (Int32.le_trans h1 (Int32.le_of_lt q)) (by decide)) h2
    have h3 : 112 ≤ j := (nI_leI (a := 112) (by decide) (by omega)).mp h1
    rcases (by omega : j = 112 ∨ j = 113 ∨ j = 114 ∨ j = 115) with h | h | h | h <;> subst h <;> decide
  · subst h
    decide
  · subst h
    decide
theorem rk_in {c : Int32} (h : 1 ≤ rk c) : c ∈ [33, 70, 71, 88, 82, 85, 38, 124, 62] := by
  unfold rk at h
  split at h
  · rename_i q
    rcases q with q | q | q | q <;> subst q <;> decide
  · split at h
    · rename_i q
      rcases q with q | q <;> subst q <;> decide
    · split at h
      · rename_i q
        subst q
        decide
      · split at h
        · rename_i q
          subst q
          decide
        · split at h
          · rename_i q
            subst q
            decide
          · omega
theorem nd_in {c : Int32} (h : atm c = true ∨ 1 ≤ rk c) : c ∈ ndc := by
  show c ∈ [48, 49, 112, 113, 114, 115] ++ [33, 70, 71, 88, 82, 85, 38, 124, 62]
  rcases h with h | h
  · exact List.mem_append_left _ (atm_in h)
  · exact List.mem_append_right _ (rk_in h)
def opp (c : Int32) : Int32 := if c = 38 then 124 else if c = 48 then 49 else if c = 49 then 48 else if c = 82 then 85 else if c = 85 then 82 else if c = 88 then 88 else if c = 124 then 38 else ((65 + (c - 112)).toUInt32 % 65536).toInt32
/-- the signs that a node gives -/
def hs (c : Int32) (neg : Bool) : List Int32 := if c = 33 then [] else if c = 62 then [if neg then 38 else 124] else if c = 70 then (if neg then [82, 48] else [85, 49]) else if c = 71 then (if neg then [85, 49] else [82, 48]) else [if neg then opp c else c]
def tur (c : Int32) : Bool := decide (c = 33 ∨ c = 62)
theorem hs_len {c : Int32} (h : c ∈ ndc) (neg : Bool) : (hs c neg).length ≤ 1 + (tmd c).toNat := by
  have q : ∀ c ∈ ndc, ∀ neg : Bool, (hs c neg).length ≤ 1 + (tmd c).toNat := by decide
  exact q c h neg
theorem hs_nar {c : Int32} (h : c ∈ ndc) (neg : Bool) : ∀ s ∈ hs c neg, vp_nar .char s = s := by
  have q : ∀ c ∈ ndc, ∀ neg : Bool, ∀ s ∈ hs c neg, vp_nar .char s = s := by decide
  exact q c h neg
def nf (g : Nat → Int32 × Int32 × Int32) : Nat → Nat → Bool → List Int32
  | 0, _, _ => []
  | f + 1, x, neg => hs (g x).1 neg ++ ((if (g x).2.1 = -1 then [] else nf g f (g x).2.1.toNatClampNeg (neg ^^ tur (g x).1)) ++ (if (g x).2.2 = -1 then [] else nf g f (g x).2.2.toNatClampNeg neg))
theorem nI_m1 {n : Nat} (h : n < 2 ^ 31) : nI n ≠ -1 := fun e => nI_pos h (by rw [e]; decide)
theorem nf_fuel {g : Nat → Int32 × Int32 × Int32} : ∀ {k a x f f2 : Nat} {neg : Bool}, tT g k a x → x < 2 ^ 31 → x < f → x < f2 → nf g f x neg = nf g f2 x neg
  | 0, _, _, _, _, _, h, _, _, _ => absurd h (by simp [tT])
  | k + 1, a, x, 0, _, _, _, _, h, _ => absurd h (by omega)
  | k + 1, a, x, _, 0, _, _, _, _, h => absurd h (by omega)
  | k + 1, a, x, f + 1, f2 + 1, neg, h, hx, h1, h2 => by
    rw [nf, nf]
    rcases h with ⟨_, _, e1, e2⟩ | ⟨_, l, e1, e2, t1⟩ | ⟨_, _, m, l1, l2, e1, e2, t1, t2⟩
    · rw [e1, e2, if_pos rfl, if_pos rfl, if_pos rfl, if_pos rfl]
    · rw [e1, e2, if_pos rfl, if_neg (nI_m1 (by omega)), if_neg (nI_m1 (by omega)), nI_clamp (by omega), nf_fuel t1 (by omega) (by omega) (by omega : x - 1 < f2), if_pos rfl]
    · rw [e1, e2, if_neg (nI_m1 (by omega)), if_neg (nI_m1 (by omega)), if_neg (nI_m1 (by omega)), if_neg (nI_m1 (by omega)), nI_clamp (by omega), nI_clamp (by omega), nf_fuel t1 (by omega) (by omega) (by omega : m < f2), nf_fuel t2 (by omega) (by omega) (by omega : x - 1 < f2)]
def nfx (g : Nat → Int32 × Int32 × Int32) (x : Nat) (neg : Bool) : List Int32 := nf g (x + 1) x neg
/-- how a tree is made, and what its normal form is then -/
theorem nfx_tree {g : Nat → Int32 × Int32 × Int32} {a x : Nat} (h : tTT g a x) (hx : x < 2 ^ 31) (neg : Bool) : (atm (g x).1 = true ∧ a = x ∧ (g x).2.1 = -1 ∧ (g x).2.2 = -1 ∧ nfx g x neg = hs (g x).1 neg) ∨ (rk (g x).1 = 5 ∧ a < x ∧ (g x).2.1 = nI (x - 1) ∧ (g x).2.2 = -1 ∧ tTT g a (x - 1) ∧ nfx g x neg = hs (g x).1 neg ++ nfx g (x - 1) (neg ^^ tur (g x).1)) ∨ (1 ≤ rk (g x).1 ∧ rk (g x).1 ≤ 4 ∧ ∃ m, a ≤ m ∧ m + 1 < x ∧ (g x).2.1 = nI m ∧ (g x).2.2 = nI (x - 1) ∧ tTT g a m ∧ tTT g (m + 1) (x - 1) ∧ nfx g x neg = hs (g x).1 neg ++ (nfx g m (neg ^^ tur (g x).1) ++ nfx g (x - 1) neg)) := by
  obtain ⟨k, h⟩ := h
  cases k with
  | zero => exact absurd h (by simp [tT])
  | succ k =>
    rcases h with ⟨h1, h2, e1, e2⟩ | ⟨h1, l, e1, e2, t1⟩ | ⟨h1, h2, m, l1, l2, e1, e2, t1, t2⟩
    · refine Or.inl ⟨h1, h2, e1, e2, ?_⟩
      rw [nfx, nf, e1, e2, if_pos rfl, if_pos rfl]
      simp
    · refine Or.inr (Or.inl ⟨h1, l, e1, e2, ⟨k, t1⟩, ?_⟩)
      rw [nfx, nf, e1, e2, if_pos rfl, if_neg (nI_m1 (by omega)), nI_clamp (by omega), nfx, nf_fuel t1 (by omega) (by omega : x - 1 < x) (by omega : x - 1 < x - 1 + 1)]
      simp
    · refine Or.inr (Or.inr ⟨h1, h2, m, l1, l2, e1, e2, ⟨k, t1⟩, ⟨k, t2⟩, ?_⟩)
      rw [nfx, nf, e1, e2, if_neg (nI_m1 (by omega)), if_neg (nI_m1 (by omega)), nI_clamp (by omega), nI_clamp (by omega), nfx, nfx, nf_fuel t1 (by omega) (by omega : m < x) (by omega : m < m + 1), nf_fuel t2 (by omega) (by omega : x - 1 < x) (by omega : x - 1 < x - 1 + 1)]
/-- timed nodes below n -/
def tcn (g : Nat → Int32 × Int32 × Int32) : Nat → Nat
  | 0 => 0
  | n + 1 => tcn g n + (tmd (g n).1).toNat
theorem tcn_le {g : Nat → Int32 × Int32 × Int32} {a b : Nat} (h : a ≤ b) : tcn g a ≤ tcn g b := by
  induction b with
  | zero => rw [Nat.le_zero.mp h]; exact Nat.le_refl _
  | succ b ih =>
    by_cases e : a = b + 1
    · rw [e]; exact Nat.le_refl _
    · have := ih (by omega)
      rw [tcn]
      omega
theorem nfx_len {g : Nat → Int32 × Int32 × Int32} : ∀ (n x a : Nat) (neg : Bool), x < n → tTT g a x → x < 2 ^ 31 → (nfx g x neg).length + tcn g a ≤ (x + 1 - a) + tcn g (x + 1) ∧ a ≤ x
  | 0, _, _, _, h, _, _ => absurd h (by omega)
  | n + 1, x, a, neg, hn, h, hx => by
    rcases nfx_tree h hx neg with ⟨h1, h2, e1, e2, e3⟩ | ⟨h1, l, e1, e2, t1, e3⟩ | ⟨h1, h2, m, l1, l2, e1, e2, t1, t2, e3⟩
    · have := hs_len (nd_in (Or.inl h1)) neg
      rw [e3, tcn, h2]
      omega
    · have := hs_len (nd_in (Or.inr (by omega : 1 ≤ rk (g x).1))) neg
      obtain ⟨q1, q2⟩ := nfx_len n (x - 1) a (neg ^^ tur (g x).1) (by omega) t1 (by omega)
      rw [show x - 1 + 1 = x by omega] at q1
      rw [e3, List.length_append, tcn]
      omega
    · have := hs_len (nd_in (Or.inr h1)) neg
      obtain ⟨q1, q2⟩ := nfx_len n m a (neg ^^ tur (g x).1) (by omega) t1 (by omega)
      obtain ⟨q3, q4⟩ := nfx_len n (x - 1) (m + 1) neg (by omega) t2 (by omega)
      rw [show x - 1 + 1 = x by omega] at q3
      rw [e3, List.length_append, List.length_append, tcn]
      omega
/-- what waits to be written: the trees on a stack, the top first -/
abbrev wS : Type := List (Nat × Nat × Bool)
def wN (g : Nat → Int32 × Int32 × Int32) : wS → List Int32
  | [] => []
  | e :: t => nfx g e.2.1 e.2.2 ++ wN g t
def wW : wS → Nat
  | [] => 0
  | e :: t => (e.2.1 + 1 - e.1) + wW t
def wOk (g : Nat → Int32 × Int32 × Int32) (n : Nat) : wS → Prop
  | [] => True
  | e :: t => tTT g e.1 e.2.1 ∧ e.2.1 < n ∧ e.1 ≤ e.2.1 ∧ wOk g n t
theorem wS_len {g : Nat → Int32 × Int32 × Int32} {n : Nat} : ∀ {S : wS}, wOk g n S → S.length ≤ wW S
  | [], _ => Nat.le_refl _
  | e :: t, ⟨_, _, h1, h2⟩ => by
    have := wS_len h2
    rw [wW]
    simp
    omega
/-- a row of numbers begins with a list -/
def lst (f : Nat → Int32) (l : List Int32) : Prop := ∀ i, i < l.length → f i = l.getD i 0
theorem lst_same {f g : Nat → Int32} {l : List Int32} (h : ∀ i, i < l.length → g i = f i) (hl : lst f l) : lst g l := fun i hi => (h i hi).trans (hl i hi)
theorem lst_push {f g : Nat → Int32} {l : List Int32} {s : Int32} (hl : lst f l) (h : ∀ i, i < l.length → g i = f i) (hs : g l.length = s) : lst g (l ++ [s]) := by
  intro i hi
  simp at hi
  by_cases e : i = l.length
  · subst e
    rw [hs]
    simp
  · rw [h i (by omega), hl i (by omega)]
    simp [List.getD, List.getElem?_append_left (show i < l.length by omega)]
