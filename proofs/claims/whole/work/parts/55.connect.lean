/-! The parts of a normal form; the class connects them -/
def bn (c : Int32) : Bool := decide (c = 38 ∨ c = 124 ∨ c = 85 ∨ c = 82)
def lf (c : Int32) : Bool := decide (c ≠ 88) && !bn c
/-- a part begins at p and ends before q -/
def tmF (F : Nat → Int32) : Nat → Nat → Nat → Prop
  | 0, _, _ => False
  | k + 1, p, q => (F p = 88 ∧ tmF F k (p + 1) q) ∨ (bn (F p) = true ∧ ∃ m, tmF F k (p + 1) m ∧ tmF F k m q) ∨ (lf (F p) = true ∧ q = p + 1)
def tmP (F : Nat → Int32) (p q : Nat) : Prop := ∃ k, tmF F k p q
theorem tmF_up {F : Nat → Int32} : ∀ {k k2 p q : Nat}, k ≤ k2 → tmF F k p q → tmF F k2 p q
  | 0, _, _, _, _, h => absurd h (by simp [tmF])
  | k + 1, 0, _, _, hk, _ => absurd hk (by omega)
  | k + 1, k2 + 1, p, q, hk, h => by
    rcases h with ⟨h1, h2⟩ | ⟨h1, m, h2, h3⟩ | h
    · exact Or.inl ⟨h1, tmF_up (by omega) h2⟩
    · exact Or.inr (Or.inl ⟨h1, m, tmF_up (by omega) h2, tmF_up (by omega) h3⟩)
    · exact Or.inr (Or.inr h)
theorem tmF_lt {F : Nat → Int32} : ∀ {k p q : Nat}, tmF F k p q → p < q
  | 0, _, _, h => absurd h (by simp [tmF])
  | k + 1, p, q, h => by
    rcases h with ⟨h1, h2⟩ | ⟨h1, m, h2, h3⟩ | h
    · have := tmF_lt h2
      omega
    · have := tmF_lt h2
      have := tmF_lt h3
      omega
    · omega
theorem bn_88 {c : Int32} (h : bn c = true) : c ≠ 88 ∧ lf c = false := by
  refine ⟨fun e => by rw [e] at h; exact absurd h (by decide), ?_⟩
  simp [lf, h]
theorem lf_88 {c : Int32} (h : lf c = true) : c ≠ 88 ∧ bn c = false := by
  simp [lf] at h
  exact h
theorem tmF_det {F : Nat → Int32} : ∀ {k p q q2 : Nat}, tmF F k p q → tmF F k p q2 → q = q2
  | 0, _, _, _, h, _ => absurd h (by simp [tmF])
  | k + 1, p, q, q2, h, h' => by
    rcases h with ⟨h1, h2⟩ | ⟨h1, m, h2, h3⟩ | ⟨h1, h2⟩
    · rcases h' with ⟨g1, g2⟩ | ⟨g1, m', g2, g3⟩ | ⟨g1, g2⟩
      · exact tmF_det h2 g2
      · exact absurd h1 (bn_88 g1).1
      · exact absurd h1 (lf_88 g1).1
    · rcases h' with ⟨g1, g2⟩ | ⟨g1, m', g2, g3⟩ | ⟨g1, g2⟩
      · exact absurd g1 (bn_88 h1).1
      · have e := tmF_det h2 g2
        subst e
        exact tmF_det h3 g3
      · rw [(lf_88 g1).2] at h1
        exact absurd h1 (by decide)
    · rcases h' with ⟨g1, g2⟩ | ⟨g1, m', g2, g3⟩ | ⟨g1, g2⟩
      · exact absurd g1 (lf_88 h1).1
      · rw [(lf_88 h1).2] at g1
        exact absurd g1 (by decide)
      · omega
theorem tmP_det {F : Nat → Int32} {p q q2 : Nat} (h : tmP F p q) (h2 : tmP F p q2) : q = q2 := by
  obtain ⟨k, h⟩ := h
  obtain ⟨k2, h2⟩ := h2
  exact tmF_det (tmF_up (Nat.le_max_left k k2) h) (tmF_up (Nat.le_max_right k k2) h2)
theorem tmF_in {F : Nat → Int32} : ∀ {k p q r : Nat}, tmF F k p q → p ≤ r → r < q → ∃ q2, q2 ≤ q ∧ tmF F k r q2
  | 0, _, _, _, h, _, _ => absurd h (by simp [tmF])
  | k + 1, p, q, r, h, h1, h2 => by
    by_cases e : r = p
    · subst e
      exact ⟨q, Nat.le_refl _, h⟩
    · rcases h with ⟨_, g2⟩ | ⟨_, m, g2, g3⟩ | ⟨_, g2⟩
      · obtain ⟨q2, a, b⟩ := tmF_in g2 (by omega) h2
        exact ⟨q2, a, tmF_up (by omega) b⟩
      · by_cases hm : r < m
        · obtain ⟨q2, a, b⟩ := tmF_in g2 (by omega) hm
          have := tmF_lt g3
          exact ⟨q2, by omega, tmF_up (by omega) b⟩
        · obtain ⟨q2, a, b⟩ := tmF_in g3 (by omega) h2
          exact ⟨q2, a, tmF_up (by omega) b⟩
      · omega
theorem tmP_x {F : Nat → Int32} {p q : Nat} (h : F p = 88) (h1 : tmP F (p + 1) q) : tmP F p q := by
  obtain ⟨k, h1⟩ := h1
  exact ⟨k + 1, Or.inl ⟨h, h1⟩⟩
theorem tmP_b {F : Nat → Int32} {p m q : Nat} (h : bn (F p) = true) (h1 : tmP F (p + 1) m) (h2 : tmP F m q) : tmP F p q := by
  obtain ⟨k, h1⟩ := h1
  obtain ⟨k2, h2⟩ := h2
  exact ⟨max k k2 + 1, Or.inr (Or.inl ⟨h, m, tmF_up (Nat.le_max_left k k2) h1, tmF_up (Nat.le_max_right k k2) h2⟩)⟩
theorem tmP_l {F : Nat → Int32} {p : Nat} (h : lf (F p) = true) : tmP F p (p + 1) := ⟨1, Or.inr (Or.inr ⟨h, rfl⟩)⟩
/-- what begins at r below the end -/
theorem tmP_at {F : Nat → Int32} {z r : Nat} (h : tmP F 0 z) (hr : r < z) : (F r = 88 ∧ r + 1 < z ∧ ∃ q, q ≤ z ∧ tmP F (r + 1) q ∧ tmP F r q) ∨ (bn (F r) = true ∧ ∃ m q, r + 1 < m ∧ m < z ∧ q ≤ z ∧ tmP F (r + 1) m ∧ tmP F m q ∧ tmP F r q) ∨ (lf (F r) = true ∧ tmP F r (r + 1)) := by
  obtain ⟨k, h⟩ := h
  obtain ⟨q, hq, h1⟩ := tmF_in h (Nat.zero_le _) hr
  cases k with
  | zero => exact absurd h1 (by simp [tmF])
  | succ k =>
    have h1' := h1
    rcases h1 with ⟨g1, g2⟩ | ⟨g1, m, g2, g3⟩ | ⟨g1, g2⟩
    · have := tmF_lt g2
      exact Or.inl ⟨g1, by omega, q, hq, ⟨k, g2⟩, ⟨k + 1, h1'⟩⟩
    · have := tmF_lt g2
      have := tmF_lt g3
      exact Or.inr (Or.inl ⟨g1, m, q, by omega, by omega, hq, ⟨k, g2⟩, ⟨k, g3⟩, ⟨k + 1, h1'⟩⟩)
    · exact Or.inr (Or.inr ⟨g1, tmP_l g1⟩)
/-- a slice of a row -/
def slc (F : Nat → Int32) (p : Nat) (l : List Int32) : Prop := ∀ i, i < l.length → F (p + i) = l.getD i 0
theorem slc_app {F : Nat → Int32} {p : Nat} {a b : List Int32} (h : slc F p (a ++ b)) : slc F p a ∧ slc F (p + a.length) b := by
  constructor
  · intro i hi
    rw [h i (by simp; omega)]
    simp [List.getD, List.getElem?_append_left hi]
  · intro i hi
    rw [show p + a.length + i = p + (a.length + i) by omega, h (a.length + i) (by simp; omega)]
    simp [List.getD, List.getElem?_append_right]
theorem slc_cons {F : Nat → Int32} {p : Nat} {s : Int32} {l : List Int32} (h : slc F p (s :: l)) : F p = s ∧ slc F (p + 1) l := by
  have := slc_app (a := [s]) (b := l) h
  refine ⟨?_, this.2⟩
  have := this.1 0 (by simp)
  simpa using this
/-- the shapes of a node's signs -/
theorem hs_leaf {c : Int32} (h : atm c = true) (neg : Bool) : ∃ s, hs c neg = [s] ∧ lf s = true ∧ tmd s = false := by
  have q : ∀ c ∈ ([48, 49, 112, 113, 114, 115] : List Int32), ∀ neg : Bool, hs c neg = [(hs c neg).headD 0] ∧ lf ((hs c neg).headD 0) = true ∧ tmd ((hs c neg).headD 0) = false := by decide
  obtain ⟨a, b⟩ := q c (atm_in h) neg
  exact ⟨_, a, b⟩
theorem hs_bin {c : Int32} (h1 : 1 ≤ rk c) (h4 : rk c ≤ 4) (neg : Bool) : ∃ s, hs c neg = [s] ∧ bn s = true ∧ tmd s = tmd c := by
  have q : ∀ c ∈ ([33, 70, 71, 88, 82, 85, 38, 124, 62] : List Int32), rk c ≤ 4 → ∀ neg : Bool, hs c neg = [(hs c neg).headD 0] ∧ bn ((hs c neg).headD 0) = true ∧ tmd ((hs c neg).headD 0) = tmd c := by decide
  obtain ⟨a, b⟩ := q c (rk_in h1) h4 neg
  exact ⟨_, a, b⟩
theorem hs_un {c : Int32} (h : rk c = 5) (neg : Bool) : (c = 33 ∧ hs c neg = []) ∨ (c = 88 ∧ hs c neg = [88]) ∨ ((c = 70 ∨ c = 71) ∧ ∃ s k, hs c neg = [s, k] ∧ bn s = true ∧ lf k = true ∧ tmd s = true ∧ tmd k = false) := by
  rcases (rk5_iff c).mp h with e | e | e | e
  · exact Or.inl ⟨e, by rw [e]; rfl⟩
  · exact Or.inr (Or.inl ⟨e, by rw [e]; cases neg <;> rfl⟩)
  · refine Or.inr (Or.inr ⟨Or.inl e, ?_⟩)
    subst e
    cases neg
    · exact ⟨85, 49, rfl, by decide⟩
    · exact ⟨82, 48, rfl, by decide⟩
  · refine Or.inr (Or.inr ⟨Or.inr e, ?_⟩)
    subst e
    cases neg
    · exact ⟨82, 48, rfl, by decide⟩
    · exact ⟨85, 49, rfl, by decide⟩
theorem ntm_app : ∀ a b : List Int32, ntm (a ++ b) = ntm a + ntm b
  | [], b => by simp [ntm]
  | c :: t, b => by
    rw [List.cons_append, ntm, ntm, ntm_app t b]
    omega
theorem tm_nfx {F : Nat → Int32} {g : Nat → Int32 × Int32 × Int32} : ∀ (n x a p : Nat) (neg : Bool), x < n → tTT g a x → x < 2 ^ 31 → slc F p (nfx g x neg) → tmP F p (p + (nfx g x neg).length)
  | 0, _, _, _, _, h, _, _, _ => absurd h (by omega)
  | n + 1, x, a, p, neg, hn, h, hx, hs' => by
    rcases nfx_tree h hx neg with ⟨h1, h2, e1, e2, e3⟩ | ⟨h1, l, e1, e2, t1, e3⟩ | ⟨h1, h2, m, l1, l2, e1, e2, t1, t2, e3⟩
    · obtain ⟨s, q1, q2, q3⟩ := hs_leaf h1 neg
      rw [e3, q1] at hs' ⊢
      exact tmP_l (by rw [(slc_cons hs').1]; exact q2)
    · rw [e3] at hs' ⊢
      rcases hs_un h1 neg with ⟨_, q⟩ | ⟨_, q⟩ | ⟨_, s, k, q, q1, q2, _, _⟩
      · rw [q, List.nil_append] at hs' ⊢
        exact tm_nfx n (x - 1) a p _ (by omega) t1 (by omega) hs'
      · rw [q] at hs' ⊢
        obtain ⟨r1, r2⟩ := slc_cons hs'
        have := tm_nfx n (x - 1) a (p + 1) _ (by omega) t1 (by omega) r2
        rw [show (([88] : List Int32) ++ nfx g (x - 1) (neg ^^ tur (g x).1)).length = 1 + (nfx g (x - 1) (neg ^^ tur (g x).1)).length by simp [Nat.add_comm]]
        refine tmP_x r1 ?_
        rw [← Nat.add_assoc]
        exact this
      · rw [q] at hs' ⊢
        obtain ⟨r1, r2⟩ := slc_cons hs'
        obtain ⟨r3, r4⟩ := slc_cons r2
        have := tm_nfx n (x - 1) a (p + 1 + 1) _ (by omega) t1 (by omega) r4
        rw [show ([s, k] ++ nfx g (x - 1) (neg ^^ tur (g x).1)).length = 2 + (nfx g (x - 1) (neg ^^ tur (g x).1)).length by simp; omega]
        refine tmP_b (m := p + 2) (by rw [r1]; exact q1) (tmP_l (by rw [r3]; exact q2)) ?_
        rw [← Nat.add_assoc]
        exact this
    · rw [e3] at hs' ⊢
      obtain ⟨s, q, q1, _⟩ := hs_bin h1 h2 neg
      rw [q] at hs' ⊢
      obtain ⟨r1, r2⟩ := slc_cons hs'
      obtain ⟨r3, r4⟩ := slc_app (a := nfx g m (neg ^^ tur (g x).1)) (b := nfx g (x - 1) neg) r2
      have a1 := tm_nfx n m a (p + 1) _ (by omega) t1 (by omega) r3
      have a2 := tm_nfx n (x - 1) (m + 1) _ _ (by omega) t2 (by omega) r4
      rw [show ([s] ++ (nfx g m (neg ^^ tur (g x).1) ++ nfx g (x - 1) neg)).length = 1 + ((nfx g m (neg ^^ tur (g x).1)).length + (nfx g (x - 1) neg).length) by simp; omega]
      refine tmP_b (by rw [r1]; exact q1) a1 ?_
      rw [← Nat.add_assoc, ← Nat.add_assoc]
      exact a2
theorem ntm_nfx {g : Nat → Int32 × Int32 × Int32} : ∀ (n x a : Nat) (neg : Bool), x < n → tTT g a x → x < 2 ^ 31 → ntm (nfx g x neg) + tcn g a = tcn g (x + 1)
  | 0, _, _, _, h, _, _ => absurd h (by omega)
  | n + 1, x, a, neg, hn, h, hx => by
    rcases nfx_tree h hx neg with ⟨h1, h2, e1, e2, e3⟩ | ⟨h1, l, e1, e2, t1, e3⟩ | ⟨h1, h2, m, l1, l2, e1, e2, t1, t2, e3⟩
    · obtain ⟨s, q1, q2, q3⟩ := hs_leaf h1 neg
      rw [e3, q1, tcn, tmd_atm h1, h2]
      simp [ntm, q3]
    · have ih := ntm_nfx n (x - 1) a (neg ^^ tur (g x).1) (by omega) t1 (by omega)
      rw [show x - 1 + 1 = x by omega] at ih
      rw [e3, tcn, ntm_app]
      rcases hs_un h1 neg with ⟨e, q⟩ | ⟨e, q⟩ | ⟨e, s, k, q, q1, q2, q3, q4⟩
      · rw [q, e, show tmd 33 = false from by decide]
        simp only [ntm, Bool.toNat_false]
        rw [e] at ih
        omega
      · rw [q, e, show tmd 88 = true from by decide]
        simp only [ntm, show tmd 88 = true from by decide, Bool.toNat_true]
        rw [e] at ih
        omega
      · rw [q]
        have e5 : tmd (g x).1 = true := by
          rcases e with e | e <;> rw [e] <;> decide
        simp only [ntm, q3, q4, e5, Bool.toNat_true, Bool.toNat_false]
        omega
    · obtain ⟨s, q, q1, q2⟩ := hs_bin h1 h2 neg
      have i1 := ntm_nfx n m a (neg ^^ tur (g x).1) (by omega) t1 (by omega)
      have i2 := ntm_nfx n (x - 1) (m + 1) neg (by omega) t2 (by omega)
      rw [show x - 1 + 1 = x by omega] at i2
      rw [e3, tcn, ntm_app, ntm_app, q]
      simp only [ntm, q2]
      omega
/-- timed signs from r on, m of them -/
def ddF (F : Nat → Int32) : Nat → Nat → Nat
  | 0, _ => 0
  | m + 1, r => ddF F m (r + 1) + (tmd (F r)).toNat
theorem ddF_ntm {F : Nat → Int32} : ∀ {l : List Int32} {r : Nat}, slc F r l → ddF F l.length r = ntm l
  | [], _, _ => rfl
  | c :: t, r, h => by
    obtain ⟨h1, h2⟩ := slc_cons h
    rw [List.length_cons, ddF, ntm, ddF_ntm h2, h1]
/-- the number of the timed sign at r -/
def nuF (F : Nat → Int32) (z r : Nat) : Nat := ddF F (z - (r + 1)) (r + 1)
theorem ddF_s {F : Nat → Int32} {z r : Nat} (h : r < z) : ddF F (z - r) r = nuF F z r + (tmd (F r)).toNat := by
  rw [show z - r = (z - (r + 1)) + 1 by omega, ddF]
  rfl
theorem ddF_mono {F : Nat → Int32} {z : Nat} : ∀ {d r : Nat}, r + d ≤ z → ddF F (z - (r + d)) (r + d) ≤ ddF F (z - r) r
  | 0, r, _ => Nat.le_refl _
  | d + 1, r, h => by
    have := ddF_mono (F := F) (z := z) (d := d) (r := r + 1) (by omega)
    rw [show r + 1 + d = r + (d + 1) by omega] at this
    have h2 := ddF_s (F := F) (show r < z by omega)
    rw [nuF] at h2
    omega
theorem m_NF_isBinary (c : Int32) (σ : zS) : zM yNF_isBinary cNF_isBinary 1 (some .boolean) 0 0 0 [.int c] σ (fun r σ2 => r = some (.int (zb (bn c))) ∧ σ2 = σ) (fun _ _ => False) := by
  refine zM.of [some (.int c)] (by decide) 0 rfl (fun _ => Nat.le_of_ble_eq_true rfl) (fun Z hR => ?_)
  refine z_iload_n hR dNF_isBinary_0 (n := 1) rfl rfl ?_
  refine z_bipush hR dNF_isBinary_1 (v := 38) (n := 3) rfl rfl ?_
  refine z_icmp_eq hR dNF_isBinary_3 (t := 24) (n := 6) rfl rfl (fun h3 => ?_) (fun h3 => ?_)
  · refine z_iconst hR dNF_isBinary_24 (v := 1) (n := 25) rfl rfl ?_
    refine z_goto hR dNF_isBinary_25 (t := 29) rfl ?_
    refine z_zret hR dNF_isBinary_29 rfl rfl (Nat.zero_le _) ?_
    first | exact ⟨zbT (by simp [bn, *]), rfl⟩ | exact ⟨zbF (by simp [bn, *]), rfl⟩
  · refine z_iload_n hR dNF_isBinary_6 (n := 7) rfl rfl ?_
    refine z_bipush hR dNF_isBinary_7 (v := 124) (n := 9) rfl rfl ?_
    refine z_icmp_eq hR dNF_isBinary_9 (t := 24) (n := 12) rfl rfl (fun h9 => ?_) (fun h9 => ?_)
    · refine z_iconst hR dNF_isBinary_24 (v := 1) (n := 25) rfl rfl ?_
      refine z_goto hR dNF_isBinary_25 (t := 29) rfl ?_
      refine z_zret hR dNF_isBinary_29 rfl rfl (Nat.zero_le _) ?_
      first | exact ⟨zbT (by simp [bn, *]), rfl⟩ | exact ⟨zbF (by simp [bn, *]), rfl⟩
    · refine z_iload_n hR dNF_isBinary_12 (n := 13) rfl rfl ?_
      refine z_bipush hR dNF_isBinary_13 (v := 85) (n := 15) rfl rfl ?_
      refine z_icmp_eq hR dNF_isBinary_15 (t := 24) (n := 18) rfl rfl (fun h15 => ?_) (fun h15 => ?_)
      · refine z_iconst hR dNF_isBinary_24 (v := 1) (n := 25) rfl rfl ?_
        refine z_goto hR dNF_isBinary_25 (t := 29) rfl ?_
        refine z_zret hR dNF_isBinary_29 rfl rfl (Nat.zero_le _) ?_
        first | exact ⟨zbT (by simp [bn, *]), rfl⟩ | exact ⟨zbF (by simp [bn, *]), rfl⟩
      · refine z_iload_n hR dNF_isBinary_18 (n := 19) rfl rfl ?_
        refine z_bipush hR dNF_isBinary_19 (v := 82) (n := 21) rfl rfl ?_
        refine z_icmp_ne hR dNF_isBinary_21 (t := 28) (n := 24) rfl rfl (fun h21 => ?_) (fun h21 => ?_)
        · refine z_iconst hR dNF_isBinary_28 (v := 0) (n := 29) rfl rfl ?_
          refine z_zret hR dNF_isBinary_29 rfl rfl (Nat.zero_le _) ?_
          first | exact ⟨zbT (by simp [bn, *]), rfl⟩ | exact ⟨zbF (by simp [bn, *]), rfl⟩
        · refine z_iconst hR dNF_isBinary_24 (v := 1) (n := 25) rfl rfl ?_
          refine z_goto hR dNF_isBinary_25 (t := 29) rfl ?_
          refine z_zret hR dNF_isBinary_29 rfl rfl (Nat.zero_le _) ?_
          first | exact ⟨zbT (by simp [bn, *]), rfl⟩ | exact ⟨zbF (by simp [bn, *]), rfl⟩
/-- the parts from p on are connected -/
def nCf (F S E N P : Nat → Int32) (z p : Nat) : Prop := (∀ r, p ≤ r → r < z → ∃ q, tmP F r q ∧ q ≤ z ∧ E r = nI q) ∧ (∀ r, p ≤ r → r < z → bn (F r) = true → ∃ m, tmP F (r + 1) m ∧ m < z ∧ S r = nI m) ∧ (∀ r, p ≤ r → r < z → bn (F r) = false → S r = -1) ∧ (∀ r, p ≤ r → r < z → tmd (F r) = true → N r = nI (nuF F z r) ∧ P (nuF F z r) = nI r) ∧ (∀ r, p ≤ r → r < z → tmd (F r) = false → N r = -1)
theorem m_NF_connect {z : Nat} (hz : z ≤ 37) (σ : zS) (hs : σ.1 34 1 = nI z) (hT : tmP (σ.1 35) 0 z) (hd : ddF (σ.1 35) z 0 ≤ 5) : zM yNF_connect cNF_connect 2 none 1 40 0 [.ref 34] σ (fun r σ2 => r = none ∧ zfr [34, 36, 37, 38, 39] σ σ2 ∧ (∀ j, j ≠ 4 → σ2.1 34 j = σ.1 34 j) ∧ σ2.1 34 4 = nI (ddF (σ.1 35) z 0) ∧ nCf (σ.1 35) (σ2.1 36) (σ2.1 37) (σ2.1 39) (σ2.1 38) z 0) (fun _ _ => False) := by
  refine zM.of [some (.ref 34), none] (by decide) 1 rfl (fun _ => Nat.le_of_ble_eq_true rfl) (fun Z hR => ?_)
  generalize hF : σ.1 35 = F at hT hd hR
  have key : ∀ (p : Nat) (y : Int32) (τ : zS), p ≤ z → (p = 0 → y < 0) → (∀ p2, p = p2 + 1 → y = nI p2) → zfr [34, 36, 37, 38, 39] σ τ → (∀ j, j ≠ 4 → τ.1 34 j = σ.1 34 j) → τ.1 34 4 = nI (ddF F (z - p) p) → nCf F (τ.1 36) (τ.1 37) (τ.1 39) (τ.1 38) z p → Z 0 12 [some (.ref 34), some (.int y)] [] τ := by
    intro p
    induction p with
    | zero =>
      intro y τ hp h0 _ hf hk ht hC
      refine z_iload_n hR dNF_connect_12 (n := 13) rfl rfl ?_
      refine z_if_lt hR dNF_connect_13 (t := 166) (n := 16) rfl rfl (fun _ => ?_) (fun h13 => absurd (h0 rfl) h13)
      refine z_vret hR dNF_connect_166 rfl (Nat.zero_le _) ?_
      exact ⟨rfl, hf, hk, ht, hC⟩
    | succ p ih =>
      intro y τ hp _ h1 hf hk ht hC
      obtain rfl := h1 p rfl
      have hds := ddF_s (F := F) (show p < z by omega)
      have hdm := ddF_mono (F := F) (z := z) (d := p) (r := 0) (by omega)
      rw [Nat.zero_add, Nat.sub_zero] at hdm
      have hdec : ∀ p2, p = p2 + 1 → nI p + (-1) = nI p2 := fun p2 e => by
        subst e
        exact pk_m1 p2
      have hdz : p = 0 → nI p + (-1) < 0 := fun e => by
        subst e
        decide
      obtain ⟨c1, c2, c3, c4, c5⟩ := hC
      -- after the connections: rows E and S are right from p on, the numbers from p + 1 on
      have fin : ∀ (τ2 : zS), zfr [34, 36, 37, 38, 39] σ τ2 → (∀ j, j ≠ 4 → τ2.1 34 j = σ.1 34 j) → τ2.1 34 4 = nI (ddF F (z - (p + 1)) (p + 1)) → (∀ r, p ≤ r → r < z → ∃ q, tmP F r q ∧ q ≤ z ∧ τ2.1 37 r = nI q) → (∀ r, p ≤ r → r < z → bn (F r) = true → ∃ m, tmP F (r + 1) m ∧ m < z ∧ τ2.1 36 r = nI m) → (∀ r, p ≤ r → r < z → bn (F r) = false → τ2.1 36 r = -1) → (∀ r, p + 1 ≤ r → r < z → tmd (F r) = true → τ2.1 39 r = nI (nuF F z r) ∧ τ2.1 38 (nuF F z r) = nI r) → (∀ r, p + 1 ≤ r → r < z → tmd (F r) = false → τ2.1 39 r = -1) → τ2.1 39 p = -1 → Z 0 110 [some (.ref 34), some (.int (nI p))] [] τ2 := by
        intro τ2 hf2 hk2 ht2 b1 b2 b3 b4 b5 b6
        have hF2 : τ2.1 35 = F := by rw [hf2.1 35 (by decide), hF]
        have hnu : tmd (F p) = true → nuF F z p < 5 := fun e => by
          rw [e] at hds
          simp at hds
          omega
        refine z_aload_n hR dNF_connect_110 (n := 111) rfl rfl ?_
        refine z_getR hR dNF_connect_111 (n := 114) rfl zgNF_9 (by decide) rfl rfl ?_
        refine z_iload_n hR dNF_connect_114 (n := 115) rfl rfl ?_
        refine z_cald hR (_) dNF_connect_115 (n := 116) rfl (by decide) rfl (by decide) rfl (by omega) ?_
        rw [hF2]
        refine z_callS1 hR dNF_connect_116 (n := 119) rfl zcNF_82 zkRE_isTimed (by decide) (Nat.le_of_ble_eq_true rfl) (Nat.zero_le _) (m_RE_isTimed (F p) τ2) (fun r116 s116 h116 => ?_)
        obtain ⟨rfl, e116⟩ := h116
        subst s116
        refine z_if_eqB hR dNF_connect_119 (t := 160) (n := 122) rfl rfl (fun h119 => ?_) (fun h119 => ?_)
        · have go := ih (nI p + (-1)) τ2 (by omega) hdz hdec hf2 hk2 (by rw [ht2, hds, h119]; rfl) ⟨b1, b2, b3, fun r h1 h2 h3 => by
            by_cases e : r = p
            · subst e
              rw [h119] at h3
              exact absurd h3 (by decide)
            · exact b4 r (by omega) h2 h3, fun r h1 h2 h3 => by
            by_cases e : r = p
            · subst e
              exact b6
            · exact b5 r (by omega) h2 h3⟩
          refine z_iinc hR dNF_connect_160 (q32 := (-1)) (n := 163) rfl rfl (by decide) rfl rfl ?_
          refine z_goto hR dNF_connect_163 (t := 12) rfl ?_
          exact go
        · have hn5 := hnu h119
          have ht3 : τ2.1 34 4 = nI (nuF F z p) := ht2
          have go := ih (nI p + (-1)) (zwA (zwA (zwA τ2 39 p (nI (nuF F z p))) 38 (nuF F z p) (nI p)) 34 4 (nI (nuF F z p + 1))) (by omega) hdz hdec (((hf2.wA _ (by decide)).wA _ (by decide)).wA _ (by decide)) (fun j hj => by rw [zwA_sn _ _ _ _ hj, zwA_n _ _ _ _ (by decide), zwA_n _ _ _ _ (by decide)]; exact hk2 j hj) (by rw [zwA_ss, hds, h119]; rfl) ⟨fun r h1 h2 => by
            obtain ⟨q, q1, q2, q3⟩ := b1 r h1 h2
            exact ⟨q, q1, q2, by simpa [zwA_1] using q3⟩, fun r h1 h2 h3 => by
            obtain ⟨q, q1, q2, q3⟩ := b2 r h1 h2 h3
            exact ⟨q, q1, q2, by simpa [zwA_1] using q3⟩, fun r h1 h2 h3 => by
            have := b3 r h1 h2 h3
            simpa [zwA_1] using this, fun r h1 h2 h3 => by
            by_cases e : r = p
            · subst e
              simp [zwA_1]
            · obtain ⟨q1, q2⟩ := b4 r (by omega) h2 h3
              have hne : nuF F z r ≠ nuF F z p := fun e2 => by
                have a1 := ddF_s (F := F) h2
                have a2 := ddF_mono (F := F) (z := z) (d := r - (p + 1)) (r := p + 1) (by omega)
                rw [show p + 1 + (r - (p + 1)) = r by omega] at a2
                rw [h3] at a1
                simp only [Bool.toNat_true] at a1
                have a3 : ddF F (z - (p + 1)) (p + 1) = nuF F z p := rfl
                omega
              exact ⟨by simpa [zwA_1, e] using q1, by simpa [zwA_1, hne] using q2⟩, fun r h1 h2 h3 => by
            by_cases e : r = p
            · subst e
              rw [h119] at h3
              exact absurd h3 (by decide)
            · have := b5 r (by omega) h2 h3
              simpa [zwA_1, e] using this⟩
          refine z_aload_n hR dNF_connect_122 (n := 123) rfl rfl ?_
          refine z_getI hR dNF_connect_123 (n := 126) rfl zgNF_75 (by decide) rfl rfl ?_
          rw [ht3]
          refine z_iconst hR dNF_connect_126 (v := nI 5) (n := 127) rfl rfl ?_
          refine z_icmp_geN hR dNF_connect_127 (t := 160) (n := 130) rfl rfl (by omega) (by omega) (fun h127 => absurd h127 (by omega)) (fun h127 => ?_)
          refine z_aload_n hR dNF_connect_130 (n := 131) rfl rfl ?_
          refine z_getR hR dNF_connect_131 (n := 134) rfl zgNF_25 (by decide) rfl rfl ?_
          refine z_iload_n hR dNF_connect_134 (n := 135) rfl rfl ?_
          refine z_aload_n hR dNF_connect_135 (n := 136) rfl rfl ?_
          refine z_getI hR dNF_connect_136 (n := 139) rfl zgNF_75 (by decide) rfl rfl ?_
          rw [ht3]
          refine z_iast hR (_) dNF_connect_139 (n := 140) rfl (by decide) rfl (by decide) rfl (by omega) ?_
          refine z_aload_n hR dNF_connect_140 (n := 141) rfl rfl ?_
          refine z_getR hR dNF_connect_141 (n := 144) rfl zgNF_22 (by decide) rfl rfl ?_
          refine z_aload_n hR dNF_connect_144 (n := 145) rfl rfl ?_
          refine z_getI hR dNF_connect_145 (n := 148) rfl zgNF_75 (by decide) rfl rfl ?_
          rw [zwA_n _ _ _ _ (by decide), ht3]
          refine z_iload_n hR dNF_connect_148 (n := 149) rfl rfl ?_
          refine z_iast hR (_) dNF_connect_149 (n := 150) rfl (by decide) rfl (by decide) rfl (by omega) ?_
          refine z_aload_n hR dNF_connect_150 (n := 151) rfl rfl ?_
          refine z_dup hR dNF_connect_151 (n := 152) rfl rfl ?_
          refine z_getI hR dNF_connect_152 (n := 155) rfl zgNF_75 (by decide) rfl rfl ?_
          rw [zwA_n _ _ _ _ (by decide), zwA_n _ _ _ _ (by decide), ht3]
          refine z_iconst hR dNF_connect_155 (v := nI 1) (n := 156) rfl rfl ?_
          refine z_iaddN hR dNF_connect_156 (n := 157) rfl ?_
          refine z_putI hR dNF_connect_157 (n := 160) rfl zpNF_75 (by decide) rfl rfl ?_
          refine z_iinc hR dNF_connect_160 (q32 := (-1)) (n := 163) rfl rfl (by decide) rfl rfl ?_
          refine z_goto hR dNF_connect_163 (t := 12) rfl ?_
          exact go
      have hF1 : τ.1 35 = F := by rw [hf.1 35 (by decide), hF]
      rcases tmP_at hT (show p < z by omega) with ⟨g1, g2, q, g3, g4, g5⟩ | ⟨g1, m, q, g2, g3, g4, g5, g6, g7⟩ | ⟨g1, g2⟩
      ·
        obtain ⟨q', d1, d2, d3⟩ := c1 (p + 1) (by omega) g2
        have hbn : bn (F p) = false := by rw [g1]; decide
        refine z_iload_n hR dNF_connect_12 (n := 13) rfl rfl ?_
        refine z_if_ltN hR dNF_connect_13 (t := 166) (n := 16) rfl rfl (by omega) ?_
        refine z_aload_n hR dNF_connect_16 (n := 17) rfl rfl ?_
        refine z_getR hR dNF_connect_17 (n := 20) rfl zgNF_15 (by decide) rfl rfl ?_
        refine z_iload_n hR dNF_connect_20 (n := 21) rfl rfl ?_
        refine z_iconst hR dNF_connect_21 (v := (-1)) (n := 22) rfl rfl ?_
        refine z_iast hR (_) dNF_connect_22 (n := 23) rfl (by decide) rfl (by decide) rfl (by omega) ?_
        refine z_aload_n hR dNF_connect_23 (n := 24) rfl rfl ?_
        refine z_getR hR dNF_connect_24 (n := 27) rfl zgNF_25 (by decide) rfl rfl ?_
        refine z_iload_n hR dNF_connect_27 (n := 28) rfl rfl ?_
        refine z_iconst hR dNF_connect_28 (v := (-1)) (n := 29) rfl rfl ?_
        refine z_iast hR (_) dNF_connect_29 (n := 30) rfl (by decide) rfl (by decide) rfl (by omega) ?_
        refine z_aload_n hR dNF_connect_30 (n := 31) rfl rfl ?_
        refine z_getR hR dNF_connect_31 (n := 34) rfl zgNF_19 (by decide) rfl rfl ?_
        refine z_iload_n hR dNF_connect_34 (n := 35) rfl rfl ?_
        refine z_iload_n hR dNF_connect_35 (n := 36) rfl rfl ?_
        refine z_iconst hR dNF_connect_36 (v := nI 1) (n := 37) rfl rfl ?_
        refine z_iaddN hR dNF_connect_37 (n := 38) rfl ?_
        refine z_iast hR (_) dNF_connect_38 (n := 39) rfl (by decide) rfl (by decide) rfl (by omega) ?_
        refine z_aload_n hR dNF_connect_39 (n := 40) rfl rfl ?_
        refine z_getR hR dNF_connect_40 (n := 43) rfl zgNF_9 (by decide) rfl rfl ?_
        refine z_iload_n hR dNF_connect_43 (n := 44) rfl rfl ?_
        refine z_cald hR (_) dNF_connect_44 (n := 45) rfl (by decide) rfl (by decide) rfl (by omega) ?_
        rw [zwA_n _ _ _ _ (by decide), zwA_n _ _ _ _ (by decide), zwA_n _ _ _ _ (by decide), hF1]
        refine z_bipush hR dNF_connect_45 (v := 88) (n := 47) rfl rfl ?_
        refine z_icmp_ne hR dNF_connect_47 (t := 67) (n := 50) rfl rfl (fun h47 => absurd h47 (fun e => e g1)) (fun _ => ?_)
        refine z_aload_n hR dNF_connect_50 (n := 51) rfl rfl ?_
        refine z_getR hR dNF_connect_51 (n := 54) rfl zgNF_19 (by decide) rfl rfl ?_
        refine z_iload_n hR dNF_connect_54 (n := 55) rfl rfl ?_
        refine z_aload_n hR dNF_connect_55 (n := 56) rfl rfl ?_
        refine z_getR hR dNF_connect_56 (n := 59) rfl zgNF_19 (by decide) rfl rfl ?_
        refine z_iload_n hR dNF_connect_59 (n := 60) rfl rfl ?_
        refine z_iconst hR dNF_connect_60 (v := nI 1) (n := 61) rfl rfl ?_
        refine z_iaddN hR dNF_connect_61 (n := 62) rfl ?_
        refine z_iald hR (_) dNF_connect_62 (n := 63) rfl (by decide) rfl (by decide) rfl (by omega) ?_
        rw [zwA_sn _ _ _ _ (by omega), zwA_n _ _ _ _ (by decide), zwA_n _ _ _ _ (by decide), d3]
        refine z_iast hR (_) dNF_connect_63 (n := 64) rfl (by decide) rfl (by decide) rfl (by omega) ?_
        refine z_goto hR dNF_connect_64 (t := 110) rfl ?_
        refine fin _ ((((hf.wA _ (by decide)).wA _ (by decide)).wA _ (by decide)).wA _ (by decide)) (fun j hj => by simp [zwA_1]; exact hk j hj) (by simp [zwA_1]; exact ht) (fun r h1 h2 => ?_) (fun r h1 h2 h3 => ?_) (fun r h1 h2 h3 => ?_) (fun r h1 h2 h3 => ?_) (fun r h1 h2 h3 => ?_) ?_
        · by_cases e : r = p
          · subst e
            exact ⟨q', tmP_x g1 d1, d2, by simp [zwA_1]⟩
          · obtain ⟨a, b, c, d⟩ := c1 r (by omega) h2
            exact ⟨a, b, c, by simpa [zwA_1, e] using d⟩
        · by_cases e : r = p
          · subst e
            rw [hbn] at h3
            exact absurd h3 (by decide)
          · obtain ⟨a, b, c, d⟩ := c2 r (by omega) h2 h3
            exact ⟨a, b, c, by simpa [zwA_1, e] using d⟩
        · by_cases e : r = p
          · subst e
            simp [zwA_1]
          · have := c3 r (by omega) h2 h3
            simpa [zwA_1, e] using this
        · obtain ⟨a, b⟩ := c4 r (by omega) h2 h3
          exact ⟨by simpa [zwA_1, show r ≠ p by omega] using a, by simpa [zwA_1] using b⟩
        · have := c5 r (by omega) h2 h3
          simpa [zwA_1, show r ≠ p by omega] using this
        · simp [zwA_1]
      ·
        obtain ⟨m', d1, d2, d3⟩ := c1 (p + 1) (by omega) (by omega)
        obtain rfl := tmP_det g5 d1
        obtain ⟨q', f1, f2, f3⟩ := c1 m (by omega) g3
        refine z_iload_n hR dNF_connect_12 (n := 13) rfl rfl ?_
        refine z_if_ltN hR dNF_connect_13 (t := 166) (n := 16) rfl rfl (by omega) ?_
        refine z_aload_n hR dNF_connect_16 (n := 17) rfl rfl ?_
        refine z_getR hR dNF_connect_17 (n := 20) rfl zgNF_15 (by decide) rfl rfl ?_
        refine z_iload_n hR dNF_connect_20 (n := 21) rfl rfl ?_
        refine z_iconst hR dNF_connect_21 (v := (-1)) (n := 22) rfl rfl ?_
        refine z_iast hR (_) dNF_connect_22 (n := 23) rfl (by decide) rfl (by decide) rfl (by omega) ?_
        refine z_aload_n hR dNF_connect_23 (n := 24) rfl rfl ?_
        refine z_getR hR dNF_connect_24 (n := 27) rfl zgNF_25 (by decide) rfl rfl ?_
        refine z_iload_n hR dNF_connect_27 (n := 28) rfl rfl ?_
        refine z_iconst hR dNF_connect_28 (v := (-1)) (n := 29) rfl rfl ?_
        refine z_iast hR (_) dNF_connect_29 (n := 30) rfl (by decide) rfl (by decide) rfl (by omega) ?_
        refine z_aload_n hR dNF_connect_30 (n := 31) rfl rfl ?_
        refine z_getR hR dNF_connect_31 (n := 34) rfl zgNF_19 (by decide) rfl rfl ?_
        refine z_iload_n hR dNF_connect_34 (n := 35) rfl rfl ?_
        refine z_iload_n hR dNF_connect_35 (n := 36) rfl rfl ?_
        refine z_iconst hR dNF_connect_36 (v := nI 1) (n := 37) rfl rfl ?_
        refine z_iaddN hR dNF_connect_37 (n := 38) rfl ?_
        refine z_iast hR (_) dNF_connect_38 (n := 39) rfl (by decide) rfl (by decide) rfl (by omega) ?_
        refine z_aload_n hR dNF_connect_39 (n := 40) rfl rfl ?_
        refine z_getR hR dNF_connect_40 (n := 43) rfl zgNF_9 (by decide) rfl rfl ?_
        refine z_iload_n hR dNF_connect_43 (n := 44) rfl rfl ?_
        refine z_cald hR (_) dNF_connect_44 (n := 45) rfl (by decide) rfl (by decide) rfl (by omega) ?_
        rw [zwA_n _ _ _ _ (by decide), zwA_n _ _ _ _ (by decide), zwA_n _ _ _ _ (by decide), hF1]
        refine z_bipush hR dNF_connect_45 (v := 88) (n := 47) rfl rfl ?_
        refine z_icmp_ne hR dNF_connect_47 (t := 67) (n := 50) rfl rfl (fun _ => ?_) (fun h47 => absurd h47 (bn_88 g1).1)
        refine z_aload_n hR dNF_connect_67 (n := 68) rfl rfl ?_
        refine z_getR hR dNF_connect_68 (n := 71) rfl zgNF_9 (by decide) rfl rfl ?_
        refine z_iload_n hR dNF_connect_71 (n := 72) rfl rfl ?_
        refine z_cald hR (_) dNF_connect_72 (n := 73) rfl (by decide) rfl (by decide) rfl (by omega) ?_
        rw [zwA_n _ _ _ _ (by decide), zwA_n _ _ _ _ (by decide), zwA_n _ _ _ _ (by decide), hF1]
        refine z_callS1 hR dNF_connect_73 (n := 76) rfl zcNF_78 zkNF_isBinary (by decide) (Nat.le_of_ble_eq_true rfl) (Nat.zero_le _) (m_NF_isBinary (F p) _) (fun r73 s73 h73 => ?_)
        obtain ⟨rfl, e73⟩ := h73
        subst s73
        refine z_if_eqB hR dNF_connect_76 (t := 110) (n := 79) rfl rfl (fun h76 => absurd h76 (by rw [g1]; decide)) (fun h76 => ?_)
        refine z_aload_n hR dNF_connect_79 (n := 80) rfl rfl ?_
        refine z_getR hR dNF_connect_80 (n := 83) rfl zgNF_15 (by decide) rfl rfl ?_
        refine z_iload_n hR dNF_connect_83 (n := 84) rfl rfl ?_
        refine z_aload_n hR dNF_connect_84 (n := 85) rfl rfl ?_
        refine z_getR hR dNF_connect_85 (n := 88) rfl zgNF_19 (by decide) rfl rfl ?_
        refine z_iload_n hR dNF_connect_88 (n := 89) rfl rfl ?_
        refine z_iconst hR dNF_connect_89 (v := nI 1) (n := 90) rfl rfl ?_
        refine z_iaddN hR dNF_connect_90 (n := 91) rfl ?_
        refine z_iald hR (_) dNF_connect_91 (n := 92) rfl (by decide) rfl (by decide) rfl (by omega) ?_
        rw [zwA_sn _ _ _ _ (by omega), zwA_n _ _ _ _ (by decide), zwA_n _ _ _ _ (by decide), d3]
        refine z_iast hR (_) dNF_connect_92 (n := 93) rfl (by decide) rfl (by decide) rfl (by omega) ?_
        refine z_aload_n hR dNF_connect_93 (n := 94) rfl rfl ?_
        refine z_getR hR dNF_connect_94 (n := 97) rfl zgNF_19 (by decide) rfl rfl ?_
        refine z_iload_n hR dNF_connect_97 (n := 98) rfl rfl ?_
        refine z_aload_n hR dNF_connect_98 (n := 99) rfl rfl ?_
        refine z_getR hR dNF_connect_99 (n := 102) rfl zgNF_19 (by decide) rfl rfl ?_
        refine z_aload_n hR dNF_connect_102 (n := 103) rfl rfl ?_
        refine z_getR hR dNF_connect_103 (n := 106) rfl zgNF_15 (by decide) rfl rfl ?_
        refine z_iload_n hR dNF_connect_106 (n := 107) rfl rfl ?_
        refine z_iald hR (_) dNF_connect_107 (n := 108) rfl (by decide) rfl (by decide) rfl (by omega) ?_
        rw [zwA_ss]
        refine z_iald hR (_) dNF_connect_108 (n := 109) rfl (by decide) rfl (by decide) rfl (by omega) ?_
        rw [zwA_n _ _ _ _ (by decide), zwA_sn _ _ _ _ (by omega), zwA_n _ _ _ _ (by decide), zwA_n _ _ _ _ (by decide), f3]
        refine z_iast hR (_) dNF_connect_109 (n := 110) rfl (by decide) rfl (by decide) rfl (by omega) ?_
        refine fin _ (((((hf.wA _ (by decide)).wA _ (by decide)).wA _ (by decide)).wA _ (by decide)).wA _ (by decide)) (fun j hj => by simp [zwA_1]; exact hk j hj) (by simp [zwA_1]; exact ht) (fun r h1 h2 => ?_) (fun r h1 h2 h3 => ?_) (fun r h1 h2 h3 => ?_) (fun r h1 h2 h3 => ?_) (fun r h1 h2 h3 => ?_) ?_
        · by_cases e : r = p
          · subst e
            exact ⟨q', tmP_b g1 g5 f1, f2, by simp [zwA_1]⟩
          · obtain ⟨a, b, c, d⟩ := c1 r (by omega) h2
            exact ⟨a, b, c, by simpa [zwA_1, e] using d⟩
        · by_cases e : r = p
          · subst e
            exact ⟨m, g5, g3, by simp [zwA_1]⟩
          · obtain ⟨a, b, c, d⟩ := c2 r (by omega) h2 h3
            exact ⟨a, b, c, by simpa [zwA_1, e] using d⟩
        · by_cases e : r = p
          · subst e
            rw [g1] at h3
            exact absurd h3 (by decide)
          · have := c3 r (by omega) h2 h3
            simpa [zwA_1, e] using this
        · obtain ⟨a, b⟩ := c4 r (by omega) h2 h3
          exact ⟨by simpa [zwA_1, show r ≠ p by omega] using a, by simpa [zwA_1] using b⟩
        · have := c5 r (by omega) h2 h3
          simpa [zwA_1, show r ≠ p by omega] using this
        · simp [zwA_1]
      ·
        have hbn := (lf_88 g1).2
        refine z_iload_n hR dNF_connect_12 (n := 13) rfl rfl ?_
        refine z_if_ltN hR dNF_connect_13 (t := 166) (n := 16) rfl rfl (by omega) ?_
        refine z_aload_n hR dNF_connect_16 (n := 17) rfl rfl ?_
        refine z_getR hR dNF_connect_17 (n := 20) rfl zgNF_15 (by decide) rfl rfl ?_
        refine z_iload_n hR dNF_connect_20 (n := 21) rfl rfl ?_
        refine z_iconst hR dNF_connect_21 (v := (-1)) (n := 22) rfl rfl ?_
        refine z_iast hR (_) dNF_connect_22 (n := 23) rfl (by decide) rfl (by decide) rfl (by omega) ?_
        refine z_aload_n hR dNF_connect_23 (n := 24) rfl rfl ?_
        refine z_getR hR dNF_connect_24 (n := 27) rfl zgNF_25 (by decide) rfl rfl ?_
        refine z_iload_n hR dNF_connect_27 (n := 28) rfl rfl ?_
        refine z_iconst hR dNF_connect_28 (v := (-1)) (n := 29) rfl rfl ?_
        refine z_iast hR (_) dNF_connect_29 (n := 30) rfl (by decide) rfl (by decide) rfl (by omega) ?_
        refine z_aload_n hR dNF_connect_30 (n := 31) rfl rfl ?_
        refine z_getR hR dNF_connect_31 (n := 34) rfl zgNF_19 (by decide) rfl rfl ?_
        refine z_iload_n hR dNF_connect_34 (n := 35) rfl rfl ?_
        refine z_iload_n hR dNF_connect_35 (n := 36) rfl rfl ?_
        refine z_iconst hR dNF_connect_36 (v := nI 1) (n := 37) rfl rfl ?_
        refine z_iaddN hR dNF_connect_37 (n := 38) rfl ?_
        refine z_iast hR (_) dNF_connect_38 (n := 39) rfl (by decide) rfl (by decide) rfl (by omega) ?_
        refine z_aload_n hR dNF_connect_39 (n := 40) rfl rfl ?_
        refine z_getR hR dNF_connect_40 (n := 43) rfl zgNF_9 (by decide) rfl rfl ?_
        refine z_iload_n hR dNF_connect_43 (n := 44) rfl rfl ?_
        refine z_cald hR (_) dNF_connect_44 (n := 45) rfl (by decide) rfl (by decide) rfl (by omega) ?_
        rw [zwA_n _ _ _ _ (by decide), zwA_n _ _ _ _ (by decide), zwA_n _ _ _ _ (by decide), hF1]
        refine z_bipush hR dNF_connect_45 (v := 88) (n := 47) rfl rfl ?_
        refine z_icmp_ne hR dNF_connect_47 (t := 67) (n := 50) rfl rfl (fun _ => ?_) (fun h47 => absurd h47 (lf_88 g1).1)
        refine z_aload_n hR dNF_connect_67 (n := 68) rfl rfl ?_
        refine z_getR hR dNF_connect_68 (n := 71) rfl zgNF_9 (by decide) rfl rfl ?_
        refine z_iload_n hR dNF_connect_71 (n := 72) rfl rfl ?_
        refine z_cald hR (_) dNF_connect_72 (n := 73) rfl (by decide) rfl (by decide) rfl (by omega) ?_
        rw [zwA_n _ _ _ _ (by decide), zwA_n _ _ _ _ (by decide), zwA_n _ _ _ _ (by decide), hF1]
        refine z_callS1 hR dNF_connect_73 (n := 76) rfl zcNF_78 zkNF_isBinary (by decide) (Nat.le_of_ble_eq_true rfl) (Nat.zero_le _) (m_NF_isBinary (F p) _) (fun r73 s73 h73 => ?_)
        obtain ⟨rfl, e73⟩ := h73
        subst s73
        refine z_if_eqB hR dNF_connect_76 (t := 110) (n := 79) rfl rfl (fun h76 => ?_) (fun h76 => absurd h76 (by rw [hbn]; decide))
        refine fin _ (((hf.wA _ (by decide)).wA _ (by decide)).wA _ (by decide)) (fun j hj => by simp [zwA_1]; exact hk j hj) (by simp [zwA_1]; exact ht) (fun r h1 h2 => ?_) (fun r h1 h2 h3 => ?_) (fun r h1 h2 h3 => ?_) (fun r h1 h2 h3 => ?_) (fun r h1 h2 h3 => ?_) ?_
        · by_cases e : r = p
          · subst e
            exact ⟨r + 1, g2, by omega, by simp [zwA_1]⟩
          · obtain ⟨a, b, c, d⟩ := c1 r (by omega) h2
            exact ⟨a, b, c, by simpa [zwA_1, e] using d⟩
        · by_cases e : r = p
          · subst e
            rw [hbn] at h3
            exact absurd h3 (by decide)
          · obtain ⟨a, b, c, d⟩ := c2 r (by omega) h2 h3
            exact ⟨a, b, c, by simpa [zwA_1, e] using d⟩
        · by_cases e : r = p
          · subst e
            simp [zwA_1]
          · have := c3 r (by omega) h2 h3
            simpa [zwA_1, e] using this
        · obtain ⟨a, b⟩ := c4 r (by omega) h2 h3
          exact ⟨by simpa [zwA_1, show r ≠ p by omega] using a, by simpa [zwA_1] using b⟩
        · have := c5 r (by omega) h2 h3
          simpa [zwA_1, show r ≠ p by omega] using this
        · simp [zwA_1]
  refine z_aload_n hR dNF_connect_0 (n := 1) rfl rfl ?_
  refine z_iconst hR dNF_connect_1 (v := 0) (n := 2) rfl rfl ?_
  refine z_putI hR dNF_connect_2 (n := 5) rfl zpNF_75 (by decide) rfl rfl ?_
  refine z_aload_n hR dNF_connect_5 (n := 6) rfl rfl ?_
  refine z_getI hR dNF_connect_6 (n := 9) rfl zgNF_35 (by decide) rfl rfl ?_
  rw [zwA_sn _ _ _ _ (by decide), hs]
  refine z_iconst hR dNF_connect_9 (v := 1) (n := 10) rfl rfl ?_
  refine z_isub hR dNF_connect_10 (n := 11) rfl ?_
  refine z_istore_n hR dNF_connect_11 (n := 12) rfl (by decide) rfl ?_
  refine key z _ _ (Nat.le_refl _) (fun e => by subst e; decide) (fun p2 e => by subst e; exact nI_pred p2) (zfr.rf.wA _ (by decide)) (fun j hj => by rw [zwA_sn _ _ _ _ hj]) (by rw [zwA_ss, Nat.sub_self]; rfl) ⟨fun r h1 h2 => ?_, fun r h1 h2 => ?_, fun r h1 h2 => ?_, fun r h1 h2 => ?_, fun r h1 h2 => ?_⟩ <;> omega
