/-! The two trees: which node stands at which part, and what holds of both -/
/-- node y of the tree x (at part p, with this sign) stands at part r with sign m -/
def oc (g : Nat → Int32 × Int32 × Int32) : Nat → Nat → Nat → Bool → Nat → Nat → Bool → Prop
  | 0, _, _, _, _, _, _ => False
  | f + 1, x, p, neg, y, r, m => (y = x ∧ r = p ∧ m = neg) ∨ ((g x).2.1 ≠ -1 ∧ oc g f (g x).2.1.toNatClampNeg (p + (hs (g x).1 neg).length) (neg ^^ tur (g x).1) y r m) ∨ ((g x).2.2 ≠ -1 ∧ oc g f (g x).2.2.toNatClampNeg (p + (hs (g x).1 neg).length + (nfx g (g x).2.1.toNatClampNeg (neg ^^ tur (g x).1)).length) neg y r m)
/-- what a node at a part looks like -/
def ocA (F : Nat → Int32) (g : Nat → Int32 × Int32 × Int32) (O : Nat → Nat → Bool → Prop) (y r : Nat) (m : Bool) : Prop :=
  (atm (g y).1 = true ∧ hs (g y).1 m = [F r]) ∨
  ((g y).1 = 33 ∧ 0 < y ∧ (g y).2.1 = nI (y - 1) ∧ (g y).2.2 = -1 ∧ O (y - 1) r (!m)) ∨
  ((g y).1 = 88 ∧ 0 < y ∧ (g y).2.1 = nI (y - 1) ∧ (g y).2.2 = -1 ∧ F r = 88 ∧ O (y - 1) (r + 1) m) ∨
  (((g y).1 = 70 ∨ (g y).1 = 71) ∧ 0 < y ∧ (g y).2.1 = nI (y - 1) ∧ (g y).2.2 = -1 ∧ hs (g y).1 m = [F r, F (r + 1)] ∧ O (y - 1) (r + 2) m) ∨
  (1 ≤ rk (g y).1 ∧ rk (g y).1 ≤ 4 ∧ ∃ l q, l + 1 < y ∧ (g y).2.1 = nI l ∧ (g y).2.2 = nI (y - 1) ∧ hs (g y).1 m = [F r] ∧ tmP F (r + 1) q ∧ O l (r + 1) (m ^^ tur (g y).1) ∧ O (y - 1) q m)
theorem ocA_mo {F : Nat → Int32} {g : Nat → Int32 × Int32 × Int32} {O O2 : Nat → Nat → Bool → Prop} (h : ∀ y r m, O y r m → O2 y r m) {y r : Nat} {m : Bool} (ha : ocA F g O y r m) : ocA F g O2 y r m := by
  rcases ha with ha | ⟨a1, a2, a3, a4, a5⟩ | ⟨a1, a2, a3, a4, a5, a6⟩ | ⟨a1, a2, a3, a4, a5, a6⟩ | ⟨a1, a2, l, q, a3, a4, a5, a6, a7, a8, a9⟩
  · exact Or.inl ha
  · exact Or.inr (Or.inl ⟨a1, a2, a3, a4, h _ _ _ a5⟩)
  · exact Or.inr (Or.inr (Or.inl ⟨a1, a2, a3, a4, a5, h _ _ _ a6⟩))
  · exact Or.inr (Or.inr (Or.inr (Or.inl ⟨a1, a2, a3, a4, a5, h _ _ _ a6⟩)))
  · exact Or.inr (Or.inr (Or.inr (Or.inr ⟨a1, a2, l, q, a3, a4, a5, a6, a7, h _ _ _ a8, h _ _ _ a9⟩)))
/-- how a tree's nodes stand at parts -/
theorem oc_tree {F : Nat → Int32} {g : Nat → Int32 × Int32 × Int32} : ∀ (n x a p : Nat) (neg : Bool), x < n → tTT g a x → x < 2 ^ 31 → slc F p (nfx g x neg) →
    (∀ y r m, oc g n x p neg y r m → a ≤ y ∧ y ≤ x ∧ p ≤ r ∧ r < p + (nfx g x neg).length ∧ ocA F g (oc g n x p neg) y r m) ∧
    (∀ y, a ≤ y → y ≤ x → ∃ r m, oc g n x p neg y r m) ∧
    (∀ y r m r2 m2, oc g n x p neg y r m → oc g n x p neg y r2 m2 → r = r2 ∧ m = m2) ∧
    (∀ r, p ≤ r → r < p + (nfx g x neg).length → tmd (F r) = true → ∃ y m, tmd (g y).1 = true ∧ oc g n x p neg y r m) ∧
    (∀ y r m y2 m2, oc g n x p neg y r m → oc g n x p neg y2 r m2 → tmd (g y).1 = true → tmd (g y2).1 = true → y = y2)
  | 0, _, _, _, _, h, _, _, _ => absurd h (by omega)
  | n + 1, x, a, p, neg, hn, h, hx, hsl => by
    rcases nfx_tree h hx neg with ⟨h1, h2, e1, e2, e3⟩ | ⟨h1, l, e1, e2, t1, e3⟩ | ⟨h1, h2, m0, l1, l2, e1, e2, t1, t2, e3⟩
    · -- a leaf
      obtain ⟨s, q1, q2, q3⟩ := hs_leaf h1 neg
      rw [e3, q1] at hsl
      have hF := (slc_cons hsl).1
      have hO : ∀ y r m, oc g (n + 1) x p neg y r m ↔ (y = x ∧ r = p ∧ m = neg) := by
        intro y r m
        rw [oc, e1, e2]
        simp
      rw [e3, q1]
      subst h2
      refine ⟨fun y r m ho => ?_, fun y g1 g2 => ⟨p, neg, (hO _ _ _).mpr ⟨by omega, rfl, rfl⟩⟩, fun y r m r2 m2 o1 o2 => ?_, fun r g1 g2 g3 => ?_, fun y r m y2 m2 o1 o2 _ _ => ?_⟩
      · obtain ⟨rfl, rfl, rfl⟩ := (hO _ _ _).mp ho
        exact ⟨Nat.le_refl _, Nat.le_refl _, Nat.le_refl _, by simp, Or.inl ⟨h1, by rw [q1, hF]⟩⟩
      · obtain ⟨_, g1, g2⟩ := (hO _ _ _).mp o1
        obtain ⟨_, g3, g4⟩ := (hO _ _ _).mp o2
        exact ⟨g1.trans g3.symm, g2.trans g4.symm⟩
      · simp at g2
        obtain rfl : r = p := by omega
        rw [hF, q3] at g3
        exact absurd g3 (by decide)
      · exact ((hO _ _ _).mp o1).1.trans ((hO _ _ _).mp o2).1.symm
    · -- one below
      have hO : ∀ y r m, oc g (n + 1) x p neg y r m ↔ ((y = x ∧ r = p ∧ m = neg) ∨ oc g n (x - 1) (p + (hs (g x).1 neg).length) (neg ^^ tur (g x).1) y r m) := by
        intro y r m
        rw [oc, e1, e2, nI_clamp (by omega)]
        simp [nI_m1 (show x - 1 < 2 ^ 31 by omega)]
      rw [e3] at hsl
      obtain ⟨s1, s2⟩ := slc_app hsl
      obtain ⟨i1, i2, i3, i4, i5⟩ := oc_tree n (x - 1) a (p + (hs (g x).1 neg).length) (neg ^^ tur (g x).1) (by omega) t1 (by omega) s2
      obtain ⟨r1, m1, i6⟩ := i2 (x - 1) (by omega) (Nat.le_refl _)
      have top : oc g n (x - 1) (p + (hs (g x).1 neg).length) (neg ^^ tur (g x).1) (x - 1) (p + (hs (g x).1 neg).length) (neg ^^ tur (g x).1) := by
        cases n with
        | zero => omega
        | succ n => exact Or.inl ⟨rfl, rfl, rfl⟩
      have hlen : (nfx g x neg).length = (hs (g x).1 neg).length + (nfx g (x - 1) (neg ^^ tur (g x).1)).length := by rw [e3, List.length_append]
      have htm : tmd (g x).1 = true → tmd (F p) = true ∧ 0 < (hs (g x).1 neg).length := by
        intro ht
        rcases hs_un h1 neg with ⟨e, q⟩ | ⟨e, q⟩ | ⟨e, s, k, q, q1, q2, q3, q4⟩
        · rw [e] at ht
          exact absurd ht (by decide)
        · rw [q] at s1 ⊢
          rw [(slc_cons s1).1]
          exact ⟨by decide, by simp⟩
        · rw [q] at s1 ⊢
          rw [(slc_cons s1).1]
          exact ⟨q3, by simp⟩
      refine ⟨fun y r m ho => ?_, fun y g1 g2 => ?_, fun y r m r2 m2 o1 o2 => ?_, fun r g1 g2 g3 => ?_, fun y r m y2 m2 o1 o2 u1 u2 => ?_⟩
      · rcases (hO _ _ _).mp ho with ⟨rfl, rfl, rfl⟩ | ho
        · have hlt : 0 < (nfx g y m).length := by
            have := tm_nfx (F := F) (y + 1) y a r m (by omega) h hx (by rw [e3]; exact hsl)
            obtain ⟨k, this⟩ := this
            have := tmF_lt this
            omega
          refine ⟨by omega, Nat.le_refl _, Nat.le_refl _, by omega, ?_⟩
          rcases hs_un h1 m with ⟨e, q⟩ | ⟨e, q⟩ | ⟨e, s, k, q, q1, q2, q3, q4⟩
          · refine Or.inr (Or.inl ⟨e, by omega, e1, e2, (hO _ _ _).mpr (Or.inr ?_)⟩)
            rw [q, e] at top
            rw [q, e]
            simpa [tur] using top
          · refine Or.inr (Or.inr (Or.inl ⟨e, by omega, e1, e2, ?_, (hO _ _ _).mpr (Or.inr ?_)⟩))
            · rw [q] at s1
              exact (slc_cons s1).1
            · rw [q, e] at top
              rw [q, e]
              simpa [tur] using top
          · refine Or.inr (Or.inr (Or.inr (Or.inl ⟨e, by omega, e1, e2, ?_, (hO _ _ _).mpr (Or.inr ?_)⟩)))
            · rw [q] at s1 ⊢
              obtain ⟨z1, z2⟩ := slc_cons s1
              rw [z1, (slc_cons z2).1]
            · rw [q] at top ⊢
              have : tur (g y).1 = false := by
                rcases e with e | e <;> rw [e] <;> decide
              rw [this, Bool.xor_false] at top ⊢
              exact top
        · obtain ⟨b1, b2, b3, b4, b5⟩ := i1 _ _ _ ho
          exact ⟨b1, by omega, by omega, by omega, ocA_mo (fun _ _ _ q => (hO _ _ _).mpr (Or.inr q)) b5⟩
      · by_cases e : y = x
        · exact ⟨p, neg, (hO _ _ _).mpr (Or.inl ⟨e, rfl, rfl⟩)⟩
        · obtain ⟨r, m, q⟩ := i2 y g1 (by omega)
          exact ⟨r, m, (hO _ _ _).mpr (Or.inr q)⟩
      · rcases (hO _ _ _).mp o1 with ⟨z1, z2, z3⟩ | o1 <;> rcases (hO _ _ _).mp o2 with ⟨z4, z5, z6⟩ | o2
        · exact ⟨z2.trans z5.symm, z3.trans z6.symm⟩
        · have := (i1 _ _ _ o2).2.1
          omega
        · have := (i1 _ _ _ o1).2.1
          omega
        · exact i3 _ _ _ _ _ o1 o2
      · by_cases hr : p + (hs (g x).1 neg).length ≤ r
        · obtain ⟨y, m, q1, q2⟩ := i4 r hr (by omega) g3
          exact ⟨y, m, q1, (hO _ _ _).mpr (Or.inr q2)⟩
        · rcases hs_un h1 neg with ⟨e, q⟩ | ⟨e, q⟩ | ⟨e, s, k, q, q1, q2, q3, q4⟩
          · rw [q] at hr
            simp at hr
            omega
          · rw [q] at hr
            simp at hr
            exact ⟨x, neg, by rw [e]; decide, (hO _ _ _).mpr (Or.inl ⟨rfl, by omega, rfl⟩)⟩
          · rw [q] at hr s1
            simp at hr
            by_cases er : r = p
            · exact ⟨x, neg, by rcases e with e | e <;> rw [e] <;> decide, (hO _ _ _).mpr (Or.inl ⟨rfl, er, rfl⟩)⟩
            · obtain rfl : r = p + 1 := by omega
              rw [(slc_cons (slc_cons s1).2).1, q4] at g3
              exact absurd g3 (by decide)
      · rcases (hO _ _ _).mp o1 with ⟨z1, z2, z3⟩ | o1 <;> rcases (hO _ _ _).mp o2 with ⟨z4, z5, z6⟩ | o2
        · exact z1.trans z4.symm
        · have := (i1 _ _ _ o2).2.2.1
          have := (htm (by rw [← z1]; exact u1)).2
          omega
        · have := (i1 _ _ _ o1).2.2.1
          have := (htm (by rw [← z4]; exact u2)).2
          omega
        · exact i5 _ _ _ _ _ o1 o2 u1 u2
    · -- two below
      obtain ⟨s, q, q1, q2⟩ := hs_bin h1 h2 neg
      have hO : ∀ y r m, oc g (n + 1) x p neg y r m ↔ ((y = x ∧ r = p ∧ m = neg) ∨ oc g n m0 (p + 1) (neg ^^ tur (g x).1) y r m ∨ oc g n (x - 1) (p + 1 + (nfx g m0 (neg ^^ tur (g x).1)).length) neg y r m) := by
        intro y r m
        rw [oc, e1, e2, nI_clamp (by omega), nI_clamp (by omega), q]
        simp [nI_m1 (show x - 1 < 2 ^ 31 by omega), nI_m1 (show m0 < 2 ^ 31 by omega)]
      rw [e3, q] at hsl
      obtain ⟨s1, s2⟩ := slc_cons hsl
      obtain ⟨s3, s4⟩ := slc_app (a := nfx g m0 (neg ^^ tur (g x).1)) (b := nfx g (x - 1) neg) s2
      have hlen : (nfx g x neg).length = 1 + ((nfx g m0 (neg ^^ tur (g x).1)).length + (nfx g (x - 1) neg).length) := by
        rw [e3, q]
        simp
        omega
      obtain ⟨i1, i2, i3, i4, i5⟩ := oc_tree n m0 a (p + 1) (neg ^^ tur (g x).1) (by omega) t1 (by omega) s3
      obtain ⟨j1, j2, j3, j4, j5⟩ := oc_tree n (x - 1) (m0 + 1) (p + 1 + (nfx g m0 (neg ^^ tur (g x).1)).length) neg (by omega) t2 (by omega) s4
      have top : oc g n m0 (p + 1) (neg ^^ tur (g x).1) m0 (p + 1) (neg ^^ tur (g x).1) ∧ oc g n (x - 1) (p + 1 + (nfx g m0 (neg ^^ tur (g x).1)).length) neg (x - 1) (p + 1 + (nfx g m0 (neg ^^ tur (g x).1)).length) neg := by
        cases n with
        | zero => omega
        | succ n => exact ⟨Or.inl ⟨rfl, rfl, rfl⟩, Or.inl ⟨rfl, rfl, rfl⟩⟩
      have tm1 := tm_nfx (F := F) (m0 + 1) m0 a (p + 1) (neg ^^ tur (g x).1) (by omega) t1 (by omega) s3
      refine ⟨fun y r m ho => ?_, fun y g1 g2 => ?_, fun y r m r2 m2 o1 o2 => ?_, fun r g1 g2 g3 => ?_, fun y r m y2 m2 o1 o2 u1 u2 => ?_⟩
      · rcases (hO _ _ _).mp ho with ⟨rfl, rfl, rfl⟩ | ho | ho
        · refine ⟨by omega, Nat.le_refl _, Nat.le_refl _, by omega, ?_⟩
          exact Or.inr (Or.inr (Or.inr (Or.inr ⟨h1, h2, m0, _, l2, e1, e2, by rw [q, s1], tm1, (hO _ _ _).mpr (Or.inr (Or.inl top.1)), (hO _ _ _).mpr (Or.inr (Or.inr top.2))⟩)))
        · obtain ⟨b1, b2, b3, b4, b5⟩ := i1 _ _ _ ho
          exact ⟨b1, by omega, by omega, by omega, ocA_mo (fun _ _ _ q => (hO _ _ _).mpr (Or.inr (Or.inl q))) b5⟩
        · obtain ⟨b1, b2, b3, b4, b5⟩ := j1 _ _ _ ho
          exact ⟨by omega, by omega, by omega, by omega, ocA_mo (fun _ _ _ q => (hO _ _ _).mpr (Or.inr (Or.inr q))) b5⟩
      · by_cases e : y = x
        · exact ⟨p, neg, (hO _ _ _).mpr (Or.inl ⟨e, rfl, rfl⟩)⟩
        · by_cases e2 : y ≤ m0
          · obtain ⟨r, m, q⟩ := i2 y g1 e2
            exact ⟨r, m, (hO _ _ _).mpr (Or.inr (Or.inl q))⟩
          · obtain ⟨r, m, q⟩ := j2 y (by omega) (by omega)
            exact ⟨r, m, (hO _ _ _).mpr (Or.inr (Or.inr q))⟩
      · rcases (hO _ _ _).mp o1 with ⟨z1, z2, z3⟩ | o1 | o1 <;> rcases (hO _ _ _).mp o2 with ⟨z4, z5, z6⟩ | o2 | o2
        · exact ⟨z2.trans z5.symm, z3.trans z6.symm⟩
        · have := (i1 _ _ _ o2).2.1
          omega
        · have := (j1 _ _ _ o2).2.1
          omega
        · have := (i1 _ _ _ o1).2.1
          omega
        · exact i3 _ _ _ _ _ o1 o2
        · have := (i1 _ _ _ o1).2.1
          have := (j1 _ _ _ o2).1
          omega
        · have := (j1 _ _ _ o1).2.1
          omega
        · have := (j1 _ _ _ o1).1
          have := (i1 _ _ _ o2).2.1
          omega
        · exact j3 _ _ _ _ _ o1 o2
      · by_cases er : r = p
        · exact ⟨x, neg, by rw [← q2, ← s1, ← er]; exact g3, (hO _ _ _).mpr (Or.inl ⟨rfl, er, rfl⟩)⟩
        · by_cases hr : r < p + 1 + (nfx g m0 (neg ^^ tur (g x).1)).length
          · obtain ⟨y, m, z1, z2⟩ := i4 r (by omega) hr g3
            exact ⟨y, m, z1, (hO _ _ _).mpr (Or.inr (Or.inl z2))⟩
          · obtain ⟨y, m, z1, z2⟩ := j4 r (by omega) (by omega) g3
            exact ⟨y, m, z1, (hO _ _ _).mpr (Or.inr (Or.inr z2))⟩
      · rcases (hO _ _ _).mp o1 with ⟨z1, z2, z3⟩ | o1 | o1 <;> rcases (hO _ _ _).mp o2 with ⟨z4, z5, z6⟩ | o2 | o2
        · exact z1.trans z4.symm
        · have := (i1 _ _ _ o2).2.2.1
          omega
        · have := (j1 _ _ _ o2).2.2.1
          omega
        · have := (i1 _ _ _ o1).2.2.1
          omega
        · exact i5 _ _ _ _ _ o1 o2 u1 u2
        · have := (i1 _ _ _ o1).2.2.2.1
          have := (j1 _ _ _ o2).2.2.1
          omega
        · have := (j1 _ _ _ o1).2.2.1
          omega
        · have := (j1 _ _ _ o1).2.2.1
          have := (i1 _ _ _ o2).2.2.2.1
          omega
        · exact j5 _ _ _ _ _ o1 o2 u1 u2
/-- all that is known of the nodes at the parts -/
def oK (F : Nat → Int32) (g : Nat → Int32 × Int32 × Int32) (n z : Nat) (O : Nat → Nat → Bool → Prop) : Prop :=
  (∀ y r m, O y r m → y < n ∧ r < z ∧ ocA F g O y r m) ∧ (∀ y, y < n → ∃ r m, O y r m) ∧ (∀ y r m r2 m2, O y r m → O y r2 m2 → r = r2 ∧ m = m2) ∧ (∀ r, r < z → tmd (F r) = true → ∃ y m, tmd (g y).1 = true ∧ O y r m) ∧ (∀ y r m y2 m2, O y r m → O y2 r m2 → tmd (g y).1 = true → tmd (g y2).1 = true → y = y2)
theorem oK_of {F : Nat → Int32} {g : Nat → Int32 × Int32 × Int32} {n : Nat} (hn : n ≤ 32) (hn0 : 0 < n) (hg : tTT g 0 (n - 1)) (hl : slc F 0 (nfx g (n - 1) false)) : oK F g n (nfx g (n - 1) false).length (oc g n (n - 1) 0 false) ∧ oc g n (n - 1) 0 false (n - 1) 0 false := by
  obtain ⟨a1, a2, a3, a4, a5⟩ := oc_tree n (n - 1) 0 0 false (by omega) hg (by omega) hl
  refine ⟨⟨fun y r m h => ?_, fun y h => a2 y (Nat.zero_le _) (by omega), a3, fun r h1 h2 => a4 r (Nat.zero_le _) (by omega) h2, a5⟩, ?_⟩
  · obtain ⟨_, b1, _, b2, b3⟩ := a1 y r m h
    exact ⟨by omega, by omega, b3⟩
  · cases n with
    | zero => omega
    | succ n => exact Or.inl ⟨rfl, rfl, rfl⟩
theorem hs_opp {c : Int32} (h1 : 1 ≤ rk c) (h4 : rk c ≤ 4) (m : Bool) {s : Int32} (h : hs c m = [s]) : (c = 38 ∧ s = if m then 124 else 38) ∨ (c = 124 ∧ s = if m then 38 else 124) ∨ (c = 62 ∧ s = if m then 38 else 124) ∨ (c = 85 ∧ s = if m then 82 else 85) ∨ (c = 82 ∧ s = if m then 85 else 82) := by
  have q : ∀ c ∈ ([33, 70, 71, 88, 82, 85, 38, 124, 62] : List Int32), rk c ≤ 4 → ∀ m : Bool, (c = 38 ∧ (hs c m).headD 0 = if m then 124 else 38) ∨ (c = 124 ∧ (hs c m).headD 0 = if m then 38 else 124) ∨ (c = 62 ∧ (hs c m).headD 0 = if m then 38 else 124) ∨ (c = 85 ∧ (hs c m).headD 0 = if m then 82 else 85) ∨ (c = 82 ∧ (hs c m).headD 0 = if m then 85 else 82) := by decide
  have := q c (rk_in h1) h4 m
  rw [h] at this
  exact this
/-- a timed node at a part -/
theorem oc_tm {F : Nat → Int32} {g : Nat → Int32 × Int32 × Int32} {O : Nat → Nat → Bool → Prop} {y r : Nat} {m : Bool} (h : ocA F g O y r m) (ht : tmd (g y).1 = true) :
    ((g y).1 = 88 ∧ F r = 88 ∧ 0 < y ∧ (g y).2.1 = nI (y - 1) ∧ (g y).2.2 = -1 ∧ O (y - 1) (r + 1) m) ∨
    (((g y).1 = 70 ∨ (g y).1 = 71) ∧ (F r = if decide ((g y).1 = 70) = m then 82 else 85) ∧ (F (r + 1) = if decide ((g y).1 = 70) = m then 48 else 49) ∧ 0 < y ∧ (g y).2.1 = nI (y - 1) ∧ (g y).2.2 = -1 ∧ O (y - 1) (r + 2) m) ∨
    (((g y).1 = 85 ∨ (g y).1 = 82) ∧ (F r = if decide ((g y).1 = 85) = m then 82 else 85) ∧ ∃ l q, l + 1 < y ∧ (g y).2.1 = nI l ∧ (g y).2.2 = nI (y - 1) ∧ tmP F (r + 1) q ∧ O l (r + 1) m ∧ O (y - 1) q m) := by
  rcases h with ⟨a1, _⟩ | ⟨a1, _⟩ | ⟨a1, a2, a3, a4, a5, a6⟩ | ⟨a1, a2, a3, a4, a5, a6⟩ | ⟨a1, a2, l, q, a3, a4, a5, a6, a7, a8, a9⟩
  · rw [tmd_atm a1] at ht
    exact absurd ht (by decide)
  · rw [a1] at ht
    exact absurd ht (by decide)
  · exact Or.inl ⟨a1, a5, a2, a3, a4, a6⟩
  · refine Or.inr (Or.inl ⟨a1, ?_, ?_, a2, a3, a4, a6⟩)
    · rcases a1 with e | e <;> rw [e] at a5 ⊢ <;> cases m <;> simp [hs] at a5 <;> simp [← a5.1]
    · rcases a1 with e | e <;> rw [e] at a5 ⊢ <;> cases m <;> simp [hs] at a5 <;> simp [← a5.2]
  · refine Or.inr (Or.inr ?_)
    rcases hs_opp a1 a2 m a6 with ⟨e, _⟩ | ⟨e, _⟩ | ⟨e, _⟩ | ⟨e, e2⟩ | ⟨e, e2⟩
    · rw [e] at ht
      exact absurd ht (by decide)
    · rw [e] at ht
      exact absurd ht (by decide)
    · rw [e] at ht
      exact absurd ht (by decide)
    · refine ⟨Or.inl e, by rw [e2, e]; cases m <;> rfl, l, q, a3, a4, a5, a7, ?_, a9⟩
      rw [e, show tur 85 = false from by decide, Bool.xor_false] at a8
      exact a8
    · refine ⟨Or.inr e, by rw [e2, e]; cases m <;> rfl, l, q, a3, a4, a5, a7, ?_, a9⟩
      rw [e, show tur 82 = false from by decide, Bool.xor_false] at a8
      exact a8
theorem oc_tmF {F : Nat → Int32} {g : Nat → Int32 × Int32 × Int32} {O : Nat → Nat → Bool → Prop} {y r : Nat} {m : Bool} (h : ocA F g O y r m) (ht : tmd (g y).1 = true) : tmd (F r) = true := by
  rcases oc_tm h ht with ⟨_, e, _⟩ | ⟨_, e, _⟩ | ⟨_, e, _⟩
  · rw [e]
    decide
  · rw [e]
    split <;> decide
  · rw [e]
    split <;> decide
/-- what an untimed part is -/
def uP (F : Nat → Int32) (S : Nat → Nat) (mk : Int32) (H : Nat → Bool) (r : Nat) : Bool := if F r = 38 then H (r + 1) && H (S r) else if F r = 124 then H (r + 1) || H (S r) else lh (F r) mk
/-- what an untimed node is -/
def uN (g : Nat → Int32 × Int32 × Int32) (mk : Int32) (V : Nat → Bool) (y : Nat) : Bool := if atm (g y).1 = true then la (g y).1 mk else if (g y).1 = 33 then !V (g y).2.1.toNatClampNeg else if (g y).1 = 38 then V (g y).2.1.toNatClampNeg && V (g y).2.2.toNatClampNeg else if (g y).1 = 124 then V (g y).2.1.toNatClampNeg || V (g y).2.2.toNatClampNeg else !V (g y).2.1.toNatClampNeg || V (g y).2.2.toNatClampNeg
theorem ev_un {F : Nat → Int32} {S : Nat → Nat} {mk : Int32} {g : Nat → Int32 × Int32 × Int32} {O : Nat → Nat → Bool → Prop} {H V : Nat → Bool} {y r : Nat} {m : Bool} (hy : y < 2 ^ 31) (h : ocA F g O y r m) (ht : tmd (g y).1 = false) (hS : bn (F r) = true → tmP F (r + 1) (S r)) (hH : tmd (F r) = false → H r = uP F S mk H r) (hV : V y = uN g mk V y) (hc : ∀ y2 r2 m2, y2 < y → O y2 r2 m2 → H r2 = (V y2 ^^ m2)) : H r = (V y ^^ m) := by
  rcases h with ⟨a1, a2⟩ | ⟨a1, a2, a3, a4, a5⟩ | ⟨a1, _⟩ | ⟨a1, _⟩ | ⟨a1, a2, l, q, a3, a4, a5, a6, a7, a8, a9⟩
  · obtain ⟨s, q1, q2, q3⟩ := hs_leaf a1 m
    rw [a2] at q1
    injection q1 with q1 _
    rw [← q1] at q2 q3
    rw [hH q3, hV, uP, uN, if_pos a1, if_neg, if_neg, lh_la a1 a2]
    · exact fun e => by rw [e] at q2; exact absurd q2 (by decide)
    · exact fun e => by rw [e] at q2; exact absurd q2 (by decide)
  · have e0 : atm (g y).1 = false := by rw [a1]; decide
    rw [hV, uN, if_neg (by rw [e0]; decide), if_pos a1, a3, nI_clamp (by omega), hc _ _ _ (by omega) a5]
    cases V (y - 1) <;> cases m <;> rfl
  · rw [a1] at ht
    exact absurd ht (by decide)
  · rcases a1 with e | e <;> rw [e] at ht <;> exact absurd ht (by decide)
  · obtain ⟨s, q1, q2, q3⟩ := hs_bin a1 a2 m
    rw [a6] at q1
    injection q1 with q1 _
    rw [← q1] at q2 q3
    have e0 : atm (g y).1 = false := (ini_rk a1).2.2
    have e1 := tmP_det a7 (hS q2)
    subst e1
    have e2 := hc _ _ _ (by omega) a8
    have e3 := hc _ _ _ (by omega) a9
    have hv : V y = if (g y).1 = 33 then !V l else if (g y).1 = 38 then V l && V (y - 1) else if (g y).1 = 124 then V l || V (y - 1) else !V l || V (y - 1) := by
      rw [hV, uN, if_neg (by rw [e0]; decide), a4, a5, nI_clamp (by omega), nI_clamp (by omega)]
    rw [hH (by rw [q3]; exact ht), hv, uP, e2, e3]
    rcases hs_opp a1 a2 m a6 with ⟨e, w⟩ | ⟨e, w⟩ | ⟨e, w⟩ | ⟨e, w⟩ | ⟨e, w⟩
    · rw [w, e]
      cases m <;> cases V l <;> cases V (y - 1) <;> rfl
    · rw [w, e]
      cases m <;> cases V l <;> cases V (y - 1) <;> rfl
    · rw [w, e]
      cases m <;> cases V l <;> cases V (y - 1) <;> rfl
    · rw [e] at ht
      exact absurd ht (by decide)
    · rw [e] at ht
      exact absurd ht (by decide)
/-- what holds of a node holds of its part -/
theorem ev_all {F : Nat → Int32} {S : Nat → Nat} {mk : Nat → Int32} {g : Nat → Int32 × Int32 × Int32} {n z : Nat} (hn : n ≤ 32) {O : Nat → Nat → Bool → Prop} (hO : oK F g n z O) {D : Nat → Prop} {H V : Nat → Nat → Bool} (hS : ∀ r, r < z → bn (F r) = true → tmP F (r + 1) (S r)) (hH : ∀ i, D i → ∀ r, r < z → tmd (F r) = false → H r i = uP F S (mk i) (fun r => H r i) r) (hV : ∀ i, D i → ∀ y, y < n → tmd (g y).1 = false → V y i = uN g (mk i) (fun y => V y i) y) (hT : ∀ y r m, O y r m → tmd (g y).1 = true → (∀ y2 r2 m2, y2 < y → O y2 r2 m2 → ∀ i, D i → H r2 i = (V y2 i ^^ m2)) → ∀ i, D i → H r i = (V y i ^^ m)) : ∀ y r m, O y r m → ∀ i, D i → H r i = (V y i ^^ m) := by
  have key : ∀ k y r m, y < k → O y r m → ∀ i, D i → H r i = (V y i ^^ m) := by
    intro k
    induction k with
    | zero => exact fun y r m h => absurd h (by omega)
    | succ k ih =>
      intro y r m hk ho
      obtain ⟨b1, b2, b3⟩ := hO.1 y r m ho
      by_cases ht : tmd (g y).1 = true
      · exact hT y r m ho ht (fun y2 r2 m2 h h2 => ih y2 r2 m2 (by omega) h2)
      · have ht' : tmd (g y).1 = false := by simpa using ht
        intro i hi
        exact ev_un (S := S) (mk := mk i) (H := fun r => H r i) (V := fun y => V y i) (by omega) b3 ht' (hS r b2) (hH i hi r b2) (hV i hi y b1 ht') (fun y2 r2 m2 h h2 => ih y2 r2 m2 (by omega) h2 i hi)
  exact fun y r m ho => key (y + 1) y r m (by omega) ho
/-- the timed sign at a part, one step on: what holds there by what holds of its parts, by what held of it later (L), and of what is next -/
def tP (F : Nat → Int32) (S : Nat → Nat) (B : Nat → Bool) (X : Nat → Bool) (L : Bool) (r : Nat) : Bool := if F r = 85 then B (S r) || (B (r + 1) && L) else if F r = 82 then B (S r) && (B (r + 1) || L) else X (r + 1)
def tA (g : Nat → Int32 × Int32 × Int32) (W : Nat → Bool) (y : Nat) : Bool := if (g y).2.2 = -1 then decide ((g y).1 = 70) else W (g y).2.1.toNatClampNeg
def tD (g : Nat → Int32 × Int32 × Int32) (W : Nat → Bool) (y : Nat) : Bool := if (g y).2.2 = -1 then W (g y).2.1.toNatClampNeg else W (g y).2.2.toNatClampNeg
def tN (g : Nat → Int32 × Int32 × Int32) (W : Nat → Bool) (X : Nat → Bool) (L : Bool) (y : Nat) : Bool := upv (g y).1 (tA g W y) (tD g W y) L (X (g y).2.1.toNatClampNeg)
theorem ev_tm {F : Nat → Int32} {S : Nat → Nat} {g : Nat → Int32 × Int32 × Int32} {O : Nat → Nat → Bool → Prop} {B W X Y : Nat → Bool} {L M : Bool} {y r z : Nat} {m : Bool} (hy : y < 2 ^ 31) (h : ocA F g O y r m) (ht : tmd (g y).1 = true) (hr : r < z) (hS : bn (F r) = true → tmP F (r + 1) (S r)) (h1 : F (r + 1) = 49 → B (r + 1) = true) (h0 : F (r + 1) = 48 → B (r + 1) = false) (hL : L = (M ^^ m)) (hX : O (y - 1) (r + 1) m → X (r + 1) = (Y (y - 1) ^^ m)) (hc : ∀ y2 r2 m2, y2 < y → O y2 r2 m2 → B r2 = (W y2 ^^ m2)) : tP F S B X L r = (tN g W Y M y ^^ m) := by
  rcases oc_tm h ht with ⟨e, f, a1, a2, a3, a4⟩ | ⟨e, f, f2, a1, a2, a3, a4⟩ | ⟨e, f, l, q, a1, a2, a3, a4, a5, a6⟩
  · rw [tP, tN, f, e, a2, nI_clamp (by omega), hX a4]
    rfl
  · have e1 : S r = r + 2 := by
      have b : bn (F r) = true := by
        rw [f]
        split <;> decide
      have b2 : lf (F (r + 1)) = true := by
        rw [f2]
        split <;> decide
      exact tmP_det (hS b) (tmP_l b2)
    have e2 := hc _ _ _ (by omega) a4
    rw [tP, tN, tA, tD, if_pos a3, if_pos a3, a2, nI_clamp (by omega), e1, e2, hL, f]
    rcases e with e | e
    · rw [e] at f2 ⊢
      cases m
      · rw [h1 (by rw [f2]; rfl)]
        cases W (y - 1) <;> cases M <;> rfl
      · rw [h0 (by rw [f2]; rfl)]
        cases W (y - 1) <;> cases M <;> rfl
    · rw [e] at f2 ⊢
      cases m
      · rw [h0 (by rw [f2]; rfl)]
        cases W (y - 1) <;> cases M <;> rfl
      · rw [h1 (by rw [f2]; rfl)]
        cases W (y - 1) <;> cases M <;> rfl
  · have e1 : S r = q := by
      have b : bn (F r) = true := by
        rw [f]
        split <;> decide
      exact tmP_det (hS b) a4
    have e2 := hc _ _ _ (by omega) a5
    have e3 := hc _ _ _ (by omega) a6
    have hn : (g y).2.2 ≠ -1 := by
      rw [a3]
      exact nI_m1 (by omega)
    rw [tN, tA, tD, if_neg hn, if_neg hn, a2, a3, nI_clamp (by omega), nI_clamp (by omega), tP, e1, e2, e3, hL, f]
    rcases e with e | e <;> rw [e] <;> cases m <;> cases W (y - 1) <;> cases M <;> cases W l <;> rfl
/-- what a timed sign asks so as to put nothing off -/
def pP (F : Nat → Int32) (S : Nat → Nat) (H : Nat → Bool) (G : Bool) (r : Nat) : Bool := if F r = 82 then G || !H (S r) else if F r = 85 then !G || H (S r) else true
def pN (g : Nat → Int32 × Int32 × Int32) (V : Nat → Bool) (y : Nat) : Bool := if (g y).1 = 88 then true else if (g y).1 = 85 ∨ (g y).1 = 70 then tD g V y || !V y else !tD g V y || V y
theorem ev_pr {F : Nat → Int32} {S : Nat → Nat} {g : Nat → Int32 × Int32 × Int32} {O : Nat → Nat → Bool → Prop} {H V : Nat → Bool} {G : Bool} {y r : Nat} {m : Bool} (hy : y < 2 ^ 31) (h : ocA F g O y r m) (ht : tmd (g y).1 = true) (hS : bn (F r) = true → tmP F (r + 1) (S r)) (hG : G = (V y ^^ m)) (hc : ∀ y2 r2 m2, y2 < y → O y2 r2 m2 → H r2 = (V y2 ^^ m2)) : pP F S H G r = pN g V y := by
  rcases oc_tm h ht with ⟨e, f, a1, a2, a3, a4⟩ | ⟨e, f, f2, a1, a2, a3, a4⟩ | ⟨e, f, l, q, a1, a2, a3, a4, a5, a6⟩
  · rw [pP, pN, f, e]
    rfl
  · have e1 : S r = r + 2 := by
      have b : bn (F r) = true := by
        rw [f]
        split <;> decide
      have b2 : lf (F (r + 1)) = true := by
        rw [f2]
        split <;> decide
      exact tmP_det (hS b) (tmP_l b2)
    have e2 := hc _ _ _ (by omega) a4
    rw [pP, pN, tD, if_pos a3, a2, nI_clamp (by omega), e1, e2, hG, f]
    rcases e with e | e <;> rw [e] <;> cases m <;> cases V (y - 1) <;> cases V y <;> rfl
  · have e1 : S r = q := by
      have b : bn (F r) = true := by
        rw [f]
        split <;> decide
      exact tmP_det (hS b) a4
    have e3 := hc _ _ _ (by omega) a6
    have hn : (g y).2.2 ≠ -1 := by
      rw [a3]
      exact nI_m1 (by omega)
    rw [pN, tD, if_neg hn, a3, nI_clamp (by omega), pP, e1, e3, hG, f]
    rcases e with e | e <;> rw [e] <;> cases m <;> cases V (y - 1) <;> cases V y <;> rfl
theorem cf_ln {A B : Nat → Bool} {f : Nat → Bool → Bool} (h : ∀ q y, f q y = (B q || (A q && y))) (c : Bool) : ∀ d q, cf f c d q = ln A B c d q
  | 0, _ => rfl
  | d + 1, q => by rw [cf, ln, h, cf_ln h c d]
theorem cf_ln2 {A B : Nat → Bool} {f : Nat → Bool → Bool} (h : ∀ q y, f q y = (B q && (A q || y))) (c : Bool) : ∀ d q, cf f c d q = !ln (fun q => !A q) (fun q => !B q) (!c) d q
  | 0, _ => by simp [cf, ln]
  | d + 1, q => by
    rw [cf, ln, h, cf_ln2 h c d]
    cases A q <;> cases B q <;> simp
theorem cf_top {f : Nat → Bool → Bool} (c : Bool) {k p : Nat} (hp : p < k) : ∃ y, cf f c (k - p) p = f p y := by
  rw [show k - p = (k - p - 1) + 1 by omega]
  exact ⟨_, rfl⟩
/-- what the reference finds of a timed node -/
theorem hvl_u {g : Nat → Int32 × Int32 × Int32} {k j : Nat} (hj : j < k) {mk : Nat → Int32} {V : Nat → Nat → Bool} {x p : Nat} (hp : p < k) (hc : (g x).1 = 85 ∨ (g x).1 = 70) : hvl g k j mk V x p = ui k j (nA g V x) (nB g V x) k p := by
  have e : ∀ q y, nfn g k j V x q y = (nB g V x q || (nA g V x q && y)) := by
    intro q y
    rw [nfn, upv]
    rcases hc with h | h <;> rw [h] <;> rfl
  have e1 : rel (g x).1 = false := by rcases hc with h | h <;> rw [h] <;> decide
  rw [hvl, if_neg (by rcases hc with h | h <;> rw [h] <;> decide), cf_ln e, cf_ln e, e1, ln_ui hj hp]
theorem hvl_r {g : Nat → Int32 × Int32 × Int32} {k j : Nat} (hj : j < k) {mk : Nat → Int32} {V : Nat → Nat → Bool} {x p : Nat} (hp : p < k) (hc : (g x).1 = 82 ∨ (g x).1 = 71) : hvl g k j mk V x p = ri k j (nA g V x) (nB g V x) k p := by
  have e : ∀ q y, nfn g k j V x q y = (nB g V x q && (nA g V x q || y)) := by
    intro q y
    rw [nfn, upv]
    rcases hc with h | h <;> rw [h] <;> rfl
  have e1 : rel (g x).1 = true := by rcases hc with h | h <;> rw [h] <;> decide
  rw [hvl, if_neg (by rcases hc with h | h <;> rw [h] <;> decide), cf_ln2 e, cf_ln2 e, e1, ri_ui, Bool.not_not, show (!true) = false from rfl, ln_ui hj hp]
theorem hvl_x {g : Nat → Int32 × Int32 × Int32} {k j : Nat} {mk : Nat → Int32} {V : Nat → Nat → Bool} {x p : Nat} (hp : p < k) (hc : (g x).1 = 88) : hvl g k j mk V x p = V (g x).2.1.toNatClampNeg (nx k j p) := by
  rw [hvl, if_neg (by rw [hc]; decide)]
  obtain ⟨y, e⟩ := cf_top (f := nfn g k j V x) (cf (nfn g k j V x) (rel (g x).1) (k - j) j) hp
  rw [e, nfn, upv, hc]
  rfl
theorem hvl_n {g : Nat → Int32 × Int32 × Int32} {k j : Nat} {mk : Nat → Int32} {V : Nat → Nat → Bool} {x p : Nat} (hp : p < k) (hs : shp g x) (hx : x < 2 ^ 31) (ht : tmd (g x).1 = false) : hvl g k j mk V x p = uN g (mk p) (fun y => V y p) x := by
  rw [hvl, uN]
  by_cases ha : atm (g x).1 = true
  · rw [if_pos ha, if_pos ha]
  · rw [if_neg ha, if_neg ha]
    obtain ⟨y, e⟩ := cf_top (f := nfn g k j V x) (cf (nfn g k j V x) (rel (g x).1) (k - j) j) hp
    rw [e, nfn, upv, ht]
    rcases hs with ⟨q1, _⟩ | ⟨q0, q1, q2, q3⟩ | ⟨q0, q4, m, q1, q2, q3⟩
    · exact absurd q1 ha
    · have e33 : (g x).1 = 33 := by
        rcases (rk5_iff _).mp q0 with e | e | e | e
        · exact e
        · rw [e] at ht
          exact absurd ht (by decide)
        · rw [e] at ht
          exact absurd ht (by decide)
        · rw [e] at ht
          exact absurd ht (by decide)
      rw [nB, if_pos q3, e33, if_neg (by decide : ¬ (false = true)), if_pos rfl, if_pos rfl]
    · have hm : (g x).2.2 ≠ -1 := by
        rw [q3]
        exact nI_m1 (by omega)
      have n33 : (g x).1 ≠ 33 := fun e => by
        rw [e] at q4
        exact absurd q4 (by decide)
      rw [nA, nB, if_neg hm, if_neg hm, if_neg (by decide : ¬ (false = true)), if_neg n33, if_neg n33]
/-- on a lasso both find the same -/
theorem ev_lasso {F : Nat → Int32} {S : Nat → Nat} {mk : Nat → Int32} {g : Nat → Int32 × Int32 × Int32} {n z k j : Nat} (hn : n ≤ 32) {O : Nat → Nat → Bool → Prop} (hO : oK F g n z O) {H V : Nat → Nat → Bool} (hS : ∀ r, r < z → bn (F r) = true → tmP F (r + 1) (S r)) (hz : ∀ r, r < z → tmd (F r) = true → r + 1 < z) (hj : j < k) (hsh : ∀ x, x < n → shp g x) (hH : ∀ r, r < z → ∀ i, i < k → H r i = ev (F r) (H (r + 1)) (H (S r)) k j (fun s p => lh s (mk p)) i) (hV : ∀ x, x < n → ∀ p, p < k → V x p = hvl g k j mk V x p) : ∀ y r m, O y r m → ∀ i, i < k → H r i = (V y i ^^ m) := by
  have hHu : ∀ i, i < k → ∀ r, r < z → tmd (F r) = false → H r i = uP F S (mk i) (fun r => H r i) r := by
    intro i hi r hr ht
    have n1 : F r ≠ 82 := fun e => by rw [e] at ht; exact absurd ht (by decide)
    have n2 : F r ≠ 85 := fun e => by rw [e] at ht; exact absurd ht (by decide)
    have n3 : F r ≠ 88 := fun e => by rw [e] at ht; exact absurd ht (by decide)
    rw [hH r hr i hi, ev, uP, if_neg n1, if_neg n2, if_neg n3]
  refine ev_all (D := fun i => i < k) hn hO hS hHu (fun i hi y hy ht => ?_) (fun y r m ho ht hc i hi => ?_)
  · rw [hV y hy i hi, hvl_n hi (hsh y hy) (by omega) ht]
  obtain ⟨b1, b2, b3⟩ := hO.1 y r m ho
  have hz1 := hz r b2 (oc_tmF b3 ht)
  -- the two parts below, and the operator
  have fin : ∀ (u : Bool), ((g y).1 = 85 ∨ (g y).1 = 70 ∨ (g y).1 = 82 ∨ (g y).1 = 71) → (u = decide ((g y).1 = 85 ∨ (g y).1 = 70)) → (F r = if u = m then 82 else 85) → (∀ i, i < k → H (r + 1) i = (nA g V y i ^^ m)) → (∀ i, i < k → H (S r) i = (nB g V y i ^^ m)) → H r i = (V y i ^^ m) := by
    intro u hcc hu hF hA hB
    rw [hH r b2 i hi, hV y b1 i hi]
    have hcs : (u = true ∧ ((g y).1 = 85 ∨ (g y).1 = 70)) ∨ (u = false ∧ ((g y).1 = 82 ∨ (g y).1 = 71)) := by
      by_cases q : (g y).1 = 85 ∨ (g y).1 = 70
      · exact Or.inl ⟨by rw [hu, decide_eq_true q], q⟩
      · refine Or.inr ⟨by rw [hu, decide_eq_false q], ?_⟩
        rcases hcc with h | h | h | h
        · exact absurd (Or.inl h) q
        · exact absurd (Or.inr h) q
        · exact Or.inl h
        · exact Or.inr h
    rcases hcs with ⟨h, q⟩ | ⟨h, q⟩
    · rw [h] at hF
      rw [hvl_u hj hi q]
      cases m
      · rw [hF]
        show ui k j (H (r + 1)) (H (S r)) k i = _
        rw [Bool.xor_false]
        exact ui_same hj (fun p hp => by rw [hA p hp, Bool.xor_false]) (fun p hp => by rw [hB p hp, Bool.xor_false]) k i hi
      · rw [hF]
        show ri k j (H (r + 1)) (H (S r)) k i = _
        rw [Bool.xor_true, ri_ui]
        congr 1
        exact ui_same hj (fun p hp => by rw [hA p hp]; simp) (fun p hp => by rw [hB p hp]; simp) k i hi
    · rw [h] at hF
      rw [hvl_r hj hi q, ri_ui]
      cases m
      · rw [hF]
        show ri k j (H (r + 1)) (H (S r)) k i = _
        rw [Bool.xor_false, ri_ui]
        congr 1
        exact ui_same hj (fun p hp => by rw [hA p hp]; simp) (fun p hp => by rw [hB p hp]; simp) k i hi
      · rw [hF]
        show ui k j (H (r + 1)) (H (S r)) k i = _
        rw [Bool.xor_true, Bool.not_not]
        exact ui_same hj (fun p hp => by rw [hA p hp]; simp) (fun p hp => by rw [hB p hp]; simp) k i hi
  rcases oc_tm b3 ht with ⟨e, f, a1, a2, a3, a4⟩ | ⟨e, f, f2, a1, a2, a3, a4⟩ | ⟨e, f, l, q, a1, a2, a3, a4, a5, a6⟩
  · rw [hH r b2 i hi, hV y b1 i hi, hvl_x hi e, f, a2, nI_clamp (by omega)]
    exact hc _ _ _ (by omega) a4 _ (nx_lt hj)
  · have e1 : S r = r + 2 := by
      have b : bn (F r) = true := by
        rw [f]
        split <;> decide
      have b2 : lf (F (r + 1)) = true := by
        rw [f2]
        split <;> decide
      exact tmP_det (hS r ‹_› b) (tmP_l b2)
    refine fin (decide ((g y).1 = 70)) (by rcases e with e | e <;> simp [e]) (by rcases e with e | e <;> rw [e] <;> rfl) f (fun i hi => ?_) (fun i hi => ?_)
    · rw [nA, if_pos a3, hHu i hi (r + 1) hz1 (by rw [f2]; split <;> decide), uP, f2]
      rcases e with e | e <;> rw [e] <;> cases m <;> rfl
    · rw [nB, if_pos a3, e1, a2, nI_clamp (by omega)]
      exact hc _ _ _ (by omega) a4 i hi
  · have e1 : S r = q := by
      have b : bn (F r) = true := by
        rw [f]
        split <;> decide
      exact tmP_det (hS r b2 b) a4
    have hm : (g y).2.2 ≠ -1 := by
      rw [a3]
      exact nI_m1 (by omega)
    refine fin (decide ((g y).1 = 85)) (by rcases e with e | e <;> simp [e]) (by rcases e with e | e <;> rw [e] <;> rfl) f (fun i hi => ?_) (fun i hi => ?_)
    · rw [nA, if_neg hm, a2, nI_clamp (by omega)]
      exact hc _ _ _ (by omega) a5 i hi
    · rw [nB, if_neg hm, e1, a3, nI_clamp (by omega)]
      exact hc _ _ _ (by omega) a6 i hi
/-- a number by its bits -/
def bN (f : Nat → Bool) : Nat → Nat
  | 0 => 0
  | k + 1 => if f k = true then 2 ^ k + bN f k else bN f k
theorem bN_lt (f : Nat → Bool) : ∀ k, bN f k < 2 ^ k
  | 0 => by simp [bN]
  | k + 1 => by
    have := bN_lt f k
    rw [bN, Nat.pow_succ]
    split <;> omega
theorem bN_bit (f : Nat → Bool) : ∀ {k i : Nat}, i < k → (bN f k).testBit i = f i
  | 0, _, h => absurd h (by omega)
  | k + 1, i, h => by
    rw [bN]
    by_cases e : i = k
    · subst e
      have h2 : (bN f i).testBit i = false := Nat.testBit_lt_two_pow (bN_lt f i)
      split
      · rename_i h3
        rw [Nat.testBit_two_pow_add_eq, h2, h3]
        rfl
      · rename_i h3
        rw [h2]
        exact (Bool.eq_false_iff.mpr h3).symm
    · split
      · rw [Nat.testBit_two_pow_add_gt (by omega), bN_bit f (by omega)]
      · exact bN_bit f (by omega)
theorem bN_ext {T a b : Nat} (ha : a < 2 ^ T) (hb : b < 2 ^ T) (h : ∀ k, k < T → a.testBit k = b.testBit k) : a = b := by
  refine Nat.eq_of_testBit_eq (fun i => ?_)
  by_cases hi : i < T
  · exact h i hi
  · have : 2 ^ T ≤ 2 ^ i := Nat.pow_le_pow_right (by omega) (by omega)
    rw [Nat.testBit_lt_two_pow (by omega), Nat.testBit_lt_two_pow (by omega)]
/-- numbers of timed parts and nodes -/
theorem nuF_lt {F : Nat → Int32} {z r : Nat} (h : r < z) (ht : tmd (F r) = true) : nuF F z r < ddF F z 0 := by
  have h1 := ddF_s (F := F) h
  have h2 := ddF_mono (F := F) (z := z) (d := r) (r := 0) (by omega)
  rw [Nat.zero_add, Nat.sub_zero] at h2
  rw [ht] at h1
  simp at h1
  omega
theorem nuF_anti {F : Nat → Int32} {z r r2 : Nat} (h : r < r2) (h2 : r2 < z) (ht : tmd (F r2) = true) : nuF F z r2 < nuF F z r := by
  have h1 := ddF_s (F := F) h2
  have h3 := ddF_mono (F := F) (z := z) (d := r2 - (r + 1)) (r := r + 1) (by omega)
  rw [show r + 1 + (r2 - (r + 1)) = r2 by omega] at h3
  rw [ht] at h1
  simp at h1
  rw [nuF] at h1 ⊢
  rw [nuF]
  omega
theorem nuF_inj {F : Nat → Int32} {z r r2 : Nat} (h : r < z) (h2 : r2 < z) (ht : tmd (F r) = true) (ht2 : tmd (F r2) = true) (e : nuF F z r = nuF F z r2) : r = r2 := by
  rcases Nat.lt_trichotomy r r2 with q | q | q
  · have := nuF_anti q h2 ht2
    omega
  · exact q
  · have := nuF_anti q h ht
    omega
theorem nuF_sur {F : Nat → Int32} {z : Nat} : ∀ {d r k : Nat}, r + d = z → k < ddF F d r → ∃ q, q < z ∧ tmd (F q) = true ∧ nuF F z q = k
  | 0, _, _, _, h => absurd h (by simp [ddF])
  | d + 1, r, k, hz, h => by
    rw [ddF] at h
    by_cases h1 : k < ddF F d (r + 1)
    · exact nuF_sur (by omega) h1
    · cases ht : tmd (F r) with
      | false =>
        rw [ht] at h
        simp at h
        omega
      | true =>
        rw [ht] at h
        simp at h
        refine ⟨r, by omega, ht, ?_⟩
        rw [nuF, show z - (r + 1) = d by omega]
        omega
theorem tcn_lt {g : Nat → Int32 × Int32 × Int32} {a b : Nat} (h : a < b) (ht : tmd (g a).1 = true) : tcn g a < tcn g b := by
  have := tcn_le (g := g) (show a + 1 ≤ b by omega)
  rw [tcn, ht] at this
  simp at this
  omega
theorem tcn_inj {g : Nat → Int32 × Int32 × Int32} {a b : Nat} (ht : tmd (g a).1 = true) (ht2 : tmd (g b).1 = true) (e : tcn g a = tcn g b) : a = b := by
  rcases Nat.lt_trichotomy a b with q | q | q
  · have := tcn_lt q ht
    omega
  · exact q
  · have := tcn_lt q ht2
    omega
theorem tcn_sur {g : Nat → Int32 × Int32 × Int32} : ∀ {n k : Nat}, k < tcn g n → ∃ y, y < n ∧ tmd (g y).1 = true ∧ tcn g y = k
  | 0, _, h => absurd h (by simp [tcn])
  | n + 1, k, h => by
    rw [tcn] at h
    by_cases h1 : k < tcn g n
    · obtain ⟨y, a, b⟩ := tcn_sur h1
      exact ⟨y, by omega, b⟩
    · cases ht : tmd (g n).1 with
      | false =>
        rw [ht] at h
        simp at h
        omega
      | true =>
        rw [ht] at h
        simp at h
        exact ⟨n, by omega, ht, by omega⟩
/-- a guess at the parts and one at the nodes that say the same -/
def gR (F : Nat → Int32) (z : Nat) (g : Nat → Int32 × Int32 × Int32) (O : Nat → Nat → Bool → Prop) (G B : Nat) : Prop := ∀ y r m, O y r m → tmd (g y).1 = true → B.testBit (tcn g y) = (G.testBit (nuF F z r) ^^ m)
theorem gR_1 {F : Nat → Int32} {g : Nat → Int32 × Int32 × Int32} {n z : Nat} {O : Nat → Nat → Bool → Prop} (hO : oK F g n z O) (G : Nat) : ∃ B, B < 2 ^ tcn g n ∧ gR F z g O G B := by
  refine ⟨bN (fun k => @decide (∃ y r m, O y r m ∧ tmd (g y).1 = true ∧ tcn g y = k ∧ (G.testBit (nuF F z r) ^^ m) = true) (Classical.propDecidable _)) (tcn g n), bN_lt _ _, fun y r m ho ht => ?_⟩
  rw [bN_bit _ (tcn_lt (hO.1 y r m ho).1 ht)]
  cases e : (G.testBit (nuF F z r) ^^ m) with
  | true => exact @decide_eq_true _ (Classical.propDecidable _) ⟨y, r, m, ho, ht, rfl, e⟩
  | false =>
    refine @decide_eq_false _ (Classical.propDecidable _) (fun ⟨y2, r2, m2, o2, t2, q2, e2⟩ => ?_)
    have q3 := tcn_inj t2 ht q2
    subst q3
    obtain ⟨q4, q5⟩ := hO.2.2.1 _ _ _ _ _ ho o2
    subst q4
    subst q5
    rw [e] at e2
    exact absurd e2 (by decide)
theorem gR_2 {F : Nat → Int32} {g : Nat → Int32 × Int32 × Int32} {n z : Nat} {O : Nat → Nat → Bool → Prop} (hO : oK F g n z O) (B : Nat) : ∃ G, G < 2 ^ ddF F z 0 ∧ gR F z g O G B := by
  refine ⟨bN (fun k => @decide (∃ y r m, O y r m ∧ tmd (g y).1 = true ∧ nuF F z r = k ∧ (B.testBit (tcn g y) ^^ m) = true) (Classical.propDecidable _)) (ddF F z 0), bN_lt _ _, fun y r m ho ht => ?_⟩
  obtain ⟨b1, b2, b3⟩ := hO.1 y r m ho
  have htF := oc_tmF b3 ht
  rw [bN_bit _ (nuF_lt b2 htF)]
  have key : @decide (∃ y2 r2 m2, O y2 r2 m2 ∧ tmd (g y2).1 = true ∧ nuF F z r2 = nuF F z r ∧ (B.testBit (tcn g y2) ^^ m2) = true) (Classical.propDecidable _) = (B.testBit (tcn g y) ^^ m) := by
    cases e : (B.testBit (tcn g y) ^^ m) with
    | true => exact @decide_eq_true _ (Classical.propDecidable _) ⟨y, r, m, ho, ht, rfl, e⟩
    | false =>
      refine @decide_eq_false _ (Classical.propDecidable _) (fun ⟨y2, r2, m2, o2, t2, q2, e2⟩ => ?_)
      obtain ⟨c1, c2, c3⟩ := hO.1 y2 r2 m2 o2
      have q3 := nuF_inj c2 b2 (oc_tmF c3 t2) htF q2
      subst q3
      have q4 := hO.2.2.2.2 _ _ _ _ _ ho o2 ht t2
      subst q4
      obtain ⟨_, q5⟩ := hO.2.2.1 _ _ _ _ _ ho o2
      subst q5
      rw [e] at e2
      exact absurd e2 (by decide)
  rw [key]
  cases B.testBit (tcn g y) <;> cases m <;> rfl
theorem gR_3 {F : Nat → Int32} {g : Nat → Int32 × Int32 × Int32} {n z : Nat} {O : Nat → Nat → Bool → Prop} (hO : oK F g n z O) {G B B2 : Nat} (h : gR F z g O G B) (h2 : gR F z g O G B2) (hB : B < 2 ^ tcn g n) (hB2 : B2 < 2 ^ tcn g n) : B = B2 := by
  refine bN_ext hB hB2 (fun k hk => ?_)
  obtain ⟨y, a1, a2, rfl⟩ := tcn_sur hk
  obtain ⟨r, m, ho⟩ := hO.2.1 y a1
  rw [h y r m ho a2, h2 y r m ho a2]
theorem gR_4 {F : Nat → Int32} {g : Nat → Int32 × Int32 × Int32} {n z : Nat} {O : Nat → Nat → Bool → Prop} (hO : oK F g n z O) {G G2 B : Nat} (h : gR F z g O G B) (h2 : gR F z g O G2 B) (hG : G < 2 ^ ddF F z 0) (hG2 : G2 < 2 ^ ddF F z 0) : G = G2 := by
  refine bN_ext hG hG2 (fun k hk => ?_)
  obtain ⟨r, a1, a2, rfl⟩ := nuF_sur (F := F) (r := 0) (Nat.zero_add z) hk
  obtain ⟨y, m, ht, ho⟩ := hO.2.2.2.1 r a1 a2
  have e1 := h y r m ho ht
  have e2 := h2 y r m ho ht
  rw [e1] at e2
  cases m <;> simpa using e2
