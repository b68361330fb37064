/-! SETS OF NODES THAT ALL REACH ONE ANOTHER, by a walk with a stack: pure part. A node v has the steps sc v 0 .. sc v 5. -/
def ko_E (sc : Nat → Nat → Option Nat) (a b : Nat) : Prop := ∃ i, i < 6 ∧ sc a i = some b
def ko_N (sc : Nat → Nat → Option Nat) : Nat → Nat → Nat → Prop
  | 0, a, b => a = b
  | n + 1, a, b => ∃ c, ko_E sc a c ∧ ko_N sc n c b
def ko_R (sc : Nat → Nat → Option Nat) (a b : Nat) : Prop := ∃ n, ko_N sc n a b
/-- one step or more -/
def ko_P (sc : Nat → Nat → Option Nat) (a b : Nat) : Prop := ∃ c, ko_E sc a c ∧ ko_R sc c b
theorem ko_R.rf {sc : Nat → Nat → Option Nat} (a : Nat) : ko_R sc a a := ⟨0, rfl⟩
theorem ko_N.tr {sc : Nat → Nat → Option Nat} : ∀ (n : Nat) {m a b c : Nat}, ko_N sc n a b → ko_N sc m b c → ko_N sc (n + m) a c
  | 0, m, a, b, c, h, h2 => by
    have e : a = b := h
    subst e
    rw [Nat.zero_add]
    exact h2
  | n + 1, m, a, b, c, h, h2 => by
    obtain ⟨d, h1, h3⟩ := h
    rw [show n + 1 + m = n + m + 1 by omega]
    exact ⟨d, h1, ko_N.tr n h3 h2⟩
theorem ko_R.tr {sc : Nat → Nat → Option Nat} {a b c : Nat} (h : ko_R sc a b) (h2 : ko_R sc b c) : ko_R sc a c := by
  obtain ⟨n, h⟩ := h
  obtain ⟨m, h2⟩ := h2
  exact ⟨n + m, ko_N.tr n h h2⟩
theorem ko_E.r {sc : Nat → Nat → Option Nat} {a b : Nat} (h : ko_E sc a b) : ko_R sc a b := ⟨1, b, h, rfl⟩
theorem ko_R.snoc {sc : Nat → Nat → Option Nat} {a b c : Nat} (h : ko_R sc a b) (h2 : ko_E sc b c) : ko_R sc a c := h.tr h2.r
theorem ko_R.cons {sc : Nat → Nat → Option Nat} {a b c : Nat} (h : ko_E sc a b) (h2 : ko_R sc b c) : ko_R sc a c := h.r.tr h2
theorem ko_P.r {sc : Nat → Nat → Option Nat} {a b : Nat} (h : ko_P sc a b) : ko_R sc a b := by
  obtain ⟨c, h1, h2⟩ := h
  exact ko_R.cons h1 h2
theorem ko_R.cases {sc : Nat → Nat → Option Nat} {a b : Nat} (h : ko_R sc a b) : a = b ∨ ko_P sc a b := by
  obtain ⟨n, h⟩ := h
  cases n with
  | zero => exact Or.inl h
  | succ n =>
    obtain ⟨c, h1, h2⟩ := h
    exact Or.inr ⟨c, h1, n, h2⟩
/-- a set that no step leaves is not left -/
theorem ko_R.closed {sc : Nat → Nat → Option Nat} {S : Nat → Prop} (hS : ∀ a b, S a → ko_E sc a b → S b) {a b : Nat} (h : ko_R sc a b) (ha : S a) : S b := by
  obtain ⟨n, h⟩ := h
  induction n generalizing a with
  | zero =>
    have e : a = b := h
    exact e ▸ ha
  | succ n ih =>
    obtain ⟨c, h1, h2⟩ := h
    exact ih (hS a c ha h1) h2
/-- the walk's state: numbers (0: not entered), how many steps were tried, lows, how many are numbered, the nodes held and those on the walk, the last entered first -/
def ko_I (sc : Nat → Nat → Option Nat) (num low td : Nat → Nat) (cnt : Nat) (held walk : List Nat) : Prop :=
  (∀ v, num v ≤ cnt) ∧ (∀ u v, num u = num v → num u ≠ 0 → u = v) ∧ (∀ v ∈ held, num v ≠ 0) ∧ held.Pairwise (fun a b => num b < num a) ∧
  (∀ v ∈ walk, v ∈ held) ∧ walk.Pairwise (fun a b => num b < num a) ∧
  (∀ w ∈ walk, ∀ x ∈ held, num w ≤ num x → ko_R sc w x) ∧ (∀ x ∈ held, ∃ y ∈ walk, num y ≤ num x ∧ ko_R sc x y) ∧
  (∀ v, num v ≠ 0 → ∀ i, i < td v → ∀ w, sc v i = some w → num w ≠ 0) ∧ (∀ v, num v ≠ 0 → v ∉ walk → 6 ≤ td v) ∧
  (∀ v, num v ≠ 0 → v ∉ held → ∀ w, ko_E sc v w → num w ≠ 0 ∧ w ∉ held) ∧
  (∀ w ∈ walk, low w ≤ num w ∧ ∃ z ∈ held, num z = low w ∧ ko_R sc w z) ∧
  (∀ w ∈ walk, ∀ x ∈ held, num w ≤ num x → (∀ w2 ∈ walk, num w < num w2 → num x < num w2) → ∀ i, i < td x → ∀ v, sc x i = some v → v ∈ held → low w ≤ num v)
def ko_U (f : Nat → Nat) (k x : Nat) : Nat → Nat := fun j => if j = k then x else f j
theorem ko_U_s (f : Nat → Nat) (k x : Nat) : ko_U f k x k = x := by simp [ko_U]
theorem ko_U_n (f : Nat → Nat) {k j : Nat} (x : Nat) (h : j ≠ k) : ko_U f k x j = f j := by simp [ko_U, h]
theorem ko_I_0 (sc : Nat → Nat → Option Nat) (low td : Nat → Nat) : ko_I sc (fun _ => 0) low td 0 [] [] := by
  refine ⟨fun _ => Nat.le_refl _, fun u v _ h => absurd rfl h, fun v h => (by cases h), List.Pairwise.nil, fun v h => (by cases h), List.Pairwise.nil, fun w h => (by cases h), fun x h => (by cases h), fun v h => absurd rfl h, fun v h => absurd rfl h, fun v h => absurd rfl h, fun w h => (by cases h), fun w h => (by cases h)⟩
/-- a step was tried and led nowhere new: no step, or to a node that is not held any more -/
theorem ko_I_skip {sc : Nat → Nat → Option Nat} {num low td : Nat → Nat} {cnt : Nat} {held walk : List Nat} {w : Nat} (h : ko_I sc num low td cnt held (w :: walk)) (ht : ∀ v, sc w (td w) = some v → num v ≠ 0 ∧ v ∉ held) :
    ko_I sc num low (ko_U td w (td w + 1)) cnt held (w :: walk) := by
  obtain ⟨i1, i2, i3, i4, i5, i6, i7, i8, i9, i10, i11, i12, i13⟩ := h
  refine ⟨i1, i2, i3, i4, i5, i6, i7, i8, ?_, ?_, i11, i12, ?_⟩
  · intro v hv i hi u hu
    by_cases e : v = w
    · subst e
      rw [ko_U_s] at hi
      by_cases e2 : i = td v
      · subst e2
        exact (ht u hu).1
      · exact i9 v hv i (by omega) u hu
    · rw [ko_U_n td _ e] at hi
      exact i9 v hv i hi u hu
  · intro v hv hw
    by_cases e : v = w
    · subst e
      exact absurd List.mem_cons_self hw
    · rw [ko_U_n td _ e]
      exact i10 v hv hw
  · intro u hu x hx h1 h2 i hi v hv hvh
    by_cases e : x = w
    · subst e
      rw [ko_U_s] at hi
      by_cases e2 : i = td x
      · subst e2
        exact absurd hvh (ht v hv).2
      · exact i13 u hu x hx h1 h2 i (by omega) v hv hvh
    · rw [ko_U_n td _ e] at hi
      exact i13 u hu x hx h1 h2 i hi v hv hvh
/-- a step was tried that leads to a node that is held -/
theorem ko_I_held {sc : Nat → Nat → Option Nat} {num low td : Nat → Nat} {cnt : Nat} {held walk : List Nat} {w v : Nat} (h : ko_I sc num low td cnt held (w :: walk)) (h6 : td w < 6) (hs : sc w (td w) = some v) (hv : v ∈ held) :
    ko_I sc num (ko_U low w (min (low w) (num v))) (ko_U td w (td w + 1)) cnt held (w :: walk) := by
  obtain ⟨i1, i2, i3, i4, i5, i6, i7, i8, i9, i10, i11, i12, i13⟩ := h
  have top : ∀ u ∈ walk, num u < num w := (List.pairwise_cons.mp i6).1
  have hle : ∀ u, ko_U low w (min (low w) (num v)) u ≤ low u := by
    intro u
    by_cases e : u = w
    · subst e
      rw [ko_U_s]
      exact Nat.min_le_left _ _
    · rw [ko_U_n low _ e]
      exact Nat.le_refl _
  refine ⟨i1, i2, i3, i4, i5, i6, i7, i8, ?_, ?_, i11, ?_, ?_⟩
  · intro u hu i hi x hx
    by_cases e : u = w
    · subst e
      rw [ko_U_s] at hi
      by_cases e2 : i = td u
      · subst e2
        cases hs.symm.trans hx
        exact i3 v hv
      · exact i9 u hu i (by omega) x hx
    · rw [ko_U_n td _ e] at hi
      exact i9 u hu i hi x hx
  · intro u hu hw
    by_cases e : u = w
    · subst e
      exact absurd List.mem_cons_self hw
    · rw [ko_U_n td _ e]
      exact i10 u hu hw
  · intro u hu
    obtain ⟨a1, z, z1, z2, z3⟩ := i12 u hu
    refine ⟨Nat.le_trans (hle u) a1, ?_⟩
    by_cases e : u = w
    · subst e
      rw [ko_U_s]
      by_cases e2 : low u ≤ num v
      · exact ⟨z, z1, by rw [Nat.min_eq_left e2]; exact z2, z3⟩
      · exact ⟨v, hv, by rw [Nat.min_eq_right (by omega)], (show ko_E sc u v from ⟨td u, h6, hs⟩).r⟩
    · rw [ko_U_n low _ e]
      exact ⟨z, z1, z2, z3⟩
  · intro u hu x hx h1 h2 i hi y hy hyh
    by_cases e : x = w
    · subst e
      rw [ko_U_s] at hi
      by_cases e2 : i = td x
      · subst e2
        cases hs.symm.trans hy
        by_cases e3 : u = x
        · subst e3
          rw [ko_U_s]
          exact Nat.min_le_right _ _
        · exfalso
          rcases List.mem_cons.mp hu with h | h
          · exact e3 h
          · exact Nat.lt_irrefl _ (h2 x List.mem_cons_self (top u h))
      · exact Nat.le_trans (hle u) (i13 u hu x hx h1 h2 i (by omega) y hy hyh)
    · rw [ko_U_n td _ e] at hi
      exact Nat.le_trans (hle u) (i13 u hu x hx h1 h2 i hi y hy hyh)
/-- a new node is entered: the first of a walk, or by a step of the walk's last -/
theorem ko_I_enter0 {sc : Nat → Nat → Option Nat} {num low td : Nat → Nat} {cnt v : Nat} (h : ko_I sc num low td cnt [] []) (hv : num v = 0) :
    ko_I sc (ko_U num v (cnt + 1)) (ko_U low v (cnt + 1)) (ko_U td v 0) (cnt + 1) [v] [v] := by
  obtain ⟨i1, i2, i3, i4, i5, i6, i7, i8, i9, i10, i11, i12, i13⟩ := h
  have nv : ∀ u, u ≠ v → ko_U num v (cnt + 1) u = num u := fun u hu => ko_U_n num _ hu
  have one : ∀ u ∈ [v], u = v := fun u hu => by simpa using hu
  refine ⟨fun u => ?_, fun u x hux hu => ?_, fun u hu => ?_, List.pairwise_singleton _ _, fun u hu => hu, List.pairwise_singleton _ _, fun u hu x hx _ => ?_, fun x hx => ?_, fun u hu i hi x hx => ?_, fun u hu hw => ?_, fun u hu hw x hx => ?_, fun u hu => ?_, fun u hu x hx _ _ i hi y hy hyh => ?_⟩
  · by_cases e : u = v
    · rw [e, ko_U_s]; exact Nat.le_refl _
    · rw [nv u e]; exact Nat.le_trans (i1 u) (Nat.le_succ _)
  · by_cases e : u = v
    · by_cases e2 : x = v
      · rw [e, e2]
      · rw [e, ko_U_s, nv x e2] at hux
        have := i1 x
        omega
    · by_cases e2 : x = v
      · rw [e2, ko_U_s, nv u e] at hux
        have := i1 u
        omega
      · rw [nv u e, nv x e2] at hux
        rw [nv u e] at hu
        exact i2 u x hux hu
  · rw [one u hu, ko_U_s]
    omega
  · rw [one u hu, one x hx]
    exact ko_R.rf v
  · exact ⟨v, List.mem_cons_self, by rw [one x hx]; exact Nat.le_refl _, by rw [one x hx]; exact ko_R.rf v⟩
  · by_cases e : u = v
    · rw [e, ko_U_s] at hi
      omega
    · rw [nv u e] at hu
      rw [ko_U_n td _ e] at hi
      have h1 := i9 u hu i hi x hx
      by_cases e2 : x = v
      · rw [e2, ko_U_s]; omega
      · rw [nv x e2]; exact h1
  · by_cases e : u = v
    · rw [e] at hw
      exact absurd List.mem_cons_self hw
    · rw [nv u e] at hu
      rw [ko_U_n td _ e]
      exact i10 u hu (fun q => by cases q)
  · by_cases e : u = v
    · rw [e] at hw
      exact absurd List.mem_cons_self hw
    · rw [nv u e] at hu
      have h1 := i11 u hu (fun q => by cases q) x hx
      have e2 : x ≠ v := fun q => by
        rw [q] at h1
        exact h1.1 hv
      exact ⟨by rw [nv x e2]; exact h1.1, fun q => e2 (one x q)⟩
  · rw [one u hu, ko_U_s, ko_U_s]
    exact ⟨Nat.le_refl _, v, List.mem_cons_self, ko_U_s _ _ _, ko_R.rf v⟩
  · rw [one x hx, ko_U_s] at hi
    omega
theorem ko_I_enter {sc : Nat → Nat → Option Nat} {num low td : Nat → Nat} {cnt : Nat} {held walk : List Nat} {w v : Nat} (h : ko_I sc num low td cnt held (w :: walk)) (h6 : td w < 6) (hs : sc w (td w) = some v) (hv : num v = 0) :
    ko_I sc (ko_U num v (cnt + 1)) (ko_U low v (cnt + 1)) (ko_U (ko_U td w (td w + 1)) v 0) (cnt + 1) (v :: held) (v :: w :: walk) := by
  obtain ⟨i1, i2, i3, i4, i5, i6, i7, i8, i9, i10, i11, i12, i13⟩ := h
  have nv : ∀ u, u ≠ v → ko_U num v (cnt + 1) u = num u := fun u hu => ko_U_n num _ hu
  have top : ∀ u ∈ walk, num u < num w := (List.pairwise_cons.mp i6).1
  have hwh : w ∈ held := i5 w List.mem_cons_self
  have nh : ∀ x ∈ held, x ≠ v := fun x hx q => by
    rw [q] at hx
    exact i3 v hx hv
  have nw : ∀ x ∈ w :: walk, x ≠ v := fun x hx => nh x (i5 x hx)
  have hwv : w ≠ v := nh w hwh
  have edge : ko_E sc w v := ⟨td w, h6, hs⟩
  have tdn : ∀ u, u ≠ v → u ≠ w → ko_U (ko_U td w (td w + 1)) v 0 u = td u := fun u h1 h2 => by rw [ko_U_n _ _ h1, ko_U_n _ _ h2]
  have tdw : ko_U (ko_U td w (td w + 1)) v 0 w = td w + 1 := by rw [ko_U_n _ _ hwv, ko_U_s]
  have tdv : ko_U (ko_U td w (td w + 1)) v 0 v = 0 := ko_U_s _ _ _
  refine ⟨fun u => ?_, fun u x hux hu => ?_, fun u hu => ?_, ?_, fun u hu => ?_, ?_, fun u hu x hx hle => ?_, fun x hx => ?_, fun u hu i hi x hx => ?_, fun u hu hw => ?_, fun u hu hw x hx => ?_, fun u hu => ?_, fun u hu x hx hle hseg i hi y hy hyh => ?_⟩
  · by_cases e : u = v
    · rw [e, ko_U_s]; exact Nat.le_refl _
    · rw [nv u e]; exact Nat.le_trans (i1 u) (Nat.le_succ _)
  · by_cases e : u = v
    · by_cases e2 : x = v
      · rw [e, e2]
      · rw [e, ko_U_s, nv x e2] at hux
        have := i1 x
        omega
    · by_cases e2 : x = v
      · rw [e2, ko_U_s, nv u e] at hux
        have := i1 u
        omega
      · rw [nv u e, nv x e2] at hux
        rw [nv u e] at hu
        exact i2 u x hux hu
  · rcases List.mem_cons.mp hu with rfl | h
    · rw [ko_U_s]; omega
    · rw [nv u (nh u h)]; exact i3 u h
  · refine List.pairwise_cons.mpr ⟨fun x hx => ?_, ?_⟩
    · rw [ko_U_s, nv x (nh x hx)]
      have := i1 x
      omega
    · refine i4.imp_of_mem (fun {a b} ha hb hab => ?_)
      rw [nv a (nh a ha), nv b (nh b hb)]
      exact hab
  · rcases List.mem_cons.mp hu with rfl | h
    · exact List.mem_cons_self
    · exact List.mem_cons_of_mem _ (i5 u h)
  · refine List.pairwise_cons.mpr ⟨fun x hx => ?_, ?_⟩
    · rw [ko_U_s, nv x (nw x hx)]
      have := i1 x
      omega
    · refine i6.imp_of_mem (fun {a b} ha hb hab => ?_)
      rw [nv a (nw a ha), nv b (nw b hb)]
      exact hab
  · rcases List.mem_cons.mp hx with rfl | h
    · rcases List.mem_cons.mp hu with rfl | h2
      · exact ko_R.rf _
      · refine (i7 u h2 w hwh ?_).snoc edge
        rcases List.mem_cons.mp h2 with rfl | h3
        · exact Nat.le_refl _
        · exact Nat.le_of_lt (top u h3)
    · rcases List.mem_cons.mp hu with rfl | h2
      · rw [ko_U_s, nv x (nh x h)] at hle
        have := i1 x
        omega
      · rw [nv u (nw u h2), nv x (nh x h)] at hle
        exact i7 u h2 x h hle
  · rcases List.mem_cons.mp hx with rfl | h
    · exact ⟨x, List.mem_cons_self, Nat.le_refl _, ko_R.rf x⟩
    · obtain ⟨y, y1, y2, y3⟩ := i8 x h
      exact ⟨y, List.mem_cons_of_mem _ y1, by rw [nv y (nw y y1), nv x (nh x h)]; exact y2, y3⟩
  · have key : u ≠ v → num x ≠ 0 ∨ x = v := by
      intro e
      rw [nv u e] at hu
      by_cases e2 : u = w
      · rw [e2, tdw] at hi
        rw [e2] at hx
        by_cases e3 : i = td w
        · rw [e3, hs] at hx
          exact Or.inr (Option.some.inj hx).symm
        · exact Or.inl (i9 w (i3 w hwh) i (by omega) x hx)
      · rw [tdn u e e2] at hi
        exact Or.inl (i9 u hu i hi x hx)
    by_cases e : u = v
    · rw [e, tdv] at hi
      omega
    · rcases key e with h1 | h1
      · by_cases e2 : x = v
        · rw [e2, ko_U_s]; omega
        · rw [nv x e2]; exact h1
      · rw [h1, ko_U_s]; omega
  · by_cases e : u = v
    · rw [e] at hw
      exact absurd List.mem_cons_self hw
    · rw [nv u e] at hu
      have e2 : u ≠ w := fun q => by
        rw [q] at hw
        exact hw (List.mem_cons_of_mem _ List.mem_cons_self)
      rw [tdn u e e2]
      exact i10 u hu (fun q => hw (List.mem_cons_of_mem _ q))
  · by_cases e : u = v
    · rw [e] at hw
      exact absurd List.mem_cons_self hw
    · rw [nv u e] at hu
      have h1 := i11 u hu (fun q => hw (List.mem_cons_of_mem _ q)) x hx
      have e2 : x ≠ v := fun q => by
        rw [q] at h1
        exact h1.1 hv
      refine ⟨by rw [nv x e2]; exact h1.1, fun q => ?_⟩
      rcases List.mem_cons.mp q with h2 | h2
      · exact e2 h2
      · exact h1.2 h2
  · rcases List.mem_cons.mp hu with rfl | h
    · rw [ko_U_s, ko_U_s]
      exact ⟨Nat.le_refl _, u, List.mem_cons_self, ko_U_s _ _ _, ko_R.rf u⟩
    · obtain ⟨a1, z, z1, z2, z3⟩ := i12 u h
      rw [ko_U_n low _ (nw u h), nv u (nw u h)]
      exact ⟨a1, z, List.mem_cons_of_mem _ z1, by rw [nv z (nh z z1)]; exact z2, z3⟩
  · by_cases e : x = v
    · rw [e, tdv] at hi
      omega
    · have hxh : x ∈ held := by
        rcases List.mem_cons.mp hx with h | h
        · exact absurd h e
        · exact h
      rcases List.mem_cons.mp hu with rfl | h
      · exfalso
        rw [ko_U_s, nv x e] at hle
        have := i1 x
        omega
      · rw [ko_U_n low _ (nw u h)]
        rw [nv u (nw u h), nv x e] at hle
        have lowu : low u ≤ num u := (i12 u h).1
        by_cases e2 : y = v
        · rw [e2, ko_U_s]
          have := i1 u
          omega
        · have hyh2 : y ∈ held := by
            rcases List.mem_cons.mp hyh with h2 | h2
            · exact absurd h2 e2
            · exact h2
          rw [nv y e2]
          refine i13 u h x hxh hle (fun w2 h2 h3 => ?_) i ?_ y hy hyh2
          · have h4 := hseg w2 (List.mem_cons_of_mem _ h2) (by rw [nv u (nw u h), nv w2 (nw w2 h2)]; exact h3)
            rw [nv x e, nv w2 (nw w2 h2)] at h4
            exact h4
          · by_cases e3 : x = w
            · rw [e3, tdw] at hi
              rw [e3]
              rw [e3] at hy
              by_cases e4 : i = td w
              · rw [e4, hs] at hy
                exact absurd (Option.some.inj hy).symm e2
              · omega
            · rw [tdn x e e3] at hi
              exact hi
/-- the walk's last node is left, and it is not the first of its set -/
theorem ko_I_merge {sc : Nat → Nat → Option Nat} {num low td : Nat → Nat} {cnt : Nat} {held walk : List Nat} {w : Nat} (h : ko_I sc num low td cnt held (w :: walk)) (h6 : 6 ≤ td w) (hl : low w < num w) :
    ∃ u rest, walk = u :: rest ∧ ko_I sc num (ko_U low u (min (low u) (low w))) td cnt held (u :: rest) := by
  obtain ⟨i1, i2, i3, i4, i5, i6, i7, i8, i9, i10, i11, i12, i13⟩ := h
  have top : ∀ u ∈ walk, num u < num w := (List.pairwise_cons.mp i6).1
  have hwh : w ∈ held := i5 w List.mem_cons_self
  obtain ⟨lw, z, z1, z2, z3⟩ := i12 w List.mem_cons_self
  obtain ⟨y, y1, y2, y3⟩ := i8 z z1
  have yw : y ∈ walk := by
    rcases List.mem_cons.mp y1 with e | e
    · rw [e] at y2; omega
    · exact e
  cases walk with
  | nil => cases yw
  | cons u rest =>
    have top2 : ∀ x ∈ rest, num x < num u := (List.pairwise_cons.mp (List.pairwise_cons.mp i6).2).1
    have uw : num u < num w := top u List.mem_cons_self
    refine ⟨u, rest, rfl, i1, i2, i3, i4, fun v hv => i5 v (List.mem_cons_of_mem _ hv), (List.pairwise_cons.mp i6).2, fun a ha => i7 a (List.mem_cons_of_mem _ ha), fun x hx => ?_, i9, fun v hv hw => ?_, i11, fun a ha => ?_, fun a ha x hx hle hseg i hi v hv hvh => ?_⟩
    · obtain ⟨b, b1, b2, b3⟩ := i8 x hx
      rcases List.mem_cons.mp b1 with e | e
      · rw [e] at b2 b3
        exact ⟨y, yw, by omega, b3.tr (z3.tr y3)⟩
      · exact ⟨b, e, b2, b3⟩
    · by_cases e : v = w
      · rw [e]; exact h6
      · refine i10 v hv (fun q => ?_)
        rcases List.mem_cons.mp q with h1 | h1
        · exact e h1
        · exact hw h1
    · obtain ⟨a1, z', b1, b2, b3⟩ := i12 a (List.mem_cons_of_mem _ ha)
      by_cases e : a = u
      · subst e
        rw [ko_U_s]
        refine ⟨Nat.le_trans (Nat.min_le_left _ _) a1, ?_⟩
        by_cases e2 : low a ≤ low w
        · exact ⟨z', b1, by rw [Nat.min_eq_left e2]; exact b2, b3⟩
        · exact ⟨z, z1, by rw [Nat.min_eq_right (by omega)]; exact z2, (i7 a (List.mem_cons_of_mem _ List.mem_cons_self) w hwh (Nat.le_of_lt uw)).tr z3⟩
      · rw [ko_U_n low _ e]
        exact ⟨a1, z', b1, b2, b3⟩
    · by_cases e : a = u
      · subst e
        rw [ko_U_s]
        by_cases e2 : num x < num w
        · refine Nat.le_trans (Nat.min_le_left _ _) (i13 a (List.mem_cons_of_mem _ ha) x hx hle (fun w2 h2 h3 => ?_) i hi v hv hvh)
          rcases List.mem_cons.mp h2 with h4 | h4
          · rw [h4]; exact e2
          · exact hseg w2 h4 h3
        · refine Nat.le_trans (Nat.min_le_right _ _) (i13 w List.mem_cons_self x hx (by omega) (fun w2 h2 h3 => ?_) i hi v hv hvh)
          exfalso
          rcases List.mem_cons.mp h2 with h4 | h4
          · rw [h4] at h3; omega
          · have := top w2 h4
            omega
      · rw [ko_U_n low _ e]
        have har : a ∈ rest := by
          rcases List.mem_cons.mp ha with h1 | h1
          · exact absurd h1 e
          · exact h1
        refine i13 a (List.mem_cons_of_mem _ ha) x hx hle (fun w2 h2 h3 => ?_) i hi v hv hvh
        rcases List.mem_cons.mp h2 with h4 | h4
        · rw [h4]
          exact Nat.lt_trans (hseg u List.mem_cons_self (top2 a har)) uw
        · exact hseg w2 h4 h3
/-- the walk's last node is left, and it is the first of its set: the set is let go; its nodes reach one another, and no other node reaches them and is reached -/
theorem ko_I_release {sc : Nat → Nat → Option Nat} {num low td : Nat → Nat} {cnt : Nat} {C rest walk : List Nat} {w : Nat} (h : ko_I sc num low td cnt (C ++ w :: rest) (w :: walk)) (h6 : 6 ≤ td w) (hl : low w = num w) :
    ko_I sc num low td cnt rest walk ∧ (∀ x ∈ C ++ [w], ∀ y, (ko_R sc x y ∧ ko_R sc y x) ↔ y ∈ C ++ [w]) := by
  obtain ⟨i1, i2, i3, i4, i5, i6, i7, i8, i9, i10, i11, i12, i13⟩ := h
  have top : ∀ u ∈ walk, num u < num w := (List.pairwise_cons.mp i6).1
  have hwh : w ∈ C ++ w :: rest := i5 w List.mem_cons_self
  obtain ⟨p1, p2, p3⟩ := List.pairwise_append.mp i4
  have upC : ∀ x ∈ C, num w < num x := fun x hx => p3 x hx w List.mem_cons_self
  have upR : ∀ x ∈ rest, num x < num w := (List.pairwise_cons.mp p2).1
  have inS : ∀ x, x ∈ C ++ w :: rest → num w ≤ num x → x ∈ C ++ [w] := by
    intro x hx hle
    rcases List.mem_append.mp hx with h1 | h1
    · exact List.mem_append_left _ h1
    · rcases List.mem_cons.mp h1 with h2 | h2
      · rw [h2]; exact List.mem_append_right _ List.mem_cons_self
      · have := upR x h2
        omega
  have Sle : ∀ x ∈ C ++ [w], num w ≤ num x := by
    intro x hx
    rcases List.mem_append.mp hx with h1 | h1
    · exact Nat.le_of_lt (upC x h1)
    · rw [List.mem_singleton.mp h1]; exact Nat.le_refl _
  have Sh : ∀ x ∈ C ++ [w], x ∈ C ++ w :: rest := by
    intro x hx
    rcases List.mem_append.mp hx with h1 | h1
    · exact List.mem_append_left _ h1
    · rw [List.mem_singleton.mp h1]; exact hwh
  have Snw : ∀ x ∈ C ++ [w], x ∉ walk := fun x hx hxw => by
    have := top x hxw
    have := Sle x hx
    omega
  have Std : ∀ x ∈ C ++ [w], 6 ≤ td x := by
    intro x hx
    by_cases e : x = w
    · rw [e]; exact h6
    · exact i10 x (i3 x (Sh x hx)) (fun q => by
        rcases List.mem_cons.mp q with h1 | h1
        · exact e h1
        · exact Snw x hx h1)
  -- a step from the set stays in it, or goes to a node that was let go before
  have step : ∀ x ∈ C ++ [w], ∀ y, ko_E sc x y → y ∈ C ++ [w] ∨ (num y ≠ 0 ∧ y ∉ C ++ w :: rest) := by
    intro x hx y hxy
    obtain ⟨i, hi, hs⟩ := hxy
    have h3 := i9 x (i3 x (Sh x hx)) i (Nat.lt_of_lt_of_le hi (Std x hx)) y hs
    by_cases hyh : y ∈ C ++ w :: rest
    · refine Or.inl (inS y hyh ?_)
      rw [← hl]
      refine i13 w List.mem_cons_self x (Sh x hx) (Sle x hx) (fun w2 h2 h4 => ?_) i (Nat.lt_of_lt_of_le hi (Std x hx)) y hs hyh
      exfalso
      rcases List.mem_cons.mp h2 with h5 | h5
      · rw [h5] at h4; omega
      · have := top w2 h5
        omega
    · exact Or.inr ⟨h3, hyh⟩
  have gone : ∀ a b, (num a ≠ 0 ∧ a ∉ C ++ w :: rest) → ko_E sc a b → (num b ≠ 0 ∧ b ∉ C ++ w :: rest) := fun a b ha hab => i11 a ha.1 ha.2 b hab
  have goneR : ∀ a b, (num a ≠ 0 ∧ a ∉ C ++ w :: rest) → ko_R sc a b → (num b ≠ 0 ∧ b ∉ C ++ w :: rest) := fun a b ha hab => ko_R.closed (S := fun z => num z ≠ 0 ∧ z ∉ C ++ w :: rest) gone hab ha
  have out : ∀ x ∈ C ++ [w], ∀ y, ko_R sc x y → y ∈ C ++ [w] ∨ (num y ≠ 0 ∧ y ∉ C ++ w :: rest) := by
    intro x hx y hxy
    refine ko_R.closed (S := fun z => z ∈ C ++ [w] ∨ (num z ≠ 0 ∧ z ∉ C ++ w :: rest)) (fun a b ha hab => ?_) hxy (Or.inl hx)
    rcases ha with ha | ha
    · exact step a ha b hab
    · exact Or.inr (gone a b ha hab)
  have toW : ∀ x ∈ C ++ [w], ko_R sc x w := by
    intro x hx
    obtain ⟨y, y1, y2, y3⟩ := i8 x (Sh x hx)
    rcases out x hx y y3 with h1 | h1
    · rcases List.mem_cons.mp y1 with e | e
      · rw [← e]; exact y3
      · exact absurd e (Snw y h1)
    · exact absurd (i5 y y1) h1.2
  have ofW : ∀ x ∈ C ++ [w], ko_R sc w x := fun x hx => i7 w List.mem_cons_self x (Sh x hx) (Sle x hx)
  refine ⟨⟨i1, i2, fun v hv => i3 v (List.mem_append_right _ (List.mem_cons_of_mem _ hv)), (List.pairwise_cons.mp p2).2, fun v hv => ?_, (List.pairwise_cons.mp i6).2, fun a ha x hx => i7 a (List.mem_cons_of_mem _ ha) x (List.mem_append_right _ (List.mem_cons_of_mem _ hx)), fun x hx => ?_, i9, fun v hv hw => ?_, fun v hv hvr x hx => ?_, fun a ha => ?_, fun a ha x hx hle hseg i hi v hv hvh => ?_⟩, fun x hx y => ⟨fun hy => ?_, fun hy => ⟨(toW x hx).tr (ofW y hy), (toW y hy).tr (ofW x hx)⟩⟩⟩
  · have h1 := i5 v (List.mem_cons_of_mem _ hv)
    have h2 := top v hv
    rcases List.mem_append.mp h1 with h3 | h3
    · have := upC v h3
      omega
    · rcases List.mem_cons.mp h3 with h4 | h4
      · rw [h4] at h2; omega
      · exact h4
  · obtain ⟨y, y1, y2, y3⟩ := i8 x (List.mem_append_right _ (List.mem_cons_of_mem _ hx))
    rcases List.mem_cons.mp y1 with e | e
    · rw [e] at y2
      have := upR x hx
      omega
    · exact ⟨y, e, y2, y3⟩
  · by_cases e : v = w
    · rw [e]; exact h6
    · exact i10 v hv (fun q => by
        rcases List.mem_cons.mp q with h1 | h1
        · exact e h1
        · exact hw h1)
  · have h0 : num x ≠ 0 ∧ (x ∈ C ++ [w] ∨ x ∉ C ++ w :: rest) := by
      by_cases hvS : v ∈ C ++ [w]
      · rcases step v hvS x hx with h1 | h1
        · exact ⟨i3 x (Sh x h1), Or.inl h1⟩
        · exact ⟨h1.1, Or.inr h1.2⟩
      · have hvn : v ∉ C ++ w :: rest := fun q => by
          rcases List.mem_append.mp q with h1 | h1
          · exact hvS (List.mem_append_left _ h1)
          · rcases List.mem_cons.mp h1 with h2 | h2
            · exact hvS (by rw [h2]; exact List.mem_append_right _ List.mem_cons_self)
            · exact hvr h2
        have h1 := i11 v hv hvn x hx
        exact ⟨h1.1, Or.inr h1.2⟩
    refine ⟨h0.1, fun q => ?_⟩
    rcases h0.2 with h1 | h1
    · have := Sle x h1
      have := upR x q
      omega
    · exact h1 (List.mem_append_right _ (List.mem_cons_of_mem _ q))
  · obtain ⟨a1, z, z1, z2, z3⟩ := i12 a (List.mem_cons_of_mem _ ha)
    refine ⟨a1, z, ?_, z2, z3⟩
    have h2 := top a ha
    rcases List.mem_append.mp z1 with h3 | h3
    · have := upC z h3
      omega
    · rcases List.mem_cons.mp h3 with h4 | h4
      · rw [h4] at z2; omega
      · exact h4
  · refine i13 a (List.mem_cons_of_mem _ ha) x (List.mem_append_right _ (List.mem_cons_of_mem _ hx)) hle (fun w2 h2 h3 => ?_) i hi v hv (List.mem_append_right _ (List.mem_cons_of_mem _ hvh))
    rcases List.mem_cons.mp h2 with h4 | h4
    · rw [h4]; exact upR x hx
    · exact hseg w2 h4 h3
  · rcases out x hx y hy.1 with h1 | h1
    · exact h1
    · exact absurd (Sh x hx) (goneR y x h1 hy.2).2
