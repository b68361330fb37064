/-! Reading a formula: what both do, over lists -/
def rk (c : Int32) : Nat := if c = 33 ∨ c = 70 ∨ c = 71 ∨ c = 88 then 5 else if c = 82 ∨ c = 85 then 4 else if c = 38 then 3 else if c = 124 then 2 else if c = 62 then 1 else 0
def atm (c : Int32) : Bool := decide ((112 ≤ c ∧ c ≤ 115) ∨ c = 48 ∨ c = 49)
def tmd (c : Int32) : Bool := decide (c = 88 ∨ c = 70 ∨ c = 71 ∨ c = 85 ∨ c = 82)
def rgt (c : Int32) : Bool := decide (c = 62 ∨ c = 85 ∨ c = 82)
theorem rk_5 (c : Int32) : rk c ≤ 5 := by
  unfold rk
  repeat' split
  all_goals decide
theorem rk_rgt {c : Int32} (h0 : rk c ≠ 0) (h5 : rk c ≠ 5) : rgt c = decide (rk c = 1 ∨ rk c = 4) := by
  by_cases a : c = 62
  · subst a
    decide
  by_cases b : c = 85
  · subst b
    decide
  by_cases d : c = 82
  · subst d
    decide
  have e1 : rgt c = false := by simp [rgt, a, b, d]
  have e2 : ¬ (rk c = 1 ∨ rk c = 4) := by
    simp only [rk, a, b, d, or_false, if_false]
    split
    · omega
    · split
      · omega
      · split <;> omega
  rw [e1, decide_eq_false e2]
abbrev nL3 : Type := List (Int32 × Int32 × Int32)
/-- nodes by their number; the newest stands first -/
def ndg : nL3 → Nat → Int32 × Int32 × Int32
  | [], _ => (0, 0, 0)
  | x :: t, i => if i = t.length then x else ndg t i
/-- nodes a to x are a tree whose root is x -/
def tT (g : Nat → Int32 × Int32 × Int32) : Nat → Nat → Nat → Prop
  | 0, _, _ => False
  | f + 1, a, x => (atm (g x).1 = true ∧ a = x ∧ (g x).2.1 = -1 ∧ (g x).2.2 = -1) ∨ (rk (g x).1 = 5 ∧ a < x ∧ (g x).2.1 = nI (x - 1) ∧ (g x).2.2 = -1 ∧ tT g f a (x - 1)) ∨ (1 ≤ rk (g x).1 ∧ rk (g x).1 ≤ 4 ∧ ∃ m, a ≤ m ∧ m + 1 < x ∧ (g x).2.1 = nI m ∧ (g x).2.2 = nI (x - 1) ∧ tT g f a m ∧ tT g f (m + 1) (x - 1))
theorem tT_up {g : Nat → Int32 × Int32 × Int32} : ∀ {f f2 a x : Nat}, f ≤ f2 → tT g f a x → tT g f2 a x
  | 0, _, _, _, _, h => absurd h (by simp [tT])
  | f + 1, 0, _, _, hf, _ => absurd hf (by omega)
  | f + 1, f2 + 1, a, x, hf, h => by
    rcases h with h | ⟨h1, h2, h3, h4, h5⟩ | ⟨h1, h2, m, h3, h4, h5, h6, h7, h8⟩
    · exact Or.inl h
    · exact Or.inr (Or.inl ⟨h1, h2, h3, h4, tT_up (by omega) h5⟩)
    · exact Or.inr (Or.inr ⟨h1, h2, m, h3, h4, h5, h6, tT_up (by omega) h7, tT_up (by omega) h8⟩)
theorem tT_le {g : Nat → Int32 × Int32 × Int32} : ∀ {f a x : Nat}, tT g f a x → a ≤ x
  | 0, _, _, h => absurd h (by simp [tT])
  | f + 1, a, x, h => by
    rcases h with h | h | ⟨_, _, m, h3, h4, _⟩
    · omega
    · omega
    · omega
theorem tT_same {g g2 : Nat → Int32 × Int32 × Int32} : ∀ {f a x : Nat}, (∀ i, i ≤ x → g2 i = g i) → tT g f a x → tT g2 f a x
  | 0, _, _, _, h => absurd h (by simp [tT])
  | f + 1, a, x, hg, h => by
    unfold tT
    rw [hg x (Nat.le_refl _)]
    rcases h with h | ⟨h1, h2, h3, h4, h5⟩ | ⟨h1, h2, m, h3, h4, h5, h6, h7, h8⟩
    · exact Or.inl h
    · exact Or.inr (Or.inl ⟨h1, h2, h3, h4, tT_same (fun i hi => hg i (by omega)) h5⟩)
    · exact Or.inr (Or.inr ⟨h1, h2, m, h3, h4, h5, h6, tT_same (fun i hi => hg i (by omega)) h7, tT_same (fun i hi => hg i (by omega)) h8⟩)
def tTT (g : Nat → Int32 × Int32 × Int32) (a x : Nat) : Prop := ∃ f, tT g f a x
/-- the units that stand ready, the last first, cover the nodes below m -/
def tCh (g : Nat → Int32 × Int32 × Int32) : List Nat → Nat → Prop
  | [], m => m = 0
  | e :: t, m => m = e + 1 ∧ ∃ a, tTT g a e ∧ tCh g t a
theorem tCh_same {g g2 : Nat → Int32 × Int32 × Int32} : ∀ {l : List Nat} {m : Nat}, (∀ i, i < m → g2 i = g i) → tCh g l m → tCh g2 l m
  | [], _, _, h => h
  | e :: t, m, hg, ⟨h1, a, ⟨f, h2⟩, h3⟩ => ⟨h1, a, ⟨f, tT_same (fun i hi => hg i (by omega)) h2⟩, tCh_same (fun i hi => hg i (by have := tT_le h2; omega)) h3⟩
theorem tCh_len {g : Nat → Int32 × Int32 × Int32} : ∀ {l : List Nat} {m : Nat}, tCh g l m → l.length ≤ m ∧ ∀ e ∈ l, e < m
  | [], _, _ => ⟨by simp, fun _ h => by simp at h⟩
  | e :: t, m, ⟨h1, a, ⟨f, h2⟩, h3⟩ => by
    have h4 := tT_le h2
    obtain ⟨h5, h6⟩ := tCh_len h3
    refine ⟨by simp; omega, fun q hq => ?_⟩
    rcases List.mem_cons.mp hq with hq | hq
    · omega
    · have := h6 q hq
      omega
theorem ndg_old (x : Int32 × Int32 × Int32) (t : nL3) {i : Nat} (h : i < t.length) : ndg (x :: t) i = ndg t i := by
  rw [ndg, if_neg (by omega)]
theorem ndg_new (x : Int32 × Int32 × Int32) (t : nL3) : ndg (x :: t) t.length = x := by
  rw [ndg, if_pos rfl]
def aR1 (c : Int32) (nd : nL3) : List Nat → nL3 × List Nat
  | [] => (nd, [])
  | [e] => if rk c = 5 then ((c, nI e, -1) :: nd, [nd.length]) else (nd, [e])
  | e :: e1 :: es => if rk c = 5 then ((c, nI e, -1) :: nd, nd.length :: e1 :: es) else ((c, nI e1, nI e) :: nd, nd.length :: es)
def aRF (least : Nat) : List Int32 → nL3 → List Nat → nL3 × List Int32 × List Nat
  | [], nd, opd => (nd, [], opd)
  | c :: t, nd, opd => if least ≤ rk c then aRF least t (aR1 c nd opd).1 (aR1 c nd opd).2 else (nd, c :: t, opd)
def nbin : List Int32 → Nat
  | [] => 0
  | c :: t => nbin t + if 1 ≤ rk c ∧ rk c ≤ 4 then 1 else 0
def npar : List Int32 → Nat
  | [] => 0
  | c :: t => npar t + if c = 40 then 1 else 0
def ntm : List Int32 → Nat
  | [] => 0
  | c :: t => ntm t + (tmd c).toNat
def ntn : nL3 → Nat
  | [] => 0
  | x :: t => ntn t + (tmd x.1).toNat
def oOk (ops : List Int32) : Prop := ∀ c ∈ ops, c = 40 ∨ 1 ≤ rk c
def aPR (nd : nL3) (ops : List Int32) (opd : List Nat) : Prop := oOk ops ∧ opd.length = nbin ops + 1 ∧ tCh (ndg nd) opd nd.length
theorem rk_40 : rk 40 = 0 := by decide
theorem aR1_ok {c : Int32} {nd : nL3} {t : List Int32} {opd : List Nat} (h : aPR nd (c :: t) opd) (hc : 1 ≤ rk c) : aPR (aR1 c nd opd).1 t (aR1 c nd opd).2 ∧ (aR1 c nd opd).1.length = nd.length + 1 ∧ ntn (aR1 c nd opd).1 = ntn nd + (tmd c).toNat := by
  obtain ⟨h1, h2, h3⟩ := h
  have h1' : oOk t := fun q hq => h1 q (List.mem_cons_of_mem _ hq)
  rw [nbin] at h2
  by_cases h5 : rk c = 5
  · rw [if_neg (by omega)] at h2
    have key : ∀ e es, opd = e :: es → aR1 c nd opd = ((c, nI e, -1) :: nd, nd.length :: es) := by
      intro e es e1
      subst e1
      cases es <;> simp [aR1, h5]
    cases opd with
    | nil => simp at h2
    | cons e es =>
      rw [key e es rfl]
      obtain ⟨h4, a, ⟨f, h6⟩, h7⟩ := h3
      refine ⟨⟨h1', by simpa using h2, ?_⟩, by simp, by simp [ntn]⟩
      refine ⟨by simp, a, ⟨f + 1, Or.inr (Or.inl ?_)⟩, tCh_same (fun i hi => ndg_old _ _ (by have := tT_le h6; omega)) h7⟩
      rw [ndg_new]
      refine ⟨h5, by have := tT_le h6; omega, by simp [h4], rfl, ?_⟩
      rw [show nd.length - 1 = e by omega]
      exact tT_same (fun i hi => ndg_old _ _ (by omega)) h6
  · have h4 : rk c ≤ 4 := by have := rk_5 c; omega
    rw [if_pos ⟨hc, h4⟩] at h2
    cases opd with
    | nil => simp at h2
    | cons e es =>
      cases es with
      | nil => simp at h2
      | cons e1 es =>
        have e0 : aR1 c nd (e :: e1 :: es) = ((c, nI e1, nI e) :: nd, nd.length :: es) := by simp [aR1, h5]
        rw [e0]
        obtain ⟨g4, a, ⟨f, g6⟩, g7, b, ⟨f2, g8⟩, g9⟩ := h3
        have l1 := tT_le g6
        have l2 := tT_le g8
        refine ⟨⟨h1', by simp at h2 ⊢; omega, ?_⟩, by simp, by simp [ntn]⟩
        refine ⟨by simp, b, ⟨f + f2 + 1, Or.inr (Or.inr ?_)⟩, tCh_same (fun i hi => ndg_old _ _ (by omega)) g9⟩
        rw [ndg_new]
        refine ⟨hc, h4, e1, by omega, by omega, rfl, by simp [g4], tT_up (by omega) (tT_same (fun i hi => ndg_old _ _ (by omega)) g8), ?_⟩
        rw [show nd.length - 1 = e by omega, ← g7]
        exact tT_up (by omega) (tT_same (fun i hi => ndg_old _ _ (by omega)) g6)
theorem aRF_ok {least : Nat} (hl : 1 ≤ least) : ∀ {ops : List Int32} {nd : nL3} {opd : List Nat}, aPR nd ops opd → aPR (aRF least ops nd opd).1 (aRF least ops nd opd).2.1 (aRF least ops nd opd).2.2 ∧ (aRF least ops nd opd).1.length + (aRF least ops nd opd).2.1.length = nd.length + ops.length ∧ npar (aRF least ops nd opd).2.1 = npar ops ∧ ntn (aRF least ops nd opd).1 + ntm (aRF least ops nd opd).2.1 = ntn nd + ntm ops ∧ (∀ c t, (aRF least ops nd opd).2.1 = c :: t → rk c < least) ∧ (∀ c ∈ (aRF least ops nd opd).2.1, c ∈ ops)
  | [], nd, opd, h => ⟨h, rfl, rfl, rfl, fun c t e => by simp [aRF] at e, fun c hc => hc⟩
  | c :: t, nd, opd, h => by
    rw [aRF]
    by_cases hc : least ≤ rk c
    · rw [if_pos hc]
      obtain ⟨h1, h2, h3⟩ := aR1_ok h (by omega)
      obtain ⟨q1, q2, q3, q4, q5, q6⟩ := aRF_ok hl h1
      refine ⟨q1, by rw [q2, h2]; simp; omega, ?_, by rw [q4, h3, ntm]; omega, q5, fun d hd => List.mem_cons_of_mem _ (q6 d hd)⟩
      rw [q3, npar, if_neg (fun e => by rw [e, rk_40] at hc; omega), Nat.add_zero]
    · rw [if_neg hc]
      exact ⟨h, rfl, rfl, rfl, fun d u e => by simp at e; obtain ⟨rfl, _⟩ := e; omega, fun d hd => hd⟩
theorem npar_0 {ops : List Int32} (h : oOk ops) (h0 : npar ops = 0) (ht : ∀ c t, ops = c :: t → rk c < 1) : ops = [] := by
  cases ops with
  | nil => rfl
  | cons c t =>
    rcases h c List.mem_cons_self with e | e
    · rw [npar, if_pos e] at h0
      omega
    · have := ht c t rfl
      omega
theorem npar_1 {ops : List Int32} (h : oOk ops) (h0 : npar ops ≠ 0) (ht : ∀ c t, ops = c :: t → rk c < 1) : ∃ t, ops = 40 :: t := by
  cases ops with
  | nil => exact absurd rfl h0
  | cons c t =>
    rcases h c List.mem_cons_self with e | e
    · exact ⟨t, by rw [e]⟩
    · have := ht c t rfl
      omega
/-- a state of the reading: nodes, operators that wait, units that are ready, depth, deepest, whether a unit is wanted -/
abbrev aS : Type := nL3 × List Int32 × List Nat × Nat × Nat × Bool
def aStep (s : aS) (c : Int32) : Option aS := match s with
  | (nd, ops, opd, d, mx, true) => if atm c = true then some ((c, -1, -1) :: nd, ops, nd.length :: opd, d, mx, false) else if c = 40 then some (nd, c :: ops, opd, d + 1, max mx (d + 1), true) else if rk c = 5 then some (nd, c :: ops, opd, d, mx, true) else none
  | (nd, ops, opd, d, mx, false) => if c = 41 then (if d = 0 then none else some ((aRF 1 ops nd opd).1, (aRF 1 ops nd opd).2.1.tail, (aRF 1 ops nd opd).2.2, d - 1, mx, false)) else if rk c = 0 ∨ rk c = 5 then none else some ((aRF (if rgt c then rk c + 1 else rk c) ops nd opd).1, c :: (aRF (if rgt c then rk c + 1 else rk c) ops nd opd).2.1, (aRF (if rgt c then rk c + 1 else rk c) ops nd opd).2.2, d, mx, true)
def aGo (T : Nat → Int32) : Nat → Nat → aS → Option aS
  | 0, _, s => some s
  | m + 1, i, s => match aStep s (T i) with
    | none => none
    | some s2 => aGo T m (i + 1) s2
def ntT (T : Nat → Int32) : Nat → Nat
  | 0 => 0
  | n + 1 => ntT T n + (tmd (T n)).toNat
def aI (T : Nat → Int32) (i : Nat) (s : aS) : Prop := oOk s.2.1 ∧ npar s.2.1 = s.2.2.2.1 ∧ s.2.2.2.1 ≤ s.2.2.2.2.1 ∧ s.2.2.1.length = nbin s.2.1 + (if s.2.2.2.2.2 then 0 else 1) ∧ tCh (ndg s.1) s.2.2.1 s.1.length ∧ s.1.length + s.2.1.length ≤ i ∧ ntn s.1 + ntm s.2.1 = ntT T i ∧ (∀ c ∈ s.2.1, ∃ j, j < i ∧ T j = c) ∧ (∀ x ∈ s.1, ∃ j, j < i ∧ T j = x.1)
theorem aI_0 (T : Nat → Int32) : aI T 0 ([], [], [], 0, 0, true) := ⟨fun _ h => by simp at h, rfl, Nat.le_refl _, rfl, rfl, Nat.le_refl _, rfl, fun _ h => by simp at h, fun _ h => by simp at h⟩
theorem tmd_atm {c : Int32} (h : atm c = true) : tmd c = false := by
  rw [atm, decide_eq_true_iff] at h
  rw [tmd, decide_eq_false_iff_not]
  rintro (e | e | e | e | e) <;> subst e <;> revert h <;> decide
theorem rk_atm {c : Int32} (h : atm c = true) : rk c = 0 ∧ c ≠ 40 ∧ c ≠ 41 := by
  rw [atm, decide_eq_true_iff] at h
  have q : ∀ d : Int32, d = 33 ∨ d = 70 ∨ d = 71 ∨ d = 88 ∨ d = 82 ∨ d = 85 ∨ d = 38 ∨ d = 124 ∨ d = 62 ∨ d = 40 ∨ d = 41 → c ≠ d := by
    rintro d (e | e | e | e | e | e | e | e | e | e | e) e2 <;> subst e <;> subst e2 <;> revert h <;> decide
  refine ⟨?_, q 40 (by simp), q 41 (by simp)⟩
  simp only [rk, q 33 (by simp), q 70 (by simp), q 71 (by simp), q 88 (by simp), q 82 (by simp), q 85 (by simp), q 38 (by simp), q 124 (by simp), q 62 (by simp), or_self, if_false]
theorem aI_RF {T : Nat → Int32} {i : Nat} {nd : nL3} {ops : List Int32} {opd : List Nat} {d mx : Nat} (h : aI T i (nd, ops, opd, d, mx, false)) : aPR nd ops opd := ⟨h.1, by simpa using h.2.2.2.1, h.2.2.2.2.1⟩
theorem aR1_in {c : Int32} {nd : nL3} {opd : List Nat} : ∀ x ∈ (aR1 c nd opd).1, x.1 = c ∨ x ∈ nd := by
  intro x hx
  unfold aR1 at hx
  split at hx
  · exact Or.inr hx
  · split at hx
    · rcases List.mem_cons.mp hx with e | e
      · exact Or.inl (by rw [e])
      · exact Or.inr e
    · exact Or.inr hx
  · split at hx <;> (rcases List.mem_cons.mp hx with e | e; exact Or.inl (by rw [e]); exact Or.inr e)
theorem aRF_in {least : Nat} : ∀ {ops : List Int32} {nd : nL3} {opd : List Nat}, ∀ x ∈ (aRF least ops nd opd).1, x.1 ∈ ops ∨ x ∈ nd
  | [], nd, opd, x, hx => Or.inr hx
  | c :: t, nd, opd, x, hx => by
    rw [aRF] at hx
    split at hx
    · rcases aRF_in x hx with e | e
      · exact Or.inl (List.mem_cons_of_mem _ e)
      · rcases aR1_in x e with e | e
        · exact Or.inl (by rw [e]; exact List.mem_cons_self)
        · exact Or.inr e
    · exact Or.inr hx
theorem aI_s {T : Nat → Int32} {i : Nat} {s s2 : aS} (h : aI T i s) (hs : aStep s (T i) = some s2) : aI T (i + 1) s2 := by
  obtain ⟨nd, ops, opd, d, mx, w⟩ := s
  cases w with
  | true =>
    obtain ⟨h1, h2, h3, h4, h5, h6, h7, h8, h9⟩ := h
    simp only at h1 h2 h3 h4 h5 h6 h7 h8 h9
    rw [aStep] at hs
    by_cases ha : atm (T i) = true
    · rw [if_pos ha] at hs
      injection hs with hs
      subst hs
      refine ⟨h1, h2, h3, by simpa using h4, ?_, by simp; omega, ?_, fun c hc => ?_, fun x hx => ?_⟩
      · refine ⟨by simp, nd.length, ⟨1, Or.inl ?_⟩, tCh_same (fun j hj => ndg_old _ _ (by omega)) h5⟩
        rw [ndg_new]
        exact ⟨ha, rfl, rfl, rfl⟩
      · simp only [ntn, ntT, tmd_atm ha]
        simpa using h7
      · obtain ⟨j, q1, q2⟩ := h8 c hc
        exact ⟨j, by omega, q2⟩
      · rcases List.mem_cons.mp hx with e | e
        · exact ⟨i, by omega, by rw [e]⟩
        · obtain ⟨j, q1, q2⟩ := h9 x e
          exact ⟨j, by omega, q2⟩
    · rw [if_neg ha] at hs
      have mem : ∀ c ∈ T i :: ops, ∃ j, j < i + 1 ∧ T j = c := fun c hc => by
        rcases List.mem_cons.mp hc with e | e
        · exact ⟨i, by omega, e.symm⟩
        · obtain ⟨j, q1, q2⟩ := h8 c e
          exact ⟨j, by omega, q2⟩
      have mem2 : ∀ x ∈ nd, ∃ j, j < i + 1 ∧ T j = x.1 := fun x hx => by
        obtain ⟨j, q1, q2⟩ := h9 x hx
        exact ⟨j, by omega, q2⟩
      by_cases hp : T i = 40
      · rw [if_pos hp] at hs
        injection hs with hs
        subst hs
        refine ⟨fun c hc => ?_, ?_, ?_, ?_, h5, by simp; omega, ?_, mem, mem2⟩
        · rcases List.mem_cons.mp hc with e | e
          · exact Or.inl (e.trans hp)
          · exact h1 c e
        · simp [npar, hp, h2]
        · simp only
          omega
        · simp only [nbin, hp, rk_40]
          simpa using h4
        · simp only [ntm, ntT, hp, show tmd 40 = false from by decide]
          simpa using h7
      · rw [if_neg hp] at hs
        by_cases h5' : rk (T i) = 5
        · rw [if_pos h5'] at hs
          injection hs with hs
          subst hs
          refine ⟨fun c hc => ?_, ?_, h3, ?_, h5, by simp; omega, ?_, mem, mem2⟩
          · rcases List.mem_cons.mp hc with e | e
            · exact Or.inr (by rw [e]; omega)
            · exact h1 c e
          · simp [npar, hp, h2]
          · simp only [nbin, h5']
            simpa using h4
          · simp only [ntm, ntT]
            omega
        · rw [if_neg h5'] at hs
          exact absurd hs (by simp)
  | false =>
    have hpr := aI_RF h
    obtain ⟨h1, h2, h3, h4, h5, h6, h7, h8, h9⟩ := h
    simp only at h1 h2 h3 h4 h5 h6 h7 h8 h9
    rw [aStep] at hs
    have mem2 : ∀ least, ∀ x ∈ (aRF least ops nd opd).1, ∃ j, j < i + 1 ∧ T j = x.1 := fun least x hx => by
      rcases aRF_in x hx with e | e
      · obtain ⟨j, q1, q2⟩ := h8 _ e
        exact ⟨j, by omega, q2⟩
      · obtain ⟨j, q1, q2⟩ := h9 x e
        exact ⟨j, by omega, q2⟩
    by_cases hc : T i = 41
    · rw [if_pos hc] at hs
      by_cases hd : d = 0
      · rw [if_pos hd] at hs
        exact absurd hs (by simp)
      · rw [if_neg hd] at hs
        injection hs with hs
        subst hs
        obtain ⟨q1, q2, q3, q4, q5, q6⟩ := aRF_ok (least := 1) (by omega) hpr
        obtain ⟨t, ht⟩ := npar_1 q1.1 (by rw [q3, h2]; exact hd) q5
        rw [ht] at q2 q3 q4 q6
        have q1' := q1
        rw [ht] at q1'
        simp only [npar, ntm, List.length_cons] at q2 q3 q4
        refine ⟨fun c hc2 => q1'.1 c (by simp only [ht, List.tail_cons] at hc2; exact List.mem_cons_of_mem _ hc2), ?_, by simp only; omega, ?_, q1.2.2, ?_, ?_, fun c hc2 => ?_, mem2 1⟩
        · simp only [ht, List.tail_cons]
          simp at q3
          omega
        · have q7 := q1'.2.1
          simp only [nbin, rk_40] at q7
          simp only [ht, List.tail_cons]
          simpa using q7
        · simp only [ht, List.tail_cons]
          omega
        · simp only [ht, List.tail_cons, ntT, hc, show tmd 41 = false from by decide]
          simp only [show tmd 40 = false from by decide] at q4
          simp at q4 ⊢
          omega
        · simp only [ht, List.tail_cons] at hc2
          obtain ⟨j, r1, r2⟩ := h8 c (q6 c (List.mem_cons_of_mem _ hc2))
          exact ⟨j, by omega, r2⟩
    · rw [if_neg hc] at hs
      by_cases h05 : rk (T i) = 0 ∨ rk (T i) = 5
      · rw [if_pos h05] at hs
        exact absurd hs (by simp)
      · rw [if_neg h05] at hs
        injection hs with hs
        subst hs
        generalize hl : (if rgt (T i) then rk (T i) + 1 else rk (T i)) = least
        have hl1 : 1 ≤ least := by
          rw [← hl]
          split <;> omega
        obtain ⟨q1, q2, q3, q4, q5, q6⟩ := aRF_ok hl1 hpr
        have hr := rk_5 (T i)
        refine ⟨fun c hc2 => ?_, ?_, h3, ?_, q1.2.2, by simp; omega, ?_, fun c hc2 => ?_, mem2 least⟩
        · rcases List.mem_cons.mp hc2 with e | e
          · exact Or.inr (by rw [e]; omega)
          · exact q1.1 c e
        · simp only [npar, q3, h2]
          rw [if_neg (fun e => h05 (Or.inl (by rw [e, rk_40])))]
          rfl
        · have q7 := q1.2.1
          simp only [nbin]
          rw [if_pos (by omega)]
          simpa using q7
        · simp only [ntm, ntT]
          omega
        · rcases List.mem_cons.mp hc2 with e | e
          · exact ⟨i, by omega, e.symm⟩
          · obtain ⟨j, r1, r2⟩ := h8 c (q6 c e)
            exact ⟨j, by omega, r2⟩
theorem aStep_mx {s s2 : aS} {c : Int32} (hs : aStep s c = some s2) : s.2.2.2.2.1 ≤ s2.2.2.2.2.1 := by
  obtain ⟨nd, ops, opd, d, mx, w⟩ := s
  cases w <;> rw [aStep] at hs <;> repeat' split at hs
  all_goals first | (injection hs with hs; subst hs; simp; done) | (injection hs with hs; subst hs; exact Nat.le_refl _) | (injection hs with hs; subst hs; simp only; omega) | (exact absurd hs (by simp))
theorem aGo_mx {T : Nat → Int32} : ∀ {m i : Nat} {s s2 : aS}, aGo T m i s = some s2 → s.2.2.2.2.1 ≤ s2.2.2.2.2.1
  | 0, _, _, _, h => by
    injection h with h
    subst h
    exact Nat.le_refl _
  | m + 1, i, s, s2, h => by
    rw [aGo] at h
    split at h
    · exact absurd h (by simp)
    · rename_i s3 h3
      exact Nat.le_trans (aStep_mx h3) (aGo_mx h)
theorem aGo_I {T : Nat → Int32} : ∀ {m i : Nat} {s s2 : aS}, aI T i s → aGo T m i s = some s2 → aI T (i + m) s2
  | 0, _, _, _, hI, h => by
    injection h with h
    subst h
    exact hI
  | m + 1, i, s, s2, hI, h => by
    rw [aGo] at h
    split at h
    · exact absurd h (by simp)
    · rename_i s3 h3
      have := aGo_I (aI_s hI h3) h
      rwa [show i + 1 + m = i + (m + 1) by omega] at this
/-- a formula has been read: its nodes -/
def aEnd (T : Nat → Int32) (n : Nat) (nd : nL3) : Prop := ∃ (ops : List Int32) (opd : List Nat) (mx : Nat), aGo T n 0 ([], [], [], 0, 0, true) = some (nd, ops, opd, 0, mx, false)
theorem aEnd_ok {T : Nat → Int32} {n : Nat} {nd : nL3} {ops : List Int32} {opd : List Nat} {mx : Nat} (h : aGo T n 0 ([], [], [], 0, 0, true) = some (nd, ops, opd, 0, mx, false)) : (aRF 1 ops nd opd).2.1 = [] ∧ (aRF 1 ops nd opd).2.2 = [(aRF 1 ops nd opd).1.length - 1] ∧ 0 < (aRF 1 ops nd opd).1.length ∧ (aRF 1 ops nd opd).1.length ≤ n ∧ tTT (ndg (aRF 1 ops nd opd).1) 0 ((aRF 1 ops nd opd).1.length - 1) ∧ ntn (aRF 1 ops nd opd).1 = ntT T n ∧ ∀ x ∈ (aRF 1 ops nd opd).1, ∃ j, j < n ∧ T j = x.1 := by
  have hI := aGo_I (aI_0 T) h
  rw [Nat.zero_add] at hI
  obtain ⟨q1, q2, q3, q4, q5, q6⟩ := aRF_ok (least := 1) (by omega) (aI_RF hI)
  have e1 := npar_0 q1.1 (by rw [q3]; exact hI.2.1) q5
  rw [e1] at q1 q2 q4
  have h6 := hI.2.2.2.2.2.1
  have h7 := hI.2.2.2.2.2.2.1
  simp only at h6 h7
  obtain ⟨-, r2, r3⟩ := q1
  generalize hq : (aRF 1 ops nd opd).2.2 = opd2 at r2 r3
  cases opd2 with
  | nil => simp [nbin] at r2
  | cons e t =>
    cases t with
    | cons e2 t => simp [nbin] at r2
    | nil =>
      obtain ⟨r4, a, r5, r6⟩ := r3
      have r6' : a = 0 := r6
      subst r6'
      refine ⟨e1, by rw [r4]; simp, by omega, by simp at q2; omega, by rw [r4]; simpa using r5, by simp [ntm] at q4; omega, fun x hx => ?_⟩
      rcases aRF_in x hx with e | e
      · exact hI.2.2.2.2.2.2.2.1 _ e
      · exact hI.2.2.2.2.2.2.2.2 x e
