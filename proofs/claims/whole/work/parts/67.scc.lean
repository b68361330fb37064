/-! The knots -/
/-! The knots: pure rows -/
def scK (T : Nat) (J : Nat → Nat → Bool) (pre : Nat → Nat → Nat → Nat) (v i : Nat) : Option Nat := if v / 32 < 6 ∧ v % 32 < 2 ^ T ∧ i < 6 ∧ J i (v / 32) = true then some (32 * i + pre i (v / 32) (v % 32)) else none
theorem scK_E {T : Nat} (hT : T ≤ 5) {J : Nat → Nat → Bool} {pre : Nat → Nat → Nat → Nat} {a b : Nat} : ko_E (scK T J pre) a b ↔ eG 32 T J pre b a := by
  have p5 : (2 : Nat) ^ T ≤ 32 := Nat.pow_le_pow_right (by omega : 0 < 2) hT
  constructor
  · rintro ⟨i, hi, h⟩
    unfold scK at h
    split at h
    · rename_i hc
      obtain ⟨c1, c2, c3, c4⟩ := hc
      injection h with h
      exact ⟨i, a / 32, a % 32, hi, c1, c4, c2, by omega, h.symm⟩
    · exact absurd h (by simp)
  · rintro ⟨s, t, G, h1, h2, h3, h4, rfl, rfl⟩
    have e1 : (32 * t + G) / 32 = t := by omega
    have e2 : (32 * t + G) % 32 = G := by omega
    refine ⟨s, h1, ?_⟩
    rw [scK, e1, e2, if_pos ⟨h2, h4, h1, h3⟩]
theorem koR_gx {T : Nat} (hT : T ≤ 5) {J : Nat → Nat → Bool} {pre : Nat → Nat → Nat → Nat} {a b : Nat} : ko_R (scK T J pre) a b ↔ gx_R (eG 32 T J pre) b a := by
  constructor
  · rintro ⟨n, h⟩
    refine gx_R.rev (E := eG 32 T J pre) ?_
    induction n generalizing a with
    | zero =>
      have e : a = b := h
      subst e
      exact gx_R.rf a
    | succ n ih =>
      obtain ⟨c, h1, h2⟩ := h
      exact gx_R.cons ((scK_E hT).mp h1) (ih h2)
  · rintro ⟨n, h⟩
    induction n generalizing b with
    | zero =>
      have e : b = a := h
      subst e
      exact ko_R.rf b
    | succ n ih =>
      obtain ⟨c, h1, h2⟩ := h
      exact (ih h2).snoc ((scK_E hT).mpr h1)
theorem gx_RP {E : Nat → Nat → Prop} {a b : Nat} (h : gx_R E a b) (hn : a ≠ b) : gx_P E a b := by
  obtain ⟨n, h⟩ := h
  cases n with
  | zero => exact absurd h hn
  | succ n =>
    obtain ⟨c, h1, h2⟩ := h
    exact ⟨c, h1, n, h2⟩
/-- the nodes of a set that all reach one another: are they a knot? -/
theorem K_scc {T : Nat} (hT : T ≤ 5) {J : Nat → Nat → Bool} {pre : Nat → Nat → Nat → Nat} {goal : Nat → Nat → Prop} {C : List Nat} {w : Nat} (hne : ∀ c ∈ C, c ≠ w) (h : ∀ x ∈ C ++ [w], ∀ y, (ko_R (scK T J pre) x y ∧ ko_R (scK T J pre) y x) ↔ y ∈ C ++ [w]) {x : Nat} (hx : x ∈ C ++ [w]) : gx_K (eG 32 T J pre) goal T x ↔ ((C ≠ [] ∨ eG 32 T J pre w w) ∧ ∀ k, k < T → ∃ u ∈ C ++ [w], goal k u) := by
  have hw : w ∈ C ++ [w] := by simp
  have hR : ∀ a ∈ C ++ [w], ∀ b ∈ C ++ [w], gx_R (eG 32 T J pre) a b := fun a ha b hb => (koR_gx hT).mp ((h a ha b).mpr hb).2
  have hm : ∀ a ∈ C ++ [w], ∀ b, gx_R (eG 32 T J pre) a b → gx_R (eG 32 T J pre) b a → b ∈ C ++ [w] := fun a ha b h1 h2 => (h a ha b).mp ⟨(koR_gx hT).mpr h2, (koR_gx hT).mpr h1⟩
  constructor
  · rintro ⟨⟨c, h1, h2⟩, h3⟩
    refine ⟨?_, fun k hk => ?_⟩
    · have hc := hm x hx c (gx_R.one h1) h2
      by_cases hC : C = []
      · subst hC
        simp at hx hc
        subst hx
        subst hc
        exact Or.inr h1
      · exact Or.inl hC
    · obtain ⟨u, u1, u2, u3⟩ := h3 k hk
      exact ⟨u, hm x hx u u1 u2, u3⟩
  · rintro ⟨h1, h2⟩
    refine ⟨?_, fun k hk => ?_⟩
    · have hp : ∃ a ∈ C ++ [w], ∃ b ∈ C ++ [w], gx_P (eG 32 T J pre) a b := by
        rcases h1 with h1 | h1
        · cases C with
          | nil => exact absurd rfl h1
          | cons c C =>
            have hc : c ∈ c :: C ++ [w] := by simp
            exact ⟨c, hc, w, hw, gx_RP (hR c hc w hw) (hne c (by simp))⟩
        · exact ⟨w, hw, w, hw, w, h1, gx_R.rf w⟩
      obtain ⟨a, ha, b, hb, hp⟩ := hp
      exact gx_R.trP (hR x hx a ha) (hp.tr (hR b hb x hx))
    · obtain ⟨u, u1, u2⟩ := h2 k hk
      exact ⟨u, hR x hx u u1, hR u u1 x hx, u2⟩
/-- turns that are left on the walk -/
def phi (td : Nat → Nat) : List Nat → Nat
  | [] => 0
  | v :: t => (7 - td v) + phi td t
theorem phi_same {td td2 : Nat → Nat} : ∀ {l : List Nat}, (∀ v ∈ l, td2 v = td v) → phi td2 l = phi td l
  | [], _ => rfl
  | v :: t, h => by rw [phi, phi, h v (by simp), phi_same (l := t) (fun u hu => h u (by simp [hu]))]
theorem cn_up1 {p q : Nat → Bool} {v : Nat} (hp : p v = false) (hq : q v = true) (hs : ∀ i, i ≠ v → q i = p i) : ∀ {n : Nat}, v < n → cn q n = cn p n + 1
  | 0, h => absurd h (by omega)
  | n + 1, h => by
    have e0 : ∀ m, m ≤ v → cn q m = cn p m := by
      intro m hm
      induction m with
      | zero => rfl
      | succ m ih => rw [cn, cn, ih (by omega), hs m (by omega)]
    rw [cn, cn]
    by_cases e : v = n
    · subst e
      rw [e0 v (Nat.le_refl _), hp, hq]
      simp
    · rw [cn_up1 hp hq hs (n := n) (by omega), hs n (by omega)]
      omega
theorem pw_len {num : Nat → Nat} : ∀ {l : List Nat} {c : Nat}, l.Pairwise (fun a b => num b < num a) → (∀ v ∈ l, num v ≠ 0) → (∀ v ∈ l, num v ≤ c) → l.length ≤ c
  | [], _, _, _, _ => Nat.zero_le _
  | a :: t, c, h, h0, hc => by
    obtain ⟨h1, h2⟩ := List.pairwise_cons.mp h
    have := pw_len (c := num a - 1) h2 (fun v hv => h0 v (by simp [hv])) (fun v hv => by have := h1 v hv; omega)
    have := h0 a (by simp)
    have := hc a (by simp)
    simp
    omega
theorem pw_mem {num : Nat → Nat} {l : List Nat} (h : l.Pairwise (fun a b => num b < num a)) : l.Nodup := h.imp (fun {a b} h e => by subst e; omega)
/-- a stack of nodes in a row -/
def stN (f : Nat → Int32) : List Nat → Prop
  | [] => True
  | v :: t => f t.length = nI v ∧ stN f t
theorem stN_same {f g : Nat → Int32} : ∀ {l : List Nat}, (∀ i, i < l.length → g i = f i) → stN f l → stN g l
  | [], _, _ => trivial
  | x :: t, h, ⟨h1, h2⟩ => ⟨(h t.length (by simp)).trans h1, stN_same (fun i hi => h i (by simp; omega)) h2⟩
theorem stN_app {f : Nat → Int32} : ∀ {l l2 : List Nat}, stN f (l ++ l2) → stN f l2
  | [], _, h => h
  | _ :: t, _, h => stN_app (l := t) h.2
theorem mn_nI {a b : Nat} (ha : a < 2 ^ 31) (hb : b < 2 ^ 31) : (if nI b < nI a then nI b else nI a) = nI (min a b) := by
  by_cases h : b < a
  · rw [if_pos ((nI_ltI hb ha).mpr h), Nat.min_eq_right (by omega)]
  · rw [if_neg (fun q => h ((nI_ltI hb ha).mp q)), Nat.min_eq_left (by omega)]
/-! The walk's state: numbers, bounds, turns, and what is kept -/
def kV (T : Nat) (sc : Nat → Nat → Option Nat) (K : Nat → Prop) (A : Nat → Int32) (num low td : Nat → Nat) (cnt : Nat) (held walk : List Nat) : Prop := ko_I sc num low td cnt held walk ∧ cnt = cn (fun v => decide (num v ≠ 0)) 192 ∧ (∀ v, num v ≠ 0 → v < 192 ∧ v % 32 < 2 ^ T ∧ td v ≤ 6) ∧ ∀ s, s < 6 → ∀ g, g < 32 → (tb (A s) g = true ↔ (num (32 * s + g) ≠ 0 ∧ 32 * s + g ∉ held ∧ K (32 * s + g)))
section KV
variable {T : Nat} {sc : Nat → Nat → Option Nat} {K : Nat → Prop} {A : Nat → Int32} {num low td : Nat → Nat} {cnt : Nat} {held walk : List Nat} {w u : Nat}
theorem kV_cnt (h : kV T sc K A num low td cnt held walk) : cnt ≤ 192 ∧ ∀ v, num v ≤ cnt := by
  obtain ⟨h1, h2, _, _⟩ := h
  exact ⟨by rw [h2]; exact cn_n _ _, h1.1⟩
theorem kV_new (h : kV T sc K A num low td cnt held walk) (hu : u < 192) (h0 : num u = 0) : cnt < 192 ∧ cn (fun v => decide (ko_U num u (cnt + 1) v ≠ 0)) 192 = cnt + 1 := by
  obtain ⟨h1, h2, _, _⟩ := h
  have e := cn_up1 (p := fun v => decide (num v ≠ 0)) (q := fun v => decide (ko_U num u (cnt + 1) v ≠ 0)) (v := u) (by simp [h0]) (by simp [ko_U]) (fun i hi => by simp [ko_U, hi]) hu
  rw [← h2] at e
  have := cn_n (fun v => decide (ko_U num u (cnt + 1) v ≠ 0)) 192
  exact ⟨by omega, e⟩
theorem kV_enterA (h : kV T sc K A num low td cnt held walk) (hu : u < 192) (hu2 : u % 32 < 2 ^ T) (h0 : num u = 0) {td2 low2 : Nat → Nat} {walk2 : List Nat} (ht : ∀ v, num v ≠ 0 → td2 v ≤ 6) (hI : ko_I sc (ko_U num u (cnt + 1)) low2 (ko_U td2 u 0) (cnt + 1) (u :: held) walk2) : kV T sc K A (ko_U num u (cnt + 1)) low2 (ko_U td2 u 0) (cnt + 1) (u :: held) walk2 := by
  obtain ⟨e1, e2⟩ := kV_new h hu h0
  obtain ⟨h1, h2, h3, h4⟩ := h
  refine ⟨hI, e2.symm, fun v hv => ?_, fun s hs g hg => ?_⟩
  · by_cases e : v = u
    · subst e
      exact ⟨hu, hu2, by simp [ko_U]⟩
    · rw [ko_U_n _ _ e] at hv ⊢
      obtain ⟨a, b, _⟩ := h3 v hv
      exact ⟨a, b, ht v hv⟩
  · rw [h4 s hs g hg]
    by_cases e : 32 * s + g = u
    · rw [e]
      constructor
      · exact fun q => absurd h0 q.1
      · exact fun q => absurd (by simp) q.2.1
    · rw [ko_U_n _ _ e]
      simp [e]
theorem kV_enter0 (h : kV T sc K A num low td cnt [] []) (hu : u < 192) (hu2 : u % 32 < 2 ^ T) (h0 : num u = 0) : kV T sc K A (ko_U num u (cnt + 1)) (ko_U low u (cnt + 1)) (ko_U td u 0) (cnt + 1) [u] [u] ∧ 7 * (192 - (cnt + 1)) + phi (ko_U td u 0) [u] ≤ 1344 := by
  obtain ⟨e1, e2⟩ := kV_new h hu h0
  refine ⟨kV_enterA h hu hu2 h0 (fun v hv => (h.2.2.1 v hv).2.2) (ko_I_enter0 h.1 h0), ?_⟩
  simp [phi, ko_U]
  omega
theorem kV_top (h : kV T sc K A num low td cnt held (w :: walk)) : w ∈ held ∧ num w ≠ 0 ∧ w < 192 ∧ w % 32 < 2 ^ T ∧ td w ≤ 6 ∧ w ∉ walk ∧ low w ≤ num w ∧ (∀ v ∈ w :: walk, num v ≠ 0) := by
  obtain ⟨⟨i1, i2, i3, i4, i5, i6, i7, i8, i9, i10, i11, i12, i13⟩, h2, h3, h4⟩ := h
  have hm := i5 w (by simp)
  have h0 := i3 w hm
  obtain ⟨a, b, c⟩ := h3 w h0
  refine ⟨hm, h0, a, b, c, ?_, (i12 w (by simp)).1, fun v hv => i3 v (i5 v hv)⟩
  exact (List.nodup_cons.mp (pw_mem i6)).1
theorem phi_step (hw : w ∉ walk) (h6 : td w < 6) : phi (ko_U td w (td w + 1)) (w :: walk) + 1 = phi td (w :: walk) := by
  have e : phi (ko_U td w (td w + 1)) walk = phi td walk := phi_same (fun v hv => ko_U_n td _ (fun e => hw (by rw [← e]; exact hv)))
  rw [phi, phi, ko_U_s, e]
  omega
theorem kV_tdle (h : kV T sc K A num low td cnt held (w :: walk)) (h6 : td w < 6) : ∀ v, num v ≠ 0 → ko_U td w (td w + 1) v ≤ 6 := by
  intro v hv
  by_cases e : v = w
  · subst e
    rw [ko_U_s]
    omega
  · rw [ko_U_n _ _ e]
    exact (h.2.2.1 v hv).2.2
theorem kV_skip (h : kV T sc K A num low td cnt held (w :: walk)) (h6 : td w < 6) (ht : ∀ v, sc w (td w) = some v → num v ≠ 0 ∧ v ∉ held) : kV T sc K A num low (ko_U td w (td w + 1)) cnt held (w :: walk) ∧ 7 * (192 - cnt) + phi (ko_U td w (td w + 1)) (w :: walk) + 1 = 7 * (192 - cnt) + phi td (w :: walk) := by
  have q := kV_top h
  refine ⟨⟨ko_I_skip h.1 ht, h.2.1, fun v hv => ⟨(h.2.2.1 v hv).1, (h.2.2.1 v hv).2.1, kV_tdle h h6 v hv⟩, h.2.2.2⟩, ?_⟩
  have := phi_step q.2.2.2.2.2.1 h6
  omega
theorem kV_held (h : kV T sc K A num low td cnt held (w :: walk)) (h6 : td w < 6) (hs : sc w (td w) = some u) (hv : u ∈ held) : kV T sc K A num (ko_U low w (min (low w) (num u))) (ko_U td w (td w + 1)) cnt held (w :: walk) ∧ 7 * (192 - cnt) + phi (ko_U td w (td w + 1)) (w :: walk) + 1 = 7 * (192 - cnt) + phi td (w :: walk) := by
  have q := kV_top h
  refine ⟨⟨ko_I_held h.1 h6 hs hv, h.2.1, fun v hv => ⟨(h.2.2.1 v hv).1, (h.2.2.1 v hv).2.1, kV_tdle h h6 v hv⟩, h.2.2.2⟩, ?_⟩
  have := phi_step q.2.2.2.2.2.1 h6
  omega
theorem kV_enter (h : kV T sc K A num low td cnt held (w :: walk)) (h6 : td w < 6) (hs : sc w (td w) = some u) (hu : u < 192) (hu2 : u % 32 < 2 ^ T) (h0 : num u = 0) : kV T sc K A (ko_U num u (cnt + 1)) (ko_U low u (cnt + 1)) (ko_U (ko_U td w (td w + 1)) u 0) (cnt + 1) (u :: held) (u :: w :: walk) ∧ 7 * (192 - (cnt + 1)) + phi (ko_U (ko_U td w (td w + 1)) u 0) (u :: w :: walk) + 1 = 7 * (192 - cnt) + phi td (w :: walk) := by
  have q := kV_top h
  obtain ⟨e1, e2⟩ := kV_new h hu h0
  refine ⟨kV_enterA h hu hu2 h0 (kV_tdle h h6) (ko_I_enter h.1 h6 hs h0), ?_⟩
  have := phi_step q.2.2.2.2.2.1 h6
  rw [phi, ko_U_s, phi_same (td := ko_U td w (td w + 1)) (fun v hv => ko_U_n _ _ (fun e => q.2.2.2.2.2.2.2 v hv (e ▸ h0)))]
  omega
theorem kV_merge (h : kV T sc K A num low td cnt held (w :: walk)) (h6 : ¬ td w < 6) (hl : low w < num w) : ∃ u rest, walk = u :: rest ∧ kV T sc K A num (ko_U low u (min (low u) (low w))) td cnt held (u :: rest) ∧ 7 * (192 - cnt) + phi td (u :: rest) + 1 = 7 * (192 - cnt) + phi td (w :: walk) := by
  have q := kV_top h
  obtain ⟨u, rest, e, hI⟩ := ko_I_merge h.1 (by omega) hl
  refine ⟨u, rest, e, ⟨hI, h.2⟩, ?_⟩
  subst e
  rw [phi.eq_2 td w]
  omega
theorem kV_nil (h : kV T sc K A num low td cnt held []) : held = [] := by
  obtain ⟨⟨i1, i2, i3, i4, i5, i6, i7, i8, _⟩, _⟩ := h
  cases held with
  | nil => rfl
  | cons x t =>
    obtain ⟨y, hy, _⟩ := i8 x (by simp)
    cases hy
end KV
/-- a set is let go -/
theorem kV_release {T : Nat} (hT : T ≤ 5) {J : Nat → Nat → Bool} {pre : Nat → Nat → Nat → Nat} {pr : Nat → Nat → Nat → Bool} (hpre : ∀ s t, s < 6 → t < 6 → J s t = true → ∀ g, g < 2 ^ T → pre s t g < 2 ^ T) {A B : Nat → Int32} {num low td : Nat → Nat} {cnt : Nat} {C rest walk : List Nat} {w : Nat} (h : kV T (scK T J pre) (gx_K (eG 32 T J pre) (gG 32 T pr) T) A num low td cnt (C ++ w :: rest) (w :: walk)) (h6 : ¬ td w < 6) (hl : low w = num w) {ok : Bool} (hok : ok = true ↔ ((C ≠ [] ∨ (J (w / 32) (w / 32) = true ∧ pre (w / 32) (w / 32) (w % 32) = w % 32)) ∧ ∀ k, k < T → ∃ u ∈ C ++ [w], pr k (u / 32) (u % 32) = true)) (hB : ∀ s, s < 6 → ∀ g, g < 32 → tb (B s) g = (tb (A s) g || (ok && decide (32 * s + g ∈ C ++ [w])))) : kV T (scK T J pre) (gx_K (eG 32 T J pre) (gG 32 T pr) T) B num low td cnt rest walk ∧ 7 * (192 - cnt) + phi td walk + 1 = 7 * (192 - cnt) + phi td (w :: walk) := by
  have p5 : (2 : Nat) ^ T ≤ 32 := Nat.pow_le_pow_right (by omega : 0 < 2) hT
  have q := kV_top h
  obtain ⟨h1, h2, h3, h4⟩ := h
  obtain ⟨r1, r2⟩ := ko_I_release h1 (by omega) hl
  obtain ⟨i1, i2, i3, i4, i5, i6, i7⟩ := h1
  have hnd := pw_mem i4
  have hne : ∀ c ∈ C, c ≠ w := fun c hc e => by
    have := (List.nodup_append.mp hnd).2.2 c hc w (by simp)
    exact this e
  have hin : ∀ x ∈ C ++ [w], x ∈ C ++ w :: rest := fun x hx => by
    simp at hx ⊢
    rcases hx with e | e
    · exact Or.inl e
    · exact Or.inr (Or.inl e)
  have hnr : ∀ x ∈ C ++ [w], x ∉ rest := fun x hx hr => by
    simp at hx
    rcases hx with e | e
    · exact (List.nodup_append.mp hnd).2.2 x e x (by simp [hr]) rfl
    · subst e
      exact (List.nodup_cons.mp (List.nodup_append.mp hnd).2.1).1 hr
  have hself : eG 32 T J pre w w ↔ (J (w / 32) (w / 32) = true ∧ pre (w / 32) (w / 32) (w % 32) = w % 32) := by
    constructor
    · rintro ⟨s, t, G, a1, a2, a3, a4, a5, a6⟩
      have e1 : w / 32 = t := by omega
      have e2 : w % 32 = G := by omega
      have := hpre s t a1 a2 a3 G a4
      have e3 : w / 32 = s := by omega
      rw [e2, e1]
      rw [e1] at e3
      subst e3
      exact ⟨a3, by omega⟩
    · rintro ⟨a1, a2⟩
      exact ⟨w / 32, w / 32, w % 32, by omega, by omega, a1, q.2.2.2.1, by omega, by omega⟩
  have hgoal : (∀ k, k < T → ∃ u ∈ C ++ [w], gG 32 T pr k u) ↔ ∀ k, k < T → ∃ u ∈ C ++ [w], pr k (u / 32) (u % 32) = true := by
    constructor
    · intro hh k hk
      obtain ⟨u, u1, s, G, a1, a2, a3, a4⟩ := hh k hk
      refine ⟨u, u1, ?_⟩
      rw [show u / 32 = s by omega, show u % 32 = G by omega]
      exact a4
    · intro hh k hk
      obtain ⟨u, u1, u2⟩ := hh k hk
      obtain ⟨b1, b2, _⟩ := h3 u (i3 u (hin u u1))
      exact ⟨u, u1, u / 32, u % 32, by omega, b2, by omega, u2⟩
  refine ⟨⟨r1, h2, h3, fun s hs g hg => ?_⟩, ?_⟩
  · rw [hB s hs g hg, Bool.or_eq_true, Bool.and_eq_true, decide_eq_true_iff, h4 s hs g hg]
    by_cases hm : 32 * s + g ∈ C ++ [w]
    · have hk := K_scc hT (goal := gG 32 T pr) hne r2 hm
      rw [hself, hgoal, ← hok] at hk
      rw [hk]
      constructor
      · rintro (a | a)
        · exact absurd (hin _ hm) a.2.1
        · exact ⟨i3 _ (hin _ hm), hnr _ hm, a.1⟩
      · exact fun a => Or.inr ⟨a.2.2, hm⟩
    · have e : 32 * s + g ∈ C ++ w :: rest ↔ 32 * s + g ∈ rest := by
        simp at hm ⊢
        constructor
        · rintro (a | a | a)
          · exact absurd a hm.1
          · exact absurd a hm.2
          · exact a
        · exact fun a => Or.inr (Or.inr a)
      rw [e]
      constructor
      · rintro (a | a)
        · exact a
        · exact absurd a.2 hm
      · exact Or.inl
  · rw [phi.eq_2 td w]
    omega
