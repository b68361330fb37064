/-! The two graphs -/
/-- what the class's graph holds: by state and guess what holds of each part, and the guess before -/
def gO (F : Nat → Int32) (S : Nat → Nat) (z T : Nat) (mk : Nat → Int32) (J : Nat → Nat → Bool) (Hs : Nat → Nat → Nat → Bool) (pre : Nat → Nat → Nat → Nat) : Prop :=
  (∀ s, s < 6 → ∀ G, G < 2 ^ T → ∀ r, r < z → Hs s G r = if tmd (F r) = true then G.testBit (nuF F z r) else uP F S (mk s) (Hs s G) r) ∧
  (∀ s t, s < 6 → t < 6 → J s t = true → ∀ G, G < 2 ^ T → pre s t G < 2 ^ T ∧ ∃ B : Nat → Bool, (∀ r, r < z → B r = if tmd (F r) = true then tP F S B (Hs t G) (G.testBit (nuF F z r)) r else uP F S (mk s) B r) ∧ ∀ r, r < z → tmd (F r) = true → (pre s t G).testBit (nuF F z r) = B r)
/-- what the reference's tables hold -/
def tO (g : Nat → Int32 × Int32 × Int32) (n T : Nat) (mk : Nat → Int32) (tp : Nat → Nat → Bool) (bef : Nat → Nat → Nat → Nat) (gl : Nat → Nat → Nat → Bool) : Prop :=
  ∀ t, t < 6 → ∀ b, b < 2 ^ T → ∃ V : Nat → Bool, (∀ y, y < n → V y = if tmd (g y).1 = true then b.testBit (tcn g y) else uN g (mk t) V y) ∧ tp t b = V (n - 1) ∧ (∀ y, y < n → tmd (g y).1 = true → gl (tcn g y) t b = pN g V y) ∧ ∀ s, s < 6 → bef s t b < 2 ^ T ∧ ∃ W : Nat → Bool, (∀ y, y < n → W y = if tmd (g y).1 = true then tN g W V (b.testBit (tcn g y)) y else uN g (mk s) W y) ∧ ∀ y, y < n → tmd (g y).1 = true → (bef s t b).testBit (tcn g y) = W y
/-- a graph's steps and goals, by nodes -/
def eG (c T : Nat) (J : Nat → Nat → Bool) (pre : Nat → Nat → Nat → Nat) (v w : Nat) : Prop := ∃ s t G, s < 6 ∧ t < 6 ∧ J s t = true ∧ G < 2 ^ T ∧ w = c * t + G ∧ v = c * s + pre s t G
def gG (c T : Nat) (pr : Nat → Nat → Nat → Bool) (k v : Nat) : Prop := ∃ s G, s < 6 ∧ G < 2 ^ T ∧ v = c * s + G ∧ pr k s G = true
theorem gx_simR {E E2 : Nat → Nat → Prop} {ρ : Nat → Nat → Prop} (hs : ∀ a b a2, E a b → ρ a a2 → ∃ b2, ρ b b2 ∧ E2 a2 b2) {a b : Nat} (h : gx_R E a b) : ∀ a2, ρ a a2 → ∃ b2, ρ b b2 ∧ gx_R E2 a2 b2 := by
  obtain ⟨n, h⟩ := h
  induction n generalizing a with
  | zero =>
    intro a2 ha
    have e : a = b := h
    subst e
    exact ⟨a2, ha, gx_R.rf a2⟩
  | succ n ih =>
    intro a2 ha
    obtain ⟨c, h1, h2⟩ := h
    obtain ⟨c2, q1, q2⟩ := hs a c a2 h1 ha
    obtain ⟨b2, q3, q4⟩ := ih h2 c2 q1
    exact ⟨b2, q3, gx_R.cons q2 q4⟩
theorem gx_simP {E E2 : Nat → Nat → Prop} {ρ : Nat → Nat → Prop} (hs : ∀ a b a2, E a b → ρ a a2 → ∃ b2, ρ b b2 ∧ E2 a2 b2) {a b : Nat} (h : gx_P E a b) : ∀ a2, ρ a a2 → ∃ b2, ρ b b2 ∧ gx_P E2 a2 b2 := by
  intro a2 ha
  obtain ⟨c, h1, h2⟩ := h
  obtain ⟨c2, q1, q2⟩ := hs a c a2 h1 ha
  obtain ⟨b2, q3, q4⟩ := gx_simR hs h2 c2 q1
  exact ⟨b2, q3, c2, q2, q4⟩
theorem gx_sim {E E2 goal goal2 : Nat → Nat → Prop} {T N : Nat} {ρ : Nat → Nat → Prop} (hN : ∀ a a2, ρ a a2 → a2 < N) (hs : ∀ a b a2, E a b → ρ a a2 → ∃ b2, ρ b b2 ∧ E2 a2 b2) (hg : ∀ k, k < T → ∃ q, q < T ∧ ∀ a a2, ρ a a2 → goal q a → goal2 k a2) {a a2 : Nat} (h : gx_B E goal T a) (ha : ρ a a2) : gx_B E2 goal2 T a2 := by
  refine gx_B_of (N := N) (F := fun x => ∃ y, ρ y x ∧ gx_B E goal T y) (fun v ⟨y, h1, _⟩ => hN y v h1) (fun v ⟨y, h1, h2⟩ => ?_) (fun k hk v ⟨y, h1, h2⟩ => ?_) a2 ⟨a, ha, h⟩
  · obtain ⟨w, q1, q2⟩ := gx_B_one h2
    obtain ⟨w2, q3, q4⟩ := hs y w v q1 h1
    exact ⟨w2, q4, w, q3, q2⟩
  · obtain ⟨q, hq, hg⟩ := hg k hk
    obtain ⟨u, q1, q2⟩ := gx_B_goal h2 hq
    obtain ⟨u2, q3, q4⟩ := gx_simP (E2 := fun x y => E2 x y ∧ ∃ z, ρ z y ∧ gx_B E goal T z) (ρ := ρ) (fun a b a2 h ha => by
      obtain ⟨b2, z1, z2⟩ := hs a b a2 h.1 ha
      exact ⟨b2, z1, z2, b, z1, h.2⟩) q1 v h1
    exact ⟨u2, q4, hg u u2 q3 q2⟩
theorem nd_eq {c s t a b : Nat} (ha : a < c) (hb : b < c) (h : c * s + a = c * t + b) : s = t ∧ a = b := by
  have e1 : (c * s + a) / c = s := by rw [Nat.mul_add_div (by omega), Nat.div_eq_of_lt ha, Nat.add_zero]
  have e2 : (c * t + b) / c = t := by rw [Nat.mul_add_div (by omega), Nat.div_eq_of_lt hb, Nat.add_zero]
  rw [h, e2] at e1
  subst e1
  exact ⟨rfl, by omega⟩
section TR
variable {F : Nat → Int32} {S : Nat → Nat} {z n : Nat} {mk : Nat → Int32} {J : Nat → Nat → Bool} {Hs : Nat → Nat → Nat → Bool} {pre : Nat → Nat → Nat → Nat} {g : Nat → Int32 × Int32 × Int32} {tp : Nat → Nat → Bool} {bef : Nat → Nat → Nat → Nat} {gl : Nat → Nat → Nat → Bool} {O : Nat → Nat → Bool → Prop}
/-- what both tables say of a state under guesses that say the same -/
theorem tr_H (hn : n ≤ 32) (hO : oK F g n z O) (hS : ∀ r, r < z → bn (F r) = true → tmP F (r + 1) (S r)) {mk : Int32} {H V : Nat → Bool} {G b : Nat} (hH : ∀ r, r < z → H r = if tmd (F r) = true then G.testBit (nuF F z r) else uP F S mk H r) (hV : ∀ y, y < n → V y = if tmd (g y).1 = true then b.testBit (tcn g y) else uN g mk V y) (hG : gR F z g O G b) : ∀ y r m, O y r m → H r = (V y ^^ m) := by
  intro y r m ho
  refine ev_all (D := fun _ => True) (mk := fun _ => mk) (H := fun r _ => H r) (V := fun y _ => V y) hn hO hS (fun _ _ r hr ht => ?_) (fun _ _ y hy ht => ?_) (fun y r m ho ht _ _ _ => ?_) y r m ho 0 trivial
  · rw [hH r hr, if_neg (by rw [ht]; decide)]
  · rw [hV y hy, if_neg (by rw [ht]; decide)]
  · obtain ⟨b1, b2, b3⟩ := hO.1 y r m ho
    show H r = (V y ^^ m)
    rw [hH r b2, hV y b1, if_pos (oc_tmF b3 ht), if_pos ht, hG y r m ho ht]
    cases G.testBit (nuF F z r) <;> cases m <;> rfl
theorem tr_B (hn : n ≤ 32) (hO : oK F g n z O) (hS : ∀ r, r < z → bn (F r) = true → tmP F (r + 1) (S r)) (hz : ∀ r, r < z → tmd (F r) = true → r + 1 < z) {mk : Int32} {H V B W : Nat → Bool} {G b : Nat} (hHV : ∀ y r m, O y r m → H r = (V y ^^ m)) (hB : ∀ r, r < z → B r = if tmd (F r) = true then tP F S B H (G.testBit (nuF F z r)) r else uP F S mk B r) (hW : ∀ y, y < n → W y = if tmd (g y).1 = true then tN g W V (b.testBit (tcn g y)) y else uN g mk W y) (hG : gR F z g O G b) : ∀ y r m, O y r m → B r = (W y ^^ m) := by
  intro y r m ho
  refine ev_all (D := fun _ => True) (mk := fun _ => mk) (H := fun r _ => B r) (V := fun y _ => W y) hn hO hS (fun _ _ r hr ht => ?_) (fun _ _ y hy ht => ?_) (fun y r m ho ht hc _ _ => ?_) y r m ho 0 trivial
  · rw [hB r hr, if_neg (by rw [ht]; decide)]
  · rw [hW y hy, if_neg (by rw [ht]; decide)]
  · obtain ⟨b1, b2, b3⟩ := hO.1 y r m ho
    have htF := oc_tmF b3 ht
    have hz1 := hz r b2 htF
    show B r = (W y ^^ m)
    rw [hB r b2, hW y b1, if_pos htF, if_pos ht]
    refine ev_tm (z := z) (by omega) b3 ht b2 (hS r b2) (fun e => ?_) (fun e => ?_) ?_ (fun o => hHV _ _ _ o) (fun y2 r2 m2 h1 h2 => hc y2 r2 m2 h1 h2 0 trivial)
    · rw [hB _ hz1, if_neg (by rw [e]; decide), uP, e]
      rfl
    · rw [hB _ hz1, if_neg (by rw [e]; decide), uP, e]
      rfl
    · rw [hG y r m ho ht]
      cases G.testBit (nuF F z r) <;> cases m <;> rfl
/-- the graphs are alike -/
theorem tr_all (hn : n ≤ 32) (hT5 : tcn g n ≤ 5) (hT : tcn g n = ddF F z 0) (hO : oK F g n z O) (hO0 : O (n - 1) 0 false) (hS : ∀ r, r < z → bn (F r) = true → tmP F (r + 1) (S r)) (hz : ∀ r, r < z → tmd (F r) = true → r + 1 < z) (hg : gO F S z (tcn g n) mk J Hs pre) (ht : tO g n (tcn g n) mk tp bef gl) {pr : Nat → Nat → Nat → Bool} (hpr : ∀ s, s < 6 → ∀ G, G < 2 ^ tcn g n → ∀ r, r < z → tmd (F r) = true → pr (nuF F z r) s G = pP F S (Hs s G) (G.testBit (nuF F z r)) r) {s G b : Nat} (hs6 : s < 6) (hG : G < 2 ^ tcn g n) (hb : b < 2 ^ tcn g n) (hR : gR F z g O G b) : Hs s G 0 = tp s b ∧ (gx_B (eG 32 (tcn g n) J pre) (gG 32 (tcn g n) pr) (tcn g n) (32 * s + G) ↔ gx_B (eG 64 (tcn g n) J bef) (gG 64 (tcn g n) gl) (tcn g n) (64 * s + b)) := by
  have p5 : (2 : Nat) ^ tcn g n ≤ 32 := Nat.pow_le_pow_right (by omega : 0 < 2) hT5
  have hHV : ∀ t G b, t < 6 → G < 2 ^ tcn g n → ∀ V : Nat → Bool, (∀ y, y < n → V y = if tmd (g y).1 = true then b.testBit (tcn g y) else uN g (mk t) V y) → gR F z g O G b → ∀ y r m, O y r m → Hs t G r = (V y ^^ m) := fun t G b h1 h2 V hV hR => tr_H hn hO hS (hg.1 t h1 G h2) hV hR
  have hpb : ∀ s t G b, s < 6 → t < 6 → J s t = true → G < 2 ^ tcn g n → b < 2 ^ tcn g n → gR F z g O G b → gR F z g O (pre s t G) (bef s t b) := by
    intro s t G b h1 h2 hJ h3 h4 hR y r m ho htm
    obtain ⟨V, v1, v2, v3, v4⟩ := ht t h2 b h4
    obtain ⟨_, W, w1, w2⟩ := v4 s h1
    obtain ⟨_, B, q1, q2⟩ := hg.2 s t h1 h2 hJ G h3
    obtain ⟨b1, b2, b3⟩ := hO.1 y r m ho
    rw [w2 y b1 htm, q2 r b2 (oc_tmF b3 htm), tr_B hn hO hS hz (hHV t G b h2 h3 V v1 hR) q1 w1 hR y r m ho]
    cases W y <;> cases m <;> rfl
  refine ⟨?_, fun h => ?_, fun h => ?_⟩
  · obtain ⟨V, v1, v2, _⟩ := ht s hs6 b hb
    rw [v2, hHV s G b hs6 hG V v1 hR (n - 1) 0 false hO0, Bool.xor_false]
  · refine gx_sim (N := 64 * 6) (ρ := fun v w => ∃ s G b, s < 6 ∧ G < 2 ^ tcn g n ∧ b < 2 ^ tcn g n ∧ gR F z g O G b ∧ v = 32 * s + G ∧ w = 64 * s + b) ?_ ?_ ?_ h ⟨s, G, b, hs6, hG, hb, hR, rfl, rfl⟩
    · rintro v w ⟨s, G, b, h1, h2, h3, _, _, rfl⟩
      omega
    · rintro v w v2 ⟨s1, t, G1, a1, a2, a3, a4, rfl, a5⟩ ⟨s, G, b, c1, c2, c3, c4, c5, rfl⟩
      have q := (hg.2 s1 t a1 a2 a3 G1 a4).1
      obtain ⟨e1, e2⟩ := nd_eq (c := 32) (by omega) (by omega) (c5.symm.trans a5)
      subst e1
      obtain ⟨b1, d1, d2⟩ := gR_1 hO G1
      have d3 := hpb s t G1 b1 a1 a2 a3 a4 d1 d2
      rw [← e2] at d3
      obtain ⟨V, _, _, _, v4⟩ := ht t a2 b1 d1
      have e3 := gR_3 hO c4 d3 c3 (v4 s a1).1
      exact ⟨64 * t + b1, ⟨t, G1, b1, a2, a4, d1, d2, rfl, rfl⟩, s, t, b1, a1, a2, a3, d1, rfl, by rw [e3]⟩
    · intro k hk
      obtain ⟨y, y1, y2, rfl⟩ := tcn_sur hk
      obtain ⟨r, m, ho⟩ := hO.2.1 y y1
      obtain ⟨b1, b2, b3⟩ := hO.1 y r m ho
      have htF := oc_tmF b3 y2
      refine ⟨nuF F z r, by rw [hT]; exact nuF_lt b2 htF, ?_⟩
      rintro v w ⟨s, G, b, c1, c2, c3, c4, rfl, rfl⟩ ⟨s1, G1, a1, a2, a3, a4⟩
      obtain ⟨e1, e2⟩ := nd_eq (c := 32) (by omega) (by omega) a3
      subst e1
      subst e2
      refine ⟨s, b, c1, c3, rfl, ?_⟩
      obtain ⟨V, v1, v2, v3, _⟩ := ht s c1 b c3
      have hv := hHV s G b c1 c2 V v1 c4
      rw [v3 y y1 y2, ← ev_pr (H := Hs s G) (G := G.testBit (nuF F z r)) (by omega) b3 y2 (hS r b2) (by
        rw [v1 y y1, if_pos y2, c4 y r m ho y2]
        cases G.testBit (nuF F z r) <;> cases m <;> rfl) (fun y2 r2 m2 _ o => hv y2 r2 m2 o), ← hpr s c1 G c2 r b2 htF]
      exact a4
  · refine gx_sim (N := 32 * 6) (ρ := fun w v => ∃ s G b, s < 6 ∧ G < 2 ^ tcn g n ∧ b < 2 ^ tcn g n ∧ gR F z g O G b ∧ v = 32 * s + G ∧ w = 64 * s + b) ?_ ?_ ?_ h ⟨s, G, b, hs6, hG, hb, hR, rfl, rfl⟩
    · rintro v w ⟨s, G, b, h1, h2, h3, _, rfl, _⟩
      omega
    · rintro v w v2 ⟨s1, t, b1, a1, a2, a3, a4, rfl, a5⟩ ⟨s, G, b, c1, c2, c3, c4, rfl, c5⟩
      obtain ⟨V, _, _, _, v4⟩ := ht t a2 b1 a4
      obtain ⟨e1, e2⟩ := nd_eq (c := 64) (by have := (v4 s1 a1).1; omega) (by omega) (a5.symm.trans c5)
      subst e1
      obtain ⟨G1, d1, d2⟩ := gR_2 hO b1
      rw [← hT] at d1
      have d3 := hpb s1 t G1 b1 a1 a2 a3 d1 a4 d2
      rw [e2] at d3
      have e3 := gR_4 hO c4 d3 (by rw [← hT]; exact c2) (by rw [← hT]; exact (hg.2 s1 t a1 a2 a3 G1 d1).1)
      exact ⟨32 * t + G1, ⟨t, G1, b1, a2, d1, a4, d2, rfl, rfl⟩, s1, t, G1, a1, a2, a3, d1, rfl, by rw [e3]⟩
    · intro k hk
      rw [hT] at hk
      obtain ⟨r, b2, htF, rfl⟩ := nuF_sur (F := F) (r := 0) (Nat.zero_add z) hk
      obtain ⟨y, m, y2, ho⟩ := hO.2.2.2.1 r b2 htF
      obtain ⟨y1, _, b3⟩ := hO.1 y r m ho
      refine ⟨tcn g y, tcn_lt y1 y2, ?_⟩
      rintro v w ⟨s, G, b, c1, c2, c3, c4, rfl, rfl⟩ ⟨s1, G1, a1, a2, a3, a4⟩
      obtain ⟨e1, e2⟩ := nd_eq (c := 64) (by omega) (by omega) a3
      subst e1
      subst e2
      refine ⟨s, G, c1, c2, rfl, ?_⟩
      obtain ⟨V, v1, v2, v3, _⟩ := ht s c1 b c3
      have hv := hHV s G b c1 c2 V v1 c4
      rw [v3 y y1 y2, ← ev_pr (H := Hs s G) (G := G.testBit (nuF F z r)) (by omega) b3 y2 (hS r b2) (by
        rw [v1 y y1, if_pos y2, c4 y r m ho y2]
        cases G.testBit (nuF F z r) <;> cases m <;> rfl) (fun y2 r2 m2 _ o => hv y2 r2 m2 o), ← hpr s c1 G c2 r b2 htF] at a4
      exact a4
end TR
/-! The true guesses along a lasso -/
section LA
variable {F : Nat → Int32} {S : Nat → Nat} {z T : Nat} {mk : Nat → Int32} {J : Nat → Nat → Bool} {Hs : Nat → Nat → Nat → Bool} {pre : Nat → Nat → Nat → Nat} {pr : Nat → Nat → Nat → Bool}
/-- what lies below a part -/
def sK (F : Nat → Int32) (S : Nat → Nat) (z : Nat) : Prop := ∀ r, r < z → (bn (F r) = true → r + 1 < z ∧ r < S r ∧ S r < z ∧ tmP F (r + 1) (S r)) ∧ (F r = 88 → r + 1 < z)
theorem sK_b {F : Nat → Int32} {S : Nat → Nat} {z : Nat} (h : sK F S z) : ∀ r, r < z → bn (F r) = true → tmP F (r + 1) (S r) := fun r hr hb => ((h r hr).1 hb).2.2.2
theorem tmd_bn {c : Int32} (h : tmd c = true) (h70 : c ≠ 70) (h71 : c ≠ 71) : c = 88 ∨ (c = 85 ∨ c = 82) := by
  rw [tmd, decide_eq_true_iff] at h
  rcases h with h | h | h | h | h
  · exact Or.inl h
  · exact absurd h h70
  · exact absurd h h71
  · exact Or.inr (Or.inl h)
  · exact Or.inr (Or.inr h)
/-- the signs of a normal form that are timed -/
def sT (F : Nat → Int32) (z : Nat) : Prop := ∀ r, r < z → F r ≠ 70 ∧ F r ≠ 71
theorem uP_same {F : Nat → Int32} {S : Nat → Nat} {z : Nat} (hK : sK F S z) {mk : Int32} {H H2 : Nat → Bool} {r : Nat} (hr : r < z) (h : ∀ q, r < q → q < z → H q = H2 q) : uP F S mk H r = uP F S mk H2 r := by
  unfold uP
  by_cases h1 : F r = 38
  · obtain ⟨a1, a2, a3, _⟩ := (hK r hr).1 (by rw [h1]; decide)
    rw [if_pos h1, if_pos h1, h _ (by omega) a1, h _ a2 a3]
  · rw [if_neg h1, if_neg h1]
    by_cases h2 : F r = 124
    · obtain ⟨a1, a2, a3, _⟩ := (hK r hr).1 (by rw [h2]; decide)
      rw [if_pos h2, if_pos h2, h _ (by omega) a1, h _ a2 a3]
    · rw [if_neg h2, if_neg h2]
theorem sol_H {F : Nat → Int32} {S : Nat → Nat} {z : Nat} (hK : sK F S z) {mk : Int32} {t : Nat → Bool} {H H2 : Nat → Bool} (h : ∀ r, r < z → H r = if tmd (F r) = true then t r else uP F S mk H r) (h2 : ∀ r, r < z → H2 r = if tmd (F r) = true then t r else uP F S mk H2 r) : ∀ r, r < z → H r = H2 r := by
  have key : ∀ d r, z ≤ r + d → r < z → H r = H2 r := by
    intro d
    induction d with
    | zero => exact fun r h1 h2 => absurd h2 (by omega)
    | succ d ih =>
      intro r hd hr
      rw [h r hr, h2 r hr, uP_same hK hr (fun q q1 q2 => ih q (by omega) q2)]
  exact fun r hr => key z r (by omega) hr
theorem tP_same {F : Nat → Int32} {S : Nat → Nat} {z : Nat} (hK : sK F S z) {B B2 X X2 : Nat → Bool} {L : Bool} {r : Nat} (hr : r < z) (hx : F r ≠ 85 → F r ≠ 82 → X (r + 1) = X2 (r + 1)) (h : ∀ q, r < q → q < z → B q = B2 q) : tP F S B X L r = tP F S B2 X2 L r := by
  unfold tP
  by_cases h1 : F r = 85
  · obtain ⟨a1, a2, a3, _⟩ := (hK r hr).1 (by rw [h1]; decide)
    rw [if_pos h1, if_pos h1, h _ (by omega) a1, h _ a2 a3]
  · rw [if_neg h1, if_neg h1]
    by_cases h2 : F r = 82
    · obtain ⟨a1, a2, a3, _⟩ := (hK r hr).1 (by rw [h2]; decide)
      rw [if_pos h2, if_pos h2, h _ (by omega) a1, h _ a2 a3]
    · rw [if_neg h2, if_neg h2, hx h1 h2]
theorem sol_B {F : Nat → Int32} {S : Nat → Nat} {z : Nat} (hK : sK F S z) (hT : sT F z) {mk : Int32} {L : Nat → Bool} {X X2 : Nat → Bool} (hX : ∀ r, r < z → X r = X2 r) {B B2 : Nat → Bool} (h : ∀ r, r < z → B r = if tmd (F r) = true then tP F S B X (L r) r else uP F S mk B r) (h2 : ∀ r, r < z → B2 r = if tmd (F r) = true then tP F S B2 X2 (L r) r else uP F S mk B2 r) : ∀ r, r < z → B r = B2 r := by
  have key : ∀ d r, z ≤ r + d → r < z → B r = B2 r := by
    intro d
    induction d with
    | zero => exact fun r h1 h2 => absurd h2 (by omega)
    | succ d ih =>
      intro r hd hr
      rw [h r hr, h2 r hr, uP_same hK hr (fun q q1 q2 => ih q (by omega) q2)]
      by_cases ht : tmd (F r) = true
      · rw [if_pos ht, if_pos ht]
        refine tP_same hK hr (fun e1 e2 => hX _ ?_) (fun q q1 q2 => ih q (by omega) q2)
        rcases tmd_bn ht (hT r hr).1 (hT r hr).2 with e | e | e
        · exact (hK r hr).2 e
        · exact absurd e e1
        · exact absurd e e2
      · rw [if_neg ht, if_neg ht]
  exact fun r hr => key z r (by omega) hr
/-- the guess that is true at a place -/
def tG (T : Nat) (P : Nat → Nat) (H : Nat → Nat → Bool) (i : Nat) : Nat := bN (fun k => H (P k) i) T
theorem tG_bit {P : Nat → Nat} {H : Nat → Nat → Bool} {i r : Nat} (hT : T = ddF F z 0) (hP : ∀ r, r < z → tmd (F r) = true → P (nuF F z r) = r) (hr : r < z) (ht : tmd (F r) = true) : (tG T P H i).testBit (nuF F z r) = H r i := by
  rw [tG, bN_bit _ (by rw [hT]; exact nuF_lt hr ht), hP r hr ht]
/-- a lasso with what holds along it -/
def lsO (F : Nat → Int32) (S : Nat → Nat) (z : Nat) (mk : Nat → Int32) (st : Nat → Nat) (k j : Nat) (H : Nat → Nat → Bool) : Prop := ∀ r, r < z → ∀ i, i < k → H r i = ev (F r) (H (r + 1)) (H (S r)) k j (fun s p => lh s (mk (st p))) i
theorem ls_un {st : Nat → Nat} {k j : Nat} {H : Nat → Nat → Bool} (hL : lsO F S z mk st k j H) {r i : Nat} (hr : r < z) (hi : i < k) (ht : tmd (F r) = false) : H r i = uP F S (mk (st i)) (fun r => H r i) r := by
  have n1 : F r ≠ 82 := fun e => by rw [e] at ht; exact absurd ht (by decide)
  have n2 : F r ≠ 85 := fun e => by rw [e] at ht; exact absurd ht (by decide)
  have n3 : F r ≠ 88 := fun e => by rw [e] at ht; exact absurd ht (by decide)
  rw [hL r hr i hi, ev, uP, if_neg n1, if_neg n2, if_neg n3]
theorem ls_tm (hT : sT F z) {st : Nat → Nat} {k j : Nat} (hj : j < k) {H : Nat → Nat → Bool} (hL : lsO F S z mk st k j H) {r i : Nat} (hr : r < z) (hi : i < k) (ht : tmd (F r) = true) : H r i = tP F S (fun r => H r i) (fun r => H r (nx k j i)) (H r (nx k j i)) r := by
  have hq := nx_lt (p := i) hj
  rcases tmd_bn ht (hT r hr).1 (hT r hr).2 with e | e | e
  · rw [hL r hr i hi, e, tP, e]
    rfl
  · have e1 : ∀ q, q < k → H r q = ui k j (H (r + 1)) (H (S r)) k q := fun q hq => by
      rw [hL r hr q hq, e]
      rfl
    rw [tP, if_pos e, e1 i hi, ui_fix hj hi, ← e1 _ hq]
  · have e1 : ∀ q, q < k → H r q = ri k j (H (r + 1)) (H (S r)) k q := fun q hq => by
      rw [hL r hr q hq, e]
      rfl
    rw [tP, if_neg (by rw [e]; decide), if_pos e, e1 i hi, ri_ui, ui_fix hj hi, e1 _ hq, ri_ui]
    cases H (S r) i <;> cases H (r + 1) i <;> simp
theorem ls_H (hT : T = ddF F z 0) (hg : gO F S z T mk J Hs pre) (hK : sK F S z) {P : Nat → Nat} (hP : ∀ r, r < z → tmd (F r) = true → P (nuF F z r) = r) {st : Nat → Nat} {k j : Nat} {H : Nat → Nat → Bool} (hL : lsO F S z mk st k j H) (hst : ∀ i, i < k → st i < 6) {i : Nat} (hi : i < k) : ∀ r, r < z → Hs (st i) (tG T P H i) r = H r i := by
  refine sol_H hK (t := fun r => (tG T P H i).testBit (nuF F z r)) (hg.1 (st i) (hst i hi) _ (bN_lt _ _)) (fun r hr => ?_)
  by_cases ht : tmd (F r) = true
  · rw [if_pos ht, tG_bit hT hP hr ht]
  · rw [if_neg ht]
    exact ls_un hL hr hi (by simpa using ht)
/-- along a lasso the true guesses make steps -/
theorem ls_pre (hT : T = ddF F z 0) (hsT : sT F z) (hg : gO F S z T mk J Hs pre) (hK : sK F S z) {P : Nat → Nat} (hP : ∀ r, r < z → tmd (F r) = true → P (nuF F z r) = r) {st : Nat → Nat} {k j : Nat} (hj : j < k) {H : Nat → Nat → Bool} (hL : lsO F S z mk st k j H) (hst : ∀ i, i < k → st i < 6) {i : Nat} (hi : i < k) (hJ : J (st i) (st (nx k j i)) = true) : pre (st i) (st (nx k j i)) (tG T P H (nx k j i)) = tG T P H i := by
  have hq := nx_lt (p := i) hj
  obtain ⟨a1, B, a2, a3⟩ := hg.2 (st i) (st (nx k j i)) (hst i hi) (hst _ hq) hJ (tG T P H (nx k j i)) (bN_lt _ _)
  have e := sol_B hK hsT (L := fun r => (tG T P H (nx k j i)).testBit (nuF F z r)) (mk := mk (st i)) (ls_H hT hg hK hP hL hst hq) a2 (B2 := fun r => H r i) (fun r hr => by
    by_cases ht : tmd (F r) = true
    · rw [if_pos ht, tG_bit hT hP hr ht]
      exact ls_tm hsT hj hL hr hi ht
    · rw [if_neg ht]
      exact ls_un hL hr hi (by simpa using ht))
  refine bN_ext a1 (bN_lt _ _) (fun q hq => ?_)
  rw [hT] at hq
  obtain ⟨r, r1, r2, rfl⟩ := nuF_sur (F := F) (r := 0) (Nat.zero_add z) hq
  rw [a3 r r1 r2, e r r1, tG_bit hT hP r1 r2]
/-- on the loop nothing is put off -/
theorem ls_prompt (hT : sT F z) {st : Nat → Nat} {k j : Nat} (hj : j < k) {H : Nat → Nat → Bool} (hL : lsO F S z mk st k j H) {r : Nat} (hr : r < z) (ht : tmd (F r) = true) : ∃ i, j ≤ i ∧ i < k ∧ pP F S (fun r => H r i) (H r i) r = true := by
  refine Classical.byContradiction (fun hn => ?_)
  have hno : ∀ i, j ≤ i → i < k → pP F S (fun r => H r i) (H r i) r = false := fun i h1 h2 => by
    cases e : pP F S (fun r => H r i) (H r i) r with
    | false => rfl
    | true => exact absurd ⟨i, h1, h2, e⟩ hn
  rcases tmd_bn ht (hT r hr).1 (hT r hr).2 with e | e | e
  · have := hno j (Nat.le_refl _) hj
    rw [pP, if_neg (by rw [e]; decide), if_neg (by rw [e]; decide)] at this
    exact absurd this (by decide)
  · have e1 : ∀ q, q < k → H r q = ui k j (H (r + 1)) (H (S r)) k q := fun q hq => by
      rw [hL r hr q hq, e]
      rfl
    have e2 : ∀ i, j ≤ i → i < k → H r i = true ∧ H (S r) i = false := fun i h1 h2 => by
      have := hno i h1 h2
      rw [pP, if_neg (by rw [e]; decide), if_pos e] at this
      cases a : H r i <;> cases b : H (S r) i <;> simp_all
    have e3 := (e2 j (Nat.le_refl _) hj).1
    rw [e1 j hj] at e3
    have := ui_least (Y := fun p => decide (p < j)) hj (fun p hp h => by
      by_cases q : p < j
      · exact decide_eq_true q
      · have q2 : ¬ nx k j p < j := by
          unfold nx
          split <;> omega
        rw [(e2 p (by omega) hp).2, decide_eq_false q2] at h
        simp at h) k j hj e3
    simp at this
  · have e1 : ∀ q, q < k → H r q = ri k j (H (r + 1)) (H (S r)) k q := fun q hq => by
      rw [hL r hr q hq, e]
      rfl
    have e2 : ∀ i, j ≤ i → i < k → H r i = false ∧ H (S r) i = true := fun i h1 h2 => by
      have := hno i h1 h2
      rw [pP, if_pos e] at this
      cases a : H r i <;> cases b : H (S r) i <;> simp_all
    have e3 := (e2 j (Nat.le_refl _) hj).1
    rw [e1 j hj, ri_ui] at e3
    have e4 : ui k j (fun q => !H (r + 1) q) (fun q => !H (S r) q) k j = true := by simpa using e3
    have := ui_least (Y := fun p => decide (p < j)) hj (fun p hp h => by
      by_cases q : p < j
      · exact decide_eq_true q
      · have q2 : ¬ nx k j p < j := by
          unfold nx
          split <;> omega
        rw [(e2 p (by omega) hp).2, decide_eq_false q2] at h
        simp at h) k j hj e4
    simp at this
/-- the loop's nodes -/
theorem ls_K (hT : T = ddF F z 0) (hsT : sT F z) (hg : gO F S z T mk J Hs pre) (hK : sK F S z) (hpr : ∀ s, s < 6 → ∀ G, G < 2 ^ T → ∀ r, r < z → tmd (F r) = true → pr (nuF F z r) s G = pP F S (Hs s G) (G.testBit (nuF F z r)) r) {P : Nat → Nat} (hP : ∀ r, r < z → tmd (F r) = true → P (nuF F z r) = r) {st : Nat → Nat} {k j : Nat} (hj : j < k) {H : Nat → Nat → Bool} (hL : lsO F S z mk st k j H) (hst : ∀ i, i < k → st i < 6) (hJ : ∀ i, i < k → J (st i) (st (nx k j i)) = true) :
    (∀ i, i < k → eG 32 T J pre (32 * st i + tG T P H i) (32 * st (nx k j i) + tG T P H (nx k j i))) ∧ (∀ i, j ≤ i → i < k → gx_K (eG 32 T J pre) (gG 32 T pr) T (32 * st i + tG T P H i)) := by
  have hE : ∀ i, i < k → eG 32 T J pre (32 * st i + tG T P H i) (32 * st (nx k j i) + tG T P H (nx k j i)) := fun i hi => ⟨st i, st (nx k j i), tG T P H (nx k j i), hst i hi, hst _ (nx_lt hj), hJ i hi, bN_lt _ _, rfl, by rw [ls_pre hT hsT hg hK hP hj hL hst hi (hJ i hi)]⟩
  have up : ∀ d i, i + d < k → gx_R (eG 32 T J pre) (32 * st i + tG T P H i) (32 * st (i + d) + tG T P H (i + d)) := by
    intro d
    induction d with
    | zero => exact fun i _ => gx_R.rf _
    | succ d ih =>
      intro i hi
      have h1 := hE i (by omega)
      rw [show nx k j i = i + 1 from if_pos (by omega)] at h1
      have h2 := ih (i + 1) (by omega)
      rw [show i + 1 + d = i + (d + 1) by omega] at h2
      exact gx_R.cons h1 h2
  have wrap : eG 32 T J pre (32 * st (k - 1) + tG T P H (k - 1)) (32 * st j + tG T P H j) := by
    have h1 := hE (k - 1) (by omega)
    rw [show nx k j (k - 1) = j from if_neg (by omega)] at h1
    exact h1
  have all : ∀ i q, j ≤ i → i < k → j ≤ q → q < k → gx_P (eG 32 T J pre) (32 * st i + tG T P H i) (32 * st q + tG T P H q) := by
    intro i q h1 h2 h3 h4
    have a1 := up (k - 1 - i) i (by omega)
    rw [show i + (k - 1 - i) = k - 1 by omega] at a1
    have a2 := up (q - j) j (by omega)
    rw [show j + (q - j) = q by omega] at a2
    exact gx_R.trP a1 ⟨_, wrap, a2⟩
  refine ⟨hE, fun i h1 h2 => ⟨all i i h1 h2 h1 h2, fun q hq => ?_⟩⟩
  rw [hT] at hq
  obtain ⟨r, r1, r2, rfl⟩ := nuF_sur (F := F) (r := 0) (Nat.zero_add z) hq
  obtain ⟨i2, c1, c2, c3⟩ := ls_prompt hsT hj hL r1 r2
  refine ⟨_, (all i i2 h1 h2 c1 c2).r, (all i2 i c1 c2 h1 h2).r, st i2, tG T P H i2, hst i2 c2, bN_lt _ _, rfl, ?_⟩
  rw [hpr (st i2) (hst i2 c2) (tG T P H i2) (bN_lt _ _) r r1 r2, tG_bit hT hP r1 r2, ← c3]
  have eh := ls_H hT hg hK hP hL hst c2
  unfold pP
  by_cases e1 : F r = 82
  · obtain ⟨_, _, a3, _⟩ := (hK r r1).1 (by rw [e1]; decide)
    rw [if_pos e1, if_pos e1, eh _ a3]
  · rw [if_neg e1, if_neg e1]
    by_cases e2 : F r = 85
    · obtain ⟨_, _, a3, _⟩ := (hK r r1).1 (by rw [e2]; decide)
      rw [if_pos e2, if_pos e2, eh _ a3]
    · rw [if_neg e2, if_neg e2]
/-- at most d steps to a knot -/
def kN (E goal : Nat → Nat → Prop) (T d v : Nat) : Prop := ∃ e w, e ≤ d ∧ gx_N E e v w ∧ gx_K E goal T w
theorem kN_s {E goal : Nat → Nat → Prop} {T d v : Nat} : kN E goal T (d + 1) v ↔ (kN E goal T d v ∨ ∃ w, E v w ∧ kN E goal T d w) := by
  constructor
  · rintro ⟨e, w, h1, h2, h3⟩
    cases e with
    | zero => exact Or.inl ⟨0, w, by omega, h2, h3⟩
    | succ e =>
      obtain ⟨c, h4, h5⟩ := h2
      exact Or.inr ⟨c, h4, e, w, by omega, h5, h3⟩
  · rintro (⟨e, w, h1, h2, h3⟩ | ⟨c, h4, e, w, h1, h2, h3⟩)
    · exact ⟨e, w, by omega, h2, h3⟩
    · exact ⟨e + 1, w, by omega, ⟨c, h4, h2⟩, h3⟩
theorem kN_0 {E goal : Nat → Nat → Prop} {T v : Nat} : kN E goal T 0 v ↔ gx_K E goal T v := by
  constructor
  · rintro ⟨e, w, h1, h2, h3⟩
    obtain rfl : e = 0 := by omega
    have e : v = w := h2
    exact e ▸ h3
  · exact fun h => ⟨0, v, Nat.le_refl _, rfl, h⟩
/-- along a lasso of k places a knot is near -/
theorem ls_N (hT : T = ddF F z 0) (hsT : sT F z) (hg : gO F S z T mk J Hs pre) (hK : sK F S z) (hpr : ∀ s, s < 6 → ∀ G, G < 2 ^ T → ∀ r, r < z → tmd (F r) = true → pr (nuF F z r) s G = pP F S (Hs s G) (G.testBit (nuF F z r)) r) {P : Nat → Nat} (hP : ∀ r, r < z → tmd (F r) = true → P (nuF F z r) = r) {st : Nat → Nat} {k j : Nat} (hj : j < k) {H : Nat → Nat → Bool} (hL : lsO F S z mk st k j H) (hst : ∀ i, i < k → st i < 6) (hJ : ∀ i, i < k → J (st i) (st (nx k j i)) = true) : ∀ i, i < k → kN (eG 32 T J pre) (gG 32 T pr) T (k - 1 - i) (32 * st i + tG T P H i) := by
  obtain ⟨a1, a2⟩ := ls_K hT hsT hg hK hpr hP hj hL hst hJ
  have key : ∀ d i, i + d + 1 = k → kN (eG 32 T J pre) (gG 32 T pr) T d (32 * st i + tG T P H i) := by
    intro d
    induction d with
    | zero => exact fun i hi => kN_0.mpr (a2 i (by omega) (by omega))
    | succ d ih =>
      intro i hi
      have h1 := a1 i (by omega)
      rw [show nx k j i = i + 1 from if_pos (by omega)] at h1
      exact kN_s.mpr (Or.inr ⟨_, h1, ih (i + 1) (by omega)⟩)
  exact fun i hi => key (k - 1 - i) i (by omega)
end LA
