/-! The reference's fair set is the right one -/
abbrev fB (T : Nat) (L : Nat → Nat → Bool) (be : Nat → Nat → Nat → Nat) (gl : Nat → Nat → Nat → Bool) (s q : Nat) : Prop := q < 2 ^ T ∧ gx_B (eG 64 T L be) (gG 64 T gl) T (64 * s + q)
section ST
variable {T : Nat} {L : Nat → Nat → Bool} {be : Nat → Nat → Nat → Nat} {gl : Nat → Nat → Nat → Bool} {F F2 : Nat → Int64}
theorem cutR_same {G : Nat → Nat → Bool} {R : Nat → Nat → Prop} (h : ∀ s, s < 6 → F2 s = F s) (hc : cutR T L be F G R) : cutR T L be F2 G R := by
  have e : ∀ s, s < 6 → ∀ q, (lB F2 s q ↔ lB F s q) := fun s hs q => by rw [lB, lB, h s hs]
  obtain ⟨a1, a2, a3, a4⟩ := hc
  refine ⟨fun s hs q hq r => (e s hs q).mpr (a1 s hs q hq r), fun s hs q hq r => a2 s hs q hq ((e s hs q).mp r), fun s hs q hq r => a3 s hs q hq ((e s hs q).mp r), fun Y y1 y2 => a4 Y (fun s hs q hq r => y1 s hs q hq ((e s hs q).mpr r)) (fun s hs q hq r => y2 s hs q hq ((e s hs q).mpr r))⟩
theorem eM_at (hT : T ≤ 5) (hbe : ∀ s t, s < 6 → t < 6 → ∀ b, b < 2 ^ T → be s t b < 2 ^ T) {s q w : Nat} (hs : s < 6) (hq : q < 64) : eG 64 T L be (64 * s + q) w ↔ ∃ t b, t < 6 ∧ L s t = true ∧ b < 2 ^ T ∧ w = 64 * t + b ∧ be s t b = q := by
  have p5 := p2_le hT
  constructor
  · rintro ⟨s2, t, G, a1, a2, a3, a4, a5, a6⟩
    have := hbe s2 t a1 a2 G a4
    obtain ⟨e1, e2⟩ := nd_eq (c := 64) hq (by omega) a6
    subst e1
    exact ⟨t, G, a2, a3, a4, a5, e2.symm⟩
  · rintro ⟨t, G, a2, a3, a4, a5, a6⟩
    exact ⟨s, t, G, hs, a2, a3, a4, a5, by rw [a6]⟩
/-- a cut takes nothing away that must stay -/
theorem cut_keep (hT : T ≤ 5) (hbe : ∀ s t, s < 6 → t < 6 → ∀ b, b < 2 ^ T → be s t b < 2 ^ T) {R : Nat → Nat → Prop} {ch : Bool} (hB : ∀ s, s < 6 → ∀ q, q < 64 → fB T L be gl s q → lB F s q) (hc : cutP T L be R F F2 ch) (hR : (∀ s, s < 6 → ∀ q, q < 64 → (R s q ↔ lB F s q)) ∨ ∃ k, k < T ∧ cutR T L be F (gl k) R) : ∀ s, s < 6 → ∀ q, q < 64 → fB T L be gl s q → lB F2 s q := by
  have p5 := p2_le hT
  intro s hs q hq hb
  refine (hc.1 s hs q hq).mpr ⟨hB s hs q hq hb, ?_⟩
  rcases hR with hR | ⟨k, hk, hR⟩
  · obtain ⟨w, h1, h2⟩ := gx_B_one hb.2
    obtain ⟨t, b, a1, a2, a3, rfl, a4⟩ := (eM_at hT hbe hs hq).mp h1
    exact ⟨t, b, a1, a2, a3, (hR t a1 b (by omega)).mpr (hB t a1 b (by omega) ⟨a3, h2⟩), a4⟩
  · obtain ⟨u, ⟨c, ⟨h1, h1b⟩, h2⟩, h3⟩ := gx_B_goal hb.2 hk
    obtain ⟨t, b, a1, a2, a3, rfl, a4⟩ := (eM_at hT hbe hs hq).mp h1
    refine ⟨t, b, a1, a2, a3, ?_, a4⟩
    obtain ⟨n, hn⟩ := h2
    obtain ⟨r1, r2, r3, _⟩ := hR
    have key : ∀ n t b, t < 6 → b < 2 ^ T → gx_B (eG 64 T L be) (gG 64 T gl) T (64 * t + b) → gx_N (fun x y => eG 64 T L be x y ∧ gx_B (eG 64 T L be) (gG 64 T gl) T y) n (64 * t + b) u → R t b := by
      intro n
      induction n with
      | zero =>
        intro t b t1 b1 hb2 hn
        have e : 64 * t + b = u := hn
        obtain ⟨s3, G3, c1, c2, c3, c4⟩ := h3
        rw [← e] at c3
        obtain ⟨e1, e2⟩ := nd_eq (c := 64) (by omega) (by omega) c3
        subst e1
        subst e2
        exact r2 t t1 b (by omega) (hB t t1 b (by omega) ⟨b1, hb2⟩) c4
      | succ n ih =>
        intro t b t1 b1 hb2 hn
        obtain ⟨c, ⟨c1, c2⟩, c3⟩ := hn
        obtain ⟨t2, b2, d1, d2, d3, rfl, d4⟩ := (eM_at hT hbe t1 (by omega : b < 64)).mp c1
        exact r3 t t1 b (by omega) (hB t t1 b (by omega) ⟨b1, hb2⟩) ⟨t2, b2, d1, d2, d3, ih t2 b2 d1 d3 c2 c3, d4⟩
    exact key n t b a1 a3 h1b hn
/-- what no cut changes is all that must stay -/
theorem cut_all (hT : T ≤ 5) (hbe : ∀ s t, s < 6 → t < 6 → ∀ b, b < 2 ^ T → be s t b < 2 ^ T) (hup : ∀ s, s < 6 → ∀ q, q < 64 → lB F s q → q < 2 ^ T) (h0 : ∀ s, s < 6 → ∀ q, q < 64 → lB F s q → bk T L be (lB F) s q) (hk : ∀ k, k < T → ∃ R, cutR T L be F (gl k) R ∧ ∀ s, s < 6 → ∀ q, q < 64 → lB F s q → bk T L be R s q) : ∀ s, s < 6 → ∀ q, q < 64 → lB F s q → fB T L be gl s q := by
  have p5 := p2_le hT
  intro s hs q hq hf
  refine ⟨hup s hs q hq hf, ?_⟩
  have hin : ∀ {s2 q2 : Nat}, s2 < 6 → q2 < 64 → (∃ s q, s < 6 ∧ q < 2 ^ T ∧ 64 * s2 + q2 = 64 * s + q ∧ lB F s q) → lB F s2 q2 := by
    rintro s2 q2 h1 h2 ⟨s, q, a1, a2, a3, a4⟩
    obtain ⟨e1, e2⟩ := nd_eq (c := 64) h2 (by omega) a3
    subst e1
    subst e2
    exact a4
  refine gx_B_of (N := 384) (F := fun v => ∃ s q, s < 6 ∧ q < 2 ^ T ∧ v = 64 * s + q ∧ lB F s q) ?_ ?_ ?_ _ ⟨s, q, hs, hup s hs q hq hf, rfl, hf⟩
  · rintro v ⟨s, q, a1, a2, a3, a4⟩
    omega
  · rintro v ⟨s, q, a1, a2, rfl, a4⟩
    obtain ⟨t, b, b1, b2, b3, b4, b5⟩ := h0 s a1 q (by omega) a4
    exact ⟨64 * t + b, (eM_at hT hbe a1 (by omega)).mpr ⟨t, b, b1, b2, b3, rfl, b5⟩, t, b, b1, b3, rfl, b4⟩
  · rintro k hk1 v ⟨s, q, a1, a2, rfl, a4⟩
    obtain ⟨R, hR, hb⟩ := hk k hk1
    obtain ⟨t, b, b1, b2, b3, b4, b5⟩ := hb s a1 q (by omega) a4
    have hY := hR.2.2.2 (fun s q => q < 2 ^ T ∧ lB F s q ∧ ∃ u, gx_R (fun x y => eG 64 T L be x y ∧ ∃ s q, s < 6 ∧ q < 2 ^ T ∧ y = 64 * s + q ∧ lB F s q) (64 * s + q) u ∧ gG 64 T gl k u) (fun s hs q hq h1 h2 => ⟨hup s hs q hq h1, h1, _, gx_R.rf _, s, q, hs, hup s hs q hq h1, rfl, h2⟩) (fun s hs q hq h1 h2 => by
      obtain ⟨t, b, c1, c2, c3, ⟨_, c4, u, c5, c6⟩, c7⟩ := h2
      exact ⟨hup s hs q hq h1, h1, u, gx_R.cons ⟨(eM_at hT hbe hs hq).mpr ⟨t, b, c1, c2, c3, rfl, c7⟩, t, b, c1, c3, rfl, c4⟩ c5, c6⟩) t b1 b (by omega) b4
    obtain ⟨y1, y2, u, y3, y4⟩ := hY
    exact ⟨u, ⟨_, ⟨(eM_at hT hbe a1 (by omega)).mpr ⟨t, b, b1, b2, b3, rfl, b5⟩, t, b, b1, b3, rfl, y2⟩, y3⟩, y4⟩
end ST
/-- what the reference has found out -/
def mD (σ : zS) (g : Nat → Int32 × Int32 × Int32) (n : Nat) (L : Nat → Nat → Bool) : Prop := (∀ t, t < 6 → ∀ b, b < 2 ^ tcn g n → pO g n (σ.1 57) (σ.1 60) (σ.1 61) (σ.2 67) t b) ∧ ∀ s, s < 6 → ∀ q, q < 64 → (lB (σ.2 63) s q ↔ fB (tcn g n) L (beA (σ.1 60)) (glA (σ.2 67)) s q)
abbrev stL : List Nat := [45, 60, 61, 62, 63, 65, 66, 67]
/-- the reference's form and links -/
def mF (σ : zS) (g : Nat → Int32 × Int32 × Int32) (n : Nat) (L : Nat → Nat → Bool) : Prop := n ≤ 32 ∧ 0 < n ∧ (∀ x, x < n → shp g x) ∧ tcn g n ≤ 5 ∧ σ.1 45 4 = nI n ∧ σ.1 45 9 = nI (tcn g n) ∧ mT3 σ g n ∧ (∀ x, x < n → tmd (g x).1 = true → σ.1 50 x = nI (tcn g x)) ∧ ∀ a b, a < 6 → b < 6 → σ.1 58 (6 * a + b) = zb (L a b)
theorem m_MO_study {g : Nat → Int32 × Int32 × Int32} {n : Nat} {L : Nat → Nat → Bool} (σ : zS) (hF : mF σ g n L) (hk : σ.1 45 25 = 0 ∨ (σ.1 45 25 = 1 ∧ mD σ g n L)) : zM yMO_study cMO_study 6 none 4 130 0 [.ref 45] σ (fun r σ2 => r = none ∧ zfr stL σ σ2 ∧ zfd [25] σ σ2 ∧ σ2.1 45 25 = 1 ∧ mD σ2 g n L) (fun _ _ => False) := by
  refine zM.of [some (.ref 45), none, none, none, none, none] (by decide) 5 rfl (fun _ => Nat.le_of_ble_eq_true rfl) (fun Z hR => ?_)
  obtain ⟨hn, hn0, hsh, hT5, hN, hT, ha, hb, hL⟩ := hF
  have p2 := p2_le hT5
  rcases hk.symm with ⟨hk, hm⟩ | hk
  ·
    refine z_aload_n hR dMO_study_0 (n := 1) rfl rfl ?_
    refine z_getI hR dMO_study_1 (n := 4) rfl zgMO_171 (by decide) rfl rfl ?_
    rw [hk]
    refine z_if_eq hR dMO_study_4 (t := 8) (n := 7) rfl rfl (fun h4 => absurd h4 (by decide)) (fun _ => ?_)
    refine z_vret hR dMO_study_7 rfl (Nat.zero_le _) ?_
    exact ⟨rfl, zfr.rf, zfd.rf, hk, hm⟩
  -- the rounds, over the tables of the state t0
  have rounds : ∀ (t0 : zS), zfr stL σ t0 → zfd [25] σ t0 → t0.1 45 25 = 1 → (∀ t, t < 6 → ∀ b, b < 2 ^ tcn g n → pO g n (σ.1 57) (t0.1 60) (t0.1 61) (t0.2 67) t b) → ∀ (m : Nat) (l1 l4 l5 : Option Value) (τ : zS), cnL (τ.2 63) ≤ m → zfr [63, 65, 66] t0 τ → (∀ s, s < 6 → ∀ q, q < 64 → lB (τ.2 63) s q → q < 2 ^ tcn g n) → (∀ s, s < 6 → ∀ q, q < 64 → fB (tcn g n) L (beA (t0.1 60)) (glA (t0.2 67)) s q → lB (τ.2 63) s q) → Z 0 51 [some (.ref 45), l1, none, some (.int 1), l4, l5] [] τ := by
    intro t0 f0 d0 h25 hpO m
    obtain ⟨tO1, tO2, tO3⟩ := tO_of hT5 hpO
    have hbe : ∀ s t, s < 6 → t < 6 → ∀ b, b < 2 ^ tcn g n → beA (t0.1 60) s t b < 2 ^ tcn g n := fun s t a b c d => (tO3 s t a b c d).2
    have hsP : ∀ τ, zfr [63, 65, 66] t0 τ → sP τ (tcn g n) L (beA (t0.1 60)) := fun τ hf => by
      unfold sP
      rw [hf.1 45 (by decide), hf.1 58 (by decide), hf.1 60 (by decide), d0 9 (by decide), f0.1 58 (by decide)]
      exact ⟨hT, hL, tO3⟩
    -- the end
    have fin : ∀ (l1 l3 l4 l5 : Option Value) (τ : zS), zfr [63, 65, 66] t0 τ → (∀ s, s < 6 → ∀ q, q < 64 → (lB (τ.2 63) s q ↔ fB (tcn g n) L (beA (t0.1 60)) (glA (t0.2 67)) s q)) → Z 0 105 [some (.ref 45), l1, none, l3, l4, l5] [] τ := by
      intro l1 l3 l4 l5 τ hf h
      refine z_vret hR dMO_study_105 rfl (Nat.zero_le _) ?_
      refine ⟨rfl, f0.tr (hf.mo (by decide)), ?_, ?_, ?_, ?_⟩
      · intro j hj
        rw [hf.1 45 (by decide)]
        exact d0 j hj
      · rw [hf.1 45 (by decide)]
        exact h25
      · rw [hf.1 57 (by decide), f0.1 57 (by decide), hf.1 60 (by decide), hf.1 61 (by decide), hf.2 67 (by decide)]
        exact hpO
      · rw [hf.1 60 (by decide), hf.2 67 (by decide)]
        exact h
    have one : ∀ (l1 l4 l5 : Option Value) (τ : zS), zfr [63, 65, 66] t0 τ → (∀ s, s < 6 → ∀ q, q < 64 → lB (τ.2 63) s q → q < 2 ^ tcn g n) → (∀ s, s < 6 → ∀ q, q < 64 → fB (tcn g n) L (beA (t0.1 60)) (glA (t0.2 67)) s q → lB (τ.2 63) s q) → (∀ (τ2 : zS) (l4 l5 : Option Value), zfr [63, 65, 66] t0 τ2 → (∀ s, s < 6 → ∀ q, q < 64 → lB (τ2.2 63) s q → q < 2 ^ tcn g n) → (∀ s, s < 6 → ∀ q, q < 64 → fB (tcn g n) L (beA (t0.1 60)) (glA (t0.2 67)) s q → lB (τ2.2 63) s q) → cnL (τ2.2 63) < cnL (τ.2 63) → Z 0 51 [some (.ref 45), l1, none, some (.int 1), l4, l5] [] τ2) → Z 0 51 [some (.ref 45), l1, none, some (.int 1), l4, l5] [] τ := by
      intro l1 l4 l5 τ hf a1 a2 nxt
      have inn : ∀ (w k : Nat) (b : Bool) (l5 : Option Value) (τ2 : zS), k + w = tcn g n → zfr [63, 65, 66] t0 τ2 → (∀ s, s < 6 → ∀ q, q < 64 → lB (τ2.2 63) s q → lB (τ.2 63) s q) → (∀ s, s < 6 → ∀ q, q < 64 → fB (tcn g n) L (beA (t0.1 60)) (glA (t0.2 67)) s q → lB (τ2.2 63) s q) → (b = true → cnL (τ2.2 63) < cnL (τ.2 63)) → (b = false → (∀ s, s < 6 → ∀ q, q < 64 → lB (τ2.2 63) s q → bk (tcn g n) L (beA (t0.1 60)) (lB (τ2.2 63)) s q) ∧ ∀ j, j < k → ∃ R, cutR (tcn g n) L (beA (t0.1 60)) (τ2.2 63) (glA (t0.2 67) j) R ∧ ∀ s, s < 6 → ∀ q, q < 64 → lB (τ2.2 63) s q → bk (tcn g n) L (beA (t0.1 60)) R s q) → Z 0 64 [some (.ref 45), l1, none, some (.int (zb b)), some (.int (nI k)), l5] [] τ2 := by
        intro w
        induction w with
        | zero =>
          intro k b l5 τ2 hw hf2 b1 b2 b3 b4
          obtain rfl : k = tcn g n := by omega
          have e9 : τ2.1 45 9 = nI (tcn g n) := by rw [hf2.1 45 (by decide), d0 9 (by decide), hT]
          have hup2 : ∀ s, s < 6 → ∀ q, q < 64 → lB (τ2.2 63) s q → q < 2 ^ tcn g n := fun s hs q hq h => a1 s hs q hq (b1 s hs q hq h)
          cases b with
          | true =>
            refine z_iload hR dMO_study_64 (n := 66) rfl rfl ?_
            refine z_aload_n hR dMO_study_66 (n := 67) rfl rfl ?_
            refine z_getI hR dMO_study_67 (n := 70) rfl zgMO_148 (by decide) rfl rfl ?_
            rw [e9]
            refine z_icmp_geN hR dMO_study_70 (t := 102) (n := 73) rfl rfl (by omega) (by omega) (fun h70 => ?_) (fun h70 => absurd h70 (by omega))
            refine z_goto hR dMO_study_102 (t := 51) rfl ?_
            exact nxt τ2 _ _ hf2 hup2 b2 (b3 rfl)
          | false =>
            obtain ⟨c1, c2⟩ := b4 rfl
            refine z_iload hR dMO_study_64 (n := 66) rfl rfl ?_
            refine z_aload_n hR dMO_study_66 (n := 67) rfl rfl ?_
            refine z_getI hR dMO_study_67 (n := 70) rfl zgMO_148 (by decide) rfl rfl ?_
            rw [e9]
            refine z_icmp_geN hR dMO_study_70 (t := 102) (n := 73) rfl rfl (by omega) (by omega) (fun h70 => ?_) (fun h70 => absurd h70 (by omega))
            refine z_goto hR dMO_study_102 (t := 51) rfl ?_
            refine z_iload_n hR dMO_study_51 (n := 52) rfl rfl ?_
            refine z_if_eq hR dMO_study_52 (t := 105) (n := 55) rfl rfl (fun _ => ?_) (fun h52 => absurd rfl h52)
            exact fin _ _ _ _ τ2 hf2 (fun s hs q hq => ⟨cut_all hT5 hbe hup2 c1 c2 s hs q hq, b2 s hs q hq⟩)
        | succ w ihw =>
          intro k b l5 τ2 hw hf2 b1 b2 b3 b4
          have e9 : τ2.1 45 9 = nI (tcn g n) := by rw [hf2.1 45 (by decide), d0 9 (by decide), hT]
          have hc := m_MO_cut hT5 (nI k) (some k) (Or.inr ⟨k, by omega, rfl, rfl⟩) τ2 (hsP τ2 hf2)
          rw [hf2.2 67 (by decide)] at hc
          refine z_iload hR dMO_study_64 (n := 66) rfl rfl ?_
          refine z_aload_n hR dMO_study_66 (n := 67) rfl rfl ?_
          refine z_getI hR dMO_study_67 (n := 70) rfl zgMO_148 (by decide) rfl rfl ?_
          rw [e9]
          refine z_icmp_geN hR dMO_study_70 (t := 102) (n := 73) rfl rfl (by omega) (by omega) (fun h70 => absurd h70 (by omega)) (fun h70 => ?_)
          refine z_aload_n hR dMO_study_73 (n := 74) rfl rfl ?_
          refine z_iload hR dMO_study_74 (n := 76) rfl rfl ?_
          refine z_callV1 hR dMO_study_76 (n := 79) rfl zcMO_198 zkMO_cut (by decide) (Nat.le_of_ble_eq_true rfl) (by decide) rfl rfl (Nat.zero_le _) hc (fun r76 s76 h76 => ?_)
          obtain ⟨wf, ch, R, rfl, wP, _, wR⟩ := h76
          have hRk := wR k rfl
          have hsub : ∀ s, s < 6 → ∀ q, q < 64 → lB (s76.2 63) s q → lB (τ2.2 63) s q := fun s hs q hq h => ((wP.1 s hs q hq).mp h).1
          have nx : ∀ (bb : Bool) (l5 : Option Value), bb = (b || ch) → Z 0 95 [some (.ref 45), l1, none, some (.int (zb b)), some (.int (nI k)), l5] [.int (zb bb)] s76 := by
            intro bb l5 hbb
            refine z_istore_n hR dMO_study_95 (n := 96) rfl (by decide) rfl ?_
            refine z_iincN hR 1 dMO_study_96 (n := 99) rfl rfl (by decide) rfl rfl ?_
            refine z_goto hR dMO_study_99 (t := 64) rfl ?_
            refine ihw (k + 1) bb _ _ (by omega) (hf2.tr wf) (fun s hs q hq h => b1 s hs q hq (hsub s hs q hq h)) (cut_keep hT5 hbe b2 wP (Or.inr ⟨k, by omega, hRk⟩)) (fun hb => ?_) (fun hb => ?_)
            · rw [hbb, Bool.or_eq_true] at hb
              have hle : cnL (s76.2 63) ≤ cnL (τ2.2 63) := cn_le (fun v hv h => hsub _ (by omega) _ (by omega) h)
              have hle2 : cnL (τ2.2 63) ≤ cnL (τ.2 63) := cn_le (fun v hv h => b1 _ (by omega) _ (by omega) h)
              rcases hb with hb | hb
              · have := b3 hb
                omega
              · have := cnL_lt hsub (wP.2.2 hb)
                omega
            · rw [hbb, Bool.or_eq_false_iff] at hb
              obtain ⟨c1, c2⟩ := b4 hb.1
              have hs := wP.2.1 hb.2
              have he : ∀ s, s < 6 → ∀ q, (lB (s76.2 63) s q ↔ lB (τ2.2 63) s q) := fun s h q => by rw [lB, lB, hs s h]
              refine ⟨fun s h q hq h1 => bk_mo (fun t b t1 _ h3 => (he t t1 b).mpr h3) (c1 s h q hq ((he s h q).mp h1)), fun j hj => ?_⟩
              by_cases e : j = k
              · subst e
                exact ⟨R, cutR_same hs hRk, fun s h q hq h1 => ((wP.1 s h q hq).mp h1).2⟩
              · obtain ⟨R2, r1, r2⟩ := c2 j (by omega)
                exact ⟨R2, cutR_same hs r1, fun s h q hq h1 => r2 s h q hq ((he s h q).mp h1)⟩
          refine z_istore hR dMO_study_79 (n := 81) rfl (by decide) rfl ?_
          refine z_iload_n hR dMO_study_81 (n := 82) rfl rfl ?_
          refine z_if_neB hR dMO_study_82 (t := 90) (n := 85) rfl rfl (fun h82 => ?_) (fun h82 => ?_)
          · refine z_iconst hR dMO_study_90 (v := 1) (n := 91) rfl rfl ?_
            refine z_goto hR dMO_study_91 (t := 95) rfl ?_
            first
              | exact nx true _ (by rw [h82]; rfl)
              | exact nx true _ (by rw [h82, h87]; rfl)
              | exact nx false _ (by rw [h82, h87]; rfl)
          · refine z_iload hR dMO_study_85 (n := 87) rfl rfl ?_
            refine z_if_eqB hR dMO_study_87 (t := 94) (n := 90) rfl rfl (fun h87 => ?_) (fun h87 => ?_)
            · refine z_iconst hR dMO_study_94 (v := 0) (n := 95) rfl rfl ?_
              first
                | exact nx true _ (by rw [h82]; rfl)
                | exact nx true _ (by rw [h82, h87]; rfl)
                | exact nx false _ (by rw [h82, h87]; rfl)
            · refine z_iconst hR dMO_study_90 (v := 1) (n := 91) rfl rfl ?_
              refine z_goto hR dMO_study_91 (t := 95) rfl ?_
              first
                | exact nx true _ (by rw [h82]; rfl)
                | exact nx true _ (by rw [h82, h87]; rfl)
                | exact nx false _ (by rw [h82, h87]; rfl)
      have hc := m_MO_cut hT5 (-1) none (Or.inl ⟨rfl, rfl⟩) τ (hsP τ hf)
      refine z_iload_n hR dMO_study_51 (n := 52) rfl rfl ?_
      refine z_if_eq hR dMO_study_52 (t := 105) (n := 55) rfl rfl (fun h52 => absurd h52 (by decide)) (fun _ => ?_)
      refine z_aload_n hR dMO_study_55 (n := 56) rfl rfl ?_
      refine z_iconst hR dMO_study_56 (v := (-1)) (n := 57) rfl rfl ?_
      refine z_callV1 hR dMO_study_57 (n := 60) rfl zcMO_198 zkMO_cut (by decide) (Nat.le_of_ble_eq_true rfl) (by decide) rfl rfl (Nat.zero_le _) hc (fun r57 s57 h57 => ?_)
      obtain ⟨wf, ch, R, rfl, wP, wR, _⟩ := h57
      have hRi : ∀ s, s < 6 → ∀ q, q < 64 → (R s q ↔ lB (τ.2 63) s q) := by
        rcases wR rfl with e | e
        · intro s _ q _
          rw [e]
        · exact e
      refine z_istore_n hR dMO_study_60 (n := 61) rfl (by decide) rfl ?_
      refine z_iconst hR dMO_study_61 (v := nI 0) (n := 62) rfl rfl ?_
      refine z_istore hR dMO_study_62 (n := 64) rfl (by decide) rfl ?_
      refine inn (tcn g n) 0 ch _ _ (by omega) (hf.tr wf) (fun s hs q hq h => ((wP.1 s hs q hq).mp h).1) (cut_keep hT5 hbe a2 wP (Or.inl hRi)) (fun hb => ?_) (fun hb => ?_)
      · exact cnL_lt (fun s hs q hq h => ((wP.1 s hs q hq).mp h).1) (wP.2.2 hb)
      · have hs := wP.2.1 hb
        have he : ∀ s, s < 6 → ∀ q, (lB (s57.2 63) s q ↔ lB (τ.2 63) s q) := fun s h q => by rw [lB, lB, hs s h]
        refine ⟨fun s h q hq h1 => bk_mo (fun t b t1 b2 h3 => (he t t1 b).mpr ((hRi t t1 b (by omega)).mp h3)) ((wP.1 s h q hq).mp h1).2, fun j hj => absurd hj (by omega)⟩
    induction m with
    | zero =>
      intro l1 l4 l5 τ hc hf a1 a2
      refine one l1 l4 l5 τ hf a1 a2 (fun τ2 l4 l5 b1 b2 b3 b4 => ?_)
      omega
    | succ m ih =>
      intro l1 l4 l5 τ hc hf a1 a2
      exact one l1 l4 l5 τ hf a1 a2 (fun τ2 l4 l5 b1 b2 b3 b4 => ih l1 l4 l5 τ2 (by omega) b1 b2 b3)
  have hct := m_MO_tables hn hn0 hsh hT5 (zwA σ 45 25 1) (by rw [zwA_sn _ _ _ _ (by decide)]; exact hN) (by rw [zwA_sn _ _ _ _ (by decide)]; exact hT) (mT3_fr zfr.w1 (by decide) (by decide) (by decide) ha) (by rw [zwA_n _ _ _ _ (by decide)]; exact hb)
  rw [zwA_n _ _ _ _ (by decide)] at hct
  refine z_aload_n hR dMO_study_0 (n := 1) rfl rfl ?_
  refine z_getI hR dMO_study_1 (n := 4) rfl zgMO_171 (by decide) rfl rfl ?_
  rw [hk]
  refine z_if_eq hR dMO_study_4 (t := 8) (n := 7) rfl rfl (fun _ => ?_) (fun h4 => absurd rfl h4)
  refine z_aload_n hR dMO_study_8 (n := 9) rfl rfl ?_
  refine z_iconst hR dMO_study_9 (v := 1) (n := 10) rfl rfl ?_
  refine z_putZ hR dMO_study_10 (n := 13) rfl zpMO_171 (by decide) rfl rfl (by first | exact Or.inl rfl | exact Or.inr rfl | assumption) ?_
  refine z_aload_n hR dMO_study_13 (n := 14) rfl rfl ?_
  refine z_callV0 hR dMO_study_14 (n := 17) rfl zcMO_195 zkMO_tables (by decide) (Nat.le_of_ble_eq_true rfl) (by decide) rfl rfl (Nat.zero_le _) hct (fun r14 s14 h14 => ?_)
  obtain ⟨rfl, wf, wO⟩ := h14
  have e9 : s14.1 45 9 = nI (tcn g n) := by rw [wf.1 45 (by decide), zwA_sn _ _ _ _ (by decide), hT]
  refine z_lconst hR dMO_study_17 (v := 1) (n := 18) rfl rfl ?_
  refine z_iconst hR dMO_study_18 (v := 1) (n := 19) rfl rfl ?_
  refine z_aload_n hR dMO_study_19 (n := 20) rfl rfl ?_
  refine z_getI hR dMO_study_20 (n := 23) rfl zgMO_148 (by decide) rfl rfl ?_
  rw [e9]
  refine z_ishl hR dMO_study_23 (n := 24) rfl ?_
  rw [p2_shl hT5]
  refine z_lshl hR dMO_study_24 (n := 25) rfl ?_
  refine z_lconst hR dMO_study_25 (v := 1) (n := 26) rfl rfl ?_
  refine z_lsub hR dMO_study_26 (n := 27) rfl ?_
  refine z_lstore_n hR dMO_study_27 (n := 28) rfl (by decide) rfl ?_
  refine z_iconst hR dMO_study_28 (v := nI 0) (n := 29) rfl rfl ?_
  refine z_istore_n hR dMO_study_29 (n := 30) rfl (by decide) rfl ?_
  have f0 : zfr stL σ s14 := (zfr.rf.wA _ (by decide)).tr (wf.mo (by decide))
  have d0 : zfd [25] σ s14 := fun j hj => by
    rw [wf.1 45 (by decide), zwA_sn _ _ _ _ (fun e => hj (by simp [e]))]
  have h25 : s14.1 45 25 = 1 := by rw [wf.1 45 (by decide), zwA_ss]
  have fill : ∀ (m i : Nat) (l4 l5 : Option Value) (τ : zS), i + m = 6 → zfr [63, 65, 66] s14 τ → (∀ s, s < i → τ.2 63 s = (1 : Int64) <<< ((nI (2 ^ tcn g n)).toInt64 &&& 63) - 1) → Z 0 30 [some (.ref 45), some (.long ((1 : Int64) <<< ((nI (2 ^ tcn g n)).toInt64 &&& 63) - 1)), none, some (.int (nI i)), l4, l5] [] τ := by
    intro m
    induction m with
    | zero =>
      intro i l4 l5 τ hi hf h
      obtain rfl : i = 6 := by omega
      refine z_iload_n hR dMO_study_30 (n := 31) rfl rfl ?_
      refine z_bipush hR dMO_study_31 (v := nI 6) (n := 33) rfl rfl ?_
      refine z_icmp_geN hR dMO_study_33 (t := 49) (n := 36) rfl rfl (by omega) (by omega) (fun h33 => ?_) (fun h33 => absurd h33 (by omega))
      refine z_iconst hR dMO_study_49 (v := 1) (n := 50) rfl rfl ?_
      refine z_istore_n hR dMO_study_50 (n := 51) rfl (by decide) rfl ?_
      refine rounds s14 f0 d0 h25 wO 384 _ _ _ τ (cnL_n _) hf (fun s hs q hq hl => ?_) (fun s hs q hq hl => ?_)
      · rw [lB, h s hs, tl_all hT5 hq] at hl
        simpa using hl
      · rw [lB, h s hs, tl_all hT5 hq]
        simpa using hl.1
    | succ m ih =>
      intro i l4 l5 τ hi hf h
      refine z_iload_n hR dMO_study_30 (n := 31) rfl rfl ?_
      refine z_bipush hR dMO_study_31 (v := nI 6) (n := 33) rfl rfl ?_
      refine z_icmp_geN hR dMO_study_33 (t := 49) (n := 36) rfl rfl (by omega) (by omega) (fun h33 => absurd h33 (by omega)) (fun h33 => ?_)
      refine z_aload_n hR dMO_study_36 (n := 37) rfl rfl ?_
      refine z_getR hR dMO_study_37 (n := 40) rfl zgMO_62 (by decide) rfl rfl ?_
      refine z_iload_n hR dMO_study_40 (n := 41) rfl rfl ?_
      refine z_lload_n hR dMO_study_41 (n := 42) rfl rfl ?_
      refine z_last hR (_) dMO_study_42 (n := 43) rfl (by decide) rfl (by decide) rfl (by omega) ?_
      refine z_iincN hR 1 dMO_study_43 (n := 46) rfl rfl (by decide) rfl rfl ?_
      refine z_goto hR dMO_study_46 (t := 30) rfl ?_
      refine ih (i + 1) _ _ _ (by omega) (hf.wL _ (by decide)) (fun s hs => ?_)
      by_cases e : s = i
      · subst e
        rw [zwL_ss]
      · rw [zwL_sn _ _ _ _ e]
        exact h s (by omega)
  exact fill 6 0 _ _ _ (by omega) zfr.rf (fun s hs => absurd hs (by omega))
theorem m_MO_someone {g : Nat → Int32 × Int32 × Int32} {n : Nat} {L : Nat → Nat → Bool} (kp : Bool) (σ : zS) (hF : mF σ g n L) (hk : σ.1 45 25 = 0 ∨ (σ.1 45 25 = 1 ∧ mD σ g n L)) : zM yMO_someone cMO_someone 7 (some .int) 5 160 0 [.ref 45, .int (zb kp)] σ (fun r σ2 => zfr stL σ σ2 ∧ zfd [25] σ σ2 ∧ σ2.1 45 25 = 1 ∧ mD σ2 g n L ∧ ∃ y, r = some (.int y) ∧ ∀ q, q < 32 → (tb y q = true ↔ (q < 6 ∧ ∃ b, b < 2 ^ tcn g n ∧ lB (σ2.2 63) q b ∧ tpA (σ2.1 61) q b = kp))) (fun _ _ => False) := by
  refine zM.of [some (.ref 45), some (.int (zb kp)), none, none, none, none, none] (by decide) 5 rfl (fun _ => Nat.le_of_ble_eq_true rfl) (fun Z hR => ?_)
  have hF0 := hF
  obtain ⟨hn, hn0, hsh, hT5, hN, hT, ha, hb, hL⟩ := hF
  have p2 := p2_le hT5
  refine z_aload_n hR dMO_someone_0 (n := 1) rfl rfl ?_
  refine z_callV0 hR dMO_someone_1 (n := 4) rfl zcMO_201 zkMO_study (by decide) (Nat.le_of_ble_eq_true rfl) (by decide) rfl rfl (Nat.zero_le _) (m_MO_study σ hF0 hk) (fun r1 s1 h1 => ?_)
  obtain ⟨rfl, wf, wd, w25, wD⟩ := h1
  have e9 : s1.1 45 9 = nI (tcn g n) := by rw [wd 9 (by decide), hT]
  obtain ⟨_, tO2, _⟩ := tO_of hT5 wD.1
  refine z_iconst hR dMO_someone_4 (v := 0) (n := 5) rfl rfl ?_
  refine z_istore_n hR dMO_someone_5 (n := 6) rfl (by decide) rfl ?_
  refine z_iconst hR dMO_someone_6 (v := 1) (n := 7) rfl rfl ?_
  refine z_aload_n hR dMO_someone_7 (n := 8) rfl rfl ?_
  refine z_getI hR dMO_someone_8 (n := 11) rfl zgMO_148 (by decide) rfl rfl ?_
  rw [e9]
  refine z_ishl hR dMO_someone_11 (n := 12) rfl ?_
  rw [p2_shl hT5]
  refine z_istore_n hR dMO_someone_12 (n := 13) rfl (by decide) rfl ?_
  refine z_iconst hR dMO_someone_13 (v := nI 0) (n := 14) rfl rfl ?_
  refine z_istore hR dMO_someone_14 (n := 16) rfl (by decide) rfl ?_
  have key : ∀ (m s : Nat) (y : Int32) (l5 l6 : Option Value), s + m = 6 → (∀ q, q < 32 → (tb y q = true ↔ (q < s ∧ ∃ b, b < 2 ^ tcn g n ∧ lB (s1.2 63) q b ∧ tpA (s1.1 61) q b = kp))) → Z 0 16 [some (.ref 45), some (.int (zb kp)), some (.int y), some (.int (nI (2 ^ tcn g n))), some (.int (nI s)), l5, l6] [] s1 := by
    intro m
    induction m with
    | zero =>
      intro s y l5 l6 hs hy
      obtain rfl : s = 6 := by omega
      refine z_iload hR dMO_someone_16 (n := 18) rfl rfl ?_
      refine z_bipush hR dMO_someone_18 (v := nI 6) (n := 20) rfl rfl ?_
      refine z_icmp_geN hR dMO_someone_20 (t := 101) (n := 23) rfl rfl (by omega) (by omega) (fun h20 => ?_) (fun h20 => absurd h20 (by omega))
      refine z_iload_n hR dMO_someone_101 (n := 102) rfl rfl ?_
      refine z_zret hR dMO_someone_102 rfl rfl (Nat.zero_le _) ?_
      exact ⟨wf, wd, w25, wD, _, rfl, hy⟩
    | succ m ih =>
      intro s y l5 l6 hs hy
      have hs6 : s < 6 := by omega
      have inn : ∀ (w i : Nat) (y2 : Int32) (l6 : Option Value), i + w = 2 ^ tcn g n → (∀ q, q < 32 → (tb y2 q = true ↔ ((q < s ∧ ∃ b, b < 2 ^ tcn g n ∧ lB (s1.2 63) q b ∧ tpA (s1.1 61) q b = kp) ∨ (q = s ∧ ∃ b, b < i ∧ lB (s1.2 63) q b ∧ tpA (s1.1 61) q b = kp)))) → Z 0 26 [some (.ref 45), some (.int (zb kp)), some (.int y2), some (.int (nI (2 ^ tcn g n))), some (.int (nI s)), some (.int (nI i)), l6] [] s1 := by
        intro w
        induction w with
        | zero =>
          intro i y2 l6 hi hy2
          obtain rfl : i = 2 ^ tcn g n := by omega
          refine z_iload hR dMO_someone_26 (n := 28) rfl rfl ?_
          refine z_iload_n hR dMO_someone_28 (n := 29) rfl rfl ?_
          refine z_icmp_geN hR dMO_someone_29 (t := 95) (n := 32) rfl rfl (by omega) (by omega) (fun h29 => ?_) (fun h29 => absurd h29 (by omega))
          refine z_iincN hR 1 dMO_someone_95 (n := 98) rfl rfl (by decide) rfl rfl ?_
          refine z_goto hR dMO_someone_98 (t := 16) rfl ?_
          refine ih (s + 1) _ _ _ (by omega) (fun q hq => ?_)
          rw [hy2 q hq]
          constructor
          · rintro (⟨a, b⟩ | ⟨a, b⟩)
            · exact ⟨by omega, b⟩
            · exact ⟨by omega, b⟩
          · rintro ⟨a, b⟩
            by_cases e : q = s
            · exact Or.inr ⟨e, b⟩
            · exact Or.inl ⟨by omega, b⟩
        | succ w ihw =>
          intro i y2 l6 hi hy2
          have hi32 : i < 32 := by omega
          have et := tO2 s hs6 i (by omega)
          have nx : ∀ (p : Bool) (l6 : Option Value), (p = true ↔ (lB (s1.2 63) s i ∧ tpA (s1.1 61) s i = kp)) → Z 0 71 [some (.ref 45), some (.int (zb kp)), some (.int y2), some (.int (nI (2 ^ tcn g n))), some (.int (nI s)), some (.int (nI i)), l6] [.int (zb p)] s1 := by
            intro p l6 hp
            cases p with
            | false =>
              refine z_istore hR dMO_someone_71 (n := 73) rfl (by decide) rfl ?_
              refine z_iload hR dMO_someone_73 (n := 75) rfl rfl ?_
              refine z_if_eqB hR dMO_someone_75 (t := 87) (n := 78) rfl rfl (fun h75 => ?_) (fun h75 => absurd h75 (by decide))
              refine z_iload_n hR dMO_someone_87 (n := 88) rfl rfl ?_
              refine z_istore_n hR dMO_someone_88 (n := 89) rfl (by decide) rfl ?_
              refine z_iincN hR 1 dMO_someone_89 (n := 92) rfl rfl (by decide) rfl rfl ?_
              refine z_goto hR dMO_someone_92 (t := 26) rfl ?_
              refine ihw (i + 1) _ _ (by omega) (fun q hq => ?_)
              rw [hy2 q hq]
              constructor
              · rintro (a | ⟨a, b, b1, b2⟩)
                · exact Or.inl a
                · exact Or.inr ⟨a, b, by omega, b2⟩
              · rintro (a | ⟨a, b, b1, b2⟩)
                · exact Or.inl a
                · by_cases e : b = i
                  · subst e
                    subst a
                    exact absurd (hp.mpr b2) (by decide)
                  · exact Or.inr ⟨a, b, by omega, b2⟩
            | true =>
              have hh := hp.mp rfl
              refine z_istore hR dMO_someone_71 (n := 73) rfl (by decide) rfl ?_
              refine z_iload hR dMO_someone_73 (n := 75) rfl rfl ?_
              refine z_if_eqB hR dMO_someone_75 (t := 87) (n := 78) rfl rfl (fun h75 => absurd h75 (by decide)) (fun h75 => ?_)
              refine z_iload_n hR dMO_someone_78 (n := 79) rfl rfl ?_
              refine z_iconst hR dMO_someone_79 (v := 1) (n := 80) rfl rfl ?_
              refine z_iload hR dMO_someone_80 (n := 82) rfl rfl ?_
              refine z_ishl hR dMO_someone_82 (n := 83) rfl ?_
              refine z_ior hR dMO_someone_83 (n := 84) rfl ?_
              refine z_goto hR dMO_someone_84 (t := 88) rfl ?_
              refine z_istore_n hR dMO_someone_88 (n := 89) rfl (by decide) rfl ?_
              refine z_iincN hR 1 dMO_someone_89 (n := 92) rfl rfl (by decide) rfl rfl ?_
              refine z_goto hR dMO_someone_92 (t := 26) rfl ?_
              refine ihw (i + 1) _ _ (by omega) (fun q hq => ?_)
              rw [tb_or, Bool.or_eq_true, tb_shl1 (by omega : s < 32) q hq, decide_eq_true_iff, hy2 q hq]
              constructor
              · rintro ((a | ⟨a, b, b1, b2⟩) | a)
                · exact Or.inl a
                · exact Or.inr ⟨a, b, by omega, b2⟩
                · exact Or.inr ⟨a, i, by omega, a ▸ hh⟩
              · rintro (a | ⟨a, b, b1, b2⟩)
                · exact Or.inl (Or.inl a)
                · exact Or.inr a
          cases ef : tl (s1.2 63 s) i with
          | false =>
            refine z_iload hR dMO_someone_26 (n := 28) rfl rfl ?_
            refine z_iload_n hR dMO_someone_28 (n := 29) rfl rfl ?_
            refine z_icmp_geN hR dMO_someone_29 (t := 95) (n := 32) rfl rfl (by omega) (by omega) (fun h29 => absurd h29 (by omega)) (fun h29 => ?_)
            refine z_aload_n hR dMO_someone_32 (n := 33) rfl rfl ?_
            refine z_getR hR dMO_someone_33 (n := 36) rfl zgMO_62 (by decide) rfl rfl ?_
            refine z_iload hR dMO_someone_36 (n := 38) rfl rfl ?_
            refine z_lald hR (_) dMO_someone_38 (n := 39) rfl (by decide) rfl (by decide) rfl (by omega) ?_
            refine z_iload hR dMO_someone_39 (n := 41) rfl rfl ?_
            refine z_lshr hR dMO_someone_41 (n := 42) rfl ?_
            refine z_lconst hR dMO_someone_42 (v := 1) (n := 43) rfl rfl ?_
            refine z_land hR dMO_someone_43 (n := 44) rfl ?_
            rw [tl_sr1 _ hi32, ef]
            refine z_lconst hR dMO_someone_44 (v := 1) (n := 45) rfl rfl ?_
            refine z_lcmp hR dMO_someone_45 (n := 46) rfl ?_
            rw [cmp_f]
            refine z_if_ne hR dMO_someone_46 (t := 70) (n := 49) rfl rfl (fun _ => ?_) (fun h46 => absurd h46 (by decide))
            refine z_iconst hR dMO_someone_70 (v := 0) (n := 71) rfl rfl ?_
            exact nx false _ ⟨fun h => absurd h (by decide), fun h => by rw [lB, ef] at h; exact absurd h.1 (by decide)⟩
          | true =>
            by_cases ek : tpA (s1.1 61) s i = kp
            ·
              refine z_iload hR dMO_someone_26 (n := 28) rfl rfl ?_
              refine z_iload_n hR dMO_someone_28 (n := 29) rfl rfl ?_
              refine z_icmp_geN hR dMO_someone_29 (t := 95) (n := 32) rfl rfl (by omega) (by omega) (fun h29 => absurd h29 (by omega)) (fun h29 => ?_)
              refine z_aload_n hR dMO_someone_32 (n := 33) rfl rfl ?_
              refine z_getR hR dMO_someone_33 (n := 36) rfl zgMO_62 (by decide) rfl rfl ?_
              refine z_iload hR dMO_someone_36 (n := 38) rfl rfl ?_
              refine z_lald hR (_) dMO_someone_38 (n := 39) rfl (by decide) rfl (by decide) rfl (by omega) ?_
              refine z_iload hR dMO_someone_39 (n := 41) rfl rfl ?_
              refine z_lshr hR dMO_someone_41 (n := 42) rfl ?_
              refine z_lconst hR dMO_someone_42 (v := 1) (n := 43) rfl rfl ?_
              refine z_land hR dMO_someone_43 (n := 44) rfl ?_
              rw [tl_sr1 _ hi32, ef]
              refine z_lconst hR dMO_someone_44 (v := 1) (n := 45) rfl rfl ?_
              refine z_lcmp hR dMO_someone_45 (n := 46) rfl ?_
              rw [cmp_t]
              refine z_if_ne hR dMO_someone_46 (t := 70) (n := 49) rfl rfl (fun h46 => absurd h46 (fun q => q rfl)) (fun _ => ?_)
              refine z_aload_n hR dMO_someone_49 (n := 50) rfl rfl ?_
              refine z_getR hR dMO_someone_50 (n := 53) rfl zgMO_56 (by decide) rfl rfl ?_
              refine z_bipush hR dMO_someone_53 (v := nI 64) (n := 55) rfl rfl ?_
              refine z_iload hR dMO_someone_55 (n := 57) rfl rfl ?_
              refine z_imulN hR dMO_someone_57 (n := 58) rfl ?_
              refine z_iload hR dMO_someone_58 (n := 60) rfl rfl ?_
              refine z_iaddN hR dMO_someone_60 (n := 61) rfl ?_
              refine z_zald hR (_) dMO_someone_61 (n := 62) rfl (by decide) rfl (by decide) rfl (by omega) ?_
              rw [et, ek]
              refine z_iload_n hR dMO_someone_62 (n := 63) rfl rfl ?_
              refine z_icmp_ne hR dMO_someone_63 (t := 70) (n := 66) rfl rfl (fun h63 => absurd h63 (fun q => q rfl)) (fun _ => ?_)
              refine z_iconst hR dMO_someone_66 (v := 1) (n := 67) rfl rfl ?_
              refine z_goto hR dMO_someone_67 (t := 71) rfl ?_
              exact nx true _ ⟨fun _ => ⟨ef, ek⟩, fun _ => rfl⟩
            ·
              have hne : ¬ zb (tpA (s1.1 61) s i) = zb kp := fun q => ek (zb_inj.mp q)
              refine z_iload hR dMO_someone_26 (n := 28) rfl rfl ?_
              refine z_iload_n hR dMO_someone_28 (n := 29) rfl rfl ?_
              refine z_icmp_geN hR dMO_someone_29 (t := 95) (n := 32) rfl rfl (by omega) (by omega) (fun h29 => absurd h29 (by omega)) (fun h29 => ?_)
              refine z_aload_n hR dMO_someone_32 (n := 33) rfl rfl ?_
              refine z_getR hR dMO_someone_33 (n := 36) rfl zgMO_62 (by decide) rfl rfl ?_
              refine z_iload hR dMO_someone_36 (n := 38) rfl rfl ?_
              refine z_lald hR (_) dMO_someone_38 (n := 39) rfl (by decide) rfl (by decide) rfl (by omega) ?_
              refine z_iload hR dMO_someone_39 (n := 41) rfl rfl ?_
              refine z_lshr hR dMO_someone_41 (n := 42) rfl ?_
              refine z_lconst hR dMO_someone_42 (v := 1) (n := 43) rfl rfl ?_
              refine z_land hR dMO_someone_43 (n := 44) rfl ?_
              rw [tl_sr1 _ hi32, ef]
              refine z_lconst hR dMO_someone_44 (v := 1) (n := 45) rfl rfl ?_
              refine z_lcmp hR dMO_someone_45 (n := 46) rfl ?_
              rw [cmp_t]
              refine z_if_ne hR dMO_someone_46 (t := 70) (n := 49) rfl rfl (fun h46 => absurd h46 (fun q => q rfl)) (fun _ => ?_)
              refine z_aload_n hR dMO_someone_49 (n := 50) rfl rfl ?_
              refine z_getR hR dMO_someone_50 (n := 53) rfl zgMO_56 (by decide) rfl rfl ?_
              refine z_bipush hR dMO_someone_53 (v := nI 64) (n := 55) rfl rfl ?_
              refine z_iload hR dMO_someone_55 (n := 57) rfl rfl ?_
              refine z_imulN hR dMO_someone_57 (n := 58) rfl ?_
              refine z_iload hR dMO_someone_58 (n := 60) rfl rfl ?_
              refine z_iaddN hR dMO_someone_60 (n := 61) rfl ?_
              refine z_zald hR (_) dMO_someone_61 (n := 62) rfl (by decide) rfl (by decide) rfl (by omega) ?_
              rw [et]
              refine z_iload_n hR dMO_someone_62 (n := 63) rfl rfl ?_
              refine z_icmp_ne hR dMO_someone_63 (t := 70) (n := 66) rfl rfl (fun _ => ?_) (fun h63 => absurd h63 hne)
              refine z_iconst hR dMO_someone_70 (v := 0) (n := 71) rfl rfl ?_
              exact nx false _ ⟨fun h => absurd h (by decide), fun h => absurd h.2 ek⟩
      refine z_iload hR dMO_someone_16 (n := 18) rfl rfl ?_
      refine z_bipush hR dMO_someone_18 (v := nI 6) (n := 20) rfl rfl ?_
      refine z_icmp_geN hR dMO_someone_20 (t := 101) (n := 23) rfl rfl (by omega) (by omega) (fun h20 => absurd h20 (by omega)) (fun h20 => ?_)
      refine z_iconst hR dMO_someone_23 (v := nI 0) (n := 24) rfl rfl ?_
      refine z_istore hR dMO_someone_24 (n := 26) rfl (by decide) rfl ?_
      refine inn (2 ^ tcn g n) 0 y _ (by omega) (fun q hq => ?_)
      rw [hy q hq]
      constructor
      · exact Or.inl
      · rintro (a | ⟨a, b, b1, _⟩)
        · exact a
        · exact absurd b1 (by omega)
  exact key 6 0 0 _ _ (by omega) (fun q hq => ⟨fun h => by rw [tb_0] at h; exact absurd h (by decide), fun h => absurd h.1 (by omega)⟩)
