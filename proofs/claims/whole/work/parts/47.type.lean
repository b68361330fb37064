/-! type of both -/
/-- the k-th byte from the right, as the class takes it -/
def tyc (x : Int64) (k : Nat) : Int32 := ((x.toUInt64 >>> ((nI (8 * k)).toInt64.toUInt64 &&& Int64.toUInt64 63)).toInt64).toInt32 &&& 255
theorem tb_l2i (y : Int64) {g : Nat} (hg : g < 32) : tb y.toInt32 g = tl y g := by
  rw [tb, tl, Int64.toBitVec_toInt32, BitVec.getLsbD_signExtend]
  simp [hg, show g < 64 by omega]
theorem tb_255 {g : Nat} (hg : g < 32) : tb 255 g = decide (g < 8) := by
  rw [show (255 : Int32) = nI (2 ^ 8 - 1) from rfl, tb_nI _ _ hg, Nat.testBit_two_pow_sub_one]
theorem ty_same (x : Int64) {k : Nat} (hk : k < 8) : (x >>> ((nI 8 * nI k).toInt64 &&& 63)).toInt32 &&& 255 = tyc x k := by
  refine tb_ext (fun g hg => ?_)
  rw [tyc, tb_and, tb_and, tb_255 hg]
  by_cases h8 : g < 8
  · congr 1
    rw [tb_l2i _ hg, tb_l2i _ hg, tl, tl, pk_mul]
    have e1 : (((nI (8 * k)).toInt64 &&& 63).toBitVec.smod 64).toNat = 8 * k := by
      rcases (by omega : k = 0 ∨ k = 1 ∨ k = 2 ∨ k = 3 ∨ k = 4 ∨ k = 5 ∨ k = 6 ∨ k = 7) with h | h | h | h | h | h | h | h <;> subst h <;> decide
    have e2 : ((((nI (8 * k)).toInt64.toUInt64 &&& Int64.toUInt64 63).mod 64).toBitVec.toNat) = 8 * k := by
      rcases (by omega : k = 0 ∨ k = 1 ∨ k = 2 ∨ k = 3 ∨ k = 4 ∨ k = 5 ∨ k = 6 ∨ k = 7) with h | h | h | h | h | h | h | h <;> subst h <;> decide
    rw [Int64.toBitVec_shiftRight, BitVec.sshiftRight_eq', BitVec.getLsbD_sshiftRight]
    show _ = (BitVec.ushiftRight x.toBitVec _).getLsbD g
    rw [show ∀ n, BitVec.ushiftRight x.toBitVec n = x.toBitVec >>> n from fun _ => rfl, BitVec.getLsbD_ushiftRight, e1, e2, if_pos (by omega)]
    simp
    omega
  · simp [h8]
/-- the steps that both take: the end and the text -/
def tyF (c : Nat → Int32) : Nat → Nat → (Nat → Int32) → Option Nat × (Nat → Int32)
  | 0, n, T => (some n, T)
  | k + 1, n, T => if c k = 0 then tyF c k n T else if c k < 33 ∨ 126 < c k ∨ 32 ≤ n then (none, T) else tyF c k (n + 1) (upd T n (c k))
theorem tyF_n (c : Nat → Int32) : ∀ (k n : Nat) (T : Nat → Int32) (m : Nat), n ≤ 32 → (tyF c k n T).1 = some m → n ≤ m ∧ m ≤ 32
  | 0, n, T, m, hn, h => by
    simp [tyF] at h
    omega
  | k + 1, n, T, m, hn, h => by
    rw [tyF] at h
    split at h
    · exact tyF_n c k n T m hn h
    · split at h
      · simp at h
      · rename_i h1
        have h2 := tyF_n c k (n + 1) _ m (by omega) h
        omega
theorem tyF_keep (c : Nat → Int32) : ∀ (k n : Nat) (T : Nat → Int32) (j : Nat), j < n → (tyF c k n T).2 j = T j
  | 0, n, T, j, hj => rfl
  | k + 1, n, T, j, hj => by
    rw [tyF]
    split
    · exact tyF_keep c k n T j hj
    · split
      · rfl
      · rw [tyF_keep c k (n + 1) _ j (by omega), pk_un (by omega)]
theorem tyF_same (c : Nat → Int32) : ∀ (k n : Nat) (T U : Nat → Int32), (∀ j, j < n → T j = U j) → (tyF c k n T).1 = (tyF c k n U).1 ∧ ∀ m, (tyF c k n T).1 = some m → ∀ j, j < m → (tyF c k n T).2 j = (tyF c k n U).2 j
  | 0, n, T, U, h => by
    refine ⟨rfl, fun m hm j hj => h j ?_⟩
    simp [tyF] at hm
    omega
  | k + 1, n, T, U, h => by
    rw [tyF, tyF]
    split
    · exact tyF_same c k n T U h
    · split
      · exact ⟨rfl, fun m hm => by simp at hm⟩
      · refine tyF_same c k (n + 1) _ _ (fun j hj => ?_)
        by_cases e : j = n
        · subst e
          rw [pk_us, pk_us]
        · rw [pk_un e, pk_un e]
          exact h j (by omega)
theorem tyc_lt (x : Int64) (k : Nat) : ∃ q : Nat, q < 256 ∧ tyc x k = nI q := by
  obtain ⟨q, h1, h2⟩ := pk_andE ((x.toUInt64 >>> ((nI (8 * k)).toInt64.toUInt64 &&& Int64.toUInt64 63)).toInt64).toInt32 (m := 255) 8 (by decide)
  exact ⟨q, h1, h2⟩
theorem tyc_i2c (x : Int64) (k : Nat) : vp_nar .char ((((tyc x k).toUInt32 % 65536).toInt32)) = tyc x k := by
  rw [pk_vc]
  obtain ⟨q, h1, h2⟩ := tyc_lt x k
  rw [h2, pk_char, pk_tn (by omega), Nat.mod_eq_of_lt (by omega)]
/-- what type leaves: the text, and the end where it took all -/
def tyE (σ σ2 : zS) (oT oN jN : Nat) (q : Option Nat × (Nat → Int32)) (r : Option Value) : Prop := σ2.1 oT = q.2 ∧ ((q.1 = none ∧ r = some (.int 0) ∧ σ2.1 oN = σ.1 oN) ∨ ∃ m : Nat, q.1 = some m ∧ r = some (.int 1) ∧ σ2.1 oN = upd (σ.1 oN) jN (nI m))
theorem m_PC_type (x : Int64) {n : Nat} (hn32 : n ≤ 32) (σ : zS) (hn : σ.1 0 1 = nI n) : zM yPC_type cPC_type 6 (some .boolean) 0 0 0 [.ref 0, .long x] σ (fun r σ2 => zfr [0, 1] σ σ2 ∧ tyE σ σ2 1 0 1 (tyF (tyc x) 8 n (σ.1 1)) r) (fun _ _ => False) := by
  refine zM.of [some (.ref 0), some (.long x), none, none, none, none] (by decide) 3 rfl (fun _ => Nat.le_of_ble_eq_true rfl) (fun Z hR => ?_)
  have key : ∀ (k m : Nat) (y : Int32) (l5 : Option Value) (τ : zS), k ≤ 8 → m ≤ 32 → (k = 0 → y < 0) → (∀ k2, k = k2 + 1 → y = nI (8 * k2)) → zfr [1] σ τ → tyF (tyc x) k m (τ.1 1) = tyF (tyc x) 8 n (σ.1 1) → Z 0 9 [some (.ref 0), some (.long x), none, some (.int (nI m)), some (.int y), l5] [] τ := by
    intro k
    induction k with
    | zero =>
      intro m y l5 τ hk hm h0 _ hf he
      refine z_iload hR dPC_type_9 (n := 11) rfl rfl ?_
      refine z_if_lt hR dPC_type_11 (t := 73) (n := 14) rfl rfl (fun _ => ?_) (fun h11 => absurd (h0 rfl) h11)
      refine z_aload_n hR dPC_type_73 (n := 74) rfl rfl ?_
      refine z_iload_n hR dPC_type_74 (n := 75) rfl rfl ?_
      refine z_putI hR dPC_type_75 (n := 78) rfl zpPC_67 (by decide) rfl rfl ?_
      refine z_iconst hR dPC_type_78 (v := 1) (n := 79) rfl rfl ?_
      refine z_zret hR dPC_type_79 rfl rfl (Nat.zero_le _) ?_
      refine ⟨⟨fun o ho => ?_, fun o ho => hf.2 o (fun q => ho (by simp at q; simp [q]))⟩, ?_, Or.inr ⟨m, ?_, rfl, ?_⟩⟩
      · rw [zwA_n _ _ _ _ (fun e => ho (by simp [e]))]
        exact hf.1 o (fun q => ho (by simp at q; simp [q]))
      · rw [zwA_n _ _ _ _ (by decide), ← he]
        rfl
      · rw [← he]
        rfl
      · funext j
        by_cases e : j = 1
        · subst e
          rw [zwA_ss, pk_us]
        · rw [zwA_sn _ _ _ _ e, pk_un e, hf.1 0 (by decide)]
    | succ k ih =>
      intro m y l5 τ hk hm _ h1 hf he
      have hy := h1 k rfl
      subst hy
      rw [tyF] at he
      have hdec : ∀ k2, k = k2 + 1 → nI (8 * k) + (-8) = nI (8 * k2) := fun k2 e => by
        subst e
        rw [show (-8 : Int32) = - nI 8 by decide, ← Int32.sub_eq_add_neg, pk_sub (by omega)]
        congr 1
      have hdz : k = 0 → nI (8 * k) + (-8) < 0 := fun e => by
        subst e
        decide
      have skip : tyc x k = 0 → Z 0 9 [some (.ref 0), some (.long x), none, some (.int (nI m)), some (.int (nI (8 * k) + (-8))), some (.int (tyc x k))] [] τ := fun e => ih m _ _ τ (by omega) hm hdz hdec hf (by rw [← he, if_pos e])
      have bad : ¬ tyc x k = 0 → (tyc x k < 33 ∨ 126 < tyc x k ∨ 32 ≤ m) → zfr [0, 1] σ τ ∧ tyE σ τ 1 0 1 (tyF (tyc x) 8 n (σ.1 1)) (some (.int 0)) := fun e1 e2 => by
        rw [if_neg e1, if_pos e2] at he
        refine ⟨hf.mo (by simp), ?_, Or.inl ⟨?_, rfl, hf.1 0 (by decide)⟩⟩
        · rw [← he]
        · rw [← he]
      have grow : ¬ tyc x k = 0 → ¬ (tyc x k < 33 ∨ 126 < tyc x k ∨ 32 ≤ m) → Z 0 9 [some (.ref 0), some (.long x), none, some (.int (nI (m + 1))), some (.int (nI (8 * k) + (-8))), some (.int (tyc x k))] [] (zwA τ 1 m (tyc x k)) := fun e1 e2 => ih (m + 1) _ _ _ (by omega) (by omega) hdz hdec (hf.wA _ (by simp)) (by
        rw [← he, if_neg e1, if_neg e2]
        congr 1)
      refine z_iload hR dPC_type_9 (n := 11) rfl rfl ?_
      refine z_if_ltN hR dPC_type_11 (t := 73) (n := 14) rfl rfl (by omega) ?_
      refine z_lload_n hR dPC_type_14 (n := 15) rfl rfl ?_
      refine z_iload hR dPC_type_15 (n := 17) rfl rfl ?_
      refine z_lushr hR dPC_type_17 (n := 18) rfl ?_
      refine z_l2i hR dPC_type_18 (n := 19) rfl ?_
      refine z_sipush hR dPC_type_19 (v := 255) (n := 22) rfl rfl ?_
      refine z_iand hR dPC_type_22 (n := 23) rfl ?_
      change Z 0 23 _ [.int (tyc x k)] τ
      refine z_istore hR dPC_type_23 (n := 25) rfl (by decide) rfl ?_
      refine z_iload hR dPC_type_25 (n := 27) rfl rfl ?_
      refine z_if_ne hR dPC_type_27 (t := 33) (n := 30) rfl rfl (fun h27 => ?_) (fun h27 => ?_)
      · refine z_iload hR dPC_type_33 (n := 35) rfl rfl ?_
        refine z_bipush hR dPC_type_35 (v := 33) (n := 37) rfl rfl ?_
        refine z_icmp_lt hR dPC_type_37 (t := 53) (n := 40) rfl rfl (fun h37 => ?_) (fun h37 => ?_)
        · refine z_iconst hR dPC_type_53 (v := 0) (n := 54) rfl rfl ?_
          refine z_zret hR dPC_type_54 rfl rfl (Nat.zero_le _) ?_
          first | exact bad h27 (Or.inl h37) | exact bad h27 (Or.inr (Or.inl h44)) | exact bad h27 (Or.inr (Or.inr (by omega)))
        · refine z_iload hR dPC_type_40 (n := 42) rfl rfl ?_
          refine z_bipush hR dPC_type_42 (v := 126) (n := 44) rfl rfl ?_
          refine z_icmp_gt hR dPC_type_44 (t := 53) (n := 47) rfl rfl (fun h44 => ?_) (fun h44 => ?_)
          · refine z_iconst hR dPC_type_53 (v := 0) (n := 54) rfl rfl ?_
            refine z_zret hR dPC_type_54 rfl rfl (Nat.zero_le _) ?_
            first | exact bad h27 (Or.inl h37) | exact bad h27 (Or.inr (Or.inl h44)) | exact bad h27 (Or.inr (Or.inr (by omega)))
          · refine z_iload_n hR dPC_type_47 (n := 48) rfl rfl ?_
            refine z_bipush hR dPC_type_48 (v := nI 32) (n := 50) rfl rfl ?_
            refine z_icmp_ltN hR dPC_type_50 (t := 55) (n := 53) rfl rfl (by omega) (by omega) (fun h50 => ?_) (fun h50 => ?_)
            · refine z_aload_n hR dPC_type_55 (n := 56) rfl rfl ?_
              refine z_getR hR dPC_type_56 (n := 59) rfl zgPC_9 (by decide) rfl rfl ?_
              refine z_iload_n hR dPC_type_59 (n := 60) rfl rfl ?_
              refine z_iload hR dPC_type_60 (n := 62) rfl rfl ?_
              refine z_i2c hR dPC_type_62 (n := 63) rfl ?_
              refine z_cast hR (_) dPC_type_63 (n := 64) rfl (by decide) rfl (by decide) rfl (by omega) ?_
              rw [tyc_i2c]
              refine z_iincN hR 1 dPC_type_64 (n := 67) rfl rfl (by decide) rfl rfl ?_
              refine z_iinc hR dPC_type_67 (q32 := (-8)) (n := 70) rfl rfl (by decide) rfl rfl ?_
              refine z_goto hR dPC_type_70 (t := 9) rfl ?_
              first | exact skip h27 | exact grow h27 (fun e => by rcases e with e | e | e; exact h37 e; exact h44 e; omega)
            · refine z_iconst hR dPC_type_53 (v := 0) (n := 54) rfl rfl ?_
              refine z_zret hR dPC_type_54 rfl rfl (Nat.zero_le _) ?_
              first | exact bad h27 (Or.inl h37) | exact bad h27 (Or.inr (Or.inl h44)) | exact bad h27 (Or.inr (Or.inr (by omega)))
      · refine z_goto hR dPC_type_30 (t := 67) rfl ?_
        refine z_iinc hR dPC_type_67 (q32 := (-8)) (n := 70) rfl rfl (by decide) rfl rfl ?_
        refine z_goto hR dPC_type_70 (t := 9) rfl ?_
        first | exact skip h27 | exact grow h27 (fun e => by rcases e with e | e | e; exact h37 e; exact h44 e; omega)
  refine z_aload_n hR dPC_type_0 (n := 1) rfl rfl ?_
  refine z_getI hR dPC_type_1 (n := 4) rfl zgPC_67 (by decide) rfl rfl ?_
  rw [hn]
  refine z_istore_n hR dPC_type_4 (n := 5) rfl (by decide) rfl ?_
  refine z_bipush hR dPC_type_5 (v := 56) (n := 7) rfl rfl ?_
  refine z_istore hR dPC_type_7 (n := 9) rfl (by decide) rfl ?_
  exact key 8 n 56 _ σ (by omega) hn32 (by omega) (fun k2 e => by rw [show k2 = 7 by omega]; rfl) zfr.rf rfl
theorem m_MO_type (x : Int64) {n : Nat} (hn32 : n ≤ 32) (σ : zS) (hn : σ.1 45 1 = nI n) : zM yMO_type cMO_type 6 (some .boolean) 0 0 0 [.ref 45, .long x] σ (fun r σ2 => zfr [45, 46] σ σ2 ∧ tyE (zwA σ 45 0 0) σ2 46 45 1 (tyF (tyc x) 8 n (σ.1 46)) r) (fun _ _ => False) := by
  refine zM.of [some (.ref 45), some (.long x), none, none, none, none] (by decide) 3 rfl (fun _ => Nat.le_of_ble_eq_true rfl) (fun Z hR => ?_)
  have key : ∀ (k m : Nat) (y : Int32) (l5 : Option Value) (τ : zS), k ≤ 8 → m ≤ 32 → (k = 0 → y < 0) → (∀ k2, k = k2 + 1 → y = nI k2) → zfr [46] (zwA σ 45 0 0) τ → tyF (tyc x) k m (τ.1 46) = tyF (tyc x) 8 n (σ.1 46) → Z 0 14 [some (.ref 45), some (.long x), none, some (.int (nI m)), some (.int y), l5] [] τ := by
    intro k
    induction k with
    | zero =>
      intro m y l5 τ hk hm h0 _ hf he
      refine z_iload hR dMO_type_14 (n := 16) rfl rfl ?_
      refine z_if_lt hR dMO_type_16 (t := 82) (n := 19) rfl rfl (fun _ => ?_) (fun h16 => absurd (h0 rfl) h16)
      refine z_aload_n hR dMO_type_82 (n := 83) rfl rfl ?_
      refine z_iload_n hR dMO_type_83 (n := 84) rfl rfl ?_
      refine z_putI hR dMO_type_84 (n := 87) rfl zpMO_97 (by decide) rfl rfl ?_
      refine z_iconst hR dMO_type_87 (v := 1) (n := 88) rfl rfl ?_
      refine z_zret hR dMO_type_88 rfl rfl (Nat.zero_le _) ?_
      refine ⟨⟨fun o ho => ?_, fun o ho => hf.2 o (fun q => ho (by simp at q; simp [q]))⟩, ?_, Or.inr ⟨m, ?_, rfl, ?_⟩⟩
      · rw [zwA_n _ _ _ _ (fun e => ho (by simp [e])), hf.1 o (fun q => ho (by simp at q; simp [q])), zwA_n _ _ _ _ (fun e => ho (by simp [e]))]
      · rw [zwA_n _ _ _ _ (by decide), ← he]
        rfl
      · rw [← he]
        rfl
      · funext j
        by_cases e : j = 1
        · subst e
          rw [zwA_ss, pk_us]
        · rw [zwA_sn _ _ _ _ e, pk_un e, hf.1 45 (by decide)]
    | succ k ih =>
      intro m y l5 τ hk hm _ h1 hf he
      have hy := h1 k rfl
      subst hy
      rw [tyF] at he
      have hdec : ∀ k2, k = k2 + 1 → nI k + (-1) = nI k2 := fun k2 e => by
        subst e
        exact pk_m1 k2
      have hdz : k = 0 → nI k + (-1) < 0 := fun e => by
        subst e
        decide
      have skip : tyc x k = 0 → Z 0 14 [some (.ref 45), some (.long x), none, some (.int (nI m)), some (.int (nI k + (-1))), some (.int (tyc x k))] [] τ := fun e => ih m _ _ τ (by omega) hm hdz hdec hf (by rw [← he, if_pos e])
      have bad : ¬ tyc x k = 0 → (tyc x k < 33 ∨ 126 < tyc x k ∨ 32 ≤ m) → zfr [45, 46] σ τ ∧ tyE (zwA σ 45 0 0) τ 46 45 1 (tyF (tyc x) 8 n (σ.1 46)) (some (.int 0)) := fun e1 e2 => by
        rw [if_neg e1, if_pos e2] at he
        refine ⟨(zfr.rf.wA 0 (by simp)).tr (hf.mo (by simp)), ?_, Or.inl ⟨?_, rfl, hf.1 45 (by decide)⟩⟩
        · rw [← he]
        · rw [← he]
      have grow : ¬ tyc x k = 0 → ¬ (tyc x k < 33 ∨ 126 < tyc x k ∨ 32 ≤ m) → Z 0 14 [some (.ref 45), some (.long x), none, some (.int (nI (m + 1))), some (.int (nI k + (-1))), some (.int (tyc x k))] [] (zwA τ 46 m (tyc x k)) := fun e1 e2 => ih (m + 1) _ _ _ (by omega) (by omega) hdz hdec (hf.wA _ (by simp)) (by
        rw [← he, if_neg e1, if_neg e2]
        congr 1)
      have hsame := ty_same x (show k < 8 by omega)
      by_cases h60 : tyc x k = 0
      ·
        refine z_iload hR dMO_type_14 (n := 16) rfl rfl ?_
        refine z_if_ltN hR dMO_type_16 (t := 82) (n := 19) rfl rfl (by omega) ?_
        refine z_lload_n hR dMO_type_19 (n := 20) rfl rfl ?_
        refine z_bipush hR dMO_type_20 (v := nI 8) (n := 22) rfl rfl ?_
        refine z_iload hR dMO_type_22 (n := 24) rfl rfl ?_
        refine z_imul hR dMO_type_24 (n := 25) rfl ?_
        refine z_lshr hR dMO_type_25 (n := 26) rfl ?_
        refine z_l2i hR dMO_type_26 (n := 27) rfl ?_
        refine z_sipush hR dMO_type_27 (v := 255) (n := 30) rfl rfl ?_
        refine z_iand hR dMO_type_30 (n := 31) rfl ?_
        rw [hsame]
        refine z_istore hR dMO_type_31 (n := 33) rfl (by decide) rfl ?_
        refine z_iload hR dMO_type_33 (n := 35) rfl rfl ?_
        refine z_if_eq hR dMO_type_35 (t := 60) (n := 38) rfl rfl (fun _ => ?_) (fun h35 => absurd h60 h35)
        refine z_iload hR dMO_type_60 (n := 62) rfl rfl ?_
        refine z_if_eq hR dMO_type_62 (t := 76) (n := 65) rfl rfl (fun _ => ?_) (fun h62 => absurd h60 h62)
        refine z_iinc hR dMO_type_76 (q32 := (-1)) (n := 79) rfl rfl (by decide) rfl rfl ?_
        refine z_goto hR dMO_type_79 (t := 14) rfl ?_
        exact skip h60
      ·
        refine z_iload hR dMO_type_14 (n := 16) rfl rfl ?_
        refine z_if_ltN hR dMO_type_16 (t := 82) (n := 19) rfl rfl (by omega) ?_
        refine z_lload_n hR dMO_type_19 (n := 20) rfl rfl ?_
        refine z_bipush hR dMO_type_20 (v := nI 8) (n := 22) rfl rfl ?_
        refine z_iload hR dMO_type_22 (n := 24) rfl rfl ?_
        refine z_imul hR dMO_type_24 (n := 25) rfl ?_
        refine z_lshr hR dMO_type_25 (n := 26) rfl ?_
        refine z_l2i hR dMO_type_26 (n := 27) rfl ?_
        refine z_sipush hR dMO_type_27 (v := 255) (n := 30) rfl rfl ?_
        refine z_iand hR dMO_type_30 (n := 31) rfl ?_
        rw [hsame]
        refine z_istore hR dMO_type_31 (n := 33) rfl (by decide) rfl ?_
        refine z_iload hR dMO_type_33 (n := 35) rfl rfl ?_
        refine z_if_eq hR dMO_type_35 (t := 60) (n := 38) rfl rfl (fun h35 => absurd h35 h60) (fun _ => ?_)
        refine z_iload hR dMO_type_38 (n := 40) rfl rfl ?_
        refine z_bipush hR dMO_type_40 (v := 33) (n := 42) rfl rfl ?_
        refine z_icmp_lt hR dMO_type_42 (t := 58) (n := 45) rfl rfl (fun h42 => ?_) (fun h42 => ?_)
        · refine z_iconst hR dMO_type_58 (v := 0) (n := 59) rfl rfl ?_
          refine z_zret hR dMO_type_59 rfl rfl (Nat.zero_le _) ?_
          first | exact bad h60 (Or.inl h42) | exact bad h60 (Or.inr (Or.inl h49)) | exact bad h60 (Or.inr (Or.inr (by omega)))
        · refine z_iload hR dMO_type_45 (n := 47) rfl rfl ?_
          refine z_bipush hR dMO_type_47 (v := 126) (n := 49) rfl rfl ?_
          refine z_icmp_gt hR dMO_type_49 (t := 58) (n := 52) rfl rfl (fun h49 => ?_) (fun h49 => ?_)
          · refine z_iconst hR dMO_type_58 (v := 0) (n := 59) rfl rfl ?_
            refine z_zret hR dMO_type_59 rfl rfl (Nat.zero_le _) ?_
            first | exact bad h60 (Or.inl h42) | exact bad h60 (Or.inr (Or.inl h49)) | exact bad h60 (Or.inr (Or.inr (by omega)))
          · refine z_iload_n hR dMO_type_52 (n := 53) rfl rfl ?_
            refine z_bipush hR dMO_type_53 (v := nI 32) (n := 55) rfl rfl ?_
            refine z_icmp_neN hR dMO_type_55 (t := 60) (n := 58) rfl rfl (by omega) (by omega) (fun h55 => ?_) (fun h55 => ?_)
            · refine z_iload hR dMO_type_60 (n := 62) rfl rfl ?_
              refine z_if_eq hR dMO_type_62 (t := 76) (n := 65) rfl rfl (fun h62 => absurd h62 h60) (fun _ => ?_)
              refine z_aload_n hR dMO_type_65 (n := 66) rfl rfl ?_
              refine z_getR hR dMO_type_66 (n := 69) rfl zgMO_7 (by decide) rfl rfl ?_
              refine z_iload_n hR dMO_type_69 (n := 70) rfl rfl ?_
              refine z_iload hR dMO_type_70 (n := 72) rfl rfl ?_
              refine z_iast hR (_) dMO_type_72 (n := 73) rfl (by decide) rfl (by decide) rfl (by omega) ?_
              refine z_iincN hR 1 dMO_type_73 (n := 76) rfl rfl (by decide) rfl rfl ?_
              refine z_iinc hR dMO_type_76 (q32 := (-1)) (n := 79) rfl rfl (by decide) rfl rfl ?_
              refine z_goto hR dMO_type_79 (t := 14) rfl ?_
              exact grow h60 (fun e => by rcases e with e | e | e; exact h42 e; exact h49 e; omega)
            · refine z_iconst hR dMO_type_58 (v := 0) (n := 59) rfl rfl ?_
              refine z_zret hR dMO_type_59 rfl rfl (Nat.zero_le _) ?_
              first | exact bad h60 (Or.inl h42) | exact bad h60 (Or.inr (Or.inl h49)) | exact bad h60 (Or.inr (Or.inr (by omega)))
  refine z_aload_n hR dMO_type_0 (n := 1) rfl rfl ?_
  refine z_iconst hR dMO_type_1 (v := 0) (n := 2) rfl rfl ?_
  refine z_putI hR dMO_type_2 (n := 5) rfl zpMO_93 (by decide) rfl rfl ?_
  refine z_aload_n hR dMO_type_5 (n := 6) rfl rfl ?_
  refine z_getI hR dMO_type_6 (n := 9) rfl zgMO_97 (by decide) rfl rfl ?_
  rw [zwA_sn _ _ _ _ (by decide), hn]
  refine z_istore_n hR dMO_type_9 (n := 10) rfl (by decide) rfl ?_
  refine z_bipush hR dMO_type_10 (v := 7) (n := 12) rfl rfl ?_
  refine z_istore hR dMO_type_12 (n := 14) rfl (by decide) rfl ?_
  exact key 8 n 7 _ _ (by omega) hn32 (by omega) (fun k2 e => by rw [show k2 = 7 by omega]; rfl) zfr.rf (by rw [zwA_n _ _ _ _ (by decide)])
