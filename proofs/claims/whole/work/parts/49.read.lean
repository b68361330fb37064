/-! The class's reader -/
theorem zbT {p : Bool} (h : p = true) : some (Value.int 1) = some (Value.int (zb p)) := by rw [h]; rfl
theorem zbF {p : Bool} (h : p = false) : some (Value.int 0) = some (Value.int (zb p)) := by rw [h]; rfl
theorem m_RE_rank (c : Int32) (σ : zS) : zM yRE_rank cRE_rank 1 (some .int) 0 0 0 [.int c] σ (fun r σ2 => r = some (.int (nI (rk c))) ∧ σ2 = σ) (fun _ _ => False) := by
  refine zM.of [some (.int c)] (by decide) 0 rfl (fun _ => Nat.le_of_ble_eq_true rfl) (fun Z hR => ?_)
  refine z_iload_n hR dRE_rank_0 (n := 1) rfl rfl ?_
  refine z_look hR dRE_rank_1 rfl rfl ?_
  refine ⟨fun (h1_33 : _ = (33 : Int32)) => ⟨92, rfl, ?_⟩, fun (h1_33 : _ ≠ (33 : Int32)) => ?_⟩
  · subst h1_33
    refine z_iconst hR dRE_rank_92 (v := 5) (n := 93) rfl rfl ?_
    refine z_zret hR dRE_rank_93 rfl rfl (Nat.zero_le _) ?_
    exact ⟨rfl, rfl⟩
  refine ⟨fun (h1_38 : _ = (38 : Int32)) => ⟨88, rfl, ?_⟩, fun (h1_38 : _ ≠ (38 : Int32)) => ?_⟩
  · subst h1_38
    refine z_iconst hR dRE_rank_88 (v := 3) (n := 89) rfl rfl ?_
    refine z_zret hR dRE_rank_89 rfl rfl (Nat.zero_le _) ?_
    exact ⟨rfl, rfl⟩
  refine ⟨fun (h1_62 : _ = (62 : Int32)) => ⟨84, rfl, ?_⟩, fun (h1_62 : _ ≠ (62 : Int32)) => ?_⟩
  · subst h1_62
    refine z_iconst hR dRE_rank_84 (v := 1) (n := 85) rfl rfl ?_
    refine z_zret hR dRE_rank_85 rfl rfl (Nat.zero_le _) ?_
    exact ⟨rfl, rfl⟩
  refine ⟨fun (h1_70 : _ = (70 : Int32)) => ⟨92, rfl, ?_⟩, fun (h1_70 : _ ≠ (70 : Int32)) => ?_⟩
  · subst h1_70
    refine z_iconst hR dRE_rank_92 (v := 5) (n := 93) rfl rfl ?_
    refine z_zret hR dRE_rank_93 rfl rfl (Nat.zero_le _) ?_
    exact ⟨rfl, rfl⟩
  refine ⟨fun (h1_71 : _ = (71 : Int32)) => ⟨92, rfl, ?_⟩, fun (h1_71 : _ ≠ (71 : Int32)) => ?_⟩
  · subst h1_71
    refine z_iconst hR dRE_rank_92 (v := 5) (n := 93) rfl rfl ?_
    refine z_zret hR dRE_rank_93 rfl rfl (Nat.zero_le _) ?_
    exact ⟨rfl, rfl⟩
  refine ⟨fun (h1_82 : _ = (82 : Int32)) => ⟨90, rfl, ?_⟩, fun (h1_82 : _ ≠ (82 : Int32)) => ?_⟩
  · subst h1_82
    refine z_iconst hR dRE_rank_90 (v := 4) (n := 91) rfl rfl ?_
    refine z_zret hR dRE_rank_91 rfl rfl (Nat.zero_le _) ?_
    exact ⟨rfl, rfl⟩
  refine ⟨fun (h1_85 : _ = (85 : Int32)) => ⟨90, rfl, ?_⟩, fun (h1_85 : _ ≠ (85 : Int32)) => ?_⟩
  · subst h1_85
    refine z_iconst hR dRE_rank_90 (v := 4) (n := 91) rfl rfl ?_
    refine z_zret hR dRE_rank_91 rfl rfl (Nat.zero_le _) ?_
    exact ⟨rfl, rfl⟩
  refine ⟨fun (h1_88 : _ = (88 : Int32)) => ⟨92, rfl, ?_⟩, fun (h1_88 : _ ≠ (88 : Int32)) => ?_⟩
  · subst h1_88
    refine z_iconst hR dRE_rank_92 (v := 5) (n := 93) rfl rfl ?_
    refine z_zret hR dRE_rank_93 rfl rfl (Nat.zero_le _) ?_
    exact ⟨rfl, rfl⟩
  refine ⟨fun (h1_124 : _ = (124 : Int32)) => ⟨86, rfl, ?_⟩, fun (h1_124 : _ ≠ (124 : Int32)) => ?_⟩
  · subst h1_124
    refine z_iconst hR dRE_rank_86 (v := 2) (n := 87) rfl rfl ?_
    refine z_zret hR dRE_rank_87 rfl rfl (Nat.zero_le _) ?_
    exact ⟨rfl, rfl⟩
  refine ⟨94, rfl, ?_⟩
  refine z_iconst hR dRE_rank_94 (v := 0) (n := 95) rfl rfl ?_
  refine z_zret hR dRE_rank_95 rfl rfl (Nat.zero_le _) ?_
  refine ⟨congrArg (fun q => some (Value.int q)) ?_, rfl⟩
  simp only [rk, h1_33, h1_38, h1_62, h1_70, h1_71, h1_82, h1_85, h1_88, h1_124, or_self, if_false]
  rfl
theorem m_RE_isTimed (c : Int32) (σ : zS) : zM yRE_isTimed cRE_isTimed 1 (some .boolean) 0 0 0 [.int c] σ (fun r σ2 => r = some (.int (zb (tmd c))) ∧ σ2 = σ) (fun _ _ => False) := by
  refine zM.of [some (.int c)] (by decide) 0 rfl (fun _ => Nat.le_of_ble_eq_true rfl) (fun Z hR => ?_)
  refine z_iload_n hR dRE_isTimed_0 (n := 1) rfl rfl ?_
  refine z_bipush hR dRE_isTimed_1 (v := 88) (n := 3) rfl rfl ?_
  refine z_icmp_eq hR dRE_isTimed_3 (t := 30) (n := 6) rfl rfl (fun h3 => ?_) (fun h3 => ?_)
  · refine z_iconst hR dRE_isTimed_30 (v := 1) (n := 31) rfl rfl ?_
    refine z_goto hR dRE_isTimed_31 (t := 35) rfl ?_
    refine z_zret hR dRE_isTimed_35 rfl rfl (Nat.zero_le _) ?_
    first | exact ⟨zbT (by simp [tmd, *]), rfl⟩ | exact ⟨zbF (by simp [tmd, *]), rfl⟩
  · refine z_iload_n hR dRE_isTimed_6 (n := 7) rfl rfl ?_
    refine z_bipush hR dRE_isTimed_7 (v := 70) (n := 9) rfl rfl ?_
    refine z_icmp_eq hR dRE_isTimed_9 (t := 30) (n := 12) rfl rfl (fun h9 => ?_) (fun h9 => ?_)
    · refine z_iconst hR dRE_isTimed_30 (v := 1) (n := 31) rfl rfl ?_
      refine z_goto hR dRE_isTimed_31 (t := 35) rfl ?_
      refine z_zret hR dRE_isTimed_35 rfl rfl (Nat.zero_le _) ?_
      first | exact ⟨zbT (by simp [tmd, *]), rfl⟩ | exact ⟨zbF (by simp [tmd, *]), rfl⟩
    · refine z_iload_n hR dRE_isTimed_12 (n := 13) rfl rfl ?_
      refine z_bipush hR dRE_isTimed_13 (v := 71) (n := 15) rfl rfl ?_
      refine z_icmp_eq hR dRE_isTimed_15 (t := 30) (n := 18) rfl rfl (fun h15 => ?_) (fun h15 => ?_)
      · refine z_iconst hR dRE_isTimed_30 (v := 1) (n := 31) rfl rfl ?_
        refine z_goto hR dRE_isTimed_31 (t := 35) rfl ?_
        refine z_zret hR dRE_isTimed_35 rfl rfl (Nat.zero_le _) ?_
        first | exact ⟨zbT (by simp [tmd, *]), rfl⟩ | exact ⟨zbF (by simp [tmd, *]), rfl⟩
      · refine z_iload_n hR dRE_isTimed_18 (n := 19) rfl rfl ?_
        refine z_bipush hR dRE_isTimed_19 (v := 85) (n := 21) rfl rfl ?_
        refine z_icmp_eq hR dRE_isTimed_21 (t := 30) (n := 24) rfl rfl (fun h21 => ?_) (fun h21 => ?_)
        · refine z_iconst hR dRE_isTimed_30 (v := 1) (n := 31) rfl rfl ?_
          refine z_goto hR dRE_isTimed_31 (t := 35) rfl ?_
          refine z_zret hR dRE_isTimed_35 rfl rfl (Nat.zero_le _) ?_
          first | exact ⟨zbT (by simp [tmd, *]), rfl⟩ | exact ⟨zbF (by simp [tmd, *]), rfl⟩
        · refine z_iload_n hR dRE_isTimed_24 (n := 25) rfl rfl ?_
          refine z_bipush hR dRE_isTimed_25 (v := 82) (n := 27) rfl rfl ?_
          refine z_icmp_ne hR dRE_isTimed_27 (t := 34) (n := 30) rfl rfl (fun h27 => ?_) (fun h27 => ?_)
          · refine z_iconst hR dRE_isTimed_34 (v := 0) (n := 35) rfl rfl ?_
            refine z_zret hR dRE_isTimed_35 rfl rfl (Nat.zero_le _) ?_
            first | exact ⟨zbT (by simp [tmd, *]), rfl⟩ | exact ⟨zbF (by simp [tmd, *]), rfl⟩
          · refine z_iconst hR dRE_isTimed_30 (v := 1) (n := 31) rfl rfl ?_
            refine z_goto hR dRE_isTimed_31 (t := 35) rfl ?_
            refine z_zret hR dRE_isTimed_35 rfl rfl (Nat.zero_le _) ?_
            first | exact ⟨zbT (by simp [tmd, *]), rfl⟩ | exact ⟨zbF (by simp [tmd, *]), rfl⟩
theorem m_RE_right (c : Int32) (σ : zS) : zM yRE_groupsToTheRight cRE_groupsToTheRight 1 (some .boolean) 0 0 0 [.int c] σ (fun r σ2 => r = some (.int (zb (rgt c))) ∧ σ2 = σ) (fun _ _ => False) := by
  refine zM.of [some (.int c)] (by decide) 0 rfl (fun _ => Nat.le_of_ble_eq_true rfl) (fun Z hR => ?_)
  refine z_iload_n hR dRE_groupsToTheRight_0 (n := 1) rfl rfl ?_
  refine z_bipush hR dRE_groupsToTheRight_1 (v := 62) (n := 3) rfl rfl ?_
  refine z_icmp_eq hR dRE_groupsToTheRight_3 (t := 18) (n := 6) rfl rfl (fun h3 => ?_) (fun h3 => ?_)
  · refine z_iconst hR dRE_groupsToTheRight_18 (v := 1) (n := 19) rfl rfl ?_
    refine z_goto hR dRE_groupsToTheRight_19 (t := 23) rfl ?_
    refine z_zret hR dRE_groupsToTheRight_23 rfl rfl (Nat.zero_le _) ?_
    first | exact ⟨zbT (by simp [rgt, *]), rfl⟩ | exact ⟨zbF (by simp [rgt, *]), rfl⟩
  · refine z_iload_n hR dRE_groupsToTheRight_6 (n := 7) rfl rfl ?_
    refine z_bipush hR dRE_groupsToTheRight_7 (v := 85) (n := 9) rfl rfl ?_
    refine z_icmp_eq hR dRE_groupsToTheRight_9 (t := 18) (n := 12) rfl rfl (fun h9 => ?_) (fun h9 => ?_)
    · refine z_iconst hR dRE_groupsToTheRight_18 (v := 1) (n := 19) rfl rfl ?_
      refine z_goto hR dRE_groupsToTheRight_19 (t := 23) rfl ?_
      refine z_zret hR dRE_groupsToTheRight_23 rfl rfl (Nat.zero_le _) ?_
      first | exact ⟨zbT (by simp [rgt, *]), rfl⟩ | exact ⟨zbF (by simp [rgt, *]), rfl⟩
    · refine z_iload_n hR dRE_groupsToTheRight_12 (n := 13) rfl rfl ?_
      refine z_bipush hR dRE_groupsToTheRight_13 (v := 82) (n := 15) rfl rfl ?_
      refine z_icmp_ne hR dRE_groupsToTheRight_15 (t := 22) (n := 18) rfl rfl (fun h15 => ?_) (fun h15 => ?_)
      · refine z_iconst hR dRE_groupsToTheRight_22 (v := 0) (n := 23) rfl rfl ?_
        refine z_zret hR dRE_groupsToTheRight_23 rfl rfl (Nat.zero_le _) ?_
        first | exact ⟨zbT (by simp [rgt, *]), rfl⟩ | exact ⟨zbF (by simp [rgt, *]), rfl⟩
      · refine z_iconst hR dRE_groupsToTheRight_18 (v := 1) (n := 19) rfl rfl ?_
        refine z_goto hR dRE_groupsToTheRight_19 (t := 23) rfl ?_
        refine z_zret hR dRE_groupsToTheRight_23 rfl rfl (Nat.zero_le _) ?_
        first | exact ⟨zbT (by simp [rgt, *]), rfl⟩ | exact ⟨zbF (by simp [rgt, *]), rfl⟩
theorem m_RE_isLeaf (c : Int32) (σ : zS) : zM yRE_isLeaf cRE_isLeaf 1 (some .boolean) 0 0 0 [.int c] σ (fun r σ2 => r = some (.int (zb (atm c))) ∧ σ2 = σ) (fun _ _ => False) := by
  refine zM.of [some (.int c)] (by decide) 0 rfl (fun _ => Nat.le_of_ble_eq_true rfl) (fun Z hR => ?_)
  refine z_iload_n hR dRE_isLeaf_0 (n := 1) rfl rfl ?_
  refine z_bipush hR dRE_isLeaf_1 (v := 112) (n := 3) rfl rfl ?_
  refine z_icmp_lt hR dRE_isLeaf_3 (t := 12) (n := 6) rfl rfl (fun h3 => ?_) (fun h3 => ?_)
  · refine z_iload_n hR dRE_isLeaf_12 (n := 13) rfl rfl ?_
    refine z_bipush hR dRE_isLeaf_13 (v := 49) (n := 15) rfl rfl ?_
    refine z_icmp_eq hR dRE_isLeaf_15 (t := 24) (n := 18) rfl rfl (fun h15 => ?_) (fun h15 => ?_)
    · refine z_iconst hR dRE_isLeaf_24 (v := 1) (n := 25) rfl rfl ?_
      refine z_goto hR dRE_isLeaf_25 (t := 29) rfl ?_
      refine z_zret hR dRE_isLeaf_29 rfl rfl (Nat.zero_le _) ?_
      first | exact ⟨zbT (decide_eq_true (Or.inl ⟨Int32.not_lt.mp h3, h9⟩)), rfl⟩ | exact ⟨zbT (decide_eq_true (Or.inr (Or.inr h15))), rfl⟩ | exact ⟨zbT (decide_eq_true (Or.inr (Or.inl h21))), rfl⟩ | exact ⟨zbF (decide_eq_false (by rintro (⟨a, b⟩ | e | e); exact Int32.not_lt.mpr a h3; exact h21 e; exact h15 e)), rfl⟩ | exact ⟨zbF (decide_eq_false (by rintro (⟨a, b⟩ | e | e); exact h9 b; exact h21 e; exact h15 e)), rfl⟩
    · refine z_iload_n hR dRE_isLeaf_18 (n := 19) rfl rfl ?_
      refine z_bipush hR dRE_isLeaf_19 (v := 48) (n := 21) rfl rfl ?_
      refine z_icmp_ne hR dRE_isLeaf_21 (t := 28) (n := 24) rfl rfl (fun h21 => ?_) (fun h21 => ?_)
      · refine z_iconst hR dRE_isLeaf_28 (v := 0) (n := 29) rfl rfl ?_
        refine z_zret hR dRE_isLeaf_29 rfl rfl (Nat.zero_le _) ?_
        first | exact ⟨zbT (decide_eq_true (Or.inl ⟨Int32.not_lt.mp h3, h9⟩)), rfl⟩ | exact ⟨zbT (decide_eq_true (Or.inr (Or.inr h15))), rfl⟩ | exact ⟨zbT (decide_eq_true (Or.inr (Or.inl h21))), rfl⟩ | exact ⟨zbF (decide_eq_false (by rintro (⟨a, b⟩ | e | e); exact Int32.not_lt.mpr a h3; exact h21 e; exact h15 e)), rfl⟩ | exact ⟨zbF (decide_eq_false (by rintro (⟨a, b⟩ | e | e); exact h9 b; exact h21 e; exact h15 e)), rfl⟩
      · refine z_iconst hR dRE_isLeaf_24 (v := 1) (n := 25) rfl rfl ?_
        refine z_goto hR dRE_isLeaf_25 (t := 29) rfl ?_
        refine z_zret hR dRE_isLeaf_29 rfl rfl (Nat.zero_le _) ?_
        first | exact ⟨zbT (decide_eq_true (Or.inl ⟨Int32.not_lt.mp h3, h9⟩)), rfl⟩ | exact ⟨zbT (decide_eq_true (Or.inr (Or.inr h15))), rfl⟩ | exact ⟨zbT (decide_eq_true (Or.inr (Or.inl h21))), rfl⟩ | exact ⟨zbF (decide_eq_false (by rintro (⟨a, b⟩ | e | e); exact Int32.not_lt.mpr a h3; exact h21 e; exact h15 e)), rfl⟩ | exact ⟨zbF (decide_eq_false (by rintro (⟨a, b⟩ | e | e); exact h9 b; exact h21 e; exact h15 e)), rfl⟩
  · refine z_iload_n hR dRE_isLeaf_6 (n := 7) rfl rfl ?_
    refine z_bipush hR dRE_isLeaf_7 (v := 115) (n := 9) rfl rfl ?_
    refine z_icmp_le hR dRE_isLeaf_9 (t := 24) (n := 12) rfl rfl (fun h9 => ?_) (fun h9 => ?_)
    · refine z_iconst hR dRE_isLeaf_24 (v := 1) (n := 25) rfl rfl ?_
      refine z_goto hR dRE_isLeaf_25 (t := 29) rfl ?_
      refine z_zret hR dRE_isLeaf_29 rfl rfl (Nat.zero_le _) ?_
      first | exact ⟨zbT (decide_eq_true (Or.inl ⟨Int32.not_lt.mp h3, h9⟩)), rfl⟩ | exact ⟨zbT (decide_eq_true (Or.inr (Or.inr h15))), rfl⟩ | exact ⟨zbT (decide_eq_true (Or.inr (Or.inl h21))), rfl⟩ | exact ⟨zbF (decide_eq_false (by rintro (⟨a, b⟩ | e | e); exact Int32.not_lt.mpr a h3; exact h21 e; exact h15 e)), rfl⟩ | exact ⟨zbF (decide_eq_false (by rintro (⟨a, b⟩ | e | e); exact h9 b; exact h21 e; exact h15 e)), rfl⟩
    · refine z_iload_n hR dRE_isLeaf_12 (n := 13) rfl rfl ?_
      refine z_bipush hR dRE_isLeaf_13 (v := 49) (n := 15) rfl rfl ?_
      refine z_icmp_eq hR dRE_isLeaf_15 (t := 24) (n := 18) rfl rfl (fun h15 => ?_) (fun h15 => ?_)
      · refine z_iconst hR dRE_isLeaf_24 (v := 1) (n := 25) rfl rfl ?_
        refine z_goto hR dRE_isLeaf_25 (t := 29) rfl ?_
        refine z_zret hR dRE_isLeaf_29 rfl rfl (Nat.zero_le _) ?_
        first | exact ⟨zbT (decide_eq_true (Or.inl ⟨Int32.not_lt.mp h3, h9⟩)), rfl⟩ | exact ⟨zbT (decide_eq_true (Or.inr (Or.inr h15))), rfl⟩ | exact ⟨zbT (decide_eq_true (Or.inr (Or.inl h21))), rfl⟩ | exact ⟨zbF (decide_eq_false (by rintro (⟨a, b⟩ | e | e); exact Int32.not_lt.mpr a h3; exact h21 e; exact h15 e)), rfl⟩ | exact ⟨zbF (decide_eq_false (by rintro (⟨a, b⟩ | e | e); exact h9 b; exact h21 e; exact h15 e)), rfl⟩
      · refine z_iload_n hR dRE_isLeaf_18 (n := 19) rfl rfl ?_
        refine z_bipush hR dRE_isLeaf_19 (v := 48) (n := 21) rfl rfl ?_
        refine z_icmp_ne hR dRE_isLeaf_21 (t := 28) (n := 24) rfl rfl (fun h21 => ?_) (fun h21 => ?_)
        · refine z_iconst hR dRE_isLeaf_28 (v := 0) (n := 29) rfl rfl ?_
          refine z_zret hR dRE_isLeaf_29 rfl rfl (Nat.zero_le _) ?_
          first | exact ⟨zbT (decide_eq_true (Or.inl ⟨Int32.not_lt.mp h3, h9⟩)), rfl⟩ | exact ⟨zbT (decide_eq_true (Or.inr (Or.inr h15))), rfl⟩ | exact ⟨zbT (decide_eq_true (Or.inr (Or.inl h21))), rfl⟩ | exact ⟨zbF (decide_eq_false (by rintro (⟨a, b⟩ | e | e); exact Int32.not_lt.mpr a h3; exact h21 e; exact h15 e)), rfl⟩ | exact ⟨zbF (decide_eq_false (by rintro (⟨a, b⟩ | e | e); exact h9 b; exact h21 e; exact h15 e)), rfl⟩
        · refine z_iconst hR dRE_isLeaf_24 (v := 1) (n := 25) rfl rfl ?_
          refine z_goto hR dRE_isLeaf_25 (t := 29) rfl ?_
          refine z_zret hR dRE_isLeaf_29 rfl rfl (Nat.zero_le _) ?_
          first | exact ⟨zbT (decide_eq_true (Or.inl ⟨Int32.not_lt.mp h3, h9⟩)), rfl⟩ | exact ⟨zbT (decide_eq_true (Or.inr (Or.inr h15))), rfl⟩ | exact ⟨zbT (decide_eq_true (Or.inr (Or.inl h21))), rfl⟩ | exact ⟨zbF (decide_eq_false (by rintro (⟨a, b⟩ | e | e); exact Int32.not_lt.mpr a h3; exact h21 e; exact h15 e)), rfl⟩ | exact ⟨zbF (decide_eq_false (by rintro (⟨a, b⟩ | e | e); exact h9 b; exact h21 e; exact h15 e)), rfl⟩
/-- a stack whose top stands first, in a row of numbers -/
def stk (f : Nat → Int32) : List Int32 → Prop
  | [] => True
  | x :: t => f t.length = x ∧ stk f t
theorem stk_same {f g : Nat → Int32} : ∀ {l : List Int32}, (∀ i, i < l.length → g i = f i) → stk f l → stk g l
  | [], _, _ => trivial
  | x :: t, h, ⟨h1, h2⟩ => ⟨(h t.length (by simp)).trans h1, stk_same (fun i hi => h i (by simp; omega)) h2⟩
def nds (K L R : Nat → Int32) : nL3 → Prop
  | [] => True
  | x :: t => K t.length = x.1 ∧ L t.length = x.2.1 ∧ R t.length = x.2.2 ∧ nds K L R t
theorem nds_same {K L R K2 L2 R2 : Nat → Int32} : ∀ {l : nL3}, (∀ i, i < l.length → K2 i = K i ∧ L2 i = L i ∧ R2 i = R i) → nds K L R l → nds K2 L2 R2 l
  | [], _, _ => trivial
  | x :: t, h, ⟨h1, h2, h3, h4⟩ => by
    obtain ⟨a, b, c⟩ := h t.length (by simp)
    exact ⟨a.trans h1, b.trans h2, c.trans h3, nds_same (fun i hi => h i (by simp; omega)) h4⟩
theorem nds_at {K L R : Nat → Int32} : ∀ {l : nL3}, nds K L R l → ∀ i, i < l.length → K i = (ndg l i).1 ∧ L i = (ndg l i).2.1 ∧ R i = (ndg l i).2.2
  | [], _, i, hi => absurd hi (by simp)
  | x :: t, ⟨h1, h2, h3, h4⟩, i, hi => by
    by_cases e : i = t.length
    · subst e
      rw [ndg_new]
      exact ⟨h1, h2, h3⟩
    · simp at hi
      rw [ndg_old _ _ (by omega)]
      exact nds_at h4 i (by omega)
/-- the reader's picture -/
def aC (σ : zS) (nd : nL3) (ops : List Int32) (opd : List Nat) : Prop := σ.1 2 3 = nI nd.length ∧ nds (σ.1 3) (σ.1 4) (σ.1 5) nd ∧ σ.1 2 6 = nI ops.length ∧ stk (σ.1 6) ops ∧ σ.1 2 8 = nI opd.length ∧ stk (σ.1 7) (opd.map nI)
theorem aC_same {σ σ2 : zS} {nd : nL3} {ops : List Int32} {opd : List Nat} (h : aC σ nd ops opd) (h3 : σ2.1 2 3 = σ.1 2 3) (h6 : σ2.1 2 6 = σ.1 2 6) (h8 : σ2.1 2 8 = σ.1 2 8) (g3 : σ2.1 3 = σ.1 3) (g4 : σ2.1 4 = σ.1 4) (g5 : σ2.1 5 = σ.1 5) (g6 : σ2.1 6 = σ.1 6) (g7 : σ2.1 7 = σ.1 7) : aC σ2 nd ops opd := by
  unfold aC at *
  rw [h3, h6, h8, g3, g4, g5, g6, g7]
  exact h
/-- the reader's other fields stay: timed, depth, whether a unit is wanted -/
def aCk (σ σ2 : zS) : Prop := σ2.1 2 4 = σ.1 2 4 ∧ σ2.1 2 9 = σ.1 2 9 ∧ σ2.1 2 10 = σ.1 2 10
theorem m_RE_newPart (c a b : Int32) (hc : vp_nar .char c = c) {nd : nL3} {ops : List Int32} {opd : List Nat} (σ : zS) (h : aC σ nd ops opd) (hl : nd.length < 32) : zM yRE_newPart cRE_newPart 5 (some .int) 0 0 0 [.ref 2, .int c, .int a, .int b] σ (fun r σ2 => r = some (.int (nI nd.length)) ∧ zfr [2, 3, 4, 5] σ σ2 ∧ aCk σ σ2 ∧ aC σ2 ((c, a, b) :: nd) ops opd) (fun _ _ => False) := by
  refine zM.of [some (.ref 2), some (.int c), some (.int a), some (.int b), none] (by decide) 1 rfl (fun _ => Nat.le_of_ble_eq_true rfl) (fun Z hR => ?_)
  have hn := h.1
  refine z_aload_n hR dRE_newPart_0 (n := 1) rfl rfl ?_
  refine z_getI hR dRE_newPart_1 (n := 4) rfl zgRE_56 (by decide) rfl rfl ?_
  rw [hn]
  refine z_istore hR dRE_newPart_4 (n := 6) rfl (by decide) rfl ?_
  refine z_aload_n hR dRE_newPart_6 (n := 7) rfl rfl ?_
  refine z_getR hR dRE_newPart_7 (n := 10) rfl zgRE_9 (by decide) rfl rfl ?_
  refine z_iload hR dRE_newPart_10 (n := 12) rfl rfl ?_
  refine z_iload_n hR dRE_newPart_12 (n := 13) rfl rfl ?_
  refine z_cast hR (_) dRE_newPart_13 (n := 14) rfl (by decide) rfl (by decide) rfl (by omega) ?_
  rw [hc]
  refine z_aload_n hR dRE_newPart_14 (n := 15) rfl rfl ?_
  refine z_getR hR dRE_newPart_15 (n := 18) rfl zgRE_15 (by decide) rfl rfl ?_
  refine z_iload hR dRE_newPart_18 (n := 20) rfl rfl ?_
  refine z_iload_n hR dRE_newPart_20 (n := 21) rfl rfl ?_
  refine z_iast hR (_) dRE_newPart_21 (n := 22) rfl (by decide) rfl (by decide) rfl (by omega) ?_
  refine z_aload_n hR dRE_newPart_22 (n := 23) rfl rfl ?_
  refine z_getR hR dRE_newPart_23 (n := 26) rfl zgRE_19 (by decide) rfl rfl ?_
  refine z_iload hR dRE_newPart_26 (n := 28) rfl rfl ?_
  refine z_iload_n hR dRE_newPart_28 (n := 29) rfl rfl ?_
  refine z_iast hR (_) dRE_newPart_29 (n := 30) rfl (by decide) rfl (by decide) rfl (by omega) ?_
  refine z_aload_n hR dRE_newPart_30 (n := 31) rfl rfl ?_
  refine z_dup hR dRE_newPart_31 (n := 32) rfl rfl ?_
  refine z_getI hR dRE_newPart_32 (n := 35) rfl zgRE_56 (by decide) rfl rfl ?_
  rw [zwA_n _ _ _ _ (by decide), zwA_n _ _ _ _ (by decide), zwA_n _ _ _ _ (by decide), hn]
  refine z_iconst hR dRE_newPart_35 (v := nI 1) (n := 36) rfl rfl ?_
  refine z_iaddN hR dRE_newPart_36 (n := 37) rfl ?_
  refine z_putI hR dRE_newPart_37 (n := 40) rfl zpRE_56 (by decide) rfl rfl ?_
  refine z_iload hR dRE_newPart_40 (n := 42) rfl rfl ?_
  refine z_zret hR dRE_newPart_42 rfl rfl (Nat.zero_le _) ?_
  refine ⟨rfl, (((zfr.rf.wA _ (by decide)).wA _ (by decide)).wA _ (by decide)).wA _ (by decide), ⟨?_, ?_, ?_⟩, ?_⟩
  · rw [zwA_sn _ _ _ _ (by decide), zwA_n _ _ _ _ (by decide), zwA_n _ _ _ _ (by decide), zwA_n _ _ _ _ (by decide)]
  · rw [zwA_sn _ _ _ _ (by decide), zwA_n _ _ _ _ (by decide), zwA_n _ _ _ _ (by decide), zwA_n _ _ _ _ (by decide)]
  · rw [zwA_sn _ _ _ _ (by decide), zwA_n _ _ _ _ (by decide), zwA_n _ _ _ _ (by decide), zwA_n _ _ _ _ (by decide)]
  · obtain ⟨q1, q2, q3, q4, q5, q6⟩ := h
    refine ⟨by rw [zwA_ss]; rfl, ?_, ?_, ?_, ?_, ?_⟩
    · refine ⟨?_, ?_, ?_, nds_same (fun i hi => ⟨?_, ?_, ?_⟩) q2⟩
      · simp [zwA_1]
      · simp [zwA_1]
      · simp [zwA_1]
      · simp [zwA_1, show i ≠ nd.length by omega]
      · simp [zwA_1, show i ≠ nd.length by omega]
      · simp [zwA_1, show i ≠ nd.length by omega]
    · simpa [zwA_1] using q3
    · refine stk_same (fun i hi => ?_) q4
      simp [zwA_1]
    · simpa [zwA_1] using q5
    · refine stk_same (fun i hi => ?_) q6
      simp [zwA_1]
theorem m_RE_await (c : Int32) (hc : vp_nar .char c = c) {nd : nL3} {ops : List Int32} {opd : List Nat} (σ : zS) (h : aC σ nd ops opd) (hl : ops.length < 32) : zM yRE_await cRE_await 2 none 0 0 0 [.ref 2, .int c] σ (fun r σ2 => r = none ∧ zfr [2, 6] σ σ2 ∧ aCk σ σ2 ∧ aC σ2 nd (c :: ops) opd) (fun _ _ => False) := by
  refine zM.of [some (.ref 2), some (.int c)] (by decide) 0 rfl (fun _ => Nat.le_of_ble_eq_true rfl) (fun Z hR => ?_)
  obtain ⟨q1, q2, q3, q4, q5, q6⟩ := h
  refine z_aload_n hR dRE_await_0 (n := 1) rfl rfl ?_
  refine z_getR hR dRE_await_1 (n := 4) rfl zgRE_22 (by decide) rfl rfl ?_
  refine z_aload_n hR dRE_await_4 (n := 5) rfl rfl ?_
  refine z_getI hR dRE_await_5 (n := 8) rfl zgRE_59 (by decide) rfl rfl ?_
  rw [q3]
  refine z_iload_n hR dRE_await_8 (n := 9) rfl rfl ?_
  refine z_cast hR (_) dRE_await_9 (n := 10) rfl (by decide) rfl (by decide) rfl (by omega) ?_
  rw [hc]
  refine z_aload_n hR dRE_await_10 (n := 11) rfl rfl ?_
  refine z_dup hR dRE_await_11 (n := 12) rfl rfl ?_
  refine z_getI hR dRE_await_12 (n := 15) rfl zgRE_59 (by decide) rfl rfl ?_
  rw [zwA_n _ _ _ _ (by decide), q3]
  refine z_iconst hR dRE_await_15 (v := nI 1) (n := 16) rfl rfl ?_
  refine z_iaddN hR dRE_await_16 (n := 17) rfl ?_
  refine z_putI hR dRE_await_17 (n := 20) rfl zpRE_59 (by decide) rfl rfl ?_
  refine z_vret hR dRE_await_20 rfl (Nat.zero_le _) ?_
  refine ⟨rfl, (zfr.rf.wA _ (by decide)).wA _ (by decide), ⟨?_, ?_, ?_⟩, ?_, ?_, ?_, ?_, ?_, ?_⟩
  · simp [zwA_1]
  · simp [zwA_1]
  · simp [zwA_1]
  · simpa [zwA_1] using q1
  · refine nds_same (fun i hi => ⟨?_, ?_, ?_⟩) q2 <;> simp [zwA_1]
  · rw [zwA_ss]
    rfl
  · refine ⟨by simp [zwA_1], stk_same (fun i hi => ?_) q4⟩
    simp [zwA_1, show i ≠ ops.length by omega]
  · simpa [zwA_1] using q5
  · refine stk_same (fun i hi => ?_) q6
    simp [zwA_1]
theorem m_RE_join (c : Int32) (hc : vp_nar .char c = c) (h1 : 1 ≤ rk c) {nd : nL3} {ops : List Int32} {opd : List Nat} (σ : zS) (h : aC σ nd ops opd) (hp : aPR nd (c :: ops) opd) (hl : nd.length < 32) : zM yRE_join cRE_join 3 none 1 40 0 [.ref 2, .int c] σ (fun r σ2 => r = none ∧ zfr [2, 3, 4, 5, 7] σ σ2 ∧ aCk σ σ2 ∧ aC σ2 (aR1 c nd opd).1 ops (aR1 c nd opd).2) (fun _ _ => False) := by
  refine zM.of [some (.ref 2), some (.int c), none] (by decide) 1 rfl (fun _ => Nat.le_of_ble_eq_true rfl) (fun Z hR => ?_)
  have h5 := rk_5 c
  obtain ⟨p1, p2, p3⟩ := hp
  have hlen := (tCh_len p3).1
  rw [nbin] at p2
  have q5 := h.2.2.2.2.1
  have q6 := h.2.2.2.2.2
  by_cases e5 : rk c = 5
  ·
    obtain ⟨e, es, rfl⟩ : ∃ e es, opd = e :: es := by
      cases opd with
      | nil => simp at p2
      | cons e es => exact ⟨e, es, rfl⟩
    have er : aR1 c nd (e :: es) = ((c, nI e, -1) :: nd, nd.length :: es) := by cases es <;> simp [aR1, e5]
    rw [er] at hR
    simp only [List.length_cons] at q5 hlen
    obtain ⟨q7, q8⟩ := q6
    rw [List.length_map] at q7
    refine z_aload_n hR dRE_join_0 (n := 1) rfl rfl ?_
    refine z_getR hR dRE_join_1 (n := 4) rfl zgRE_25 (by decide) rfl rfl ?_
    refine z_aload_n hR dRE_join_4 (n := 5) rfl rfl ?_
    refine z_getI hR dRE_join_5 (n := 8) rfl zgRE_62 (by decide) rfl rfl ?_
    rw [q5]
    refine z_iconst hR dRE_join_8 (v := nI 1) (n := 9) rfl rfl ?_
    refine z_isubN hR dRE_join_9 (n := 10) rfl (by omega) ?_
    refine z_iald hR (es.length) dRE_join_10 (n := 11) rfl (by decide) rfl (by decide) (by congr 1) (by omega) ?_
    rw [q7]
    refine z_istore_n hR dRE_join_11 (n := 12) rfl (by decide) rfl ?_
    refine z_iload_n hR dRE_join_12 (n := 13) rfl rfl ?_
    refine z_callS1 hR dRE_join_13 (n := 16) rfl zcRE_72 zkRE_rank (by decide) (Nat.le_of_ble_eq_true rfl) (Nat.zero_le _) (m_RE_rank c σ) (fun r13 s13 h13 => ?_)
    obtain ⟨rfl, e13⟩ := h13
    subst s13
    refine z_iconst hR dRE_join_16 (v := nI 5) (n := 17) rfl rfl ?_
    refine z_icmp_neN hR dRE_join_17 (t := 41) (n := 20) rfl rfl (by omega) (by omega) (fun h17 => absurd h17 (fun q => q e5)) (fun h17 => ?_)
    refine z_aload_n hR dRE_join_20 (n := 21) rfl rfl ?_
    refine z_getR hR dRE_join_21 (n := 24) rfl zgRE_25 (by decide) rfl rfl ?_
    refine z_aload_n hR dRE_join_24 (n := 25) rfl rfl ?_
    refine z_getI hR dRE_join_25 (n := 28) rfl zgRE_62 (by decide) rfl rfl ?_
    rw [q5]
    refine z_iconst hR dRE_join_28 (v := nI 1) (n := 29) rfl rfl ?_
    refine z_isubN hR dRE_join_29 (n := 30) rfl (by omega) ?_
    refine z_aload_n hR dRE_join_30 (n := 31) rfl rfl ?_
    refine z_iload_n hR dRE_join_31 (n := 32) rfl rfl ?_
    refine z_iload_n hR dRE_join_32 (n := 33) rfl rfl ?_
    refine z_iconst hR dRE_join_33 (v := (-1)) (n := 34) rfl rfl ?_
    refine z_callV3 hR dRE_join_34 (n := 37) rfl zcRE_68 zkRE_newPart (by decide) (Nat.le_of_ble_eq_true rfl) (by decide) rfl rfl (Nat.zero_le _) (m_RE_newPart c (nI e) (-1) hc σ h hl) (fun r34 s34 h34 => ?_)
    obtain ⟨rfl, hf, hk, hC⟩ := h34
    refine z_iast hR (es.length) dRE_join_37 (n := 38) rfl (by decide) rfl (by decide) (by congr 1) (by omega) ?_
    refine z_goto hR dRE_join_38 (t := 79) rfl ?_
    refine z_vret hR dRE_join_79 rfl (Nat.zero_le _) ?_
    obtain ⟨c1, c2, c3, c4, c5, c6⟩ := hC
    refine ⟨rfl, (hf.mo (by decide)).wA _ (by decide), ⟨?_, ?_, ?_⟩, ?_, ?_, ?_, ?_, ?_, ?_⟩
    · rw [zwA_n _ _ _ _ (by decide), hk.1]
    · rw [zwA_n _ _ _ _ (by decide), hk.2.1]
    · rw [zwA_n _ _ _ _ (by decide), hk.2.2]
    · rw [zwA_n _ _ _ _ (by decide), c1]
    · rw [zwA_n _ _ _ _ (by decide), zwA_n _ _ _ _ (by decide), zwA_n _ _ _ _ (by decide)]
      exact c2
    · rw [zwA_n _ _ _ _ (by decide), c3]
    · rw [zwA_n _ _ _ _ (by decide)]
      exact c4
    · rw [zwA_n _ _ _ _ (by decide), c5]
      rfl
    · refine ⟨by simp [zwA_1], stk_same (fun i hi => ?_) c6.2⟩
      simp at hi
      simp [zwA_1, show i ≠ es.length by omega]
  ·
    rw [if_pos (by omega)] at p2
    obtain ⟨e, e1, es, rfl⟩ : ∃ e e1 es, opd = e :: e1 :: es := by
      cases opd with
      | nil => simp at p2
      | cons e es => cases es with
        | nil => simp at p2
        | cons e1 es => exact ⟨e, e1, es, rfl⟩
    have er : aR1 c nd (e :: e1 :: es) = ((c, nI e1, nI e) :: nd, nd.length :: es) := by simp [aR1, e5]
    rw [er] at hR
    simp only [List.length_cons] at q5 hlen
    obtain ⟨q7, q8, q9⟩ := q6
    rw [List.length_map, List.length_cons] at q7
    rw [List.length_map] at q8
    have hA : aC (zwA σ 2 8 (nI (es.length + 1))) nd ops (e1 :: es) := by
      obtain ⟨c1, c2, c3, c4, c5, c6⟩ := h
      refine ⟨by simpa [zwA_1] using c1, ?_, by simpa [zwA_1] using c3, ?_, by simp [zwA_1], ?_⟩
      · refine nds_same (fun i hi => ⟨?_, ?_, ?_⟩) c2 <;> simp [zwA_1]
      · exact stk_same (fun i hi => by simp [zwA_1]) c4
      · exact stk_same (fun i hi => by simp [zwA_1]) c6.2
    refine z_aload_n hR dRE_join_0 (n := 1) rfl rfl ?_
    refine z_getR hR dRE_join_1 (n := 4) rfl zgRE_25 (by decide) rfl rfl ?_
    refine z_aload_n hR dRE_join_4 (n := 5) rfl rfl ?_
    refine z_getI hR dRE_join_5 (n := 8) rfl zgRE_62 (by decide) rfl rfl ?_
    rw [q5]
    refine z_iconst hR dRE_join_8 (v := nI 1) (n := 9) rfl rfl ?_
    refine z_isubN hR dRE_join_9 (n := 10) rfl (by omega) ?_
    refine z_iald hR (es.length + 1) dRE_join_10 (n := 11) rfl (by decide) rfl (by decide) (by congr 1) (by omega) ?_
    rw [q7]
    refine z_istore_n hR dRE_join_11 (n := 12) rfl (by decide) rfl ?_
    refine z_iload_n hR dRE_join_12 (n := 13) rfl rfl ?_
    refine z_callS1 hR dRE_join_13 (n := 16) rfl zcRE_72 zkRE_rank (by decide) (Nat.le_of_ble_eq_true rfl) (Nat.zero_le _) (m_RE_rank c σ) (fun r13 s13 h13 => ?_)
    obtain ⟨rfl, e13⟩ := h13
    subst s13
    refine z_iconst hR dRE_join_16 (v := nI 5) (n := 17) rfl rfl ?_
    refine z_icmp_neN hR dRE_join_17 (t := 41) (n := 20) rfl rfl (by omega) (by omega) (fun h17 => ?_) (fun h17 => absurd h17 e5)
    refine z_aload_n hR dRE_join_41 (n := 42) rfl rfl ?_
    refine z_dup hR dRE_join_42 (n := 43) rfl rfl ?_
    refine z_getI hR dRE_join_43 (n := 46) rfl zgRE_62 (by decide) rfl rfl ?_
    rw [q5]
    refine z_iconst hR dRE_join_46 (v := nI 1) (n := 47) rfl rfl ?_
    refine z_isubN hR dRE_join_47 (n := 48) rfl (by omega) ?_
    rw [show es.length + 1 + 1 - 1 = es.length + 1 by omega]
    refine z_putI hR dRE_join_48 (n := 51) rfl zpRE_62 (by decide) rfl rfl ?_
    refine z_aload_n hR dRE_join_51 (n := 52) rfl rfl ?_
    refine z_getR hR dRE_join_52 (n := 55) rfl zgRE_25 (by decide) rfl rfl ?_
    refine z_aload_n hR dRE_join_55 (n := 56) rfl rfl ?_
    refine z_getI hR dRE_join_56 (n := 59) rfl zgRE_62 (by decide) rfl rfl ?_
    rw [zwA_ss]
    refine z_iconst hR dRE_join_59 (v := nI 1) (n := 60) rfl rfl ?_
    refine z_isubN hR dRE_join_60 (n := 61) rfl (by omega) ?_
    refine z_aload_n hR dRE_join_61 (n := 62) rfl rfl ?_
    refine z_iload_n hR dRE_join_62 (n := 63) rfl rfl ?_
    refine z_aload_n hR dRE_join_63 (n := 64) rfl rfl ?_
    refine z_getR hR dRE_join_64 (n := 67) rfl zgRE_25 (by decide) rfl rfl ?_
    refine z_aload_n hR dRE_join_67 (n := 68) rfl rfl ?_
    refine z_getI hR dRE_join_68 (n := 71) rfl zgRE_62 (by decide) rfl rfl ?_
    rw [zwA_ss]
    refine z_iconst hR dRE_join_71 (v := nI 1) (n := 72) rfl rfl ?_
    refine z_isubN hR dRE_join_72 (n := 73) rfl (by omega) ?_
    refine z_iald hR (es.length) dRE_join_73 (n := 74) rfl (by decide) rfl (by decide) (by congr 1) (by omega) ?_
    rw [zwA_n _ _ _ _ (by decide), q8]
    refine z_iload_n hR dRE_join_74 (n := 75) rfl rfl ?_
    refine z_callV3 hR dRE_join_75 (n := 78) rfl zcRE_68 zkRE_newPart (by decide) (Nat.le_of_ble_eq_true rfl) (by decide) rfl rfl (Nat.zero_le _) (m_RE_newPart c (nI e1) (nI e) hc _ hA hl) (fun r75 s75 h75 => ?_)
    obtain ⟨rfl, hf, hk, hC⟩ := h75
    refine z_iast hR (es.length) dRE_join_78 (n := 79) rfl (by decide) rfl (by decide) (by congr 1) (by omega) ?_
    refine z_vret hR dRE_join_79 rfl (Nat.zero_le _) ?_
    obtain ⟨c1, c2, c3, c4, c5, c6⟩ := hC
    refine ⟨rfl, ((zfr.rf.wA _ (by decide)).tr (hf.mo (by decide))).wA _ (by decide), ⟨?_, ?_, ?_⟩, ?_, ?_, ?_, ?_, ?_, ?_⟩
    · rw [zwA_n _ _ _ _ (by decide), hk.1, zwA_sn _ _ _ _ (by decide)]
    · rw [zwA_n _ _ _ _ (by decide), hk.2.1, zwA_sn _ _ _ _ (by decide)]
    · rw [zwA_n _ _ _ _ (by decide), hk.2.2, zwA_sn _ _ _ _ (by decide)]
    · rw [zwA_n _ _ _ _ (by decide), c1]
    · rw [zwA_n _ _ _ _ (by decide), zwA_n _ _ _ _ (by decide), zwA_n _ _ _ _ (by decide)]
      exact c2
    · rw [zwA_n _ _ _ _ (by decide), c3]
    · rw [zwA_n _ _ _ _ (by decide)]
      exact c4
    · rw [zwA_n _ _ _ _ (by decide), c5]
      rfl
    · refine ⟨by simp [zwA_1], stk_same (fun i hi => ?_) c6.2⟩
      simp at hi
      simp [zwA_1, show i ≠ es.length by omega]
