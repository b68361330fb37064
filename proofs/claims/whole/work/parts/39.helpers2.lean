/-! The law's helpers: what the class answers, or what it throws, told by a number -/
theorem zcast_0 : Cond.castable (zxc 0) (zxc 0) ∈ zNst := List.mem_of_getElem? (i := 52) (by decide +kernel)
theorem zcast_1 : Cond.castable (zxc 1) (zxc 1) ∈ zNst := List.mem_of_getElem? (i := 59) (by decide +kernel)
theorem zcast_2 : Cond.castable (zxc 2) (zxc 2) ∈ zNst := List.mem_of_getElem? (i := 61) (by decide +kernel)
theorem zcast_3 : Cond.castable (zxc 3) (zxc 3) ∈ zNst := List.mem_of_getElem? (i := 62) (by decide +kernel)
def hcode_formula (x : Nat) : Int32 := if x = 0 then 1 else if x = 1 then 2 else 0
set_option maxRecDepth 100000 in
theorem h_formula {σ : zS} {po : Option Value → zS → Prop} {pt : Nat → zS → Prop} {fr lo : Nat} (hM : zM yPC_formula cPC_formula 1 (some .int) fr lo 1 [.ref 0] σ po pt) (hfr : fr ≤ 60) (hlo : lo ≤ 2000) (hpo : ∀ r σ2, po r σ2 → ∃ v : Int32, r = some (.int v)) (hpt : ∀ x σ2, pt x σ2 → x = 0 ∨ x = 1) :
    zMW yLAW_formula cLAW_formula 3 (some .int) [(0, 8, 11, 13), (0, 8, 14, 15)] 61 2100 1 [.ref 0, .ref 73] σ (fun r σ3 => (∃ (v : Int32) (σ2 : zS), po (some (.int v)) σ2 ∧ r = some (.int 0) ∧ σ3 = zwL σ2 73 0 v.toInt64) ∨ ∃ (x : Nat) (σ2 : zS), pt x σ2 ∧ r = some (.int (hcode_formula x)) ∧ σ3 = σ2) := by
  refine zMW.of [some (.ref 0), some (.ref 73), none] (by decide) 1 rfl (fun _ => Nat.le_of_ble_eq_true rfl) (fun Z hR => ?_)
  refine z_aload_n hR dLAW_formula_0 (n := 1) rfl rfl ?_
  refine z_iconst hR dLAW_formula_1 (v := 0) (n := 2) rfl rfl ?_
  refine z_aload_n hR dLAW_formula_2 (n := 3) rfl rfl ?_
  refine z_callVT (av := []) hR dLAW_formula_3 (n := 6) rfl zcLAW_7 zkPC_formula ⟨by omega, by omega⟩ (Nat.le_of_ble_eq_true rfl) (by decide) rfl rfl (by decide) hM (fun r s2 h => ?_) (fun x s2 h => ?_)
  ·
    obtain ⟨v, rfl⟩ := hpo r s2 h
    refine z_i2l hR dLAW_formula_6 (n := 7) rfl ?_
    refine z_last hR (0) dLAW_formula_7 (n := 8) rfl (by decide) rfl (by decide) rfl (by decide) ?_
    refine z_goto hR dLAW_formula_8 (t := 17) rfl ?_
    refine z_iconst hR dLAW_formula_17 (v := 0) (n := 18) rfl rfl ?_
    refine z_zret hR dLAW_formula_18 rfl rfl (by decide) ?_
    exact Or.inl ⟨v, s2, h, rfl, rfl⟩
  ·
    rcases hpt x s2 h with rfl | rfl
    ·
      refine ⟨11, 12, 2, ⟨by decide, by decide, 0, zlLAW_13, Or.inl ⟨rfl, zcast_0, rfl⟩⟩, Or.inl ⟨2, rfl, dLAW_formula_11, rfl⟩, by decide, rfl, ?_⟩
      refine z_iconst hR dLAW_formula_12 (v := 1) (n := 13) rfl rfl ?_
      refine z_zret hR dLAW_formula_13 rfl rfl (by decide) ?_
      exact Or.inr ⟨0, s2, h, rfl, rfl⟩
    ·
      refine ⟨14, 15, 2, ⟨by decide, by decide, 0, zlLAW_13, Or.inr ⟨by decide +kernel, ⟨by decide, by decide, 1, zlLAW_15, Or.inl ⟨rfl, zcast_1, rfl⟩⟩⟩⟩, Or.inl ⟨2, rfl, dLAW_formula_14, rfl⟩, by decide, rfl, ?_⟩
      refine z_iconst hR dLAW_formula_15 (v := 2) (n := 16) rfl rfl ?_
      refine z_zret hR dLAW_formula_16 rfl rfl (by decide) ?_
      exact Or.inr ⟨1, s2, h, rfl, rfl⟩
def hcode_normal (x : Nat) : Int32 := if x = 2 then 1 else 0
set_option maxRecDepth 100000 in
theorem h_normal {σ : zS} {po : Option Value → zS → Prop} {pt : Nat → zS → Prop} {fr lo : Nat} (p0 : Int32) (hM : zM yPC_normal cPC_normal 2 (some .int) fr lo 1 [.ref 0, .int p0] σ po pt) (hfr : fr ≤ 60) (hlo : lo ≤ 2000) (hpo : ∀ r σ2, po r σ2 → ∃ v : Int32, r = some (.int v)) (hpt : ∀ x σ2, pt x σ2 → x = 2) :
    zMW yLAW_normal cLAW_normal 4 (some .int) [(0, 9, 12, 21)] 61 2100 1 [.ref 0, .int p0, .ref 73] σ (fun r σ3 => (∃ (v : Int32) (σ2 : zS), po (some (.int v)) σ2 ∧ r = some (.int 0) ∧ σ3 = zwL σ2 73 0 v.toInt64) ∨ ∃ (x : Nat) (σ2 : zS), pt x σ2 ∧ r = some (.int (hcode_normal x)) ∧ σ3 = σ2) := by
  refine zMW.of [some (.ref 0), some (.int p0), some (.ref 73), none] (by decide) 1 rfl (fun _ => Nat.le_of_ble_eq_true rfl) (fun Z hR => ?_)
  refine z_aload_n hR dLAW_normal_0 (n := 1) rfl rfl ?_
  refine z_iconst hR dLAW_normal_1 (v := 0) (n := 2) rfl rfl ?_
  refine z_aload_n hR dLAW_normal_2 (n := 3) rfl rfl ?_
  refine z_iload_n hR dLAW_normal_3 (n := 4) rfl rfl ?_
  refine z_callVT (av := [.int p0]) hR dLAW_normal_4 (n := 7) rfl zcLAW_17 zkPC_normal ⟨by omega, by omega⟩ (Nat.le_of_ble_eq_true rfl) (by decide) rfl rfl (by decide) hM (fun r s2 h => ?_) (fun x s2 h => ?_)
  ·
    obtain ⟨v, rfl⟩ := hpo r s2 h
    refine z_i2l hR dLAW_normal_7 (n := 8) rfl ?_
    refine z_last hR (0) dLAW_normal_8 (n := 9) rfl (by decide) rfl (by decide) rfl (by decide) ?_
    refine z_goto hR dLAW_normal_9 (t := 15) rfl ?_
    refine z_iconst hR dLAW_normal_15 (v := 0) (n := 16) rfl rfl ?_
    refine z_zret hR dLAW_normal_16 rfl rfl (by decide) ?_
    exact Or.inl ⟨v, s2, h, rfl, rfl⟩
  ·
    rcases hpt x s2 h with rfl
    ·
      refine ⟨12, 13, 3, ⟨by decide, by decide, 2, zlLAW_21, Or.inl ⟨rfl, zcast_2, rfl⟩⟩, Or.inl ⟨3, rfl, dLAW_normal_12, rfl⟩, by decide, rfl, ?_⟩
      refine z_iconst hR dLAW_normal_13 (v := 1) (n := 14) rfl rfl ?_
      refine z_zret hR dLAW_normal_14 rfl rfl (by decide) ?_
      exact Or.inr ⟨2, s2, h, rfl, rfl⟩
def hcode_keeps (x : Nat) : Int32 := if x = 2 then 1 else if x = 3 then 2 else 0
set_option maxRecDepth 100000 in
theorem h_keeps {σ : zS} {po : Option Value → zS → Prop} {pt : Nat → zS → Prop} {fr lo : Nat} (p0 : Int32) (hM : zM yPC_keeps cPC_keeps 2 (some .boolean) fr lo 1 [.ref 0, .int p0] σ po pt) (hfr : fr ≤ 60) (hlo : lo ≤ 2000) (hpo : ∀ r σ2, po r σ2 → ∃ v : Int32, r = some (.int v)) (hpt : ∀ x σ2, pt x σ2 → x = 2 ∨ x = 3) :
    zMW yLAW_keeps cLAW_keeps 4 (some .int) [(0, 16, 19, 21), (0, 16, 22, 27)] 61 2100 1 [.ref 0, .int p0, .ref 73] σ (fun r σ3 => (∃ (v : Int32) (σ2 : zS), po (some (.int v)) σ2 ∧ r = some (.int 0) ∧ σ3 = zwL σ2 73 0 (if v = 0 then 0 else 1)) ∨ ∃ (x : Nat) (σ2 : zS), pt x σ2 ∧ r = some (.int (hcode_keeps x)) ∧ σ3 = σ2) := by
  refine zMW.of [some (.ref 0), some (.int p0), some (.ref 73), none] (by decide) 1 rfl (fun _ => Nat.le_of_ble_eq_true rfl) (fun Z hR => ?_)
  refine z_aload_n hR dLAW_keeps_0 (n := 1) rfl rfl ?_
  refine z_iconst hR dLAW_keeps_1 (v := 0) (n := 2) rfl rfl ?_
  refine z_aload_n hR dLAW_keeps_2 (n := 3) rfl rfl ?_
  refine z_iload_n hR dLAW_keeps_3 (n := 4) rfl rfl ?_
  refine z_callVT (av := [.int p0]) hR dLAW_keeps_4 (n := 7) rfl zcLAW_23 zkPC_keeps ⟨by omega, by omega⟩ (Nat.le_of_ble_eq_true rfl) (by decide) rfl rfl (by decide) hM (fun r s2 h => ?_) (fun x s2 h => ?_)
  ·
    obtain ⟨v, rfl⟩ := hpo r s2 h
    refine z_if_eq hR dLAW_keeps_7 (t := 14) (n := 10) rfl rfl (fun h7 => ?_) (fun h7 => ?_)
    · refine z_lconst hR dLAW_keeps_14 (v := 0) (n := 15) rfl rfl ?_
      refine z_last hR (0) dLAW_keeps_15 (n := 16) rfl (by decide) rfl (by decide) rfl (by decide) ?_
      refine z_goto hR dLAW_keeps_16 (t := 25) rfl ?_
      refine z_iconst hR dLAW_keeps_25 (v := 0) (n := 26) rfl rfl ?_
      refine z_zret hR dLAW_keeps_26 rfl rfl (by decide) ?_
      first | exact Or.inl ⟨v, s2, h, rfl, by rw [if_pos h7]⟩ | exact Or.inl ⟨v, s2, h, rfl, by rw [if_neg h7]⟩
    · refine z_lconst hR dLAW_keeps_10 (v := 1) (n := 11) rfl rfl ?_
      refine z_goto hR dLAW_keeps_11 (t := 15) rfl ?_
      refine z_last hR (0) dLAW_keeps_15 (n := 16) rfl (by decide) rfl (by decide) rfl (by decide) ?_
      refine z_goto hR dLAW_keeps_16 (t := 25) rfl ?_
      refine z_iconst hR dLAW_keeps_25 (v := 0) (n := 26) rfl rfl ?_
      refine z_zret hR dLAW_keeps_26 rfl rfl (by decide) ?_
      first | exact Or.inl ⟨v, s2, h, rfl, by rw [if_pos h7]⟩ | exact Or.inl ⟨v, s2, h, rfl, by rw [if_neg h7]⟩
  ·
    rcases hpt x s2 h with rfl | rfl
    ·
      refine ⟨19, 20, 3, ⟨by decide, by decide, 2, zlLAW_21, Or.inl ⟨rfl, zcast_2, rfl⟩⟩, Or.inl ⟨3, rfl, dLAW_keeps_19, rfl⟩, by decide, rfl, ?_⟩
      refine z_iconst hR dLAW_keeps_20 (v := 1) (n := 21) rfl rfl ?_
      refine z_zret hR dLAW_keeps_21 rfl rfl (by decide) ?_
      exact Or.inr ⟨2, s2, h, rfl, rfl⟩
    ·
      refine ⟨22, 23, 3, ⟨by decide, by decide, 2, zlLAW_21, Or.inr ⟨by decide +kernel, ⟨by decide, by decide, 3, zlLAW_27, Or.inl ⟨rfl, zcast_3, rfl⟩⟩⟩⟩, Or.inl ⟨3, rfl, dLAW_keeps_22, rfl⟩, by decide, rfl, ?_⟩
      refine z_iconst hR dLAW_keeps_23 (v := 2) (n := 24) rfl rfl ?_
      refine z_zret hR dLAW_keeps_24 rfl rfl (by decide) ?_
      exact Or.inr ⟨3, s2, h, rfl, rfl⟩
def hcode_breaking (x : Nat) : Int32 := if x = 2 then 1 else 0
set_option maxRecDepth 100000 in
theorem h_breaking {σ : zS} {po : Option Value → zS → Prop} {pt : Nat → zS → Prop} {fr lo : Nat} (hM : zM yPC_breaking cPC_breaking 1 (some .int) fr lo 1 [.ref 0] σ po pt) (hfr : fr ≤ 60) (hlo : lo ≤ 2000) (hpo : ∀ r σ2, po r σ2 → ∃ v : Int32, r = some (.int v)) (hpt : ∀ x σ2, pt x σ2 → x = 2) :
    zMW yLAW_breaking cLAW_breaking 3 (some .int) [(0, 8, 11, 21)] 61 2100 1 [.ref 0, .ref 73] σ (fun r σ3 => (∃ (v : Int32) (σ2 : zS), po (some (.int v)) σ2 ∧ r = some (.int 0) ∧ σ3 = zwL σ2 73 0 v.toInt64) ∨ ∃ (x : Nat) (σ2 : zS), pt x σ2 ∧ r = some (.int (hcode_breaking x)) ∧ σ3 = σ2) := by
  refine zMW.of [some (.ref 0), some (.ref 73), none] (by decide) 1 rfl (fun _ => Nat.le_of_ble_eq_true rfl) (fun Z hR => ?_)
  refine z_aload_n hR dLAW_breaking_0 (n := 1) rfl rfl ?_
  refine z_iconst hR dLAW_breaking_1 (v := 0) (n := 2) rfl rfl ?_
  refine z_aload_n hR dLAW_breaking_2 (n := 3) rfl rfl ?_
  refine z_callVT (av := []) hR dLAW_breaking_3 (n := 6) rfl zcLAW_29 zkPC_breaking ⟨by omega, by omega⟩ (Nat.le_of_ble_eq_true rfl) (by decide) rfl rfl (by decide) hM (fun r s2 h => ?_) (fun x s2 h => ?_)
  ·
    obtain ⟨v, rfl⟩ := hpo r s2 h
    refine z_i2l hR dLAW_breaking_6 (n := 7) rfl ?_
    refine z_last hR (0) dLAW_breaking_7 (n := 8) rfl (by decide) rfl (by decide) rfl (by decide) ?_
    refine z_goto hR dLAW_breaking_8 (t := 14) rfl ?_
    refine z_iconst hR dLAW_breaking_14 (v := 0) (n := 15) rfl rfl ?_
    refine z_zret hR dLAW_breaking_15 rfl rfl (by decide) ?_
    exact Or.inl ⟨v, s2, h, rfl, rfl⟩
  ·
    rcases hpt x s2 h with rfl
    ·
      refine ⟨11, 12, 2, ⟨by decide, by decide, 2, zlLAW_21, Or.inl ⟨rfl, zcast_2, rfl⟩⟩, Or.inl ⟨2, rfl, dLAW_breaking_11, rfl⟩, by decide, rfl, ?_⟩
      refine z_iconst hR dLAW_breaking_12 (v := 1) (n := 13) rfl rfl ?_
      refine z_zret hR dLAW_breaking_13 rfl rfl (by decide) ?_
      exact Or.inr ⟨2, s2, h, rfl, rfl⟩
def hcode_keeping (x : Nat) : Int32 := if x = 2 then 1 else 0
set_option maxRecDepth 100000 in
theorem h_keeping {σ : zS} {po : Option Value → zS → Prop} {pt : Nat → zS → Prop} {fr lo : Nat} (hM : zM yPC_keeping cPC_keeping 1 (some .int) fr lo 1 [.ref 0] σ po pt) (hfr : fr ≤ 60) (hlo : lo ≤ 2000) (hpo : ∀ r σ2, po r σ2 → ∃ v : Int32, r = some (.int v)) (hpt : ∀ x σ2, pt x σ2 → x = 2) :
    zMW yLAW_keeping cLAW_keeping 3 (some .int) [(0, 8, 11, 21)] 61 2100 1 [.ref 0, .ref 73] σ (fun r σ3 => (∃ (v : Int32) (σ2 : zS), po (some (.int v)) σ2 ∧ r = some (.int 0) ∧ σ3 = zwL σ2 73 0 v.toInt64) ∨ ∃ (x : Nat) (σ2 : zS), pt x σ2 ∧ r = some (.int (hcode_keeping x)) ∧ σ3 = σ2) := by
  refine zMW.of [some (.ref 0), some (.ref 73), none] (by decide) 1 rfl (fun _ => Nat.le_of_ble_eq_true rfl) (fun Z hR => ?_)
  refine z_aload_n hR dLAW_keeping_0 (n := 1) rfl rfl ?_
  refine z_iconst hR dLAW_keeping_1 (v := 0) (n := 2) rfl rfl ?_
  refine z_aload_n hR dLAW_keeping_2 (n := 3) rfl rfl ?_
  refine z_callVT (av := []) hR dLAW_keeping_3 (n := 6) rfl zcLAW_32 zkPC_keeping ⟨by omega, by omega⟩ (Nat.le_of_ble_eq_true rfl) (by decide) rfl rfl (by decide) hM (fun r s2 h => ?_) (fun x s2 h => ?_)
  ·
    obtain ⟨v, rfl⟩ := hpo r s2 h
    refine z_i2l hR dLAW_keeping_6 (n := 7) rfl ?_
    refine z_last hR (0) dLAW_keeping_7 (n := 8) rfl (by decide) rfl (by decide) rfl (by decide) ?_
    refine z_goto hR dLAW_keeping_8 (t := 14) rfl ?_
    refine z_iconst hR dLAW_keeping_14 (v := 0) (n := 15) rfl rfl ?_
    refine z_zret hR dLAW_keeping_15 rfl rfl (by decide) ?_
    exact Or.inl ⟨v, s2, h, rfl, rfl⟩
  ·
    rcases hpt x s2 h with rfl
    ·
      refine ⟨11, 12, 2, ⟨by decide, by decide, 2, zlLAW_21, Or.inl ⟨rfl, zcast_2, rfl⟩⟩, Or.inl ⟨2, rfl, dLAW_keeping_11, rfl⟩, by decide, rfl, ?_⟩
      refine z_iconst hR dLAW_keeping_12 (v := 1) (n := 13) rfl rfl ?_
      refine z_zret hR dLAW_keeping_13 rfl rfl (by decide) ?_
      exact Or.inr ⟨2, s2, h, rfl, rfl⟩
def hcode_witness (x : Nat) : Int32 := if x = 2 then 1 else 0
set_option maxRecDepth 100000 in
theorem h_witness {σ : zS} {po : Option Value → zS → Prop} {pt : Nat → zS → Prop} {fr lo : Nat} (p0 : Int32) (p1 : Int32) (hM : zM yPC_witness cPC_witness 3 (some .int) fr lo 1 [.ref 0, .int p0, .int p1] σ po pt) (hfr : fr ≤ 60) (hlo : lo ≤ 2000) (hpo : ∀ r σ2, po r σ2 → ∃ v : Int32, r = some (.int v)) (hpt : ∀ x σ2, pt x σ2 → x = 2) :
    zMW yLAW_witness cLAW_witness 5 (some .int) [(0, 10, 13, 21)] 61 2100 1 [.ref 0, .int p0, .int p1, .ref 73] σ (fun r σ3 => (∃ (v : Int32) (σ2 : zS), po (some (.int v)) σ2 ∧ r = some (.int 0) ∧ σ3 = zwL σ2 73 0 v.toInt64) ∨ ∃ (x : Nat) (σ2 : zS), pt x σ2 ∧ r = some (.int (hcode_witness x)) ∧ σ3 = σ2) := by
  refine zMW.of [some (.ref 0), some (.int p0), some (.int p1), some (.ref 73), none] (by decide) 1 rfl (fun _ => Nat.le_of_ble_eq_true rfl) (fun Z hR => ?_)
  refine z_aload_n hR dLAW_witness_0 (n := 1) rfl rfl ?_
  refine z_iconst hR dLAW_witness_1 (v := 0) (n := 2) rfl rfl ?_
  refine z_aload_n hR dLAW_witness_2 (n := 3) rfl rfl ?_
  refine z_iload_n hR dLAW_witness_3 (n := 4) rfl rfl ?_
  refine z_iload_n hR dLAW_witness_4 (n := 5) rfl rfl ?_
  refine z_callVT (av := [.int p0, .int p1]) hR dLAW_witness_5 (n := 8) rfl zcLAW_35 zkPC_witness ⟨by omega, by omega⟩ (Nat.le_of_ble_eq_true rfl) (by decide) rfl rfl (by decide) hM (fun r s2 h => ?_) (fun x s2 h => ?_)
  ·
    obtain ⟨v, rfl⟩ := hpo r s2 h
    refine z_i2l hR dLAW_witness_8 (n := 9) rfl ?_
    refine z_last hR (0) dLAW_witness_9 (n := 10) rfl (by decide) rfl (by decide) rfl (by decide) ?_
    refine z_goto hR dLAW_witness_10 (t := 17) rfl ?_
    refine z_iconst hR dLAW_witness_17 (v := 0) (n := 18) rfl rfl ?_
    refine z_zret hR dLAW_witness_18 rfl rfl (by decide) ?_
    exact Or.inl ⟨v, s2, h, rfl, rfl⟩
  ·
    rcases hpt x s2 h with rfl
    ·
      refine ⟨13, 15, 4, ⟨by decide, by decide, 2, zlLAW_21, Or.inl ⟨rfl, zcast_2, rfl⟩⟩, Or.inr ⟨dLAW_witness_13, rfl⟩, by decide, rfl, ?_⟩
      refine z_iconst hR dLAW_witness_15 (v := 1) (n := 16) rfl rfl ?_
      refine z_zret hR dLAW_witness_16 rfl rfl (by decide) ?_
      exact Or.inr ⟨2, s2, h, rfl, rfl⟩
def hcode_judge (x : Nat) : Int32 := if x = 2 then 1 else if x = 3 then 2 else if x = 1 then 3 else 0
set_option maxRecDepth 100000 in
theorem h_judge {σ : zS} {po : Option Value → zS → Prop} {pt : Nat → zS → Prop} {fr lo : Nat} (p0 : Int32) (p1 : Int32) (hM : zM yPC_judge cPC_judge 3 (some .boolean) fr lo 1 [.ref 0, .int p0, .int p1] σ po pt) (hfr : fr ≤ 60) (hlo : lo ≤ 2000) (hpo : ∀ r σ2, po r σ2 → ∃ v : Int32, r = some (.int v)) (hpt : ∀ x σ2, pt x σ2 → x = 2 ∨ x = 3 ∨ x = 1) :
    zMW yLAW_judge cLAW_judge 5 (some .int) [(0, 17, 20, 21), (0, 17, 24, 27), (0, 17, 28, 15)] 61 2100 1 [.ref 0, .int p0, .int p1, .ref 73] σ (fun r σ3 => (∃ (v : Int32) (σ2 : zS), po (some (.int v)) σ2 ∧ r = some (.int 0) ∧ σ3 = zwL σ2 73 0 (if v = 0 then 0 else 1)) ∨ ∃ (x : Nat) (σ2 : zS), pt x σ2 ∧ r = some (.int (hcode_judge x)) ∧ σ3 = σ2) := by
  refine zMW.of [some (.ref 0), some (.int p0), some (.int p1), some (.ref 73), none] (by decide) 1 rfl (fun _ => Nat.le_of_ble_eq_true rfl) (fun Z hR => ?_)
  refine z_aload_n hR dLAW_judge_0 (n := 1) rfl rfl ?_
  refine z_iconst hR dLAW_judge_1 (v := 0) (n := 2) rfl rfl ?_
  refine z_aload_n hR dLAW_judge_2 (n := 3) rfl rfl ?_
  refine z_iload_n hR dLAW_judge_3 (n := 4) rfl rfl ?_
  refine z_iload_n hR dLAW_judge_4 (n := 5) rfl rfl ?_
  refine z_callVT (av := [.int p0, .int p1]) hR dLAW_judge_5 (n := 8) rfl zcLAW_39 zkPC_judge ⟨by omega, by omega⟩ (Nat.le_of_ble_eq_true rfl) (by decide) rfl rfl (by decide) hM (fun r s2 h => ?_) (fun x s2 h => ?_)
  ·
    obtain ⟨v, rfl⟩ := hpo r s2 h
    refine z_if_eq hR dLAW_judge_8 (t := 15) (n := 11) rfl rfl (fun h8 => ?_) (fun h8 => ?_)
    · refine z_lconst hR dLAW_judge_15 (v := 0) (n := 16) rfl rfl ?_
      refine z_last hR (0) dLAW_judge_16 (n := 17) rfl (by decide) rfl (by decide) rfl (by decide) ?_
      refine z_goto hR dLAW_judge_17 (t := 32) rfl ?_
      refine z_iconst hR dLAW_judge_32 (v := 0) (n := 33) rfl rfl ?_
      refine z_zret hR dLAW_judge_33 rfl rfl (by decide) ?_
      first | exact Or.inl ⟨v, s2, h, rfl, by rw [if_pos h8]⟩ | exact Or.inl ⟨v, s2, h, rfl, by rw [if_neg h8]⟩
    · refine z_lconst hR dLAW_judge_11 (v := 1) (n := 12) rfl rfl ?_
      refine z_goto hR dLAW_judge_12 (t := 16) rfl ?_
      refine z_last hR (0) dLAW_judge_16 (n := 17) rfl (by decide) rfl (by decide) rfl (by decide) ?_
      refine z_goto hR dLAW_judge_17 (t := 32) rfl ?_
      refine z_iconst hR dLAW_judge_32 (v := 0) (n := 33) rfl rfl ?_
      refine z_zret hR dLAW_judge_33 rfl rfl (by decide) ?_
      first | exact Or.inl ⟨v, s2, h, rfl, by rw [if_pos h8]⟩ | exact Or.inl ⟨v, s2, h, rfl, by rw [if_neg h8]⟩
  ·
    rcases hpt x s2 h with rfl | rfl | rfl
    ·
      refine ⟨20, 22, 4, ⟨by decide, by decide, 2, zlLAW_21, Or.inl ⟨rfl, zcast_2, rfl⟩⟩, Or.inr ⟨dLAW_judge_20, rfl⟩, by decide, rfl, ?_⟩
      refine z_iconst hR dLAW_judge_22 (v := 1) (n := 23) rfl rfl ?_
      refine z_zret hR dLAW_judge_23 rfl rfl (by decide) ?_
      exact Or.inr ⟨2, s2, h, rfl, rfl⟩
    ·
      refine ⟨24, 26, 4, ⟨by decide, by decide, 2, zlLAW_21, Or.inr ⟨by decide +kernel, ⟨by decide, by decide, 3, zlLAW_27, Or.inl ⟨rfl, zcast_3, rfl⟩⟩⟩⟩, Or.inr ⟨dLAW_judge_24, rfl⟩, by decide, rfl, ?_⟩
      refine z_iconst hR dLAW_judge_26 (v := 2) (n := 27) rfl rfl ?_
      refine z_zret hR dLAW_judge_27 rfl rfl (by decide) ?_
      exact Or.inr ⟨3, s2, h, rfl, rfl⟩
    ·
      refine ⟨28, 30, 4, ⟨by decide, by decide, 2, zlLAW_21, Or.inr ⟨by decide +kernel, ⟨by decide, by decide, 3, zlLAW_27, Or.inr ⟨by decide +kernel, ⟨by decide, by decide, 1, zlLAW_15, Or.inl ⟨rfl, zcast_1, rfl⟩⟩⟩⟩⟩⟩, Or.inr ⟨dLAW_judge_28, rfl⟩, by decide, rfl, ?_⟩
      refine z_iconst hR dLAW_judge_30 (v := 3) (n := 31) rfl rfl ?_
      refine z_zret hR dLAW_judge_31 rfl rfl (by decide) ?_
      exact Or.inr ⟨1, s2, h, rfl, rfl⟩
