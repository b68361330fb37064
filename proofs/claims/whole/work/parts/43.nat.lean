/-! Rows over small naturals and truth values; frames; bits -/
section ZN
variable {own : String} {cc : ByteArray} {nL fr lo mc : Nat} {ex : List ExceptionTableEntry} {ret : Option FieldType} {po : Option Value → zS → Prop} {pt : Nat → zS → Prop} {Z : Nat → Nat → List (Option Value) → List Value → zS → Prop}
theorem z_icmp_ltN (hR : zR own cc nL fr lo mc ex ret po pt Z) {k pc : Nat} {lv : List (Option Value)} {st : List Value} {σ : zS} {x y : Nat} {off : Int} {n t : Nat} (d : decode cc pc = .ok (.if_icmp .lt off, 3)) (hn : pc + 3 = n) (ht : (pc : Int) + off = (t : Int)) (hx : x < 2 ^ 31) (hy : y < 2 ^ 31) (kt : x < y → Z k t lv st σ) (kf : y ≤ x → Z k n lv st σ) : Z k pc lv (.int (nI y) :: .int (nI x) :: st) σ :=
  z_icmp_lt hR d hn ht (fun h => kt ((nI_ltI hx hy).mp h)) (fun h => kf (by have h2 := mt (nI_ltI hx hy).mpr h; omega))
theorem z_icmp_geN (hR : zR own cc nL fr lo mc ex ret po pt Z) {k pc : Nat} {lv : List (Option Value)} {st : List Value} {σ : zS} {x y : Nat} {off : Int} {n t : Nat} (d : decode cc pc = .ok (.if_icmp .ge off, 3)) (hn : pc + 3 = n) (ht : (pc : Int) + off = (t : Int)) (hx : x < 2 ^ 31) (hy : y < 2 ^ 31) (kt : y ≤ x → Z k t lv st σ) (kf : x < y → Z k n lv st σ) : Z k pc lv (.int (nI y) :: .int (nI x) :: st) σ :=
  z_icmp_ge hR d hn ht (fun h => kt ((nI_leI hy hx).mp h)) (fun h => kf (by have h2 := mt (nI_leI hy hx).mpr h; omega))
theorem z_icmp_gtN (hR : zR own cc nL fr lo mc ex ret po pt Z) {k pc : Nat} {lv : List (Option Value)} {st : List Value} {σ : zS} {x y : Nat} {off : Int} {n t : Nat} (d : decode cc pc = .ok (.if_icmp .gt off, 3)) (hn : pc + 3 = n) (ht : (pc : Int) + off = (t : Int)) (hx : x < 2 ^ 31) (hy : y < 2 ^ 31) (kt : y < x → Z k t lv st σ) (kf : x ≤ y → Z k n lv st σ) : Z k pc lv (.int (nI y) :: .int (nI x) :: st) σ :=
  z_icmp_gt hR d hn ht (fun h => kt ((nI_ltI hy hx).mp h)) (fun h => kf (by have h2 := mt (nI_ltI hy hx).mpr h; omega))
theorem z_icmp_leN (hR : zR own cc nL fr lo mc ex ret po pt Z) {k pc : Nat} {lv : List (Option Value)} {st : List Value} {σ : zS} {x y : Nat} {off : Int} {n t : Nat} (d : decode cc pc = .ok (.if_icmp .le off, 3)) (hn : pc + 3 = n) (ht : (pc : Int) + off = (t : Int)) (hx : x < 2 ^ 31) (hy : y < 2 ^ 31) (kt : x ≤ y → Z k t lv st σ) (kf : y < x → Z k n lv st σ) : Z k pc lv (.int (nI y) :: .int (nI x) :: st) σ :=
  z_icmp_le hR d hn ht (fun h => kt ((nI_leI hx hy).mp h)) (fun h => kf (by have h2 := mt (nI_leI hx hy).mpr h; omega))
theorem z_icmp_eqN (hR : zR own cc nL fr lo mc ex ret po pt Z) {k pc : Nat} {lv : List (Option Value)} {st : List Value} {σ : zS} {x y : Nat} {off : Int} {n t : Nat} (d : decode cc pc = .ok (.if_icmp .eq off, 3)) (hn : pc + 3 = n) (ht : (pc : Int) + off = (t : Int)) (hx : x < 2 ^ 31) (hy : y < 2 ^ 31) (kt : x = y → Z k t lv st σ) (kf : x ≠ y → Z k n lv st σ) : Z k pc lv (.int (nI y) :: .int (nI x) :: st) σ :=
  z_icmp_eq hR d hn ht (fun h => kt ((nI_eq hx hy).mp h)) (fun h => kf (by have h2 := mt (nI_eq hx hy).mpr h; omega))
theorem z_icmp_neN (hR : zR own cc nL fr lo mc ex ret po pt Z) {k pc : Nat} {lv : List (Option Value)} {st : List Value} {σ : zS} {x y : Nat} {off : Int} {n t : Nat} (d : decode cc pc = .ok (.if_icmp .ne off, 3)) (hn : pc + 3 = n) (ht : (pc : Int) + off = (t : Int)) (hx : x < 2 ^ 31) (hy : y < 2 ^ 31) (kt : x ≠ y → Z k t lv st σ) (kf : x = y → Z k n lv st σ) : Z k pc lv (.int (nI y) :: .int (nI x) :: st) σ :=
  z_icmp_ne hR d hn ht (fun h => kt (fun q => h ((nI_eq hx hy).mpr q))) (fun h => kf ((nI_eq hx hy).mp h))
theorem z_if_gtN (hR : zR own cc nL fr lo mc ex ret po pt Z) {k pc : Nat} {lv : List (Option Value)} {st : List Value} {σ : zS} {x : Nat} {off : Int} {n t : Nat} (d : decode cc pc = .ok (.ifCond .gt off, 3)) (hn : pc + 3 = n) (ht : (pc : Int) + off = (t : Int)) (hx : x < 2 ^ 31) (kt : 0 < x → Z k t lv st σ) (kf : x = 0 → Z k n lv st σ) : Z k pc lv (.int (nI x) :: st) σ :=
  z_if_gt hR d hn ht (fun h => kt ((nI_ltI (by decide : 0 < 2 ^ 31) hx).mp h)) (fun h => kf (by have h2 := mt (nI_ltI (by decide : 0 < 2 ^ 31) hx).mpr h; omega))
theorem z_if_leN (hR : zR own cc nL fr lo mc ex ret po pt Z) {k pc : Nat} {lv : List (Option Value)} {st : List Value} {σ : zS} {x : Nat} {off : Int} {n t : Nat} (d : decode cc pc = .ok (.ifCond .le off, 3)) (hn : pc + 3 = n) (ht : (pc : Int) + off = (t : Int)) (hx : x < 2 ^ 31) (kt : x = 0 → Z k t lv st σ) (kf : 0 < x → Z k n lv st σ) : Z k pc lv (.int (nI x) :: st) σ :=
  z_if_le hR d hn ht (fun h => kt (Nat.le_zero.mp ((nI_leI hx (by decide : 0 < 2 ^ 31)).mp h))) (fun h => kf (by have h2 := mt (nI_leI hx (by decide : 0 < 2 ^ 31)).mpr h; omega))
theorem z_if_eqN (hR : zR own cc nL fr lo mc ex ret po pt Z) {k pc : Nat} {lv : List (Option Value)} {st : List Value} {σ : zS} {x : Nat} {off : Int} {n t : Nat} (d : decode cc pc = .ok (.ifCond .eq off, 3)) (hn : pc + 3 = n) (ht : (pc : Int) + off = (t : Int)) (hx : x < 2 ^ 31) (kt : x = 0 → Z k t lv st σ) (kf : 0 < x → Z k n lv st σ) : Z k pc lv (.int (nI x) :: st) σ :=
  z_if_eq hR d hn ht (fun h => kt ((nI_eq hx (by decide : 0 < 2 ^ 31)).mp h)) (fun h => kf (by have h2 := mt (nI_eq hx (by decide : 0 < 2 ^ 31)).mpr h; omega))
theorem z_if_neN (hR : zR own cc nL fr lo mc ex ret po pt Z) {k pc : Nat} {lv : List (Option Value)} {st : List Value} {σ : zS} {x : Nat} {off : Int} {n t : Nat} (d : decode cc pc = .ok (.ifCond .ne off, 3)) (hn : pc + 3 = n) (ht : (pc : Int) + off = (t : Int)) (hx : x < 2 ^ 31) (kt : 0 < x → Z k t lv st σ) (kf : x = 0 → Z k n lv st σ) : Z k pc lv (.int (nI x) :: st) σ :=
  z_if_ne hR d hn ht (fun h => kt (by have h2 := mt (nI_eq hx (by decide : 0 < 2 ^ 31)).mpr h; omega)) (fun h => kf ((nI_eq hx (by decide : 0 < 2 ^ 31)).mp h))
theorem z_if_geN (hR : zR own cc nL fr lo mc ex ret po pt Z) {k pc : Nat} {lv : List (Option Value)} {st : List Value} {σ : zS} {x : Nat} {off : Int} {n t : Nat} (d : decode cc pc = .ok (.ifCond .ge off, 3)) (hn : pc + 3 = n) (ht : (pc : Int) + off = (t : Int)) (hx : x < 2 ^ 31) (kt : Z k t lv st σ) : Z k pc lv (.int (nI x) :: st) σ :=
  z_if_ge hR d hn ht (fun _ => kt) (fun h => absurd (nI_pos' hx) h)
theorem z_if_ltN (hR : zR own cc nL fr lo mc ex ret po pt Z) {k pc : Nat} {lv : List (Option Value)} {st : List Value} {σ : zS} {x : Nat} {off : Int} {n t : Nat} (d : decode cc pc = .ok (.ifCond .lt off, 3)) (hn : pc + 3 = n) (ht : (pc : Int) + off = (t : Int)) (hx : x < 2 ^ 31) (kf : Z k n lv st σ) : Z k pc lv (.int (nI x) :: st) σ :=
  z_if_lt hR d hn ht (fun h => absurd h (nI_pos hx)) (fun _ => kf)
/-- a truth value as the machine has it -/
def zb (p : Bool) : Int32 := if p then 1 else 0
theorem zb_t : zb true = 1 := rfl
theorem zb_f : zb false = 0 := rfl
theorem zb_0 {p : Bool} : zb p = 0 ↔ p = false := by cases p <;> decide
theorem zb_1 {p : Bool} : zb p = 1 ↔ p = true := by cases p <;> decide
theorem zb_inj {p q : Bool} : zb p = zb q ↔ p = q := by cases p <;> cases q <;> decide
theorem zb_01 (p : Bool) : zb p = 0 ∨ zb p = 1 := by cases p <;> decide
theorem zb_nar (p : Bool) : narrow .boolean (.int (zb p)) = .int (zb p) := by cases p <;> rfl
theorem zb_vn (p : Bool) : vp_nar .boolean (zb p) = zb p := by cases p <;> rfl
theorem z_if_eqB (hR : zR own cc nL fr lo mc ex ret po pt Z) {k pc : Nat} {lv : List (Option Value)} {st : List Value} {σ : zS} {p : Bool} {off : Int} {n t : Nat} (d : decode cc pc = .ok (.ifCond .eq off, 3)) (hn : pc + 3 = n) (ht : (pc : Int) + off = (t : Int)) (kt : p = false → Z k t lv st σ) (kf : p = true → Z k n lv st σ) : Z k pc lv (.int (zb p) :: st) σ :=
  z_if_eq hR d hn ht (fun h => kt (zb_0.mp h)) (fun h => kf (by cases p; exact absurd rfl h; rfl))
theorem z_if_neB (hR : zR own cc nL fr lo mc ex ret po pt Z) {k pc : Nat} {lv : List (Option Value)} {st : List Value} {σ : zS} {p : Bool} {off : Int} {n t : Nat} (d : decode cc pc = .ok (.ifCond .ne off, 3)) (hn : pc + 3 = n) (ht : (pc : Int) + off = (t : Int)) (kt : p = true → Z k t lv st σ) (kf : p = false → Z k n lv st σ) : Z k pc lv (.int (zb p) :: st) σ :=
  z_if_ne hR d hn ht (fun h => kt (by cases p; exact absurd rfl h; rfl)) (fun h => kf (zb_0.mp h))
theorem z_iaddN (hR : zR own cc nL fr lo mc ex ret po pt Z) {k pc : Nat} {lv : List (Option Value)} {st : List Value} {σ : zS} {n : Nat} {x y : Nat} (d : decode cc pc = .ok (.iadd, 1)) (hn : pc + 1 = n) (kk : Z k n lv (.int (nI (x + y)) :: st) σ) : Z k pc lv (.int (nI y) :: .int (nI x) :: st) σ :=
  z_iadd hR d hn (by rw [nI_add]; exact kk)
theorem z_imulN (hR : zR own cc nL fr lo mc ex ret po pt Z) {k pc : Nat} {lv : List (Option Value)} {st : List Value} {σ : zS} {n : Nat} {x y : Nat} (d : decode cc pc = .ok (.imul, 1)) (hn : pc + 1 = n) (kk : Z k n lv (.int (nI (x * y)) :: st) σ) : Z k pc lv (.int (nI y) :: .int (nI x) :: st) σ :=
  z_imul hR d hn (by rw [pk_mul]; exact kk)
theorem z_isubN (hR : zR own cc nL fr lo mc ex ret po pt Z) {k pc : Nat} {lv : List (Option Value)} {st : List Value} {σ : zS} {n : Nat} {x y : Nat} (d : decode cc pc = .ok (.isub, 1)) (hn : pc + 1 = n) (hxy : y ≤ x) (kk : Z k n lv (.int (nI (x - y)) :: st) σ) : Z k pc lv (.int (nI y) :: .int (nI x) :: st) σ :=
  z_isub hR d hn (by rw [pk_sub hxy]; exact kk)
theorem z_idivN (hR : zR own cc nL fr lo mc ex ret po pt Z) {k pc : Nat} {lv : List (Option Value)} {st : List Value} {σ : zS} {n : Nat} {x y : Nat} (d : decode cc pc = .ok (.idiv, 1)) (hn : pc + 1 = n) (hx : x < 2 ^ 31) (h0 : 0 < y) (hy : y < 2 ^ 31) (kk : Z k n lv (.int (nI (x / y)) :: st) σ) : Z k pc lv (.int (nI y) :: .int (nI x) :: st) σ :=
  z_idiv hR d (nI_ne0 h0 hy) hn (by rw [pk_div hx h0 hy]; exact kk)
theorem z_iremN (hR : zR own cc nL fr lo mc ex ret po pt Z) {k pc : Nat} {lv : List (Option Value)} {st : List Value} {σ : zS} {n : Nat} {x y : Nat} (d : decode cc pc = .ok (.irem, 1)) (hn : pc + 1 = n) (hx : x < 2 ^ 31) (h0 : 0 < y) (hy : y < 2 ^ 31) (kk : Z k n lv (.int (nI (x % y)) :: st) σ) : Z k pc lv (.int (nI y) :: .int (nI x) :: st) σ :=
  z_irem hR d (nI_ne0 h0 hy) hn (by rw [pk_rem hx h0 hy]; exact kk)
theorem z_iincN (hR : zR own cc nL fr lo mc ex ret po pt Z) {k pc : Nat} {lv : List (Option Value)} {st : List Value} {σ : zS} {n : Nat} {i x : Nat} (q : Nat) {qi : Int} (d : decode cc pc = .ok (.iinc i qi, 3)) (hn : pc + 3 = n) (hq : Int32.ofInt qi = nI q) (hi : i < nL) (ho : zLok lv i = true) (hv : lv[i]? = some (some (.int (nI x)))) (kk : Z k n (lv.set i (some (.int (nI (x + q))))) st σ) : Z k pc lv st σ :=
  z_iinc hR d hn hq hi ho hv (by rw [nI_add]; exact kk)
theorem z_iincD (hR : zR own cc nL fr lo mc ex ret po pt Z) {k pc : Nat} {lv : List (Option Value)} {st : List Value} {σ : zS} {n : Nat} {i x : Nat} (d : decode cc pc = .ok (.iinc i (-1), 3)) (hn : pc + 3 = n) (hi : i < nL) (ho : zLok lv i = true) (hv : lv[i]? = some (some (.int (nI x)))) (hx : 0 < x) (kk : Z k n (lv.set i (some (.int (nI (x - 1))))) st σ) : Z k pc lv st σ :=
  z_iinc (q32 := -1) hR d hn rfl hi ho hv (by rw [sb_m1 hx]; exact kk)
/-- a switch, key by key -/
def zlk (Z : Nat → Nat → List (Option Value) → List Value → zS → Prop) (k pc : Nat) (lv : List (Option Value)) (st : List Value) (σ : zS) (dflt : Int) (x : Int32) : List (Int × Int) → Prop
  | [] => ∃ t : Nat, (pc : Int) + dflt = (t : Int) ∧ Z k t lv st σ
  | a :: r => (x = Int32.ofInt a.1 → ∃ t : Nat, (pc : Int) + a.2 = (t : Int) ∧ Z k t lv st σ) ∧ (x ≠ Int32.ofInt a.1 → zlk Z k pc lv st σ dflt x r)
theorem zlk_get {k pc : Nat} {lv : List (Option Value)} {st : List Value} {σ : zS} {dflt : Int} {x : Int32} : ∀ (ps : List (Int × Int)), ps.all (fun p => (Int32.ofInt p.1).toInt == p.1) = true → zlk Z k pc lv st σ dflt x ps → ∃ t : Nat, (pc : Int) + Op.lookupswitch.offset ps dflt x.toInt = (t : Int) ∧ Z k t lv st σ
  | [], _, h => h
  | a :: r, ha, h => by
    simp only [List.all_cons, Bool.and_eq_true, beq_iff_eq] at ha
    rw [show (a :: r) = ((a.1, a.2) :: r) from rfl, Op.lookupswitch.offset_cons]
    by_cases e : a.1 = x.toInt
    · rw [if_pos e]
      exact h.1 (by rw [e, Int32.ofInt_toInt])
    · rw [if_neg e]
      exact zlk_get r ha.2 (h.2 (fun q => e (by rw [q, ha.1])))
theorem z_look (hR : zR own cc nL fr lo mc ex ret po pt Z) {k pc : Nat} {lv : List (Option Value)} {st : List Value} {σ : zS} {dflt : Int} {ps : Array (Int × Int)} {len : Nat} {x : Int32} (d : decode cc pc = .ok (.lookupswitch dflt ps, len)) (hp : (ps.toList.zip (ps.toList.drop 1)).all (fun (a, next) => a.1 < next.1) = true) (ha : ps.toList.all (fun p => (Int32.ofInt p.1).toInt == p.1) = true) (kk : zlk Z k pc lv st σ dflt x ps.toList) : Z k pc lv (.int x :: st) σ := by
  obtain ⟨t, ht, hz⟩ := zlk_get ps.toList ha kk
  exact z_lookup hR d hp rfl ht hz
end ZN
/-- nothing has changed but these places -/
def zfr (l : List Nat) (σ σ2 : zS) : Prop := (∀ o, o ∉ l → σ2.1 o = σ.1 o) ∧ (∀ o, o ∉ l → σ2.2 o = σ.2 o)
theorem zfr.rf {l : List Nat} {σ : zS} : zfr l σ σ := ⟨fun _ _ => rfl, fun _ _ => rfl⟩
theorem zfr.tr {l : List Nat} {σ σ2 σ3 : zS} (h : zfr l σ σ2) (h2 : zfr l σ2 σ3) : zfr l σ σ3 := ⟨fun o ho => (h2.1 o ho).trans (h.1 o ho), fun o ho => (h2.2 o ho).trans (h.2 o ho)⟩
theorem zfr.mo {l l2 : List Nat} {σ σ2 : zS} (h : zfr l σ σ2) (hl : ∀ o ∈ l, o ∈ l2) : zfr l2 σ σ2 := ⟨fun o ho => h.1 o (fun q => ho (hl o q)), fun o ho => h.2 o (fun q => ho (hl o q))⟩
theorem zfr.wA {l : List Nat} {σ σ2 : zS} (h : zfr l σ σ2) {o j : Nat} (x : Int32) (ho : o ∈ l) : zfr l σ (zwA σ2 o j x) := ⟨fun q hq => by
    have e : q ≠ o := fun e => hq (e ▸ ho)
    rw [← h.1 q hq]
    simp [zwA, va_up, e], fun q hq => h.2 q hq⟩
theorem zfr.wL {l : List Nat} {σ σ2 : zS} (h : zfr l σ σ2) {o j : Nat} (x : Int64) (ho : o ∈ l) : zfr l σ (zwL σ2 o j x) := ⟨fun q hq => h.1 q hq, fun q hq => by
    have e : q ≠ o := fun e => hq (e ▸ ho)
    rw [← h.2 q hq]
    simp [zwL, va_up, e]⟩
theorem zfr.w1 {o j : Nat} {σ : zS} {x : Int32} : zfr [o] σ (zwA σ o j x) := zfr.rf.wA x (by simp)
theorem zwA_ss (σ : zS) (o j : Nat) (x : Int32) : (zwA σ o j x).1 o j = x := by rw [zwA_1, if_pos rfl, if_pos rfl]
theorem zwA_sn (σ : zS) (o j : Nat) (x : Int32) {j2 : Nat} (h : j2 ≠ j) : (zwA σ o j x).1 o j2 = σ.1 o j2 := by rw [zwA_1, if_pos rfl, if_neg h]
theorem zwA_n (σ : zS) (o j : Nat) (x : Int32) {o2 : Nat} (h : o2 ≠ o) : (zwA σ o j x).1 o2 = σ.1 o2 := by
  funext j2
  rw [zwA_1, if_neg h]
theorem zwL_ss (σ : zS) (o j : Nat) (x : Int64) : (zwL σ o j x).2 o j = x := by rw [zwL_2, if_pos rfl, if_pos rfl]
theorem zwL_sn (σ : zS) (o j : Nat) (x : Int64) {j2 : Nat} (h : j2 ≠ j) : (zwL σ o j x).2 o j2 = σ.2 o j2 := by rw [zwL_2, if_pos rfl, if_neg h]
theorem zwL_n (σ : zS) (o j : Nat) (x : Int64) {o2 : Nat} (h : o2 ≠ o) : (zwL σ o j x).2 o2 = σ.2 o2 := by
  funext j2
  rw [zwL_2, if_neg h]
/-- a bit -/
def tb (x : Int32) (g : Nat) : Bool := x.toBitVec.getLsbD g
def tl (x : Int64) (g : Nat) : Bool := x.toBitVec.getLsbD g
theorem tb_ext {x y : Int32} (h : ∀ g, g < 32 → tb x g = tb y g) : x = y := Int32.toBitVec_inj.mp (BitVec.eq_of_getLsbD_eq (fun i hi => h i hi))
theorem tl_ext {x y : Int64} (h : ∀ g, g < 64 → tl x g = tl y g) : x = y := Int64.toBitVec_inj.mp (BitVec.eq_of_getLsbD_eq (fun i hi => h i hi))
theorem tb_ge (x : Int32) {g : Nat} (h : 32 ≤ g) : tb x g = false := BitVec.getLsbD_of_ge _ _ h
theorem tl_ge (x : Int64) {g : Nat} (h : 64 ≤ g) : tl x g = false := BitVec.getLsbD_of_ge _ _ h
theorem tb_and (x y : Int32) (g : Nat) : tb (x &&& y) g = (tb x g && tb y g) := by simp [tb]
theorem tb_or (x y : Int32) (g : Nat) : tb (x ||| y) g = (tb x g || tb y g) := by simp [tb]
theorem tb_xor (x y : Int32) (g : Nat) : tb (x ^^^ y) g = (tb x g ^^ tb y g) := by simp [tb]
theorem tb_0 (g : Nat) : tb 0 g = false := by simp [tb]
theorem tb_m1 {g : Nat} (h : g < 32) : tb (-1) g = true := by
  rw [tb, show ((-1 : Int32)).toBitVec = BitVec.allOnes 32 by decide, BitVec.getLsbD_allOnes]
  simp [h]
theorem tb_not (x : Int32) {g : Nat} (h : g < 32) : tb (x ^^^ (-1)) g = !tb x g := by
  rw [tb_xor, tb_m1 h]
  simp
theorem tl_and (x y : Int64) (g : Nat) : tl (x &&& y) g = (tl x g && tl y g) := by simp [tl]
theorem tl_or (x y : Int64) (g : Nat) : tl (x ||| y) g = (tl x g || tl y g) := by simp [tl]
theorem tl_0 (g : Nat) : tl 0 g = false := by simp [tl]
theorem tb_nI (n g : Nat) (h : g < 32) : tb (nI n) g = n.testBit g := by
  have e : (nI n).toBitVec = BitVec.ofNat 32 n := rfl
  rw [tb, e, BitVec.getLsbD_ofNat]
  simp [h]
theorem tb_1 (g : Nat) : tb 1 g = decide (g = 0) := by
  by_cases h : g < 32
  · rw [show (1 : Int32) = nI 1 from rfl, tb_nI 1 g h]
    rcases g with _ | g
    · rfl
    · simp [Nat.testBit_succ]
  · rw [tb_ge _ (by omega)]
    simp
    omega
/-- the unsigned shift to the right -/
theorem tb_ushr (x : Int32) {b : Nat} (hb : b < 32) (g : Nat) : tb ((x.toUInt32 >>> ((nI b).toUInt32 &&& Int32.toUInt32 31)).toInt32) g = tb x (b + g) := by
  have e : ((nI b).toUInt32 &&& Int32.toUInt32 31) = UInt32.ofNat b := by
    rcases (by omega : b = 0 ∨ b = 1 ∨ b = 2 ∨ b = 3 ∨ b = 4 ∨ b = 5 ∨ b = 6 ∨ b = 7 ∨ b = 8 ∨ b = 9 ∨ b = 10 ∨ b = 11 ∨ b = 12 ∨ b = 13 ∨ b = 14 ∨ b = 15 ∨ b = 16 ∨ b = 17 ∨ b = 18 ∨ b = 19 ∨ b = 20 ∨ b = 21 ∨ b = 22 ∨ b = 23 ∨ b = 24 ∨ b = 25 ∨ b = 26 ∨ b = 27 ∨ b = 28 ∨ b = 29 ∨ b = 30 ∨ b = 31) with h | h | h | h | h | h | h | h | h | h | h | h | h | h | h | h | h | h | h | h | h | h | h | h | h | h | h | h | h | h | h | h <;> subst h <;> decide
  rw [e, tb, tb]
  show ((x.toUInt32 >>> UInt32.ofNat b).toBitVec).getLsbD g = _
  rw [UInt32.toBitVec_shiftRight]
  have e2 : ((UInt32.ofNat b).toBitVec % 32) = BitVec.ofNat 32 b := by
    rcases (by omega : b = 0 ∨ b = 1 ∨ b = 2 ∨ b = 3 ∨ b = 4 ∨ b = 5 ∨ b = 6 ∨ b = 7 ∨ b = 8 ∨ b = 9 ∨ b = 10 ∨ b = 11 ∨ b = 12 ∨ b = 13 ∨ b = 14 ∨ b = 15 ∨ b = 16 ∨ b = 17 ∨ b = 18 ∨ b = 19 ∨ b = 20 ∨ b = 21 ∨ b = 22 ∨ b = 23 ∨ b = 24 ∨ b = 25 ∨ b = 26 ∨ b = 27 ∨ b = 28 ∨ b = 29 ∨ b = 30 ∨ b = 31) with h | h | h | h | h | h | h | h | h | h | h | h | h | h | h | h | h | h | h | h | h | h | h | h | h | h | h | h | h | h | h | h <;> subst h <;> decide
  rw [e2, BitVec.ushiftRight_eq', BitVec.getLsbD_ushiftRight, BitVec.toNat_ofNat, Nat.mod_eq_of_lt (by omega)]
  rfl
/-- a small number and 1: is its lowest bit set? -/
theorem tb_lo (x : Int32) : x &&& 1 = zb (tb x 0) := by
  refine tb_ext (fun g _ => ?_)
  rw [tb_and, tb_1]
  by_cases h : g = 0
  · subst h
    cases tb x 0 <;> simp [zb, tb_0, tb_1]
  · cases tb x 0 <;> simp [zb, tb_0, tb_1, h]
theorem tb_us1 (x : Int32) {b : Nat} (hb : b < 32) : ((x.toUInt32 >>> ((nI b).toUInt32 &&& Int32.toUInt32 31)).toInt32) &&& 1 = zb (tb x b) := by
  rw [tb_lo, tb_ushr x hb]
  rfl
theorem nI_31 {b : Nat} (hb : b < 32) : nI b &&& 31 = nI b := by
  rw [pk_andN (by omega) 5 (by decide), Nat.mod_eq_of_lt (by omega)]
theorem tb_shl1 {b : Nat} (hb : b < 32) (g : Nat) (hg : g < 32) : tb ((1 : Int32) <<< (nI b &&& 31)) g = decide (g = b) := by
  have e : (1 : Int32) <<< (nI b &&& 31) = nI (2 ^ b) := by
    rcases (by omega : b = 0 ∨ b = 1 ∨ b = 2 ∨ b = 3 ∨ b = 4 ∨ b = 5 ∨ b = 6 ∨ b = 7 ∨ b = 8 ∨ b = 9 ∨ b = 10 ∨ b = 11 ∨ b = 12 ∨ b = 13 ∨ b = 14 ∨ b = 15 ∨ b = 16 ∨ b = 17 ∨ b = 18 ∨ b = 19 ∨ b = 20 ∨ b = 21 ∨ b = 22 ∨ b = 23 ∨ b = 24 ∨ b = 25 ∨ b = 26 ∨ b = 27 ∨ b = 28 ∨ b = 29 ∨ b = 30 ∨ b = 31) with h | h | h | h | h | h | h | h | h | h | h | h | h | h | h | h | h | h | h | h | h | h | h | h | h | h | h | h | h | h | h | h <;> subst h <;> decide
  rw [e, tb_nI _ _ hg, Nat.testBit_two_pow]
  by_cases h : b = g
  · subst h
    simp
  · simp [h]
    omega
/-- the signed shift to the right, at a bit below the sign -/
theorem tb_shr (x : Int32) {b : Nat} (hb : b < 32) (g : Nat) (hg : b + g < 32) : tb (x >>> (nI b &&& 31)) g = tb x (b + g) := by
  have e : ((nI b &&& 31).toBitVec.smod 32).toNat = b := by
    rcases (by omega : b = 0 ∨ b = 1 ∨ b = 2 ∨ b = 3 ∨ b = 4 ∨ b = 5 ∨ b = 6 ∨ b = 7 ∨ b = 8 ∨ b = 9 ∨ b = 10 ∨ b = 11 ∨ b = 12 ∨ b = 13 ∨ b = 14 ∨ b = 15 ∨ b = 16 ∨ b = 17 ∨ b = 18 ∨ b = 19 ∨ b = 20 ∨ b = 21 ∨ b = 22 ∨ b = 23 ∨ b = 24 ∨ b = 25 ∨ b = 26 ∨ b = 27 ∨ b = 28 ∨ b = 29 ∨ b = 30 ∨ b = 31) with h | h | h | h | h | h | h | h | h | h | h | h | h | h | h | h | h | h | h | h | h | h | h | h | h | h | h | h | h | h | h | h <;> subst h <;> decide
  rw [tb, tb, Int32.toBitVec_shiftRight, BitVec.sshiftRight_eq', e, BitVec.getLsbD_sshiftRight]
  simp [hg, show ¬ 32 ≤ g by omega]
theorem tb_sr1 (x : Int32) {b : Nat} (hb : b < 32) : (x >>> (nI b &&& 31)) &&& 1 = zb (tb x b) := by
  rw [tb_lo, tb_shr x hb 0 (by omega)]
  rfl
