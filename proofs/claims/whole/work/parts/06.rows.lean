/-! the rows of the small machine -/
section ZR
variable {own : String} {cc : ByteArray} {nL fr lo mc : Nat} {ex : List ExceptionTableEntry} {ret : Option FieldType} {po : Option Value → zS → Prop} {pt : Nat → zS → Prop} {Z : Nat → Nat → List (Option Value) → List Value → zS → Prop}
theorem z_iadd (hR : zR own cc nL fr lo mc ex ret po pt Z) {k pc : Nat} {lv : List (Option Value)} {st : List Value} {σ : zS} {x y : Int32} {n : Nat} (d : decode cc pc = .ok (.iadd, 1)) (hn : pc + 1 = n) (kk : Z k n lv (.int (x + y) :: st) σ) : Z k pc lv (.int y :: .int x :: st) σ := by
  obtain ⟨p, l, e, R, s, m, args, below, meth, c, D, ad, ca, A, hx, hb, hml, hown, hts, hE, hK, hD, hA, hret, hlk, hfr, hlo, hmc, htr, hex, hAc, rfl⟩ := hR
  intro ls H locs hl hP hS
  subst hn
  exact lv_iadd hx hb d (kk ls H locs hl hP hS)
theorem z_isub (hR : zR own cc nL fr lo mc ex ret po pt Z) {k pc : Nat} {lv : List (Option Value)} {st : List Value} {σ : zS} {x y : Int32} {n : Nat} (d : decode cc pc = .ok (.isub, 1)) (hn : pc + 1 = n) (kk : Z k n lv (.int (x - y) :: st) σ) : Z k pc lv (.int y :: .int x :: st) σ := by
  obtain ⟨p, l, e, R, s, m, args, below, meth, c, D, ad, ca, A, hx, hb, hml, hown, hts, hE, hK, hD, hA, hret, hlk, hfr, hlo, hmc, htr, hex, hAc, rfl⟩ := hR
  intro ls H locs hl hP hS
  subst hn
  exact lv_isub hx hb d (kk ls H locs hl hP hS)
theorem z_imul (hR : zR own cc nL fr lo mc ex ret po pt Z) {k pc : Nat} {lv : List (Option Value)} {st : List Value} {σ : zS} {x y : Int32} {n : Nat} (d : decode cc pc = .ok (.imul, 1)) (hn : pc + 1 = n) (kk : Z k n lv (.int (x * y) :: st) σ) : Z k pc lv (.int y :: .int x :: st) σ := by
  obtain ⟨p, l, e, R, s, m, args, below, meth, c, D, ad, ca, A, hx, hb, hml, hown, hts, hE, hK, hD, hA, hret, hlk, hfr, hlo, hmc, htr, hex, hAc, rfl⟩ := hR
  intro ls H locs hl hP hS
  subst hn
  exact lv_imul hx hb d (kk ls H locs hl hP hS)
theorem z_iand (hR : zR own cc nL fr lo mc ex ret po pt Z) {k pc : Nat} {lv : List (Option Value)} {st : List Value} {σ : zS} {x y : Int32} {n : Nat} (d : decode cc pc = .ok (.iand, 1)) (hn : pc + 1 = n) (kk : Z k n lv (.int (x &&& y) :: st) σ) : Z k pc lv (.int y :: .int x :: st) σ := by
  obtain ⟨p, l, e, R, s, m, args, below, meth, c, D, ad, ca, A, hx, hb, hml, hown, hts, hE, hK, hD, hA, hret, hlk, hfr, hlo, hmc, htr, hex, hAc, rfl⟩ := hR
  intro ls H locs hl hP hS
  subst hn
  exact lv_iand hx hb d (kk ls H locs hl hP hS)
theorem z_ior (hR : zR own cc nL fr lo mc ex ret po pt Z) {k pc : Nat} {lv : List (Option Value)} {st : List Value} {σ : zS} {x y : Int32} {n : Nat} (d : decode cc pc = .ok (.ior, 1)) (hn : pc + 1 = n) (kk : Z k n lv (.int (x ||| y) :: st) σ) : Z k pc lv (.int y :: .int x :: st) σ := by
  obtain ⟨p, l, e, R, s, m, args, below, meth, c, D, ad, ca, A, hx, hb, hml, hown, hts, hE, hK, hD, hA, hret, hlk, hfr, hlo, hmc, htr, hex, hAc, rfl⟩ := hR
  intro ls H locs hl hP hS
  subst hn
  exact lv_ior hx hb d (kk ls H locs hl hP hS)
theorem z_ixor (hR : zR own cc nL fr lo mc ex ret po pt Z) {k pc : Nat} {lv : List (Option Value)} {st : List Value} {σ : zS} {x y : Int32} {n : Nat} (d : decode cc pc = .ok (.ixor, 1)) (hn : pc + 1 = n) (kk : Z k n lv (.int (x ^^^ y) :: st) σ) : Z k pc lv (.int y :: .int x :: st) σ := by
  obtain ⟨p, l, e, R, s, m, args, below, meth, c, D, ad, ca, A, hx, hb, hml, hown, hts, hE, hK, hD, hA, hret, hlk, hfr, hlo, hmc, htr, hex, hAc, rfl⟩ := hR
  intro ls H locs hl hP hS
  subst hn
  exact lv_ixor hx hb d (kk ls H locs hl hP hS)
theorem z_ishl (hR : zR own cc nL fr lo mc ex ret po pt Z) {k pc : Nat} {lv : List (Option Value)} {st : List Value} {σ : zS} {x y : Int32} {n : Nat} (d : decode cc pc = .ok (.ishl, 1)) (hn : pc + 1 = n) (kk : Z k n lv (.int (x <<< (y &&& 31)) :: st) σ) : Z k pc lv (.int y :: .int x :: st) σ := by
  obtain ⟨p, l, e, R, s, m, args, below, meth, c, D, ad, ca, A, hx, hb, hml, hown, hts, hE, hK, hD, hA, hret, hlk, hfr, hlo, hmc, htr, hex, hAc, rfl⟩ := hR
  intro ls H locs hl hP hS
  subst hn
  exact lv_ishl hx hb d (kk ls H locs hl hP hS)
theorem z_ishr (hR : zR own cc nL fr lo mc ex ret po pt Z) {k pc : Nat} {lv : List (Option Value)} {st : List Value} {σ : zS} {x y : Int32} {n : Nat} (d : decode cc pc = .ok (.ishr, 1)) (hn : pc + 1 = n) (kk : Z k n lv (.int (x >>> (y &&& 31)) :: st) σ) : Z k pc lv (.int y :: .int x :: st) σ := by
  obtain ⟨p, l, e, R, s, m, args, below, meth, c, D, ad, ca, A, hx, hb, hml, hown, hts, hE, hK, hD, hA, hret, hlk, hfr, hlo, hmc, htr, hex, hAc, rfl⟩ := hR
  intro ls H locs hl hP hS
  subst hn
  exact lv_ishr hx hb d (kk ls H locs hl hP hS)
theorem z_idiv (hR : zR own cc nL fr lo mc ex ret po pt Z) {k pc : Nat} {lv : List (Option Value)} {st : List Value} {σ : zS} {x y : Int32} {n : Nat} (d : decode cc pc = .ok (.idiv, 1)) (hne : ¬ y = 0) (hn : pc + 1 = n) (kk : Z k n lv (.int (x / y) :: st) σ) : Z k pc lv (.int y :: .int x :: st) σ := by
  obtain ⟨p, l, e, R, s, m, args, below, meth, c, D, ad, ca, A, hx, hb, hml, hown, hts, hE, hK, hD, hA, hret, hlk, hfr, hlo, hmc, htr, hex, hAc, rfl⟩ := hR
  intro ls H locs hl hP hS
  subst hn
  exact lv_idiv hx hb d hne (kk ls H locs hl hP hS)
theorem z_irem (hR : zR own cc nL fr lo mc ex ret po pt Z) {k pc : Nat} {lv : List (Option Value)} {st : List Value} {σ : zS} {x y : Int32} {n : Nat} (d : decode cc pc = .ok (.irem, 1)) (hne : ¬ y = 0) (hn : pc + 1 = n) (kk : Z k n lv (.int (x - x / y * y) :: st) σ) : Z k pc lv (.int y :: .int x :: st) σ := by
  obtain ⟨p, l, e, R, s, m, args, below, meth, c, D, ad, ca, A, hx, hb, hml, hown, hts, hE, hK, hD, hA, hret, hlk, hfr, hlo, hmc, htr, hex, hAc, rfl⟩ := hR
  intro ls H locs hl hP hS
  subst hn
  exact lv_irem hx hb d hne (kk ls H locs hl hP hS)
theorem z_iushr (hR : zR own cc nL fr lo mc ex ret po pt Z) {k pc : Nat} {lv : List (Option Value)} {st : List Value} {σ : zS} {x y : Int32} {n : Nat} (d : decode cc pc = .ok (.iushr, 1)) (hn : pc + 1 = n) (kk : Z k n lv (.int ((x.toUInt32 >>> (y.toUInt32 &&& Int32.toUInt32 31)).toInt32) :: st) σ) : Z k pc lv (.int y :: .int x :: st) σ := by
  obtain ⟨p, l, e, R, s, m, args, below, meth, c, D, ad, ca, A, hx, hb, hml, hown, hts, hE, hK, hD, hA, hret, hlk, hfr, hlo, hmc, htr, hex, hAc, rfl⟩ := hR
  intro ls H locs hl hP hS
  subst hn
  exact lv_iushr hx hb d rfl (kk ls H locs hl hP hS)
theorem z_land (hR : zR own cc nL fr lo mc ex ret po pt Z) {k pc : Nat} {lv : List (Option Value)} {st : List Value} {σ : zS} {x y : Int64} {n : Nat} (d : decode cc pc = .ok (.land, 1)) (hn : pc + 1 = n) (kk : Z k n lv (.long (x &&& y) :: st) σ) : Z k pc lv (.long y :: .long x :: st) σ := by
  obtain ⟨p, l, e, R, s, m, args, below, meth, c, D, ad, ca, A, hx, hb, hml, hown, hts, hE, hK, hD, hA, hret, hlk, hfr, hlo, hmc, htr, hex, hAc, rfl⟩ := hR
  intro ls H locs hl hP hS
  subst hn
  exact lv_land hx hb d (kk ls H locs hl hP hS)
theorem z_lor (hR : zR own cc nL fr lo mc ex ret po pt Z) {k pc : Nat} {lv : List (Option Value)} {st : List Value} {σ : zS} {x y : Int64} {n : Nat} (d : decode cc pc = .ok (.lor, 1)) (hn : pc + 1 = n) (kk : Z k n lv (.long (x ||| y) :: st) σ) : Z k pc lv (.long y :: .long x :: st) σ := by
  obtain ⟨p, l, e, R, s, m, args, below, meth, c, D, ad, ca, A, hx, hb, hml, hown, hts, hE, hK, hD, hA, hret, hlk, hfr, hlo, hmc, htr, hex, hAc, rfl⟩ := hR
  intro ls H locs hl hP hS
  subst hn
  exact lv_lor hx hb d (kk ls H locs hl hP hS)
theorem z_lsub (hR : zR own cc nL fr lo mc ex ret po pt Z) {k pc : Nat} {lv : List (Option Value)} {st : List Value} {σ : zS} {x y : Int64} {n : Nat} (d : decode cc pc = .ok (.lsub, 1)) (hn : pc + 1 = n) (kk : Z k n lv (.long (x - y) :: st) σ) : Z k pc lv (.long y :: .long x :: st) σ := by
  obtain ⟨p, l, e, R, s, m, args, below, meth, c, D, ad, ca, A, hx, hb, hml, hown, hts, hE, hK, hD, hA, hret, hlk, hfr, hlo, hmc, htr, hex, hAc, rfl⟩ := hR
  intro ls H locs hl hP hS
  subst hn
  exact lv_lsub hx hb d (kk ls H locs hl hP hS)
theorem z_lushr (hR : zR own cc nL fr lo mc ex ret po pt Z) {k pc : Nat} {lv : List (Option Value)} {st : List Value} {σ : zS} {x : Int64} {y : Int32} {n : Nat} (d : decode cc pc = .ok (.lushr, 1)) (hn : pc + 1 = n) (kk : Z k n lv (.long ((x.toUInt64 >>> (y.toInt64.toUInt64 &&& Int64.toUInt64 63)).toInt64) :: st) σ) : Z k pc lv (.int y :: .long x :: st) σ := by
  obtain ⟨p, l, e, R, s, m, args, below, meth, c, D, ad, ca, A, hx, hb, hml, hown, hts, hE, hK, hD, hA, hret, hlk, hfr, hlo, hmc, htr, hex, hAc, rfl⟩ := hR
  intro ls H locs hl hP hS
  subst hn
  exact lv_lushr hx hb d rfl (kk ls H locs hl hP hS)
theorem z_lshl (hR : zR own cc nL fr lo mc ex ret po pt Z) {k pc : Nat} {lv : List (Option Value)} {st : List Value} {σ : zS} {x : Int64} {y : Int32} {n : Nat} (d : decode cc pc = .ok (.lshl, 1)) (hn : pc + 1 = n) (kk : Z k n lv (.long (x <<< (y.toInt64 &&& 63)) :: st) σ) : Z k pc lv (.int y :: .long x :: st) σ := by
  obtain ⟨p, l, e, R, s, m, args, below, meth, c, D, ad, ca, A, hx, hb, hml, hown, hts, hE, hK, hD, hA, hret, hlk, hfr, hlo, hmc, htr, hex, hAc, rfl⟩ := hR
  intro ls H locs hl hP hS
  subst hn
  exact lv_lshl hx hb d rfl (kk ls H locs hl hP hS)
theorem z_lshr (hR : zR own cc nL fr lo mc ex ret po pt Z) {k pc : Nat} {lv : List (Option Value)} {st : List Value} {σ : zS} {x : Int64} {y : Int32} {n : Nat} (d : decode cc pc = .ok (.lshr, 1)) (hn : pc + 1 = n) (kk : Z k n lv (.long (x >>> (y.toInt64 &&& 63)) :: st) σ) : Z k pc lv (.int y :: .long x :: st) σ := by
  obtain ⟨p, l, e, R, s, m, args, below, meth, c, D, ad, ca, A, hx, hb, hml, hown, hts, hE, hK, hD, hA, hret, hlk, hfr, hlo, hmc, htr, hex, hAc, rfl⟩ := hR
  intro ls H locs hl hP hS
  subst hn
  exact lv_lshr hx hb d rfl (kk ls H locs hl hP hS)
theorem z_lcmp (hR : zR own cc nL fr lo mc ex ret po pt Z) {k pc : Nat} {lv : List (Option Value)} {st : List Value} {σ : zS} {x y : Int64} {n : Nat} (d : decode cc pc = .ok (.lcmp, 1)) (hn : pc + 1 = n) (kk : Z k n lv (.int (lg_cmp x y) :: st) σ) : Z k pc lv (.long y :: .long x :: st) σ := by
  obtain ⟨p, l, e, R, s, m, args, below, meth, c, D, ad, ca, A, hx, hb, hml, hown, hts, hE, hK, hD, hA, hret, hlk, hfr, hlo, hmc, htr, hex, hAc, rfl⟩ := hR
  intro ls H locs hl hP hS
  subst hn
  exact W.lcmp hx hb d (kk ls H locs hl hP hS)
theorem z_i2l (hR : zR own cc nL fr lo mc ex ret po pt Z) {k pc : Nat} {lv : List (Option Value)} {st : List Value} {σ : zS} {x : Int32} {n : Nat} (d : decode cc pc = .ok (.i2l, 1)) (hn : pc + 1 = n) (kk : Z k n lv (.long x.toInt64 :: st) σ) : Z k pc lv (.int x :: st) σ := by
  obtain ⟨p, l, e, R, s, m, args, below, meth, c, D, ad, ca, A, hx, hb, hml, hown, hts, hE, hK, hD, hA, hret, hlk, hfr, hlo, hmc, htr, hex, hAc, rfl⟩ := hR
  intro ls H locs hl hP hS
  subst hn
  exact lv_i2l hx hb d rfl (kk ls H locs hl hP hS)
theorem z_l2i (hR : zR own cc nL fr lo mc ex ret po pt Z) {k pc : Nat} {lv : List (Option Value)} {st : List Value} {σ : zS} {x : Int64} {n : Nat} (d : decode cc pc = .ok (.l2i, 1)) (hn : pc + 1 = n) (kk : Z k n lv (.int x.toInt32 :: st) σ) : Z k pc lv (.long x :: st) σ := by
  obtain ⟨p, l, e, R, s, m, args, below, meth, c, D, ad, ca, A, hx, hb, hml, hown, hts, hE, hK, hD, hA, hret, hlk, hfr, hlo, hmc, htr, hex, hAc, rfl⟩ := hR
  intro ls H locs hl hP hS
  subst hn
  exact lv_l2i hx hb d rfl (kk ls H locs hl hP hS)
theorem z_i2c (hR : zR own cc nL fr lo mc ex ret po pt Z) {k pc : Nat} {lv : List (Option Value)} {st : List Value} {σ : zS} {x : Int32} {n : Nat} (d : decode cc pc = .ok (.i2c, 1)) (hn : pc + 1 = n) (kk : Z k n lv (.int ((x.toUInt32 % 65536).toInt32) :: st) σ) : Z k pc lv (.int x :: st) σ := by
  obtain ⟨p, l, e, R, s, m, args, below, meth, c, D, ad, ca, A, hx, hb, hml, hown, hts, hE, hK, hD, hA, hret, hlk, hfr, hlo, hmc, htr, hex, hAc, rfl⟩ := hR
  intro ls H locs hl hP hS
  subst hn
  exact lv_i2c hx hb d rfl (kk ls H locs hl hP hS)
theorem z_iconst (hR : zR own cc nL fr lo mc ex ret po pt Z) {k pc : Nat} {lv : List (Option Value)} {st : List Value} {σ : zS} {i : Int} {v : Int32} {n : Nat} (d : decode cc pc = .ok (.iconst i, 1)) (hv : Int32.ofInt i = v) (hn : pc + 1 = n) (kk : Z k n lv (.int v :: st) σ) : Z k pc lv (st) σ := by
  obtain ⟨p, l, e, R, s, m, args, below, meth, c, D, ad, ca, A, hx, hb, hml, hown, hts, hE, hK, hD, hA, hret, hlk, hfr, hlo, hmc, htr, hex, hAc, rfl⟩ := hR
  intro ls H locs hl hP hS
  subst hn
  exact lv_iconst hx hb d hv (kk ls H locs hl hP hS)
theorem z_bipush (hR : zR own cc nL fr lo mc ex ret po pt Z) {k pc : Nat} {lv : List (Option Value)} {st : List Value} {σ : zS} {i : Int} {v : Int32} {n : Nat} (d : decode cc pc = .ok (.bipush i, 2)) (hv : (Int8.ofInt i).toInt32 = v) (hn : pc + 2 = n) (kk : Z k n lv (.int v :: st) σ) : Z k pc lv (st) σ := by
  obtain ⟨p, l, e, R, s, m, args, below, meth, c, D, ad, ca, A, hx, hb, hml, hown, hts, hE, hK, hD, hA, hret, hlk, hfr, hlo, hmc, htr, hex, hAc, rfl⟩ := hR
  intro ls H locs hl hP hS
  subst hn
  exact lv_bipush hx hb d hv (kk ls H locs hl hP hS)
theorem z_sipush (hR : zR own cc nL fr lo mc ex ret po pt Z) {k pc : Nat} {lv : List (Option Value)} {st : List Value} {σ : zS} {i : Int} {v : Int32} {n : Nat} (d : decode cc pc = .ok (.sipush i, 3)) (hv : (Int16.ofInt i).toInt32 = v) (hn : pc + 3 = n) (kk : Z k n lv (.int v :: st) σ) : Z k pc lv (st) σ := by
  obtain ⟨p, l, e, R, s, m, args, below, meth, c, D, ad, ca, A, hx, hb, hml, hown, hts, hE, hK, hD, hA, hret, hlk, hfr, hlo, hmc, htr, hex, hAc, rfl⟩ := hR
  intro ls H locs hl hP hS
  subst hn
  exact lv_sipush hx hb d hv (kk ls H locs hl hP hS)
theorem z_lconst (hR : zR own cc nL fr lo mc ex ret po pt Z) {k pc : Nat} {lv : List (Option Value)} {st : List Value} {σ : zS} {i : Fin 2} {v : Int64} {n : Nat} (d : decode cc pc = .ok (.lconst i, 1)) (hv : Int64.ofNat (i : Nat) = v) (hn : pc + 1 = n) (kk : Z k n lv (.long v :: st) σ) : Z k pc lv (st) σ := by
  obtain ⟨p, l, e, R, s, m, args, below, meth, c, D, ad, ca, A, hx, hb, hml, hown, hts, hE, hK, hD, hA, hret, hlk, hfr, hlo, hmc, htr, hex, hAc, rfl⟩ := hR
  intro ls H locs hl hP hS
  subst hn
  exact lv_lconst hx hb d hv (kk ls H locs hl hP hS)
theorem z_ldc (hR : zR own cc nL fr lo mc ex ret po pt Z) {k pc : Nat} {lv : List (Option Value)} {st : List Value} {σ : zS} {i : Nat} {v : Int32} {n : Nat} (d : decode cc pc = .ok (.ldc i, 2)) (hc : Cond.constant own i v ∈ zwd) (hn : pc + 2 = n) (kk : Z k n lv (.int v :: st) σ) : Z k pc lv (st) σ := by
  obtain ⟨p, l, e, R, s, m, args, below, meth, c, D, ad, ca, A, hx, hb, hml, hown, hts, hE, hK, hD, hA, hret, hlk, hfr, hlo, hmc, htr, hex, hAc, rfl⟩ := hR
  intro ls H locs hl hP hS
  subst hn
  exact lv_ldc hx hb hown (hts _ hc) d (kk ls H locs hl hP hS)
theorem z_ldc2 (hR : zR own cc nL fr lo mc ex ret po pt Z) {k pc : Nat} {lv : List (Option Value)} {st : List Value} {σ : zS} {i : Nat} {v : Int64} {n : Nat} (d : decode cc pc = .ok (.ldc2_w i, 3)) (hc : Cond.constantLong own i v ∈ zwd) (hn : pc + 3 = n) (kk : Z k n lv (.long v :: st) σ) : Z k pc lv (st) σ := by
  obtain ⟨p, l, e, R, s, m, args, below, meth, c, D, ad, ca, A, hx, hb, hml, hown, hts, hE, hK, hD, hA, hret, hlk, hfr, hlo, hmc, htr, hex, hAc, rfl⟩ := hR
  intro ls H locs hl hP hS
  subst hn
  exact lv_ldc2 hx hb hown (hts _ hc) d (kk ls H locs hl hP hS)
theorem z_dup (hR : zR own cc nL fr lo mc ex ret po pt Z) {k pc : Nat} {lv : List (Option Value)} {st : List Value} {σ : zS} {va : Value} {n : Nat} (d : decode cc pc = .ok (.dup, 1)) (hva : va.category = 1) (hn : pc + 1 = n) (kk : Z k n lv (va :: va :: st) σ) : Z k pc lv (va :: st) σ := by
  obtain ⟨p, l, e, R, s, m, args, below, meth, c, D, ad, ca, A, hx, hb, hml, hown, hts, hE, hK, hD, hA, hret, hlk, hfr, hlo, hmc, htr, hex, hAc, rfl⟩ := hR
  intro ls H locs hl hP hS
  subst hn
  exact lv_dup hx hb d ((zv_cat ad va).trans hva) (kk ls H locs hl hP hS)
theorem z_pop (hR : zR own cc nL fr lo mc ex ret po pt Z) {k pc : Nat} {lv : List (Option Value)} {st : List Value} {σ : zS} {va : Value} {n : Nat} (d : decode cc pc = .ok (.pop, 1)) (hva : va.category = 1) (hn : pc + 1 = n) (kk : Z k n lv (st) σ) : Z k pc lv (va :: st) σ := by
  obtain ⟨p, l, e, R, s, m, args, below, meth, c, D, ad, ca, A, hx, hb, hml, hown, hts, hE, hK, hD, hA, hret, hlk, hfr, hlo, hmc, htr, hex, hAc, rfl⟩ := hR
  intro ls H locs hl hP hS
  subst hn
  exact lv_pop hx hb d ((zv_cat ad va).trans hva) (kk ls H locs hl hP hS)
theorem z_dup_x1 (hR : zR own cc nL fr lo mc ex ret po pt Z) {k pc : Nat} {lv : List (Option Value)} {st : List Value} {σ : zS} {va vb : Value} {n : Nat} (d : decode cc pc = .ok (.dup_x1, 1)) (hva : va.category = 1) (hvb : vb.category = 1) (hn : pc + 1 = n) (kk : Z k n lv (va :: vb :: va :: st) σ) : Z k pc lv (va :: vb :: st) σ := by
  obtain ⟨p, l, e, R, s, m, args, below, meth, c, D, ad, ca, A, hx, hb, hml, hown, hts, hE, hK, hD, hA, hret, hlk, hfr, hlo, hmc, htr, hex, hAc, rfl⟩ := hR
  intro ls H locs hl hP hS
  subst hn
  exact lv_dup_x1 hx hb d ((zv_cat ad va).trans hva) ((zv_cat ad vb).trans hvb) (kk ls H locs hl hP hS)
theorem z_dup_x2 (hR : zR own cc nL fr lo mc ex ret po pt Z) {k pc : Nat} {lv : List (Option Value)} {st : List Value} {σ : zS} {va vb vd : Value} {n : Nat} (d : decode cc pc = .ok (.dup_x2, 1)) (hva : va.category = 1) (hvb : vb.category = 1) (hvd : vd.category = 1) (hn : pc + 1 = n) (kk : Z k n lv (va :: vb :: vd :: va :: st) σ) : Z k pc lv (va :: vb :: vd :: st) σ := by
  obtain ⟨p, l, e, R, s, m, args, below, meth, c, D, ad, ca, A, hx, hb, hml, hown, hts, hE, hK, hD, hA, hret, hlk, hfr, hlo, hmc, htr, hex, hAc, rfl⟩ := hR
  intro ls H locs hl hP hS
  subst hn
  exact lv_dup_x2 hx hb d ((zv_cat ad va).trans hva) ((zv_cat ad vb).trans hvb) ((zv_cat ad vd).trans hvd) (kk ls H locs hl hP hS)
theorem z_dup2_11 (hR : zR own cc nL fr lo mc ex ret po pt Z) {k pc : Nat} {lv : List (Option Value)} {st : List Value} {σ : zS} {va vb : Value} {n : Nat} (d : decode cc pc = .ok (.dup2, 1)) (hva : va.category = 1) (hvb : vb.category = 1) (hn : pc + 1 = n) (kk : Z k n lv (va :: vb :: va :: vb :: st) σ) : Z k pc lv (va :: vb :: st) σ := by
  obtain ⟨p, l, e, R, s, m, args, below, meth, c, D, ad, ca, A, hx, hb, hml, hown, hts, hE, hK, hD, hA, hret, hlk, hfr, hlo, hmc, htr, hex, hAc, rfl⟩ := hR
  intro ls H locs hl hP hS
  subst hn
  exact lv_dup2_11 hx hb d ((zv_cat ad va).trans hva) ((zv_cat ad vb).trans hvb) (kk ls H locs hl hP hS)
theorem z_iload_n (hR : zR own cc nL fr lo mc ex ret po pt Z) {k pc : Nat} {lv : List (Option Value)} {st : List Value} {σ : zS} {i : Fin 4} {x : Int32} {n : Nat} (d : decode cc pc = .ok (.iload_n i, 1)) (hn : pc + 1 = n) (hv : lv[(i : Nat)]? = some (some (.int x))) (kk : Z k n lv (.int x :: st) σ) : Z k pc lv st σ := by
  obtain ⟨p, l, e, R, s, m, args, below, meth, c, D, ad, ca, A, hx, hb, hml, hown, hts, hE, hK, hD, hA, hret, hlk, hfr, hlo, hmc, htr, hex, hAc, rfl⟩ := hR
  intro ls H locs hl hP hS
  subst hn
  exact lv_iload_n hx hb d rfl (zLv_at hl hv) (kk ls H locs hl hP hS)
theorem z_iload (hR : zR own cc nL fr lo mc ex ret po pt Z) {k pc : Nat} {lv : List (Option Value)} {st : List Value} {σ : zS} {i : Nat} {x : Int32} {n : Nat} (d : decode cc pc = .ok (.iload i, 2)) (hn : pc + 2 = n) (hv : lv[i]? = some (some (.int x))) (kk : Z k n lv (.int x :: st) σ) : Z k pc lv st σ := by
  obtain ⟨p, l, e, R, s, m, args, below, meth, c, D, ad, ca, A, hx, hb, hml, hown, hts, hE, hK, hD, hA, hret, hlk, hfr, hlo, hmc, htr, hex, hAc, rfl⟩ := hR
  intro ls H locs hl hP hS
  subst hn
  exact lv_iload hx hb d (zLv_at hl hv) (kk ls H locs hl hP hS)
theorem z_lload_n (hR : zR own cc nL fr lo mc ex ret po pt Z) {k pc : Nat} {lv : List (Option Value)} {st : List Value} {σ : zS} {i : Fin 4} {x : Int64} {n : Nat} (d : decode cc pc = .ok (.lload_n i, 1)) (hn : pc + 1 = n) (hv : lv[(i : Nat)]? = some (some (.long x))) (kk : Z k n lv (.long x :: st) σ) : Z k pc lv st σ := by
  obtain ⟨p, l, e, R, s, m, args, below, meth, c, D, ad, ca, A, hx, hb, hml, hown, hts, hE, hK, hD, hA, hret, hlk, hfr, hlo, hmc, htr, hex, hAc, rfl⟩ := hR
  intro ls H locs hl hP hS
  subst hn
  exact lv_lload_n hx hb d rfl (zLv_at hl hv) (kk ls H locs hl hP hS)
theorem z_lload (hR : zR own cc nL fr lo mc ex ret po pt Z) {k pc : Nat} {lv : List (Option Value)} {st : List Value} {σ : zS} {i : Nat} {x : Int64} {n : Nat} (d : decode cc pc = .ok (.lload i, 2)) (hn : pc + 2 = n) (hv : lv[i]? = some (some (.long x))) (kk : Z k n lv (.long x :: st) σ) : Z k pc lv st σ := by
  obtain ⟨p, l, e, R, s, m, args, below, meth, c, D, ad, ca, A, hx, hb, hml, hown, hts, hE, hK, hD, hA, hret, hlk, hfr, hlo, hmc, htr, hex, hAc, rfl⟩ := hR
  intro ls H locs hl hP hS
  subst hn
  exact lv_lload hx hb d (zLv_at hl hv) (kk ls H locs hl hP hS)
theorem z_aload_n (hR : zR own cc nL fr lo mc ex ret po pt Z) {k pc : Nat} {lv : List (Option Value)} {st : List Value} {σ : zS} {i : Fin 4} {x : Nat} {n : Nat} (d : decode cc pc = .ok (.aload_n i, 1)) (hn : pc + 1 = n) (hv : lv[(i : Nat)]? = some (some (.ref x))) (kk : Z k n lv (.ref x :: st) σ) : Z k pc lv st σ := by
  obtain ⟨p, l, e, R, s, m, args, below, meth, c, D, ad, ca, A, hx, hb, hml, hown, hts, hE, hK, hD, hA, hret, hlk, hfr, hlo, hmc, htr, hex, hAc, rfl⟩ := hR
  intro ls H locs hl hP hS
  subst hn
  exact lv_aload_n hx hb d rfl (zLv_at hl hv) (kk ls H locs hl hP hS)
theorem z_aload (hR : zR own cc nL fr lo mc ex ret po pt Z) {k pc : Nat} {lv : List (Option Value)} {st : List Value} {σ : zS} {i : Nat} {x : Nat} {n : Nat} (d : decode cc pc = .ok (.aload i, 2)) (hn : pc + 2 = n) (hv : lv[i]? = some (some (.ref x))) (kk : Z k n lv (.ref x :: st) σ) : Z k pc lv st σ := by
  obtain ⟨p, l, e, R, s, m, args, below, meth, c, D, ad, ca, A, hx, hb, hml, hown, hts, hE, hK, hD, hA, hret, hlk, hfr, hlo, hmc, htr, hex, hAc, rfl⟩ := hR
  intro ls H locs hl hP hS
  subst hn
  exact lv_aload hx hb d (zLv_at hl hv) (kk ls H locs hl hP hS)
theorem z_istore_n (hR : zR own cc nL fr lo mc ex ret po pt Z) {k pc : Nat} {lv : List (Option Value)} {st : List Value} {σ : zS} {i : Fin 4} {x : Int32} {n : Nat} (d : decode cc pc = .ok (.istore_n i, 1)) (hn : pc + 1 = n) (hi : (i : Nat) < nL) (ho : zLok lv i = true) (kk : Z k n (lv.set i (some (.int x))) st σ) : Z k pc lv (.int x :: st) σ := by
  obtain ⟨p, l, e, R, s, m, args, below, meth, c, D, ad, ca, A, hx, hb, hml, hown, hts, hE, hK, hD, hA, hret, hlk, hfr, hlo, hmc, htr, hex, hAc, rfl⟩ := hR
  intro ls H locs hl hP hS
  subst hn
  exact lv_istore_n hx hb d rfl hl hi rfl (fun ls1 h1 => kk ls1 H locs (zLv_set1 (v := .int x) h1 ho) hP hS)
theorem z_istore (hR : zR own cc nL fr lo mc ex ret po pt Z) {k pc : Nat} {lv : List (Option Value)} {st : List Value} {σ : zS} {i : Nat} {x : Int32} {n : Nat} (d : decode cc pc = .ok (.istore i, 2)) (hn : pc + 2 = n) (hi : i < nL) (ho : zLok lv i = true) (kk : Z k n (lv.set i (some (.int x))) st σ) : Z k pc lv (.int x :: st) σ := by
  obtain ⟨p, l, e, R, s, m, args, below, meth, c, D, ad, ca, A, hx, hb, hml, hown, hts, hE, hK, hD, hA, hret, hlk, hfr, hlo, hmc, htr, hex, hAc, rfl⟩ := hR
  intro ls H locs hl hP hS
  subst hn
  exact lv_istore hx hb d hl hi rfl (fun ls1 h1 => kk ls1 H locs (zLv_set1 (v := .int x) h1 ho) hP hS)
theorem z_astore_n (hR : zR own cc nL fr lo mc ex ret po pt Z) {k pc : Nat} {lv : List (Option Value)} {st : List Value} {σ : zS} {i : Fin 4} {x : Nat} {n : Nat} (d : decode cc pc = .ok (.astore_n i, 1)) (hn : pc + 1 = n) (hi : (i : Nat) < nL) (ho : zLok lv i = true) (kk : Z k n (lv.set i (some (.ref x))) st σ) : Z k pc lv (.ref x :: st) σ := by
  obtain ⟨p, l, e, R, s, m, args, below, meth, c, D, ad, ca, A, hx, hb, hml, hown, hts, hE, hK, hD, hA, hret, hlk, hfr, hlo, hmc, htr, hex, hAc, rfl⟩ := hR
  intro ls H locs hl hP hS
  subst hn
  exact lv_astore_n hx hb d rfl hl hi rfl (fun ls1 h1 => kk ls1 H locs (zLv_set1 (v := .ref x) h1 ho) hP hS)
theorem z_astore (hR : zR own cc nL fr lo mc ex ret po pt Z) {k pc : Nat} {lv : List (Option Value)} {st : List Value} {σ : zS} {i : Nat} {x : Nat} {n : Nat} (d : decode cc pc = .ok (.astore i, 2)) (hn : pc + 2 = n) (hi : i < nL) (ho : zLok lv i = true) (kk : Z k n (lv.set i (some (.ref x))) st σ) : Z k pc lv (.ref x :: st) σ := by
  obtain ⟨p, l, e, R, s, m, args, below, meth, c, D, ad, ca, A, hx, hb, hml, hown, hts, hE, hK, hD, hA, hret, hlk, hfr, hlo, hmc, htr, hex, hAc, rfl⟩ := hR
  intro ls H locs hl hP hS
  subst hn
  exact lv_astore hx hb d hl hi rfl (fun ls1 h1 => kk ls1 H locs (zLv_set1 (v := .ref x) h1 ho) hP hS)
theorem z_lstore_n (hR : zR own cc nL fr lo mc ex ret po pt Z) {k pc : Nat} {lv : List (Option Value)} {st : List Value} {σ : zS} {i : Fin 4} {x : Int64} {n : Nat} (d : decode cc pc = .ok (.lstore_n i, 1)) (hn : pc + 1 = n) (hi : (i : Nat) + 1 < nL) (ho : zLok lv (i : Nat) = true) (kk : Z k n ((lv.set (i : Nat) (some (.long x))).set ((i : Nat) + 1) none) st σ) : Z k pc lv (.long x :: st) σ := by
  obtain ⟨p, l, e, R, s, m, args, below, meth, c, D, ad, ca, A, hx, hb, hml, hown, hts, hE, hK, hD, hA, hret, hlk, hfr, hlo, hmc, htr, hex, hAc, rfl⟩ := hR
  intro ls H locs hl hP hS
  subst hn
  exact lv_lstore_n hx hb d rfl hl hi rfl (fun ls1 h1 => kk ls1 H locs (zLv_set2 (x := x) h1 ho) hP hS)
theorem z_lstore (hR : zR own cc nL fr lo mc ex ret po pt Z) {k pc : Nat} {lv : List (Option Value)} {st : List Value} {σ : zS} {i : Nat} {x : Int64} {n : Nat} (d : decode cc pc = .ok (.lstore i, 2)) (hn : pc + 2 = n) (hi : i + 1 < nL) (ho : zLok lv i = true) (kk : Z k n ((lv.set i (some (.long x))).set (i + 1) none) st σ) : Z k pc lv (.long x :: st) σ := by
  obtain ⟨p, l, e, R, s, m, args, below, meth, c, D, ad, ca, A, hx, hb, hml, hown, hts, hE, hK, hD, hA, hret, hlk, hfr, hlo, hmc, htr, hex, hAc, rfl⟩ := hR
  intro ls H locs hl hP hS
  subst hn
  exact lv_lstore hx hb d hl hi rfl (fun ls1 h1 => kk ls1 H locs (zLv_set2 (x := x) h1 ho) hP hS)
theorem z_iinc (hR : zR own cc nL fr lo mc ex ret po pt Z) {k pc : Nat} {lv : List (Option Value)} {st : List Value} {σ : zS} {i : Nat} {q : Int} {x q32 : Int32} {n : Nat} (d : decode cc pc = .ok (.iinc i q, 3)) (hn : pc + 3 = n) (hq : Int32.ofInt q = q32) (hi : i < nL) (ho : zLok lv i = true) (hv : lv[i]? = some (some (.int x))) (kk : Z k n (lv.set i (some (.int (x + q32)))) st σ) : Z k pc lv st σ := by
  obtain ⟨p, l, e, R, s, m, args, below, meth, c, D, ad, ca, A, hx, hb, hml, hown, hts, hE, hK, hD, hA, hret, hlk, hfr, hlo, hmc, htr, hex, hAc, rfl⟩ := hR
  intro ls H locs hl hP hS
  subst hn
  subst hq
  obtain ⟨j, hj⟩ := zLv_place (ad := ad) hv
  exact lv_iinc hx hb d hl hj rfl hi rfl (fun ls1 h1 => kk ls1 H locs (zLv_set1 (v := .int _) h1 ho) hP hS)
theorem z_if_eq (hR : zR own cc nL fr lo mc ex ret po pt Z) {k pc : Nat} {lv : List (Option Value)} {st : List Value} {σ : zS} {x : Int32} {off : Int} {n t : Nat} (d : decode cc pc = .ok (.ifCond .eq off, 3)) (hn : pc + 3 = n) (ht : (pc : Int) + off = (t : Int)) (kt : x = 0 → Z k t lv st σ) (kf : ¬ x = 0 → Z k n lv st σ) : Z k pc lv (.int x :: st) σ := by
  obtain ⟨p, l, e, R, s, m, args, below, meth, c, D, ad, ca, A, hx, hb, hml, hown, hts, hE, hK, hD, hA, hret, hlk, hfr, hlo, hmc, htr, hex, hAc, rfl⟩ := hR
  intro ls H locs hl hP hS
  subst hn
  exact lv_if_eq hx hb d ht (fun h => kt h ls H locs hl hP hS) (fun h => kf h ls H locs hl hP hS)
theorem z_icmp_eq (hR : zR own cc nL fr lo mc ex ret po pt Z) {k pc : Nat} {lv : List (Option Value)} {st : List Value} {σ : zS} {x y : Int32} {off : Int} {n t : Nat} (d : decode cc pc = .ok (.if_icmp .eq off, 3)) (hn : pc + 3 = n) (ht : (pc : Int) + off = (t : Int)) (kt : x = y → Z k t lv st σ) (kf : ¬ x = y → Z k n lv st σ) : Z k pc lv (.int y :: .int x :: st) σ := by
  obtain ⟨p, l, e, R, s, m, args, below, meth, c, D, ad, ca, A, hx, hb, hml, hown, hts, hE, hK, hD, hA, hret, hlk, hfr, hlo, hmc, htr, hex, hAc, rfl⟩ := hR
  intro ls H locs hl hP hS
  subst hn
  exact lv_icmp_eq hx hb d ht (fun h => kt h ls H locs hl hP hS) (fun h => kf h ls H locs hl hP hS)
theorem z_if_ne (hR : zR own cc nL fr lo mc ex ret po pt Z) {k pc : Nat} {lv : List (Option Value)} {st : List Value} {σ : zS} {x : Int32} {off : Int} {n t : Nat} (d : decode cc pc = .ok (.ifCond .ne off, 3)) (hn : pc + 3 = n) (ht : (pc : Int) + off = (t : Int)) (kt : ¬ x = 0 → Z k t lv st σ) (kf : x = 0 → Z k n lv st σ) : Z k pc lv (.int x :: st) σ := by
  obtain ⟨p, l, e, R, s, m, args, below, meth, c, D, ad, ca, A, hx, hb, hml, hown, hts, hE, hK, hD, hA, hret, hlk, hfr, hlo, hmc, htr, hex, hAc, rfl⟩ := hR
  intro ls H locs hl hP hS
  subst hn
  exact lv_if_ne hx hb d ht (fun h => kt h ls H locs hl hP hS) (fun h => kf h ls H locs hl hP hS)
theorem z_icmp_ne (hR : zR own cc nL fr lo mc ex ret po pt Z) {k pc : Nat} {lv : List (Option Value)} {st : List Value} {σ : zS} {x y : Int32} {off : Int} {n t : Nat} (d : decode cc pc = .ok (.if_icmp .ne off, 3)) (hn : pc + 3 = n) (ht : (pc : Int) + off = (t : Int)) (kt : ¬ x = y → Z k t lv st σ) (kf : x = y → Z k n lv st σ) : Z k pc lv (.int y :: .int x :: st) σ := by
  obtain ⟨p, l, e, R, s, m, args, below, meth, c, D, ad, ca, A, hx, hb, hml, hown, hts, hE, hK, hD, hA, hret, hlk, hfr, hlo, hmc, htr, hex, hAc, rfl⟩ := hR
  intro ls H locs hl hP hS
  subst hn
  exact lv_icmp_ne hx hb d ht (fun h => kt h ls H locs hl hP hS) (fun h => kf h ls H locs hl hP hS)
theorem z_if_lt (hR : zR own cc nL fr lo mc ex ret po pt Z) {k pc : Nat} {lv : List (Option Value)} {st : List Value} {σ : zS} {x : Int32} {off : Int} {n t : Nat} (d : decode cc pc = .ok (.ifCond .lt off, 3)) (hn : pc + 3 = n) (ht : (pc : Int) + off = (t : Int)) (kt : x < 0 → Z k t lv st σ) (kf : ¬ x < 0 → Z k n lv st σ) : Z k pc lv (.int x :: st) σ := by
  obtain ⟨p, l, e, R, s, m, args, below, meth, c, D, ad, ca, A, hx, hb, hml, hown, hts, hE, hK, hD, hA, hret, hlk, hfr, hlo, hmc, htr, hex, hAc, rfl⟩ := hR
  intro ls H locs hl hP hS
  subst hn
  exact lv_if_lt hx hb d ht (fun h => kt h ls H locs hl hP hS) (fun h => kf h ls H locs hl hP hS)
theorem z_icmp_lt (hR : zR own cc nL fr lo mc ex ret po pt Z) {k pc : Nat} {lv : List (Option Value)} {st : List Value} {σ : zS} {x y : Int32} {off : Int} {n t : Nat} (d : decode cc pc = .ok (.if_icmp .lt off, 3)) (hn : pc + 3 = n) (ht : (pc : Int) + off = (t : Int)) (kt : x < y → Z k t lv st σ) (kf : ¬ x < y → Z k n lv st σ) : Z k pc lv (.int y :: .int x :: st) σ := by
  obtain ⟨p, l, e, R, s, m, args, below, meth, c, D, ad, ca, A, hx, hb, hml, hown, hts, hE, hK, hD, hA, hret, hlk, hfr, hlo, hmc, htr, hex, hAc, rfl⟩ := hR
  intro ls H locs hl hP hS
  subst hn
  exact lv_icmp_lt hx hb d ht (fun h => kt h ls H locs hl hP hS) (fun h => kf h ls H locs hl hP hS)
theorem z_if_ge (hR : zR own cc nL fr lo mc ex ret po pt Z) {k pc : Nat} {lv : List (Option Value)} {st : List Value} {σ : zS} {x : Int32} {off : Int} {n t : Nat} (d : decode cc pc = .ok (.ifCond .ge off, 3)) (hn : pc + 3 = n) (ht : (pc : Int) + off = (t : Int)) (kt : 0 ≤ x → Z k t lv st σ) (kf : ¬ 0 ≤ x → Z k n lv st σ) : Z k pc lv (.int x :: st) σ := by
  obtain ⟨p, l, e, R, s, m, args, below, meth, c, D, ad, ca, A, hx, hb, hml, hown, hts, hE, hK, hD, hA, hret, hlk, hfr, hlo, hmc, htr, hex, hAc, rfl⟩ := hR
  intro ls H locs hl hP hS
  subst hn
  exact lv_if_ge hx hb d ht (fun h => kt h ls H locs hl hP hS) (fun h => kf h ls H locs hl hP hS)
theorem z_icmp_ge (hR : zR own cc nL fr lo mc ex ret po pt Z) {k pc : Nat} {lv : List (Option Value)} {st : List Value} {σ : zS} {x y : Int32} {off : Int} {n t : Nat} (d : decode cc pc = .ok (.if_icmp .ge off, 3)) (hn : pc + 3 = n) (ht : (pc : Int) + off = (t : Int)) (kt : y ≤ x → Z k t lv st σ) (kf : ¬ y ≤ x → Z k n lv st σ) : Z k pc lv (.int y :: .int x :: st) σ := by
  obtain ⟨p, l, e, R, s, m, args, below, meth, c, D, ad, ca, A, hx, hb, hml, hown, hts, hE, hK, hD, hA, hret, hlk, hfr, hlo, hmc, htr, hex, hAc, rfl⟩ := hR
  intro ls H locs hl hP hS
  subst hn
  exact lv_icmp_ge hx hb d ht (fun h => kt h ls H locs hl hP hS) (fun h => kf h ls H locs hl hP hS)
theorem z_if_gt (hR : zR own cc nL fr lo mc ex ret po pt Z) {k pc : Nat} {lv : List (Option Value)} {st : List Value} {σ : zS} {x : Int32} {off : Int} {n t : Nat} (d : decode cc pc = .ok (.ifCond .gt off, 3)) (hn : pc + 3 = n) (ht : (pc : Int) + off = (t : Int)) (kt : 0 < x → Z k t lv st σ) (kf : ¬ 0 < x → Z k n lv st σ) : Z k pc lv (.int x :: st) σ := by
  obtain ⟨p, l, e, R, s, m, args, below, meth, c, D, ad, ca, A, hx, hb, hml, hown, hts, hE, hK, hD, hA, hret, hlk, hfr, hlo, hmc, htr, hex, hAc, rfl⟩ := hR
  intro ls H locs hl hP hS
  subst hn
  exact lv_if_gt hx hb d ht (fun h => kt h ls H locs hl hP hS) (fun h => kf h ls H locs hl hP hS)
theorem z_icmp_gt (hR : zR own cc nL fr lo mc ex ret po pt Z) {k pc : Nat} {lv : List (Option Value)} {st : List Value} {σ : zS} {x y : Int32} {off : Int} {n t : Nat} (d : decode cc pc = .ok (.if_icmp .gt off, 3)) (hn : pc + 3 = n) (ht : (pc : Int) + off = (t : Int)) (kt : y < x → Z k t lv st σ) (kf : ¬ y < x → Z k n lv st σ) : Z k pc lv (.int y :: .int x :: st) σ := by
  obtain ⟨p, l, e, R, s, m, args, below, meth, c, D, ad, ca, A, hx, hb, hml, hown, hts, hE, hK, hD, hA, hret, hlk, hfr, hlo, hmc, htr, hex, hAc, rfl⟩ := hR
  intro ls H locs hl hP hS
  subst hn
  exact lv_icmp_gt hx hb d ht (fun h => kt h ls H locs hl hP hS) (fun h => kf h ls H locs hl hP hS)
theorem z_if_le (hR : zR own cc nL fr lo mc ex ret po pt Z) {k pc : Nat} {lv : List (Option Value)} {st : List Value} {σ : zS} {x : Int32} {off : Int} {n t : Nat} (d : decode cc pc = .ok (.ifCond .le off, 3)) (hn : pc + 3 = n) (ht : (pc : Int) + off = (t : Int)) (kt : x ≤ 0 → Z k t lv st σ) (kf : ¬ x ≤ 0 → Z k n lv st σ) : Z k pc lv (.int x :: st) σ := by
  obtain ⟨p, l, e, R, s, m, args, below, meth, c, D, ad, ca, A, hx, hb, hml, hown, hts, hE, hK, hD, hA, hret, hlk, hfr, hlo, hmc, htr, hex, hAc, rfl⟩ := hR
  intro ls H locs hl hP hS
  subst hn
  exact lv_if_le hx hb d ht (fun h => kt h ls H locs hl hP hS) (fun h => kf h ls H locs hl hP hS)
theorem z_icmp_le (hR : zR own cc nL fr lo mc ex ret po pt Z) {k pc : Nat} {lv : List (Option Value)} {st : List Value} {σ : zS} {x y : Int32} {off : Int} {n t : Nat} (d : decode cc pc = .ok (.if_icmp .le off, 3)) (hn : pc + 3 = n) (ht : (pc : Int) + off = (t : Int)) (kt : x ≤ y → Z k t lv st σ) (kf : ¬ x ≤ y → Z k n lv st σ) : Z k pc lv (.int y :: .int x :: st) σ := by
  obtain ⟨p, l, e, R, s, m, args, below, meth, c, D, ad, ca, A, hx, hb, hml, hown, hts, hE, hK, hD, hA, hret, hlk, hfr, hlo, hmc, htr, hex, hAc, rfl⟩ := hR
  intro ls H locs hl hP hS
  subst hn
  exact lv_icmp_le hx hb d ht (fun h => kt h ls H locs hl hP hS) (fun h => kf h ls H locs hl hP hS)
theorem z_goto (hR : zR own cc nL fr lo mc ex ret po pt Z) {k pc : Nat} {lv : List (Option Value)} {st : List Value} {σ : zS} {off : Int} {t : Nat} (d : decode cc pc = .ok (.goto off, 3)) (ht : (pc : Int) + off = (t : Int)) (kk : Z k t lv st σ) : Z k pc lv st σ := by
  obtain ⟨p, l, e, R, s, m, args, below, meth, c, D, ad, ca, A, hx, hb, hml, hown, hts, hE, hK, hD, hA, hret, hlk, hfr, hlo, hmc, htr, hex, hAc, rfl⟩ := hR
  intro ls H locs hl hP hS
  exact lv_goto hx hb d ht (kk ls H locs hl hP hS)
theorem z_lookup (hR : zR own cc nL fr lo mc ex ret po pt Z) {k pc : Nat} {lv : List (Option Value)} {st : List Value} {σ : zS} {dflt : Int} {ps : Array (Int × Int)} {len t : Nat} {x : Int32} {off : Int} (d : decode cc pc = .ok (.lookupswitch dflt ps, len)) (hp : (ps.toList.zip (ps.toList.drop 1)).all (fun (a, next) => a.1 < next.1) = true) (ho : Op.lookupswitch.offset ps.toList dflt x.toInt = off) (ht : (pc : Int) + off = (t : Int)) (kk : Z k t lv st σ) : Z k pc lv (.int x :: st) σ := by
  obtain ⟨p, l, e, R, s, m, args, below, meth, c, D, ad, ca, A, hx, hb, hml, hown, hts, hE, hK, hD, hA, hret, hlk, hfr, hlo, hmc, htr, hex, hAc, rfl⟩ := hR
  intro ls H locs hl hP hS
  exact lv_lookup hx hb d hp ho ht (kk ls H locs hl hP hS)
theorem z_tableIn (hR : zR own cc nL fr lo mc ex ret po pt Z) {k pc : Nat} {lv : List (Option Value)} {st : List Value} {σ : zS} {dflt lo2 hi2 : Int} {offs : Array Int} {len t : Nat} {x : Int32} {off : Int} (d : decode cc pc = .ok (.tableswitch dflt lo2 hi2 offs, len)) (h1 : ¬ x.toInt < lo2) (h2 : ¬ hi2 < x.toInt) (ho : offs[(x.toInt - lo2).toNat]? = some off) (ht : (pc : Int) + off = (t : Int)) (kk : Z k t lv st σ) : Z k pc lv (.int x :: st) σ := by
  obtain ⟨p, l, e, R, s, m, args, below, meth, c, D, ad, ca, A, hx, hb, hml, hown, hts, hE, hK, hD, hA, hret, hlk, hfr, hlo, hmc, htr, hex, hAc, rfl⟩ := hR
  intro ls H locs hl hP hS
  exact lv_tableIn hx hb d h1 h2 ho ht (kk ls H locs hl hP hS)
theorem z_getR (hR : zR own cc nL fr lo mc ex ret po pt Z) {k pc : Nat} {lv : List (Option Value)} {st : List Value} {σ : zS} {o i ci j o2 : Nat} {rs : List (Option Nat)} {n : Nat} (d : decode cc pc = .ok (.getfield i, 3)) (hn : pc + 3 = n) (hG : zG own i ci j) (ho : o < zN) (hs : zsh o = .inr (ci, rs)) (hj : rs[j]? = some (some o2)) (kk : Z k n lv (.ref o2 :: st) σ) : Z k pc lv (.ref o :: st) σ := by
  obtain ⟨p, l, e, R, s, m, args, below, meth, c, D, ad, ca, A, hx, hb, hml, hown, hts, hE, hK, hD, hA, hret, hlk, hfr, hlo, hmc, htr, hex, hAc, rfl⟩ := hR
  intro ls H locs hl hP hS
  subst hn
  exact zG_get hx hb hts hE hown hK hP hG (zws_obj ho hs) (zfs_ref hj) d (kk ls H locs hl hP hS)
theorem z_getI (hR : zR own cc nL fr lo mc ex ret po pt Z) {k pc : Nat} {lv : List (Option Value)} {st : List Value} {σ : zS} {o i ci j : Nat} {rs : List (Option Nat)} {n : Nat} (d : decode cc pc = .ok (.getfield i, 3)) (hn : pc + 3 = n) (hG : zG own i ci j) (ho : o < zN) (hs : zsh o = .inr (ci, rs)) (hj : rs[j]? = some none) (kk : Z k n lv (.int (σ.1 o j) :: st) σ) : Z k pc lv (.ref o :: st) σ := by
  obtain ⟨p, l, e, R, s, m, args, below, meth, c, D, ad, ca, A, hx, hb, hml, hown, hts, hE, hK, hD, hA, hret, hlk, hfr, hlo, hmc, htr, hex, hAc, rfl⟩ := hR
  intro ls H locs hl hP hS
  subst hn
  exact zG_get hx hb hts hE hown hK hP hG (zws_obj ho hs) (zfs_int hj) d (kk ls H locs hl hP hS)
theorem z_putI (hR : zR own cc nL fr lo mc ex ret po pt Z) {k pc : Nat} {lv : List (Option Value)} {st : List Value} {σ : zS} {o i ci j : Nat} {rs : List (Option Nat)} {x : Int32} {n : Nat} (d : decode cc pc = .ok (.putfield i, 3)) (hn : pc + 3 = n) (hG : zPt own i ci j .int) (ho : o < zN) (hs : zsh o = .inr (ci, rs)) (hj : rs[j]? = some none) (kk : Z k n lv st (zwA σ o j x)) : Z k pc lv (.int x :: .ref o :: st) σ := by
  obtain ⟨p, l, e, R, s, m, args, below, meth, c, D, ad, ca, A, hx, hb, hml, hown, hts, hE, hK, hD, hA, hret, hlk, hfr, hlo, hmc, htr, hex, hAc, rfl⟩ := hR
  intro ls H locs hl hP hS
  subst hn
  exact zPt_put hx hb hts hE hown hK hP (hD _) hS hG ho hs hj rfl rfl d (fun H1 locs1 hP1 hS1 => kk ls H1 locs1 hl hP1 hS1)
theorem z_putZ (hR : zR own cc nL fr lo mc ex ret po pt Z) {k pc : Nat} {lv : List (Option Value)} {st : List Value} {σ : zS} {o i ci j : Nat} {rs : List (Option Nat)} {x : Int32} {n : Nat} (d : decode cc pc = .ok (.putfield i, 3)) (hn : pc + 3 = n) (hG : zPt own i ci j .boolean) (ho : o < zN) (hs : zsh o = .inr (ci, rs)) (hj : rs[j]? = some none) (h01 : x = 0 ∨ x = 1) (kk : Z k n lv st (zwA σ o j x)) : Z k pc lv (.int x :: .ref o :: st) σ := by
  obtain ⟨p, l, e, R, s, m, args, below, meth, c, D, ad, ca, A, hx, hb, hml, hown, hts, hE, hK, hD, hA, hret, hlk, hfr, hlo, hmc, htr, hex, hAc, rfl⟩ := hR
  intro ls H locs hl hP hS
  subst hn
  exact zPt_put hx hb hts hE hown hK hP (hD _) hS hG ho hs hj (by rcases h01 with rfl | rfl <;> rfl) (by rcases h01 with rfl | rfl <;> rfl) d (fun H1 locs1 hP1 hS1 => kk ls H1 locs1 hl hP1 hS1)
theorem z_iald (hR : zR own cc nL fr lo mc ex ret po pt Z) {k pc : Nat} {lv : List (Option Value)} {st : List Value} {σ : zS} {o N : Nat} {x : Int32} {n : Nat} (j : Nat) (d : decode cc pc = .ok (.iaload, 1)) (hn : pc + 1 = n) (ho : o < zN) (hs : zsh o = .inl (0, N)) (hN : N < 2 ^ 31) (hx0 : x = nI j) (hj : j < N) (kk : Z k n lv (.int (σ.1 o j) :: st) σ) : Z k pc lv (.int x :: .ref o :: st) σ := by
  obtain ⟨p, l, e, R, s, m, args, below, meth, c, D, ad, ca, A, hx, hb, hml, hown, hts, hE, hK, hD, hA, hret, hlk, hfr, hlo, hmc, htr, hex, hAc, rfl⟩ := hR
  intro ls H locs hl hP hS
  subst hn
  subst hx0
  refine va_iald hx hb hK hP o 0 (zws_arr ho hs (by decide)) rfl (vp_in_nI hj hN) d ?_
  rw [nI_clamp (Nat.lt_trans hj hN)]
  exact (kk ls H locs hl hP hS)
theorem z_cald (hR : zR own cc nL fr lo mc ex ret po pt Z) {k pc : Nat} {lv : List (Option Value)} {st : List Value} {σ : zS} {o N : Nat} {x : Int32} {n : Nat} (j : Nat) (d : decode cc pc = .ok (.caload, 1)) (hn : pc + 1 = n) (ho : o < zN) (hs : zsh o = .inl (1, N)) (hN : N < 2 ^ 31) (hx0 : x = nI j) (hj : j < N) (kk : Z k n lv (.int (σ.1 o j) :: st) σ) : Z k pc lv (.int x :: .ref o :: st) σ := by
  obtain ⟨p, l, e, R, s, m, args, below, meth, c, D, ad, ca, A, hx, hb, hml, hown, hts, hE, hK, hD, hA, hret, hlk, hfr, hlo, hmc, htr, hex, hAc, rfl⟩ := hR
  intro ls H locs hl hP hS
  subst hn
  subst hx0
  refine va_cald hx hb hK hP o 1 (zws_arr ho hs (by decide)) rfl (vp_in_nI hj hN) d ?_
  rw [nI_clamp (Nat.lt_trans hj hN)]
  exact (kk ls H locs hl hP hS)
theorem z_zald (hR : zR own cc nL fr lo mc ex ret po pt Z) {k pc : Nat} {lv : List (Option Value)} {st : List Value} {σ : zS} {o N : Nat} {x : Int32} {n : Nat} (j : Nat) (d : decode cc pc = .ok (.baload, 1)) (hn : pc + 1 = n) (ho : o < zN) (hs : zsh o = .inl (2, N)) (hN : N < 2 ^ 31) (hx0 : x = nI j) (hj : j < N) (kk : Z k n lv (.int (σ.1 o j) :: st) σ) : Z k pc lv (.int x :: .ref o :: st) σ := by
  obtain ⟨p, l, e, R, s, m, args, below, meth, c, D, ad, ca, A, hx, hb, hml, hown, hts, hE, hK, hD, hA, hret, hlk, hfr, hlo, hmc, htr, hex, hAc, rfl⟩ := hR
  intro ls H locs hl hP hS
  subst hn
  subst hx0
  refine va_zald hx hb hK hP o 2 (zws_arr ho hs (by decide)) rfl (vp_in_nI hj hN) d ?_
  rw [nI_clamp (Nat.lt_trans hj hN)]
  exact (kk ls H locs hl hP hS)
theorem z_lald (hR : zR own cc nL fr lo mc ex ret po pt Z) {k pc : Nat} {lv : List (Option Value)} {st : List Value} {σ : zS} {o N : Nat} {x : Int32} {n : Nat} (j : Nat) (d : decode cc pc = .ok (.laload, 1)) (hn : pc + 1 = n) (ho : o < zN) (hs : zsh o = .inl (3, N)) (hN : N < 2 ^ 31) (hx0 : x = nI j) (hj : j < N) (kk : Z k n lv (.long (σ.2 o j) :: st) σ) : Z k pc lv (.int x :: .ref o :: st) σ := by
  obtain ⟨p, l, e, R, s, m, args, below, meth, c, D, ad, ca, A, hx, hb, hml, hown, hts, hE, hK, hD, hA, hret, hlk, hfr, hlo, hmc, htr, hex, hAc, rfl⟩ := hR
  intro ls H locs hl hP hS
  subst hn
  subst hx0
  refine va_lald hx hb hK hP o 3 (zws_arrL ho hs) rfl (vp_in_nI hj hN) d ?_
  rw [nI_clamp (Nat.lt_trans hj hN)]
  exact (kk ls H locs hl hP hS)
theorem z_iast (hR : zR own cc nL fr lo mc ex ret po pt Z) {k pc : Nat} {lv : List (Option Value)} {st : List Value} {σ : zS} {o N : Nat} {x y : Int32} {n : Nat} (j : Nat) (d : decode cc pc = .ok (.iastore, 1)) (hn : pc + 1 = n) (ho : o < zN) (hs : zsh o = .inl (0, N)) (hN : N < 2 ^ 31) (hx0 : x = nI j) (hj : j < N) (kk : Z k n lv st (zwA σ o j y)) : Z k pc lv (.int y :: .int x :: .ref o :: st) σ := by
  obtain ⟨p, l, e, R, s, m, args, below, meth, c, D, ad, ca, A, hx, hb, hml, hown, hts, hE, hK, hD, hA, hret, hlk, hfr, hlo, hmc, htr, hex, hAc, rfl⟩ := hR
  intro ls H locs hl hP hS
  subst hn
  subst hx0
  refine va_iast hx hb hK hP (hD _) hS o 0 (zws_arr ho hs (by decide)) rfl (vp_in_nI hj hN) d (fun H1 locs1 hP1 hD1 hS1 => kk ls H1 locs1 hl ?_ hS1)
  rw [nI_clamp (Nat.lt_trans hj hN)] at hP1
  rw [zws_setA ho hs (by decide)] at hP1
  exact hP1
theorem z_cast (hR : zR own cc nL fr lo mc ex ret po pt Z) {k pc : Nat} {lv : List (Option Value)} {st : List Value} {σ : zS} {o N : Nat} {x y : Int32} {n : Nat} (j : Nat) (d : decode cc pc = .ok (.castore, 1)) (hn : pc + 1 = n) (ho : o < zN) (hs : zsh o = .inl (1, N)) (hN : N < 2 ^ 31) (hx0 : x = nI j) (hj : j < N) (kk : Z k n lv st (zwA σ o j (vp_nar .char y))) : Z k pc lv (.int y :: .int x :: .ref o :: st) σ := by
  obtain ⟨p, l, e, R, s, m, args, below, meth, c, D, ad, ca, A, hx, hb, hml, hown, hts, hE, hK, hD, hA, hret, hlk, hfr, hlo, hmc, htr, hex, hAc, rfl⟩ := hR
  intro ls H locs hl hP hS
  subst hn
  subst hx0
  refine va_cast hx hb hK hP (hD _) hS o 1 (zws_arr ho hs (by decide)) rfl (vp_in_nI hj hN) d (fun H1 locs1 hP1 hD1 hS1 => kk ls H1 locs1 hl ?_ hS1)
  rw [nI_clamp (Nat.lt_trans hj hN)] at hP1
  rw [zws_setA ho hs (by decide)] at hP1
  exact hP1
theorem z_zast (hR : zR own cc nL fr lo mc ex ret po pt Z) {k pc : Nat} {lv : List (Option Value)} {st : List Value} {σ : zS} {o N : Nat} {x y : Int32} {n : Nat} (j : Nat) (d : decode cc pc = .ok (.bastore, 1)) (hn : pc + 1 = n) (ho : o < zN) (hs : zsh o = .inl (2, N)) (hN : N < 2 ^ 31) (hx0 : x = nI j) (hj : j < N) (kk : Z k n lv st (zwA σ o j (vp_nar .boolean y))) : Z k pc lv (.int y :: .int x :: .ref o :: st) σ := by
  obtain ⟨p, l, e, R, s, m, args, below, meth, c, D, ad, ca, A, hx, hb, hml, hown, hts, hE, hK, hD, hA, hret, hlk, hfr, hlo, hmc, htr, hex, hAc, rfl⟩ := hR
  intro ls H locs hl hP hS
  subst hn
  subst hx0
  refine va_zast hx hb hK hP (hD _) hS o 2 (zws_arr ho hs (by decide)) rfl (vp_in_nI hj hN) d (fun H1 locs1 hP1 hD1 hS1 => kk ls H1 locs1 hl ?_ hS1)
  rw [nI_clamp (Nat.lt_trans hj hN)] at hP1
  rw [zws_setA ho hs (by decide)] at hP1
  exact hP1
theorem z_last (hR : zR own cc nL fr lo mc ex ret po pt Z) {k pc : Nat} {lv : List (Option Value)} {st : List Value} {σ : zS} {o N : Nat} {x : Int32} {y : Int64} {n : Nat} (j : Nat) (d : decode cc pc = .ok (.lastore, 1)) (hn : pc + 1 = n) (ho : o < zN) (hs : zsh o = .inl (3, N)) (hN : N < 2 ^ 31) (hx0 : x = nI j) (hj : j < N) (kk : Z k n lv st (zwL σ o j y)) : Z k pc lv (.long y :: .int x :: .ref o :: st) σ := by
  obtain ⟨p, l, e, R, s, m, args, below, meth, c, D, ad, ca, A, hx, hb, hml, hown, hts, hE, hK, hD, hA, hret, hlk, hfr, hlo, hmc, htr, hex, hAc, rfl⟩ := hR
  intro ls H locs hl hP hS
  subst hn
  subst hx0
  refine va_last hx hb hK hP (hD _) hS o 3 (zws_arrL ho hs) rfl (vp_in_nI hj hN) d (fun H1 locs1 hP1 hD1 hS1 => kk ls H1 locs1 hl ?_ hS1)
  rw [nI_clamp (Nat.lt_trans hj hN)] at hP1
  rw [zws_setL ho hs] at hP1
  exact hP1
end ZR
