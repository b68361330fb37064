/-! THE CLAIM OUT OF ONE WALK OF THE LAW'S BODY. Your part is whole_start (and what it stands on); all else here is the same for every law, but numbers. -/
def R_law : String := "PathCheckerLaw"
def lw_P (b : Addr) (xs : List Int32) (args : Array Value) (s : State) : Prop := args = #[.ref b] ∧ s.IntsAt b xs ∧ xs.length ≤ 2048 ∧ (Jvm.Cond.and given_1 narrow_1).before args s = true
def lw_Q (_ : Array Value) (s : State) (o : Outcome) (t : State) : Prop := o = .returned (some (.int 1)) ∧ Framed s o t [] 601024 7293034
def lw_Z (below : List Frame) (a : Array Value) (s : State) : State → Prop := fun t => ∃ o, t.status = .running ∧ Ended t below o ∧ lw_Q a s o t
/-- the law's own end, with 1 on the stack, nothing written that was there before, its room as the claim has it -/
theorem lw_ret {p : Program} {l : Launch} {e : Env} {s : State} {m : MethodId} {below : List Frame} {meth : Method} {c : Code} {b : Nat} (hx : p.tables.exec = Jvm.exec) (hb : c.code = code) (hr : meth.sig.returnType = ret) (hlocks : meth.locks = false) {pc : Nat} {H : Heap} {ls : Array Slot} (hdg : decode code pc = .ok (.ireturn, 1)) : W p l e room_1 s m #[Value.ref b] below meth c H [] 601024 7293034 (lw_Z below #[Value.ref b] s) (F0 m pc ls [.int 1]) := by
  intro T hT X
  obtain ⟨fs, hret, hrun, hended, hW, hframe⟩ := X.leave (v := some (.int 1)) (hlocks := hlocks) (fun h => by rw [hr] at h; cases h)
  have hmeth' : T.vm.method? m = some meth := X.method'
  refine ⟨T.setFrames fs, ?_, .returned (some (.int 1)), hrun, hended, rfl, ⟨_, rfl⟩, hW, hframe⟩
  jvm_step X.here [X.here.top, hx, hb, hdg, hmeth', hr, ret, narrow_b1]
  (try refine ⟨rfl, ?_⟩); (try refine ⟨rfl, ?_⟩)
  first | (intro acts; rw [hret _ acts rfl rfl rfl]) | rw [hret _ _ rfl rfl rfl]
  exact Steps.refl _
/-- what holds at the law's entry: the machine, the code, the tables' words (any of lw_tbl by 'hts w (by decide +kernel)'), the script of L ints xs at the cell b, what the Statement gives of the start (any of its parts by flat_of_before) -/
def lw_At (p : Program) (s : State) (m : MethodId) (meth : Method) (c : Code) (b L : Nat) (xs : Nat → Int32) : Prop :=
  p.tables.exec = Jvm.exec ∧ c.code = code ∧ meth.sig.returnType = ret ∧ c.maxLocals = 7 ∧ s.vm.findClass R_law = some m.cls ∧ (∀ w ∈ lw_tbl, w.before #[Value.ref b] s = true) ∧ va_X b L xs s s.heap ∧ b < s.heap.size ∧ meth.locks = false ∧ (Jvm.Cond.and given_1 narrow_1).before #[Value.ref b] s = true
theorem ynLAW_8 : yNw "PathCheckerLaw" 8 0 11 [.null, .int 0, .null, .null, .null, .null, .null, .null, .null, .null, .int 0] := ⟨R_PC, T_PC, ty_PC, rfl, (qw_of 77 (by decide +kernel) (by decide +kernel)), (qw_of 78 (by decide +kernel) (by decide +kernel)), (qw_of 59 (by decide +kernel) (by decide +kernel)), zin_PC, tyk_PC, yd_PC, fun _ => rfl⟩
theorem ycLAW_43 : yCo "PathCheckerLaw" 43 yPC_init 0 := ⟨rfl, ⟨(qw_of 59 (by decide +kernel) (by decide +kernel)), by decide, by decide, by decide +kernel⟩, (qw_of 80 (by decide +kernel) (by decide +kernel)), Or.inl (qw_of 79 (by decide +kernel) (by decide +kernel))⟩
theorem ynLAW_44 : yNw "PathCheckerLaw" 44 9 41 [.int 0, .int 0, .null, .int 0, .int 0, .null, .null, .null, .null, .int 0, .int 0, .null, .null, .null, .int 0, .null, .int 0, .null, .int 0, .int 0, .null, .null, .null, .int 0, .null, .int 0, .null, .null, .null, .null, .null, .null, .null, .null, .int 0, .int 0, .null, .null, .null, .null, .null] := ⟨R_MO, T_MO, ty_MO, rfl, (qw_of 844 (by decide +kernel) (by decide +kernel)), (qw_of 845 (by decide +kernel) (by decide +kernel)), (qw_of 68 (by decide +kernel) (by decide +kernel)), zin_MO, tyk_MO, yd_MO, fun _ => rfl⟩
theorem ycLAW_46 : yCo "PathCheckerLaw" 46 yMO_init 0 := ⟨rfl, ⟨(qw_of 68 (by decide +kernel) (by decide +kernel)), by decide, by decide, by decide +kernel⟩, (qw_of 847 (by decide +kernel) (by decide +kernel)), Or.inl (qw_of 846 (by decide +kernel) (by decide +kernel))⟩
theorem yi_PC : Cond.instantiable R_PC 11 ∈ zwd := (qw_of 78 (by decide +kernel) (by decide +kernel))
theorem yi_GR : Cond.instantiable R_GR 8 ∈ zwd := (qw_of 171 (by decide +kernel) (by decide +kernel))
theorem yi_KN : Cond.instantiable R_KN 12 ∈ zwd := (qw_of 165 (by decide +kernel) (by decide +kernel))
theorem yi_NE : Cond.instantiable R_NE 4 ∈ zwd := (qw_of 159 (by decide +kernel) (by decide +kernel))
theorem yi_NF : Cond.instantiable R_NF 10 ∈ zwd := (qw_of 177 (by decide +kernel) (by decide +kernel))
theorem yi_PA : Cond.instantiable R_PA 3 ∈ zwd := (qw_of 133 (by decide +kernel) (by decide +kernel))
theorem yi_RE : Cond.instantiable R_RE 11 ∈ zwd := (qw_of 86 (by decide +kernel) (by decide +kernel))
theorem yi_SE : Cond.instantiable R_SE 6 ∈ zwd := (qw_of 153 (by decide +kernel) (by decide +kernel))
theorem yi_ST : Cond.instantiable R_ST 2 ∈ zwd := (qw_of 228 (by decide +kernel) (by decide +kernel))
theorem yi_MO : Cond.instantiable R_MO 41 ∈ zwd := (qw_of 845 (by decide +kernel) (by decide +kernel))
def zPcW : yW := [(0, .inr (0, [.ref 1, .int 0, .ref 2, .ref 8, .ref 11, .ref 16, .ref 19, .ref 28, .ref 34, .ref 42, .int 0])), (1, .inl (1, 32)), (2, .inr (6, [.ref 3, .ref 4, .ref 5, .int 0, .int 0, .ref 6, .int 0, .ref 7, .int 0, .int 0, .int 0])), (3, .inl (1, 32)), (4, .inl (0, 32)), (5, .inl (0, 32)), (6, .inl (1, 32)), (7, .inl (0, 32)), (8, .inr (5, [.ref 9, .int 0, .ref 10])), (10, .inl (0, 37)), (9, .inl (0, 8)), (11, .inr (7, [.ref 16, .ref 28, .ref 13, .ref 12, .int (-1), .int (-1)])), (16, .inr (3, [.ref 19, .ref 28, .ref 17, .ref 18])), (19, .inr (2, [.ref 28, .ref 20, .ref 21, .int 0, .ref 22, .ref 23, .ref 24, .int 0, .ref 25, .int 0, .ref 26, .ref 27])), (28, .inr (1, [.ref 34, .ref 42, .int 0, .ref 29, .ref 30, .ref 31, .ref 32, .ref 33])), (34, .inr (4, [.ref 35, .int 0, .ref 36, .ref 37, .int 0, .ref 38, .ref 39, .ref 40, .ref 41, .int 0])), (35, .inl (1, 37)), (36, .inl (0, 37)), (37, .inl (0, 37)), (38, .inl (0, 5)), (39, .inl (0, 37)), (40, .inl (0, 32)), (41, .inl (2, 32)), (42, .inr (8, [.ref 43, .ref 44])), (43, .inl (0, 6)), (44, .inl (0, 6)), (29, .inl (0, 37)), (30, .inl (0, 37)), (31, .inl (0, 1152)), (32, .inl (0, 6)), (33, .inl (0, 30)), (20, .inl (0, 6)), (21, .inl (0, 192)), (22, .inl (0, 192)), (23, .inl (0, 192)), (24, .inl (0, 192)), (25, .inl (0, 192)), (26, .inl (2, 192)), (27, .inl (0, 6)), (17, .inl (0, 36)), (18, .inl (0, 6)), (13, .inr (5, [.ref 14, .int 0, .ref 15])), (15, .inl (0, 37)), (14, .inl (0, 6)), (12, .inl (0, 6))]
def zMoW : yW := [(45, .inr (9, [.int 0, .int 0, .ref 46, .int 0, .int 0, .ref 47, .ref 48, .ref 49, .ref 50, .int 0, .int 0, .ref 51, .ref 52, .ref 53, .int 0, .ref 54, .int 0, .ref 55, .int 0, .int 0, .ref 56, .ref 57, .ref 58, .int 0, .ref 59, .int 0, .ref 60, .ref 61, .ref 62, .ref 63, .ref 64, .ref 65, .ref 66, .ref 67, .int 0, .int 0, .ref 68, .ref 69, .ref 70, .ref 71, .ref 72])), (46, .inl (0, 32)), (47, .inl (0, 40)), (48, .inl (0, 40)), (49, .inl (0, 40)), (50, .inl (0, 40)), (51, .inl (0, 40)), (52, .inl (0, 40)), (53, .inl (0, 40)), (54, .inl (0, 40)), (55, .inl (0, 40)), (56, .inl (0, 100)), (57, .inl (0, 6)), (58, .inl (2, 36)), (59, .inl (0, 8)), (60, .inl (0, 2304)), (61, .inl (2, 384)), (62, .inl (2, 40)), (63, .inl (3, 6)), (64, .inl (3, 6)), (65, .inl (3, 6)), (66, .inl (3, 6)), (67, .inl (3, 36)), (68, .inl (0, 8)), (69, .inl (2, 320)), (70, .inl (0, 6)), (71, .inl (0, 6)), (72, .inl (0, 36))]
def zAllW : yW := zPcW ++ zMoW ++ [(73, .inl (3, 1))]
/-- the numbers with which the world begins -/
def zs0 : zS := (fun o => match o with | 11 => (fun j => match j with | 4 => -1 | 5 => -1 | _ => 0) | _ => fun _ => 0, fun _ _ => 0)
def lv0 : List (Option Value) := [some (.ref 998), none, none, none, none, none, none]
set_option maxRecDepth 100000 in
set_option maxHeartbeats 1000000 in
theorem lw_make {Y : Nat → Nat → Nat → List (Option Value) → List Value → yW → Prop} (hY : yX "PathCheckerLaw" code 7 2048 84000 601024 7293034 [998, 999] Y) (kk : Y 74 6801 20 [some (.ref 998), some (.ref 0), some (.ref 45), some (.ref 73), none, none, none] [] zAllW) : Y 0 0 0 lv0 [] [] := by
  refine x_new hY 0 dLAW_law_0 ynLAW_8 rfl rfl (by decide) (by decide) ?_
  refine x_dup hY dLAW_law_3 ?_
  refine x_call hY (q := 0) (av := []) (wr := []) [] dLAW_law_4 ycLAW_43 zkPC_init mk_pc (by decide) (by decide) rfl rfl rfl (by decide) rfl rfl rfl (by decide) (by decide) ?_
  refine x_astore hY dLAW_law_7 (by decide) rfl ?_
  refine x_new hY 45 dLAW_law_8 ynLAW_44 rfl rfl (by decide) (by decide) ?_
  refine x_dup hY dLAW_law_11 ?_
  refine x_call hY (q := 45) (av := []) (wr := zPcW) [0, 1, 2, 3, 4, 5, 6, 7, 8, 9, 10, 11, 12, 13, 14, 15, 16, 17, 18, 19, 20, 21, 22, 23, 24, 25, 26, 27, 28, 29, 30, 31, 32, 33, 34, 35, 36, 37, 38, 39, 40, 41, 42, 43, 44] dLAW_law_12 ycLAW_46 zkMO_init mk_mo (by decide) (by decide) rfl rfl rfl (by decide) rfl rfl rfl (by decide) (by decide) ?_
  refine x_astore hY dLAW_law_15 (by decide) rfl ?_
  refine x_iconst hY dLAW_law_16 (v := 1) rfl ?_
  refine x_newa hY (kd := 3) (N := 1) 73 dLAW_law_17 (by decide) ac_long rfl (by decide) rfl rfl (by decide) (by decide) ?_
  refine x_astore hY dLAW_law_19 (by decide) rfl ?_
  exact kk
set_option maxRecDepth 100000 in
theorem lw_world {p : Program} {s : State} {m : MethodId} {meth : Method} {c : Code} {b L : Nat} {xs : Nat → Int32} (C0 : lw_At p s m meth c b L xs) : ∃ (D : va_G) (ca : Nat → ClassId) (t : Nat), va_K D vwCl (ztys ca) s ∧ zEn s s.heap (fun q => s.heap.size ≤ q) t := by
  obtain ⟨hx, hb, hr, hml, hown, hts, hX, hbl, hlk, hgv⟩ := C0
  have hz : ∀ w ∈ zwd, w.before #[Value.ref b] s = true := fun w hw => hts w (zwd_in w hw)
  obtain ⟨c0, i0, k0⟩ := u_known hz zin_PC (hz _ yi_PC)
  obtain ⟨c1, i1, k1⟩ := u_known hz zin_GR (hz _ yi_GR)
  obtain ⟨c2, i2, k2⟩ := u_known hz zin_KN (hz _ yi_KN)
  obtain ⟨c3, i3, k3⟩ := u_known hz zin_NE (hz _ yi_NE)
  obtain ⟨c4, i4, k4⟩ := u_known hz zin_NF (hz _ yi_NF)
  obtain ⟨c5, i5, k5⟩ := u_known hz zin_PA (hz _ yi_PA)
  obtain ⟨c6, i6, k6⟩ := u_known hz zin_RE (hz _ yi_RE)
  obtain ⟨c7, i7, k7⟩ := u_known hz zin_SE (hz _ yi_SE)
  obtain ⟨c8, i8, k8⟩ := u_known hz zin_ST (hz _ yi_ST)
  obtain ⟨c9, i9, k9⟩ := u_known hz zin_MO (hz _ yi_MO)
  obtain ⟨a0, q0, p0, f0, g0, h0⟩ := Cond.arrayClass_spec (hz _ ac_int)
  obtain ⟨a1, q1, p1, f1, g1, h1⟩ := Cond.arrayClass_spec (hz _ ac_char)
  obtain ⟨a2, q2, p2, f2, g2, h2⟩ := Cond.arrayClass_spec (hz _ ac_boolean)
  obtain ⟨a3, q3, p3, f3, g3, h3⟩ := Cond.arrayClass_spec (hz _ ac_long)
  have hAn : ∀ a : Nat, a < s.heap.size → ¬ (s.heap.size ≤ a) := fun a h => Nat.not_le.mpr h
  have hs := flat_of_before _ hgv
  obtain ⟨t, ht, hT⟩ := va_Tof (tm := .static "PathChecker" "GUESSES_WITH" "[I") (ty := .int) (N := 5) (f := zgw) (A := fun q => s.heap.size ≤ q) (by decide) (hs _ (by decide +kernel)) (va_eqt (hs (Cond.eq (.length (.static "PathChecker" "GUESSES_WITH" "[I")) (.int 5)) (by decide +kernel))) (fun j hj => by
    rcases (show j = 0 ∨ j = 1 ∨ j = 2 ∨ j = 3 ∨ j = 4 by omega) with rfl | rfl | rfl | rfl | rfl
    · exact va_eqt (hs (Cond.eq (.elem (.static "PathChecker" "GUESSES_WITH" "[I") (.int 0)) (.int (-1431655766))) (by decide +kernel))
    · exact va_eqt (hs (Cond.eq (.elem (.static "PathChecker" "GUESSES_WITH" "[I") (.int 1)) (.int (-858993460))) (by decide +kernel))
    · exact va_eqt (hs (Cond.eq (.elem (.static "PathChecker" "GUESSES_WITH" "[I") (.int 2)) (.int (-252645136))) (by decide +kernel))
    · exact va_eqt (hs (Cond.eq (.elem (.static "PathChecker" "GUESSES_WITH" "[I") (.int 3)) (.int (-16711936))) (by decide +kernel))
    · exact va_eqt (hs (Cond.eq (.elem (.static "PathChecker" "GUESSES_WITH" "[I") (.int 4)) (.int (-65536))) (by decide +kernel))) hAn
  refine ⟨((fun c => match c with | 0 => c0 | 1 => c1 | 2 => c2 | 3 => c3 | 4 => c4 | 5 => c5 | 6 => c6 | 7 => c7 | 8 => c8 | _ => c9), (fun c => match c with | 0 => i0 | 1 => i1 | 2 => i2 | 3 => i3 | 4 => i4 | 5 => i5 | 6 => i6 | 7 => i7 | 8 => i8 | _ => i9)), (fun k => match k with | 0 => a0 | 1 => a1 | 2 => a2 | _ => a3), t, ⟨fun c q hq => ?_, fun k q hq => ?_⟩, fun w hw => va_Nw.of (zNst_on w hw) (hts w (zNst_in w hw)), va_Zof (hts (.laysStatic "PathChecker" "GUESSES_WITH" "[I") (List.mem_of_getElem? (i := 676) (by decide +kernel))) (hz _ (qw_of 59 (by decide +kernel) (by decide +kernel))) ht hAn, hT, va_Zqof (hts (.laysStatic "java/lang/Throwable" "UNASSIGNED_STACK" "[Ljava/lang/StackTraceElement;") (List.mem_of_getElem? (i := 523) (by decide +kernel))) (hz _ (qw_of 70 (by decide +kernel) (by decide +kernel))) (hs _ (by decide +kernel)) hAn, va_Zqof (hts (.laysStatic "java/lang/Throwable" "SUPPRESSED_SENTINEL" "Ljava/util/List;") (List.mem_of_getElem? (i := 525) (by decide +kernel))) (hz _ (qw_of 70 (by decide +kernel) (by decide +kernel))) (hs _ (by decide +kernel)) hAn, fun q hq => ?_, zLs.of (hts (.laysStatic "java/lang/Throwable" "UNASSIGNED_STACK" "[Ljava/lang/StackTraceElement;") (List.mem_of_getElem? (i := 523) (by decide +kernel))) hAn, zLs.of (hts (.laysStatic "java/lang/Throwable" "SUPPRESSED_SENTINEL" "Ljava/util/List;") (List.mem_of_getElem? (i := 525) (by decide +kernel))) hAn⟩
  · have hc : c < 10 := (List.getElem?_eq_some_iff.mp hq).1
    rcases (show c = 0 ∨ c = 1 ∨ c = 2 ∨ c = 3 ∨ c = 4 ∨ c = 5 ∨ c = 6 ∨ c = 7 ∨ c = 8 ∨ c = 9 by omega) with rfl | rfl | rfl | rfl | rfl | rfl | rfl | rfl | rfl | rfl
    · cases hq; exact k0
    · cases hq; exact k1
    · cases hq; exact k2
    · cases hq; exact k3
    · cases hq; exact k4
    · cases hq; exact k5
    · cases hq; exact k6
    · cases hq; exact k7
    · cases hq; exact k8
    · cases hq; exact k9
  · have hc : k < 4 := (List.getElem?_eq_some_iff.mp hq).1
    rcases (show k = 0 ∨ k = 1 ∨ k = 2 ∨ k = 3 by omega) with rfl | rfl | rfl | rfl
    · cases hq; exact ⟨fun n z => ⟨fun k h => (by cases h), q0, g0, p0, h0⟩, f0⟩
    · cases hq; exact ⟨fun n z => ⟨fun k h => (by cases h), q1, g1, p1, h1⟩, f1⟩
    · cases hq; exact ⟨fun n z => ⟨fun k h => (by cases h), q2, g2, p2, h2⟩, f2⟩
    · cases hq; exact ⟨fun n z => ⟨fun k h => (by cases h), q3, g3, p3, h3⟩, f3⟩
  · simp only [zNc, List.mem_cons, List.not_mem_nil, or_false] at hq
    rcases hq with rfl | rfl | rfl | rfl
    · exact va_Nc.of (hs (Cond.not (.castable (zxc 1) (zxc 0))) (by decide +kernel))
    · exact va_Nc.of (hs (Cond.not (.castable (zxc 3) (zxc 2))) (by decide +kernel))
    · exact va_Nc.of (hs (Cond.not (.castable (zxc 1) (zxc 2))) (by decide +kernel))
    · exact va_Nc.of (hs (Cond.not (.castable (zxc 1) (zxc 3))) (by decide +kernel))
def lwSn (Z : Nat → Nat → List (Option Value) → List Value → zS → Prop) (L : Nat) : Prop := ∀ {k pc n : Nat} {lv : List (Option Value)} {st : List Value} {σ : zS}, decode code pc = .ok (.arraylength, 1) → pc + 1 = n → Z k n lv (.int (nI L) :: st) σ → Z k pc lv (.ref 998 :: st) σ
set_option maxRecDepth 100000 in
theorem lw_loop {Z : Nat → Nat → List (Option Value) → List Value → zS → Prop} (hR : zR "PathCheckerLaw" code 7 2048 84000 601024 [] (some .boolean) (fun r _ => r = some (.int 1)) (fun _ _ => False) Z) {L : Nat} {xs : Nat → Int32} (hL : L ≤ 2048) (hsl : lwSl Z L xs) (hslen : lwSn Z L) (Inv : Nat → zS → Prop) (hA : ∀ c, 4 * c + 3 < L → lwAll (Inv c) (Inv (c + 1))) :
    ∀ (m c k : Nat) (σ : zS) (l5 l6 : Option Value), L < 4 * c + 4 * m + 4 → 4 * c ≤ L + 3 → k + m + 2 ≤ 601024 → Inv c σ → Z k 23 (lwL (4 * c) l5 l6) [] σ := by
  intro m
  induction m with
  | zero =>
    intro c k σ l5 l6 h1 h2 h3 hI
    have hq29 : nI L - 4 < nI (4 * c) := by
      have e1 : (nI L - nI 4).toInt = (L : Int) - 4 := pk_sub_toInt (by omega) (by omega)
      rw [Int32.lt_iff_toInt_lt, nI_toInt (by omega)]
      show (nI L - nI 4).toInt < _
      rw [e1]
      omega
    refine z_iload hR dLAW_law_23 (n := 25) rfl rfl ?_
    refine z_aload_n hR dLAW_law_25 (n := 26) rfl rfl ?_
    refine hslen dLAW_law_26 (n := 27) rfl ?_
    refine z_iconst hR dLAW_law_27 (v := 4) (n := 28) rfl rfl ?_
    refine z_isub hR dLAW_law_28 (n := 29) rfl ?_
    refine z_icmp_gt hR dLAW_law_29 (t := 797) (n := 32) rfl rfl (fun _ => ?_) (fun h29 => absurd hq29 h29)
    refine z_iconst hR dLAW_law_797 (v := 1) (n := 798) rfl rfl ?_
    refine z_zret hR dLAW_law_798 rfl rfl (by omega) ?_
    rfl
  | succ m ih =>
    intro c k σ l5 l6 h1 h2 h3 hI
    refine z_iload hR dLAW_law_23 (n := 25) rfl rfl ?_
    refine z_aload_n hR dLAW_law_25 (n := 26) rfl rfl ?_
    refine hslen dLAW_law_26 (n := 27) rfl ?_
    refine z_iconst hR dLAW_law_27 (v := 4) (n := 28) rfl rfl ?_
    refine z_isub hR dLAW_law_28 (n := 29) rfl ?_
    refine z_icmp_gt hR dLAW_law_29 (t := 797) (n := 32) rfl rfl (fun h29 => ?_) (fun h29 => ?_)
    · refine z_iconst hR dLAW_law_797 (v := 1) (n := 798) rfl rfl ?_
      refine z_zret hR dLAW_law_798 rfl rfl (by omega) ?_
      rfl
    · have hlt : 4 * c + 3 < L := by
        have e1 : (nI L - nI 4).toInt = (L : Int) - 4 := pk_sub_toInt (by omega) (by omega)
        have h4 : ¬ (nI L - nI 4).toInt < (nI (4 * c)).toInt := fun q => h29 (Int32.lt_iff_toInt_lt.mpr q)
        rw [e1, nI_toInt (by omega)] at h4
        omega
      refine z_aload_n hR dLAW_law_32 (n := 33) rfl rfl ?_
      refine z_iload hR dLAW_law_33 (n := 35) rfl rfl ?_
      refine hsl (4 * c) dLAW_law_35 (n := 36) rfl rfl (by omega) ?_
      refine z_bipush hR dLAW_law_36 (v := 15) (n := 38) rfl rfl ?_
      refine z_iand hR dLAW_law_38 (n := 39) rfl ?_
      refine lw_case hR hsl hlt (by omega) hI (hA c hlt) (fun k2 σ2 m5 m6 hk2 hI2 => ?_)
      refine z_iinc hR dLAW_law_791 (q32 := 4) (n := 794) rfl rfl (by decide) rfl rfl ?_
      refine z_goto hR dLAW_law_794 (t := 23) rfl ?_
      have h : Z k2 23 [some (.ref 998), some (.ref 0), some (.ref 45), some (.ref 73), some (.int (nI (4 * (c + 1)))), m5, m6] [] σ2 := ih (c + 1) k2 σ2 m5 m6 (by omega) (by omega) (by omega) hI2
      rw [show nI (4 * (c + 1)) = nI (4 * c) + 4 from (nI_add (4 * c) 4).symm] at h
      exact h
set_option maxRecDepth 100000 in
theorem lw_run {L : Nat} {xs : Nat → Int32} (hL : L ≤ 2048) (Inv : Nat → zS → Prop) (h0 : Inv 0 zs0) (hA : ∀ c, 4 * c + 3 < L → lwAll (Inv c) (Inv (c + 1))) {Z : Nat → Nat → List (Option Value) → List Value → zS → Prop} (hR : zR "PathCheckerLaw" code 7 2048 84000 601024 [] (some .boolean) (fun r _ => r = some (.int 1)) (fun _ _ => False) Z) (hsl : lwSl Z L xs) (hslen : lwSn Z L) : Z 3000 20 [some (.ref 998), some (.ref 0), some (.ref 45), some (.ref 73), none, none, none] [] zs0 := by
  refine z_iconst hR dLAW_law_20 (v := 0) (n := 21) rfl rfl ?_
  refine z_istore hR dLAW_law_21 (n := 23) rfl (by decide) rfl ?_
  exact lw_loop hR hL hsl hslen Inv hA 600 0 3000 zs0 none none (by omega) (by omega) (by omega) h0
set_option maxRecDepth 100000 in
set_option maxHeartbeats 1000000 in
theorem zw_perm {D : va_G} {ad : Nat → Nat} {ca : Nat → ClassId} {H : Heap} {A : Nat → Prop} (hP : va_P D vwCl (yws ad ca zAllW) H) (hD : va_D A (yws ad ca zAllW)) : va_P D vwCl (zws ad ca zs0) H ∧ va_D A (zws ad ca zs0) :=
  ⟨hP.sub (ws' := zws ad ca zs0) [0, 1, 2, 3, 4, 5, 6, 7, 8, 10, 9, 11, 44, 41, 43, 42, 12, 39, 40, 13, 31, 32, 33, 34, 35, 36, 37, 38, 14, 26, 27, 28, 29, 30, 15, 16, 17, 18, 19, 20, 21, 22, 23, 24, 25, 45, 46, 47, 48, 49, 50, 51, 52, 53, 54, 55, 56, 57, 58, 59, 60, 61, 62, 63, 64, 65, 66, 67, 68, 69, 70, 71, 72, 73] rfl, hD.sub (ws' := zws ad ca zs0) [0, 1, 2, 3, 4, 5, 6, 7, 8, 10, 9, 11, 44, 41, 43, 42, 12, 39, 40, 13, 31, 32, 33, 34, 35, 36, 37, 38, 14, 26, 27, 28, 29, 30, 15, 16, 17, 18, 19, 20, 21, 22, 23, 24, 25, 45, 46, 47, 48, 49, 50, 51, 52, 53, 54, 55, 56, 57, 58, 59, 60, 61, 62, 63, 64, 65, 66, 67, 68, 69, 70, 71, 72, 73] (by decide) rfl⟩
theorem whole_start_of (Inv : Nat → zS → Prop) (h0 : Inv 0 zs0) {p : Program} {e : Env} {s : State} {m : MethodId} {below : List Frame} {meth : Method} {c : Code} (l : Launch) (htr : l.stackTraces = false) {b L : Nat} {xs : Nat → Int32} (hL : L ≤ 2048) (hA : ∀ c, 4 * c + 3 < L → lwAll (Inv c) (Inv (c + 1))) (hex : c.exceptionTable.toList = []) (C0 : lw_At p s m meth c b L xs) : W p l e room_1 s m #[Value.ref b] below meth c s.heap [] 0 0 (lw_Z below #[Value.ref b] s) (entryFrame m ([Value.ref b] : List Value).toArray 7) := by
  obtain ⟨D, ca, t, hK, hE⟩ := lw_world C0
  obtain ⟨hx, hb, hr, hml, hown, hts, hX, hbl, hlk, hgv⟩ := C0
  have hz : ∀ w ∈ zwd, w.before #[Value.ref b] s = true := fun w hw => hts w (zwd_in w hw)
  have hl := lv_entry [Value.ref b] (n := 7) (Nat.le_of_ble_eq_true rfl)
  rw [lg_entry_eq]
  have key := lw_make (Y := _) ⟨p, l, e, room_1, s, m, #[Value.ref b], below, meth, c, D, ca, (fun a => if a = 998 then b else t), (fun q => s.heap.size ≤ q), lw_Z below #[Value.ref b] s, hx, hb, hml, hown, hz, fun w hw => va_Nw.of (zNst_on w hw) (hts w (zNst_in w hw)), hK, fun _ h => h, Nat.le_refl _, Nat.le_refl _, ⟨Nat.le_refl _, Nat.le_refl _⟩, rfl⟩ ?_
  · exact key (fun a => if a = 998 then b else t) (fun _ _ => rfl) _ s.heap [] ⟨hl.1, hl.2.1, fun q hq => hl.2.2 q hq⟩ (fun k q hq => (by cases hq)) ⟨fun i j p q hp => (by cases hp), fun k q hq => (by cases hq)⟩ va_S.rf
  · intro ad had ls H locs hl hP hD hS
    obtain ⟨hP2, hD2⟩ := zw_perm hP hD
    have e998 : ad 998 = b := had 998 (by decide)
    have e999 : ad 999 = t := had 999 (by decide)
    refine W.widen (k := 3000) (n := 6 * 3000) (by decide) (by decide) ?_
    refine W_mono (Q := zQ below D ad ca (fun q => s.heap.size ≤ q) s (fun r _ => r = some (.int 1)) (fun _ _ => False) 601024) (fun t ht => ?_) ?_
    · obtain ⟨o, r1, r2, ⟨-, r3⟩, L2, ⟨r4, r5⟩, r6⟩ := ht
      rcases r3 with ⟨r, σ2, rfl, -, hpo, -⟩ | ⟨_, _, _, _, _, hf, _⟩
      · subst hpo
        exact ⟨_, r1, r2, rfl, ⟨_, rfl⟩, r4, r5.weaken (fun y hy hlt => absurd (r6 y hy) (Nat.not_le.mpr hlt)) (by decide) (by decide)⟩
      · exact hf.elim
    · have hR : zR "PathCheckerLaw" code 7 2048 84000 601024 [] (some .boolean) (fun r _ => r = some (.int 1)) (fun _ _ => False) _ := ⟨p, l, e, room_1, s, m, #[Value.ref b], below, meth, c, D, ad, ca, (fun q => s.heap.size ≤ q), hx, hb, hml, hown, hz, by rw [e999]; exact hE, hK, fun σ => zD_eq hD2 σ, fun _ h => h, hr, hlk, Nat.le_refl _, Nat.le_refl _, ⟨Nat.le_refl _, by decide⟩, htr, hex, fun q cell h1 h2 => absurd (Array.getElem?_eq_some_iff.mp h2).1 (Nat.not_lt.mpr h1), rfl⟩
      refine lw_run (xs := xs) (by omega) Inv h0 hA hR ?_ ?_ ls H locs hl hP2 hS
      · intro k pc n lv st σ x j d hn hx0 hj kk ls H locs hl hP hS
        subst hn
        subst hx0
        have kk2 := kk ls H locs hl hP hS
        have e2 : ((Value.int (nI j) :: .ref 998 :: st)).map (zv ad) = .int (nI j) :: .ref b :: st.map (zv ad) := by
          show Value.int (nI j) :: .ref (ad 998) :: st.map (zv ad) = _
          rw [e998]
        rw [e2]
        refine va_sld hx hb hX hbl (Nat.not_le.mpr hbl) hS (vp_in_nI hj (by omega)) d ?_
        rw [nI_clamp (by omega)]
        exact kk2
      · intro k pc n lv st σ d hn kk ls H locs hl hP hS
        subst hn
        have kk2 := kk ls H locs hl hP hS
        have e2 : ((Value.ref 998 :: st)).map (zv ad) = .ref b :: st.map (zv ad) := by
          show Value.ref (ad 998) :: st.map (zv ad) = _
          rw [e998]
        rw [e2]
        exact va_slen hx hb hX hbl (Nat.not_le.mpr hbl) hS d kk2
