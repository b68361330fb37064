/-! THE LAW: its sixteen cases over any contracts of class and reference under which the answers agree; its loop -/
/-- the method answers, and behind it K holds -/
def lwA (y : MethodName) (cc : ByteArray) (nL : Nat) (ret : Option FieldType) (av : List Value) (σ : zS) (K : Option Value → zS → Prop) : Prop := ∃ (fr lo : Nat) (po : Option Value → zS → Prop), zM y cc nL ret fr lo 0 av σ po (fun _ _ => False) ∧ fr ≤ 60 ∧ lo ≤ 2000 ∧ ∀ r σ2, po r σ2 → K r σ2
/-- the method answers a number, or throws -/
def lwT (y : MethodName) (cc : ByteArray) (nL : Nat) (ret : Option FieldType) (av : List Value) (σ : zS) (K : Int32 → zS → Prop) (KT : Nat → zS → Prop) : Prop := ∃ (fr lo : Nat) (po : Option Value → zS → Prop) (pt : Nat → zS → Prop), zM y cc nL ret fr lo 1 av σ po pt ∧ fr ≤ 60 ∧ lo ≤ 2000 ∧ (∀ r σ2, po r σ2 → ∃ v : Int32, r = some (.int v) ∧ K v σ2) ∧ ∀ x σ2, pt x σ2 → KT x σ2
theorem m_MO_thrown (σ : zS) : zM yMO_thrown cMO_thrown 1 (some .int) 0 0 0 [.ref 45] σ (fun r σ2 => r = some (.int (σ.1 45 0)) ∧ σ2 = σ) (fun _ _ => False) := by
  refine zM.of [some (.ref 45)] (by decide) 0 rfl (fun _ => Nat.le_of_ble_eq_true rfl) (fun Z hR => ?_)
  refine z_aload_n hR dMO_thrown_0 (n := 1) rfl rfl ?_
  refine z_getI hR dMO_thrown_1 (n := 4) rfl zgMO_93 (by decide) rfl rfl ?_
  refine z_zret hR dMO_thrown_4 rfl rfl (Nat.zero_le _) ?_
  exact ⟨rfl, rfl⟩
theorem lg_same (x : Int64) : lg_cmp x x = 0 := by
  simp [lg_cmp]
section LW
variable {own : String} {cc : ByteArray} {nL fr lo mc : Nat} {ex : List ExceptionTableEntry} {ret : Option FieldType} {po : Option Value → zS → Prop} {pt : Nat → zS → Prop} {Z : Nat → Nat → List (Option Value) → List Value → zS → Prop}
theorem z_callSW2 (hR : zR own cc nL fr lo mc ex ret po pt Z) {k pc n i nLY frY loY mcY : Nat} {lv : List (Option Value)} {st : List Value} {σ : zS} {y : MethodName} {ccY : ByteArray} {retY : Option FieldType} {hh : List (Nat × Nat × Nat × Nat)} {a1 a2 : Value} {po2 : Option Value → zS → Prop} (d : decode cc pc = .ok (.invokestatic i, 3)) (hn : pc + 3 = n) (hC : zCS own i y 2) (hcd : Cond.codeWith y ccY nLY retY hh ∈ zwd) (hf : frY + 1 ≤ fr ∧ 8 + (nLY + 11) + loY ≤ lo) (hw : (st.map fun v => v.category).sum ≤ 8) (hk : k + mcY ≤ mc)
    (hM : zMW y ccY nLY retY hh frY loY mcY [a1, a2] σ po2) (kk : ∀ r σ2, po2 r σ2 → Z (k + mcY) n lv (r.toList ++ st) σ2) : Z k pc lv (a2 :: a1 :: st) σ := z_callSW (av := [a1, a2]) hR d hn hC hcd hf hw hk hM kk
theorem z_callSW3 (hR : zR own cc nL fr lo mc ex ret po pt Z) {k pc n i nLY frY loY mcY : Nat} {lv : List (Option Value)} {st : List Value} {σ : zS} {y : MethodName} {ccY : ByteArray} {retY : Option FieldType} {hh : List (Nat × Nat × Nat × Nat)} {a1 a2 a3 : Value} {po2 : Option Value → zS → Prop} (d : decode cc pc = .ok (.invokestatic i, 3)) (hn : pc + 3 = n) (hC : zCS own i y 3) (hcd : Cond.codeWith y ccY nLY retY hh ∈ zwd) (hf : frY + 1 ≤ fr ∧ 8 + (nLY + 11) + loY ≤ lo) (hw : (st.map fun v => v.category).sum ≤ 8) (hk : k + mcY ≤ mc)
    (hM : zMW y ccY nLY retY hh frY loY mcY [a1, a2, a3] σ po2) (kk : ∀ r σ2, po2 r σ2 → Z (k + mcY) n lv (r.toList ++ st) σ2) : Z k pc lv (a3 :: a2 :: a1 :: st) σ := z_callSW (av := [a1, a2, a3]) hR d hn hC hcd hf hw hk hM kk
theorem z_callSW4 (hR : zR own cc nL fr lo mc ex ret po pt Z) {k pc n i nLY frY loY mcY : Nat} {lv : List (Option Value)} {st : List Value} {σ : zS} {y : MethodName} {ccY : ByteArray} {retY : Option FieldType} {hh : List (Nat × Nat × Nat × Nat)} {a1 a2 a3 a4 : Value} {po2 : Option Value → zS → Prop} (d : decode cc pc = .ok (.invokestatic i, 3)) (hn : pc + 3 = n) (hC : zCS own i y 4) (hcd : Cond.codeWith y ccY nLY retY hh ∈ zwd) (hf : frY + 1 ≤ fr ∧ 8 + (nLY + 11) + loY ≤ lo) (hw : (st.map fun v => v.category).sum ≤ 8) (hk : k + mcY ≤ mc)
    (hM : zMW y ccY nLY retY hh frY loY mcY [a1, a2, a3, a4] σ po2) (kk : ∀ r σ2, po2 r σ2 → Z (k + mcY) n lv (r.toList ++ st) σ2) : Z k pc lv (a4 :: a3 :: a2 :: a1 :: st) σ := z_callSW (av := [a1, a2, a3, a4]) hR d hn hC hcd hf hw hk hM kk
end LW
def sp_type (I : zS → Prop) (σ : zS) (x : Int64) : Prop := lwA yPC_type cPC_type 6 (some .boolean) [.ref 0, .long x] σ (fun r1 σ1 => ∃ v : Int32, r1 = some (.int v) ∧ lwA yMO_type cMO_type 6 (some .boolean) [.ref 45, .long x] σ1 (fun r2 σ2 => r2 = some (.int v) ∧ I σ2))
def sp_length (I : zS → Prop) (σ : zS)  : Prop := lwA yPC_length cPC_length 1 (some .int) [.ref 0] σ (fun r1 σ1 => ∃ v : Int32, r1 = some (.int v) ∧ lwA yMO_length cMO_length 1 (some .int) [.ref 45] σ1 (fun r2 σ2 => r2 = some (.int v) ∧ I σ2))
def sp_mark (I : zS → Prop) (σ : zS) (a b : Int32) : Prop := lwA yPC_mark cPC_mark 3 (some .boolean) [.ref 0, .int a, .int b] σ (fun r1 σ1 => ∃ v : Int32, r1 = some (.int v) ∧ lwA yMO_mark cMO_mark 3 (some .boolean) [.ref 45, .int a, .int b] σ1 (fun r2 σ2 => r2 = some (.int v) ∧ I σ2))
def sp_link (I : zS → Prop) (σ : zS) (a b e : Int32) : Prop := lwA yPC_link cPC_link 4 (some .boolean) [.ref 0, .int a, .int b, .int e] σ (fun r1 σ1 => ∃ v : Int32, r1 = some (.int v) ∧ lwA yMO_link cMO_link 4 (some .boolean) [.ref 45, .int a, .int b, .int e] σ1 (fun r2 σ2 => r2 = some (.int v) ∧ I σ2))
def sp_state (I : zS → Prop) (σ : zS) (a b : Int32) : Prop := lwA yPC_state cPC_state 3 (some .int) [.ref 0, .int a, .int b] σ (fun r1 σ1 => ∃ v : Int32, r1 = some (.int v) ∧ lwA yMO_state cMO_state 3 (some .int) [.ref 45, .int a, .int b] σ1 (fun r2 σ2 => r2 = some (.int v) ∧ I σ2))
def sp_endless (I : zS → Prop) (σ : zS) (a : Int32) : Prop := lwA yPC_endless cPC_endless 2 (some .boolean) [.ref 0, .int a] σ (fun r1 σ1 => ∃ v : Int32, r1 = some (.int v) ∧ lwA yMO_endless cMO_endless 7 (some .boolean) [.ref 45, .int a] σ1 (fun r2 σ2 => r2 = some (.int v) ∧ I σ2))
def sp_go (I : zS → Prop) (σ : zS) (a : Int32) : Prop := lwA yPC_go cPC_go 2 (some .int) [.ref 0, .int a] σ (fun r1 σ1 => ∃ v : Int32, r1 = some (.int v) ∧ lwA yMO_go cMO_go 2 (some .int) [.ref 45, .int a] σ1 (fun r2 σ2 => r2 = some (.int v) ∧ I σ2))
def sp_wipe (I : zS → Prop) (σ : zS) : Prop := lwA yPC_wipe cPC_wipe 1 none [.ref 0] σ (fun r1 σ1 => r1 = none ∧ lwA yMO_wipe cMO_wipe 1 none [.ref 45] σ1 (fun r2 σ2 => r2 = none ∧ I σ2))
def sp_clear (I : zS → Prop) (σ : zS) : Prop := lwA yPC_clear cPC_clear 1 none [.ref 0] σ (fun r1 σ1 => r1 = none ∧ lwA yMO_clear cMO_clear 1 none [.ref 45] σ1 (fun r2 σ2 => r2 = none ∧ I σ2))
def sp_formula (I : zS → Prop) (σ : zS)  : Prop := lwT yPC_formula cPC_formula 1 (some .int) [.ref 0] σ (fun v σ1 => lwA yMO_formula cMO_formula 2 (some .int) [.ref 45] (zwL σ1 73 0 v.toInt64) (fun r2 σ2 => ∃ b : Int32, r2 = some (.int b) ∧ σ2.1 45 0 = 0 ∧ σ2.2 73 0 = b.toInt64 ∧ I σ2)) (fun x σ1 => (x = 0 ∨ x = 1) ∧ lwA yMO_formula cMO_formula 2 (some .int) [.ref 45] σ1 (fun r2 σ2 => (∃ b : Int32, r2 = some (.int b)) ∧ σ2.1 45 0 = hcode_formula x ∧ ¬ hcode_formula x = 0 ∧ I σ2))
def sp_normal (I : zS → Prop) (σ : zS) (a : Int32) : Prop := lwT yPC_normal cPC_normal 2 (some .int) [.ref 0, .int a] σ (fun v σ1 => lwA yMO_normal cMO_normal 2 (some .int) [.ref 45, .int a] (zwL σ1 73 0 v.toInt64) (fun r2 σ2 => ∃ b : Int32, r2 = some (.int b) ∧ σ2.1 45 0 = 0 ∧ σ2.2 73 0 = b.toInt64 ∧ I σ2)) (fun x σ1 => (x = 2) ∧ lwA yMO_normal cMO_normal 2 (some .int) [.ref 45, .int a] σ1 (fun r2 σ2 => (∃ b : Int32, r2 = some (.int b)) ∧ σ2.1 45 0 = hcode_normal x ∧ ¬ hcode_normal x = 0 ∧ I σ2))
def sp_keeps (I : zS → Prop) (σ : zS) (a : Int32) : Prop := lwT yPC_keeps cPC_keeps 2 (some .boolean) [.ref 0, .int a] σ (fun v σ1 => lwA yMO_keeps cMO_keeps 2 (some .boolean) [.ref 45, .int a] (zwL σ1 73 0 (if v = 0 then 0 else 1)) (fun r2 σ2 => ∃ b : Int32, r2 = some (.int b) ∧ σ2.1 45 0 = 0 ∧ σ2.2 73 0 = (if b = 0 then 0 else 1) ∧ I σ2)) (fun x σ1 => (x = 2 ∨ x = 3) ∧ lwA yMO_keeps cMO_keeps 2 (some .boolean) [.ref 45, .int a] σ1 (fun r2 σ2 => (∃ b : Int32, r2 = some (.int b)) ∧ σ2.1 45 0 = hcode_keeps x ∧ ¬ hcode_keeps x = 0 ∧ I σ2))
def sp_breaking (I : zS → Prop) (σ : zS)  : Prop := lwT yPC_breaking cPC_breaking 1 (some .int) [.ref 0] σ (fun v σ1 => lwA yMO_breaking cMO_breaking 1 (some .int) [.ref 45] (zwL σ1 73 0 v.toInt64) (fun r2 σ2 => ∃ b : Int32, r2 = some (.int b) ∧ σ2.1 45 0 = 0 ∧ σ2.2 73 0 = b.toInt64 ∧ I σ2)) (fun x σ1 => (x = 2) ∧ lwA yMO_breaking cMO_breaking 1 (some .int) [.ref 45] σ1 (fun r2 σ2 => (∃ b : Int32, r2 = some (.int b)) ∧ σ2.1 45 0 = hcode_breaking x ∧ ¬ hcode_breaking x = 0 ∧ I σ2))
def sp_keeping (I : zS → Prop) (σ : zS)  : Prop := lwT yPC_keeping cPC_keeping 1 (some .int) [.ref 0] σ (fun v σ1 => lwA yMO_keeping cMO_keeping 1 (some .int) [.ref 45] (zwL σ1 73 0 v.toInt64) (fun r2 σ2 => ∃ b : Int32, r2 = some (.int b) ∧ σ2.1 45 0 = 0 ∧ σ2.2 73 0 = b.toInt64 ∧ I σ2)) (fun x σ1 => (x = 2) ∧ lwA yMO_keeping cMO_keeping 1 (some .int) [.ref 45] σ1 (fun r2 σ2 => (∃ b : Int32, r2 = some (.int b)) ∧ σ2.1 45 0 = hcode_keeping x ∧ ¬ hcode_keeping x = 0 ∧ I σ2))
def sp_witness (I : zS → Prop) (σ : zS) (a b : Int32) : Prop := lwT yPC_witness cPC_witness 3 (some .int) [.ref 0, .int a, .int b] σ (fun v σ1 => lwA yMO_witness cMO_witness 3 (some .int) [.ref 45, .int a, .int b] (zwL σ1 73 0 v.toInt64) (fun r2 σ2 => ∃ b : Int32, r2 = some (.int b) ∧ σ2.1 45 0 = 0 ∧ σ2.2 73 0 = b.toInt64 ∧ I σ2)) (fun x σ1 => (x = 2) ∧ lwA yMO_witness cMO_witness 3 (some .int) [.ref 45, .int a, .int b] σ1 (fun r2 σ2 => (∃ b : Int32, r2 = some (.int b)) ∧ σ2.1 45 0 = hcode_witness x ∧ ¬ hcode_witness x = 0 ∧ I σ2))
def sp_judge (I : zS → Prop) (σ : zS) (a b : Int32) : Prop := lwT yPC_judge cPC_judge 3 (some .boolean) [.ref 0, .int a, .int b] σ (fun v σ1 => lwA yMO_judge cMO_judge 4 (some .boolean) [.ref 45, .int a, .int b] (zwL σ1 73 0 (if v = 0 then 0 else 1)) (fun r2 σ2 => ∃ b : Int32, r2 = some (.int b) ∧ σ2.1 45 0 = 0 ∧ σ2.2 73 0 = (if b = 0 then 0 else 1) ∧ I σ2)) (fun x σ1 => (x = 2 ∨ x = 3 ∨ x = 1) ∧ lwA yMO_judge cMO_judge 4 (some .boolean) [.ref 45, .int a, .int b] σ1 (fun r2 σ2 => (∃ b : Int32, r2 = some (.int b)) ∧ σ2.1 45 0 = hcode_judge x ∧ ¬ hcode_judge x = 0 ∧ I σ2))
def lwSl (Z : Nat → Nat → List (Option Value) → List Value → zS → Prop) (L : Nat) (xs : Nat → Int32) : Prop := ∀ {k pc n : Nat} {lv : List (Option Value)} {st : List Value} {σ : zS} {x : Int32} (j : Nat), decode code pc = .ok (.iaload, 1) → pc + 1 = n → x = nI j → j < L → Z k n lv (.int (xs j) :: st) σ → Z k pc lv (.int x :: .ref 998 :: st) σ
abbrev lwL (i : Nat) (l5 l6 : Option Value) : List (Option Value) := [some (.ref 998), some (.ref 0), some (.ref 45), some (.ref 73), some (.int (nI i)), l5, l6]
theorem nI_p2 (i : Nat) : nI i + 2 = nI (i + 2) := nI_add i 2
theorem nI_p3 (i : Nat) : nI i + 3 = nI (i + 3) := nI_add i 3
set_option maxRecDepth 100000 in
set_option maxHeartbeats 200000 in
theorem lc_type {Z : Nat → Nat → List (Option Value) → List Value → zS → Prop} (hR : zR "PathCheckerLaw" code 7 2048 84000 601024 [] (some .boolean) (fun r _ => r = some (.int 1)) (fun _ _ => False) Z) {L i k : Nat} {xs : Nat → Int32} (hsl : lwSl Z L xs) (hi : i + 3 < L) (hkm : k + 2 ≤ 601024) {I : zS → Prop} {σ : zS} {l5 l6 : Option Value} (hS : sp_type I σ ((xs (i + 1)).toInt64 <<< ((32 : Int32).toInt64 &&& 63) ||| (xs (i + 2)).toInt64 &&& 4294967295)) (kk : ∀ (k2 : Nat) (σ2 : zS) (m5 m6 : Option Value), k2 ≤ k + 1 → I σ2 → Z k2 791 (lwL i m5 m6) [] σ2) : Z k 116 (lwL i l5 l6) [] σ := by
  obtain ⟨frA, loA, poA, hA, hfA, hlA, hKA⟩ := hS
  refine z_aload_n hR dLAW_law_116 (n := 117) rfl rfl ?_
  refine z_aload_n hR dLAW_law_117 (n := 118) rfl rfl ?_
  refine z_iload hR dLAW_law_118 (n := 120) rfl rfl ?_
  refine z_iconst hR dLAW_law_120 (v := 1) (n := 121) rfl rfl ?_
  refine z_iadd hR dLAW_law_121 (n := 122) rfl ?_
  refine hsl (i + 1) dLAW_law_122 (n := 123) rfl (nI_1 i) (by omega) ?_
  refine z_i2l hR dLAW_law_123 (n := 124) rfl ?_
  refine z_bipush hR dLAW_law_124 (v := 32) (n := 126) rfl rfl ?_
  refine z_lshl hR dLAW_law_126 (n := 127) rfl ?_
  refine z_aload_n hR dLAW_law_127 (n := 128) rfl rfl ?_
  refine z_iload hR dLAW_law_128 (n := 130) rfl rfl ?_
  refine z_iconst hR dLAW_law_130 (v := 2) (n := 131) rfl rfl ?_
  refine z_iadd hR dLAW_law_131 (n := 132) rfl ?_
  refine hsl (i + 2) dLAW_law_132 (n := 133) rfl (nI_p2 i) (by omega) ?_
  refine z_i2l hR dLAW_law_133 (n := 134) rfl ?_
  refine z_ldc2 hR dLAW_law_134 (n := 137) kLAW_47 rfl ?_
  refine z_land hR dLAW_law_137 (n := 138) rfl ?_
  refine z_lor hR dLAW_law_138 (n := 139) rfl ?_
  refine z_callV1 hR dLAW_law_139 (n := 142) rfl zcLAW_49 zkPC_type ⟨by omega, by omega⟩ (Nat.le_of_ble_eq_true rfl) (by decide) rfl rfl (by omega) hA (fun r139 s139 h139 => ?_)
  obtain ⟨v, rfl, frB, loB, poB, hB, hfB, hlB, hKB⟩ := hKA r139 s139 h139
  refine z_aload_n hR dLAW_law_142 (n := 143) rfl rfl ?_
  refine z_aload_n hR dLAW_law_143 (n := 144) rfl rfl ?_
  refine z_iload hR dLAW_law_144 (n := 146) rfl rfl ?_
  refine z_iconst hR dLAW_law_146 (v := 1) (n := 147) rfl rfl ?_
  refine z_iadd hR dLAW_law_147 (n := 148) rfl ?_
  refine hsl (i + 1) dLAW_law_148 (n := 149) rfl (nI_1 i) (by omega) ?_
  refine z_i2l hR dLAW_law_149 (n := 150) rfl ?_
  refine z_bipush hR dLAW_law_150 (v := 32) (n := 152) rfl rfl ?_
  refine z_lshl hR dLAW_law_152 (n := 153) rfl ?_
  refine z_aload_n hR dLAW_law_153 (n := 154) rfl rfl ?_
  refine z_iload hR dLAW_law_154 (n := 156) rfl rfl ?_
  refine z_iconst hR dLAW_law_156 (v := 2) (n := 157) rfl rfl ?_
  refine z_iadd hR dLAW_law_157 (n := 158) rfl ?_
  refine hsl (i + 2) dLAW_law_158 (n := 159) rfl (nI_p2 i) (by omega) ?_
  refine z_i2l hR dLAW_law_159 (n := 160) rfl ?_
  refine z_ldc2 hR dLAW_law_160 (n := 163) kLAW_47 rfl ?_
  refine z_land hR dLAW_law_163 (n := 164) rfl ?_
  refine z_lor hR dLAW_law_164 (n := 165) rfl ?_
  refine z_callV1 hR dLAW_law_165 (n := 168) rfl zcLAW_53 zkMO_type ⟨by omega, by omega⟩ (Nat.le_of_ble_eq_true rfl) (by decide) rfl rfl (by omega) hB (fun r165 s165 h165 => ?_)
  obtain ⟨rfl, hI2⟩ := hKB r165 s165 h165
  refine z_icmp_eq hR dLAW_law_168 (t := 791) (n := 171) rfl rfl (fun _ => ?_) (fun h168 => absurd rfl h168)
  exact kk k _ _ _ (by omega) hI2
set_option maxRecDepth 100000 in
set_option maxHeartbeats 200000 in
theorem lc_length {Z : Nat → Nat → List (Option Value) → List Value → zS → Prop} (hR : zR "PathCheckerLaw" code 7 2048 84000 601024 [] (some .boolean) (fun r _ => r = some (.int 1)) (fun _ _ => False) Z) {L i k : Nat} {xs : Nat → Int32} (hsl : lwSl Z L xs) (hi : i + 3 < L) (hkm : k + 2 ≤ 601024) {I : zS → Prop} {σ : zS} {l5 l6 : Option Value} (hS : sp_length I σ) (kk : ∀ (k2 : Nat) (σ2 : zS) (m5 m6 : Option Value), k2 ≤ k + 1 → I σ2 → Z k2 791 (lwL i m5 m6) [] σ2) : Z k 184 (lwL i l5 l6) [] σ := by
  obtain ⟨frA, loA, poA, hA, hfA, hlA, hKA⟩ := hS
  refine z_aload_n hR dLAW_law_184 (n := 185) rfl rfl ?_
  refine z_callV0 hR dLAW_law_185 (n := 188) rfl zcLAW_58 zkPC_length ⟨by omega, by omega⟩ (Nat.le_of_ble_eq_true rfl) (by decide) rfl rfl (by omega) hA (fun r185 s185 h185 => ?_)
  obtain ⟨v, rfl, frB, loB, poB, hB, hfB, hlB, hKB⟩ := hKA r185 s185 h185
  refine z_aload_n hR dLAW_law_188 (n := 189) rfl rfl ?_
  refine z_callV0 hR dLAW_law_189 (n := 192) rfl zcLAW_61 zkMO_length ⟨by omega, by omega⟩ (Nat.le_of_ble_eq_true rfl) (by decide) rfl rfl (by omega) hB (fun r189 s189 h189 => ?_)
  obtain ⟨rfl, hI2⟩ := hKB r189 s189 h189
  refine z_icmp_eq hR dLAW_law_192 (t := 791) (n := 195) rfl rfl (fun _ => ?_) (fun h192 => absurd rfl h192)
  exact kk k _ _ _ (by omega) hI2
set_option maxRecDepth 100000 in
set_option maxHeartbeats 200000 in
theorem lc_mark {Z : Nat → Nat → List (Option Value) → List Value → zS → Prop} (hR : zR "PathCheckerLaw" code 7 2048 84000 601024 [] (some .boolean) (fun r _ => r = some (.int 1)) (fun _ _ => False) Z) {L i k : Nat} {xs : Nat → Int32} (hsl : lwSl Z L xs) (hi : i + 3 < L) (hkm : k + 2 ≤ 601024) {I : zS → Prop} {σ : zS} {l5 l6 : Option Value} (hS : sp_mark I σ (xs (i + 1)) (xs (i + 2))) (kk : ∀ (k2 : Nat) (σ2 : zS) (m5 m6 : Option Value), k2 ≤ k + 1 → I σ2 → Z k2 791 (lwL i m5 m6) [] σ2) : Z k 297 (lwL i l5 l6) [] σ := by
  obtain ⟨frA, loA, poA, hA, hfA, hlA, hKA⟩ := hS
  refine z_aload_n hR dLAW_law_297 (n := 298) rfl rfl ?_
  refine z_aload_n hR dLAW_law_298 (n := 299) rfl rfl ?_
  refine z_iload hR dLAW_law_299 (n := 301) rfl rfl ?_
  refine z_iconst hR dLAW_law_301 (v := 1) (n := 302) rfl rfl ?_
  refine z_iadd hR dLAW_law_302 (n := 303) rfl ?_
  refine hsl (i + 1) dLAW_law_303 (n := 304) rfl (nI_1 i) (by omega) ?_
  refine z_aload_n hR dLAW_law_304 (n := 305) rfl rfl ?_
  refine z_iload hR dLAW_law_305 (n := 307) rfl rfl ?_
  refine z_iconst hR dLAW_law_307 (v := 2) (n := 308) rfl rfl ?_
  refine z_iadd hR dLAW_law_308 (n := 309) rfl ?_
  refine hsl (i + 2) dLAW_law_309 (n := 310) rfl (nI_p2 i) (by omega) ?_
  refine z_callV2 hR dLAW_law_310 (n := 313) rfl zcLAW_75 zkPC_mark ⟨by omega, by omega⟩ (Nat.le_of_ble_eq_true rfl) (by decide) rfl rfl (by omega) hA (fun r310 s310 h310 => ?_)
  obtain ⟨v, rfl, frB, loB, poB, hB, hfB, hlB, hKB⟩ := hKA r310 s310 h310
  refine z_aload_n hR dLAW_law_313 (n := 314) rfl rfl ?_
  refine z_aload_n hR dLAW_law_314 (n := 315) rfl rfl ?_
  refine z_iload hR dLAW_law_315 (n := 317) rfl rfl ?_
  refine z_iconst hR dLAW_law_317 (v := 1) (n := 318) rfl rfl ?_
  refine z_iadd hR dLAW_law_318 (n := 319) rfl ?_
  refine hsl (i + 1) dLAW_law_319 (n := 320) rfl (nI_1 i) (by omega) ?_
  refine z_aload_n hR dLAW_law_320 (n := 321) rfl rfl ?_
  refine z_iload hR dLAW_law_321 (n := 323) rfl rfl ?_
  refine z_iconst hR dLAW_law_323 (v := 2) (n := 324) rfl rfl ?_
  refine z_iadd hR dLAW_law_324 (n := 325) rfl ?_
  refine hsl (i + 2) dLAW_law_325 (n := 326) rfl (nI_p2 i) (by omega) ?_
  refine z_callV2 hR dLAW_law_326 (n := 329) rfl zcLAW_78 zkMO_mark ⟨by omega, by omega⟩ (Nat.le_of_ble_eq_true rfl) (by decide) rfl rfl (by omega) hB (fun r326 s326 h326 => ?_)
  obtain ⟨rfl, hI2⟩ := hKB r326 s326 h326
  refine z_icmp_eq hR dLAW_law_329 (t := 791) (n := 332) rfl rfl (fun _ => ?_) (fun h329 => absurd rfl h329)
  exact kk k _ _ _ (by omega) hI2
set_option maxRecDepth 100000 in
set_option maxHeartbeats 200000 in
theorem lc_state {Z : Nat → Nat → List (Option Value) → List Value → zS → Prop} (hR : zR "PathCheckerLaw" code 7 2048 84000 601024 [] (some .boolean) (fun r _ => r = some (.int 1)) (fun _ _ => False) Z) {L i k : Nat} {xs : Nat → Int32} (hsl : lwSl Z L xs) (hi : i + 3 < L) (hkm : k + 2 ≤ 601024) {I : zS → Prop} {σ : zS} {l5 l6 : Option Value} (hS : sp_state I σ (xs (i + 1)) (xs (i + 2))) (kk : ∀ (k2 : Nat) (σ2 : zS) (m5 m6 : Option Value), k2 ≤ k + 1 → I σ2 → Z k2 791 (lwL i m5 m6) [] σ2) : Z k 399 (lwL i l5 l6) [] σ := by
  obtain ⟨frA, loA, poA, hA, hfA, hlA, hKA⟩ := hS
  refine z_aload_n hR dLAW_law_399 (n := 400) rfl rfl ?_
  refine z_aload_n hR dLAW_law_400 (n := 401) rfl rfl ?_
  refine z_iload hR dLAW_law_401 (n := 403) rfl rfl ?_
  refine z_iconst hR dLAW_law_403 (v := 1) (n := 404) rfl rfl ?_
  refine z_iadd hR dLAW_law_404 (n := 405) rfl ?_
  refine hsl (i + 1) dLAW_law_405 (n := 406) rfl (nI_1 i) (by omega) ?_
  refine z_aload_n hR dLAW_law_406 (n := 407) rfl rfl ?_
  refine z_iload hR dLAW_law_407 (n := 409) rfl rfl ?_
  refine z_iconst hR dLAW_law_409 (v := 2) (n := 410) rfl rfl ?_
  refine z_iadd hR dLAW_law_410 (n := 411) rfl ?_
  refine hsl (i + 2) dLAW_law_411 (n := 412) rfl (nI_p2 i) (by omega) ?_
  refine z_callV2 hR dLAW_law_412 (n := 415) rfl zcLAW_84 zkPC_state ⟨by omega, by omega⟩ (Nat.le_of_ble_eq_true rfl) (by decide) rfl rfl (by omega) hA (fun r412 s412 h412 => ?_)
  obtain ⟨v, rfl, frB, loB, poB, hB, hfB, hlB, hKB⟩ := hKA r412 s412 h412
  refine z_aload_n hR dLAW_law_415 (n := 416) rfl rfl ?_
  refine z_aload_n hR dLAW_law_416 (n := 417) rfl rfl ?_
  refine z_iload hR dLAW_law_417 (n := 419) rfl rfl ?_
  refine z_iconst hR dLAW_law_419 (v := 1) (n := 420) rfl rfl ?_
  refine z_iadd hR dLAW_law_420 (n := 421) rfl ?_
  refine hsl (i + 1) dLAW_law_421 (n := 422) rfl (nI_1 i) (by omega) ?_
  refine z_aload_n hR dLAW_law_422 (n := 423) rfl rfl ?_
  refine z_iload hR dLAW_law_423 (n := 425) rfl rfl ?_
  refine z_iconst hR dLAW_law_425 (v := 2) (n := 426) rfl rfl ?_
  refine z_iadd hR dLAW_law_426 (n := 427) rfl ?_
  refine hsl (i + 2) dLAW_law_427 (n := 428) rfl (nI_p2 i) (by omega) ?_
  refine z_callV2 hR dLAW_law_428 (n := 431) rfl zcLAW_87 zkMO_state ⟨by omega, by omega⟩ (Nat.le_of_ble_eq_true rfl) (by decide) rfl rfl (by omega) hB (fun r428 s428 h428 => ?_)
  obtain ⟨rfl, hI2⟩ := hKB r428 s428 h428
  refine z_icmp_eq hR dLAW_law_431 (t := 791) (n := 434) rfl rfl (fun _ => ?_) (fun h431 => absurd rfl h431)
  exact kk k _ _ _ (by omega) hI2
set_option maxRecDepth 100000 in
set_option maxHeartbeats 200000 in
theorem lc_endless {Z : Nat → Nat → List (Option Value) → List Value → zS → Prop} (hR : zR "PathCheckerLaw" code 7 2048 84000 601024 [] (some .boolean) (fun r _ => r = some (.int 1)) (fun _ _ => False) Z) {L i k : Nat} {xs : Nat → Int32} (hsl : lwSl Z L xs) (hi : i + 3 < L) (hkm : k + 2 ≤ 601024) {I : zS → Prop} {σ : zS} {l5 l6 : Option Value} (hS : sp_endless I σ (xs (i + 1))) (kk : ∀ (k2 : Nat) (σ2 : zS) (m5 m6 : Option Value), k2 ≤ k + 1 → I σ2 → Z k2 791 (lwL i m5 m6) [] σ2) : Z k 436 (lwL i l5 l6) [] σ := by
  obtain ⟨frA, loA, poA, hA, hfA, hlA, hKA⟩ := hS
  refine z_aload_n hR dLAW_law_436 (n := 437) rfl rfl ?_
  refine z_aload_n hR dLAW_law_437 (n := 438) rfl rfl ?_
  refine z_iload hR dLAW_law_438 (n := 440) rfl rfl ?_
  refine z_iconst hR dLAW_law_440 (v := 1) (n := 441) rfl rfl ?_
  refine z_iadd hR dLAW_law_441 (n := 442) rfl ?_
  refine hsl (i + 1) dLAW_law_442 (n := 443) rfl (nI_1 i) (by omega) ?_
  refine z_callV1 hR dLAW_law_443 (n := 446) rfl zcLAW_88 zkPC_endless ⟨by omega, by omega⟩ (Nat.le_of_ble_eq_true rfl) (by decide) rfl rfl (by omega) hA (fun r443 s443 h443 => ?_)
  obtain ⟨v, rfl, frB, loB, poB, hB, hfB, hlB, hKB⟩ := hKA r443 s443 h443
  refine z_aload_n hR dLAW_law_446 (n := 447) rfl rfl ?_
  refine z_aload_n hR dLAW_law_447 (n := 448) rfl rfl ?_
  refine z_iload hR dLAW_law_448 (n := 450) rfl rfl ?_
  refine z_iconst hR dLAW_law_450 (v := 1) (n := 451) rfl rfl ?_
  refine z_iadd hR dLAW_law_451 (n := 452) rfl ?_
  refine hsl (i + 1) dLAW_law_452 (n := 453) rfl (nI_1 i) (by omega) ?_
  refine z_callV1 hR dLAW_law_453 (n := 456) rfl zcLAW_91 zkMO_endless ⟨by omega, by omega⟩ (Nat.le_of_ble_eq_true rfl) (by decide) rfl rfl (by omega) hB (fun r453 s453 h453 => ?_)
  obtain ⟨rfl, hI2⟩ := hKB r453 s453 h453
  refine z_icmp_eq hR dLAW_law_456 (t := 791) (n := 459) rfl rfl (fun _ => ?_) (fun h456 => absurd rfl h456)
  exact kk k _ _ _ (by omega) hI2
set_option maxRecDepth 100000 in
set_option maxHeartbeats 200000 in
theorem lc_go {Z : Nat → Nat → List (Option Value) → List Value → zS → Prop} (hR : zR "PathCheckerLaw" code 7 2048 84000 601024 [] (some .boolean) (fun r _ => r = some (.int 1)) (fun _ _ => False) Z) {L i k : Nat} {xs : Nat → Int32} (hsl : lwSl Z L xs) (hi : i + 3 < L) (hkm : k + 2 ≤ 601024) {I : zS → Prop} {σ : zS} {l5 l6 : Option Value} (hS : sp_go I σ (xs (i + 1))) (kk : ∀ (k2 : Nat) (σ2 : zS) (m5 m6 : Option Value), k2 ≤ k + 1 → I σ2 → Z k2 791 (lwL i m5 m6) [] σ2) : Z k 680 (lwL i l5 l6) [] σ := by
  obtain ⟨frA, loA, poA, hA, hfA, hlA, hKA⟩ := hS
  refine z_aload_n hR dLAW_law_680 (n := 681) rfl rfl ?_
  refine z_aload_n hR dLAW_law_681 (n := 682) rfl rfl ?_
  refine z_iload hR dLAW_law_682 (n := 684) rfl rfl ?_
  refine z_iconst hR dLAW_law_684 (v := 1) (n := 685) rfl rfl ?_
  refine z_iadd hR dLAW_law_685 (n := 686) rfl ?_
  refine hsl (i + 1) dLAW_law_686 (n := 687) rfl (nI_1 i) (by omega) ?_
  refine z_callV1 hR dLAW_law_687 (n := 690) rfl zcLAW_105 zkPC_go ⟨by omega, by omega⟩ (Nat.le_of_ble_eq_true rfl) (by decide) rfl rfl (by omega) hA (fun r687 s687 h687 => ?_)
  obtain ⟨v, rfl, frB, loB, poB, hB, hfB, hlB, hKB⟩ := hKA r687 s687 h687
  refine z_aload_n hR dLAW_law_690 (n := 691) rfl rfl ?_
  refine z_aload_n hR dLAW_law_691 (n := 692) rfl rfl ?_
  refine z_iload hR dLAW_law_692 (n := 694) rfl rfl ?_
  refine z_iconst hR dLAW_law_694 (v := 1) (n := 695) rfl rfl ?_
  refine z_iadd hR dLAW_law_695 (n := 696) rfl ?_
  refine hsl (i + 1) dLAW_law_696 (n := 697) rfl (nI_1 i) (by omega) ?_
  refine z_callV1 hR dLAW_law_697 (n := 700) rfl zcLAW_108 zkMO_go ⟨by omega, by omega⟩ (Nat.le_of_ble_eq_true rfl) (by decide) rfl rfl (by omega) hB (fun r697 s697 h697 => ?_)
  obtain ⟨rfl, hI2⟩ := hKB r697 s697 h697
  refine z_icmp_eq hR dLAW_law_700 (t := 791) (n := 703) rfl rfl (fun _ => ?_) (fun h700 => absurd rfl h700)
  exact kk k _ _ _ (by omega) hI2
set_option maxRecDepth 100000 in
set_option maxHeartbeats 200000 in
theorem lc_link0 {Z : Nat → Nat → List (Option Value) → List Value → zS → Prop} (hR : zR "PathCheckerLaw" code 7 2048 84000 601024 [] (some .boolean) (fun r _ => r = some (.int 1)) (fun _ _ => False) Z) {L i k : Nat} {xs : Nat → Int32} (hsl : lwSl Z L xs) (hi : i + 3 < L) (hkm : k + 2 ≤ 601024) {I : zS → Prop} {σ : zS} {l5 l6 : Option Value} (h3 : xs (i + 3) = 0) (hS : sp_link I σ (xs (i + 1)) (xs (i + 2)) 0) (kk : ∀ (k2 : Nat) (σ2 : zS) (m5 m6 : Option Value), k2 ≤ k + 1 → I σ2 → Z k2 791 (lwL i m5 m6) [] σ2) : Z k 334 (lwL i l5 l6) [] σ := by
  obtain ⟨frA, loA, poA, hA, hfA, hlA, hKA⟩ := hS
  refine z_aload_n hR dLAW_law_334 (n := 335) rfl rfl ?_
  refine z_aload_n hR dLAW_law_335 (n := 336) rfl rfl ?_
  refine z_iload hR dLAW_law_336 (n := 338) rfl rfl ?_
  refine z_iconst hR dLAW_law_338 (v := 1) (n := 339) rfl rfl ?_
  refine z_iadd hR dLAW_law_339 (n := 340) rfl ?_
  refine hsl (i + 1) dLAW_law_340 (n := 341) rfl (nI_1 i) (by omega) ?_
  refine z_aload_n hR dLAW_law_341 (n := 342) rfl rfl ?_
  refine z_iload hR dLAW_law_342 (n := 344) rfl rfl ?_
  refine z_iconst hR dLAW_law_344 (v := 2) (n := 345) rfl rfl ?_
  refine z_iadd hR dLAW_law_345 (n := 346) rfl ?_
  refine hsl (i + 2) dLAW_law_346 (n := 347) rfl (nI_p2 i) (by omega) ?_
  refine z_aload_n hR dLAW_law_347 (n := 348) rfl rfl ?_
  refine z_iload hR dLAW_law_348 (n := 350) rfl rfl ?_
  refine z_iconst hR dLAW_law_350 (v := 3) (n := 351) rfl rfl ?_
  refine z_iadd hR dLAW_law_351 (n := 352) rfl ?_
  refine hsl (i + 3) dLAW_law_352 (n := 353) rfl (nI_p3 i) (by omega) ?_
  refine z_if_eq hR dLAW_law_353 (t := 360) (n := 356) rfl rfl (fun _ => ?_) (fun h353 => absurd h3 h353)
  refine z_iconst hR dLAW_law_360 (v := 0) (n := 361) rfl rfl ?_
  refine z_callV3 hR dLAW_law_361 (n := 364) rfl zcLAW_79 zkPC_link ⟨by omega, by omega⟩ (Nat.le_of_ble_eq_true rfl) (by decide) rfl rfl (by omega) hA (fun r361 s361 h361 => ?_)
  obtain ⟨v, rfl, frB, loB, poB, hB, hfB, hlB, hKB⟩ := hKA r361 s361 h361
  refine z_aload_n hR dLAW_law_364 (n := 365) rfl rfl ?_
  refine z_aload_n hR dLAW_law_365 (n := 366) rfl rfl ?_
  refine z_iload hR dLAW_law_366 (n := 368) rfl rfl ?_
  refine z_iconst hR dLAW_law_368 (v := 1) (n := 369) rfl rfl ?_
  refine z_iadd hR dLAW_law_369 (n := 370) rfl ?_
  refine hsl (i + 1) dLAW_law_370 (n := 371) rfl (nI_1 i) (by omega) ?_
  refine z_aload_n hR dLAW_law_371 (n := 372) rfl rfl ?_
  refine z_iload hR dLAW_law_372 (n := 374) rfl rfl ?_
  refine z_iconst hR dLAW_law_374 (v := 2) (n := 375) rfl rfl ?_
  refine z_iadd hR dLAW_law_375 (n := 376) rfl ?_
  refine hsl (i + 2) dLAW_law_376 (n := 377) rfl (nI_p2 i) (by omega) ?_
  refine z_aload_n hR dLAW_law_377 (n := 378) rfl rfl ?_
  refine z_iload hR dLAW_law_378 (n := 380) rfl rfl ?_
  refine z_iconst hR dLAW_law_380 (v := 3) (n := 381) rfl rfl ?_
  refine z_iadd hR dLAW_law_381 (n := 382) rfl ?_
  refine hsl (i + 3) dLAW_law_382 (n := 383) rfl (nI_p3 i) (by omega) ?_
  refine z_if_eq hR dLAW_law_383 (t := 390) (n := 386) rfl rfl (fun _ => ?_) (fun h383 => absurd h3 h383)
  refine z_iconst hR dLAW_law_390 (v := 0) (n := 391) rfl rfl ?_
  refine z_callV3 hR dLAW_law_391 (n := 394) rfl zcLAW_83 zkMO_link ⟨by omega, by omega⟩ (Nat.le_of_ble_eq_true rfl) (by decide) rfl rfl (by omega) hB (fun r391 s391 h391 => ?_)
  obtain ⟨rfl, hI2⟩ := hKB r391 s391 h391
  refine z_icmp_eq hR dLAW_law_394 (t := 791) (n := 397) rfl rfl (fun _ => ?_) (fun h394 => absurd rfl h394)
  exact kk k _ _ _ (by omega) hI2
set_option maxRecDepth 100000 in
set_option maxHeartbeats 200000 in
theorem lc_link1 {Z : Nat → Nat → List (Option Value) → List Value → zS → Prop} (hR : zR "PathCheckerLaw" code 7 2048 84000 601024 [] (some .boolean) (fun r _ => r = some (.int 1)) (fun _ _ => False) Z) {L i k : Nat} {xs : Nat → Int32} (hsl : lwSl Z L xs) (hi : i + 3 < L) (hkm : k + 2 ≤ 601024) {I : zS → Prop} {σ : zS} {l5 l6 : Option Value} (h3 : ¬ xs (i + 3) = 0) (hS : sp_link I σ (xs (i + 1)) (xs (i + 2)) 1) (kk : ∀ (k2 : Nat) (σ2 : zS) (m5 m6 : Option Value), k2 ≤ k + 1 → I σ2 → Z k2 791 (lwL i m5 m6) [] σ2) : Z k 334 (lwL i l5 l6) [] σ := by
  obtain ⟨frA, loA, poA, hA, hfA, hlA, hKA⟩ := hS
  refine z_aload_n hR dLAW_law_334 (n := 335) rfl rfl ?_
  refine z_aload_n hR dLAW_law_335 (n := 336) rfl rfl ?_
  refine z_iload hR dLAW_law_336 (n := 338) rfl rfl ?_
  refine z_iconst hR dLAW_law_338 (v := 1) (n := 339) rfl rfl ?_
  refine z_iadd hR dLAW_law_339 (n := 340) rfl ?_
  refine hsl (i + 1) dLAW_law_340 (n := 341) rfl (nI_1 i) (by omega) ?_
  refine z_aload_n hR dLAW_law_341 (n := 342) rfl rfl ?_
  refine z_iload hR dLAW_law_342 (n := 344) rfl rfl ?_
  refine z_iconst hR dLAW_law_344 (v := 2) (n := 345) rfl rfl ?_
  refine z_iadd hR dLAW_law_345 (n := 346) rfl ?_
  refine hsl (i + 2) dLAW_law_346 (n := 347) rfl (nI_p2 i) (by omega) ?_
  refine z_aload_n hR dLAW_law_347 (n := 348) rfl rfl ?_
  refine z_iload hR dLAW_law_348 (n := 350) rfl rfl ?_
  refine z_iconst hR dLAW_law_350 (v := 3) (n := 351) rfl rfl ?_
  refine z_iadd hR dLAW_law_351 (n := 352) rfl ?_
  refine hsl (i + 3) dLAW_law_352 (n := 353) rfl (nI_p3 i) (by omega) ?_
  refine z_if_eq hR dLAW_law_353 (t := 360) (n := 356) rfl rfl (fun h353 => absurd h353 h3) (fun _ => ?_)
  refine z_iconst hR dLAW_law_356 (v := 1) (n := 357) rfl rfl ?_
  refine z_goto hR dLAW_law_357 (t := 361) rfl ?_
  refine z_callV3 hR dLAW_law_361 (n := 364) rfl zcLAW_79 zkPC_link ⟨by omega, by omega⟩ (Nat.le_of_ble_eq_true rfl) (by decide) rfl rfl (by omega) hA (fun r361 s361 h361 => ?_)
  obtain ⟨v, rfl, frB, loB, poB, hB, hfB, hlB, hKB⟩ := hKA r361 s361 h361
  refine z_aload_n hR dLAW_law_364 (n := 365) rfl rfl ?_
  refine z_aload_n hR dLAW_law_365 (n := 366) rfl rfl ?_
  refine z_iload hR dLAW_law_366 (n := 368) rfl rfl ?_
  refine z_iconst hR dLAW_law_368 (v := 1) (n := 369) rfl rfl ?_
  refine z_iadd hR dLAW_law_369 (n := 370) rfl ?_
  refine hsl (i + 1) dLAW_law_370 (n := 371) rfl (nI_1 i) (by omega) ?_
  refine z_aload_n hR dLAW_law_371 (n := 372) rfl rfl ?_
  refine z_iload hR dLAW_law_372 (n := 374) rfl rfl ?_
  refine z_iconst hR dLAW_law_374 (v := 2) (n := 375) rfl rfl ?_
  refine z_iadd hR dLAW_law_375 (n := 376) rfl ?_
  refine hsl (i + 2) dLAW_law_376 (n := 377) rfl (nI_p2 i) (by omega) ?_
  refine z_aload_n hR dLAW_law_377 (n := 378) rfl rfl ?_
  refine z_iload hR dLAW_law_378 (n := 380) rfl rfl ?_
  refine z_iconst hR dLAW_law_380 (v := 3) (n := 381) rfl rfl ?_
  refine z_iadd hR dLAW_law_381 (n := 382) rfl ?_
  refine hsl (i + 3) dLAW_law_382 (n := 383) rfl (nI_p3 i) (by omega) ?_
  refine z_if_eq hR dLAW_law_383 (t := 390) (n := 386) rfl rfl (fun h383 => absurd h383 h3) (fun _ => ?_)
  refine z_iconst hR dLAW_law_386 (v := 1) (n := 387) rfl rfl ?_
  refine z_goto hR dLAW_law_387 (t := 391) rfl ?_
  refine z_callV3 hR dLAW_law_391 (n := 394) rfl zcLAW_83 zkMO_link ⟨by omega, by omega⟩ (Nat.le_of_ble_eq_true rfl) (by decide) rfl rfl (by omega) hB (fun r391 s391 h391 => ?_)
  obtain ⟨rfl, hI2⟩ := hKB r391 s391 h391
  refine z_icmp_eq hR dLAW_law_394 (t := 791) (n := 397) rfl rfl (fun _ => ?_) (fun h394 => absurd rfl h394)
  exact kk k _ _ _ (by omega) hI2
set_option maxRecDepth 100000 in
set_option maxHeartbeats 200000 in
theorem lc_wipe {Z : Nat → Nat → List (Option Value) → List Value → zS → Prop} (hR : zR "PathCheckerLaw" code 7 2048 84000 601024 [] (some .boolean) (fun r _ => r = some (.int 1)) (fun _ _ => False) Z) {L i k : Nat} {xs : Nat → Int32} (hsl : lwSl Z L xs) (hi : i + 3 < L) (hkm : k + 2 ≤ 601024) {I : zS → Prop} {σ : zS} {l5 l6 : Option Value} (hS : sp_wipe I σ) (kk : ∀ (k2 : Nat) (σ2 : zS) (m5 m6 : Option Value), k2 ≤ k + 1 → I σ2 → Z k2 791 (lwL i m5 m6) [] σ2) : Z k 173 (lwL i l5 l6) [] σ := by
  obtain ⟨frA, loA, poA, hA, hfA, hlA, hKA⟩ := hS
  refine z_aload_n hR dLAW_law_173 (n := 174) rfl rfl ?_
  refine z_callV0 hR dLAW_law_174 (n := 177) rfl zcLAW_54 zkPC_wipe ⟨by omega, by omega⟩ (Nat.le_of_ble_eq_true rfl) (by decide) rfl rfl (by omega) hA (fun r174 s174 h174 => ?_)
  obtain ⟨rfl, frB, loB, poB, hB, hfB, hlB, hKB⟩ := hKA r174 s174 h174
  refine z_aload_n hR dLAW_law_177 (n := 178) rfl rfl ?_
  refine z_callV0 hR dLAW_law_178 (n := 181) rfl zcLAW_57 zkMO_wipe ⟨by omega, by omega⟩ (Nat.le_of_ble_eq_true rfl) (by decide) rfl rfl (by omega) hB (fun r178 s178 h178 => ?_)
  obtain ⟨rfl, hI2⟩ := hKB r178 s178 h178
  refine z_goto hR dLAW_law_181 (t := 791) rfl ?_
  exact kk k _ _ _ (by omega) hI2
set_option maxRecDepth 100000 in
set_option maxHeartbeats 200000 in
theorem lc_clear {Z : Nat → Nat → List (Option Value) → List Value → zS → Prop} (hR : zR "PathCheckerLaw" code 7 2048 84000 601024 [] (some .boolean) (fun r _ => r = some (.int 1)) (fun _ _ => False) Z) {L i k : Nat} {xs : Nat → Int32} (hsl : lwSl Z L xs) (hi : i + 3 < L) (hkm : k + 2 ≤ 601024) {I : zS → Prop} {σ : zS} {l5 l6 : Option Value} (hS : sp_clear I σ) (kk : ∀ (k2 : Nat) (σ2 : zS) (m5 m6 : Option Value), k2 ≤ k + 1 → I σ2 → Z k2 791 (lwL i m5 m6) [] σ2) : Z k 705 (lwL i l5 l6) [] σ := by
  obtain ⟨frA, loA, poA, hA, hfA, hlA, hKA⟩ := hS
  refine z_aload_n hR dLAW_law_705 (n := 706) rfl rfl ?_
  refine z_callV0 hR dLAW_law_706 (n := 709) rfl zcLAW_109 zkPC_clear ⟨by omega, by omega⟩ (Nat.le_of_ble_eq_true rfl) (by decide) rfl rfl (by omega) hA (fun r706 s706 h706 => ?_)
  obtain ⟨rfl, frB, loB, poB, hB, hfB, hlB, hKB⟩ := hKA r706 s706 h706
  refine z_aload_n hR dLAW_law_709 (n := 710) rfl rfl ?_
  refine z_callV0 hR dLAW_law_710 (n := 713) rfl zcLAW_112 zkMO_clear ⟨by omega, by omega⟩ (Nat.le_of_ble_eq_true rfl) (by decide) rfl rfl (by omega) hB (fun r710 s710 h710 => ?_)
  obtain ⟨rfl, hI2⟩ := hKB r710 s710 h710
  refine z_goto hR dLAW_law_713 (t := 791) rfl ?_
  exact kk k _ _ _ (by omega) hI2
set_option maxRecDepth 100000 in
set_option maxHeartbeats 200000 in
theorem lc_formula {Z : Nat → Nat → List (Option Value) → List Value → zS → Prop} (hR : zR "PathCheckerLaw" code 7 2048 84000 601024 [] (some .boolean) (fun r _ => r = some (.int 1)) (fun _ _ => False) Z) {L i k : Nat} {xs : Nat → Int32} (hsl : lwSl Z L xs) (hi : i + 3 < L) (hkm : k + 2 ≤ 601024) {I : zS → Prop} {σ : zS} {l5 l6 : Option Value} (hS : sp_formula I σ) (kk : ∀ (k2 : Nat) (σ2 : zS) (m5 m6 : Option Value), k2 ≤ k + 1 → I σ2 → Z k2 791 (lwL i m5 m6) [] σ2) : Z k 197 (lwL i l5 l6) [] σ := by
  obtain ⟨frA, loA, poA, ptA, hA, hfA, hlA, hKA, hTA⟩ := hS
  refine z_aload_n hR dLAW_law_197 (n := 198) rfl rfl ?_
  refine z_aload_n hR dLAW_law_198 (n := 199) rfl rfl ?_
  refine z_callSW2 hR dLAW_law_199 (n := 202) rfl zcLAW_62 zkLAW_formula ⟨by omega, by omega⟩ (Nat.le_of_ble_eq_true rfl) (by omega) (h_formula hA hfA hlA (fun r s h => (hKA r s h).imp (fun _ q => q.1)) (fun x s h => (hTA x s h).1)) (fun r199 s199 h199 => ?_)
  rcases h199 with ⟨v, s2, hpo, rfl, rfl⟩ | ⟨x, s2, hpt, rfl, rfl⟩
  ·
    obtain ⟨v2, e2, frB, loB, poB, hB, hfB, hlB, hKB⟩ := hKA _ s2 hpo
    cases e2
    refine z_istore hR dLAW_law_202 (n := 204) rfl (by decide) rfl ?_
    refine z_aload_n hR dLAW_law_204 (n := 205) rfl rfl ?_
    refine z_callV0 hR dLAW_law_205 (n := 208) rfl zcLAW_67 zkMO_formula ⟨by omega, by omega⟩ (Nat.le_of_ble_eq_true rfl) (by decide) rfl rfl (by omega) hB (fun r205 s205 h205 => ?_)
    obtain ⟨b, rfl, h45, h73, hI2⟩ := hKB r205 s205 h205
    refine z_istore hR dLAW_law_208 (n := 210) rfl (by decide) rfl ?_
    refine z_aload_n hR dLAW_law_210 (n := 211) rfl rfl ?_
    refine z_callV0 hR dLAW_law_211 (n := 214) rfl zcLAW_68 zkMO_thrown ⟨by omega, by omega⟩ (Nat.le_of_ble_eq_true rfl) (by decide) rfl rfl (by omega) (m_MO_thrown s205) (fun r211 s211 h211 => ?_)
    obtain ⟨rfl, rfl⟩ := h211
    refine z_iload hR dLAW_law_214 (n := 216) rfl rfl ?_
    refine z_icmp_eq hR dLAW_law_216 (t := 221) (n := 219) rfl rfl (fun _ => ?_) (fun h216 => absurd h45 h216)
    refine z_iload hR dLAW_law_221 (n := 223) rfl rfl ?_
    refine z_if_ne hR dLAW_law_223 (t := 238) (n := 226) rfl rfl (fun h223 => absurd h223 (fun h => h rfl)) (fun _ => ?_)
    refine z_aload_n hR dLAW_law_226 (n := 227) rfl rfl ?_
    refine z_iconst hR dLAW_law_227 (v := 0) (n := 228) rfl rfl ?_
    refine z_lald hR (0) dLAW_law_228 (n := 229) rfl (by decide) rfl (by decide) rfl (by decide) ?_
    refine z_iload hR dLAW_law_229 (n := 231) rfl rfl ?_
    refine z_i2l hR dLAW_law_231 (n := 232) rfl ?_
    refine z_lcmp hR dLAW_law_232 (n := 233) rfl ?_
    refine z_if_eq hR dLAW_law_233 (t := 238) (n := 236) rfl rfl (fun _ => ?_) (fun h233 => absurd (by rw [h73]; exact lg_same _) h233)
    refine z_goto hR dLAW_law_238 (t := 791) rfl ?_
    exact kk (k + 1) _ _ _ (by omega) hI2
  ·
    obtain ⟨hx, frB, loB, poB, hB, hfB, hlB, hKB⟩ := hTA x _ hpt
    refine z_istore hR dLAW_law_202 (n := 204) rfl (by decide) rfl ?_
    refine z_aload_n hR dLAW_law_204 (n := 205) rfl rfl ?_
    refine z_callV0 hR dLAW_law_205 (n := 208) rfl zcLAW_67 zkMO_formula ⟨by omega, by omega⟩ (Nat.le_of_ble_eq_true rfl) (by decide) rfl rfl (by omega) hB (fun r205 s205 h205 => ?_)
    obtain ⟨⟨b, rfl⟩, h45, h0, hI2⟩ := hKB r205 s205 h205
    refine z_istore hR dLAW_law_208 (n := 210) rfl (by decide) rfl ?_
    refine z_aload_n hR dLAW_law_210 (n := 211) rfl rfl ?_
    refine z_callV0 hR dLAW_law_211 (n := 214) rfl zcLAW_68 zkMO_thrown ⟨by omega, by omega⟩ (Nat.le_of_ble_eq_true rfl) (by decide) rfl rfl (by omega) (m_MO_thrown s205) (fun r211 s211 h211 => ?_)
    obtain ⟨rfl, rfl⟩ := h211
    refine z_iload hR dLAW_law_214 (n := 216) rfl rfl ?_
    refine z_icmp_eq hR dLAW_law_216 (t := 221) (n := 219) rfl rfl (fun _ => ?_) (fun h216 => absurd h45 h216)
    refine z_iload hR dLAW_law_221 (n := 223) rfl rfl ?_
    refine z_if_ne hR dLAW_law_223 (t := 238) (n := 226) rfl rfl (fun _ => ?_) (fun h223 => absurd h223 h0)
    refine z_goto hR dLAW_law_238 (t := 791) rfl ?_
    exact kk (k + 1) _ _ _ (by omega) hI2
set_option maxRecDepth 100000 in
set_option maxHeartbeats 200000 in
theorem lc_normal {Z : Nat → Nat → List (Option Value) → List Value → zS → Prop} (hR : zR "PathCheckerLaw" code 7 2048 84000 601024 [] (some .boolean) (fun r _ => r = some (.int 1)) (fun _ _ => False) Z) {L i k : Nat} {xs : Nat → Int32} (hsl : lwSl Z L xs) (hi : i + 3 < L) (hkm : k + 2 ≤ 601024) {I : zS → Prop} {σ : zS} {l5 l6 : Option Value} (hS : sp_normal I σ (xs (i + 1))) (kk : ∀ (k2 : Nat) (σ2 : zS) (m5 m6 : Option Value), k2 ≤ k + 1 → I σ2 → Z k2 791 (lwL i m5 m6) [] σ2) : Z k 241 (lwL i l5 l6) [] σ := by
  obtain ⟨frA, loA, poA, ptA, hA, hfA, hlA, hKA, hTA⟩ := hS
  refine z_aload_n hR dLAW_law_241 (n := 242) rfl rfl ?_
  refine z_aload_n hR dLAW_law_242 (n := 243) rfl rfl ?_
  refine z_iload hR dLAW_law_243 (n := 245) rfl rfl ?_
  refine z_iconst hR dLAW_law_245 (v := 1) (n := 246) rfl rfl ?_
  refine z_iadd hR dLAW_law_246 (n := 247) rfl ?_
  refine hsl (i + 1) dLAW_law_247 (n := 248) rfl (nI_1 i) (by omega) ?_
  refine z_aload_n hR dLAW_law_248 (n := 249) rfl rfl ?_
  refine z_callSW3 hR dLAW_law_249 (n := 252) rfl zcLAW_71 zkLAW_normal ⟨by omega, by omega⟩ (Nat.le_of_ble_eq_true rfl) (by omega) (h_normal (xs (i + 1)) hA hfA hlA (fun r s h => (hKA r s h).imp (fun _ q => q.1)) (fun x s h => (hTA x s h).1)) (fun r249 s249 h249 => ?_)
  rcases h249 with ⟨v, s2, hpo, rfl, rfl⟩ | ⟨x, s2, hpt, rfl, rfl⟩
  ·
    obtain ⟨v2, e2, frB, loB, poB, hB, hfB, hlB, hKB⟩ := hKA _ s2 hpo
    cases e2
    refine z_istore hR dLAW_law_252 (n := 254) rfl (by decide) rfl ?_
    refine z_aload_n hR dLAW_law_254 (n := 255) rfl rfl ?_
    refine z_aload_n hR dLAW_law_255 (n := 256) rfl rfl ?_
    refine z_iload hR dLAW_law_256 (n := 258) rfl rfl ?_
    refine z_iconst hR dLAW_law_258 (v := 1) (n := 259) rfl rfl ?_
    refine z_iadd hR dLAW_law_259 (n := 260) rfl ?_
    refine hsl (i + 1) dLAW_law_260 (n := 261) rfl (nI_1 i) (by omega) ?_
    refine z_callV1 hR dLAW_law_261 (n := 264) rfl zcLAW_74 zkMO_normal ⟨by omega, by omega⟩ (Nat.le_of_ble_eq_true rfl) (by decide) rfl rfl (by omega) hB (fun r261 s261 h261 => ?_)
    obtain ⟨b, rfl, h45, h73, hI2⟩ := hKB r261 s261 h261
    refine z_istore hR dLAW_law_264 (n := 266) rfl (by decide) rfl ?_
    refine z_aload_n hR dLAW_law_266 (n := 267) rfl rfl ?_
    refine z_callV0 hR dLAW_law_267 (n := 270) rfl zcLAW_68 zkMO_thrown ⟨by omega, by omega⟩ (Nat.le_of_ble_eq_true rfl) (by decide) rfl rfl (by omega) (m_MO_thrown s261) (fun r267 s267 h267 => ?_)
    obtain ⟨rfl, rfl⟩ := h267
    refine z_iload hR dLAW_law_270 (n := 272) rfl rfl ?_
    refine z_icmp_eq hR dLAW_law_272 (t := 277) (n := 275) rfl rfl (fun _ => ?_) (fun h272 => absurd h45 h272)
    refine z_iload hR dLAW_law_277 (n := 279) rfl rfl ?_
    refine z_if_ne hR dLAW_law_279 (t := 294) (n := 282) rfl rfl (fun h279 => absurd h279 (fun h => h rfl)) (fun _ => ?_)
    refine z_aload_n hR dLAW_law_282 (n := 283) rfl rfl ?_
    refine z_iconst hR dLAW_law_283 (v := 0) (n := 284) rfl rfl ?_
    refine z_lald hR (0) dLAW_law_284 (n := 285) rfl (by decide) rfl (by decide) rfl (by decide) ?_
    refine z_iload hR dLAW_law_285 (n := 287) rfl rfl ?_
    refine z_i2l hR dLAW_law_287 (n := 288) rfl ?_
    refine z_lcmp hR dLAW_law_288 (n := 289) rfl ?_
    refine z_if_eq hR dLAW_law_289 (t := 294) (n := 292) rfl rfl (fun _ => ?_) (fun h289 => absurd (by rw [h73]; exact lg_same _) h289)
    refine z_goto hR dLAW_law_294 (t := 791) rfl ?_
    exact kk (k + 1) _ _ _ (by omega) hI2
  ·
    obtain ⟨hx, frB, loB, poB, hB, hfB, hlB, hKB⟩ := hTA x _ hpt
    refine z_istore hR dLAW_law_252 (n := 254) rfl (by decide) rfl ?_
    refine z_aload_n hR dLAW_law_254 (n := 255) rfl rfl ?_
    refine z_aload_n hR dLAW_law_255 (n := 256) rfl rfl ?_
    refine z_iload hR dLAW_law_256 (n := 258) rfl rfl ?_
    refine z_iconst hR dLAW_law_258 (v := 1) (n := 259) rfl rfl ?_
    refine z_iadd hR dLAW_law_259 (n := 260) rfl ?_
    refine hsl (i + 1) dLAW_law_260 (n := 261) rfl (nI_1 i) (by omega) ?_
    refine z_callV1 hR dLAW_law_261 (n := 264) rfl zcLAW_74 zkMO_normal ⟨by omega, by omega⟩ (Nat.le_of_ble_eq_true rfl) (by decide) rfl rfl (by omega) hB (fun r261 s261 h261 => ?_)
    obtain ⟨⟨b, rfl⟩, h45, h0, hI2⟩ := hKB r261 s261 h261
    refine z_istore hR dLAW_law_264 (n := 266) rfl (by decide) rfl ?_
    refine z_aload_n hR dLAW_law_266 (n := 267) rfl rfl ?_
    refine z_callV0 hR dLAW_law_267 (n := 270) rfl zcLAW_68 zkMO_thrown ⟨by omega, by omega⟩ (Nat.le_of_ble_eq_true rfl) (by decide) rfl rfl (by omega) (m_MO_thrown s261) (fun r267 s267 h267 => ?_)
    obtain ⟨rfl, rfl⟩ := h267
    refine z_iload hR dLAW_law_270 (n := 272) rfl rfl ?_
    refine z_icmp_eq hR dLAW_law_272 (t := 277) (n := 275) rfl rfl (fun _ => ?_) (fun h272 => absurd h45 h272)
    refine z_iload hR dLAW_law_277 (n := 279) rfl rfl ?_
    refine z_if_ne hR dLAW_law_279 (t := 294) (n := 282) rfl rfl (fun _ => ?_) (fun h279 => absurd h279 h0)
    refine z_goto hR dLAW_law_294 (t := 791) rfl ?_
    exact kk (k + 1) _ _ _ (by omega) hI2
set_option maxRecDepth 100000 in
set_option maxHeartbeats 200000 in
theorem lc_keeps {Z : Nat → Nat → List (Option Value) → List Value → zS → Prop} (hR : zR "PathCheckerLaw" code 7 2048 84000 601024 [] (some .boolean) (fun r _ => r = some (.int 1)) (fun _ _ => False) Z) {L i k : Nat} {xs : Nat → Int32} (hsl : lwSl Z L xs) (hi : i + 3 < L) (hkm : k + 2 ≤ 601024) {I : zS → Prop} {σ : zS} {l5 l6 : Option Value} (hS : sp_keeps I σ (xs (i + 1))) (kk : ∀ (k2 : Nat) (σ2 : zS) (m5 m6 : Option Value), k2 ≤ k + 1 → I σ2 → Z k2 791 (lwL i m5 m6) [] σ2) : Z k 461 (lwL i l5 l6) [] σ := by
  obtain ⟨frA, loA, poA, ptA, hA, hfA, hlA, hKA, hTA⟩ := hS
  refine z_aload_n hR dLAW_law_461 (n := 462) rfl rfl ?_
  refine z_aload_n hR dLAW_law_462 (n := 463) rfl rfl ?_
  refine z_iload hR dLAW_law_463 (n := 465) rfl rfl ?_
  refine z_iconst hR dLAW_law_465 (v := 1) (n := 466) rfl rfl ?_
  refine z_iadd hR dLAW_law_466 (n := 467) rfl ?_
  refine hsl (i + 1) dLAW_law_467 (n := 468) rfl (nI_1 i) (by omega) ?_
  refine z_aload_n hR dLAW_law_468 (n := 469) rfl rfl ?_
  refine z_callSW3 hR dLAW_law_469 (n := 472) rfl zcLAW_92 zkLAW_keeps ⟨by omega, by omega⟩ (Nat.le_of_ble_eq_true rfl) (by omega) (h_keeps (xs (i + 1)) hA hfA hlA (fun r s h => (hKA r s h).imp (fun _ q => q.1)) (fun x s h => (hTA x s h).1)) (fun r469 s469 h469 => ?_)
  rcases h469 with ⟨v, s2, hpo, rfl, rfl⟩ | ⟨x, s2, hpt, rfl, rfl⟩
  ·
    obtain ⟨v2, e2, frB, loB, poB, hB, hfB, hlB, hKB⟩ := hKA _ s2 hpo
    cases e2
    refine z_istore hR dLAW_law_472 (n := 474) rfl (by decide) rfl ?_
    refine z_aload_n hR dLAW_law_474 (n := 475) rfl rfl ?_
    refine z_aload_n hR dLAW_law_475 (n := 476) rfl rfl ?_
    refine z_iload hR dLAW_law_476 (n := 478) rfl rfl ?_
    refine z_iconst hR dLAW_law_478 (v := 1) (n := 479) rfl rfl ?_
    refine z_iadd hR dLAW_law_479 (n := 480) rfl ?_
    refine hsl (i + 1) dLAW_law_480 (n := 481) rfl (nI_1 i) (by omega) ?_
    refine z_callV1 hR dLAW_law_481 (n := 484) rfl zcLAW_94 zkMO_keeps ⟨by omega, by omega⟩ (Nat.le_of_ble_eq_true rfl) (by decide) rfl rfl (by omega) hB (fun r481 s481 h481 => ?_)
    obtain ⟨b, rfl, h45, h73, hI2⟩ := hKB r481 s481 h481
    refine z_istore hR dLAW_law_484 (n := 486) rfl (by decide) rfl ?_
    refine z_aload_n hR dLAW_law_486 (n := 487) rfl rfl ?_
    refine z_callV0 hR dLAW_law_487 (n := 490) rfl zcLAW_68 zkMO_thrown ⟨by omega, by omega⟩ (Nat.le_of_ble_eq_true rfl) (by decide) rfl rfl (by omega) (m_MO_thrown s481) (fun r487 s487 h487 => ?_)
    obtain ⟨rfl, rfl⟩ := h487
    refine z_iload hR dLAW_law_490 (n := 492) rfl rfl ?_
    refine z_icmp_eq hR dLAW_law_492 (t := 497) (n := 495) rfl rfl (fun _ => ?_) (fun h492 => absurd h45 h492)
    refine z_iload hR dLAW_law_497 (n := 499) rfl rfl ?_
    refine z_if_ne hR dLAW_law_499 (t := 521) (n := 502) rfl rfl (fun h499 => absurd h499 (fun h => h rfl)) (fun _ => ?_)
    refine z_aload_n hR dLAW_law_502 (n := 503) rfl rfl ?_
    refine z_iconst hR dLAW_law_503 (v := 0) (n := 504) rfl rfl ?_
    refine z_lald hR (0) dLAW_law_504 (n := 505) rfl (by decide) rfl (by decide) rfl (by decide) ?_
    refine z_iload hR dLAW_law_505 (n := 507) rfl rfl ?_
    refine z_if_eq hR dLAW_law_507 (t := 514) (n := 510) rfl rfl (fun h507 => ?_) (fun h507 => ?_)
    · refine z_lconst hR dLAW_law_514 (v := 0) (n := 515) rfl rfl ?_
      refine z_lcmp hR dLAW_law_515 (n := 516) rfl ?_
      refine z_if_eq hR dLAW_law_516 (t := 521) (n := 519) rfl rfl (fun _ => ?_) (fun h516 => absurd (by first | (rw [h73, if_pos h507]; exact lg_same _) | (rw [h73, if_neg h507]; exact lg_same _)) h516)
      refine z_goto hR dLAW_law_521 (t := 791) rfl ?_
      exact kk (k + 1) _ _ _ (by omega) hI2
    · refine z_lconst hR dLAW_law_510 (v := 1) (n := 511) rfl rfl ?_
      refine z_goto hR dLAW_law_511 (t := 515) rfl ?_
      refine z_lcmp hR dLAW_law_515 (n := 516) rfl ?_
      refine z_if_eq hR dLAW_law_516 (t := 521) (n := 519) rfl rfl (fun _ => ?_) (fun h516 => absurd (by first | (rw [h73, if_pos h507]; exact lg_same _) | (rw [h73, if_neg h507]; exact lg_same _)) h516)
      refine z_goto hR dLAW_law_521 (t := 791) rfl ?_
      exact kk (k + 1) _ _ _ (by omega) hI2
  ·
    obtain ⟨hx, frB, loB, poB, hB, hfB, hlB, hKB⟩ := hTA x _ hpt
    refine z_istore hR dLAW_law_472 (n := 474) rfl (by decide) rfl ?_
    refine z_aload_n hR dLAW_law_474 (n := 475) rfl rfl ?_
    refine z_aload_n hR dLAW_law_475 (n := 476) rfl rfl ?_
    refine z_iload hR dLAW_law_476 (n := 478) rfl rfl ?_
    refine z_iconst hR dLAW_law_478 (v := 1) (n := 479) rfl rfl ?_
    refine z_iadd hR dLAW_law_479 (n := 480) rfl ?_
    refine hsl (i + 1) dLAW_law_480 (n := 481) rfl (nI_1 i) (by omega) ?_
    refine z_callV1 hR dLAW_law_481 (n := 484) rfl zcLAW_94 zkMO_keeps ⟨by omega, by omega⟩ (Nat.le_of_ble_eq_true rfl) (by decide) rfl rfl (by omega) hB (fun r481 s481 h481 => ?_)
    obtain ⟨⟨b, rfl⟩, h45, h0, hI2⟩ := hKB r481 s481 h481
    refine z_istore hR dLAW_law_484 (n := 486) rfl (by decide) rfl ?_
    refine z_aload_n hR dLAW_law_486 (n := 487) rfl rfl ?_
    refine z_callV0 hR dLAW_law_487 (n := 490) rfl zcLAW_68 zkMO_thrown ⟨by omega, by omega⟩ (Nat.le_of_ble_eq_true rfl) (by decide) rfl rfl (by omega) (m_MO_thrown s481) (fun r487 s487 h487 => ?_)
    obtain ⟨rfl, rfl⟩ := h487
    refine z_iload hR dLAW_law_490 (n := 492) rfl rfl ?_
    refine z_icmp_eq hR dLAW_law_492 (t := 497) (n := 495) rfl rfl (fun _ => ?_) (fun h492 => absurd h45 h492)
    refine z_iload hR dLAW_law_497 (n := 499) rfl rfl ?_
    refine z_if_ne hR dLAW_law_499 (t := 521) (n := 502) rfl rfl (fun _ => ?_) (fun h499 => absurd h499 h0)
    refine z_goto hR dLAW_law_521 (t := 791) rfl ?_
    exact kk (k + 1) _ _ _ (by omega) hI2
set_option maxRecDepth 100000 in
set_option maxHeartbeats 200000 in
theorem lc_breaking {Z : Nat → Nat → List (Option Value) → List Value → zS → Prop} (hR : zR "PathCheckerLaw" code 7 2048 84000 601024 [] (some .boolean) (fun r _ => r = some (.int 1)) (fun _ _ => False) Z) {L i k : Nat} {xs : Nat → Int32} (hsl : lwSl Z L xs) (hi : i + 3 < L) (hkm : k + 2 ≤ 601024) {I : zS → Prop} {σ : zS} {l5 l6 : Option Value} (hS : sp_breaking I σ) (kk : ∀ (k2 : Nat) (σ2 : zS) (m5 m6 : Option Value), k2 ≤ k + 1 → I σ2 → Z k2 791 (lwL i m5 m6) [] σ2) : Z k 524 (lwL i l5 l6) [] σ := by
  obtain ⟨frA, loA, poA, ptA, hA, hfA, hlA, hKA, hTA⟩ := hS
  refine z_aload_n hR dLAW_law_524 (n := 525) rfl rfl ?_
  refine z_aload_n hR dLAW_law_525 (n := 526) rfl rfl ?_
  refine z_callSW2 hR dLAW_law_526 (n := 529) rfl zcLAW_95 zkLAW_breaking ⟨by omega, by omega⟩ (Nat.le_of_ble_eq_true rfl) (by omega) (h_breaking hA hfA hlA (fun r s h => (hKA r s h).imp (fun _ q => q.1)) (fun x s h => (hTA x s h).1)) (fun r526 s526 h526 => ?_)
  rcases h526 with ⟨v, s2, hpo, rfl, rfl⟩ | ⟨x, s2, hpt, rfl, rfl⟩
  ·
    obtain ⟨v2, e2, frB, loB, poB, hB, hfB, hlB, hKB⟩ := hKA _ s2 hpo
    cases e2
    refine z_istore hR dLAW_law_529 (n := 531) rfl (by decide) rfl ?_
    refine z_aload_n hR dLAW_law_531 (n := 532) rfl rfl ?_
    refine z_callV0 hR dLAW_law_532 (n := 535) rfl zcLAW_97 zkMO_breaking ⟨by omega, by omega⟩ (Nat.le_of_ble_eq_true rfl) (by decide) rfl rfl (by omega) hB (fun r532 s532 h532 => ?_)
    obtain ⟨b, rfl, h45, h73, hI2⟩ := hKB r532 s532 h532
    refine z_istore hR dLAW_law_535 (n := 537) rfl (by decide) rfl ?_
    refine z_aload_n hR dLAW_law_537 (n := 538) rfl rfl ?_
    refine z_callV0 hR dLAW_law_538 (n := 541) rfl zcLAW_68 zkMO_thrown ⟨by omega, by omega⟩ (Nat.le_of_ble_eq_true rfl) (by decide) rfl rfl (by omega) (m_MO_thrown s532) (fun r538 s538 h538 => ?_)
    obtain ⟨rfl, rfl⟩ := h538
    refine z_iload hR dLAW_law_541 (n := 543) rfl rfl ?_
    refine z_icmp_eq hR dLAW_law_543 (t := 548) (n := 546) rfl rfl (fun _ => ?_) (fun h543 => absurd h45 h543)
    refine z_iload hR dLAW_law_548 (n := 550) rfl rfl ?_
    refine z_if_ne hR dLAW_law_550 (t := 565) (n := 553) rfl rfl (fun h550 => absurd h550 (fun h => h rfl)) (fun _ => ?_)
    refine z_aload_n hR dLAW_law_553 (n := 554) rfl rfl ?_
    refine z_iconst hR dLAW_law_554 (v := 0) (n := 555) rfl rfl ?_
    refine z_lald hR (0) dLAW_law_555 (n := 556) rfl (by decide) rfl (by decide) rfl (by decide) ?_
    refine z_iload hR dLAW_law_556 (n := 558) rfl rfl ?_
    refine z_i2l hR dLAW_law_558 (n := 559) rfl ?_
    refine z_lcmp hR dLAW_law_559 (n := 560) rfl ?_
    refine z_if_eq hR dLAW_law_560 (t := 565) (n := 563) rfl rfl (fun _ => ?_) (fun h560 => absurd (by rw [h73]; exact lg_same _) h560)
    refine z_goto hR dLAW_law_565 (t := 791) rfl ?_
    exact kk (k + 1) _ _ _ (by omega) hI2
  ·
    obtain ⟨hx, frB, loB, poB, hB, hfB, hlB, hKB⟩ := hTA x _ hpt
    refine z_istore hR dLAW_law_529 (n := 531) rfl (by decide) rfl ?_
    refine z_aload_n hR dLAW_law_531 (n := 532) rfl rfl ?_
    refine z_callV0 hR dLAW_law_532 (n := 535) rfl zcLAW_97 zkMO_breaking ⟨by omega, by omega⟩ (Nat.le_of_ble_eq_true rfl) (by decide) rfl rfl (by omega) hB (fun r532 s532 h532 => ?_)
    obtain ⟨⟨b, rfl⟩, h45, h0, hI2⟩ := hKB r532 s532 h532
    refine z_istore hR dLAW_law_535 (n := 537) rfl (by decide) rfl ?_
    refine z_aload_n hR dLAW_law_537 (n := 538) rfl rfl ?_
    refine z_callV0 hR dLAW_law_538 (n := 541) rfl zcLAW_68 zkMO_thrown ⟨by omega, by omega⟩ (Nat.le_of_ble_eq_true rfl) (by decide) rfl rfl (by omega) (m_MO_thrown s532) (fun r538 s538 h538 => ?_)
    obtain ⟨rfl, rfl⟩ := h538
    refine z_iload hR dLAW_law_541 (n := 543) rfl rfl ?_
    refine z_icmp_eq hR dLAW_law_543 (t := 548) (n := 546) rfl rfl (fun _ => ?_) (fun h543 => absurd h45 h543)
    refine z_iload hR dLAW_law_548 (n := 550) rfl rfl ?_
    refine z_if_ne hR dLAW_law_550 (t := 565) (n := 553) rfl rfl (fun _ => ?_) (fun h550 => absurd h550 h0)
    refine z_goto hR dLAW_law_565 (t := 791) rfl ?_
    exact kk (k + 1) _ _ _ (by omega) hI2
set_option maxRecDepth 100000 in
set_option maxHeartbeats 200000 in
theorem lc_keeping {Z : Nat → Nat → List (Option Value) → List Value → zS → Prop} (hR : zR "PathCheckerLaw" code 7 2048 84000 601024 [] (some .boolean) (fun r _ => r = some (.int 1)) (fun _ _ => False) Z) {L i k : Nat} {xs : Nat → Int32} (hsl : lwSl Z L xs) (hi : i + 3 < L) (hkm : k + 2 ≤ 601024) {I : zS → Prop} {σ : zS} {l5 l6 : Option Value} (hS : sp_keeping I σ) (kk : ∀ (k2 : Nat) (σ2 : zS) (m5 m6 : Option Value), k2 ≤ k + 1 → I σ2 → Z k2 791 (lwL i m5 m6) [] σ2) : Z k 568 (lwL i l5 l6) [] σ := by
  obtain ⟨frA, loA, poA, ptA, hA, hfA, hlA, hKA, hTA⟩ := hS
  refine z_aload_n hR dLAW_law_568 (n := 569) rfl rfl ?_
  refine z_aload_n hR dLAW_law_569 (n := 570) rfl rfl ?_
  refine z_callSW2 hR dLAW_law_570 (n := 573) rfl zcLAW_98 zkLAW_keeping ⟨by omega, by omega⟩ (Nat.le_of_ble_eq_true rfl) (by omega) (h_keeping hA hfA hlA (fun r s h => (hKA r s h).imp (fun _ q => q.1)) (fun x s h => (hTA x s h).1)) (fun r570 s570 h570 => ?_)
  rcases h570 with ⟨v, s2, hpo, rfl, rfl⟩ | ⟨x, s2, hpt, rfl, rfl⟩
  ·
    obtain ⟨v2, e2, frB, loB, poB, hB, hfB, hlB, hKB⟩ := hKA _ s2 hpo
    cases e2
    refine z_istore hR dLAW_law_573 (n := 575) rfl (by decide) rfl ?_
    refine z_aload_n hR dLAW_law_575 (n := 576) rfl rfl ?_
    refine z_callV0 hR dLAW_law_576 (n := 579) rfl zcLAW_100 zkMO_keeping ⟨by omega, by omega⟩ (Nat.le_of_ble_eq_true rfl) (by decide) rfl rfl (by omega) hB (fun r576 s576 h576 => ?_)
    obtain ⟨b, rfl, h45, h73, hI2⟩ := hKB r576 s576 h576
    refine z_istore hR dLAW_law_579 (n := 581) rfl (by decide) rfl ?_
    refine z_aload_n hR dLAW_law_581 (n := 582) rfl rfl ?_
    refine z_callV0 hR dLAW_law_582 (n := 585) rfl zcLAW_68 zkMO_thrown ⟨by omega, by omega⟩ (Nat.le_of_ble_eq_true rfl) (by decide) rfl rfl (by omega) (m_MO_thrown s576) (fun r582 s582 h582 => ?_)
    obtain ⟨rfl, rfl⟩ := h582
    refine z_iload hR dLAW_law_585 (n := 587) rfl rfl ?_
    refine z_icmp_eq hR dLAW_law_587 (t := 592) (n := 590) rfl rfl (fun _ => ?_) (fun h587 => absurd h45 h587)
    refine z_iload hR dLAW_law_592 (n := 594) rfl rfl ?_
    refine z_if_ne hR dLAW_law_594 (t := 609) (n := 597) rfl rfl (fun h594 => absurd h594 (fun h => h rfl)) (fun _ => ?_)
    refine z_aload_n hR dLAW_law_597 (n := 598) rfl rfl ?_
    refine z_iconst hR dLAW_law_598 (v := 0) (n := 599) rfl rfl ?_
    refine z_lald hR (0) dLAW_law_599 (n := 600) rfl (by decide) rfl (by decide) rfl (by decide) ?_
    refine z_iload hR dLAW_law_600 (n := 602) rfl rfl ?_
    refine z_i2l hR dLAW_law_602 (n := 603) rfl ?_
    refine z_lcmp hR dLAW_law_603 (n := 604) rfl ?_
    refine z_if_eq hR dLAW_law_604 (t := 609) (n := 607) rfl rfl (fun _ => ?_) (fun h604 => absurd (by rw [h73]; exact lg_same _) h604)
    refine z_goto hR dLAW_law_609 (t := 791) rfl ?_
    exact kk (k + 1) _ _ _ (by omega) hI2
  ·
    obtain ⟨hx, frB, loB, poB, hB, hfB, hlB, hKB⟩ := hTA x _ hpt
    refine z_istore hR dLAW_law_573 (n := 575) rfl (by decide) rfl ?_
    refine z_aload_n hR dLAW_law_575 (n := 576) rfl rfl ?_
    refine z_callV0 hR dLAW_law_576 (n := 579) rfl zcLAW_100 zkMO_keeping ⟨by omega, by omega⟩ (Nat.le_of_ble_eq_true rfl) (by decide) rfl rfl (by omega) hB (fun r576 s576 h576 => ?_)
    obtain ⟨⟨b, rfl⟩, h45, h0, hI2⟩ := hKB r576 s576 h576
    refine z_istore hR dLAW_law_579 (n := 581) rfl (by decide) rfl ?_
    refine z_aload_n hR dLAW_law_581 (n := 582) rfl rfl ?_
    refine z_callV0 hR dLAW_law_582 (n := 585) rfl zcLAW_68 zkMO_thrown ⟨by omega, by omega⟩ (Nat.le_of_ble_eq_true rfl) (by decide) rfl rfl (by omega) (m_MO_thrown s576) (fun r582 s582 h582 => ?_)
    obtain ⟨rfl, rfl⟩ := h582
    refine z_iload hR dLAW_law_585 (n := 587) rfl rfl ?_
    refine z_icmp_eq hR dLAW_law_587 (t := 592) (n := 590) rfl rfl (fun _ => ?_) (fun h587 => absurd h45 h587)
    refine z_iload hR dLAW_law_592 (n := 594) rfl rfl ?_
    refine z_if_ne hR dLAW_law_594 (t := 609) (n := 597) rfl rfl (fun _ => ?_) (fun h594 => absurd h594 h0)
    refine z_goto hR dLAW_law_609 (t := 791) rfl ?_
    exact kk (k + 1) _ _ _ (by omega) hI2
set_option maxRecDepth 100000 in
set_option maxHeartbeats 200000 in
theorem lc_witness {Z : Nat → Nat → List (Option Value) → List Value → zS → Prop} (hR : zR "PathCheckerLaw" code 7 2048 84000 601024 [] (some .boolean) (fun r _ => r = some (.int 1)) (fun _ _ => False) Z) {L i k : Nat} {xs : Nat → Int32} (hsl : lwSl Z L xs) (hi : i + 3 < L) (hkm : k + 2 ≤ 601024) {I : zS → Prop} {σ : zS} {l5 l6 : Option Value} (hS : sp_witness I σ (xs (i + 1)) (xs (i + 2))) (kk : ∀ (k2 : Nat) (σ2 : zS) (m5 m6 : Option Value), k2 ≤ k + 1 → I σ2 → Z k2 791 (lwL i m5 m6) [] σ2) : Z k 612 (lwL i l5 l6) [] σ := by
  obtain ⟨frA, loA, poA, ptA, hA, hfA, hlA, hKA, hTA⟩ := hS
  refine z_aload_n hR dLAW_law_612 (n := 613) rfl rfl ?_
  refine z_aload_n hR dLAW_law_613 (n := 614) rfl rfl ?_
  refine z_iload hR dLAW_law_614 (n := 616) rfl rfl ?_
  refine z_iconst hR dLAW_law_616 (v := 1) (n := 617) rfl rfl ?_
  refine z_iadd hR dLAW_law_617 (n := 618) rfl ?_
  refine hsl (i + 1) dLAW_law_618 (n := 619) rfl (nI_1 i) (by omega) ?_
  refine z_aload_n hR dLAW_law_619 (n := 620) rfl rfl ?_
  refine z_iload hR dLAW_law_620 (n := 622) rfl rfl ?_
  refine z_iconst hR dLAW_law_622 (v := 2) (n := 623) rfl rfl ?_
  refine z_iadd hR dLAW_law_623 (n := 624) rfl ?_
  refine hsl (i + 2) dLAW_law_624 (n := 625) rfl (nI_p2 i) (by omega) ?_
  refine z_aload_n hR dLAW_law_625 (n := 626) rfl rfl ?_
  refine z_callSW4 hR dLAW_law_626 (n := 629) rfl zcLAW_101 zkLAW_witness ⟨by omega, by omega⟩ (Nat.le_of_ble_eq_true rfl) (by omega) (h_witness (xs (i + 1)) (xs (i + 2)) hA hfA hlA (fun r s h => (hKA r s h).imp (fun _ q => q.1)) (fun x s h => (hTA x s h).1)) (fun r626 s626 h626 => ?_)
  rcases h626 with ⟨v, s2, hpo, rfl, rfl⟩ | ⟨x, s2, hpt, rfl, rfl⟩
  ·
    obtain ⟨v2, e2, frB, loB, poB, hB, hfB, hlB, hKB⟩ := hKA _ s2 hpo
    cases e2
    refine z_istore hR dLAW_law_629 (n := 631) rfl (by decide) rfl ?_
    refine z_aload_n hR dLAW_law_631 (n := 632) rfl rfl ?_
    refine z_aload_n hR dLAW_law_632 (n := 633) rfl rfl ?_
    refine z_iload hR dLAW_law_633 (n := 635) rfl rfl ?_
    refine z_iconst hR dLAW_law_635 (v := 1) (n := 636) rfl rfl ?_
    refine z_iadd hR dLAW_law_636 (n := 637) rfl ?_
    refine hsl (i + 1) dLAW_law_637 (n := 638) rfl (nI_1 i) (by omega) ?_
    refine z_aload_n hR dLAW_law_638 (n := 639) rfl rfl ?_
    refine z_iload hR dLAW_law_639 (n := 641) rfl rfl ?_
    refine z_iconst hR dLAW_law_641 (v := 2) (n := 642) rfl rfl ?_
    refine z_iadd hR dLAW_law_642 (n := 643) rfl ?_
    refine hsl (i + 2) dLAW_law_643 (n := 644) rfl (nI_p2 i) (by omega) ?_
    refine z_callV2 hR dLAW_law_644 (n := 647) rfl zcLAW_104 zkMO_witness ⟨by omega, by omega⟩ (Nat.le_of_ble_eq_true rfl) (by decide) rfl rfl (by omega) hB (fun r644 s644 h644 => ?_)
    obtain ⟨b, rfl, h45, h73, hI2⟩ := hKB r644 s644 h644
    refine z_istore hR dLAW_law_647 (n := 649) rfl (by decide) rfl ?_
    refine z_aload_n hR dLAW_law_649 (n := 650) rfl rfl ?_
    refine z_callV0 hR dLAW_law_650 (n := 653) rfl zcLAW_68 zkMO_thrown ⟨by omega, by omega⟩ (Nat.le_of_ble_eq_true rfl) (by decide) rfl rfl (by omega) (m_MO_thrown s644) (fun r650 s650 h650 => ?_)
    obtain ⟨rfl, rfl⟩ := h650
    refine z_iload hR dLAW_law_653 (n := 655) rfl rfl ?_
    refine z_icmp_eq hR dLAW_law_655 (t := 660) (n := 658) rfl rfl (fun _ => ?_) (fun h655 => absurd h45 h655)
    refine z_iload hR dLAW_law_660 (n := 662) rfl rfl ?_
    refine z_if_ne hR dLAW_law_662 (t := 677) (n := 665) rfl rfl (fun h662 => absurd h662 (fun h => h rfl)) (fun _ => ?_)
    refine z_aload_n hR dLAW_law_665 (n := 666) rfl rfl ?_
    refine z_iconst hR dLAW_law_666 (v := 0) (n := 667) rfl rfl ?_
    refine z_lald hR (0) dLAW_law_667 (n := 668) rfl (by decide) rfl (by decide) rfl (by decide) ?_
    refine z_iload hR dLAW_law_668 (n := 670) rfl rfl ?_
    refine z_i2l hR dLAW_law_670 (n := 671) rfl ?_
    refine z_lcmp hR dLAW_law_671 (n := 672) rfl ?_
    refine z_if_eq hR dLAW_law_672 (t := 677) (n := 675) rfl rfl (fun _ => ?_) (fun h672 => absurd (by rw [h73]; exact lg_same _) h672)
    refine z_goto hR dLAW_law_677 (t := 791) rfl ?_
    exact kk (k + 1) _ _ _ (by omega) hI2
  ·
    obtain ⟨hx, frB, loB, poB, hB, hfB, hlB, hKB⟩ := hTA x _ hpt
    refine z_istore hR dLAW_law_629 (n := 631) rfl (by decide) rfl ?_
    refine z_aload_n hR dLAW_law_631 (n := 632) rfl rfl ?_
    refine z_aload_n hR dLAW_law_632 (n := 633) rfl rfl ?_
    refine z_iload hR dLAW_law_633 (n := 635) rfl rfl ?_
    refine z_iconst hR dLAW_law_635 (v := 1) (n := 636) rfl rfl ?_
    refine z_iadd hR dLAW_law_636 (n := 637) rfl ?_
    refine hsl (i + 1) dLAW_law_637 (n := 638) rfl (nI_1 i) (by omega) ?_
    refine z_aload_n hR dLAW_law_638 (n := 639) rfl rfl ?_
    refine z_iload hR dLAW_law_639 (n := 641) rfl rfl ?_
    refine z_iconst hR dLAW_law_641 (v := 2) (n := 642) rfl rfl ?_
    refine z_iadd hR dLAW_law_642 (n := 643) rfl ?_
    refine hsl (i + 2) dLAW_law_643 (n := 644) rfl (nI_p2 i) (by omega) ?_
    refine z_callV2 hR dLAW_law_644 (n := 647) rfl zcLAW_104 zkMO_witness ⟨by omega, by omega⟩ (Nat.le_of_ble_eq_true rfl) (by decide) rfl rfl (by omega) hB (fun r644 s644 h644 => ?_)
    obtain ⟨⟨b, rfl⟩, h45, h0, hI2⟩ := hKB r644 s644 h644
    refine z_istore hR dLAW_law_647 (n := 649) rfl (by decide) rfl ?_
    refine z_aload_n hR dLAW_law_649 (n := 650) rfl rfl ?_
    refine z_callV0 hR dLAW_law_650 (n := 653) rfl zcLAW_68 zkMO_thrown ⟨by omega, by omega⟩ (Nat.le_of_ble_eq_true rfl) (by decide) rfl rfl (by omega) (m_MO_thrown s644) (fun r650 s650 h650 => ?_)
    obtain ⟨rfl, rfl⟩ := h650
    refine z_iload hR dLAW_law_653 (n := 655) rfl rfl ?_
    refine z_icmp_eq hR dLAW_law_655 (t := 660) (n := 658) rfl rfl (fun _ => ?_) (fun h655 => absurd h45 h655)
    refine z_iload hR dLAW_law_660 (n := 662) rfl rfl ?_
    refine z_if_ne hR dLAW_law_662 (t := 677) (n := 665) rfl rfl (fun _ => ?_) (fun h662 => absurd h662 h0)
    refine z_goto hR dLAW_law_677 (t := 791) rfl ?_
    exact kk (k + 1) _ _ _ (by omega) hI2
set_option maxRecDepth 100000 in
set_option maxHeartbeats 200000 in
theorem lc_judge {Z : Nat → Nat → List (Option Value) → List Value → zS → Prop} (hR : zR "PathCheckerLaw" code 7 2048 84000 601024 [] (some .boolean) (fun r _ => r = some (.int 1)) (fun _ _ => False) Z) {L i k : Nat} {xs : Nat → Int32} (hsl : lwSl Z L xs) (hi : i + 3 < L) (hkm : k + 2 ≤ 601024) {I : zS → Prop} {σ : zS} {l5 l6 : Option Value} (hS : sp_judge I σ (xs (i + 1)) (xs (i + 2))) (kk : ∀ (k2 : Nat) (σ2 : zS) (m5 m6 : Option Value), k2 ≤ k + 1 → I σ2 → Z k2 791 (lwL i m5 m6) [] σ2) : Z k 716 (lwL i l5 l6) [] σ := by
  obtain ⟨frA, loA, poA, ptA, hA, hfA, hlA, hKA, hTA⟩ := hS
  refine z_aload_n hR dLAW_law_716 (n := 717) rfl rfl ?_
  refine z_aload_n hR dLAW_law_717 (n := 718) rfl rfl ?_
  refine z_iload hR dLAW_law_718 (n := 720) rfl rfl ?_
  refine z_iconst hR dLAW_law_720 (v := 1) (n := 721) rfl rfl ?_
  refine z_iadd hR dLAW_law_721 (n := 722) rfl ?_
  refine hsl (i + 1) dLAW_law_722 (n := 723) rfl (nI_1 i) (by omega) ?_
  refine z_aload_n hR dLAW_law_723 (n := 724) rfl rfl ?_
  refine z_iload hR dLAW_law_724 (n := 726) rfl rfl ?_
  refine z_iconst hR dLAW_law_726 (v := 2) (n := 727) rfl rfl ?_
  refine z_iadd hR dLAW_law_727 (n := 728) rfl ?_
  refine hsl (i + 2) dLAW_law_728 (n := 729) rfl (nI_p2 i) (by omega) ?_
  refine z_aload_n hR dLAW_law_729 (n := 730) rfl rfl ?_
  refine z_callSW4 hR dLAW_law_730 (n := 733) rfl zcLAW_113 zkLAW_judge ⟨by omega, by omega⟩ (Nat.le_of_ble_eq_true rfl) (by omega) (h_judge (xs (i + 1)) (xs (i + 2)) hA hfA hlA (fun r s h => (hKA r s h).imp (fun _ q => q.1)) (fun x s h => (hTA x s h).1)) (fun r730 s730 h730 => ?_)
  rcases h730 with ⟨v, s2, hpo, rfl, rfl⟩ | ⟨x, s2, hpt, rfl, rfl⟩
  ·
    obtain ⟨v2, e2, frB, loB, poB, hB, hfB, hlB, hKB⟩ := hKA _ s2 hpo
    cases e2
    refine z_istore hR dLAW_law_733 (n := 735) rfl (by decide) rfl ?_
    refine z_aload_n hR dLAW_law_735 (n := 736) rfl rfl ?_
    refine z_aload_n hR dLAW_law_736 (n := 737) rfl rfl ?_
    refine z_iload hR dLAW_law_737 (n := 739) rfl rfl ?_
    refine z_iconst hR dLAW_law_739 (v := 1) (n := 740) rfl rfl ?_
    refine z_iadd hR dLAW_law_740 (n := 741) rfl ?_
    refine hsl (i + 1) dLAW_law_741 (n := 742) rfl (nI_1 i) (by omega) ?_
    refine z_aload_n hR dLAW_law_742 (n := 743) rfl rfl ?_
    refine z_iload hR dLAW_law_743 (n := 745) rfl rfl ?_
    refine z_iconst hR dLAW_law_745 (v := 2) (n := 746) rfl rfl ?_
    refine z_iadd hR dLAW_law_746 (n := 747) rfl ?_
    refine hsl (i + 2) dLAW_law_747 (n := 748) rfl (nI_p2 i) (by omega) ?_
    refine z_callV2 hR dLAW_law_748 (n := 751) rfl zcLAW_115 zkMO_judge ⟨by omega, by omega⟩ (Nat.le_of_ble_eq_true rfl) (by decide) rfl rfl (by omega) hB (fun r748 s748 h748 => ?_)
    obtain ⟨b, rfl, h45, h73, hI2⟩ := hKB r748 s748 h748
    refine z_istore hR dLAW_law_751 (n := 753) rfl (by decide) rfl ?_
    refine z_aload_n hR dLAW_law_753 (n := 754) rfl rfl ?_
    refine z_callV0 hR dLAW_law_754 (n := 757) rfl zcLAW_68 zkMO_thrown ⟨by omega, by omega⟩ (Nat.le_of_ble_eq_true rfl) (by decide) rfl rfl (by omega) (m_MO_thrown s748) (fun r754 s754 h754 => ?_)
    obtain ⟨rfl, rfl⟩ := h754
    refine z_iload hR dLAW_law_757 (n := 759) rfl rfl ?_
    refine z_icmp_eq hR dLAW_law_759 (t := 764) (n := 762) rfl rfl (fun _ => ?_) (fun h759 => absurd h45 h759)
    refine z_iload hR dLAW_law_764 (n := 766) rfl rfl ?_
    refine z_if_ne hR dLAW_law_766 (t := 788) (n := 769) rfl rfl (fun h766 => absurd h766 (fun h => h rfl)) (fun _ => ?_)
    refine z_aload_n hR dLAW_law_769 (n := 770) rfl rfl ?_
    refine z_iconst hR dLAW_law_770 (v := 0) (n := 771) rfl rfl ?_
    refine z_lald hR (0) dLAW_law_771 (n := 772) rfl (by decide) rfl (by decide) rfl (by decide) ?_
    refine z_iload hR dLAW_law_772 (n := 774) rfl rfl ?_
    refine z_if_eq hR dLAW_law_774 (t := 781) (n := 777) rfl rfl (fun h774 => ?_) (fun h774 => ?_)
    · refine z_lconst hR dLAW_law_781 (v := 0) (n := 782) rfl rfl ?_
      refine z_lcmp hR dLAW_law_782 (n := 783) rfl ?_
      refine z_if_eq hR dLAW_law_783 (t := 788) (n := 786) rfl rfl (fun _ => ?_) (fun h783 => absurd (by first | (rw [h73, if_pos h774]; exact lg_same _) | (rw [h73, if_neg h774]; exact lg_same _)) h783)
      refine z_goto hR dLAW_law_788 (t := 791) rfl ?_
      exact kk (k + 1) _ _ _ (by omega) hI2
    · refine z_lconst hR dLAW_law_777 (v := 1) (n := 778) rfl rfl ?_
      refine z_goto hR dLAW_law_778 (t := 782) rfl ?_
      refine z_lcmp hR dLAW_law_782 (n := 783) rfl ?_
      refine z_if_eq hR dLAW_law_783 (t := 788) (n := 786) rfl rfl (fun _ => ?_) (fun h783 => absurd (by first | (rw [h73, if_pos h774]; exact lg_same _) | (rw [h73, if_neg h774]; exact lg_same _)) h783)
      refine z_goto hR dLAW_law_788 (t := 791) rfl ?_
      exact kk (k + 1) _ _ _ (by omega) hI2
  ·
    obtain ⟨hx, frB, loB, poB, hB, hfB, hlB, hKB⟩ := hTA x _ hpt
    refine z_istore hR dLAW_law_733 (n := 735) rfl (by decide) rfl ?_
    refine z_aload_n hR dLAW_law_735 (n := 736) rfl rfl ?_
    refine z_aload_n hR dLAW_law_736 (n := 737) rfl rfl ?_
    refine z_iload hR dLAW_law_737 (n := 739) rfl rfl ?_
    refine z_iconst hR dLAW_law_739 (v := 1) (n := 740) rfl rfl ?_
    refine z_iadd hR dLAW_law_740 (n := 741) rfl ?_
    refine hsl (i + 1) dLAW_law_741 (n := 742) rfl (nI_1 i) (by omega) ?_
    refine z_aload_n hR dLAW_law_742 (n := 743) rfl rfl ?_
    refine z_iload hR dLAW_law_743 (n := 745) rfl rfl ?_
    refine z_iconst hR dLAW_law_745 (v := 2) (n := 746) rfl rfl ?_
    refine z_iadd hR dLAW_law_746 (n := 747) rfl ?_
    refine hsl (i + 2) dLAW_law_747 (n := 748) rfl (nI_p2 i) (by omega) ?_
    refine z_callV2 hR dLAW_law_748 (n := 751) rfl zcLAW_115 zkMO_judge ⟨by omega, by omega⟩ (Nat.le_of_ble_eq_true rfl) (by decide) rfl rfl (by omega) hB (fun r748 s748 h748 => ?_)
    obtain ⟨⟨b, rfl⟩, h45, h0, hI2⟩ := hKB r748 s748 h748
    refine z_istore hR dLAW_law_751 (n := 753) rfl (by decide) rfl ?_
    refine z_aload_n hR dLAW_law_753 (n := 754) rfl rfl ?_
    refine z_callV0 hR dLAW_law_754 (n := 757) rfl zcLAW_68 zkMO_thrown ⟨by omega, by omega⟩ (Nat.le_of_ble_eq_true rfl) (by decide) rfl rfl (by omega) (m_MO_thrown s748) (fun r754 s754 h754 => ?_)
    obtain ⟨rfl, rfl⟩ := h754
    refine z_iload hR dLAW_law_757 (n := 759) rfl rfl ?_
    refine z_icmp_eq hR dLAW_law_759 (t := 764) (n := 762) rfl rfl (fun _ => ?_) (fun h759 => absurd h45 h759)
    refine z_iload hR dLAW_law_764 (n := 766) rfl rfl ?_
    refine z_if_ne hR dLAW_law_766 (t := 788) (n := 769) rfl rfl (fun _ => ?_) (fun h766 => absurd h766 h0)
    refine z_goto hR dLAW_law_788 (t := 791) rfl ?_
    exact kk (k + 1) _ _ _ (by omega) hI2
/-- everything that the sixteen cases ask, from I0 to I1 -/
def lwAll (I0 I1 : zS → Prop) : Prop := ∀ σ, I0 σ → (∀ x, sp_type I1 σ x) ∧ sp_wipe I1 σ ∧ sp_length I1 σ ∧ sp_formula I1 σ ∧ (∀ a, sp_normal I1 σ a) ∧ (∀ a b, sp_mark I1 σ a b) ∧ (∀ a b, sp_link I1 σ a b 0 ∧ sp_link I1 σ a b 1) ∧ (∀ a b, sp_state I1 σ a b) ∧ (∀ a, sp_endless I1 σ a) ∧ (∀ a, sp_keeps I1 σ a) ∧ sp_breaking I1 σ ∧ sp_keeping I1 σ ∧ (∀ a b, sp_witness I1 σ a b) ∧ (∀ a, sp_go I1 σ a) ∧ sp_clear I1 σ ∧ (∀ a b, sp_judge I1 σ a b)
set_option maxRecDepth 100000 in
set_option maxHeartbeats 400000 in
theorem lw_case {Z : Nat → Nat → List (Option Value) → List Value → zS → Prop} (hR : zR "PathCheckerLaw" code 7 2048 84000 601024 [] (some .boolean) (fun r _ => r = some (.int 1)) (fun _ _ => False) Z) {L i k : Nat} {xs : Nat → Int32} (hsl : lwSl Z L xs) (hi : i + 3 < L) (hkm : k + 2 ≤ 601024) {I0 I : zS → Prop} {σ : zS} {l5 l6 : Option Value} (hI : I0 σ) (hA : lwAll I0 I) (kk : ∀ (k2 : Nat) (σ2 : zS) (m5 m6 : Option Value), k2 ≤ k + 1 → I σ2 → Z k2 791 (lwL i m5 m6) [] σ2) : Z k 39 (lwL i l5 l6) [.int (xs i &&& 15)] σ := by
  obtain ⟨H0, H1, H2, H3, H4, H5, H6, H7, H8, H9, H10, H11, H12, H13, H14, H15⟩ := hA σ hI
  obtain ⟨j, hj, ej⟩ := pk_andE (xs i) (m := 15) 4 (by decide)
  rw [ej]
  have hj2 : j = 0 ∨ j = 1 ∨ j = 2 ∨ j = 3 ∨ j = 4 ∨ j = 5 ∨ j = 6 ∨ j = 7 ∨ j = 8 ∨ j = 9 ∨ j = 10 ∨ j = 11 ∨ j = 12 ∨ j = 13 ∨ j = 14 ∨ j = 15 := by omega
  rcases hj2 with rfl | rfl | rfl | rfl | rfl | rfl | rfl | rfl | rfl | rfl | rfl | rfl | rfl | rfl | rfl | rfl
  · refine z_tableIn hR dLAW_law_39 (t := 116) (off := 77) (by decide) (by decide) (by decide +kernel) rfl ?_
    exact lc_type hR hsl hi hkm (H0 _) kk
  · refine z_tableIn hR dLAW_law_39 (t := 173) (off := 134) (by decide) (by decide) (by decide +kernel) rfl ?_
    exact lc_wipe hR hsl hi hkm (H1) kk
  · refine z_tableIn hR dLAW_law_39 (t := 184) (off := 145) (by decide) (by decide) (by decide +kernel) rfl ?_
    exact lc_length hR hsl hi hkm (H2) kk
  · refine z_tableIn hR dLAW_law_39 (t := 197) (off := 158) (by decide) (by decide) (by decide +kernel) rfl ?_
    exact lc_formula hR hsl hi hkm (H3) kk
  · refine z_tableIn hR dLAW_law_39 (t := 241) (off := 202) (by decide) (by decide) (by decide +kernel) rfl ?_
    exact lc_normal hR hsl hi hkm (H4 _) kk
  · refine z_tableIn hR dLAW_law_39 (t := 297) (off := 258) (by decide) (by decide) (by decide +kernel) rfl ?_
    exact lc_mark hR hsl hi hkm (H5 _ _) kk
  · refine z_tableIn hR dLAW_law_39 (t := 334) (off := 295) (by decide) (by decide) (by decide +kernel) rfl ?_
    by_cases h3 : xs (i + 3) = 0
    · exact lc_link0 hR hsl hi hkm h3 (H6 _ _).1 kk
    · exact lc_link1 hR hsl hi hkm h3 (H6 _ _).2 kk
  · refine z_tableIn hR dLAW_law_39 (t := 399) (off := 360) (by decide) (by decide) (by decide +kernel) rfl ?_
    exact lc_state hR hsl hi hkm (H7 _ _) kk
  · refine z_tableIn hR dLAW_law_39 (t := 436) (off := 397) (by decide) (by decide) (by decide +kernel) rfl ?_
    exact lc_endless hR hsl hi hkm (H8 _) kk
  · refine z_tableIn hR dLAW_law_39 (t := 461) (off := 422) (by decide) (by decide) (by decide +kernel) rfl ?_
    exact lc_keeps hR hsl hi hkm (H9 _) kk
  · refine z_tableIn hR dLAW_law_39 (t := 524) (off := 485) (by decide) (by decide) (by decide +kernel) rfl ?_
    exact lc_breaking hR hsl hi hkm (H10) kk
  · refine z_tableIn hR dLAW_law_39 (t := 568) (off := 529) (by decide) (by decide) (by decide +kernel) rfl ?_
    exact lc_keeping hR hsl hi hkm (H11) kk
  · refine z_tableIn hR dLAW_law_39 (t := 612) (off := 573) (by decide) (by decide) (by decide +kernel) rfl ?_
    exact lc_witness hR hsl hi hkm (H12 _ _) kk
  · refine z_tableIn hR dLAW_law_39 (t := 680) (off := 641) (by decide) (by decide) (by decide +kernel) rfl ?_
    exact lc_go hR hsl hi hkm (H13 _) kk
  · refine z_tableIn hR dLAW_law_39 (t := 705) (off := 666) (by decide) (by decide) (by decide +kernel) rfl ?_
    exact lc_clear hR hsl hi hkm (H14) kk
  · refine z_tableIn hR dLAW_law_39 (t := 716) (off := 677) (by decide) (by decide) (by decide +kernel) rfl ?_
    exact lc_judge hR hsl hi hkm (H15 _ _) kk
