/-! THE SMALL MACHINE: the world is a fixed list of cells (zsh says their shapes); what changes are numbers: zS -/
/-- the numbers of the world: slots and elements of int kind, elements of long kind; by place and index -/
abbrev zS : Type := (Nat → Nat → Int32) × (Nat → Nat → Int64)
def zwA (σ : zS) (o j : Nat) (x : Int32) : zS := (va_up σ.1 o (upd (σ.1 o) j x), σ.2)
def zwL (σ : zS) (o j : Nat) (x : Int64) : zS := (σ.1, va_up σ.2 o (vp_updL (σ.2 o) j x))
theorem zwA_1 (σ : zS) (o j : Nat) (x : Int32) (o2 j2 : Nat) : (zwA σ o j x).1 o2 j2 = if o2 = o then (if j2 = j then x else σ.1 o2 j2) else σ.1 o2 j2 := by
  by_cases h : o2 = o
  · subst h
    simp [zwA, va_up, upd]
  · simp [zwA, va_up, h]
theorem zwA_2 (σ : zS) (o j : Nat) (x : Int32) : (zwA σ o j x).2 = σ.2 := rfl
theorem zwL_1 (σ : zS) (o j : Nat) (x : Int64) : (zwL σ o j x).1 = σ.1 := rfl
theorem zwL_2 (σ : zS) (o j : Nat) (x : Int64) (o2 j2 : Nat) : (zwL σ o j x).2 o2 j2 = if o2 = o then (if j2 = j then x else σ.2 o2 j2) else σ.2 o2 j2 := by
  by_cases h : o2 = o
  · subst h
    simp [zwL, va_up, vp_updL]
  · simp [zwL, va_up, h]
/-- a value of the machine: its references are places -/
def zv (ad : Nat → Nat) (v : Value) : Value := match v with
  | .ref o => .ref (ad o)
  | w => w
theorem zv_cat (ad : Nat → Nat) (v : Value) : (zv ad v).category = v.category := by cases v <;> rfl
def zfs (ad : Nat → Nat) (f : Nat → Int32) : Nat → List (Option Nat) → List Value
  | _, [] => []
  | j, none :: t => .int (f j) :: zfs ad f (j + 1) t
  | j, some o :: t => .ref (ad o) :: zfs ad f (j + 1) t
theorem zfs_len (ad : Nat → Nat) (f : Nat → Int32) : ∀ (rs : List (Option Nat)) (j : Nat), (zfs ad f j rs).length = rs.length
  | [], _ => rfl
  | none :: t, j => by simp [zfs, zfs_len ad f t (j + 1)]
  | some o :: t, j => by simp [zfs, zfs_len ad f t (j + 1)]
theorem zfs_int' (ad : Nat → Nat) (f : Nat → Int32) : ∀ (rs : List (Option Nat)) (j k : Nat), rs[k]? = some none → (zfs ad f j rs)[k]? = some (.int (f (j + k)))
  | [], _, _, h => by simp at h
  | none :: t, j, 0, _ => rfl
  | some o :: t, j, 0, h => by simp at h
  | none :: t, j, k + 1, h => by
    have h1 := zfs_int' ad f t (j + 1) k (by simpa using h)
    rw [show j + (k + 1) = j + 1 + k by omega]
    simpa [zfs] using h1
  | some o :: t, j, k + 1, h => by
    have h1 := zfs_int' ad f t (j + 1) k (by simpa using h)
    rw [show j + (k + 1) = j + 1 + k by omega]
    simpa [zfs] using h1
theorem zfs_ref' (ad : Nat → Nat) (f : Nat → Int32) : ∀ (rs : List (Option Nat)) (j k o : Nat), rs[k]? = some (some o) → (zfs ad f j rs)[k]? = some (.ref (ad o))
  | [], _, _, _, h => by simp at h
  | none :: t, j, 0, _, h => by simp at h
  | some o2 :: t, j, 0, o, h => by
    simp at h
    subst h
    rfl
  | none :: t, j, k + 1, o, h => by
    have h1 := zfs_ref' ad f t (j + 1) k o (by simpa using h)
    simpa [zfs] using h1
  | some o2 :: t, j, k + 1, o, h => by
    have h1 := zfs_ref' ad f t (j + 1) k o (by simpa using h)
    simpa [zfs] using h1
theorem zfs_int {ad : Nat → Nat} {f : Nat → Int32} {rs : List (Option Nat)} {k : Nat} (h : rs[k]? = some none) : (zfs ad f 0 rs)[k]? = some (.int (f k)) := by
  have h1 := zfs_int' ad f rs 0 k h
  rwa [Nat.zero_add] at h1
theorem zfs_ref {ad : Nat → Nat} {f : Nat → Int32} {rs : List (Option Nat)} {k o : Nat} (h : rs[k]? = some (some o)) : (zfs ad f 0 rs)[k]? = some (.ref (ad o)) := zfs_ref' ad f rs 0 k o h
theorem zfs_same (ad : Nat → Nat) (f g : Nat → Int32) : ∀ (rs : List (Option Nat)) (j : Nat), (∀ k, j ≤ k → f k = g k) → zfs ad f j rs = zfs ad g j rs
  | [], _, _ => rfl
  | none :: t, j, h => by rw [zfs, zfs, h j (Nat.le_refl _), zfs_same ad f g t (j + 1) (fun k hk => h k (by omega))]
  | some o :: t, j, h => by rw [zfs, zfs, zfs_same ad f g t (j + 1) (fun k hk => h k (by omega))]
theorem zfs_set' (ad : Nat → Nat) (f : Nat → Int32) (x : Int32) : ∀ (rs : List (Option Nat)) (j k : Nat), rs[k]? = some none → (zfs ad f j rs).set k (.int x) = zfs ad (upd f (j + k) x) j rs
  | [], _, _, h => by simp at h
  | none :: t, j, 0, _ => by
    simp only [zfs, List.set_cons_zero, Nat.add_zero]
    rw [show upd f j x j = x by simp [upd], zfs_same ad f (upd f j x) t (j + 1) (fun k hk => by simp [upd]; omega)]
  | some o :: t, j, 0, h => by simp at h
  | none :: t, j, k + 1, h => by
    have h1 := zfs_set' ad f x t (j + 1) k (by simpa using h)
    simp only [zfs, List.set_cons_succ]
    rw [h1, show j + 1 + k = j + (k + 1) by omega, show upd f (j + (k + 1)) x j = f j by simp [upd]]
  | some o :: t, j, k + 1, h => by
    have h1 := zfs_set' ad f x t (j + 1) k (by simpa using h)
    simp only [zfs, List.set_cons_succ]
    rw [h1, show j + 1 + k = j + (k + 1) by omega]
theorem zfs_set {ad : Nat → Nat} {f : Nat → Int32} {x : Int32} {rs : List (Option Nat)} {k : Nat} (h : rs[k]? = some none) : (zfs ad f 0 rs).set k (.int x) = zfs ad (upd f k x) 0 rs := by
  have h1 := zfs_set' ad f x rs 0 k h
  rwa [Nat.zero_add] at h1
/-- the cells -/
def zcell (ad : Nat → Nat) (ca : Nat → ClassId) (σ : zS) (o : Nat) : va_E := match zsh o with
  | .inl q => if q.1 = 3 then .inl (ca q.1, q.2, .inr (.inl (σ.2 o))) else .inl (ca q.1, q.2, .inl (σ.1 o))
  | .inr q => .inr (q.1, zfs ad (σ.1 o) 0 q.2)
def zws (ad : Nat → Nat) (ca : Nat → ClassId) (σ : zS) : va_W := (List.range zN).map (fun o => (ad o, zcell ad ca σ o))
theorem zcell_ne {ad : Nat → Nat} {ca : Nat → ClassId} {σ σ2 : zS} {o : Nat} (h : σ2.1 o = σ.1 o) (h2 : σ2.2 o = σ.2 o) : zcell ad ca σ2 o = zcell ad ca σ o := by
  unfold zcell
  rw [h, h2]
theorem zws_at {ad : Nat → Nat} {ca : Nat → ClassId} {σ : zS} {o : Nat} (ho : o < zN) : (zws ad ca σ)[o]? = some (ad o, zcell ad ca σ o) := by
  simp [zws, ho]
theorem zws_obj {ad : Nat → Nat} {ca : Nat → ClassId} {σ : zS} {o ci : Nat} {rs : List (Option Nat)} (ho : o < zN) (hs : zsh o = .inr (ci, rs)) : (zws ad ca σ)[o]? = some (ad o, .inr (ci, zfs ad (σ.1 o) 0 rs)) := by
  rw [zws_at ho]
  simp [zcell, hs]
theorem zws_arr {ad : Nat → Nat} {ca : Nat → ClassId} {σ : zS} {o k n : Nat} (ho : o < zN) (hs : zsh o = .inl (k, n)) (hk : k ≠ 3) : (zws ad ca σ)[o]? = some (ad o, .inl (ca k, n, .inl (σ.1 o))) := by
  rw [zws_at ho]
  simp [zcell, hs, hk]
theorem zws_arrL {ad : Nat → Nat} {ca : Nat → ClassId} {σ : zS} {o n : Nat} (ho : o < zN) (hs : zsh o = .inl (3, n)) : (zws ad ca σ)[o]? = some (ad o, .inl (ca 3, n, .inr (.inl (σ.2 o)))) := by
  rw [zws_at ho]
  simp [zcell, hs]
theorem zws_set {ad : Nat → Nat} {ca : Nat → ClassId} {σ σ2 : zS} {o : Nat} {e : va_E} (ho : o < zN) (he : e = zcell ad ca σ2 o) (h : ∀ i, i ≠ o → σ2.1 i = σ.1 i ∧ σ2.2 i = σ.2 i) : (zws ad ca σ).set o (ad o, e) = zws ad ca σ2 := by
  refine List.ext_getElem? (fun i => ?_)
  rw [List.getElem?_set]
  by_cases e1 : o = i
  · subst e1
    rw [if_pos rfl, zws_at ho, if_pos (by simp [zws, ho]), he]
  · rw [if_neg e1]
    by_cases hi : i < zN
    · rw [zws_at hi, zws_at hi, zcell_ne (h i (Ne.symm e1)).1 (h i (Ne.symm e1)).2]
    · rw [List.getElem?_eq_none (by simp [zws]; omega), List.getElem?_eq_none (by simp [zws]; omega)]
theorem zws_setA {ad : Nat → Nat} {ca : Nat → ClassId} {σ : zS} {o k n j : Nat} {x : Int32} (ho : o < zN) (hs : zsh o = .inl (k, n)) (hk : k ≠ 3) : (zws ad ca σ).set o (ad o, .inl (ca k, n, .inl (upd (σ.1 o) j x))) = zws ad ca (zwA σ o j x) :=
  zws_set ho (by simp [zcell, hs, hk, zwA, va_up]) (fun i hi => ⟨by simp [zwA, va_up, hi], rfl⟩)
theorem zws_setL {ad : Nat → Nat} {ca : Nat → ClassId} {σ : zS} {o n j : Nat} {x : Int64} (ho : o < zN) (hs : zsh o = .inl (3, n)) : (zws ad ca σ).set o (ad o, .inl (ca 3, n, .inr (.inl (vp_updL (σ.2 o) j x)))) = zws ad ca (zwL σ o j x) :=
  zws_set ho (by simp [zcell, hs, zwL, va_up]) (fun i hi => ⟨rfl, by simp [zwL, va_up, hi]⟩)
theorem zws_setF {ad : Nat → Nat} {ca : Nat → ClassId} {σ : zS} {o ci j : Nat} {rs : List (Option Nat)} {x : Int32} (ho : o < zN) (hs : zsh o = .inr (ci, rs)) (hj : rs[j]? = some none) : (zws ad ca σ).set o (ad o, .inr (ci, (zfs ad (σ.1 o) 0 rs).set j (.int x))) = zws ad ca (zwA σ o j x) :=
  zws_set ho (by rw [zfs_set hj]; simp [zcell, hs, zwA, va_up]) (fun i hi => ⟨by simp [zwA, va_up, hi], rfl⟩)
/-- the locals: a list by place, 'none' where nothing is known -/
def zLv (ad : Nat → Nat) : Nat → List (Option Value) → List (Nat × Value)
  | _, [] => []
  | i, none :: t => zLv ad (i + 1) t
  | i, some v :: t => (i, zv ad v) :: zLv ad (i + 1) t
def zLok (lv : List (Option Value)) : Nat → Bool
  | 0 => true
  | i + 1 => match lv[i]? with
    | some (some (.long _)) => false
    | some (some (.double _)) => false
    | _ => true
theorem zLv_mem (ad : Nat → Nat) : ∀ (lv : List (Option Value)) (j i : Nat) (v : Value), lv[i]? = some (some v) → (j + i, zv ad v) ∈ zLv ad j lv
  | [], _, _, _, h => by simp at h
  | none :: t, j, 0, v, h => by simp at h
  | some w :: t, j, 0, v, h => by
    simp at h
    subst h
    exact List.mem_cons_self
  | none :: t, j, i + 1, v, h => by
    have h1 := zLv_mem ad t (j + 1) i v (by simpa using h)
    rw [show j + (i + 1) = j + 1 + i by omega]
    exact h1
  | some w :: t, j, i + 1, v, h => by
    have h1 := zLv_mem ad t (j + 1) i v (by simpa using h)
    rw [show j + (i + 1) = j + 1 + i by omega]
    exact List.mem_cons_of_mem _ h1
theorem zLv_of (ad : Nat → Nat) : ∀ (lv : List (Option Value)) (j : Nat) (q : Nat × Value), q ∈ zLv ad j lv → ∃ (i : Nat) (v : Value), q = (j + i, zv ad v) ∧ lv[i]? = some (some v)
  | [], _, _, h => by cases h
  | none :: t, j, q, h => by
    obtain ⟨i, v, h1, h2⟩ := zLv_of ad t (j + 1) q h
    exact ⟨i + 1, v, by rw [h1, show j + (i + 1) = j + 1 + i by omega], by simpa using h2⟩
  | some w :: t, j, q, h => by
    rcases List.mem_cons.mp h with h | h
    · exact ⟨0, w, h, rfl⟩
    · obtain ⟨i, v, h1, h2⟩ := zLv_of ad t (j + 1) q h
      exact ⟨i + 1, v, by rw [h1, show j + (i + 1) = j + 1 + i by omega], by simpa using h2⟩
theorem zLv_at {ls : Array Slot} {nL : Nat} {ad : Nat → Nat} {lv : List (Option Value)} {i : Nat} {v : Value} (h : lv_has ls nL (zLv ad 0 lv)) (hv : lv[i]? = some (some v)) : ls[i]? = some (.val (zv ad v)) := by
  have h1 := h.2.2 _ (zLv_mem ad lv 0 i v hv)
  simpa using h1
theorem zLv_place {ad : Nat → Nat} {lv : List (Option Value)} {i : Nat} {x : Int32} (hv : lv[i]? = some (some (.int x))) : ∃ j : Nat, (zLv ad 0 lv)[j]? = some (i, .int x) := by
  have h1 := zLv_mem ad lv 0 i _ hv
  obtain ⟨j, hj⟩ := List.getElem?_of_mem h1
  exact ⟨j, by rw [hj]; simp [zv]⟩
theorem zLok_cat {ad : Nat → Nat} {lv : List (Option Value)} {i : Nat} {v : Value} (ho : zLok lv (i + 1) = true) (hv : lv[i]? = some (some v)) : ((zv ad v).category == 2) = false := by
  cases v <;> simp_all [zLok, zv, Value.category]
theorem zLv_set1 {ls : Array Slot} {nL : Nat} {ad : Nat → Nat} {lv : List (Option Value)} {i : Nat} {v : Value} (h : lv_has ls nL ((i, zv ad v) :: (zLv ad 0 lv).filter (fun q => !(q.1 == i) && !(q.1 + 1 == i && q.2.category == 2)))) (ho : zLok lv i = true) : lv_has ls nL (zLv ad 0 (lv.set i (some v))) := by
  refine ⟨h.1, h.2.1, fun q hq => ?_⟩
  obtain ⟨j, w, rfl, hw⟩ := zLv_of ad _ _ _ hq
  apply h.2.2
  rw [List.getElem?_set] at hw
  by_cases e : i = j
  · subst e
    rw [if_pos rfl] at hw
    split at hw
    · cases hw
      simp
    · cases hw
  · rw [if_neg e] at hw
    refine List.mem_cons_of_mem _ (List.mem_filter.mpr ⟨zLv_mem ad _ 0 _ _ hw, ?_⟩)
    have h1 : (0 + j == i) = false := by simp; omega
    by_cases e2 : j + 1 = i
    · subst e2
      rw [h1, zLok_cat (ad := ad) ho hw, Bool.and_false]
      rfl
    · have h2 : (0 + j + 1 == i) = false := by simp; omega
      rw [h1, h2]
      rfl
theorem zLv_set2 {ls : Array Slot} {nL : Nat} {ad : Nat → Nat} {lv : List (Option Value)} {i : Nat} {x : Int64} (h : lv_has ls nL ((i, .long x) :: (zLv ad 0 lv).filter (fun q => !(q.1 == i) && (!(q.1 == i + 1) && !(q.1 + 1 == i && q.2.category == 2))))) (ho : zLok lv i = true) : lv_has ls nL (zLv ad 0 ((lv.set i (some (.long x))).set (i + 1) none)) := by
  refine ⟨h.1, h.2.1, fun q hq => ?_⟩
  obtain ⟨j, w, rfl, hw⟩ := zLv_of ad _ _ _ hq
  apply h.2.2
  rw [List.getElem?_set] at hw
  by_cases e0 : i + 1 = j
  · rw [if_pos e0] at hw
    split at hw
    · cases hw
    · cases hw
  · rw [if_neg e0, List.getElem?_set] at hw
    by_cases e : i = j
    · subst e
      rw [if_pos rfl] at hw
      split at hw
      · cases hw
        simp [zv]
      · cases hw
    · rw [if_neg e] at hw
      refine List.mem_cons_of_mem _ (List.mem_filter.mpr ⟨zLv_mem ad _ 0 _ _ hw, ?_⟩)
      have h1 : (0 + j == i) = false := by simp; omega
      have h3 : (0 + j == i + 1) = false := by simp; omega
      by_cases e2 : j + 1 = i
      · subst e2
        rw [h1, h3, zLok_cat (ad := ad) ho hw, Bool.and_false]
        rfl
      · have h2 : (0 + j + 1 == i) = false := by simp; omega
        rw [h1, h2, h3]
        rfl
