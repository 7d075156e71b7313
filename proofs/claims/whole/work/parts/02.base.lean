/-! a program over a memory of places: ints, longs, references that change; and the machine that runs alongside -/
def sm_GW : List Cond := lw_tbl.filter goodWord
theorem sm_w {w : Cond} (i : Nat) (h : lw_tbl[i]? = some w) (g : goodWord w = true) : w ∈ sm_GW := List.mem_filter.mpr ⟨List.mem_of_getElem? h, g⟩
abbrev sm_St : Type := (Nat → Nat → Int32) × (Nat → Nat → Int64) × (Nat → Nat → Nat)
def sm_sI (S : sm_St) (p k : Nat) (v : Int32) : sm_St := (va_up S.1 p (upd (S.1 p) k v), S.2.1, S.2.2)
def sm_sL (S : sm_St) (p k : Nat) (v : Int64) : sm_St := (S.1, va_up S.2.1 p (vp_updL (S.2.1 p) k v), S.2.2)
def sm_sR (S : sm_St) (p k v : Nat) : sm_St := (S.1, S.2.1, va_up S.2.2 p (va_up (S.2.2 p) k v))
def sm_sF (S : sm_St) (p : Nat) (f : Nat → Int32) : sm_St := (va_up S.1 p f, S.2.1, S.2.2)
def sm_lt {α β : Type} (x : α) (f : α → β) : β := f x
def sm_in (i : Int32) (n : Nat) : Bool := decide (0 ≤ i.toInt) && decide (i.toInt < n)
theorem sm_in_vp {i : Int32} {n : Nat} (h : sm_in i n = true) : vp_in i n := by
  unfold sm_in at h
  rw [Bool.and_eq_true, decide_eq_true_eq, decide_eq_true_eq] at h
  exact vp_in_iff.mpr h
abbrev sm_Wc : Type := va_G × (Nat → ClassId) × (Nat → Nat)
abbrev sm_Sy : Type := (Nat → Nat × Nat) × (Nat → List (Option Nat)) × Nat × (sm_Wc → State → Prop)
def sm_fs (ad : Nat → Nat) (f : Nat → Int32) (p : Nat) : Nat → List (Option Nat) → List Value
  | _, [] => []
  | k, some d :: l => .ref (ad (p + d)) :: sm_fs ad f p (k + 1) l
  | k, none :: l => .int (f k) :: sm_fs ad f p (k + 1) l
theorem sm_fs_i {ad : Nat → Nat} {f : Nat → Int32} {p : Nat} : ∀ (l : List (Option Nat)) (k j : Nat), l[j]? = some none → (sm_fs ad f p k l)[j]? = some (.int (f (k + j)))
  | [], k, j, h => by simp at h
  | a :: l, k, 0, h => by
    simp only [List.getElem?_cons_zero, Option.some.injEq] at h
    subst h
    simp [sm_fs]
  | a :: l, k, j + 1, h => by
    rw [List.getElem?_cons_succ] at h
    have := sm_fs_i (ad := ad) (f := f) (p := p) l (k + 1) j h
    rw [show k + (j + 1) = k + 1 + j by omega]
    cases a <;> simpa [sm_fs] using this
theorem sm_fs_r {ad : Nat → Nat} {f : Nat → Int32} {p d : Nat} : ∀ (l : List (Option Nat)) (k j : Nat), l[j]? = some (some d) → (sm_fs ad f p k l)[j]? = some (.ref (ad (p + d)))
  | [], k, j, h => by simp at h
  | a :: l, k, 0, h => by
    simp only [List.getElem?_cons_zero, Option.some.injEq] at h
    subst h
    simp [sm_fs]
  | a :: l, k, j + 1, h => by
    rw [List.getElem?_cons_succ] at h
    have := sm_fs_r (ad := ad) (f := f) (p := p) l (k + 1) j h
    cases a <;> simpa [sm_fs] using this
theorem sm_fs_len {ad : Nat → Nat} {f : Nat → Int32} {p : Nat} : ∀ (l : List (Option Nat)) (k : Nat), (sm_fs ad f p k l).length = l.length
  | [], k => rfl
  | a :: l, k => by
    have := sm_fs_len (ad := ad) (f := f) (p := p) l (k + 1)
    cases a <;> simp [sm_fs, this]
theorem sm_fs_up {ad : Nat → Nat} {f : Nat → Int32} {p n : Nat} {v : Int32} : ∀ (l : List (Option Nat)) (k : Nat), n < k → sm_fs ad (upd f n v) p k l = sm_fs ad f p k l
  | [], k, _ => rfl
  | a :: l, k, h => by
    have := sm_fs_up (ad := ad) (f := f) (p := p) (v := v) l (k + 1) (Nat.lt_succ_of_lt h)
    cases a <;> simp [sm_fs, this, upd, show ¬ k = n by omega]
theorem sm_fs_set {ad : Nat → Nat} {f : Nat → Int32} {p : Nat} {v : Int32} : ∀ (l : List (Option Nat)) (k j : Nat), l[j]? = some none → (sm_fs ad f p k l).set j (.int v) = sm_fs ad (upd f (k + j) v) p k l
  | [], k, j, h => by simp at h
  | a :: l, k, 0, h => by
    simp only [List.getElem?_cons_zero, Option.some.injEq] at h
    subst h
    simp [sm_fs, sm_fs_up l (k + 1) (Nat.lt_succ_self k), upd]
  | a :: l, k, j + 1, h => by
    rw [List.getElem?_cons_succ] at h
    have := sm_fs_set (ad := ad) (f := f) (p := p) (v := v) l (k + 1) j h
    rw [show k + (j + 1) = k + 1 + j by omega]
    cases a <;> simp [sm_fs, this, upd, show ¬ k = k + 1 + j by omega]
def sm_cel (sy : sm_Sy) (wc : sm_Wc) (S : sm_St) (p : Nat) : va_E :=
  if (sy.1 p).1 = 0 then .inl (wc.2.1 0, (sy.1 p).2, .inl (S.1 p))
  else if (sy.1 p).1 = 1 then .inl (wc.2.1 1, (sy.1 p).2, .inr (.inl (S.2.1 p)))
  else if (sy.1 p).1 = 2 then .inl (wc.2.1 2, (sy.1 p).2, .inl (S.1 p))
  else if (sy.1 p).1 = 3 then .inl (wc.2.1 3, (sy.1 p).2, .inr (.inr (.inr (.inr (fun i => some (wc.2.2 (S.2.2 p i)))))))
  else if (sy.1 p).1 = 4 then .inl (wc.2.1 4, (sy.1 p).2, .inr (.inr (.inr (.inr (fun i => some (wc.2.2 (p + 1 + 33 * i)))))))
  else if (sy.1 p).1 = 5 then .inl (wc.2.1 5, (sy.1 p).2, .inr (.inr (.inr (.inr (fun i => some (wc.2.2 (p + 1 + i)))))))
  else .inr ((sy.1 p).1 - 10, sm_fs wc.2.2 (S.1 p) p 0 (sy.2.1 ((sy.1 p).1 - 10)))
def sm_pic (sy : sm_Sy) (wc : sm_Wc) (S : sm_St) : va_W := (List.range sy.2.2.1).map (fun p => (wc.2.2 p, sm_cel sy wc S p))
theorem sm_pic_at {sy : sm_Sy} {wc : sm_Wc} {S : sm_St} {p : Nat} (h : p < sy.2.2.1) : (sm_pic sy wc S)[p]? = some (wc.2.2 p, sm_cel sy wc S p) := by
  unfold sm_pic
  rw [List.getElem?_map, List.getElem?_range h]
  rfl
theorem sm_pic_of {sy : sm_Sy} {wc : sm_Wc} {S : sm_St} {k : Nat} {q : Nat × va_E} (h : (sm_pic sy wc S)[k]? = some q) : k < sy.2.2.1 ∧ q = (wc.2.2 k, sm_cel sy wc S k) := by
  have hl : k < sy.2.2.1 := by
    have := (List.getElem?_eq_some_iff.mp h).1
    simpa [sm_pic] using this
  rw [sm_pic_at hl] at h
  exact ⟨hl, (Option.some.inj h).symm⟩
theorem sm_pic_set {sy : sm_Sy} {wc : sm_Wc} {S S' : sm_St} {p : Nat} {e : va_E} (h : p < sy.2.2.1) (hp : sm_cel sy wc S' p = e) (ho : ∀ q, q ≠ p → sm_cel sy wc S' q = sm_cel sy wc S q) : (sm_pic sy wc S).set p (wc.2.2 p, e) = sm_pic sy wc S' := by
  apply List.ext_getElem?
  intro k
  by_cases hk : k < sy.2.2.1
  · rw [sm_pic_at hk]
    by_cases hkp : k = p
    · subst hkp
      rw [List.getElem?_set_self (by simpa [sm_pic] using hk), hp]
    · rw [List.getElem?_set_ne (Ne.symm hkp), sm_pic_at hk, ho k hkp]
  · rw [List.getElem?_eq_none (by simp [sm_pic]; omega), List.getElem?_eq_none (by simp [sm_pic]; omega)]
def sm_wA (sy : sm_Sy) (wc : sm_Wc) : Nat → Prop := fun q => ∃ i, i < sy.2.2.1 ∧ q = wc.2.2 i
def sm_inj (sy : sm_Sy) (wc : sm_Wc) : Prop := ∀ i j, i < sy.2.2.1 → j < sy.2.2.1 → wc.2.2 i = wc.2.2 j → i = j
theorem sm_D {sy : sm_Sy} {wc : sm_Wc} (h : sm_inj sy wc) (S : sm_St) : va_D (sm_wA sy wc) (sm_pic sy wc S) := by
  refine ⟨fun i j p q hi hj e => ?_, fun k q hk => ?_⟩
  · obtain ⟨h1, rfl⟩ := sm_pic_of hi
    obtain ⟨h2, rfl⟩ := sm_pic_of hj
    exact h i j h1 h2 e
  · obtain ⟨h1, rfl⟩ := sm_pic_of hk
    exact ⟨k, h1, rfl⟩
abbrev sm_tys (cA : Nat → ClassId) : List (ClassId × FieldType) := [(cA 0, .int), (cA 1, .long), (cA 2, .boolean), (cA 3, .object "LentShades$Shades"), (cA 4, .object "LentShades$House"), (cA 5, .array .int)]
def sm_stb (sy : sm_Sy) (wc : sm_Wc) : Prop := ∀ u U : State, sy.2.2.2 wc u → (∀ q : Nat, q < u.heap.size → ¬ sm_wA sy wc q → U.heap[q]? = u.heap[q]?) → (u.WarmedH U.vm ∨ U.vm = u.vm) → sy.2.2.2 wc U
