section
variable {sy : sm_Sy} {wc : sm_Wc} {S S' : sm_St} {p n m ci : Nat}
theorem sm_cel_i (h : sy.1 p = (0, n)) : sm_cel sy wc S p = .inl (wc.2.1 0, n, .inl (S.1 p)) := by simp [sm_cel, h]
theorem sm_cel_l (h : sy.1 p = (1, n)) : sm_cel sy wc S p = .inl (wc.2.1 1, n, .inr (.inl (S.2.1 p))) := by simp [sm_cel, h]
theorem sm_cel_z (h : sy.1 p = (2, n)) : sm_cel sy wc S p = .inl (wc.2.1 2, n, .inl (S.1 p)) := by simp [sm_cel, h]
theorem sm_cel_3 (h : sy.1 p = (3, n)) : sm_cel sy wc S p = .inl (wc.2.1 3, n, .inr (.inr (.inr (.inr (fun i => some (wc.2.2 (S.2.2 p i))))))) := by simp [sm_cel, h]
theorem sm_cel_4 (h : sy.1 p = (4, n)) : sm_cel sy wc S p = .inl (wc.2.1 4, n, .inr (.inr (.inr (.inr (fun i => some (wc.2.2 (p + 1 + 33 * i))))))) := by simp [sm_cel, h]
theorem sm_cel_5 (h : sy.1 p = (5, n)) : sm_cel sy wc S p = .inl (wc.2.1 5, n, .inr (.inr (.inr (.inr (fun i => some (wc.2.2 (p + 1 + i))))))) := by simp [sm_cel, h]
theorem sm_cel_o (h : sy.1 p = (10 + ci, m)) : sm_cel sy wc S p = .inr (ci, sm_fs wc.2.2 (S.1 p) p 0 (sy.2.1 ci)) := by
  have e : (sy.1 p).1 = 10 + ci := by rw [h]
  unfold sm_cel
  rw [e, if_neg (by omega), if_neg (by omega), if_neg (by omega), if_neg (by omega), if_neg (by omega), if_neg (by omega), show 10 + ci - 10 = ci by omega]
theorem sm_cel_ne {q : Nat} (h1 : S'.1 q = S.1 q) (h2 : S'.2.1 q = S.2.1 q) (h3 : S'.2.2 q = S.2.2 q) : sm_cel sy wc S' q = sm_cel sy wc S q := by
  unfold sm_cel
  rw [h1, h2, h3]
end
section
variable {x : sm_Cx} {sy : sm_Sy} {cc : ByteArray} {O : Type} {Qf : O → State → Prop} {o o1 o2 : Option O} {S : sm_St} {pc : Nat} {lv lv' : List (Nat × Value)} {st : List Value} {own : String} {nL fr lo : Nat}
theorem sm_okK (ok : sm_Ok x sy cc own nL fr lo) : va_K (xw x).1 sm_cl (sm_tys (xw x).2.1) (xs x) := ok.2.2.2.2.2.1
theorem sm_okD (ok : sm_Ok x sy cc own nL fr lo) (S : sm_St) : va_D (sm_wA sy (xw x)) (sm_pic sy (xw x) S) := sm_D ok.2.2.2.2.2.2.1 S
theorem sm_okp (ok : sm_Ok x sy cc own nL fr lo) {p t n : Nat} (h : sy.1 p = (t, n)) (ht : t ≠ 9) : p < sy.2.2.1 := ok.2.2.2.2.2.2.2.1 p (by rw [h]; exact ht)
theorem sm_okX (ok : sm_Ok x sy cc own nL fr lo) {t : State} {H : Heap} {locs : List Loc} (hS : va_S (sm_wA sy (xw x)) (xs x).heap H locs) (ht : t.heap = H) (hW : (xs x).WarmedH t.vm) : sy.2.2.2 (xw x) t := ok.2.2.2.2.2.2.2.2.2.2.2.2.2 (xs x) t ok.2.2.2.2.2.2.2.2.2.2.2.2.1 (fun q h1 h2 => by rw [ht]; exact hS.2.1 q h1 h2) (Or.inl hW)
theorem sm_getI {p ci k i n m : Nat} {C : String} {T : u_T} (ok : sm_Ok x sy cc own nL fr lo) (d : decode cc pc = .ok (.getfield i, 3)) (hs : sy.1 p = (10 + ci, m)) (hc : sm_cl[ci]? = some (C, T, n)) (hin : ∀ w ∈ u_ws C T n, w ∈ sm_GW) (hk : k < n) (hf : (sy.2.1 ci)[k]? = some none) (w : Cond.fieldLink own i (T k).1 (T k).2.1 (T k).2.2.1 ∈ sm_GW)
    (kk : sm_Sm x sy cc Qf o S (pc + 3) lv (.int (S.1 p k) :: st)) : sm_Sm x sy cc Qf o S pc lv (.ref ((xw x).2.2 p) :: st) := fun out ho H locs ls hP hS hl =>
  va_get (v := .int (S.1 p k)) ok.1 ok.2.1 ok.2.2.2.2.1 hin ok.2.2.2.1 (sm_okK ok) hP p (by rw [sm_pic_at (sm_okp ok hs (by omega)), sm_cel_o hs]) hc k hk (ok.2.2.2.2.1 _ w) (fun _ h => h) (by rw [sm_fs_i _ 0 k hf, Nat.zero_add]) d (kk out ho H locs ls hP hS hl)
theorem sm_getR {p ci k i n m e : Nat} {C : String} {T : u_T} (ok : sm_Ok x sy cc own nL fr lo) (d : decode cc pc = .ok (.getfield i, 3)) (hs : sy.1 p = (10 + ci, m)) (hc : sm_cl[ci]? = some (C, T, n)) (hin : ∀ w ∈ u_ws C T n, w ∈ sm_GW) (hk : k < n) (hf : (sy.2.1 ci)[k]? = some (some e)) (w : Cond.fieldLink own i (T k).1 (T k).2.1 (T k).2.2.1 ∈ sm_GW)
    (kk : sm_Sm x sy cc Qf o S (pc + 3) lv (.ref ((xw x).2.2 (p + e)) :: st)) : sm_Sm x sy cc Qf o S pc lv (.ref ((xw x).2.2 p) :: st) := fun out ho H locs ls hP hS hl =>
  va_get (v := .ref ((xw x).2.2 (p + e))) ok.1 ok.2.1 ok.2.2.2.2.1 hin ok.2.2.2.1 (sm_okK ok) hP p (by rw [sm_pic_at (sm_okp ok hs (by omega)), sm_cel_o hs]) hc k hk (ok.2.2.2.2.1 _ w) (fun _ h => h) (by rw [sm_fs_r _ 0 k hf]) d (kk out ho H locs ls hP hS hl)
theorem sm_sI_set {p ci m k : Nat} {v : Int32} (hp : p < sy.2.2.1) (hs : sy.1 p = (10 + ci, m)) (hf : (sy.2.1 ci)[k]? = some none) : (sm_pic sy (xw x) S).set p ((xw x).2.2 p, .inr (ci, (sm_fs (xw x).2.2 (S.1 p) p 0 (sy.2.1 ci)).set k (.int v))) = sm_pic sy (xw x) (sm_sI S p k v) := by
  refine sm_pic_set hp ?_ (fun q hq => sm_cel_ne (by simp [sm_sI, va_up, hq]) rfl rfl)
  rw [sm_cel_o hs, sm_fs_set _ 0 k hf, Nat.zero_add]
  simp [sm_sI, va_up]
theorem sm_putI {p ci k i n m : Nat} {C : String} {T : u_T} {v : Int32} {f : sm_St → Option O} (ok : sm_Ok x sy cc own nL fr lo) (d : decode cc pc = .ok (.putfield i, 3)) (hs : sy.1 p = (10 + ci, m)) (hc : sm_cl[ci]? = some (C, T, n)) (hin : ∀ w ∈ u_ws C T n, w ∈ sm_GW) (ty : Nat → FieldType) (hty : ∀ k, k < n → parseFieldDescriptor (T k).2.2.1 = some (ty k)) (hnm : ∀ a, a < n → ∀ b, b < n → a ≠ b → (T a).2.1 ≠ (T b).2.1) (hk : k < n) (hki : ty k = .int) (hf : (sy.2.1 ci)[k]? = some none) (hfin : (T k).2.2.2 = false) (w : Cond.fieldLink own i (T k).1 (T k).2.1 (T k).2.2.1 ∈ sm_GW)
    (kk : ∀ S : sm_St, sm_Sm x sy cc Qf (f S) S (pc + 3) lv st) : sm_Sm x sy cc Qf (sm_lt (sm_sI S p k v) f) S pc lv (.int v :: .ref ((xw x).2.2 p) :: st) := fun out ho H locs ls hP hS hl =>
  va_put (ty := .int) (v := .int v) ok.1 ok.2.1 ok.2.2.2.2.1 hin ty hty hnm ok.2.2.2.1 (sm_okK ok) hP (sm_okD ok S) hS p (by rw [sm_pic_at (sm_okp ok hs (by omega)), sm_cel_o hs]) hc k hk (ok.2.2.2.2.1 _ w) (fun _ h => h) hfin (by rw [hty k hk, hki]) rfl rfl (by rw [sm_fs_len]; exact (List.getElem?_eq_some_iff.mp hf).1) d (fun H1 locs1 hP1 _ hS1 => kk _ out ho H1 locs1 ls (by rw [sm_sI_set (sm_okp ok hs (by omega)) hs hf] at hP1; exact hP1) hS1 hl)
theorem sm_iset {wc : sm_Wc} {p n k : Nat} {v : Int32} (hp : p < sy.2.2.1) (hs : sy.1 p = (0, n)) : (sm_pic sy wc S).set p (wc.2.2 p, .inl (wc.2.1 0, n, .inl (upd (S.1 p) k v))) = sm_pic sy wc (sm_sI S p k v) := sm_pic_set hp (by rw [sm_cel_i hs]; simp [sm_sI, va_up]) (fun q hq => sm_cel_ne (by simp [sm_sI, va_up, hq]) rfl rfl)
theorem sm_zset {wc : sm_Wc} {p n k : Nat} {v : Int32} (hp : p < sy.2.2.1) (hs : sy.1 p = (2, n)) : (sm_pic sy wc S).set p (wc.2.2 p, .inl (wc.2.1 2, n, .inl (upd (S.1 p) k v))) = sm_pic sy wc (sm_sI S p k v) := sm_pic_set hp (by rw [sm_cel_z hs]; simp [sm_sI, va_up]) (fun q hq => sm_cel_ne (by simp [sm_sI, va_up, hq]) rfl rfl)
theorem sm_lset {wc : sm_Wc} {p n k : Nat} {v : Int64} (hp : p < sy.2.2.1) (hs : sy.1 p = (1, n)) : (sm_pic sy wc S).set p (wc.2.2 p, .inl (wc.2.1 1, n, .inr (.inl (vp_updL (S.2.1 p) k v)))) = sm_pic sy wc (sm_sL S p k v) := sm_pic_set hp (by rw [sm_cel_l hs]; simp [sm_sL, va_up]) (fun q hq => sm_cel_ne rfl (by simp [sm_sL, va_up, hq]) rfl)
theorem sm_fset {wc : sm_Wc} {p n : Nat} {f : Nat → Int32} (hp : p < sy.2.2.1) (hs : sy.1 p = (0, n)) : (sm_pic sy wc S).set p (wc.2.2 p, .inl (wc.2.1 0, n, .inl f)) = sm_pic sy wc (sm_sF S p f) := sm_pic_set hp (by rw [sm_cel_i hs]; simp [sm_sF, va_up]) (fun q hq => sm_cel_ne (by simp [sm_sF, va_up, hq]) rfl rfl)
theorem sm_rset {wc : sm_Wc} {p n k v : Nat} (hp : p < sy.2.2.1) (hs : sy.1 p = (3, n)) : (sm_pic sy wc S).set p (wc.2.2 p, .inl (wc.2.1 3, n, .inr (.inr (.inr (.inr (va_up (fun i => some (wc.2.2 (S.2.2 p i))) k (some (wc.2.2 v)))))))) = sm_pic sy wc (sm_sR S p k v) := sm_pic_set hp (by
  have e : (fun i => some (wc.2.2 ((sm_sR S p k v).2.2 p i))) = va_up (fun i => some (wc.2.2 (S.2.2 p i))) k (some (wc.2.2 v)) := by
    funext j
    by_cases hj : j = k <;> simp [hj, sm_sR, va_up]
  rw [sm_cel_3 hs, e]) (fun q hq => sm_cel_ne rfl rfl (by simp [sm_sR, va_up, hq]))
theorem sm_iald {p n : Nat} {i : Int32} (ok : sm_Ok x sy cc own nL fr lo) (d : decode cc pc = .ok (.iaload, 1)) (hs : sy.1 p = (0, n)) (kk : sm_Sm x sy cc Qf o S (pc + 1) lv (.int (S.1 p i.toNatClampNeg) :: st)) : sm_Sm x sy cc Qf (if sm_in i n = true then o else none) S pc lv (.int i :: .ref ((xw x).2.2 p) :: st) := sm_ck fun hb out ho H locs ls hP hS hl =>
  va_iald ok.1 ok.2.1 (sm_okK ok) hP p 0 (by rw [sm_pic_at (sm_okp ok hs (by omega)), sm_cel_i hs]) rfl (sm_in_vp hb) d (kk out ho H locs ls hP hS hl)
theorem sm_zald {p n : Nat} {i : Int32} (ok : sm_Ok x sy cc own nL fr lo) (d : decode cc pc = .ok (.baload, 1)) (hs : sy.1 p = (2, n)) (kk : sm_Sm x sy cc Qf o S (pc + 1) lv (.int (S.1 p i.toNatClampNeg) :: st)) : sm_Sm x sy cc Qf (if sm_in i n = true then o else none) S pc lv (.int i :: .ref ((xw x).2.2 p) :: st) := sm_ck fun hb out ho H locs ls hP hS hl =>
  va_zald ok.1 ok.2.1 (sm_okK ok) hP p 2 (by rw [sm_pic_at (sm_okp ok hs (by omega)), sm_cel_z hs]) rfl (sm_in_vp hb) d (kk out ho H locs ls hP hS hl)
theorem sm_lald {p n : Nat} {i : Int32} (ok : sm_Ok x sy cc own nL fr lo) (d : decode cc pc = .ok (.laload, 1)) (hs : sy.1 p = (1, n)) (kk : sm_Sm x sy cc Qf o S (pc + 1) lv (.long (S.2.1 p i.toNatClampNeg) :: st)) : sm_Sm x sy cc Qf (if sm_in i n = true then o else none) S pc lv (.int i :: .ref ((xw x).2.2 p) :: st) := sm_ck fun hb out ho H locs ls hP hS hl =>
  va_lald ok.1 ok.2.1 (sm_okK ok) hP p 1 (by rw [sm_pic_at (sm_okp ok hs (by omega)), sm_cel_l hs]) rfl (sm_in_vp hb) d (kk out ho H locs ls hP hS hl)
theorem sm_iast {p n : Nat} {i v : Int32} {f : sm_St → Option O} (ok : sm_Ok x sy cc own nL fr lo) (d : decode cc pc = .ok (.iastore, 1)) (hs : sy.1 p = (0, n)) (kk : ∀ S : sm_St, sm_Sm x sy cc Qf (f S) S (pc + 1) lv st) : sm_Sm x sy cc Qf (if sm_in i n = true then sm_lt (sm_sI S p i.toNatClampNeg v) f else none) S pc lv (.int v :: .int i :: .ref ((xw x).2.2 p) :: st) := sm_ck fun hb out ho H locs ls hP hS hl =>
  va_iast ok.1 ok.2.1 (sm_okK ok) hP (sm_okD ok S) hS p 0 (by rw [sm_pic_at (sm_okp ok hs (by omega)), sm_cel_i hs]) rfl (sm_in_vp hb) d (fun H1 locs1 hP1 _ hS1 => kk _ out ho H1 locs1 ls (by rw [sm_iset (sm_okp ok hs (by omega)) hs] at hP1; exact hP1) hS1 hl)
theorem sm_zast {p n : Nat} {i v : Int32} {f : sm_St → Option O} (ok : sm_Ok x sy cc own nL fr lo) (d : decode cc pc = .ok (.bastore, 1)) (hs : sy.1 p = (2, n)) (kk : ∀ S : sm_St, sm_Sm x sy cc Qf (f S) S (pc + 1) lv st) : sm_Sm x sy cc Qf (if sm_in i n = true then sm_lt (sm_sI S p i.toNatClampNeg (vp_nar .boolean v)) f else none) S pc lv (.int v :: .int i :: .ref ((xw x).2.2 p) :: st) := sm_ck fun hb out ho H locs ls hP hS hl =>
  va_zast ok.1 ok.2.1 (sm_okK ok) hP (sm_okD ok S) hS p 2 (by rw [sm_pic_at (sm_okp ok hs (by omega)), sm_cel_z hs]) rfl (sm_in_vp hb) d (fun H1 locs1 hP1 _ hS1 => kk _ out ho H1 locs1 ls (by rw [sm_zset (sm_okp ok hs (by omega)) hs] at hP1; exact hP1) hS1 hl)
theorem sm_last {p n : Nat} {i : Int32} {v : Int64} {f : sm_St → Option O} (ok : sm_Ok x sy cc own nL fr lo) (d : decode cc pc = .ok (.lastore, 1)) (hs : sy.1 p = (1, n)) (kk : ∀ S : sm_St, sm_Sm x sy cc Qf (f S) S (pc + 1) lv st) : sm_Sm x sy cc Qf (if sm_in i n = true then sm_lt (sm_sL S p i.toNatClampNeg v) f else none) S pc lv (.long v :: .int i :: .ref ((xw x).2.2 p) :: st) := sm_ck fun hb out ho H locs ls hP hS hl =>
  va_last ok.1 ok.2.1 (sm_okK ok) hP (sm_okD ok S) hS p 1 (by rw [sm_pic_at (sm_okp ok hs (by omega)), sm_cel_l hs]) rfl (sm_in_vp hb) d (fun H1 locs1 hP1 _ hS1 => kk _ out ho H1 locs1 ls (by rw [sm_lset (sm_okp ok hs (by omega)) hs] at hP1; exact hP1) hS1 hl)
/-- a row of a table of rows -/
theorem sm_aald5 {p n : Nat} {i : Int32} (ok : sm_Ok x sy cc own nL fr lo) (d : decode cc pc = .ok (.aaload, 1)) (hs : sy.1 p = (5, n)) (kk : sm_in i n = true → sm_Sm x sy cc Qf o S (pc + 1) lv (.ref ((xw x).2.2 (p + 1 + i.toNatClampNeg)) :: st)) : sm_Sm x sy cc Qf (if sm_in i n = true then o else none) S pc lv (.int i :: .ref ((xw x).2.2 p) :: st) := sm_ck fun hb out ho H locs ls hP hS hl => by
  have hin := sm_in_vp hb
  have hlt : i.toNatClampNeg < n := Nat.not_le.mp fun q => hin (Or.inr q)
  have ha : (sm_pic sy (xw x) S)[p]? = some ((xw x).2.2 p, .inl ((xw x).2.1 5, n, .inr (.inr (.inr (.inr (fun i => some ((xw x).2.2 (p + 1 + i)))))))) := by rw [sm_pic_at (sm_okp ok hs (by omega)), sm_cel_5 hs]
  exact W.aald (v := .ref ((xw x).2.2 (p + 1 + i.toNatClampNeg))) (ty := .array .int) ok.1 ok.2.1 (hP p _ ha) (((sm_okK ok).2 5 ((xw x).2.1 5, .array .int) rfl).1 n (fun j => va_rf (some ((xw x).2.2 (p + 1 + j))))) rfl (fun q => by cases q) (by show ¬ (i < 0 ∨ (arrV _ _ _).slots.size ≤ _); rw [arrV_size]; exact hin) (by show (arrV _ _ _).slots[_]? = _; rw [arrV_read _ _ hlt]; rfl) rfl rfl d (kk hb out ho H locs ls hP hS hl)
theorem sm_aald4 {p n : Nat} {i : Int32} (ok : sm_Ok x sy cc own nL fr lo) (d : decode cc pc = .ok (.aaload, 1)) (hs : sy.1 p = (4, n)) (kk : sm_in i n = true → sm_Sm x sy cc Qf o S (pc + 1) lv (.ref ((xw x).2.2 (p + 1 + 33 * i.toNatClampNeg)) :: st)) : sm_Sm x sy cc Qf (if sm_in i n = true then o else none) S pc lv (.int i :: .ref ((xw x).2.2 p) :: st) := sm_ck fun hb out ho H locs ls hP hS hl =>
  va_aldq (f := fun j => some ((xw x).2.2 (p + 1 + 33 * j))) ok.1 ok.2.1 (sm_okK ok) hP p 4 (by rw [sm_pic_at (sm_okp ok hs (by omega)), sm_cel_4 hs]) rfl (sm_in_vp hb) d (kk hb out ho H locs ls hP hS hl)
theorem sm_aald3 {p n : Nat} {i : Int32} (ok : sm_Ok x sy cc own nL fr lo) (d : decode cc pc = .ok (.aaload, 1)) (hs : sy.1 p = (3, n)) (kk : sm_Sm x sy cc Qf o S (pc + 1) lv (.ref ((xw x).2.2 (S.2.2 p i.toNatClampNeg)) :: st)) : sm_Sm x sy cc Qf (if sm_in i n = true then o else none) S pc lv (.int i :: .ref ((xw x).2.2 p) :: st) := sm_ck fun hb out ho H locs ls hP hS hl =>
  va_aldq (f := fun j => some ((xw x).2.2 (S.2.2 p j))) ok.1 ok.2.1 (sm_okK ok) hP p 3 (by rw [sm_pic_at (sm_okp ok hs (by omega)), sm_cel_3 hs]) rfl (sm_in_vp hb) d (kk out ho H locs ls hP hS hl)
theorem sm_aast3 {p n v m : Nat} {i : Int32} {f : sm_St → Option O} (ok : sm_Ok x sy cc own nL fr lo) (d : decode cc pc = .ok (.aastore, 1)) (hs : sy.1 p = (3, n)) (hv : sy.1 v = (10 + 6, m)) (kk : ∀ S : sm_St, sm_Sm x sy cc Qf (f S) S (pc + 1) lv st) : sm_Sm x sy cc Qf (if sm_in i n = true then sm_lt (sm_sR S p i.toNatClampNeg v) f else none) S pc lv (.ref ((xw x).2.2 v) :: .int i :: .ref ((xw x).2.2 p) :: st) := sm_ck fun hb out ho H locs ls hP hS hl =>
  va_astq (r := (zc_R6, zc_T6, 2)) ok.1 ok.2.1 (sm_okK ok) hP (sm_okD ok S) hS p 3 v 6 (by rw [sm_pic_at (sm_okp ok hs (by omega)), sm_cel_3 hs]) rfl (by rw [sm_pic_at (sm_okp ok hv (by omega)), sm_cel_o hv]) rfl (sm_in_vp hb) d (fun H1 locs1 hP1 _ hS1 => kk _ out ho H1 locs1 ls (by rw [sm_rset (sm_okp ok hs (by omega)) hs] at hP1; exact hP1) hS1 hl)
end

def sm_Wd (sy : sm_Sy) (wc : sm_Wc) (S : sm_St) (U : State) : Prop := va_P wc.1 sm_cl (sm_pic sy wc S) U.heap ∧ va_K wc.1 sm_cl (sm_tys wc.2.1) U ∧ sy.2.2.2 wc U
abbrev sm_ws (y : MethodName) (b : ByteArray) (mL : Nat) (ret : Option FieldType) : List Cond := .code y b mL ret :: sm_GW
abbrev sm_rm (fr lo : Nat) : Room := { frames := fr, cells := 0, slots := 0, locals := lo }
def sm_Pi (sy : sm_Sy) (wc : sm_Wc) (out : Int32 × sm_St) : Array Value → State → Outcome → State → Prop := va_Qi (fun r u => r = out.1 ∧ u = out.2) (sm_Wd sy wc) (sm_wA sy wc)
def sm_Pl (sy : sm_Sy) (wc : sm_Wc) (out : Int64 × sm_St) : Array Value → State → Outcome → State → Prop := va_Ql (fun r u => r = out.1 ∧ u = out.2) (sm_Wd sy wc) (sm_wA sy wc)
def sm_Pv (sy : sm_Sy) (wc : sm_Wc) (out : sm_St) : Array Value → State → Outcome → State → Prop := va_Qv (fun u => u = out) (sm_Wd sy wc) (sm_wA sy wc)
def sm_Pr (sy : sm_Sy) (wc : sm_Wc) (out : Nat × sm_St) : Array Value → State → Outcome → State → Prop := va_Qr (fun u => u = out.2) (fun u a t => a = wc.2.2 out.1 ∧ sm_Wd sy wc u t) (sm_wA sy wc)
/-- a contract by a program: whatever the program answers, the method answers -/
def sm_Ct (l : Launch) (sy : sm_Sy) (wc : sm_Wc) (y : MethodName) (b : ByteArray) (mL : Nat) (ret : Option FieldType) (fr lo : Nat) (av : List Value) (S : sm_St) {O : Type} (Pq : O → Array Value → State → Outcome → State → Prop) (o : Option O) : Prop :=
  ∀ out, o = some out → Met l y (sm_ws y b mL ret) (sm_rm fr lo) (va_Pc av (sm_Wd sy wc S)) (Pq out) 0 0 (sm_wA sy wc)
def sm_Q (x : sm_Cx) (sy : sm_Sy) {O : Type} (Pq : O → Array Value → State → Outcome → State → Prop) (out : O) : State → Prop := MQ (xb x) (Pq out) (xa x) (xs x) 0 0 (sm_wA sy (xw x))
theorem sm_entry {l : Launch} {sy : sm_Sy} {y : MethodName} {b : ByteArray} {mL : Nat} {ret : Option FieldType} {fr lo : Nat} (av : sm_Wc → List Value) {lv : sm_Wc → List (Nat × Value)} {S : sm_St} {O : Type} {Pq : sm_Wc → O → Array Value → State → Outcome → State → Prop} {o : Option O} {wc : sm_Wc} (hy : plainName y.cls = true) (hinj : sm_inj sy wc) (hsy : ∀ p, (sy.1 p).1 ≠ 9 → p < sy.2.2.1) (hstb : ∀ wc, sm_stb sy wc) (hlen : ∀ wc, (lg_sl (av wc)).length ≤ mL) (hlv : ∀ wc, lv_args 0 (av wc) = lv wc)
    (body : ∀ x : sm_Cx, xl x = l → sm_Ok x sy b y.cls mL fr lo → (xh x).sig.returnType = ret → sm_Sm x sy b (sm_Q x sy (Pq (xw x))) o S 0 (lv (xw x)) []) : sm_Ct l sy wc y b mL ret fr lo (av wc) S (Pq wc) o := by
  intro out ho
  refine Met.ofW (cc := b) (maxL := mL) (ret := ret) hy rfl ?_
  intro p e s m args below meth c s₁ B hml hv
  obtain ⟨rfl, hP, hK, hX⟩ := hv
  have hts := atoms_spec (ws := sm_ws y b mL ret) B.pre
  have hown : s.vm.findClass y.cls = some m.cls := findClass_of_methodNamed B.named
  have hl := lv_entry (av wc) (n := mL) (hlen wc)
  rw [lg_entry_eq]
  generalize (lg_sl (av wc) ++ List.replicate (mL - (lg_sl (av wc)).length) Slot.unset).toArray = ls at hl ⊢
  rw [hlv] at hl
  exact body (p, l, e, (headSpec (sm_ws y b mL ret) (sm_rm fr lo)).room, s, m, (av wc).toArray, below, meth, c, mL, wc) rfl ⟨B.exec, B.bytes, hml, hown, fun w hw => hts w (List.mem_cons_of_mem _ hw), hK, hinj, hsy, Nat.le_refl _, Nat.le_refl _, B.notSynchronized, rfl, hX, hstb wc⟩ B.returns out ho s.heap [] ls hP va_S.rf hl
def sm_b2 {α O : Type} (o : Option (α × sm_St)) (g : α → sm_St → Option O) : Option O := match o with
  | none => none
  | some q => g q.1 q.2
def sm_b1 {O : Type} (o : Option sm_St) (g : sm_St → Option O) : Option O := match o with
  | none => none
  | some q => g q
section
variable {x : sm_Cx} {sy : sm_Sy} {cc : ByteArray} {O : Type} {Qf : O → State → Prop} {o : Option O} {S : sm_St} {pc : Nat} {lv : List (Nat × Value)} {st : List Value} {own : String} {nL fr lo : Nat}
theorem sm_iret {v : Int32} (ok : sm_Ok x sy cc own nL fr lo) (d : decode cc pc = .ok (.ireturn, 1)) (hr : (xh x).sig.returnType = some .int) : sm_Sm x sy cc (sm_Q x sy (sm_Pi sy (xw x))) (some (v, S)) S pc lv [.int v] := fun out ho H locs ls hP hS hl => by
  cases ho
  exact W.iret ok.1 ok.2.1 hr (fun t ht hW => ⟨⟨v, S, rfl, ⟨rfl, rfl⟩, by rw [ht]; exact hP, va_K.moved hW.alike (sm_okK ok), sm_okX ok hS ht hW⟩, hS.F ht⟩) hS.2.2 d ok.2.2.2.2.2.2.2.2.2.2.1
theorem sm_zret {v : Int32} (ok : sm_Ok x sy cc own nL fr lo) (d : decode cc pc = .ok (.ireturn, 1)) (hr : (xh x).sig.returnType = some .boolean) (hn : narrow .boolean (.int v) = .int v) : sm_Sm x sy cc (sm_Q x sy (sm_Pi sy (xw x))) (some (v, S)) S pc lv [.int v] := fun out ho H locs ls hP hS hl => by
  cases ho
  exact W.zret ok.1 ok.2.1 hr hn (fun t ht hW => ⟨⟨v, S, rfl, ⟨rfl, rfl⟩, by rw [ht]; exact hP, va_K.moved hW.alike (sm_okK ok), sm_okX ok hS ht hW⟩, hS.F ht⟩) hS.2.2 d ok.2.2.2.2.2.2.2.2.2.2.1
def sm_rz (v : Int32) (S : sm_St) : Option (Int32 × sm_St) := if v = 0 then some (0, S) else if v = 1 then some (1, S) else none
theorem sm_zretc {v : Int32} (ok : sm_Ok x sy cc own nL fr lo) (d : decode cc pc = .ok (.ireturn, 1)) (hr : (xh x).sig.returnType = some .boolean) : sm_Sm x sy cc (sm_Q x sy (sm_Pi sy (xw x))) (sm_rz v S) S pc lv [.int v] := by
  intro out ho
  unfold sm_rz at ho
  by_cases h0 : v = 0
  · rw [if_pos h0] at ho
    subst h0
    exact sm_zret ok d hr rfl out ho
  · rw [if_neg h0] at ho
    by_cases h1 : v = 1
    · rw [if_pos h1] at ho
      subst h1
      exact sm_zret ok d hr rfl out ho
    · rw [if_neg h1] at ho; cases ho
theorem sm_lret {v : Int64} (ok : sm_Ok x sy cc own nL fr lo) (d : decode cc pc = .ok (.lreturn, 1)) (hr : (xh x).sig.returnType = some .long) : sm_Sm x sy cc (sm_Q x sy (sm_Pl sy (xw x))) (some (v, S)) S pc lv [.long v] := fun out ho H locs ls hP hS hl => by
  cases ho
  exact W.lret ok.1 ok.2.1 hr (fun t ht hW => ⟨⟨v, S, rfl, ⟨rfl, rfl⟩, by rw [ht]; exact hP, va_K.moved hW.alike (sm_okK ok), sm_okX ok hS ht hW⟩, hS.F ht⟩) hS.2.2 d ok.2.2.2.2.2.2.2.2.2.2.1
theorem sm_vret (ok : sm_Ok x sy cc own nL fr lo) (d : decode cc pc = .ok (.return_, 1)) (hr : (xh x).sig.returnType = none) : sm_Sm x sy cc (sm_Q x sy (sm_Pv sy (xw x))) (some S) S pc lv [] := fun out ho H locs ls hP hS hl => by
  cases ho
  exact W.vret ok.1 ok.2.1 hr (fun t ht hW => ⟨⟨S, rfl, rfl, by rw [ht]; exact hP, va_K.moved hW.alike (sm_okK ok), sm_okX ok hS ht hW⟩, hS.F ht⟩) hS.2.2 d ok.2.2.2.2.2.2.2.2.2.2.1
theorem sm_aret {p : Nat} {C : String} (ok : sm_Ok x sy cc own nL fr lo) (d : decode cc pc = .ok (.areturn, 1)) (hr : (xh x).sig.returnType = some (.object C)) : sm_Sm x sy cc (sm_Q x sy (sm_Pr sy (xw x))) (some (p, S)) S pc lv [.ref ((xw x).2.2 p)] := fun out ho H locs ls hP hS hl => by
  cases ho
  exact W.aret ok.1 ok.2.1 hr (Or.inl ⟨_, rfl⟩) (Or.inr ⟨_, rfl⟩) (fun t ht hW => ⟨⟨S, (xw x).2.2 p, rfl, rfl, rfl, by rw [ht]; exact hP, va_K.moved hW.alike (sm_okK ok), sm_okX ok hS ht hW⟩, hS.F ht⟩) hS.2.2 d ok.2.2.2.2.2.2.2.2.2.2.1
def sm_MW (y : MethodName) (b : ByteArray) (mL : Nat) (ret : Option FieldType) (n : Nat) : Prop := Cond.instanceMethod y ∈ sm_GW ∧ Cond.selects y.cls y y ∈ sm_GW ∧ Cond.initialized y.cls ∈ sm_GW ∧ Cond.code y b mL ret ∈ sm_GW ∧ (y.cls ≠ "java/lang/invoke/MethodHandle" ∧ y.cls ≠ "java/lang/invoke/VarHandle") ∧ (parseMethodDescriptor y.desc).map (fun d => d.parameters.length) = some n
def sm_MS (y : MethodName) (b : ByteArray) (mL : Nat) (ret : Option FieldType) (n : Nat) : Prop := Cond.static y ∈ sm_GW ∧ Cond.initialized y.cls ∈ sm_GW ∧ Cond.code y b mL ret ∈ sm_GW ∧ (y.cls ≠ "java/lang/invoke/MethodHandle" ∧ y.cls ≠ "java/lang/invoke/VarHandle") ∧ (parseMethodDescriptor y.desc).map (fun d => d.parameters.length) = some n
theorem sm_okj (ok : sm_Ok x sy cc own nL fr lo) : sm_inj sy (xw x) := ok.2.2.2.2.2.2.1
theorem sm_sh0 {q t : Nat} (h : (sy.1 q).1 = t) : sy.1 q = (t, (sy.1 q).2) := by rw [← h]
theorem sm_pay (ok : sm_Ok x sy cc own nL fr lo) {y : MethodName} {b : ByteArray} {mL : Nat} {ret : Option FieldType} (h : Cond.code y b mL ret ∈ sm_GW) : ∀ w ∈ sm_ws y b mL ret, ∀ (a' : Array Value) (U : State), (xs x).WarmedH U.vm → w.before a' U = true := by
  have key : ∀ w ∈ sm_GW, ∀ (a' : Array Value) (U : State), (xs x).WarmedH U.vm → w.before a' U = true := fun w hw a' U hW => word_at hW (good_of_word (List.mem_filter.mp hw).2) (ok.2.2.2.2.1 w hw)
  intro w hw
  rcases List.mem_cons.mp hw with rfl | hw
  · exact key _ h
  · exact key _ hw
theorem sm_blind {av : List Value} {S : sm_St} {wc : sm_Wc} (h : sm_stb sy wc) : FrameBlind (va_Pc av (sm_Wd sy wc S)) := fun a U g mk q => ⟨q.1, q.2.1, va_K.moved (u := U) (U := U.calling g mk a) (Vm.Alike.refl U.vm) q.2.2.1, h U (U.calling g mk a) q.2.2.2 (fun _ _ _ => rfl) (Or.inr rfl)⟩
theorem sm_cw (ok : sm_Ok x sy cc own nL fr lo) {y : MethodName} {b : ByteArray} {mL n i fr' lo' : Nat} {ret : Option FieldType} (hc : Cond.code y b mL ret ∈ sm_GW) (hi : Cond.initialized y.cls ∈ sm_GW) (hy : y.cls ≠ "java/lang/invoke/MethodHandle" ∧ y.cls ≠ "java/lang/invoke/VarHandle") (hd : (parseMethodDescriptor y.desc).map (fun d => d.parameters.length) = some n) (w : Cond.methodLink own i y ∈ sm_GW) (hfr : fr' + 1 ≤ fr) (hlo : 8 + (mL + 11) + lo' ≤ lo) : CallB (xR x) (xs x) (xa x) own i y b mL ret (sm_ws y b mL ret) (sm_rm fr' lo') 0 0 n :=
  ⟨rfl, rfl, Nat.le_trans hfr ok.2.2.2.2.2.2.2.2.1, Nat.le_trans hlo ok.2.2.2.2.2.2.2.2.2.1, sm_pay ok hc, List.mem_cons_self, ok.2.2.2.2.1 _ hc, ok.2.2.2.2.1 _ hi, hy, fun sig h => by rw [h] at hd; exact (Option.some.inj hd).symm, ok.2.2.2.2.1 _ w⟩
theorem sm_runV {y : MethodName} {b : ByteArray} {mL n i fr' lo' p ci m nn : Nat} {ret : Option FieldType} {T : u_T} {As rest : List Value} {stk : List Value} {H : Heap} {locs : List Loc} {ls : Array Slot} {Qc : Array Value → State → Outcome → State → Prop} (ok : sm_Ok x sy cc own nL fr lo) (d : decode cc pc = .ok (.invokevirtual i, 3)) (w : Cond.methodLink own i y ∈ sm_GW) (mw : sm_MW y b mL ret n) (hs : sy.1 p = (10 + ci, m)) (hc : sm_cl[ci]? = some (y.cls, T, nn)) (hfr : fr' + 1 ≤ fr) (hlo : 8 + (mL + 11) + lo' ≤ lo) (hn : As.length = n) (hst : stk = As.reverse ++ .ref ((xw x).2.2 p) :: rest) (hrm : (rest.map fun v => v.category).sum ≤ 8)
    (hM : Met (xl x) y (sm_ws y b mL ret) (sm_rm fr' lo') (va_Pc (.ref ((xw x).2.2 p) :: As) (sm_Wd sy (xw x) S)) Qc 0 0 (sm_wA sy (xw x))) (hP : va_P (xw x).1 sm_cl (sm_pic sy (xw x) S) H) (hS : va_S (sm_wA sy (xw x)) (xs x).heap H locs) (hl : lv_has ls (xn x) lv) :
    va_Run (xp x) (xl x) (xe x) (xR x) (xs x) (xm x) (xa x) (xb x) (xh x) (xc x) H locs 0 0 0 0 (F0 (xm x) pc ls stk) rest (Qc (Value.ref ((xw x).2.2 p) :: As).toArray) (sm_wA sy (xw x)) :=
  va_runV (As := As) (rest := rest) (nL := xn x) ⟨ok.1, ok.2.1, ok.2.2.1, ok.2.2.2.1, ok.2.2.2.2.1⟩ hM ⟨sm_cw ok mw.2.2.2.1 mw.2.2.1 mw.2.2.2.2.1 mw.2.2.2.2.2 w hfr hlo, ok.2.2.2.2.1 _ mw.1, ok.2.2.2.2.1 _ mw.2.1⟩ ⟨sm_blind ok.2.2.2.2.2.2.2.2.2.2.2.2.2, va_recv (sm_okK ok) hP hc (by rw [sm_pic_at (sm_okp ok hs (by omega)), sm_cel_o hs]), fun U hU hW => ⟨rfl, by rw [hU]; exact hP, va_K.moved hW.alike (sm_okK ok), sm_okX ok hS hU hW⟩⟩ rfl hn hl.1 hst (lv_room hrm) d ⟨Nat.zero_le _, Nat.zero_le _⟩
theorem sm_runS {y : MethodName} {b : ByteArray} {mL n i fr' lo' : Nat} {ret : Option FieldType} {As rest : List Value} {stk : List Value} {H : Heap} {locs : List Loc} {ls : Array Slot} {Qc : Array Value → State → Outcome → State → Prop} (ok : sm_Ok x sy cc own nL fr lo) (d : decode cc pc = .ok (.invokestatic i, 3)) (w : Cond.methodLink own i y ∈ sm_GW) (mw : sm_MS y b mL ret n) (hfr : fr' + 1 ≤ fr) (hlo : 8 + (mL + 11) + lo' ≤ lo) (hn : As.length = n) (hst : stk = As.reverse ++ rest) (hrm : (rest.map fun v => v.category).sum ≤ 8)
    (hM : Met (xl x) y (sm_ws y b mL ret) (sm_rm fr' lo') (va_Pc As (sm_Wd sy (xw x) S)) Qc 0 0 (sm_wA sy (xw x))) (hP : va_P (xw x).1 sm_cl (sm_pic sy (xw x) S) H) (hS : va_S (sm_wA sy (xw x)) (xs x).heap H locs) (hl : lv_has ls (xn x) lv) :
    va_Run (xp x) (xl x) (xe x) (xR x) (xs x) (xm x) (xa x) (xb x) (xh x) (xc x) H locs 0 0 0 0 (F0 (xm x) pc ls stk) rest (Qc As.toArray) (sm_wA sy (xw x)) :=
  va_runS (As := As) (rest := rest) (nL := xn x) ⟨ok.1, ok.2.1, ok.2.2.1, ok.2.2.2.1, ok.2.2.2.2.1⟩ hM ⟨sm_cw ok mw.2.2.1 mw.2.1 mw.2.2.2.1 mw.2.2.2.2 w hfr hlo, ok.2.2.2.2.1 _ mw.1⟩ ⟨sm_blind ok.2.2.2.2.2.2.2.2.2.2.2.2.2, fun U hU hW => ⟨rfl, by rw [hU]; exact hP, va_K.moved hW.alike (sm_okK ok), sm_okX ok hS hU hW⟩⟩ rfl hn hl.1 hst (lv_room hrm) d ⟨Nat.zero_le _, Nat.zero_le _⟩
theorem sm_callV_i {y : MethodName} {b : ByteArray} {mL n i fr' lo' p ci m nn : Nat} {ret : Option FieldType} {T : u_T} {rest : List Value} {stk : List Value} {o' : Option (Int32 × sm_St)} {g : Int32 → sm_St → Option O} (As : List Value) (ok : sm_Ok x sy cc own nL fr lo) (d : decode cc pc = .ok (.invokevirtual i, 3)) (w : Cond.methodLink own i y ∈ sm_GW) (mw : sm_MW y b mL ret n) (hs : sy.1 p = (10 + ci, m)) (hc : sm_cl[ci]? = some (y.cls, T, nn)) (hfr : fr' + 1 ≤ fr) (hlo : 8 + (mL + 11) + lo' ≤ lo) (hn : As.length = n) (hst : stk = As.reverse ++ .ref ((xw x).2.2 p) :: rest) (hrm : (rest.map fun v => v.category).sum ≤ 8) (hM : sm_Ct (xl x) sy (xw x) y b mL ret fr' lo' (.ref ((xw x).2.2 p) :: As) S (sm_Pi sy (xw x)) o')
    (kk : ∀ (r : Int32) (S : sm_St), sm_Sm x sy cc Qf (g r S) S (pc + 3) lv (.int r :: rest)) : sm_Sm x sy cc Qf (sm_b2 o' g) S pc lv stk := fun out ho H locs ls hP hS hl => by
  cases ho' : o' with
  | none => rw [ho'] at ho; cases ho
  | some q =>
    rw [ho'] at ho
    exact va_calli (sm_runV ok d w mw hs hc hfr hlo hn hst hrm (hM q ho') hP hS hl) hS (fun _ _ h => h) (fun _ h => h) (fun r u t H1 locs1 ht hvm hw hB hz hk hS1 => by
      obtain ⟨hr, hu⟩ := hw
      subst hr
      subst hu
      exact kk _ _ out ho H1 locs1 ls (by rw [← ht]; exact hB.1) hS1 hl)
theorem sm_callS_i {y : MethodName} {b : ByteArray} {mL n i fr' lo' : Nat} {ret : Option FieldType} {rest : List Value} {stk : List Value} {o' : Option (Int32 × sm_St)} {g : Int32 → sm_St → Option O} (As : List Value) (ok : sm_Ok x sy cc own nL fr lo) (d : decode cc pc = .ok (.invokestatic i, 3)) (w : Cond.methodLink own i y ∈ sm_GW) (mw : sm_MS y b mL ret n) (hfr : fr' + 1 ≤ fr) (hlo : 8 + (mL + 11) + lo' ≤ lo) (hn : As.length = n) (hst : stk = As.reverse ++ rest) (hrm : (rest.map fun v => v.category).sum ≤ 8) (hM : sm_Ct (xl x) sy (xw x) y b mL ret fr' lo' As S (sm_Pi sy (xw x)) o')
    (kk : ∀ (r : Int32) (S : sm_St), sm_Sm x sy cc Qf (g r S) S (pc + 3) lv (.int r :: rest)) : sm_Sm x sy cc Qf (sm_b2 o' g) S pc lv stk := fun out ho H locs ls hP hS hl => by
  cases ho' : o' with
  | none => rw [ho'] at ho; cases ho
  | some q =>
    rw [ho'] at ho
    exact va_calli (sm_runS ok d w mw hfr hlo hn hst hrm (hM q ho') hP hS hl) hS (fun _ _ h => h) (fun _ h => h) (fun r u t H1 locs1 ht hvm hw hB hz hk hS1 => by
      obtain ⟨hr, hu⟩ := hw
      subst hr
      subst hu
      exact kk _ _ out ho H1 locs1 ls (by rw [← ht]; exact hB.1) hS1 hl)
theorem sm_callV_l {y : MethodName} {b : ByteArray} {mL n i fr' lo' p ci m nn : Nat} {ret : Option FieldType} {T : u_T} {rest : List Value} {stk : List Value} {o' : Option (Int64 × sm_St)} {g : Int64 → sm_St → Option O} (As : List Value) (ok : sm_Ok x sy cc own nL fr lo) (d : decode cc pc = .ok (.invokevirtual i, 3)) (w : Cond.methodLink own i y ∈ sm_GW) (mw : sm_MW y b mL ret n) (hs : sy.1 p = (10 + ci, m)) (hc : sm_cl[ci]? = some (y.cls, T, nn)) (hfr : fr' + 1 ≤ fr) (hlo : 8 + (mL + 11) + lo' ≤ lo) (hn : As.length = n) (hst : stk = As.reverse ++ .ref ((xw x).2.2 p) :: rest) (hrm : (rest.map fun v => v.category).sum ≤ 8) (hM : sm_Ct (xl x) sy (xw x) y b mL ret fr' lo' (.ref ((xw x).2.2 p) :: As) S (sm_Pl sy (xw x)) o')
    (kk : ∀ (r : Int64) (S : sm_St), sm_Sm x sy cc Qf (g r S) S (pc + 3) lv (.long r :: rest)) : sm_Sm x sy cc Qf (sm_b2 o' g) S pc lv stk := fun out ho H locs ls hP hS hl => by
  cases ho' : o' with
  | none => rw [ho'] at ho; cases ho
  | some q =>
    rw [ho'] at ho
    exact va_calll (sm_runV ok d w mw hs hc hfr hlo hn hst hrm (hM q ho') hP hS hl) hS (fun _ _ h => h) (fun _ h => h) (fun r u t H1 locs1 ht hvm hw hB hz hk hS1 => by
      obtain ⟨hr, hu⟩ := hw
      subst hr
      subst hu
      exact kk _ _ out ho H1 locs1 ls (by rw [← ht]; exact hB.1) hS1 hl)
theorem sm_callS_l {y : MethodName} {b : ByteArray} {mL n i fr' lo' : Nat} {ret : Option FieldType} {rest : List Value} {stk : List Value} {o' : Option (Int64 × sm_St)} {g : Int64 → sm_St → Option O} (As : List Value) (ok : sm_Ok x sy cc own nL fr lo) (d : decode cc pc = .ok (.invokestatic i, 3)) (w : Cond.methodLink own i y ∈ sm_GW) (mw : sm_MS y b mL ret n) (hfr : fr' + 1 ≤ fr) (hlo : 8 + (mL + 11) + lo' ≤ lo) (hn : As.length = n) (hst : stk = As.reverse ++ rest) (hrm : (rest.map fun v => v.category).sum ≤ 8) (hM : sm_Ct (xl x) sy (xw x) y b mL ret fr' lo' As S (sm_Pl sy (xw x)) o')
    (kk : ∀ (r : Int64) (S : sm_St), sm_Sm x sy cc Qf (g r S) S (pc + 3) lv (.long r :: rest)) : sm_Sm x sy cc Qf (sm_b2 o' g) S pc lv stk := fun out ho H locs ls hP hS hl => by
  cases ho' : o' with
  | none => rw [ho'] at ho; cases ho
  | some q =>
    rw [ho'] at ho
    exact va_calll (sm_runS ok d w mw hfr hlo hn hst hrm (hM q ho') hP hS hl) hS (fun _ _ h => h) (fun _ h => h) (fun r u t H1 locs1 ht hvm hw hB hz hk hS1 => by
      obtain ⟨hr, hu⟩ := hw
      subst hr
      subst hu
      exact kk _ _ out ho H1 locs1 ls (by rw [← ht]; exact hB.1) hS1 hl)
theorem sm_callV_v {y : MethodName} {b : ByteArray} {mL n i fr' lo' p ci m nn : Nat} {ret : Option FieldType} {T : u_T} {rest : List Value} {stk : List Value} {o' : Option (sm_St)} {g : sm_St → Option O} (As : List Value) (ok : sm_Ok x sy cc own nL fr lo) (d : decode cc pc = .ok (.invokevirtual i, 3)) (w : Cond.methodLink own i y ∈ sm_GW) (mw : sm_MW y b mL ret n) (hs : sy.1 p = (10 + ci, m)) (hc : sm_cl[ci]? = some (y.cls, T, nn)) (hfr : fr' + 1 ≤ fr) (hlo : 8 + (mL + 11) + lo' ≤ lo) (hn : As.length = n) (hst : stk = As.reverse ++ .ref ((xw x).2.2 p) :: rest) (hrm : (rest.map fun v => v.category).sum ≤ 8) (hM : sm_Ct (xl x) sy (xw x) y b mL ret fr' lo' (.ref ((xw x).2.2 p) :: As) S (sm_Pv sy (xw x)) o')
    (kk : ∀ (S : sm_St), sm_Sm x sy cc Qf (g S) S (pc + 3) lv (rest)) : sm_Sm x sy cc Qf (sm_b1 o' g) S pc lv stk := fun out ho H locs ls hP hS hl => by
  cases ho' : o' with
  | none => rw [ho'] at ho; cases ho
  | some q =>
    rw [ho'] at ho
    exact va_callv (sm_runV ok d w mw hs hc hfr hlo hn hst hrm (hM q ho') hP hS hl) hS (fun _ _ h => h) (fun _ h => h) (fun u t H1 locs1 ht hvm hw hB hz hk hS1 => by
      subst hw
      exact kk _ out ho H1 locs1 ls (by rw [← ht]; exact hB.1) hS1 hl)
theorem sm_callS_v {y : MethodName} {b : ByteArray} {mL n i fr' lo' : Nat} {ret : Option FieldType} {rest : List Value} {stk : List Value} {o' : Option (sm_St)} {g : sm_St → Option O} (As : List Value) (ok : sm_Ok x sy cc own nL fr lo) (d : decode cc pc = .ok (.invokestatic i, 3)) (w : Cond.methodLink own i y ∈ sm_GW) (mw : sm_MS y b mL ret n) (hfr : fr' + 1 ≤ fr) (hlo : 8 + (mL + 11) + lo' ≤ lo) (hn : As.length = n) (hst : stk = As.reverse ++ rest) (hrm : (rest.map fun v => v.category).sum ≤ 8) (hM : sm_Ct (xl x) sy (xw x) y b mL ret fr' lo' As S (sm_Pv sy (xw x)) o')
    (kk : ∀ (S : sm_St), sm_Sm x sy cc Qf (g S) S (pc + 3) lv (rest)) : sm_Sm x sy cc Qf (sm_b1 o' g) S pc lv stk := fun out ho H locs ls hP hS hl => by
  cases ho' : o' with
  | none => rw [ho'] at ho; cases ho
  | some q =>
    rw [ho'] at ho
    exact va_callv (sm_runS ok d w mw hfr hlo hn hst hrm (hM q ho') hP hS hl) hS (fun _ _ h => h) (fun _ h => h) (fun u t H1 locs1 ht hvm hw hB hz hk hS1 => by
      subst hw
      exact kk _ out ho H1 locs1 ls (by rw [← ht]; exact hB.1) hS1 hl)
theorem sm_callV_r {y : MethodName} {b : ByteArray} {mL n i fr' lo' p ci m nn : Nat} {ret : Option FieldType} {T : u_T} {rest : List Value} {stk : List Value} {o' : Option (Nat × sm_St)} {g : Nat → sm_St → Option O} (As : List Value) (ok : sm_Ok x sy cc own nL fr lo) (d : decode cc pc = .ok (.invokevirtual i, 3)) (w : Cond.methodLink own i y ∈ sm_GW) (mw : sm_MW y b mL ret n) (hs : sy.1 p = (10 + ci, m)) (hc : sm_cl[ci]? = some (y.cls, T, nn)) (hfr : fr' + 1 ≤ fr) (hlo : 8 + (mL + 11) + lo' ≤ lo) (hn : As.length = n) (hst : stk = As.reverse ++ .ref ((xw x).2.2 p) :: rest) (hrm : (rest.map fun v => v.category).sum ≤ 8) (hM : sm_Ct (xl x) sy (xw x) y b mL ret fr' lo' (.ref ((xw x).2.2 p) :: As) S (sm_Pr sy (xw x)) o')
    (kk : ∀ (r : Nat) (S : sm_St), sm_Sm x sy cc Qf (g r S) S (pc + 3) lv (.ref ((xw x).2.2 r) :: rest)) : sm_Sm x sy cc Qf (sm_b2 o' g) S pc lv stk := fun out ho H locs ls hP hS hl => by
  cases ho' : o' with
  | none => rw [ho'] at ho; cases ho
  | some q =>
    rw [ho'] at ho
    exact va_callr (sm_runV ok d w mw hs hc hfr hlo hn hst hrm (hM q ho') hP hS hl) hS (fun _ _ h => h) (fun _ h => h) (fun u ra t H1 locs1 ht hvm hw hB hz hk hS1 => by
      obtain ⟨hra, hB⟩ := hB
      subst hw
      subst hra
      exact kk _ _ out ho H1 locs1 ls (by rw [← ht]; exact hB.1) hS1 hl)
theorem sm_callS_r {y : MethodName} {b : ByteArray} {mL n i fr' lo' : Nat} {ret : Option FieldType} {rest : List Value} {stk : List Value} {o' : Option (Nat × sm_St)} {g : Nat → sm_St → Option O} (As : List Value) (ok : sm_Ok x sy cc own nL fr lo) (d : decode cc pc = .ok (.invokestatic i, 3)) (w : Cond.methodLink own i y ∈ sm_GW) (mw : sm_MS y b mL ret n) (hfr : fr' + 1 ≤ fr) (hlo : 8 + (mL + 11) + lo' ≤ lo) (hn : As.length = n) (hst : stk = As.reverse ++ rest) (hrm : (rest.map fun v => v.category).sum ≤ 8) (hM : sm_Ct (xl x) sy (xw x) y b mL ret fr' lo' As S (sm_Pr sy (xw x)) o')
    (kk : ∀ (r : Nat) (S : sm_St), sm_Sm x sy cc Qf (g r S) S (pc + 3) lv (.ref ((xw x).2.2 r) :: rest)) : sm_Sm x sy cc Qf (sm_b2 o' g) S pc lv stk := fun out ho H locs ls hP hS hl => by
  cases ho' : o' with
  | none => rw [ho'] at ho; cases ho
  | some q =>
    rw [ho'] at ho
    exact va_callr (sm_runS ok d w mw hfr hlo hn hst hrm (hM q ho') hP hS hl) hS (fun _ _ h => h) (fun _ h => h) (fun u ra t H1 locs1 ht hvm hw hB hz hk hS1 => by
      obtain ⟨hra, hB⟩ := hB
      subst hw
      subst hra
      exact kk _ _ out ho H1 locs1 ls (by rw [← ht]; exact hB.1) hS1 hl)
end
