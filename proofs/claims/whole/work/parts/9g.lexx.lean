/-- what lies outside the class's cells: the table of primes, the texts -/
theorem al_ad_r {r e : Nat → Nat} {i : Nat} (h : i < 147) : al_ad r e i = r i := if_pos h
theorem al_ad_e {r e : Nat → Nat} {i : Nat} (h : ¬ i < 147) : al_ad r e i = e i := if_neg h
def al_out (t : Nat) (k v : Nat → Nat) : Nat → Nat := fun p => if p = 1000 then t else if p < 1004 then k (p - 1001) else v (p - 1004)
theorem al_out_t {t : Nat} {k v r : Nat → Nat} : al_ad r (al_out t k v) 1000 = t := by
  rw [al_ad_e (by omega)]
  exact if_pos rfl
theorem al_out_k {t i : Nat} {k v r : Nat → Nat} (h : i < 3) : al_ad r (al_out t k v) (1001 + i) = k i := by
  rw [al_ad_e (by omega)]
  unfold al_out
  rw [if_neg (by omega), if_pos (by omega), Nat.add_sub_cancel_left]
theorem al_out_v {t i : Nat} {k v r : Nat → Nat} : al_ad r (al_out t k v) (1004 + i) = v i := by
  rw [al_ad_e (by omega)]
  unfold al_out
  rw [if_neg (by omega), if_neg (by omega), Nat.add_sub_cancel_left]
section
variable {args : Array Value} {s : State}
def al_PR : Term := .static "LentShades$Fraction" "PRIMES" "[I"
def al_TX (i : Nat) : Term := .string "LentShades$Reader" (([93, 99, 101] : List Nat).getD i 0)
theorem al_prE (hs : ∀ c ∈ flatC (Jvm.Cond.and given_1 narrow_1), c.before args s = true) : ∀ j : Nat, j < 12 → (Term.elem al_PR (.int (Int32.ofNat j))).eval args s none [] s = some (.int (zx_pr.getD j 0)) := fun j hj => by
  rcases (show j = 0 ∨ j = 1 ∨ j = 2 ∨ j = 3 ∨ j = 4 ∨ j = 5 ∨ j = 6 ∨ j = 7 ∨ j = 8 ∨ j = 9 ∨ j = 10 ∨ j = 11 by omega) with rfl | rfl | rfl | rfl | rfl | rfl | rfl | rfl | rfl | rfl | rfl | rfl
  · exact va_eqt (z := 2) (hs (Cond.eq (.elem (.static "LentShades$Fraction" "PRIMES" "[I") (.int 0)) (.int 2)) (by decide +kernel))
  · exact va_eqt (z := 3) (hs (Cond.eq (.elem (.static "LentShades$Fraction" "PRIMES" "[I") (.int 1)) (.int 3)) (by decide +kernel))
  · exact va_eqt (z := 5) (hs (Cond.eq (.elem (.static "LentShades$Fraction" "PRIMES" "[I") (.int 2)) (.int 5)) (by decide +kernel))
  · exact va_eqt (z := 7) (hs (Cond.eq (.elem (.static "LentShades$Fraction" "PRIMES" "[I") (.int 3)) (.int 7)) (by decide +kernel))
  · exact va_eqt (z := 11) (hs (Cond.eq (.elem (.static "LentShades$Fraction" "PRIMES" "[I") (.int 4)) (.int 11)) (by decide +kernel))
  · exact va_eqt (z := 13) (hs (Cond.eq (.elem (.static "LentShades$Fraction" "PRIMES" "[I") (.int 5)) (.int 13)) (by decide +kernel))
  · exact va_eqt (z := 17) (hs (Cond.eq (.elem (.static "LentShades$Fraction" "PRIMES" "[I") (.int 6)) (.int 17)) (by decide +kernel))
  · exact va_eqt (z := 19) (hs (Cond.eq (.elem (.static "LentShades$Fraction" "PRIMES" "[I") (.int 7)) (.int 19)) (by decide +kernel))
  · exact va_eqt (z := 23) (hs (Cond.eq (.elem (.static "LentShades$Fraction" "PRIMES" "[I") (.int 8)) (.int 23)) (by decide +kernel))
  · exact va_eqt (z := 29) (hs (Cond.eq (.elem (.static "LentShades$Fraction" "PRIMES" "[I") (.int 9)) (.int 29)) (by decide +kernel))
  · exact va_eqt (z := 31) (hs (Cond.eq (.elem (.static "LentShades$Fraction" "PRIMES" "[I") (.int 10)) (.int 31)) (by decide +kernel))
  · exact va_eqt (z := 37) (hs (Cond.eq (.elem (.static "LentShades$Fraction" "PRIMES" "[I") (.int 11)) (.int 37)) (by decide +kernel))
theorem al_txX (hs : ∀ c ∈ flatC (Jvm.Cond.and given_1 narrow_1), c.before args s = true) : ∀ i : Nat, i < 3 → (Cond.exactly (al_TX i) "java/lang/String").before args s = true := fun i hi => by
  rcases (show i = 0 ∨ i = 1 ∨ i = 2 by omega) with rfl | rfl | rfl
  · exact hs (Cond.exactly (.string "LentShades$Reader" 93) "java/lang/String") (by decide +kernel)
  · exact hs (Cond.exactly (.string "LentShades$Reader" 99) "java/lang/String") (by decide +kernel)
  · exact hs (Cond.exactly (.string "LentShades$Reader" 101) "java/lang/String") (by decide +kernel)
theorem al_txC (hs : ∀ c ∈ flatC (Jvm.Cond.and given_1 narrow_1), c.before args s = true) : ∀ i : Nat, i < 3 → (Cond.eq (.field (al_TX i) "java/lang/String" "coder" "B") (.int 0)).before args s = true := fun i hi => by
  rcases (show i = 0 ∨ i = 1 ∨ i = 2 by omega) with rfl | rfl | rfl
  · exact hs (Cond.eq (.field (.string "LentShades$Reader" 93) "java/lang/String" "coder" "B") (.int 0)) (by decide +kernel)
  · exact hs (Cond.eq (.field (.string "LentShades$Reader" 99) "java/lang/String" "coder" "B") (.int 0)) (by decide +kernel)
  · exact hs (Cond.eq (.field (.string "LentShades$Reader" 101) "java/lang/String" "coder" "B") (.int 0)) (by decide +kernel)
theorem al_txA (hs : ∀ c ∈ flatC (Jvm.Cond.and given_1 narrow_1), c.before args s = true) : ∀ i : Nat, i < 3 → (Cond.arrayOf (.field (al_TX i) "java/lang/String" "value" "[B") .byte).before args s = true := fun i hi => by
  rcases (show i = 0 ∨ i = 1 ∨ i = 2 by omega) with rfl | rfl | rfl
  · exact hs (Cond.arrayOf (.field (.string "LentShades$Reader" 93) "java/lang/String" "value" "[B") .byte) (by decide +kernel)
  · exact hs (Cond.arrayOf (.field (.string "LentShades$Reader" 99) "java/lang/String" "value" "[B") .byte) (by decide +kernel)
  · exact hs (Cond.arrayOf (.field (.string "LentShades$Reader" 101) "java/lang/String" "value" "[B") .byte) (by decide +kernel)
theorem al_txL (hs : ∀ c ∈ flatC (Jvm.Cond.and given_1 narrow_1), c.before args s = true) : ∀ i : Nat, i < 3 → (Cond.eq (.length (.field (al_TX i) "java/lang/String" "value" "[B")) (.int (Int32.ofNat (([5, 5, 5] : List Nat).getD i 0)))).before args s = true := fun i hi => by
  rcases (show i = 0 ∨ i = 1 ∨ i = 2 by omega) with rfl | rfl | rfl
  · exact hs (Cond.eq (.length (.field (.string "LentShades$Reader" 93) "java/lang/String" "value" "[B")) (.int 5)) (by decide +kernel)
  · exact hs (Cond.eq (.length (.field (.string "LentShades$Reader" 99) "java/lang/String" "value" "[B")) (.int 5)) (by decide +kernel)
  · exact hs (Cond.eq (.length (.field (.string "LentShades$Reader" 101) "java/lang/String" "value" "[B")) (.int 5)) (by decide +kernel)
theorem al_txE (hs : ∀ c ∈ flatC (Jvm.Cond.and given_1 narrow_1), c.before args s = true) : ∀ i : Nat, i < 3 → ∀ j : Nat, j < ([5, 5, 5] : List Nat).getD i 0 → (Cond.eq (.elem (.field (al_TX i) "java/lang/String" "value" "[B") (.int (Int32.ofNat j))) (.int ((zx_by.getD i []).getD j 0))).before args s = true := fun i hi j hj => by
  rw [zx_s5 i hi] at hj
  rcases (show i = 0 ∨ i = 1 ∨ i = 2 by omega) with rfl | rfl | rfl <;> rcases (show j = 0 ∨ j = 1 ∨ j = 2 ∨ j = 3 ∨ j = 4 by omega) with rfl | rfl | rfl | rfl | rfl
  · exact hs (Cond.eq (.elem (.field (.string "LentShades$Reader" 93) "java/lang/String" "value" "[B") (.int 0)) (.int 99)) (by decide +kernel)
  · exact hs (Cond.eq (.elem (.field (.string "LentShades$Reader" 93) "java/lang/String" "value" "[B") (.int 1)) (.int 108)) (by decide +kernel)
  · exact hs (Cond.eq (.elem (.field (.string "LentShades$Reader" 93) "java/lang/String" "value" "[B") (.int 2)) (.int 111)) (by decide +kernel)
  · exact hs (Cond.eq (.elem (.field (.string "LentShades$Reader" 93) "java/lang/String" "value" "[B") (.int 3)) (.int 116)) (by decide +kernel)
  · exact hs (Cond.eq (.elem (.field (.string "LentShades$Reader" 93) "java/lang/String" "value" "[B") (.int 4)) (.int 104)) (by decide +kernel)
  · exact hs (Cond.eq (.elem (.field (.string "LentShades$Reader" 99) "java/lang/String" "value" "[B") (.int 0)) (.int 116)) (by decide +kernel)
  · exact hs (Cond.eq (.elem (.field (.string "LentShades$Reader" 99) "java/lang/String" "value" "[B") (.int 1)) (.int 104)) (by decide +kernel)
  · exact hs (Cond.eq (.elem (.field (.string "LentShades$Reader" 99) "java/lang/String" "value" "[B") (.int 2)) (.int 105)) (by decide +kernel)
  · exact hs (Cond.eq (.elem (.field (.string "LentShades$Reader" 99) "java/lang/String" "value" "[B") (.int 3)) (.int 110)) (by decide +kernel)
  · exact hs (Cond.eq (.elem (.field (.string "LentShades$Reader" 99) "java/lang/String" "value" "[B") (.int 4)) (.int 103)) (by decide +kernel)
  · exact hs (Cond.eq (.elem (.field (.string "LentShades$Reader" 101) "java/lang/String" "value" "[B") (.int 0)) (.int 116)) (by decide +kernel)
  · exact hs (Cond.eq (.elem (.field (.string "LentShades$Reader" 101) "java/lang/String" "value" "[B") (.int 1)) (.int 111)) (by decide +kernel)
  · exact hs (Cond.eq (.elem (.field (.string "LentShades$Reader" 101) "java/lang/String" "value" "[B") (.int 2)) (.int 117)) (by decide +kernel)
  · exact hs (Cond.eq (.elem (.field (.string "LentShades$Reader" 101) "java/lang/String" "value" "[B") (.int 3)) (.int 99)) (by decide +kernel)
  · exact hs (Cond.eq (.elem (.field (.string "LentShades$Reader" 101) "java/lang/String" "value" "[B") (.int 4)) (.int 104)) (by decide +kernel)
theorem al_txN (hs : ∀ c ∈ flatC (Jvm.Cond.and given_1 narrow_1), c.before args s = true) : ∀ i j : Nat, i < 3 → j < 3 → i ≠ j → (Cond.not (Cond.eq (al_TX i) (al_TX j))).before args s = true ∨ (Cond.not (Cond.eq (al_TX j) (al_TX i))).before args s = true := fun i j hi hj hij => by
  rcases (show (i = 0 ∧ j = 1) ∨ (i = 0 ∧ j = 2) ∨ (i = 1 ∧ j = 2) ∨ (j = 0 ∧ i = 1) ∨ (j = 0 ∧ i = 2) ∨ (j = 1 ∧ i = 2) by omega) with ⟨rfl, rfl⟩ | ⟨rfl, rfl⟩ | ⟨rfl, rfl⟩ | ⟨rfl, rfl⟩ | ⟨rfl, rfl⟩ | ⟨rfl, rfl⟩
  · exact Or.inl (hs (Cond.not (Cond.eq (.string "LentShades$Reader" 93) (.string "LentShades$Reader" 99))) (by decide +kernel))
  · exact Or.inl (hs (Cond.not (Cond.eq (.string "LentShades$Reader" 93) (.string "LentShades$Reader" 101))) (by decide +kernel))
  · exact Or.inl (hs (Cond.not (Cond.eq (.string "LentShades$Reader" 99) (.string "LentShades$Reader" 101))) (by decide +kernel))
  · exact Or.inr (hs (Cond.not (Cond.eq (.string "LentShades$Reader" 93) (.string "LentShades$Reader" 99))) (by decide +kernel))
  · exact Or.inr (hs (Cond.not (Cond.eq (.string "LentShades$Reader" 93) (.string "LentShades$Reader" 101))) (by decide +kernel))
  · exact Or.inr (hs (Cond.not (Cond.eq (.string "LentShades$Reader" 99) (.string "LentShades$Reader" 101))) (by decide +kernel))
end
theorem al_exX {args : Array Value} {s : State} (hts : ∀ w ∈ lw_tbl, w.before args s = true) (hgv : (Jvm.Cond.and given_1 narrow_1).before args s = true) : ∃ e : Nat → Nat, ∀ (D : va_G) (cA : Nat → ClassId) (r : Nat → Nat), (∀ i, i < 147 → s.heap.size ≤ r i) → zx_ex (D, cA, al_ad r e) s := by
  have hs := flat_of_before _ hgv
  have hA : ∀ a : Nat, a < s.heap.size → ¬ (fun q : Nat => s.heap.size ≤ q) a := fun a h => Nat.not_le.mpr h
  obtain ⟨t, ht, hT⟩ := va_Tof (args := args) (s := s) (tm := al_PR) (ty := .int) (N := 12) (f := fun j => .int (zx_pr.getD j 0)) (A := fun q : Nat => s.heap.size ≤ q) (by decide) (hs (Cond.arrayOf (.static "LentShades$Fraction" "PRIMES" "[I") .int) (by decide +kernel)) (va_eqt (hs (Cond.eq (.length (.static "LentShades$Fraction" "PRIMES" "[I")) (.int 12)) (by decide +kernel))) (al_prE hs) hA
  obtain ⟨k, v, hS, hk⟩ := vk_Sof (args := args) (s := s) (N := 3) (tm := al_TX) (len := [5, 5, 5]) (byt := zx_by) (A := fun q : Nat => s.heap.size ≤ q) (fun i hi => by rw [zx_s5 i hi]; decide) (al_txX hs) (al_txC hs) (al_txA hs) (al_txL hs) (al_txE hs) (al_txN hs) hA
  refine ⟨al_out t k v, fun D cA r hr => ?_⟩
  have hB : ∀ q, zx_A (D, cA, al_ad r (al_out t k v)) q → (fun q : Nat => s.heap.size ≤ q) q := by
    rintro q ⟨i, hi, rfl⟩
    show s.heap.size ≤ al_ad r (al_out t k v) i
    rw [al_ad_r hi]
    exact hr i hi
  have eK : ∀ i, i < 3 → al_ad r (al_out t k v) (1001 + i) = k i := fun i hi => al_out_k hi
  have eV : ∀ i, al_ad r (al_out t k v) (1004 + i) = v i := fun i => al_out_v
  have hS' := hS.narrow hB
  refine ⟨fun q hq => ?_, ⟨?_, ?_⟩, ⟨?_, ?_⟩, ⟨fun i hi => ?_, fun i j hi hj e => ?_⟩, fun i q hq => ?_⟩
  · simp only [zx_nest, List.mem_cons, List.not_mem_nil, or_false] at hq
    rcases hq with rfl | rfl | rfl | rfl | rfl
    · exact va_Nw.of rfl (hts _ (al_mem 619 (by decide +kernel)))
    · exact va_Nw.of rfl (hts _ (al_mem 647 (by decide +kernel)))
    · exact va_Nw.of rfl (hts _ (al_mem 697 (by decide +kernel)))
    · exact va_Nw.of rfl (hts _ (al_mem 820 (by decide +kernel)))
    · exact va_Nw.of rfl (hts _ (al_mem 849 (by decide +kernel)))
  · have h := (va_Zref (hts (.laysStatic "LentShades$Fraction" "PRIMES" "[I") (al_mem 711 (by decide +kernel))) (hts (.initialized "LentShades$Fraction") (al_mem 106 (by decide +kernel))) ht hA).narrow hB
    show va_Z "LentShades$Fraction" "PRIMES" "[I" (.ref (al_ad r (al_out t k v) 1000)) _ s s.heap
    rw [al_out_t]
    exact h
  · show va_T .int (al_ad r (al_out t k v) 1000) 12 _ _ s s.heap
    rw [al_out_t]
    exact hT.narrow hB
  · exact (va_Zof (hts (.laysStatic "java/lang/String" "COMPACT_STRINGS" "Z") (al_mem 545 (by decide +kernel))) (hts (.initialized "java/lang/String") (al_mem 113 (by decide +kernel))) (va_eqi (hs (Cond.eq (.static "java/lang/String" "COMPACT_STRINGS" "Z") (.int 1)) (by decide +kernel))) hA).narrow hB
  · exact (va_Zqof (hts (.laysStatic "jdk/internal/util/Preconditions" "SIOOBE_FORMATTER" "Ljava/util/function/BiFunction;") (al_mem 561 (by decide +kernel))) (hts (.initialized "jdk/internal/util/Preconditions") (al_mem 115 (by decide +kernel))) (hs (Cond.isRef (.static "jdk/internal/util/Preconditions" "SIOOBE_FORMATTER" "Ljava/util/function/BiFunction;")) (by decide +kernel)) hA).narrow hB
  · have h := hS'.1 i hi
    show va_O _ (al_ad r (al_out t k v) (1001 + i)) _ s s.heap ∧ va_OF _ _ _ _ (al_ad r (al_out t k v) (1001 + i)) _ s s.heap ∧ va_OF _ _ _ (.ref (al_ad r (al_out t k v) (1004 + i))) (al_ad r (al_out t k v) (1001 + i)) _ s s.heap ∧ va_T .byte (al_ad r (al_out t k v) (1004 + i)) _ _ _ s s.heap
    rw [eK i hi, eV i]
    exact h
  · have e : al_ad r (al_out t k v) (1001 + i) = al_ad r (al_out t k v) (1001 + j) := e
    rw [eK i hi, eK j hj] at e
    exact hS.2 i j hi hj e
  · have hl : i < 3 := (List.getElem?_eq_some_iff.mp hq).1
    show vk_R "LentShades$Reader" q.1 q.2 (al_ad r (al_out t k v) (1001 + i)) s
    rw [eK i hl]
    rcases (show i = 0 ∨ i = 1 ∨ i = 2 by omega) with rfl | rfl | rfl <;> cases hq
    · exact vk_R.of (hts (.stringRef "LentShades$Reader" 93 "cloth") (al_mem 531 (by decide +kernel))) (hk 0 (by decide))
    · exact vk_R.of (hts (.stringRef "LentShades$Reader" 99 "thing") (al_mem 584 (by decide +kernel))) (hk 1 (by decide))
    · exact vk_R.of (hts (.stringRef "LentShades$Reader" 101 "touch") (al_mem 585 (by decide +kernel))) (hk 2 (by decide))
