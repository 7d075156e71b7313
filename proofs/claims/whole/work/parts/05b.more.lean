section
variable {x : sm_Cx} {sy : sm_Sy} {cc : ByteArray} {O : Type} {Qf : O → State → Prop} {o o1 o2 : Option O} {S : sm_St} {pc : Nat} {lv lv' : List (Nat × Value)} {st : List Value} {own : String} {nL fr lo : Nat}
theorem sm_tag {q t n : Nat} (h : sy.1 q = (t, n)) : (sy.1 q).1 = t := by rw [h]
theorem sm_topr {v : Nat} {f : Nat → Option O} (k : ∀ v : Nat, sm_Sm x sy cc Qf (f v) S pc lv (.ref ((xw x).2.2 v) :: st)) : sm_Sm x sy cc Qf (sm_lt v f) S pc lv (.ref ((xw x).2.2 v) :: st) := k v
end
