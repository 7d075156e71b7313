section
variable {x : sm_Cx} {A : Nat → Prop} {b L i : Nat} {t : Nat → Int32} {wx wm : sm_Wc} {c0 s0 : Nat} {Q : State → Prop} {X S : sm_St}
theorem lw_step (K : lw_K x A b L t wx wm) (hi : i + 6 ≤ L) (hc : c0 ≤ 600000) (hs : s0 ≤ 7302250) (hR : R X S) (kk : ∀ X' S', R X' S' → al_W x A (lw_W wx wm X' S') c0 s0 Q 1032 (lw_V b wx wm (nI i)) []) : al_W x A (lw_W wx wm X S) c0 s0 Q 27 (lw_V b wx wm (nI i)) [] := by
  have hL := lw_L K
  refine al_aload_n 3 K.1 d_law_27 rfl ?_
  refine al_iload_n 0 K.1 d_law_28 rfl ?_
  refine al_sld K.1 K.2.1 K.2.2.1 (K.2.2.2.1 b K.2.2.1) d_law_29 (vp_in_nI (by omega) (by omega)) ?_
  rw [nI_clamp (n := i) (by omega)]
  refine al_bipush 31 K.1 d_law_30 (by decide) ?_
  refine al_iand K.1 d_law_32 ?_
  generalize t i &&& 31 = v
  by_cases ho : v.toInt < 0 ∨ 28 < v.toInt
  · exact al_tabO 1032 K.1 d_law_33 ho (by decide) (kk X S hR)
  · obtain ⟨n, hn⟩ : ∃ n : Nat, v.toInt = (n : Int) := ⟨v.toInt.toNat, by omega⟩
    have h1 : ¬ v.toInt < 0 := by omega
    have h2 : ¬ 28 < v.toInt := by omega
    have hl : n < 29 := by omega
    rcases (show n = 0 ∨ n = 1 ∨ n = 2 ∨ n = 3 ∨ n = 4 ∨ n = 5 ∨ n = 6 ∨ n = 7 ∨ n = 8 ∨ n = 9 ∨ n = 10 ∨ n = 11 ∨ n = 12 ∨ n = 13 ∨ n = 14 ∨ n = 15 ∨ n = 16 ∨ n = 17 ∨ n = 18 ∨ n = 19 ∨ n = 20 ∨ n = 21 ∨ n = 22 ∨ n = 23 ∨ n = 24 ∨ n = 25 ∨ n = 26 ∨ n = 27 ∨ n = 28 by omega) with rfl | rfl | rfl | rfl | rfl | rfl | rfl | rfl | rfl | rfl | rfl | rfl | rfl | rfl | rfl | rfl | rfl | rfl | rfl | rfl | rfl | rfl | rfl | rfl | rfl | rfl | rfl | rfl | rfl
    · exact al_tabI (off := 131) 164 K.1 d_law_33 h1 h2 (by rw [hn]; rfl) (by decide) (lw_c0 K hi hc hs hR kk)
    · exact al_tabI (off := 174) 207 K.1 d_law_33 h1 h2 (by rw [hn]; rfl) (by decide) (lw_c1 K hi hc hs hR kk)
    · exact al_tabI (off := 197) 230 K.1 d_law_33 h1 h2 (by rw [hn]; rfl) (by decide) (lw_c2 K hi hc hs hR kk)
    · exact al_tabI (off := 240) 273 K.1 d_law_33 h1 h2 (by rw [hn]; rfl) (by decide) (lw_c3 K hi hc hs hR kk)
    · exact al_tabI (off := 273) 306 K.1 d_law_33 h1 h2 (by rw [hn]; rfl) (by decide) (lw_c4 K hi hc hs hR kk)
    · exact al_tabI (off := 336) 369 K.1 d_law_33 h1 h2 (by rw [hn]; rfl) (by decide) (lw_c5 K hi hc hs hR kk)
    · exact al_tabI (off := 349) 382 K.1 d_law_33 h1 h2 (by rw [hn]; rfl) (by decide) (lw_c6 K hi hc hs hR kk)
    · exact al_tabI (off := 362) 395 K.1 d_law_33 h1 h2 (by rw [hn]; rfl) (by decide) (lw_c7 K hi hc hs hR kk)
    · exact al_tabI (off := 395) 428 K.1 d_law_33 h1 h2 (by rw [hn]; rfl) (by decide) (lw_c8 K hi hc hs hR kk)
    · exact al_tabI (off := 408) 441 K.1 d_law_33 h1 h2 (by rw [hn]; rfl) (by decide) (lw_c9 K hi hc hs hR kk)
    · exact al_tabI (off := 421) 454 K.1 d_law_33 h1 h2 (by rw [hn]; rfl) (by decide) (lw_c10 K hi hc hs hR kk)
    · exact al_tabI (off := 454) 487 K.1 d_law_33 h1 h2 (by rw [hn]; rfl) (by decide) (lw_c11 K hi hc hs hR kk)
    · exact al_tabI (off := 477) 510 K.1 d_law_33 h1 h2 (by rw [hn]; rfl) (by decide) (lw_c12 K hi hc hs hR kk)
    · exact al_tabI (off := 540) 573 K.1 d_law_33 h1 h2 (by rw [hn]; rfl) (by decide) (lw_c13 K hi hc hs hR kk)
    · exact al_tabI (off := 583) 616 K.1 d_law_33 h1 h2 (by rw [hn]; rfl) (by decide) (lw_c14 K hi hc hs hR kk)
    · exact al_tabI (off := 606) 639 K.1 d_law_33 h1 h2 (by rw [hn]; rfl) (by decide) (lw_c15 K hi hc hs hR kk)
    · exact al_tabI (off := 649) 682 K.1 d_law_33 h1 h2 (by rw [hn]; rfl) (by decide) (lw_c16 K hi hc hs hR kk)
    · exact al_tabI (off := 682) 715 K.1 d_law_33 h1 h2 (by rw [hn]; rfl) (by decide) (lw_c17 K hi hc hs hR kk)
    · exact al_tabI (off := 735) 768 K.1 d_law_33 h1 h2 (by rw [hn]; rfl) (by decide) (lw_c18 K hi hc hs hR kk)
    · exact al_tabI (off := 748) 781 K.1 d_law_33 h1 h2 (by rw [hn]; rfl) (by decide) (lw_c19 K hi hc hs hR kk)
    · exact al_tabI (off := 771) 804 K.1 d_law_33 h1 h2 (by rw [hn]; rfl) (by decide) (lw_c20 K hi hc hs hR kk)
    · exact al_tabI (off := 784) 817 K.1 d_law_33 h1 h2 (by rw [hn]; rfl) (by decide) (lw_c21 K hi hc hs hR kk)
    · exact al_tabI (off := 837) 870 K.1 d_law_33 h1 h2 (by rw [hn]; rfl) (by decide) (lw_c22 K hi hc hs hR kk)
    · exact al_tabI (off := 860) 893 K.1 d_law_33 h1 h2 (by rw [hn]; rfl) (by decide) (lw_c23 K hi hc hs hR kk)
    · exact al_tabI (off := 893) 926 K.1 d_law_33 h1 h2 (by rw [hn]; rfl) (by decide) (lw_c24 K hi hc hs hR kk)
    · exact al_tabI (off := 916) 949 K.1 d_law_33 h1 h2 (by rw [hn]; rfl) (by decide) (lw_c25 K hi hc hs hR kk)
    · exact al_tabI (off := 939) 972 K.1 d_law_33 h1 h2 (by rw [hn]; rfl) (by decide) (lw_c26 K hi hc hs hR kk)
    · exact al_tabI (off := 962) 995 K.1 d_law_33 h1 h2 (by rw [hn]; rfl) (by decide) (lw_c27 K hi hc hs hR kk)
    · exact al_tabI (off := 985) 1018 K.1 d_law_33 h1 h2 (by rw [hn]; rfl) (by decide) (lw_c28 K hi hc hs hR kk)
theorem lw_back (K : lw_K x A b L t wx wm) {X : va_W} (k : al_W x A X c0 s0 Q 18 (lw_V b wx wm (nI (i + 6))) []) : al_W x A X c0 s0 Q 1032 (lw_V b wx wm (nI i)) [] := by
  refine al_iinc (w := nI (i + 6)) (lv' := lw_V b wx wm (nI (i + 6))) 0 K.1 d_law_1032 rfl ?_ (by decide) rfl ?_
  · rw [show Int32.ofInt 6 = nI 6 by decide, nI_add]
  · exact al_goto 18 K.1 d_law_1035 (by decide) k
theorem lw_head (K : lw_K x A b L t wx wm) (hi : i ≤ L) {X : va_W} (he : al_W x A X c0 s0 Q 1038 (lw_V b wx wm (nI i)) []) (kk : i + 6 ≤ L → al_W x A X c0 s0 Q 27 (lw_V b wx wm (nI i)) []) : al_W x A X c0 s0 Q 18 (lw_V b wx wm (nI i)) [] := by
  have hL := lw_L K
  refine al_iload_n 0 K.1 d_law_18 rfl ?_
  refine al_aload_n 3 K.1 d_law_19 rfl ?_
  refine al_slen K.1 K.2.1 K.2.2.1 (K.2.2.2.1 b K.2.2.1) d_law_20 ?_
  refine al_bipush (nI 6) K.1 d_law_21 (by decide) ?_
  refine al_isub K.1 d_law_23 ?_
  refine al_gt 1038 K.1 d_law_24 (by decide) (fun _ => he) (fun h => kk ?_)
  have e : (nI L - nI 6).toInt = (L : Int) - 6 := pk_sub_toInt (by omega) (by omega)
  have h' : ¬ ((nI L - nI 6).toInt < (nI i).toInt) := fun q => h (Int32.lt_iff_toInt_lt.mpr q)
  rw [e, nI_toInt (by omega)] at h'
  omega
theorem lw_loop (K : lw_K x A b L t wx wm) (hc : c0 ≤ 600000) (hs : s0 ≤ 7302250) (he : ∀ (X S : sm_St) (v : Int32), al_W x A (lw_W wx wm X S) c0 s0 Q 1038 (lw_V b wx wm v) []) : ∀ (n i : Nat) (X S : sm_St), R X S → i ≤ L → L < i + 6 + 6 * n → al_W x A (lw_W wx wm X S) c0 s0 Q 18 (lw_V b wx wm (nI i)) [] := by
  intro n
  induction n with
  | zero => exact fun i X S hR hi hn => lw_head K hi (he X S _) (fun q => absurd q (by omega))
  | succ n ih => exact fun i X S hR hi hn => lw_head K hi (he X S _) (fun q => lw_step K q hc hs hR (fun X' S' hR' => lw_back K (ih (i + 6) X' S' hR' (by omega) (by omega))))
end
