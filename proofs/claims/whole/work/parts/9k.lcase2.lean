section
variable {x : sm_Cx} {A : Nat → Prop} {b L i : Nat} {t : Nat → Int32} {wx wm : sm_Wc} {c0 s0 : Nat} {Q : State → Prop} {X S : sm_St}
theorem lw_c20 (K : lw_K x A b L t wx wm) (hi : i + 6 ≤ L) (hc : c0 ≤ 600000) (hs : s0 ≤ 7302250) (hR : R X S) (kk : ∀ X' S', R X' S' → al_W x A (lw_W wx wm X' S') c0 s0 Q 1032 (lw_V b wx wm (nI i)) []) : al_W x A (lw_W wx wm X S) c0 s0 Q 804 (lw_V b wx wm (nI i)) [] := by
  obtain ⟨r, X', S', hx, hm, hR'⟩ := c_colours (N := 4000) (Nat.le_refl 4000) hR
  refine al_aload_n 2 K.1 d_law_804 rfl ?_
  refine lw_cx (As := []) K d_law_805 (cx_L_colours K.2.2.2.2.2.2.1 4000 X (r, X') hx) rfl wd_917 mwx_L_colours (by decide) (by decide) rfl rfl (Nat.le_of_ble_eq_true rfl) hc hs ?_
  refine al_swap ?_
  refine al_aload_n 1 K.1 d_law_808 rfl ?_
  refine lw_cm (As := []) K d_law_809 (cm_colours K.2.2.2.2.2.2.2.1 4000 S (r, S') hm) rfl wd_1393 mwm_colours (by decide) (by decide) rfl rfl (Nat.le_of_ble_eq_true rfl) hc hs ?_
  refine al_swap ?_
  refine al_eqT 1032 K.1 d_law_812 (by decide) ?_
  exact kk X' S' hR'
theorem lw_c21 (K : lw_K x A b L t wx wm) (hi : i + 6 ≤ L) (hc : c0 ≤ 600000) (hs : s0 ≤ 7302250) (hR : R X S) (kk : ∀ X' S', R X' S' → al_W x A (lw_W wx wm X' S') c0 s0 Q 1032 (lw_V b wx wm (nI i)) []) : al_W x A (lw_W wx wm X S) c0 s0 Q 817 (lw_V b wx wm (nI i)) [] := by
  obtain ⟨r, X', S', hx, hm, hR'⟩ := c_least (N := 4000) (v1 := (t (i + 1))) (v2 := (t (i + 2))) (v3 := (t (i + 3))) (v4 := (t (i + 4))) (Nat.le_refl 4000) hR
  refine al_aload_n 2 K.1 d_law_817 rfl ?_
  refine lw_el (j := 1) 1 K d_law_818 d_law_819 d_law_820 d_law_821 d_law_822 (by decide) (by omega) ?_
  refine lw_el (j := 2) 2 K d_law_823 d_law_824 d_law_825 d_law_826 d_law_827 (by decide) (by omega) ?_
  refine lw_el (j := 3) 3 K d_law_828 d_law_829 d_law_830 d_law_831 d_law_832 (by decide) (by omega) ?_
  refine lw_el (j := 4) 4 K d_law_833 d_law_834 d_law_835 d_law_836 d_law_837 (by decide) (by omega) ?_
  refine lw_cx (As := [.int (t (i + 1)), .int (t (i + 2)), .int (t (i + 3)), .int (t (i + 4))]) K d_law_838 (cx_L_least K.2.2.2.2.2.2.1 4000 X (t (i + 1)) (t (i + 2)) (t (i + 3)) (t (i + 4)) (r, X') hx) rfl wd_930 mwx_L_least (by decide) (by decide) rfl rfl (Nat.le_of_ble_eq_true rfl) hc hs ?_
  refine al_swap ?_
  refine al_aload_n 1 K.1 d_law_841 rfl ?_
  refine lw_el (j := 1) 1 K d_law_842 d_law_843 d_law_844 d_law_845 d_law_846 (by decide) (by omega) ?_
  refine lw_el (j := 2) 2 K d_law_847 d_law_848 d_law_849 d_law_850 d_law_851 (by decide) (by omega) ?_
  refine lw_el (j := 3) 3 K d_law_852 d_law_853 d_law_854 d_law_855 d_law_856 (by decide) (by omega) ?_
  refine lw_el (j := 4) 4 K d_law_857 d_law_858 d_law_859 d_law_860 d_law_861 (by decide) (by omega) ?_
  refine lw_cm (As := [.int (t (i + 1)), .int (t (i + 2)), .int (t (i + 3)), .int (t (i + 4))]) K d_law_862 (cm_least K.2.2.2.2.2.2.2.1 4000 S (t (i + 1)) (t (i + 2)) (t (i + 3)) (t (i + 4)) (r, S') hm) rfl wd_1397 mwm_least (by decide) (by decide) rfl rfl (Nat.le_of_ble_eq_true rfl) hc hs ?_
  refine al_swap ?_
  refine al_eqT 1032 K.1 d_law_865 (by decide) ?_
  exact kk X' S' hR'
theorem lw_c22 (K : lw_K x A b L t wx wm) (hi : i + 6 ≤ L) (hc : c0 ≤ 600000) (hs : s0 ≤ 7302250) (hR : R X S) (kk : ∀ X' S', R X' S' → al_W x A (lw_W wx wm X' S') c0 s0 Q 1032 (lw_V b wx wm (nI i)) []) : al_W x A (lw_W wx wm X S) c0 s0 Q 870 (lw_V b wx wm (nI i)) [] := by
  obtain ⟨r, X', S', hx, hm, hR'⟩ := c_sign (N := 4000) (v1 := (t (i + 1))) (Nat.le_refl 4000) hR
  refine al_aload_n 2 K.1 d_law_870 rfl ?_
  refine lw_el (j := 1) 1 K d_law_871 d_law_872 d_law_873 d_law_874 d_law_875 (by decide) (by omega) ?_
  refine lw_cx (As := [.int (t (i + 1))]) K d_law_876 (cx_L_sign K.2.2.2.2.2.2.1 4000 X (t (i + 1)) (r, X') hx) rfl wd_934 mwx_L_sign (by decide) (by decide) rfl rfl (Nat.le_of_ble_eq_true rfl) hc hs ?_
  refine al_swap ?_
  refine al_aload_n 1 K.1 d_law_879 rfl ?_
  refine lw_el (j := 1) 1 K d_law_880 d_law_881 d_law_882 d_law_883 d_law_884 (by decide) (by omega) ?_
  refine lw_cm (As := [.int (t (i + 1))]) K d_law_885 (cm_sign K.2.2.2.2.2.2.2.1 4000 S (t (i + 1)) (r, S') hm) rfl wd_1465 mwm_sign (by decide) (by decide) rfl rfl (Nat.le_of_ble_eq_true rfl) hc hs ?_
  refine al_swap ?_
  refine al_eqT 1032 K.1 d_law_888 (by decide) ?_
  exact kk X' S' hR'
theorem lw_c23 (K : lw_K x A b L t wx wm) (hi : i + 6 ≤ L) (hc : c0 ≤ 600000) (hs : s0 ≤ 7302250) (hR : R X S) (kk : ∀ X' S', R X' S' → al_W x A (lw_W wx wm X' S') c0 s0 Q 1032 (lw_V b wx wm (nI i)) []) : al_W x A (lw_W wx wm X S) c0 s0 Q 893 (lw_V b wx wm (nI i)) [] := by
  obtain ⟨r, X', S', hx, hm, hR'⟩ := c_limb (N := 4000) (v1 := (t (i + 1))) (v2 := (t (i + 2))) (Nat.le_refl 4000) hR
  refine al_aload_n 2 K.1 d_law_893 rfl ?_
  refine lw_el (j := 1) 1 K d_law_894 d_law_895 d_law_896 d_law_897 d_law_898 (by decide) (by omega) ?_
  refine lw_el (j := 2) 2 K d_law_899 d_law_900 d_law_901 d_law_902 d_law_903 (by decide) (by omega) ?_
  refine lw_cx (As := [.int (t (i + 1)), .int (t (i + 2))]) K d_law_904 (cx_L_limb K.2.2.2.2.2.2.1 4000 X (t (i + 1)) (t (i + 2)) (r, X') hx) rfl wd_942 mwx_L_limb (by decide) (by decide) rfl rfl (Nat.le_of_ble_eq_true rfl) hc hs ?_
  refine al_swap ?_
  refine al_aload_n 1 K.1 d_law_907 rfl ?_
  refine lw_el (j := 1) 1 K d_law_908 d_law_909 d_law_910 d_law_911 d_law_912 (by decide) (by omega) ?_
  refine lw_el (j := 2) 2 K d_law_913 d_law_914 d_law_915 d_law_916 d_law_917 (by decide) (by omega) ?_
  refine lw_cm (As := [.int (t (i + 1)), .int (t (i + 2))]) K d_law_918 (cm_limb K.2.2.2.2.2.2.2.1 4000 S (t (i + 1)) (t (i + 2)) (r, S') hm) rfl wd_1469 mwm_limb (by decide) (by decide) rfl rfl (Nat.le_of_ble_eq_true rfl) hc hs ?_
  refine al_swap ?_
  refine al_eqT 1032 K.1 d_law_921 (by decide) ?_
  exact kk X' S' hR'
theorem lw_c24 (K : lw_K x A b L t wx wm) (hi : i + 6 ≤ L) (hc : c0 ≤ 600000) (hs : s0 ≤ 7302250) (hR : R X S) (kk : ∀ X' S', R X' S' → al_W x A (lw_W wx wm X' S') c0 s0 Q 1032 (lw_V b wx wm (nI i)) []) : al_W x A (lw_W wx wm X S) c0 s0 Q 926 (lw_V b wx wm (nI i)) [] := by
  obtain ⟨r, X', S', hx, hm, hR'⟩ := c_image (N := 4000) (v1 := (t (i + 1))) (Nat.le_refl 4000) hR
  refine al_aload_n 2 K.1 d_law_926 rfl ?_
  refine lw_el (j := 1) 1 K d_law_927 d_law_928 d_law_929 d_law_930 d_law_931 (by decide) (by omega) ?_
  refine lw_cx (As := [.int (t (i + 1))]) K d_law_932 (cx_L_image K.2.2.2.2.2.2.1 4000 X (t (i + 1)) (r, X') hx) rfl wd_950 mwx_L_image (by decide) (by decide) rfl rfl (Nat.le_of_ble_eq_true rfl) hc hs ?_
  refine al_swap ?_
  refine al_aload_n 1 K.1 d_law_935 rfl ?_
  refine lw_el (j := 1) 1 K d_law_936 d_law_937 d_law_938 d_law_939 d_law_940 (by decide) (by omega) ?_
  refine lw_cm (As := [.int (t (i + 1))]) K d_law_941 (cm_image K.2.2.2.2.2.2.2.1 4000 S (t (i + 1)) (r, S') hm) rfl wd_1473 mwm_image (by decide) (by decide) rfl rfl (Nat.le_of_ble_eq_true rfl) hc hs ?_
  refine al_swap ?_
  refine al_eqT 1032 K.1 d_law_944 (by decide) ?_
  exact kk X' S' hR'
theorem lw_c25 (K : lw_K x A b L t wx wm) (hi : i + 6 ≤ L) (hc : c0 ≤ 600000) (hs : s0 ≤ 7302250) (hR : R X S) (kk : ∀ X' S', R X' S' → al_W x A (lw_W wx wm X' S') c0 s0 Q 1032 (lw_V b wx wm (nI i)) []) : al_W x A (lw_W wx wm X S) c0 s0 Q 949 (lw_V b wx wm (nI i)) [] := by
  obtain ⟨r, X', S', hx, hm, hR'⟩ := c_from (N := 4000) (v1 := (t (i + 1))) (Nat.le_refl 4000) hR
  refine al_aload_n 2 K.1 d_law_949 rfl ?_
  refine lw_el (j := 1) 1 K d_law_950 d_law_951 d_law_952 d_law_953 d_law_954 (by decide) (by omega) ?_
  refine lw_cx (As := [.int (t (i + 1))]) K d_law_955 (cx_L_from K.2.2.2.2.2.2.1 4000 X (t (i + 1)) (r, X') hx) rfl wd_959 mwx_L_from (by decide) (by decide) rfl rfl (Nat.le_of_ble_eq_true rfl) hc hs ?_
  refine al_swap ?_
  refine al_aload_n 1 K.1 d_law_958 rfl ?_
  refine lw_el (j := 1) 1 K d_law_959 d_law_960 d_law_961 d_law_962 d_law_963 (by decide) (by omega) ?_
  refine lw_cm (As := [.int (t (i + 1))]) K d_law_964 (cm_from K.2.2.2.2.2.2.2.1 4000 S (t (i + 1)) (r, S') hm) rfl wd_1481 mwm_from (by decide) (by decide) rfl rfl (Nat.le_of_ble_eq_true rfl) hc hs ?_
  refine al_swap ?_
  refine al_eqT 1032 K.1 d_law_967 (by decide) ?_
  exact kk X' S' hR'
theorem lw_c26 (K : lw_K x A b L t wx wm) (hi : i + 6 ≤ L) (hc : c0 ≤ 600000) (hs : s0 ≤ 7302250) (hR : R X S) (kk : ∀ X' S', R X' S' → al_W x A (lw_W wx wm X' S') c0 s0 Q 1032 (lw_V b wx wm (nI i)) []) : al_W x A (lw_W wx wm X S) c0 s0 Q 972 (lw_V b wx wm (nI i)) [] := by
  obtain ⟨r, X', S', hx, hm, hR'⟩ := c_status (N := 4000) (v1 := (t (i + 1))) (Nat.le_refl 4000) hR
  refine al_aload_n 2 K.1 d_law_972 rfl ?_
  refine lw_el (j := 1) 1 K d_law_973 d_law_974 d_law_975 d_law_976 d_law_977 (by decide) (by omega) ?_
  refine lw_cx (As := [.int (t (i + 1))]) K d_law_978 (cx_L_status K.2.2.2.2.2.2.1 4000 X (t (i + 1)) (r, X') hx) rfl wd_963 mwx_L_status (by decide) (by decide) rfl rfl (Nat.le_of_ble_eq_true rfl) hc hs ?_
  refine al_swap ?_
  refine al_aload_n 1 K.1 d_law_981 rfl ?_
  refine lw_el (j := 1) 1 K d_law_982 d_law_983 d_law_984 d_law_985 d_law_986 (by decide) (by omega) ?_
  refine lw_cm (As := [.int (t (i + 1))]) K d_law_987 (cm_status K.2.2.2.2.2.2.2.1 4000 S (t (i + 1)) (r, S') hm) rfl wd_1485 mwm_status (by decide) (by decide) rfl rfl (Nat.le_of_ble_eq_true rfl) hc hs ?_
  refine al_swap ?_
  refine al_eqT 1032 K.1 d_law_990 (by decide) ?_
  exact kk X' S' hR'
theorem lw_c27 (K : lw_K x A b L t wx wm) (hi : i + 6 ≤ L) (hc : c0 ≤ 600000) (hs : s0 ≤ 7302250) (hR : R X S) (kk : ∀ X' S', R X' S' → al_W x A (lw_W wx wm X' S') c0 s0 Q 1032 (lw_V b wx wm (nI i)) []) : al_W x A (lw_W wx wm X S) c0 s0 Q 995 (lw_V b wx wm (nI i)) [] := by
  obtain ⟨r, X', S', hx, hm, hR'⟩ := c_count (N := 4000) (v1 := (t (i + 1))) (Nat.le_refl 4000) hR
  refine al_aload_n 2 K.1 d_law_995 rfl ?_
  refine lw_el (j := 1) 1 K d_law_996 d_law_997 d_law_998 d_law_999 d_law_1000 (by decide) (by omega) ?_
  refine lw_cx (As := [.int (t (i + 1))]) K d_law_1001 (cx_L_count K.2.2.2.2.2.2.1 4000 X (t (i + 1)) (r, X') hx) rfl wd_967 mwx_L_count (by decide) (by decide) rfl rfl (Nat.le_of_ble_eq_true rfl) hc hs ?_
  refine al_swap ?_
  refine al_aload_n 1 K.1 d_law_1004 rfl ?_
  refine lw_el (j := 1) 1 K d_law_1005 d_law_1006 d_law_1007 d_law_1008 d_law_1009 (by decide) (by omega) ?_
  refine lw_cm (As := [.int (t (i + 1))]) K d_law_1010 (cm_count K.2.2.2.2.2.2.2.1 4000 S (t (i + 1)) (r, S') hm) rfl wd_1489 mwm_count (by decide) (by decide) rfl rfl (Nat.le_of_ble_eq_true rfl) hc hs ?_
  refine al_swap ?_
  refine al_eqT 1032 K.1 d_law_1013 (by decide) ?_
  exact kk X' S' hR'
theorem lw_c28 (K : lw_K x A b L t wx wm) (hi : i + 6 ≤ L) (hc : c0 ≤ 600000) (hs : s0 ≤ 7302250) (hR : R X S) (kk : ∀ X' S', R X' S' → al_W x A (lw_W wx wm X' S') c0 s0 Q 1032 (lw_V b wx wm (nI i)) []) : al_W x A (lw_W wx wm X S) c0 s0 Q 1018 (lw_V b wx wm (nI i)) [] := by
  obtain ⟨r, X', S', hx, hm, hR'⟩ := c_digest (N := 4000) (Nat.le_refl 4000) hR
  refine al_aload_n 2 K.1 d_law_1018 rfl ?_
  refine lw_cxl (As := []) K d_law_1019 (cx_L_digest K.2.2.2.2.2.2.1 4000 X (r, X') hx) rfl wd_975 mwx_L_digest (by decide) (by decide) rfl rfl (Nat.le_of_ble_eq_true rfl) hc hs ?_
  refine al_swap ?_
  refine al_aload_n 1 K.1 d_law_1022 rfl ?_
  refine lw_cml (As := []) K d_law_1023 (cm_digest K.2.2.2.2.2.2.2.1 4000 S (r, S') hm) rfl wd_1498 mwm_digest (by decide) (by decide) rfl rfl (Nat.le_of_ble_eq_true rfl) hc hs ?_
  refine al_swap ?_
  refine al_lcmpE K.1 d_law_1026 ?_
  refine al_if0 1032 K.1 d_law_1027 (by decide) ?_
  exact kk X' S' hR'
end
