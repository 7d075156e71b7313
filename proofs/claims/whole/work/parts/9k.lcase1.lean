section
variable {x : sm_Cx} {A : Nat → Prop} {b L i : Nat} {t : Nat → Int32} {wx wm : sm_Wc} {c0 s0 : Nat} {Q : State → Prop} {X S : sm_St}
theorem lw_c10 (K : lw_K x A b L t wx wm) (hi : i + 6 ≤ L) (hc : c0 ≤ 600000) (hs : s0 ≤ 7302250) (hR : R X S) (kk : ∀ X' S', R X' S' → al_W x A (lw_W wx wm X' S') c0 s0 Q 1032 (lw_V b wx wm (nI i)) []) : al_W x A (lw_W wx wm X S) c0 s0 Q 454 (lw_V b wx wm (nI i)) [] := by
  obtain ⟨r, X', S', hx, hm, hR'⟩ := c_soRed (N := 4000) (v1 := (t (i + 1))) (v2 := (t (i + 2))) (Nat.le_refl 4000) hR
  refine al_aload_n 2 K.1 d_law_454 rfl ?_
  refine lw_el (j := 1) 1 K d_law_455 d_law_456 d_law_457 d_law_458 d_law_459 (by decide) (by omega) ?_
  refine lw_el (j := 2) 2 K d_law_460 d_law_461 d_law_462 d_law_463 d_law_464 (by decide) (by omega) ?_
  refine lw_cx (As := [.int (t (i + 1)), .int (t (i + 2))]) K d_law_465 (cx_L_soRed K.2.2.2.2.2.2.1 4000 X (t (i + 1)) (t (i + 2)) (r, X') hx) rfl wd_743 mwx_L_soRed (by decide) (by decide) rfl rfl (Nat.le_of_ble_eq_true rfl) hc hs ?_
  refine al_swap ?_
  refine al_aload_n 1 K.1 d_law_468 rfl ?_
  refine lw_el (j := 1) 1 K d_law_469 d_law_470 d_law_471 d_law_472 d_law_473 (by decide) (by omega) ?_
  refine lw_el (j := 2) 2 K d_law_474 d_law_475 d_law_476 d_law_477 d_law_478 (by decide) (by omega) ?_
  refine lw_cm (As := [.int (t (i + 1)), .int (t (i + 2))]) K d_law_479 (cm_soRed K.2.2.2.2.2.2.2.1 4000 S (t (i + 1)) (t (i + 2)) (r, S') hm) rfl wd_1277 mwm_soRed (by decide) (by decide) rfl rfl (Nat.le_of_ble_eq_true rfl) hc hs ?_
  refine al_swap ?_
  refine al_eqT 1032 K.1 d_law_482 (by decide) ?_
  exact kk X' S' hR'
theorem lw_c11 (K : lw_K x A b L t wx wm) (hi : i + 6 ≤ L) (hc : c0 ≤ 600000) (hs : s0 ≤ 7302250) (hR : R X S) (kk : ∀ X' S', R X' S' → al_W x A (lw_W wx wm X' S') c0 s0 Q 1032 (lw_V b wx wm (nI i)) []) : al_W x A (lw_W wx wm X S) c0 s0 Q 487 (lw_V b wx wm (nI i)) [] := by
  obtain ⟨r, X', S', hx, hm, hR'⟩ := c_rest (N := 4000) (v1 := (t (i + 1))) (Nat.le_refl 4000) hR
  refine al_aload_n 2 K.1 d_law_487 rfl ?_
  refine lw_el (j := 1) 1 K d_law_488 d_law_489 d_law_490 d_law_491 d_law_492 (by decide) (by omega) ?_
  refine lw_cx (As := [.int (t (i + 1))]) K d_law_493 (cx_L_rest K.2.2.2.2.2.2.1 4000 X (t (i + 1)) (r, X') hx) rfl wd_752 mwx_L_rest (by decide) (by decide) rfl rfl (Nat.le_of_ble_eq_true rfl) hc hs ?_
  refine al_swap ?_
  refine al_aload_n 1 K.1 d_law_496 rfl ?_
  refine lw_el (j := 1) 1 K d_law_497 d_law_498 d_law_499 d_law_500 d_law_501 (by decide) (by omega) ?_
  refine lw_cm (As := [.int (t (i + 1))]) K d_law_502 (cm_rest K.2.2.2.2.2.2.2.1 4000 S (t (i + 1)) (r, S') hm) rfl wd_1285 mwm_rest (by decide) (by decide) rfl rfl (Nat.le_of_ble_eq_true rfl) hc hs ?_
  refine al_swap ?_
  refine al_eqT 1032 K.1 d_law_505 (by decide) ?_
  exact kk X' S' hR'
theorem lw_c12 (K : lw_K x A b L t wx wm) (hi : i + 6 ≤ L) (hc : c0 ≤ 600000) (hs : s0 ≤ 7302250) (hR : R X S) (kk : ∀ X' S', R X' S' → al_W x A (lw_W wx wm X' S') c0 s0 Q 1032 (lw_V b wx wm (nI i)) []) : al_W x A (lw_W wx wm X S) c0 s0 Q 510 (lw_V b wx wm (nI i)) [] := by
  obtain ⟨r, X', S', hx, hm, hR'⟩ := c_moves (N := 4000) (v1 := (t (i + 1))) (v2 := (t (i + 2))) (v3 := (t (i + 3))) (v4 := (t (i + 4))) (v5 := (t (i + 5))) (Nat.le_refl 4000) hR
  refine al_aload_n 2 K.1 d_law_510 rfl ?_
  refine lw_el (j := 1) 1 K d_law_511 d_law_512 d_law_513 d_law_514 d_law_515 (by decide) (by omega) ?_
  refine lw_el (j := 2) 2 K d_law_516 d_law_517 d_law_518 d_law_519 d_law_520 (by decide) (by omega) ?_
  refine lw_el (j := 3) 3 K d_law_521 d_law_522 d_law_523 d_law_524 d_law_525 (by decide) (by omega) ?_
  refine lw_el (j := 4) 4 K d_law_526 d_law_527 d_law_528 d_law_529 d_law_530 (by decide) (by omega) ?_
  refine lw_el (j := 5) 5 K d_law_531 d_law_532 d_law_533 d_law_534 d_law_535 (by decide) (by omega) ?_
  refine lw_cx (As := [.int (t (i + 1)), .int (t (i + 2)), .int (t (i + 3)), .int (t (i + 4)), .int (t (i + 5))]) K d_law_536 (cx_L_moves K.2.2.2.2.2.2.1 4000 X (t (i + 1)) (t (i + 2)) (t (i + 3)) (t (i + 4)) (t (i + 5)) (r, X') hx) rfl wd_773 mwx_L_moves (by decide) (by decide) rfl rfl (Nat.le_of_ble_eq_true rfl) hc hs ?_
  refine al_swap ?_
  refine al_aload_n 1 K.1 d_law_539 rfl ?_
  refine lw_el (j := 1) 1 K d_law_540 d_law_541 d_law_542 d_law_543 d_law_544 (by decide) (by omega) ?_
  refine lw_el (j := 2) 2 K d_law_545 d_law_546 d_law_547 d_law_548 d_law_549 (by decide) (by omega) ?_
  refine lw_el (j := 3) 3 K d_law_550 d_law_551 d_law_552 d_law_553 d_law_554 (by decide) (by omega) ?_
  refine lw_el (j := 4) 4 K d_law_555 d_law_556 d_law_557 d_law_558 d_law_559 (by decide) (by omega) ?_
  refine lw_el (j := 5) 5 K d_law_560 d_law_561 d_law_562 d_law_563 d_law_564 (by decide) (by omega) ?_
  refine lw_cm (As := [.int (t (i + 1)), .int (t (i + 2)), .int (t (i + 3)), .int (t (i + 4)), .int (t (i + 5))]) K d_law_565 (cm_moves K.2.2.2.2.2.2.2.1 4000 S (t (i + 1)) (t (i + 2)) (t (i + 3)) (t (i + 4)) (t (i + 5)) (r, S') hm) rfl wd_1309 mwm_moves (by decide) (by decide) rfl rfl (Nat.le_of_ble_eq_true rfl) hc hs ?_
  refine al_swap ?_
  refine al_eqT 1032 K.1 d_law_568 (by decide) ?_
  exact kk X' S' hR'
theorem lw_c13 (K : lw_K x A b L t wx wm) (hi : i + 6 ≤ L) (hc : c0 ≤ 600000) (hs : s0 ≤ 7302250) (hR : R X S) (kk : ∀ X' S', R X' S' → al_W x A (lw_W wx wm X' S') c0 s0 Q 1032 (lw_V b wx wm (nI i)) []) : al_W x A (lw_W wx wm X S) c0 s0 Q 573 (lw_V b wx wm (nI i)) [] := by
  obtain ⟨r, X', S', hx, hm, hR'⟩ := c_bound (N := 4000) (v1 := (t (i + 1))) (v2 := (t (i + 2))) (v3 := (t (i + 3))) (Nat.le_refl 4000) hR
  refine al_aload_n 2 K.1 d_law_573 rfl ?_
  refine lw_el (j := 1) 1 K d_law_574 d_law_575 d_law_576 d_law_577 d_law_578 (by decide) (by omega) ?_
  refine lw_el (j := 2) 2 K d_law_579 d_law_580 d_law_581 d_law_582 d_law_583 (by decide) (by omega) ?_
  refine lw_el (j := 3) 3 K d_law_584 d_law_585 d_law_586 d_law_587 d_law_588 (by decide) (by omega) ?_
  refine lw_cx (As := [.int (t (i + 1)), .int (t (i + 2)), .int (t (i + 3))]) K d_law_589 (cx_L_bound K.2.2.2.2.2.2.1 4000 X (t (i + 1)) (t (i + 2)) (t (i + 3)) (r, X') hx) rfl wd_829 mwx_L_bound (by decide) (by decide) rfl rfl (Nat.le_of_ble_eq_true rfl) hc hs ?_
  refine al_swap ?_
  refine al_aload_n 1 K.1 d_law_592 rfl ?_
  refine lw_el (j := 1) 1 K d_law_593 d_law_594 d_law_595 d_law_596 d_law_597 (by decide) (by omega) ?_
  refine lw_el (j := 2) 2 K d_law_598 d_law_599 d_law_600 d_law_601 d_law_602 (by decide) (by omega) ?_
  refine lw_el (j := 3) 3 K d_law_603 d_law_604 d_law_605 d_law_606 d_law_607 (by decide) (by omega) ?_
  refine lw_cm (As := [.int (t (i + 1)), .int (t (i + 2)), .int (t (i + 3))]) K d_law_608 (cm_bound K.2.2.2.2.2.2.2.1 4000 S (t (i + 1)) (t (i + 2)) (t (i + 3)) (r, S') hm) rfl wd_1333 mwm_bound (by decide) (by decide) rfl rfl (Nat.le_of_ble_eq_true rfl) hc hs ?_
  refine al_swap ?_
  refine al_eqT 1032 K.1 d_law_611 (by decide) ?_
  exact kk X' S' hR'
theorem lw_c14 (K : lw_K x A b L t wx wm) (hi : i + 6 ≤ L) (hc : c0 ≤ 600000) (hs : s0 ≤ 7302250) (hR : R X S) (kk : ∀ X' S', R X' S' → al_W x A (lw_W wx wm X' S') c0 s0 Q 1032 (lw_V b wx wm (nI i)) []) : al_W x A (lw_W wx wm X S) c0 s0 Q 616 (lw_V b wx wm (nI i)) [] := by
  obtain ⟨r, X', S', hx, hm, hR'⟩ := c_chest (N := 4000) (v1 := (t (i + 1))) (Nat.le_refl 4000) hR
  refine al_aload_n 2 K.1 d_law_616 rfl ?_
  refine lw_el (j := 1) 1 K d_law_617 d_law_618 d_law_619 d_law_620 d_law_621 (by decide) (by omega) ?_
  refine lw_cx (As := [.int (t (i + 1))]) K d_law_622 (cx_L_chest K.2.2.2.2.2.2.1 4000 X (t (i + 1)) (r, X') hx) rfl wd_833 mwx_L_chest (by decide) (by decide) rfl rfl (Nat.le_of_ble_eq_true rfl) hc hs ?_
  refine al_swap ?_
  refine al_aload_n 1 K.1 d_law_625 rfl ?_
  refine lw_el (j := 1) 1 K d_law_626 d_law_627 d_law_628 d_law_629 d_law_630 (by decide) (by omega) ?_
  refine lw_cm (As := [.int (t (i + 1))]) K d_law_631 (cm_chest K.2.2.2.2.2.2.2.1 4000 S (t (i + 1)) (r, S') hm) rfl wd_1337 mwm_chest (by decide) (by decide) rfl rfl (Nat.le_of_ble_eq_true rfl) hc hs ?_
  refine al_swap ?_
  refine al_eqT 1032 K.1 d_law_634 (by decide) ?_
  exact kk X' S' hR'
theorem lw_c15 (K : lw_K x A b L t wx wm) (hi : i + 6 ≤ L) (hc : c0 ≤ 600000) (hs : s0 ≤ 7302250) (hR : R X S) (kk : ∀ X' S', R X' S' → al_W x A (lw_W wx wm X' S') c0 s0 Q 1032 (lw_V b wx wm (nI i)) []) : al_W x A (lw_W wx wm X S) c0 s0 Q 639 (lw_V b wx wm (nI i)) [] := by
  obtain ⟨r, X', S', hx, hm, hR'⟩ := c_morning (N := 4000) (v1 := (t (i + 1))) (v2 := (t (i + 2))) (v3 := (t (i + 3))) (Nat.le_refl 4000) hR
  refine al_aload_n 2 K.1 d_law_639 rfl ?_
  refine lw_el (j := 1) 1 K d_law_640 d_law_641 d_law_642 d_law_643 d_law_644 (by decide) (by omega) ?_
  refine lw_el (j := 2) 2 K d_law_645 d_law_646 d_law_647 d_law_648 d_law_649 (by decide) (by omega) ?_
  refine lw_el (j := 3) 3 K d_law_650 d_law_651 d_law_652 d_law_653 d_law_654 (by decide) (by omega) ?_
  refine lw_cx (As := [.int (t (i + 1)), .int (t (i + 2)), .int (t (i + 3))]) K d_law_655 (cx_L_morning K.2.2.2.2.2.2.1 4000 X (t (i + 1)) (t (i + 2)) (t (i + 3)) (r, X') hx) rfl wd_855 mwx_L_morning (by decide) (by decide) rfl rfl (Nat.le_of_ble_eq_true rfl) hc hs ?_
  refine al_swap ?_
  refine al_aload_n 1 K.1 d_law_658 rfl ?_
  refine lw_el (j := 1) 1 K d_law_659 d_law_660 d_law_661 d_law_662 d_law_663 (by decide) (by omega) ?_
  refine lw_el (j := 2) 2 K d_law_664 d_law_665 d_law_666 d_law_667 d_law_668 (by decide) (by omega) ?_
  refine lw_el (j := 3) 3 K d_law_669 d_law_670 d_law_671 d_law_672 d_law_673 (by decide) (by omega) ?_
  refine lw_cm (As := [.int (t (i + 1)), .int (t (i + 2)), .int (t (i + 3))]) K d_law_674 (cm_morning K.2.2.2.2.2.2.2.1 4000 S (t (i + 1)) (t (i + 2)) (t (i + 3)) (r, S') hm) rfl wd_1349 mwm_morning (by decide) (by decide) rfl rfl (Nat.le_of_ble_eq_true rfl) hc hs ?_
  refine al_swap ?_
  refine al_eqT 1032 K.1 d_law_677 (by decide) ?_
  exact kk X' S' hR'
theorem lw_c16 (K : lw_K x A b L t wx wm) (hi : i + 6 ≤ L) (hc : c0 ≤ 600000) (hs : s0 ≤ 7302250) (hR : R X S) (kk : ∀ X' S', R X' S' → al_W x A (lw_W wx wm X' S') c0 s0 Q 1032 (lw_V b wx wm (nI i)) []) : al_W x A (lw_W wx wm X S) c0 s0 Q 682 (lw_V b wx wm (nI i)) [] := by
  obtain ⟨r, X', S', hx, hm, hR'⟩ := c_surely (N := 4000) (v1 := (t (i + 1))) (v2 := (t (i + 2))) (Nat.le_refl 4000) hR
  refine al_aload_n 2 K.1 d_law_682 rfl ?_
  refine lw_el (j := 1) 1 K d_law_683 d_law_684 d_law_685 d_law_686 d_law_687 (by decide) (by omega) ?_
  refine lw_el (j := 2) 2 K d_law_688 d_law_689 d_law_690 d_law_691 d_law_692 (by decide) (by omega) ?_
  refine lw_cx (As := [.int (t (i + 1)), .int (t (i + 2))]) K d_law_693 (cx_L_surely K.2.2.2.2.2.2.1 4000 X (t (i + 1)) (t (i + 2)) (r, X') hx) rfl wd_882 mwx_L_surely (by decide) (by decide) rfl rfl (Nat.le_of_ble_eq_true rfl) hc hs ?_
  refine al_swap ?_
  refine al_aload_n 1 K.1 d_law_696 rfl ?_
  refine lw_el (j := 1) 1 K d_law_697 d_law_698 d_law_699 d_law_700 d_law_701 (by decide) (by omega) ?_
  refine lw_el (j := 2) 2 K d_law_702 d_law_703 d_law_704 d_law_705 d_law_706 (by decide) (by omega) ?_
  refine lw_cm (As := [.int (t (i + 1)), .int (t (i + 2))]) K d_law_707 (cm_surely K.2.2.2.2.2.2.2.1 4000 S (t (i + 1)) (t (i + 2)) (r, S') hm) rfl wd_1362 mwm_surely (by decide) (by decide) rfl rfl (Nat.le_of_ble_eq_true rfl) hc hs ?_
  refine al_swap ?_
  refine al_eqT 1032 K.1 d_law_710 (by decide) ?_
  exact kk X' S' hR'
theorem lw_c17 (K : lw_K x A b L t wx wm) (hi : i + 6 ≤ L) (hc : c0 ≤ 600000) (hs : s0 ≤ 7302250) (hR : R X S) (kk : ∀ X' S', R X' S' → al_W x A (lw_W wx wm X' S') c0 s0 Q 1032 (lw_V b wx wm (nI i)) []) : al_W x A (lw_W wx wm X S) c0 s0 Q 715 (lw_V b wx wm (nI i)) [] := by
  obtain ⟨r, X', S', hx, hm, hR'⟩ := c_borrower (N := 4000) (v1 := (t (i + 1))) (v2 := (t (i + 2))) (v3 := (t (i + 3))) (v4 := (t (i + 4))) (Nat.le_refl 4000) hR
  refine al_aload_n 2 K.1 d_law_715 rfl ?_
  refine lw_el (j := 1) 1 K d_law_716 d_law_717 d_law_718 d_law_719 d_law_720 (by decide) (by omega) ?_
  refine lw_el (j := 2) 2 K d_law_721 d_law_722 d_law_723 d_law_724 d_law_725 (by decide) (by omega) ?_
  refine lw_el (j := 3) 3 K d_law_726 d_law_727 d_law_728 d_law_729 d_law_730 (by decide) (by omega) ?_
  refine lw_el (j := 4) 4 K d_law_731 d_law_732 d_law_733 d_law_734 d_law_735 (by decide) (by omega) ?_
  refine lw_cx (As := [.int (t (i + 1)), .int (t (i + 2)), .int (t (i + 3)), .int (t (i + 4))]) K d_law_736 (cx_L_borrower K.2.2.2.2.2.2.1 4000 X (t (i + 1)) (t (i + 2)) (t (i + 3)) (t (i + 4)) (r, X') hx) rfl wd_886 mwx_L_borrower (by decide) (by decide) rfl rfl (Nat.le_of_ble_eq_true rfl) hc hs ?_
  refine al_swap ?_
  refine al_aload_n 1 K.1 d_law_739 rfl ?_
  refine lw_el (j := 1) 1 K d_law_740 d_law_741 d_law_742 d_law_743 d_law_744 (by decide) (by omega) ?_
  refine lw_el (j := 2) 2 K d_law_745 d_law_746 d_law_747 d_law_748 d_law_749 (by decide) (by omega) ?_
  refine lw_el (j := 3) 3 K d_law_750 d_law_751 d_law_752 d_law_753 d_law_754 (by decide) (by omega) ?_
  refine lw_el (j := 4) 4 K d_law_755 d_law_756 d_law_757 d_law_758 d_law_759 (by decide) (by omega) ?_
  refine lw_cm (As := [.int (t (i + 1)), .int (t (i + 2)), .int (t (i + 3)), .int (t (i + 4))]) K d_law_760 (cm_borrower K.2.2.2.2.2.2.2.1 4000 S (t (i + 1)) (t (i + 2)) (t (i + 3)) (t (i + 4)) (r, S') hm) rfl wd_1366 mwm_borrower (by decide) (by decide) rfl rfl (Nat.le_of_ble_eq_true rfl) hc hs ?_
  refine al_swap ?_
  refine al_eqT 1032 K.1 d_law_763 (by decide) ?_
  exact kk X' S' hR'
theorem lw_c18 (K : lw_K x A b L t wx wm) (hi : i + 6 ≤ L) (hc : c0 ≤ 600000) (hs : s0 ≤ 7302250) (hR : R X S) (kk : ∀ X' S', R X' S' → al_W x A (lw_W wx wm X' S') c0 s0 Q 1032 (lw_V b wx wm (nI i)) []) : al_W x A (lw_W wx wm X S) c0 s0 Q 768 (lw_V b wx wm (nI i)) [] := by
  obtain ⟨r, X', S', hx, hm, hR'⟩ := c_refuse (N := 4000) (Nat.le_refl 4000) hR
  refine al_aload_n 2 K.1 d_law_768 rfl ?_
  refine lw_cx (As := []) K d_law_769 (cx_L_refuse K.2.2.2.2.2.2.1 4000 X (r, X') hx) rfl wd_894 mwx_L_refuse (by decide) (by decide) rfl rfl (Nat.le_of_ble_eq_true rfl) hc hs ?_
  refine al_swap ?_
  refine al_aload_n 1 K.1 d_law_772 rfl ?_
  refine lw_cm (As := []) K d_law_773 (cm_refuse K.2.2.2.2.2.2.2.1 4000 S (r, S') hm) rfl wd_1370 mwm_refuse (by decide) (by decide) rfl rfl (Nat.le_of_ble_eq_true rfl) hc hs ?_
  refine al_swap ?_
  refine al_eqT 1032 K.1 d_law_776 (by decide) ?_
  exact kk X' S' hR'
theorem lw_c19 (K : lw_K x A b L t wx wm) (hi : i + 6 ≤ L) (hc : c0 ≤ 600000) (hs : s0 ≤ 7302250) (hR : R X S) (kk : ∀ X' S', R X' S' → al_W x A (lw_W wx wm X' S') c0 s0 Q 1032 (lw_V b wx wm (nI i)) []) : al_W x A (lw_W wx wm X S) c0 s0 Q 781 (lw_V b wx wm (nI i)) [] := by
  obtain ⟨r, X', S', hx, hm, hR'⟩ := c_lent (N := 4000) (v1 := (t (i + 1))) (Nat.le_refl 4000) hR
  refine al_aload_n 2 K.1 d_law_781 rfl ?_
  refine lw_el (j := 1) 1 K d_law_782 d_law_783 d_law_784 d_law_785 d_law_786 (by decide) (by omega) ?_
  refine lw_cx (As := [.int (t (i + 1))]) K d_law_787 (cx_L_lent K.2.2.2.2.2.2.1 4000 X (t (i + 1)) (r, X') hx) rfl wd_898 mwx_L_lent (by decide) (by decide) rfl rfl (Nat.le_of_ble_eq_true rfl) hc hs ?_
  refine al_swap ?_
  refine al_aload_n 1 K.1 d_law_790 rfl ?_
  refine lw_el (j := 1) 1 K d_law_791 d_law_792 d_law_793 d_law_794 d_law_795 (by decide) (by omega) ?_
  refine lw_cm (As := [.int (t (i + 1))]) K d_law_796 (cm_lent K.2.2.2.2.2.2.2.1 4000 S (t (i + 1)) (r, S') hm) rfl wd_1374 mwm_lent (by decide) (by decide) rfl rfl (Nat.le_of_ble_eq_true rfl) hc hs ?_
  refine al_swap ?_
  refine al_eqT 1032 K.1 d_law_799 (by decide) ?_
  exact kk X' S' hR'
end
