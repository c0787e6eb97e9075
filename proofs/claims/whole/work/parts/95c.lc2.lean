set_option maxHeartbeats 400000 in
set_option maxRecDepth 100000 in
theorem lc_4 {E : awE} {S : awS} {M : aM} {j kc ks : Nat} {Q : Option Value → awS → Nat → Nat → Prop} (I : lwS S M) (hj : 7 * j + 7 ≤ awE_n E) (hnb : awE_n E < 2 ^ 31) (k : lwK E M j kc ks Q) : awV true E m_law 434 (lwL j) [] S kc ks Q := by
  refine av_aload_n (i := 1) dL_law_434 rfl rfl rfl ?_
  refine av_aload_n (i := 0) dL_law_435 rfl rfl rfl ?_
  refine av_iload dL_law_436 rfl ?_
  refine av_iconst (v := 1) dL_law_438 (by decide) ?_
  refine av_iadd1 dL_law_439 ?_
  refine av_sldN dL_law_440 (by omega) hnb ?_
  refine av_invV (c := 12) (n := 1) (As := [_]) dL_law_441 cb_X11_mask cv_L_43.1 cv_L_43.2.1 cv_L_43.2.2 rfl (by decide) rfl ⟨Nat.le_of_ble_eq_true rfl, Nat.le_of_ble_eq_true rfl⟩ (Nat.le_of_ble_eq_true rfl) rfl (I.call (fun Q h => c_mask I.2.2.1 h) (fun S1 mc ms n1 b1 b2 => ?_))
  refine av_aload_n (i := 2) dL_law_444 rfl rfl rfl ?_
  refine av_aload_n (i := 0) dL_law_445 rfl rfl rfl ?_
  refine av_iload dL_law_446 rfl ?_
  refine av_iconst (v := 1) dL_law_448 (by decide) ?_
  refine av_iadd1 dL_law_449 ?_
  refine av_sldN dL_law_450 (by omega) hnb ?_
  refine av_sE (par_e n1.1) ?_
  refine av_invV (c := 13) (n := 1) (As := [_]) dL_law_451 cb_X12_mask cv_L_46.1 cv_L_46.2.1 cv_L_46.2.2 rfl (by decide) rfl ⟨Nat.le_of_ble_eq_true rfl, Nat.le_of_ble_eq_true rfl⟩ (Nat.le_of_ble_eq_true rfl) rfl (t_mask n1.2.1  _ ?_)
  refine av_icmp_eq (tgt := 1485) dL_law_454 (by decide) (fun c_454 => ?_) (fun c_454 => ?_)
  · exact k _ _ _ _ (lwS.put n1.2.1 n1.2.2.1 n1.2.2.2.1) n1.2.2.2.2 (by omega) (by omega)
  · exact absurd rfl c_454
set_option maxHeartbeats 400000 in
set_option maxRecDepth 100000 in
theorem lc_5 {E : awE} {S : awS} {M : aM} {j kc ks : Nat} {Q : Option Value → awS → Nat → Nat → Prop} (I : lwS S M) (hj : 7 * j + 7 ≤ awE_n E) (hnb : awE_n E < 2 ^ 31) (k : lwK E M j kc ks Q) : awV true E m_law 459 (lwL j) [] S kc ks Q := by
  refine av_aload_n (i := 1) dL_law_459 rfl rfl rfl ?_
  refine av_aload_n (i := 0) dL_law_460 rfl rfl rfl ?_
  refine av_iload dL_law_461 rfl ?_
  refine av_iconst (v := 1) dL_law_463 (by decide) ?_
  refine av_iadd1 dL_law_464 ?_
  refine av_sldN dL_law_465 (by omega) hnb ?_
  refine av_aload_n (i := 0) dL_law_466 rfl rfl rfl ?_
  refine av_iload dL_law_467 rfl ?_
  refine av_iconst (v := nI 2) dL_law_469 (by decide) ?_
  refine av_iaddN dL_law_470 ?_
  refine av_sldN dL_law_471 (by omega) hnb ?_
  refine av_aload_n (i := 0) dL_law_472 rfl rfl rfl ?_
  refine av_iload dL_law_473 rfl ?_
  refine av_iconst (v := nI 3) dL_law_475 (by decide) ?_
  refine av_iaddN dL_law_476 ?_
  refine av_sldN dL_law_477 (by omega) hnb ?_
  refine av_aload_n (i := 0) dL_law_478 rfl rfl rfl ?_
  refine av_iload dL_law_479 rfl ?_
  refine av_iconst (v := nI 4) dL_law_481 (by decide) ?_
  refine av_iaddN dL_law_482 ?_
  refine av_sldN dL_law_483 (by omega) hnb ?_
  refine av_invV (c := 12) (n := 4) (As := [_, _, _, _]) dL_law_484 cb_X11_waits cv_L_47.1 cv_L_47.2.1 cv_L_47.2.2 rfl (by decide) rfl ⟨Nat.le_of_ble_eq_true rfl, Nat.le_of_ble_eq_true rfl⟩ (Nat.le_of_ble_eq_true rfl) rfl (I.call (fun Q h => c_waits I.2.2.1 h) (fun S1 mc ms n1 b1 b2 => ?_))
  refine av_aload_n (i := 2) dL_law_487 rfl rfl rfl ?_
  refine av_aload_n (i := 0) dL_law_488 rfl rfl rfl ?_
  refine av_iload dL_law_489 rfl ?_
  refine av_iconst (v := 1) dL_law_491 (by decide) ?_
  refine av_iadd1 dL_law_492 ?_
  refine av_sldN dL_law_493 (by omega) hnb ?_
  refine av_aload_n (i := 0) dL_law_494 rfl rfl rfl ?_
  refine av_iload dL_law_495 rfl ?_
  refine av_iconst (v := nI 2) dL_law_497 (by decide) ?_
  refine av_iaddN dL_law_498 ?_
  refine av_sldN dL_law_499 (by omega) hnb ?_
  refine av_aload_n (i := 0) dL_law_500 rfl rfl rfl ?_
  refine av_iload dL_law_501 rfl ?_
  refine av_iconst (v := nI 3) dL_law_503 (by decide) ?_
  refine av_iaddN dL_law_504 ?_
  refine av_sldN dL_law_505 (by omega) hnb ?_
  refine av_aload_n (i := 0) dL_law_506 rfl rfl rfl ?_
  refine av_iload dL_law_507 rfl ?_
  refine av_iconst (v := nI 4) dL_law_509 (by decide) ?_
  refine av_iaddN dL_law_510 ?_
  refine av_sldN dL_law_511 (by omega) hnb ?_
  refine av_sE (par_e n1.1) ?_
  refine av_invV (c := 13) (n := 4) (As := [_, _, _, _]) dL_law_512 cb_X12_waits cv_L_51.1 cv_L_51.2.1 cv_L_51.2.2 rfl (by decide) rfl ⟨Nat.le_of_ble_eq_true rfl, Nat.le_of_ble_eq_true rfl⟩ (Nat.le_of_ble_eq_true rfl) rfl (t_waits n1.2.1  _ _ _ _ ?_)
  refine av_icmp_eq (tgt := 1485) dL_law_515 (by decide) (fun c_515 => ?_) (fun c_515 => ?_)
  · exact k _ _ _ _ (lwS.put n1.2.1 n1.2.2.1 n1.2.2.2.1) n1.2.2.2.2 (by omega) (by omega)
  · exact absurd rfl c_515
set_option maxHeartbeats 400000 in
set_option maxRecDepth 100000 in
theorem lc_6 {E : awE} {S : awS} {M : aM} {j kc ks : Nat} {Q : Option Value → awS → Nat → Nat → Prop} (I : lwS S M) (hj : 7 * j + 7 ≤ awE_n E) (hnb : awE_n E < 2 ^ 31) (k : lwK E M j kc ks Q) : awV true E m_law 520 (lwL j) [] S kc ks Q := by
  refine av_aload_n (i := 1) dL_law_520 rfl rfl rfl ?_
  refine av_invV (c := 12) (n := 0) (As := []) dL_law_521 cb_X11_hand cv_L_52.1 cv_L_52.2.1 cv_L_52.2.2 rfl (by decide) rfl ⟨Nat.le_of_ble_eq_true rfl, Nat.le_of_ble_eq_true rfl⟩ (Nat.le_of_ble_eq_true rfl) rfl (I.call (fun Q h => c_hand I.2.2.1 h) (fun S1 mc ms n1 b1 b2 => ?_))
  refine av_aload_n (i := 2) dL_law_524 rfl rfl rfl ?_
  refine av_sE (par_e n1.1) ?_
  refine av_invV (c := 13) (n := 0) (As := []) dL_law_525 cb_X12_hand cv_L_56.1 cv_L_56.2.1 cv_L_56.2.2 rfl (by decide) rfl ⟨Nat.le_of_ble_eq_true rfl, Nat.le_of_ble_eq_true rfl⟩ (Nat.le_of_ble_eq_true rfl) rfl (t_hand n1.2.1  ?_)
  refine av_icmp_eq (tgt := 1485) dL_law_528 (by decide) (fun c_528 => ?_) (fun c_528 => ?_)
  · exact k _ _ _ _ (lwS.put n1.2.1 n1.2.2.1 n1.2.2.2.1) n1.2.2.2.2 (by omega) (by omega)
  · exact absurd rfl c_528
set_option maxHeartbeats 400000 in
set_option maxRecDepth 100000 in
theorem lc_7 {E : awE} {S : awS} {M : aM} {j kc ks : Nat} {Q : Option Value → awS → Nat → Nat → Prop} (I : lwS S M) (hj : 7 * j + 7 ≤ awE_n E) (hnb : awE_n E < 2 ^ 31) (k : lwK E M j kc ks Q) : awV true E m_law 533 (lwL j) [] S kc ks Q := by
  refine av_aload_n (i := 1) dL_law_533 rfl rfl rfl ?_
  refine av_aload_n (i := 0) dL_law_534 rfl rfl rfl ?_
  refine av_iload dL_law_535 rfl ?_
  refine av_iconst (v := 1) dL_law_537 (by decide) ?_
  refine av_iadd1 dL_law_538 ?_
  refine av_sldN dL_law_539 (by omega) hnb ?_
  refine av_aload_n (i := 0) dL_law_540 rfl rfl rfl ?_
  refine av_iload dL_law_541 rfl ?_
  refine av_iconst (v := nI 2) dL_law_543 (by decide) ?_
  refine av_iaddN dL_law_544 ?_
  refine av_sldN dL_law_545 (by omega) hnb ?_
  refine av_aload_n (i := 0) dL_law_546 rfl rfl rfl ?_
  refine av_iload dL_law_547 rfl ?_
  refine av_iconst (v := nI 3) dL_law_549 (by decide) ?_
  refine av_iaddN dL_law_550 ?_
  refine av_sldN dL_law_551 (by omega) hnb ?_
  refine av_aload_n (i := 0) dL_law_552 rfl rfl rfl ?_
  refine av_iload dL_law_553 rfl ?_
  refine av_iconst (v := nI 4) dL_law_555 (by decide) ?_
  refine av_iaddN dL_law_556 ?_
  refine av_sldN dL_law_557 (by omega) hnb ?_
  refine av_invV (c := 12) (n := 4) (As := [_, _, _, _]) dL_law_558 cb_X11_shift cv_L_57.1 cv_L_57.2.1 cv_L_57.2.2 rfl (by decide) rfl ⟨Nat.le_of_ble_eq_true rfl, Nat.le_of_ble_eq_true rfl⟩ (Nat.le_of_ble_eq_true rfl) rfl (I.call (fun Q h => c_shift I.2.2.1 h) (fun S1 mc ms n1 b1 b2 => ?_))
  refine av_aload_n (i := 2) dL_law_561 rfl rfl rfl ?_
  refine av_aload_n (i := 0) dL_law_562 rfl rfl rfl ?_
  refine av_iload dL_law_563 rfl ?_
  refine av_iconst (v := 1) dL_law_565 (by decide) ?_
  refine av_iadd1 dL_law_566 ?_
  refine av_sldN dL_law_567 (by omega) hnb ?_
  refine av_aload_n (i := 0) dL_law_568 rfl rfl rfl ?_
  refine av_iload dL_law_569 rfl ?_
  refine av_iconst (v := nI 2) dL_law_571 (by decide) ?_
  refine av_iaddN dL_law_572 ?_
  refine av_sldN dL_law_573 (by omega) hnb ?_
  refine av_aload_n (i := 0) dL_law_574 rfl rfl rfl ?_
  refine av_iload dL_law_575 rfl ?_
  refine av_iconst (v := nI 3) dL_law_577 (by decide) ?_
  refine av_iaddN dL_law_578 ?_
  refine av_sldN dL_law_579 (by omega) hnb ?_
  refine av_aload_n (i := 0) dL_law_580 rfl rfl rfl ?_
  refine av_iload dL_law_581 rfl ?_
  refine av_iconst (v := nI 4) dL_law_583 (by decide) ?_
  refine av_iaddN dL_law_584 ?_
  refine av_sldN dL_law_585 (by omega) hnb ?_
  refine av_sE (par_e n1.1) ?_
  refine av_invV (c := 13) (n := 4) (As := [_, _, _, _]) dL_law_586 cb_X12_shift cv_L_60.1 cv_L_60.2.1 cv_L_60.2.2 rfl (by decide) rfl ⟨Nat.le_of_ble_eq_true rfl, Nat.le_of_ble_eq_true rfl⟩ (Nat.le_of_ble_eq_true rfl) rfl (t_shift n1.2.1 (I.2.2.1.1.mI.S (k := 53) (b := 40) (by decide)) _ _ _ _ ?_)
  refine av_icmp_eq (tgt := 1485) dL_law_589 (by decide) (fun c_589 => ?_) (fun c_589 => ?_)
  · exact k _ _ _ _ (lwS.put n1.2.1 n1.2.2.1 n1.2.2.2.1) n1.2.2.2.2 (by omega) (by omega)
  · exact absurd rfl c_589
set_option maxHeartbeats 400000 in
set_option maxRecDepth 100000 in
theorem lc_8 {E : awE} {S : awS} {M : aM} {j kc ks : Nat} {Q : Option Value → awS → Nat → Nat → Prop} (I : lwS S M) (hj : 7 * j + 7 ≤ awE_n E) (hnb : awE_n E < 2 ^ 31) (k : lwK E M j kc ks Q) : awV true E m_law 594 (lwL j) [] S kc ks Q := by
  refine av_aload_n (i := 1) dL_law_594 rfl rfl rfl ?_
  refine av_aload_n (i := 0) dL_law_595 rfl rfl rfl ?_
  refine av_iload dL_law_596 rfl ?_
  refine av_iconst (v := 1) dL_law_598 (by decide) ?_
  refine av_iadd1 dL_law_599 ?_
  refine av_sldN dL_law_600 (by omega) hnb ?_
  refine av_aload_n (i := 0) dL_law_601 rfl rfl rfl ?_
  refine av_iload dL_law_602 rfl ?_
  refine av_iconst (v := nI 2) dL_law_604 (by decide) ?_
  refine av_iaddN dL_law_605 ?_
  refine av_sldN dL_law_606 (by omega) hnb ?_
  refine av_aload_n (i := 0) dL_law_607 rfl rfl rfl ?_
  refine av_iload dL_law_608 rfl ?_
  refine av_iconst (v := nI 3) dL_law_610 (by decide) ?_
  refine av_iaddN dL_law_611 ?_
  refine av_sldN dL_law_612 (by omega) hnb ?_
  refine av_aload_n (i := 0) dL_law_613 rfl rfl rfl ?_
  refine av_iload dL_law_614 rfl ?_
  refine av_iconst (v := nI 4) dL_law_616 (by decide) ?_
  refine av_iaddN dL_law_617 ?_
  refine av_sldN dL_law_618 (by omega) hnb ?_
  refine av_invV (c := 12) (n := 4) (As := [_, _, _, _]) dL_law_619 cb_X11_swap cv_L_61.1 cv_L_61.2.1 cv_L_61.2.2 rfl (by decide) rfl ⟨Nat.le_of_ble_eq_true rfl, Nat.le_of_ble_eq_true rfl⟩ (Nat.le_of_ble_eq_true rfl) rfl (I.call (fun Q h => c_swap I.2.2.1 h) (fun S1 mc ms n1 b1 b2 => ?_))
  refine av_aload_n (i := 2) dL_law_622 rfl rfl rfl ?_
  refine av_aload_n (i := 0) dL_law_623 rfl rfl rfl ?_
  refine av_iload dL_law_624 rfl ?_
  refine av_iconst (v := 1) dL_law_626 (by decide) ?_
  refine av_iadd1 dL_law_627 ?_
  refine av_sldN dL_law_628 (by omega) hnb ?_
  refine av_aload_n (i := 0) dL_law_629 rfl rfl rfl ?_
  refine av_iload dL_law_630 rfl ?_
  refine av_iconst (v := nI 2) dL_law_632 (by decide) ?_
  refine av_iaddN dL_law_633 ?_
  refine av_sldN dL_law_634 (by omega) hnb ?_
  refine av_aload_n (i := 0) dL_law_635 rfl rfl rfl ?_
  refine av_iload dL_law_636 rfl ?_
  refine av_iconst (v := nI 3) dL_law_638 (by decide) ?_
  refine av_iaddN dL_law_639 ?_
  refine av_sldN dL_law_640 (by omega) hnb ?_
  refine av_aload_n (i := 0) dL_law_641 rfl rfl rfl ?_
  refine av_iload dL_law_642 rfl ?_
  refine av_iconst (v := nI 4) dL_law_644 (by decide) ?_
  refine av_iaddN dL_law_645 ?_
  refine av_sldN dL_law_646 (by omega) hnb ?_
  refine av_sE (par_e n1.1) ?_
  refine av_invV (c := 13) (n := 4) (As := [_, _, _, _]) dL_law_647 cb_X12_swap cv_L_64.1 cv_L_64.2.1 cv_L_64.2.2 rfl (by decide) rfl ⟨Nat.le_of_ble_eq_true rfl, Nat.le_of_ble_eq_true rfl⟩ (Nat.le_of_ble_eq_true rfl) rfl (t_swap n1.2.1 (I.2.2.1.1.mI.S (k := 58) (b := 20) (by decide)) _ _ _ _ ?_)
  refine av_icmp_eq (tgt := 1485) dL_law_650 (by decide) (fun c_650 => ?_) (fun c_650 => ?_)
  · exact k _ _ _ _ (lwS.put n1.2.1 n1.2.2.1 n1.2.2.2.1) n1.2.2.2.2 (by omega) (by omega)
  · exact absurd rfl c_650
set_option maxHeartbeats 400000 in
set_option maxRecDepth 100000 in
theorem lc_9 {E : awE} {S : awS} {M : aM} {j kc ks : Nat} {Q : Option Value → awS → Nat → Nat → Prop} (I : lwS S M) (hj : 7 * j + 7 ≤ awE_n E) (hnb : awE_n E < 2 ^ 31) (k : lwK E M j kc ks Q) : awV true E m_law 655 (lwL j) [] S kc ks Q := by
  refine av_aload_n (i := 1) dL_law_655 rfl rfl rfl ?_
  refine av_aload_n (i := 0) dL_law_656 rfl rfl rfl ?_
  refine av_iload dL_law_657 rfl ?_
  refine av_iconst (v := 1) dL_law_659 (by decide) ?_
  refine av_iadd1 dL_law_660 ?_
  refine av_sldN dL_law_661 (by omega) hnb ?_
  refine av_aload_n (i := 0) dL_law_662 rfl rfl rfl ?_
  refine av_iload dL_law_663 rfl ?_
  refine av_iconst (v := nI 2) dL_law_665 (by decide) ?_
  refine av_iaddN dL_law_666 ?_
  refine av_sldN dL_law_667 (by omega) hnb ?_
  refine av_i2d dL_law_668 ?_
  refine av_ldc2d dL_law_669 kc_L_65 ?_
  refine av_dmul dL_law_672 (eighth_ok _) ?_
  refine av_invV (c := 12) (n := 2) (As := [_, _]) dL_law_673 cb_X11_value cv_L_67.1 cv_L_67.2.1 cv_L_67.2.2 rfl (by decide) rfl ⟨Nat.le_of_ble_eq_true rfl, Nat.le_of_ble_eq_true rfl⟩ (Nat.le_of_ble_eq_true rfl) rfl (I.call (fun Q h => c_value I.2.2.1 h) (fun S1 mc ms n1 b1 b2 => ?_))
  refine av_aload_n (i := 2) dL_law_676 rfl rfl rfl ?_
  refine av_aload_n (i := 0) dL_law_677 rfl rfl rfl ?_
  refine av_iload dL_law_678 rfl ?_
  refine av_iconst (v := 1) dL_law_680 (by decide) ?_
  refine av_iadd1 dL_law_681 ?_
  refine av_sldN dL_law_682 (by omega) hnb ?_
  refine av_aload_n (i := 0) dL_law_683 rfl rfl rfl ?_
  refine av_iload dL_law_684 rfl ?_
  refine av_iconst (v := nI 2) dL_law_686 (by decide) ?_
  refine av_iaddN dL_law_687 ?_
  refine av_sldN dL_law_688 (by omega) hnb ?_
  refine av_i2d dL_law_689 ?_
  refine av_ldc2d dL_law_690 kc_L_65 ?_
  refine av_dmul dL_law_693 (eighth_ok _) ?_
  refine av_sE (par_e n1.1) ?_
  refine av_invV (c := 13) (n := 2) (As := [_, _]) dL_law_694 cb_X12_value cv_L_71.1 cv_L_71.2.1 cv_L_71.2.2 rfl (by decide) rfl ⟨Nat.le_of_ble_eq_true rfl, Nat.le_of_ble_eq_true rfl⟩ (Nat.le_of_ble_eq_true rfl) rfl (t_value n1.2.1 I.2.2.1.1.mI _ _ ?_)
  refine av_icmp_eq (tgt := 1485) dL_law_697 (by decide) (fun c_697 => ?_) (fun c_697 => ?_)
  · exact k _ _ _ _ (lwS.put n1.2.1 n1.2.2.1 n1.2.2.2.1) n1.2.2.2.2 (by omega) (by omega)
  · exact absurd rfl c_697
set_option maxHeartbeats 400000 in
set_option maxRecDepth 100000 in
theorem lc_10 {E : awE} {S : awS} {M : aM} {j kc ks : Nat} {Q : Option Value → awS → Nat → Nat → Prop} (I : lwS S M) (hj : 7 * j + 7 ≤ awE_n E) (hnb : awE_n E < 2 ^ 31) (k : lwK E M j kc ks Q) : awV true E m_law 702 (lwL j) [] S kc ks Q := by
  refine av_aload_n (i := 1) dL_law_702 rfl rfl rfl ?_
  refine av_aload_n (i := 0) dL_law_703 rfl rfl rfl ?_
  refine av_iload dL_law_704 rfl ?_
  refine av_iconst (v := 1) dL_law_706 (by decide) ?_
  refine av_iadd1 dL_law_707 ?_
  refine av_sldN dL_law_708 (by omega) hnb ?_
  refine av_invV (c := 12) (n := 1) (As := [_]) dL_law_709 cb_X11_tear cv_L_72.1 cv_L_72.2.1 cv_L_72.2.2 rfl (by decide) rfl ⟨Nat.le_of_ble_eq_true rfl, Nat.le_of_ble_eq_true rfl⟩ (Nat.le_of_ble_eq_true rfl) rfl (I.call (fun Q h => c_tear I.2.2.1 h) (fun S1 mc ms n1 b1 b2 => ?_))
  refine av_aload_n (i := 2) dL_law_712 rfl rfl rfl ?_
  refine av_aload_n (i := 0) dL_law_713 rfl rfl rfl ?_
  refine av_iload dL_law_714 rfl ?_
  refine av_iconst (v := 1) dL_law_716 (by decide) ?_
  refine av_iadd1 dL_law_717 ?_
  refine av_sldN dL_law_718 (by omega) hnb ?_
  refine av_sE (par_e n1.1) ?_
  refine av_invV (c := 13) (n := 1) (As := [_]) dL_law_719 cb_X12_tear cv_L_75.1 cv_L_75.2.1 cv_L_75.2.2 rfl (by decide) rfl ⟨Nat.le_of_ble_eq_true rfl, Nat.le_of_ble_eq_true rfl⟩ (Nat.le_of_ble_eq_true rfl) rfl (t_tear n1.2.1 I.2.2.1.1.mI _ ?_)
  refine av_icmp_eq (tgt := 1485) dL_law_722 (by decide) (fun c_722 => ?_) (fun c_722 => ?_)
  · exact k _ _ _ _ (lwS.put n1.2.1 n1.2.2.1 n1.2.2.2.1) n1.2.2.2.2 (by omega) (by omega)
  · exact absurd rfl c_722
set_option maxHeartbeats 400000 in
set_option maxRecDepth 100000 in
theorem lc_11 {E : awE} {S : awS} {M : aM} {j kc ks : Nat} {Q : Option Value → awS → Nat → Nat → Prop} (I : lwS S M) (hj : 7 * j + 7 ≤ awE_n E) (hnb : awE_n E < 2 ^ 31) (k : lwK E M j kc ks Q) : awV true E m_law 727 (lwL j) [] S kc ks Q := by
  refine av_aload_n (i := 1) dL_law_727 rfl rfl rfl ?_
  refine av_invV (c := 12) (n := 0) (As := []) dL_law_728 cb_X11_tick cv_L_76.1 cv_L_76.2.1 cv_L_76.2.2 rfl (by decide) rfl ⟨Nat.le_of_ble_eq_true rfl, Nat.le_of_ble_eq_true rfl⟩ (Nat.le_of_ble_eq_true rfl) rfl (I.tick (fun S1 mc ms n1 b1 b2 => ?_))
  refine av_aload_n (i := 2) dL_law_731 rfl rfl rfl ?_
  refine av_sE (par_e n1.1) ?_
  refine av_invV (c := 13) (n := 0) (As := []) dL_law_732 cb_X12_tick cv_L_79.1 cv_L_79.2.1 cv_L_79.2.2 rfl (by decide) rfl ⟨Nat.le_of_ble_eq_true rfl, Nat.le_of_ble_eq_true rfl⟩ (Nat.le_of_ble_eq_true rfl) rfl (t_tick n1.2.1 I.2.2.1.1.mI ?_)
  refine av_icmp_eq (tgt := 1485) dL_law_735 (by decide) (fun c_735 => ?_) (fun c_735 => ?_)
  · exact k _ _ _ _ (lwS.put n1.2.1 n1.2.2.1 n1.2.2.2.1) n1.2.2.2.2 (by omega) (by omega)
  · exact absurd rfl c_735
