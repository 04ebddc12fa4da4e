-- ===== the law: its other cases =====
set_option maxHeartbeats 8000000 in
theorem lc_fewest {E : Ev} {C : Cx} {ba Ln i : Nat} {xs : Nat → Int32} {M : PM} (hs : Scr E ba Ln xs C) (hL : Ln ≤ 2560) (hi : i + 5 ≤ Ln) (hJ : J M) (ih : ∀ N, J N → X E 8 RL cL_law 4 C 930 [some (.ref ba), some (.ref (ad E 0)), some (.ref (ad E 40)), some (.int (nI i))] [] N) : X E 8 RL cL_law 4 C 478 [some (.ref ba), some (.ref (ad E 0)), some (.ref (ad E 40)), some (.int (nI i))] [] M := by
  obtain ⟨P, h8, hh⟩ := t_fewest (E := E) (M := M) (xs (i + 1)) (xs (i + 2)) hJ
  refine x_aload_n dL_law_478 rfl rfl ?_
  refine x_aload_n dL_law_479 rfl rfl ?_
  refine x_iload_n dL_law_480 rfl rfl ?_
  refine x_iconst (v := nI 1) dL_law_481 (by decide) ?_
  refine x_iaddN dL_law_482 ?_
  refine x_sldN hs dL_law_483 (by omega) (by omega) ?_
  refine x_aload_n dL_law_484 rfl rfl ?_
  refine x_iload_n dL_law_485 rfl rfl ?_
  refine x_iconst (v := nI 2) dL_law_486 (by decide) ?_
  refine x_iaddN dL_law_487 ?_
  refine x_sldN hs dL_law_488 (by omega) (by omega) ?_
  refine x_callVi dL_law_489 mvX8_fewest kL_73 (h8) rfl (by decide) (by omega) rfl rfl (Nat.le_of_ble_eq_true rfl) ?_
  rintro v N hv
  obtain ⟨P', h9, hh2⟩ := hh v N hv
  refine x_aload_n dL_law_492 rfl rfl ?_
  refine x_aload_n dL_law_493 rfl rfl ?_
  refine x_iload_n dL_law_494 rfl rfl ?_
  refine x_iconst (v := nI 1) dL_law_495 (by decide) ?_
  refine x_iaddN dL_law_496 ?_
  refine x_sldN hs dL_law_497 (by omega) (by omega) ?_
  refine x_aload_n dL_law_498 rfl rfl ?_
  refine x_iload_n dL_law_499 rfl rfl ?_
  refine x_iconst (v := nI 2) dL_law_500 (by decide) ?_
  refine x_iaddN dL_law_501 ?_
  refine x_sldN hs dL_law_502 (by omega) (by omega) ?_
  refine x_callVi dL_law_503 mvX9_fewest kL_76 (h9) rfl (by decide) (by omega) rfl rfl (Nat.le_of_ble_eq_true rfl) ?_
  rintro v' N' hv'
  obtain ⟨rfl, hJ'⟩ := hh2 v' N' hv'
  refine x_icmp_eq (tgt := 930) dL_law_506 (by decide) (fun hc => ?_) (fun hc => ?_)
  · exact ih N' hJ'
  · exact absurd rfl hc
set_option maxHeartbeats 8000000 in
theorem lc_fair {E : Ev} {C : Cx} {ba Ln i : Nat} {xs : Nat → Int32} {M : PM} (hs : Scr E ba Ln xs C) (hL : Ln ≤ 2560) (hi : i + 5 ≤ Ln) (hJ : J M) (ih : ∀ N, J N → X E 8 RL cL_law 4 C 930 [some (.ref ba), some (.ref (ad E 0)), some (.ref (ad E 40)), some (.int (nI i))] [] N) : X E 8 RL cL_law 4 C 511 [some (.ref ba), some (.ref (ad E 0)), some (.ref (ad E 40)), some (.int (nI i))] [] M := by
  obtain ⟨P, h8, hh⟩ := t_fair (E := E) (M := M) (xs (i + 1)) (xs (i + 2)) (xs (i + 3)) hJ
  refine x_aload_n dL_law_511 rfl rfl ?_
  refine x_aload_n dL_law_512 rfl rfl ?_
  refine x_iload_n dL_law_513 rfl rfl ?_
  refine x_iconst (v := nI 1) dL_law_514 (by decide) ?_
  refine x_iaddN dL_law_515 ?_
  refine x_sldN hs dL_law_516 (by omega) (by omega) ?_
  refine x_aload_n dL_law_517 rfl rfl ?_
  refine x_iload_n dL_law_518 rfl rfl ?_
  refine x_iconst (v := nI 2) dL_law_519 (by decide) ?_
  refine x_iaddN dL_law_520 ?_
  refine x_sldN hs dL_law_521 (by omega) (by omega) ?_
  refine x_aload_n dL_law_522 rfl rfl ?_
  refine x_iload_n dL_law_523 rfl rfl ?_
  refine x_iconst (v := nI 3) dL_law_524 (by decide) ?_
  refine x_iaddN dL_law_525 ?_
  refine x_sldN hs dL_law_526 (by omega) (by omega) ?_
  refine x_callVi dL_law_527 mvX8_fair kL_77 (h8) rfl (by decide) (by omega) rfl rfl (Nat.le_of_ble_eq_true rfl) ?_
  rintro v N hv
  obtain ⟨P', h9, hh2⟩ := hh v N hv
  refine x_aload_n dL_law_530 rfl rfl ?_
  refine x_aload_n dL_law_531 rfl rfl ?_
  refine x_iload_n dL_law_532 rfl rfl ?_
  refine x_iconst (v := nI 1) dL_law_533 (by decide) ?_
  refine x_iaddN dL_law_534 ?_
  refine x_sldN hs dL_law_535 (by omega) (by omega) ?_
  refine x_aload_n dL_law_536 rfl rfl ?_
  refine x_iload_n dL_law_537 rfl rfl ?_
  refine x_iconst (v := nI 2) dL_law_538 (by decide) ?_
  refine x_iaddN dL_law_539 ?_
  refine x_sldN hs dL_law_540 (by omega) (by omega) ?_
  refine x_aload_n dL_law_541 rfl rfl ?_
  refine x_iload_n dL_law_542 rfl rfl ?_
  refine x_iconst (v := nI 3) dL_law_543 (by decide) ?_
  refine x_iaddN dL_law_544 ?_
  refine x_sldN hs dL_law_545 (by omega) (by omega) ?_
  refine x_callVi dL_law_546 mvX9_fair kL_80 (h9) rfl (by decide) (by omega) rfl rfl (Nat.le_of_ble_eq_true rfl) ?_
  rintro v' N' hv'
  obtain ⟨rfl, hJ'⟩ := hh2 v' N' hv'
  refine x_icmp_eq (tgt := 930) dL_law_549 (by decide) (fun hc => ?_) (fun hc => ?_)
  · exact ih N' hJ'
  · exact absurd rfl hc
set_option maxHeartbeats 8000000 in
theorem lc_judge {E : Ev} {C : Cx} {ba Ln i : Nat} {xs : Nat → Int32} {M : PM} (hs : Scr E ba Ln xs C) (hL : Ln ≤ 2560) (hi : i + 5 ≤ Ln) (hJ : J M) (ih : ∀ N, J N → X E 8 RL cL_law 4 C 930 [some (.ref ba), some (.ref (ad E 0)), some (.ref (ad E 40)), some (.int (nI i))] [] N) : X E 8 RL cL_law 4 C 554 [some (.ref ba), some (.ref (ad E 0)), some (.ref (ad E 40)), some (.int (nI i))] [] M := by
  obtain ⟨P, h8, hh⟩ := t_judge (E := E) (M := M) (xs (i + 1)) (xs (i + 2)) hJ
  refine x_aload_n dL_law_554 rfl rfl ?_
  refine x_aload_n dL_law_555 rfl rfl ?_
  refine x_iload_n dL_law_556 rfl rfl ?_
  refine x_iconst (v := nI 1) dL_law_557 (by decide) ?_
  refine x_iaddN dL_law_558 ?_
  refine x_sldN hs dL_law_559 (by omega) (by omega) ?_
  refine x_aload_n dL_law_560 rfl rfl ?_
  refine x_iload_n dL_law_561 rfl rfl ?_
  refine x_iconst (v := nI 2) dL_law_562 (by decide) ?_
  refine x_iaddN dL_law_563 ?_
  refine x_sldN hs dL_law_564 (by omega) (by omega) ?_
  refine x_callVi dL_law_565 mvX8_judge kL_81 (h8) rfl (by decide) (by omega) rfl rfl (Nat.le_of_ble_eq_true rfl) ?_
  rintro v N hv
  obtain ⟨P', h9, hh2⟩ := hh v N hv
  refine x_aload_n dL_law_568 rfl rfl ?_
  refine x_aload_n dL_law_569 rfl rfl ?_
  refine x_iload_n dL_law_570 rfl rfl ?_
  refine x_iconst (v := nI 1) dL_law_571 (by decide) ?_
  refine x_iaddN dL_law_572 ?_
  refine x_sldN hs dL_law_573 (by omega) (by omega) ?_
  refine x_aload_n dL_law_574 rfl rfl ?_
  refine x_iload_n dL_law_575 rfl rfl ?_
  refine x_iconst (v := nI 2) dL_law_576 (by decide) ?_
  refine x_iaddN dL_law_577 ?_
  refine x_sldN hs dL_law_578 (by omega) (by omega) ?_
  refine x_callVi dL_law_579 mvX9_judge kL_84 (h9) rfl (by decide) (by omega) rfl rfl (Nat.le_of_ble_eq_true rfl) ?_
  rintro v' N' hv'
  obtain ⟨rfl, hJ'⟩ := hh2 v' N' hv'
  refine x_icmp_eq (tgt := 930) dL_law_582 (by decide) (fun hc => ?_) (fun hc => ?_)
  · exact ih N' hJ'
  · exact absurd rfl hc
set_option maxHeartbeats 8000000 in
theorem lc_share {E : Ev} {C : Cx} {ba Ln i : Nat} {xs : Nat → Int32} {M : PM} (hs : Scr E ba Ln xs C) (hL : Ln ≤ 2560) (hi : i + 5 ≤ Ln) (hJ : J M) (ih : ∀ N, J N → X E 8 RL cL_law 4 C 930 [some (.ref ba), some (.ref (ad E 0)), some (.ref (ad E 40)), some (.int (nI i))] [] N) : X E 8 RL cL_law 4 C 587 [some (.ref ba), some (.ref (ad E 0)), some (.ref (ad E 40)), some (.int (nI i))] [] M := by
  by_cases hb : xs (i + 3) = 0
  · obtain ⟨P, h8, hh⟩ := t_share (E := E) (M := M) (xs (i + 1)) (xs (i + 2)) (nI 0) hJ
    refine x_aload_n dL_law_587 rfl rfl ?_
    refine x_aload_n dL_law_588 rfl rfl ?_
    refine x_iload_n dL_law_589 rfl rfl ?_
    refine x_iconst (v := nI 1) dL_law_590 (by decide) ?_
    refine x_iaddN dL_law_591 ?_
    refine x_sldN hs dL_law_592 (by omega) (by omega) ?_
    refine x_aload_n dL_law_593 rfl rfl ?_
    refine x_iload_n dL_law_594 rfl rfl ?_
    refine x_iconst (v := nI 2) dL_law_595 (by decide) ?_
    refine x_iaddN dL_law_596 ?_
    refine x_sldN hs dL_law_597 (by omega) (by omega) ?_
    refine x_aload_n dL_law_598 rfl rfl ?_
    refine x_iload_n dL_law_599 rfl rfl ?_
    refine x_iconst (v := nI 3) dL_law_600 (by decide) ?_
    refine x_iaddN dL_law_601 ?_
    refine x_sldN hs dL_law_602 (by omega) (by omega) ?_
    refine x_if_eq (tgt := 610) dL_law_603 (by decide) (fun hc => ?_) (fun hc => ?_)
    rotate_left
    · exact absurd hb hc
    refine x_iconst (v := nI 0) dL_law_610 (by decide) ?_
    refine x_callVi dL_law_611 mvX8_share kL_85 (h8) rfl (by decide) (by omega) rfl rfl (Nat.le_of_ble_eq_true rfl) ?_
    rintro v N hv
    obtain ⟨P', h9, hh2⟩ := hh v N hv
    refine x_aload_n dL_law_614 rfl rfl ?_
    refine x_aload_n dL_law_615 rfl rfl ?_
    refine x_iload_n dL_law_616 rfl rfl ?_
    refine x_iconst (v := nI 1) dL_law_617 (by decide) ?_
    refine x_iaddN dL_law_618 ?_
    refine x_sldN hs dL_law_619 (by omega) (by omega) ?_
    refine x_aload_n dL_law_620 rfl rfl ?_
    refine x_iload_n dL_law_621 rfl rfl ?_
    refine x_iconst (v := nI 2) dL_law_622 (by decide) ?_
    refine x_iaddN dL_law_623 ?_
    refine x_sldN hs dL_law_624 (by omega) (by omega) ?_
    refine x_aload_n dL_law_625 rfl rfl ?_
    refine x_iload_n dL_law_626 rfl rfl ?_
    refine x_iconst (v := nI 3) dL_law_627 (by decide) ?_
    refine x_iaddN dL_law_628 ?_
    refine x_sldN hs dL_law_629 (by omega) (by omega) ?_
    refine x_if_eq (tgt := 637) dL_law_630 (by decide) (fun hc => ?_) (fun hc => ?_)
    rotate_left
    · exact absurd hb hc
    refine x_iconst (v := nI 0) dL_law_637 (by decide) ?_
    refine x_callVi dL_law_638 mvX9_share kL_89 (h9) rfl (by decide) (by omega) rfl rfl (Nat.le_of_ble_eq_true rfl) ?_
    rintro v' N' hv'
    obtain ⟨rfl, hJ'⟩ := hh2 v' N' hv'
    refine x_icmp_eq (tgt := 930) dL_law_641 (by decide) (fun hc => ?_) (fun hc => ?_)
    · exact ih N' hJ'
    · exact absurd rfl hc
  · obtain ⟨P, h8, hh⟩ := t_share (E := E) (M := M) (xs (i + 1)) (xs (i + 2)) (nI 1) hJ
    refine x_aload_n dL_law_587 rfl rfl ?_
    refine x_aload_n dL_law_588 rfl rfl ?_
    refine x_iload_n dL_law_589 rfl rfl ?_
    refine x_iconst (v := nI 1) dL_law_590 (by decide) ?_
    refine x_iaddN dL_law_591 ?_
    refine x_sldN hs dL_law_592 (by omega) (by omega) ?_
    refine x_aload_n dL_law_593 rfl rfl ?_
    refine x_iload_n dL_law_594 rfl rfl ?_
    refine x_iconst (v := nI 2) dL_law_595 (by decide) ?_
    refine x_iaddN dL_law_596 ?_
    refine x_sldN hs dL_law_597 (by omega) (by omega) ?_
    refine x_aload_n dL_law_598 rfl rfl ?_
    refine x_iload_n dL_law_599 rfl rfl ?_
    refine x_iconst (v := nI 3) dL_law_600 (by decide) ?_
    refine x_iaddN dL_law_601 ?_
    refine x_sldN hs dL_law_602 (by omega) (by omega) ?_
    refine x_if_eq (tgt := 610) dL_law_603 (by decide) (fun hc => ?_) (fun hc => ?_)
    · exact absurd hc hb
    refine x_iconst (v := nI 1) dL_law_606 (by decide) ?_
    refine x_goto (tgt := 611) dL_law_607 (by decide) ?_
    refine x_callVi dL_law_611 mvX8_share kL_85 (h8) rfl (by decide) (by omega) rfl rfl (Nat.le_of_ble_eq_true rfl) ?_
    rintro v N hv
    obtain ⟨P', h9, hh2⟩ := hh v N hv
    refine x_aload_n dL_law_614 rfl rfl ?_
    refine x_aload_n dL_law_615 rfl rfl ?_
    refine x_iload_n dL_law_616 rfl rfl ?_
    refine x_iconst (v := nI 1) dL_law_617 (by decide) ?_
    refine x_iaddN dL_law_618 ?_
    refine x_sldN hs dL_law_619 (by omega) (by omega) ?_
    refine x_aload_n dL_law_620 rfl rfl ?_
    refine x_iload_n dL_law_621 rfl rfl ?_
    refine x_iconst (v := nI 2) dL_law_622 (by decide) ?_
    refine x_iaddN dL_law_623 ?_
    refine x_sldN hs dL_law_624 (by omega) (by omega) ?_
    refine x_aload_n dL_law_625 rfl rfl ?_
    refine x_iload_n dL_law_626 rfl rfl ?_
    refine x_iconst (v := nI 3) dL_law_627 (by decide) ?_
    refine x_iaddN dL_law_628 ?_
    refine x_sldN hs dL_law_629 (by omega) (by omega) ?_
    refine x_if_eq (tgt := 637) dL_law_630 (by decide) (fun hc => ?_) (fun hc => ?_)
    · exact absurd hc hb
    refine x_iconst (v := nI 1) dL_law_633 (by decide) ?_
    refine x_goto (tgt := 638) dL_law_634 (by decide) ?_
    refine x_callVi dL_law_638 mvX9_share kL_89 (h9) rfl (by decide) (by omega) rfl rfl (Nat.le_of_ble_eq_true rfl) ?_
    rintro v' N' hv'
    obtain ⟨rfl, hJ'⟩ := hh2 v' N' hv'
    refine x_icmp_eq (tgt := 930) dL_law_641 (by decide) (fun hc => ?_) (fun hc => ?_)
    · exact ih N' hJ'
    · exact absurd rfl hc
set_option maxHeartbeats 8000000 in
theorem lc_see {E : Ev} {C : Cx} {ba Ln i : Nat} {xs : Nat → Int32} {M : PM} (hs : Scr E ba Ln xs C) (hL : Ln ≤ 2560) (hi : i + 5 ≤ Ln) (hJ : J M) (ih : ∀ N, J N → X E 8 RL cL_law 4 C 930 [some (.ref ba), some (.ref (ad E 0)), some (.ref (ad E 40)), some (.int (nI i))] [] N) : X E 8 RL cL_law 4 C 646 [some (.ref ba), some (.ref (ad E 0)), some (.ref (ad E 40)), some (.int (nI i))] [] M := by
  obtain ⟨P, h8, hh⟩ := t_see (E := E) (M := M) (xs (i + 1)) (xs (i + 2)) hJ
  refine x_aload_n dL_law_646 rfl rfl ?_
  refine x_aload_n dL_law_647 rfl rfl ?_
  refine x_iload_n dL_law_648 rfl rfl ?_
  refine x_iconst (v := nI 1) dL_law_649 (by decide) ?_
  refine x_iaddN dL_law_650 ?_
  refine x_sldN hs dL_law_651 (by omega) (by omega) ?_
  refine x_aload_n dL_law_652 rfl rfl ?_
  refine x_iload_n dL_law_653 rfl rfl ?_
  refine x_iconst (v := nI 2) dL_law_654 (by decide) ?_
  refine x_iaddN dL_law_655 ?_
  refine x_sldN hs dL_law_656 (by omega) (by omega) ?_
  refine x_callVi dL_law_657 mvX8_see kL_90 (h8) rfl (by decide) (by omega) rfl rfl (Nat.le_of_ble_eq_true rfl) ?_
  rintro v N hv
  obtain ⟨P', h9, hh2⟩ := hh v N hv
  refine x_aload_n dL_law_660 rfl rfl ?_
  refine x_aload_n dL_law_661 rfl rfl ?_
  refine x_iload_n dL_law_662 rfl rfl ?_
  refine x_iconst (v := nI 1) dL_law_663 (by decide) ?_
  refine x_iaddN dL_law_664 ?_
  refine x_sldN hs dL_law_665 (by omega) (by omega) ?_
  refine x_aload_n dL_law_666 rfl rfl ?_
  refine x_iload_n dL_law_667 rfl rfl ?_
  refine x_iconst (v := nI 2) dL_law_668 (by decide) ?_
  refine x_iaddN dL_law_669 ?_
  refine x_sldN hs dL_law_670 (by omega) (by omega) ?_
  refine x_callVi dL_law_671 mvX9_see kL_93 (h9) rfl (by decide) (by omega) rfl rfl (Nat.le_of_ble_eq_true rfl) ?_
  rintro v' N' hv'
  obtain ⟨rfl, hJ'⟩ := hh2 v' N' hv'
  refine x_icmp_eq (tgt := 930) dL_law_674 (by decide) (fun hc => ?_) (fun hc => ?_)
  · exact ih N' hJ'
  · exact absurd rfl hc
set_option maxHeartbeats 8000000 in
theorem lc_unsee {E : Ev} {C : Cx} {ba Ln i : Nat} {xs : Nat → Int32} {M : PM} (hs : Scr E ba Ln xs C) (hL : Ln ≤ 2560) (hi : i + 5 ≤ Ln) (hJ : J M) (ih : ∀ N, J N → X E 8 RL cL_law 4 C 930 [some (.ref ba), some (.ref (ad E 0)), some (.ref (ad E 40)), some (.int (nI i))] [] N) : X E 8 RL cL_law 4 C 679 [some (.ref ba), some (.ref (ad E 0)), some (.ref (ad E 40)), some (.int (nI i))] [] M := by
  obtain ⟨P, h8, hh⟩ := t_unsee (E := E) (M := M) hJ
  refine x_aload_n dL_law_679 rfl rfl ?_
  refine x_callVi dL_law_680 mvX8_unsee kL_94 (h8) rfl (by decide) (by omega) rfl rfl (Nat.le_of_ble_eq_true rfl) ?_
  rintro v N hv
  obtain ⟨P', h9, hh2⟩ := hh v N hv
  refine x_aload_n dL_law_683 rfl rfl ?_
  refine x_callVi dL_law_684 mvX9_unsee kL_97 (h9) rfl (by decide) (by omega) rfl rfl (Nat.le_of_ble_eq_true rfl) ?_
  rintro v' N' hv'
  obtain ⟨rfl, hJ'⟩ := hh2 v' N' hv'
  refine x_icmp_eq (tgt := 930) dL_law_687 (by decide) (fun hc => ?_) (fun hc => ?_)
  · exact ih N' hJ'
  · exact absurd rfl hc
set_option maxHeartbeats 8000000 in
theorem lc_traces {E : Ev} {C : Cx} {ba Ln i : Nat} {xs : Nat → Int32} {M : PM} (hs : Scr E ba Ln xs C) (hL : Ln ≤ 2560) (hi : i + 5 ≤ Ln) (hJ : J M) (ih : ∀ N, J N → X E 8 RL cL_law 4 C 930 [some (.ref ba), some (.ref (ad E 0)), some (.ref (ad E 40)), some (.int (nI i))] [] N) : X E 8 RL cL_law 4 C 692 [some (.ref ba), some (.ref (ad E 0)), some (.ref (ad E 40)), some (.int (nI i))] [] M := by
  obtain ⟨P, h8, hh⟩ := t_traces (E := E) (M := M) (xs (i + 1)) hJ
  refine x_aload_n dL_law_692 rfl rfl ?_
  refine x_aload_n dL_law_693 rfl rfl ?_
  refine x_iload_n dL_law_694 rfl rfl ?_
  refine x_iconst (v := nI 1) dL_law_695 (by decide) ?_
  refine x_iaddN dL_law_696 ?_
  refine x_sldN hs dL_law_697 (by omega) (by omega) ?_
  refine x_callVi dL_law_698 mvX8_traces kL_98 (h8) rfl (by decide) (by omega) rfl rfl (Nat.le_of_ble_eq_true rfl) ?_
  rintro v N hv
  obtain ⟨P', h9, hh2⟩ := hh v N hv
  refine x_aload_n dL_law_701 rfl rfl ?_
  refine x_aload_n dL_law_702 rfl rfl ?_
  refine x_iload_n dL_law_703 rfl rfl ?_
  refine x_iconst (v := nI 1) dL_law_704 (by decide) ?_
  refine x_iaddN dL_law_705 ?_
  refine x_sldN hs dL_law_706 (by omega) (by omega) ?_
  refine x_callVi dL_law_707 mvX9_traces kL_101 (h9) rfl (by decide) (by omega) rfl rfl (Nat.le_of_ble_eq_true rfl) ?_
  rintro v' N' hv'
  obtain ⟨rfl, hJ'⟩ := hh2 v' N' hv'
  refine x_icmp_eq (tgt := 930) dL_law_710 (by decide) (fun hc => ?_) (fun hc => ?_)
  · exact ih N' hJ'
  · exact absurd rfl hc
set_option maxHeartbeats 8000000 in
theorem lc_rests {E : Ev} {C : Cx} {ba Ln i : Nat} {xs : Nat → Int32} {M : PM} (hs : Scr E ba Ln xs C) (hL : Ln ≤ 2560) (hi : i + 5 ≤ Ln) (hJ : J M) (ih : ∀ N, J N → X E 8 RL cL_law 4 C 930 [some (.ref ba), some (.ref (ad E 0)), some (.ref (ad E 40)), some (.int (nI i))] [] N) : X E 8 RL cL_law 4 C 715 [some (.ref ba), some (.ref (ad E 0)), some (.ref (ad E 40)), some (.int (nI i))] [] M := by
  obtain ⟨P, h8, hh⟩ := t_rests (E := E) (M := M) (xs (i + 1)) hJ
  refine x_aload_n dL_law_715 rfl rfl ?_
  refine x_aload_n dL_law_716 rfl rfl ?_
  refine x_iload_n dL_law_717 rfl rfl ?_
  refine x_iconst (v := nI 1) dL_law_718 (by decide) ?_
  refine x_iaddN dL_law_719 ?_
  refine x_sldN hs dL_law_720 (by omega) (by omega) ?_
  refine x_callVi dL_law_721 mvX8_rests kL_102 (h8) rfl (by decide) (by omega) rfl rfl (Nat.le_of_ble_eq_true rfl) ?_
  rintro v N hv
  obtain ⟨P', h9, hh2⟩ := hh v N hv
  refine x_aload_n dL_law_724 rfl rfl ?_
  refine x_aload_n dL_law_725 rfl rfl ?_
  refine x_iload_n dL_law_726 rfl rfl ?_
  refine x_iconst (v := nI 1) dL_law_727 (by decide) ?_
  refine x_iaddN dL_law_728 ?_
  refine x_sldN hs dL_law_729 (by omega) (by omega) ?_
  refine x_callVi dL_law_730 mvX9_rests kL_105 (h9) rfl (by decide) (by omega) rfl rfl (Nat.le_of_ble_eq_true rfl) ?_
  rintro v' N' hv'
  obtain ⟨rfl, hJ'⟩ := hh2 v' N' hv'
  refine x_icmp_eq (tgt := 930) dL_law_733 (by decide) (fun hc => ?_) (fun hc => ?_)
  · exact ih N' hJ'
  · exact absurd rfl hc
set_option maxHeartbeats 8000000 in
theorem lc_slips {E : Ev} {C : Cx} {ba Ln i : Nat} {xs : Nat → Int32} {M : PM} (hs : Scr E ba Ln xs C) (hL : Ln ≤ 2560) (hi : i + 5 ≤ Ln) (hJ : J M) (ih : ∀ N, J N → X E 8 RL cL_law 4 C 930 [some (.ref ba), some (.ref (ad E 0)), some (.ref (ad E 40)), some (.int (nI i))] [] N) : X E 8 RL cL_law 4 C 738 [some (.ref ba), some (.ref (ad E 0)), some (.ref (ad E 40)), some (.int (nI i))] [] M := by
  by_cases hb : xs (i + 4) = 0
  · obtain ⟨P, h8, hh⟩ := t_slips (E := E) (M := M) (xs (i + 1)) (xs (i + 2)) (xs (i + 3)) (nI 0) hJ
    refine x_aload_n dL_law_738 rfl rfl ?_
    refine x_aload_n dL_law_739 rfl rfl ?_
    refine x_iload_n dL_law_740 rfl rfl ?_
    refine x_iconst (v := nI 1) dL_law_741 (by decide) ?_
    refine x_iaddN dL_law_742 ?_
    refine x_sldN hs dL_law_743 (by omega) (by omega) ?_
    refine x_aload_n dL_law_744 rfl rfl ?_
    refine x_iload_n dL_law_745 rfl rfl ?_
    refine x_iconst (v := nI 2) dL_law_746 (by decide) ?_
    refine x_iaddN dL_law_747 ?_
    refine x_sldN hs dL_law_748 (by omega) (by omega) ?_
    refine x_aload_n dL_law_749 rfl rfl ?_
    refine x_iload_n dL_law_750 rfl rfl ?_
    refine x_iconst (v := nI 3) dL_law_751 (by decide) ?_
    refine x_iaddN dL_law_752 ?_
    refine x_sldN hs dL_law_753 (by omega) (by omega) ?_
    refine x_aload_n dL_law_754 rfl rfl ?_
    refine x_iload_n dL_law_755 rfl rfl ?_
    refine x_iconst (v := nI 4) dL_law_756 (by decide) ?_
    refine x_iaddN dL_law_757 ?_
    refine x_sldN hs dL_law_758 (by omega) (by omega) ?_
    refine x_if_eq (tgt := 766) dL_law_759 (by decide) (fun hc => ?_) (fun hc => ?_)
    rotate_left
    · exact absurd hb hc
    refine x_iconst (v := nI 0) dL_law_766 (by decide) ?_
    refine x_callVi dL_law_767 mvX8_slips kL_106 (h8) rfl (by decide) (by omega) rfl rfl (Nat.le_of_ble_eq_true rfl) ?_
    rintro v N hv
    obtain ⟨P', h9, hh2⟩ := hh v N hv
    refine x_aload_n dL_law_770 rfl rfl ?_
    refine x_aload_n dL_law_771 rfl rfl ?_
    refine x_iload_n dL_law_772 rfl rfl ?_
    refine x_iconst (v := nI 1) dL_law_773 (by decide) ?_
    refine x_iaddN dL_law_774 ?_
    refine x_sldN hs dL_law_775 (by omega) (by omega) ?_
    refine x_aload_n dL_law_776 rfl rfl ?_
    refine x_iload_n dL_law_777 rfl rfl ?_
    refine x_iconst (v := nI 2) dL_law_778 (by decide) ?_
    refine x_iaddN dL_law_779 ?_
    refine x_sldN hs dL_law_780 (by omega) (by omega) ?_
    refine x_aload_n dL_law_781 rfl rfl ?_
    refine x_iload_n dL_law_782 rfl rfl ?_
    refine x_iconst (v := nI 3) dL_law_783 (by decide) ?_
    refine x_iaddN dL_law_784 ?_
    refine x_sldN hs dL_law_785 (by omega) (by omega) ?_
    refine x_aload_n dL_law_786 rfl rfl ?_
    refine x_iload_n dL_law_787 rfl rfl ?_
    refine x_iconst (v := nI 4) dL_law_788 (by decide) ?_
    refine x_iaddN dL_law_789 ?_
    refine x_sldN hs dL_law_790 (by omega) (by omega) ?_
    refine x_if_eq (tgt := 798) dL_law_791 (by decide) (fun hc => ?_) (fun hc => ?_)
    rotate_left
    · exact absurd hb hc
    refine x_iconst (v := nI 0) dL_law_798 (by decide) ?_
    refine x_callVi dL_law_799 mvX9_slips kL_110 (h9) rfl (by decide) (by omega) rfl rfl (Nat.le_of_ble_eq_true rfl) ?_
    rintro v' N' hv'
    obtain ⟨rfl, hJ'⟩ := hh2 v' N' hv'
    refine x_icmp_eq (tgt := 930) dL_law_802 (by decide) (fun hc => ?_) (fun hc => ?_)
    · exact ih N' hJ'
    · exact absurd rfl hc
  · obtain ⟨P, h8, hh⟩ := t_slips (E := E) (M := M) (xs (i + 1)) (xs (i + 2)) (xs (i + 3)) (nI 1) hJ
    refine x_aload_n dL_law_738 rfl rfl ?_
    refine x_aload_n dL_law_739 rfl rfl ?_
    refine x_iload_n dL_law_740 rfl rfl ?_
    refine x_iconst (v := nI 1) dL_law_741 (by decide) ?_
    refine x_iaddN dL_law_742 ?_
    refine x_sldN hs dL_law_743 (by omega) (by omega) ?_
    refine x_aload_n dL_law_744 rfl rfl ?_
    refine x_iload_n dL_law_745 rfl rfl ?_
    refine x_iconst (v := nI 2) dL_law_746 (by decide) ?_
    refine x_iaddN dL_law_747 ?_
    refine x_sldN hs dL_law_748 (by omega) (by omega) ?_
    refine x_aload_n dL_law_749 rfl rfl ?_
    refine x_iload_n dL_law_750 rfl rfl ?_
    refine x_iconst (v := nI 3) dL_law_751 (by decide) ?_
    refine x_iaddN dL_law_752 ?_
    refine x_sldN hs dL_law_753 (by omega) (by omega) ?_
    refine x_aload_n dL_law_754 rfl rfl ?_
    refine x_iload_n dL_law_755 rfl rfl ?_
    refine x_iconst (v := nI 4) dL_law_756 (by decide) ?_
    refine x_iaddN dL_law_757 ?_
    refine x_sldN hs dL_law_758 (by omega) (by omega) ?_
    refine x_if_eq (tgt := 766) dL_law_759 (by decide) (fun hc => ?_) (fun hc => ?_)
    · exact absurd hc hb
    refine x_iconst (v := nI 1) dL_law_762 (by decide) ?_
    refine x_goto (tgt := 767) dL_law_763 (by decide) ?_
    refine x_callVi dL_law_767 mvX8_slips kL_106 (h8) rfl (by decide) (by omega) rfl rfl (Nat.le_of_ble_eq_true rfl) ?_
    rintro v N hv
    obtain ⟨P', h9, hh2⟩ := hh v N hv
    refine x_aload_n dL_law_770 rfl rfl ?_
    refine x_aload_n dL_law_771 rfl rfl ?_
    refine x_iload_n dL_law_772 rfl rfl ?_
    refine x_iconst (v := nI 1) dL_law_773 (by decide) ?_
    refine x_iaddN dL_law_774 ?_
    refine x_sldN hs dL_law_775 (by omega) (by omega) ?_
    refine x_aload_n dL_law_776 rfl rfl ?_
    refine x_iload_n dL_law_777 rfl rfl ?_
    refine x_iconst (v := nI 2) dL_law_778 (by decide) ?_
    refine x_iaddN dL_law_779 ?_
    refine x_sldN hs dL_law_780 (by omega) (by omega) ?_
    refine x_aload_n dL_law_781 rfl rfl ?_
    refine x_iload_n dL_law_782 rfl rfl ?_
    refine x_iconst (v := nI 3) dL_law_783 (by decide) ?_
    refine x_iaddN dL_law_784 ?_
    refine x_sldN hs dL_law_785 (by omega) (by omega) ?_
    refine x_aload_n dL_law_786 rfl rfl ?_
    refine x_iload_n dL_law_787 rfl rfl ?_
    refine x_iconst (v := nI 4) dL_law_788 (by decide) ?_
    refine x_iaddN dL_law_789 ?_
    refine x_sldN hs dL_law_790 (by omega) (by omega) ?_
    refine x_if_eq (tgt := 798) dL_law_791 (by decide) (fun hc => ?_) (fun hc => ?_)
    · exact absurd hc hb
    refine x_iconst (v := nI 1) dL_law_794 (by decide) ?_
    refine x_goto (tgt := 799) dL_law_795 (by decide) ?_
    refine x_callVi dL_law_799 mvX9_slips kL_110 (h9) rfl (by decide) (by omega) rfl rfl (Nat.le_of_ble_eq_true rfl) ?_
    rintro v' N' hv'
    obtain ⟨rfl, hJ'⟩ := hh2 v' N' hv'
    refine x_icmp_eq (tgt := 930) dL_law_802 (by decide) (fun hc => ?_) (fun hc => ?_)
    · exact ih N' hJ'
    · exact absurd rfl hc
set_option maxHeartbeats 8000000 in
theorem lc_seed {E : Ev} {C : Cx} {ba Ln i : Nat} {xs : Nat → Int32} {M : PM} (hs : Scr E ba Ln xs C) (hL : Ln ≤ 2560) (hi : i + 5 ≤ Ln) (hJ : J M) (ih : ∀ N, J N → X E 8 RL cL_law 4 C 930 [some (.ref ba), some (.ref (ad E 0)), some (.ref (ad E 40)), some (.int (nI i))] [] N) : X E 8 RL cL_law 4 C 807 [some (.ref ba), some (.ref (ad E 0)), some (.ref (ad E 40)), some (.int (nI i))] [] M := by
  obtain ⟨P, h8, hh⟩ := t_seed (E := E) (M := M) (((xs (i + 1)).toInt64 <<< ((nI 32).toInt64 &&& 63)) ||| ((xs (i + 2)).toInt64 &&& 4294967295)) hJ
  refine x_aload_n dL_law_807 rfl rfl ?_
  refine x_aload_n dL_law_808 rfl rfl ?_
  refine x_iload_n dL_law_809 rfl rfl ?_
  refine x_iconst (v := nI 1) dL_law_810 (by decide) ?_
  refine x_iaddN dL_law_811 ?_
  refine x_sldN hs dL_law_812 (by omega) (by omega) ?_
  refine x_i2l dL_law_813 ?_
  refine x_bipush (v := nI 32) dL_law_814 (by decide) ?_
  refine x_lshl dL_law_816 ?_
  refine x_aload_n dL_law_817 rfl rfl ?_
  refine x_iload_n dL_law_818 rfl rfl ?_
  refine x_iconst (v := nI 2) dL_law_819 (by decide) ?_
  refine x_iaddN dL_law_820 ?_
  refine x_sldN hs dL_law_821 (by omega) (by omega) ?_
  refine x_i2l dL_law_822 ?_
  refine x_ldc2 dL_law_823 qL_111 ?_
  refine x_land dL_law_826 ?_
  refine x_lor dL_law_827 ?_
  refine x_callVl dL_law_828 mvX8_seed kL_113 (h8) rfl (by decide) (by omega) rfl rfl (Nat.le_of_ble_eq_true rfl) ?_
  rintro v N hv
  obtain ⟨P', h9, hh2⟩ := hh v N hv
  refine x_aload_n dL_law_831 rfl rfl ?_
  refine x_aload_n dL_law_832 rfl rfl ?_
  refine x_iload_n dL_law_833 rfl rfl ?_
  refine x_iconst (v := nI 1) dL_law_834 (by decide) ?_
  refine x_iaddN dL_law_835 ?_
  refine x_sldN hs dL_law_836 (by omega) (by omega) ?_
  refine x_i2l dL_law_837 ?_
  refine x_bipush (v := nI 32) dL_law_838 (by decide) ?_
  refine x_lshl dL_law_840 ?_
  refine x_aload_n dL_law_841 rfl rfl ?_
  refine x_iload_n dL_law_842 rfl rfl ?_
  refine x_iconst (v := nI 2) dL_law_843 (by decide) ?_
  refine x_iaddN dL_law_844 ?_
  refine x_sldN hs dL_law_845 (by omega) (by omega) ?_
  refine x_i2l dL_law_846 ?_
  refine x_ldc2 dL_law_847 qL_111 ?_
  refine x_land dL_law_850 ?_
  refine x_lor dL_law_851 ?_
  refine x_callVl dL_law_852 mvX9_seed kL_117 (h9) rfl (by decide) (by omega) rfl rfl (Nat.le_of_ble_eq_true rfl) ?_
  rintro v' N' hv'
  obtain ⟨rfl, hJ'⟩ := hh2 v' N' hv'
  refine x_lcmp dL_law_855 ?_
  refine x_if_eq (tgt := 930) dL_law_856 (by decide) (fun hc => ?_) (fun hc => ?_)
  · exact ih N' hJ'
  · exact absurd lg_self hc
set_option maxHeartbeats 8000000 in
theorem lc_years {E : Ev} {C : Cx} {ba Ln i : Nat} {xs : Nat → Int32} {M : PM} (hs : Scr E ba Ln xs C) (hL : Ln ≤ 2560) (hi : i + 5 ≤ Ln) (hJ : J M) (ih : ∀ N, J N → X E 8 RL cL_law 4 C 930 [some (.ref ba), some (.ref (ad E 0)), some (.ref (ad E 40)), some (.int (nI i))] [] N) : X E 8 RL cL_law 4 C 861 [some (.ref ba), some (.ref (ad E 0)), some (.ref (ad E 40)), some (.int (nI i))] [] M := by
  obtain ⟨P, h8, hh⟩ := t_years (E := E) (M := M) (xs (i + 1)) hJ
  refine x_aload_n dL_law_861 rfl rfl ?_
  refine x_aload_n dL_law_862 rfl rfl ?_
  refine x_iload_n dL_law_863 rfl rfl ?_
  refine x_iconst (v := nI 1) dL_law_864 (by decide) ?_
  refine x_iaddN dL_law_865 ?_
  refine x_sldN hs dL_law_866 (by omega) (by omega) ?_
  refine x_callVi dL_law_867 mvX8_years kL_118 (h8) rfl (by decide) (by omega) rfl rfl (Nat.le_of_ble_eq_true rfl) ?_
  rintro v N hv
  obtain ⟨P', h9, hh2⟩ := hh v N hv
  refine x_aload_n dL_law_870 rfl rfl ?_
  refine x_aload_n dL_law_871 rfl rfl ?_
  refine x_iload_n dL_law_872 rfl rfl ?_
  refine x_iconst (v := nI 1) dL_law_873 (by decide) ?_
  refine x_iaddN dL_law_874 ?_
  refine x_sldN hs dL_law_875 (by omega) (by omega) ?_
  refine x_callVi dL_law_876 mvX9_years kL_121 (h9) rfl (by decide) (by omega) rfl rfl (Nat.le_of_ble_eq_true rfl) ?_
  rintro v' N' hv'
  obtain ⟨rfl, hJ'⟩ := hh2 v' N' hv'
  refine x_icmp_eq (tgt := 930) dL_law_879 (by decide) (fun hc => ?_) (fun hc => ?_)
  · exact ih N' hJ'
  · exact absurd rfl hc
set_option maxHeartbeats 8000000 in
theorem lc_keep {E : Ev} {C : Cx} {ba Ln i : Nat} {xs : Nat → Int32} {M : PM} (hs : Scr E ba Ln xs C) (hL : Ln ≤ 2560) (hi : i + 5 ≤ Ln) (hJ : J M) (ih : ∀ N, J N → X E 8 RL cL_law 4 C 930 [some (.ref ba), some (.ref (ad E 0)), some (.ref (ad E 40)), some (.int (nI i))] [] N) : X E 8 RL cL_law 4 C 884 [some (.ref ba), some (.ref (ad E 0)), some (.ref (ad E 40)), some (.int (nI i))] [] M := by
  obtain ⟨P, h8, hh⟩ := t_keep (E := E) (M := M) (xs (i + 1)) hJ
  refine x_aload_n dL_law_884 rfl rfl ?_
  refine x_aload_n dL_law_885 rfl rfl ?_
  refine x_iload_n dL_law_886 rfl rfl ?_
  refine x_iconst (v := nI 1) dL_law_887 (by decide) ?_
  refine x_iaddN dL_law_888 ?_
  refine x_sldN hs dL_law_889 (by omega) (by omega) ?_
  refine x_callVi dL_law_890 mvX8_keep kL_122 (h8) rfl (by decide) (by omega) rfl rfl (Nat.le_of_ble_eq_true rfl) ?_
  rintro v N hv
  obtain ⟨P', h9, hh2⟩ := hh v N hv
  refine x_aload_n dL_law_893 rfl rfl ?_
  refine x_aload_n dL_law_894 rfl rfl ?_
  refine x_iload_n dL_law_895 rfl rfl ?_
  refine x_iconst (v := nI 1) dL_law_896 (by decide) ?_
  refine x_iaddN dL_law_897 ?_
  refine x_sldN hs dL_law_898 (by omega) (by omega) ?_
  refine x_callVi dL_law_899 mvX9_keep kL_125 (h9) rfl (by decide) (by omega) rfl rfl (Nat.le_of_ble_eq_true rfl) ?_
  rintro v' N' hv'
  obtain ⟨rfl, hJ'⟩ := hh2 v' N' hv'
  refine x_icmp_eq (tgt := 930) dL_law_902 (by decide) (fun hc => ?_) (fun hc => ?_)
  · exact ih N' hJ'
  · exact absurd rfl hc
set_option maxHeartbeats 8000000 in
theorem lc_again {E : Ev} {C : Cx} {ba Ln i : Nat} {xs : Nat → Int32} {M : PM} (hs : Scr E ba Ln xs C) (hL : Ln ≤ 2560) (hi : i + 5 ≤ Ln) (hJ : J M) (ih : ∀ N, J N → X E 8 RL cL_law 4 C 930 [some (.ref ba), some (.ref (ad E 0)), some (.ref (ad E 40)), some (.int (nI i))] [] N) : X E 8 RL cL_law 4 C 907 [some (.ref ba), some (.ref (ad E 0)), some (.ref (ad E 40)), some (.int (nI i))] [] M := by
  obtain ⟨P, h8, hh⟩ := t_again (E := E) (M := M) (xs (i + 1)) hJ
  refine x_aload_n dL_law_907 rfl rfl ?_
  refine x_aload_n dL_law_908 rfl rfl ?_
  refine x_iload_n dL_law_909 rfl rfl ?_
  refine x_iconst (v := nI 1) dL_law_910 (by decide) ?_
  refine x_iaddN dL_law_911 ?_
  refine x_sldN hs dL_law_912 (by omega) (by omega) ?_
  refine x_callVi dL_law_913 mvX8_again kL_126 (h8) rfl (by decide) (by omega) rfl rfl (Nat.le_of_ble_eq_true rfl) ?_
  rintro v N hv
  obtain ⟨P', h9, hh2⟩ := hh v N hv
  refine x_aload_n dL_law_916 rfl rfl ?_
  refine x_aload_n dL_law_917 rfl rfl ?_
  refine x_iload_n dL_law_918 rfl rfl ?_
  refine x_iconst (v := nI 1) dL_law_919 (by decide) ?_
  refine x_iaddN dL_law_920 ?_
  refine x_sldN hs dL_law_921 (by omega) (by omega) ?_
  refine x_callVi dL_law_922 mvX9_again kL_129 (h9) rfl (by decide) (by omega) rfl rfl (Nat.le_of_ble_eq_true rfl) ?_
  rintro v' N' hv'
  obtain ⟨rfl, hJ'⟩ := hh2 v' N' hv'
  refine x_icmp_eq (tgt := 930) dL_law_925 (by decide) (fun hc => ?_) (fun hc => ?_)
  · exact ih N' hJ'
  · exact absurd rfl hc
