set_option maxRecDepth 100000 in
set_option maxHeartbeats 4000000 in
theorem cs_drop {X : XT} {Γ : Gam} (hX : OKX X Γ cL_law RL 12 438) (b M : Nat) (xs : Nat → Int32) (hB : SB X b M xs) (hM : M ≤ 3072) (i : Nat) (hi : i + 6 ≤ M) (G : GG) (hG : LR G) (K : ∀ G', LR G' → WP X Γ 1379 [some (.ref b), some (.ref (gad Γ 30)), some (.ref (gad Γ 47)), some (.int (nI i))] [] G') : WP X Γ 553 [some (.ref b), some (.ref (gad Γ 30)), some (.ref (gad Γ 47)), some (.int (nI i))] [] G := by
  obtain ⟨μ, κ, B, Z, N, T, n, h⟩ := id hG
  obtain ⟨hC, hM, hV, hSp⟩ := id h.1
  obtain ⟨hS, hSm, hZ⟩ := id h.2.2.1
  obtain ⟨t1, t2, t3, t4⟩ := id h.2.2.2.1
  refine r_aload1 hX dL_law_553 (q := 554) rfl ?_
  refine r_callV hX dL_law_554 (q := 557) rfl (c_X5_drop _ Γ _ μ 99999 hC hV) kL_61 mlX5_drop mvX5_drop rfl rfl rfl ⟨by decide, rfl⟩ ⟨by decide, by decide⟩ (Nat.le_of_ble_eq_true rfl) (kpI (fun vA GA pA => ?_))
  have hMa := co_mr pA hM
  refine r_aload2 hX dL_law_557 (q := 558) rfl ?_
  refine r_callV hX dL_law_558 (q := 561) rfl (c_X6_drop _ Γ _ μ hMa 99999 hV) kL_64 mlX6_drop mvX6_drop rfl rfl rfl ⟨by decide, rfl⟩ ⟨by decide, by decide⟩ (Nat.le_of_ble_eq_true rfl) (kpI (fun vC GC pC => ?_))
  obtain ⟨hEq, hLR⟩ := lr_o h pA pC (iv_drop hV hSp)
  first | refine r_icmpN_eq hX dL_law_561 (q := 564) rfl (tgt := 1379) (by decide) (by first | decide | omega) (by first | decide | omega) (fun h561 => ?_) (fun h561 => ?_) | refine r_icmp_eq hX dL_law_561 (q := 564) rfl (tgt := 1379) (by decide) (fun h561 => ?_) (fun h561 => ?_)
  ·
    exact K _ hLR
  ·
    exact absurd hEq h561 --end

set_option maxRecDepth 100000 in
set_option maxHeartbeats 4000000 in
theorem cs_meals {X : XT} {Γ : Gam} (hX : OKX X Γ cL_law RL 12 438) (b M : Nat) (xs : Nat → Int32) (hB : SB X b M xs) (hM : M ≤ 3072) (i : Nat) (hi : i + 6 ≤ M) (G : GG) (hG : LR G) (K : ∀ G', LR G' → WP X Γ 1379 [some (.ref b), some (.ref (gad Γ 30)), some (.ref (gad Γ 47)), some (.int (nI i))] [] G') : WP X Γ 566 [some (.ref b), some (.ref (gad Γ 30)), some (.ref (gad Γ 47)), some (.int (nI i))] [] G := by
  obtain ⟨μ, κ, B, Z, N, T, n, h⟩ := id hG
  obtain ⟨hC, hM, hV, hSp⟩ := id h.1
  obtain ⟨hS, hSm, hZ⟩ := id h.2.2.1
  obtain ⟨t1, t2, t3, t4⟩ := id h.2.2.2.1
  refine r_aload1 hX dL_law_566 (q := 567) rfl ?_
  refine r_aload0 hX dL_law_567 (q := 568) rfl ?_
  refine r_iload3 hX dL_law_568 (q := 569) rfl ?_
  refine r_iconst hX dL_law_569 (q := 570) rfl (v := nI 1) (by decide +kernel) ?_
  refine r_iadd hX dL_law_570 (q := 571) rfl ?_
  refine r_bld hX hB dL_law_571 (q := 572) rfl (e_add rfl rfl) (by omega) (by omega) ?_
  refine r_callV hX dL_law_572 (q := 575) rfl (c_X5_meals _ Γ _ μ 99999 hC hV (by decide) _) kL_65 mlX5_meals mvX5_meals rfl rfl rfl ⟨by decide, rfl⟩ ⟨by decide, by decide⟩ (Nat.le_of_ble_eq_true rfl) (kpI (fun vA GA pA => ?_))
  have hMa := co_mr pA hM
  refine r_aload2 hX dL_law_575 (q := 576) rfl ?_
  refine r_aload0 hX dL_law_576 (q := 577) rfl ?_
  refine r_iload3 hX dL_law_577 (q := 578) rfl ?_
  refine r_iconst hX dL_law_578 (q := 579) rfl (v := nI 1) (by decide +kernel) ?_
  refine r_iadd hX dL_law_579 (q := 580) rfl ?_
  refine r_bld hX hB dL_law_580 (q := 581) rfl (e_add rfl rfl) (by omega) (by omega) ?_
  refine r_callV hX dL_law_581 (q := 584) rfl (c_X6_meals _ Γ _ μ hMa 99999 hV (by decide) _) kL_68 mlX6_meals mvX6_meals rfl rfl rfl ⟨by decide, rfl⟩ ⟨by decide, by decide⟩ (Nat.le_of_ble_eq_true rfl) (kpI (fun vC GC pC => ?_))
  obtain ⟨hEq, hLR⟩ := lr_o h pA pC (iv_meals hV hSp _)
  first | refine r_icmpN_eq hX dL_law_584 (q := 587) rfl (tgt := 1379) (by decide) (by first | decide | omega) (by first | decide | omega) (fun h584 => ?_) (fun h584 => ?_) | refine r_icmp_eq hX dL_law_584 (q := 587) rfl (tgt := 1379) (by decide) (fun h584 => ?_) (fun h584 => ?_)
  ·
    exact K _ hLR
  ·
    exact absurd hEq h584 --end

set_option maxRecDepth 100000 in
set_option maxHeartbeats 4000000 in
theorem cs_now {X : XT} {Γ : Gam} (hX : OKX X Γ cL_law RL 12 438) (b M : Nat) (xs : Nat → Int32) (hB : SB X b M xs) (hM : M ≤ 3072) (i : Nat) (hi : i + 6 ≤ M) (G : GG) (hG : LR G) (K : ∀ G', LR G' → WP X Γ 1379 [some (.ref b), some (.ref (gad Γ 30)), some (.ref (gad Γ 47)), some (.int (nI i))] [] G') : WP X Γ 589 [some (.ref b), some (.ref (gad Γ 30)), some (.ref (gad Γ 47)), some (.int (nI i))] [] G := by
  obtain ⟨μ, κ, B, Z, N, T, n, h⟩ := id hG
  obtain ⟨hC, hM, hV, hSp⟩ := id h.1
  obtain ⟨hS, hSm, hZ⟩ := id h.2.2.1
  obtain ⟨t1, t2, t3, t4⟩ := id h.2.2.2.1
  refine r_aload1 hX dL_law_589 (q := 590) rfl ?_
  refine r_aload0 hX dL_law_590 (q := 591) rfl ?_
  refine r_iload3 hX dL_law_591 (q := 592) rfl ?_
  refine r_iconst hX dL_law_592 (q := 593) rfl (v := nI 1) (by decide +kernel) ?_
  refine r_iadd hX dL_law_593 (q := 594) rfl ?_
  refine r_bld hX hB dL_law_594 (q := 595) rfl (e_add rfl rfl) (by omega) (by omega) ?_
  refine r_callV hX dL_law_595 (q := 598) rfl (c_X5_now _ Γ _ μ 99999 hC hV (by decide) _) kL_69 mlX5_now mvX5_now rfl rfl rfl ⟨by decide, rfl⟩ ⟨by decide, by decide⟩ (Nat.le_of_ble_eq_true rfl) (kpI (fun vA GA pA => ?_))
  have hMa := co_mr pA hM
  refine r_aload2 hX dL_law_598 (q := 599) rfl ?_
  refine r_aload0 hX dL_law_599 (q := 600) rfl ?_
  refine r_iload3 hX dL_law_600 (q := 601) rfl ?_
  refine r_iconst hX dL_law_601 (q := 602) rfl (v := nI 1) (by decide +kernel) ?_
  refine r_iadd hX dL_law_602 (q := 603) rfl ?_
  refine r_bld hX hB dL_law_603 (q := 604) rfl (e_add rfl rfl) (by omega) (by omega) ?_
  refine r_callV hX dL_law_604 (q := 607) rfl (c_X6_now _ Γ _ μ hMa 99999 hV _) kL_72 mlX6_now mvX6_now rfl rfl rfl ⟨by decide, rfl⟩ ⟨by decide, by decide⟩ (Nat.le_of_ble_eq_true rfl) (kpI (fun vC GC pC => ?_))
  obtain ⟨hEq, hLR⟩ := lr_o h pA pC (iv_now hV hSp _)
  first | refine r_icmpN_eq hX dL_law_607 (q := 610) rfl (tgt := 1379) (by decide) (by first | decide | omega) (by first | decide | omega) (fun h607 => ?_) (fun h607 => ?_) | refine r_icmp_eq hX dL_law_607 (q := 610) rfl (tgt := 1379) (by decide) (fun h607 => ?_) (fun h607 => ?_)
  ·
    exact K _ hLR
  ·
    exact absurd hEq h607 --end

set_option maxRecDepth 100000 in
set_option maxHeartbeats 4000000 in
theorem cs_book {X : XT} {Γ : Gam} (hX : OKX X Γ cL_law RL 12 438) (b M : Nat) (xs : Nat → Int32) (hB : SB X b M xs) (hM : M ≤ 3072) (i : Nat) (hi : i + 6 ≤ M) (G : GG) (hG : LR G) (K : ∀ G', LR G' → WP X Γ 1379 [some (.ref b), some (.ref (gad Γ 30)), some (.ref (gad Γ 47)), some (.int (nI i))] [] G') : WP X Γ 612 [some (.ref b), some (.ref (gad Γ 30)), some (.ref (gad Γ 47)), some (.int (nI i))] [] G := by
  obtain ⟨μ, κ, B, Z, N, T, n, h⟩ := id hG
  obtain ⟨hC, hM, hV, hSp⟩ := id h.1
  obtain ⟨hS, hSm, hZ⟩ := id h.2.2.1
  obtain ⟨t1, t2, t3, t4⟩ := id h.2.2.2.1
  refine r_aload1 hX dL_law_612 (q := 613) rfl ?_
  refine r_aload0 hX dL_law_613 (q := 614) rfl ?_
  refine r_iload3 hX dL_law_614 (q := 615) rfl ?_
  refine r_iconst hX dL_law_615 (q := 616) rfl (v := nI 1) (by decide +kernel) ?_
  refine r_iadd hX dL_law_616 (q := 617) rfl ?_
  refine r_bld hX hB dL_law_617 (q := 618) rfl (e_add rfl rfl) (by omega) (by omega) ?_
  refine r_callV hX dL_law_618 (q := 621) rfl (c_X5_book _ Γ _ μ 99999 hC hV (by decide) _) kL_73 mlX5_book mvX5_book rfl rfl rfl ⟨by decide, rfl⟩ ⟨by decide, by decide⟩ (Nat.le_of_ble_eq_true rfl) (kpI (fun vA GA pA => ?_))
  have hMa := co_mr pA hM
  refine r_aload2 hX dL_law_621 (q := 622) rfl ?_
  refine r_aload0 hX dL_law_622 (q := 623) rfl ?_
  refine r_iload3 hX dL_law_623 (q := 624) rfl ?_
  refine r_iconst hX dL_law_624 (q := 625) rfl (v := nI 1) (by decide +kernel) ?_
  refine r_iadd hX dL_law_625 (q := 626) rfl ?_
  refine r_bld hX hB dL_law_626 (q := 627) rfl (e_add rfl rfl) (by omega) (by omega) ?_
  refine r_callV hX dL_law_627 (q := 630) rfl (c_X6_book _ Γ _ μ hMa 99999 hV _) kL_76 mlX6_book mvX6_book rfl rfl rfl ⟨by decide, rfl⟩ ⟨by decide, by decide⟩ (Nat.le_of_ble_eq_true rfl) (kpI (fun vC GC pC => ?_))
  obtain ⟨hEq, hLR⟩ := lr_o h pA pC (iv_book hV hSp _)
  first | refine r_icmpN_eq hX dL_law_630 (q := 633) rfl (tgt := 1379) (by decide) (by first | decide | omega) (by first | decide | omega) (fun h630 => ?_) (fun h630 => ?_) | refine r_icmp_eq hX dL_law_630 (q := 633) rfl (tgt := 1379) (by decide) (fun h630 => ?_) (fun h630 => ?_)
  ·
    exact K _ hLR
  ·
    exact absurd hEq h630 --end

set_option maxRecDepth 100000 in
set_option maxHeartbeats 4000000 in
theorem cs_day {X : XT} {Γ : Gam} (hX : OKX X Γ cL_law RL 12 438) (b M : Nat) (xs : Nat → Int32) (hB : SB X b M xs) (hM : M ≤ 3072) (i : Nat) (hi : i + 6 ≤ M) (G : GG) (hG : LR G) (K : ∀ G', LR G' → WP X Γ 1379 [some (.ref b), some (.ref (gad Γ 30)), some (.ref (gad Γ 47)), some (.int (nI i))] [] G') : WP X Γ 635 [some (.ref b), some (.ref (gad Γ 30)), some (.ref (gad Γ 47)), some (.int (nI i))] [] G := by
  obtain ⟨μ, κ, B, Z, N, T, n, h⟩ := id hG
  obtain ⟨hC, hM, hV, hSp⟩ := id h.1
  obtain ⟨hS, hSm, hZ⟩ := id h.2.2.1
  obtain ⟨t1, t2, t3, t4⟩ := id h.2.2.2.1
  refine r_aload1 hX dL_law_635 (q := 636) rfl ?_
  refine r_aload0 hX dL_law_636 (q := 637) rfl ?_
  refine r_iload3 hX dL_law_637 (q := 638) rfl ?_
  refine r_iconst hX dL_law_638 (q := 639) rfl (v := nI 1) (by decide +kernel) ?_
  refine r_iadd hX dL_law_639 (q := 640) rfl ?_
  refine r_bld hX hB dL_law_640 (q := 641) rfl (e_add rfl rfl) (by omega) (by omega) ?_
  refine r_callV hX dL_law_641 (q := 644) rfl (c_X5_day _ Γ _ μ 99999 hC hV (by decide) _) kL_77 mlX5_day mvX5_day rfl rfl rfl ⟨by decide, rfl⟩ ⟨by decide, by decide⟩ (Nat.le_of_ble_eq_true rfl) (kpI (fun vA GA pA => ?_))
  have hMa := co_mr pA hM
  refine r_aload2 hX dL_law_644 (q := 645) rfl ?_
  refine r_aload0 hX dL_law_645 (q := 646) rfl ?_
  refine r_iload3 hX dL_law_646 (q := 647) rfl ?_
  refine r_iconst hX dL_law_647 (q := 648) rfl (v := nI 1) (by decide +kernel) ?_
  refine r_iadd hX dL_law_648 (q := 649) rfl ?_
  refine r_bld hX hB dL_law_649 (q := 650) rfl (e_add rfl rfl) (by omega) (by omega) ?_
  refine r_callV hX dL_law_650 (q := 653) rfl (c_X6_day _ Γ _ μ hMa 99999 hV _) kL_80 mlX6_day mvX6_day rfl rfl rfl ⟨by decide, rfl⟩ ⟨by decide, by decide⟩ (Nat.le_of_ble_eq_true rfl) (kpI (fun vC GC pC => ?_))
  obtain ⟨hEq, hLR⟩ := lr_o h pA pC (iv_day hV hSp _)
  first | refine r_icmpN_eq hX dL_law_653 (q := 656) rfl (tgt := 1379) (by decide) (by first | decide | omega) (by first | decide | omega) (fun h653 => ?_) (fun h653 => ?_) | refine r_icmp_eq hX dL_law_653 (q := 656) rfl (tgt := 1379) (by decide) (fun h653 => ?_) (fun h653 => ?_)
  ·
    exact K _ hLR
  ·
    exact absurd hEq h653 --end

set_option maxRecDepth 100000 in
set_option maxHeartbeats 4000000 in
theorem cs_spread {X : XT} {Γ : Gam} (hX : OKX X Γ cL_law RL 12 438) (b M : Nat) (xs : Nat → Int32) (hB : SB X b M xs) (hM : M ≤ 3072) (i : Nat) (hi : i + 6 ≤ M) (G : GG) (hG : LR G) (K : ∀ G', LR G' → WP X Γ 1379 [some (.ref b), some (.ref (gad Γ 30)), some (.ref (gad Γ 47)), some (.int (nI i))] [] G') : WP X Γ 658 [some (.ref b), some (.ref (gad Γ 30)), some (.ref (gad Γ 47)), some (.int (nI i))] [] G := by
  obtain ⟨μ, κ, B, Z, N, T, n, h⟩ := id hG
  obtain ⟨hC, hM, hV, hSp⟩ := id h.1
  obtain ⟨hS, hSm, hZ⟩ := id h.2.2.1
  obtain ⟨t1, t2, t3, t4⟩ := id h.2.2.2.1
  refine r_aload1 hX dL_law_658 (q := 659) rfl ?_
  refine r_callV hX dL_law_659 (q := 662) rfl (c_X5_spread _ Γ _ μ 99999 hC hV (by decide)) kL_81 mlX5_spread mvX5_spread rfl rfl rfl ⟨by decide, rfl⟩ ⟨by decide, by decide⟩ (Nat.le_of_ble_eq_true rfl) (kpI (fun vA GA pA => ?_))
  have hMa := co_mr pA hM
  refine r_aload2 hX dL_law_662 (q := 663) rfl ?_
  refine r_callV hX dL_law_663 (q := 666) rfl (c_X6_spread _ Γ _ μ hMa 99999 hV) kL_84 mlX6_spread mvX6_spread rfl rfl rfl ⟨by decide, rfl⟩ ⟨by decide, by decide⟩ (Nat.le_of_ble_eq_true rfl) (kpI (fun vC GC pC => ?_))
  obtain ⟨hEq, hLR⟩ := lr_o h pA pC (iv_spread hV hSp)
  first | refine r_icmpN_eq hX dL_law_666 (q := 669) rfl (tgt := 1379) (by decide) (by first | decide | omega) (by first | decide | omega) (fun h666 => ?_) (fun h666 => ?_) | refine r_icmp_eq hX dL_law_666 (q := 669) rfl (tgt := 1379) (by decide) (fun h666 => ?_) (fun h666 => ?_)
  ·
    exact K _ hLR
  ·
    exact absurd hEq h666 --end

set_option maxRecDepth 100000 in
set_option maxHeartbeats 4000000 in
theorem cs_ahead {X : XT} {Γ : Gam} (hX : OKX X Γ cL_law RL 12 438) (b M : Nat) (xs : Nat → Int32) (hB : SB X b M xs) (hM : M ≤ 3072) (i : Nat) (hi : i + 6 ≤ M) (G : GG) (hG : LR G) (K : ∀ G', LR G' → WP X Γ 1379 [some (.ref b), some (.ref (gad Γ 30)), some (.ref (gad Γ 47)), some (.int (nI i))] [] G') : WP X Γ 671 [some (.ref b), some (.ref (gad Γ 30)), some (.ref (gad Γ 47)), some (.int (nI i))] [] G := by
  obtain ⟨μ, κ, B, Z, N, T, n, h⟩ := id hG
  obtain ⟨hC, hM, hV, hSp⟩ := id h.1
  obtain ⟨hS, hSm, hZ⟩ := id h.2.2.1
  obtain ⟨t1, t2, t3, t4⟩ := id h.2.2.2.1
  refine r_aload1 hX dL_law_671 (q := 672) rfl ?_
  refine r_aload0 hX dL_law_672 (q := 673) rfl ?_
  refine r_iload3 hX dL_law_673 (q := 674) rfl ?_
  refine r_iconst hX dL_law_674 (q := 675) rfl (v := nI 1) (by decide +kernel) ?_
  refine r_iadd hX dL_law_675 (q := 676) rfl ?_
  refine r_bld hX hB dL_law_676 (q := 677) rfl (e_add rfl rfl) (by omega) (by omega) ?_
  refine r_aload0 hX dL_law_677 (q := 678) rfl ?_
  refine r_iload3 hX dL_law_678 (q := 679) rfl ?_
  refine r_iconst hX dL_law_679 (q := 680) rfl (v := nI 2) (by decide +kernel) ?_
  refine r_iadd hX dL_law_680 (q := 681) rfl ?_
  refine r_bld hX hB dL_law_681 (q := 682) rfl (e_add rfl rfl) (by omega) (by omega) ?_
  refine r_callV hX dL_law_682 (q := 685) rfl (c_X5_ahead _ Γ _ μ 99999 hC hV (by decide) _ _) kL_85 mlX5_ahead mvX5_ahead rfl rfl rfl ⟨by decide, rfl⟩ ⟨by decide, by decide⟩ (Nat.le_of_ble_eq_true rfl) (kpI (fun vA GA pA => ?_))
  have hMa := co_mr pA hM
  refine r_aload2 hX dL_law_685 (q := 686) rfl ?_
  refine r_aload0 hX dL_law_686 (q := 687) rfl ?_
  refine r_iload3 hX dL_law_687 (q := 688) rfl ?_
  refine r_iconst hX dL_law_688 (q := 689) rfl (v := nI 1) (by decide +kernel) ?_
  refine r_iadd hX dL_law_689 (q := 690) rfl ?_
  refine r_bld hX hB dL_law_690 (q := 691) rfl (e_add rfl rfl) (by omega) (by omega) ?_
  refine r_aload0 hX dL_law_691 (q := 692) rfl ?_
  refine r_iload3 hX dL_law_692 (q := 693) rfl ?_
  refine r_iconst hX dL_law_693 (q := 694) rfl (v := nI 2) (by decide +kernel) ?_
  refine r_iadd hX dL_law_694 (q := 695) rfl ?_
  refine r_bld hX hB dL_law_695 (q := 696) rfl (e_add rfl rfl) (by omega) (by omega) ?_
  refine r_callV hX dL_law_696 (q := 699) rfl (c_X6_ahead _ Γ _ μ hMa 99999 hV (by decide) _ _) kL_88 mlX6_ahead mvX6_ahead rfl rfl rfl ⟨by decide, rfl⟩ ⟨by decide, by decide⟩ (Nat.le_of_ble_eq_true rfl) (kpI (fun vC GC pC => ?_))
  obtain ⟨hEq, hLR⟩ := lr_o h pA pC (iv_ahead hV hSp _ _)
  first | refine r_icmpN_eq hX dL_law_699 (q := 702) rfl (tgt := 1379) (by decide) (by first | decide | omega) (by first | decide | omega) (fun h699 => ?_) (fun h699 => ?_) | refine r_icmp_eq hX dL_law_699 (q := 702) rfl (tgt := 1379) (by decide) (fun h699 => ?_) (fun h699 => ?_)
  ·
    exact K _ hLR
  ·
    exact absurd hEq h699 --end

set_option maxRecDepth 100000 in
set_option maxHeartbeats 4000000 in
theorem cs_when {X : XT} {Γ : Gam} (hX : OKX X Γ cL_law RL 12 438) (b M : Nat) (xs : Nat → Int32) (hB : SB X b M xs) (hM : M ≤ 3072) (i : Nat) (hi : i + 6 ≤ M) (G : GG) (hG : LR G) (K : ∀ G', LR G' → WP X Γ 1379 [some (.ref b), some (.ref (gad Γ 30)), some (.ref (gad Γ 47)), some (.int (nI i))] [] G') : WP X Γ 704 [some (.ref b), some (.ref (gad Γ 30)), some (.ref (gad Γ 47)), some (.int (nI i))] [] G := by
  obtain ⟨μ, κ, B, Z, N, T, n, h⟩ := id hG
  obtain ⟨hC, hM, hV, hSp⟩ := id h.1
  obtain ⟨hS, hSm, hZ⟩ := id h.2.2.1
  obtain ⟨t1, t2, t3, t4⟩ := id h.2.2.2.1
  refine r_aload1 hX dL_law_704 (q := 705) rfl ?_
  refine r_aload0 hX dL_law_705 (q := 706) rfl ?_
  refine r_iload3 hX dL_law_706 (q := 707) rfl ?_
  refine r_iconst hX dL_law_707 (q := 708) rfl (v := nI 1) (by decide +kernel) ?_
  refine r_iadd hX dL_law_708 (q := 709) rfl ?_
  refine r_bld hX hB dL_law_709 (q := 710) rfl (e_add rfl rfl) (by omega) (by omega) ?_
  refine r_callV hX dL_law_710 (q := 713) rfl (c_X5_when _ Γ _ μ 99999 hC hV (by decide) _) kL_89 mlX5_when mvX5_when rfl rfl rfl ⟨by decide, rfl⟩ ⟨by decide, by decide⟩ (Nat.le_of_ble_eq_true rfl) (kpI (fun vA GA pA => ?_))
  have hMa := co_mr pA hM
  refine r_aload2 hX dL_law_713 (q := 714) rfl ?_
  refine r_aload0 hX dL_law_714 (q := 715) rfl ?_
  refine r_iload3 hX dL_law_715 (q := 716) rfl ?_
  refine r_iconst hX dL_law_716 (q := 717) rfl (v := nI 1) (by decide +kernel) ?_
  refine r_iadd hX dL_law_717 (q := 718) rfl ?_
  refine r_bld hX hB dL_law_718 (q := 719) rfl (e_add rfl rfl) (by omega) (by omega) ?_
  refine r_callV hX dL_law_719 (q := 722) rfl (c_X6_when _ Γ _ μ hMa 99999 hV (by decide) _) kL_92 mlX6_when mvX6_when rfl rfl rfl ⟨by decide, rfl⟩ ⟨by decide, by decide⟩ (Nat.le_of_ble_eq_true rfl) (kpI (fun vC GC pC => ?_))
  obtain ⟨hEq, hLR⟩ := lr_o h pA pC (iv_when hV hSp _)
  first | refine r_icmpN_eq hX dL_law_722 (q := 725) rfl (tgt := 1379) (by decide) (by first | decide | omega) (by first | decide | omega) (fun h722 => ?_) (fun h722 => ?_) | refine r_icmp_eq hX dL_law_722 (q := 725) rfl (tgt := 1379) (by decide) (fun h722 => ?_) (fun h722 => ?_)
  ·
    exact K _ hLR
  ·
    exact absurd hEq h722 --end

set_option maxRecDepth 100000 in
set_option maxHeartbeats 4000000 in
theorem cs_times {X : XT} {Γ : Gam} (hX : OKX X Γ cL_law RL 12 438) (b M : Nat) (xs : Nat → Int32) (hB : SB X b M xs) (hM : M ≤ 3072) (i : Nat) (hi : i + 6 ≤ M) (G : GG) (hG : LR G) (K : ∀ G', LR G' → WP X Γ 1379 [some (.ref b), some (.ref (gad Γ 30)), some (.ref (gad Γ 47)), some (.int (nI i))] [] G') : WP X Γ 727 [some (.ref b), some (.ref (gad Γ 30)), some (.ref (gad Γ 47)), some (.int (nI i))] [] G := by
  obtain ⟨μ, κ, B, Z, N, T, n, h⟩ := id hG
  obtain ⟨hC, hM, hV, hSp⟩ := id h.1
  obtain ⟨hS, hSm, hZ⟩ := id h.2.2.1
  obtain ⟨t1, t2, t3, t4⟩ := id h.2.2.2.1
  refine r_aload1 hX dL_law_727 (q := 728) rfl ?_
  refine r_aload0 hX dL_law_728 (q := 729) rfl ?_
  refine r_iload3 hX dL_law_729 (q := 730) rfl ?_
  refine r_iconst hX dL_law_730 (q := 731) rfl (v := nI 1) (by decide +kernel) ?_
  refine r_iadd hX dL_law_731 (q := 732) rfl ?_
  refine r_bld hX hB dL_law_732 (q := 733) rfl (e_add rfl rfl) (by omega) (by omega) ?_
  refine r_callV hX dL_law_733 (q := 736) rfl (c_X5_times _ Γ _ μ 99999 hC hV (by decide) _) kL_93 mlX5_times mvX5_times rfl rfl rfl ⟨by decide, rfl⟩ ⟨by decide, by decide⟩ (Nat.le_of_ble_eq_true rfl) (kpI (fun vA GA pA => ?_))
  have hMa := co_mr pA hM
  refine r_aload2 hX dL_law_736 (q := 737) rfl ?_
  refine r_aload0 hX dL_law_737 (q := 738) rfl ?_
  refine r_iload3 hX dL_law_738 (q := 739) rfl ?_
  refine r_iconst hX dL_law_739 (q := 740) rfl (v := nI 1) (by decide +kernel) ?_
  refine r_iadd hX dL_law_740 (q := 741) rfl ?_
  refine r_bld hX hB dL_law_741 (q := 742) rfl (e_add rfl rfl) (by omega) (by omega) ?_
  refine r_callV hX dL_law_742 (q := 745) rfl (c_X6_times _ Γ _ μ hMa 99999 hV (by decide) _) kL_96 mlX6_times mvX6_times rfl rfl rfl ⟨by decide, rfl⟩ ⟨by decide, by decide⟩ (Nat.le_of_ble_eq_true rfl) (kpI (fun vC GC pC => ?_))
  obtain ⟨hEq, hLR⟩ := lr_o h pA pC (iv_times hV hSp _)
  first | refine r_icmpN_eq hX dL_law_745 (q := 748) rfl (tgt := 1379) (by decide) (by first | decide | omega) (by first | decide | omega) (fun h745 => ?_) (fun h745 => ?_) | refine r_icmp_eq hX dL_law_745 (q := 748) rfl (tgt := 1379) (by decide) (fun h745 => ?_) (fun h745 => ?_)
  ·
    exact K _ hLR
  ·
    exact absurd hEq h745 --end

set_option maxRecDepth 100000 in
set_option maxHeartbeats 4000000 in
theorem cs_kindFor {X : XT} {Γ : Gam} (hX : OKX X Γ cL_law RL 12 438) (b M : Nat) (xs : Nat → Int32) (hB : SB X b M xs) (hM : M ≤ 3072) (i : Nat) (hi : i + 6 ≤ M) (G : GG) (hG : LR G) (K : ∀ G', LR G' → WP X Γ 1379 [some (.ref b), some (.ref (gad Γ 30)), some (.ref (gad Γ 47)), some (.int (nI i))] [] G') : WP X Γ 750 [some (.ref b), some (.ref (gad Γ 30)), some (.ref (gad Γ 47)), some (.int (nI i))] [] G := by
  obtain ⟨μ, κ, B, Z, N, T, n, h⟩ := id hG
  obtain ⟨hC, hM, hV, hSp⟩ := id h.1
  obtain ⟨hS, hSm, hZ⟩ := id h.2.2.1
  obtain ⟨t1, t2, t3, t4⟩ := id h.2.2.2.1
  refine r_aload1 hX dL_law_750 (q := 751) rfl ?_
  refine r_aload0 hX dL_law_751 (q := 752) rfl ?_
  refine r_iload3 hX dL_law_752 (q := 753) rfl ?_
  refine r_iconst hX dL_law_753 (q := 754) rfl (v := nI 1) (by decide +kernel) ?_
  refine r_iadd hX dL_law_754 (q := 755) rfl ?_
  refine r_bld hX hB dL_law_755 (q := 756) rfl (e_add rfl rfl) (by omega) (by omega) ?_
  refine r_aload0 hX dL_law_756 (q := 757) rfl ?_
  refine r_iload3 hX dL_law_757 (q := 758) rfl ?_
  refine r_iconst hX dL_law_758 (q := 759) rfl (v := nI 2) (by decide +kernel) ?_
  refine r_iadd hX dL_law_759 (q := 760) rfl ?_
  refine r_bld hX hB dL_law_760 (q := 761) rfl (e_add rfl rfl) (by omega) (by omega) ?_
  refine r_callV hX dL_law_761 (q := 764) rfl (c_X5_kindFor _ Γ _ μ 99999 hC hV (by decide) _ _) kL_97 mlX5_kindFor mvX5_kindFor rfl rfl rfl ⟨by decide, rfl⟩ ⟨by decide, by decide⟩ (Nat.le_of_ble_eq_true rfl) (kpI (fun vA GA pA => ?_))
  have hMa := co_mr pA hM
  refine r_aload2 hX dL_law_764 (q := 765) rfl ?_
  refine r_aload0 hX dL_law_765 (q := 766) rfl ?_
  refine r_iload3 hX dL_law_766 (q := 767) rfl ?_
  refine r_iconst hX dL_law_767 (q := 768) rfl (v := nI 1) (by decide +kernel) ?_
  refine r_iadd hX dL_law_768 (q := 769) rfl ?_
  refine r_bld hX hB dL_law_769 (q := 770) rfl (e_add rfl rfl) (by omega) (by omega) ?_
  refine r_aload0 hX dL_law_770 (q := 771) rfl ?_
  refine r_iload3 hX dL_law_771 (q := 772) rfl ?_
  refine r_iconst hX dL_law_772 (q := 773) rfl (v := nI 2) (by decide +kernel) ?_
  refine r_iadd hX dL_law_773 (q := 774) rfl ?_
  refine r_bld hX hB dL_law_774 (q := 775) rfl (e_add rfl rfl) (by omega) (by omega) ?_
  refine r_callV hX dL_law_775 (q := 778) rfl (c_X6_kindFor _ Γ _ μ hMa 99999 hV (by decide) _ _) kL_100 mlX6_kindFor mvX6_kindFor rfl rfl rfl ⟨by decide, rfl⟩ ⟨by decide, by decide⟩ (Nat.le_of_ble_eq_true rfl) (kpI (fun vC GC pC => ?_))
  obtain ⟨hEq, hLR⟩ := lr_o h pA pC (iv_best hV hSp _ _ 0)
  first | refine r_icmpN_eq hX dL_law_778 (q := 781) rfl (tgt := 1379) (by decide) (by first | decide | omega) (by first | decide | omega) (fun h778 => ?_) (fun h778 => ?_) | refine r_icmp_eq hX dL_law_778 (q := 781) rfl (tgt := 1379) (by decide) (fun h778 => ?_) (fun h778 => ?_)
  ·
    exact K _ hLR
  ·
    exact absurd hEq h778 --end

set_option maxRecDepth 100000 in
set_option maxHeartbeats 4000000 in
theorem cs_foodFor {X : XT} {Γ : Gam} (hX : OKX X Γ cL_law RL 12 438) (b M : Nat) (xs : Nat → Int32) (hB : SB X b M xs) (hM : M ≤ 3072) (i : Nat) (hi : i + 6 ≤ M) (G : GG) (hG : LR G) (K : ∀ G', LR G' → WP X Γ 1379 [some (.ref b), some (.ref (gad Γ 30)), some (.ref (gad Γ 47)), some (.int (nI i))] [] G') : WP X Γ 783 [some (.ref b), some (.ref (gad Γ 30)), some (.ref (gad Γ 47)), some (.int (nI i))] [] G := by
  obtain ⟨μ, κ, B, Z, N, T, n, h⟩ := id hG
  obtain ⟨hC, hM, hV, hSp⟩ := id h.1
  obtain ⟨hS, hSm, hZ⟩ := id h.2.2.1
  obtain ⟨t1, t2, t3, t4⟩ := id h.2.2.2.1
  refine r_aload1 hX dL_law_783 (q := 784) rfl ?_
  refine r_aload0 hX dL_law_784 (q := 785) rfl ?_
  refine r_iload3 hX dL_law_785 (q := 786) rfl ?_
  refine r_iconst hX dL_law_786 (q := 787) rfl (v := nI 1) (by decide +kernel) ?_
  refine r_iadd hX dL_law_787 (q := 788) rfl ?_
  refine r_bld hX hB dL_law_788 (q := 789) rfl (e_add rfl rfl) (by omega) (by omega) ?_
  refine r_aload0 hX dL_law_789 (q := 790) rfl ?_
  refine r_iload3 hX dL_law_790 (q := 791) rfl ?_
  refine r_iconst hX dL_law_791 (q := 792) rfl (v := nI 2) (by decide +kernel) ?_
  refine r_iadd hX dL_law_792 (q := 793) rfl ?_
  refine r_bld hX hB dL_law_793 (q := 794) rfl (e_add rfl rfl) (by omega) (by omega) ?_
  refine r_callV hX dL_law_794 (q := 797) rfl (c_X5_foodFor _ Γ _ μ 99999 hC hV (by decide) _ _) kL_101 mlX5_foodFor mvX5_foodFor rfl rfl rfl ⟨by decide, rfl⟩ ⟨by decide, by decide⟩ (Nat.le_of_ble_eq_true rfl) (kpI (fun vA GA pA => ?_))
  have hMa := co_mr pA hM
  refine r_aload2 hX dL_law_797 (q := 798) rfl ?_
  refine r_aload0 hX dL_law_798 (q := 799) rfl ?_
  refine r_iload3 hX dL_law_799 (q := 800) rfl ?_
  refine r_iconst hX dL_law_800 (q := 801) rfl (v := nI 1) (by decide +kernel) ?_
  refine r_iadd hX dL_law_801 (q := 802) rfl ?_
  refine r_bld hX hB dL_law_802 (q := 803) rfl (e_add rfl rfl) (by omega) (by omega) ?_
  refine r_aload0 hX dL_law_803 (q := 804) rfl ?_
  refine r_iload3 hX dL_law_804 (q := 805) rfl ?_
  refine r_iconst hX dL_law_805 (q := 806) rfl (v := nI 2) (by decide +kernel) ?_
  refine r_iadd hX dL_law_806 (q := 807) rfl ?_
  refine r_bld hX hB dL_law_807 (q := 808) rfl (e_add rfl rfl) (by omega) (by omega) ?_
  refine r_callV hX dL_law_808 (q := 811) rfl (c_X6_foodFor _ Γ _ μ hMa 99999 hV (by decide) _ _) kL_104 mlX6_foodFor mvX6_foodFor rfl rfl rfl ⟨by decide, rfl⟩ ⟨by decide, by decide⟩ (Nat.le_of_ble_eq_true rfl) (kpI (fun vC GC pC => ?_))
  obtain ⟨hEq, hLR⟩ := lr_o h pA pC (iv_best hV hSp _ _ 1)
  first | refine r_icmpN_eq hX dL_law_811 (q := 814) rfl (tgt := 1379) (by decide) (by first | decide | omega) (by first | decide | omega) (fun h811 => ?_) (fun h811 => ?_) | refine r_icmp_eq hX dL_law_811 (q := 814) rfl (tgt := 1379) (by decide) (fun h811 => ?_) (fun h811 => ?_)
  ·
    exact K _ hLR
  ·
    exact absurd hEq h811 --end
