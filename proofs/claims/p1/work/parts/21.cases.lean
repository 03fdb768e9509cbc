theorem dL_law_546 : decode cL_law 546 = .ok (.aload_n 1, 1) := by decide +kernel
theorem dL_law_547 : decode cL_law 547 = .ok (.aload_n 0, 1) := by decide +kernel
theorem dL_law_548 : decode cL_law 548 = .ok (.iload_n 3, 1) := by decide +kernel
theorem dL_law_549 : decode cL_law 549 = .ok (.iconst 1, 1) := by decide +kernel
theorem dL_law_550 : decode cL_law 550 = .ok (.iadd, 1) := by decide +kernel
theorem dL_law_551 : decode cL_law 551 = .ok (.iaload, 1) := by decide +kernel
theorem dL_law_552 : decode cL_law 552 = .ok (.invokevirtual 49, 3) := by decide +kernel
theorem dL_law_555 : decode cL_law 555 = .ok (.aload_n 2, 1) := by decide +kernel
theorem dL_law_556 : decode cL_law 556 = .ok (.aload_n 0, 1) := by decide +kernel
theorem dL_law_557 : decode cL_law 557 = .ok (.iload_n 3, 1) := by decide +kernel
theorem dL_law_558 : decode cL_law 558 = .ok (.iconst 1, 1) := by decide +kernel
theorem dL_law_559 : decode cL_law 559 = .ok (.iadd, 1) := by decide +kernel
theorem dL_law_560 : decode cL_law 560 = .ok (.iaload, 1) := by decide +kernel
theorem dL_law_561 : decode cL_law 561 = .ok (.invokevirtual 52, 3) := by decide +kernel
theorem dL_law_564 : decode cL_law 564 = .ok (.if_icmp .eq 1401, 3) := by decide +kernel
theorem dL_law_569 : decode cL_law 569 = .ok (.aload_n 1, 1) := by decide +kernel
theorem dL_law_570 : decode cL_law 570 = .ok (.aload_n 0, 1) := by decide +kernel
theorem dL_law_571 : decode cL_law 571 = .ok (.iload_n 3, 1) := by decide +kernel
theorem dL_law_572 : decode cL_law 572 = .ok (.iconst 1, 1) := by decide +kernel
theorem dL_law_573 : decode cL_law 573 = .ok (.iadd, 1) := by decide +kernel
theorem dL_law_574 : decode cL_law 574 = .ok (.iaload, 1) := by decide +kernel
theorem dL_law_575 : decode cL_law 575 = .ok (.invokevirtual 53, 3) := by decide +kernel
theorem dL_law_578 : decode cL_law 578 = .ok (.aload_n 2, 1) := by decide +kernel
theorem dL_law_579 : decode cL_law 579 = .ok (.aload_n 0, 1) := by decide +kernel
theorem dL_law_580 : decode cL_law 580 = .ok (.iload_n 3, 1) := by decide +kernel
theorem dL_law_581 : decode cL_law 581 = .ok (.iconst 1, 1) := by decide +kernel
theorem dL_law_582 : decode cL_law 582 = .ok (.iadd, 1) := by decide +kernel
theorem dL_law_583 : decode cL_law 583 = .ok (.iaload, 1) := by decide +kernel
theorem dL_law_584 : decode cL_law 584 = .ok (.invokevirtual 56, 3) := by decide +kernel
theorem dL_law_587 : decode cL_law 587 = .ok (.if_icmp .eq 1378, 3) := by decide +kernel
theorem dL_law_592 : decode cL_law 592 = .ok (.aload_n 1, 1) := by decide +kernel
theorem dL_law_593 : decode cL_law 593 = .ok (.aload_n 0, 1) := by decide +kernel
theorem dL_law_594 : decode cL_law 594 = .ok (.iload_n 3, 1) := by decide +kernel
theorem dL_law_595 : decode cL_law 595 = .ok (.iconst 1, 1) := by decide +kernel
theorem dL_law_596 : decode cL_law 596 = .ok (.iadd, 1) := by decide +kernel
theorem dL_law_597 : decode cL_law 597 = .ok (.iaload, 1) := by decide +kernel
theorem dL_law_598 : decode cL_law 598 = .ok (.aload_n 0, 1) := by decide +kernel
theorem dL_law_599 : decode cL_law 599 = .ok (.iload_n 3, 1) := by decide +kernel
theorem dL_law_600 : decode cL_law 600 = .ok (.iconst 2, 1) := by decide +kernel
theorem dL_law_601 : decode cL_law 601 = .ok (.iadd, 1) := by decide +kernel
theorem dL_law_602 : decode cL_law 602 = .ok (.iaload, 1) := by decide +kernel
theorem dL_law_603 : decode cL_law 603 = .ok (.aload_n 0, 1) := by decide +kernel
theorem dL_law_604 : decode cL_law 604 = .ok (.iload_n 3, 1) := by decide +kernel
theorem dL_law_605 : decode cL_law 605 = .ok (.iconst 3, 1) := by decide +kernel
theorem dL_law_606 : decode cL_law 606 = .ok (.iadd, 1) := by decide +kernel
theorem dL_law_607 : decode cL_law 607 = .ok (.iaload, 1) := by decide +kernel
theorem dL_law_608 : decode cL_law 608 = .ok (.invokevirtual 57, 3) := by decide +kernel
theorem dL_law_611 : decode cL_law 611 = .ok (.aload_n 2, 1) := by decide +kernel
theorem dL_law_612 : decode cL_law 612 = .ok (.aload_n 0, 1) := by decide +kernel
theorem dL_law_613 : decode cL_law 613 = .ok (.iload_n 3, 1) := by decide +kernel
theorem dL_law_614 : decode cL_law 614 = .ok (.iconst 1, 1) := by decide +kernel
theorem dL_law_615 : decode cL_law 615 = .ok (.iadd, 1) := by decide +kernel
theorem dL_law_616 : decode cL_law 616 = .ok (.iaload, 1) := by decide +kernel
theorem dL_law_617 : decode cL_law 617 = .ok (.aload_n 0, 1) := by decide +kernel
theorem dL_law_618 : decode cL_law 618 = .ok (.iload_n 3, 1) := by decide +kernel
theorem dL_law_619 : decode cL_law 619 = .ok (.iconst 2, 1) := by decide +kernel
theorem dL_law_620 : decode cL_law 620 = .ok (.iadd, 1) := by decide +kernel
theorem dL_law_621 : decode cL_law 621 = .ok (.iaload, 1) := by decide +kernel
theorem dL_law_622 : decode cL_law 622 = .ok (.aload_n 0, 1) := by decide +kernel
theorem dL_law_623 : decode cL_law 623 = .ok (.iload_n 3, 1) := by decide +kernel
theorem dL_law_624 : decode cL_law 624 = .ok (.iconst 3, 1) := by decide +kernel
theorem dL_law_625 : decode cL_law 625 = .ok (.iadd, 1) := by decide +kernel
theorem dL_law_626 : decode cL_law 626 = .ok (.iaload, 1) := by decide +kernel
theorem dL_law_627 : decode cL_law 627 = .ok (.invokevirtual 61, 3) := by decide +kernel
theorem dL_law_630 : decode cL_law 630 = .ok (.if_icmp .eq 1335, 3) := by decide +kernel
theorem dL_law_635 : decode cL_law 635 = .ok (.aload_n 1, 1) := by decide +kernel
theorem dL_law_636 : decode cL_law 636 = .ok (.aload_n 0, 1) := by decide +kernel
theorem dL_law_637 : decode cL_law 637 = .ok (.iload_n 3, 1) := by decide +kernel
theorem dL_law_638 : decode cL_law 638 = .ok (.iconst 1, 1) := by decide +kernel
theorem dL_law_639 : decode cL_law 639 = .ok (.iadd, 1) := by decide +kernel
theorem dL_law_640 : decode cL_law 640 = .ok (.iaload, 1) := by decide +kernel
theorem dL_law_641 : decode cL_law 641 = .ok (.aload_n 0, 1) := by decide +kernel
theorem dL_law_642 : decode cL_law 642 = .ok (.iload_n 3, 1) := by decide +kernel
theorem dL_law_643 : decode cL_law 643 = .ok (.iconst 2, 1) := by decide +kernel
theorem dL_law_644 : decode cL_law 644 = .ok (.iadd, 1) := by decide +kernel
theorem dL_law_645 : decode cL_law 645 = .ok (.iaload, 1) := by decide +kernel
theorem dL_law_646 : decode cL_law 646 = .ok (.invokevirtual 62, 3) := by decide +kernel
theorem dL_law_649 : decode cL_law 649 = .ok (.aload_n 2, 1) := by decide +kernel
theorem dL_law_650 : decode cL_law 650 = .ok (.aload_n 0, 1) := by decide +kernel
theorem dL_law_651 : decode cL_law 651 = .ok (.iload_n 3, 1) := by decide +kernel
theorem dL_law_652 : decode cL_law 652 = .ok (.iconst 1, 1) := by decide +kernel
theorem dL_law_653 : decode cL_law 653 = .ok (.iadd, 1) := by decide +kernel
theorem dL_law_654 : decode cL_law 654 = .ok (.iaload, 1) := by decide +kernel
theorem dL_law_655 : decode cL_law 655 = .ok (.aload_n 0, 1) := by decide +kernel
theorem dL_law_656 : decode cL_law 656 = .ok (.iload_n 3, 1) := by decide +kernel
theorem dL_law_657 : decode cL_law 657 = .ok (.iconst 2, 1) := by decide +kernel
theorem dL_law_658 : decode cL_law 658 = .ok (.iadd, 1) := by decide +kernel
theorem dL_law_659 : decode cL_law 659 = .ok (.iaload, 1) := by decide +kernel
theorem dL_law_660 : decode cL_law 660 = .ok (.invokevirtual 65, 3) := by decide +kernel
theorem dL_law_663 : decode cL_law 663 = .ok (.if_icmp .eq 1302, 3) := by decide +kernel
theorem dL_law_668 : decode cL_law 668 = .ok (.aload_n 1, 1) := by decide +kernel
theorem dL_law_669 : decode cL_law 669 = .ok (.aload_n 0, 1) := by decide +kernel
theorem dL_law_670 : decode cL_law 670 = .ok (.iload_n 3, 1) := by decide +kernel
theorem dL_law_671 : decode cL_law 671 = .ok (.iconst 1, 1) := by decide +kernel
theorem dL_law_672 : decode cL_law 672 = .ok (.iadd, 1) := by decide +kernel
theorem dL_law_673 : decode cL_law 673 = .ok (.iaload, 1) := by decide +kernel
theorem dL_law_674 : decode cL_law 674 = .ok (.invokevirtual 66, 3) := by decide +kernel
theorem dL_law_677 : decode cL_law 677 = .ok (.aload_n 2, 1) := by decide +kernel
theorem dL_law_678 : decode cL_law 678 = .ok (.aload_n 0, 1) := by decide +kernel
theorem dL_law_679 : decode cL_law 679 = .ok (.iload_n 3, 1) := by decide +kernel
theorem dL_law_680 : decode cL_law 680 = .ok (.iconst 1, 1) := by decide +kernel
theorem dL_law_681 : decode cL_law 681 = .ok (.iadd, 1) := by decide +kernel
theorem dL_law_682 : decode cL_law 682 = .ok (.iaload, 1) := by decide +kernel
theorem dL_law_683 : decode cL_law 683 = .ok (.invokevirtual 69, 3) := by decide +kernel
theorem dL_law_686 : decode cL_law 686 = .ok (.if_icmp .eq 1279, 3) := by decide +kernel
theorem dL_law_691 : decode cL_law 691 = .ok (.aload_n 1, 1) := by decide +kernel
theorem dL_law_692 : decode cL_law 692 = .ok (.aload_n 0, 1) := by decide +kernel
theorem dL_law_693 : decode cL_law 693 = .ok (.iload_n 3, 1) := by decide +kernel
theorem dL_law_694 : decode cL_law 694 = .ok (.iconst 1, 1) := by decide +kernel
theorem dL_law_695 : decode cL_law 695 = .ok (.iadd, 1) := by decide +kernel
theorem dL_law_696 : decode cL_law 696 = .ok (.iaload, 1) := by decide +kernel
theorem dL_law_697 : decode cL_law 697 = .ok (.invokevirtual 70, 3) := by decide +kernel
theorem dL_law_700 : decode cL_law 700 = .ok (.aload_n 2, 1) := by decide +kernel
theorem dL_law_701 : decode cL_law 701 = .ok (.aload_n 0, 1) := by decide +kernel
theorem dL_law_702 : decode cL_law 702 = .ok (.iload_n 3, 1) := by decide +kernel
theorem dL_law_703 : decode cL_law 703 = .ok (.iconst 1, 1) := by decide +kernel
theorem dL_law_704 : decode cL_law 704 = .ok (.iadd, 1) := by decide +kernel
theorem dL_law_705 : decode cL_law 705 = .ok (.iaload, 1) := by decide +kernel
theorem dL_law_706 : decode cL_law 706 = .ok (.invokevirtual 73, 3) := by decide +kernel
theorem dL_law_709 : decode cL_law 709 = .ok (.if_icmp .eq 1256, 3) := by decide +kernel
theorem dL_law_714 : decode cL_law 714 = .ok (.aload_n 1, 1) := by decide +kernel
theorem dL_law_715 : decode cL_law 715 = .ok (.aload_n 0, 1) := by decide +kernel
theorem dL_law_716 : decode cL_law 716 = .ok (.iload_n 3, 1) := by decide +kernel
theorem dL_law_717 : decode cL_law 717 = .ok (.iconst 1, 1) := by decide +kernel
theorem dL_law_718 : decode cL_law 718 = .ok (.iadd, 1) := by decide +kernel
theorem dL_law_719 : decode cL_law 719 = .ok (.iaload, 1) := by decide +kernel
theorem dL_law_720 : decode cL_law 720 = .ok (.aload_n 0, 1) := by decide +kernel
theorem dL_law_721 : decode cL_law 721 = .ok (.iload_n 3, 1) := by decide +kernel
theorem dL_law_722 : decode cL_law 722 = .ok (.iconst 2, 1) := by decide +kernel
theorem dL_law_723 : decode cL_law 723 = .ok (.iadd, 1) := by decide +kernel
theorem dL_law_724 : decode cL_law 724 = .ok (.iaload, 1) := by decide +kernel
theorem dL_law_725 : decode cL_law 725 = .ok (.invokevirtual 74, 3) := by decide +kernel
theorem dL_law_728 : decode cL_law 728 = .ok (.aload_n 2, 1) := by decide +kernel
theorem dL_law_729 : decode cL_law 729 = .ok (.aload_n 0, 1) := by decide +kernel
theorem dL_law_730 : decode cL_law 730 = .ok (.iload_n 3, 1) := by decide +kernel
theorem dL_law_731 : decode cL_law 731 = .ok (.iconst 1, 1) := by decide +kernel
theorem dL_law_732 : decode cL_law 732 = .ok (.iadd, 1) := by decide +kernel
theorem dL_law_733 : decode cL_law 733 = .ok (.iaload, 1) := by decide +kernel
theorem dL_law_734 : decode cL_law 734 = .ok (.aload_n 0, 1) := by decide +kernel
theorem dL_law_735 : decode cL_law 735 = .ok (.iload_n 3, 1) := by decide +kernel
theorem dL_law_736 : decode cL_law 736 = .ok (.iconst 2, 1) := by decide +kernel
theorem dL_law_737 : decode cL_law 737 = .ok (.iadd, 1) := by decide +kernel
theorem dL_law_738 : decode cL_law 738 = .ok (.iaload, 1) := by decide +kernel
theorem dL_law_739 : decode cL_law 739 = .ok (.invokevirtual 77, 3) := by decide +kernel
theorem dL_law_742 : decode cL_law 742 = .ok (.if_icmp .eq 1223, 3) := by decide +kernel
theorem dL_law_747 : decode cL_law 747 = .ok (.aload_n 1, 1) := by decide +kernel
theorem dL_law_748 : decode cL_law 748 = .ok (.invokevirtual 78, 3) := by decide +kernel
theorem dL_law_751 : decode cL_law 751 = .ok (.aload_n 2, 1) := by decide +kernel
theorem dL_law_752 : decode cL_law 752 = .ok (.invokevirtual 81, 3) := by decide +kernel
theorem dL_law_755 : decode cL_law 755 = .ok (.if_icmp .eq 1210, 3) := by decide +kernel
set_option maxHeartbeats 4000000 in
set_option maxRecDepth 100000 in
theorem lc_8 {p : Program} {e : Env} {s : State} {m : MethodId} {below : List Frame} {meth : Method} {c : Code} {l : Launch} {b : Nat} {xs : Nat → Int32} {D : va_G} {qx qm : Nat → Nat} {cx cm : Nat → ClassId} {H : Heap} {locs : List Loc} {ls : Array Slot} (C : zLaw p s m meth c b xs D qx qm cx cm) (hPx : va_P D vwCl (zw 81 qx (zXd qx cx) zXI0 zXR0 zXJ0) H) (hDx : va_D (zLA s) (zw 81 qx (zXd qx cx) zXI0 zXR0 zXJ0)) (hPm : va_P D vwCl (zw 25 qm (zMd qm cm) zMI0 zMR0 zMJ0) H) (hDm : va_D (zLA s) (zw 25 qm (zMd qm cm) zMI0 zMR0 zMJ0)) (hS : va_S (zLA s) s.heap H locs) (hl : lv_has ls 4 [(0, .ref b), (1, .ref (qx 0)), (2, .ref (qm 0)), (3, .int (nI 0))]) : W p l e room_1 s m #[Value.ref b] below meth c H locs 600000 7302250 (lw_Z below #[Value.ref b] s) (F0 m 546 ls []) := by
  have C0 := C
  obtain ⟨⟨hx, hb, hr, hml, hown, hts, hX, hbl, hlocks, hgv⟩, hKx, hKm, hdis⟩ := C
  have hown : s.vm.findClass "ReceiptLeftLaw" = some m.cls := hown
  have ht : ∀ w ∈ zT, w.before #[Value.ref b] s = true := fun w h => hts w (zT_lw w h)
  have hA : ∀ a, s.heap.size ≤ a → zLA s a := fun _ h => h
  have hbA : ¬ zLA s b := Nat.not_le.mpr hbl
  refine lv_aload_n hx hb dL_law_546 rfl (lv_at hl 1 rfl) ?_
  refine lv_aload_n hx hb dL_law_547 rfl (lv_at hl 0 rfl) ?_
  refine lv_iload_n hx hb dL_law_548 rfl (lv_at hl 3 rfl) ?_
  refine lv_iconst (v := nI 1) hx hb dL_law_549 (by decide +kernel) ?_
  refine lv_iadd hx hb dL_law_550 ?_
  refine z_eqi (y := nI 1) (by decide +kernel) ?_
  refine va_sld hx hb hX hbl hbA hS (vp_in_nI (by decide) (by decide)) dL_law_551 ?_
  refine z_eqi (y := xs 1) rfl ?_
  refine z_callVi (k := 0) (As := [.int (xs 1)]) (rest := []) hx hb hml hown ht (kX10_price l D qx cx (xs 1)) hw_3_111 hmX10_price ⟨rfl, rfl⟩ (na := 1) rfl (by decide +kernel) ⟨Nat.le_of_ble_eq_true rfl, Nat.le_of_ble_eq_true rfl⟩ (by decide) rfl rfl hKx hPx hDx hS hA hl.1 rfl (Nat.le_of_ble_eq_true rfl) ⟨Nat.le_of_ble_eq_true rfl, Nat.le_of_ble_eq_true rfl⟩ dL_law_552 (fun r_x I_x R_x J_x H1 locs hp_x hPx hDx hS hz_x hk_x => ?_)
  have hPm := z_frame (q := qx) (n := 81) hPm hdis hk_x
  generalize H1 = H at hPm hPx hS ⊢
  refine lv_aload_n hx hb dL_law_555 rfl (lv_at hl 2 rfl) ?_
  refine lv_aload_n hx hb dL_law_556 rfl (lv_at hl 0 rfl) ?_
  refine lv_iload_n hx hb dL_law_557 rfl (lv_at hl 3 rfl) ?_
  refine lv_iconst (v := nI 1) hx hb dL_law_558 (by decide +kernel) ?_
  refine lv_iadd hx hb dL_law_559 ?_
  refine z_eqi (y := nI 1) (by decide +kernel) ?_
  refine va_sld hx hb hX hbl hbA hS (vp_in_nI (by decide) (by decide)) dL_law_560 ?_
  refine z_eqi (y := xs 1) rfl ?_
  refine z_callVi (k := 0) (As := [.int (xs 1)]) (rest := [.int (r_x)]) hx hb hml hown ht (kX11_price l D qm cm (xs 1)) hw_7_22 hmX11_price ⟨rfl, rfl⟩ (na := 1) rfl (by decide +kernel) ⟨Nat.le_of_ble_eq_true rfl, Nat.le_of_ble_eq_true rfl⟩ (by decide) rfl rfl hKm hPm hDm hS hA hl.1 rfl (Nat.le_of_ble_eq_true rfl) ⟨Nat.le_of_ble_eq_true rfl, Nat.le_of_ble_eq_true rfl⟩ dL_law_561 (fun r_m I_m R_m J_m H1 locs hp_m hPm hDm hS hz_m hk_m => ?_)
  have heq : r_x = r_m := Eq.trans hp_x (Eq.symm hp_m)
  refine lv_icmp_eq (tgt := 1965) hx hb dL_law_564 (by decide) (fun _ => ?_) (fun c_0 => absurd heq c_0)
  exact lc_end C0 hS (lv_sub hl [0, 3] rfl)
set_option maxHeartbeats 4000000 in
set_option maxRecDepth 100000 in
theorem lc_9 {p : Program} {e : Env} {s : State} {m : MethodId} {below : List Frame} {meth : Method} {c : Code} {l : Launch} {b : Nat} {xs : Nat → Int32} {D : va_G} {qx qm : Nat → Nat} {cx cm : Nat → ClassId} {H : Heap} {locs : List Loc} {ls : Array Slot} (C : zLaw p s m meth c b xs D qx qm cx cm) (hPx : va_P D vwCl (zw 81 qx (zXd qx cx) zXI0 zXR0 zXJ0) H) (hDx : va_D (zLA s) (zw 81 qx (zXd qx cx) zXI0 zXR0 zXJ0)) (hPm : va_P D vwCl (zw 25 qm (zMd qm cm) zMI0 zMR0 zMJ0) H) (hDm : va_D (zLA s) (zw 25 qm (zMd qm cm) zMI0 zMR0 zMJ0)) (hS : va_S (zLA s) s.heap H locs) (hl : lv_has ls 4 [(0, .ref b), (1, .ref (qx 0)), (2, .ref (qm 0)), (3, .int (nI 0))]) : W p l e room_1 s m #[Value.ref b] below meth c H locs 600000 7302250 (lw_Z below #[Value.ref b] s) (F0 m 569 ls []) := by
  have C0 := C
  obtain ⟨⟨hx, hb, hr, hml, hown, hts, hX, hbl, hlocks, hgv⟩, hKx, hKm, hdis⟩ := C
  have hown : s.vm.findClass "ReceiptLeftLaw" = some m.cls := hown
  have ht : ∀ w ∈ zT, w.before #[Value.ref b] s = true := fun w h => hts w (zT_lw w h)
  have hA : ∀ a, s.heap.size ≤ a → zLA s a := fun _ h => h
  have hbA : ¬ zLA s b := Nat.not_le.mpr hbl
  refine lv_aload_n hx hb dL_law_569 rfl (lv_at hl 1 rfl) ?_
  refine lv_aload_n hx hb dL_law_570 rfl (lv_at hl 0 rfl) ?_
  refine lv_iload_n hx hb dL_law_571 rfl (lv_at hl 3 rfl) ?_
  refine lv_iconst (v := nI 1) hx hb dL_law_572 (by decide +kernel) ?_
  refine lv_iadd hx hb dL_law_573 ?_
  refine z_eqi (y := nI 1) (by decide +kernel) ?_
  refine va_sld hx hb hX hbl hbA hS (vp_in_nI (by decide) (by decide)) dL_law_574 ?_
  refine z_eqi (y := xs 1) rfl ?_
  refine z_callVi (k := 0) (As := [.int (xs 1)]) (rest := []) hx hb hml hown ht (kX10_net l D qx cx (xs 1)) hw_3_124 hmX10_net ⟨rfl, rfl⟩ (na := 1) rfl (by decide +kernel) ⟨Nat.le_of_ble_eq_true rfl, Nat.le_of_ble_eq_true rfl⟩ (by decide) rfl rfl hKx hPx hDx hS hA hl.1 rfl (Nat.le_of_ble_eq_true rfl) ⟨Nat.le_of_ble_eq_true rfl, Nat.le_of_ble_eq_true rfl⟩ dL_law_575 (fun r_x I_x R_x J_x H1 locs hp_x hPx hDx hS hz_x hk_x => ?_)
  have hPm := z_frame (q := qx) (n := 81) hPm hdis hk_x
  generalize H1 = H at hPm hPx hS ⊢
  refine lv_aload_n hx hb dL_law_578 rfl (lv_at hl 2 rfl) ?_
  refine lv_aload_n hx hb dL_law_579 rfl (lv_at hl 0 rfl) ?_
  refine lv_iload_n hx hb dL_law_580 rfl (lv_at hl 3 rfl) ?_
  refine lv_iconst (v := nI 1) hx hb dL_law_581 (by decide +kernel) ?_
  refine lv_iadd hx hb dL_law_582 ?_
  refine z_eqi (y := nI 1) (by decide +kernel) ?_
  refine va_sld hx hb hX hbl hbA hS (vp_in_nI (by decide) (by decide)) dL_law_583 ?_
  refine z_eqi (y := xs 1) rfl ?_
  refine z_callVi (k := 0) (As := [.int (xs 1)]) (rest := [.int (r_x)]) hx hb hml hown ht (kX11_net l D qm cm (xs 1)) hw_7_26 hmX11_net ⟨rfl, rfl⟩ (na := 1) rfl (by decide +kernel) ⟨Nat.le_of_ble_eq_true rfl, Nat.le_of_ble_eq_true rfl⟩ (by decide) rfl rfl hKm hPm hDm hS hA hl.1 rfl (Nat.le_of_ble_eq_true rfl) ⟨Nat.le_of_ble_eq_true rfl, Nat.le_of_ble_eq_true rfl⟩ dL_law_584 (fun r_m I_m R_m J_m H1 locs hp_m hPm hDm hS hz_m hk_m => ?_)
  have heq : r_x = r_m := Eq.trans hp_x (Eq.symm hp_m)
  refine lv_icmp_eq (tgt := 1965) hx hb dL_law_587 (by decide) (fun _ => ?_) (fun c_0 => absurd heq c_0)
  exact lc_end C0 hS (lv_sub hl [0, 3] rfl)
set_option maxHeartbeats 4000000 in
set_option maxRecDepth 100000 in
theorem lc_10 {p : Program} {e : Env} {s : State} {m : MethodId} {below : List Frame} {meth : Method} {c : Code} {l : Launch} {b : Nat} {xs : Nat → Int32} {D : va_G} {qx qm : Nat → Nat} {cx cm : Nat → ClassId} {H : Heap} {locs : List Loc} {ls : Array Slot} (C : zLaw p s m meth c b xs D qx qm cx cm) (hPx : va_P D vwCl (zw 81 qx (zXd qx cx) zXI0 zXR0 zXJ0) H) (hDx : va_D (zLA s) (zw 81 qx (zXd qx cx) zXI0 zXR0 zXJ0)) (hPm : va_P D vwCl (zw 25 qm (zMd qm cm) zMI0 zMR0 zMJ0) H) (hDm : va_D (zLA s) (zw 25 qm (zMd qm cm) zMI0 zMR0 zMJ0)) (hS : va_S (zLA s) s.heap H locs) (hl : lv_has ls 4 [(0, .ref b), (1, .ref (qx 0)), (2, .ref (qm 0)), (3, .int (nI 0))]) : W p l e room_1 s m #[Value.ref b] below meth c H locs 600000 7302250 (lw_Z below #[Value.ref b] s) (F0 m 592 ls []) := by
  have C0 := C
  obtain ⟨⟨hx, hb, hr, hml, hown, hts, hX, hbl, hlocks, hgv⟩, hKx, hKm, hdis⟩ := C
  have hown : s.vm.findClass "ReceiptLeftLaw" = some m.cls := hown
  have ht : ∀ w ∈ zT, w.before #[Value.ref b] s = true := fun w h => hts w (zT_lw w h)
  have hA : ∀ a, s.heap.size ≤ a → zLA s a := fun _ h => h
  have hbA : ¬ zLA s b := Nat.not_le.mpr hbl
  refine lv_aload_n hx hb dL_law_592 rfl (lv_at hl 1 rfl) ?_
  refine lv_aload_n hx hb dL_law_593 rfl (lv_at hl 0 rfl) ?_
  refine lv_iload_n hx hb dL_law_594 rfl (lv_at hl 3 rfl) ?_
  refine lv_iconst (v := nI 1) hx hb dL_law_595 (by decide +kernel) ?_
  refine lv_iadd hx hb dL_law_596 ?_
  refine z_eqi (y := nI 1) (by decide +kernel) ?_
  refine va_sld hx hb hX hbl hbA hS (vp_in_nI (by decide) (by decide)) dL_law_597 ?_
  refine z_eqi (y := xs 1) rfl ?_
  refine lv_aload_n hx hb dL_law_598 rfl (lv_at hl 0 rfl) ?_
  refine lv_iload_n hx hb dL_law_599 rfl (lv_at hl 3 rfl) ?_
  refine lv_iconst (v := nI 2) hx hb dL_law_600 (by decide +kernel) ?_
  refine lv_iadd hx hb dL_law_601 ?_
  refine z_eqi (y := nI 2) (by decide +kernel) ?_
  refine va_sld hx hb hX hbl hbA hS (vp_in_nI (by decide) (by decide)) dL_law_602 ?_
  refine z_eqi (y := xs 2) rfl ?_
  refine lv_aload_n hx hb dL_law_603 rfl (lv_at hl 0 rfl) ?_
  refine lv_iload_n hx hb dL_law_604 rfl (lv_at hl 3 rfl) ?_
  refine lv_iconst (v := nI 3) hx hb dL_law_605 (by decide +kernel) ?_
  refine lv_iadd hx hb dL_law_606 ?_
  refine z_eqi (y := nI 3) (by decide +kernel) ?_
  refine va_sld hx hb hX hbl hbA hS (vp_in_nI (by decide) (by decide)) dL_law_607 ?_
  refine z_eqi (y := xs 3) rfl ?_
  refine z_callVi (k := 0) (As := [.int (xs 1), .int (xs 2), .int (xs 3)]) (rest := []) hx hb hml hown ht (kX10_steal l D qx cx (xs 1) (xs 2) (xs 3)) hw_3_140 hmX10_steal ⟨rfl, rfl⟩ (na := 3) rfl (by decide +kernel) ⟨Nat.le_of_ble_eq_true rfl, Nat.le_of_ble_eq_true rfl⟩ (by decide) rfl rfl hKx hPx hDx hS hA hl.1 rfl (Nat.le_of_ble_eq_true rfl) ⟨Nat.le_of_ble_eq_true rfl, Nat.le_of_ble_eq_true rfl⟩ dL_law_608 (fun r_x I_x R_x J_x H1 locs hp_x hPx hDx hS hz_x hk_x => ?_)
  have hPm := z_frame (q := qx) (n := 81) hPm hdis hk_x
  generalize H1 = H at hPm hPx hS ⊢
  refine lv_aload_n hx hb dL_law_611 rfl (lv_at hl 2 rfl) ?_
  refine lv_aload_n hx hb dL_law_612 rfl (lv_at hl 0 rfl) ?_
  refine lv_iload_n hx hb dL_law_613 rfl (lv_at hl 3 rfl) ?_
  refine lv_iconst (v := nI 1) hx hb dL_law_614 (by decide +kernel) ?_
  refine lv_iadd hx hb dL_law_615 ?_
  refine z_eqi (y := nI 1) (by decide +kernel) ?_
  refine va_sld hx hb hX hbl hbA hS (vp_in_nI (by decide) (by decide)) dL_law_616 ?_
  refine z_eqi (y := xs 1) rfl ?_
  refine lv_aload_n hx hb dL_law_617 rfl (lv_at hl 0 rfl) ?_
  refine lv_iload_n hx hb dL_law_618 rfl (lv_at hl 3 rfl) ?_
  refine lv_iconst (v := nI 2) hx hb dL_law_619 (by decide +kernel) ?_
  refine lv_iadd hx hb dL_law_620 ?_
  refine z_eqi (y := nI 2) (by decide +kernel) ?_
  refine va_sld hx hb hX hbl hbA hS (vp_in_nI (by decide) (by decide)) dL_law_621 ?_
  refine z_eqi (y := xs 2) rfl ?_
  refine lv_aload_n hx hb dL_law_622 rfl (lv_at hl 0 rfl) ?_
  refine lv_iload_n hx hb dL_law_623 rfl (lv_at hl 3 rfl) ?_
  refine lv_iconst (v := nI 3) hx hb dL_law_624 (by decide +kernel) ?_
  refine lv_iadd hx hb dL_law_625 ?_
  refine z_eqi (y := nI 3) (by decide +kernel) ?_
  refine va_sld hx hb hX hbl hbA hS (vp_in_nI (by decide) (by decide)) dL_law_626 ?_
  refine z_eqi (y := xs 3) rfl ?_
  refine z_callVi (k := 0) (As := [.int (xs 1), .int (xs 2), .int (xs 3)]) (rest := [.int (r_x)]) hx hb hml hown ht (kX11_steal l D qm cm (xs 1) (xs 2) (xs 3)) hw_7_35 hmX11_steal ⟨rfl, rfl⟩ (na := 3) rfl (by decide +kernel) ⟨Nat.le_of_ble_eq_true rfl, Nat.le_of_ble_eq_true rfl⟩ (by decide) rfl rfl hKm hPm hDm hS hA hl.1 rfl (Nat.le_of_ble_eq_true rfl) ⟨Nat.le_of_ble_eq_true rfl, Nat.le_of_ble_eq_true rfl⟩ dL_law_627 (fun r_m I_m R_m J_m H1 locs hp_m hPm hDm hS hz_m hk_m => ?_)
  have heq : r_x = r_m := Eq.trans hp_x (Eq.symm hp_m)
  refine lv_icmp_eq (tgt := 1965) hx hb dL_law_630 (by decide) (fun _ => ?_) (fun c_0 => absurd heq c_0)
  exact lc_end C0 hS (lv_sub hl [0, 3] rfl)
set_option maxHeartbeats 4000000 in
set_option maxRecDepth 100000 in
theorem lc_11 {p : Program} {e : Env} {s : State} {m : MethodId} {below : List Frame} {meth : Method} {c : Code} {l : Launch} {b : Nat} {xs : Nat → Int32} {D : va_G} {qx qm : Nat → Nat} {cx cm : Nat → ClassId} {H : Heap} {locs : List Loc} {ls : Array Slot} (C : zLaw p s m meth c b xs D qx qm cx cm) (hPx : va_P D vwCl (zw 81 qx (zXd qx cx) zXI0 zXR0 zXJ0) H) (hDx : va_D (zLA s) (zw 81 qx (zXd qx cx) zXI0 zXR0 zXJ0)) (hPm : va_P D vwCl (zw 25 qm (zMd qm cm) zMI0 zMR0 zMJ0) H) (hDm : va_D (zLA s) (zw 25 qm (zMd qm cm) zMI0 zMR0 zMJ0)) (hS : va_S (zLA s) s.heap H locs) (hl : lv_has ls 4 [(0, .ref b), (1, .ref (qx 0)), (2, .ref (qm 0)), (3, .int (nI 0))]) : W p l e room_1 s m #[Value.ref b] below meth c H locs 600000 7302250 (lw_Z below #[Value.ref b] s) (F0 m 635 ls []) := by
  have C0 := C
  obtain ⟨⟨hx, hb, hr, hml, hown, hts, hX, hbl, hlocks, hgv⟩, hKx, hKm, hdis⟩ := C
  have hown : s.vm.findClass "ReceiptLeftLaw" = some m.cls := hown
  have ht : ∀ w ∈ zT, w.before #[Value.ref b] s = true := fun w h => hts w (zT_lw w h)
  have hA : ∀ a, s.heap.size ≤ a → zLA s a := fun _ h => h
  have hbA : ¬ zLA s b := Nat.not_le.mpr hbl
  refine lv_aload_n hx hb dL_law_635 rfl (lv_at hl 1 rfl) ?_
  refine lv_aload_n hx hb dL_law_636 rfl (lv_at hl 0 rfl) ?_
  refine lv_iload_n hx hb dL_law_637 rfl (lv_at hl 3 rfl) ?_
  refine lv_iconst (v := nI 1) hx hb dL_law_638 (by decide +kernel) ?_
  refine lv_iadd hx hb dL_law_639 ?_
  refine z_eqi (y := nI 1) (by decide +kernel) ?_
  refine va_sld hx hb hX hbl hbA hS (vp_in_nI (by decide) (by decide)) dL_law_640 ?_
  refine z_eqi (y := xs 1) rfl ?_
  refine lv_aload_n hx hb dL_law_641 rfl (lv_at hl 0 rfl) ?_
  refine lv_iload_n hx hb dL_law_642 rfl (lv_at hl 3 rfl) ?_
  refine lv_iconst (v := nI 2) hx hb dL_law_643 (by decide +kernel) ?_
  refine lv_iadd hx hb dL_law_644 ?_
  refine z_eqi (y := nI 2) (by decide +kernel) ?_
  refine va_sld hx hb hX hbl hbA hS (vp_in_nI (by decide) (by decide)) dL_law_645 ?_
  refine z_eqi (y := xs 2) rfl ?_
  refine z_callVi (k := 0) (As := [.int (xs 1), .int (xs 2)]) (rest := []) hx hb hml hown ht (kX10_sell l D qx cx (xs 1) (xs 2)) hw_3_219 hmX10_sell ⟨rfl, rfl⟩ (na := 2) rfl (by decide +kernel) ⟨Nat.le_of_ble_eq_true rfl, Nat.le_of_ble_eq_true rfl⟩ (by decide) rfl rfl hKx hPx hDx hS hA hl.1 rfl (Nat.le_of_ble_eq_true rfl) ⟨Nat.le_of_ble_eq_true rfl, Nat.le_of_ble_eq_true rfl⟩ dL_law_646 (fun r_x I_x R_x J_x H1 locs hp_x hPx hDx hS hz_x hk_x => ?_)
  have hPm := z_frame (q := qx) (n := 81) hPm hdis hk_x
  generalize H1 = H at hPm hPx hS ⊢
  refine lv_aload_n hx hb dL_law_649 rfl (lv_at hl 2 rfl) ?_
  refine lv_aload_n hx hb dL_law_650 rfl (lv_at hl 0 rfl) ?_
  refine lv_iload_n hx hb dL_law_651 rfl (lv_at hl 3 rfl) ?_
  refine lv_iconst (v := nI 1) hx hb dL_law_652 (by decide +kernel) ?_
  refine lv_iadd hx hb dL_law_653 ?_
  refine z_eqi (y := nI 1) (by decide +kernel) ?_
  refine va_sld hx hb hX hbl hbA hS (vp_in_nI (by decide) (by decide)) dL_law_654 ?_
  refine z_eqi (y := xs 1) rfl ?_
  refine lv_aload_n hx hb dL_law_655 rfl (lv_at hl 0 rfl) ?_
  refine lv_iload_n hx hb dL_law_656 rfl (lv_at hl 3 rfl) ?_
  refine lv_iconst (v := nI 2) hx hb dL_law_657 (by decide +kernel) ?_
  refine lv_iadd hx hb dL_law_658 ?_
  refine z_eqi (y := nI 2) (by decide +kernel) ?_
  refine va_sld hx hb hX hbl hbA hS (vp_in_nI (by decide) (by decide)) dL_law_659 ?_
  refine z_eqi (y := xs 2) rfl ?_
  refine z_callVi (k := 0) (As := [.int (xs 1), .int (xs 2)]) (rest := [.int (r_x)]) hx hb hml hown ht (kX11_sell l D qm cm (xs 1) (xs 2)) hw_7_48 hmX11_sell ⟨rfl, rfl⟩ (na := 2) rfl (by decide +kernel) ⟨Nat.le_of_ble_eq_true rfl, Nat.le_of_ble_eq_true rfl⟩ (by decide) rfl rfl hKm hPm hDm hS hA hl.1 rfl (Nat.le_of_ble_eq_true rfl) ⟨Nat.le_of_ble_eq_true rfl, Nat.le_of_ble_eq_true rfl⟩ dL_law_660 (fun r_m I_m R_m J_m H1 locs hp_m hPm hDm hS hz_m hk_m => ?_)
  have heq : r_x = r_m := Eq.trans hp_x (Eq.symm hp_m)
  refine lv_icmp_eq (tgt := 1965) hx hb dL_law_663 (by decide) (fun _ => ?_) (fun c_0 => absurd heq c_0)
  exact lc_end C0 hS (lv_sub hl [0, 3] rfl)
set_option maxHeartbeats 4000000 in
set_option maxRecDepth 100000 in
theorem lc_12 {p : Program} {e : Env} {s : State} {m : MethodId} {below : List Frame} {meth : Method} {c : Code} {l : Launch} {b : Nat} {xs : Nat → Int32} {D : va_G} {qx qm : Nat → Nat} {cx cm : Nat → ClassId} {H : Heap} {locs : List Loc} {ls : Array Slot} (C : zLaw p s m meth c b xs D qx qm cx cm) (hPx : va_P D vwCl (zw 81 qx (zXd qx cx) zXI0 zXR0 zXJ0) H) (hDx : va_D (zLA s) (zw 81 qx (zXd qx cx) zXI0 zXR0 zXJ0)) (hPm : va_P D vwCl (zw 25 qm (zMd qm cm) zMI0 zMR0 zMJ0) H) (hDm : va_D (zLA s) (zw 25 qm (zMd qm cm) zMI0 zMR0 zMJ0)) (hS : va_S (zLA s) s.heap H locs) (hl : lv_has ls 4 [(0, .ref b), (1, .ref (qx 0)), (2, .ref (qm 0)), (3, .int (nI 0))]) : W p l e room_1 s m #[Value.ref b] below meth c H locs 600000 7302250 (lw_Z below #[Value.ref b] s) (F0 m 668 ls []) := by
  have C0 := C
  obtain ⟨⟨hx, hb, hr, hml, hown, hts, hX, hbl, hlocks, hgv⟩, hKx, hKm, hdis⟩ := C
  have hown : s.vm.findClass "ReceiptLeftLaw" = some m.cls := hown
  have ht : ∀ w ∈ zT, w.before #[Value.ref b] s = true := fun w h => hts w (zT_lw w h)
  have hA : ∀ a, s.heap.size ≤ a → zLA s a := fun _ h => h
  have hbA : ¬ zLA s b := Nat.not_le.mpr hbl
  refine lv_aload_n hx hb dL_law_668 rfl (lv_at hl 1 rfl) ?_
  refine lv_aload_n hx hb dL_law_669 rfl (lv_at hl 0 rfl) ?_
  refine lv_iload_n hx hb dL_law_670 rfl (lv_at hl 3 rfl) ?_
  refine lv_iconst (v := nI 1) hx hb dL_law_671 (by decide +kernel) ?_
  refine lv_iadd hx hb dL_law_672 ?_
  refine z_eqi (y := nI 1) (by decide +kernel) ?_
  refine va_sld hx hb hX hbl hbA hS (vp_in_nI (by decide) (by decide)) dL_law_673 ?_
  refine z_eqi (y := xs 1) rfl ?_
  refine z_callVi (k := 0) (As := [.int (xs 1)]) (rest := []) hx hb hml hown ht (kX10_brings l D qx cx (xs 1)) hw_3_223 hmX10_brings ⟨rfl, rfl⟩ (na := 1) rfl (by decide +kernel) ⟨Nat.le_of_ble_eq_true rfl, Nat.le_of_ble_eq_true rfl⟩ (by decide) rfl rfl hKx hPx hDx hS hA hl.1 rfl (Nat.le_of_ble_eq_true rfl) ⟨Nat.le_of_ble_eq_true rfl, Nat.le_of_ble_eq_true rfl⟩ dL_law_674 (fun r_x I_x R_x J_x H1 locs hp_x hPx hDx hS hz_x hk_x => ?_)
  have hPm := z_frame (q := qx) (n := 81) hPm hdis hk_x
  generalize H1 = H at hPm hPx hS ⊢
  refine lv_aload_n hx hb dL_law_677 rfl (lv_at hl 2 rfl) ?_
  refine lv_aload_n hx hb dL_law_678 rfl (lv_at hl 0 rfl) ?_
  refine lv_iload_n hx hb dL_law_679 rfl (lv_at hl 3 rfl) ?_
  refine lv_iconst (v := nI 1) hx hb dL_law_680 (by decide +kernel) ?_
  refine lv_iadd hx hb dL_law_681 ?_
  refine z_eqi (y := nI 1) (by decide +kernel) ?_
  refine va_sld hx hb hX hbl hbA hS (vp_in_nI (by decide) (by decide)) dL_law_682 ?_
  refine z_eqi (y := xs 1) rfl ?_
  refine z_callVi (k := 0) (As := [.int (xs 1)]) (rest := [.int (r_x)]) hx hb hml hown ht (kX11_brings l D qm cm (xs 1)) hw_7_52 hmX11_brings ⟨rfl, rfl⟩ (na := 1) rfl (by decide +kernel) ⟨Nat.le_of_ble_eq_true rfl, Nat.le_of_ble_eq_true rfl⟩ (by decide) rfl rfl hKm hPm hDm hS hA hl.1 rfl (Nat.le_of_ble_eq_true rfl) ⟨Nat.le_of_ble_eq_true rfl, Nat.le_of_ble_eq_true rfl⟩ dL_law_683 (fun r_m I_m R_m J_m H1 locs hp_m hPm hDm hS hz_m hk_m => ?_)
  have heq : r_x = r_m := Eq.trans hp_x (Eq.symm hp_m)
  refine lv_icmp_eq (tgt := 1965) hx hb dL_law_686 (by decide) (fun _ => ?_) (fun c_0 => absurd heq c_0)
  exact lc_end C0 hS (lv_sub hl [0, 3] rfl)
set_option maxHeartbeats 4000000 in
set_option maxRecDepth 100000 in
theorem lc_13 {p : Program} {e : Env} {s : State} {m : MethodId} {below : List Frame} {meth : Method} {c : Code} {l : Launch} {b : Nat} {xs : Nat → Int32} {D : va_G} {qx qm : Nat → Nat} {cx cm : Nat → ClassId} {H : Heap} {locs : List Loc} {ls : Array Slot} (C : zLaw p s m meth c b xs D qx qm cx cm) (hPx : va_P D vwCl (zw 81 qx (zXd qx cx) zXI0 zXR0 zXJ0) H) (hDx : va_D (zLA s) (zw 81 qx (zXd qx cx) zXI0 zXR0 zXJ0)) (hPm : va_P D vwCl (zw 25 qm (zMd qm cm) zMI0 zMR0 zMJ0) H) (hDm : va_D (zLA s) (zw 25 qm (zMd qm cm) zMI0 zMR0 zMJ0)) (hS : va_S (zLA s) s.heap H locs) (hl : lv_has ls 4 [(0, .ref b), (1, .ref (qx 0)), (2, .ref (qm 0)), (3, .int (nI 0))]) : W p l e room_1 s m #[Value.ref b] below meth c H locs 600000 7302250 (lw_Z below #[Value.ref b] s) (F0 m 691 ls []) := by
  have C0 := C
  obtain ⟨⟨hx, hb, hr, hml, hown, hts, hX, hbl, hlocks, hgv⟩, hKx, hKm, hdis⟩ := C
  have hown : s.vm.findClass "ReceiptLeftLaw" = some m.cls := hown
  have ht : ∀ w ∈ zT, w.before #[Value.ref b] s = true := fun w h => hts w (zT_lw w h)
  have hA : ∀ a, s.heap.size ≤ a → zLA s a := fun _ h => h
  have hbA : ¬ zLA s b := Nat.not_le.mpr hbl
  refine lv_aload_n hx hb dL_law_691 rfl (lv_at hl 1 rfl) ?_
  refine lv_aload_n hx hb dL_law_692 rfl (lv_at hl 0 rfl) ?_
  refine lv_iload_n hx hb dL_law_693 rfl (lv_at hl 3 rfl) ?_
  refine lv_iconst (v := nI 1) hx hb dL_law_694 (by decide +kernel) ?_
  refine lv_iadd hx hb dL_law_695 ?_
  refine z_eqi (y := nI 1) (by decide +kernel) ?_
  refine va_sld hx hb hX hbl hbA hS (vp_in_nI (by decide) (by decide)) dL_law_696 ?_
  refine z_eqi (y := xs 1) rfl ?_
  refine z_callVi (k := 0) (As := [.int (xs 1)]) (rest := []) hx hb hml hown ht (kX10_strike l D qx cx (xs 1)) hw_3_228 hmX10_strike ⟨rfl, rfl⟩ (na := 1) rfl (by decide +kernel) ⟨Nat.le_of_ble_eq_true rfl, Nat.le_of_ble_eq_true rfl⟩ (by decide) rfl rfl hKx hPx hDx hS hA hl.1 rfl (Nat.le_of_ble_eq_true rfl) ⟨Nat.le_of_ble_eq_true rfl, Nat.le_of_ble_eq_true rfl⟩ dL_law_697 (fun r_x I_x R_x J_x H1 locs hp_x hPx hDx hS hz_x hk_x => ?_)
  have hPm := z_frame (q := qx) (n := 81) hPm hdis hk_x
  generalize H1 = H at hPm hPx hS ⊢
  refine lv_aload_n hx hb dL_law_700 rfl (lv_at hl 2 rfl) ?_
  refine lv_aload_n hx hb dL_law_701 rfl (lv_at hl 0 rfl) ?_
  refine lv_iload_n hx hb dL_law_702 rfl (lv_at hl 3 rfl) ?_
  refine lv_iconst (v := nI 1) hx hb dL_law_703 (by decide +kernel) ?_
  refine lv_iadd hx hb dL_law_704 ?_
  refine z_eqi (y := nI 1) (by decide +kernel) ?_
  refine va_sld hx hb hX hbl hbA hS (vp_in_nI (by decide) (by decide)) dL_law_705 ?_
  refine z_eqi (y := xs 1) rfl ?_
  refine z_callVi (k := 0) (As := [.int (xs 1)]) (rest := [.int (r_x)]) hx hb hml hown ht (kX11_strike l D qm cm (xs 1)) hw_7_56 hmX11_strike ⟨rfl, rfl⟩ (na := 1) rfl (by decide +kernel) ⟨Nat.le_of_ble_eq_true rfl, Nat.le_of_ble_eq_true rfl⟩ (by decide) rfl rfl hKm hPm hDm hS hA hl.1 rfl (Nat.le_of_ble_eq_true rfl) ⟨Nat.le_of_ble_eq_true rfl, Nat.le_of_ble_eq_true rfl⟩ dL_law_706 (fun r_m I_m R_m J_m H1 locs hp_m hPm hDm hS hz_m hk_m => ?_)
  have heq : r_x = r_m := Eq.trans hp_x (Eq.symm hp_m)
  refine lv_icmp_eq (tgt := 1965) hx hb dL_law_709 (by decide) (fun _ => ?_) (fun c_0 => absurd heq c_0)
  exact lc_end C0 hS (lv_sub hl [0, 3] rfl)
set_option maxHeartbeats 4000000 in
set_option maxRecDepth 100000 in
theorem lc_14 {p : Program} {e : Env} {s : State} {m : MethodId} {below : List Frame} {meth : Method} {c : Code} {l : Launch} {b : Nat} {xs : Nat → Int32} {D : va_G} {qx qm : Nat → Nat} {cx cm : Nat → ClassId} {H : Heap} {locs : List Loc} {ls : Array Slot} (C : zLaw p s m meth c b xs D qx qm cx cm) (hPx : va_P D vwCl (zw 81 qx (zXd qx cx) zXI0 zXR0 zXJ0) H) (hDx : va_D (zLA s) (zw 81 qx (zXd qx cx) zXI0 zXR0 zXJ0)) (hPm : va_P D vwCl (zw 25 qm (zMd qm cm) zMI0 zMR0 zMJ0) H) (hDm : va_D (zLA s) (zw 25 qm (zMd qm cm) zMI0 zMR0 zMJ0)) (hS : va_S (zLA s) s.heap H locs) (hl : lv_has ls 4 [(0, .ref b), (1, .ref (qx 0)), (2, .ref (qm 0)), (3, .int (nI 0))]) : W p l e room_1 s m #[Value.ref b] below meth c H locs 600000 7302250 (lw_Z below #[Value.ref b] s) (F0 m 714 ls []) := by
  have C0 := C
  obtain ⟨⟨hx, hb, hr, hml, hown, hts, hX, hbl, hlocks, hgv⟩, hKx, hKm, hdis⟩ := C
  have hown : s.vm.findClass "ReceiptLeftLaw" = some m.cls := hown
  have ht : ∀ w ∈ zT, w.before #[Value.ref b] s = true := fun w h => hts w (zT_lw w h)
  have hA : ∀ a, s.heap.size ≤ a → zLA s a := fun _ h => h
  have hbA : ¬ zLA s b := Nat.not_le.mpr hbl
  refine lv_aload_n hx hb dL_law_714 rfl (lv_at hl 1 rfl) ?_
  refine lv_aload_n hx hb dL_law_715 rfl (lv_at hl 0 rfl) ?_
  refine lv_iload_n hx hb dL_law_716 rfl (lv_at hl 3 rfl) ?_
  refine lv_iconst (v := nI 1) hx hb dL_law_717 (by decide +kernel) ?_
  refine lv_iadd hx hb dL_law_718 ?_
  refine z_eqi (y := nI 1) (by decide +kernel) ?_
  refine va_sld hx hb hX hbl hbA hS (vp_in_nI (by decide) (by decide)) dL_law_719 ?_
  refine z_eqi (y := xs 1) rfl ?_
  refine lv_aload_n hx hb dL_law_720 rfl (lv_at hl 0 rfl) ?_
  refine lv_iload_n hx hb dL_law_721 rfl (lv_at hl 3 rfl) ?_
  refine lv_iconst (v := nI 2) hx hb dL_law_722 (by decide +kernel) ?_
  refine lv_iadd hx hb dL_law_723 ?_
  refine z_eqi (y := nI 2) (by decide +kernel) ?_
  refine va_sld hx hb hX hbl hbA hS (vp_in_nI (by decide) (by decide)) dL_law_724 ?_
  refine z_eqi (y := xs 2) rfl ?_
  refine z_callVi (k := 0) (As := [.int (xs 1), .int (xs 2)]) (rest := []) hx hb hml hown ht (kX10_lock l D qx cx (xs 1) (xs 2)) hw_3_232 hmX10_lock ⟨rfl, rfl⟩ (na := 2) rfl (by decide +kernel) ⟨Nat.le_of_ble_eq_true rfl, Nat.le_of_ble_eq_true rfl⟩ (by decide) rfl rfl hKx hPx hDx hS hA hl.1 rfl (Nat.le_of_ble_eq_true rfl) ⟨Nat.le_of_ble_eq_true rfl, Nat.le_of_ble_eq_true rfl⟩ dL_law_725 (fun r_x I_x R_x J_x H1 locs hp_x hPx hDx hS hz_x hk_x => ?_)
  have hPm := z_frame (q := qx) (n := 81) hPm hdis hk_x
  generalize H1 = H at hPm hPx hS ⊢
  refine lv_aload_n hx hb dL_law_728 rfl (lv_at hl 2 rfl) ?_
  refine lv_aload_n hx hb dL_law_729 rfl (lv_at hl 0 rfl) ?_
  refine lv_iload_n hx hb dL_law_730 rfl (lv_at hl 3 rfl) ?_
  refine lv_iconst (v := nI 1) hx hb dL_law_731 (by decide +kernel) ?_
  refine lv_iadd hx hb dL_law_732 ?_
  refine z_eqi (y := nI 1) (by decide +kernel) ?_
  refine va_sld hx hb hX hbl hbA hS (vp_in_nI (by decide) (by decide)) dL_law_733 ?_
  refine z_eqi (y := xs 1) rfl ?_
  refine lv_aload_n hx hb dL_law_734 rfl (lv_at hl 0 rfl) ?_
  refine lv_iload_n hx hb dL_law_735 rfl (lv_at hl 3 rfl) ?_
  refine lv_iconst (v := nI 2) hx hb dL_law_736 (by decide +kernel) ?_
  refine lv_iadd hx hb dL_law_737 ?_
  refine z_eqi (y := nI 2) (by decide +kernel) ?_
  refine va_sld hx hb hX hbl hbA hS (vp_in_nI (by decide) (by decide)) dL_law_738 ?_
  refine z_eqi (y := xs 2) rfl ?_
  refine z_callVi (k := 0) (As := [.int (xs 1), .int (xs 2)]) (rest := [.int (r_x)]) hx hb hml hown ht (kX11_lock l D qm cm (xs 1) (xs 2)) hw_7_67 hmX11_lock ⟨rfl, rfl⟩ (na := 2) rfl (by decide +kernel) ⟨Nat.le_of_ble_eq_true rfl, Nat.le_of_ble_eq_true rfl⟩ (by decide) rfl rfl hKm hPm hDm hS hA hl.1 rfl (Nat.le_of_ble_eq_true rfl) ⟨Nat.le_of_ble_eq_true rfl, Nat.le_of_ble_eq_true rfl⟩ dL_law_739 (fun r_m I_m R_m J_m H1 locs hp_m hPm hDm hS hz_m hk_m => ?_)
  have heq : r_x = r_m := Eq.trans hp_x (Eq.symm hp_m)
  refine lv_icmp_eq (tgt := 1965) hx hb dL_law_742 (by decide) (fun _ => ?_) (fun c_0 => absurd heq c_0)
  exact lc_end C0 hS (lv_sub hl [0, 3] rfl)
set_option maxHeartbeats 4000000 in
set_option maxRecDepth 100000 in
theorem lc_15 {p : Program} {e : Env} {s : State} {m : MethodId} {below : List Frame} {meth : Method} {c : Code} {l : Launch} {b : Nat} {xs : Nat → Int32} {D : va_G} {qx qm : Nat → Nat} {cx cm : Nat → ClassId} {H : Heap} {locs : List Loc} {ls : Array Slot} (C : zLaw p s m meth c b xs D qx qm cx cm) (hPx : va_P D vwCl (zw 81 qx (zXd qx cx) zXI0 zXR0 zXJ0) H) (hDx : va_D (zLA s) (zw 81 qx (zXd qx cx) zXI0 zXR0 zXJ0)) (hPm : va_P D vwCl (zw 25 qm (zMd qm cm) zMI0 zMR0 zMJ0) H) (hDm : va_D (zLA s) (zw 25 qm (zMd qm cm) zMI0 zMR0 zMJ0)) (hS : va_S (zLA s) s.heap H locs) (hl : lv_has ls 4 [(0, .ref b), (1, .ref (qx 0)), (2, .ref (qm 0)), (3, .int (nI 0))]) : W p l e room_1 s m #[Value.ref b] below meth c H locs 600000 7302250 (lw_Z below #[Value.ref b] s) (F0 m 747 ls []) := by
  have C0 := C
  obtain ⟨⟨hx, hb, hr, hml, hown, hts, hX, hbl, hlocks, hgv⟩, hKx, hKm, hdis⟩ := C
  have hown : s.vm.findClass "ReceiptLeftLaw" = some m.cls := hown
  have ht : ∀ w ∈ zT, w.before #[Value.ref b] s = true := fun w h => hts w (zT_lw w h)
  have hA : ∀ a, s.heap.size ≤ a → zLA s a := fun _ h => h
  have hbA : ¬ zLA s b := Nat.not_le.mpr hbl
  refine lv_aload_n hx hb dL_law_747 rfl (lv_at hl 1 rfl) ?_
  refine z_callVi (k := 0) (As := []) (rest := []) hx hb hml hown ht (kX10_night l D qx cx ) hw_3_236 hmX10_night ⟨rfl, rfl⟩ (na := 0) rfl (by decide +kernel) ⟨Nat.le_of_ble_eq_true rfl, Nat.le_of_ble_eq_true rfl⟩ (by decide) rfl rfl hKx hPx hDx hS hA hl.1 rfl (Nat.le_of_ble_eq_true rfl) ⟨Nat.le_of_ble_eq_true rfl, Nat.le_of_ble_eq_true rfl⟩ dL_law_748 (fun r_x I_x R_x J_x H1 locs hp_x hPx hDx hS hz_x hk_x => ?_)
  have hPm := z_frame (q := qx) (n := 81) hPm hdis hk_x
  generalize H1 = H at hPm hPx hS ⊢
  refine lv_aload_n hx hb dL_law_751 rfl (lv_at hl 2 rfl) ?_
  refine z_callVi (k := 0) (As := []) (rest := [.int (r_x)]) hx hb hml hown ht (kX11_night l D qm cm ) hw_7_71 hmX11_night ⟨rfl, rfl⟩ (na := 0) rfl (by decide +kernel) ⟨Nat.le_of_ble_eq_true rfl, Nat.le_of_ble_eq_true rfl⟩ (by decide) rfl rfl hKm hPm hDm hS hA hl.1 rfl (Nat.le_of_ble_eq_true rfl) ⟨Nat.le_of_ble_eq_true rfl, Nat.le_of_ble_eq_true rfl⟩ dL_law_752 (fun r_m I_m R_m J_m H1 locs hp_m hPm hDm hS hz_m hk_m => ?_)
  have heq : r_x = r_m := Eq.trans hp_x (Eq.symm hp_m)
  refine lv_icmp_eq (tgt := 1965) hx hb dL_law_755 (by decide) (fun _ => ?_) (fun c_0 => absurd heq c_0)
  exact lc_end C0 hS (lv_sub hl [0, 3] rfl)
