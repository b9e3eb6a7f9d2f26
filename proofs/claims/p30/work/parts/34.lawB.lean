set_option maxRecDepth 100000 in
set_option maxHeartbeats 4000000 in
theorem law_7 {X : zX} {Ln b : Nat} {xs a : Nat → Int32} {f : zM} {J : zM → Prop} (C : zC X cL_law RL 15) (hn : znL X = 4) (hs : zXs X Ln xs) (hb : b + 7 ≤ Ln) (h31 : Ln < 2 ^ 31) (hT : zXst X) (ha : ∀ j, xs (b + j) = a j) (hx : zCall_7 f a J) (kk : ∀ g, J g → Z X 1501 [some (zr 44 0), some (zr 0 0), some (zr 25 0), some (zi (nI b))] [] g) : Z X 621 [some (zr 44 0), some (zr 0 0), some (zr 25 0), some (zi (nI b))] [] f := by
  unfold zCall_7 at hx
  refine z_aload_n (pc := 621) C dL_law_621 rfl ?_
  refine z_aload_n (pc := 622) C dL_law_622 rfl ?_
  refine z_iload_n (pc := 623) C dL_law_623 rfl ?_
  refine z_iconst (pc := 624) (v := 1) C dL_law_624 (by decide) ?_
  refine z_iadd (pc := 625) C dL_law_625 ?_
  refine z_sldk (pc := 626) (b := b) (k := 1) C hs (nI_add b 1) (by omega) (by omega) dL_law_626 ?_
  rw [ha 1]
  refine z_aload_n (pc := 627) C dL_law_627 rfl ?_
  refine z_iload_n (pc := 628) C dL_law_628 rfl ?_
  refine z_iconst (pc := 629) (v := 2) C dL_law_629 (by decide) ?_
  refine z_iadd (pc := 630) C dL_law_630 ?_
  refine z_sldk (pc := 631) (b := b) (k := 2) C hs (nI_add b 2) (by omega) (by omega) dL_law_631 ?_
  rw [ha 2]
  refine z_callV (pc := 632) C zk_L_49 hx rfl rfl (by decide) rfl rfl (Nat.le_of_ble_eq_true rfl) dL_law_632 (fun r g q => ?_)
  obtain ⟨v, rfl, hm⟩ := q
  simp only [Option.toList, List.cons_append, List.nil_append]
  refine z_pop (pc := 635) C dL_law_635 ?_
  refine z_aload_n (pc := 636) C dL_law_636 rfl ?_
  refine z_aload_n (pc := 637) C dL_law_637 rfl ?_
  refine z_iload_n (pc := 638) C dL_law_638 rfl ?_
  refine z_iconst (pc := 639) (v := 1) C dL_law_639 (by decide) ?_
  refine z_iadd (pc := 640) C dL_law_640 ?_
  refine z_sldk (pc := 641) (b := b) (k := 1) C hs (nI_add b 1) (by omega) (by omega) dL_law_641 ?_
  rw [ha 1]
  refine z_aload_n (pc := 642) C dL_law_642 rfl ?_
  refine z_iload_n (pc := 643) C dL_law_643 rfl ?_
  refine z_iconst (pc := 644) (v := 2) C dL_law_644 (by decide) ?_
  refine z_iadd (pc := 645) C dL_law_645 ?_
  refine z_sldk (pc := 646) (b := b) (k := 2) C hs (nI_add b 2) (by omega) (by omega) dL_law_646 ?_
  rw [ha 2]
  refine z_callV (pc := 647) C zk_L_53 hm rfl rfl (by decide) rfl rfl (Nat.le_of_ble_eq_true rfl) dL_law_647 (fun r2 g2 q2 => ?_)
  obtain ⟨⟨v2, rfl⟩, hJ⟩ := q2
  simp only [Option.toList, List.cons_append, List.nil_append]
  refine z_pop (pc := 650) C dL_law_650 ?_
  refine z_goto (pc := 651) 1501 C dL_law_651 (by decide) ?_
  exact kk _ hJ
set_option maxRecDepth 100000 in
set_option maxHeartbeats 4000000 in
theorem law_8 {X : zX} {Ln b : Nat} {xs a : Nat → Int32} {f : zM} {J : zM → Prop} (C : zC X cL_law RL 15) (hn : znL X = 4) (hs : zXs X Ln xs) (hb : b + 7 ≤ Ln) (h31 : Ln < 2 ^ 31) (hT : zXst X) (ha : ∀ j, xs (b + j) = a j) (hx : zCall_8 f a J) (kk : ∀ g, J g → Z X 1501 [some (zr 44 0), some (zr 0 0), some (zr 25 0), some (zi (nI b))] [] g) : Z X 654 [some (zr 44 0), some (zr 0 0), some (zr 25 0), some (zi (nI b))] [] f := by
  unfold zCall_8 at hx
  refine z_aload_n (pc := 654) C dL_law_654 rfl ?_
  refine z_aload_n (pc := 655) C dL_law_655 rfl ?_
  refine z_iload_n (pc := 656) C dL_law_656 rfl ?_
  refine z_iconst (pc := 657) (v := 1) C dL_law_657 (by decide) ?_
  refine z_iadd (pc := 658) C dL_law_658 ?_
  refine z_sldk (pc := 659) (b := b) (k := 1) C hs (nI_add b 1) (by omega) (by omega) dL_law_659 ?_
  rw [ha 1]
  refine z_aload_n (pc := 660) C dL_law_660 rfl ?_
  refine z_iload_n (pc := 661) C dL_law_661 rfl ?_
  refine z_iconst (pc := 662) (v := 2) C dL_law_662 (by decide) ?_
  refine z_iadd (pc := 663) C dL_law_663 ?_
  refine z_sldk (pc := 664) (b := b) (k := 2) C hs (nI_add b 2) (by omega) (by omega) dL_law_664 ?_
  rw [ha 2]
  refine z_callV (pc := 665) C zk_L_54 hx rfl rfl (by decide) rfl rfl (Nat.le_of_ble_eq_true rfl) dL_law_665 (fun r g q => ?_)
  obtain ⟨v, rfl, hm⟩ := q
  simp only [Option.toList, List.cons_append, List.nil_append]
  refine z_pop (pc := 668) C dL_law_668 ?_
  refine z_aload_n (pc := 669) C dL_law_669 rfl ?_
  refine z_aload_n (pc := 670) C dL_law_670 rfl ?_
  refine z_iload_n (pc := 671) C dL_law_671 rfl ?_
  refine z_iconst (pc := 672) (v := 1) C dL_law_672 (by decide) ?_
  refine z_iadd (pc := 673) C dL_law_673 ?_
  refine z_sldk (pc := 674) (b := b) (k := 1) C hs (nI_add b 1) (by omega) (by omega) dL_law_674 ?_
  rw [ha 1]
  refine z_aload_n (pc := 675) C dL_law_675 rfl ?_
  refine z_iload_n (pc := 676) C dL_law_676 rfl ?_
  refine z_iconst (pc := 677) (v := 2) C dL_law_677 (by decide) ?_
  refine z_iadd (pc := 678) C dL_law_678 ?_
  refine z_sldk (pc := 679) (b := b) (k := 2) C hs (nI_add b 2) (by omega) (by omega) dL_law_679 ?_
  rw [ha 2]
  refine z_callV (pc := 680) C zk_L_57 hm rfl rfl (by decide) rfl rfl (Nat.le_of_ble_eq_true rfl) dL_law_680 (fun r2 g2 q2 => ?_)
  obtain ⟨⟨v2, rfl⟩, hJ⟩ := q2
  simp only [Option.toList, List.cons_append, List.nil_append]
  refine z_pop (pc := 683) C dL_law_683 ?_
  refine z_goto (pc := 684) 1501 C dL_law_684 (by decide) ?_
  exact kk _ hJ
set_option maxRecDepth 100000 in
set_option maxHeartbeats 4000000 in
theorem law_9 {X : zX} {Ln b : Nat} {xs a : Nat → Int32} {f : zM} {J : zM → Prop} (C : zC X cL_law RL 15) (hn : znL X = 4) (hs : zXs X Ln xs) (hb : b + 7 ≤ Ln) (h31 : Ln < 2 ^ 31) (hT : zXst X) (ha : ∀ j, xs (b + j) = a j) (hx : zCall_9 f a J) (kk : ∀ g, J g → Z X 1501 [some (zr 44 0), some (zr 0 0), some (zr 25 0), some (zi (nI b))] [] g) : Z X 687 [some (zr 44 0), some (zr 0 0), some (zr 25 0), some (zi (nI b))] [] f := by
  unfold zCall_9 at hx
  refine z_aload_n (pc := 687) C dL_law_687 rfl ?_
  refine z_aload_n (pc := 688) C dL_law_688 rfl ?_
  refine z_iload_n (pc := 689) C dL_law_689 rfl ?_
  refine z_iconst (pc := 690) (v := 1) C dL_law_690 (by decide) ?_
  refine z_iadd (pc := 691) C dL_law_691 ?_
  refine z_sldk (pc := 692) (b := b) (k := 1) C hs (nI_add b 1) (by omega) (by omega) dL_law_692 ?_
  rw [ha 1]
  refine z_aload_n (pc := 693) C dL_law_693 rfl ?_
  refine z_iload_n (pc := 694) C dL_law_694 rfl ?_
  refine z_iconst (pc := 695) (v := 2) C dL_law_695 (by decide) ?_
  refine z_iadd (pc := 696) C dL_law_696 ?_
  refine z_sldk (pc := 697) (b := b) (k := 2) C hs (nI_add b 2) (by omega) (by omega) dL_law_697 ?_
  rw [ha 2]
  refine z_callV (pc := 698) C zk_L_58 hx rfl rfl (by decide) rfl rfl (Nat.le_of_ble_eq_true rfl) dL_law_698 (fun r g q => ?_)
  obtain ⟨v, rfl, hm⟩ := q
  simp only [Option.toList, List.cons_append, List.nil_append]
  refine z_pop (pc := 701) C dL_law_701 ?_
  refine z_aload_n (pc := 702) C dL_law_702 rfl ?_
  refine z_aload_n (pc := 703) C dL_law_703 rfl ?_
  refine z_iload_n (pc := 704) C dL_law_704 rfl ?_
  refine z_iconst (pc := 705) (v := 1) C dL_law_705 (by decide) ?_
  refine z_iadd (pc := 706) C dL_law_706 ?_
  refine z_sldk (pc := 707) (b := b) (k := 1) C hs (nI_add b 1) (by omega) (by omega) dL_law_707 ?_
  rw [ha 1]
  refine z_aload_n (pc := 708) C dL_law_708 rfl ?_
  refine z_iload_n (pc := 709) C dL_law_709 rfl ?_
  refine z_iconst (pc := 710) (v := 2) C dL_law_710 (by decide) ?_
  refine z_iadd (pc := 711) C dL_law_711 ?_
  refine z_sldk (pc := 712) (b := b) (k := 2) C hs (nI_add b 2) (by omega) (by omega) dL_law_712 ?_
  rw [ha 2]
  refine z_callV (pc := 713) C zk_L_61 hm rfl rfl (by decide) rfl rfl (Nat.le_of_ble_eq_true rfl) dL_law_713 (fun r2 g2 q2 => ?_)
  obtain ⟨⟨v2, rfl⟩, hJ⟩ := q2
  simp only [Option.toList, List.cons_append, List.nil_append]
  refine z_pop (pc := 716) C dL_law_716 ?_
  refine z_goto (pc := 717) 1501 C dL_law_717 (by decide) ?_
  exact kk _ hJ
set_option maxRecDepth 100000 in
set_option maxHeartbeats 4000000 in
theorem law_10 {X : zX} {Ln b : Nat} {xs a : Nat → Int32} {f : zM} {J : zM → Prop} (C : zC X cL_law RL 15) (hn : znL X = 4) (hs : zXs X Ln xs) (hb : b + 7 ≤ Ln) (h31 : Ln < 2 ^ 31) (hT : zXst X) (ha : ∀ j, xs (b + j) = a j) (hx : zCall_10 f a J) (kk : ∀ g, J g → Z X 1501 [some (zr 44 0), some (zr 0 0), some (zr 25 0), some (zi (nI b))] [] g) : Z X 720 [some (zr 44 0), some (zr 0 0), some (zr 25 0), some (zi (nI b))] [] f := by
  unfold zCall_10 at hx
  refine z_aload_n (pc := 720) C dL_law_720 rfl ?_
  refine z_aload_n (pc := 721) C dL_law_721 rfl ?_
  refine z_iload_n (pc := 722) C dL_law_722 rfl ?_
  refine z_iconst (pc := 723) (v := 1) C dL_law_723 (by decide) ?_
  refine z_iadd (pc := 724) C dL_law_724 ?_
  refine z_sldk (pc := 725) (b := b) (k := 1) C hs (nI_add b 1) (by omega) (by omega) dL_law_725 ?_
  rw [ha 1]
  refine z_aload_n (pc := 726) C dL_law_726 rfl ?_
  refine z_iload_n (pc := 727) C dL_law_727 rfl ?_
  refine z_iconst (pc := 728) (v := 2) C dL_law_728 (by decide) ?_
  refine z_iadd (pc := 729) C dL_law_729 ?_
  refine z_sldk (pc := 730) (b := b) (k := 2) C hs (nI_add b 2) (by omega) (by omega) dL_law_730 ?_
  rw [ha 2]
  refine z_aload_n (pc := 731) C dL_law_731 rfl ?_
  refine z_iload_n (pc := 732) C dL_law_732 rfl ?_
  refine z_iconst (pc := 733) (v := 3) C dL_law_733 (by decide) ?_
  refine z_iadd (pc := 734) C dL_law_734 ?_
  refine z_sldk (pc := 735) (b := b) (k := 3) C hs (nI_add b 3) (by omega) (by omega) dL_law_735 ?_
  rw [ha 3]
  refine z_callV (pc := 736) C zk_L_62 hx rfl rfl (by decide) rfl rfl (Nat.le_of_ble_eq_true rfl) dL_law_736 (fun r g q => ?_)
  obtain ⟨v, rfl, hm⟩ := q
  simp only [Option.toList, List.cons_append, List.nil_append]
  refine z_pop (pc := 739) C dL_law_739 ?_
  refine z_aload_n (pc := 740) C dL_law_740 rfl ?_
  refine z_aload_n (pc := 741) C dL_law_741 rfl ?_
  refine z_iload_n (pc := 742) C dL_law_742 rfl ?_
  refine z_iconst (pc := 743) (v := 1) C dL_law_743 (by decide) ?_
  refine z_iadd (pc := 744) C dL_law_744 ?_
  refine z_sldk (pc := 745) (b := b) (k := 1) C hs (nI_add b 1) (by omega) (by omega) dL_law_745 ?_
  rw [ha 1]
  refine z_aload_n (pc := 746) C dL_law_746 rfl ?_
  refine z_iload_n (pc := 747) C dL_law_747 rfl ?_
  refine z_iconst (pc := 748) (v := 2) C dL_law_748 (by decide) ?_
  refine z_iadd (pc := 749) C dL_law_749 ?_
  refine z_sldk (pc := 750) (b := b) (k := 2) C hs (nI_add b 2) (by omega) (by omega) dL_law_750 ?_
  rw [ha 2]
  refine z_aload_n (pc := 751) C dL_law_751 rfl ?_
  refine z_iload_n (pc := 752) C dL_law_752 rfl ?_
  refine z_iconst (pc := 753) (v := 3) C dL_law_753 (by decide) ?_
  refine z_iadd (pc := 754) C dL_law_754 ?_
  refine z_sldk (pc := 755) (b := b) (k := 3) C hs (nI_add b 3) (by omega) (by omega) dL_law_755 ?_
  rw [ha 3]
  refine z_callV (pc := 756) C zk_L_66 hm rfl rfl (by decide) rfl rfl (Nat.le_of_ble_eq_true rfl) dL_law_756 (fun r2 g2 q2 => ?_)
  obtain ⟨⟨v2, rfl⟩, hJ⟩ := q2
  simp only [Option.toList, List.cons_append, List.nil_append]
  refine z_pop (pc := 759) C dL_law_759 ?_
  refine z_goto (pc := 760) 1501 C dL_law_760 (by decide) ?_
  exact kk _ hJ
set_option maxRecDepth 100000 in
set_option maxHeartbeats 4000000 in
theorem law_11 {X : zX} {Ln b : Nat} {xs a : Nat → Int32} {f : zM} {J : zM → Prop} (C : zC X cL_law RL 15) (hn : znL X = 4) (hs : zXs X Ln xs) (hb : b + 7 ≤ Ln) (h31 : Ln < 2 ^ 31) (hT : zXst X) (ha : ∀ j, xs (b + j) = a j) (hx : zCall_11 f a J) (kk : ∀ g, J g → Z X 1501 [some (zr 44 0), some (zr 0 0), some (zr 25 0), some (zi (nI b))] [] g) : Z X 763 [some (zr 44 0), some (zr 0 0), some (zr 25 0), some (zi (nI b))] [] f := by
  unfold zCall_11 at hx
  refine z_aload_n (pc := 763) C dL_law_763 rfl ?_
  refine z_aload_n (pc := 764) C dL_law_764 rfl ?_
  refine z_iload_n (pc := 765) C dL_law_765 rfl ?_
  refine z_iconst (pc := 766) (v := 1) C dL_law_766 (by decide) ?_
  refine z_iadd (pc := 767) C dL_law_767 ?_
  refine z_sldk (pc := 768) (b := b) (k := 1) C hs (nI_add b 1) (by omega) (by omega) dL_law_768 ?_
  rw [ha 1]
  refine z_aload_n (pc := 769) C dL_law_769 rfl ?_
  refine z_iload_n (pc := 770) C dL_law_770 rfl ?_
  refine z_iconst (pc := 771) (v := 2) C dL_law_771 (by decide) ?_
  refine z_iadd (pc := 772) C dL_law_772 ?_
  refine z_sldk (pc := 773) (b := b) (k := 2) C hs (nI_add b 2) (by omega) (by omega) dL_law_773 ?_
  rw [ha 2]
  refine z_aload_n (pc := 774) C dL_law_774 rfl ?_
  refine z_iload_n (pc := 775) C dL_law_775 rfl ?_
  refine z_iconst (pc := 776) (v := 3) C dL_law_776 (by decide) ?_
  refine z_iadd (pc := 777) C dL_law_777 ?_
  refine z_sldk (pc := 778) (b := b) (k := 3) C hs (nI_add b 3) (by omega) (by omega) dL_law_778 ?_
  rw [ha 3]
  refine z_callV (pc := 779) C zk_L_67 hx rfl rfl (by decide) rfl rfl (Nat.le_of_ble_eq_true rfl) dL_law_779 (fun r g q => ?_)
  obtain ⟨v, rfl, hm⟩ := q
  simp only [Option.toList, List.cons_append, List.nil_append]
  refine z_pop (pc := 782) C dL_law_782 ?_
  refine z_aload_n (pc := 783) C dL_law_783 rfl ?_
  refine z_aload_n (pc := 784) C dL_law_784 rfl ?_
  refine z_iload_n (pc := 785) C dL_law_785 rfl ?_
  refine z_iconst (pc := 786) (v := 1) C dL_law_786 (by decide) ?_
  refine z_iadd (pc := 787) C dL_law_787 ?_
  refine z_sldk (pc := 788) (b := b) (k := 1) C hs (nI_add b 1) (by omega) (by omega) dL_law_788 ?_
  rw [ha 1]
  refine z_aload_n (pc := 789) C dL_law_789 rfl ?_
  refine z_iload_n (pc := 790) C dL_law_790 rfl ?_
  refine z_iconst (pc := 791) (v := 2) C dL_law_791 (by decide) ?_
  refine z_iadd (pc := 792) C dL_law_792 ?_
  refine z_sldk (pc := 793) (b := b) (k := 2) C hs (nI_add b 2) (by omega) (by omega) dL_law_793 ?_
  rw [ha 2]
  refine z_aload_n (pc := 794) C dL_law_794 rfl ?_
  refine z_iload_n (pc := 795) C dL_law_795 rfl ?_
  refine z_iconst (pc := 796) (v := 3) C dL_law_796 (by decide) ?_
  refine z_iadd (pc := 797) C dL_law_797 ?_
  refine z_sldk (pc := 798) (b := b) (k := 3) C hs (nI_add b 3) (by omega) (by omega) dL_law_798 ?_
  rw [ha 3]
  refine z_callV (pc := 799) C zk_L_70 hm rfl rfl (by decide) rfl rfl (Nat.le_of_ble_eq_true rfl) dL_law_799 (fun r2 g2 q2 => ?_)
  obtain ⟨⟨v2, rfl⟩, hJ⟩ := q2
  simp only [Option.toList, List.cons_append, List.nil_append]
  refine z_pop (pc := 802) C dL_law_802 ?_
  refine z_goto (pc := 803) 1501 C dL_law_803 (by decide) ?_
  exact kk _ hJ
set_option maxRecDepth 100000 in
set_option maxHeartbeats 4000000 in
theorem law_12 {X : zX} {Ln b : Nat} {xs a : Nat → Int32} {f : zM} {J : zM → Prop} (C : zC X cL_law RL 15) (hn : znL X = 4) (hs : zXs X Ln xs) (hb : b + 7 ≤ Ln) (h31 : Ln < 2 ^ 31) (hT : zXst X) (ha : ∀ j, xs (b + j) = a j) (hx : zCall_12 f a J) (kk : ∀ g, J g → Z X 1501 [some (zr 44 0), some (zr 0 0), some (zr 25 0), some (zi (nI b))] [] g) : Z X 806 [some (zr 44 0), some (zr 0 0), some (zr 25 0), some (zi (nI b))] [] f := by
  unfold zCall_12 at hx
  refine z_aload_n (pc := 806) C dL_law_806 rfl ?_
  refine z_aload_n (pc := 807) C dL_law_807 rfl ?_
  refine z_iload_n (pc := 808) C dL_law_808 rfl ?_
  refine z_iconst (pc := 809) (v := 1) C dL_law_809 (by decide) ?_
  refine z_iadd (pc := 810) C dL_law_810 ?_
  refine z_sldk (pc := 811) (b := b) (k := 1) C hs (nI_add b 1) (by omega) (by omega) dL_law_811 ?_
  rw [ha 1]
  refine z_aload_n (pc := 812) C dL_law_812 rfl ?_
  refine z_iload_n (pc := 813) C dL_law_813 rfl ?_
  refine z_iconst (pc := 814) (v := 2) C dL_law_814 (by decide) ?_
  refine z_iadd (pc := 815) C dL_law_815 ?_
  refine z_sldk (pc := 816) (b := b) (k := 2) C hs (nI_add b 2) (by omega) (by omega) dL_law_816 ?_
  rw [ha 2]
  refine z_aload_n (pc := 817) C dL_law_817 rfl ?_
  refine z_iload_n (pc := 818) C dL_law_818 rfl ?_
  refine z_iconst (pc := 819) (v := 3) C dL_law_819 (by decide) ?_
  refine z_iadd (pc := 820) C dL_law_820 ?_
  refine z_sldk (pc := 821) (b := b) (k := 3) C hs (nI_add b 3) (by omega) (by omega) dL_law_821 ?_
  rw [ha 3]
  refine z_aload_n (pc := 822) C dL_law_822 rfl ?_
  refine z_iload_n (pc := 823) C dL_law_823 rfl ?_
  refine z_iconst (pc := 824) (v := 4) C dL_law_824 (by decide) ?_
  refine z_iadd (pc := 825) C dL_law_825 ?_
  refine z_sldk (pc := 826) (b := b) (k := 4) C hs (nI_add b 4) (by omega) (by omega) dL_law_826 ?_
  rw [ha 4]
  refine z_callV (pc := 827) C zk_L_71 hx rfl rfl (by decide) rfl rfl (Nat.le_of_ble_eq_true rfl) dL_law_827 (fun r g q => ?_)
  obtain ⟨v, rfl, hm⟩ := q
  simp only [Option.toList, List.cons_append, List.nil_append]
  refine z_pop (pc := 830) C dL_law_830 ?_
  refine z_aload_n (pc := 831) C dL_law_831 rfl ?_
  refine z_aload_n (pc := 832) C dL_law_832 rfl ?_
  refine z_iload_n (pc := 833) C dL_law_833 rfl ?_
  refine z_iconst (pc := 834) (v := 1) C dL_law_834 (by decide) ?_
  refine z_iadd (pc := 835) C dL_law_835 ?_
  refine z_sldk (pc := 836) (b := b) (k := 1) C hs (nI_add b 1) (by omega) (by omega) dL_law_836 ?_
  rw [ha 1]
  refine z_aload_n (pc := 837) C dL_law_837 rfl ?_
  refine z_iload_n (pc := 838) C dL_law_838 rfl ?_
  refine z_iconst (pc := 839) (v := 2) C dL_law_839 (by decide) ?_
  refine z_iadd (pc := 840) C dL_law_840 ?_
  refine z_sldk (pc := 841) (b := b) (k := 2) C hs (nI_add b 2) (by omega) (by omega) dL_law_841 ?_
  rw [ha 2]
  refine z_aload_n (pc := 842) C dL_law_842 rfl ?_
  refine z_iload_n (pc := 843) C dL_law_843 rfl ?_
  refine z_iconst (pc := 844) (v := 3) C dL_law_844 (by decide) ?_
  refine z_iadd (pc := 845) C dL_law_845 ?_
  refine z_sldk (pc := 846) (b := b) (k := 3) C hs (nI_add b 3) (by omega) (by omega) dL_law_846 ?_
  rw [ha 3]
  refine z_aload_n (pc := 847) C dL_law_847 rfl ?_
  refine z_iload_n (pc := 848) C dL_law_848 rfl ?_
  refine z_iconst (pc := 849) (v := 4) C dL_law_849 (by decide) ?_
  refine z_iadd (pc := 850) C dL_law_850 ?_
  refine z_sldk (pc := 851) (b := b) (k := 4) C hs (nI_add b 4) (by omega) (by omega) dL_law_851 ?_
  rw [ha 4]
  refine z_callV (pc := 852) C zk_L_74 hm rfl rfl (by decide) rfl rfl (Nat.le_of_ble_eq_true rfl) dL_law_852 (fun r2 g2 q2 => ?_)
  obtain ⟨⟨v2, rfl⟩, hJ⟩ := q2
  simp only [Option.toList, List.cons_append, List.nil_append]
  refine z_pop (pc := 855) C dL_law_855 ?_
  refine z_goto (pc := 856) 1501 C dL_law_856 (by decide) ?_
  exact kk _ hJ
set_option maxRecDepth 100000 in
set_option maxHeartbeats 4000000 in
theorem law_13 {X : zX} {Ln b : Nat} {xs a : Nat → Int32} {f : zM} {J : zM → Prop} (C : zC X cL_law RL 15) (hn : znL X = 4) (hs : zXs X Ln xs) (hb : b + 7 ≤ Ln) (h31 : Ln < 2 ^ 31) (hT : zXst X) (ha : ∀ j, xs (b + j) = a j) (hx : zCall_13 f a J) (kk : ∀ g, J g → Z X 1501 [some (zr 44 0), some (zr 0 0), some (zr 25 0), some (zi (nI b))] [] g) : Z X 859 [some (zr 44 0), some (zr 0 0), some (zr 25 0), some (zi (nI b))] [] f := by
  unfold zCall_13 at hx
  refine z_aload_n (pc := 859) C dL_law_859 rfl ?_
  refine z_aload_n (pc := 860) C dL_law_860 rfl ?_
  refine z_iload_n (pc := 861) C dL_law_861 rfl ?_
  refine z_iconst (pc := 862) (v := 1) C dL_law_862 (by decide) ?_
  refine z_iadd (pc := 863) C dL_law_863 ?_
  refine z_sldk (pc := 864) (b := b) (k := 1) C hs (nI_add b 1) (by omega) (by omega) dL_law_864 ?_
  rw [ha 1]
  refine z_callV (pc := 865) C zk_L_75 hx rfl rfl (by decide) rfl rfl (Nat.le_of_ble_eq_true rfl) dL_law_865 (fun r g q => ?_)
  obtain ⟨v, rfl, hm⟩ := q
  simp only [Option.toList, List.cons_append, List.nil_append]
  refine z_pop (pc := 868) C dL_law_868 ?_
  refine z_aload_n (pc := 869) C dL_law_869 rfl ?_
  refine z_aload_n (pc := 870) C dL_law_870 rfl ?_
  refine z_iload_n (pc := 871) C dL_law_871 rfl ?_
  refine z_iconst (pc := 872) (v := 1) C dL_law_872 (by decide) ?_
  refine z_iadd (pc := 873) C dL_law_873 ?_
  refine z_sldk (pc := 874) (b := b) (k := 1) C hs (nI_add b 1) (by omega) (by omega) dL_law_874 ?_
  rw [ha 1]
  refine z_callV (pc := 875) C zk_L_79 hm rfl rfl (by decide) rfl rfl (Nat.le_of_ble_eq_true rfl) dL_law_875 (fun r2 g2 q2 => ?_)
  obtain ⟨⟨v2, rfl⟩, hJ⟩ := q2
  simp only [Option.toList, List.cons_append, List.nil_append]
  refine z_pop (pc := 878) C dL_law_878 ?_
  refine z_goto (pc := 879) 1501 C dL_law_879 (by decide) ?_
  exact kk _ hJ
set_option maxRecDepth 100000 in
set_option maxHeartbeats 4000000 in
theorem law_14 {X : zX} {Ln b : Nat} {xs a : Nat → Int32} {f : zM} {J : zM → Prop} (C : zC X cL_law RL 15) (hn : znL X = 4) (hs : zXs X Ln xs) (hb : b + 7 ≤ Ln) (h31 : Ln < 2 ^ 31) (hT : zXst X) (ha : ∀ j, xs (b + j) = a j) (hx : zCall_14 f a J) (kk : ∀ g, J g → Z X 1501 [some (zr 44 0), some (zr 0 0), some (zr 25 0), some (zi (nI b))] [] g) : Z X 882 [some (zr 44 0), some (zr 0 0), some (zr 25 0), some (zi (nI b))] [] f := by
  unfold zCall_14 at hx
  refine z_aload_n (pc := 882) C dL_law_882 rfl ?_
  refine z_aload_n (pc := 883) C dL_law_883 rfl ?_
  refine z_iload_n (pc := 884) C dL_law_884 rfl ?_
  refine z_iconst (pc := 885) (v := 1) C dL_law_885 (by decide) ?_
  refine z_iadd (pc := 886) C dL_law_886 ?_
  refine z_sldk (pc := 887) (b := b) (k := 1) C hs (nI_add b 1) (by omega) (by omega) dL_law_887 ?_
  rw [ha 1]
  refine z_aload_n (pc := 888) C dL_law_888 rfl ?_
  refine z_iload_n (pc := 889) C dL_law_889 rfl ?_
  refine z_iconst (pc := 890) (v := 2) C dL_law_890 (by decide) ?_
  refine z_iadd (pc := 891) C dL_law_891 ?_
  refine z_sldk (pc := 892) (b := b) (k := 2) C hs (nI_add b 2) (by omega) (by omega) dL_law_892 ?_
  rw [ha 2]
  refine z_callV (pc := 893) C zk_L_80 hx rfl rfl (by decide) rfl rfl (Nat.le_of_ble_eq_true rfl) dL_law_893 (fun r g q => ?_)
  obtain ⟨v, rfl, hm⟩ := q
  simp only [Option.toList, List.cons_append, List.nil_append]
  refine z_pop (pc := 896) C dL_law_896 ?_
  refine z_aload_n (pc := 897) C dL_law_897 rfl ?_
  refine z_aload_n (pc := 898) C dL_law_898 rfl ?_
  refine z_iload_n (pc := 899) C dL_law_899 rfl ?_
  refine z_iconst (pc := 900) (v := 1) C dL_law_900 (by decide) ?_
  refine z_iadd (pc := 901) C dL_law_901 ?_
  refine z_sldk (pc := 902) (b := b) (k := 1) C hs (nI_add b 1) (by omega) (by omega) dL_law_902 ?_
  rw [ha 1]
  refine z_aload_n (pc := 903) C dL_law_903 rfl ?_
  refine z_iload_n (pc := 904) C dL_law_904 rfl ?_
  refine z_iconst (pc := 905) (v := 2) C dL_law_905 (by decide) ?_
  refine z_iadd (pc := 906) C dL_law_906 ?_
  refine z_sldk (pc := 907) (b := b) (k := 2) C hs (nI_add b 2) (by omega) (by omega) dL_law_907 ?_
  rw [ha 2]
  refine z_callV (pc := 908) C zk_L_83 hm rfl rfl (by decide) rfl rfl (Nat.le_of_ble_eq_true rfl) dL_law_908 (fun r2 g2 q2 => ?_)
  obtain ⟨⟨v2, rfl⟩, hJ⟩ := q2
  simp only [Option.toList, List.cons_append, List.nil_append]
  refine z_pop (pc := 911) C dL_law_911 ?_
  refine z_goto (pc := 912) 1501 C dL_law_912 (by decide) ?_
  exact kk _ hJ
set_option maxRecDepth 100000 in
set_option maxHeartbeats 4000000 in
theorem law_15 {X : zX} {Ln b : Nat} {xs a : Nat → Int32} {f : zM} {J : zM → Prop} (C : zC X cL_law RL 15) (hn : znL X = 4) (hs : zXs X Ln xs) (hb : b + 7 ≤ Ln) (h31 : Ln < 2 ^ 31) (hT : zXst X) (ha : ∀ j, xs (b + j) = a j) (hx : zCall_15 f a J) (kk : ∀ g, J g → Z X 1501 [some (zr 44 0), some (zr 0 0), some (zr 25 0), some (zi (nI b))] [] g) : Z X 915 [some (zr 44 0), some (zr 0 0), some (zr 25 0), some (zi (nI b))] [] f := by
  unfold zCall_15 at hx
  refine z_aload_n (pc := 915) C dL_law_915 rfl ?_
  refine z_aload_n (pc := 916) C dL_law_916 rfl ?_
  refine z_iload_n (pc := 917) C dL_law_917 rfl ?_
  refine z_iconst (pc := 918) (v := 1) C dL_law_918 (by decide) ?_
  refine z_iadd (pc := 919) C dL_law_919 ?_
  refine z_sldk (pc := 920) (b := b) (k := 1) C hs (nI_add b 1) (by omega) (by omega) dL_law_920 ?_
  rw [ha 1]
  refine z_aload_n (pc := 921) C dL_law_921 rfl ?_
  refine z_iload_n (pc := 922) C dL_law_922 rfl ?_
  refine z_iconst (pc := 923) (v := 2) C dL_law_923 (by decide) ?_
  refine z_iadd (pc := 924) C dL_law_924 ?_
  refine z_sldk (pc := 925) (b := b) (k := 2) C hs (nI_add b 2) (by omega) (by omega) dL_law_925 ?_
  rw [ha 2]
  refine z_if_eq (pc := 926) 933 C dL_law_926 (by decide) (fun hz => ?_) (fun hz => ?_)
  · skip
    rw [show zbl (a 2) = 0 from if_pos hz] at hx
    refine z_iconst (pc := 933) (v := 0) C dL_law_933 (by decide) ?_
    refine z_callV (pc := 934) C zk_L_84 hx rfl rfl (by decide) rfl rfl (Nat.le_of_ble_eq_true rfl) dL_law_934 (fun r g q => ?_)
    obtain ⟨v, rfl, hm⟩ := q
    simp only [Option.toList, List.cons_append, List.nil_append]
    refine z_pop (pc := 937) C dL_law_937 ?_
    refine z_aload_n (pc := 938) C dL_law_938 rfl ?_
    refine z_aload_n (pc := 939) C dL_law_939 rfl ?_
    refine z_iload_n (pc := 940) C dL_law_940 rfl ?_
    refine z_iconst (pc := 941) (v := 1) C dL_law_941 (by decide) ?_
    refine z_iadd (pc := 942) C dL_law_942 ?_
    refine z_sldk (pc := 943) (b := b) (k := 1) C hs (nI_add b 1) (by omega) (by omega) dL_law_943 ?_
    rw [ha 1]
    refine z_aload_n (pc := 944) C dL_law_944 rfl ?_
    refine z_iload_n (pc := 945) C dL_law_945 rfl ?_
    refine z_iconst (pc := 946) (v := 2) C dL_law_946 (by decide) ?_
    refine z_iadd (pc := 947) C dL_law_947 ?_
    refine z_sldk (pc := 948) (b := b) (k := 2) C hs (nI_add b 2) (by omega) (by omega) dL_law_948 ?_
    rw [ha 2]
    refine z_if_eq (pc := 949) 956 C dL_law_949 (by decide) (fun _ => ?_) (fun h => absurd hz h)
    refine z_iconst (pc := 956) (v := 0) C dL_law_956 (by decide) ?_
    refine z_callV (pc := 957) C zk_L_88 hm rfl rfl (by decide) rfl rfl (Nat.le_of_ble_eq_true rfl) dL_law_957 (fun r2 g2 q2 => ?_)
    obtain ⟨⟨v2, rfl⟩, hJ⟩ := q2
    simp only [Option.toList, List.cons_append, List.nil_append]
    refine z_pop (pc := 960) C dL_law_960 ?_
    refine z_goto (pc := 961) 1501 C dL_law_961 (by decide) ?_
    exact kk _ hJ
  · skip
    rw [show zbl (a 2) = 1 from if_neg hz] at hx
    refine z_iconst (pc := 929) (v := 1) C dL_law_929 (by decide) ?_
    refine z_goto (pc := 930) 934 C dL_law_930 (by decide) ?_
    refine z_callV (pc := 934) C zk_L_84 hx rfl rfl (by decide) rfl rfl (Nat.le_of_ble_eq_true rfl) dL_law_934 (fun r g q => ?_)
    obtain ⟨v, rfl, hm⟩ := q
    simp only [Option.toList, List.cons_append, List.nil_append]
    refine z_pop (pc := 937) C dL_law_937 ?_
    refine z_aload_n (pc := 938) C dL_law_938 rfl ?_
    refine z_aload_n (pc := 939) C dL_law_939 rfl ?_
    refine z_iload_n (pc := 940) C dL_law_940 rfl ?_
    refine z_iconst (pc := 941) (v := 1) C dL_law_941 (by decide) ?_
    refine z_iadd (pc := 942) C dL_law_942 ?_
    refine z_sldk (pc := 943) (b := b) (k := 1) C hs (nI_add b 1) (by omega) (by omega) dL_law_943 ?_
    rw [ha 1]
    refine z_aload_n (pc := 944) C dL_law_944 rfl ?_
    refine z_iload_n (pc := 945) C dL_law_945 rfl ?_
    refine z_iconst (pc := 946) (v := 2) C dL_law_946 (by decide) ?_
    refine z_iadd (pc := 947) C dL_law_947 ?_
    refine z_sldk (pc := 948) (b := b) (k := 2) C hs (nI_add b 2) (by omega) (by omega) dL_law_948 ?_
    rw [ha 2]
    refine z_if_eq (pc := 949) 956 C dL_law_949 (by decide) (fun h => absurd h hz) (fun _ => ?_)
    refine z_iconst (pc := 952) (v := 1) C dL_law_952 (by decide) ?_
    refine z_goto (pc := 953) 957 C dL_law_953 (by decide) ?_
    refine z_callV (pc := 957) C zk_L_88 hm rfl rfl (by decide) rfl rfl (Nat.le_of_ble_eq_true rfl) dL_law_957 (fun r2 g2 q2 => ?_)
    obtain ⟨⟨v2, rfl⟩, hJ⟩ := q2
    simp only [Option.toList, List.cons_append, List.nil_append]
    refine z_pop (pc := 960) C dL_law_960 ?_
    refine z_goto (pc := 961) 1501 C dL_law_961 (by decide) ?_
    exact kk _ hJ
set_option maxRecDepth 100000 in
set_option maxHeartbeats 4000000 in
theorem law_16 {X : zX} {Ln b : Nat} {xs a : Nat → Int32} {f : zM} {J : zM → Prop} (C : zC X cL_law RL 15) (hn : znL X = 4) (hs : zXs X Ln xs) (hb : b + 7 ≤ Ln) (h31 : Ln < 2 ^ 31) (hT : zXst X) (ha : ∀ j, xs (b + j) = a j) (hx : zCall_16 f a J) (kk : ∀ g, J g → Z X 1501 [some (zr 44 0), some (zr 0 0), some (zr 25 0), some (zi (nI b))] [] g) : Z X 964 [some (zr 44 0), some (zr 0 0), some (zr 25 0), some (zi (nI b))] [] f := by
  unfold zCall_16 at hx
  refine z_aload_n (pc := 964) C dL_law_964 rfl ?_
  refine z_aload_n (pc := 965) C dL_law_965 rfl ?_
  refine z_iload_n (pc := 966) C dL_law_966 rfl ?_
  refine z_iconst (pc := 967) (v := 1) C dL_law_967 (by decide) ?_
  refine z_iadd (pc := 968) C dL_law_968 ?_
  refine z_sldk (pc := 969) (b := b) (k := 1) C hs (nI_add b 1) (by omega) (by omega) dL_law_969 ?_
  rw [ha 1]
  refine z_callV (pc := 970) C zk_L_89 hx rfl rfl (by decide) rfl rfl (Nat.le_of_ble_eq_true rfl) dL_law_970 (fun r g q => ?_)
  obtain ⟨v, rfl, hm⟩ := q
  simp only [Option.toList, List.cons_append, List.nil_append]
  refine z_pop (pc := 973) C dL_law_973 ?_
  refine z_aload_n (pc := 974) C dL_law_974 rfl ?_
  refine z_aload_n (pc := 975) C dL_law_975 rfl ?_
  refine z_iload_n (pc := 976) C dL_law_976 rfl ?_
  refine z_iconst (pc := 977) (v := 1) C dL_law_977 (by decide) ?_
  refine z_iadd (pc := 978) C dL_law_978 ?_
  refine z_sldk (pc := 979) (b := b) (k := 1) C hs (nI_add b 1) (by omega) (by omega) dL_law_979 ?_
  rw [ha 1]
  refine z_callV (pc := 980) C zk_L_92 hm rfl rfl (by decide) rfl rfl (Nat.le_of_ble_eq_true rfl) dL_law_980 (fun r2 g2 q2 => ?_)
  obtain ⟨⟨v2, rfl⟩, hJ⟩ := q2
  simp only [Option.toList, List.cons_append, List.nil_append]
  refine z_pop (pc := 983) C dL_law_983 ?_
  refine z_goto (pc := 984) 1501 C dL_law_984 (by decide) ?_
  exact kk _ hJ
set_option maxRecDepth 100000 in
set_option maxHeartbeats 4000000 in
theorem law_17 {X : zX} {Ln b : Nat} {xs a : Nat → Int32} {f : zM} {J : zM → Prop} (C : zC X cL_law RL 15) (hn : znL X = 4) (hs : zXs X Ln xs) (hb : b + 7 ≤ Ln) (h31 : Ln < 2 ^ 31) (hT : zXst X) (ha : ∀ j, xs (b + j) = a j) (hx : zCall_17 f a J) (kk : ∀ g, J g → Z X 1501 [some (zr 44 0), some (zr 0 0), some (zr 25 0), some (zi (nI b))] [] g) : Z X 987 [some (zr 44 0), some (zr 0 0), some (zr 25 0), some (zi (nI b))] [] f := by
  unfold zCall_17 at hx
  refine z_aload_n (pc := 987) C dL_law_987 rfl ?_
  refine z_aload_n (pc := 988) C dL_law_988 rfl ?_
  refine z_iload_n (pc := 989) C dL_law_989 rfl ?_
  refine z_iconst (pc := 990) (v := 1) C dL_law_990 (by decide) ?_
  refine z_iadd (pc := 991) C dL_law_991 ?_
  refine z_sldk (pc := 992) (b := b) (k := 1) C hs (nI_add b 1) (by omega) (by omega) dL_law_992 ?_
  rw [ha 1]
  refine z_callV (pc := 993) C zk_L_93 hx rfl rfl (by decide) rfl rfl (Nat.le_of_ble_eq_true rfl) dL_law_993 (fun r g q => ?_)
  obtain ⟨v, rfl, hm⟩ := q
  simp only [Option.toList, List.cons_append, List.nil_append]
  refine z_pop (pc := 996) C dL_law_996 ?_
  refine z_aload_n (pc := 997) C dL_law_997 rfl ?_
  refine z_aload_n (pc := 998) C dL_law_998 rfl ?_
  refine z_iload_n (pc := 999) C dL_law_999 rfl ?_
  refine z_iconst (pc := 1000) (v := 1) C dL_law_1000 (by decide) ?_
  refine z_iadd (pc := 1001) C dL_law_1001 ?_
  refine z_sldk (pc := 1002) (b := b) (k := 1) C hs (nI_add b 1) (by omega) (by omega) dL_law_1002 ?_
  rw [ha 1]
  refine z_callV (pc := 1003) C zk_L_96 hm rfl rfl (by decide) rfl rfl (Nat.le_of_ble_eq_true rfl) dL_law_1003 (fun r2 g2 q2 => ?_)
  obtain ⟨⟨v2, rfl⟩, hJ⟩ := q2
  simp only [Option.toList, List.cons_append, List.nil_append]
  refine z_pop (pc := 1006) C dL_law_1006 ?_
  refine z_goto (pc := 1007) 1501 C dL_law_1007 (by decide) ?_
  exact kk _ hJ
set_option maxRecDepth 100000 in
set_option maxHeartbeats 4000000 in
theorem law_18 {X : zX} {Ln b : Nat} {xs a : Nat → Int32} {f : zM} {J : zM → Prop} (C : zC X cL_law RL 15) (hn : znL X = 4) (hs : zXs X Ln xs) (hb : b + 7 ≤ Ln) (h31 : Ln < 2 ^ 31) (hT : zXst X) (ha : ∀ j, xs (b + j) = a j) (hx : zCall_18 f a J) (kk : ∀ g, J g → Z X 1501 [some (zr 44 0), some (zr 0 0), some (zr 25 0), some (zi (nI b))] [] g) : Z X 1010 [some (zr 44 0), some (zr 0 0), some (zr 25 0), some (zi (nI b))] [] f := by
  unfold zCall_18 at hx
  refine z_aload_n (pc := 1010) C dL_law_1010 rfl ?_
  refine z_aload_n (pc := 1011) C dL_law_1011 rfl ?_
  refine z_iload_n (pc := 1012) C dL_law_1012 rfl ?_
  refine z_iconst (pc := 1013) (v := 1) C dL_law_1013 (by decide) ?_
  refine z_iadd (pc := 1014) C dL_law_1014 ?_
  refine z_sldk (pc := 1015) (b := b) (k := 1) C hs (nI_add b 1) (by omega) (by omega) dL_law_1015 ?_
  rw [ha 1]
  refine z_callV (pc := 1016) C zk_L_97 hx rfl rfl (by decide) rfl rfl (Nat.le_of_ble_eq_true rfl) dL_law_1016 (fun r g q => ?_)
  obtain ⟨v, rfl, hm⟩ := q
  simp only [Option.toList, List.cons_append, List.nil_append]
  refine z_pop (pc := 1019) C dL_law_1019 ?_
  refine z_aload_n (pc := 1020) C dL_law_1020 rfl ?_
  refine z_aload_n (pc := 1021) C dL_law_1021 rfl ?_
  refine z_iload_n (pc := 1022) C dL_law_1022 rfl ?_
  refine z_iconst (pc := 1023) (v := 1) C dL_law_1023 (by decide) ?_
  refine z_iadd (pc := 1024) C dL_law_1024 ?_
  refine z_sldk (pc := 1025) (b := b) (k := 1) C hs (nI_add b 1) (by omega) (by omega) dL_law_1025 ?_
  rw [ha 1]
  refine z_callV (pc := 1026) C zk_L_100 hm rfl rfl (by decide) rfl rfl (Nat.le_of_ble_eq_true rfl) dL_law_1026 (fun r2 g2 q2 => ?_)
  obtain ⟨⟨v2, rfl⟩, hJ⟩ := q2
  simp only [Option.toList, List.cons_append, List.nil_append]
  refine z_pop (pc := 1029) C dL_law_1029 ?_
  refine z_goto (pc := 1030) 1501 C dL_law_1030 (by decide) ?_
  exact kk _ hJ
set_option maxRecDepth 100000 in
set_option maxHeartbeats 4000000 in
theorem law_19 {X : zX} {Ln b : Nat} {xs a : Nat → Int32} {f : zM} {J : zM → Prop} (C : zC X cL_law RL 15) (hn : znL X = 4) (hs : zXs X Ln xs) (hb : b + 7 ≤ Ln) (h31 : Ln < 2 ^ 31) (hT : zXst X) (ha : ∀ j, xs (b + j) = a j) (hx : zCall_19 f a J) (kk : ∀ g, J g → Z X 1501 [some (zr 44 0), some (zr 0 0), some (zr 25 0), some (zi (nI b))] [] g) : Z X 1033 [some (zr 44 0), some (zr 0 0), some (zr 25 0), some (zi (nI b))] [] f := by
  unfold zCall_19 at hx
  refine z_aload_n (pc := 1033) C dL_law_1033 rfl ?_
  refine z_aload_n (pc := 1034) C dL_law_1034 rfl ?_
  refine z_iload_n (pc := 1035) C dL_law_1035 rfl ?_
  refine z_iconst (pc := 1036) (v := 1) C dL_law_1036 (by decide) ?_
  refine z_iadd (pc := 1037) C dL_law_1037 ?_
  refine z_sldk (pc := 1038) (b := b) (k := 1) C hs (nI_add b 1) (by omega) (by omega) dL_law_1038 ?_
  rw [ha 1]
  refine z_aload_n (pc := 1039) C dL_law_1039 rfl ?_
  refine z_iload_n (pc := 1040) C dL_law_1040 rfl ?_
  refine z_iconst (pc := 1041) (v := 2) C dL_law_1041 (by decide) ?_
  refine z_iadd (pc := 1042) C dL_law_1042 ?_
  refine z_sldk (pc := 1043) (b := b) (k := 2) C hs (nI_add b 2) (by omega) (by omega) dL_law_1043 ?_
  rw [ha 2]
  refine z_callV (pc := 1044) C zk_L_101 hx rfl rfl (by decide) rfl rfl (Nat.le_of_ble_eq_true rfl) dL_law_1044 (fun r g q => ?_)
  obtain ⟨v, rfl, hm⟩ := q
  simp only [Option.toList, List.cons_append, List.nil_append]
  refine z_pop (pc := 1047) C dL_law_1047 ?_
  refine z_aload_n (pc := 1048) C dL_law_1048 rfl ?_
  refine z_aload_n (pc := 1049) C dL_law_1049 rfl ?_
  refine z_iload_n (pc := 1050) C dL_law_1050 rfl ?_
  refine z_iconst (pc := 1051) (v := 1) C dL_law_1051 (by decide) ?_
  refine z_iadd (pc := 1052) C dL_law_1052 ?_
  refine z_sldk (pc := 1053) (b := b) (k := 1) C hs (nI_add b 1) (by omega) (by omega) dL_law_1053 ?_
  rw [ha 1]
  refine z_aload_n (pc := 1054) C dL_law_1054 rfl ?_
  refine z_iload_n (pc := 1055) C dL_law_1055 rfl ?_
  refine z_iconst (pc := 1056) (v := 2) C dL_law_1056 (by decide) ?_
  refine z_iadd (pc := 1057) C dL_law_1057 ?_
  refine z_sldk (pc := 1058) (b := b) (k := 2) C hs (nI_add b 2) (by omega) (by omega) dL_law_1058 ?_
  rw [ha 2]
  refine z_callV (pc := 1059) C zk_L_104 hm rfl rfl (by decide) rfl rfl (Nat.le_of_ble_eq_true rfl) dL_law_1059 (fun r2 g2 q2 => ?_)
  obtain ⟨⟨v2, rfl⟩, hJ⟩ := q2
  simp only [Option.toList, List.cons_append, List.nil_append]
  refine z_pop (pc := 1062) C dL_law_1062 ?_
  refine z_goto (pc := 1063) 1501 C dL_law_1063 (by decide) ?_
  exact kk _ hJ
set_option maxRecDepth 100000 in
set_option maxHeartbeats 4000000 in
theorem law_20 {X : zX} {Ln b : Nat} {xs a : Nat → Int32} {f : zM} {J : zM → Prop} (C : zC X cL_law RL 15) (hn : znL X = 4) (hs : zXs X Ln xs) (hb : b + 7 ≤ Ln) (h31 : Ln < 2 ^ 31) (hT : zXst X) (ha : ∀ j, xs (b + j) = a j) (hx : zCall_20 f a J) (kk : ∀ g, J g → Z X 1501 [some (zr 44 0), some (zr 0 0), some (zr 25 0), some (zi (nI b))] [] g) : Z X 1066 [some (zr 44 0), some (zr 0 0), some (zr 25 0), some (zi (nI b))] [] f := by
  unfold zCall_20 at hx
  refine z_aload_n (pc := 1066) C dL_law_1066 rfl ?_
  refine z_aload_n (pc := 1067) C dL_law_1067 rfl ?_
  refine z_iload_n (pc := 1068) C dL_law_1068 rfl ?_
  refine z_iconst (pc := 1069) (v := 1) C dL_law_1069 (by decide) ?_
  refine z_iadd (pc := 1070) C dL_law_1070 ?_
  refine z_sldk (pc := 1071) (b := b) (k := 1) C hs (nI_add b 1) (by omega) (by omega) dL_law_1071 ?_
  rw [ha 1]
  refine z_callV (pc := 1072) C zk_L_105 hx rfl rfl (by decide) rfl rfl (Nat.le_of_ble_eq_true rfl) dL_law_1072 (fun r g q => ?_)
  obtain ⟨v, rfl, hm⟩ := q
  simp only [Option.toList, List.cons_append, List.nil_append]
  refine z_pop (pc := 1075) C dL_law_1075 ?_
  refine z_aload_n (pc := 1076) C dL_law_1076 rfl ?_
  refine z_aload_n (pc := 1077) C dL_law_1077 rfl ?_
  refine z_iload_n (pc := 1078) C dL_law_1078 rfl ?_
  refine z_iconst (pc := 1079) (v := 1) C dL_law_1079 (by decide) ?_
  refine z_iadd (pc := 1080) C dL_law_1080 ?_
  refine z_sldk (pc := 1081) (b := b) (k := 1) C hs (nI_add b 1) (by omega) (by omega) dL_law_1081 ?_
  rw [ha 1]
  refine z_callV (pc := 1082) C zk_L_108 hm rfl rfl (by decide) rfl rfl (Nat.le_of_ble_eq_true rfl) dL_law_1082 (fun r2 g2 q2 => ?_)
  obtain ⟨⟨v2, rfl⟩, hJ⟩ := q2
  simp only [Option.toList, List.cons_append, List.nil_append]
  refine z_pop (pc := 1085) C dL_law_1085 ?_
  refine z_goto (pc := 1086) 1501 C dL_law_1086 (by decide) ?_
  exact kk _ hJ
set_option maxRecDepth 100000 in
set_option maxHeartbeats 4000000 in
theorem law_21 {X : zX} {Ln b : Nat} {xs a : Nat → Int32} {f : zM} {J : zM → Prop} (C : zC X cL_law RL 15) (hn : znL X = 4) (hs : zXs X Ln xs) (hb : b + 7 ≤ Ln) (h31 : Ln < 2 ^ 31) (hT : zXst X) (ha : ∀ j, xs (b + j) = a j) (hx : zCall_21 f a J) (kk : ∀ g, J g → Z X 1501 [some (zr 44 0), some (zr 0 0), some (zr 25 0), some (zi (nI b))] [] g) : Z X 1089 [some (zr 44 0), some (zr 0 0), some (zr 25 0), some (zi (nI b))] [] f := by
  unfold zCall_21 at hx
  refine z_aload_n (pc := 1089) C dL_law_1089 rfl ?_
  refine z_callV (pc := 1090) C zk_L_109 hx rfl rfl (by decide) rfl rfl (Nat.le_of_ble_eq_true rfl) dL_law_1090 (fun r g q => ?_)
  obtain ⟨v, rfl, hm⟩ := q
  simp only [Option.toList, List.cons_append, List.nil_append]
  refine z_pop (pc := 1093) C dL_law_1093 ?_
  refine z_aload_n (pc := 1094) C dL_law_1094 rfl ?_
  refine z_callV (pc := 1095) C zk_L_112 hm rfl rfl (by decide) rfl rfl (Nat.le_of_ble_eq_true rfl) dL_law_1095 (fun r2 g2 q2 => ?_)
  obtain ⟨⟨v2, rfl⟩, hJ⟩ := q2
  simp only [Option.toList, List.cons_append, List.nil_append]
  refine z_pop (pc := 1098) C dL_law_1098 ?_
  refine z_goto (pc := 1099) 1501 C dL_law_1099 (by decide) ?_
  exact kk _ hJ
set_option maxRecDepth 100000 in
set_option maxHeartbeats 4000000 in
theorem law_22 {X : zX} {Ln b : Nat} {xs a : Nat → Int32} {f : zM} {J : zM → Prop} (C : zC X cL_law RL 15) (hn : znL X = 4) (hs : zXs X Ln xs) (hb : b + 7 ≤ Ln) (h31 : Ln < 2 ^ 31) (hT : zXst X) (ha : ∀ j, xs (b + j) = a j) (hx : zCall_22 f a J) (kk : ∀ g, J g → Z X 1501 [some (zr 44 0), some (zr 0 0), some (zr 25 0), some (zi (nI b))] [] g) : Z X 1102 [some (zr 44 0), some (zr 0 0), some (zr 25 0), some (zi (nI b))] [] f := by
  unfold zCall_22 at hx
  refine z_aload_n (pc := 1102) C dL_law_1102 rfl ?_
  refine z_aload_n (pc := 1103) C dL_law_1103 rfl ?_
  refine z_iload_n (pc := 1104) C dL_law_1104 rfl ?_
  refine z_iconst (pc := 1105) (v := 1) C dL_law_1105 (by decide) ?_
  refine z_iadd (pc := 1106) C dL_law_1106 ?_
  refine z_sldk (pc := 1107) (b := b) (k := 1) C hs (nI_add b 1) (by omega) (by omega) dL_law_1107 ?_
  rw [ha 1]
  refine z_aload_n (pc := 1108) C dL_law_1108 rfl ?_
  refine z_iload_n (pc := 1109) C dL_law_1109 rfl ?_
  refine z_iconst (pc := 1110) (v := 2) C dL_law_1110 (by decide) ?_
  refine z_iadd (pc := 1111) C dL_law_1111 ?_
  refine z_sldk (pc := 1112) (b := b) (k := 2) C hs (nI_add b 2) (by omega) (by omega) dL_law_1112 ?_
  rw [ha 2]
  refine z_aload_n (pc := 1113) C dL_law_1113 rfl ?_
  refine z_iload_n (pc := 1114) C dL_law_1114 rfl ?_
  refine z_iconst (pc := 1115) (v := 3) C dL_law_1115 (by decide) ?_
  refine z_iadd (pc := 1116) C dL_law_1116 ?_
  refine z_sldk (pc := 1117) (b := b) (k := 3) C hs (nI_add b 3) (by omega) (by omega) dL_law_1117 ?_
  rw [ha 3]
  refine z_callV (pc := 1118) C zk_L_113 hx rfl rfl (by decide) rfl rfl (Nat.le_of_ble_eq_true rfl) dL_law_1118 (fun r g q => ?_)
  obtain ⟨v, rfl, hm⟩ := q
  simp only [Option.toList, List.cons_append, List.nil_append]
  refine z_pop (pc := 1121) C dL_law_1121 ?_
  refine z_aload_n (pc := 1122) C dL_law_1122 rfl ?_
  refine z_aload_n (pc := 1123) C dL_law_1123 rfl ?_
  refine z_iload_n (pc := 1124) C dL_law_1124 rfl ?_
  refine z_iconst (pc := 1125) (v := 1) C dL_law_1125 (by decide) ?_
  refine z_iadd (pc := 1126) C dL_law_1126 ?_
  refine z_sldk (pc := 1127) (b := b) (k := 1) C hs (nI_add b 1) (by omega) (by omega) dL_law_1127 ?_
  rw [ha 1]
  refine z_aload_n (pc := 1128) C dL_law_1128 rfl ?_
  refine z_iload_n (pc := 1129) C dL_law_1129 rfl ?_
  refine z_iconst (pc := 1130) (v := 2) C dL_law_1130 (by decide) ?_
  refine z_iadd (pc := 1131) C dL_law_1131 ?_
  refine z_sldk (pc := 1132) (b := b) (k := 2) C hs (nI_add b 2) (by omega) (by omega) dL_law_1132 ?_
  rw [ha 2]
  refine z_aload_n (pc := 1133) C dL_law_1133 rfl ?_
  refine z_iload_n (pc := 1134) C dL_law_1134 rfl ?_
  refine z_iconst (pc := 1135) (v := 3) C dL_law_1135 (by decide) ?_
  refine z_iadd (pc := 1136) C dL_law_1136 ?_
  refine z_sldk (pc := 1137) (b := b) (k := 3) C hs (nI_add b 3) (by omega) (by omega) dL_law_1137 ?_
  rw [ha 3]
  refine z_callV (pc := 1138) C zk_L_116 hm rfl rfl (by decide) rfl rfl (Nat.le_of_ble_eq_true rfl) dL_law_1138 (fun r2 g2 q2 => ?_)
  obtain ⟨⟨v2, rfl⟩, hJ⟩ := q2
  simp only [Option.toList, List.cons_append, List.nil_append]
  refine z_pop (pc := 1141) C dL_law_1141 ?_
  refine z_goto (pc := 1142) 1501 C dL_law_1142 (by decide) ?_
  exact kk _ hJ
set_option maxRecDepth 100000 in
set_option maxHeartbeats 4000000 in
theorem law_23 {X : zX} {Ln b : Nat} {xs a : Nat → Int32} {f : zM} {J : zM → Prop} (C : zC X cL_law RL 15) (hn : znL X = 4) (hs : zXs X Ln xs) (hb : b + 7 ≤ Ln) (h31 : Ln < 2 ^ 31) (hT : zXst X) (ha : ∀ j, xs (b + j) = a j) (hx : zCall_23 f a J) (kk : ∀ g, J g → Z X 1501 [some (zr 44 0), some (zr 0 0), some (zr 25 0), some (zi (nI b))] [] g) : Z X 1145 [some (zr 44 0), some (zr 0 0), some (zr 25 0), some (zi (nI b))] [] f := by
  unfold zCall_23 at hx
  refine z_aload_n (pc := 1145) C dL_law_1145 rfl ?_
  refine z_callV (pc := 1146) C zk_L_117 hx rfl rfl (by decide) rfl rfl (Nat.le_of_ble_eq_true rfl) dL_law_1146 (fun r g q => ?_)
  obtain ⟨v, rfl, hm⟩ := q
  simp only [Option.toList, List.cons_append, List.nil_append]
  refine z_pop (pc := 1149) C dL_law_1149 ?_
  refine z_aload_n (pc := 1150) C dL_law_1150 rfl ?_
  refine z_callV (pc := 1151) C zk_L_120 hm rfl rfl (by decide) rfl rfl (Nat.le_of_ble_eq_true rfl) dL_law_1151 (fun r2 g2 q2 => ?_)
  obtain ⟨⟨v2, rfl⟩, hJ⟩ := q2
  simp only [Option.toList, List.cons_append, List.nil_append]
  refine z_pop (pc := 1154) C dL_law_1154 ?_
  refine z_goto (pc := 1155) 1501 C dL_law_1155 (by decide) ?_
  exact kk _ hJ
set_option maxRecDepth 100000 in
set_option maxHeartbeats 4000000 in
theorem law_24 {X : zX} {Ln b : Nat} {xs a : Nat → Int32} {f : zM} {J : zM → Prop} (C : zC X cL_law RL 15) (hn : znL X = 4) (hs : zXs X Ln xs) (hb : b + 7 ≤ Ln) (h31 : Ln < 2 ^ 31) (hT : zXst X) (ha : ∀ j, xs (b + j) = a j) (hx : zCall_24 f a J) (kk : ∀ g, J g → Z X 1501 [some (zr 44 0), some (zr 0 0), some (zr 25 0), some (zi (nI b))] [] g) : Z X 1158 [some (zr 44 0), some (zr 0 0), some (zr 25 0), some (zi (nI b))] [] f := by
  unfold zCall_24 at hx
  refine z_aload_n (pc := 1158) C dL_law_1158 rfl ?_
  refine z_aload_n (pc := 1159) C dL_law_1159 rfl ?_
  refine z_iload_n (pc := 1160) C dL_law_1160 rfl ?_
  refine z_iconst (pc := 1161) (v := 1) C dL_law_1161 (by decide) ?_
  refine z_iadd (pc := 1162) C dL_law_1162 ?_
  refine z_sldk (pc := 1163) (b := b) (k := 1) C hs (nI_add b 1) (by omega) (by omega) dL_law_1163 ?_
  rw [ha 1]
  refine z_callV (pc := 1164) C zk_L_121 hx rfl rfl (by decide) rfl rfl (Nat.le_of_ble_eq_true rfl) dL_law_1164 (fun r g q => ?_)
  obtain ⟨v, rfl, hm⟩ := q
  simp only [Option.toList, List.cons_append, List.nil_append]
  refine z_pop (pc := 1167) C dL_law_1167 ?_
  refine z_aload_n (pc := 1168) C dL_law_1168 rfl ?_
  refine z_aload_n (pc := 1169) C dL_law_1169 rfl ?_
  refine z_iload_n (pc := 1170) C dL_law_1170 rfl ?_
  refine z_iconst (pc := 1171) (v := 1) C dL_law_1171 (by decide) ?_
  refine z_iadd (pc := 1172) C dL_law_1172 ?_
  refine z_sldk (pc := 1173) (b := b) (k := 1) C hs (nI_add b 1) (by omega) (by omega) dL_law_1173 ?_
  rw [ha 1]
  refine z_callV (pc := 1174) C zk_L_124 hm rfl rfl (by decide) rfl rfl (Nat.le_of_ble_eq_true rfl) dL_law_1174 (fun r2 g2 q2 => ?_)
  obtain ⟨⟨v2, rfl⟩, hJ⟩ := q2
  simp only [Option.toList, List.cons_append, List.nil_append]
  refine z_pop (pc := 1177) C dL_law_1177 ?_
  refine z_goto (pc := 1178) 1501 C dL_law_1178 (by decide) ?_
  exact kk _ hJ
set_option maxRecDepth 100000 in
set_option maxHeartbeats 4000000 in
theorem law_25 {X : zX} {Ln b : Nat} {xs a : Nat → Int32} {f : zM} {J : zM → Prop} (C : zC X cL_law RL 15) (hn : znL X = 4) (hs : zXs X Ln xs) (hb : b + 7 ≤ Ln) (h31 : Ln < 2 ^ 31) (hT : zXst X) (ha : ∀ j, xs (b + j) = a j) (hx : zCall_25 f a J) (kk : ∀ g, J g → Z X 1501 [some (zr 44 0), some (zr 0 0), some (zr 25 0), some (zi (nI b))] [] g) : Z X 1181 [some (zr 44 0), some (zr 0 0), some (zr 25 0), some (zi (nI b))] [] f := by
  unfold zCall_25 at hx
  refine z_aload_n (pc := 1181) C dL_law_1181 rfl ?_
  refine z_aload_n (pc := 1182) C dL_law_1182 rfl ?_
  refine z_iload_n (pc := 1183) C dL_law_1183 rfl ?_
  refine z_iconst (pc := 1184) (v := 1) C dL_law_1184 (by decide) ?_
  refine z_iadd (pc := 1185) C dL_law_1185 ?_
  refine z_sldk (pc := 1186) (b := b) (k := 1) C hs (nI_add b 1) (by omega) (by omega) dL_law_1186 ?_
  rw [ha 1]
  refine z_aload_n (pc := 1187) C dL_law_1187 rfl ?_
  refine z_iload_n (pc := 1188) C dL_law_1188 rfl ?_
  refine z_iconst (pc := 1189) (v := 2) C dL_law_1189 (by decide) ?_
  refine z_iadd (pc := 1190) C dL_law_1190 ?_
  refine z_sldk (pc := 1191) (b := b) (k := 2) C hs (nI_add b 2) (by omega) (by omega) dL_law_1191 ?_
  rw [ha 2]
  refine z_aload_n (pc := 1192) C dL_law_1192 rfl ?_
  refine z_iload_n (pc := 1193) C dL_law_1193 rfl ?_
  refine z_iconst (pc := 1194) (v := 3) C dL_law_1194 (by decide) ?_
  refine z_iadd (pc := 1195) C dL_law_1195 ?_
  refine z_sldk (pc := 1196) (b := b) (k := 3) C hs (nI_add b 3) (by omega) (by omega) dL_law_1196 ?_
  rw [ha 3]
  refine z_callV (pc := 1197) C zk_L_125 hx rfl rfl (by decide) rfl rfl (Nat.le_of_ble_eq_true rfl) dL_law_1197 (fun r g q => ?_)
  obtain ⟨v, rfl, hm⟩ := q
  simp only [Option.toList, List.cons_append, List.nil_append]
  refine z_pop (pc := 1200) C dL_law_1200 ?_
  refine z_aload_n (pc := 1201) C dL_law_1201 rfl ?_
  refine z_aload_n (pc := 1202) C dL_law_1202 rfl ?_
  refine z_iload_n (pc := 1203) C dL_law_1203 rfl ?_
  refine z_iconst (pc := 1204) (v := 1) C dL_law_1204 (by decide) ?_
  refine z_iadd (pc := 1205) C dL_law_1205 ?_
  refine z_sldk (pc := 1206) (b := b) (k := 1) C hs (nI_add b 1) (by omega) (by omega) dL_law_1206 ?_
  rw [ha 1]
  refine z_aload_n (pc := 1207) C dL_law_1207 rfl ?_
  refine z_iload_n (pc := 1208) C dL_law_1208 rfl ?_
  refine z_iconst (pc := 1209) (v := 2) C dL_law_1209 (by decide) ?_
  refine z_iadd (pc := 1210) C dL_law_1210 ?_
  refine z_sldk (pc := 1211) (b := b) (k := 2) C hs (nI_add b 2) (by omega) (by omega) dL_law_1211 ?_
  rw [ha 2]
  refine z_aload_n (pc := 1212) C dL_law_1212 rfl ?_
  refine z_iload_n (pc := 1213) C dL_law_1213 rfl ?_
  refine z_iconst (pc := 1214) (v := 3) C dL_law_1214 (by decide) ?_
  refine z_iadd (pc := 1215) C dL_law_1215 ?_
  refine z_sldk (pc := 1216) (b := b) (k := 3) C hs (nI_add b 3) (by omega) (by omega) dL_law_1216 ?_
  rw [ha 3]
  refine z_callV (pc := 1217) C zk_L_128 hm rfl rfl (by decide) rfl rfl (Nat.le_of_ble_eq_true rfl) dL_law_1217 (fun r2 g2 q2 => ?_)
  obtain ⟨⟨v2, rfl⟩, hJ⟩ := q2
  simp only [Option.toList, List.cons_append, List.nil_append]
  refine z_pop (pc := 1220) C dL_law_1220 ?_
  refine z_goto (pc := 1221) 1501 C dL_law_1221 (by decide) ?_
  exact kk _ hJ
set_option maxRecDepth 100000 in
set_option maxHeartbeats 4000000 in
theorem law_26 {X : zX} {Ln b : Nat} {xs a : Nat → Int32} {f : zM} {J : zM → Prop} (C : zC X cL_law RL 15) (hn : znL X = 4) (hs : zXs X Ln xs) (hb : b + 7 ≤ Ln) (h31 : Ln < 2 ^ 31) (hT : zXst X) (ha : ∀ j, xs (b + j) = a j) (hx : zCall_26 f a J) (kk : ∀ g, J g → Z X 1501 [some (zr 44 0), some (zr 0 0), some (zr 25 0), some (zi (nI b))] [] g) : Z X 1224 [some (zr 44 0), some (zr 0 0), some (zr 25 0), some (zi (nI b))] [] f := by
  unfold zCall_26 at hx
  refine z_aload_n (pc := 1224) C dL_law_1224 rfl ?_
  refine z_aload_n (pc := 1225) C dL_law_1225 rfl ?_
  refine z_iload_n (pc := 1226) C dL_law_1226 rfl ?_
  refine z_iconst (pc := 1227) (v := 1) C dL_law_1227 (by decide) ?_
  refine z_iadd (pc := 1228) C dL_law_1228 ?_
  refine z_sldk (pc := 1229) (b := b) (k := 1) C hs (nI_add b 1) (by omega) (by omega) dL_law_1229 ?_
  rw [ha 1]
  refine z_callV (pc := 1230) C zk_L_129 hx rfl rfl (by decide) rfl rfl (Nat.le_of_ble_eq_true rfl) dL_law_1230 (fun r g q => ?_)
  obtain ⟨v, rfl, hm⟩ := q
  simp only [Option.toList, List.cons_append, List.nil_append]
  refine z_pop (pc := 1233) C dL_law_1233 ?_
  refine z_aload_n (pc := 1234) C dL_law_1234 rfl ?_
  refine z_aload_n (pc := 1235) C dL_law_1235 rfl ?_
  refine z_iload_n (pc := 1236) C dL_law_1236 rfl ?_
  refine z_iconst (pc := 1237) (v := 1) C dL_law_1237 (by decide) ?_
  refine z_iadd (pc := 1238) C dL_law_1238 ?_
  refine z_sldk (pc := 1239) (b := b) (k := 1) C hs (nI_add b 1) (by omega) (by omega) dL_law_1239 ?_
  rw [ha 1]
  refine z_callV (pc := 1240) C zk_L_132 hm rfl rfl (by decide) rfl rfl (Nat.le_of_ble_eq_true rfl) dL_law_1240 (fun r2 g2 q2 => ?_)
  obtain ⟨⟨v2, rfl⟩, hJ⟩ := q2
  simp only [Option.toList, List.cons_append, List.nil_append]
  refine z_pop (pc := 1243) C dL_law_1243 ?_
  refine z_goto (pc := 1244) 1501 C dL_law_1244 (by decide) ?_
  exact kk _ hJ
set_option maxRecDepth 100000 in
set_option maxHeartbeats 4000000 in
theorem law_27 {X : zX} {Ln b : Nat} {xs a : Nat → Int32} {f : zM} {J : zM → Prop} (C : zC X cL_law RL 15) (hn : znL X = 4) (hs : zXs X Ln xs) (hb : b + 7 ≤ Ln) (h31 : Ln < 2 ^ 31) (hT : zXst X) (ha : ∀ j, xs (b + j) = a j) (hx : zCall_27 f a J) (kk : ∀ g, J g → Z X 1501 [some (zr 44 0), some (zr 0 0), some (zr 25 0), some (zi (nI b))] [] g) : Z X 1247 [some (zr 44 0), some (zr 0 0), some (zr 25 0), some (zi (nI b))] [] f := by
  unfold zCall_27 at hx
  refine z_aload_n (pc := 1247) C dL_law_1247 rfl ?_
  refine z_aload_n (pc := 1248) C dL_law_1248 rfl ?_
  refine z_iload_n (pc := 1249) C dL_law_1249 rfl ?_
  refine z_iconst (pc := 1250) (v := 1) C dL_law_1250 (by decide) ?_
  refine z_iadd (pc := 1251) C dL_law_1251 ?_
  refine z_sldk (pc := 1252) (b := b) (k := 1) C hs (nI_add b 1) (by omega) (by omega) dL_law_1252 ?_
  rw [ha 1]
  refine z_aload_n (pc := 1253) C dL_law_1253 rfl ?_
  refine z_iload_n (pc := 1254) C dL_law_1254 rfl ?_
  refine z_iconst (pc := 1255) (v := 2) C dL_law_1255 (by decide) ?_
  refine z_iadd (pc := 1256) C dL_law_1256 ?_
  refine z_sldk (pc := 1257) (b := b) (k := 2) C hs (nI_add b 2) (by omega) (by omega) dL_law_1257 ?_
  rw [ha 2]
  refine z_callV (pc := 1258) C zk_L_133 hx rfl rfl (by decide) rfl rfl (Nat.le_of_ble_eq_true rfl) dL_law_1258 (fun r g q => ?_)
  obtain ⟨v, rfl, hm⟩ := q
  simp only [Option.toList, List.cons_append, List.nil_append]
  refine z_pop (pc := 1261) C dL_law_1261 ?_
  refine z_aload_n (pc := 1262) C dL_law_1262 rfl ?_
  refine z_aload_n (pc := 1263) C dL_law_1263 rfl ?_
  refine z_iload_n (pc := 1264) C dL_law_1264 rfl ?_
  refine z_iconst (pc := 1265) (v := 1) C dL_law_1265 (by decide) ?_
  refine z_iadd (pc := 1266) C dL_law_1266 ?_
  refine z_sldk (pc := 1267) (b := b) (k := 1) C hs (nI_add b 1) (by omega) (by omega) dL_law_1267 ?_
  rw [ha 1]
  refine z_aload_n (pc := 1268) C dL_law_1268 rfl ?_
  refine z_iload_n (pc := 1269) C dL_law_1269 rfl ?_
  refine z_iconst (pc := 1270) (v := 2) C dL_law_1270 (by decide) ?_
  refine z_iadd (pc := 1271) C dL_law_1271 ?_
  refine z_sldk (pc := 1272) (b := b) (k := 2) C hs (nI_add b 2) (by omega) (by omega) dL_law_1272 ?_
  rw [ha 2]
  refine z_callV (pc := 1273) C zk_L_136 hm rfl rfl (by decide) rfl rfl (Nat.le_of_ble_eq_true rfl) dL_law_1273 (fun r2 g2 q2 => ?_)
  obtain ⟨⟨v2, rfl⟩, hJ⟩ := q2
  simp only [Option.toList, List.cons_append, List.nil_append]
  refine z_pop (pc := 1276) C dL_law_1276 ?_
  refine z_goto (pc := 1277) 1501 C dL_law_1277 (by decide) ?_
  exact kk _ hJ
set_option maxRecDepth 100000 in
set_option maxHeartbeats 4000000 in
theorem law_28 {X : zX} {Ln b : Nat} {xs a : Nat → Int32} {f : zM} {J : zM → Prop} (C : zC X cL_law RL 15) (hn : znL X = 4) (hs : zXs X Ln xs) (hb : b + 7 ≤ Ln) (h31 : Ln < 2 ^ 31) (hT : zXst X) (ha : ∀ j, xs (b + j) = a j) (hx : zCall_28 f a J) (kk : ∀ g, J g → Z X 1501 [some (zr 44 0), some (zr 0 0), some (zr 25 0), some (zi (nI b))] [] g) : Z X 1280 [some (zr 44 0), some (zr 0 0), some (zr 25 0), some (zi (nI b))] [] f := by
  unfold zCall_28 at hx
  refine z_aload_n (pc := 1280) C dL_law_1280 rfl ?_
  refine z_aload_n (pc := 1281) C dL_law_1281 rfl ?_
  refine z_iload_n (pc := 1282) C dL_law_1282 rfl ?_
  refine z_iconst (pc := 1283) (v := 1) C dL_law_1283 (by decide) ?_
  refine z_iadd (pc := 1284) C dL_law_1284 ?_
  refine z_sldk (pc := 1285) (b := b) (k := 1) C hs (nI_add b 1) (by omega) (by omega) dL_law_1285 ?_
  rw [ha 1]
  refine z_aload_n (pc := 1286) C dL_law_1286 rfl ?_
  refine z_iload_n (pc := 1287) C dL_law_1287 rfl ?_
  refine z_iconst (pc := 1288) (v := 2) C dL_law_1288 (by decide) ?_
  refine z_iadd (pc := 1289) C dL_law_1289 ?_
  refine z_sldk (pc := 1290) (b := b) (k := 2) C hs (nI_add b 2) (by omega) (by omega) dL_law_1290 ?_
  rw [ha 2]
  refine z_callV (pc := 1291) C zk_L_137 hx rfl rfl (by decide) rfl rfl (Nat.le_of_ble_eq_true rfl) dL_law_1291 (fun r g q => ?_)
  obtain ⟨v, rfl, hm⟩ := q
  simp only [Option.toList, List.cons_append, List.nil_append]
  refine z_aload_n (pc := 1294) C dL_law_1294 rfl ?_
  refine z_aload_n (pc := 1295) C dL_law_1295 rfl ?_
  refine z_iload_n (pc := 1296) C dL_law_1296 rfl ?_
  refine z_iconst (pc := 1297) (v := 1) C dL_law_1297 (by decide) ?_
  refine z_iadd (pc := 1298) C dL_law_1298 ?_
  refine z_sldk (pc := 1299) (b := b) (k := 1) C hs (nI_add b 1) (by omega) (by omega) dL_law_1299 ?_
  rw [ha 1]
  refine z_aload_n (pc := 1300) C dL_law_1300 rfl ?_
  refine z_iload_n (pc := 1301) C dL_law_1301 rfl ?_
  refine z_iconst (pc := 1302) (v := 2) C dL_law_1302 (by decide) ?_
  refine z_iadd (pc := 1303) C dL_law_1303 ?_
  refine z_sldk (pc := 1304) (b := b) (k := 2) C hs (nI_add b 2) (by omega) (by omega) dL_law_1304 ?_
  rw [ha 2]
  refine z_callV (pc := 1305) C zk_L_140 hm rfl rfl (by decide) rfl rfl (Nat.le_of_ble_eq_true rfl) dL_law_1305 (fun r2 g2 q2 => ?_)
  obtain ⟨rfl, hJ⟩ := q2
  simp only [Option.toList, List.cons_append, List.nil_append]
  refine z_icmp_eq (pc := 1308) 1501 C dL_law_1308 (by decide) (fun _ => ?_) (fun h => absurd rfl h)
  exact kk _ hJ
set_option maxRecDepth 100000 in
set_option maxHeartbeats 4000000 in
theorem law_29 {X : zX} {Ln b : Nat} {xs a : Nat → Int32} {f : zM} {J : zM → Prop} (C : zC X cL_law RL 15) (hn : znL X = 4) (hs : zXs X Ln xs) (hb : b + 7 ≤ Ln) (h31 : Ln < 2 ^ 31) (hT : zXst X) (ha : ∀ j, xs (b + j) = a j) (hx : zCall_29 f a J) (kk : ∀ g, J g → Z X 1501 [some (zr 44 0), some (zr 0 0), some (zr 25 0), some (zi (nI b))] [] g) : Z X 1313 [some (zr 44 0), some (zr 0 0), some (zr 25 0), some (zi (nI b))] [] f := by
  unfold zCall_29 at hx
  refine z_aload_n (pc := 1313) C dL_law_1313 rfl ?_
  refine z_aload_n (pc := 1314) C dL_law_1314 rfl ?_
  refine z_iload_n (pc := 1315) C dL_law_1315 rfl ?_
  refine z_iconst (pc := 1316) (v := 1) C dL_law_1316 (by decide) ?_
  refine z_iadd (pc := 1317) C dL_law_1317 ?_
  refine z_sldk (pc := 1318) (b := b) (k := 1) C hs (nI_add b 1) (by omega) (by omega) dL_law_1318 ?_
  rw [ha 1]
  refine z_aload_n (pc := 1319) C dL_law_1319 rfl ?_
  refine z_iload_n (pc := 1320) C dL_law_1320 rfl ?_
  refine z_iconst (pc := 1321) (v := 2) C dL_law_1321 (by decide) ?_
  refine z_iadd (pc := 1322) C dL_law_1322 ?_
  refine z_sldk (pc := 1323) (b := b) (k := 2) C hs (nI_add b 2) (by omega) (by omega) dL_law_1323 ?_
  rw [ha 2]
  refine z_aload_n (pc := 1324) C dL_law_1324 rfl ?_
  refine z_iload_n (pc := 1325) C dL_law_1325 rfl ?_
  refine z_iconst (pc := 1326) (v := 3) C dL_law_1326 (by decide) ?_
  refine z_iadd (pc := 1327) C dL_law_1327 ?_
  refine z_sldk (pc := 1328) (b := b) (k := 3) C hs (nI_add b 3) (by omega) (by omega) dL_law_1328 ?_
  rw [ha 3]
  refine z_callV (pc := 1329) C zk_L_141 hx rfl rfl (by decide) rfl rfl (Nat.le_of_ble_eq_true rfl) dL_law_1329 (fun r g q => ?_)
  obtain ⟨v, rfl, hm⟩ := q
  simp only [Option.toList, List.cons_append, List.nil_append]
  refine z_pop (pc := 1332) C dL_law_1332 ?_
  refine z_aload_n (pc := 1333) C dL_law_1333 rfl ?_
  refine z_aload_n (pc := 1334) C dL_law_1334 rfl ?_
  refine z_iload_n (pc := 1335) C dL_law_1335 rfl ?_
  refine z_iconst (pc := 1336) (v := 1) C dL_law_1336 (by decide) ?_
  refine z_iadd (pc := 1337) C dL_law_1337 ?_
  refine z_sldk (pc := 1338) (b := b) (k := 1) C hs (nI_add b 1) (by omega) (by omega) dL_law_1338 ?_
  rw [ha 1]
  refine z_aload_n (pc := 1339) C dL_law_1339 rfl ?_
  refine z_iload_n (pc := 1340) C dL_law_1340 rfl ?_
  refine z_iconst (pc := 1341) (v := 2) C dL_law_1341 (by decide) ?_
  refine z_iadd (pc := 1342) C dL_law_1342 ?_
  refine z_sldk (pc := 1343) (b := b) (k := 2) C hs (nI_add b 2) (by omega) (by omega) dL_law_1343 ?_
  rw [ha 2]
  refine z_aload_n (pc := 1344) C dL_law_1344 rfl ?_
  refine z_iload_n (pc := 1345) C dL_law_1345 rfl ?_
  refine z_iconst (pc := 1346) (v := 3) C dL_law_1346 (by decide) ?_
  refine z_iadd (pc := 1347) C dL_law_1347 ?_
  refine z_sldk (pc := 1348) (b := b) (k := 3) C hs (nI_add b 3) (by omega) (by omega) dL_law_1348 ?_
  rw [ha 3]
  refine z_callV (pc := 1349) C zk_L_144 hm rfl rfl (by decide) rfl rfl (Nat.le_of_ble_eq_true rfl) dL_law_1349 (fun r2 g2 q2 => ?_)
  obtain ⟨⟨v2, rfl⟩, hJ⟩ := q2
  simp only [Option.toList, List.cons_append, List.nil_append]
  refine z_pop (pc := 1352) C dL_law_1352 ?_
  refine z_goto (pc := 1353) 1501 C dL_law_1353 (by decide) ?_
  exact kk _ hJ
set_option maxRecDepth 100000 in
set_option maxHeartbeats 4000000 in
theorem law_30 {X : zX} {Ln b : Nat} {xs a : Nat → Int32} {f : zM} {J : zM → Prop} (C : zC X cL_law RL 15) (hn : znL X = 4) (hs : zXs X Ln xs) (hb : b + 7 ≤ Ln) (h31 : Ln < 2 ^ 31) (hT : zXst X) (ha : ∀ j, xs (b + j) = a j) (hx : zCall_30 f a J) (kk : ∀ g, J g → Z X 1501 [some (zr 44 0), some (zr 0 0), some (zr 25 0), some (zi (nI b))] [] g) : Z X 1356 [some (zr 44 0), some (zr 0 0), some (zr 25 0), some (zi (nI b))] [] f := by
  unfold zCall_30 at hx
  refine z_aload_n (pc := 1356) C dL_law_1356 rfl ?_
  refine z_callV (pc := 1357) C zk_L_145 hx rfl rfl (by decide) rfl rfl (Nat.le_of_ble_eq_true rfl) dL_law_1357 (fun r g q => ?_)
  obtain ⟨v, rfl, hm⟩ := q
  simp only [Option.toList, List.cons_append, List.nil_append]
  refine z_pop (pc := 1360) C dL_law_1360 ?_
  refine z_aload_n (pc := 1361) C dL_law_1361 rfl ?_
  refine z_callV (pc := 1362) C zk_L_148 hm rfl rfl (by decide) rfl rfl (Nat.le_of_ble_eq_true rfl) dL_law_1362 (fun r2 g2 q2 => ?_)
  obtain ⟨⟨v2, rfl⟩, hJ⟩ := q2
  simp only [Option.toList, List.cons_append, List.nil_append]
  refine z_pop (pc := 1365) C dL_law_1365 ?_
  refine z_goto (pc := 1366) 1501 C dL_law_1366 (by decide) ?_
  exact kk _ hJ
set_option maxRecDepth 100000 in
set_option maxHeartbeats 4000000 in
theorem law_31 {X : zX} {Ln b : Nat} {xs a : Nat → Int32} {f : zM} {J : zM → Prop} (C : zC X cL_law RL 15) (hn : znL X = 4) (hs : zXs X Ln xs) (hb : b + 7 ≤ Ln) (h31 : Ln < 2 ^ 31) (hT : zXst X) (ha : ∀ j, xs (b + j) = a j) (hx : zCall_31 f a J) (kk : ∀ g, J g → Z X 1501 [some (zr 44 0), some (zr 0 0), some (zr 25 0), some (zi (nI b))] [] g) : Z X 1369 [some (zr 44 0), some (zr 0 0), some (zr 25 0), some (zi (nI b))] [] f := by
  unfold zCall_31 at hx
  refine z_aload_n (pc := 1369) C dL_law_1369 rfl ?_
  refine z_callV (pc := 1370) C zk_L_149 hx rfl rfl (by decide) rfl rfl (Nat.le_of_ble_eq_true rfl) dL_law_1370 (fun r g q => ?_)
  obtain ⟨v, rfl, hm⟩ := q
  simp only [Option.toList, List.cons_append, List.nil_append]
  refine z_pop (pc := 1373) C dL_law_1373 ?_
  refine z_aload_n (pc := 1374) C dL_law_1374 rfl ?_
  refine z_callV (pc := 1375) C zk_L_152 hm rfl rfl (by decide) rfl rfl (Nat.le_of_ble_eq_true rfl) dL_law_1375 (fun r2 g2 q2 => ?_)
  obtain ⟨⟨v2, rfl⟩, hJ⟩ := q2
  simp only [Option.toList, List.cons_append, List.nil_append]
  refine z_pop (pc := 1378) C dL_law_1378 ?_
  refine z_goto (pc := 1379) 1501 C dL_law_1379 (by decide) ?_
  exact kk _ hJ
set_option maxRecDepth 100000 in
set_option maxHeartbeats 4000000 in
theorem law_32 {X : zX} {Ln b : Nat} {xs a : Nat → Int32} {f : zM} {J : zM → Prop} (C : zC X cL_law RL 15) (hn : znL X = 4) (hs : zXs X Ln xs) (hb : b + 7 ≤ Ln) (h31 : Ln < 2 ^ 31) (hT : zXst X) (ha : ∀ j, xs (b + j) = a j) (hx : zCall_32 f a J) (kk : ∀ g, J g → Z X 1501 [some (zr 44 0), some (zr 0 0), some (zr 25 0), some (zi (nI b))] [] g) : Z X 1382 [some (zr 44 0), some (zr 0 0), some (zr 25 0), some (zi (nI b))] [] f := by
  unfold zCall_32 at hx
  refine z_aload_n (pc := 1382) C dL_law_1382 rfl ?_
  refine z_aload_n (pc := 1383) C dL_law_1383 rfl ?_
  refine z_iload_n (pc := 1384) C dL_law_1384 rfl ?_
  refine z_iconst (pc := 1385) (v := 1) C dL_law_1385 (by decide) ?_
  refine z_iadd (pc := 1386) C dL_law_1386 ?_
  refine z_sldk (pc := 1387) (b := b) (k := 1) C hs (nI_add b 1) (by omega) (by omega) dL_law_1387 ?_
  rw [ha 1]
  refine z_aload_n (pc := 1388) C dL_law_1388 rfl ?_
  refine z_iload_n (pc := 1389) C dL_law_1389 rfl ?_
  refine z_iconst (pc := 1390) (v := 2) C dL_law_1390 (by decide) ?_
  refine z_iadd (pc := 1391) C dL_law_1391 ?_
  refine z_sldk (pc := 1392) (b := b) (k := 2) C hs (nI_add b 2) (by omega) (by omega) dL_law_1392 ?_
  rw [ha 2]
  refine z_aload_n (pc := 1393) C dL_law_1393 rfl ?_
  refine z_iload_n (pc := 1394) C dL_law_1394 rfl ?_
  refine z_iconst (pc := 1395) (v := 3) C dL_law_1395 (by decide) ?_
  refine z_iadd (pc := 1396) C dL_law_1396 ?_
  refine z_sldk (pc := 1397) (b := b) (k := 3) C hs (nI_add b 3) (by omega) (by omega) dL_law_1397 ?_
  rw [ha 3]
  refine z_callV (pc := 1398) C zk_L_153 hx rfl rfl (by decide) rfl rfl (Nat.le_of_ble_eq_true rfl) dL_law_1398 (fun r g q => ?_)
  obtain ⟨v, rfl, hm⟩ := q
  simp only [Option.toList, List.cons_append, List.nil_append]
  refine z_pop (pc := 1401) C dL_law_1401 ?_
  refine z_aload_n (pc := 1402) C dL_law_1402 rfl ?_
  refine z_aload_n (pc := 1403) C dL_law_1403 rfl ?_
  refine z_iload_n (pc := 1404) C dL_law_1404 rfl ?_
  refine z_iconst (pc := 1405) (v := 1) C dL_law_1405 (by decide) ?_
  refine z_iadd (pc := 1406) C dL_law_1406 ?_
  refine z_sldk (pc := 1407) (b := b) (k := 1) C hs (nI_add b 1) (by omega) (by omega) dL_law_1407 ?_
  rw [ha 1]
  refine z_aload_n (pc := 1408) C dL_law_1408 rfl ?_
  refine z_iload_n (pc := 1409) C dL_law_1409 rfl ?_
  refine z_iconst (pc := 1410) (v := 2) C dL_law_1410 (by decide) ?_
  refine z_iadd (pc := 1411) C dL_law_1411 ?_
  refine z_sldk (pc := 1412) (b := b) (k := 2) C hs (nI_add b 2) (by omega) (by omega) dL_law_1412 ?_
  rw [ha 2]
  refine z_aload_n (pc := 1413) C dL_law_1413 rfl ?_
  refine z_iload_n (pc := 1414) C dL_law_1414 rfl ?_
  refine z_iconst (pc := 1415) (v := 3) C dL_law_1415 (by decide) ?_
  refine z_iadd (pc := 1416) C dL_law_1416 ?_
  refine z_sldk (pc := 1417) (b := b) (k := 3) C hs (nI_add b 3) (by omega) (by omega) dL_law_1417 ?_
  rw [ha 3]
  refine z_callV (pc := 1418) C zk_L_156 hm rfl rfl (by decide) rfl rfl (Nat.le_of_ble_eq_true rfl) dL_law_1418 (fun r2 g2 q2 => ?_)
  obtain ⟨⟨v2, rfl⟩, hJ⟩ := q2
  simp only [Option.toList, List.cons_append, List.nil_append]
  refine z_pop (pc := 1421) C dL_law_1421 ?_
  refine z_goto (pc := 1422) 1501 C dL_law_1422 (by decide) ?_
  exact kk _ hJ
set_option maxRecDepth 100000 in
set_option maxHeartbeats 4000000 in
theorem law_33 {X : zX} {Ln b : Nat} {xs a : Nat → Int32} {f : zM} {J : zM → Prop} (C : zC X cL_law RL 15) (hn : znL X = 4) (hs : zXs X Ln xs) (hb : b + 7 ≤ Ln) (h31 : Ln < 2 ^ 31) (hT : zXst X) (ha : ∀ j, xs (b + j) = a j) (hx : zCall_33 f a J) (kk : ∀ g, J g → Z X 1501 [some (zr 44 0), some (zr 0 0), some (zr 25 0), some (zi (nI b))] [] g) : Z X 1425 [some (zr 44 0), some (zr 0 0), some (zr 25 0), some (zi (nI b))] [] f := by
  unfold zCall_33 at hx
  refine z_aload_n (pc := 1425) C dL_law_1425 rfl ?_
  refine z_aload_n (pc := 1426) C dL_law_1426 rfl ?_
  refine z_iload_n (pc := 1427) C dL_law_1427 rfl ?_
  refine z_iconst (pc := 1428) (v := 1) C dL_law_1428 (by decide) ?_
  refine z_iadd (pc := 1429) C dL_law_1429 ?_
  refine z_sldk (pc := 1430) (b := b) (k := 1) C hs (nI_add b 1) (by omega) (by omega) dL_law_1430 ?_
  rw [ha 1]
  refine z_callV (pc := 1431) C zk_L_157 hx rfl rfl (by decide) rfl rfl (Nat.le_of_ble_eq_true rfl) dL_law_1431 (fun r g q => ?_)
  obtain ⟨v, rfl, hm⟩ := q
  simp only [Option.toList, List.cons_append, List.nil_append]
  refine z_pop (pc := 1434) C dL_law_1434 ?_
  refine z_aload_n (pc := 1435) C dL_law_1435 rfl ?_
  refine z_aload_n (pc := 1436) C dL_law_1436 rfl ?_
  refine z_iload_n (pc := 1437) C dL_law_1437 rfl ?_
  refine z_iconst (pc := 1438) (v := 1) C dL_law_1438 (by decide) ?_
  refine z_iadd (pc := 1439) C dL_law_1439 ?_
  refine z_sldk (pc := 1440) (b := b) (k := 1) C hs (nI_add b 1) (by omega) (by omega) dL_law_1440 ?_
  rw [ha 1]
  refine z_callV (pc := 1441) C zk_L_160 hm rfl rfl (by decide) rfl rfl (Nat.le_of_ble_eq_true rfl) dL_law_1441 (fun r2 g2 q2 => ?_)
  obtain ⟨⟨v2, rfl⟩, hJ⟩ := q2
  simp only [Option.toList, List.cons_append, List.nil_append]
  refine z_pop (pc := 1444) C dL_law_1444 ?_
  refine z_goto (pc := 1445) 1501 C dL_law_1445 (by decide) ?_
  exact kk _ hJ
set_option maxRecDepth 100000 in
set_option maxHeartbeats 4000000 in
theorem law_34 {X : zX} {Ln b : Nat} {xs a : Nat → Int32} {f : zM} {J : zM → Prop} (C : zC X cL_law RL 15) (hn : znL X = 4) (hs : zXs X Ln xs) (hb : b + 7 ≤ Ln) (h31 : Ln < 2 ^ 31) (hT : zXst X) (ha : ∀ j, xs (b + j) = a j) (hx : zCall_34 f a J) (kk : ∀ g, J g → Z X 1501 [some (zr 44 0), some (zr 0 0), some (zr 25 0), some (zi (nI b))] [] g) : Z X 1448 [some (zr 44 0), some (zr 0 0), some (zr 25 0), some (zi (nI b))] [] f := by
  unfold zCall_34 at hx
  refine z_aload_n (pc := 1448) C dL_law_1448 rfl ?_
  refine z_aload_n (pc := 1449) C dL_law_1449 rfl ?_
  refine z_iload_n (pc := 1450) C dL_law_1450 rfl ?_
  refine z_iconst (pc := 1451) (v := 1) C dL_law_1451 (by decide) ?_
  refine z_iadd (pc := 1452) C dL_law_1452 ?_
  refine z_sldk (pc := 1453) (b := b) (k := 1) C hs (nI_add b 1) (by omega) (by omega) dL_law_1453 ?_
  rw [ha 1]
  refine z_aload_n (pc := 1454) C dL_law_1454 rfl ?_
  refine z_iload_n (pc := 1455) C dL_law_1455 rfl ?_
  refine z_iconst (pc := 1456) (v := 2) C dL_law_1456 (by decide) ?_
  refine z_iadd (pc := 1457) C dL_law_1457 ?_
  refine z_sldk (pc := 1458) (b := b) (k := 2) C hs (nI_add b 2) (by omega) (by omega) dL_law_1458 ?_
  rw [ha 2]
  refine z_aload_n (pc := 1459) C dL_law_1459 rfl ?_
  refine z_iload_n (pc := 1460) C dL_law_1460 rfl ?_
  refine z_iconst (pc := 1461) (v := 3) C dL_law_1461 (by decide) ?_
  refine z_iadd (pc := 1462) C dL_law_1462 ?_
  refine z_sldk (pc := 1463) (b := b) (k := 3) C hs (nI_add b 3) (by omega) (by omega) dL_law_1463 ?_
  rw [ha 3]
  refine z_aload_n (pc := 1464) C dL_law_1464 rfl ?_
  refine z_iload_n (pc := 1465) C dL_law_1465 rfl ?_
  refine z_iconst (pc := 1466) (v := 4) C dL_law_1466 (by decide) ?_
  refine z_iadd (pc := 1467) C dL_law_1467 ?_
  refine z_sldk (pc := 1468) (b := b) (k := 4) C hs (nI_add b 4) (by omega) (by omega) dL_law_1468 ?_
  rw [ha 4]
  refine z_callV (pc := 1469) C zk_L_161 hx rfl rfl (by decide) rfl rfl (Nat.le_of_ble_eq_true rfl) dL_law_1469 (fun r g q => ?_)
  obtain ⟨v, rfl, hm⟩ := q
  simp only [Option.toList, List.cons_append, List.nil_append]
  refine z_pop (pc := 1472) C dL_law_1472 ?_
  refine z_aload_n (pc := 1473) C dL_law_1473 rfl ?_
  refine z_aload_n (pc := 1474) C dL_law_1474 rfl ?_
  refine z_iload_n (pc := 1475) C dL_law_1475 rfl ?_
  refine z_iconst (pc := 1476) (v := 1) C dL_law_1476 (by decide) ?_
  refine z_iadd (pc := 1477) C dL_law_1477 ?_
  refine z_sldk (pc := 1478) (b := b) (k := 1) C hs (nI_add b 1) (by omega) (by omega) dL_law_1478 ?_
  rw [ha 1]
  refine z_aload_n (pc := 1479) C dL_law_1479 rfl ?_
  refine z_iload_n (pc := 1480) C dL_law_1480 rfl ?_
  refine z_iconst (pc := 1481) (v := 2) C dL_law_1481 (by decide) ?_
  refine z_iadd (pc := 1482) C dL_law_1482 ?_
  refine z_sldk (pc := 1483) (b := b) (k := 2) C hs (nI_add b 2) (by omega) (by omega) dL_law_1483 ?_
  rw [ha 2]
  refine z_aload_n (pc := 1484) C dL_law_1484 rfl ?_
  refine z_iload_n (pc := 1485) C dL_law_1485 rfl ?_
  refine z_iconst (pc := 1486) (v := 3) C dL_law_1486 (by decide) ?_
  refine z_iadd (pc := 1487) C dL_law_1487 ?_
  refine z_sldk (pc := 1488) (b := b) (k := 3) C hs (nI_add b 3) (by omega) (by omega) dL_law_1488 ?_
  rw [ha 3]
  refine z_aload_n (pc := 1489) C dL_law_1489 rfl ?_
  refine z_iload_n (pc := 1490) C dL_law_1490 rfl ?_
  refine z_iconst (pc := 1491) (v := 4) C dL_law_1491 (by decide) ?_
  refine z_iadd (pc := 1492) C dL_law_1492 ?_
  refine z_sldk (pc := 1493) (b := b) (k := 4) C hs (nI_add b 4) (by omega) (by omega) dL_law_1493 ?_
  rw [ha 4]
  refine z_callV (pc := 1494) C zk_L_164 hm rfl rfl (by decide) rfl rfl (Nat.le_of_ble_eq_true rfl) dL_law_1494 (fun r2 g2 q2 => ?_)
  obtain ⟨⟨v2, rfl⟩, hJ⟩ := q2
  simp only [Option.toList, List.cons_append, List.nil_append]
  refine z_pop (pc := 1497) C dL_law_1497 ?_
  refine z_goto (pc := 1498) 1501 C dL_law_1498 (by decide) ?_
  exact kk _ hJ
