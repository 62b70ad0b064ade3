theorem dd_La_668 : decode code 668 = .ok (.aload_n 1, 1) := by decide +kernel
theorem dd_La_669 : decode code 669 = .ok (.invokevirtual 73, 3) := by decide +kernel
theorem dd_La_672 : decode code 672 = .ok (.aload_n 2, 1) := by decide +kernel
theorem dd_La_673 : decode code 673 = .ok (.invokevirtual 77, 3) := by decide +kernel
theorem dd_La_676 : decode code 676 = .ok (.if_icmp .eq 679, 3) := by decide +kernel
theorem dd_La_681 : decode code 681 = .ok (.aload_n 1, 1) := by decide +kernel
theorem dd_La_682 : decode code 682 = .ok (.aload_n 0, 1) := by decide +kernel
theorem dd_La_683 : decode code 683 = .ok (.iload_n 3, 1) := by decide +kernel
theorem dd_La_684 : decode code 684 = .ok (.iconst 1, 1) := by decide +kernel
theorem dd_La_685 : decode code 685 = .ok (.iadd, 1) := by decide +kernel
theorem dd_La_686 : decode code 686 = .ok (.iaload, 1) := by decide +kernel
theorem dd_La_687 : decode code 687 = .ok (.aload_n 0, 1) := by decide +kernel
theorem dd_La_688 : decode code 688 = .ok (.iload_n 3, 1) := by decide +kernel
theorem dd_La_689 : decode code 689 = .ok (.iconst 2, 1) := by decide +kernel
theorem dd_La_690 : decode code 690 = .ok (.iadd, 1) := by decide +kernel
theorem dd_La_691 : decode code 691 = .ok (.iaload, 1) := by decide +kernel
theorem dd_La_692 : decode code 692 = .ok (.invokevirtual 78, 3) := by decide +kernel
theorem dd_La_695 : decode code 695 = .ok (.aload_n 2, 1) := by decide +kernel
theorem dd_La_696 : decode code 696 = .ok (.aload_n 0, 1) := by decide +kernel
theorem dd_La_697 : decode code 697 = .ok (.iload_n 3, 1) := by decide +kernel
theorem dd_La_698 : decode code 698 = .ok (.iconst 1, 1) := by decide +kernel
theorem dd_La_699 : decode code 699 = .ok (.iadd, 1) := by decide +kernel
theorem dd_La_700 : decode code 700 = .ok (.iaload, 1) := by decide +kernel
theorem dd_La_701 : decode code 701 = .ok (.aload_n 0, 1) := by decide +kernel
theorem dd_La_702 : decode code 702 = .ok (.iload_n 3, 1) := by decide +kernel
theorem dd_La_703 : decode code 703 = .ok (.iconst 2, 1) := by decide +kernel
theorem dd_La_704 : decode code 704 = .ok (.iadd, 1) := by decide +kernel
theorem dd_La_705 : decode code 705 = .ok (.iaload, 1) := by decide +kernel
theorem dd_La_706 : decode code 706 = .ok (.invokevirtual 81, 3) := by decide +kernel
theorem dd_La_709 : decode code 709 = .ok (.if_icmp .eq 646, 3) := by decide +kernel
theorem dd_La_714 : decode code 714 = .ok (.aload_n 1, 1) := by decide +kernel
theorem dd_La_715 : decode code 715 = .ok (.aload_n 0, 1) := by decide +kernel
theorem dd_La_716 : decode code 716 = .ok (.iload_n 3, 1) := by decide +kernel
theorem dd_La_717 : decode code 717 = .ok (.iconst 1, 1) := by decide +kernel
theorem dd_La_718 : decode code 718 = .ok (.iadd, 1) := by decide +kernel
theorem dd_La_719 : decode code 719 = .ok (.iaload, 1) := by decide +kernel
theorem dd_La_720 : decode code 720 = .ok (.invokevirtual 82, 3) := by decide +kernel
theorem dd_La_723 : decode code 723 = .ok (.aload_n 2, 1) := by decide +kernel
theorem dd_La_724 : decode code 724 = .ok (.aload_n 0, 1) := by decide +kernel
theorem dd_La_725 : decode code 725 = .ok (.iload_n 3, 1) := by decide +kernel
theorem dd_La_726 : decode code 726 = .ok (.iconst 1, 1) := by decide +kernel
theorem dd_La_727 : decode code 727 = .ok (.iadd, 1) := by decide +kernel
theorem dd_La_728 : decode code 728 = .ok (.iaload, 1) := by decide +kernel
theorem dd_La_729 : decode code 729 = .ok (.invokevirtual 85, 3) := by decide +kernel
theorem dd_La_732 : decode code 732 = .ok (.if_icmp .eq 623, 3) := by decide +kernel
theorem dd_La_737 : decode code 737 = .ok (.aload_n 1, 1) := by decide +kernel
theorem dd_La_738 : decode code 738 = .ok (.aload_n 0, 1) := by decide +kernel
theorem dd_La_739 : decode code 739 = .ok (.iload_n 3, 1) := by decide +kernel
theorem dd_La_740 : decode code 740 = .ok (.iconst 1, 1) := by decide +kernel
theorem dd_La_741 : decode code 741 = .ok (.iadd, 1) := by decide +kernel
theorem dd_La_742 : decode code 742 = .ok (.iaload, 1) := by decide +kernel
theorem dd_La_743 : decode code 743 = .ok (.invokevirtual 86, 3) := by decide +kernel
theorem dd_La_746 : decode code 746 = .ok (.aload_n 2, 1) := by decide +kernel
theorem dd_La_747 : decode code 747 = .ok (.aload_n 0, 1) := by decide +kernel
theorem dd_La_748 : decode code 748 = .ok (.iload_n 3, 1) := by decide +kernel
theorem dd_La_749 : decode code 749 = .ok (.iconst 1, 1) := by decide +kernel
theorem dd_La_750 : decode code 750 = .ok (.iadd, 1) := by decide +kernel
theorem dd_La_751 : decode code 751 = .ok (.iaload, 1) := by decide +kernel
theorem dd_La_752 : decode code 752 = .ok (.invokevirtual 89, 3) := by decide +kernel
theorem dd_La_755 : decode code 755 = .ok (.if_icmp .eq 600, 3) := by decide +kernel
theorem dd_La_760 : decode code 760 = .ok (.aload_n 1, 1) := by decide +kernel
theorem dd_La_761 : decode code 761 = .ok (.aload_n 0, 1) := by decide +kernel
theorem dd_La_762 : decode code 762 = .ok (.iload_n 3, 1) := by decide +kernel
theorem dd_La_763 : decode code 763 = .ok (.iconst 1, 1) := by decide +kernel
theorem dd_La_764 : decode code 764 = .ok (.iadd, 1) := by decide +kernel
theorem dd_La_765 : decode code 765 = .ok (.iaload, 1) := by decide +kernel
theorem dd_La_766 : decode code 766 = .ok (.invokevirtual 90, 3) := by decide +kernel
theorem dd_La_769 : decode code 769 = .ok (.aload_n 2, 1) := by decide +kernel
theorem dd_La_770 : decode code 770 = .ok (.aload_n 0, 1) := by decide +kernel
theorem dd_La_771 : decode code 771 = .ok (.iload_n 3, 1) := by decide +kernel
theorem dd_La_772 : decode code 772 = .ok (.iconst 1, 1) := by decide +kernel
theorem dd_La_773 : decode code 773 = .ok (.iadd, 1) := by decide +kernel
theorem dd_La_774 : decode code 774 = .ok (.iaload, 1) := by decide +kernel
theorem dd_La_775 : decode code 775 = .ok (.invokevirtual 93, 3) := by decide +kernel
theorem dd_La_778 : decode code 778 = .ok (.if_icmp .eq 577, 3) := by decide +kernel
theorem dd_La_783 : decode code 783 = .ok (.aload_n 1, 1) := by decide +kernel
theorem dd_La_784 : decode code 784 = .ok (.aload_n 0, 1) := by decide +kernel
theorem dd_La_785 : decode code 785 = .ok (.iload_n 3, 1) := by decide +kernel
theorem dd_La_786 : decode code 786 = .ok (.iconst 1, 1) := by decide +kernel
theorem dd_La_787 : decode code 787 = .ok (.iadd, 1) := by decide +kernel
theorem dd_La_788 : decode code 788 = .ok (.iaload, 1) := by decide +kernel
theorem dd_La_789 : decode code 789 = .ok (.invokevirtual 94, 3) := by decide +kernel
theorem dd_La_792 : decode code 792 = .ok (.aload_n 2, 1) := by decide +kernel
theorem dd_La_793 : decode code 793 = .ok (.aload_n 0, 1) := by decide +kernel
theorem dd_La_794 : decode code 794 = .ok (.iload_n 3, 1) := by decide +kernel
theorem dd_La_795 : decode code 795 = .ok (.iconst 1, 1) := by decide +kernel
theorem dd_La_796 : decode code 796 = .ok (.iadd, 1) := by decide +kernel
theorem dd_La_797 : decode code 797 = .ok (.iaload, 1) := by decide +kernel
theorem dd_La_798 : decode code 798 = .ok (.invokevirtual 97, 3) := by decide +kernel
theorem dd_La_801 : decode code 801 = .ok (.if_icmp .eq 554, 3) := by decide +kernel
theorem dd_La_806 : decode code 806 = .ok (.aload_n 1, 1) := by decide +kernel
theorem dd_La_807 : decode code 807 = .ok (.aload_n 0, 1) := by decide +kernel
theorem dd_La_808 : decode code 808 = .ok (.iload_n 3, 1) := by decide +kernel
theorem dd_La_809 : decode code 809 = .ok (.iconst 1, 1) := by decide +kernel
theorem dd_La_810 : decode code 810 = .ok (.iadd, 1) := by decide +kernel
theorem dd_La_811 : decode code 811 = .ok (.iaload, 1) := by decide +kernel
theorem dd_La_812 : decode code 812 = .ok (.invokevirtual 98, 3) := by decide +kernel
theorem dd_La_815 : decode code 815 = .ok (.aload_n 2, 1) := by decide +kernel
theorem dd_La_816 : decode code 816 = .ok (.aload_n 0, 1) := by decide +kernel
theorem dd_La_817 : decode code 817 = .ok (.iload_n 3, 1) := by decide +kernel
theorem dd_La_818 : decode code 818 = .ok (.iconst 1, 1) := by decide +kernel
theorem dd_La_819 : decode code 819 = .ok (.iadd, 1) := by decide +kernel
theorem dd_La_820 : decode code 820 = .ok (.iaload, 1) := by decide +kernel
theorem dd_La_821 : decode code 821 = .ok (.invokevirtual 101, 3) := by decide +kernel
theorem dd_La_824 : decode code 824 = .ok (.if_icmp .eq 531, 3) := by decide +kernel
set_option maxRecDepth 100000 in
set_option maxHeartbeats 4000000 in
theorem la_drop {X : gf_X} {E : gf_E} {Q : State → Prop} {b L : Nat} {xs : Nat → Int32} (C : gf_C X E code 4 "GuardFiguresLaw" room_1) (S : la_S X E b L xs) {μ : gf_M} {i : Int} (hI : gf_I μ) (hi : 0 ≤ i ∧ i + 6 ≤ (L : Int)) (kk : ∀ μ' : gf_M, gf_I μ' → gf_G X E Q 4 la_φ μ' 1355 (la_lv E b i) []) : gf_G X E Q 4 la_φ μ 668 (la_lv E b i) [] := by
  show gf_G X E Q 4 la_φ μ 668 [(3, .int (gf_i i)), (2, .ref (gf_ad E 65)), (1, .ref (gf_ad E 0)), (0, .ref b)] []
  refine gf_aload_n C dd_La_668 2 rfl ?_
  refine gf_callVi2 (st := []) (As := []) C wk_La_73 gf_cl6 (show gf_is 81 0 0 6 17 by decide) (ct_Fi_drop (gf_xl X) E μ hI.s hI.d hI.F) rfl ⟨rfl, rfl, Nat.le_of_ble_eq_true rfl, Nat.le_of_ble_eq_true rfl⟩ (Nat.le_of_ble_eq_true rfl) rfl dd_La_669 (fun q1 μ1 hR1 hp1 => ?_)
  refine gf_aload_n C dd_La_672 1 rfl ?_
  have v := vw_drop  hI hp1
  refine gf_callVi2 (st := [.int (gf_i q1)]) (As := []) C wk_La_77 gf_cl7 (show gf_is 81 65 0 7 26 by decide) (ct_Mo_drop (gf_xl X) E μ1 (hI.ok v).2.2.1 (hI.ok v).2.2.2.2) rfl ⟨rfl, rfl, Nat.le_of_ble_eq_true rfl, Nat.le_of_ble_eq_true rfl⟩ (Nat.le_of_ble_eq_true rfl) rfl dd_La_673 (fun q2 μ2 hR2 hp2 => ?_)
  have hst := st_drop  hI hp1 hp2
  exact gf_icmp_eq 1355 C dd_La_676 (by decide) hR1 hR2 (fun _ => kk μ2 hst.2) (fun h => absurd hst.1 h)
set_option maxRecDepth 100000 in
set_option maxHeartbeats 4000000 in
theorem la_change {X : gf_X} {E : gf_E} {Q : State → Prop} {b L : Nat} {xs : Nat → Int32} (C : gf_C X E code 4 "GuardFiguresLaw" room_1) (S : la_S X E b L xs) {μ : gf_M} {i : Int} (hI : gf_I μ) (hi : 0 ≤ i ∧ i + 6 ≤ (L : Int)) (kk : ∀ μ' : gf_M, gf_I μ' → gf_G X E Q 4 la_φ μ' 1355 (la_lv E b i) []) : gf_G X E Q 4 la_φ μ 681 (la_lv E b i) [] := by
  show gf_G X E Q 4 la_φ μ 681 [(3, .int (gf_i i)), (2, .ref (gf_ad E 65)), (1, .ref (gf_ad E 0)), (0, .ref b)] []
  refine gf_aload_n C dd_La_681 2 rfl ?_
  refine gf_aload_n C dd_La_682 3 rfl ?_
  refine gf_iload_n C dd_La_683 0 rfl ?_
  refine gf_iconst C dd_La_684 ?_
  refine gf_iadd C dd_La_685 ?_
  refine gf_sld C S dd_La_686 (by omega) ?_
  refine gf_aload_n C dd_La_687 3 rfl ?_
  refine gf_iload_n C dd_La_688 0 rfl ?_
  refine gf_iconst C dd_La_689 ?_
  refine gf_iadd C dd_La_690 ?_
  refine gf_sld C S dd_La_691 (by omega) ?_
  refine gf_callVi2 (st := []) (As := [.int (gf_i (gf_sx xs (i + 1))), .int (gf_i (gf_sx xs (i + 2)))]) C wk_La_78 gf_cl6 (show gf_is 81 0 0 6 17 by decide) (ct_Fi_change (gf_xl X) E (gf_sx xs (i + 1)) (gf_sx xs (i + 2)) μ (gf_sx_R _ _) (gf_sx_R _ _) hI.s hI.d hI.F) rfl ⟨rfl, rfl, Nat.le_of_ble_eq_true rfl, Nat.le_of_ble_eq_true rfl⟩ (Nat.le_of_ble_eq_true rfl) rfl dd_La_692 (fun q1 μ1 hR1 hp1 => ?_)
  refine gf_aload_n C dd_La_695 1 rfl ?_
  refine gf_aload_n C dd_La_696 3 rfl ?_
  refine gf_iload_n C dd_La_697 0 rfl ?_
  refine gf_iconst C dd_La_698 ?_
  refine gf_iadd C dd_La_699 ?_
  refine gf_sld C S dd_La_700 (by omega) ?_
  refine gf_aload_n C dd_La_701 3 rfl ?_
  refine gf_iload_n C dd_La_702 0 rfl ?_
  refine gf_iconst C dd_La_703 ?_
  refine gf_iadd C dd_La_704 ?_
  refine gf_sld C S dd_La_705 (by omega) ?_
  have v := vw_change (k := gf_sx xs (i + 1)) (f := gf_sx xs (i + 2)) hI hp1
  refine gf_callVi2 (st := [.int (gf_i q1)]) (As := [.int (gf_i (gf_sx xs (i + 1))), .int (gf_i (gf_sx xs (i + 2)))]) C wk_La_81 gf_cl7 (show gf_is 81 65 0 7 26 by decide) (ct_Mo_change (gf_xl X) E (gf_sx xs (i + 1)) (gf_sx xs (i + 2)) μ1 (gf_sx_R _ _) (gf_sx_R _ _) (hI.ok v).2.2.1 (hI.ok v).2.2.2.2) rfl ⟨rfl, rfl, Nat.le_of_ble_eq_true rfl, Nat.le_of_ble_eq_true rfl⟩ (Nat.le_of_ble_eq_true rfl) rfl dd_La_706 (fun q2 μ2 hR2 hp2 => ?_)
  have hst := st_change (k := gf_sx xs (i + 1)) (f := gf_sx xs (i + 2)) hI hp1 hp2
  exact gf_icmp_eq 1355 C dd_La_709 (by decide) hR1 hR2 (fun _ => kk μ2 hst.2) (fun h => absurd hst.1 h)
set_option maxRecDepth 100000 in
set_option maxHeartbeats 4000000 in
theorem la_swap {X : gf_X} {E : gf_E} {Q : State → Prop} {b L : Nat} {xs : Nat → Int32} (C : gf_C X E code 4 "GuardFiguresLaw" room_1) (S : la_S X E b L xs) {μ : gf_M} {i : Int} (hI : gf_I μ) (hi : 0 ≤ i ∧ i + 6 ≤ (L : Int)) (kk : ∀ μ' : gf_M, gf_I μ' → gf_G X E Q 4 la_φ μ' 1355 (la_lv E b i) []) : gf_G X E Q 4 la_φ μ 714 (la_lv E b i) [] := by
  show gf_G X E Q 4 la_φ μ 714 [(3, .int (gf_i i)), (2, .ref (gf_ad E 65)), (1, .ref (gf_ad E 0)), (0, .ref b)] []
  refine gf_aload_n C dd_La_714 2 rfl ?_
  refine gf_aload_n C dd_La_715 3 rfl ?_
  refine gf_iload_n C dd_La_716 0 rfl ?_
  refine gf_iconst C dd_La_717 ?_
  refine gf_iadd C dd_La_718 ?_
  refine gf_sld C S dd_La_719 (by omega) ?_
  refine gf_callVi2 (st := []) (As := [.int (gf_i (gf_sx xs (i + 1)))]) C wk_La_82 gf_cl6 (show gf_is 81 0 0 6 17 by decide) (ct_Fi_swap (gf_xl X) E (gf_sx xs (i + 1)) μ (gf_sx_R _ _) hI.s hI.d hI.F) rfl ⟨rfl, rfl, Nat.le_of_ble_eq_true rfl, Nat.le_of_ble_eq_true rfl⟩ (Nat.le_of_ble_eq_true rfl) rfl dd_La_720 (fun q1 μ1 hR1 hp1 => ?_)
  refine gf_aload_n C dd_La_723 1 rfl ?_
  refine gf_aload_n C dd_La_724 3 rfl ?_
  refine gf_iload_n C dd_La_725 0 rfl ?_
  refine gf_iconst C dd_La_726 ?_
  refine gf_iadd C dd_La_727 ?_
  refine gf_sld C S dd_La_728 (by omega) ?_
  have v := vw_swap (k := gf_sx xs (i + 1)) hI hp1
  refine gf_callVi2 (st := [.int (gf_i q1)]) (As := [.int (gf_i (gf_sx xs (i + 1)))]) C wk_La_85 gf_cl7 (show gf_is 81 65 0 7 26 by decide) (ct_Mo_swap (gf_xl X) E (gf_sx xs (i + 1)) μ1 (gf_sx_R _ _) (hI.ok v).2.2.1 (hI.ok v).2.2.2.2) rfl ⟨rfl, rfl, Nat.le_of_ble_eq_true rfl, Nat.le_of_ble_eq_true rfl⟩ (Nat.le_of_ble_eq_true rfl) rfl dd_La_729 (fun q2 μ2 hR2 hp2 => ?_)
  have hst := st_swap (k := gf_sx xs (i + 1)) hI hp1 hp2
  exact gf_icmp_eq 1355 C dd_La_732 (by decide) hR1 hR2 (fun _ => kk μ2 hst.2) (fun h => absurd hst.1 h)
set_option maxRecDepth 100000 in
set_option maxHeartbeats 4000000 in
theorem la_undo {X : gf_X} {E : gf_E} {Q : State → Prop} {b L : Nat} {xs : Nat → Int32} (C : gf_C X E code 4 "GuardFiguresLaw" room_1) (S : la_S X E b L xs) {μ : gf_M} {i : Int} (hI : gf_I μ) (hi : 0 ≤ i ∧ i + 6 ≤ (L : Int)) (kk : ∀ μ' : gf_M, gf_I μ' → gf_G X E Q 4 la_φ μ' 1355 (la_lv E b i) []) : gf_G X E Q 4 la_φ μ 737 (la_lv E b i) [] := by
  show gf_G X E Q 4 la_φ μ 737 [(3, .int (gf_i i)), (2, .ref (gf_ad E 65)), (1, .ref (gf_ad E 0)), (0, .ref b)] []
  refine gf_aload_n C dd_La_737 2 rfl ?_
  refine gf_aload_n C dd_La_738 3 rfl ?_
  refine gf_iload_n C dd_La_739 0 rfl ?_
  refine gf_iconst C dd_La_740 ?_
  refine gf_iadd C dd_La_741 ?_
  refine gf_sld C S dd_La_742 (by omega) ?_
  refine gf_callVi2 (st := []) (As := [.int (gf_i (gf_sx xs (i + 1)))]) C wk_La_86 gf_cl6 (show gf_is 81 0 0 6 17 by decide) (ct_Fi_undo (gf_xl X) E (gf_sx xs (i + 1)) (fun d j => μ 71 (33 + 9 * d + j)) (fun d => (μ 71 (32 + 9 * d)).toNat) μ (gf_sx_R _ _) hI.d hI.log) rfl ⟨rfl, rfl, Nat.le_of_ble_eq_true rfl, Nat.le_of_ble_eq_true rfl⟩ (Nat.le_of_ble_eq_true rfl) rfl dd_La_743 (fun q1 μ1 hR1 hp1 => ?_)
  refine gf_aload_n C dd_La_746 1 rfl ?_
  refine gf_aload_n C dd_La_747 3 rfl ?_
  refine gf_iload_n C dd_La_748 0 rfl ?_
  refine gf_iconst C dd_La_749 ?_
  refine gf_iadd C dd_La_750 ?_
  refine gf_sld C S dd_La_751 (by omega) ?_
  have v := vw_undo (n := gf_sx xs (i + 1)) hI hp1
  refine gf_callVi2 (st := [.int (gf_i q1)]) (As := [.int (gf_i (gf_sx xs (i + 1)))]) C wk_La_89 gf_cl7 (show gf_is 81 65 0 7 26 by decide) (ct_Mo_undo (gf_xl X) E (gf_sx xs (i + 1)) μ1 (gf_sx_R _ _) (hI.ok v).2.2.2.2) rfl ⟨rfl, rfl, Nat.le_of_ble_eq_true rfl, Nat.le_of_ble_eq_true rfl⟩ (Nat.le_of_ble_eq_true rfl) rfl dd_La_752 (fun q2 μ2 hR2 hp2 => ?_)
  have hst := st_undo (n := gf_sx xs (i + 1)) hI hp1 hp2
  exact gf_icmp_eq 1355 C dd_La_755 (by decide) hR1 hR2 (fun _ => kk μ2 hst.2) (fun h => absurd hst.1 h)
set_option maxRecDepth 100000 in
set_option maxHeartbeats 4000000 in
theorem la_keep {X : gf_X} {E : gf_E} {Q : State → Prop} {b L : Nat} {xs : Nat → Int32} (C : gf_C X E code 4 "GuardFiguresLaw" room_1) (S : la_S X E b L xs) {μ : gf_M} {i : Int} (hI : gf_I μ) (hi : 0 ≤ i ∧ i + 6 ≤ (L : Int)) (kk : ∀ μ' : gf_M, gf_I μ' → gf_G X E Q 4 la_φ μ' 1355 (la_lv E b i) []) : gf_G X E Q 4 la_φ μ 760 (la_lv E b i) [] := by
  show gf_G X E Q 4 la_φ μ 760 [(3, .int (gf_i i)), (2, .ref (gf_ad E 65)), (1, .ref (gf_ad E 0)), (0, .ref b)] []
  refine gf_aload_n C dd_La_760 2 rfl ?_
  refine gf_aload_n C dd_La_761 3 rfl ?_
  refine gf_iload_n C dd_La_762 0 rfl ?_
  refine gf_iconst C dd_La_763 ?_
  refine gf_iadd C dd_La_764 ?_
  refine gf_sld C S dd_La_765 (by omega) ?_
  refine gf_callVi2 (st := []) (As := [.int (gf_i (gf_sx xs (i + 1)))]) C wk_La_90 gf_cl6 (show gf_is 81 0 0 6 17 by decide) (ct_Fi_keep (gf_xl X) E (gf_sx xs (i + 1)) μ (gf_sx_R _ _) hI.c7 hI.s hI.d) rfl ⟨rfl, rfl, Nat.le_of_ble_eq_true rfl, Nat.le_of_ble_eq_true rfl⟩ (Nat.le_of_ble_eq_true rfl) rfl dd_La_766 (fun q1 μ1 hR1 hp1 => ?_)
  refine gf_aload_n C dd_La_769 1 rfl ?_
  refine gf_aload_n C dd_La_770 3 rfl ?_
  refine gf_iload_n C dd_La_771 0 rfl ?_
  refine gf_iconst C dd_La_772 ?_
  refine gf_iadd C dd_La_773 ?_
  refine gf_sld C S dd_La_774 (by omega) ?_
  have v := vw_keep (k := gf_sx xs (i + 1)) hI hp1
  refine gf_callVi2 (st := [.int (gf_i q1)]) (As := [.int (gf_i (gf_sx xs (i + 1)))]) C wk_La_93 gf_cl7 (show gf_is 81 65 0 7 26 by decide) (ct_Mo_keep (gf_xl X) E (gf_sx xs (i + 1)) μ1 (gf_sx_R _ _) (hI.ok v).1) rfl ⟨rfl, rfl, Nat.le_of_ble_eq_true rfl, Nat.le_of_ble_eq_true rfl⟩ (Nat.le_of_ble_eq_true rfl) rfl dd_La_775 (fun q2 μ2 hR2 hp2 => ?_)
  have hst := st_keep (k := gf_sx xs (i + 1)) hI hp1 hp2
  exact gf_icmp_eq 1355 C dd_La_778 (by decide) hR1 hR2 (fun _ => kk μ2 hst.2) (fun h => absurd hst.1 h)
set_option maxRecDepth 100000 in
set_option maxHeartbeats 4000000 in
theorem la_on {X : gf_X} {E : gf_E} {Q : State → Prop} {b L : Nat} {xs : Nat → Int32} (C : gf_C X E code 4 "GuardFiguresLaw" room_1) (S : la_S X E b L xs) {μ : gf_M} {i : Int} (hI : gf_I μ) (hi : 0 ≤ i ∧ i + 6 ≤ (L : Int)) (kk : ∀ μ' : gf_M, gf_I μ' → gf_G X E Q 4 la_φ μ' 1355 (la_lv E b i) []) : gf_G X E Q 4 la_φ μ 783 (la_lv E b i) [] := by
  show gf_G X E Q 4 la_φ μ 783 [(3, .int (gf_i i)), (2, .ref (gf_ad E 65)), (1, .ref (gf_ad E 0)), (0, .ref b)] []
  refine gf_aload_n C dd_La_783 2 rfl ?_
  refine gf_aload_n C dd_La_784 3 rfl ?_
  refine gf_iload_n C dd_La_785 0 rfl ?_
  refine gf_iconst C dd_La_786 ?_
  refine gf_iadd C dd_La_787 ?_
  refine gf_sld C S dd_La_788 (by omega) ?_
  refine gf_callVi2 (st := []) (As := [.int (gf_i (gf_sx xs (i + 1)))]) C wk_La_94 gf_cl6 (show gf_is 81 0 0 6 17 by decide) (ct_Fi_on (gf_xl X) E (gf_sx xs (i + 1)) μ (gf_sx_R _ _) hI.kw) rfl ⟨rfl, rfl, Nat.le_of_ble_eq_true rfl, Nat.le_of_ble_eq_true rfl⟩ (Nat.le_of_ble_eq_true rfl) rfl dd_La_789 (fun q1 μ1 hR1 hp1 => ?_)
  refine gf_aload_n C dd_La_792 1 rfl ?_
  refine gf_aload_n C dd_La_793 3 rfl ?_
  refine gf_iload_n C dd_La_794 0 rfl ?_
  refine gf_iconst C dd_La_795 ?_
  refine gf_iadd C dd_La_796 ?_
  refine gf_sld C S dd_La_797 (by omega) ?_
  have v := vw_on (k := gf_sx xs (i + 1)) hI hp1
  refine gf_callVi2 (st := [.int (gf_i q1)]) (As := [.int (gf_i (gf_sx xs (i + 1)))]) C wk_La_97 gf_cl7 (show gf_is 81 65 0 7 26 by decide) (ct_Mo_on (gf_xl X) E (gf_sx xs (i + 1)) μ1 (gf_sx_R _ _)) rfl ⟨rfl, rfl, Nat.le_of_ble_eq_true rfl, Nat.le_of_ble_eq_true rfl⟩ (Nat.le_of_ble_eq_true rfl) rfl dd_La_798 (fun q2 μ2 hR2 hp2 => ?_)
  have hst := st_on (k := gf_sx xs (i + 1)) hI hp1 hp2
  exact gf_icmp_eq 1355 C dd_La_801 (by decide) hR1 hR2 (fun _ => kk μ2 hst.2) (fun h => absurd hst.1 h)
set_option maxRecDepth 100000 in
set_option maxHeartbeats 4000000 in
theorem la_slips {X : gf_X} {E : gf_E} {Q : State → Prop} {b L : Nat} {xs : Nat → Int32} (C : gf_C X E code 4 "GuardFiguresLaw" room_1) (S : la_S X E b L xs) {μ : gf_M} {i : Int} (hI : gf_I μ) (hi : 0 ≤ i ∧ i + 6 ≤ (L : Int)) (kk : ∀ μ' : gf_M, gf_I μ' → gf_G X E Q 4 la_φ μ' 1355 (la_lv E b i) []) : gf_G X E Q 4 la_φ μ 806 (la_lv E b i) [] := by
  show gf_G X E Q 4 la_φ μ 806 [(3, .int (gf_i i)), (2, .ref (gf_ad E 65)), (1, .ref (gf_ad E 0)), (0, .ref b)] []
  refine gf_aload_n C dd_La_806 2 rfl ?_
  refine gf_aload_n C dd_La_807 3 rfl ?_
  refine gf_iload_n C dd_La_808 0 rfl ?_
  refine gf_iconst C dd_La_809 ?_
  refine gf_iadd C dd_La_810 ?_
  refine gf_sld C S dd_La_811 (by omega) ?_
  refine gf_callVi2 (st := []) (As := [.int (gf_i (gf_sx xs (i + 1)))]) C wk_La_98 gf_cl6 (show gf_is 81 0 0 6 17 by decide) (ct_Fi_slips (gf_xl X) E (gf_sx xs (i + 1)) μ (gf_sx_R _ _) hI.c7 hI.G hI.s hI.F) rfl ⟨rfl, rfl, Nat.le_of_ble_eq_true rfl, Nat.le_of_ble_eq_true rfl⟩ (Nat.le_of_ble_eq_true rfl) rfl dd_La_812 (fun q1 μ1 hR1 hp1 => ?_)
  refine gf_aload_n C dd_La_815 1 rfl ?_
  refine gf_aload_n C dd_La_816 3 rfl ?_
  refine gf_iload_n C dd_La_817 0 rfl ?_
  refine gf_iconst C dd_La_818 ?_
  refine gf_iadd C dd_La_819 ?_
  refine gf_sld C S dd_La_820 (by omega) ?_
  have v := vw_slips (i := gf_sx xs (i + 1)) hI hp1
  refine gf_callVi2 (st := [.int (gf_i q1)]) (As := [.int (gf_i (gf_sx xs (i + 1)))]) C wk_La_101 gf_cl7 (show gf_is 81 65 0 7 26 by decide) (ct_Mo_slips (gf_xl X) E (gf_sx xs (i + 1)) μ1 (gf_sx_R _ _) (hI.ok v)) rfl ⟨rfl, rfl, Nat.le_of_ble_eq_true rfl, Nat.le_of_ble_eq_true rfl⟩ (Nat.le_of_ble_eq_true rfl) rfl dd_La_821 (fun q2 μ2 hR2 hp2 => ?_)
  have hst := st_slips (i := gf_sx xs (i + 1)) hI hp1 hp2
  exact gf_icmp_eq 1355 C dd_La_824 (by decide) hR1 hR2 (fun _ => kk μ2 hst.2) (fun h => absurd hst.1 h)
