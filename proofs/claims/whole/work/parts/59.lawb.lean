section LawCases
variable {nm : String}
set_option maxHeartbeats 4000000 in
set_option maxRecDepth 100000 in
theorem law_c14 {E : hEv} {K : hKv} (C : hCx E K cL_law 4 RL nm room_1) {b L : Nat} {xs : Nat → Int32} (S : hSc E b L xs) (hL : L ≤ 3072) {A B : Nat → Nat} {σ : hSt} {M : hM} (X : cX K A σ M) (Y : mX K B σ M) (ho : okS σ) (i k : Nat) (hi6 : i + 6 ≤ L) (hk : k < 512) (kk : ∀ (σ2 : hSt) (M2 : hM), cX K A σ2 M2 → mX K B σ2 M2 → okS σ2 → hX E (64 + 4 * (k + 1)) (7533 + 61 * (k + 1)) 1166 [some (.ref b), some (.ref (A 36)), some (.ref (B 0)), some (.int (nI i))] [] M2) : hX E (64 + 4 * k) (7533 + 61 * k) 633 [some (.ref b), some (.ref (A 36)), some (.ref (B 0)), some (.int (nI i))] [] M := by
  obtain ⟨zx, hx36⟩ := X.obj
  refine x_aload_1 634 C dL_law_633 rfl ?_
  refine x_aload_0 635 C dL_law_634 rfl ?_
  refine x_iload_3 636 C dL_law_635 rfl ?_
  refine x_iconst (v := 1) 637 C dL_law_636 rfl rfl ?_
  refine x_iadd 638 C dL_law_637 rfl ?_
  refine x_topi (nI_add i 1) ?_
  refine x_sld 639 (i + 1) C S (rfl) (by omega) (by omega) dL_law_638 rfl ?_
  refine x_i2l 640 C dL_law_639 rfl ?_
  refine x_bipush (v := 32) 642 C dL_law_640 rfl rfl ?_
  refine x_lshl 643 C dL_law_642 rfl ?_
  refine x_aload_0 644 C dL_law_643 rfl ?_
  refine x_iload_3 645 C dL_law_644 rfl ?_
  refine x_iconst (v := 2) 646 C dL_law_645 rfl rfl ?_
  refine x_iadd 647 C dL_law_646 rfl ?_
  refine x_topi (nI_add i 2) ?_
  refine x_sld 648 (i + 2) C S (rfl) (by omega) (by omega) dL_law_647 rfl ?_
  refine x_i2l 649 C dL_law_648 rfl ?_
  refine x_ldc2 (v := 4294967295) 652 C dL_law_649 rfl wq_L_18 ?_
  refine x_land 653 C dL_law_652 rfl ?_
  refine x_lor 654 C dL_law_653 rfl ?_
  refine x_aload_0 655 C dL_law_654 rfl ?_
  refine x_iload_3 656 C dL_law_655 rfl ?_
  refine x_iconst (v := 3) 657 C dL_law_656 rfl rfl ?_
  refine x_iadd 658 C dL_law_657 rfl ?_
  refine x_topi (nI_add i 3) ?_
  refine x_sld 659 (i + 3) C S (rfl) (by omega) (by omega) dL_law_658 rfl ?_
  refine x_callV 662 C (c_X5_remainder K _ (A 36) _ _) hx36 wcl_X5 hy_X5_remainder wv_X5_remainder we_X5_remainder lk_L_80 dL_law_659 rfl ⟨Nat.le_of_ble_eq_true rfl, Nat.le_of_ble_eq_true rfl⟩ ⟨show 64 + 4 * k + 0 ≤ 600000 by omega, show 7533 + 61 * k + 0 ≤ 7302250 by omega⟩ (Nat.le_of_ble_eq_true rfl) rfl (k_0 rfl rfl (k_lp ?_))
  obtain ⟨z, F, G, WB, hr⟩ := Y
  refine x_wid (k2 := 64 + 4 * (k + 1)) (n2 := 7533 + 61 * (k + 1)) (by show 64 + 4 * k + 0 ≤ _; omega) (by show 7533 + 61 * k + 0 ≤ _; omega) ?_
  refine x_aload_2 663 C dL_law_662 rfl ?_
  refine x_aload_0 664 C dL_law_663 rfl ?_
  refine x_iload_3 665 C dL_law_664 rfl ?_
  refine x_iconst (v := 1) 666 C dL_law_665 rfl rfl ?_
  refine x_iadd 667 C dL_law_666 rfl ?_
  refine x_topi (nI_add i 1) ?_
  refine x_sld 668 (i + 1) C S (rfl) (by omega) (by omega) dL_law_667 rfl ?_
  refine x_i2l 669 C dL_law_668 rfl ?_
  refine x_bipush (v := 32) 671 C dL_law_669 rfl rfl ?_
  refine x_lshl 672 C dL_law_671 rfl ?_
  refine x_aload_0 673 C dL_law_672 rfl ?_
  refine x_iload_3 674 C dL_law_673 rfl ?_
  refine x_iconst (v := 2) 675 C dL_law_674 rfl rfl ?_
  refine x_iadd 676 C dL_law_675 rfl ?_
  refine x_topi (nI_add i 2) ?_
  refine x_sld 677 (i + 2) C S (rfl) (by omega) (by omega) dL_law_676 rfl ?_
  refine x_i2l 678 C dL_law_677 rfl ?_
  refine x_ldc2 (v := 4294967295) 681 C dL_law_678 rfl wq_L_18 ?_
  refine x_land 682 C dL_law_681 rfl ?_
  refine x_lor 683 C dL_law_682 rfl ?_
  refine x_aload_0 684 C dL_law_683 rfl ?_
  refine x_iload_3 685 C dL_law_684 rfl ?_
  refine x_iconst (v := 3) 686 C dL_law_685 rfl rfl ?_
  refine x_iadd 687 C dL_law_686 rfl ?_
  refine x_topi (nI_add i 3) ?_
  refine x_sld 688 (i + 3) C S (rfl) (by omega) (by omega) dL_law_687 rfl ?_
  refine x_callV 691 C (c_X6_remainder K _ (B 0) _ _) WB.obj wcl_X6 hy_X6_remainder wv_X6_remainder we_X6_remainder lk_L_84 dL_law_688 rfl ⟨Nat.le_of_ble_eq_true rfl, Nat.le_of_ble_eq_true rfl⟩ ⟨show 64 + 4 * (k + 1) + 0 ≤ 600000 by omega, show 7533 + 61 * (k + 1) + 0 ≤ 7302250 by omega⟩ (Nat.le_of_ble_eq_true rfl) rfl (k_0 rfl rfl (k_lp ?_))
  refine x_lc_eq 695 1166 C dL_law_691 dL_law_692 rfl rfl (fun _ => ?_) (fun z => absurd (rfl) z)
  exact kk _ _ X ⟨z, F, G, WB, hr⟩ ho
set_option maxHeartbeats 4000000 in
set_option maxRecDepth 100000 in
theorem law_c15 {E : hEv} {K : hKv} (C : hCx E K cL_law 4 RL nm room_1) {b L : Nat} {xs : Nat → Int32} (S : hSc E b L xs) (hL : L ≤ 3072) {A B : Nat → Nat} {σ : hSt} {M : hM} (X : cX K A σ M) (Y : mX K B σ M) (ho : okS σ) (i k : Nat) (hi6 : i + 6 ≤ L) (hk : k < 512) (kk : ∀ (σ2 : hSt) (M2 : hM), cX K A σ2 M2 → mX K B σ2 M2 → okS σ2 → hX E (64 + 4 * (k + 1)) (7533 + 61 * (k + 1)) 1166 [some (.ref b), some (.ref (A 36)), some (.ref (B 0)), some (.int (nI i))] [] M2) : hX E (64 + 4 * k) (7533 + 61 * k) 697 [some (.ref b), some (.ref (A 36)), some (.ref (B 0)), some (.int (nI i))] [] M := by
  obtain ⟨zx, hx36⟩ := X.obj
  refine x_aload_1 698 C dL_law_697 rfl ?_
  refine x_aload_0 699 C dL_law_698 rfl ?_
  refine x_iload_3 700 C dL_law_699 rfl ?_
  refine x_iconst (v := 1) 701 C dL_law_700 rfl rfl ?_
  refine x_iadd 702 C dL_law_701 rfl ?_
  refine x_topi (nI_add i 1) ?_
  refine x_sld 703 (i + 1) C S (rfl) (by omega) (by omega) dL_law_702 rfl ?_
  refine x_i2l 704 C dL_law_703 rfl ?_
  refine x_bipush (v := 32) 706 C dL_law_704 rfl rfl ?_
  refine x_lshl 707 C dL_law_706 rfl ?_
  refine x_aload_0 708 C dL_law_707 rfl ?_
  refine x_iload_3 709 C dL_law_708 rfl ?_
  refine x_iconst (v := 2) 710 C dL_law_709 rfl rfl ?_
  refine x_iadd 711 C dL_law_710 rfl ?_
  refine x_topi (nI_add i 2) ?_
  refine x_sld 712 (i + 2) C S (rfl) (by omega) (by omega) dL_law_711 rfl ?_
  refine x_i2l 713 C dL_law_712 rfl ?_
  refine x_ldc2 (v := 4294967295) 716 C dL_law_713 rfl wq_L_18 ?_
  refine x_land 717 C dL_law_716 rfl ?_
  refine x_lor 718 C dL_law_717 rfl ?_
  refine x_aload_0 719 C dL_law_718 rfl ?_
  refine x_iload_3 720 C dL_law_719 rfl ?_
  refine x_iconst (v := 3) 721 C dL_law_720 rfl rfl ?_
  refine x_iadd 722 C dL_law_721 rfl ?_
  refine x_topi (nI_add i 3) ?_
  refine x_sld 723 (i + 3) C S (rfl) (by omega) (by omega) dL_law_722 rfl ?_
  refine x_aload_0 724 C dL_law_723 rfl ?_
  refine x_iload_3 725 C dL_law_724 rfl ?_
  refine x_iconst (v := 4) 726 C dL_law_725 rfl rfl ?_
  refine x_iadd 727 C dL_law_726 rfl ?_
  refine x_topi (nI_add i 4) ?_
  refine x_sld 728 (i + 4) C S (rfl) (by omega) (by omega) dL_law_727 rfl ?_
  refine x_aload_0 729 C dL_law_728 rfl ?_
  refine x_iload_3 730 C dL_law_729 rfl ?_
  refine x_iconst (v := 5) 731 C dL_law_730 rfl rfl ?_
  refine x_iadd 732 C dL_law_731 rfl ?_
  refine x_topi (nI_add i 5) ?_
  refine x_sld 733 (i + 5) C S (rfl) (by omega) (by omega) dL_law_732 rfl ?_
  refine x_callV 736 C (c_X5_bit K _ (A 36) _ _ _ _) hx36 wcl_X5 hy_X5_bit wv_X5_bit we_X5_bit lk_L_85 dL_law_733 rfl ⟨Nat.le_of_ble_eq_true rfl, Nat.le_of_ble_eq_true rfl⟩ ⟨show 64 + 4 * k + 0 ≤ 600000 by omega, show 7533 + 61 * k + 0 ≤ 7302250 by omega⟩ (Nat.le_of_ble_eq_true rfl) rfl (k_0 rfl rfl (k_lp ?_))
  obtain ⟨z, F, G, WB, hr⟩ := Y
  refine x_wid (k2 := 64 + 4 * (k + 1)) (n2 := 7533 + 61 * (k + 1)) (by show 64 + 4 * k + 0 ≤ _; omega) (by show 7533 + 61 * k + 0 ≤ _; omega) ?_
  refine x_aload_2 737 C dL_law_736 rfl ?_
  refine x_aload_0 738 C dL_law_737 rfl ?_
  refine x_iload_3 739 C dL_law_738 rfl ?_
  refine x_iconst (v := 1) 740 C dL_law_739 rfl rfl ?_
  refine x_iadd 741 C dL_law_740 rfl ?_
  refine x_topi (nI_add i 1) ?_
  refine x_sld 742 (i + 1) C S (rfl) (by omega) (by omega) dL_law_741 rfl ?_
  refine x_i2l 743 C dL_law_742 rfl ?_
  refine x_bipush (v := 32) 745 C dL_law_743 rfl rfl ?_
  refine x_lshl 746 C dL_law_745 rfl ?_
  refine x_aload_0 747 C dL_law_746 rfl ?_
  refine x_iload_3 748 C dL_law_747 rfl ?_
  refine x_iconst (v := 2) 749 C dL_law_748 rfl rfl ?_
  refine x_iadd 750 C dL_law_749 rfl ?_
  refine x_topi (nI_add i 2) ?_
  refine x_sld 751 (i + 2) C S (rfl) (by omega) (by omega) dL_law_750 rfl ?_
  refine x_i2l 752 C dL_law_751 rfl ?_
  refine x_ldc2 (v := 4294967295) 755 C dL_law_752 rfl wq_L_18 ?_
  refine x_land 756 C dL_law_755 rfl ?_
  refine x_lor 757 C dL_law_756 rfl ?_
  refine x_aload_0 758 C dL_law_757 rfl ?_
  refine x_iload_3 759 C dL_law_758 rfl ?_
  refine x_iconst (v := 3) 760 C dL_law_759 rfl rfl ?_
  refine x_iadd 761 C dL_law_760 rfl ?_
  refine x_topi (nI_add i 3) ?_
  refine x_sld 762 (i + 3) C S (rfl) (by omega) (by omega) dL_law_761 rfl ?_
  refine x_aload_0 763 C dL_law_762 rfl ?_
  refine x_iload_3 764 C dL_law_763 rfl ?_
  refine x_iconst (v := 4) 765 C dL_law_764 rfl rfl ?_
  refine x_iadd 766 C dL_law_765 rfl ?_
  refine x_topi (nI_add i 4) ?_
  refine x_sld 767 (i + 4) C S (rfl) (by omega) (by omega) dL_law_766 rfl ?_
  refine x_aload_0 768 C dL_law_767 rfl ?_
  refine x_iload_3 769 C dL_law_768 rfl ?_
  refine x_iconst (v := 5) 770 C dL_law_769 rfl rfl ?_
  refine x_iadd 771 C dL_law_770 rfl ?_
  refine x_topi (nI_add i 5) ?_
  refine x_sld 772 (i + 5) C S (rfl) (by omega) (by omega) dL_law_771 rfl ?_
  refine x_callV 775 C (c_X6_bit K _ (B 0) _ _ _ _) WB.obj wcl_X6 hy_X6_bit wv_X6_bit we_X6_bit lk_L_89 dL_law_772 rfl ⟨Nat.le_of_ble_eq_true rfl, Nat.le_of_ble_eq_true rfl⟩ ⟨show 64 + 4 * (k + 1) + 0 ≤ 600000 by omega, show 7533 + 61 * (k + 1) + 0 ≤ 7302250 by omega⟩ (Nat.le_of_ble_eq_true rfl) rfl (k_0 rfl rfl (k_lp ?_))
  refine x_lc_eq 779 1166 C dL_law_775 dL_law_776 rfl rfl (fun _ => ?_) (fun z => absurd (rfl) z)
  exact kk _ _ X ⟨z, F, G, WB, hr⟩ ho
set_option maxHeartbeats 4000000 in
set_option maxRecDepth 100000 in
theorem law_c16 {E : hEv} {K : hKv} (C : hCx E K cL_law 4 RL nm room_1) {b L : Nat} {xs : Nat → Int32} (S : hSc E b L xs) (hL : L ≤ 3072) {A B : Nat → Nat} {σ : hSt} {M : hM} (X : cX K A σ M) (Y : mX K B σ M) (ho : okS σ) (i k : Nat) (hi6 : i + 6 ≤ L) (hk : k < 512) (kk : ∀ (σ2 : hSt) (M2 : hM), cX K A σ2 M2 → mX K B σ2 M2 → okS σ2 → hX E (64 + 4 * (k + 1)) (7533 + 61 * (k + 1)) 1166 [some (.ref b), some (.ref (A 36)), some (.ref (B 0)), some (.int (nI i))] [] M2) : hX E (64 + 4 * k) (7533 + 61 * k) 781 [some (.ref b), some (.ref (A 36)), some (.ref (B 0)), some (.int (nI i))] [] M := by
  obtain ⟨zx, hx36⟩ := X.obj
  refine x_aload_1 782 C dL_law_781 rfl ?_
  refine x_aload_0 783 C dL_law_782 rfl ?_
  refine x_iload_3 784 C dL_law_783 rfl ?_
  refine x_iconst (v := 1) 785 C dL_law_784 rfl rfl ?_
  refine x_iadd 786 C dL_law_785 rfl ?_
  refine x_topi (nI_add i 1) ?_
  refine x_sld 787 (i + 1) C S (rfl) (by omega) (by omega) dL_law_786 rfl ?_
  refine x_callV 790 C (c_X5_digits K _ X ho _) hx36 wcl_X5 hy_X5_digits wv_X5_digits we_X5_digits lk_L_90 dL_law_787 rfl ⟨Nat.le_of_ble_eq_true rfl, Nat.le_of_ble_eq_true rfl⟩ ⟨show 64 + 4 * k + 0 ≤ 600000 by omega, show 7533 + 61 * k + 0 ≤ 7302250 by omega⟩ (Nat.le_of_ble_eq_true rfl) rfl (k_0 rfl rfl (k_ip ?_))
  obtain ⟨z, F, G, WB, hr⟩ := Y
  refine x_wid (k2 := 64 + 4 * (k + 1)) (n2 := 7533 + 61 * (k + 1)) (by show 64 + 4 * k + 0 ≤ _; omega) (by show 7533 + 61 * k + 0 ≤ _; omega) ?_
  refine x_aload_2 791 C dL_law_790 rfl ?_
  refine x_aload_0 792 C dL_law_791 rfl ?_
  refine x_iload_3 793 C dL_law_792 rfl ?_
  refine x_iconst (v := 1) 794 C dL_law_793 rfl rfl ?_
  refine x_iadd 795 C dL_law_794 rfl ?_
  refine x_topi (nI_add i 1) ?_
  refine x_sld 796 (i + 1) C S (rfl) (by omega) (by omega) dL_law_795 rfl ?_
  refine x_callV 799 C (c_X6_digits K _ WB (τ := σ.1) hr.2.2.1 ho.1 _) WB.obj wcl_X6 hy_X6_digits wv_X6_digits we_X6_digits lk_L_93 dL_law_796 rfl ⟨Nat.le_of_ble_eq_true rfl, Nat.le_of_ble_eq_true rfl⟩ ⟨show 64 + 4 * (k + 1) + 0 ≤ 600000 by omega, show 7533 + 61 * (k + 1) + 0 ≤ 7302250 by omega⟩ (Nat.le_of_ble_eq_true rfl) rfl (k_0 rfl rfl (k_ip ?_))
  refine x_icmp_eq 802 1166 C dL_law_799 rfl rfl (fun _ => ?_) (fun z => absurd (rfl) z)
  exact kk _ _ X ⟨z, F, G, WB, hr⟩ ho
set_option maxHeartbeats 4000000 in
set_option maxRecDepth 100000 in
theorem law_c17 {E : hEv} {K : hKv} (C : hCx E K cL_law 4 RL nm room_1) {b L : Nat} {xs : Nat → Int32} (S : hSc E b L xs) (hL : L ≤ 3072) {A B : Nat → Nat} {σ : hSt} {M : hM} (X : cX K A σ M) (Y : mX K B σ M) (ho : okS σ) (i k : Nat) (hi6 : i + 6 ≤ L) (hk : k < 512) (kk : ∀ (σ2 : hSt) (M2 : hM), cX K A σ2 M2 → mX K B σ2 M2 → okS σ2 → hX E (64 + 4 * (k + 1)) (7533 + 61 * (k + 1)) 1166 [some (.ref b), some (.ref (A 36)), some (.ref (B 0)), some (.int (nI i))] [] M2) : hX E (64 + 4 * k) (7533 + 61 * k) 804 [some (.ref b), some (.ref (A 36)), some (.ref (B 0)), some (.int (nI i))] [] M := by
  obtain ⟨zx, hx36⟩ := X.obj
  refine x_aload_1 805 C dL_law_804 rfl ?_
  refine x_aload_0 806 C dL_law_805 rfl ?_
  refine x_iload_3 807 C dL_law_806 rfl ?_
  refine x_iconst (v := 1) 808 C dL_law_807 rfl rfl ?_
  refine x_iadd 809 C dL_law_808 rfl ?_
  refine x_topi (nI_add i 1) ?_
  refine x_sld 810 (i + 1) C S (rfl) (by omega) (by omega) dL_law_809 rfl ?_
  refine x_aload_0 811 C dL_law_810 rfl ?_
  refine x_iload_3 812 C dL_law_811 rfl ?_
  refine x_iconst (v := 2) 813 C dL_law_812 rfl rfl ?_
  refine x_iadd 814 C dL_law_813 rfl ?_
  refine x_topi (nI_add i 2) ?_
  refine x_sld 815 (i + 2) C S (rfl) (by omega) (by omega) dL_law_814 rfl ?_
  refine x_aload_0 816 C dL_law_815 rfl ?_
  refine x_iload_3 817 C dL_law_816 rfl ?_
  refine x_iconst (v := 3) 818 C dL_law_817 rfl rfl ?_
  refine x_iadd 819 C dL_law_818 rfl ?_
  refine x_topi (nI_add i 3) ?_
  refine x_sld 820 (i + 3) C S (rfl) (by omega) (by omega) dL_law_819 rfl ?_
  refine x_aload_0 821 C dL_law_820 rfl ?_
  refine x_iload_3 822 C dL_law_821 rfl ?_
  refine x_iconst (v := 4) 823 C dL_law_822 rfl rfl ?_
  refine x_iadd 824 C dL_law_823 rfl ?_
  refine x_topi (nI_add i 4) ?_
  refine x_sld 825 (i + 4) C S (rfl) (by omega) (by omega) dL_law_824 rfl ?_
  refine x_callV 828 C (c_X5_compare K _ (A 36) _ _ _ _) hx36 wcl_X5 hy_X5_compare wv_X5_compare we_X5_compare lk_L_94 dL_law_825 rfl ⟨Nat.le_of_ble_eq_true rfl, Nat.le_of_ble_eq_true rfl⟩ ⟨show 64 + 4 * k + 0 ≤ 600000 by omega, show 7533 + 61 * k + 0 ≤ 7302250 by omega⟩ (Nat.le_of_ble_eq_true rfl) rfl (k_0 rfl rfl (k_ip ?_))
  obtain ⟨z, F, G, WB, hr⟩ := Y
  refine x_wid (k2 := 64 + 4 * (k + 1)) (n2 := 7533 + 61 * (k + 1)) (by show 64 + 4 * k + 0 ≤ _; omega) (by show 7533 + 61 * k + 0 ≤ _; omega) ?_
  refine x_aload_2 829 C dL_law_828 rfl ?_
  refine x_aload_0 830 C dL_law_829 rfl ?_
  refine x_iload_3 831 C dL_law_830 rfl ?_
  refine x_iconst (v := 1) 832 C dL_law_831 rfl rfl ?_
  refine x_iadd 833 C dL_law_832 rfl ?_
  refine x_topi (nI_add i 1) ?_
  refine x_sld 834 (i + 1) C S (rfl) (by omega) (by omega) dL_law_833 rfl ?_
  refine x_aload_0 835 C dL_law_834 rfl ?_
  refine x_iload_3 836 C dL_law_835 rfl ?_
  refine x_iconst (v := 2) 837 C dL_law_836 rfl rfl ?_
  refine x_iadd 838 C dL_law_837 rfl ?_
  refine x_topi (nI_add i 2) ?_
  refine x_sld 839 (i + 2) C S (rfl) (by omega) (by omega) dL_law_838 rfl ?_
  refine x_aload_0 840 C dL_law_839 rfl ?_
  refine x_iload_3 841 C dL_law_840 rfl ?_
  refine x_iconst (v := 3) 842 C dL_law_841 rfl rfl ?_
  refine x_iadd 843 C dL_law_842 rfl ?_
  refine x_topi (nI_add i 3) ?_
  refine x_sld 844 (i + 3) C S (rfl) (by omega) (by omega) dL_law_843 rfl ?_
  refine x_aload_0 845 C dL_law_844 rfl ?_
  refine x_iload_3 846 C dL_law_845 rfl ?_
  refine x_iconst (v := 4) 847 C dL_law_846 rfl rfl ?_
  refine x_iadd 848 C dL_law_847 rfl ?_
  refine x_topi (nI_add i 4) ?_
  refine x_sld 849 (i + 4) C S (rfl) (by omega) (by omega) dL_law_848 rfl ?_
  refine x_callV 852 C (c_X6_compare K _ (B 0) _ _ _ _) WB.obj wcl_X6 hy_X6_compare wv_X6_compare we_X6_compare lk_L_98 dL_law_849 rfl ⟨Nat.le_of_ble_eq_true rfl, Nat.le_of_ble_eq_true rfl⟩ ⟨show 64 + 4 * (k + 1) + 0 ≤ 600000 by omega, show 7533 + 61 * (k + 1) + 0 ≤ 7302250 by omega⟩ (Nat.le_of_ble_eq_true rfl) rfl (k_0 rfl rfl (k_ip ?_))
  refine x_icmp_eq 855 1166 C dL_law_852 rfl rfl (fun _ => ?_) (fun z => absurd (rfl) z)
  exact kk _ _ X ⟨z, F, G, WB, hr⟩ ho
set_option maxHeartbeats 4000000 in
set_option maxRecDepth 100000 in
theorem law_c18 {E : hEv} {K : hKv} (C : hCx E K cL_law 4 RL nm room_1) {b L : Nat} {xs : Nat → Int32} (S : hSc E b L xs) (hL : L ≤ 3072) {A B : Nat → Nat} {σ : hSt} {M : hM} (X : cX K A σ M) (Y : mX K B σ M) (ho : okS σ) (i k : Nat) (hi6 : i + 6 ≤ L) (hk : k < 512) (kk : ∀ (σ2 : hSt) (M2 : hM), cX K A σ2 M2 → mX K B σ2 M2 → okS σ2 → hX E (64 + 4 * (k + 1)) (7533 + 61 * (k + 1)) 1166 [some (.ref b), some (.ref (A 36)), some (.ref (B 0)), some (.int (nI i))] [] M2) : hX E (64 + 4 * k) (7533 + 61 * k) 857 [some (.ref b), some (.ref (A 36)), some (.ref (B 0)), some (.int (nI i))] [] M := by
  obtain ⟨zx, hx36⟩ := X.obj
  refine x_aload_1 858 C dL_law_857 rfl ?_
  refine x_aload_0 859 C dL_law_858 rfl ?_
  refine x_iload_3 860 C dL_law_859 rfl ?_
  refine x_iconst (v := 1) 861 C dL_law_860 rfl rfl ?_
  refine x_iadd 862 C dL_law_861 rfl ?_
  refine x_topi (nI_add i 1) ?_
  refine x_sld 863 (i + 1) C S (rfl) (by omega) (by omega) dL_law_862 rfl ?_
  refine x_callV 866 C (c_X5_period K _ X ho _) hx36 wcl_X5 hy_X5_period wv_X5_period we_X5_period lk_L_99 dL_law_863 rfl ⟨Nat.le_of_ble_eq_true rfl, Nat.le_of_ble_eq_true rfl⟩ ⟨show 64 + 4 * k + 0 ≤ 600000 by omega, show 7533 + 61 * k + 0 ≤ 7302250 by omega⟩ (Nat.le_of_ble_eq_true rfl) rfl (k_0 rfl rfl (k_i (fun r_1 M_1 h_1 => ?_)))
  obtain ⟨rfl, X, fr⟩ := h_1
  have Y := Y.kept fr
  obtain ⟨z, F, G, WB, hr⟩ := Y
  refine x_wid (k2 := 64 + 4 * (k + 1)) (n2 := 7533 + 61 * (k + 1)) (by show 64 + 4 * k + 0 ≤ _; omega) (by show 7533 + 61 * k + 0 ≤ _; omega) ?_
  refine x_aload_2 867 C dL_law_866 rfl ?_
  refine x_aload_0 868 C dL_law_867 rfl ?_
  refine x_iload_3 869 C dL_law_868 rfl ?_
  refine x_iconst (v := 1) 870 C dL_law_869 rfl rfl ?_
  refine x_iadd 871 C dL_law_870 rfl ?_
  refine x_topi (nI_add i 1) ?_
  refine x_sld 872 (i + 1) C S (rfl) (by omega) (by omega) dL_law_871 rfl ?_
  refine x_callV 875 C (c_X6_period K _ WB hr ho _) WB.obj wcl_X6 hy_X6_period wv_X6_period we_X6_period lk_L_102 dL_law_872 rfl ⟨Nat.le_of_ble_eq_true rfl, Nat.le_of_ble_eq_true rfl⟩ ⟨show 64 + 4 * (k + 1) + 0 ≤ 600000 by omega, show 7533 + 61 * (k + 1) + 0 ≤ 7302250 by omega⟩ (Nat.le_of_ble_eq_true rfl) rfl (k_0 rfl rfl (k_i (fun r_2 M_2 h_2 => ?_)))
  obtain ⟨rfl, Y, fr⟩ := h_2
  have X := X.kept fr
  refine x_icmp_eq 878 1166 C dL_law_875 rfl rfl (fun _ => ?_) (fun z => absurd (rfl) z)
  exact kk _ _ X Y ho
set_option maxHeartbeats 4000000 in
set_option maxRecDepth 100000 in
theorem law_c19 {E : hEv} {K : hKv} (C : hCx E K cL_law 4 RL nm room_1) {b L : Nat} {xs : Nat → Int32} (S : hSc E b L xs) (hL : L ≤ 3072) {A B : Nat → Nat} {σ : hSt} {M : hM} (X : cX K A σ M) (Y : mX K B σ M) (ho : okS σ) (i k : Nat) (hi6 : i + 6 ≤ L) (hk : k < 512) (kk : ∀ (σ2 : hSt) (M2 : hM), cX K A σ2 M2 → mX K B σ2 M2 → okS σ2 → hX E (64 + 4 * (k + 1)) (7533 + 61 * (k + 1)) 1166 [some (.ref b), some (.ref (A 36)), some (.ref (B 0)), some (.int (nI i))] [] M2) : hX E (64 + 4 * k) (7533 + 61 * k) 880 [some (.ref b), some (.ref (A 36)), some (.ref (B 0)), some (.int (nI i))] [] M := by
  obtain ⟨zx, hx36⟩ := X.obj
  refine x_aload_1 881 C dL_law_880 rfl ?_
  refine x_aload_0 882 C dL_law_881 rfl ?_
  refine x_iload_3 883 C dL_law_882 rfl ?_
  refine x_iconst (v := 1) 884 C dL_law_883 rfl rfl ?_
  refine x_iadd 885 C dL_law_884 rfl ?_
  refine x_topi (nI_add i 1) ?_
  refine x_sld 886 (i + 1) C S (rfl) (by omega) (by omega) dL_law_885 rfl ?_
  refine x_aload_0 887 C dL_law_886 rfl ?_
  refine x_iload_3 888 C dL_law_887 rfl ?_
  refine x_iconst (v := 2) 889 C dL_law_888 rfl rfl ?_
  refine x_iadd 890 C dL_law_889 rfl ?_
  refine x_topi (nI_add i 2) ?_
  refine x_sld 891 (i + 2) C S (rfl) (by omega) (by omega) dL_law_890 rfl ?_
  refine x_callV 894 C (c_X5_term K _ X ho _ _) hx36 wcl_X5 hy_X5_term wv_X5_term we_X5_term lk_L_103 dL_law_891 rfl ⟨Nat.le_of_ble_eq_true rfl, Nat.le_of_ble_eq_true rfl⟩ ⟨show 64 + 4 * k + 0 ≤ 600000 by omega, show 7533 + 61 * k + 0 ≤ 7302250 by omega⟩ (Nat.le_of_ble_eq_true rfl) rfl (k_0 rfl rfl (k_i (fun r_1 M_1 h_1 => ?_)))
  obtain ⟨rfl, X, fr⟩ := h_1
  have Y := Y.kept fr
  obtain ⟨z, F, G, WB, hr⟩ := Y
  refine x_wid (k2 := 64 + 4 * (k + 1)) (n2 := 7533 + 61 * (k + 1)) (by show 64 + 4 * k + 0 ≤ _; omega) (by show 7533 + 61 * k + 0 ≤ _; omega) ?_
  refine x_aload_2 895 C dL_law_894 rfl ?_
  refine x_aload_0 896 C dL_law_895 rfl ?_
  refine x_iload_3 897 C dL_law_896 rfl ?_
  refine x_iconst (v := 1) 898 C dL_law_897 rfl rfl ?_
  refine x_iadd 899 C dL_law_898 rfl ?_
  refine x_topi (nI_add i 1) ?_
  refine x_sld 900 (i + 1) C S (rfl) (by omega) (by omega) dL_law_899 rfl ?_
  refine x_aload_0 901 C dL_law_900 rfl ?_
  refine x_iload_3 902 C dL_law_901 rfl ?_
  refine x_iconst (v := 2) 903 C dL_law_902 rfl rfl ?_
  refine x_iadd 904 C dL_law_903 rfl ?_
  refine x_topi (nI_add i 2) ?_
  refine x_sld 905 (i + 2) C S (rfl) (by omega) (by omega) dL_law_904 rfl ?_
  refine x_callV 908 C (c_X6_term K _ WB hr ho _ _) WB.obj wcl_X6 hy_X6_term wv_X6_term we_X6_term lk_L_106 dL_law_905 rfl ⟨Nat.le_of_ble_eq_true rfl, Nat.le_of_ble_eq_true rfl⟩ ⟨show 64 + 4 * (k + 1) + 0 ≤ 600000 by omega, show 7533 + 61 * (k + 1) + 0 ≤ 7302250 by omega⟩ (Nat.le_of_ble_eq_true rfl) rfl (k_0 rfl rfl (k_i (fun r_2 M_2 h_2 => ?_)))
  obtain ⟨rfl, Y, fr⟩ := h_2
  have X := X.kept fr
  refine x_icmp_eq 911 1166 C dL_law_908 rfl rfl (fun _ => ?_) (fun z => absurd (rfl) z)
  exact kk _ _ X Y ho
set_option maxHeartbeats 4000000 in
set_option maxRecDepth 100000 in
theorem law_c20 {E : hEv} {K : hKv} (C : hCx E K cL_law 4 RL nm room_1) {b L : Nat} {xs : Nat → Int32} (S : hSc E b L xs) (hL : L ≤ 3072) {A B : Nat → Nat} {σ : hSt} {M : hM} (X : cX K A σ M) (Y : mX K B σ M) (ho : okS σ) (i k : Nat) (hi6 : i + 6 ≤ L) (hk : k < 512) (kk : ∀ (σ2 : hSt) (M2 : hM), cX K A σ2 M2 → mX K B σ2 M2 → okS σ2 → hX E (64 + 4 * (k + 1)) (7533 + 61 * (k + 1)) 1166 [some (.ref b), some (.ref (A 36)), some (.ref (B 0)), some (.int (nI i))] [] M2) : hX E (64 + 4 * k) (7533 + 61 * k) 913 [some (.ref b), some (.ref (A 36)), some (.ref (B 0)), some (.int (nI i))] [] M := by
  obtain ⟨zx, hx36⟩ := X.obj
  refine x_aload_1 914 C dL_law_913 rfl ?_
  refine x_aload_0 915 C dL_law_914 rfl ?_
  refine x_iload_3 916 C dL_law_915 rfl ?_
  refine x_iconst (v := 1) 917 C dL_law_916 rfl rfl ?_
  refine x_iadd 918 C dL_law_917 rfl ?_
  refine x_topi (nI_add i 1) ?_
  refine x_sld 919 (i + 1) C S (rfl) (by omega) (by omega) dL_law_918 rfl ?_
  refine x_aload_0 920 C dL_law_919 rfl ?_
  refine x_iload_3 921 C dL_law_920 rfl ?_
  refine x_iconst (v := 2) 922 C dL_law_921 rfl rfl ?_
  refine x_iadd 923 C dL_law_922 rfl ?_
  refine x_topi (nI_add i 2) ?_
  refine x_sld 924 (i + 2) C S (rfl) (by omega) (by omega) dL_law_923 rfl ?_
  refine x_aload_0 925 C dL_law_924 rfl ?_
  refine x_iload_3 926 C dL_law_925 rfl ?_
  refine x_iconst (v := 3) 927 C dL_law_926 rfl rfl ?_
  refine x_iadd 928 C dL_law_927 rfl ?_
  refine x_topi (nI_add i 3) ?_
  refine x_sld 929 (i + 3) C S (rfl) (by omega) (by omega) dL_law_928 rfl ?_
  refine x_callV 932 C (c_X5_convergent K _ X ho _ _ _) hx36 wcl_X5 hy_X5_convergent wv_X5_convergent we_X5_convergent lk_L_107 dL_law_929 rfl ⟨Nat.le_of_ble_eq_true rfl, Nat.le_of_ble_eq_true rfl⟩ ⟨show 64 + 4 * k + 0 ≤ 600000 by omega, show 7533 + 61 * k + 0 ≤ 7302250 by omega⟩ (Nat.le_of_ble_eq_true rfl) rfl (k_0 rfl rfl (k_l (fun r_1 M_1 h_1 => ?_)))
  obtain ⟨rfl, X, fr⟩ := h_1
  have Y := Y.kept fr
  obtain ⟨z, F, G, WB, hr⟩ := Y
  refine x_wid (k2 := 64 + 4 * (k + 1)) (n2 := 7533 + 61 * (k + 1)) (by show 64 + 4 * k + 0 ≤ _; omega) (by show 7533 + 61 * k + 0 ≤ _; omega) ?_
  refine x_aload_2 933 C dL_law_932 rfl ?_
  refine x_aload_0 934 C dL_law_933 rfl ?_
  refine x_iload_3 935 C dL_law_934 rfl ?_
  refine x_iconst (v := 1) 936 C dL_law_935 rfl rfl ?_
  refine x_iadd 937 C dL_law_936 rfl ?_
  refine x_topi (nI_add i 1) ?_
  refine x_sld 938 (i + 1) C S (rfl) (by omega) (by omega) dL_law_937 rfl ?_
  refine x_aload_0 939 C dL_law_938 rfl ?_
  refine x_iload_3 940 C dL_law_939 rfl ?_
  refine x_iconst (v := 2) 941 C dL_law_940 rfl rfl ?_
  refine x_iadd 942 C dL_law_941 rfl ?_
  refine x_topi (nI_add i 2) ?_
  refine x_sld 943 (i + 2) C S (rfl) (by omega) (by omega) dL_law_942 rfl ?_
  refine x_aload_0 944 C dL_law_943 rfl ?_
  refine x_iload_3 945 C dL_law_944 rfl ?_
  refine x_iconst (v := 3) 946 C dL_law_945 rfl rfl ?_
  refine x_iadd 947 C dL_law_946 rfl ?_
  refine x_topi (nI_add i 3) ?_
  refine x_sld 948 (i + 3) C S (rfl) (by omega) (by omega) dL_law_947 rfl ?_
  refine x_callV 951 C (c_X6_convergent K _ WB hr ho _ _ _) WB.obj wcl_X6 hy_X6_convergent wv_X6_convergent we_X6_convergent lk_L_111 dL_law_948 rfl ⟨Nat.le_of_ble_eq_true rfl, Nat.le_of_ble_eq_true rfl⟩ ⟨show 64 + 4 * (k + 1) + 0 ≤ 600000 by omega, show 7533 + 61 * (k + 1) + 0 ≤ 7302250 by omega⟩ (Nat.le_of_ble_eq_true rfl) rfl (k_0 rfl rfl (k_l (fun r_2 M_2 h_2 => ?_)))
  obtain ⟨rfl, Y, fr⟩ := h_2
  have X := X.kept fr
  refine x_lc_eq 955 1166 C dL_law_951 dL_law_952 rfl rfl (fun _ => ?_) (fun z => absurd (rfl) z)
  exact kk _ _ X Y ho
set_option maxHeartbeats 4000000 in
set_option maxRecDepth 100000 in
theorem law_c21 {E : hEv} {K : hKv} (C : hCx E K cL_law 4 RL nm room_1) {b L : Nat} {xs : Nat → Int32} (S : hSc E b L xs) (hL : L ≤ 3072) {A B : Nat → Nat} {σ : hSt} {M : hM} (X : cX K A σ M) (Y : mX K B σ M) (ho : okS σ) (i k : Nat) (hi6 : i + 6 ≤ L) (hk : k < 512) (kk : ∀ (σ2 : hSt) (M2 : hM), cX K A σ2 M2 → mX K B σ2 M2 → okS σ2 → hX E (64 + 4 * (k + 1)) (7533 + 61 * (k + 1)) 1166 [some (.ref b), some (.ref (A 36)), some (.ref (B 0)), some (.int (nI i))] [] M2) : hX E (64 + 4 * k) (7533 + 61 * k) 957 [some (.ref b), some (.ref (A 36)), some (.ref (B 0)), some (.int (nI i))] [] M := by
  obtain ⟨zx, hx36⟩ := X.obj
  refine x_aload_1 958 C dL_law_957 rfl ?_
  refine x_aload_0 959 C dL_law_958 rfl ?_
  refine x_iload_3 960 C dL_law_959 rfl ?_
  refine x_iconst (v := 1) 961 C dL_law_960 rfl rfl ?_
  refine x_iadd 962 C dL_law_961 rfl ?_
  refine x_topi (nI_add i 1) ?_
  refine x_sld 963 (i + 1) C S (rfl) (by omega) (by omega) dL_law_962 rfl ?_
  refine x_aload_0 964 C dL_law_963 rfl ?_
  refine x_iload_3 965 C dL_law_964 rfl ?_
  refine x_iconst (v := 2) 966 C dL_law_965 rfl rfl ?_
  refine x_iadd 967 C dL_law_966 rfl ?_
  refine x_topi (nI_add i 2) ?_
  refine x_sld 968 (i + 2) C S (rfl) (by omega) (by omega) dL_law_967 rfl ?_
  refine x_callV 971 C (c_X5_twoSquares K _ (A 36) _ _) hx36 wcl_X5 hy_X5_twoSquares wv_X5_twoSquares we_X5_twoSquares lk_L_112 dL_law_968 rfl ⟨Nat.le_of_ble_eq_true rfl, Nat.le_of_ble_eq_true rfl⟩ ⟨show 64 + 4 * k + 0 ≤ 600000 by omega, show 7533 + 61 * k + 0 ≤ 7302250 by omega⟩ (Nat.le_of_ble_eq_true rfl) rfl (k_0 rfl rfl (k_ip ?_))
  obtain ⟨z, F, G, WB, hr⟩ := Y
  refine x_wid (k2 := 64 + 4 * (k + 1)) (n2 := 7533 + 61 * (k + 1)) (by show 64 + 4 * k + 0 ≤ _; omega) (by show 7533 + 61 * k + 0 ≤ _; omega) ?_
  refine x_aload_2 972 C dL_law_971 rfl ?_
  refine x_aload_0 973 C dL_law_972 rfl ?_
  refine x_iload_3 974 C dL_law_973 rfl ?_
  refine x_iconst (v := 1) 975 C dL_law_974 rfl rfl ?_
  refine x_iadd 976 C dL_law_975 rfl ?_
  refine x_topi (nI_add i 1) ?_
  refine x_sld 977 (i + 1) C S (rfl) (by omega) (by omega) dL_law_976 rfl ?_
  refine x_aload_0 978 C dL_law_977 rfl ?_
  refine x_iload_3 979 C dL_law_978 rfl ?_
  refine x_iconst (v := 2) 980 C dL_law_979 rfl rfl ?_
  refine x_iadd 981 C dL_law_980 rfl ?_
  refine x_topi (nI_add i 2) ?_
  refine x_sld 982 (i + 2) C S (rfl) (by omega) (by omega) dL_law_981 rfl ?_
  refine x_callV 985 C (c_X6_twoSquares K _ (B 0) _ _) WB.obj wcl_X6 hy_X6_twoSquares wv_X6_twoSquares we_X6_twoSquares lk_L_115 dL_law_982 rfl ⟨Nat.le_of_ble_eq_true rfl, Nat.le_of_ble_eq_true rfl⟩ ⟨show 64 + 4 * (k + 1) + 0 ≤ 600000 by omega, show 7533 + 61 * (k + 1) + 0 ≤ 7302250 by omega⟩ (Nat.le_of_ble_eq_true rfl) rfl (k_0 rfl rfl (k_ip ?_))
  refine x_icmp_eq 988 1166 C dL_law_985 rfl rfl (fun _ => ?_) (fun z => absurd (rfl) z)
  exact kk _ _ X ⟨z, F, G, WB, hr⟩ ho
set_option maxHeartbeats 4000000 in
set_option maxRecDepth 100000 in
theorem law_c22 {E : hEv} {K : hKv} (C : hCx E K cL_law 4 RL nm room_1) {b L : Nat} {xs : Nat → Int32} (S : hSc E b L xs) (hL : L ≤ 3072) {A B : Nat → Nat} {σ : hSt} {M : hM} (X : cX K A σ M) (Y : mX K B σ M) (ho : okS σ) (i k : Nat) (hi6 : i + 6 ≤ L) (hk : k < 512) (kk : ∀ (σ2 : hSt) (M2 : hM), cX K A σ2 M2 → mX K B σ2 M2 → okS σ2 → hX E (64 + 4 * (k + 1)) (7533 + 61 * (k + 1)) 1166 [some (.ref b), some (.ref (A 36)), some (.ref (B 0)), some (.int (nI i))] [] M2) : hX E (64 + 4 * k) (7533 + 61 * k) 990 [some (.ref b), some (.ref (A 36)), some (.ref (B 0)), some (.int (nI i))] [] M := by
  obtain ⟨zx, hx36⟩ := X.obj
  refine x_aload_1 991 C dL_law_990 rfl ?_
  refine x_aload_0 992 C dL_law_991 rfl ?_
  refine x_iload_3 993 C dL_law_992 rfl ?_
  refine x_iconst (v := 1) 994 C dL_law_993 rfl rfl ?_
  refine x_iadd 995 C dL_law_994 rfl ?_
  refine x_topi (nI_add i 1) ?_
  refine x_sld 996 (i + 1) C S (rfl) (by omega) (by omega) dL_law_995 rfl ?_
  refine x_i2l 997 C dL_law_996 rfl ?_
  refine x_bipush (v := 32) 999 C dL_law_997 rfl rfl ?_
  refine x_lshl 1000 C dL_law_999 rfl ?_
  refine x_aload_0 1001 C dL_law_1000 rfl ?_
  refine x_iload_3 1002 C dL_law_1001 rfl ?_
  refine x_iconst (v := 2) 1003 C dL_law_1002 rfl rfl ?_
  refine x_iadd 1004 C dL_law_1003 rfl ?_
  refine x_topi (nI_add i 2) ?_
  refine x_sld 1005 (i + 2) C S (rfl) (by omega) (by omega) dL_law_1004 rfl ?_
  refine x_i2l 1006 C dL_law_1005 rfl ?_
  refine x_ldc2 (v := 4294967295) 1009 C dL_law_1006 rfl wq_L_18 ?_
  refine x_land 1010 C dL_law_1009 rfl ?_
  refine x_lor 1011 C dL_law_1010 rfl ?_
  refine x_aload_0 1012 C dL_law_1011 rfl ?_
  refine x_iload_3 1013 C dL_law_1012 rfl ?_
  refine x_iconst (v := 3) 1014 C dL_law_1013 rfl rfl ?_
  refine x_iadd 1015 C dL_law_1014 rfl ?_
  refine x_topi (nI_add i 3) ?_
  refine x_sld 1016 (i + 3) C S (rfl) (by omega) (by omega) dL_law_1015 rfl ?_
  refine x_i2l 1017 C dL_law_1016 rfl ?_
  refine x_bipush (v := 32) 1019 C dL_law_1017 rfl rfl ?_
  refine x_lshl 1020 C dL_law_1019 rfl ?_
  refine x_aload_0 1021 C dL_law_1020 rfl ?_
  refine x_iload_3 1022 C dL_law_1021 rfl ?_
  refine x_iconst (v := 4) 1023 C dL_law_1022 rfl rfl ?_
  refine x_iadd 1024 C dL_law_1023 rfl ?_
  refine x_topi (nI_add i 4) ?_
  refine x_sld 1025 (i + 4) C S (rfl) (by omega) (by omega) dL_law_1024 rfl ?_
  refine x_i2l 1026 C dL_law_1025 rfl ?_
  refine x_ldc2 (v := 4294967295) 1029 C dL_law_1026 rfl wq_L_18 ?_
  refine x_land 1030 C dL_law_1029 rfl ?_
  refine x_lor 1031 C dL_law_1030 rfl ?_
  refine x_callV 1034 C (c_X5_powers K _ (A 36) _ _) hx36 wcl_X5 hy_X5_powers wv_X5_powers we_X5_powers lk_L_116 dL_law_1031 rfl ⟨Nat.le_of_ble_eq_true rfl, Nat.le_of_ble_eq_true rfl⟩ ⟨show 64 + 4 * k + 0 ≤ 600000 by omega, show 7533 + 61 * k + 0 ≤ 7302250 by omega⟩ (Nat.le_of_ble_eq_true rfl) rfl (k_0 rfl rfl (k_ip ?_))
  obtain ⟨z, F, G, WB, hr⟩ := Y
  refine x_wid (k2 := 64 + 4 * (k + 1)) (n2 := 7533 + 61 * (k + 1)) (by show 64 + 4 * k + 0 ≤ _; omega) (by show 7533 + 61 * k + 0 ≤ _; omega) ?_
  refine x_aload_2 1035 C dL_law_1034 rfl ?_
  refine x_aload_0 1036 C dL_law_1035 rfl ?_
  refine x_iload_3 1037 C dL_law_1036 rfl ?_
  refine x_iconst (v := 1) 1038 C dL_law_1037 rfl rfl ?_
  refine x_iadd 1039 C dL_law_1038 rfl ?_
  refine x_topi (nI_add i 1) ?_
  refine x_sld 1040 (i + 1) C S (rfl) (by omega) (by omega) dL_law_1039 rfl ?_
  refine x_i2l 1041 C dL_law_1040 rfl ?_
  refine x_bipush (v := 32) 1043 C dL_law_1041 rfl rfl ?_
  refine x_lshl 1044 C dL_law_1043 rfl ?_
  refine x_aload_0 1045 C dL_law_1044 rfl ?_
  refine x_iload_3 1046 C dL_law_1045 rfl ?_
  refine x_iconst (v := 2) 1047 C dL_law_1046 rfl rfl ?_
  refine x_iadd 1048 C dL_law_1047 rfl ?_
  refine x_topi (nI_add i 2) ?_
  refine x_sld 1049 (i + 2) C S (rfl) (by omega) (by omega) dL_law_1048 rfl ?_
  refine x_i2l 1050 C dL_law_1049 rfl ?_
  refine x_ldc2 (v := 4294967295) 1053 C dL_law_1050 rfl wq_L_18 ?_
  refine x_land 1054 C dL_law_1053 rfl ?_
  refine x_lor 1055 C dL_law_1054 rfl ?_
  refine x_aload_0 1056 C dL_law_1055 rfl ?_
  refine x_iload_3 1057 C dL_law_1056 rfl ?_
  refine x_iconst (v := 3) 1058 C dL_law_1057 rfl rfl ?_
  refine x_iadd 1059 C dL_law_1058 rfl ?_
  refine x_topi (nI_add i 3) ?_
  refine x_sld 1060 (i + 3) C S (rfl) (by omega) (by omega) dL_law_1059 rfl ?_
  refine x_i2l 1061 C dL_law_1060 rfl ?_
  refine x_bipush (v := 32) 1063 C dL_law_1061 rfl rfl ?_
  refine x_lshl 1064 C dL_law_1063 rfl ?_
  refine x_aload_0 1065 C dL_law_1064 rfl ?_
  refine x_iload_3 1066 C dL_law_1065 rfl ?_
  refine x_iconst (v := 4) 1067 C dL_law_1066 rfl rfl ?_
  refine x_iadd 1068 C dL_law_1067 rfl ?_
  refine x_topi (nI_add i 4) ?_
  refine x_sld 1069 (i + 4) C S (rfl) (by omega) (by omega) dL_law_1068 rfl ?_
  refine x_i2l 1070 C dL_law_1069 rfl ?_
  refine x_ldc2 (v := 4294967295) 1073 C dL_law_1070 rfl wq_L_18 ?_
  refine x_land 1074 C dL_law_1073 rfl ?_
  refine x_lor 1075 C dL_law_1074 rfl ?_
  refine x_callV 1078 C (c_X6_powers K _ (B 0) _ _) WB.obj wcl_X6 hy_X6_powers wv_X6_powers we_X6_powers lk_L_120 dL_law_1075 rfl ⟨Nat.le_of_ble_eq_true rfl, Nat.le_of_ble_eq_true rfl⟩ ⟨show 64 + 4 * (k + 1) + 0 ≤ 600000 by omega, show 7533 + 61 * (k + 1) + 0 ≤ 7302250 by omega⟩ (Nat.le_of_ble_eq_true rfl) rfl (k_0 rfl rfl (k_ip ?_))
  refine x_icmp_eq 1081 1166 C dL_law_1078 rfl rfl (fun _ => ?_) (fun z => absurd (rfl) z)
  exact kk _ _ X ⟨z, F, G, WB, hr⟩ ho
set_option maxHeartbeats 4000000 in
set_option maxRecDepth 100000 in
theorem law_c23 {E : hEv} {K : hKv} (C : hCx E K cL_law 4 RL nm room_1) {b L : Nat} {xs : Nat → Int32} (S : hSc E b L xs) (hL : L ≤ 3072) {A B : Nat → Nat} {σ : hSt} {M : hM} (X : cX K A σ M) (Y : mX K B σ M) (ho : okS σ) (i k : Nat) (hi6 : i + 6 ≤ L) (hk : k < 512) (kk : ∀ (σ2 : hSt) (M2 : hM), cX K A σ2 M2 → mX K B σ2 M2 → okS σ2 → hX E (64 + 4 * (k + 1)) (7533 + 61 * (k + 1)) 1166 [some (.ref b), some (.ref (A 36)), some (.ref (B 0)), some (.int (nI i))] [] M2) : hX E (64 + 4 * k) (7533 + 61 * k) 1083 [some (.ref b), some (.ref (A 36)), some (.ref (B 0)), some (.int (nI i))] [] M := by
  obtain ⟨zx, hx36⟩ := X.obj
  refine x_aload_1 1084 C dL_law_1083 rfl ?_
  refine x_aload_0 1085 C dL_law_1084 rfl ?_
  refine x_iload_3 1086 C dL_law_1085 rfl ?_
  refine x_iconst (v := 1) 1087 C dL_law_1086 rfl rfl ?_
  refine x_iadd 1088 C dL_law_1087 rfl ?_
  refine x_topi (nI_add i 1) ?_
  refine x_sld 1089 (i + 1) C S (rfl) (by omega) (by omega) dL_law_1088 rfl ?_
  refine x_callV 1092 C (c_X5_rootSum K _ (A 36) _) hx36 wcl_X5 hy_X5_rootSum wv_X5_rootSum we_X5_rootSum lk_L_121 dL_law_1089 rfl ⟨Nat.le_of_ble_eq_true rfl, Nat.le_of_ble_eq_true rfl⟩ ⟨show 64 + 4 * k + 0 ≤ 600000 by omega, show 7533 + 61 * k + 0 ≤ 7302250 by omega⟩ (Nat.le_of_ble_eq_true rfl) rfl (k_0 rfl rfl (k_lp ?_))
  obtain ⟨z, F, G, WB, hr⟩ := Y
  refine x_wid (k2 := 64 + 4 * (k + 1)) (n2 := 7533 + 61 * (k + 1)) (by show 64 + 4 * k + 0 ≤ _; omega) (by show 7533 + 61 * k + 0 ≤ _; omega) ?_
  refine x_aload_2 1093 C dL_law_1092 rfl ?_
  refine x_aload_0 1094 C dL_law_1093 rfl ?_
  refine x_iload_3 1095 C dL_law_1094 rfl ?_
  refine x_iconst (v := 1) 1096 C dL_law_1095 rfl rfl ?_
  refine x_iadd 1097 C dL_law_1096 rfl ?_
  refine x_topi (nI_add i 1) ?_
  refine x_sld 1098 (i + 1) C S (rfl) (by omega) (by omega) dL_law_1097 rfl ?_
  refine x_callV 1101 C (c_X6_rootSum K _ (B 0) _) WB.obj wcl_X6 hy_X6_rootSum wv_X6_rootSum we_X6_rootSum lk_L_124 dL_law_1098 rfl ⟨Nat.le_of_ble_eq_true rfl, Nat.le_of_ble_eq_true rfl⟩ ⟨show 64 + 4 * (k + 1) + 0 ≤ 600000 by omega, show 7533 + 61 * (k + 1) + 0 ≤ 7302250 by omega⟩ (Nat.le_of_ble_eq_true rfl) rfl (k_0 rfl rfl (k_lp ?_))
  refine x_lc_eq 1105 1166 C dL_law_1101 dL_law_1102 rfl rfl (fun _ => ?_) (fun z => absurd (rfl) z)
  exact kk _ _ X ⟨z, F, G, WB, hr⟩ ho
set_option maxHeartbeats 4000000 in
set_option maxRecDepth 100000 in
theorem law_c24 {E : hEv} {K : hKv} (C : hCx E K cL_law 4 RL nm room_1) {b L : Nat} {xs : Nat → Int32} (S : hSc E b L xs) (hL : L ≤ 3072) {A B : Nat → Nat} {σ : hSt} {M : hM} (X : cX K A σ M) (Y : mX K B σ M) (ho : okS σ) (i k : Nat) (hi6 : i + 6 ≤ L) (hk : k < 512) (kk : ∀ (σ2 : hSt) (M2 : hM), cX K A σ2 M2 → mX K B σ2 M2 → okS σ2 → hX E (64 + 4 * (k + 1)) (7533 + 61 * (k + 1)) 1166 [some (.ref b), some (.ref (A 36)), some (.ref (B 0)), some (.int (nI i))] [] M2) : hX E (64 + 4 * k) (7533 + 61 * k) 1107 [some (.ref b), some (.ref (A 36)), some (.ref (B 0)), some (.int (nI i))] [] M := by
  obtain ⟨zx, hx36⟩ := X.obj
  refine x_aload_1 1108 C dL_law_1107 rfl ?_
  refine x_callV 1111 C (c_X5_undo K _ X ho) hx36 wcl_X5 hy_X5_undo wv_X5_undo we_X5_undo lk_L_125 dL_law_1108 rfl ⟨Nat.le_of_ble_eq_true rfl, Nat.le_of_ble_eq_true rfl⟩ ⟨show 64 + 4 * k + 0 ≤ 600000 by omega, show 7533 + 61 * k + 0 ≤ 7302250 by omega⟩ (Nat.le_of_ble_eq_true rfl) rfl (k_0 rfl rfl (k_i (fun r_1 M_1 h_1 => ?_)))
  obtain ⟨rfl, X, fr⟩ := h_1
  have Y := Y.kept fr
  obtain ⟨z, F, G, WB, hr⟩ := Y
  refine x_wid (k2 := 64 + 4 * (k + 1)) (n2 := 7533 + 61 * (k + 1)) (by show 64 + 4 * k + 0 ≤ _; omega) (by show 7533 + 61 * k + 0 ≤ _; omega) ?_
  refine x_aload_2 1112 C dL_law_1111 rfl ?_
  refine x_callV 1115 C (c_X6_undo K _ WB hr ho) WB.obj wcl_X6 hy_X6_undo wv_X6_undo we_X6_undo lk_L_128 dL_law_1112 rfl ⟨Nat.le_of_ble_eq_true rfl, Nat.le_of_ble_eq_true rfl⟩ ⟨show 64 + 4 * (k + 1) + 0 ≤ 600000 by omega, show 7533 + 61 * (k + 1) + 0 ≤ 7302250 by omega⟩ (Nat.le_of_ble_eq_true rfl) rfl (k_0 rfl rfl (k_i (fun r_2 M_2 h_2 => ?_)))
  obtain ⟨rfl, Y, fr⟩ := h_2
  have X := X.kept fr
  refine x_icmp_eq 1118 1166 C dL_law_1115 rfl rfl (fun _ => ?_) (fun z => absurd (rfl) z)
  exact kk _ _ X Y (okS_undo ho)
set_option maxHeartbeats 4000000 in
set_option maxRecDepth 100000 in
theorem law_c25 {E : hEv} {K : hKv} (C : hCx E K cL_law 4 RL nm room_1) {b L : Nat} {xs : Nat → Int32} (S : hSc E b L xs) (hL : L ≤ 3072) {A B : Nat → Nat} {σ : hSt} {M : hM} (X : cX K A σ M) (Y : mX K B σ M) (ho : okS σ) (i k : Nat) (hi6 : i + 6 ≤ L) (hk : k < 512) (kk : ∀ (σ2 : hSt) (M2 : hM), cX K A σ2 M2 → mX K B σ2 M2 → okS σ2 → hX E (64 + 4 * (k + 1)) (7533 + 61 * (k + 1)) 1166 [some (.ref b), some (.ref (A 36)), some (.ref (B 0)), some (.int (nI i))] [] M2) : hX E (64 + 4 * k) (7533 + 61 * k) 1120 [some (.ref b), some (.ref (A 36)), some (.ref (B 0)), some (.int (nI i))] [] M := by
  obtain ⟨zx, hx36⟩ := X.obj
  refine x_aload_1 1121 C dL_law_1120 rfl ?_
  refine x_aload_0 1122 C dL_law_1121 rfl ?_
  refine x_iload_3 1123 C dL_law_1122 rfl ?_
  refine x_iconst (v := 1) 1124 C dL_law_1123 rfl rfl ?_
  refine x_iadd 1125 C dL_law_1124 rfl ?_
  refine x_topi (nI_add i 1) ?_
  refine x_sld 1126 (i + 1) C S (rfl) (by omega) (by omega) dL_law_1125 rfl ?_
  refine x_callV 1129 C (c_X5_save K _ X ho _) hx36 wcl_X5 hy_X5_save wv_X5_save we_X5_save lk_L_129 dL_law_1126 rfl ⟨Nat.le_of_ble_eq_true rfl, Nat.le_of_ble_eq_true rfl⟩ ⟨show 64 + 4 * k + 4 ≤ 600000 by omega, show 7533 + 61 * k + 19 ≤ 7302250 by omega⟩ (Nat.le_of_ble_eq_true rfl) rfl (k_i (fun r_1 M_1 h_1 => ?_))
  obtain ⟨rfl, X, fr⟩ := h_1
  have Y := Y.kept fr
  obtain ⟨z, F, G, WB, hr⟩ := Y
  refine x_wid (k2 := 64 + 4 * (k + 1)) (n2 := 7533 + 61 * (k + 1)) (by show 64 + 4 * k + 4 ≤ _; omega) (by show 7533 + 61 * k + 19 ≤ _; omega) ?_
  refine x_aload_2 1130 C dL_law_1129 rfl ?_
  refine x_aload_0 1131 C dL_law_1130 rfl ?_
  refine x_iload_3 1132 C dL_law_1131 rfl ?_
  refine x_iconst (v := 1) 1133 C dL_law_1132 rfl rfl ?_
  refine x_iadd 1134 C dL_law_1133 rfl ?_
  refine x_topi (nI_add i 1) ?_
  refine x_sld 1135 (i + 1) C S (rfl) (by omega) (by omega) dL_law_1134 rfl ?_
  refine x_callV 1138 C (c_X6_save K _ WB hr ho _) WB.obj wcl_X6 hy_X6_save wv_X6_save we_X6_save lk_L_132 dL_law_1135 rfl ⟨Nat.le_of_ble_eq_true rfl, Nat.le_of_ble_eq_true rfl⟩ ⟨show 64 + 4 * (k + 1) + 0 ≤ 600000 by omega, show 7533 + 61 * (k + 1) + 0 ≤ 7302250 by omega⟩ (Nat.le_of_ble_eq_true rfl) rfl (k_0 rfl rfl (k_i (fun r_2 M_2 h_2 => ?_)))
  obtain ⟨rfl, Y, fr⟩ := h_2
  have X := X.kept fr
  refine x_icmp_eq 1141 1166 C dL_law_1138 rfl rfl (fun _ => ?_) (fun z => absurd (rfl) z)
  exact kk _ _ X Y (okS_save ho _)
set_option maxHeartbeats 4000000 in
set_option maxRecDepth 100000 in
theorem law_c26 {E : hEv} {K : hKv} (C : hCx E K cL_law 4 RL nm room_1) {b L : Nat} {xs : Nat → Int32} (S : hSc E b L xs) (hL : L ≤ 3072) {A B : Nat → Nat} {σ : hSt} {M : hM} (X : cX K A σ M) (Y : mX K B σ M) (ho : okS σ) (i k : Nat) (hi6 : i + 6 ≤ L) (hk : k < 512) (kk : ∀ (σ2 : hSt) (M2 : hM), cX K A σ2 M2 → mX K B σ2 M2 → okS σ2 → hX E (64 + 4 * (k + 1)) (7533 + 61 * (k + 1)) 1166 [some (.ref b), some (.ref (A 36)), some (.ref (B 0)), some (.int (nI i))] [] M2) : hX E (64 + 4 * k) (7533 + 61 * k) 1143 [some (.ref b), some (.ref (A 36)), some (.ref (B 0)), some (.int (nI i))] [] M := by
  obtain ⟨zx, hx36⟩ := X.obj
  refine x_aload_1 1144 C dL_law_1143 rfl ?_
  refine x_aload_0 1145 C dL_law_1144 rfl ?_
  refine x_iload_3 1146 C dL_law_1145 rfl ?_
  refine x_iconst (v := 1) 1147 C dL_law_1146 rfl rfl ?_
  refine x_iadd 1148 C dL_law_1147 rfl ?_
  refine x_topi (nI_add i 1) ?_
  refine x_sld 1149 (i + 1) C S (rfl) (by omega) (by omega) dL_law_1148 rfl ?_
  refine x_callV 1152 C (c_X5_restore K _ X ho _) hx36 wcl_X5 hy_X5_restore wv_X5_restore we_X5_restore lk_L_133 dL_law_1149 rfl ⟨Nat.le_of_ble_eq_true rfl, Nat.le_of_ble_eq_true rfl⟩ ⟨show 64 + 4 * k + 0 ≤ 600000 by omega, show 7533 + 61 * k + 0 ≤ 7302250 by omega⟩ (Nat.le_of_ble_eq_true rfl) rfl (k_0 rfl rfl (k_i (fun r_1 M_1 h_1 => ?_)))
  obtain ⟨rfl, X, fr⟩ := h_1
  have Y := Y.kept fr
  obtain ⟨z, F, G, WB, hr⟩ := Y
  refine x_wid (k2 := 64 + 4 * (k + 1)) (n2 := 7533 + 61 * (k + 1)) (by show 64 + 4 * k + 0 ≤ _; omega) (by show 7533 + 61 * k + 0 ≤ _; omega) ?_
  refine x_aload_2 1153 C dL_law_1152 rfl ?_
  refine x_aload_0 1154 C dL_law_1153 rfl ?_
  refine x_iload_3 1155 C dL_law_1154 rfl ?_
  refine x_iconst (v := 1) 1156 C dL_law_1155 rfl rfl ?_
  refine x_iadd 1157 C dL_law_1156 rfl ?_
  refine x_topi (nI_add i 1) ?_
  refine x_sld 1158 (i + 1) C S (rfl) (by omega) (by omega) dL_law_1157 rfl ?_
  refine x_callV 1161 C (c_X6_restore K _ WB hr ho _) WB.obj wcl_X6 hy_X6_restore wv_X6_restore we_X6_restore lk_L_136 dL_law_1158 rfl ⟨Nat.le_of_ble_eq_true rfl, Nat.le_of_ble_eq_true rfl⟩ ⟨show 64 + 4 * (k + 1) + 0 ≤ 600000 by omega, show 7533 + 61 * (k + 1) + 0 ≤ 7302250 by omega⟩ (Nat.le_of_ble_eq_true rfl) rfl (k_0 rfl rfl (k_i (fun r_2 M_2 h_2 => ?_)))
  obtain ⟨rfl, Y, fr⟩ := h_2
  have X := X.kept fr
  refine x_icmp_eq 1164 1166 C dL_law_1161 rfl rfl (fun _ => ?_) (fun z => absurd (rfl) z)
  exact kk _ _ X Y (okS_restore ho _)
end LawCases
