section LCB
variable {p : Program} {l : Launch} {e : Env} {s : State} {m : MethodId} {below : List Frame} {meth : Method} {c : Code} {b L : Nat} {xs : Nat → Int32} {ac am : Nat → Nat} {D : va_G} {yc ym : Nat → ClassId} {kc ks : Nat} {i : Nat} {σ τ : xH} {S : St}
set_option maxHeartbeats 2000000 in
theorem law_shaken (B : lB p s m meth c b L xs ac am D yc ym kc ks) (h6 : i + 6 ≤ L) (hS : cS σ S) (hM : mS τ S) (hO : sOk S) (hk : ∀ σ τ S, cS σ S → mS τ S → sOk S → Lw p l e s m below meth c b ac am D yc ym kc ks 1452 i [] σ τ) : Lw p l e s m below meth c b ac am D yc ym kc ks 653 i [] σ τ := by
  refine r_x B dL_law_653 ?_
  refine r_s (k := 1) B (by omega) dL_law_654 dL_law_655 dL_law_656 dL_law_657 dL_law_658 ?_
  refine r_s (k := 2) B (by omega) dL_law_659 dL_law_660 dL_law_661 dL_law_662 dL_law_663 ?_
  refine r_cC2 B dL_law_664 okX4_shaken ml_L_68 rfl (Nat.le_of_ble_eq_true rfl) ⟨by decide, by decide⟩ (Nat.le_of_ble_eq_true rfl) (c_X4_shaken hS _ _ (fun σ1 hS1 => ?_))
  refine r_m B dL_law_667 ?_
  refine r_s (k := 1) B (by omega) dL_law_668 dL_law_669 dL_law_670 dL_law_671 dL_law_672 ?_
  refine r_s (k := 2) B (by omega) dL_law_673 dL_law_674 dL_law_675 dL_law_676 dL_law_677 ?_
  refine r_cM2 B dL_law_678 okX5_shaken ml_L_71 rfl (Nat.le_of_ble_eq_true rfl) ⟨by decide, by decide⟩ (Nat.le_of_ble_eq_true rfl) (c_X5_shaken hM hO.1 _ _ (fun τ1 hM1 => ?_))
  refine r_eq (tgt := 1452) B dL_law_681 rfl rfl ?_
  exact hk _ _ _ hS1 hM1 (k_shaken hO _ _)
set_option maxHeartbeats 2000000 in
theorem law_days (B : lB p s m meth c b L xs ac am D yc ym kc ks) (h6 : i + 6 ≤ L) (hS : cS σ S) (hM : mS τ S) (hO : sOk S) (hk : ∀ σ τ S, cS σ S → mS τ S → sOk S → Lw p l e s m below meth c b ac am D yc ym kc ks 1452 i [] σ τ) : Lw p l e s m below meth c b ac am D yc ym kc ks 686 i [] σ τ := by
  refine r_x B dL_law_686 ?_
  refine r_s (k := 1) B (by omega) dL_law_687 dL_law_688 dL_law_689 dL_law_690 dL_law_691 ?_
  refine r_cC1 B dL_law_692 okX4_days ml_L_72 rfl (Nat.le_of_ble_eq_true rfl) ⟨by decide, by decide⟩ (Nat.le_of_ble_eq_true rfl) (c_X4_days hS _ (fun σ1 hS1 => ?_))
  refine r_m B dL_law_695 ?_
  refine r_s (k := 1) B (by omega) dL_law_696 dL_law_697 dL_law_698 dL_law_699 dL_law_700 ?_
  refine r_cM1 B dL_law_701 okX5_days ml_L_75 rfl (Nat.le_of_ble_eq_true rfl) ⟨by decide, by decide⟩ (Nat.le_of_ble_eq_true rfl) (c_X5_days hM hO.1 _ (fun τ1 hM1 => ?_))
  refine r_eq (tgt := 1452) B dL_law_704 rfl rfl ?_
  exact hk _ _ _ hS1 hM1 (k_days hO _)
set_option maxHeartbeats 2000000 in
theorem law_on (B : lB p s m meth c b L xs ac am D yc ym kc ks) (h6 : i + 6 ≤ L) (hS : cS σ S) (hM : mS τ S) (hO : sOk S) (hk : ∀ σ τ S, cS σ S → mS τ S → sOk S → Lw p l e s m below meth c b ac am D yc ym kc ks 1452 i [] σ τ) : Lw p l e s m below meth c b ac am D yc ym kc ks 709 i [] σ τ := by
  refine r_x B dL_law_709 ?_
  refine r_s (k := 1) B (by omega) dL_law_710 dL_law_711 dL_law_712 dL_law_713 dL_law_714 ?_
  refine r_s (k := 2) B (by omega) dL_law_715 dL_law_716 dL_law_717 dL_law_718 dL_law_719 ?_
  refine r_cC2 B dL_law_720 okX4_on ml_L_76 rfl (Nat.le_of_ble_eq_true rfl) ⟨by decide, by decide⟩ (Nat.le_of_ble_eq_true rfl) (c_X4_on hS _ _ (fun σ1 hS1 => ?_))
  refine r_m B dL_law_723 ?_
  refine r_s (k := 1) B (by omega) dL_law_724 dL_law_725 dL_law_726 dL_law_727 dL_law_728 ?_
  refine r_s (k := 2) B (by omega) dL_law_729 dL_law_730 dL_law_731 dL_law_732 dL_law_733 ?_
  refine r_cM2 B dL_law_734 okX5_on ml_L_79 rfl (Nat.le_of_ble_eq_true rfl) ⟨by decide, by decide⟩ (Nat.le_of_ble_eq_true rfl) (c_X5_on hM hO.1 _ _ (fun τ1 hM1 => ?_))
  refine r_eq (tgt := 1452) B dL_law_737 rfl rfl ?_
  exact hk _ _ _ hS1 hM1 (k_on hO _ _)
set_option maxHeartbeats 2000000 in
theorem law_then (B : lB p s m meth c b L xs ac am D yc ym kc ks) (h6 : i + 6 ≤ L) (hS : cS σ S) (hM : mS τ S) (hO : sOk S) (hk : ∀ σ τ S, cS σ S → mS τ S → sOk S → Lw p l e s m below meth c b ac am D yc ym kc ks 1452 i [] σ τ) : Lw p l e s m below meth c b ac am D yc ym kc ks 742 i [] σ τ := by
  refine r_x B dL_law_742 ?_
  refine r_s (k := 1) B (by omega) dL_law_743 dL_law_744 dL_law_745 dL_law_746 dL_law_747 ?_
  refine r_s (k := 2) B (by omega) dL_law_748 dL_law_749 dL_law_750 dL_law_751 dL_law_752 ?_
  refine r_cC2 B dL_law_753 okX4_then ml_L_80 rfl (Nat.le_of_ble_eq_true rfl) ⟨by decide, by decide⟩ (Nat.le_of_ble_eq_true rfl) (c_X4_then hS _ _ (fun σ1 hS1 => ?_))
  refine r_m B dL_law_756 ?_
  refine r_s (k := 1) B (by omega) dL_law_757 dL_law_758 dL_law_759 dL_law_760 dL_law_761 ?_
  refine r_s (k := 2) B (by omega) dL_law_762 dL_law_763 dL_law_764 dL_law_765 dL_law_766 ?_
  refine r_cM2 B dL_law_767 okX5_then ml_L_83 rfl (Nat.le_of_ble_eq_true rfl) ⟨by decide, by decide⟩ (Nat.le_of_ble_eq_true rfl) (c_X5_then hM hO.1 _ _ (fun τ1 hM1 => ?_))
  refine r_eq (tgt := 1452) B dL_law_770 rfl rfl ?_
  exact hk _ _ _ hS1 hM1 (k_then hO _ _)
set_option maxHeartbeats 2000000 in
theorem law_leaves (B : lB p s m meth c b L xs ac am D yc ym kc ks) (h6 : i + 6 ≤ L) (hS : cS σ S) (hM : mS τ S) (hO : sOk S) (hk : ∀ σ τ S, cS σ S → mS τ S → sOk S → Lw p l e s m below meth c b ac am D yc ym kc ks 1452 i [] σ τ) : Lw p l e s m below meth c b ac am D yc ym kc ks 775 i [] σ τ := by
  refine r_x B dL_law_775 ?_
  refine r_s (k := 1) B (by omega) dL_law_776 dL_law_777 dL_law_778 dL_law_779 dL_law_780 ?_
  refine r_cC1 B dL_law_781 okX4_leaves ml_L_84 rfl (Nat.le_of_ble_eq_true rfl) ⟨by decide, by decide⟩ (Nat.le_of_ble_eq_true rfl) (c_X4_leaves hS _ (fun σ1 hS1 => ?_))
  refine r_m B dL_law_784 ?_
  refine r_s (k := 1) B (by omega) dL_law_785 dL_law_786 dL_law_787 dL_law_788 dL_law_789 ?_
  refine r_cM1 B dL_law_790 okX5_leaves ml_L_87 rfl (Nat.le_of_ble_eq_true rfl) ⟨by decide, by decide⟩ (Nat.le_of_ble_eq_true rfl) (c_X5_leaves hM hO.1 _ (fun τ1 hM1 => ?_))
  refine r_eq (tgt := 1452) B dL_law_793 rfl rfl ?_
  exact hk _ _ _ hS1 hM1 (k_leaves hO _)
set_option maxHeartbeats 2000000 in
theorem law_tame (B : lB p s m meth c b L xs ac am D yc ym kc ks) (h6 : i + 6 ≤ L) (hS : cS σ S) (hM : mS τ S) (hO : sOk S) (hk : ∀ σ τ S, cS σ S → mS τ S → sOk S → Lw p l e s m below meth c b ac am D yc ym kc ks 1452 i [] σ τ) : Lw p l e s m below meth c b ac am D yc ym kc ks 798 i [] σ τ := by
  refine r_x B dL_law_798 ?_
  refine r_s (k := 1) B (by omega) dL_law_799 dL_law_800 dL_law_801 dL_law_802 dL_law_803 ?_
  refine r_s (k := 2) B (by omega) dL_law_804 dL_law_805 dL_law_806 dL_law_807 dL_law_808 ?_
  refine r_cC2 B dL_law_809 okX4_tame ml_L_88 rfl (Nat.le_of_ble_eq_true rfl) ⟨by decide, by decide⟩ (Nat.le_of_ble_eq_true rfl) (c_X4_tame hS hO.1 _ _ (fun σ1 hS1 => ?_))
  refine r_m B dL_law_812 ?_
  refine r_s (k := 1) B (by omega) dL_law_813 dL_law_814 dL_law_815 dL_law_816 dL_law_817 ?_
  refine r_s (k := 2) B (by omega) dL_law_818 dL_law_819 dL_law_820 dL_law_821 dL_law_822 ?_
  refine r_cM2 B dL_law_823 okX5_tame ml_L_91 rfl (Nat.le_of_ble_eq_true rfl) ⟨by decide, by decide⟩ (Nat.le_of_ble_eq_true rfl) (c_X5_tame hM hO.1 _ _ (fun τ1 hM1 => ?_))
  refine r_eq (tgt := 1452) B dL_law_826 rfl rfl ?_
  exact hk _ _ _ hS1 hM1 (k_tame hO _ _)
set_option maxHeartbeats 2000000 in
theorem law_clear (B : lB p s m meth c b L xs ac am D yc ym kc ks) (h6 : i + 6 ≤ L) (hS : cS σ S) (hM : mS τ S) (hO : sOk S) (hk : ∀ σ τ S, cS σ S → mS τ S → sOk S → Lw p l e s m below meth c b ac am D yc ym kc ks 1452 i [] σ τ) : Lw p l e s m below meth c b ac am D yc ym kc ks 831 i [] σ τ := by
  refine r_x B dL_law_831 ?_
  refine r_s (k := 1) B (by omega) dL_law_832 dL_law_833 dL_law_834 dL_law_835 dL_law_836 ?_
  refine r_s (k := 2) B (by omega) dL_law_837 dL_law_838 dL_law_839 dL_law_840 dL_law_841 ?_
  refine r_cC2 B dL_law_842 okX4_clear ml_L_92 rfl (Nat.le_of_ble_eq_true rfl) ⟨by decide, by decide⟩ (Nat.le_of_ble_eq_true rfl) (c_X4_clear hS _ _ (fun σ1 hS1 => ?_))
  refine r_m B dL_law_845 ?_
  refine r_s (k := 1) B (by omega) dL_law_846 dL_law_847 dL_law_848 dL_law_849 dL_law_850 ?_
  refine r_s (k := 2) B (by omega) dL_law_851 dL_law_852 dL_law_853 dL_law_854 dL_law_855 ?_
  refine r_cM2 B dL_law_856 okX5_clear ml_L_95 rfl (Nat.le_of_ble_eq_true rfl) ⟨by decide, by decide⟩ (Nat.le_of_ble_eq_true rfl) (c_X5_clear hM hO.1 _ _ (fun τ1 hM1 => ?_))
  refine r_eq (tgt := 1452) B dL_law_859 rfl rfl ?_
  exact hk _ _ _ hS1 hM1 (k_clear hO _ _)
set_option maxHeartbeats 2000000 in
theorem law_lower (B : lB p s m meth c b L xs ac am D yc ym kc ks) (h6 : i + 6 ≤ L) (hS : cS σ S) (hM : mS τ S) (hO : sOk S) (hk : ∀ σ τ S, cS σ S → mS τ S → sOk S → Lw p l e s m below meth c b ac am D yc ym kc ks 1452 i [] σ τ) : Lw p l e s m below meth c b ac am D yc ym kc ks 864 i [] σ τ := by
  refine r_x B dL_law_864 ?_
  refine r_s (k := 1) B (by omega) dL_law_865 dL_law_866 dL_law_867 dL_law_868 dL_law_869 ?_
  refine r_s (k := 2) B (by omega) dL_law_870 dL_law_871 dL_law_872 dL_law_873 dL_law_874 ?_
  refine r_cC2 B dL_law_875 okX4_lower ml_L_96 rfl (Nat.le_of_ble_eq_true rfl) ⟨by decide, by decide⟩ (Nat.le_of_ble_eq_true rfl) (c_X4_lower hS _ _ (fun σ1 hS1 => ?_))
  refine r_m B dL_law_878 ?_
  refine r_s (k := 1) B (by omega) dL_law_879 dL_law_880 dL_law_881 dL_law_882 dL_law_883 ?_
  refine r_s (k := 2) B (by omega) dL_law_884 dL_law_885 dL_law_886 dL_law_887 dL_law_888 ?_
  refine r_cM2 B dL_law_889 okX5_lower ml_L_99 rfl (Nat.le_of_ble_eq_true rfl) ⟨by decide, by decide⟩ (Nat.le_of_ble_eq_true rfl) (c_X5_lower hM hO.1 _ _ (fun τ1 hM1 => ?_))
  refine r_eq (tgt := 1452) B dL_law_892 rfl rfl ?_
  exact hk _ _ _ hS1 hM1 (k_lower hO _ _)
set_option maxHeartbeats 2000000 in
theorem law_kind (B : lB p s m meth c b L xs ac am D yc ym kc ks) (h6 : i + 6 ≤ L) (hS : cS σ S) (hM : mS τ S) (hO : sOk S) (hk : ∀ σ τ S, cS σ S → mS τ S → sOk S → Lw p l e s m below meth c b ac am D yc ym kc ks 1452 i [] σ τ) : Lw p l e s m below meth c b ac am D yc ym kc ks 897 i [] σ τ := by
  refine r_x B dL_law_897 ?_
  refine r_s (k := 1) B (by omega) dL_law_898 dL_law_899 dL_law_900 dL_law_901 dL_law_902 ?_
  refine r_s (k := 2) B (by omega) dL_law_903 dL_law_904 dL_law_905 dL_law_906 dL_law_907 ?_
  refine r_cC2 B dL_law_908 okX4_kind ml_L_100 rfl (Nat.le_of_ble_eq_true rfl) ⟨by decide, by decide⟩ (Nat.le_of_ble_eq_true rfl) (c_X4_kind hS _ _ (fun σ1 hS1 => ?_))
  refine r_m B dL_law_911 ?_
  refine r_s (k := 1) B (by omega) dL_law_912 dL_law_913 dL_law_914 dL_law_915 dL_law_916 ?_
  refine r_s (k := 2) B (by omega) dL_law_917 dL_law_918 dL_law_919 dL_law_920 dL_law_921 ?_
  refine r_cM2 B dL_law_922 okX5_kind ml_L_103 rfl (Nat.le_of_ble_eq_true rfl) ⟨by decide, by decide⟩ (Nat.le_of_ble_eq_true rfl) (c_X5_kind hM hO.1 _ _ (fun τ1 hM1 => ?_))
  refine r_eq (tgt := 1452) B dL_law_925 rfl rfl ?_
  exact hk _ _ _ hS1 hM1 (k_kind hO _ _)
set_option maxHeartbeats 2000000 in
theorem law_wish (B : lB p s m meth c b L xs ac am D yc ym kc ks) (h6 : i + 6 ≤ L) (hS : cS σ S) (hM : mS τ S) (hO : sOk S) (hk : ∀ σ τ S, cS σ S → mS τ S → sOk S → Lw p l e s m below meth c b ac am D yc ym kc ks 1452 i [] σ τ) : Lw p l e s m below meth c b ac am D yc ym kc ks 930 i [] σ τ := by
  refine r_x B dL_law_930 ?_
  refine r_s (k := 1) B (by omega) dL_law_931 dL_law_932 dL_law_933 dL_law_934 dL_law_935 ?_
  refine r_s (k := 2) B (by omega) dL_law_936 dL_law_937 dL_law_938 dL_law_939 dL_law_940 ?_
  refine r_s (k := 3) B (by omega) dL_law_941 dL_law_942 dL_law_943 dL_law_944 dL_law_945 ?_
  refine r_cC3 B dL_law_946 okX4_wish ml_L_104 rfl (Nat.le_of_ble_eq_true rfl) ⟨by decide, by decide⟩ (Nat.le_of_ble_eq_true rfl) (c_X4_wish hS _ _ _ (fun σ1 hS1 => ?_))
  refine r_m B dL_law_949 ?_
  refine r_s (k := 1) B (by omega) dL_law_950 dL_law_951 dL_law_952 dL_law_953 dL_law_954 ?_
  refine r_s (k := 2) B (by omega) dL_law_955 dL_law_956 dL_law_957 dL_law_958 dL_law_959 ?_
  refine r_s (k := 3) B (by omega) dL_law_960 dL_law_961 dL_law_962 dL_law_963 dL_law_964 ?_
  refine r_cM3 B dL_law_965 okX5_wish ml_L_107 rfl (Nat.le_of_ble_eq_true rfl) ⟨by decide, by decide⟩ (Nat.le_of_ble_eq_true rfl) (c_X5_wish hM hO.1 _ _ _ (fun τ1 hM1 => ?_))
  refine r_eq (tgt := 1452) B dL_law_968 rfl rfl ?_
  exact hk _ _ _ hS1 hM1 (k_wish hO _ _ _)
set_option maxHeartbeats 2000000 in
theorem law_drives (B : lB p s m meth c b L xs ac am D yc ym kc ks) (h6 : i + 6 ≤ L) (hS : cS σ S) (hM : mS τ S) (hO : sOk S) (hk : ∀ σ τ S, cS σ S → mS τ S → sOk S → Lw p l e s m below meth c b ac am D yc ym kc ks 1452 i [] σ τ) : Lw p l e s m below meth c b ac am D yc ym kc ks 973 i [] σ τ := by
  refine r_x B dL_law_973 ?_
  refine r_s (k := 1) B (by omega) dL_law_974 dL_law_975 dL_law_976 dL_law_977 dL_law_978 ?_
  refine r_cC1 B dL_law_979 okX4_drives ml_L_108 rfl (Nat.le_of_ble_eq_true rfl) ⟨by decide, by decide⟩ (Nat.le_of_ble_eq_true rfl) (c_X4_drives hS _ (fun σ1 hS1 => ?_))
  refine r_m B dL_law_982 ?_
  refine r_s (k := 1) B (by omega) dL_law_983 dL_law_984 dL_law_985 dL_law_986 dL_law_987 ?_
  refine r_cM1 B dL_law_988 okX5_drives ml_L_111 rfl (Nat.le_of_ble_eq_true rfl) ⟨by decide, by decide⟩ (Nat.le_of_ble_eq_true rfl) (c_X5_drives hM hO.1 _ (fun τ1 hM1 => ?_))
  refine r_eq (tgt := 1452) B dL_law_991 rfl rfl ?_
  exact hk _ _ _ hS1 hM1 (k_drives hO _)
set_option maxHeartbeats 2000000 in
theorem law_slowest (B : lB p s m meth c b L xs ac am D yc ym kc ks) (h6 : i + 6 ≤ L) (hS : cS σ S) (hM : mS τ S) (hO : sOk S) (hk : ∀ σ τ S, cS σ S → mS τ S → sOk S → Lw p l e s m below meth c b ac am D yc ym kc ks 1452 i [] σ τ) : Lw p l e s m below meth c b ac am D yc ym kc ks 996 i [] σ τ := by
  refine r_x B dL_law_996 ?_
  refine r_cC0 B dL_law_997 okX4_slowest ml_L_112 rfl (Nat.le_of_ble_eq_true rfl) ⟨by decide, by decide⟩ (Nat.le_of_ble_eq_true rfl) (c_X4_slowest hS  (fun σ1 hS1 => ?_))
  refine r_m B dL_law_1000 ?_
  refine r_cM0 B dL_law_1001 okX5_slowest ml_L_116 rfl (Nat.le_of_ble_eq_true rfl) ⟨by decide, by decide⟩ (Nat.le_of_ble_eq_true rfl) (c_X5_slowest hM hO.1  (fun τ1 hM1 => ?_))
  refine r_eq (tgt := 1452) B dL_law_1004 rfl rfl ?_
  exact hk _ _ _ hS1 hM1 (k_slowest hO)
set_option maxHeartbeats 2000000 in
theorem law_feed (B : lB p s m meth c b L xs ac am D yc ym kc ks) (h6 : i + 6 ≤ L) (hS : cS σ S) (hM : mS τ S) (hO : sOk S) (hk : ∀ σ τ S, cS σ S → mS τ S → sOk S → Lw p l e s m below meth c b ac am D yc ym kc ks 1452 i [] σ τ) : Lw p l e s m below meth c b ac am D yc ym kc ks 1009 i [] σ τ := by
  refine r_x B dL_law_1009 ?_
  refine r_s (k := 1) B (by omega) dL_law_1010 dL_law_1011 dL_law_1012 dL_law_1013 dL_law_1014 ?_
  refine r_s (k := 2) B (by omega) dL_law_1015 dL_law_1016 dL_law_1017 dL_law_1018 dL_law_1019 ?_
  refine r_cC2 B dL_law_1020 okX4_feed ml_L_117 rfl (Nat.le_of_ble_eq_true rfl) ⟨by decide, by decide⟩ (Nat.le_of_ble_eq_true rfl) (c_X4_feed hS _ _ (fun σ1 hS1 => ?_))
  refine r_m B dL_law_1023 ?_
  refine r_s (k := 1) B (by omega) dL_law_1024 dL_law_1025 dL_law_1026 dL_law_1027 dL_law_1028 ?_
  refine r_s (k := 2) B (by omega) dL_law_1029 dL_law_1030 dL_law_1031 dL_law_1032 dL_law_1033 ?_
  refine r_cM2 B dL_law_1034 okX5_feed ml_L_120 rfl (Nat.le_of_ble_eq_true rfl) ⟨by decide, by decide⟩ (Nat.le_of_ble_eq_true rfl) (c_X5_feed hM hO.1 _ _ (fun τ1 hM1 => ?_))
  refine r_eq (tgt := 1452) B dL_law_1037 rfl rfl ?_
  exact hk _ _ _ hS1 hM1 (k_feed hO _ _)
end LCB
