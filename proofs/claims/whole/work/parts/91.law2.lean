/-! THE LAW: the other cases -/
set_option maxHeartbeats 1000000 in
set_option maxRecDepth 100000 in
theorem cs_21 {E : q_E} {i : Nat} {σ : q_M} {Q : q_P} (hi : i + 8 ≤ q_L E) (hL : q_L E ≤ 4096) (hR : r_R σ) (K : ∀ ρ, r_R ρ → q_G YL_law E 86 3995 1604 [some (.ref 1000000), some (.ref 0), some (.ref 72), some (.int (nI i))] [] q_SH ρ Q) : q_G YL_law E 86 3995 749 [some (.ref 1000000), some (.ref 0), some (.ref 72), some (.int (nI i))] [] q_SH σ Q := by
  refine q_aload_n dL_law_749 rfl ?_
  refine q_aload_n dL_law_750 rfl ?_
  refine q_iload_n dL_law_751 rfl ?_
  refine q_iconst (x := 1) dL_law_752 (by decide) ?_
  refine q_iadd dL_law_753 ?_
  refine q_sald (q_sin (k := 1) hi hL (by decide)) dL_law_754 ?_
  refine q_aload_n dL_law_755 rfl ?_
  refine q_iload_n dL_law_756 rfl ?_
  refine q_iconst (x := 2) dL_law_757 (by decide) ?_
  refine q_iadd dL_law_758 ?_
  refine q_sald (q_sin (k := 2) hi hL (by decide)) dL_law_759 ?_
  refine q_aload_n dL_law_760 rfl ?_
  refine q_iload_n dL_law_761 rfl ?_
  refine q_iconst (x := 3) dL_law_762 (by decide) ?_
  refine q_iadd dL_law_763 ?_
  refine q_sald (q_sin (k := 3) hi hL (by decide)) dL_law_764 ?_
  refine q_rE1 lL_104 vX7_bubbles (ci := 7) rfl dL_law_765 rE_bubbles hR rfl rfl rfl (Nat.le_of_ble_eq_true rfl) ⟨⟨by decide, by decide⟩, by decide, by decide⟩ ⟨rfl, rfl⟩ (fun x τ hF => ?_)
  refine q_aload_n dL_law_768 rfl ?_
  refine q_aload_n dL_law_769 rfl ?_
  refine q_iload_n dL_law_770 rfl ?_
  refine q_iconst (x := 1) dL_law_771 (by decide) ?_
  refine q_iadd dL_law_772 ?_
  refine q_sald (q_sin (k := 1) hi hL (by decide)) dL_law_773 ?_
  refine q_aload_n dL_law_774 rfl ?_
  refine q_iload_n dL_law_775 rfl ?_
  refine q_iconst (x := 2) dL_law_776 (by decide) ?_
  refine q_iadd dL_law_777 ?_
  refine q_sald (q_sin (k := 2) hi hL (by decide)) dL_law_778 ?_
  refine q_aload_n dL_law_779 rfl ?_
  refine q_iload_n dL_law_780 rfl ?_
  refine q_iconst (x := 3) dL_law_781 (by decide) ?_
  refine q_iadd dL_law_782 ?_
  refine q_sald (q_sin (k := 3) hi hL (by decide)) dL_law_783 ?_
  refine q_rE2 lL_107 vX8_bubbles (ci := 8) rfl dL_law_784 hF rfl rfl rfl (Nat.le_of_ble_eq_true rfl) ⟨⟨by decide, by decide⟩, by decide, by decide⟩ ⟨rfl, rfl⟩ (fun ρ hρ => ?_)
  exact q_icmp_eq 1604 dL_law_787 (by decide) (fun _ => K ρ hρ) (fun z => absurd rfl z)
set_option maxHeartbeats 1000000 in
set_option maxRecDepth 100000 in
theorem cs_22 {E : q_E} {i : Nat} {σ : q_M} {Q : q_P} (hi : i + 8 ≤ q_L E) (hL : q_L E ≤ 4096) (hR : r_R σ) (K : ∀ ρ, r_R ρ → q_G YL_law E 86 3995 1604 [some (.ref 1000000), some (.ref 0), some (.ref 72), some (.int (nI i))] [] q_SH ρ Q) : q_G YL_law E 86 3995 792 [some (.ref 1000000), some (.ref 0), some (.ref 72), some (.int (nI i))] [] q_SH σ Q := by
  refine q_aload_n dL_law_792 rfl ?_
  refine q_aload_n dL_law_793 rfl ?_
  refine q_iload_n dL_law_794 rfl ?_
  refine q_iconst (x := 1) dL_law_795 (by decide) ?_
  refine q_iadd dL_law_796 ?_
  refine q_sald (q_sin (k := 1) hi hL (by decide)) dL_law_797 ?_
  refine q_aload_n dL_law_798 rfl ?_
  refine q_iload_n dL_law_799 rfl ?_
  refine q_iconst (x := 2) dL_law_800 (by decide) ?_
  refine q_iadd dL_law_801 ?_
  refine q_sald (q_sin (k := 2) hi hL (by decide)) dL_law_802 ?_
  refine q_aload_n dL_law_803 rfl ?_
  refine q_iload_n dL_law_804 rfl ?_
  refine q_iconst (x := 3) dL_law_805 (by decide) ?_
  refine q_iadd dL_law_806 ?_
  refine q_sald (q_sin (k := 3) hi hL (by decide)) dL_law_807 ?_
  refine q_rE1 lL_108 vX7_atThumb (ci := 7) rfl dL_law_808 rE_atThumb hR rfl rfl rfl (Nat.le_of_ble_eq_true rfl) ⟨⟨by decide, by decide⟩, by decide, by decide⟩ ⟨rfl, rfl⟩ (fun x τ hF => ?_)
  refine q_aload_n dL_law_811 rfl ?_
  refine q_aload_n dL_law_812 rfl ?_
  refine q_iload_n dL_law_813 rfl ?_
  refine q_iconst (x := 1) dL_law_814 (by decide) ?_
  refine q_iadd dL_law_815 ?_
  refine q_sald (q_sin (k := 1) hi hL (by decide)) dL_law_816 ?_
  refine q_aload_n dL_law_817 rfl ?_
  refine q_iload_n dL_law_818 rfl ?_
  refine q_iconst (x := 2) dL_law_819 (by decide) ?_
  refine q_iadd dL_law_820 ?_
  refine q_sald (q_sin (k := 2) hi hL (by decide)) dL_law_821 ?_
  refine q_aload_n dL_law_822 rfl ?_
  refine q_iload_n dL_law_823 rfl ?_
  refine q_iconst (x := 3) dL_law_824 (by decide) ?_
  refine q_iadd dL_law_825 ?_
  refine q_sald (q_sin (k := 3) hi hL (by decide)) dL_law_826 ?_
  refine q_rE2 lL_111 vX8_atThumb (ci := 8) rfl dL_law_827 hF rfl rfl rfl (Nat.le_of_ble_eq_true rfl) ⟨⟨by decide, by decide⟩, by decide, by decide⟩ ⟨rfl, rfl⟩ (fun ρ hρ => ?_)
  exact q_icmp_eq 1604 dL_law_830 (by decide) (fun _ => K ρ hρ) (fun z => absurd rfl z)
set_option maxHeartbeats 1000000 in
set_option maxRecDepth 100000 in
theorem cs_23 {E : q_E} {i : Nat} {σ : q_M} {Q : q_P} (hi : i + 8 ≤ q_L E) (hL : q_L E ≤ 4096) (hR : r_R σ) (K : ∀ ρ, r_R ρ → q_G YL_law E 86 3995 1604 [some (.ref 1000000), some (.ref 0), some (.ref 72), some (.int (nI i))] [] q_SH ρ Q) : q_G YL_law E 86 3995 835 [some (.ref 1000000), some (.ref 0), some (.ref 72), some (.int (nI i))] [] q_SH σ Q := by
  refine q_aload_n dL_law_835 rfl ?_
  refine q_aload_n dL_law_836 rfl ?_
  refine q_iload_n dL_law_837 rfl ?_
  refine q_iconst (x := 1) dL_law_838 (by decide) ?_
  refine q_iadd dL_law_839 ?_
  refine q_sald (q_sin (k := 1) hi hL (by decide)) dL_law_840 ?_
  refine q_aload_n dL_law_841 rfl ?_
  refine q_iload_n dL_law_842 rfl ?_
  refine q_iconst (x := 2) dL_law_843 (by decide) ?_
  refine q_iadd dL_law_844 ?_
  refine q_sald (q_sin (k := 2) hi hL (by decide)) dL_law_845 ?_
  refine q_aload_n dL_law_846 rfl ?_
  refine q_iload_n dL_law_847 rfl ?_
  refine q_iconst (x := 3) dL_law_848 (by decide) ?_
  refine q_iadd dL_law_849 ?_
  refine q_sald (q_sin (k := 3) hi hL (by decide)) dL_law_850 ?_
  refine q_rE1 lL_112 vX7_spread (ci := 7) rfl dL_law_851 rE_spread hR rfl rfl rfl (Nat.le_of_ble_eq_true rfl) ⟨⟨by decide, by decide⟩, by decide, by decide⟩ ⟨rfl, rfl⟩ (fun x τ hF => ?_)
  refine q_aload_n dL_law_854 rfl ?_
  refine q_aload_n dL_law_855 rfl ?_
  refine q_iload_n dL_law_856 rfl ?_
  refine q_iconst (x := 1) dL_law_857 (by decide) ?_
  refine q_iadd dL_law_858 ?_
  refine q_sald (q_sin (k := 1) hi hL (by decide)) dL_law_859 ?_
  refine q_aload_n dL_law_860 rfl ?_
  refine q_iload_n dL_law_861 rfl ?_
  refine q_iconst (x := 2) dL_law_862 (by decide) ?_
  refine q_iadd dL_law_863 ?_
  refine q_sald (q_sin (k := 2) hi hL (by decide)) dL_law_864 ?_
  refine q_aload_n dL_law_865 rfl ?_
  refine q_iload_n dL_law_866 rfl ?_
  refine q_iconst (x := 3) dL_law_867 (by decide) ?_
  refine q_iadd dL_law_868 ?_
  refine q_sald (q_sin (k := 3) hi hL (by decide)) dL_law_869 ?_
  refine q_rE2 lL_115 vX8_spread (ci := 8) rfl dL_law_870 hF rfl rfl rfl (Nat.le_of_ble_eq_true rfl) ⟨⟨by decide, by decide⟩, by decide, by decide⟩ ⟨rfl, rfl⟩ (fun ρ hρ => ?_)
  exact q_icmp_eq 1604 dL_law_873 (by decide) (fun _ => K ρ hρ) (fun z => absurd rfl z)
set_option maxHeartbeats 1000000 in
set_option maxRecDepth 100000 in
theorem cs_24 {E : q_E} {i : Nat} {σ : q_M} {Q : q_P} (hi : i + 8 ≤ q_L E) (hL : q_L E ≤ 4096) (hR : r_R σ) (K : ∀ ρ, r_R ρ → q_G YL_law E 86 3995 1604 [some (.ref 1000000), some (.ref 0), some (.ref 72), some (.int (nI i))] [] q_SH ρ Q) : q_G YL_law E 86 3995 878 [some (.ref 1000000), some (.ref 0), some (.ref 72), some (.int (nI i))] [] q_SH σ Q := by
  refine q_aload_n dL_law_878 rfl ?_
  refine q_aload_n dL_law_879 rfl ?_
  refine q_iload_n dL_law_880 rfl ?_
  refine q_iconst (x := 1) dL_law_881 (by decide) ?_
  refine q_iadd dL_law_882 ?_
  refine q_sald (q_sin (k := 1) hi hL (by decide)) dL_law_883 ?_
  refine q_aload_n dL_law_884 rfl ?_
  refine q_iload_n dL_law_885 rfl ?_
  refine q_iconst (x := 2) dL_law_886 (by decide) ?_
  refine q_iadd dL_law_887 ?_
  refine q_sald (q_sin (k := 2) hi hL (by decide)) dL_law_888 ?_
  refine q_aload_n dL_law_889 rfl ?_
  refine q_iload_n dL_law_890 rfl ?_
  refine q_iconst (x := 3) dL_law_891 (by decide) ?_
  refine q_iadd dL_law_892 ?_
  refine q_sald (q_sin (k := 3) hi hL (by decide)) dL_law_893 ?_
  refine q_aload_n dL_law_894 rfl ?_
  refine q_iload_n dL_law_895 rfl ?_
  refine q_iconst (x := 4) dL_law_896 (by decide) ?_
  refine q_iadd dL_law_897 ?_
  refine q_sald (q_sin (k := 4) hi hL (by decide)) dL_law_898 ?_
  refine q_aload_n dL_law_899 rfl ?_
  refine q_iload_n dL_law_900 rfl ?_
  refine q_iconst (x := 5) dL_law_901 (by decide) ?_
  refine q_iadd dL_law_902 ?_
  refine q_sald (q_sin (k := 5) hi hL (by decide)) dL_law_903 ?_
  refine q_aload_n dL_law_904 rfl ?_
  refine q_iload_n dL_law_905 rfl ?_
  refine q_bipush (x := 6) dL_law_906 (by decide) ?_
  refine q_iadd dL_law_908 ?_
  refine q_sald (q_sin (k := 6) hi hL (by decide)) dL_law_909 ?_
  refine q_aload_n dL_law_910 rfl ?_
  refine q_iload_n dL_law_911 rfl ?_
  refine q_bipush (x := 7) dL_law_912 (by decide) ?_
  refine q_iadd dL_law_914 ?_
  refine q_sald (q_sin (k := 7) hi hL (by decide)) dL_law_915 ?_
  refine q_rE1 lL_116 vX7_hold (ci := 7) rfl dL_law_916 rE_hold hR rfl rfl rfl (Nat.le_of_ble_eq_true rfl) ⟨⟨by decide, by decide⟩, by decide, by decide⟩ ⟨rfl, rfl⟩ (fun x τ hF => ?_)
  refine q_aload_n dL_law_919 rfl ?_
  refine q_aload_n dL_law_920 rfl ?_
  refine q_iload_n dL_law_921 rfl ?_
  refine q_iconst (x := 1) dL_law_922 (by decide) ?_
  refine q_iadd dL_law_923 ?_
  refine q_sald (q_sin (k := 1) hi hL (by decide)) dL_law_924 ?_
  refine q_aload_n dL_law_925 rfl ?_
  refine q_iload_n dL_law_926 rfl ?_
  refine q_iconst (x := 2) dL_law_927 (by decide) ?_
  refine q_iadd dL_law_928 ?_
  refine q_sald (q_sin (k := 2) hi hL (by decide)) dL_law_929 ?_
  refine q_aload_n dL_law_930 rfl ?_
  refine q_iload_n dL_law_931 rfl ?_
  refine q_iconst (x := 3) dL_law_932 (by decide) ?_
  refine q_iadd dL_law_933 ?_
  refine q_sald (q_sin (k := 3) hi hL (by decide)) dL_law_934 ?_
  refine q_aload_n dL_law_935 rfl ?_
  refine q_iload_n dL_law_936 rfl ?_
  refine q_iconst (x := 4) dL_law_937 (by decide) ?_
  refine q_iadd dL_law_938 ?_
  refine q_sald (q_sin (k := 4) hi hL (by decide)) dL_law_939 ?_
  refine q_aload_n dL_law_940 rfl ?_
  refine q_iload_n dL_law_941 rfl ?_
  refine q_iconst (x := 5) dL_law_942 (by decide) ?_
  refine q_iadd dL_law_943 ?_
  refine q_sald (q_sin (k := 5) hi hL (by decide)) dL_law_944 ?_
  refine q_aload_n dL_law_945 rfl ?_
  refine q_iload_n dL_law_946 rfl ?_
  refine q_bipush (x := 6) dL_law_947 (by decide) ?_
  refine q_iadd dL_law_949 ?_
  refine q_sald (q_sin (k := 6) hi hL (by decide)) dL_law_950 ?_
  refine q_aload_n dL_law_951 rfl ?_
  refine q_iload_n dL_law_952 rfl ?_
  refine q_bipush (x := 7) dL_law_953 (by decide) ?_
  refine q_iadd dL_law_955 ?_
  refine q_sald (q_sin (k := 7) hi hL (by decide)) dL_law_956 ?_
  refine q_rE2 lL_120 vX8_hold (ci := 8) rfl dL_law_957 hF rfl rfl rfl (Nat.le_of_ble_eq_true rfl) ⟨⟨by decide, by decide⟩, by decide, by decide⟩ ⟨rfl, rfl⟩ (fun ρ hρ => ?_)
  exact q_icmp_eq 1604 dL_law_960 (by decide) (fun _ => K ρ hρ) (fun z => absurd rfl z)
set_option maxHeartbeats 1000000 in
set_option maxRecDepth 100000 in
theorem cs_25 {E : q_E} {i : Nat} {σ : q_M} {Q : q_P} (hi : i + 8 ≤ q_L E) (hL : q_L E ≤ 4096) (hR : r_R σ) (K : ∀ ρ, r_R ρ → q_G YL_law E 86 3995 1604 [some (.ref 1000000), some (.ref 0), some (.ref 72), some (.int (nI i))] [] q_SH ρ Q) : q_G YL_law E 86 3995 965 [some (.ref 1000000), some (.ref 0), some (.ref 72), some (.int (nI i))] [] q_SH σ Q := by
  refine q_aload_n dL_law_965 rfl ?_
  refine q_aload_n dL_law_966 rfl ?_
  refine q_iload_n dL_law_967 rfl ?_
  refine q_iconst (x := 1) dL_law_968 (by decide) ?_
  refine q_iadd dL_law_969 ?_
  refine q_sald (q_sin (k := 1) hi hL (by decide)) dL_law_970 ?_
  refine q_aload_n dL_law_971 rfl ?_
  refine q_iload_n dL_law_972 rfl ?_
  refine q_iconst (x := 2) dL_law_973 (by decide) ?_
  refine q_iadd dL_law_974 ?_
  refine q_sald (q_sin (k := 2) hi hL (by decide)) dL_law_975 ?_
  refine q_aload_n dL_law_976 rfl ?_
  refine q_iload_n dL_law_977 rfl ?_
  refine q_iconst (x := 3) dL_law_978 (by decide) ?_
  refine q_iadd dL_law_979 ?_
  refine q_sald (q_sin (k := 3) hi hL (by decide)) dL_law_980 ?_
  refine q_aload_n dL_law_981 rfl ?_
  refine q_iload_n dL_law_982 rfl ?_
  refine q_iconst (x := 4) dL_law_983 (by decide) ?_
  refine q_iadd dL_law_984 ?_
  refine q_sald (q_sin (k := 4) hi hL (by decide)) dL_law_985 ?_
  refine q_aload_n dL_law_986 rfl ?_
  refine q_iload_n dL_law_987 rfl ?_
  refine q_iconst (x := 5) dL_law_988 (by decide) ?_
  refine q_iadd dL_law_989 ?_
  refine q_sald (q_sin (k := 5) hi hL (by decide)) dL_law_990 ?_
  refine q_rE1 lL_121 vX7_late (ci := 7) rfl dL_law_991 rE_late hR rfl rfl rfl (Nat.le_of_ble_eq_true rfl) ⟨⟨by decide, by decide⟩, by decide, by decide⟩ ⟨rfl, rfl⟩ (fun x τ hF => ?_)
  refine q_aload_n dL_law_994 rfl ?_
  refine q_aload_n dL_law_995 rfl ?_
  refine q_iload_n dL_law_996 rfl ?_
  refine q_iconst (x := 1) dL_law_997 (by decide) ?_
  refine q_iadd dL_law_998 ?_
  refine q_sald (q_sin (k := 1) hi hL (by decide)) dL_law_999 ?_
  refine q_aload_n dL_law_1000 rfl ?_
  refine q_iload_n dL_law_1001 rfl ?_
  refine q_iconst (x := 2) dL_law_1002 (by decide) ?_
  refine q_iadd dL_law_1003 ?_
  refine q_sald (q_sin (k := 2) hi hL (by decide)) dL_law_1004 ?_
  refine q_aload_n dL_law_1005 rfl ?_
  refine q_iload_n dL_law_1006 rfl ?_
  refine q_iconst (x := 3) dL_law_1007 (by decide) ?_
  refine q_iadd dL_law_1008 ?_
  refine q_sald (q_sin (k := 3) hi hL (by decide)) dL_law_1009 ?_
  refine q_aload_n dL_law_1010 rfl ?_
  refine q_iload_n dL_law_1011 rfl ?_
  refine q_iconst (x := 4) dL_law_1012 (by decide) ?_
  refine q_iadd dL_law_1013 ?_
  refine q_sald (q_sin (k := 4) hi hL (by decide)) dL_law_1014 ?_
  refine q_aload_n dL_law_1015 rfl ?_
  refine q_iload_n dL_law_1016 rfl ?_
  refine q_iconst (x := 5) dL_law_1017 (by decide) ?_
  refine q_iadd dL_law_1018 ?_
  refine q_sald (q_sin (k := 5) hi hL (by decide)) dL_law_1019 ?_
  refine q_rE2 lL_125 vX8_late (ci := 8) rfl dL_law_1020 hF rfl rfl rfl (Nat.le_of_ble_eq_true rfl) ⟨⟨by decide, by decide⟩, by decide, by decide⟩ ⟨rfl, rfl⟩ (fun ρ hρ => ?_)
  exact q_icmp_eq 1604 dL_law_1023 (by decide) (fun _ => K ρ hρ) (fun z => absurd rfl z)
set_option maxHeartbeats 1000000 in
set_option maxRecDepth 100000 in
theorem cs_26 {E : q_E} {i : Nat} {σ : q_M} {Q : q_P} (hi : i + 8 ≤ q_L E) (hL : q_L E ≤ 4096) (hR : r_R σ) (K : ∀ ρ, r_R ρ → q_G YL_law E 86 3995 1604 [some (.ref 1000000), some (.ref 0), some (.ref 72), some (.int (nI i))] [] q_SH ρ Q) : q_G YL_law E 86 3995 1028 [some (.ref 1000000), some (.ref 0), some (.ref 72), some (.int (nI i))] [] q_SH σ Q := by
  refine q_aload_n dL_law_1028 rfl ?_
  refine q_aload_n dL_law_1029 rfl ?_
  refine q_iload_n dL_law_1030 rfl ?_
  refine q_iconst (x := 1) dL_law_1031 (by decide) ?_
  refine q_iadd dL_law_1032 ?_
  refine q_sald (q_sin (k := 1) hi hL (by decide)) dL_law_1033 ?_
  refine q_aload_n dL_law_1034 rfl ?_
  refine q_iload_n dL_law_1035 rfl ?_
  refine q_iconst (x := 2) dL_law_1036 (by decide) ?_
  refine q_iadd dL_law_1037 ?_
  refine q_sald (q_sin (k := 2) hi hL (by decide)) dL_law_1038 ?_
  refine q_aload_n dL_law_1039 rfl ?_
  refine q_iload_n dL_law_1040 rfl ?_
  refine q_iconst (x := 3) dL_law_1041 (by decide) ?_
  refine q_iadd dL_law_1042 ?_
  refine q_sald (q_sin (k := 3) hi hL (by decide)) dL_law_1043 ?_
  refine q_aload_n dL_law_1044 rfl ?_
  refine q_iload_n dL_law_1045 rfl ?_
  refine q_iconst (x := 4) dL_law_1046 (by decide) ?_
  refine q_iadd dL_law_1047 ?_
  refine q_sald (q_sin (k := 4) hi hL (by decide)) dL_law_1048 ?_
  refine q_aload_n dL_law_1049 rfl ?_
  refine q_iload_n dL_law_1050 rfl ?_
  refine q_iconst (x := 5) dL_law_1051 (by decide) ?_
  refine q_iadd dL_law_1052 ?_
  refine q_sald (q_sin (k := 5) hi hL (by decide)) dL_law_1053 ?_
  refine q_aload_n dL_law_1054 rfl ?_
  refine q_iload_n dL_law_1055 rfl ?_
  refine q_bipush (x := 6) dL_law_1056 (by decide) ?_
  refine q_iadd dL_law_1058 ?_
  refine q_sald (q_sin (k := 6) hi hL (by decide)) dL_law_1059 ?_
  refine q_rE1 lL_126 vX7_step (ci := 7) rfl dL_law_1060 rE_step hR rfl rfl rfl (Nat.le_of_ble_eq_true rfl) ⟨⟨by decide, by decide⟩, by decide, by decide⟩ ⟨rfl, rfl⟩ (fun x τ hF => ?_)
  refine q_aload_n dL_law_1063 rfl ?_
  refine q_aload_n dL_law_1064 rfl ?_
  refine q_iload_n dL_law_1065 rfl ?_
  refine q_iconst (x := 1) dL_law_1066 (by decide) ?_
  refine q_iadd dL_law_1067 ?_
  refine q_sald (q_sin (k := 1) hi hL (by decide)) dL_law_1068 ?_
  refine q_aload_n dL_law_1069 rfl ?_
  refine q_iload_n dL_law_1070 rfl ?_
  refine q_iconst (x := 2) dL_law_1071 (by decide) ?_
  refine q_iadd dL_law_1072 ?_
  refine q_sald (q_sin (k := 2) hi hL (by decide)) dL_law_1073 ?_
  refine q_aload_n dL_law_1074 rfl ?_
  refine q_iload_n dL_law_1075 rfl ?_
  refine q_iconst (x := 3) dL_law_1076 (by decide) ?_
  refine q_iadd dL_law_1077 ?_
  refine q_sald (q_sin (k := 3) hi hL (by decide)) dL_law_1078 ?_
  refine q_aload_n dL_law_1079 rfl ?_
  refine q_iload_n dL_law_1080 rfl ?_
  refine q_iconst (x := 4) dL_law_1081 (by decide) ?_
  refine q_iadd dL_law_1082 ?_
  refine q_sald (q_sin (k := 4) hi hL (by decide)) dL_law_1083 ?_
  refine q_aload_n dL_law_1084 rfl ?_
  refine q_iload_n dL_law_1085 rfl ?_
  refine q_iconst (x := 5) dL_law_1086 (by decide) ?_
  refine q_iadd dL_law_1087 ?_
  refine q_sald (q_sin (k := 5) hi hL (by decide)) dL_law_1088 ?_
  refine q_aload_n dL_law_1089 rfl ?_
  refine q_iload_n dL_law_1090 rfl ?_
  refine q_bipush (x := 6) dL_law_1091 (by decide) ?_
  refine q_iadd dL_law_1093 ?_
  refine q_sald (q_sin (k := 6) hi hL (by decide)) dL_law_1094 ?_
  refine q_rE2 lL_130 vX8_step (ci := 8) rfl dL_law_1095 hF rfl rfl rfl (Nat.le_of_ble_eq_true rfl) ⟨⟨by decide, by decide⟩, by decide, by decide⟩ ⟨rfl, rfl⟩ (fun ρ hρ => ?_)
  exact q_icmp_eq 1604 dL_law_1098 (by decide) (fun _ => K ρ hρ) (fun z => absurd rfl z)
set_option maxHeartbeats 1000000 in
set_option maxRecDepth 100000 in
theorem cs_27 {E : q_E} {i : Nat} {σ : q_M} {Q : q_P} (hi : i + 8 ≤ q_L E) (hL : q_L E ≤ 4096) (hR : r_R σ) (K : ∀ ρ, r_R ρ → q_G YL_law E 86 3995 1604 [some (.ref 1000000), some (.ref 0), some (.ref 72), some (.int (nI i))] [] q_SH ρ Q) : q_G YL_law E 86 3995 1103 [some (.ref 1000000), some (.ref 0), some (.ref 72), some (.int (nI i))] [] q_SH σ Q := by
  refine q_aload_n dL_law_1103 rfl ?_
  refine q_aload_n dL_law_1104 rfl ?_
  refine q_iload_n dL_law_1105 rfl ?_
  refine q_iconst (x := 1) dL_law_1106 (by decide) ?_
  refine q_iadd dL_law_1107 ?_
  refine q_sald (q_sin (k := 1) hi hL (by decide)) dL_law_1108 ?_
  refine q_aload_n dL_law_1109 rfl ?_
  refine q_iload_n dL_law_1110 rfl ?_
  refine q_iconst (x := 2) dL_law_1111 (by decide) ?_
  refine q_iadd dL_law_1112 ?_
  refine q_sald (q_sin (k := 2) hi hL (by decide)) dL_law_1113 ?_
  refine q_rE1 lL_131 vX7_hours (ci := 7) rfl dL_law_1114 rE_hours hR rfl rfl rfl (Nat.le_of_ble_eq_true rfl) ⟨⟨by decide, by decide⟩, by decide, by decide⟩ ⟨rfl, rfl⟩ (fun x τ hF => ?_)
  refine q_aload_n dL_law_1117 rfl ?_
  refine q_aload_n dL_law_1118 rfl ?_
  refine q_iload_n dL_law_1119 rfl ?_
  refine q_iconst (x := 1) dL_law_1120 (by decide) ?_
  refine q_iadd dL_law_1121 ?_
  refine q_sald (q_sin (k := 1) hi hL (by decide)) dL_law_1122 ?_
  refine q_aload_n dL_law_1123 rfl ?_
  refine q_iload_n dL_law_1124 rfl ?_
  refine q_iconst (x := 2) dL_law_1125 (by decide) ?_
  refine q_iadd dL_law_1126 ?_
  refine q_sald (q_sin (k := 2) hi hL (by decide)) dL_law_1127 ?_
  refine q_rE2 lL_134 vX8_hours (ci := 8) rfl dL_law_1128 hF rfl rfl rfl (Nat.le_of_ble_eq_true rfl) ⟨⟨by decide, by decide⟩, by decide, by decide⟩ ⟨rfl, rfl⟩ (fun ρ hρ => ?_)
  exact q_icmp_eq 1604 dL_law_1131 (by decide) (fun _ => K ρ hρ) (fun z => absurd rfl z)
set_option maxHeartbeats 1000000 in
set_option maxRecDepth 100000 in
theorem cs_28 {E : q_E} {i : Nat} {σ : q_M} {Q : q_P} (hi : i + 8 ≤ q_L E) (hL : q_L E ≤ 4096) (hR : r_R σ) (K : ∀ ρ, r_R ρ → q_G YL_law E 86 3995 1604 [some (.ref 1000000), some (.ref 0), some (.ref 72), some (.int (nI i))] [] q_SH ρ Q) : q_G YL_law E 86 3995 1136 [some (.ref 1000000), some (.ref 0), some (.ref 72), some (.int (nI i))] [] q_SH σ Q := by
  refine q_aload_n dL_law_1136 rfl ?_
  refine q_aload_n dL_law_1137 rfl ?_
  refine q_iload_n dL_law_1138 rfl ?_
  refine q_iconst (x := 1) dL_law_1139 (by decide) ?_
  refine q_iadd dL_law_1140 ?_
  refine q_sald (q_sin (k := 1) hi hL (by decide)) dL_law_1141 ?_
  refine q_rE1 lL_135 vX7_trips (ci := 7) rfl dL_law_1142 rE_trips hR rfl rfl rfl (Nat.le_of_ble_eq_true rfl) ⟨⟨by decide, by decide⟩, by decide, by decide⟩ ⟨rfl, rfl⟩ (fun x τ hF => ?_)
  refine q_aload_n dL_law_1145 rfl ?_
  refine q_aload_n dL_law_1146 rfl ?_
  refine q_iload_n dL_law_1147 rfl ?_
  refine q_iconst (x := 1) dL_law_1148 (by decide) ?_
  refine q_iadd dL_law_1149 ?_
  refine q_sald (q_sin (k := 1) hi hL (by decide)) dL_law_1150 ?_
  refine q_rE2 lL_138 vX8_trips (ci := 8) rfl dL_law_1151 hF rfl rfl rfl (Nat.le_of_ble_eq_true rfl) ⟨⟨by decide, by decide⟩, by decide, by decide⟩ ⟨rfl, rfl⟩ (fun ρ hρ => ?_)
  exact q_icmp_eq 1604 dL_law_1154 (by decide) (fun _ => K ρ hρ) (fun z => absurd rfl z)
set_option maxHeartbeats 1000000 in
set_option maxRecDepth 100000 in
theorem cs_29 {E : q_E} {i : Nat} {σ : q_M} {Q : q_P} (hi : i + 8 ≤ q_L E) (hL : q_L E ≤ 4096) (hR : r_R σ) (K : ∀ ρ, r_R ρ → q_G YL_law E 86 3995 1604 [some (.ref 1000000), some (.ref 0), some (.ref 72), some (.int (nI i))] [] q_SH ρ Q) : q_G YL_law E 86 3995 1159 [some (.ref 1000000), some (.ref 0), some (.ref 72), some (.int (nI i))] [] q_SH σ Q := by
  refine q_aload_n dL_law_1159 rfl ?_
  refine q_aload_n dL_law_1160 rfl ?_
  refine q_iload_n dL_law_1161 rfl ?_
  refine q_iconst (x := 1) dL_law_1162 (by decide) ?_
  refine q_iadd dL_law_1163 ?_
  refine q_sald (q_sin (k := 1) hi hL (by decide)) dL_law_1164 ?_
  refine q_aload_n dL_law_1165 rfl ?_
  refine q_iload_n dL_law_1166 rfl ?_
  refine q_iconst (x := 2) dL_law_1167 (by decide) ?_
  refine q_iadd dL_law_1168 ?_
  refine q_sald (q_sin (k := 2) hi hL (by decide)) dL_law_1169 ?_
  refine q_aload_n dL_law_1170 rfl ?_
  refine q_iload_n dL_law_1171 rfl ?_
  refine q_iconst (x := 3) dL_law_1172 (by decide) ?_
  refine q_iadd dL_law_1173 ?_
  refine q_sald (q_sin (k := 3) hi hL (by decide)) dL_law_1174 ?_
  refine q_aload_n dL_law_1175 rfl ?_
  refine q_iload_n dL_law_1176 rfl ?_
  refine q_iconst (x := 4) dL_law_1177 (by decide) ?_
  refine q_iadd dL_law_1178 ?_
  refine q_sald (q_sin (k := 4) hi hL (by decide)) dL_law_1179 ?_
  refine q_rE1 lL_139 vX7_bladder (ci := 7) rfl dL_law_1180 rE_bladder hR rfl rfl rfl (Nat.le_of_ble_eq_true rfl) ⟨⟨by decide, by decide⟩, by decide, by decide⟩ ⟨rfl, rfl⟩ (fun x τ hF => ?_)
  refine q_aload_n dL_law_1183 rfl ?_
  refine q_aload_n dL_law_1184 rfl ?_
  refine q_iload_n dL_law_1185 rfl ?_
  refine q_iconst (x := 1) dL_law_1186 (by decide) ?_
  refine q_iadd dL_law_1187 ?_
  refine q_sald (q_sin (k := 1) hi hL (by decide)) dL_law_1188 ?_
  refine q_aload_n dL_law_1189 rfl ?_
  refine q_iload_n dL_law_1190 rfl ?_
  refine q_iconst (x := 2) dL_law_1191 (by decide) ?_
  refine q_iadd dL_law_1192 ?_
  refine q_sald (q_sin (k := 2) hi hL (by decide)) dL_law_1193 ?_
  refine q_aload_n dL_law_1194 rfl ?_
  refine q_iload_n dL_law_1195 rfl ?_
  refine q_iconst (x := 3) dL_law_1196 (by decide) ?_
  refine q_iadd dL_law_1197 ?_
  refine q_sald (q_sin (k := 3) hi hL (by decide)) dL_law_1198 ?_
  refine q_aload_n dL_law_1199 rfl ?_
  refine q_iload_n dL_law_1200 rfl ?_
  refine q_iconst (x := 4) dL_law_1201 (by decide) ?_
  refine q_iadd dL_law_1202 ?_
  refine q_sald (q_sin (k := 4) hi hL (by decide)) dL_law_1203 ?_
  refine q_rE2 lL_143 vX8_bladder (ci := 8) rfl dL_law_1204 hF rfl rfl rfl (Nat.le_of_ble_eq_true rfl) ⟨⟨by decide, by decide⟩, by decide, by decide⟩ ⟨rfl, rfl⟩ (fun ρ hρ => ?_)
  exact q_icmp_eq 1604 dL_law_1207 (by decide) (fun _ => K ρ hρ) (fun z => absurd rfl z)
set_option maxHeartbeats 1000000 in
set_option maxRecDepth 100000 in
theorem cs_30 {E : q_E} {i : Nat} {σ : q_M} {Q : q_P} (hi : i + 8 ≤ q_L E) (hL : q_L E ≤ 4096) (hR : r_R σ) (K : ∀ ρ, r_R ρ → q_G YL_law E 86 3995 1604 [some (.ref 1000000), some (.ref 0), some (.ref 72), some (.int (nI i))] [] q_SH ρ Q) : q_G YL_law E 86 3995 1212 [some (.ref 1000000), some (.ref 0), some (.ref 72), some (.int (nI i))] [] q_SH σ Q := by
  refine q_aload_n dL_law_1212 rfl ?_
  refine q_aload_n dL_law_1213 rfl ?_
  refine q_iload_n dL_law_1214 rfl ?_
  refine q_iconst (x := 1) dL_law_1215 (by decide) ?_
  refine q_iadd dL_law_1216 ?_
  refine q_sald (q_sin (k := 1) hi hL (by decide)) dL_law_1217 ?_
  refine q_aload_n dL_law_1218 rfl ?_
  refine q_iload_n dL_law_1219 rfl ?_
  refine q_iconst (x := 2) dL_law_1220 (by decide) ?_
  refine q_iadd dL_law_1221 ?_
  refine q_sald (q_sin (k := 2) hi hL (by decide)) dL_law_1222 ?_
  refine q_aload_n dL_law_1223 rfl ?_
  refine q_iload_n dL_law_1224 rfl ?_
  refine q_iconst (x := 3) dL_law_1225 (by decide) ?_
  refine q_iadd dL_law_1226 ?_
  refine q_sald (q_sin (k := 3) hi hL (by decide)) dL_law_1227 ?_
  refine q_aload_n dL_law_1228 rfl ?_
  refine q_iload_n dL_law_1229 rfl ?_
  refine q_iconst (x := 4) dL_law_1230 (by decide) ?_
  refine q_iadd dL_law_1231 ?_
  refine q_sald (q_sin (k := 4) hi hL (by decide)) dL_law_1232 ?_
  refine q_rE1 lL_144 vX7_beats (ci := 7) rfl dL_law_1233 rE_beats hR rfl rfl rfl (Nat.le_of_ble_eq_true rfl) ⟨⟨by decide, by decide⟩, by decide, by decide⟩ ⟨rfl, rfl⟩ (fun x τ hF => ?_)
  refine q_aload_n dL_law_1236 rfl ?_
  refine q_aload_n dL_law_1237 rfl ?_
  refine q_iload_n dL_law_1238 rfl ?_
  refine q_iconst (x := 1) dL_law_1239 (by decide) ?_
  refine q_iadd dL_law_1240 ?_
  refine q_sald (q_sin (k := 1) hi hL (by decide)) dL_law_1241 ?_
  refine q_aload_n dL_law_1242 rfl ?_
  refine q_iload_n dL_law_1243 rfl ?_
  refine q_iconst (x := 2) dL_law_1244 (by decide) ?_
  refine q_iadd dL_law_1245 ?_
  refine q_sald (q_sin (k := 2) hi hL (by decide)) dL_law_1246 ?_
  refine q_aload_n dL_law_1247 rfl ?_
  refine q_iload_n dL_law_1248 rfl ?_
  refine q_iconst (x := 3) dL_law_1249 (by decide) ?_
  refine q_iadd dL_law_1250 ?_
  refine q_sald (q_sin (k := 3) hi hL (by decide)) dL_law_1251 ?_
  refine q_aload_n dL_law_1252 rfl ?_
  refine q_iload_n dL_law_1253 rfl ?_
  refine q_iconst (x := 4) dL_law_1254 (by decide) ?_
  refine q_iadd dL_law_1255 ?_
  refine q_sald (q_sin (k := 4) hi hL (by decide)) dL_law_1256 ?_
  refine q_rE2 lL_147 vX8_beats (ci := 8) rfl dL_law_1257 hF rfl rfl rfl (Nat.le_of_ble_eq_true rfl) ⟨⟨by decide, by decide⟩, by decide, by decide⟩ ⟨rfl, rfl⟩ (fun ρ hρ => ?_)
  exact q_icmp_eq 1604 dL_law_1260 (by decide) (fun _ => K ρ hρ) (fun z => absurd rfl z)
set_option maxHeartbeats 1000000 in
set_option maxRecDepth 100000 in
theorem cs_31_0 {E : q_E} {i : Nat} {σ : q_M} {Q : q_P} (hi : i + 8 ≤ q_L E) (hL : q_L E ≤ 4096) (hR : r_R σ) (K : ∀ ρ, r_R ρ → q_G YL_law E 86 3995 1604 [some (.ref 1000000), some (.ref 0), some (.ref 72), some (.int (nI i))] [] q_SH ρ Q) (hz :  q_xs E ((nI i + 3).toNatClampNeg) = 0) : q_G YL_law E 86 3995 1265 [some (.ref 1000000), some (.ref 0), some (.ref 72), some (.int (nI i))] [] q_SH σ Q := by
  have hb : (0 : Int32) = 0 ∨ (0 : Int32) = 1 := by decide
  refine q_aload_n dL_law_1265 rfl ?_
  refine q_aload_n dL_law_1266 rfl ?_
  refine q_iload_n dL_law_1267 rfl ?_
  refine q_iconst (x := 1) dL_law_1268 (by decide) ?_
  refine q_iadd dL_law_1269 ?_
  refine q_sald (q_sin (k := 1) hi hL (by decide)) dL_law_1270 ?_
  refine q_aload_n dL_law_1271 rfl ?_
  refine q_iload_n dL_law_1272 rfl ?_
  refine q_iconst (x := 2) dL_law_1273 (by decide) ?_
  refine q_iadd dL_law_1274 ?_
  refine q_sald (q_sin (k := 2) hi hL (by decide)) dL_law_1275 ?_
  refine q_aload_n dL_law_1276 rfl ?_
  refine q_iload_n dL_law_1277 rfl ?_
  refine q_iconst (x := 3) dL_law_1278 (by decide) ?_
  refine q_iadd dL_law_1279 ?_
  refine q_sald (q_sin (k := 3) hi hL (by decide)) dL_law_1280 ?_
  refine q_if_eq 1288 dL_law_1281 (by decide) (fun h1281 => ?_) (fun h1281 => ?_)
  · refine q_iconst (x := 0) dL_law_1288 (by decide) ?_
    refine q_rE1 lL_148 vX7_saw (ci := 7) rfl dL_law_1289 (rE_saw hb) hR rfl rfl rfl (Nat.le_of_ble_eq_true rfl) ⟨⟨by decide, by decide⟩, by decide, by decide⟩ ⟨rfl, rfl⟩ (fun x τ hF => ?_)
    refine q_aload_n dL_law_1292 rfl ?_
    refine q_aload_n dL_law_1293 rfl ?_
    refine q_iload_n dL_law_1294 rfl ?_
    refine q_iconst (x := 1) dL_law_1295 (by decide) ?_
    refine q_iadd dL_law_1296 ?_
    refine q_sald (q_sin (k := 1) hi hL (by decide)) dL_law_1297 ?_
    refine q_aload_n dL_law_1298 rfl ?_
    refine q_iload_n dL_law_1299 rfl ?_
    refine q_iconst (x := 2) dL_law_1300 (by decide) ?_
    refine q_iadd dL_law_1301 ?_
    refine q_sald (q_sin (k := 2) hi hL (by decide)) dL_law_1302 ?_
    refine q_aload_n dL_law_1303 rfl ?_
    refine q_iload_n dL_law_1304 rfl ?_
    refine q_iconst (x := 3) dL_law_1305 (by decide) ?_
    refine q_iadd dL_law_1306 ?_
    refine q_sald (q_sin (k := 3) hi hL (by decide)) dL_law_1307 ?_
    refine q_if_eq 1315 dL_law_1308 (by decide) (fun h1308 => ?_) (fun h1308 => ?_)
    · refine q_iconst (x := 0) dL_law_1315 (by decide) ?_
      refine q_rE2 lL_152 vX8_saw (ci := 8) rfl dL_law_1316 hF rfl rfl rfl (Nat.le_of_ble_eq_true rfl) ⟨⟨by decide, by decide⟩, by decide, by decide⟩ ⟨rfl, rfl⟩ (fun ρ hρ => ?_)
      exact q_icmp_eq 1604 dL_law_1319 (by decide) (fun _ => K ρ hρ) (fun z => absurd rfl z)
    · exact absurd hz h1308
  · exact absurd hz h1281
set_option maxHeartbeats 1000000 in
set_option maxRecDepth 100000 in
theorem cs_31_1 {E : q_E} {i : Nat} {σ : q_M} {Q : q_P} (hi : i + 8 ≤ q_L E) (hL : q_L E ≤ 4096) (hR : r_R σ) (K : ∀ ρ, r_R ρ → q_G YL_law E 86 3995 1604 [some (.ref 1000000), some (.ref 0), some (.ref 72), some (.int (nI i))] [] q_SH ρ Q) (hz : ¬ q_xs E ((nI i + 3).toNatClampNeg) = 0) : q_G YL_law E 86 3995 1265 [some (.ref 1000000), some (.ref 0), some (.ref 72), some (.int (nI i))] [] q_SH σ Q := by
  have hb : (1 : Int32) = 0 ∨ (1 : Int32) = 1 := by decide
  refine q_aload_n dL_law_1265 rfl ?_
  refine q_aload_n dL_law_1266 rfl ?_
  refine q_iload_n dL_law_1267 rfl ?_
  refine q_iconst (x := 1) dL_law_1268 (by decide) ?_
  refine q_iadd dL_law_1269 ?_
  refine q_sald (q_sin (k := 1) hi hL (by decide)) dL_law_1270 ?_
  refine q_aload_n dL_law_1271 rfl ?_
  refine q_iload_n dL_law_1272 rfl ?_
  refine q_iconst (x := 2) dL_law_1273 (by decide) ?_
  refine q_iadd dL_law_1274 ?_
  refine q_sald (q_sin (k := 2) hi hL (by decide)) dL_law_1275 ?_
  refine q_aload_n dL_law_1276 rfl ?_
  refine q_iload_n dL_law_1277 rfl ?_
  refine q_iconst (x := 3) dL_law_1278 (by decide) ?_
  refine q_iadd dL_law_1279 ?_
  refine q_sald (q_sin (k := 3) hi hL (by decide)) dL_law_1280 ?_
  refine q_if_eq 1288 dL_law_1281 (by decide) (fun h1281 => ?_) (fun h1281 => ?_)
  · exact absurd h1281 hz
  · refine q_iconst (x := 1) dL_law_1284 (by decide) ?_
    refine q_goto 1289 dL_law_1285 (by decide) ?_
    refine q_rE1 lL_148 vX7_saw (ci := 7) rfl dL_law_1289 (rE_saw hb) hR rfl rfl rfl (Nat.le_of_ble_eq_true rfl) ⟨⟨by decide, by decide⟩, by decide, by decide⟩ ⟨rfl, rfl⟩ (fun x τ hF => ?_)
    refine q_aload_n dL_law_1292 rfl ?_
    refine q_aload_n dL_law_1293 rfl ?_
    refine q_iload_n dL_law_1294 rfl ?_
    refine q_iconst (x := 1) dL_law_1295 (by decide) ?_
    refine q_iadd dL_law_1296 ?_
    refine q_sald (q_sin (k := 1) hi hL (by decide)) dL_law_1297 ?_
    refine q_aload_n dL_law_1298 rfl ?_
    refine q_iload_n dL_law_1299 rfl ?_
    refine q_iconst (x := 2) dL_law_1300 (by decide) ?_
    refine q_iadd dL_law_1301 ?_
    refine q_sald (q_sin (k := 2) hi hL (by decide)) dL_law_1302 ?_
    refine q_aload_n dL_law_1303 rfl ?_
    refine q_iload_n dL_law_1304 rfl ?_
    refine q_iconst (x := 3) dL_law_1305 (by decide) ?_
    refine q_iadd dL_law_1306 ?_
    refine q_sald (q_sin (k := 3) hi hL (by decide)) dL_law_1307 ?_
    refine q_if_eq 1315 dL_law_1308 (by decide) (fun h1308 => ?_) (fun h1308 => ?_)
    · exact absurd h1308 hz
    · refine q_iconst (x := 1) dL_law_1311 (by decide) ?_
      refine q_goto 1316 dL_law_1312 (by decide) ?_
      refine q_rE2 lL_152 vX8_saw (ci := 8) rfl dL_law_1316 hF rfl rfl rfl (Nat.le_of_ble_eq_true rfl) ⟨⟨by decide, by decide⟩, by decide, by decide⟩ ⟨rfl, rfl⟩ (fun ρ hρ => ?_)
      exact q_icmp_eq 1604 dL_law_1319 (by decide) (fun _ => K ρ hρ) (fun z => absurd rfl z)
theorem cs_31 {E : q_E} {i : Nat} {σ : q_M} {Q : q_P} (hi : i + 8 ≤ q_L E) (hL : q_L E ≤ 4096) (hR : r_R σ) (K : ∀ ρ, r_R ρ → q_G YL_law E 86 3995 1604 [some (.ref 1000000), some (.ref 0), some (.ref 72), some (.int (nI i))] [] q_SH ρ Q) : q_G YL_law E 86 3995 1265 [some (.ref 1000000), some (.ref 0), some (.ref 72), some (.int (nI i))] [] q_SH σ Q := by
  by_cases hz : q_xs E ((nI i + 3).toNatClampNeg) = 0
  · exact cs_31_0 hi hL hR K hz
  · exact cs_31_1 hi hL hR K hz
set_option maxHeartbeats 1000000 in
set_option maxRecDepth 100000 in
theorem cs_32 {E : q_E} {i : Nat} {σ : q_M} {Q : q_P} (hi : i + 8 ≤ q_L E) (hL : q_L E ≤ 4096) (hR : r_R σ) (K : ∀ ρ, r_R ρ → q_G YL_law E 86 3995 1604 [some (.ref 1000000), some (.ref 0), some (.ref 72), some (.int (nI i))] [] q_SH ρ Q) : q_G YL_law E 86 3995 1324 [some (.ref 1000000), some (.ref 0), some (.ref 72), some (.int (nI i))] [] q_SH σ Q := by
  refine q_aload_n dL_law_1324 rfl ?_
  refine q_rE1 lL_153 vX7_forget (ci := 7) rfl dL_law_1325 rE_forget hR rfl rfl rfl (Nat.le_of_ble_eq_true rfl) ⟨⟨by decide, by decide⟩, by decide, by decide⟩ ⟨rfl, rfl⟩ (fun x τ hF => ?_)
  refine q_aload_n dL_law_1328 rfl ?_
  refine q_rE2 lL_156 vX8_forget (ci := 8) rfl dL_law_1329 hF rfl rfl rfl (Nat.le_of_ble_eq_true rfl) ⟨⟨by decide, by decide⟩, by decide, by decide⟩ ⟨rfl, rfl⟩ (fun ρ hρ => ?_)
  exact q_icmp_eq 1604 dL_law_1332 (by decide) (fun _ => K ρ hρ) (fun z => absurd rfl z)
set_option maxHeartbeats 1000000 in
set_option maxRecDepth 100000 in
theorem cs_33 {E : q_E} {i : Nat} {σ : q_M} {Q : q_P} (hi : i + 8 ≤ q_L E) (hL : q_L E ≤ 4096) (hR : r_R σ) (K : ∀ ρ, r_R ρ → q_G YL_law E 86 3995 1604 [some (.ref 1000000), some (.ref 0), some (.ref 72), some (.int (nI i))] [] q_SH ρ Q) : q_G YL_law E 86 3995 1337 [some (.ref 1000000), some (.ref 0), some (.ref 72), some (.int (nI i))] [] q_SH σ Q := by
  refine q_aload_n dL_law_1337 rfl ?_
  refine q_aload_n dL_law_1338 rfl ?_
  refine q_iload_n dL_law_1339 rfl ?_
  refine q_iconst (x := 1) dL_law_1340 (by decide) ?_
  refine q_iadd dL_law_1341 ?_
  refine q_sald (q_sin (k := 1) hi hL (by decide)) dL_law_1342 ?_
  refine q_aload_n dL_law_1343 rfl ?_
  refine q_iload_n dL_law_1344 rfl ?_
  refine q_iconst (x := 2) dL_law_1345 (by decide) ?_
  refine q_iadd dL_law_1346 ?_
  refine q_sald (q_sin (k := 2) hi hL (by decide)) dL_law_1347 ?_
  refine q_rE1 lL_157 vX7_fits (ci := 7) rfl dL_law_1348 rE_fits hR rfl rfl rfl (Nat.le_of_ble_eq_true rfl) ⟨⟨by decide, by decide⟩, by decide, by decide⟩ ⟨rfl, rfl⟩ (fun x τ hF => ?_)
  refine q_aload_n dL_law_1351 rfl ?_
  refine q_aload_n dL_law_1352 rfl ?_
  refine q_iload_n dL_law_1353 rfl ?_
  refine q_iconst (x := 1) dL_law_1354 (by decide) ?_
  refine q_iadd dL_law_1355 ?_
  refine q_sald (q_sin (k := 1) hi hL (by decide)) dL_law_1356 ?_
  refine q_aload_n dL_law_1357 rfl ?_
  refine q_iload_n dL_law_1358 rfl ?_
  refine q_iconst (x := 2) dL_law_1359 (by decide) ?_
  refine q_iadd dL_law_1360 ?_
  refine q_sald (q_sin (k := 2) hi hL (by decide)) dL_law_1361 ?_
  refine q_rE2 lL_160 vX8_fits (ci := 8) rfl dL_law_1362 hF rfl rfl rfl (Nat.le_of_ble_eq_true rfl) ⟨⟨by decide, by decide⟩, by decide, by decide⟩ ⟨rfl, rfl⟩ (fun ρ hρ => ?_)
  exact q_icmp_eq 1604 dL_law_1365 (by decide) (fun _ => K ρ hρ) (fun z => absurd rfl z)
set_option maxHeartbeats 1000000 in
set_option maxRecDepth 100000 in
theorem cs_34 {E : q_E} {i : Nat} {σ : q_M} {Q : q_P} (hi : i + 8 ≤ q_L E) (hL : q_L E ≤ 4096) (hR : r_R σ) (K : ∀ ρ, r_R ρ → q_G YL_law E 86 3995 1604 [some (.ref 1000000), some (.ref 0), some (.ref 72), some (.int (nI i))] [] q_SH ρ Q) : q_G YL_law E 86 3995 1370 [some (.ref 1000000), some (.ref 0), some (.ref 72), some (.int (nI i))] [] q_SH σ Q := by
  refine q_aload_n dL_law_1370 rfl ?_
  refine q_rE1 lL_161 vX7_who (ci := 7) rfl dL_law_1371 rE_who hR rfl rfl rfl (Nat.le_of_ble_eq_true rfl) ⟨⟨by decide, by decide⟩, by decide, by decide⟩ ⟨rfl, rfl⟩ (fun x τ hF => ?_)
  refine q_aload_n dL_law_1374 rfl ?_
  refine q_rE2 lL_164 vX8_who (ci := 8) rfl dL_law_1375 hF rfl rfl rfl (Nat.le_of_ble_eq_true rfl) ⟨⟨by decide, by decide⟩, by decide, by decide⟩ ⟨rfl, rfl⟩ (fun ρ hρ => ?_)
  exact q_icmp_eq 1604 dL_law_1378 (by decide) (fun _ => K ρ hρ) (fun z => absurd rfl z)
set_option maxHeartbeats 1000000 in
set_option maxRecDepth 100000 in
theorem cs_35 {E : q_E} {i : Nat} {σ : q_M} {Q : q_P} (hi : i + 8 ≤ q_L E) (hL : q_L E ≤ 4096) (hR : r_R σ) (K : ∀ ρ, r_R ρ → q_G YL_law E 86 3995 1604 [some (.ref 1000000), some (.ref 0), some (.ref 72), some (.int (nI i))] [] q_SH ρ Q) : q_G YL_law E 86 3995 1383 [some (.ref 1000000), some (.ref 0), some (.ref 72), some (.int (nI i))] [] q_SH σ Q := by
  refine q_aload_n dL_law_1383 rfl ?_
  refine q_aload_n dL_law_1384 rfl ?_
  refine q_iload_n dL_law_1385 rfl ?_
  refine q_iconst (x := 1) dL_law_1386 (by decide) ?_
  refine q_iadd dL_law_1387 ?_
  refine q_sald (q_sin (k := 1) hi hL (by decide)) dL_law_1388 ?_
  refine q_rE1 lL_165 vX7_keep (ci := 7) rfl dL_law_1389 rE_keep hR rfl rfl rfl (Nat.le_of_ble_eq_true rfl) ⟨⟨by decide, by decide⟩, by decide, by decide⟩ ⟨rfl, rfl⟩ (fun x τ hF => ?_)
  refine q_aload_n dL_law_1392 rfl ?_
  refine q_aload_n dL_law_1393 rfl ?_
  refine q_iload_n dL_law_1394 rfl ?_
  refine q_iconst (x := 1) dL_law_1395 (by decide) ?_
  refine q_iadd dL_law_1396 ?_
  refine q_sald (q_sin (k := 1) hi hL (by decide)) dL_law_1397 ?_
  refine q_rE2 lL_168 vX8_keep (ci := 8) rfl dL_law_1398 hF rfl rfl rfl (Nat.le_of_ble_eq_true rfl) ⟨⟨by decide, by decide⟩, by decide, by decide⟩ ⟨rfl, rfl⟩ (fun ρ hρ => ?_)
  exact q_icmp_eq 1604 dL_law_1401 (by decide) (fun _ => K ρ hρ) (fun z => absurd rfl z)
set_option maxHeartbeats 1000000 in
set_option maxRecDepth 100000 in
theorem cs_36 {E : q_E} {i : Nat} {σ : q_M} {Q : q_P} (hi : i + 8 ≤ q_L E) (hL : q_L E ≤ 4096) (hR : r_R σ) (K : ∀ ρ, r_R ρ → q_G YL_law E 86 3995 1604 [some (.ref 1000000), some (.ref 0), some (.ref 72), some (.int (nI i))] [] q_SH ρ Q) : q_G YL_law E 86 3995 1406 [some (.ref 1000000), some (.ref 0), some (.ref 72), some (.int (nI i))] [] q_SH σ Q := by
  refine q_aload_n dL_law_1406 rfl ?_
  refine q_aload_n dL_law_1407 rfl ?_
  refine q_iload_n dL_law_1408 rfl ?_
  refine q_iconst (x := 1) dL_law_1409 (by decide) ?_
  refine q_iadd dL_law_1410 ?_
  refine q_sald (q_sin (k := 1) hi hL (by decide)) dL_law_1411 ?_
  refine q_rE1 lL_169 vX7_restore (ci := 7) rfl dL_law_1412 rE_restore hR rfl rfl rfl (Nat.le_of_ble_eq_true rfl) ⟨⟨by decide, by decide⟩, by decide, by decide⟩ ⟨rfl, rfl⟩ (fun x τ hF => ?_)
  refine q_aload_n dL_law_1415 rfl ?_
  refine q_aload_n dL_law_1416 rfl ?_
  refine q_iload_n dL_law_1417 rfl ?_
  refine q_iconst (x := 1) dL_law_1418 (by decide) ?_
  refine q_iadd dL_law_1419 ?_
  refine q_sald (q_sin (k := 1) hi hL (by decide)) dL_law_1420 ?_
  refine q_rE2 lL_172 vX8_restore (ci := 8) rfl dL_law_1421 hF rfl rfl rfl (Nat.le_of_ble_eq_true rfl) ⟨⟨by decide, by decide⟩, by decide, by decide⟩ ⟨rfl, rfl⟩ (fun ρ hρ => ?_)
  exact q_icmp_eq 1604 dL_law_1424 (by decide) (fun _ => K ρ hρ) (fun z => absurd rfl z)
set_option maxHeartbeats 1000000 in
set_option maxRecDepth 100000 in
theorem cs_37 {E : q_E} {i : Nat} {σ : q_M} {Q : q_P} (hi : i + 8 ≤ q_L E) (hL : q_L E ≤ 4096) (hR : r_R σ) (K : ∀ ρ, r_R ρ → q_G YL_law E 86 3995 1604 [some (.ref 1000000), some (.ref 0), some (.ref 72), some (.int (nI i))] [] q_SH ρ Q) : q_G YL_law E 86 3995 1429 [some (.ref 1000000), some (.ref 0), some (.ref 72), some (.int (nI i))] [] q_SH σ Q := by
  refine q_aload_n dL_law_1429 rfl ?_
  refine q_aload_n dL_law_1430 rfl ?_
  refine q_iload_n dL_law_1431 rfl ?_
  refine q_iconst (x := 1) dL_law_1432 (by decide) ?_
  refine q_iadd dL_law_1433 ?_
  refine q_sald (q_sin (k := 1) hi hL (by decide)) dL_law_1434 ?_
  refine q_aload_n dL_law_1435 rfl ?_
  refine q_iload_n dL_law_1436 rfl ?_
  refine q_iconst (x := 2) dL_law_1437 (by decide) ?_
  refine q_iadd dL_law_1438 ?_
  refine q_sald (q_sin (k := 2) hi hL (by decide)) dL_law_1439 ?_
  refine q_aload_n dL_law_1440 rfl ?_
  refine q_iload_n dL_law_1441 rfl ?_
  refine q_iconst (x := 3) dL_law_1442 (by decide) ?_
  refine q_iadd dL_law_1443 ?_
  refine q_sald (q_sin (k := 3) hi hL (by decide)) dL_law_1444 ?_
  refine q_rE1 lL_173 vX7_sheet (ci := 7) rfl dL_law_1445 rE_sheet hR rfl rfl rfl (Nat.le_of_ble_eq_true rfl) ⟨⟨by decide, by decide⟩, by decide, by decide⟩ ⟨rfl, rfl⟩ (fun x τ hF => ?_)
  refine q_aload_n dL_law_1448 rfl ?_
  refine q_aload_n dL_law_1449 rfl ?_
  refine q_iload_n dL_law_1450 rfl ?_
  refine q_iconst (x := 1) dL_law_1451 (by decide) ?_
  refine q_iadd dL_law_1452 ?_
  refine q_sald (q_sin (k := 1) hi hL (by decide)) dL_law_1453 ?_
  refine q_aload_n dL_law_1454 rfl ?_
  refine q_iload_n dL_law_1455 rfl ?_
  refine q_iconst (x := 2) dL_law_1456 (by decide) ?_
  refine q_iadd dL_law_1457 ?_
  refine q_sald (q_sin (k := 2) hi hL (by decide)) dL_law_1458 ?_
  refine q_aload_n dL_law_1459 rfl ?_
  refine q_iload_n dL_law_1460 rfl ?_
  refine q_iconst (x := 3) dL_law_1461 (by decide) ?_
  refine q_iadd dL_law_1462 ?_
  refine q_sald (q_sin (k := 3) hi hL (by decide)) dL_law_1463 ?_
  refine q_rE2 lL_176 vX8_sheet (ci := 8) rfl dL_law_1464 hF rfl rfl rfl (Nat.le_of_ble_eq_true rfl) ⟨⟨by decide, by decide⟩, by decide, by decide⟩ ⟨rfl, rfl⟩ (fun ρ hρ => ?_)
  exact q_icmp_eq 1604 dL_law_1467 (by decide) (fun _ => K ρ hρ) (fun z => absurd rfl z)
set_option maxHeartbeats 1000000 in
set_option maxRecDepth 100000 in
theorem cs_38 {E : q_E} {i : Nat} {σ : q_M} {Q : q_P} (hi : i + 8 ≤ q_L E) (hL : q_L E ≤ 4096) (hR : r_R σ) (K : ∀ ρ, r_R ρ → q_G YL_law E 86 3995 1604 [some (.ref 1000000), some (.ref 0), some (.ref 72), some (.int (nI i))] [] q_SH ρ Q) : q_G YL_law E 86 3995 1472 [some (.ref 1000000), some (.ref 0), some (.ref 72), some (.int (nI i))] [] q_SH σ Q := by
  refine q_aload_n dL_law_1472 rfl ?_
  refine q_aload_n dL_law_1473 rfl ?_
  refine q_iload_n dL_law_1474 rfl ?_
  refine q_iconst (x := 1) dL_law_1475 (by decide) ?_
  refine q_iadd dL_law_1476 ?_
  refine q_sald (q_sin (k := 1) hi hL (by decide)) dL_law_1477 ?_
  refine q_aload_n dL_law_1478 rfl ?_
  refine q_iload_n dL_law_1479 rfl ?_
  refine q_iconst (x := 2) dL_law_1480 (by decide) ?_
  refine q_iadd dL_law_1481 ?_
  refine q_sald (q_sin (k := 2) hi hL (by decide)) dL_law_1482 ?_
  refine q_aload_n dL_law_1483 rfl ?_
  refine q_iload_n dL_law_1484 rfl ?_
  refine q_iconst (x := 3) dL_law_1485 (by decide) ?_
  refine q_iadd dL_law_1486 ?_
  refine q_sald (q_sin (k := 3) hi hL (by decide)) dL_law_1487 ?_
  refine q_rE1 lL_177 vX7_lay (ci := 7) rfl dL_law_1488 rE_lay hR rfl rfl rfl (Nat.le_of_ble_eq_true rfl) ⟨⟨by decide, by decide⟩, by decide, by decide⟩ ⟨rfl, rfl⟩ (fun x τ hF => ?_)
  refine q_aload_n dL_law_1491 rfl ?_
  refine q_aload_n dL_law_1492 rfl ?_
  refine q_iload_n dL_law_1493 rfl ?_
  refine q_iconst (x := 1) dL_law_1494 (by decide) ?_
  refine q_iadd dL_law_1495 ?_
  refine q_sald (q_sin (k := 1) hi hL (by decide)) dL_law_1496 ?_
  refine q_aload_n dL_law_1497 rfl ?_
  refine q_iload_n dL_law_1498 rfl ?_
  refine q_iconst (x := 2) dL_law_1499 (by decide) ?_
  refine q_iadd dL_law_1500 ?_
  refine q_sald (q_sin (k := 2) hi hL (by decide)) dL_law_1501 ?_
  refine q_aload_n dL_law_1502 rfl ?_
  refine q_iload_n dL_law_1503 rfl ?_
  refine q_iconst (x := 3) dL_law_1504 (by decide) ?_
  refine q_iadd dL_law_1505 ?_
  refine q_sald (q_sin (k := 3) hi hL (by decide)) dL_law_1506 ?_
  refine q_rE2 lL_180 vX8_lay (ci := 8) rfl dL_law_1507 hF rfl rfl rfl (Nat.le_of_ble_eq_true rfl) ⟨⟨by decide, by decide⟩, by decide, by decide⟩ ⟨rfl, rfl⟩ (fun ρ hρ => ?_)
  exact q_icmp_eq 1604 dL_law_1510 (by decide) (fun _ => K ρ hρ) (fun z => absurd rfl z)
set_option maxHeartbeats 1000000 in
set_option maxRecDepth 100000 in
theorem cs_39 {E : q_E} {i : Nat} {σ : q_M} {Q : q_P} (hi : i + 8 ≤ q_L E) (hL : q_L E ≤ 4096) (hR : r_R σ) (K : ∀ ρ, r_R ρ → q_G YL_law E 86 3995 1604 [some (.ref 1000000), some (.ref 0), some (.ref 72), some (.int (nI i))] [] q_SH ρ Q) : q_G YL_law E 86 3995 1515 [some (.ref 1000000), some (.ref 0), some (.ref 72), some (.int (nI i))] [] q_SH σ Q := by
  refine q_aload_n dL_law_1515 rfl ?_
  refine q_aload_n dL_law_1516 rfl ?_
  refine q_iload_n dL_law_1517 rfl ?_
  refine q_iconst (x := 1) dL_law_1518 (by decide) ?_
  refine q_iadd dL_law_1519 ?_
  refine q_sald (q_sin (k := 1) hi hL (by decide)) dL_law_1520 ?_
  refine q_aload_n dL_law_1521 rfl ?_
  refine q_iload_n dL_law_1522 rfl ?_
  refine q_iconst (x := 2) dL_law_1523 (by decide) ?_
  refine q_iadd dL_law_1524 ?_
  refine q_sald (q_sin (k := 2) hi hL (by decide)) dL_law_1525 ?_
  refine q_aload_n dL_law_1526 rfl ?_
  refine q_iload_n dL_law_1527 rfl ?_
  refine q_iconst (x := 3) dL_law_1528 (by decide) ?_
  refine q_iadd dL_law_1529 ?_
  refine q_sald (q_sin (k := 3) hi hL (by decide)) dL_law_1530 ?_
  refine q_aload_n dL_law_1531 rfl ?_
  refine q_iload_n dL_law_1532 rfl ?_
  refine q_iconst (x := 4) dL_law_1533 (by decide) ?_
  refine q_iadd dL_law_1534 ?_
  refine q_sald (q_sin (k := 4) hi hL (by decide)) dL_law_1535 ?_
  refine q_rE1 lL_181 vX7_read (ci := 7) rfl dL_law_1536 rE_read hR rfl rfl rfl (Nat.le_of_ble_eq_true rfl) ⟨⟨by decide, by decide⟩, by decide, by decide⟩ ⟨rfl, rfl⟩ (fun x τ hF => ?_)
  refine q_aload_n dL_law_1539 rfl ?_
  refine q_aload_n dL_law_1540 rfl ?_
  refine q_iload_n dL_law_1541 rfl ?_
  refine q_iconst (x := 1) dL_law_1542 (by decide) ?_
  refine q_iadd dL_law_1543 ?_
  refine q_sald (q_sin (k := 1) hi hL (by decide)) dL_law_1544 ?_
  refine q_aload_n dL_law_1545 rfl ?_
  refine q_iload_n dL_law_1546 rfl ?_
  refine q_iconst (x := 2) dL_law_1547 (by decide) ?_
  refine q_iadd dL_law_1548 ?_
  refine q_sald (q_sin (k := 2) hi hL (by decide)) dL_law_1549 ?_
  refine q_aload_n dL_law_1550 rfl ?_
  refine q_iload_n dL_law_1551 rfl ?_
  refine q_iconst (x := 3) dL_law_1552 (by decide) ?_
  refine q_iadd dL_law_1553 ?_
  refine q_sald (q_sin (k := 3) hi hL (by decide)) dL_law_1554 ?_
  refine q_aload_n dL_law_1555 rfl ?_
  refine q_iload_n dL_law_1556 rfl ?_
  refine q_iconst (x := 4) dL_law_1557 (by decide) ?_
  refine q_iadd dL_law_1558 ?_
  refine q_sald (q_sin (k := 4) hi hL (by decide)) dL_law_1559 ?_
  refine q_rE2 lL_184 vX8_read (ci := 8) rfl dL_law_1560 hF rfl rfl rfl (Nat.le_of_ble_eq_true rfl) ⟨⟨by decide, by decide⟩, by decide, by decide⟩ ⟨rfl, rfl⟩ (fun ρ hρ => ?_)
  exact q_icmp_eq 1604 dL_law_1563 (by decide) (fun _ => K ρ hρ) (fun z => absurd rfl z)
set_option maxHeartbeats 1000000 in
set_option maxRecDepth 100000 in
theorem cs_40 {E : q_E} {i : Nat} {σ : q_M} {Q : q_P} (hi : i + 8 ≤ q_L E) (hL : q_L E ≤ 4096) (hR : r_R σ) (K : ∀ ρ, r_R ρ → q_G YL_law E 86 3995 1604 [some (.ref 1000000), some (.ref 0), some (.ref 72), some (.int (nI i))] [] q_SH ρ Q) : q_G YL_law E 86 3995 1568 [some (.ref 1000000), some (.ref 0), some (.ref 72), some (.int (nI i))] [] q_SH σ Q := by
  refine q_aload_n dL_law_1568 rfl ?_
  refine q_rE1 lL_185 vX7_torn (ci := 7) rfl dL_law_1569 rE_torn hR rfl rfl rfl (Nat.le_of_ble_eq_true rfl) ⟨⟨by decide, by decide⟩, by decide, by decide⟩ ⟨rfl, rfl⟩ (fun x τ hF => ?_)
  refine q_aload_n dL_law_1572 rfl ?_
  refine q_rE2 lL_188 vX8_torn (ci := 8) rfl dL_law_1573 hF rfl rfl rfl (Nat.le_of_ble_eq_true rfl) ⟨⟨by decide, by decide⟩, by decide, by decide⟩ ⟨rfl, rfl⟩ (fun ρ hρ => ?_)
  exact q_icmp_eq 1604 dL_law_1576 (by decide) (fun _ => K ρ hρ) (fun z => absurd rfl z)
set_option maxHeartbeats 1000000 in
set_option maxRecDepth 100000 in
theorem cs_41 {E : q_E} {i : Nat} {σ : q_M} {Q : q_P} (hi : i + 8 ≤ q_L E) (hL : q_L E ≤ 4096) (hR : r_R σ) (K : ∀ ρ, r_R ρ → q_G YL_law E 86 3995 1604 [some (.ref 1000000), some (.ref 0), some (.ref 72), some (.int (nI i))] [] q_SH ρ Q) : q_G YL_law E 86 3995 1581 [some (.ref 1000000), some (.ref 0), some (.ref 72), some (.int (nI i))] [] q_SH σ Q := by
  refine q_aload_n dL_law_1581 rfl ?_
  refine q_aload_n dL_law_1582 rfl ?_
  refine q_iload_n dL_law_1583 rfl ?_
  refine q_iconst (x := 1) dL_law_1584 (by decide) ?_
  refine q_iadd dL_law_1585 ?_
  refine q_sald (q_sin (k := 1) hi hL (by decide)) dL_law_1586 ?_
  refine q_rE1 lL_189 vX7_count (ci := 7) rfl dL_law_1587 rE_count hR rfl rfl rfl (Nat.le_of_ble_eq_true rfl) ⟨⟨by decide, by decide⟩, by decide, by decide⟩ ⟨rfl, rfl⟩ (fun x τ hF => ?_)
  refine q_aload_n dL_law_1590 rfl ?_
  refine q_aload_n dL_law_1591 rfl ?_
  refine q_iload_n dL_law_1592 rfl ?_
  refine q_iconst (x := 1) dL_law_1593 (by decide) ?_
  refine q_iadd dL_law_1594 ?_
  refine q_sald (q_sin (k := 1) hi hL (by decide)) dL_law_1595 ?_
  refine q_rE2 lL_192 vX8_count (ci := 8) rfl dL_law_1596 hF rfl rfl rfl (Nat.le_of_ble_eq_true rfl) ⟨⟨by decide, by decide⟩, by decide, by decide⟩ ⟨rfl, rfl⟩ (fun ρ hρ => ?_)
  exact q_icmp_eq 1604 dL_law_1599 (by decide) (fun _ => K ρ hρ) (fun z => absurd rfl z)
